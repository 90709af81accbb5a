section
-- ===== PART A: goes FIRST, ahead of the names: the tables' words, and 'selects' of the private methods out of them =====
/-- a private method of a class that the tables say can be made, by its rows of tables_1 -/
def lw_okq (q : MethodName × Nat) : Prop := (q.1.cls ≠ "java/lang/invoke/MethodHandle" ∧ q.1.cls ≠ "java/lang/invoke/VarHandle") ∧ Cond.instantiable q.1.cls q.2 ∈ tables_1 ∧ Cond.privateMethod q.1 ∈ tables_1 ∧ Cond.instanceMethod q.1 ∈ tables_1
theorem lw_p0 : lw_okq (⟨"DeclareStates", "isFailing", "(I)Z"⟩, 12) := ⟨⟨by decide +kernel, by decide +kernel⟩, List.mem_of_getElem? (i := 13) (by decide +kernel), List.mem_of_getElem? (i := 74) (by decide +kernel), List.mem_of_getElem? (i := 75) (by decide +kernel)⟩
theorem lw_p1 : lw_okq (⟨"DeclareStates", "countOfState", "(I)I"⟩, 12) := ⟨⟨by decide +kernel, by decide +kernel⟩, List.mem_of_getElem? (i := 13) (by decide +kernel), List.mem_of_getElem? (i := 82) (by decide +kernel), List.mem_of_getElem? (i := 83) (by decide +kernel)⟩
theorem lw_p2 : lw_okq (⟨"DeclareStates", "declarationAt", "(I)LDeclareStates$Declaration;"⟩, 12) := ⟨⟨by decide +kernel, by decide +kernel⟩, List.mem_of_getElem? (i := 13) (by decide +kernel), List.mem_of_getElem? (i := 86) (by decide +kernel), List.mem_of_getElem? (i := 87) (by decide +kernel)⟩
theorem lw_p3 : lw_okq (⟨"java/lang/Throwable", "fillInStackTrace", "(I)Ljava/lang/Throwable;"⟩, 6) := ⟨⟨by decide +kernel, by decide +kernel⟩, List.mem_of_getElem? (i := 137) (by decide +kernel), List.mem_of_getElem? (i := 135) (by decide +kernel), List.mem_of_getElem? (i := 136) (by decide +kernel)⟩
theorem lw_p4 : lw_okq (⟨"DeclareStates", "roleOf", "(I)I"⟩, 12) := ⟨⟨by decide +kernel, by decide +kernel⟩, List.mem_of_getElem? (i := 13) (by decide +kernel), List.mem_of_getElem? (i := 191) (by decide +kernel), List.mem_of_getElem? (i := 192) (by decide +kernel)⟩
theorem lw_p5 : lw_okq (⟨"DeclareStates", "isPerson", "(I)Z"⟩, 12) := ⟨⟨by decide +kernel, by decide +kernel⟩, List.mem_of_getElem? (i := 13) (by decide +kernel), List.mem_of_getElem? (i := 195) (by decide +kernel), List.mem_of_getElem? (i := 196) (by decide +kernel)⟩
theorem lw_p6 : lw_okq (⟨"DeclareStates", "putInWaitingOrder", "(LDeclareStates$Event;)V"⟩, 12) := ⟨⟨by decide +kernel, by decide +kernel⟩, List.mem_of_getElem? (i := 13) (by decide +kernel), List.mem_of_getElem? (i := 294) (by decide +kernel), List.mem_of_getElem? (i := 295) (by decide +kernel)⟩
theorem lw_p7 : lw_okq (⟨"DeclareStates", "settle", "(LDeclareStates$Event;)V"⟩, 12) := ⟨⟨by decide +kernel, by decide +kernel⟩, List.mem_of_getElem? (i := 13) (by decide +kernel), List.mem_of_getElem? (i := 310) (by decide +kernel), List.mem_of_getElem? (i := 311) (by decide +kernel)⟩
theorem lw_p8 : lw_okq (⟨"DeclareStates", "refusalOf", "(LDeclareStates$Event;)I"⟩, 12) := ⟨⟨by decide +kernel, by decide +kernel⟩, List.mem_of_getElem? (i := 13) (by decide +kernel), List.mem_of_getElem? (i := 314) (by decide +kernel), List.mem_of_getElem? (i := 315) (by decide +kernel)⟩
theorem lw_p9 : lw_okq (⟨"DeclareStates", "mayTell", "(LDeclareStates$Event;)Z"⟩, 12) := ⟨⟨by decide +kernel, by decide +kernel⟩, List.mem_of_getElem? (i := 13) (by decide +kernel), List.mem_of_getElem? (i := 318) (by decide +kernel), List.mem_of_getElem? (i := 319) (by decide +kernel)⟩
theorem lw_p10 : lw_okq (⟨"DeclareStates", "isOpenAt", "(I)Z"⟩, 12) := ⟨⟨by decide +kernel, by decide +kernel⟩, List.mem_of_getElem? (i := 13) (by decide +kernel), List.mem_of_getElem? (i := 325) (by decide +kernel), List.mem_of_getElem? (i := 326) (by decide +kernel)⟩
theorem lw_p11 : lw_okq (⟨"DeclareStates", "eventAt", "(I)LDeclareStates$Event;"⟩, 12) := ⟨⟨by decide +kernel, by decide +kernel⟩, List.mem_of_getElem? (i := 13) (by decide +kernel), List.mem_of_getElem? (i := 443) (by decide +kernel), List.mem_of_getElem? (i := 444) (by decide +kernel)⟩
theorem lw_p12 : lw_okq (⟨"DeclareStatesModel", "refuse", "(I)I"⟩, 25) := ⟨⟨by decide +kernel, by decide +kernel⟩, List.mem_of_getElem? (i := 452) (by decide +kernel), List.mem_of_getElem? (i := 546) (by decide +kernel), List.mem_of_getElem? (i := 547) (by decide +kernel)⟩
theorem lw_p13 : lw_okq (⟨"DeclareStatesModel", "isPerson", "(I)Z"⟩, 25) := ⟨⟨by decide +kernel, by decide +kernel⟩, List.mem_of_getElem? (i := 452) (by decide +kernel), List.mem_of_getElem? (i := 554) (by decide +kernel), List.mem_of_getElem? (i := 555) (by decide +kernel)⟩
theorem lw_p14 : lw_okq (⟨"DeclareStatesModel", "isOne", "(I)Z"⟩, 25) := ⟨⟨by decide +kernel, by decide +kernel⟩, List.mem_of_getElem? (i := 452) (by decide +kernel), List.mem_of_getElem? (i := 562) (by decide +kernel), List.mem_of_getElem? (i := 563) (by decide +kernel)⟩
theorem lw_p15 : lw_okq (⟨"DeclareStatesModel", "waiting", "()I"⟩, 25) := ⟨⟨by decide +kernel, by decide +kernel⟩, List.mem_of_getElem? (i := 452) (by decide +kernel), List.mem_of_getElem? (i := 567) (by decide +kernel), List.mem_of_getElem? (i := 568) (by decide +kernel)⟩
def lw_privs_1 : List (MethodName × Nat) := [(⟨"DeclareStates", "isFailing", "(I)Z"⟩, 12), (⟨"DeclareStates", "countOfState", "(I)I"⟩, 12), (⟨"DeclareStates", "declarationAt", "(I)LDeclareStates$Declaration;"⟩, 12), (⟨"java/lang/Throwable", "fillInStackTrace", "(I)Ljava/lang/Throwable;"⟩, 6), (⟨"DeclareStates", "roleOf", "(I)I"⟩, 12), (⟨"DeclareStates", "isPerson", "(I)Z"⟩, 12), (⟨"DeclareStates", "putInWaitingOrder", "(LDeclareStates$Event;)V"⟩, 12), (⟨"DeclareStates", "settle", "(LDeclareStates$Event;)V"⟩, 12), (⟨"DeclareStates", "refusalOf", "(LDeclareStates$Event;)I"⟩, 12), (⟨"DeclareStates", "mayTell", "(LDeclareStates$Event;)Z"⟩, 12), (⟨"DeclareStates", "isOpenAt", "(I)Z"⟩, 12), (⟨"DeclareStates", "eventAt", "(I)LDeclareStates$Event;"⟩, 12), (⟨"DeclareStatesModel", "refuse", "(I)I"⟩, 25), (⟨"DeclareStatesModel", "isPerson", "(I)Z"⟩, 25), (⟨"DeclareStatesModel", "isOne", "(I)Z"⟩, 25), (⟨"DeclareStatesModel", "waiting", "()I"⟩, 25)]
theorem lw_r1 : ∀ q ∈ lw_privs_1, lw_okq q := List.forall_mem_cons.mpr ⟨lw_p0, List.forall_mem_cons.mpr ⟨lw_p1, List.forall_mem_cons.mpr ⟨lw_p2, List.forall_mem_cons.mpr ⟨lw_p3, List.forall_mem_cons.mpr ⟨lw_p4, List.forall_mem_cons.mpr ⟨lw_p5, List.forall_mem_cons.mpr ⟨lw_p6, List.forall_mem_cons.mpr ⟨lw_p7, List.forall_mem_cons.mpr ⟨lw_p8, List.forall_mem_cons.mpr ⟨lw_p9, List.forall_mem_cons.mpr ⟨lw_p10, List.forall_mem_cons.mpr ⟨lw_p11, List.forall_mem_cons.mpr ⟨lw_p12, List.forall_mem_cons.mpr ⟨lw_p13, List.forall_mem_cons.mpr ⟨lw_p14, List.forall_mem_cons.mpr ⟨lw_p15, fun _ h => absurd h List.not_mem_nil⟩⟩⟩⟩⟩⟩⟩⟩⟩⟩⟩⟩⟩⟩⟩⟩
theorem lw_p16 : lw_okq (⟨"DeclareStatesModel", "first", "(I)I"⟩, 25) := ⟨⟨by decide +kernel, by decide +kernel⟩, List.mem_of_getElem? (i := 452) (by decide +kernel), List.mem_of_getElem? (i := 575) (by decide +kernel), List.mem_of_getElem? (i := 576) (by decide +kernel)⟩
theorem lw_p17 : lw_okq (⟨"DeclareStatesModel", "why", "(I)I"⟩, 25) := ⟨⟨by decide +kernel, by decide +kernel⟩, List.mem_of_getElem? (i := 452) (by decide +kernel), List.mem_of_getElem? (i := 579) (by decide +kernel), List.mem_of_getElem? (i := 580) (by decide +kernel)⟩
theorem lw_p18 : lw_okq (⟨"DeclareStatesModel", "may", "(I)Z"⟩, 25) := ⟨⟨by decide +kernel, by decide +kernel⟩, List.mem_of_getElem? (i := 452) (by decide +kernel), List.mem_of_getElem? (i := 583) (by decide +kernel), List.mem_of_getElem? (i := 584) (by decide +kernel)⟩
theorem lw_p19 : lw_okq (⟨"DeclareStatesModel", "fits", "(II)Z"⟩, 25) := ⟨⟨by decide +kernel, by decide +kernel⟩, List.mem_of_getElem? (i := 452) (by decide +kernel), List.mem_of_getElem? (i := 590) (by decide +kernel), List.mem_of_getElem? (i := 591) (by decide +kernel)⟩
theorem lw_p20 : lw_okq (⟨"DeclareStatesModel", "isMarked", "(II)Z"⟩, 25) := ⟨⟨by decide +kernel, by decide +kernel⟩, List.mem_of_getElem? (i := 452) (by decide +kernel), List.mem_of_getElem? (i := 594) (by decide +kernel), List.mem_of_getElem? (i := 595) (by decide +kernel)⟩
theorem lw_p21 : lw_okq (⟨"DeclareStatesModel", "has", "(II)Z"⟩, 25) := ⟨⟨by decide +kernel, by decide +kernel⟩, List.mem_of_getElem? (i := 452) (by decide +kernel), List.mem_of_getElem? (i := 598) (by decide +kernel), List.mem_of_getElem? (i := 599) (by decide +kernel)⟩
theorem lw_p22 : lw_okq (⟨"DeclareStatesModel", "happens", "(III)V"⟩, 25) := ⟨⟨by decide +kernel, by decide +kernel⟩, List.mem_of_getElem? (i := 452) (by decide +kernel), List.mem_of_getElem? (i := 602) (by decide +kernel), List.mem_of_getElem? (i := 603) (by decide +kernel)⟩
theorem lw_p23 : lw_okq (⟨"DeclareStatesModel", "becomes", "(III)V"⟩, 25) := ⟨⟨by decide +kernel, by decide +kernel⟩, List.mem_of_getElem? (i := 452) (by decide +kernel), List.mem_of_getElem? (i := 606) (by decide +kernel), List.mem_of_getElem? (i := 607) (by decide +kernel)⟩
theorem lw_p24 : lw_okq (⟨"DeclareStatesModel", "release", "(II)V"⟩, 25) := ⟨⟨by decide +kernel, by decide +kernel⟩, List.mem_of_getElem? (i := 452) (by decide +kernel), List.mem_of_getElem? (i := 610) (by decide +kernel), List.mem_of_getElem? (i := 611) (by decide +kernel)⟩
theorem lw_p25 : lw_okq (⟨"DeclareStatesModel", "writtenOf", "(I)I"⟩, 25) := ⟨⟨by decide +kernel, by decide +kernel⟩, List.mem_of_getElem? (i := 452) (by decide +kernel), List.mem_of_getElem? (i := 637) (by decide +kernel), List.mem_of_getElem? (i := 638) (by decide +kernel)⟩
def lw_privs_2 : List (MethodName × Nat) := [(⟨"DeclareStatesModel", "first", "(I)I"⟩, 25), (⟨"DeclareStatesModel", "why", "(I)I"⟩, 25), (⟨"DeclareStatesModel", "may", "(I)Z"⟩, 25), (⟨"DeclareStatesModel", "fits", "(II)Z"⟩, 25), (⟨"DeclareStatesModel", "isMarked", "(II)Z"⟩, 25), (⟨"DeclareStatesModel", "has", "(II)Z"⟩, 25), (⟨"DeclareStatesModel", "happens", "(III)V"⟩, 25), (⟨"DeclareStatesModel", "becomes", "(III)V"⟩, 25), (⟨"DeclareStatesModel", "release", "(II)V"⟩, 25), (⟨"DeclareStatesModel", "writtenOf", "(I)I"⟩, 25)]
theorem lw_r2 : ∀ q ∈ lw_privs_2, lw_okq q := List.forall_mem_cons.mpr ⟨lw_p16, List.forall_mem_cons.mpr ⟨lw_p17, List.forall_mem_cons.mpr ⟨lw_p18, List.forall_mem_cons.mpr ⟨lw_p19, List.forall_mem_cons.mpr ⟨lw_p20, List.forall_mem_cons.mpr ⟨lw_p21, List.forall_mem_cons.mpr ⟨lw_p22, List.forall_mem_cons.mpr ⟨lw_p23, List.forall_mem_cons.mpr ⟨lw_p24, List.forall_mem_cons.mpr ⟨lw_p25, fun _ h => absurd h List.not_mem_nil⟩⟩⟩⟩⟩⟩⟩⟩⟩⟩
def lw_privs : List (MethodName × Nat) := lw_privs_1 ++ (lw_privs_2)
def lw_tbl : List Cond := k2_sels lw_privs ++ tables_1
theorem lw_privs_ok : ∀ q ∈ lw_privs, lw_okq q := by
  show ∀ q ∈ lw_privs_1 ++ (lw_privs_2), lw_okq q
  exact List.forall_mem_append.mpr ⟨lw_r1, lw_r2⟩
end
section
/-! ===== BEGIN words of one list among another's, by their places ===== -/
theorem goodIn_r {big : List Cond} (ws : List Cond) (ps : List Nat) (hp : ws = ps.filterMap (fun i => big[i]?)) (h : ws.all goodWord = true) : GoodIn big ws := by
  intro w hw
  have h1 := List.all_eq_true.mp h w hw
  rw [hp] at hw
  obtain ⟨i, -, hi⟩ := List.mem_filterMap.mp hw
  have hm : w ∈ big := by first | exact List.mem_of_getElem? hi | exact List.getElem?_mem hi
  exact ⟨hm, good_of_word h1⟩
theorem goodIn_app {big a b : List Cond} (ha : GoodIn big a) (hb : GoodIn big b) : GoodIn big (a ++ b) := fun w h => (List.mem_append.mp h).elim (ha w) (hb w)
theorem goodIn_ca {big a b : List Cond} {c : Cond} (ha : GoodIn big (c :: a)) (hb : GoodIn big b) : GoodIn big (c :: (a ++ b)) := fun w h => (List.mem_cons.mp h).elim (fun e => ha w (List.mem_cons.mpr (Or.inl e))) (fun h => (List.mem_append.mp h).elim (fun h => ha w (List.mem_cons.mpr (Or.inr h))) (hb w))
theorem goodIn_sub {big ws : List Cond} (hm : ∀ w ∈ ws, w ∈ big) (h : ws.all goodWord = true) : GoodIn big ws := fun w hw => ⟨hm w hw, good_of_word (List.all_eq_true.mp h w hw)⟩
/-! ===== END ===== -/

/-! ===== BEGIN exceptions that leave a method, and their catching by the caller (launches without stack traces) ===== -/
section VXA
/-! The laws vx_back, vx_callV, vx_callS, vx_callSW, vx_throw0, vx_throwS follow proofs of the library, with one case more: JvmDerived/Free/Laws.lean (Back.of_free), Shelf42/LK1.lean (callV, callS), Shelf/KitTraced.lean (throwNew0V, throwNewS). -/
/-- where a method has thrown q: the class by its name, the cell, what was written, the world -/
def vx_T (XC : String → State → State → Prop) (st : State) (q : Addr) (t : State) (mc ms : Nat) (free : Addr → Prop) : Prop :=
  ∃ (E : String) (ce : Cell) (L : List Loc), XC E st t ∧ t.heap[q]? = some ce ∧ ce.vm = .none ∧ st.vm.findClass E = some ce.cls ∧ st.WarmedH t.vm ∧ st.sameButNew ({ t with vm := st.vm } : State) L mc ms ∧ ∀ z ∈ L, free z.base
def vx_Q (Qc : Array Value → State → Outcome → State → Prop) (XC : String → State → State → Prop) (mc ms : Nat) (free : Addr → Prop) : Array Value → State → Outcome → State → Prop := fun a st o t =>
  (Qc a st o t ∧ ∃ L, FrameEnd st o t L mc ms ∧ ∀ q ∈ L, free q.base) ∨ ∃ q, o = .threw q ∧ vx_T XC st q t mc ms free
/-- a callee that returns or throws -/
def vx_Met (l : Launch) (y : MethodName) (ws : List Cond) (rm : Room) (Pc : Array Value → State → Prop) (Qc : Array Value → State → Outcome → State → Prop) (XC : String → State → State → Prop) (mc ms : Nat) (free : Addr → Prop) : Prop :=
  MetFree l y (headSpec ws rm) Pc (fun _ _ _ _ _ => True) (vx_Q Qc XC mc ms free)
def vx_Post (XC : String → State → State → Prop) (mc ms : Nat) (free : Addr → Prop) : Pt → Array Value → Addr → Pt → Prop := fun A a q B =>
  ∃ (g : JFrame) (mk : MethodId) (t : State) (L : List Loc) (E : String) (ce : Cell), B.U.heap = t.heap ∧ B.U.vm = t.vm ∧ XC E (A.U.calling g mk a) t ∧ t.heap[q]? = some ce ∧ ce.vm = .none ∧ A.U.vm.findClass E = some ce.cls ∧ B.locs = A.locs ++ L ∧ (∀ z ∈ L, free z.base) ∧ B.cells = A.cells + mc ∧ B.slots = A.slots + ms
def vx_Back (l : Launch) (R : Room) (p : Program) (e : Env) (below : List Frame) (s : State) (sargs : Array Value) (y : MethodName) (len W9 : Nat)
    (Pre : Pt → Array Value → Prop) (Post : Pt → Array Value → Option Value → Pt → Prop) (PostX : Pt → Array Value → Addr → Pt → Prop) : Prop :=
  ∀ (m : MethodId) (meth : Method) (c : Code) (A : Pt) (g : JFrame) (ig : Instr) (mk : MethodId) (a : Array Value),
    Stand p l e R s m sargs below meth c A.U A.locs A.cells A.slots → g.method = m → g.locals.size = c.maxLocals → decode c.code g.pc = .ok (ig, len) →
    2 * g.monitorRoom + (g.stack.map fun v => v.category).sum ≤ W9 → A.U.methodNamed? y = some mk → Pre A a →
    (∃ (v : Option Value) (B : Pt), Stand p l e R s m sargs below meth c B.U B.locs B.cells B.slots ∧ Post A a v B ∧
      Steps p.tables e below (doInvoke e (A.U.setTop g) [] mk a).1 (B.U.setTop { g with pc := g.pc + len, stack := v.toList ++ g.stack })) ∨
    (∃ (q : Addr) (B : Pt), Stand p l e R s m sargs below meth c B.U B.locs B.cells B.slots ∧ PostX A a q B ∧
      Steps p.tables e below (doInvoke e (A.U.setTop g) [] mk a).1 ((B.U.setTop g).pushFrame (.throwing q)))
section Payer
variable {l : Launch} {R : Room} {p : Program} {e : Env} {below : List Frame} {s : State} {sargs : Array Value} {y : MethodName} {len W9 : Nat}
theorem vx_back {ws : List Cond} {rm : Room} {Pc : Array Value → State → Prop} {Qc : Array Value → State → Outcome → State → Prop} {XC : String → State → State → Prop} {mc ms : Nat} {free : Addr → Prop} {bytes : ByteArray} {maxL : Nat} {ret : Option FieldType}
    (hM : vx_Met l y ws rm Pc Qc XC mc ms free) (hblind : FrameBlind Pc) (hrc : rm.cells = mc) (hrs : rm.slots = ms)
    (hframes : rm.frames + 1 ≤ R.frames) (hlocals : W9 + (maxL + 11) + rm.locals ≤ R.locals)
    (hws : ∀ w ∈ ws, ∀ a' U, s.WarmedH U.vm → w.before a' U = true) (hcode : Cond.code y bytes maxL ret ∈ ws) (hinit : ∀ a' U, s.WarmedH U.vm → (Cond.initialized y.cls).before a' U = true) :
    vx_Back l R p e below s sargs y len W9 (PreOf R mc ms Pc) (PostOf Qc mc ms free) (vx_Post XC mc ms free) := by
  intro m meth c A g ig mk a X hg hsize hdg hW hn hp
  have h1 : (headSpec ws rm).pre.before a A.U = true := atoms_intro fun w hw => hws w hw _ _ X.warmed
  have h2 : (Cond.code y bytes maxL ret).before a A.U = true := hws _ hcode _ _ X.warmed
  have h3 : (Cond.initialized y.cls).before a A.U = true := hinit _ _ X.warmed
  have h4 : A.cells + (headSpec ws rm).room.cells ≤ R.cells := by rw [show (headSpec ws rm).room.cells = mc from hrc]; exact hp.1
  have h5 : A.slots + (headSpec ws rm).room.slots ≤ R.slots := by rw [show (headSpec ws rm).room.slots = ms from hrs]; exact hp.2.1
  have hPc : Pc a (A.U.calling g mk a) := hblind _ _ _ _ hp.2.2
  obtain ⟨U, Ls, c0, s0⟩ := A
  dsimp only [Pt.U, Pt.locs, Pt.cells, Pt.slots] at h1 h2 h3 h4 h5 X hn hPc ⊢
  obtain ⟨methY, cY, hmY, hcY, -, hlY, -, -, -, -⟩ := Cond.code_spec hn h2
  obtain ⟨kY, hkY, -⟩ := className_of_methodNamed hn
  have hinitY : kY.init = .initialized := Cond.initialized_spec (findClass_of_methodNamed hn) hkY h3
  have h : At U g.method c below := by rw [hg]; exact X.here
  have hlocals9 : W9 + (maxL + 11) + (headSpec ws rm).room.locals ≤ R.locals := hlocals
  have happ : (headSpec ws rm).appliesLoose y e.platform (U.calling g mk a) = true :=
    Spec.appliesLoose_calling (g := g) h hdg hn hkY hinitY
      (X.room_calling (g := g) (R' := (headSpec ws rm).room) hsize hmY hcY hframes (by rw [hlY]; omega) h4 h5) h1
  obtain ⟨mid, hmid⟩ := h.above
  have hfr : (U.setTop g).frames = (.java g :: mid) ++ below := by rw [State.frames_setTop' g h.top, hmid]; rfl
  obtain ⟨o, s₂, hsteps, -, hend, hq⟩ := Steps.callFree hM p X.admits X.cas X.clock (acts := []) hfr happ hPc trivial
  have hq' : vx_Q Qc XC mc ms free a (U.calling g mk a) o s₂ := hq
  rw [State.frames_setTop' g h.top] at hend
  obtain ⟨g₀, hg0⟩ := Option.isSome_iff_exists.mp h.top
  obtain ⟨r, hr⟩ := State.topJava?_eq_some.mp hg0
  have hr' : (({ U with heap := s₂.heap, slotsUsed := s₂.slotsUsed } : State).setVm s₂.vm).frames = .java g₀ :: r := hr
  rcases hq' with ⟨hqc, L, hfe, hL⟩ | ⟨q, rfl, E, ce, L, hx, hce, hcv, hcl, hW₂, hsm, hL⟩
  · obtain ⟨⟨v, rfl⟩, hW₂, e2, q2, q3, q4, q5, q6⟩ := id hfe
    have e3 : s₂ = ({ (U.calling g mk a).setFrames s₂.frames with heap := s₂.heap, slotsUsed := s₂.slotsUsed } : State).setVm s₂.vm := by
      have : s₂ = ({ s₂ with vm := (U.calling g mk a).vm } : State).setVm s₂.vm := rfl
      rw [e2] at this
      exact this
    obtain ⟨c₂, i₂, len₂, hc₂, hd₂, hf₂⟩ := hend
    have hW' : U.WarmedH s₂.vm := hW₂
    have hcc : c₂ = c := by
      have h1 : s₂.code? g.method = U.code? g.method := by
        rw [State.code?_eq, State.code?_eq, hW'.alike.method?]
      exact Option.some.inj (hc₂.symm.trans (h1.trans h.code))
    subst hcc
    have hlen : len₂ = len := by rw [hdg] at hd₂; cases hd₂; rfl
    subst hlen
    have hs₂ : s₂ = (({ U with heap := s₂.heap, slotsUsed := s₂.slotsUsed } : State).setVm s₂.vm).setTop { g with pc := g.pc + len₂, stack := v.toList ++ g.stack } := by
      refine e3.trans ?_
      rw [hf₂, State.calling_eq h.top, State.setFrames_setFrames, State.setTop_of_frames _ hr', hr]
      rfl
    have hsame : U.sameButNew ({ U with heap := s₂.heap, slotsUsed := s₂.slotsUsed } : State) L mc ms := by
      refine ⟨?_, q2, q3, q4, q5, q6⟩
      obtain ⟨t, ht, -⟩ := State.frames_cons hr
      show ({ U with heap := s₂.heap, slotsUsed := s₂.slotsUsed } : State) = { U.setFrames U.frames with heap := s₂.heap, slotsUsed := s₂.slotsUsed }
      rw [State.setFrames_self ht]
    subst hg
    refine Or.inl ⟨v, ⟨(({ U with heap := s₂.heap, slotsUsed := s₂.slotsUsed } : State).setVm s₂.vm), Ls ++ L, c0 + mc, s0 + ms⟩,
      ⟨X.admits, X.cas, X.clock, X.frames, X.room, X.hears, X.method, X.code, (X.here.setHeapUsed s₂.heap s₂.slotsUsed).setVm hW'.alike, X.tail, State.WarmedH.trans X.warmed hW', X.limits, X.bytes, X.same.trans (hsame.setVm s.vm)⟩,
      ⟨g, mk, s₂, L, rfl, rfl, hqc, rfl, hL, rfl, rfl⟩, ?_⟩
    show Steps p.tables e below _ ((({ U with heap := s₂.heap, slotsUsed := s₂.slotsUsed } : State).setVm s₂.vm).setTop { g with pc := g.pc + len₂, stack := v.toList ++ g.stack })
    rw [← hs₂]
    exact hsteps
  · obtain ⟨e2, q2, q3, q4, q5, q6⟩ := id hsm
    have e3 : s₂ = ({ (U.calling g mk a).setFrames s₂.frames with heap := s₂.heap, slotsUsed := s₂.slotsUsed } : State).setVm s₂.vm := by
      have : s₂ = ({ s₂ with vm := (U.calling g mk a).vm } : State).setVm s₂.vm := rfl
      rw [e2] at this
      exact this
    have hf₂ : s₂.frames = .throwing q :: .java g :: U.frames.tail := hend
    have hW' : U.WarmedH s₂.vm := hW₂
    have hs₂ : s₂ = ((({ U with heap := s₂.heap, slotsUsed := s₂.slotsUsed } : State).setVm s₂.vm).setTop g).pushFrame (.throwing q) := by
      refine e3.trans ?_
      rw [hf₂, State.calling_eq h.top, State.setFrames_setFrames, State.pushFrame, State.frames_setTop _ hr', State.setTop_of_frames _ hr', State.setFrames_setFrames, hr]
      rfl
    have hsame : U.sameButNew ({ U with heap := s₂.heap, slotsUsed := s₂.slotsUsed } : State) L mc ms := by
      refine ⟨?_, q2, q3, q4, q5, q6⟩
      obtain ⟨t, ht, -⟩ := State.frames_cons hr
      show ({ U with heap := s₂.heap, slotsUsed := s₂.slotsUsed } : State) = { U.setFrames U.frames with heap := s₂.heap, slotsUsed := s₂.slotsUsed }
      rw [State.setFrames_self ht]
    subst hg
    refine Or.inr ⟨q, ⟨(({ U with heap := s₂.heap, slotsUsed := s₂.slotsUsed } : State).setVm s₂.vm), Ls ++ L, c0 + mc, s0 + ms⟩,
      ⟨X.admits, X.cas, X.clock, X.frames, X.room, X.hears, X.method, X.code, (X.here.setHeapUsed s₂.heap s₂.slotsUsed).setVm hW'.alike, X.tail, State.WarmedH.trans X.warmed hW', X.limits, X.bytes, X.same.trans (hsame.setVm s.vm)⟩,
      ⟨g, mk, s₂, L, E, ce, rfl, rfl, hx, hce, hcv, hcl, rfl, hL, rfl, rfl⟩, ?_⟩
    show Steps p.tables e below _ (((({ U with heap := s₂.heap, slotsUsed := s₂.slotsUsed } : State).setVm s₂.vm).setTop g).pushFrame (.throwing q))
    rw [← hs₂]
    exact hsteps
end Payer
section Calls
variable {p : Program} {l : Launch} {e : Env} {R : Room} {s : State} {m : MethodId} {args : Array Value} {below : List Frame} {meth : Method} {c : Code} {T : State} {locs : List Loc} {cells slots : Nat}
theorem vx_callV (X : Stand p l e R s m args below meth c T locs cells slots) (hexec : p.tables.exec = Jvm.exec) {own C : String} {index : Nat} {y : MethodName} {bytes : ByteArray} {maxL : Nat} {ret : Option FieldType}
    (hown : s.vm.findClass own = some m.cls) (hlink : (Cond.methodLink own index y).before args s = true) (hinst : (Cond.instanceMethod y).before args s = true) (hsel : (Cond.selects C y y).before args s = true)
    (hcode : (Cond.code y bytes maxL ret).before args s = true) (hy : y.cls ≠ "java/lang/invoke/MethodHandle" ∧ y.cls ≠ "java/lang/invoke/VarHandle")
    {W9 : Nat} {Pre : Pt → Array Value → Prop} {Post : Pt → Array Value → Option Value → Pt → Prop} {PostX : Pt → Array Value → Addr → Pt → Prop} (hK : vx_Back l R p e below s args y 3 W9 Pre Post PostX)
    {b : Addr} {cellB : Cell} (hcell : T.heap[b]? = some cellB) (hobj : cellB.vm.isStatics = false) (hcls : s.vm.findClass C = some cellB.cls)
    {g : JFrame} (hg : g.method = m) (hsize : g.locals.size = c.maxLocals) {argsL rest : List Value} (hlen : ∀ sig, parseMethodDescriptor y.desc = some sig → argsL.length = sig.parameters.length)
    (hstack : g.stack = argsL.reverse ++ .ref b :: rest) (hW : 2 * g.monitorRoom + (rest.map fun v => v.category).sum ≤ W9) (hdg : decode c.code g.pc = .ok (.invokevirtual index, 3))
    (hpre : ∀ vm₁, s.WarmedH vm₁ → Pre ⟨T.setVm vm₁, locs, cells, slots⟩ (Value.ref b :: argsL).toArray) :
    (∃ (v : Option Value) (vm₁ : Vm) (B : Pt), s.WarmedH vm₁ ∧ Stand p l e R s m args below meth c B.U B.locs B.cells B.slots ∧ Post ⟨T.setVm vm₁, locs, cells, slots⟩ (Value.ref b :: argsL).toArray v B ∧
      ∀ target, Steps p.tables e below (B.U.setTop { g with pc := g.pc + 3, stack := v.toList ++ rest }) target → Steps p.tables e below (T.setTop g) target) ∨
    (∃ (q : Addr) (vm₁ : Vm) (B : Pt), s.WarmedH vm₁ ∧ Stand p l e R s m args below meth c B.U B.locs B.cells B.slots ∧ PostX ⟨T.setVm vm₁, locs, cells, slots⟩ (Value.ref b :: argsL).toArray q B ∧
      Steps p.tables e below (T.setTop g) ((B.U.setTop { g with stack := rest }).pushFrame (.throwing q))) := by
  obtain ⟨mk, methM, hnamed, hmethM, hstM, habM⟩ := Cond.instanceMethod_spec hinst
  obtain ⟨methM', cM, hmethM', -, -, -, -, -, -, hsigM⟩ := Cond.code_spec hnamed hcode
  cases hmethM.symm.trans hmethM'
  obtain ⟨c2, r2, m2, q1, q2, q3, q4, kP, hkP, hkPi⟩ := Cond.selects_spec hsel
  cases hcls.symm.trans q1
  cases (State.methodFound?_of_named hnamed hy).symm.trans q2
  cases hnamed.symm.trans q3
  have hselP : selectMethod e.platform s.vm cellB.cls mk = .method mk := by rw [Launch.admits_selectMethod X.admits]; exact q4
  obtain ⟨vm₁, X₁, hstep₁⟩ := X.invokevirtual hexec hown hlink hnamed hmethM hstM hkP hkPi hy (a := b) (cell := cellB) hcell
    (fun z h => by rw [h] at hobj; cases hobj) hselP hmethM habM hkP hkPi (g := g) hg (argsL := argsL) (rest := rest) (hlen _ hsigM) hstack hdg
  rcases hK m meth c ⟨T.setVm vm₁, locs, cells, slots⟩ { g with stack := rest } (.invokevirtual index) mk (Value.ref b :: argsL).toArray X₁ hg hsize hdg hW (X₁.named hnamed) (hpre vm₁ X₁.warmed) with ⟨v, B, X', hpost, hsteps⟩ | ⟨q, B, X', hpost, hsteps⟩
  · exact Or.inl ⟨v, vm₁, B, X₁.warmed, X', hpost, fun target h => hstep₁ _ fun acts => by rw [doInvoke_state]; exact hsteps.trans h⟩
  · exact Or.inr ⟨q, vm₁, B, X₁.warmed, X', hpost, hstep₁ _ fun acts => by rw [doInvoke_state]; exact hsteps⟩
theorem vx_callS (X : Stand p l e R s m args below meth c T locs cells slots) (hexec : p.tables.exec = Jvm.exec) {own : String} {index : Nat} {y : MethodName} {bytes : ByteArray} {maxL : Nat} {ret : Option FieldType}
    (hown : s.vm.findClass own = some m.cls) (hlink : (Cond.methodLink own index y).before args s = true) (hstat : (Cond.static y).before args s = true) (hinit : (Cond.initialized y.cls).before args s = true)
    (hcode : (Cond.code y bytes maxL ret).before args s = true) (hy : y.cls ≠ "java/lang/invoke/MethodHandle" ∧ y.cls ≠ "java/lang/invoke/VarHandle")
    {W9 : Nat} {Pre : Pt → Array Value → Prop} {Post : Pt → Array Value → Option Value → Pt → Prop} {PostX : Pt → Array Value → Addr → Pt → Prop} (hK : vx_Back l R p e below s args y 3 W9 Pre Post PostX)
    {g : JFrame} (hg : g.method = m) (hsize : g.locals.size = c.maxLocals) {argsL rest : List Value} (hlen : ∀ sig, parseMethodDescriptor y.desc = some sig → argsL.length = sig.parameters.length)
    (hstack : g.stack = argsL.reverse ++ rest) (hW : 2 * g.monitorRoom + (rest.map fun v => v.category).sum ≤ W9) (hdg : decode c.code g.pc = .ok (.invokestatic index, 3))
    (hpre : ∀ vm₁, s.WarmedH vm₁ → Pre ⟨T.setVm vm₁, locs, cells, slots⟩ argsL.toArray) :
    (∃ (v : Option Value) (vm₁ : Vm) (B : Pt), s.WarmedH vm₁ ∧ Stand p l e R s m args below meth c B.U B.locs B.cells B.slots ∧ Post ⟨T.setVm vm₁, locs, cells, slots⟩ argsL.toArray v B ∧
      ∀ target, Steps p.tables e below (B.U.setTop { g with pc := g.pc + 3, stack := v.toList ++ rest }) target → Steps p.tables e below (T.setTop g) target) ∨
    (∃ (q : Addr) (vm₁ : Vm) (B : Pt), s.WarmedH vm₁ ∧ Stand p l e R s m args below meth c B.U B.locs B.cells B.slots ∧ PostX ⟨T.setVm vm₁, locs, cells, slots⟩ argsL.toArray q B ∧
      Steps p.tables e below (T.setTop g) ((B.U.setTop { g with stack := rest }).pushFrame (.throwing q))) := by
  obtain ⟨mk, hnamed⟩ := Cond.code_named hcode
  obtain ⟨methM, cM, hmethM, -, -, -, -, -, -, hsigM⟩ := Cond.code_spec hnamed hcode
  have hstatic : methM.isStatic = true := Cond.static_spec hnamed hmethM hstat
  obtain ⟨kP, hkP, -⟩ := className_of_methodNamed hnamed
  have hinitP : kP.init = .initialized := Cond.initialized_spec (findClass_of_methodNamed hnamed) hkP hinit
  obtain ⟨vm₁, X₁, hstep₁⟩ := X.invokestatic hexec hown hlink hnamed hmethM hstatic hkP hinitP hy (g := g) hg (argsL := argsL) (rest := rest) (hlen _ hsigM) hstack hdg
  rcases hK m meth c ⟨T.setVm vm₁, locs, cells, slots⟩ { g with stack := rest } (.invokestatic index) mk argsL.toArray X₁ hg hsize hdg hW (X₁.named hnamed) (hpre vm₁ X₁.warmed) with ⟨v, B, X', hpost, hsteps⟩ | ⟨q, B, X', hpost, hsteps⟩
  · exact Or.inl ⟨v, vm₁, B, X₁.warmed, X', hpost, fun target h => hstep₁ _ fun acts => by rw [doInvoke_state]; exact hsteps.trans h⟩
  · exact Or.inr ⟨q, vm₁, B, X₁.warmed, X', hpost, hstep₁ _ fun acts => by rw [doInvoke_state]; exact hsteps⟩
end Calls
theorem vx_cls {s : State} {T : State} {vm₁ : Vm} {E : String} {k : ClassId} (hW : s.WarmedH vm₁) (h : (T.setVm vm₁).vm.findClass E = some k) : s.vm.findClass E = some k := by
  have h1 : vm₁.findClass E = some k := h
  rw [hW.alike.findClass] at h1
  exact h1
/-- the method's frame g, with q thrown over it -/
def vx_W (p : Program) (l : Launch) (e : Env) (R : Room) (s : State) (m : MethodId) (args : Array Value) (below : List Frame) (meth : Method) (c : Code) (H : Heap) (locs : List Loc) (cells slots : Nat) (Q : State → Prop) (g : JFrame) (q : Addr) : Prop :=
  ∀ T : State, T.heap = H → Stand p l e R s m args below meth c T locs cells slots → ∃ t, Steps p.tables e below ((T.setTop g).pushFrame (.throwing q)) t ∧ Q t
def vx_Run (p : Program) (l : Launch) (e : Env) (R : Room) (s : State) (m : MethodId) (args : Array Value) (below : List Frame) (meth : Method) (c : Code) (H : Heap) (locs : List Loc) (cells slots mc ms : Nat) (g : JFrame) (rest : List Value) (Qa : State → Outcome → State → Prop) (XC : String → State → State → Prop) (free : Addr → Prop) : Prop :=
  ∀ T : State, T.heap = H → Stand p l e R s m args below meth c T locs cells slots →
    (∃ (v : Option Value) (st₀ t T' : State) (L : List Loc), st₀.heap = H ∧ Stand p l e R s m args below meth c T' (locs ++ L) (cells + mc) (slots + ms) ∧ (∀ q ∈ L, free q.base) ∧ T'.heap = t.heap ∧ T'.vm = t.vm ∧ Qa st₀ (.returned v) t ∧
      Goes p e below T g T' { g with pc := g.pc + 3, stack := v.toList ++ rest }) ∨
    (∃ (q : Addr) (st₀ t T' : State) (L : List Loc) (E : String) (ce : Cell), st₀.heap = H ∧ Stand p l e R s m args below meth c T' (locs ++ L) (cells + mc) (slots + ms) ∧ (∀ z ∈ L, free z.base) ∧ T'.heap = t.heap ∧ T'.vm = t.vm ∧ XC E st₀ t ∧ t.heap[q]? = some ce ∧ ce.vm = .none ∧ s.vm.findClass E = some ce.cls ∧
      Steps p.tables e below (T.setTop g) ((T'.setTop { g with stack := rest }).pushFrame (.throwing q)))
def vx_X {S : Type} (px : S → Prop) (B : String → S → State → Prop) (A : Nat → Prop) : String → State → State → Prop := fun E st t => ∃ u : S, px u ∧ B E u t ∧ va_F A st t
section Runs
variable {p : Program} {l : Launch} {e : Env} {R : Room} {s : State} {m : MethodId} {args : Array Value} {below : List Frame} {meth : Method} {c : Code} {H : Heap} {locs : List Loc} {cells slots : Nat}
variable {y : MethodName} {bytes cc : ByteArray} {maxL nL mc ms n index : Nat} {ret : Option FieldType} {ws : List Cond} {rm : Room} {Pc : Array Value → State → Prop} {Qc : Array Value → State → Outcome → State → Prop} {XC : String → State → State → Prop} {free : Addr → Prop} {Ts : List Cond} {own C : String} {b : Addr} {As rest : List Value} {g : JFrame}
theorem vx_callBack (cb : CallB R s args own index y bytes maxL ret ws rm mc ms n) (hM : vx_Met l y ws rm Pc Qc XC mc ms free) (hbl : FrameBlind Pc) : vx_Back l R p e below s args y 3 8 (PreOf R mc ms Pc) (PostOf Qc mc ms free) (vx_Post XC mc ms free) := by
  obtain ⟨hrc, hrs, hfr, hlo, hws, hcw, -, hini, -⟩ := cb
  exact vx_back (bytes := bytes) (maxL := maxL) (ret := ret) hM hbl hrc hrs hfr hlo hws hcw (fun a' U hW => word_at hW (Or.inl (by first | rfl | simp [Cond.onTables, Cond.keeps, Cond.steady])) hini)
theorem vx_runV (S : CallFix p m c cc nL s args Ts own) (hM : vx_Met l y ws rm Pc Qc XC mc ms free) (cw : CallW R s args own C index y bytes maxL ret ws rm mc ms n) (hp : PreV s H C b Pc As)
    (hg : g.method = m) (hn : As.length = n) (hsize : g.locals.size = nL) (hstack : g.stack = As.reverse ++ .ref b :: rest) (hW : 2 * g.monitorRoom + (rest.map fun v => v.category).sum ≤ 8) (hdg : decode cc g.pc = .ok (.invokevirtual index, 3)) (hf : cells + mc ≤ R.cells ∧ slots + ms ≤ R.slots) :
    vx_Run p l e R s m args below meth c H locs cells slots mc ms g rest (Qc (Value.ref b :: As).toArray) XC free := by
  have hK : vx_Back l R p e below s args y 3 8 (PreOf R mc ms Pc) (PostOf Qc mc ms free) (vx_Post XC mc ms free) := vx_callBack cw.1 hM hp.1
  obtain ⟨⟨-, -, -, -, -, -, hcode, -, hy, hlen, hl⟩, hin, hse⟩ := cw
  obtain ⟨hx, hb, hml, ho, -⟩ := S
  obtain ⟨-, ⟨cellB, hcB, hoB, hclB⟩, hPc⟩ := hp
  intro T hT X
  rcases vx_callV X hx (C := C) (bytes := bytes) (maxL := maxL) (ret := ret) ho hl hin hse hcode hy hK (by rw [hT]; exact hcB) hoB hclB hg (hsize.trans hml.symm) (argsL := As) (rest := rest) (fun sig h => hn.trans (hlen sig h)) hstack hW (by rw [hb]; exact hdg)
    (fun vm₁ hW₁ => ⟨hf.1, hf.2, hPc (T.setVm vm₁) hT hW₁⟩) with ⟨v, vm₁, ⟨U', l2, c2, s2⟩, hW₁, X', ⟨g', mk, t, L, e1, e2, hq, h1, hL, h2, h3⟩, st⟩ | ⟨q, vm₁, ⟨U', l2, c2, s2⟩, hW₁, X', ⟨g', mk, t, L, E, ce, e1, e2, hq, hce, hcv, hcl, h1, hL, h2, h3⟩, st⟩
  · dsimp only [Pt.U, Pt.locs, Pt.cells, Pt.slots] at X' e1 e2 h1 h2 h3 st
    subst h1; subst h2; subst h3
    exact Or.inl ⟨v, (T.setVm vm₁).calling g' mk (Value.ref b :: As).toArray, t, U', L, hT, X', hL, e1, e2, hq, st⟩
  · dsimp only [Pt.U, Pt.locs, Pt.cells, Pt.slots] at X' e1 e2 h1 h2 h3 st hcl
    subst h1; subst h2; subst h3
    exact Or.inr ⟨q, (T.setVm vm₁).calling g' mk (Value.ref b :: As).toArray, t, U', L, E, ce, hT, X', hL, e1, e2, hq, hce, hcv, vx_cls hW₁ hcl, st⟩
theorem vx_runS (S : CallFix p m c cc nL s args Ts own) (hM : vx_Met l y ws rm Pc Qc XC mc ms free) (cw : CallB R s args own index y bytes maxL ret ws rm mc ms n ∧ (Cond.static y).before args s = true) (hp : PreS s H Pc As)
    (hg : g.method = m) (hn : As.length = n) (hsize : g.locals.size = nL) (hstack : g.stack = As.reverse ++ rest) (hW : 2 * g.monitorRoom + (rest.map fun v => v.category).sum ≤ 8) (hdg : decode cc g.pc = .ok (.invokestatic index, 3)) (hf : cells + mc ≤ R.cells ∧ slots + ms ≤ R.slots) :
    vx_Run p l e R s m args below meth c H locs cells slots mc ms g rest (Qc As.toArray) XC free := by
  have hK : vx_Back l R p e below s args y 3 8 (PreOf R mc ms Pc) (PostOf Qc mc ms free) (vx_Post XC mc ms free) := vx_callBack cw.1 hM hp.1
  obtain ⟨⟨-, -, -, -, -, -, hcode, hini, hy, hlen, hl⟩, hstt⟩ := cw
  obtain ⟨hx, hb, hml, ho, -⟩ := S
  intro T hT X
  rcases vx_callS X hx (bytes := bytes) (maxL := maxL) (ret := ret) ho hl hstt hini hcode hy hK hg (hsize.trans hml.symm) (argsL := As) (rest := rest) (fun sig h => hn.trans (hlen sig h)) hstack hW (by rw [hb]; exact hdg)
    (fun vm₁ hW₁ => ⟨hf.1, hf.2, hp.2 (T.setVm vm₁) hT hW₁⟩) with ⟨v, vm₁, ⟨U', l2, c2, s2⟩, hW₁, X', ⟨g', mk, t, L, e1, e2, hq, h1, hL, h2, h3⟩, st⟩ | ⟨q, vm₁, ⟨U', l2, c2, s2⟩, hW₁, X', ⟨g', mk, t, L, E, ce, e1, e2, hq, hce, hcv, hcl, h1, hL, h2, h3⟩, st⟩
  · dsimp only [Pt.U, Pt.locs, Pt.cells, Pt.slots] at X' e1 e2 h1 h2 h3 st
    subst h1; subst h2; subst h3
    exact Or.inl ⟨v, (T.setVm vm₁).calling g' mk As.toArray, t, U', L, hT, X', hL, e1, e2, hq, st⟩
  · dsimp only [Pt.U, Pt.locs, Pt.cells, Pt.slots] at X' e1 e2 h1 h2 h3 st hcl
    subst h1; subst h2; subst h3
    exact Or.inr ⟨q, (T.setVm vm₁).calling g' mk As.toArray, t, U', L, E, ce, hT, X', hL, e1, e2, hq, hce, hcv, vx_cls hW₁ hcl, st⟩
end Runs
section Rows
variable {p : Program} {l : Launch} {e : Env} {R : Room} {s : State} {m : MethodId} {args : Array Value} {below : List Frame} {meth : Method} {c : Code} {H : Heap} {locs : List Loc} {cells slots : Nat} {Q : State → Prop}
variable {mc ms : Nat} {free : Addr → Prop} {A0 A1 : Nat → Prop} {H0 : Heap} {a : Array Value} {pc : Nat} {ls : Array Slot} {st0 rest : List Value}
theorem vx_keep {st₀ t T' : State} {L : List Loc} (h0 : st₀.heap = H) (e1 : T'.heap = t.heap) (hS : va_S A0 H0 H locs) (hA : ∀ q, q < H.size → A1 q → A0 q) (hf : ∀ q, free q → A0 q) (hL : ∀ q ∈ L, free q.base) (hF : va_F A1 st₀ t) :
    H.size ≤ T'.heap.size ∧ (∀ q : Nat, q < H.size → ¬ A1 q → T'.heap[q]? = H[q]?) ∧ va_S A0 H0 T'.heap (locs ++ L) := by
  obtain ⟨hz, hk⟩ := hF
  rw [h0] at hz hk
  exact ⟨by rw [e1]; exact hz, fun q h1 h2 => by rw [e1]; exact hk q h1 h2,
    ⟨Nat.le_trans hS.1 (by rw [e1]; exact hz), fun q h1 h2 => by rw [e1, hk q (Nat.lt_of_lt_of_le h1 hS.1) (fun z => h2 (hA q (Nat.lt_of_lt_of_le h1 hS.1) z))]; exact hS.2.1 q h1 h2, fun q hq => by
      rcases List.mem_append.mp hq with h | h
      · exact hS.2.2 q h
      · exact hf _ (hL q h)⟩⟩
theorem vx_calli {S SX : Type} {post : Int32 → S → Prop} {px : SX → Prop} {B : S → State → Prop} {BX : String → SX → State → Prop} {AX : Nat → Prop} (hr : vx_Run p l e R s m args below meth c H locs cells slots mc ms (F0 m pc ls st0) rest (va_Qi post B A1 a) (vx_X px BX AX) free) (hS : va_S A0 H0 H locs) (hA : ∀ q, q < H.size → A1 q → A0 q) (hf : ∀ q, free q → A0 q) (hAX : ∀ q, q < H.size → AX q → A0 q)
    (kx : ∀ (E : String) (ce : Cell) (q9 : Addr) (u : SX) (t : State) (H1 : Heap) (locs1 : List Loc), t.heap = H1 → s.vm.Alike t.vm → px u → BX E u t → H.size ≤ H1.size → (∀ q : Nat, q < H.size → ¬ AX q → H1[q]? = H[q]?) → va_S A0 H0 H1 locs1 → H1[q9]? = some ce → ce.vm = .none → s.vm.findClass E = some ce.cls → vx_W p l e R s m args below meth c H1 locs1 (cells + mc) (slots + ms) Q (F0 m pc ls rest) q9)
    (kk : ∀ (r : Int32) (u : S) (t : State) (H1 : Heap) (locs1 : List Loc), t.heap = H1 → s.vm.Alike t.vm → post r u → B u t → H.size ≤ H1.size → (∀ q : Nat, q < H.size → ¬ A1 q → H1[q]? = H[q]?) → va_S A0 H0 H1 locs1 → W p l e R s m args below meth c H1 locs1 (cells + mc) (slots + ms) Q (F0 m (pc + 3) ls (.int r :: rest))) : W p l e R s m args below meth c H locs cells slots Q (F0 m pc ls st0) := by
  intro T hT X
  rcases hr T hT X with ⟨v, st₀, t, T', L, h0, X', hL, e1, e2, ⟨⟨r, u, hv, hp, hb⟩, hF⟩, st⟩ | ⟨q, st₀, t, T', L, E, ce, h0, X', hL, e1, e2, ⟨u, hp, hb, hF⟩, hce, hcv, hcl, st⟩
  · cases hv
    obtain ⟨k1, k2, k3⟩ := vx_keep h0 e1 hS hA hf hL hF
    obtain ⟨t2, a1, b1⟩ := kk r u t T'.heap (locs ++ L) e1.symm (by rw [← e2]; exact X'.warmed.alike) hp hb k1 k2 k3 T' rfl X'
    exact ⟨t2, st t2 a1, b1⟩
  · obtain ⟨k1, k2, k3⟩ := vx_keep h0 e1 hS hAX hf hL hF
    obtain ⟨t2, a1, b1⟩ := kx E ce q u t T'.heap (locs ++ L) e1.symm (by rw [← e2]; exact X'.warmed.alike) hp hb k1 k2 k3 (by rw [e1]; exact hce) hcv hcl T' rfl X'
    exact ⟨t2, st.trans a1, b1⟩
theorem vx_calll {S SX : Type} {post : Int64 → S → Prop} {px : SX → Prop} {B : S → State → Prop} {BX : String → SX → State → Prop} {AX : Nat → Prop} (hr : vx_Run p l e R s m args below meth c H locs cells slots mc ms (F0 m pc ls st0) rest (va_Ql post B A1 a) (vx_X px BX AX) free) (hS : va_S A0 H0 H locs) (hA : ∀ q, q < H.size → A1 q → A0 q) (hf : ∀ q, free q → A0 q) (hAX : ∀ q, q < H.size → AX q → A0 q)
    (kx : ∀ (E : String) (ce : Cell) (q9 : Addr) (u : SX) (t : State) (H1 : Heap) (locs1 : List Loc), t.heap = H1 → s.vm.Alike t.vm → px u → BX E u t → H.size ≤ H1.size → (∀ q : Nat, q < H.size → ¬ AX q → H1[q]? = H[q]?) → va_S A0 H0 H1 locs1 → H1[q9]? = some ce → ce.vm = .none → s.vm.findClass E = some ce.cls → vx_W p l e R s m args below meth c H1 locs1 (cells + mc) (slots + ms) Q (F0 m pc ls rest) q9)
    (kk : ∀ (r : Int64) (u : S) (t : State) (H1 : Heap) (locs1 : List Loc), t.heap = H1 → s.vm.Alike t.vm → post r u → B u t → H.size ≤ H1.size → (∀ q : Nat, q < H.size → ¬ A1 q → H1[q]? = H[q]?) → va_S A0 H0 H1 locs1 → W p l e R s m args below meth c H1 locs1 (cells + mc) (slots + ms) Q (F0 m (pc + 3) ls (.long r :: rest))) : W p l e R s m args below meth c H locs cells slots Q (F0 m pc ls st0) := by
  intro T hT X
  rcases hr T hT X with ⟨v, st₀, t, T', L, h0, X', hL, e1, e2, ⟨⟨r, u, hv, hp, hb⟩, hF⟩, st⟩ | ⟨q, st₀, t, T', L, E, ce, h0, X', hL, e1, e2, ⟨u, hp, hb, hF⟩, hce, hcv, hcl, st⟩
  · cases hv
    obtain ⟨k1, k2, k3⟩ := vx_keep h0 e1 hS hA hf hL hF
    obtain ⟨t2, a1, b1⟩ := kk r u t T'.heap (locs ++ L) e1.symm (by rw [← e2]; exact X'.warmed.alike) hp hb k1 k2 k3 T' rfl X'
    exact ⟨t2, st t2 a1, b1⟩
  · obtain ⟨k1, k2, k3⟩ := vx_keep h0 e1 hS hAX hf hL hF
    obtain ⟨t2, a1, b1⟩ := kx E ce q u t T'.heap (locs ++ L) e1.symm (by rw [← e2]; exact X'.warmed.alike) hp hb k1 k2 k3 (by rw [e1]; exact hce) hcv hcl T' rfl X'
    exact ⟨t2, st.trans a1, b1⟩
theorem vx_callf {S SX : Type} {post : UInt32 → S → Prop} {px : SX → Prop} {B : S → State → Prop} {BX : String → SX → State → Prop} {AX : Nat → Prop} (hr : vx_Run p l e R s m args below meth c H locs cells slots mc ms (F0 m pc ls st0) rest (va_Qf post B A1 a) (vx_X px BX AX) free) (hS : va_S A0 H0 H locs) (hA : ∀ q, q < H.size → A1 q → A0 q) (hf : ∀ q, free q → A0 q) (hAX : ∀ q, q < H.size → AX q → A0 q)
    (kx : ∀ (E : String) (ce : Cell) (q9 : Addr) (u : SX) (t : State) (H1 : Heap) (locs1 : List Loc), t.heap = H1 → s.vm.Alike t.vm → px u → BX E u t → H.size ≤ H1.size → (∀ q : Nat, q < H.size → ¬ AX q → H1[q]? = H[q]?) → va_S A0 H0 H1 locs1 → H1[q9]? = some ce → ce.vm = .none → s.vm.findClass E = some ce.cls → vx_W p l e R s m args below meth c H1 locs1 (cells + mc) (slots + ms) Q (F0 m pc ls rest) q9)
    (kk : ∀ (r : UInt32) (u : S) (t : State) (H1 : Heap) (locs1 : List Loc), t.heap = H1 → s.vm.Alike t.vm → post r u → B u t → H.size ≤ H1.size → (∀ q : Nat, q < H.size → ¬ A1 q → H1[q]? = H[q]?) → va_S A0 H0 H1 locs1 → W p l e R s m args below meth c H1 locs1 (cells + mc) (slots + ms) Q (F0 m (pc + 3) ls (.float r :: rest))) : W p l e R s m args below meth c H locs cells slots Q (F0 m pc ls st0) := by
  intro T hT X
  rcases hr T hT X with ⟨v, st₀, t, T', L, h0, X', hL, e1, e2, ⟨⟨r, u, hv, hp, hb⟩, hF⟩, st⟩ | ⟨q, st₀, t, T', L, E, ce, h0, X', hL, e1, e2, ⟨u, hp, hb, hF⟩, hce, hcv, hcl, st⟩
  · cases hv
    obtain ⟨k1, k2, k3⟩ := vx_keep h0 e1 hS hA hf hL hF
    obtain ⟨t2, a1, b1⟩ := kk r u t T'.heap (locs ++ L) e1.symm (by rw [← e2]; exact X'.warmed.alike) hp hb k1 k2 k3 T' rfl X'
    exact ⟨t2, st t2 a1, b1⟩
  · obtain ⟨k1, k2, k3⟩ := vx_keep h0 e1 hS hAX hf hL hF
    obtain ⟨t2, a1, b1⟩ := kx E ce q u t T'.heap (locs ++ L) e1.symm (by rw [← e2]; exact X'.warmed.alike) hp hb k1 k2 k3 (by rw [e1]; exact hce) hcv hcl T' rfl X'
    exact ⟨t2, st.trans a1, b1⟩
theorem vx_calld {S SX : Type} {post : UInt64 → S → Prop} {px : SX → Prop} {B : S → State → Prop} {BX : String → SX → State → Prop} {AX : Nat → Prop} (hr : vx_Run p l e R s m args below meth c H locs cells slots mc ms (F0 m pc ls st0) rest (va_Qd post B A1 a) (vx_X px BX AX) free) (hS : va_S A0 H0 H locs) (hA : ∀ q, q < H.size → A1 q → A0 q) (hf : ∀ q, free q → A0 q) (hAX : ∀ q, q < H.size → AX q → A0 q)
    (kx : ∀ (E : String) (ce : Cell) (q9 : Addr) (u : SX) (t : State) (H1 : Heap) (locs1 : List Loc), t.heap = H1 → s.vm.Alike t.vm → px u → BX E u t → H.size ≤ H1.size → (∀ q : Nat, q < H.size → ¬ AX q → H1[q]? = H[q]?) → va_S A0 H0 H1 locs1 → H1[q9]? = some ce → ce.vm = .none → s.vm.findClass E = some ce.cls → vx_W p l e R s m args below meth c H1 locs1 (cells + mc) (slots + ms) Q (F0 m pc ls rest) q9)
    (kk : ∀ (r : UInt64) (u : S) (t : State) (H1 : Heap) (locs1 : List Loc), t.heap = H1 → s.vm.Alike t.vm → post r u → B u t → H.size ≤ H1.size → (∀ q : Nat, q < H.size → ¬ A1 q → H1[q]? = H[q]?) → va_S A0 H0 H1 locs1 → W p l e R s m args below meth c H1 locs1 (cells + mc) (slots + ms) Q (F0 m (pc + 3) ls (.double r :: rest))) : W p l e R s m args below meth c H locs cells slots Q (F0 m pc ls st0) := by
  intro T hT X
  rcases hr T hT X with ⟨v, st₀, t, T', L, h0, X', hL, e1, e2, ⟨⟨r, u, hv, hp, hb⟩, hF⟩, st⟩ | ⟨q, st₀, t, T', L, E, ce, h0, X', hL, e1, e2, ⟨u, hp, hb, hF⟩, hce, hcv, hcl, st⟩
  · cases hv
    obtain ⟨k1, k2, k3⟩ := vx_keep h0 e1 hS hA hf hL hF
    obtain ⟨t2, a1, b1⟩ := kk r u t T'.heap (locs ++ L) e1.symm (by rw [← e2]; exact X'.warmed.alike) hp hb k1 k2 k3 T' rfl X'
    exact ⟨t2, st t2 a1, b1⟩
  · obtain ⟨k1, k2, k3⟩ := vx_keep h0 e1 hS hAX hf hL hF
    obtain ⟨t2, a1, b1⟩ := kx E ce q u t T'.heap (locs ++ L) e1.symm (by rw [← e2]; exact X'.warmed.alike) hp hb k1 k2 k3 (by rw [e1]; exact hce) hcv hcl T' rfl X'
    exact ⟨t2, st.trans a1, b1⟩
theorem vx_callv {S SX : Type} {post : S → Prop} {px : SX → Prop} {B : S → State → Prop} {BX : String → SX → State → Prop} {AX : Nat → Prop} (hr : vx_Run p l e R s m args below meth c H locs cells slots mc ms (F0 m pc ls st0) rest (va_Qv post B A1 a) (vx_X px BX AX) free) (hS : va_S A0 H0 H locs) (hA : ∀ q, q < H.size → A1 q → A0 q) (hf : ∀ q, free q → A0 q) (hAX : ∀ q, q < H.size → AX q → A0 q)
    (kx : ∀ (E : String) (ce : Cell) (q9 : Addr) (u : SX) (t : State) (H1 : Heap) (locs1 : List Loc), t.heap = H1 → s.vm.Alike t.vm → px u → BX E u t → H.size ≤ H1.size → (∀ q : Nat, q < H.size → ¬ AX q → H1[q]? = H[q]?) → va_S A0 H0 H1 locs1 → H1[q9]? = some ce → ce.vm = .none → s.vm.findClass E = some ce.cls → vx_W p l e R s m args below meth c H1 locs1 (cells + mc) (slots + ms) Q (F0 m pc ls rest) q9)
    (kk : ∀ (u : S) (t : State) (H1 : Heap) (locs1 : List Loc), t.heap = H1 → s.vm.Alike t.vm → post u → B u t → H.size ≤ H1.size → (∀ q : Nat, q < H.size → ¬ A1 q → H1[q]? = H[q]?) → va_S A0 H0 H1 locs1 → W p l e R s m args below meth c H1 locs1 (cells + mc) (slots + ms) Q (F0 m (pc + 3) ls (rest))) : W p l e R s m args below meth c H locs cells slots Q (F0 m pc ls st0) := by
  intro T hT X
  rcases hr T hT X with ⟨v, st₀, t, T', L, h0, X', hL, e1, e2, ⟨⟨u, hv, hp, hb⟩, hF⟩, st⟩ | ⟨q, st₀, t, T', L, E, ce, h0, X', hL, e1, e2, ⟨u, hp, hb, hF⟩, hce, hcv, hcl, st⟩
  · cases hv
    obtain ⟨k1, k2, k3⟩ := vx_keep h0 e1 hS hA hf hL hF
    obtain ⟨t2, a1, b1⟩ := kk u t T'.heap (locs ++ L) e1.symm (by rw [← e2]; exact X'.warmed.alike) hp hb k1 k2 k3 T' rfl X'
    exact ⟨t2, st t2 a1, b1⟩
  · obtain ⟨k1, k2, k3⟩ := vx_keep h0 e1 hS hAX hf hL hF
    obtain ⟨t2, a1, b1⟩ := kx E ce q u t T'.heap (locs ++ L) e1.symm (by rw [← e2]; exact X'.warmed.alike) hp hb k1 k2 k3 (by rw [e1]; exact hce) hcv hcl T' rfl X'
    exact ⟨t2, st.trans a1, b1⟩
/-- caught by the row x of this method's table; the rows ahead don't take it -/
theorem vx_catch {own name : String} {E : String} {ce : Cell} {q : Addr} (hown : s.vm.findClass own = some m.cls) (pre : List ExceptionTableEntry) (x : ExceptionTableEntry) (suf : List ExceptionTableEntry) (hsplit : c.exceptionTable.toList = pre ++ x :: suf)
    (hpass : ∀ z ∈ pre, covers z pc = false ∨ (z.catchType ≠ 0 ∧ ∃ nm : String, (Cond.classLink own z.catchType nm).before args s = true ∧ va_Nc E nm s)) (hx : covers x pc = true) (h0 : x.catchType ≠ 0)
    (hlink : (Cond.classLink own x.catchType name).before args s = true) (hcast : (Cond.castable E name).before args s = true) (hcell : H[q]? = some ce) (hv : ce.vm = .none) (hcl : s.vm.findClass E = some ce.cls)
    (kk : W p l e R s m args below meth c H locs cells slots Q (F0 m x.handlerPc ls [.ref q])) : vx_W p l e R s m args below meth c H locs cells slots Q (F0 m pc ls rest) q := by
  intro T hT X
  have hpl : e.platform.magicAccessors = ({} : Platform).magicAccessors := by rw [X.admits.platform]
  obtain ⟨c3, c4, hc3, hc4, hasg⟩ := Cond.castable_spec hcast
  cases Option.some.inj (hc3.symm.trans hcl)
  obtain ⟨c5, hc5, hcl5⟩ := Cond.classLink_spec hown hlink e.platform hpl
  cases Option.some.inj (hc4.symm.trans hc5)
  obtain ⟨vm', X', st⟩ := X.thenCaughtThrough q (g := F0 m pc ls rest) rfl (Steps.refl _) (by rw [hT]; exact hcell) (by rw [hv]; rfl) (by obtain ⟨k9, h9, -⟩ := Vm.findClass_spec hcl; exact ⟨k9, h9⟩) pre x suf hsplit
    (fun z hz => by
      rcases hpass z hz with h | ⟨hz0, nm, hl1, hn1⟩
      · exact Or.inl h
      · obtain ⟨c6, hc6, hcl6⟩ := Cond.classLink_spec hown hl1 e.platform hpl
        obtain ⟨a8, b8, h1, h2, h3⟩ := hn1
        cases Option.some.inj (h1.symm.trans hcl)
        cases Option.some.inj (h2.symm.trans hc6)
        exact Or.inr ⟨hz0, _, hcl6, h3⟩) hx (Or.inr ⟨h0, c4, hcl5, hasg⟩)
  obtain ⟨t, a1, b1⟩ := kk (T.setVm vm') hT X'
  exact ⟨t, st.trans a1, b1⟩
end Rows
section Ends
variable {p : Program} {l : Launch} {e : Env} {R : Room} {s : State} {m : MethodId} {args : Array Value} {below : List Frame} {meth : Method} {c : Code} {H : Heap} {locs : List Loc} {cells slots : Nat} {Q : State → Prop}
variable {mc ms : Nat} {free : Addr → Prop} {A0 A1 : Nat → Prop} {H0 : Heap} {a : Array Value} {ls : Array Slot} {st0 rest : List Value}
variable {Qc : Array Value → State → Outcome → State → Prop} {XC : String → State → State → Prop}
/-- what a body that may throw owes at its end -/
def vx_MQ (below : List Frame) (Qc : Array Value → State → Outcome → State → Prop) (XC : String → State → State → Prop) (a : Array Value) (s : State) (mc ms : Nat) (free : Addr → Prop) : State → Prop := fun t =>
  ∃ o, t.status = .running ∧ Ended t below o ∧ vx_Q Qc XC mc ms free a s o t
theorem vx_ret {g : JFrame} {mc ms : Nat} (k : W p l e R s m args below meth c H locs cells slots (MQ below Qc args s mc ms free) g) : W p l e R s m args below meth c H locs cells slots (vx_MQ below Qc XC args s mc ms free) g := by
  intro T hT X
  obtain ⟨t, a1, o, b1, b2, b3, b4⟩ := k T hT X
  exact ⟨t, a1, o, b1, b2, Or.inl ⟨b3, b4⟩⟩
/-- not caught here: it goes on to the caller -/
theorem vx_widen {g : JFrame} {q : Addr} {k n : Nat} (h1 : cells ≤ k) (h2 : slots ≤ n) (kk : vx_W p l e R s m args below meth c H locs k n Q g q) : vx_W p l e R s m args below meth c H locs cells slots Q g q := fun T hT X => kk T hT (stand_widen X h1 h2)
theorem vx_out {pc : Nat} {E : String} {ce : Cell} {q : Addr} {mc ms : Nat} (hout : ∀ x ∈ c.exceptionTable.toList, covers x pc = false) (hlocks : meth.locks = false) (hcell : H[q]? = some ce) (hv : ce.vm = .none) (hcl : s.vm.findClass E = some ce.cls)
    (hx : ∀ t : State, t.heap = H → s.vm.Alike t.vm → XC E s t) (hf : ∀ z ∈ locs, free z.base) (hc : cells ≤ mc) (hs : slots ≤ ms) :
    vx_W p l e R s m args below meth c H locs cells slots (vx_MQ below Qc XC args s mc ms free) (F0 m pc ls rest) q := by
  intro T hT X
  obtain ⟨st1, hrun, hend, hW, hsm⟩ := X.leaveThrown q (g := F0 m pc ls rest) rfl rfl rfl hout hlocks
  have hcell9 : (T.setFrames (.throwing q :: below)).heap[q]? = some ce := by
    show T.heap[q]? = some ce
    rw [hT]; exact hcell
  exact ⟨_, st1, .threw q, hrun, hend, Or.inr ⟨q, rfl, E, ce, locs, hx _ hT hW.alike, hcell9, hv, hcl, hW, hsm.mono hc hs, hf⟩⟩
theorem vx_frame {U : State} {k n : Nat} (h : s.sameButNew ({ U with vm := s.vm } : State) locs k n) : s.heap.size ≤ U.heap.size ∧ ∀ q : Nat, q < s.heap.size → (∀ z ∈ locs, z.base ≠ q) → U.heap[q]? = s.heap[q]? := by
  obtain ⟨-, h2, -, -, -, h6⟩ := h
  refine ⟨h2, fun q hq hz => ?_⟩
  obtain ⟨c9, e1, e2, e3, e4⟩ := h6 q _ (Array.getElem?_eq_getElem hq)
  have hs : c9.slots = (s.heap[q]).slots := Array.ext_getElem? fun i => e4 i fun hm => hz _ hm rfl
  have h9 : c9 = s.heap[q] := by
    rw [hs] at e2
    exact e2
  have e5 : U.heap[q]? = some c9 := e1
  rw [e5, h9, Array.getElem?_eq_getElem hq]
/-- the words of a throw but the four that speak of the heap -/
def vx_no (w : Cond) : Bool := decide (w ≠ .isRef (.static Bundle.tN "UNASSIGNED_STACK" Bundle.steD)) && decide (w ≠ .isRef (.static Bundle.tN "SUPPRESSED_SENTINEL" Bundle.listD)) && decide (w ≠ .laysStatic Bundle.tN "UNASSIGNED_STACK" Bundle.steD) && decide (w ≠ .laysStatic Bundle.tN "SUPPRESSED_SENTINEL" Bundle.listD)
def vx_at0 (own : String) (ic : Nat) (X : String) (names : List String) : List Cond := (Bundle.ownAtoms0 own ic X names).filter vx_no
def vx_atS (own : String) (ic : Nat) (X : String) (names : List String) : List Cond := (Bundle.ownAtoms own ic X names).filter vx_no
/-- a word that the tables alone decide, or a good one -/
def vx_ot (w : Cond) : Bool := w.onTables || goodWord w
theorem vx_ot_at {args a' : Array Value} {s U : State} {w : Cond} (hW : s.WarmedH U.vm) (hvm : s.vm = U.vm) (hg : vx_ot w = true) (h : w.before args s = true) : w.before a' U = true := by
  simp only [vx_ot, Bool.or_eq_true] at hg
  rcases hg with hg | hg
  · exact va_tabs hg hvm h
  · exact word_at hW (good_of_word hg) h
/-- a list's words: the good ones out of the method's own list, the others by premises of their own -/
theorem vx_hat {args : Array Value} {s : State} {L B : List Cond} (h1 : ∀ w ∈ L.filter goodWord, w.before args s = true) (h2 : ∀ w ∈ L.filter (fun w => !goodWord w), w ∈ B) (h3 : ∀ w ∈ B, w.before args s = true) : ∀ w ∈ L, w.before args s = true := by
  intro w hw
  by_cases g : goodWord w = true
  · exact h1 w (List.mem_filter.mpr ⟨hw, g⟩)
  · refine h3 w (h2 w (List.mem_filter.mpr ⟨hw, ?_⟩))
    show (!goodWord w) = true
    cases hgw : goodWord w
    · rfl
    · exact absurd hgw g
theorem vx_c {args : Array Value} {s : State} {w : Cond} {B : List Cond} (h : w.before args s = true) (t : ∀ w ∈ B, w.before args s = true) : ∀ w' ∈ w :: B, w'.before args s = true := fun w' h' => (List.mem_cons.mp h').elim (fun e => by rw [e]; exact h) (t w')
theorem vx_n {args : Array Value} {s : State} : ∀ w ∈ ([] : List Cond), w.before args s = true := fun _ h => nomatch h
theorem vx_own {args : Array Value} {s : State} {L : List Cond} (h1 : ∀ w ∈ L.filter vx_no, w.before args s = true)
    (hU : (Cond.isRef (.static Bundle.tN "UNASSIGNED_STACK" Bundle.steD)).before args s = true) (hN : (Cond.isRef (.static Bundle.tN "SUPPRESSED_SENTINEL" Bundle.listD)).before args s = true)
    (lU : (Cond.laysStatic Bundle.tN "UNASSIGNED_STACK" Bundle.steD).before args s = true) (lN : (Cond.laysStatic Bundle.tN "SUPPRESSED_SENTINEL" Bundle.listD).before args s = true) : ∀ w ∈ L, w.before args s = true := by
  intro w hw
  by_cases e1 : w = .isRef (.static Bundle.tN "UNASSIGNED_STACK" Bundle.steD)
  · rw [e1]; exact hU
  · by_cases e2 : w = .isRef (.static Bundle.tN "SUPPRESSED_SENTINEL" Bundle.listD)
    · rw [e2]; exact hN
    · by_cases e3 : w = .laysStatic Bundle.tN "UNASSIGNED_STACK" Bundle.steD
      · rw [e3]; exact lU
      · by_cases e4 : w = .laysStatic Bundle.tN "SUPPRESSED_SENTINEL" Bundle.listD
        · rw [e4]; exact lN
        · exact h1 w (List.mem_filter.mpr ⟨hw, by unfold vx_no; rw [decide_eq_true e1, decide_eq_true e2, decide_eq_true e3, decide_eq_true e4]; rfl⟩)
/-- where a static field lies, its class's statics cell in H -/
def vx_L (C n d : String) (A : Nat → Prop) (U : State) (H : Heap) : Prop := ∃ (c : ClassId) (k : Class) (i : Nat) (f : Field) (a : Nat) (cell : Cell), U.vm.findClass C = some c ∧ U.fieldFound? C n d = some (c, k, i, f) ∧ f.isStatic = true ∧ k.statics = some a ∧ H[a]? = some cell ∧ cell.vm.isStatics = true ∧ cell.cls = c ∧ f.slot < cell.slots.size ∧ k.staticTypes[f.slot]? = some f.type ∧ ¬ A a
theorem vx_L.moved {C n d : String} {A : Nat → Prop} {u U : State} {H : Heap} (hvm : u.vm.Alike U.vm) (h : vx_L C n d A u H) : vx_L C n d A U H := by
  obtain ⟨c, k, i, f, a, cell, h1, h2, h3, h4, h5, h6, h7, h8, h9, h10⟩ := h
  obtain ⟨k', hi', he⟩ := State.fieldFound?_setVm hvm h2
  exact ⟨c, k', i, f, a, cell, by rw [hvm.findClass]; exact h1, hi', h3, by rw [he]; exact h4, h5, h6, h7, h8, by rw [he]; exact h9, h10⟩
theorem vx_L.kept {C n d : String} {A : Nat → Prop} {U : State} {H H1 : Heap} (h : vx_L C n d A U H) (hq : ∀ a : Nat, a < H.size → ¬ A a → H1[a]? = H[a]?) : vx_L C n d A U H1 := by
  obtain ⟨c, k, i, f, a, cell, h1, h2, h3, h4, h5, h6, h7, h8, h9, h10⟩ := h
  exact ⟨c, k, i, f, a, cell, h1, h2, h3, h4, by rw [hq a (Array.getElem?_eq_some_iff.mp h5).1 h10]; exact h5, h6, h7, h8, h9, h10⟩
theorem vx_L.narrow {C n d : String} {A B : Nat → Prop} {U : State} {H : Heap} (h : vx_L C n d A U H) (hAB : ∀ q, B q → A q) : vx_L C n d B U H := by
  obtain ⟨c, k, i, f, a, cell, h1, h2, h3, h4, h5, h6, h7, h8, h9, h10⟩ := h
  exact ⟨c, k, i, f, a, cell, h1, h2, h3, h4, h5, h6, h7, h8, h9, fun z => h10 (hAB _ z)⟩
theorem vx_L.word {C n d : String} {A : Nat → Prop} {s : State} {args : Array Value} (h : vx_L C n d A s s.heap) : (Cond.laysStatic C n d).before args s = true := by
  obtain ⟨c, k, i, f, a, cell, h1, h2, h3, h4, h5, h6, h7, h8, h9, -⟩ := h
  show (Cond.laysStatic C n d).holds args s none s [] = true
  exact Cond.laysStatic_of h1 h2 h3 h4 h5 h6 h7 h8 h9
/-- .. and what it holds: null or some reference -/
def vx_Zq (C n d : String) (A : Nat → Prop) (U : State) (H : Heap) : Prop := va_Zq C n d A U H ∧ vx_L C n d A U H
theorem vx_Zq.moved {C n d : String} {A : Nat → Prop} {u U : State} {H : Heap} (hvm : u.vm.Alike U.vm) (h : vx_Zq C n d A u H) : vx_Zq C n d A U H := ⟨va_Zq.moved hvm h.1, vx_L.moved hvm h.2⟩
theorem vx_Zq.kept {C n d : String} {A : Nat → Prop} {U : State} {H H1 : Heap} (h : vx_Zq C n d A U H) (hq : ∀ a : Nat, a < H.size → ¬ A a → H1[a]? = H[a]?) : vx_Zq C n d A U H1 := ⟨va_Zq.kept h.1 hq, vx_L.kept h.2 hq⟩
theorem vx_Zq.narrow {C n d : String} {A B : Nat → Prop} {U : State} {H : Heap} (h : vx_Zq C n d A U H) (hAB : ∀ q, B q → A q) : vx_Zq C n d B U H := ⟨va_Zq.narrow h.1 hAB, vx_L.narrow h.2 hAB⟩
theorem vx_Zqof {args : Array Value} {s : State} {C n d : String} {A : Nat → Prop} (hl : (Cond.laysStatic C n d).before args s = true) (hini : (Cond.initialized C).before args s = true) (h : (Cond.isRef (.static C n d)).before args s = true) (hA : ∀ a : Nat, a < s.heap.size → ¬ A a) : vx_Zq C n d A s s.heap := by
  refine ⟨va_Zqof hl hini h hA, ?_⟩
  obtain ⟨c, k, i, f, a, cell, h1, h2, h3, h4, h5, h6, h7, h8, h9⟩ := Cond.laysStatic_spec hl
  exact ⟨c, k, i, f, a, cell, h1, h2, h3, h4, h5, h6, h7, h8, h9, hA a (Array.getElem?_eq_some_iff.mp h5).1⟩
theorem vx_isRef {C n d : String} {v : Value} {A : Nat → Prop} {s : State} {args : Array Value} (h : va_Z C n d v A s s.heap) (hv : v.isRef = true) : (Cond.isRef (.static C n d)).before args s = true := by
  obtain ⟨cf, kf, fi, f, a, cell, h1, h2, h3, h4, h5, h6, h7, -⟩ := h
  have he : (Term.static C n d).eval args s none [] s = some v := by
    simp [Term.eval, State.fieldNamed?, h1, h2, h4, h5, h6, h7]
  simp only [Cond.before, Cond.holds, Cond.value, he]
  cases v <;> simp_all [Value.isRef]
theorem vx_isRefq {C n d : String} {A : Nat → Prop} {s : State} {args : Array Value} (h : va_Zq C n d A s s.heap) : (Cond.isRef (.static C n d)).before args s = true := by
  rcases h with h | ⟨t, h⟩
  · exact vx_isRef h rfl
  · exact vx_isRef h rfl
/-- the same frame, seen from here: as if the method were called anew in this heap -/
theorem vx_rebase {T : State} (X : Stand p l e R s m args below meth c T locs cells slots) {R' : Room} (hf : R'.frames ≤ R.frames) (hl : R'.locals ≤ R.locals) (hc : cells + R'.cells ≤ R.cells) (hs : slots + R'.slots ≤ R.slots) :
    Stand p l e R' ((T.setVm s.vm).setFrames (.invoking m args :: below)) m args below meth c T [] 0 0 := by
  have htop : (T.setVm s.vm).topJava?.isSome := X.here.top
  have hF : ((T.setVm s.vm).setFrames (.invoking m args :: below)).frames = .invoking m args :: below := State.frames_setFrames _ (State.cur_lt_of_top htop)
  obtain ⟨g₀, hg0⟩ := Option.isSome_iff_exists.mp htop
  obtain ⟨r, hr⟩ := State.topJava?_eq_some.mp hg0
  have hl9 : e.platform.stackLimits (T.setVm s.vm).me = e.platform.stackLimits s.me := X.limits
  have hb9 : (T.setVm s.vm).me.stackBytes = s.me.stackBytes := X.bytes
  refine ⟨X.admits, X.cas, X.clock, hF, ?_, X.hears, X.method, X.code, X.here, X.tail, X.warmed, ?_, ?_, ?_⟩
  · have h := X.room
    have hU : ((T.setVm s.vm).setFrames (.invoking m args :: below)).localsInUse = s.localsInUse := by
      rw [State.localsInUse_invoking hF (meth := meth) (c := c) X.method X.code, State.localsInUse_invoking X.frames X.method X.code]
    simp only [State.hasRoom, Bool.and_eq_true, decide_eq_true_eq] at h ⊢
    obtain ⟨⟨⟨⟨h1, h2, h3, h4, h5, h6⟩, h7⟩, h8⟩, h9⟩ := h
    rw [X.frames, List.length_cons] at h2 h3
    have q1 := X.heapSize
    have q2 := X.used
    simp only [hF, hU, List.length_cons, State.stackLimits_setFrames, State.stackBytes_setFrames, hl9, hb9]
    refine ⟨⟨⟨⟨by omega, by omega, by omega, by omega, by omega, h6⟩, ?_⟩, ?_⟩, X.book⟩
    · show T.heap.size + R'.cells ≤ e.platform.maxCells
      omega
    · show T.slotsUsed + R'.slots ≤ e.platform.maxSlots
      omega
  · rw [State.stackLimits_setFrames]; rfl
  · rw [State.stackBytes_setFrames]; rfl
  · refine ⟨?_, Nat.le_refl _, Nat.le_refl _, ?_, ?_, fun a c9 h9 => ⟨c9, h9, rfl, rfl, fun _ _ => rfl⟩⟩
    · obtain ⟨t, ht, -⟩ := State.frames_cons hr
      show T.setVm s.vm = { ((T.setVm s.vm).setFrames (.invoking m args :: below)).setFrames (T.setVm s.vm).frames with heap := T.heap, slotsUsed := T.slotsUsed }
      rw [State.setFrames_setFrames, State.setFrames_self ht]
      rfl
    · show T.slotsUsed = T.slotsUsed + ((T.heap.toList.drop T.heap.size).map (·.slots.size)).sum
      rw [List.drop_eq_nil_of_le (Nat.le_of_eq Array.length_toList)]
      rfl
    · show ((T.heap.toList.drop T.heap.size).map (·.slots.size)).sum ≤ 0
      rw [List.drop_eq_nil_of_le (Nat.le_of_eq Array.length_toList)]
      exact Nat.le_refl _
/-- 'throw new E()': new; dup; invokespecial; athrow -/
theorem vx_throw0 {cc : ByteArray} {pc : Nat} (hexec : p.tables.exec = Jvm.exec) (hb : c.code = cc) (hl : l.stackTraces = false) {own cls : String} {names : List String} {ik ic mc ms : Nat} {A : Nat → Prop}
    (hown : s.vm.findClass own = some m.cls) (hcls : Bundle.fit cls = true) (hnames : ∀ n ∈ names, Bundle.fit n = true)
    (hk : (Cond.classLink own ik cls).before args s = true) (hini : (Cond.initialized cls).before args s = true) (hat : ∀ w ∈ vx_at0 own ic cls names, w.before args s = true)
    (hgood : ∀ w ∈ Cond.classLink own ik cls :: Cond.initialized cls :: vx_at0 own ic cls names, vx_ot w = true)
    (hU : vx_Zq Bundle.tN "UNASSIGNED_STACK" Bundle.steD A s s.heap) (hN : vx_Zq Bundle.tN "SUPPRESSED_SENTINEL" Bundle.listD A s s.heap) (hS : va_S A s.heap H locs) (hsize : ls.size = c.maxLocals)
    (d0 : decode cc pc = .ok (.new ik, 3)) (d3 : decode cc (pc + 3) = .ok (.dup, 1)) (d4 : decode cc (pc + 4) = .ok (.invokespecial ic, 3)) (d7 : decode cc (pc + 7) = .ok (.athrow, 1))
    (hout : ∀ x ∈ c.exceptionTable.toList, covers x (pc + 7) = false)
    (hRframes : names.length + 3 < R.frames) (hRlocals : (rest.map fun v => v.category).sum + (13 * (names.length + 1) + 42) ≤ R.locals) (hRcells : cells + 1 ≤ R.cells) (hRslots : slots + 6 ≤ R.slots) (hlocks : meth.locks = false)
    (hx : ∀ t : State, s.vm.Alike t.vm → H.size ≤ t.heap.size → (∀ q : Nat, q < H.size → t.heap[q]? = H[q]?) → XC cls s t)
    (hf : ∀ z ∈ locs, free z.base) (hc : cells + 1 ≤ mc) (hs : slots + 6 ≤ ms) :
    W p l e R s m args below meth c H locs cells slots (vx_MQ below Qc XC args s mc ms free) (F0 m pc ls rest) := by
  intro T hT X
  have htr : e.platform.stackTraces = false := (show e.platform.stackTraces = l.stackTraces by rw [X.admits.platform]).trans hl
  have Y := vx_rebase X (R' := { frames := R.frames, locals := R.locals, cells := 1, slots := 6 }) (Nat.le_refl _) (Nat.le_refl _) hRcells hRslots
  obtain ⟨s', hA⟩ : ∃ z, z = (T.setVm s.vm).setFrames (.invoking m args :: below) := ⟨_, rfl⟩
  rw [← hA] at Y
  have hvm : s'.vm = s.vm := by rw [hA]; rfl
  have hhp : s'.heap = H := by rw [hA]; exact hT
  have hW0 : s.WarmedH s'.vm := by rw [hvm]; exact State.WarmedH.refl s
  have hat' : ∀ w ∈ vx_at0 own ic cls names, w.before args s' = true := fun w hw => vx_ot_at hW0 hvm.symm (hgood w (List.mem_cons_of_mem _ (List.mem_cons_of_mem _ hw))) (hat w hw)
  have hk' : (Cond.classLink own ik cls).before args s' = true := vx_ot_at hW0 hvm.symm (hgood _ List.mem_cons_self) hk
  have hini' : (Cond.initialized cls).before args s' = true := vx_ot_at hW0 hvm.symm (hgood _ (List.mem_cons_of_mem _ List.mem_cons_self)) hini
  have hU' : vx_Zq Bundle.tN "UNASSIGNED_STACK" Bundle.steD A s' s'.heap := by rw [hhp]; exact vx_Zq.moved hW0.alike (hU.kept hS.2.1)
  have hN' : vx_Zq Bundle.tN "SUPPRESSED_SENTINEL" Bundle.listD A s' s'.heap := by rw [hhp]; exact vx_Zq.moved hW0.alike (hN.kept hS.2.1)
  have h : ∀ w ∈ Bundle.ownAtoms0 own ic cls names, w.before args s' = true := vx_own hat' (vx_isRefq hU'.1) (vx_isRefq hN'.1) hU'.2.word hN'.2.word
  have hown' : s'.vm.findClass own = some m.cls := by rw [hvm]; exact hown
  have hins : (Cond.instantiable cls 6).before args s' = true := h _ (by simp [Bundle.ownAtoms0])
  obtain ⟨vm₁, cX, kX, hfX, hkX, -, -, X₁, st1⟩ := Y.newCold hexec (own := own) (C := cls) (index := ik) (n := 6) hown' hk' hins hini'
    (g := F0 m pc ls rest) rfl (by rw [hb]; exact d0) (Nat.le_refl _) (Nat.le_refl _)
  generalize hT1 : (T.setVm vm₁).pushCell { cls := cX, slots := kX.instanceTypes.map defaultValue, vm := .none } = T1 at X₁ st1
  have hcat : (Value.ref T.heap.size).category = 1 := rfl
  have hcellA : T1.heap[T.heap.size]? = some (freshCell cX kX) := by rw [← hT1]; exact State.heap_pushCell_size _ _
  have d3' : decode c.code (pc + 3) = .ok (.dup, 1) := by rw [hb]; exact d3
  obtain ⟨U, hsteps, hrun, hend, hW, hsame, ce, hce, hO⟩ := X₁.ctorThrow0 hexec htr (own := own) (cls := cls) (names := names) (ic := ic) hown' hcls hnames h (fun x hx => nomatch hx) hfX hkX hcellA (by rw [hhp, hT]; exact Nat.le_refl _)
    (g := { method := m, pc := pc + 4, locals := ls, stack := .ref T.heap.size :: .ref T.heap.size :: rest, locked := none }) rfl hsize rfl rfl (rest := rest) rfl
    (by rw [hb]; exact d4) (by rw [hb]; exact d7) hout hRframes (by simp only [List.map_cons, List.sum_cons, hcat]; omega) hlocks
  obtain ⟨f1, f2⟩ := vx_frame hsame
  rw [hhp] at f1 f2
  have hWs : s.WarmedH U.vm := State.WarmedH.trans hW0 hW
  have hcl : s.vm.findClass cls = some ce.cls := by
    have h9 := hO.cls
    rw [hvm] at h9
    exact h9
  have hall : s.sameButNew ({ U with vm := s.vm } : State) locs mc ms := by
    subst hA
    obtain ⟨e1, e2⟩ := hsame
    rw [State.setFrames_setFrames] at e1
    have h2 : (T.setVm s.vm).sameButNew ({ U with vm := s.vm } : State) [] (0 + 1) (0 + 6) := ⟨e1, e2⟩
    have h3 := X.same.trans h2
    rw [List.append_nil] at h3
    exact h3.mono hc hs
  refine ⟨U, ?_, .threw T.heap.size, hrun, hend, Or.inr ⟨T.heap.size, rfl, cls, ce, locs, hx U hWs.alike f1 (fun q hq => f2 q hq (fun z hz => nomatch hz)), hce, hO.vm, hcl, hWs, hall, hf⟩⟩
  refine st1 _ ?_
  show Steps p.tables e below (T1.setTop { method := m, pc := pc + 3, locals := ls, stack := .ref T.heap.size :: rest, locked := none }) _
  jvm_step X₁.here [X₁.here.top, hexec, d3', Value.category]
  exact hsteps
/-- 'throw new E("text")': new; dup; ldc; invokespecial; athrow -/
theorem vx_throwS {cc : ByteArray} {pc : Nat} (hexec : p.tables.exec = Jvm.exec) (hb : c.code = cc) (hl : l.stackTraces = false) {own cls text : String} {names : List String} {ik is ic mc ms sa : Nat} {A : Nat → Prop}
    (hown : s.vm.findClass own = some m.cls) (hcls : Bundle.fit cls = true) (hnames : ∀ n ∈ names, Bundle.fit n = true)
    (hk : (Cond.classLink own ik cls).before args s = true) (hini : (Cond.initialized cls).before args s = true) (hstr : vk_R own is text sa s) (hat : ∀ w ∈ vx_atS own ic cls names, w.before args s = true)
    (hgood : ∀ w ∈ Cond.classLink own ik cls :: Cond.initialized cls :: vx_atS own ic cls names, vx_ot w = true)
    (hU : vx_Zq Bundle.tN "UNASSIGNED_STACK" Bundle.steD A s s.heap) (hN : vx_Zq Bundle.tN "SUPPRESSED_SENTINEL" Bundle.listD A s s.heap) (hS : va_S A s.heap H locs) (hsize : ls.size = c.maxLocals)
    (d0 : decode cc pc = .ok (.new ik, 3)) (d3 : decode cc (pc + 3) = .ok (.dup, 1)) (d4 : decode cc (pc + 4) = .ok (.ldc is, 2)) (d6 : decode cc (pc + 6) = .ok (.invokespecial ic, 3)) (d9 : decode cc (pc + 9) = .ok (.athrow, 1))
    (hout : ∀ x ∈ c.exceptionTable.toList, covers x (pc + 9) = false)
    (hRframes : names.length + 3 < R.frames) (hRlocals : (rest.map fun v => v.category).sum + (13 * (names.length + 1) + 43) ≤ R.locals) (hRcells : cells + 1 ≤ R.cells) (hRslots : slots + 6 ≤ R.slots) (hlocks : meth.locks = false)
    (hx : ∀ t : State, s.vm.Alike t.vm → H.size ≤ t.heap.size → (∀ q : Nat, q < H.size → t.heap[q]? = H[q]?) → XC cls s t)
    (hf : ∀ z ∈ locs, free z.base) (hc : cells + 1 ≤ mc) (hs : slots + 6 ≤ ms) :
    W p l e R s m args below meth c H locs cells slots (vx_MQ below Qc XC args s mc ms free) (F0 m pc ls rest) := by
  intro T hT X
  have htr : e.platform.stackTraces = false := (show e.platform.stackTraces = l.stackTraces by rw [X.admits.platform]).trans hl
  have Y := vx_rebase X (R' := { frames := R.frames, locals := R.locals, cells := 1, slots := 6 }) (Nat.le_refl _) (Nat.le_refl _) hRcells hRslots
  obtain ⟨s', hA⟩ : ∃ z, z = (T.setVm s.vm).setFrames (.invoking m args :: below) := ⟨_, rfl⟩
  rw [← hA] at Y
  have hvm : s'.vm = s.vm := by rw [hA]; rfl
  have hhp : s'.heap = H := by rw [hA]; exact hT
  have hW0 : s.WarmedH s'.vm := by rw [hvm]; exact State.WarmedH.refl s
  have hat' : ∀ w ∈ vx_atS own ic cls names, w.before args s' = true := fun w hw => vx_ot_at hW0 hvm.symm (hgood w (List.mem_cons_of_mem _ (List.mem_cons_of_mem _ hw))) (hat w hw)
  have hk' : (Cond.classLink own ik cls).before args s' = true := vx_ot_at hW0 hvm.symm (hgood _ List.mem_cons_self) hk
  have hini' : (Cond.initialized cls).before args s' = true := vx_ot_at hW0 hvm.symm (hgood _ (List.mem_cons_of_mem _ List.mem_cons_self)) hini
  have hU' : vx_Zq Bundle.tN "UNASSIGNED_STACK" Bundle.steD A s' s'.heap := by rw [hhp]; exact vx_Zq.moved hW0.alike (hU.kept hS.2.1)
  have hN' : vx_Zq Bundle.tN "SUPPRESSED_SENTINEL" Bundle.listD A s' s'.heap := by rw [hhp]; exact vx_Zq.moved hW0.alike (hN.kept hS.2.1)
  have h : ∀ w ∈ Bundle.ownAtoms own ic cls names, w.before args s' = true := vx_own hat' (vx_isRefq hU'.1) (vx_isRefq hN'.1) hU'.2.word hN'.2.word
  have hown' : s'.vm.findClass own = some m.cls := by rw [hvm]; exact hown
  have hins : (Cond.instantiable cls 6).before args s' = true := h _ (by simp [Bundle.ownAtoms])
  obtain ⟨vm₁, cX, kX, hfX, hkX, -, -, X₁, st1⟩ := Y.newCold hexec (own := own) (C := cls) (index := ik) (n := 6) hown' hk' hins hini'
    (g := F0 m pc ls rest) rfl (by rw [hb]; exact d0) (Nat.le_refl _) (Nat.le_refl _)
  generalize hT1 : (T.setVm vm₁).pushCell { cls := cX, slots := kX.instanceTypes.map defaultValue, vm := .none } = T1 at X₁ st1
  have hcat : (Value.ref T.heap.size).category = 1 := rfl
  have hcellA : T1.heap[T.heap.size]? = some (freshCell cX kX) := by rw [← hT1]; exact State.heap_pushCell_size _ _
  have d3' : decode c.code (pc + 3) = .ok (.dup, 1) := by rw [hb]; exact d3
  have d4' : decode c.code (pc + 4) = .ok (.ldc is, 2) := by rw [hb]; exact d4
  have hstr' : vk_R own is text sa s' := vk_R.warm hW0 hstr
  obtain ⟨U, hsteps, hrun, hend, hW, hsame, ce, hce, hO⟩ := X₁.ctorThrowS hexec htr (own := own) (cls := cls) (names := names) (ic := ic) hown' hcls hnames h (fun x hx => nomatch hx) hfX hkX hcellA (by rw [hhp, hT]; exact Nat.le_refl _) (msg := .ref sa) rfl
    (g := { method := m, pc := pc + 6, locals := ls, stack := .ref sa :: .ref T.heap.size :: .ref T.heap.size :: rest, locked := none }) rfl hsize rfl rfl (rest := rest) rfl
    (by rw [hb]; exact d6) (by rw [hb]; exact d9) hout hRframes (by simp only [List.map_cons, List.sum_cons, hcat]; omega) hlocks
  obtain ⟨f1, f2⟩ := vx_frame hsame
  rw [hhp] at f1 f2
  have hWs : s.WarmedH U.vm := State.WarmedH.trans hW0 hW
  have hcl : s.vm.findClass cls = some ce.cls := by
    have h9 := hO.cls
    rw [hvm] at h9
    exact h9
  have hall : s.sameButNew ({ U with vm := s.vm } : State) locs mc ms := by
    subst hA
    obtain ⟨e1, e2⟩ := hsame
    rw [State.setFrames_setFrames] at e1
    have h2 : (T.setVm s.vm).sameButNew ({ U with vm := s.vm } : State) [] (0 + 1) (0 + 6) := ⟨e1, e2⟩
    have h3 := X.same.trans h2
    rw [List.append_nil] at h3
    exact h3.mono hc hs
  refine ⟨U, ?_, .threw T.heap.size, hrun, hend, Or.inr ⟨T.heap.size, rfl, cls, ce, locs, hx U hWs.alike f1 (fun q hq => f2 q hq (fun z hz => nomatch hz)), hce, hO.vm, hcl, hWs, hall, hf⟩⟩
  refine st1 _ ?_
  show Steps p.tables e below (T1.setTop { method := m, pc := pc + 3, locals := ls, stack := .ref T.heap.size :: rest, locked := none }) _
  jvm_step X₁.here [X₁.here.top, hexec, d3', Value.category]
  exact X₁.ldcString hexec (own := own) (text := text) (index := is) (a := sa) hown' hstr'.1 hstr'.2
    (g := { method := m, pc := pc + 4, locals := ls, stack := .ref T.heap.size :: .ref T.heap.size :: rest, locked := none }) rfl d4' _ hsteps
/-- 'throw new E("text")', the text by a wide index -/
theorem vx_throwSW {cc : ByteArray} {pc : Nat} (hexec : p.tables.exec = Jvm.exec) (hb : c.code = cc) (hl : l.stackTraces = false) {own cls text : String} {names : List String} {ik is ic mc ms sa : Nat} {A : Nat → Prop}
    (hown : s.vm.findClass own = some m.cls) (hcls : Bundle.fit cls = true) (hnames : ∀ n ∈ names, Bundle.fit n = true)
    (hk : (Cond.classLink own ik cls).before args s = true) (hini : (Cond.initialized cls).before args s = true) (hstr : vk_R own is text sa s) (hat : ∀ w ∈ vx_atS own ic cls names, w.before args s = true)
    (hgood : ∀ w ∈ Cond.classLink own ik cls :: Cond.initialized cls :: vx_atS own ic cls names, vx_ot w = true)
    (hU : vx_Zq Bundle.tN "UNASSIGNED_STACK" Bundle.steD A s s.heap) (hN : vx_Zq Bundle.tN "SUPPRESSED_SENTINEL" Bundle.listD A s s.heap) (hS : va_S A s.heap H locs) (hsize : ls.size = c.maxLocals)
    (d0 : decode cc pc = .ok (.new ik, 3)) (d3 : decode cc (pc + 3) = .ok (.dup, 1)) (d4 : decode cc (pc + 4) = .ok (.ldc_w is, 3)) (d7 : decode cc (pc + 7) = .ok (.invokespecial ic, 3)) (d10 : decode cc (pc + 10) = .ok (.athrow, 1))
    (hout : ∀ x ∈ c.exceptionTable.toList, covers x (pc + 10) = false)
    (hRframes : names.length + 3 < R.frames) (hRlocals : (rest.map fun v => v.category).sum + (13 * (names.length + 1) + 43) ≤ R.locals) (hRcells : cells + 1 ≤ R.cells) (hRslots : slots + 6 ≤ R.slots) (hlocks : meth.locks = false)
    (hx : ∀ t : State, s.vm.Alike t.vm → H.size ≤ t.heap.size → (∀ q : Nat, q < H.size → t.heap[q]? = H[q]?) → XC cls s t)
    (hf : ∀ z ∈ locs, free z.base) (hc : cells + 1 ≤ mc) (hs : slots + 6 ≤ ms) :
    W p l e R s m args below meth c H locs cells slots (vx_MQ below Qc XC args s mc ms free) (F0 m pc ls rest) := by
  intro T hT X
  have htr : e.platform.stackTraces = false := (show e.platform.stackTraces = l.stackTraces by rw [X.admits.platform]).trans hl
  have Y := vx_rebase X (R' := { frames := R.frames, locals := R.locals, cells := 1, slots := 6 }) (Nat.le_refl _) (Nat.le_refl _) hRcells hRslots
  obtain ⟨s', hA⟩ : ∃ z, z = (T.setVm s.vm).setFrames (.invoking m args :: below) := ⟨_, rfl⟩
  rw [← hA] at Y
  have hvm : s'.vm = s.vm := by rw [hA]; rfl
  have hhp : s'.heap = H := by rw [hA]; exact hT
  have hW0 : s.WarmedH s'.vm := by rw [hvm]; exact State.WarmedH.refl s
  have hat' : ∀ w ∈ vx_atS own ic cls names, w.before args s' = true := fun w hw => vx_ot_at hW0 hvm.symm (hgood w (List.mem_cons_of_mem _ (List.mem_cons_of_mem _ hw))) (hat w hw)
  have hk' : (Cond.classLink own ik cls).before args s' = true := vx_ot_at hW0 hvm.symm (hgood _ List.mem_cons_self) hk
  have hini' : (Cond.initialized cls).before args s' = true := vx_ot_at hW0 hvm.symm (hgood _ (List.mem_cons_of_mem _ List.mem_cons_self)) hini
  have hU' : vx_Zq Bundle.tN "UNASSIGNED_STACK" Bundle.steD A s' s'.heap := by rw [hhp]; exact vx_Zq.moved hW0.alike (hU.kept hS.2.1)
  have hN' : vx_Zq Bundle.tN "SUPPRESSED_SENTINEL" Bundle.listD A s' s'.heap := by rw [hhp]; exact vx_Zq.moved hW0.alike (hN.kept hS.2.1)
  have h : ∀ w ∈ Bundle.ownAtoms own ic cls names, w.before args s' = true := vx_own hat' (vx_isRefq hU'.1) (vx_isRefq hN'.1) hU'.2.word hN'.2.word
  have hown' : s'.vm.findClass own = some m.cls := by rw [hvm]; exact hown
  have hins : (Cond.instantiable cls 6).before args s' = true := h _ (by simp [Bundle.ownAtoms])
  obtain ⟨vm₁, cX, kX, hfX, hkX, -, -, X₁, st1⟩ := Y.newCold hexec (own := own) (C := cls) (index := ik) (n := 6) hown' hk' hins hini'
    (g := F0 m pc ls rest) rfl (by rw [hb]; exact d0) (Nat.le_refl _) (Nat.le_refl _)
  generalize hT1 : (T.setVm vm₁).pushCell { cls := cX, slots := kX.instanceTypes.map defaultValue, vm := .none } = T1 at X₁ st1
  have hcat : (Value.ref T.heap.size).category = 1 := rfl
  have hcellA : T1.heap[T.heap.size]? = some (freshCell cX kX) := by rw [← hT1]; exact State.heap_pushCell_size _ _
  have d3' : decode c.code (pc + 3) = .ok (.dup, 1) := by rw [hb]; exact d3
  have d4' : decode c.code (pc + 4) = .ok (.ldc_w is, 3) := by rw [hb]; exact d4
  have hstr' : vk_R own is text sa s' := vk_R.warm hW0 hstr
  obtain ⟨U, hsteps, hrun, hend, hW, hsame, ce, hce, hO⟩ := X₁.ctorThrowS hexec htr (own := own) (cls := cls) (names := names) (ic := ic) hown' hcls hnames h (fun x hx => nomatch hx) hfX hkX hcellA (by rw [hhp, hT]; exact Nat.le_refl _) (msg := .ref sa) rfl
    (g := { method := m, pc := pc + 7, locals := ls, stack := .ref sa :: .ref T.heap.size :: .ref T.heap.size :: rest, locked := none }) rfl hsize rfl rfl (rest := rest) rfl
    (by rw [hb]; exact d7) (by rw [hb]; exact d10) hout hRframes (by simp only [List.map_cons, List.sum_cons, hcat]; omega) hlocks
  obtain ⟨f1, f2⟩ := vx_frame hsame
  rw [hhp] at f1 f2
  have hWs : s.WarmedH U.vm := State.WarmedH.trans hW0 hW
  have hcl : s.vm.findClass cls = some ce.cls := by
    have h9 := hO.cls
    rw [hvm] at h9
    exact h9
  have hall : s.sameButNew ({ U with vm := s.vm } : State) locs mc ms := by
    subst hA
    obtain ⟨e1, e2⟩ := hsame
    rw [State.setFrames_setFrames] at e1
    have h2 : (T.setVm s.vm).sameButNew ({ U with vm := s.vm } : State) [] (0 + 1) (0 + 6) := ⟨e1, e2⟩
    have h3 := X.same.trans h2
    rw [List.append_nil] at h3
    exact h3.mono hc hs
  refine ⟨U, ?_, .threw T.heap.size, hrun, hend, Or.inr ⟨T.heap.size, rfl, cls, ce, locs, hx U hWs.alike f1 (fun q hq => f2 q hq (fun z hz => nomatch hz)), hce, hO.vm, hcl, hWs, hall, hf⟩⟩
  refine st1 _ ?_
  show Steps p.tables e below (T1.setTop { method := m, pc := pc + 3, locals := ls, stack := .ref T.heap.size :: rest, locked := none }) _
  jvm_step X₁.here [X₁.here.top, hexec, d3', Value.category]
  exact X₁.ldcStringW hexec (own := own) (text := text) (index := is) (a := sa) hown' hstr'.1 hstr'.2
    (g := { method := m, pc := pc + 4, locals := ls, stack := .ref T.heap.size :: .ref T.heap.size :: rest, locked := none }) rfl d4' _ hsteps
end Ends
section Bodies
variable {l : Launch}
theorem vx_ofW {y : MethodName} {ws ws' : List Cond} {rm : Room} {Pc : Array Value → State → Prop} {Qc : Array Value → State → Outcome → State → Prop} {XC : String → State → State → Prop} {mc ms : Nat} {free : Addr → Prop} {cc : ByteArray} {maxL : Nat} {ret : Option FieldType}
    (hy : plainName y.cls = true) (hw : ws = Cond.code y cc maxL ret :: ws')
    (body : ∀ p e s m args below meth c s₁, BodyLoose p l y (headSpec ws rm) cc maxL ret e s m args below meth c s₁ → c.maxLocals = maxL → (∀ x ∈ c.exceptionTable.toList, False) → Pc args s →
      W p l e (headSpec ws rm).room s m args below meth c s.heap [] 0 0 (vx_MQ below Qc XC args s mc ms free) (entryFrame m args maxL)) : vx_Met l y ws rm Pc Qc XC mc ms free := by
  refine MetFree.of_bodyS (code := cc) (maxLocals := maxL) (ret := ret) hy ?_ ?_
  · intro args s m h hn
    obtain ⟨meth, c, h1, h2, h3, h4, h5, h6, -, -⟩ := Cond.code_spec hn (atoms_spec (ws := ws) h _ (by rw [hw]; exact List.mem_cons_self))
    exact ⟨meth, c, h1, h2, h3, h4, h5, h6⟩
  · intro p e s m args below meth c s₁ B hml hP _
    have hh0 : s₁.heap = s.heap := by rw [B.state]; rfl
    have ht : ∀ x ∈ c.exceptionTable.toList, False := by
      obtain ⟨meth9, c9, h1, h2, -, -, -, -, h7, -⟩ := Cond.code_spec B.named (atoms_spec (ws := ws) B.pre _ (by rw [hw]; exact List.mem_cons_self))
      cases Option.some.inj (h1.symm.trans B.method)
      cases Option.some.inj (h2.symm.trans (Stand.of_body B).code)
      intro x hx
      rw [Array.isEmpty_iff.mp h7] at hx
      cases hx
    obtain ⟨t, a1, o, b1, b2, b3⟩ := body p e s m args below meth c s₁ B hml ht hP s₁ hh0 (Stand.of_body B)
    exact ⟨t, o, a1, b1, b2, b3⟩
/-- the table of a body with handlers -/
theorem vx_table {p : Program} {x y : MethodName} {S : Spec} {cc bytes : ByteArray} {maxL maxL' : Nat} {ret ret' : Option FieldType} {e : Env} {s s₁ : State} {m : MethodId} {args : Array Value} {below : List Frame} {meth : Method} {c : Code} {hh : List (Nat × Nat × Nat × Nat)}
    (B : BodyLoose p l y S cc maxL ret e s m args below meth c s₁) (h : (Cond.codeWith y bytes maxL' ret' hh).before args s = true) : c.exceptionTable.toList = tableOf hh := by
  obtain ⟨m9, meth9, c9, hn9, h1, h2, -, -, h6, -⟩ := Cond.codeWith_spec h
  cases Option.some.inj (hn9.symm.trans B.named)
  cases Option.some.inj (h1.symm.trans B.method)
  cases Option.some.inj (h2.symm.trans (Stand.of_body B).code)
  rw [← h6, table_eq]
end Bodies
end VXA
/-! ===== END ===== -/
/-! ===== BEGIN a static call of a method with an exception table ===== -/
section VXS
variable {p : Program} {l : Launch} {e : Env} {R : Room} {s : State} {m : MethodId} {args : Array Value} {below : List Frame} {meth : Method} {c : Code} {T : State} {H : Heap} {locs : List Loc} {cells slots : Nat}
abbrev vx_CSW (R : Room) (s : State) (args : Array Value) (own : String) (index : Nat) (y : MethodName) (bytes : ByteArray) (maxL : Nat) (ret : Option FieldType) (hh : List (Nat × Nat × Nat × Nat)) (ws : List Cond) (rm : Room) (mc ms n : Nat) : Prop :=
  (rm.cells = mc ∧ rm.slots = ms ∧ rm.frames + 1 ≤ R.frames ∧ 8 + (maxL + 11) + rm.locals ≤ R.locals ∧ (∀ w ∈ ws, ∀ (a' : Array Value) (U : State), s.WarmedH U.vm → w.before a' U = true) ∧ Cond.codeWith y bytes maxL ret hh ∈ ws) ∧
  (Cond.codeWith y bytes maxL ret hh).before args s = true ∧ (Cond.initialized y.cls).before args s = true ∧ (y.cls ≠ "java/lang/invoke/MethodHandle" ∧ y.cls ≠ "java/lang/invoke/VarHandle") ∧
  (∀ sig, parseMethodDescriptor y.desc = some sig → n = sig.parameters.length) ∧ (Cond.methodLink own index y).before args s = true ∧ (Cond.static y).before args s = true
theorem vx_cwSW {own : String} {index maxL mc ms : Nat} {y : MethodName} {bytes : ByteArray} {ret : Option FieldType} {hh : List (Nat × Nat × Nat × Nat)} {Ts ws ws' : List Cond} {rm : Room} (n : Nat) (ht : ∀ w ∈ Ts, w.before args s = true) (hT : GoodIn Ts (va_wsS own index y ws)) (hw : ws = Cond.codeWith y bytes maxL ret hh :: ws') (hrc : rm.cells = mc) (hrs : rm.slots = ms)
    (hd : y.cls ≠ "java/lang/invoke/MethodHandle" ∧ y.cls ≠ "java/lang/invoke/VarHandle" ∧ (parseMethodDescriptor y.desc).map (fun d => d.parameters.length) = some n) (hR : rm.frames + 1 ≤ R.frames ∧ 8 + (maxL + 11) + rm.locals ≤ R.locals) :
    vx_CSW R s args own index y bytes maxL ret hh ws rm mc ms n := by
  have ok : ∀ w ∈ va_wsS own index y ws, w.before args s = true := fun w h => ht w (hT w h).1
  have hG : GoodIn Ts ws := fun w h => hT w (by unfold va_wsS; exact List.mem_append_right _ h)
  have hc : Cond.codeWith y bytes maxL ret hh ∈ ws := by rw [hw]; exact List.mem_cons_self
  refine ⟨⟨hrc, hrs, hR.1, hR.2, pay_in ht hG, hc⟩, ht _ (hG _ hc).1, ok _ (by simp [va_wsS]), ⟨hd.1, hd.2.1⟩, fun sig h => ?_, ok _ (by simp [va_wsS]), ok _ (by simp [va_wsS])⟩
  have h2 := hd.2.2
  rw [h] at h2
  exact (Option.some.inj h2).symm
theorem vx_callSW (X : Stand p l e R s m args below meth c T locs cells slots) (hexec : p.tables.exec = Jvm.exec) {own : String} {index : Nat} {y : MethodName} {bytes : ByteArray} {maxL : Nat} {ret : Option FieldType} {hh : List (Nat × Nat × Nat × Nat)}
    (hown : s.vm.findClass own = some m.cls) (hlink : (Cond.methodLink own index y).before args s = true) (hstat : (Cond.static y).before args s = true) (hinit : (Cond.initialized y.cls).before args s = true)
    (hcode : (Cond.codeWith y bytes maxL ret hh).before args s = true) (hy : y.cls ≠ "java/lang/invoke/MethodHandle" ∧ y.cls ≠ "java/lang/invoke/VarHandle")
    {W9 : Nat} {Pre : Pt → Array Value → Prop} {Post : Pt → Array Value → Option Value → Pt → Prop} (hK : Back l R p e below s args y 3 W9 Pre Post)
    {g : JFrame} (hg : g.method = m) (hsize : g.locals.size = c.maxLocals) {argsL rest : List Value} (hlen : ∀ sig, parseMethodDescriptor y.desc = some sig → argsL.length = sig.parameters.length)
    (hstack : g.stack = argsL.reverse ++ rest) (hW : 2 * g.monitorRoom + (rest.map fun v => v.category).sum ≤ W9) (hdg : decode c.code g.pc = .ok (.invokestatic index, 3))
    (hpre : ∀ vm₁, s.WarmedH vm₁ → Pre ⟨T.setVm vm₁, locs, cells, slots⟩ argsL.toArray) :
    ∃ (v : Option Value) (vm₁ : Vm) (B : Pt), s.WarmedH vm₁ ∧ Stand p l e R s m args below meth c B.U B.locs B.cells B.slots ∧ Post ⟨T.setVm vm₁, locs, cells, slots⟩ argsL.toArray v B ∧
      ∀ target, Steps p.tables e below (B.U.setTop { g with pc := g.pc + 3, stack := v.toList ++ rest }) target → Steps p.tables e below (T.setTop g) target := by
  obtain ⟨mk, methM, cM, hnamed, hmethM, -, -, -, -, -, -, hsigM⟩ := Cond.codeWith_spec hcode
  have hstatic : methM.isStatic = true := Cond.static_spec hnamed hmethM hstat
  obtain ⟨kP, hkP, -⟩ := className_of_methodNamed hnamed
  have hinitP : kP.init = .initialized := Cond.initialized_spec (findClass_of_methodNamed hnamed) hkP hinit
  obtain ⟨vm₁, X₁, hstep₁⟩ := X.invokestatic hexec hown hlink hnamed hmethM hstatic hkP hinitP hy (g := g) hg (argsL := argsL) (rest := rest) (hlen _ hsigM) hstack hdg
  obtain ⟨v, B, X', hpost, hsteps⟩ := hK m meth c ⟨T.setVm vm₁, locs, cells, slots⟩ { g with stack := rest } (.invokestatic index) mk argsL.toArray X₁ hg hsize hdg hW (X₁.named hnamed) (hpre vm₁ X₁.warmed)
  exact ⟨v, vm₁, B, X₁.warmed, X', hpost, fun target h => hstep₁ _ fun acts => by rw [doInvoke_state]; exact hsteps.trans h⟩
theorem vx_runSW {y : MethodName} {bytes cc : ByteArray} {maxL nL mc ms n index : Nat} {ret : Option FieldType} {hh : List (Nat × Nat × Nat × Nat)} {ws : List Cond} {rm : Room} {Pc : Array Value → State → Prop} {Qc : Array Value → State → Outcome → State → Prop} {free : Addr → Prop} {Ts : List Cond} {own : String} {As rest : List Value} {g : JFrame}
    (S : CallFix p m c cc nL s args Ts own) (hM : Met l y ws rm Pc Qc mc ms free) (cw : vx_CSW R s args own index y bytes maxL ret hh ws rm mc ms n) (hp : PreS s H Pc As)
    (hg : g.method = m) (hn : As.length = n) (hsize : g.locals.size = nL) (hstack : g.stack = As.reverse ++ rest) (hW : 2 * g.monitorRoom + (rest.map fun v => v.category).sum ≤ 8) (hdg : decode cc g.pc = .ok (.invokestatic index, 3)) (hf : cells + mc ≤ R.cells ∧ slots + ms ≤ R.slots) :
    va_Run p l e R s m args below meth c H locs cells slots mc ms g rest (Qc As.toArray) (free) := by
  obtain ⟨⟨hrc, hrs, hfr, hlo, hws, hcw⟩, hcode, hini, hy, hlen, hl, hstt⟩ := cw
  have hK : Back l R p e below s args y 3 8 (PreOf R mc ms Pc) (PostOf Qc mc ms free) := va_backW (hh := hh) (bytes := bytes) (maxL := maxL) (ret := ret) hM hp.1 hrc hrs hfr hlo hws hcw (fun a' U hW => word_at hW (Or.inl (by first | rfl | simp [Cond.onTables, Cond.keeps, Cond.steady])) hini)
  obtain ⟨hx, hb, hml, ho, -⟩ := S
  intro T hT X
  obtain ⟨v, vm₁, ⟨U', l2, c2, s2⟩, hW₁, X', ⟨g', mk, t, L, e1, e2, hq, h1, hL, h2, h3⟩, st⟩ := vx_callSW X hx (hh := hh) (bytes := bytes) (maxL := maxL) (ret := ret) ho hl hstt hini hcode hy hK hg (hsize.trans hml.symm) (argsL := As) (rest := rest) (fun sig h => hn.trans (hlen sig h)) hstack hW (by rw [hb]; exact hdg)
    (fun vm₁ hW₁ => ⟨hf.1, hf.2, hp.2 (T.setVm vm₁) hT hW₁⟩)
  dsimp only [Pt.U, Pt.locs, Pt.cells, Pt.slots] at X' e1 e2 h1 h2 h3 st
  subst h1; subst h2; subst h3
  exact ⟨v, (T.setVm vm₁).calling g' mk As.toArray, t, U', L, hT, X', hL, e1, e2, hq, st⟩
/-- not caught here, past rows that name other classes: it goes on to the caller -/
theorem vx_outP {p : Program} {l : Launch} {e : Env} {R : Room} {s : State} {m : MethodId} {args : Array Value} {below : List Frame} {meth : Method} {c : Code} {H : Heap} {locs : List Loc} {cells slots : Nat} {free : Addr → Prop} {ls : Array Slot} {rest : List Value} {Qc : Array Value → State → Outcome → State → Prop} {XC : String → State → State → Prop}
    {pc : Nat} {own E : String} {ce : Cell} {q : Addr} {mc ms : Nat} (hown : s.vm.findClass own = some m.cls) (hlocks : meth.locks = false)
    (hpass : ∀ z ∈ c.exceptionTable.toList, covers z pc = false ∨ (z.catchType ≠ 0 ∧ ∃ nm : String, (Cond.classLink own z.catchType nm).before args s = true ∧ va_Nc E nm s)) (hcell : H[q]? = some ce) (hv : ce.vm = .none) (hcl : s.vm.findClass E = some ce.cls)
    (hx : ∀ t : State, t.heap = H → s.vm.Alike t.vm → XC E s t) (hf : ∀ z ∈ locs, free z.base) (hc : cells ≤ mc) (hs : slots ≤ ms) :
    vx_W p l e R s m args below meth c H locs cells slots (vx_MQ below Qc XC args s mc ms free) (F0 m pc ls rest) q := by
  intro T hT X
  have hpl : e.platform.magicAccessors = ({} : Platform).magicAccessors := by rw [X.admits.platform]
  obtain ⟨vm', hW', X', st⟩ := X.outThrough hlocks q (g := F0 m pc ls rest) rfl rfl rfl (cell := ce) (by rw [hT]; exact hcell) (by rw [hv]; rfl)
    (by obtain ⟨k9, h9, -⟩ := Vm.findClass_spec hcl; exact ⟨k9, h9⟩) (fun z hz => by
      rcases hpass z hz with h | ⟨hz0, nm, hl1, hn1⟩
      · exact Or.inl h
      · obtain ⟨c6, hc6, hcl6⟩ := Cond.classLink_spec hown hl1 e.platform hpl
        obtain ⟨a8, b8, h1, h2, h3⟩ := hn1
        cases Option.some.inj (h1.symm.trans hcl)
        cases Option.some.inj (h2.symm.trans hc6)
        exact Or.inr ⟨hz0, _, hcl6, h3⟩)
  obtain ⟨g₀, hfr⟩ := X'.frames_eq
  have hcell9 : ((T.setVm vm').setFrames (.throwing q :: below)).heap[q]? = some ce := by
    show T.heap[q]? = some ce
    rw [hT]; exact hcell
  have hend : Ended ((T.setVm vm').setFrames (.throwing q :: below)) below (.threw q) := State.frames_setFrames _ (State.cur_lt_of_frames hfr)
  refine ⟨(T.setVm vm').setFrames (.throwing q :: below), ?_, .threw q, X'.here.running, hend, Or.inr ⟨q, rfl, E, ce, locs, hx _ hT (X'.ends _).1.alike, hcell9, hv, hcl, (X'.ends _).1, (X'.ends _).2.mono hc hs, hf⟩⟩
  rw [X.pushThrowing_eq]
  exact st
/-- a thing of a world lies in the heap -/
theorem vx_lt {D : va_G} {cl : List vw_C} {ws : va_W} {H1 : Heap} (h : va_P D cl ws H1) {k : Nat} {q : Nat × va_E} (hk : ws[k]? = some q) : q.1 < H1.size := (h k q hk).lt
end VXS
/-! ===== END ===== -/
/-! ===== BEGIN methods with a table of their own: called by a name, returning or throwing ===== -/
section VXH
/-! vx_backW, vx_callVX, vx_callSX, vx_callVW, vx_runVW, vx_runVX, vx_runSX, vx_ofWH follow the same proofs as their sisters above (Free/Laws.lean, Shelf42/LK1.lean); vx_outP calls Shelf42/NT130.lean (outThrough). -/
section
variable {l : Launch} {R : Room} {p : Program} {e : Env} {below : List Frame} {s : State} {sargs : Array Value} {y : MethodName} {len W9 : Nat}
theorem vx_backW {ws : List Cond} {rm : Room} {Pc : Array Value → State → Prop} {Qc : Array Value → State → Outcome → State → Prop} {XC : String → State → State → Prop} {mc ms : Nat} {free : Addr → Prop} {bytes : ByteArray} {maxL : Nat} {ret : Option FieldType} {hh : List (Nat × Nat × Nat × Nat)}
    (hM : vx_Met l y ws rm Pc Qc XC mc ms free) (hblind : FrameBlind Pc) (hrc : rm.cells = mc) (hrs : rm.slots = ms)
    (hframes : rm.frames + 1 ≤ R.frames) (hlocals : W9 + (maxL + 11) + rm.locals ≤ R.locals)
    (hws : ∀ w ∈ ws, ∀ a' U, s.WarmedH U.vm → w.before a' U = true) (hcode : Cond.codeWith y bytes maxL ret hh ∈ ws) (hinit : ∀ a' U, s.WarmedH U.vm → (Cond.initialized y.cls).before a' U = true) :
    vx_Back l R p e below s sargs y len W9 (PreOf R mc ms Pc) (PostOf Qc mc ms free) (vx_Post XC mc ms free) := by
  intro m meth c A g ig mk a X hg hsize hdg hW hn hp
  have h1 : (headSpec ws rm).pre.before a A.U = true := atoms_intro fun w hw => hws w hw _ _ X.warmed
  have h2 : (Cond.codeWith y bytes maxL ret hh).before a A.U = true := hws _ hcode _ _ X.warmed
  have h3 : (Cond.initialized y.cls).before a A.U = true := hinit _ _ X.warmed
  have h4 : A.cells + (headSpec ws rm).room.cells ≤ R.cells := by rw [show (headSpec ws rm).room.cells = mc from hrc]; exact hp.1
  have h5 : A.slots + (headSpec ws rm).room.slots ≤ R.slots := by rw [show (headSpec ws rm).room.slots = ms from hrs]; exact hp.2.1
  have hPc : Pc a (A.U.calling g mk a) := hblind _ _ _ _ hp.2.2
  obtain ⟨U, Ls, c0, s0⟩ := A
  dsimp only [Pt.U, Pt.locs, Pt.cells, Pt.slots] at h1 h2 h3 h4 h5 X hn hPc ⊢
  obtain ⟨m9, methY, cY, hn9, hmY, hcY, -, hlY, -⟩ := Cond.codeWith_spec h2
  cases Option.some.inj (hn9.symm.trans hn)
  obtain ⟨kY, hkY, -⟩ := className_of_methodNamed hn
  have hinitY : kY.init = .initialized := Cond.initialized_spec (findClass_of_methodNamed hn) hkY h3
  have h : At U g.method c below := by rw [hg]; exact X.here
  have hlocals9 : W9 + (maxL + 11) + (headSpec ws rm).room.locals ≤ R.locals := hlocals
  have happ : (headSpec ws rm).appliesLoose y e.platform (U.calling g mk a) = true :=
    Spec.appliesLoose_calling (g := g) h hdg hn hkY hinitY
      (X.room_calling (g := g) (R' := (headSpec ws rm).room) hsize hmY hcY hframes (by rw [hlY]; omega) h4 h5) h1
  obtain ⟨mid, hmid⟩ := h.above
  have hfr : (U.setTop g).frames = (.java g :: mid) ++ below := by rw [State.frames_setTop' g h.top, hmid]; rfl
  obtain ⟨o, s₂, hsteps, -, hend, hq⟩ := Steps.callFree hM p X.admits X.cas X.clock (acts := []) hfr happ hPc trivial
  have hq' : vx_Q Qc XC mc ms free a (U.calling g mk a) o s₂ := hq
  rw [State.frames_setTop' g h.top] at hend
  obtain ⟨g₀, hg0⟩ := Option.isSome_iff_exists.mp h.top
  obtain ⟨r, hr⟩ := State.topJava?_eq_some.mp hg0
  have hr' : (({ U with heap := s₂.heap, slotsUsed := s₂.slotsUsed } : State).setVm s₂.vm).frames = .java g₀ :: r := hr
  rcases hq' with ⟨hqc, L, hfe, hL⟩ | ⟨q, rfl, E, ce, L, hx, hce, hcv, hcl, hW₂, hsm, hL⟩
  · obtain ⟨⟨v, rfl⟩, hW₂, e2, q2, q3, q4, q5, q6⟩ := id hfe
    have e3 : s₂ = ({ (U.calling g mk a).setFrames s₂.frames with heap := s₂.heap, slotsUsed := s₂.slotsUsed } : State).setVm s₂.vm := by
      have : s₂ = ({ s₂ with vm := (U.calling g mk a).vm } : State).setVm s₂.vm := rfl
      rw [e2] at this
      exact this
    obtain ⟨c₂, i₂, len₂, hc₂, hd₂, hf₂⟩ := hend
    have hW' : U.WarmedH s₂.vm := hW₂
    have hcc : c₂ = c := by
      have h1 : s₂.code? g.method = U.code? g.method := by
        rw [State.code?_eq, State.code?_eq, hW'.alike.method?]
      exact Option.some.inj (hc₂.symm.trans (h1.trans h.code))
    subst hcc
    have hlen : len₂ = len := by rw [hdg] at hd₂; cases hd₂; rfl
    subst hlen
    have hs₂ : s₂ = (({ U with heap := s₂.heap, slotsUsed := s₂.slotsUsed } : State).setVm s₂.vm).setTop { g with pc := g.pc + len₂, stack := v.toList ++ g.stack } := by
      refine e3.trans ?_
      rw [hf₂, State.calling_eq h.top, State.setFrames_setFrames, State.setTop_of_frames _ hr', hr]
      rfl
    have hsame : U.sameButNew ({ U with heap := s₂.heap, slotsUsed := s₂.slotsUsed } : State) L mc ms := by
      refine ⟨?_, q2, q3, q4, q5, q6⟩
      obtain ⟨t, ht, -⟩ := State.frames_cons hr
      show ({ U with heap := s₂.heap, slotsUsed := s₂.slotsUsed } : State) = { U.setFrames U.frames with heap := s₂.heap, slotsUsed := s₂.slotsUsed }
      rw [State.setFrames_self ht]
    subst hg
    refine Or.inl ⟨v, ⟨(({ U with heap := s₂.heap, slotsUsed := s₂.slotsUsed } : State).setVm s₂.vm), Ls ++ L, c0 + mc, s0 + ms⟩,
      ⟨X.admits, X.cas, X.clock, X.frames, X.room, X.hears, X.method, X.code, (X.here.setHeapUsed s₂.heap s₂.slotsUsed).setVm hW'.alike, X.tail, State.WarmedH.trans X.warmed hW', X.limits, X.bytes, X.same.trans (hsame.setVm s.vm)⟩,
      ⟨g, mk, s₂, L, rfl, rfl, hqc, rfl, hL, rfl, rfl⟩, ?_⟩
    show Steps p.tables e below _ ((({ U with heap := s₂.heap, slotsUsed := s₂.slotsUsed } : State).setVm s₂.vm).setTop { g with pc := g.pc + len₂, stack := v.toList ++ g.stack })
    rw [← hs₂]
    exact hsteps
  · obtain ⟨e2, q2, q3, q4, q5, q6⟩ := id hsm
    have e3 : s₂ = ({ (U.calling g mk a).setFrames s₂.frames with heap := s₂.heap, slotsUsed := s₂.slotsUsed } : State).setVm s₂.vm := by
      have : s₂ = ({ s₂ with vm := (U.calling g mk a).vm } : State).setVm s₂.vm := rfl
      rw [e2] at this
      exact this
    have hf₂ : s₂.frames = .throwing q :: .java g :: U.frames.tail := hend
    have hW' : U.WarmedH s₂.vm := hW₂
    have hs₂ : s₂ = ((({ U with heap := s₂.heap, slotsUsed := s₂.slotsUsed } : State).setVm s₂.vm).setTop g).pushFrame (.throwing q) := by
      refine e3.trans ?_
      rw [hf₂, State.calling_eq h.top, State.setFrames_setFrames, State.pushFrame, State.frames_setTop _ hr', State.setTop_of_frames _ hr', State.setFrames_setFrames, hr]
      rfl
    have hsame : U.sameButNew ({ U with heap := s₂.heap, slotsUsed := s₂.slotsUsed } : State) L mc ms := by
      refine ⟨?_, q2, q3, q4, q5, q6⟩
      obtain ⟨t, ht, -⟩ := State.frames_cons hr
      show ({ U with heap := s₂.heap, slotsUsed := s₂.slotsUsed } : State) = { U.setFrames U.frames with heap := s₂.heap, slotsUsed := s₂.slotsUsed }
      rw [State.setFrames_self ht]
    subst hg
    refine Or.inr ⟨q, ⟨(({ U with heap := s₂.heap, slotsUsed := s₂.slotsUsed } : State).setVm s₂.vm), Ls ++ L, c0 + mc, s0 + ms⟩,
      ⟨X.admits, X.cas, X.clock, X.frames, X.room, X.hears, X.method, X.code, (X.here.setHeapUsed s₂.heap s₂.slotsUsed).setVm hW'.alike, X.tail, State.WarmedH.trans X.warmed hW', X.limits, X.bytes, X.same.trans (hsame.setVm s.vm)⟩,
      ⟨g, mk, s₂, L, E, ce, rfl, rfl, hx, hce, hcv, hcl, rfl, hL, rfl, rfl⟩, ?_⟩
    show Steps p.tables e below _ (((({ U with heap := s₂.heap, slotsUsed := s₂.slotsUsed } : State).setVm s₂.vm).setTop g).pushFrame (.throwing q))
    rw [← hs₂]
    exact hsteps
end
variable {p : Program} {l : Launch} {e : Env} {R : Room} {s : State} {m : MethodId} {args : Array Value} {below : List Frame} {meth : Method} {c : Code} {T : State} {H : Heap} {locs : List Loc} {cells slots : Nat}
theorem vx_callVX (X : Stand p l e R s m args below meth c T locs cells slots) (hexec : p.tables.exec = Jvm.exec) {own C : String} {index : Nat} {y : MethodName} {bytes : ByteArray} {maxL : Nat} {ret : Option FieldType} {hh : List (Nat × Nat × Nat × Nat)}
    (hown : s.vm.findClass own = some m.cls) (hlink : (Cond.methodLink own index y).before args s = true) (hinst : (Cond.instanceMethod y).before args s = true) (hsel : (Cond.selects C y y).before args s = true)
    (hcode : (Cond.codeWith y bytes maxL ret hh).before args s = true) (hy : y.cls ≠ "java/lang/invoke/MethodHandle" ∧ y.cls ≠ "java/lang/invoke/VarHandle")
    {W9 : Nat} {Pre : Pt → Array Value → Prop} {Post : Pt → Array Value → Option Value → Pt → Prop} {PostX : Pt → Array Value → Addr → Pt → Prop} (hK : vx_Back l R p e below s args y 3 W9 Pre Post PostX)
    {b : Addr} {cellB : Cell} (hcell : T.heap[b]? = some cellB) (hobj : cellB.vm.isStatics = false) (hcls : s.vm.findClass C = some cellB.cls)
    {g : JFrame} (hg : g.method = m) (hsize : g.locals.size = c.maxLocals) {argsL rest : List Value} (hlen : ∀ sig, parseMethodDescriptor y.desc = some sig → argsL.length = sig.parameters.length)
    (hstack : g.stack = argsL.reverse ++ .ref b :: rest) (hW : 2 * g.monitorRoom + (rest.map fun v => v.category).sum ≤ W9) (hdg : decode c.code g.pc = .ok (.invokevirtual index, 3))
    (hpre : ∀ vm₁, s.WarmedH vm₁ → Pre ⟨T.setVm vm₁, locs, cells, slots⟩ (Value.ref b :: argsL).toArray) :
    (∃ (v : Option Value) (vm₁ : Vm) (B : Pt), s.WarmedH vm₁ ∧ Stand p l e R s m args below meth c B.U B.locs B.cells B.slots ∧ Post ⟨T.setVm vm₁, locs, cells, slots⟩ (Value.ref b :: argsL).toArray v B ∧
      ∀ target, Steps p.tables e below (B.U.setTop { g with pc := g.pc + 3, stack := v.toList ++ rest }) target → Steps p.tables e below (T.setTop g) target) ∨
    (∃ (q : Addr) (vm₁ : Vm) (B : Pt), s.WarmedH vm₁ ∧ Stand p l e R s m args below meth c B.U B.locs B.cells B.slots ∧ PostX ⟨T.setVm vm₁, locs, cells, slots⟩ (Value.ref b :: argsL).toArray q B ∧
      Steps p.tables e below (T.setTop g) ((B.U.setTop { g with stack := rest }).pushFrame (.throwing q))) := by
  obtain ⟨mk, methM, hnamed, hmethM, hstM, habM⟩ := Cond.instanceMethod_spec hinst
  obtain ⟨m8, methM', cM, hn8, hmethM', -, -, -, -, -, -, hsigM⟩ := Cond.codeWith_spec hcode
  cases Option.some.inj (hn8.symm.trans hnamed)
  cases hmethM.symm.trans hmethM'
  obtain ⟨c2, r2, m2, q1, q2, q3, q4, kP, hkP, hkPi⟩ := Cond.selects_spec hsel
  cases hcls.symm.trans q1
  cases (State.methodFound?_of_named hnamed hy).symm.trans q2
  cases hnamed.symm.trans q3
  have hselP : selectMethod e.platform s.vm cellB.cls mk = .method mk := by rw [Launch.admits_selectMethod X.admits]; exact q4
  obtain ⟨vm₁, X₁, hstep₁⟩ := X.invokevirtual hexec hown hlink hnamed hmethM hstM hkP hkPi hy (a := b) (cell := cellB) hcell
    (fun z h => by rw [h] at hobj; cases hobj) hselP hmethM habM hkP hkPi (g := g) hg (argsL := argsL) (rest := rest) (hlen _ hsigM) hstack hdg
  rcases hK m meth c ⟨T.setVm vm₁, locs, cells, slots⟩ { g with stack := rest } (.invokevirtual index) mk (Value.ref b :: argsL).toArray X₁ hg hsize hdg hW (X₁.named hnamed) (hpre vm₁ X₁.warmed) with ⟨v, B, X', hpost, hsteps⟩ | ⟨q, B, X', hpost, hsteps⟩
  · exact Or.inl ⟨v, vm₁, B, X₁.warmed, X', hpost, fun target h => hstep₁ _ fun acts => by rw [doInvoke_state]; exact hsteps.trans h⟩
  · exact Or.inr ⟨q, vm₁, B, X₁.warmed, X', hpost, hstep₁ _ fun acts => by rw [doInvoke_state]; exact hsteps⟩
theorem vx_callSX (X : Stand p l e R s m args below meth c T locs cells slots) (hexec : p.tables.exec = Jvm.exec) {own : String} {index : Nat} {y : MethodName} {bytes : ByteArray} {maxL : Nat} {ret : Option FieldType} {hh : List (Nat × Nat × Nat × Nat)}
    (hown : s.vm.findClass own = some m.cls) (hlink : (Cond.methodLink own index y).before args s = true) (hstat : (Cond.static y).before args s = true) (hinit : (Cond.initialized y.cls).before args s = true)
    (hcode : (Cond.codeWith y bytes maxL ret hh).before args s = true) (hy : y.cls ≠ "java/lang/invoke/MethodHandle" ∧ y.cls ≠ "java/lang/invoke/VarHandle")
    {W9 : Nat} {Pre : Pt → Array Value → Prop} {Post : Pt → Array Value → Option Value → Pt → Prop} {PostX : Pt → Array Value → Addr → Pt → Prop} (hK : vx_Back l R p e below s args y 3 W9 Pre Post PostX)
    {g : JFrame} (hg : g.method = m) (hsize : g.locals.size = c.maxLocals) {argsL rest : List Value} (hlen : ∀ sig, parseMethodDescriptor y.desc = some sig → argsL.length = sig.parameters.length)
    (hstack : g.stack = argsL.reverse ++ rest) (hW : 2 * g.monitorRoom + (rest.map fun v => v.category).sum ≤ W9) (hdg : decode c.code g.pc = .ok (.invokestatic index, 3))
    (hpre : ∀ vm₁, s.WarmedH vm₁ → Pre ⟨T.setVm vm₁, locs, cells, slots⟩ argsL.toArray) :
    (∃ (v : Option Value) (vm₁ : Vm) (B : Pt), s.WarmedH vm₁ ∧ Stand p l e R s m args below meth c B.U B.locs B.cells B.slots ∧ Post ⟨T.setVm vm₁, locs, cells, slots⟩ argsL.toArray v B ∧
      ∀ target, Steps p.tables e below (B.U.setTop { g with pc := g.pc + 3, stack := v.toList ++ rest }) target → Steps p.tables e below (T.setTop g) target) ∨
    (∃ (q : Addr) (vm₁ : Vm) (B : Pt), s.WarmedH vm₁ ∧ Stand p l e R s m args below meth c B.U B.locs B.cells B.slots ∧ PostX ⟨T.setVm vm₁, locs, cells, slots⟩ argsL.toArray q B ∧
      Steps p.tables e below (T.setTop g) ((B.U.setTop { g with stack := rest }).pushFrame (.throwing q))) := by
  obtain ⟨mk, methM, cM, hnamed, hmethM, -, -, -, -, -, -, hsigM⟩ := Cond.codeWith_spec hcode
  have hstatic : methM.isStatic = true := Cond.static_spec hnamed hmethM hstat
  obtain ⟨kP, hkP, -⟩ := className_of_methodNamed hnamed
  have hinitP : kP.init = .initialized := Cond.initialized_spec (findClass_of_methodNamed hnamed) hkP hinit
  obtain ⟨vm₁, X₁, hstep₁⟩ := X.invokestatic hexec hown hlink hnamed hmethM hstatic hkP hinitP hy (g := g) hg (argsL := argsL) (rest := rest) (hlen _ hsigM) hstack hdg
  rcases hK m meth c ⟨T.setVm vm₁, locs, cells, slots⟩ { g with stack := rest } (.invokestatic index) mk argsL.toArray X₁ hg hsize hdg hW (X₁.named hnamed) (hpre vm₁ X₁.warmed) with ⟨v, B, X', hpost, hsteps⟩ | ⟨q, B, X', hpost, hsteps⟩
  · exact Or.inl ⟨v, vm₁, B, X₁.warmed, X', hpost, fun target h => hstep₁ _ fun acts => by rw [doInvoke_state]; exact hsteps.trans h⟩
  · exact Or.inr ⟨q, vm₁, B, X₁.warmed, X', hpost, hstep₁ _ fun acts => by rw [doInvoke_state]; exact hsteps⟩
theorem vx_callVW (X : Stand p l e R s m args below meth c T locs cells slots) (hexec : p.tables.exec = Jvm.exec) {own C : String} {index : Nat} {y : MethodName} {bytes : ByteArray} {maxL : Nat} {ret : Option FieldType} {hh : List (Nat × Nat × Nat × Nat)}
    (hown : s.vm.findClass own = some m.cls) (hlink : (Cond.methodLink own index y).before args s = true) (hinst : (Cond.instanceMethod y).before args s = true) (hsel : (Cond.selects C y y).before args s = true)
    (hcode : (Cond.codeWith y bytes maxL ret hh).before args s = true) (hy : y.cls ≠ "java/lang/invoke/MethodHandle" ∧ y.cls ≠ "java/lang/invoke/VarHandle")
    {W9 : Nat} {Pre : Pt → Array Value → Prop} {Post : Pt → Array Value → Option Value → Pt → Prop} (hK : Back l R p e below s args y 3 W9 Pre Post)
    {b : Addr} {cellB : Cell} (hcell : T.heap[b]? = some cellB) (hobj : cellB.vm.isStatics = false) (hcls : s.vm.findClass C = some cellB.cls)
    {g : JFrame} (hg : g.method = m) (hsize : g.locals.size = c.maxLocals) {argsL rest : List Value} (hlen : ∀ sig, parseMethodDescriptor y.desc = some sig → argsL.length = sig.parameters.length)
    (hstack : g.stack = argsL.reverse ++ .ref b :: rest) (hW : 2 * g.monitorRoom + (rest.map fun v => v.category).sum ≤ W9) (hdg : decode c.code g.pc = .ok (.invokevirtual index, 3))
    (hpre : ∀ vm₁, s.WarmedH vm₁ → Pre ⟨T.setVm vm₁, locs, cells, slots⟩ (Value.ref b :: argsL).toArray) :
    ∃ (v : Option Value) (vm₁ : Vm) (B : Pt), s.WarmedH vm₁ ∧ Stand p l e R s m args below meth c B.U B.locs B.cells B.slots ∧ Post ⟨T.setVm vm₁, locs, cells, slots⟩ (Value.ref b :: argsL).toArray v B ∧
      ∀ target, Steps p.tables e below (B.U.setTop { g with pc := g.pc + 3, stack := v.toList ++ rest }) target → Steps p.tables e below (T.setTop g) target := by
  obtain ⟨mk, methM, hnamed, hmethM, hstM, habM⟩ := Cond.instanceMethod_spec hinst
  obtain ⟨m8, methM', cM, hn8, hmethM', -, -, -, -, -, -, hsigM⟩ := Cond.codeWith_spec hcode
  cases Option.some.inj (hn8.symm.trans hnamed)
  cases hmethM.symm.trans hmethM'
  obtain ⟨c2, r2, m2, q1, q2, q3, q4, kP, hkP, hkPi⟩ := Cond.selects_spec hsel
  cases hcls.symm.trans q1
  cases (State.methodFound?_of_named hnamed hy).symm.trans q2
  cases hnamed.symm.trans q3
  have hselP : selectMethod e.platform s.vm cellB.cls mk = .method mk := by rw [Launch.admits_selectMethod X.admits]; exact q4
  obtain ⟨vm₁, X₁, hstep₁⟩ := X.invokevirtual hexec hown hlink hnamed hmethM hstM hkP hkPi hy (a := b) (cell := cellB) hcell
    (fun z h => by rw [h] at hobj; cases hobj) hselP hmethM habM hkP hkPi (g := g) hg (argsL := argsL) (rest := rest) (hlen _ hsigM) hstack hdg
  obtain ⟨v, B, X', hpost, hsteps⟩ := hK m meth c ⟨T.setVm vm₁, locs, cells, slots⟩ { g with stack := rest } (.invokevirtual index) mk (Value.ref b :: argsL).toArray X₁ hg hsize hdg hW (X₁.named hnamed) (hpre vm₁ X₁.warmed)
  exact ⟨v, vm₁, B, X₁.warmed, X', hpost, fun target h => hstep₁ _ fun acts => by rw [doInvoke_state]; exact hsteps.trans h⟩
abbrev vx_CVW (R : Room) (s : State) (args : Array Value) (own C : String) (index : Nat) (y : MethodName) (bytes : ByteArray) (maxL : Nat) (ret : Option FieldType) (hh : List (Nat × Nat × Nat × Nat)) (ws : List Cond) (rm : Room) (mc ms n : Nat) : Prop :=
  (rm.cells = mc ∧ rm.slots = ms ∧ rm.frames + 1 ≤ R.frames ∧ 8 + (maxL + 11) + rm.locals ≤ R.locals ∧ (∀ w ∈ ws, ∀ (a' : Array Value) (U : State), s.WarmedH U.vm → w.before a' U = true) ∧ Cond.codeWith y bytes maxL ret hh ∈ ws) ∧
  (Cond.codeWith y bytes maxL ret hh).before args s = true ∧ (Cond.initialized y.cls).before args s = true ∧ (y.cls ≠ "java/lang/invoke/MethodHandle" ∧ y.cls ≠ "java/lang/invoke/VarHandle") ∧
  (∀ sig, parseMethodDescriptor y.desc = some sig → n = sig.parameters.length) ∧ (Cond.methodLink own index y).before args s = true ∧ (Cond.instanceMethod y).before args s = true ∧ (Cond.selects C y y).before args s = true
theorem vx_cwVW {own C : String} {index maxL mc ms : Nat} {y : MethodName} {bytes : ByteArray} {ret : Option FieldType} {hh : List (Nat × Nat × Nat × Nat)} {Ts ws ws' : List Cond} {rm : Room} (n : Nat) (ht : ∀ w ∈ Ts, w.before args s = true) (hT : GoodIn Ts (wsV own index C y ws)) (hw : ws = Cond.codeWith y bytes maxL ret hh :: ws') (hrc : rm.cells = mc) (hrs : rm.slots = ms)
    (hd : y.cls = C ∧ y.cls ≠ "java/lang/invoke/MethodHandle" ∧ y.cls ≠ "java/lang/invoke/VarHandle" ∧ (parseMethodDescriptor y.desc).map (fun d => d.parameters.length) = some n) (hR : rm.frames + 1 ≤ R.frames ∧ 8 + (maxL + 11) + rm.locals ≤ R.locals) :
    vx_CVW R s args own C index y bytes maxL ret hh ws rm mc ms n := by
  obtain ⟨hC, hd⟩ := hd
  subst hC
  have ok : ∀ w ∈ wsV own index y.cls y ws, w.before args s = true := fun w h => ht w (hT w h).1
  have hG : GoodIn Ts ws := fun w h => hT w (by unfold wsV; exact List.mem_append_right _ h)
  have hc : Cond.codeWith y bytes maxL ret hh ∈ ws := by rw [hw]; exact List.mem_cons_self
  refine ⟨⟨hrc, hrs, hR.1, hR.2, pay_in ht hG, hc⟩, ht _ (hG _ hc).1, ok _ (by simp [wsV]), ⟨hd.1, hd.2.1⟩, fun sig h => ?_, ok _ (by simp [wsV]), ok _ (by simp [wsV]), ok _ (by simp [wsV])⟩
  have h2 := hd.2.2
  rw [h] at h2
  exact (Option.some.inj h2).symm
theorem vx_runVW {y : MethodName} {bytes cc : ByteArray} {maxL nL mc ms n index : Nat} {ret : Option FieldType} {hh : List (Nat × Nat × Nat × Nat)} {ws : List Cond} {rm : Room} {Pc : Array Value → State → Prop} {Qc : Array Value → State → Outcome → State → Prop} {free : Addr → Prop} {Ts : List Cond} {own C : String} {b : Addr} {As rest : List Value} {g : JFrame}
    (S : CallFix p m c cc nL s args Ts own) (hM : Met l y ws rm Pc Qc mc ms free) (cw : vx_CVW R s args own C index y bytes maxL ret hh ws rm mc ms n) (hp : PreV s H C b Pc As)
    (hg : g.method = m) (hn : As.length = n) (hsize : g.locals.size = nL) (hstack : g.stack = As.reverse ++ .ref b :: rest) (hW : 2 * g.monitorRoom + (rest.map fun v => v.category).sum ≤ 8) (hdg : decode cc g.pc = .ok (.invokevirtual index, 3)) (hf : cells + mc ≤ R.cells ∧ slots + ms ≤ R.slots) :
    va_Run p l e R s m args below meth c H locs cells slots mc ms g rest (Qc (Value.ref b :: As).toArray) free := by
  obtain ⟨⟨hrc, hrs, hfr, hlo, hws, hcw⟩, hcode, hini, hy, hlen, hl, hin, hse⟩ := cw
  have hK : Back l R p e below s args y 3 8 (PreOf R mc ms Pc) (PostOf Qc mc ms free) := va_backW (hh := hh) (bytes := bytes) (maxL := maxL) (ret := ret) hM hp.1 hrc hrs hfr hlo hws hcw (fun a' U hW => word_at hW (Or.inl (by first | rfl | simp [Cond.onTables, Cond.keeps, Cond.steady])) hini)
  obtain ⟨hx, hb, hml, ho, -⟩ := S
  obtain ⟨-, ⟨cellB, hcB, hoB, hclB⟩, hPc⟩ := hp
  intro T hT X
  obtain ⟨v, vm₁, ⟨U', l2, c2, s2⟩, hW₁, X', ⟨g', mk, t, L, e1, e2, hq, h1, hL, h2, h3⟩, st⟩ := vx_callVW X hx (C := C) (hh := hh) (bytes := bytes) (maxL := maxL) (ret := ret) ho hl hin hse hcode hy hK (by rw [hT]; exact hcB) hoB hclB hg (hsize.trans hml.symm) (argsL := As) (rest := rest) (fun sig h => hn.trans (hlen sig h)) hstack hW (by rw [hb]; exact hdg)
    (fun vm₁ hW₁ => ⟨hf.1, hf.2, hPc (T.setVm vm₁) hT hW₁⟩)
  dsimp only [Pt.U, Pt.locs, Pt.cells, Pt.slots] at X' e1 e2 h1 h2 h3 st
  subst h1; subst h2; subst h3
  exact ⟨v, (T.setVm vm₁).calling g' mk (Value.ref b :: As).toArray, t, U', L, hT, X', hL, e1, e2, hq, st⟩
section
variable {y : MethodName} {bytes cc : ByteArray} {maxL nL mc ms n index : Nat} {ret : Option FieldType} {ws : List Cond} {rm : Room} {Pc : Array Value → State → Prop} {Qc : Array Value → State → Outcome → State → Prop} {XC : String → State → State → Prop} {free : Addr → Prop} {Ts : List Cond} {own C : String} {b : Addr} {As rest : List Value} {g : JFrame}
theorem vx_runVX {hh : List (Nat × Nat × Nat × Nat)} (S : CallFix p m c cc nL s args Ts own) (hM : vx_Met l y ws rm Pc Qc XC mc ms free) (cw : vx_CVW R s args own C index y bytes maxL ret hh ws rm mc ms n) (hp : PreV s H C b Pc As)
    (hg : g.method = m) (hn : As.length = n) (hsize : g.locals.size = nL) (hstack : g.stack = As.reverse ++ .ref b :: rest) (hW : 2 * g.monitorRoom + (rest.map fun v => v.category).sum ≤ 8) (hdg : decode cc g.pc = .ok (.invokevirtual index, 3)) (hf : cells + mc ≤ R.cells ∧ slots + ms ≤ R.slots) :
    vx_Run p l e R s m args below meth c H locs cells slots mc ms g rest (Qc (Value.ref b :: As).toArray) XC free := by
  obtain ⟨⟨hrc, hrs, hfr, hlo, hws, hcw⟩, hcode, hini, hy, hlen, hl, hin, hse⟩ := cw
  have hK : vx_Back l R p e below s args y 3 8 (PreOf R mc ms Pc) (PostOf Qc mc ms free) (vx_Post XC mc ms free) := vx_backW (hh := hh) (bytes := bytes) (maxL := maxL) (ret := ret) hM hp.1 hrc hrs hfr hlo hws hcw (fun a' U hW => word_at hW (Or.inl (by first | rfl | simp [Cond.onTables, Cond.keeps, Cond.steady])) hini)
  obtain ⟨hx, hb, hml, ho, -⟩ := S
  obtain ⟨-, ⟨cellB, hcB, hoB, hclB⟩, hPc⟩ := hp
  intro T hT X
  rcases vx_callVX X hx (C := C) (hh := hh) (bytes := bytes) (maxL := maxL) (ret := ret) ho hl hin hse hcode hy hK (by rw [hT]; exact hcB) hoB hclB hg (hsize.trans hml.symm) (argsL := As) (rest := rest) (fun sig h => hn.trans (hlen sig h)) hstack hW (by rw [hb]; exact hdg)
    (fun vm₁ hW₁ => ⟨hf.1, hf.2, hPc (T.setVm vm₁) hT hW₁⟩) with ⟨v, vm₁, ⟨U', l2, c2, s2⟩, hW₁, X', ⟨g', mk, t, L, e1, e2, hq, h1, hL, h2, h3⟩, st⟩ | ⟨q, vm₁, ⟨U', l2, c2, s2⟩, hW₁, X', ⟨g', mk, t, L, E, ce, e1, e2, hq, hce, hcv, hcl, h1, hL, h2, h3⟩, st⟩
  · dsimp only [Pt.U, Pt.locs, Pt.cells, Pt.slots] at X' e1 e2 h1 h2 h3 st
    subst h1; subst h2; subst h3
    exact Or.inl ⟨v, (T.setVm vm₁).calling g' mk (Value.ref b :: As).toArray, t, U', L, hT, X', hL, e1, e2, hq, st⟩
  · dsimp only [Pt.U, Pt.locs, Pt.cells, Pt.slots] at X' e1 e2 h1 h2 h3 st hcl
    subst h1; subst h2; subst h3
    exact Or.inr ⟨q, (T.setVm vm₁).calling g' mk (Value.ref b :: As).toArray, t, U', L, E, ce, hT, X', hL, e1, e2, hq, hce, hcv, vx_cls hW₁ hcl, st⟩
theorem vx_runSX {hh : List (Nat × Nat × Nat × Nat)} (S : CallFix p m c cc nL s args Ts own) (hM : vx_Met l y ws rm Pc Qc XC mc ms free) (cw : vx_CSW R s args own index y bytes maxL ret hh ws rm mc ms n) (hp : PreS s H Pc As)
    (hg : g.method = m) (hn : As.length = n) (hsize : g.locals.size = nL) (hstack : g.stack = As.reverse ++ rest) (hW : 2 * g.monitorRoom + (rest.map fun v => v.category).sum ≤ 8) (hdg : decode cc g.pc = .ok (.invokestatic index, 3)) (hf : cells + mc ≤ R.cells ∧ slots + ms ≤ R.slots) :
    vx_Run p l e R s m args below meth c H locs cells slots mc ms g rest (Qc As.toArray) XC free := by
  obtain ⟨⟨hrc, hrs, hfr, hlo, hws, hcw⟩, hcode, hini, hy, hlen, hl, hstt⟩ := cw
  have hK : vx_Back l R p e below s args y 3 8 (PreOf R mc ms Pc) (PostOf Qc mc ms free) (vx_Post XC mc ms free) := vx_backW (hh := hh) (bytes := bytes) (maxL := maxL) (ret := ret) hM hp.1 hrc hrs hfr hlo hws hcw (fun a' U hW => word_at hW (Or.inl (by first | rfl | simp [Cond.onTables, Cond.keeps, Cond.steady])) hini)
  obtain ⟨hx, hb, hml, ho, -⟩ := S
  intro T hT X
  rcases vx_callSX X hx (hh := hh) (bytes := bytes) (maxL := maxL) (ret := ret) ho hl hstt hini hcode hy hK hg (hsize.trans hml.symm) (argsL := As) (rest := rest) (fun sig h => hn.trans (hlen sig h)) hstack hW (by rw [hb]; exact hdg)
    (fun vm₁ hW₁ => ⟨hf.1, hf.2, hp.2 (T.setVm vm₁) hT hW₁⟩) with ⟨v, vm₁, ⟨U', l2, c2, s2⟩, hW₁, X', ⟨g', mk, t, L, e1, e2, hq, h1, hL, h2, h3⟩, st⟩ | ⟨q, vm₁, ⟨U', l2, c2, s2⟩, hW₁, X', ⟨g', mk, t, L, E, ce, e1, e2, hq, hce, hcv, hcl, h1, hL, h2, h3⟩, st⟩
  · dsimp only [Pt.U, Pt.locs, Pt.cells, Pt.slots] at X' e1 e2 h1 h2 h3 st
    subst h1; subst h2; subst h3
    exact Or.inl ⟨v, (T.setVm vm₁).calling g' mk As.toArray, t, U', L, hT, X', hL, e1, e2, hq, st⟩
  · dsimp only [Pt.U, Pt.locs, Pt.cells, Pt.slots] at X' e1 e2 h1 h2 h3 st hcl
    subst h1; subst h2; subst h3
    exact Or.inr ⟨q, (T.setVm vm₁).calling g' mk As.toArray, t, U', L, E, ce, hT, X', hL, e1, e2, hq, hce, hcv, vx_cls hW₁ hcl, st⟩
end
end VXH
theorem vx_ofWH {l : Launch} {y : MethodName} {ws ws' : List Cond} {rm : Room} {Pc : Array Value → State → Prop} {Qc : Array Value → State → Outcome → State → Prop} {XC : String → State → State → Prop} {mc ms : Nat} {free : Addr → Prop} {cc : ByteArray} {maxL : Nat} {ret : Option FieldType} {hh : List (Nat × Nat × Nat × Nat)}
    (hy : plainName y.cls = true) (hw : ws = Cond.codeWith y cc maxL ret hh :: ws')
    (body : ∀ p e s m args below meth c s₁, BodyLoose p l y (headSpec ws rm) cc maxL ret e s m args below meth c s₁ → c.maxLocals = maxL → Pc args s →
      W p l e (headSpec ws rm).room s m args below meth c s.heap [] 0 0 (vx_MQ below Qc XC args s mc ms free) (entryFrame m args maxL)) : vx_Met l y ws rm Pc Qc XC mc ms free := by
  refine MetFree.of_bodyS (code := cc) (maxLocals := maxL) (ret := ret) hy ?_ ?_
  · intro args s m h hn
    obtain ⟨m9, meth, c, hn9, h1, h2, h3, h4, -, h5, h6, -⟩ := Cond.codeWith_spec (atoms_spec (ws := ws) h _ (by rw [hw]; exact List.mem_cons_self))
    cases hn.symm.trans hn9
    exact ⟨meth, c, h1, h2, h3, h4, h5, h6⟩
  · intro p e s m args below meth c s₁ B hml hP _
    have hh0 : s₁.heap = s.heap := by rw [B.state]; rfl
    obtain ⟨t, a1, o, b1, b2, b3⟩ := body p e s m args below meth c s₁ B hml hP s₁ hh0 (Stand.of_body B)
    exact ⟨t, o, a1, b1, b2, b3⟩
/-! ===== END ===== -/
end
section
abbrev NmX : String := "DeclareStates"
abbrev NmD : String := "DeclareStates$Declaration"
abbrev NmE : String := "DeclareStates$Event"
abbrev NmM : String := "DeclareStatesModel"
abbrev NmL : String := "DeclareStatesLaw"
def TmX : u_T := fun k => match k with
  | 0 => ("DeclareStates", "roles", "[I", true)
  | 1 => ("DeclareStates", "people", "I", false)
  | 2 => ("DeclareStates", "declarations", "[LDeclareStates$Declaration;", true)
  | 3 => ("DeclareStates", "declared", "I", false)
  | 4 => ("DeclareStates", "events", "[LDeclareStates$Event;", true)
  | 5 => ("DeclareStates", "told", "I", false)
  | 6 => ("DeclareStates", "firstWaiting", "LDeclareStates$Event;", false)
  | 7 => ("DeclareStates", "waiting", "I", false)
  | 8 => ("DeclareStates", "now", "I", false)
  | 9 => ("DeclareStates", "opens", "I", false)
  | 10 => ("DeclareStates", "closes", "I", false)
  | _ => ("DeclareStates", "failing", "I", false)
def tyX : Nat → FieldType := fun k => match k with
  | 0 => .array .int
  | 1 => .int
  | 2 => .array (.object "DeclareStates$Declaration")
  | 3 => .int
  | 4 => .array (.object "DeclareStates$Event")
  | 5 => .int
  | 6 => .object "DeclareStates$Event"
  | 7 => .int
  | 8 => .int
  | 9 => .int
  | 10 => .int
  | _ => .int
theorem nmX : ∀ a, a < 12 → ∀ b, b < 12 → a ≠ b → (TmX a).2.1 ≠ (TmX b).2.1 := by decide +kernel
theorem tyX_ok : ∀ k, k < 12 → parseFieldDescriptor (TmX k).2.2.1 = some (tyX k) := by decide +kernel
def TmD : u_T := fun k => match k with
  | 0 => ("DeclareStates$Declaration", "number", "I", true)
  | 1 => ("DeclareStates$Declaration", "kind", "I", true)
  | 2 => ("DeclareStates$Declaration", "trader", "I", true)
  | 3 => ("DeclareStates$Declaration", "state", "I", false)
  | 4 => ("DeclareStates$Declaration", "marks", "I", false)
  | 5 => ("DeclareStates$Declaration", "bars", "I", false)
  | 6 => ("DeclareStates$Declaration", "changed", "I", false)
  | 7 => ("DeclareStates$Declaration", "asker", "I", false)
  | 8 => ("DeclareStates$Declaration", "reason", "I", false)
  | 9 => ("DeclareStates$Declaration", "writings", "I", false)
  | 10 => ("DeclareStates$Declaration", "firstWritten", "LDeclareStates$Event;", false)
  | _ => ("DeclareStates$Declaration", "lastWritten", "LDeclareStates$Event;", false)
def tyD : Nat → FieldType := fun k => match k with
  | 0 => .int
  | 1 => .int
  | 2 => .int
  | 3 => .int
  | 4 => .int
  | 5 => .int
  | 6 => .int
  | 7 => .int
  | 8 => .int
  | 9 => .int
  | 10 => .object "DeclareStates$Event"
  | _ => .object "DeclareStates$Event"
theorem nmD : ∀ a, a < 12 → ∀ b, b < 12 → a ≠ b → (TmD a).2.1 ≠ (TmD b).2.1 := by decide +kernel
theorem tyD_ok : ∀ k, k < 12 → parseFieldDescriptor (TmD k).2.2.1 = some (tyD k) := by decide +kernel
def TmE : u_T := fun k => match k with
  | 0 => ("DeclareStates$Event", "declaration", "LDeclareStates$Declaration;", true)
  | 1 => ("DeclareStates$Event", "kind", "I", true)
  | 2 => ("DeclareStates$Event", "who", "I", true)
  | 3 => ("DeclareStates$Event", "time", "I", true)
  | 4 => ("DeclareStates$Event", "result", "I", false)
  | _ => ("DeclareStates$Event", "next", "LDeclareStates$Event;", false)
def tyE : Nat → FieldType := fun k => match k with
  | 0 => .object "DeclareStates$Declaration"
  | 1 => .int
  | 2 => .int
  | 3 => .int
  | 4 => .int
  | _ => .object "DeclareStates$Event"
theorem nmE : ∀ a, a < 6 → ∀ b, b < 6 → a ≠ b → (TmE a).2.1 ≠ (TmE b).2.1 := by decide +kernel
theorem tyE_ok : ∀ k, k < 6 → parseFieldDescriptor (TmE k).2.2.1 = some (tyE k) := by decide +kernel
def TmM : u_T := fun k => match k with
  | 0 => ("DeclareStatesModel", "thrown", "I", false)
  | 1 => ("DeclareStatesModel", "now", "I", false)
  | 2 => ("DeclareStatesModel", "people", "I", false)
  | 3 => ("DeclareStatesModel", "role", "[I", true)
  | 4 => ("DeclareStatesModel", "declarations", "I", false)
  | 5 => ("DeclareStatesModel", "kind", "[I", true)
  | 6 => ("DeclareStatesModel", "trader", "[I", true)
  | 7 => ("DeclareStatesModel", "state", "[I", true)
  | 8 => ("DeclareStatesModel", "marks", "[I", true)
  | 9 => ("DeclareStatesModel", "bars", "[I", true)
  | 10 => ("DeclareStatesModel", "changed", "[I", true)
  | 11 => ("DeclareStatesModel", "asked", "[I", true)
  | 12 => ("DeclareStatesModel", "reason", "[I", true)
  | 13 => ("DeclareStatesModel", "events", "I", false)
  | 14 => ("DeclareStatesModel", "eventOf", "[I", true)
  | 15 => ("DeclareStatesModel", "eventKind", "[I", true)
  | 16 => ("DeclareStatesModel", "eventBy", "[I", true)
  | 17 => ("DeclareStatesModel", "eventTime", "[I", true)
  | 18 => ("DeclareStatesModel", "waits", "[Z", true)
  | 19 => ("DeclareStatesModel", "result", "[I", true)
  | 20 => ("DeclareStatesModel", "turn", "[I", true)
  | 21 => ("DeclareStatesModel", "turns", "I", false)
  | 22 => ("DeclareStatesModel", "opens", "I", false)
  | 23 => ("DeclareStatesModel", "closes", "I", false)
  | _ => ("DeclareStatesModel", "failing", "[Z", true)
def tyM : Nat → FieldType := fun k => match k with
  | 0 => .int
  | 1 => .int
  | 2 => .int
  | 3 => .array .int
  | 4 => .int
  | 5 => .array .int
  | 6 => .array .int
  | 7 => .array .int
  | 8 => .array .int
  | 9 => .array .int
  | 10 => .array .int
  | 11 => .array .int
  | 12 => .array .int
  | 13 => .int
  | 14 => .array .int
  | 15 => .array .int
  | 16 => .array .int
  | 17 => .array .int
  | 18 => .array .boolean
  | 19 => .array .int
  | 20 => .array .int
  | 21 => .int
  | 22 => .int
  | 23 => .int
  | _ => .array .boolean
theorem nmM : ∀ a, a < 25 → ∀ b, b < 25 → a ≠ b → (TmM a).2.1 ≠ (TmM b).2.1 := by decide +kernel
theorem tyM_ok : ∀ k, k < 25 → parseFieldDescriptor (TmM k).2.2.1 = some (tyM k) := by decide +kernel
abbrev cX_init : ByteArray := prog_1_method_1_code
abbrev yX_init : MethodName := ⟨"DeclareStates", "<init>", "()V"⟩
abbrev cX_hours : ByteArray := prog_1_method_6_code
abbrev yX_hours : MethodName := ⟨"DeclareStates", "hours", "(II)Z"⟩
abbrev cX_fails : ByteArray := prog_1_method_7_code
abbrev yX_fails : MethodName := ⟨"DeclareStates", "fails", "(IZ)Z"⟩
abbrev cX_isWithin : ByteArray := prog_1_method_15_code
abbrev yX_isWithin : MethodName := ⟨"DeclareStates", "isWithin", "(II)Z"⟩
abbrev cX_isFailing : ByteArray := prog_1_method_20_code
abbrev yX_isFailing : MethodName := ⟨"DeclareStates", "isFailing", "(I)Z"⟩
abbrev cX_count : ByteArray := prog_1_method_13_code
abbrev yX_count : MethodName := ⟨"DeclareStates", "count", "(I)I"⟩
abbrev cX_countOfState : ByteArray := prog_1_method_14_code
abbrev yX_countOfState : MethodName := ⟨"DeclareStates", "countOfState", "(I)I"⟩
abbrev cX_declarationAt : ByteArray := prog_1_method_18_code
abbrev yX_declarationAt : MethodName := ⟨"DeclareStates", "declarationAt", "(I)LDeclareStates$Declaration;"⟩
abbrev cL_person : ByteArray := method_3_code
abbrev yL_person : MethodName := ⟨"DeclareStatesLaw", "person", "(LDeclareStates;I[J)I"⟩
abbrev cX_person : ByteArray := prog_1_method_2_code
abbrev yX_person : MethodName := ⟨"DeclareStates", "person", "(I)I"⟩
abbrev cL_declaration : ByteArray := method_4_code
abbrev yL_declaration : MethodName := ⟨"DeclareStatesLaw", "declaration", "(LDeclareStates;II[J)I"⟩
abbrev cX_declaration : ByteArray := prog_1_method_3_code
abbrev yX_declaration : MethodName := ⟨"DeclareStates", "declaration", "(II)I"⟩
abbrev cX_roleOf : ByteArray := prog_1_method_17_code
abbrev yX_roleOf : MethodName := ⟨"DeclareStates", "roleOf", "(I)I"⟩
abbrev cX_isPerson : ByteArray := prog_1_method_16_code
abbrev yX_isPerson : MethodName := ⟨"DeclareStates", "isPerson", "(I)Z"⟩
abbrev cD_init : ByteArray := prog_2_method_1_code
abbrev yD_init : MethodName := ⟨"DeclareStates$Declaration", "<init>", "(III)V"⟩
abbrev cL_event : ByteArray := method_5_code
abbrev yL_event : MethodName := ⟨"DeclareStatesLaw", "event", "(LDeclareStates;IIII[J)I"⟩
abbrev cX_event : ByteArray := prog_1_method_4_code
abbrev yX_event : MethodName := ⟨"DeclareStates", "event", "(IIII)I"⟩
abbrev cE_init : ByteArray := prog_3_method_1_code
abbrev yE_init : MethodName := ⟨"DeclareStates$Event", "<init>", "(LDeclareStates$Declaration;III)V"⟩
abbrev cX_putInWaitingOrder : ByteArray := prog_1_method_21_code
abbrev yX_putInWaitingOrder : MethodName := ⟨"DeclareStates", "putInWaitingOrder", "(LDeclareStates$Event;)V"⟩
abbrev cE_goesAheadOf : ByteArray := prog_3_method_3_code
abbrev yE_goesAheadOf : MethodName := ⟨"DeclareStates$Event", "goesAheadOf", "(LDeclareStates$Event;)Z"⟩
abbrev cL_tick : ByteArray := method_6_code
abbrev yL_tick : MethodName := ⟨"DeclareStatesLaw", "tick", "(LDeclareStates;I[J)I"⟩
abbrev cX_tick : ByteArray := prog_1_method_5_code
abbrev yX_tick : MethodName := ⟨"DeclareStates", "tick", "(I)I"⟩
abbrev cX_settle : ByteArray := prog_1_method_22_code
abbrev yX_settle : MethodName := ⟨"DeclareStates", "settle", "(LDeclareStates$Event;)V"⟩
abbrev cX_refusalOf : ByteArray := prog_1_method_23_code
abbrev yX_refusalOf : MethodName := ⟨"DeclareStates", "refusalOf", "(LDeclareStates$Event;)I"⟩
abbrev cX_mayTell : ByteArray := prog_1_method_24_code
abbrev yX_mayTell : MethodName := ⟨"DeclareStates", "mayTell", "(LDeclareStates$Event;)Z"⟩
abbrev cX_isOfficersAct : ByteArray := prog_1_method_25_code
abbrev yX_isOfficersAct : MethodName := ⟨"DeclareStates", "isOfficersAct", "(I)Z"⟩
abbrev cX_isOpenAt : ByteArray := prog_1_method_26_code
abbrev yX_isOpenAt : MethodName := ⟨"DeclareStates", "isOpenAt", "(I)Z"⟩
abbrev cD_stateAllows : ByteArray := prog_2_method_5_code
abbrev yD_stateAllows : MethodName := ⟨"DeclareStates$Declaration", "stateAllows", "(I)Z"⟩
abbrev cD_marksAllow : ByteArray := prog_2_method_6_code
abbrev yD_marksAllow : MethodName := ⟨"DeclareStates$Declaration", "marksAllow", "(I)Z"⟩
abbrev cD_isMarked : ByteArray := prog_2_method_2_code
abbrev yD_isMarked : MethodName := ⟨"DeclareStates$Declaration", "isMarked", "(I)Z"⟩
abbrev cD_carryOut : ByteArray := prog_2_method_7_code
abbrev yD_carryOut : MethodName := ⟨"DeclareStates$Declaration", "carryOut", "(II)V"⟩
abbrev cD_become : ByteArray := prog_2_method_12_code
abbrev yD_become : MethodName := ⟨"DeclareStates$Declaration", "become", "(II)V"⟩
abbrev cD_releaseIfNothingHolds : ByteArray := prog_2_method_8_code
abbrev yD_releaseIfNothingHolds : MethodName := ⟨"DeclareStates$Declaration", "releaseIfNothingHolds", "(I)V"⟩
abbrev cD_write : ByteArray := prog_2_method_13_code
abbrev yD_write : MethodName := ⟨"DeclareStates$Declaration", "write", "(LDeclareStates$Event;)V"⟩
abbrev cL_bar : ByteArray := method_7_code
abbrev yL_bar : MethodName := ⟨"DeclareStatesLaw", "bar", "(LDeclareStates;IIZ[J)I"⟩
abbrev cX_bar : ByteArray := prog_1_method_8_code
abbrev yX_bar : MethodName := ⟨"DeclareStates", "bar", "(IIZ)I"⟩
abbrev cD_isOver : ByteArray := prog_2_method_4_code
abbrev yD_isOver : MethodName := ⟨"DeclareStates$Declaration", "isOver", "()Z"⟩
abbrev cD_hasBar : ByteArray := prog_2_method_3_code
abbrev yD_hasBar : MethodName := ⟨"DeclareStates$Declaration", "hasBar", "(I)Z"⟩
abbrev cL_invalidate : ByteArray := method_8_code
abbrev yL_invalidate : MethodName := ⟨"DeclareStatesLaw", "invalidate", "(LDeclareStates;III[J)I"⟩
abbrev cX_invalidate : ByteArray := prog_1_method_9_code
abbrev yX_invalidate : MethodName := ⟨"DeclareStates", "invalidate", "(III)I"⟩
abbrev cD_requestInvalidation : ByteArray := prog_2_method_9_code
abbrev yD_requestInvalidation : MethodName := ⟨"DeclareStates$Declaration", "requestInvalidation", "(III)I"⟩
abbrev cD_invalidateFor : ByteArray := prog_2_method_11_code
abbrev yD_invalidateFor : MethodName := ⟨"DeclareStates$Declaration", "invalidateFor", "(II)I"⟩
abbrev cD_requestAsOneOfTwo : ByteArray := prog_2_method_10_code
abbrev yD_requestAsOneOfTwo : MethodName := ⟨"DeclareStates$Declaration", "requestAsOneOfTwo", "(III)I"⟩
abbrev cL_look : ByteArray := method_9_code
abbrev yL_look : MethodName := ⟨"DeclareStatesLaw", "look", "(LDeclareStates;II[J)I"⟩
abbrev cX_look : ByteArray := prog_1_method_10_code
abbrev yX_look : MethodName := ⟨"DeclareStates", "look", "(II)I"⟩
abbrev cL_written : ByteArray := method_10_code
abbrev yL_written : MethodName := ⟨"DeclareStatesLaw", "written", "(LDeclareStates;II[J)I"⟩
abbrev cX_written : ByteArray := prog_1_method_11_code
abbrev yX_written : MethodName := ⟨"DeclareStates", "written", "(II)I"⟩
abbrev cD_writtenAt : ByteArray := prog_2_method_14_code
abbrev yD_writtenAt : MethodName := ⟨"DeclareStates$Declaration", "writtenAt", "(I)LDeclareStates$Event;"⟩
abbrev cL_of : ByteArray := method_11_code
abbrev yL_of : MethodName := ⟨"DeclareStatesLaw", "of", "(LDeclareStates;II[J)I"⟩
abbrev cX_of : ByteArray := prog_1_method_12_code
abbrev yX_of : MethodName := ⟨"DeclareStates", "of", "(II)I"⟩
abbrev cX_eventAt : ByteArray := prog_1_method_19_code
abbrev yX_eventAt : MethodName := ⟨"DeclareStates", "eventAt", "(I)LDeclareStates$Event;"⟩
abbrev cE_isWaiting : ByteArray := prog_3_method_2_code
abbrev yE_isWaiting : MethodName := ⟨"DeclareStates$Event", "isWaiting", "()Z"⟩
abbrev cM_init : ByteArray := prog_5_method_1_code
abbrev yM_init : MethodName := ⟨"DeclareStatesModel", "<init>", "()V"⟩
abbrev cM_thrown : ByteArray := prog_5_method_2_code
abbrev yM_thrown : MethodName := ⟨"DeclareStatesModel", "thrown", "()I"⟩
abbrev cM_person : ByteArray := prog_5_method_7_code
abbrev yM_person : MethodName := ⟨"DeclareStatesModel", "person", "(I)I"⟩
abbrev cM_in : ByteArray := prog_5_method_4_code
abbrev yM_in : MethodName := ⟨"DeclareStatesModel", "in", "(III)Z"⟩
abbrev cM_refuse : ByteArray := prog_5_method_3_code
abbrev yM_refuse : MethodName := ⟨"DeclareStatesModel", "refuse", "(I)I"⟩
abbrev cM_declaration : ByteArray := prog_5_method_8_code
abbrev yM_declaration : MethodName := ⟨"DeclareStatesModel", "declaration", "(II)I"⟩
abbrev cM_isPerson : ByteArray := prog_5_method_5_code
abbrev yM_isPerson : MethodName := ⟨"DeclareStatesModel", "isPerson", "(I)Z"⟩
abbrev cM_event : ByteArray := prog_5_method_10_code
abbrev yM_event : MethodName := ⟨"DeclareStatesModel", "event", "(IIII)I"⟩
abbrev cM_isOne : ByteArray := prog_5_method_6_code
abbrev yM_isOne : MethodName := ⟨"DeclareStatesModel", "isOne", "(I)Z"⟩
abbrev cM_waiting : ByteArray := prog_5_method_9_code
abbrev yM_waiting : MethodName := ⟨"DeclareStatesModel", "waiting", "()I"⟩
abbrev cM_tick : ByteArray := prog_5_method_21_code
abbrev yM_tick : MethodName := ⟨"DeclareStatesModel", "tick", "(I)I"⟩
abbrev cM_first : ByteArray := prog_5_method_20_code
abbrev yM_first : MethodName := ⟨"DeclareStatesModel", "first", "(I)I"⟩
abbrev cM_why : ByteArray := prog_5_method_16_code
abbrev yM_why : MethodName := ⟨"DeclareStatesModel", "why", "(I)I"⟩
abbrev cM_may : ByteArray := prog_5_method_12_code
abbrev yM_may : MethodName := ⟨"DeclareStatesModel", "may", "(I)Z"⟩
abbrev cM_isOfficers : ByteArray := prog_5_method_11_code
abbrev yM_isOfficers : MethodName := ⟨"DeclareStatesModel", "isOfficers", "(I)Z"⟩
abbrev cM_fits : ByteArray := prog_5_method_13_code
abbrev yM_fits : MethodName := ⟨"DeclareStatesModel", "fits", "(II)Z"⟩
abbrev cM_isMarked : ByteArray := prog_5_method_15_code
abbrev yM_isMarked : MethodName := ⟨"DeclareStatesModel", "isMarked", "(II)Z"⟩
abbrev cM_has : ByteArray := prog_5_method_14_code
abbrev yM_has : MethodName := ⟨"DeclareStatesModel", "has", "(II)Z"⟩
abbrev cM_happens : ByteArray := prog_5_method_19_code
abbrev yM_happens : MethodName := ⟨"DeclareStatesModel", "happens", "(III)V"⟩
abbrev cM_becomes : ByteArray := prog_5_method_17_code
abbrev yM_becomes : MethodName := ⟨"DeclareStatesModel", "becomes", "(III)V"⟩
abbrev cM_release : ByteArray := prog_5_method_18_code
abbrev yM_release : MethodName := ⟨"DeclareStatesModel", "release", "(II)V"⟩
abbrev cM_hours : ByteArray := prog_5_method_22_code
abbrev yM_hours : MethodName := ⟨"DeclareStatesModel", "hours", "(II)Z"⟩
abbrev cM_fails : ByteArray := prog_5_method_23_code
abbrev yM_fails : MethodName := ⟨"DeclareStatesModel", "fails", "(IZ)Z"⟩
abbrev cM_bar : ByteArray := prog_5_method_25_code
abbrev yM_bar : MethodName := ⟨"DeclareStatesModel", "bar", "(IIZ)I"⟩
abbrev cM_ones : ByteArray := prog_5_method_24_code
abbrev yM_ones : MethodName := ⟨"DeclareStatesModel", "ones", "(I)I"⟩
abbrev cM_invalidate : ByteArray := prog_5_method_26_code
abbrev yM_invalidate : MethodName := ⟨"DeclareStatesModel", "invalidate", "(III)I"⟩
abbrev cM_look : ByteArray := prog_5_method_28_code
abbrev yM_look : MethodName := ⟨"DeclareStatesModel", "look", "(II)I"⟩
abbrev cM_writtenOf : ByteArray := prog_5_method_27_code
abbrev yM_writtenOf : MethodName := ⟨"DeclareStatesModel", "writtenOf", "(I)I"⟩
abbrev cM_written : ByteArray := prog_5_method_29_code
abbrev yM_written : MethodName := ⟨"DeclareStatesModel", "written", "(II)I"⟩
abbrev cM_of : ByteArray := prog_5_method_30_code
abbrev yM_of : MethodName := ⟨"DeclareStatesModel", "of", "(II)I"⟩
abbrev cM_count : ByteArray := prog_5_method_31_code
abbrev yM_count : MethodName := ⟨"DeclareStatesModel", "count", "(I)I"⟩
/-- every word of the tables that a callee may ask for -/
def BIG : List Cond := lw_tbl.filter goodWord
theorem BIG_tbl : ∀ w ∈ BIG, w ∈ lw_tbl := fun _ h => (List.mem_filter.mp h).1
theorem bt {w : Cond} (i : Nat) (h : tables_1[i]? = some w) (g : goodWord w = true) : w ∈ BIG := List.mem_filter.mpr ⟨List.mem_append_right _ (List.mem_of_getElem? h), g⟩
theorem bs {w : Cond} (i : Nat) (h : (k2_sels lw_privs)[i]? = some w) (g : goodWord w = true) : w ∈ BIG := List.mem_filter.mpr ⟨List.mem_append_left _ (List.mem_of_getElem? h), g⟩
theorem bAll {ws : List Cond} (ps : List Nat) (hp : ws = ps.filterMap (fun i => tables_1[i]?)) (h : ws.all goodWord = true) : ∀ w ∈ ws, w ∈ BIG := by
  intro w hw
  have h1 := List.all_eq_true.mp h w hw
  rw [hp] at hw
  obtain ⟨i, -, hi⟩ := List.mem_filterMap.mp hw
  exact bt i hi h1
theorem gWord {w : Cond} (h : w ∈ BIG) : (w.onTables && w.keeps) = true ∨ ∃ ty, w = .arrayClass ty := good_of_word (List.mem_filter.mp h).2
theorem gBig {w : Cond} (h : w ∈ BIG) : w ∈ BIG ∧ ((w.onTables && w.keeps) = true ∨ ∃ ty, w = .arrayClass ty) := ⟨h, gWord h⟩
theorem gI {c : Cond} (h : c ∈ BIG) : GoodIn BIG (c :: BIG) := fun w hw => (List.mem_cons.mp hw).elim (fun e => by rw [e]; exact gBig h) gBig
theorem gV {own C : String} {idx : Nat} {y : MethodName} {c : Cond} (h1 : Cond.methodLink own idx y ∈ BIG) (h2 : Cond.instanceMethod y ∈ BIG) (h3 : Cond.selects C y y ∈ BIG) (h4 : Cond.initialized C ∈ BIG) (h5 : c ∈ BIG) : GoodIn BIG (wsV own idx C y (c :: BIG)) := by
  intro w hw
  unfold wsV at hw
  rcases List.mem_append.mp hw with h | h
  · simp only [List.mem_cons, List.not_mem_nil, or_false] at h
    rcases h with rfl | rfl | rfl | rfl
    · exact gBig h1
    · exact gBig h2
    · exact gBig h3
    · exact gBig h4
  · exact gI h5 w h
theorem gS {own : String} {idx : Nat} {y : MethodName} {c : Cond} (h1 : Cond.methodLink own idx y ∈ BIG) (h2 : Cond.static y ∈ BIG) (h4 : Cond.initialized y.cls ∈ BIG) (h5 : c ∈ BIG) : GoodIn BIG (va_wsS own idx y (c :: BIG)) := by
  intro w hw
  unfold va_wsS at hw
  rcases List.mem_append.mp hw with h | h
  · simp only [List.mem_cons, List.not_mem_nil, or_false] at h
    rcases h with rfl | rfl | rfl
    · exact gBig h1
    · exact gBig h2
    · exact gBig h4
  · exact gI h5 w h
abbrev wX_init : Cond := .code yX_init cX_init 1 none
def wsX_init : List Cond := wX_init :: BIG
theorem kc_X_init : wX_init ∈ BIG := bt 16 (by decide +kernel) (by decide +kernel)
abbrev wX_hours : Cond := .code yX_hours cX_hours 3 (some .boolean)
def wsX_hours : List Cond := wX_hours :: BIG
theorem kc_X_hours : wX_hours ∈ BIG := bt 65 (by decide +kernel) (by decide +kernel)
abbrev wX_fails : Cond := .code yX_fails cX_fails 3 (some .boolean)
def wsX_fails : List Cond := wX_fails :: BIG
theorem kc_X_fails : wX_fails ∈ BIG := bt 69 (by decide +kernel) (by decide +kernel)
abbrev wX_isWithin : Cond := .code yX_isWithin cX_isWithin 2 (some .boolean)
def wsX_isWithin : List Cond := wX_isWithin :: BIG
theorem kc_X_isWithin : wX_isWithin ∈ BIG := bt 72 (by decide +kernel) (by decide +kernel)
abbrev wX_isFailing : Cond := .code yX_isFailing cX_isFailing 2 (some .boolean)
def wsX_isFailing : List Cond := wX_isFailing :: BIG
theorem kc_X_isFailing : wX_isFailing ∈ BIG := bt 76 (by decide +kernel) (by decide +kernel)
abbrev wX_count : Cond := .code yX_count cX_count 2 (some .int)
def wsX_count : List Cond := wX_count :: BIG
theorem kc_X_count : wX_count ∈ BIG := bt 80 (by decide +kernel) (by decide +kernel)
abbrev wX_countOfState : Cond := .code yX_countOfState cX_countOfState 5 (some .int)
def wsX_countOfState : List Cond := wX_countOfState :: BIG
theorem kc_X_countOfState : wX_countOfState ∈ BIG := bt 84 (by decide +kernel) (by decide +kernel)
abbrev wX_declarationAt : Cond := .code yX_declarationAt cX_declarationAt 3 (some (.object "DeclareStates$Declaration"))
def wsX_declarationAt : List Cond := wX_declarationAt :: BIG
theorem kc_X_declarationAt : wX_declarationAt ∈ BIG := bt 88 (by decide +kernel) (by decide +kernel)
abbrev wL_person : Cond := .codeWith yL_person cL_person 4 (some .int) [(0, 9, 12, 13), (0, 9, 15, 15)]
def wsL_person : List Cond := wL_person :: BIG
theorem kc_L_person : wL_person ∈ BIG := bt 91 (by decide +kernel) (by decide +kernel)
abbrev wX_person : Cond := .code yX_person cX_person 3 (some .int)
def wsX_person : List Cond := wX_person :: BIG
theorem kc_X_person : wX_person ∈ BIG := bt 97 (by decide +kernel) (by decide +kernel)
abbrev wL_declaration : Cond := .codeWith yL_declaration cL_declaration 5 (some .int) [(0, 10, 13, 13), (0, 10, 17, 15)]
def wsL_declaration : List Cond := wL_declaration :: BIG
theorem kc_L_declaration : wL_declaration ∈ BIG := bt 184 (by decide +kernel) (by decide +kernel)
abbrev wX_declaration : Cond := .code yX_declaration cX_declaration 4 (some .int)
def wsX_declaration : List Cond := wX_declaration :: BIG
theorem kc_X_declaration : wX_declaration ∈ BIG := bt 188 (by decide +kernel) (by decide +kernel)
abbrev wX_roleOf : Cond := .code yX_roleOf cX_roleOf 2 (some .int)
def wsX_roleOf : List Cond := wX_roleOf :: BIG
theorem kc_X_roleOf : wX_roleOf ∈ BIG := bt 193 (by decide +kernel) (by decide +kernel)
abbrev wX_isPerson : Cond := .code yX_isPerson cX_isPerson 2 (some .boolean)
def wsX_isPerson : List Cond := wX_isPerson :: BIG
theorem kc_X_isPerson : wX_isPerson ∈ BIG := bt 197 (by decide +kernel) (by decide +kernel)
abbrev wD_init : Cond := .code yD_init cD_init 4 none
def wsD_init : List Cond := wD_init :: BIG
theorem kc_D_init : wD_init ∈ BIG := bt 203 (by decide +kernel) (by decide +kernel)
abbrev wL_event : Cond := .codeWith yL_event cL_event 7 (some .int) [(0, 14, 17, 13), (0, 14, 21, 15)]
def wsL_event : List Cond := wL_event :: BIG
theorem kc_L_event : wL_event ∈ BIG := bt 254 (by decide +kernel) (by decide +kernel)
abbrev wX_event : Cond := .code yX_event cX_event 8 (some .int)
def wsX_event : List Cond := wX_event :: BIG
theorem kc_X_event : wX_event ∈ BIG := bt 258 (by decide +kernel) (by decide +kernel)
abbrev wE_init : Cond := .code yE_init cE_init 5 none
def wsE_init : List Cond := wE_init :: BIG
theorem kc_E_init : wE_init ∈ BIG := bt 266 (by decide +kernel) (by decide +kernel)
abbrev wX_putInWaitingOrder : Cond := .code yX_putInWaitingOrder cX_putInWaitingOrder 4 none
def wsX_putInWaitingOrder : List Cond := wX_putInWaitingOrder :: BIG
theorem kc_X_putInWaitingOrder : wX_putInWaitingOrder ∈ BIG := bt 296 (by decide +kernel) (by decide +kernel)
abbrev wE_goesAheadOf : Cond := .code yE_goesAheadOf cE_goesAheadOf 2 (some .boolean)
def wsE_goesAheadOf : List Cond := wE_goesAheadOf :: BIG
theorem kc_E_goesAheadOf : wE_goesAheadOf ∈ BIG := bt 300 (by decide +kernel) (by decide +kernel)
abbrev wL_tick : Cond := .codeWith yL_tick cL_tick 4 (some .int) [(0, 9, 12, 13)]
def wsL_tick : List Cond := wL_tick :: BIG
theorem kc_L_tick : wL_tick ∈ BIG := bt 303 (by decide +kernel) (by decide +kernel)
abbrev wX_tick : Cond := .code yX_tick cX_tick 4 (some .int)
def wsX_tick : List Cond := wX_tick :: BIG
theorem kc_X_tick : wX_tick ∈ BIG := bt 307 (by decide +kernel) (by decide +kernel)
abbrev wX_settle : Cond := .code yX_settle cX_settle 4 none
def wsX_settle : List Cond := wX_settle :: BIG
theorem kc_X_settle : wX_settle ∈ BIG := bt 312 (by decide +kernel) (by decide +kernel)
abbrev wX_refusalOf : Cond := .code yX_refusalOf cX_refusalOf 2 (some .int)
def wsX_refusalOf : List Cond := wX_refusalOf :: BIG
theorem kc_X_refusalOf : wX_refusalOf ∈ BIG := bt 316 (by decide +kernel) (by decide +kernel)
abbrev wX_mayTell : Cond := .code yX_mayTell cX_mayTell 3 (some .boolean)
def wsX_mayTell : List Cond := wX_mayTell :: BIG
theorem kc_X_mayTell : wX_mayTell ∈ BIG := bt 320 (by decide +kernel) (by decide +kernel)
abbrev wX_isOfficersAct : Cond := .code yX_isOfficersAct cX_isOfficersAct 1 (some .boolean)
def wsX_isOfficersAct : List Cond := wX_isOfficersAct :: BIG
theorem kc_X_isOfficersAct : wX_isOfficersAct ∈ BIG := bt 323 (by decide +kernel) (by decide +kernel)
abbrev wX_isOpenAt : Cond := .code yX_isOpenAt cX_isOpenAt 3 (some .boolean)
def wsX_isOpenAt : List Cond := wX_isOpenAt :: BIG
theorem kc_X_isOpenAt : wX_isOpenAt ∈ BIG := bt 327 (by decide +kernel) (by decide +kernel)
abbrev wD_stateAllows : Cond := .code yD_stateAllows cD_stateAllows 2 (some .boolean)
def wsD_stateAllows : List Cond := wD_stateAllows :: BIG
theorem kc_D_stateAllows : wD_stateAllows ∈ BIG := bt 331 (by decide +kernel) (by decide +kernel)
abbrev wD_marksAllow : Cond := .code yD_marksAllow cD_marksAllow 2 (some .boolean)
def wsD_marksAllow : List Cond := wD_marksAllow :: BIG
theorem kc_D_marksAllow : wD_marksAllow ∈ BIG := bt 335 (by decide +kernel) (by decide +kernel)
abbrev wD_isMarked : Cond := .code yD_isMarked cD_isMarked 2 (some .boolean)
def wsD_isMarked : List Cond := wD_isMarked :: BIG
theorem kc_D_isMarked : wD_isMarked ∈ BIG := bt 339 (by decide +kernel) (by decide +kernel)
abbrev wD_carryOut : Cond := .code yD_carryOut cD_carryOut 3 none
def wsD_carryOut : List Cond := wD_carryOut :: BIG
theorem kc_D_carryOut : wD_carryOut ∈ BIG := bt 343 (by decide +kernel) (by decide +kernel)
abbrev wD_become : Cond := .code yD_become cD_become 3 none
def wsD_become : List Cond := wD_become :: BIG
theorem kc_D_become : wD_become ∈ BIG := bt 347 (by decide +kernel) (by decide +kernel)
abbrev wD_releaseIfNothingHolds : Cond := .code yD_releaseIfNothingHolds cD_releaseIfNothingHolds 3 none
def wsD_releaseIfNothingHolds : List Cond := wD_releaseIfNothingHolds :: BIG
theorem kc_D_releaseIfNothingHolds : wD_releaseIfNothingHolds ∈ BIG := bt 351 (by decide +kernel) (by decide +kernel)
abbrev wD_write : Cond := .code yD_write cD_write 2 none
def wsD_write : List Cond := wD_write :: BIG
theorem kc_D_write : wD_write ∈ BIG := bt 355 (by decide +kernel) (by decide +kernel)
abbrev wL_bar : Cond := .codeWith yL_bar cL_bar 6 (some .int) [(0, 12, 15, 13)]
def wsL_bar : List Cond := wL_bar :: BIG
theorem kc_L_bar : wL_bar ∈ BIG := bt 358 (by decide +kernel) (by decide +kernel)
abbrev wX_bar : Cond := .code yX_bar cX_bar 5 (some .int)
def wsX_bar : List Cond := wX_bar :: BIG
theorem kc_X_bar : wX_bar ∈ BIG := bt 362 (by decide +kernel) (by decide +kernel)
abbrev wD_isOver : Cond := .code yD_isOver cD_isOver 1 (some .boolean)
def wsD_isOver : List Cond := wD_isOver :: BIG
theorem kc_D_isOver : wD_isOver ∈ BIG := bt 367 (by decide +kernel) (by decide +kernel)
abbrev wD_hasBar : Cond := .code yD_hasBar cD_hasBar 2 (some .boolean)
def wsD_hasBar : List Cond := wD_hasBar :: BIG
theorem kc_D_hasBar : wD_hasBar ∈ BIG := bt 371 (by decide +kernel) (by decide +kernel)
abbrev wL_invalidate : Cond := .codeWith yL_invalidate cL_invalidate 6 (some .int) [(0, 12, 15, 13)]
def wsL_invalidate : List Cond := wL_invalidate :: BIG
theorem kc_L_invalidate : wL_invalidate ∈ BIG := bt 381 (by decide +kernel) (by decide +kernel)
abbrev wX_invalidate : Cond := .code yX_invalidate cX_invalidate 5 (some .int)
def wsX_invalidate : List Cond := wX_invalidate :: BIG
theorem kc_X_invalidate : wX_invalidate ∈ BIG := bt 385 (by decide +kernel) (by decide +kernel)
abbrev wD_requestInvalidation : Cond := .code yD_requestInvalidation cD_requestInvalidation 4 (some .int)
def wsD_requestInvalidation : List Cond := wD_requestInvalidation :: BIG
theorem kc_D_requestInvalidation : wD_requestInvalidation ∈ BIG := bt 390 (by decide +kernel) (by decide +kernel)
abbrev wD_invalidateFor : Cond := .code yD_invalidateFor cD_invalidateFor 3 (some .int)
def wsD_invalidateFor : List Cond := wD_invalidateFor :: BIG
theorem kc_D_invalidateFor : wD_invalidateFor ∈ BIG := bt 394 (by decide +kernel) (by decide +kernel)
abbrev wD_requestAsOneOfTwo : Cond := .code yD_requestAsOneOfTwo cD_requestAsOneOfTwo 4 (some .int)
def wsD_requestAsOneOfTwo : List Cond := wD_requestAsOneOfTwo :: BIG
theorem kc_D_requestAsOneOfTwo : wD_requestAsOneOfTwo ∈ BIG := bt 398 (by decide +kernel) (by decide +kernel)
abbrev wL_look : Cond := .codeWith yL_look cL_look 5 (some .int) [(0, 10, 13, 39)]
def wsL_look : List Cond := wL_look :: BIG
theorem kc_L_look : wL_look ∈ BIG := bt 401 (by decide +kernel) (by decide +kernel)
abbrev wX_look : Cond := .code yX_look cX_look 4 (some .int)
def wsX_look : List Cond := wX_look :: BIG
theorem kc_X_look : wX_look ∈ BIG := bt 406 (by decide +kernel) (by decide +kernel)
abbrev wL_written : Cond := .codeWith yL_written cL_written 5 (some .int) [(0, 10, 13, 13)]
def wsL_written : List Cond := wL_written :: BIG
theorem kc_L_written : wL_written ∈ BIG := bt 426 (by decide +kernel) (by decide +kernel)
abbrev wX_written : Cond := .code yX_written cX_written 5 (some .int)
def wsX_written : List Cond := wX_written :: BIG
theorem kc_X_written : wX_written ∈ BIG := bt 430 (by decide +kernel) (by decide +kernel)
abbrev wD_writtenAt : Cond := .code yD_writtenAt cD_writtenAt 4 (some (.object "DeclareStates$Event"))
def wsD_writtenAt : List Cond := wD_writtenAt :: BIG
theorem kc_D_writtenAt : wD_writtenAt ∈ BIG := bt 434 (by decide +kernel) (by decide +kernel)
abbrev wL_of : Cond := .codeWith yL_of cL_of 5 (some .int) [(0, 10, 13, 39)]
def wsL_of : List Cond := wL_of :: BIG
theorem kc_L_of : wL_of ∈ BIG := bt 437 (by decide +kernel) (by decide +kernel)
abbrev wX_of : Cond := .code yX_of cX_of 4 (some .int)
def wsX_of : List Cond := wX_of :: BIG
theorem kc_X_of : wX_of ∈ BIG := bt 441 (by decide +kernel) (by decide +kernel)
abbrev wX_eventAt : Cond := .code yX_eventAt cX_eventAt 3 (some (.object "DeclareStates$Event"))
def wsX_eventAt : List Cond := wX_eventAt :: BIG
theorem kc_X_eventAt : wX_eventAt ∈ BIG := bt 445 (by decide +kernel) (by decide +kernel)
abbrev wE_isWaiting : Cond := .code yE_isWaiting cE_isWaiting 1 (some .boolean)
def wsE_isWaiting : List Cond := wE_isWaiting :: BIG
theorem kc_E_isWaiting : wE_isWaiting ∈ BIG := bt 450 (by decide +kernel) (by decide +kernel)
abbrev wM_init : Cond := .code yM_init cM_init 1 none
def wsM_init : List Cond := wM_init :: BIG
theorem kc_M_init : wM_init ∈ BIG := bt 455 (by decide +kernel) (by decide +kernel)
abbrev wM_thrown : Cond := .code yM_thrown cM_thrown 1 (some .int)
def wsM_thrown : List Cond := wM_thrown :: BIG
theorem kc_M_thrown : wM_thrown ∈ BIG := bt 537 (by decide +kernel) (by decide +kernel)
abbrev wM_person : Cond := .code yM_person cM_person 2 (some .int)
def wsM_person : List Cond := wM_person :: BIG
theorem kc_M_person : wM_person ∈ BIG := bt 541 (by decide +kernel) (by decide +kernel)
abbrev wM_in : Cond := .code yM_in cM_in 3 (some .boolean)
def wsM_in : List Cond := wM_in :: BIG
theorem kc_M_in : wM_in ∈ BIG := bt 544 (by decide +kernel) (by decide +kernel)
abbrev wM_refuse : Cond := .code yM_refuse cM_refuse 2 (some .int)
def wsM_refuse : List Cond := wM_refuse :: BIG
theorem kc_M_refuse : wM_refuse ∈ BIG := bt 548 (by decide +kernel) (by decide +kernel)
abbrev wM_declaration : Cond := .code yM_declaration cM_declaration 3 (some .int)
def wsM_declaration : List Cond := wM_declaration :: BIG
theorem kc_M_declaration : wM_declaration ∈ BIG := bt 552 (by decide +kernel) (by decide +kernel)
abbrev wM_isPerson : Cond := .code yM_isPerson cM_isPerson 2 (some .boolean)
def wsM_isPerson : List Cond := wM_isPerson :: BIG
theorem kc_M_isPerson : wM_isPerson ∈ BIG := bt 556 (by decide +kernel) (by decide +kernel)
abbrev wM_event : Cond := .code yM_event cM_event 5 (some .int)
def wsM_event : List Cond := wM_event :: BIG
theorem kc_M_event : wM_event ∈ BIG := bt 560 (by decide +kernel) (by decide +kernel)
abbrev wM_isOne : Cond := .code yM_isOne cM_isOne 2 (some .boolean)
def wsM_isOne : List Cond := wM_isOne :: BIG
theorem kc_M_isOne : wM_isOne ∈ BIG := bt 564 (by decide +kernel) (by decide +kernel)
abbrev wM_waiting : Cond := .code yM_waiting cM_waiting 3 (some .int)
def wsM_waiting : List Cond := wM_waiting :: BIG
theorem kc_M_waiting : wM_waiting ∈ BIG := bt 569 (by decide +kernel) (by decide +kernel)
abbrev wM_tick : Cond := .code yM_tick cM_tick 5 (some .int)
def wsM_tick : List Cond := wM_tick :: BIG
theorem kc_M_tick : wM_tick ∈ BIG := bt 573 (by decide +kernel) (by decide +kernel)
abbrev wM_first : Cond := .code yM_first cM_first 6 (some .int)
def wsM_first : List Cond := wM_first :: BIG
theorem kc_M_first : wM_first ∈ BIG := bt 577 (by decide +kernel) (by decide +kernel)
abbrev wM_why : Cond := .code yM_why cM_why 4 (some .int)
def wsM_why : List Cond := wM_why :: BIG
theorem kc_M_why : wM_why ∈ BIG := bt 581 (by decide +kernel) (by decide +kernel)
abbrev wM_may : Cond := .code yM_may cM_may 4 (some .boolean)
def wsM_may : List Cond := wM_may :: BIG
theorem kc_M_may : wM_may ∈ BIG := bt 585 (by decide +kernel) (by decide +kernel)
abbrev wM_isOfficers : Cond := .code yM_isOfficers cM_isOfficers 1 (some .boolean)
def wsM_isOfficers : List Cond := wM_isOfficers :: BIG
theorem kc_M_isOfficers : wM_isOfficers ∈ BIG := bt 588 (by decide +kernel) (by decide +kernel)
abbrev wM_fits : Cond := .code yM_fits cM_fits 4 (some .boolean)
def wsM_fits : List Cond := wM_fits :: BIG
theorem kc_M_fits : wM_fits ∈ BIG := bt 592 (by decide +kernel) (by decide +kernel)
abbrev wM_isMarked : Cond := .code yM_isMarked cM_isMarked 3 (some .boolean)
def wsM_isMarked : List Cond := wM_isMarked :: BIG
theorem kc_M_isMarked : wM_isMarked ∈ BIG := bt 596 (by decide +kernel) (by decide +kernel)
abbrev wM_has : Cond := .code yM_has cM_has 3 (some .boolean)
def wsM_has : List Cond := wM_has :: BIG
theorem kc_M_has : wM_has ∈ BIG := bt 600 (by decide +kernel) (by decide +kernel)
abbrev wM_happens : Cond := .code yM_happens cM_happens 6 none
def wsM_happens : List Cond := wM_happens :: BIG
theorem kc_M_happens : wM_happens ∈ BIG := bt 604 (by decide +kernel) (by decide +kernel)
abbrev wM_becomes : Cond := .code yM_becomes cM_becomes 4 none
def wsM_becomes : List Cond := wM_becomes :: BIG
theorem kc_M_becomes : wM_becomes ∈ BIG := bt 608 (by decide +kernel) (by decide +kernel)
abbrev wM_release : Cond := .code yM_release cM_release 3 none
def wsM_release : List Cond := wM_release :: BIG
theorem kc_M_release : wM_release ∈ BIG := bt 612 (by decide +kernel) (by decide +kernel)
abbrev wM_hours : Cond := .code yM_hours cM_hours 3 (some .boolean)
def wsM_hours : List Cond := wM_hours :: BIG
theorem kc_M_hours : wM_hours ∈ BIG := bt 616 (by decide +kernel) (by decide +kernel)
abbrev wM_fails : Cond := .code yM_fails cM_fails 3 (some .boolean)
def wsM_fails : List Cond := wM_fails :: BIG
theorem kc_M_fails : wM_fails ∈ BIG := bt 620 (by decide +kernel) (by decide +kernel)
abbrev wM_bar : Cond := .code yM_bar cM_bar 4 (some .int)
def wsM_bar : List Cond := wM_bar :: BIG
theorem kc_M_bar : wM_bar ∈ BIG := bt 624 (by decide +kernel) (by decide +kernel)
abbrev wM_ones : Cond := .code yM_ones cM_ones 3 (some .int)
def wsM_ones : List Cond := wM_ones :: BIG
theorem kc_M_ones : wM_ones ∈ BIG := bt 627 (by decide +kernel) (by decide +kernel)
abbrev wM_invalidate : Cond := .code yM_invalidate cM_invalidate 5 (some .int)
def wsM_invalidate : List Cond := wM_invalidate :: BIG
theorem kc_M_invalidate : wM_invalidate ∈ BIG := bt 631 (by decide +kernel) (by decide +kernel)
abbrev wM_look : Cond := .code yM_look cM_look 3 (some .int)
def wsM_look : List Cond := wM_look :: BIG
theorem kc_M_look : wM_look ∈ BIG := bt 635 (by decide +kernel) (by decide +kernel)
abbrev wM_writtenOf : Cond := .code yM_writtenOf cM_writtenOf 4 (some .int)
def wsM_writtenOf : List Cond := wM_writtenOf :: BIG
theorem kc_M_writtenOf : wM_writtenOf ∈ BIG := bt 639 (by decide +kernel) (by decide +kernel)
abbrev wM_written : Cond := .code yM_written cM_written 6 (some .int)
def wsM_written : List Cond := wM_written :: BIG
theorem kc_M_written : wM_written ∈ BIG := bt 643 (by decide +kernel) (by decide +kernel)
abbrev wM_of : Cond := .code yM_of cM_of 3 (some .int)
def wsM_of : List Cond := wM_of :: BIG
theorem kc_M_of : wM_of ∈ BIG := bt 647 (by decide +kernel) (by decide +kernel)
abbrev wM_count : Cond := .code yM_count cM_count 4 (some .int)
def wsM_count : List Cond := wM_count :: BIG
theorem kc_M_count : wM_count ∈ BIG := bt 651 (by decide +kernel) (by decide +kernel)
theorem inBX : ∀ w ∈ u_ws NmX TmX 12, w ∈ BIG := bAll [36, 38, 40, 42, 44, 46, 48, 50, 52, 54, 56, 58] (by decide +kernel) (by decide +kernel)
theorem inBD : ∀ w ∈ u_ws NmD TmD 12, w ∈ BIG := bAll [227, 229, 231, 233, 235, 237, 239, 241, 243, 245, 247, 249] (by decide +kernel) (by decide +kernel)
theorem inBE : ∀ w ∈ u_ws NmE TmE 6, w ∈ BIG := bAll [280, 282, 284, 286, 288, 290] (by decide +kernel) (by decide +kernel)
theorem inBM : ∀ w ∈ u_ws NmM TmM 25, w ∈ BIG := bAll [482, 484, 486, 488, 490, 492, 494, 496, 498, 500, 502, 504, 506, 508, 510, 512, 514, 516, 518, 520, 522, 524, 526, 528, 530] (by decide +kernel) (by decide +kernel)
theorem ini_L : Cond.initialized "DeclareStatesLaw" ∈ BIG := bt 0 (by decide +kernel) (by decide +kernel)
theorem ini_X : Cond.initialized "DeclareStates" ∈ BIG := bt 1 (by decide +kernel) (by decide +kernel)
theorem ini_M : Cond.initialized "DeclareStatesModel" ∈ BIG := bt 2 (by decide +kernel) (by decide +kernel)
theorem ini_java_lang_Throwable : Cond.initialized "java/lang/Throwable" ∈ BIG := bt 3 (by decide +kernel) (by decide +kernel)
theorem ini_java_lang_Exception : Cond.initialized "java/lang/Exception" ∈ BIG := bt 4 (by decide +kernel) (by decide +kernel)
theorem ini_java_lang_RuntimeException : Cond.initialized "java/lang/RuntimeException" ∈ BIG := bt 5 (by decide +kernel) (by decide +kernel)
theorem ini_java_lang_IllegalArgumentException : Cond.initialized "java/lang/IllegalArgumentException" ∈ BIG := bt 6 (by decide +kernel) (by decide +kernel)
theorem ini_java_lang_IllegalStateException : Cond.initialized "java/lang/IllegalStateException" ∈ BIG := bt 7 (by decide +kernel) (by decide +kernel)
theorem ini_D : Cond.initialized "DeclareStates$Declaration" ∈ BIG := bt 8 (by decide +kernel) (by decide +kernel)
theorem ini_E : Cond.initialized "DeclareStates$Event" ∈ BIG := bt 9 (by decide +kernel) (by decide +kernel)
theorem ini_java_lang_Integer : Cond.initialized "java/lang/Integer" ∈ BIG := bt 10 (by decide +kernel) (by decide +kernel)
theorem ini_java_lang_IndexOutOfBoundsException : Cond.initialized "java/lang/IndexOutOfBoundsException" ∈ BIG := bt 11 (by decide +kernel) (by decide +kernel)
theorem cl_L_8 : Cond.classLink "DeclareStatesLaw" 8 "DeclareStates" ∈ BIG := bt 12 (by decide +kernel) (by decide +kernel)
theorem inst_X : Cond.instantiable "DeclareStates" 12 ∈ BIG := bt 13 (by decide +kernel) (by decide +kernel)
theorem ml_L_47 : Cond.methodLink "DeclareStatesLaw" 47 ⟨"DeclareStates", "<init>", "()V"⟩ ∈ BIG := bt 14 (by decide +kernel) (by decide +kernel)
theorem im_X_init : Cond.instanceMethod ⟨"DeclareStates", "<init>", "()V"⟩ ∈ BIG := bt 15 (by decide +kernel) (by decide +kernel)
theorem ml_X_1 : Cond.methodLink "DeclareStates" 1 ⟨"java/lang/Object", "<init>", "()V"⟩ ∈ BIG := bt 17 (by decide +kernel) (by decide +kernel)
theorem cl_X_13 : Cond.classLink "DeclareStates" 13 "DeclareStates$Declaration" ∈ BIG := bt 20 (by decide +kernel) (by decide +kernel)
theorem cl_X_19 : Cond.classLink "DeclareStates" 19 "DeclareStates$Event" ∈ BIG := bt 22 (by decide +kernel) (by decide +kernel)
theorem fl_X_9 : Cond.fieldLink "DeclareStates" 9 "DeclareStates" "roles" "[I" ∈ BIG := bt 24 (by decide +kernel) (by decide +kernel)
theorem fl_X_43 : Cond.fieldLink "DeclareStates" 43 "DeclareStates" "people" "I" ∈ BIG := bt 25 (by decide +kernel) (by decide +kernel)
theorem fl_X_15 : Cond.fieldLink "DeclareStates" 15 "DeclareStates" "declarations" "[LDeclareStates$Declaration;" ∈ BIG := bt 26 (by decide +kernel) (by decide +kernel)
theorem fl_X_59 : Cond.fieldLink "DeclareStates" 59 "DeclareStates" "declared" "I" ∈ BIG := bt 27 (by decide +kernel) (by decide +kernel)
theorem fl_X_21 : Cond.fieldLink "DeclareStates" 21 "DeclareStates" "events" "[LDeclareStates$Event;" ∈ BIG := bt 28 (by decide +kernel) (by decide +kernel)
theorem fl_X_83 : Cond.fieldLink "DeclareStates" 83 "DeclareStates" "told" "I" ∈ BIG := bt 29 (by decide +kernel) (by decide +kernel)
theorem fl_X_100 : Cond.fieldLink "DeclareStates" 100 "DeclareStates" "firstWaiting" "LDeclareStates$Event;" ∈ BIG := bt 30 (by decide +kernel) (by decide +kernel)
theorem fl_X_86 : Cond.fieldLink "DeclareStates" 86 "DeclareStates" "waiting" "I" ∈ BIG := bt 31 (by decide +kernel) (by decide +kernel)
theorem fl_X_77 : Cond.fieldLink "DeclareStates" 77 "DeclareStates" "now" "I" ∈ BIG := bt 32 (by decide +kernel) (by decide +kernel)
theorem fl_X_25 : Cond.fieldLink "DeclareStates" 25 "DeclareStates" "opens" "I" ∈ BIG := bt 33 (by decide +kernel) (by decide +kernel)
theorem fl_X_29 : Cond.fieldLink "DeclareStates" 29 "DeclareStates" "closes" "I" ∈ BIG := bt 34 (by decide +kernel) (by decide +kernel)
theorem fl_X_116 : Cond.fieldLink "DeclareStates" 116 "DeclareStates" "failing" "I" ∈ BIG := bt 35 (by decide +kernel) (by decide +kernel)
theorem ac_int : Cond.arrayClass .int ∈ BIG := bt 61 (by decide +kernel) (by decide +kernel)
theorem ml_L_72 : Cond.methodLink "DeclareStatesLaw" 72 ⟨"DeclareStates", "hours", "(II)Z"⟩ ∈ BIG := bt 62 (by decide +kernel) (by decide +kernel)
theorem im_X_hours : Cond.instanceMethod ⟨"DeclareStates", "hours", "(II)Z"⟩ ∈ BIG := bt 63 (by decide +kernel) (by decide +kernel)
theorem sl_X_hours : Cond.selects "DeclareStates" ⟨"DeclareStates", "hours", "(II)Z"⟩ ⟨"DeclareStates", "hours", "(II)Z"⟩ ∈ BIG := bt 64 (by decide +kernel) (by decide +kernel)
theorem ml_L_77 : Cond.methodLink "DeclareStatesLaw" 77 ⟨"DeclareStates", "fails", "(IZ)Z"⟩ ∈ BIG := bt 66 (by decide +kernel) (by decide +kernel)
theorem im_X_fails : Cond.instanceMethod ⟨"DeclareStates", "fails", "(IZ)Z"⟩ ∈ BIG := bt 67 (by decide +kernel) (by decide +kernel)
theorem sl_X_fails : Cond.selects "DeclareStates" ⟨"DeclareStates", "fails", "(IZ)Z"⟩ ⟨"DeclareStates", "fails", "(IZ)Z"⟩ ∈ BIG := bt 68 (by decide +kernel) (by decide +kernel)
theorem ml_X_32 : Cond.methodLink "DeclareStates" 32 ⟨"DeclareStates", "isWithin", "(II)Z"⟩ ∈ BIG := bt 70 (by decide +kernel) (by decide +kernel)
theorem sm_X_isWithin : Cond.static ⟨"DeclareStates", "isWithin", "(II)Z"⟩ ∈ BIG := bt 71 (by decide +kernel) (by decide +kernel)
theorem ml_X_113 : Cond.methodLink "DeclareStates" 113 ⟨"DeclareStates", "isFailing", "(I)Z"⟩ ∈ BIG := bt 73 (by decide +kernel) (by decide +kernel)
theorem im_X_isFailing : Cond.instanceMethod ⟨"DeclareStates", "isFailing", "(I)Z"⟩ ∈ BIG := bt 75 (by decide +kernel) (by decide +kernel)
theorem ml_L_99 : Cond.methodLink "DeclareStatesLaw" 99 ⟨"DeclareStates", "count", "(I)I"⟩ ∈ BIG := bt 77 (by decide +kernel) (by decide +kernel)
theorem im_X_count : Cond.instanceMethod ⟨"DeclareStates", "count", "(I)I"⟩ ∈ BIG := bt 78 (by decide +kernel) (by decide +kernel)
theorem sl_X_count : Cond.selects "DeclareStates" ⟨"DeclareStates", "count", "(I)I"⟩ ⟨"DeclareStates", "count", "(I)I"⟩ ∈ BIG := bt 79 (by decide +kernel) (by decide +kernel)
theorem ml_X_203 : Cond.methodLink "DeclareStates" 203 ⟨"DeclareStates", "countOfState", "(I)I"⟩ ∈ BIG := bt 81 (by decide +kernel) (by decide +kernel)
theorem im_X_countOfState : Cond.instanceMethod ⟨"DeclareStates", "countOfState", "(I)I"⟩ ∈ BIG := bt 83 (by decide +kernel) (by decide +kernel)
theorem ml_X_67 : Cond.methodLink "DeclareStates" 67 ⟨"DeclareStates", "declarationAt", "(I)LDeclareStates$Declaration;"⟩ ∈ BIG := bt 85 (by decide +kernel) (by decide +kernel)
theorem im_X_declarationAt : Cond.instanceMethod ⟨"DeclareStates", "declarationAt", "(I)LDeclareStates$Declaration;"⟩ ∈ BIG := bt 87 (by decide +kernel) (by decide +kernel)
theorem ml_L_51 : Cond.methodLink "DeclareStatesLaw" 51 ⟨"DeclareStatesLaw", "person", "(LDeclareStates;I[J)I"⟩ ∈ BIG := bt 89 (by decide +kernel) (by decide +kernel)
theorem sm_L_person : Cond.static ⟨"DeclareStatesLaw", "person", "(LDeclareStates;I[J)I"⟩ ∈ BIG := bt 90 (by decide +kernel) (by decide +kernel)
theorem cl_L_13 : Cond.classLink "DeclareStatesLaw" 13 "java/lang/IllegalArgumentException" ∈ BIG := bt 92 (by decide +kernel) (by decide +kernel)
theorem cl_L_15 : Cond.classLink "DeclareStatesLaw" 15 "java/lang/IllegalStateException" ∈ BIG := bt 93 (by decide +kernel) (by decide +kernel)
theorem ml_L_7 : Cond.methodLink "DeclareStatesLaw" 7 ⟨"DeclareStates", "person", "(I)I"⟩ ∈ BIG := bt 94 (by decide +kernel) (by decide +kernel)
theorem im_X_person : Cond.instanceMethod ⟨"DeclareStates", "person", "(I)I"⟩ ∈ BIG := bt 95 (by decide +kernel) (by decide +kernel)
theorem sl_X_person : Cond.selects "DeclareStates" ⟨"DeclareStates", "person", "(I)I"⟩ ⟨"DeclareStates", "person", "(I)I"⟩ ∈ BIG := bt 96 (by decide +kernel) (by decide +kernel)
theorem cl_X_36 : Cond.classLink "DeclareStates" 36 "java/lang/IllegalArgumentException" ∈ BIG := bt 98 (by decide +kernel) (by decide +kernel)
theorem inst_java_lang_IllegalArgumentException : Cond.instantiable "java/lang/IllegalArgumentException" 6 ∈ BIG := bt 99 (by decide +kernel) (by decide +kernel)
theorem inst_java_lang_Throwable : Cond.instantiable "java/lang/Throwable" 6 ∈ BIG := bt 137 (by decide +kernel) (by decide +kernel)
theorem ml_X_40 : Cond.methodLink "DeclareStates" 40 ⟨"java/lang/IllegalArgumentException", "<init>", "(Ljava/lang/String;)V"⟩ ∈ BIG := bt 140 (by decide +kernel) (by decide +kernel)
theorem ac_byte : Cond.arrayClass .byte ∈ BIG := bt 165 (by decide +kernel) (by decide +kernel)
theorem cl_X_46 : Cond.classLink "DeclareStates" 46 "java/lang/IllegalStateException" ∈ BIG := bt 166 (by decide +kernel) (by decide +kernel)
theorem inst_java_lang_IllegalStateException : Cond.instantiable "java/lang/IllegalStateException" 6 ∈ BIG := bt 167 (by decide +kernel) (by decide +kernel)
theorem ml_X_50 : Cond.methodLink "DeclareStates" 50 ⟨"java/lang/IllegalStateException", "<init>", "(Ljava/lang/String;)V"⟩ ∈ BIG := bt 176 (by decide +kernel) (by decide +kernel)
theorem ml_L_61 : Cond.methodLink "DeclareStatesLaw" 61 ⟨"DeclareStatesLaw", "declaration", "(LDeclareStates;II[J)I"⟩ ∈ BIG := bt 182 (by decide +kernel) (by decide +kernel)
theorem sm_L_declaration : Cond.static ⟨"DeclareStatesLaw", "declaration", "(LDeclareStates;II[J)I"⟩ ∈ BIG := bt 183 (by decide +kernel) (by decide +kernel)
theorem ml_L_17 : Cond.methodLink "DeclareStatesLaw" 17 ⟨"DeclareStates", "declaration", "(II)I"⟩ ∈ BIG := bt 185 (by decide +kernel) (by decide +kernel)
theorem im_X_declaration : Cond.instanceMethod ⟨"DeclareStates", "declaration", "(II)I"⟩ ∈ BIG := bt 186 (by decide +kernel) (by decide +kernel)
theorem sl_X_declaration : Cond.selects "DeclareStates" ⟨"DeclareStates", "declaration", "(II)I"⟩ ⟨"DeclareStates", "declaration", "(II)I"⟩ ∈ BIG := bt 187 (by decide +kernel) (by decide +kernel)
theorem ml_X_53 : Cond.methodLink "DeclareStates" 53 ⟨"DeclareStates", "roleOf", "(I)I"⟩ ∈ BIG := bt 190 (by decide +kernel) (by decide +kernel)
theorem im_X_roleOf : Cond.instanceMethod ⟨"DeclareStates", "roleOf", "(I)I"⟩ ∈ BIG := bt 192 (by decide +kernel) (by decide +kernel)
theorem ml_X_71 : Cond.methodLink "DeclareStates" 71 ⟨"DeclareStates", "isPerson", "(I)Z"⟩ ∈ BIG := bt 194 (by decide +kernel) (by decide +kernel)
theorem im_X_isPerson : Cond.instanceMethod ⟨"DeclareStates", "isPerson", "(I)Z"⟩ ∈ BIG := bt 196 (by decide +kernel) (by decide +kernel)
theorem inst_D : Cond.instantiable "DeclareStates$Declaration" 12 ∈ BIG := bt 200 (by decide +kernel) (by decide +kernel)
theorem ml_X_64 : Cond.methodLink "DeclareStates" 64 ⟨"DeclareStates$Declaration", "<init>", "(III)V"⟩ ∈ BIG := bt 201 (by decide +kernel) (by decide +kernel)
theorem im_D_init : Cond.instanceMethod ⟨"DeclareStates$Declaration", "<init>", "(III)V"⟩ ∈ BIG := bt 202 (by decide +kernel) (by decide +kernel)
theorem ml_D_3 : Cond.methodLink "DeclareStates$Declaration" 3 ⟨"java/lang/Object", "<init>", "()V"⟩ ∈ BIG := bt 204 (by decide +kernel) (by decide +kernel)
theorem fl_D_9 : Cond.fieldLink "DeclareStates$Declaration" 9 "DeclareStates$Declaration" "number" "I" ∈ BIG := bt 205 (by decide +kernel) (by decide +kernel)
theorem fl_X_194 : Cond.fieldLink "DeclareStates" 194 "DeclareStates$Declaration" "number" "I" ∈ BIG := bt 206 (by decide +kernel) (by decide +kernel)
theorem fl_D_15 : Cond.fieldLink "DeclareStates$Declaration" 15 "DeclareStates$Declaration" "kind" "I" ∈ BIG := bt 207 (by decide +kernel) (by decide +kernel)
theorem fl_X_154 : Cond.fieldLink "DeclareStates" 154 "DeclareStates$Declaration" "kind" "I" ∈ BIG := bt 208 (by decide +kernel) (by decide +kernel)
theorem fl_D_18 : Cond.fieldLink "DeclareStates$Declaration" 18 "DeclareStates$Declaration" "trader" "I" ∈ BIG := bt 209 (by decide +kernel) (by decide +kernel)
theorem fl_X_157 : Cond.fieldLink "DeclareStates" 157 "DeclareStates$Declaration" "trader" "I" ∈ BIG := bt 210 (by decide +kernel) (by decide +kernel)
theorem fl_D_21 : Cond.fieldLink "DeclareStates$Declaration" 21 "DeclareStates$Declaration" "state" "I" ∈ BIG := bt 211 (by decide +kernel) (by decide +kernel)
theorem fl_X_151 : Cond.fieldLink "DeclareStates" 151 "DeclareStates$Declaration" "state" "I" ∈ BIG := bt 212 (by decide +kernel) (by decide +kernel)
theorem fl_D_27 : Cond.fieldLink "DeclareStates$Declaration" 27 "DeclareStates$Declaration" "marks" "I" ∈ BIG := bt 213 (by decide +kernel) (by decide +kernel)
theorem fl_X_160 : Cond.fieldLink "DeclareStates" 160 "DeclareStates$Declaration" "marks" "I" ∈ BIG := bt 214 (by decide +kernel) (by decide +kernel)
theorem fl_D_30 : Cond.fieldLink "DeclareStates$Declaration" 30 "DeclareStates$Declaration" "bars" "I" ∈ BIG := bt 215 (by decide +kernel) (by decide +kernel)
theorem fl_X_128 : Cond.fieldLink "DeclareStates" 128 "DeclareStates$Declaration" "bars" "I" ∈ BIG := bt 216 (by decide +kernel) (by decide +kernel)
theorem fl_X_166 : Cond.fieldLink "DeclareStates" 166 "DeclareStates$Declaration" "changed" "I" ∈ BIG := bt 217 (by decide +kernel) (by decide +kernel)
theorem fl_D_56 : Cond.fieldLink "DeclareStates$Declaration" 56 "DeclareStates$Declaration" "changed" "I" ∈ BIG := bt 218 (by decide +kernel) (by decide +kernel)
theorem fl_D_24 : Cond.fieldLink "DeclareStates$Declaration" 24 "DeclareStates$Declaration" "asker" "I" ∈ BIG := bt 219 (by decide +kernel) (by decide +kernel)
theorem fl_X_169 : Cond.fieldLink "DeclareStates" 169 "DeclareStates$Declaration" "asker" "I" ∈ BIG := bt 220 (by decide +kernel) (by decide +kernel)
theorem fl_X_172 : Cond.fieldLink "DeclareStates" 172 "DeclareStates$Declaration" "reason" "I" ∈ BIG := bt 221 (by decide +kernel) (by decide +kernel)
theorem fl_D_53 : Cond.fieldLink "DeclareStates$Declaration" 53 "DeclareStates$Declaration" "reason" "I" ∈ BIG := bt 222 (by decide +kernel) (by decide +kernel)
theorem fl_X_163 : Cond.fieldLink "DeclareStates" 163 "DeclareStates$Declaration" "writings" "I" ∈ BIG := bt 223 (by decide +kernel) (by decide +kernel)
theorem fl_D_71 : Cond.fieldLink "DeclareStates$Declaration" 71 "DeclareStates$Declaration" "writings" "I" ∈ BIG := bt 224 (by decide +kernel) (by decide +kernel)
theorem fl_D_68 : Cond.fieldLink "DeclareStates$Declaration" 68 "DeclareStates$Declaration" "firstWritten" "LDeclareStates$Event;" ∈ BIG := bt 225 (by decide +kernel) (by decide +kernel)
theorem fl_D_65 : Cond.fieldLink "DeclareStates$Declaration" 65 "DeclareStates$Declaration" "lastWritten" "LDeclareStates$Event;" ∈ BIG := bt 226 (by decide +kernel) (by decide +kernel)
theorem ml_L_65 : Cond.methodLink "DeclareStatesLaw" 65 ⟨"DeclareStatesLaw", "event", "(LDeclareStates;IIII[J)I"⟩ ∈ BIG := bt 252 (by decide +kernel) (by decide +kernel)
theorem sm_L_event : Cond.static ⟨"DeclareStatesLaw", "event", "(LDeclareStates;IIII[J)I"⟩ ∈ BIG := bt 253 (by decide +kernel) (by decide +kernel)
theorem ml_L_21 : Cond.methodLink "DeclareStatesLaw" 21 ⟨"DeclareStates", "event", "(IIII)I"⟩ ∈ BIG := bt 255 (by decide +kernel) (by decide +kernel)
theorem im_X_event : Cond.instanceMethod ⟨"DeclareStates", "event", "(IIII)I"⟩ ∈ BIG := bt 256 (by decide +kernel) (by decide +kernel)
theorem sl_X_event : Cond.selects "DeclareStates" ⟨"DeclareStates", "event", "(IIII)I"⟩ ⟨"DeclareStates", "event", "(IIII)I"⟩ ∈ BIG := bt 257 (by decide +kernel) (by decide +kernel)
theorem kn_X_80 : Cond.constant "DeclareStates" 80 100000 ∈ BIG := bt 260 (by decide +kernel) (by decide +kernel)
theorem inst_E : Cond.instantiable "DeclareStates$Event" 6 ∈ BIG := bt 263 (by decide +kernel) (by decide +kernel)
theorem ml_X_91 : Cond.methodLink "DeclareStates" 91 ⟨"DeclareStates$Event", "<init>", "(LDeclareStates$Declaration;III)V"⟩ ∈ BIG := bt 264 (by decide +kernel) (by decide +kernel)
theorem im_E_init : Cond.instanceMethod ⟨"DeclareStates$Event", "<init>", "(LDeclareStates$Declaration;III)V"⟩ ∈ BIG := bt 265 (by decide +kernel) (by decide +kernel)
theorem ml_E_3 : Cond.methodLink "DeclareStates$Event" 3 ⟨"java/lang/Object", "<init>", "()V"⟩ ∈ BIG := bt 267 (by decide +kernel) (by decide +kernel)
theorem fl_E_9 : Cond.fieldLink "DeclareStates$Event" 9 "DeclareStates$Event" "declaration" "LDeclareStates$Declaration;" ∈ BIG := bt 268 (by decide +kernel) (by decide +kernel)
theorem fl_X_190 : Cond.fieldLink "DeclareStates" 190 "DeclareStates$Event" "declaration" "LDeclareStates$Declaration;" ∈ BIG := bt 269 (by decide +kernel) (by decide +kernel)
theorem fl_E_15 : Cond.fieldLink "DeclareStates$Event" 15 "DeclareStates$Event" "kind" "I" ∈ BIG := bt 270 (by decide +kernel) (by decide +kernel)
theorem fl_X_184 : Cond.fieldLink "DeclareStates" 184 "DeclareStates$Event" "kind" "I" ∈ BIG := bt 271 (by decide +kernel) (by decide +kernel)
theorem fl_E_19 : Cond.fieldLink "DeclareStates$Event" 19 "DeclareStates$Event" "who" "I" ∈ BIG := bt 272 (by decide +kernel) (by decide +kernel)
theorem fl_X_197 : Cond.fieldLink "DeclareStates" 197 "DeclareStates$Event" "who" "I" ∈ BIG := bt 273 (by decide +kernel) (by decide +kernel)
theorem fl_E_22 : Cond.fieldLink "DeclareStates$Event" 22 "DeclareStates$Event" "time" "I" ∈ BIG := bt 274 (by decide +kernel) (by decide +kernel)
theorem fl_X_104 : Cond.fieldLink "DeclareStates" 104 "DeclareStates$Event" "time" "I" ∈ BIG := bt 275 (by decide +kernel) (by decide +kernel)
theorem fl_E_25 : Cond.fieldLink "DeclareStates$Event" 25 "DeclareStates$Event" "result" "I" ∈ BIG := bt 276 (by decide +kernel) (by decide +kernel)
theorem fl_X_181 : Cond.fieldLink "DeclareStates" 181 "DeclareStates$Event" "result" "I" ∈ BIG := bt 277 (by decide +kernel) (by decide +kernel)
theorem fl_X_107 : Cond.fieldLink "DeclareStates" 107 "DeclareStates$Event" "next" "LDeclareStates$Event;" ∈ BIG := bt 278 (by decide +kernel) (by decide +kernel)
theorem fl_D_59 : Cond.fieldLink "DeclareStates$Declaration" 59 "DeclareStates$Event" "next" "LDeclareStates$Event;" ∈ BIG := bt 279 (by decide +kernel) (by decide +kernel)
theorem ml_X_94 : Cond.methodLink "DeclareStates" 94 ⟨"DeclareStates", "putInWaitingOrder", "(LDeclareStates$Event;)V"⟩ ∈ BIG := bt 293 (by decide +kernel) (by decide +kernel)
theorem im_X_putInWaitingOrder : Cond.instanceMethod ⟨"DeclareStates", "putInWaitingOrder", "(LDeclareStates$Event;)V"⟩ ∈ BIG := bt 295 (by decide +kernel) (by decide +kernel)
theorem ml_X_206 : Cond.methodLink "DeclareStates" 206 ⟨"DeclareStates$Event", "goesAheadOf", "(LDeclareStates$Event;)Z"⟩ ∈ BIG := bt 297 (by decide +kernel) (by decide +kernel)
theorem im_E_goesAheadOf : Cond.instanceMethod ⟨"DeclareStates$Event", "goesAheadOf", "(LDeclareStates$Event;)Z"⟩ ∈ BIG := bt 298 (by decide +kernel) (by decide +kernel)
theorem sl_E_goesAheadOf : Cond.selects "DeclareStates$Event" ⟨"DeclareStates$Event", "goesAheadOf", "(LDeclareStates$Event;)Z"⟩ ⟨"DeclareStates$Event", "goesAheadOf", "(LDeclareStates$Event;)Z"⟩ ∈ BIG := bt 299 (by decide +kernel) (by decide +kernel)
theorem ml_L_69 : Cond.methodLink "DeclareStatesLaw" 69 ⟨"DeclareStatesLaw", "tick", "(LDeclareStates;I[J)I"⟩ ∈ BIG := bt 301 (by decide +kernel) (by decide +kernel)
theorem sm_L_tick : Cond.static ⟨"DeclareStatesLaw", "tick", "(LDeclareStates;I[J)I"⟩ ∈ BIG := bt 302 (by decide +kernel) (by decide +kernel)
theorem ml_L_25 : Cond.methodLink "DeclareStatesLaw" 25 ⟨"DeclareStates", "tick", "(I)I"⟩ ∈ BIG := bt 304 (by decide +kernel) (by decide +kernel)
theorem im_X_tick : Cond.instanceMethod ⟨"DeclareStates", "tick", "(I)I"⟩ ∈ BIG := bt 305 (by decide +kernel) (by decide +kernel)
theorem sl_X_tick : Cond.selects "DeclareStates" ⟨"DeclareStates", "tick", "(I)I"⟩ ⟨"DeclareStates", "tick", "(I)I"⟩ ∈ BIG := bt 306 (by decide +kernel) (by decide +kernel)
theorem ml_X_110 : Cond.methodLink "DeclareStates" 110 ⟨"DeclareStates", "settle", "(LDeclareStates$Event;)V"⟩ ∈ BIG := bt 309 (by decide +kernel) (by decide +kernel)
theorem im_X_settle : Cond.instanceMethod ⟨"DeclareStates", "settle", "(LDeclareStates$Event;)V"⟩ ∈ BIG := bt 311 (by decide +kernel) (by decide +kernel)
theorem ml_X_210 : Cond.methodLink "DeclareStates" 210 ⟨"DeclareStates", "refusalOf", "(LDeclareStates$Event;)I"⟩ ∈ BIG := bt 313 (by decide +kernel) (by decide +kernel)
theorem im_X_refusalOf : Cond.instanceMethod ⟨"DeclareStates", "refusalOf", "(LDeclareStates$Event;)I"⟩ ∈ BIG := bt 315 (by decide +kernel) (by decide +kernel)
theorem ml_X_221 : Cond.methodLink "DeclareStates" 221 ⟨"DeclareStates", "mayTell", "(LDeclareStates$Event;)Z"⟩ ∈ BIG := bt 317 (by decide +kernel) (by decide +kernel)
theorem im_X_mayTell : Cond.instanceMethod ⟨"DeclareStates", "mayTell", "(LDeclareStates$Event;)Z"⟩ ∈ BIG := bt 319 (by decide +kernel) (by decide +kernel)
theorem ml_X_224 : Cond.methodLink "DeclareStates" 224 ⟨"DeclareStates", "isOfficersAct", "(I)Z"⟩ ∈ BIG := bt 321 (by decide +kernel) (by decide +kernel)
theorem sm_X_isOfficersAct : Cond.static ⟨"DeclareStates", "isOfficersAct", "(I)Z"⟩ ∈ BIG := bt 322 (by decide +kernel) (by decide +kernel)
theorem ml_X_227 : Cond.methodLink "DeclareStates" 227 ⟨"DeclareStates", "isOpenAt", "(I)Z"⟩ ∈ BIG := bt 324 (by decide +kernel) (by decide +kernel)
theorem im_X_isOpenAt : Cond.instanceMethod ⟨"DeclareStates", "isOpenAt", "(I)Z"⟩ ∈ BIG := bt 326 (by decide +kernel) (by decide +kernel)
theorem ml_X_230 : Cond.methodLink "DeclareStates" 230 ⟨"DeclareStates$Declaration", "stateAllows", "(I)Z"⟩ ∈ BIG := bt 328 (by decide +kernel) (by decide +kernel)
theorem im_D_stateAllows : Cond.instanceMethod ⟨"DeclareStates$Declaration", "stateAllows", "(I)Z"⟩ ∈ BIG := bt 329 (by decide +kernel) (by decide +kernel)
theorem sl_D_stateAllows : Cond.selects "DeclareStates$Declaration" ⟨"DeclareStates$Declaration", "stateAllows", "(I)Z"⟩ ⟨"DeclareStates$Declaration", "stateAllows", "(I)Z"⟩ ∈ BIG := bt 330 (by decide +kernel) (by decide +kernel)
theorem ml_X_233 : Cond.methodLink "DeclareStates" 233 ⟨"DeclareStates$Declaration", "marksAllow", "(I)Z"⟩ ∈ BIG := bt 332 (by decide +kernel) (by decide +kernel)
theorem im_D_marksAllow : Cond.instanceMethod ⟨"DeclareStates$Declaration", "marksAllow", "(I)Z"⟩ ∈ BIG := bt 333 (by decide +kernel) (by decide +kernel)
theorem sl_D_marksAllow : Cond.selects "DeclareStates$Declaration" ⟨"DeclareStates$Declaration", "marksAllow", "(I)Z"⟩ ⟨"DeclareStates$Declaration", "marksAllow", "(I)Z"⟩ ∈ BIG := bt 334 (by decide +kernel) (by decide +kernel)
theorem ml_D_33 : Cond.methodLink "DeclareStates$Declaration" 33 ⟨"DeclareStates$Declaration", "isMarked", "(I)Z"⟩ ∈ BIG := bt 336 (by decide +kernel) (by decide +kernel)
theorem im_D_isMarked : Cond.instanceMethod ⟨"DeclareStates$Declaration", "isMarked", "(I)Z"⟩ ∈ BIG := bt 337 (by decide +kernel) (by decide +kernel)
theorem sl_D_isMarked : Cond.selects "DeclareStates$Declaration" ⟨"DeclareStates$Declaration", "isMarked", "(I)Z"⟩ ⟨"DeclareStates$Declaration", "isMarked", "(I)Z"⟩ ∈ BIG := bt 338 (by decide +kernel) (by decide +kernel)
theorem ml_X_214 : Cond.methodLink "DeclareStates" 214 ⟨"DeclareStates$Declaration", "carryOut", "(II)V"⟩ ∈ BIG := bt 340 (by decide +kernel) (by decide +kernel)
theorem im_D_carryOut : Cond.instanceMethod ⟨"DeclareStates$Declaration", "carryOut", "(II)V"⟩ ∈ BIG := bt 341 (by decide +kernel) (by decide +kernel)
theorem sl_D_carryOut : Cond.selects "DeclareStates$Declaration" ⟨"DeclareStates$Declaration", "carryOut", "(II)V"⟩ ⟨"DeclareStates$Declaration", "carryOut", "(II)V"⟩ ∈ BIG := bt 342 (by decide +kernel) (by decide +kernel)
theorem ml_D_37 : Cond.methodLink "DeclareStates$Declaration" 37 ⟨"DeclareStates$Declaration", "become", "(II)V"⟩ ∈ BIG := bt 344 (by decide +kernel) (by decide +kernel)
theorem im_D_become : Cond.instanceMethod ⟨"DeclareStates$Declaration", "become", "(II)V"⟩ ∈ BIG := bt 345 (by decide +kernel) (by decide +kernel)
theorem sl_D_become : Cond.selects "DeclareStates$Declaration" ⟨"DeclareStates$Declaration", "become", "(II)V"⟩ ⟨"DeclareStates$Declaration", "become", "(II)V"⟩ ∈ BIG := bt 346 (by decide +kernel) (by decide +kernel)
theorem ml_D_41 : Cond.methodLink "DeclareStates$Declaration" 41 ⟨"DeclareStates$Declaration", "releaseIfNothingHolds", "(I)V"⟩ ∈ BIG := bt 348 (by decide +kernel) (by decide +kernel)
theorem im_D_releaseIfNothingHolds : Cond.instanceMethod ⟨"DeclareStates$Declaration", "releaseIfNothingHolds", "(I)V"⟩ ∈ BIG := bt 349 (by decide +kernel) (by decide +kernel)
theorem sl_D_releaseIfNothingHolds : Cond.selects "DeclareStates$Declaration" ⟨"DeclareStates$Declaration", "releaseIfNothingHolds", "(I)V"⟩ ⟨"DeclareStates$Declaration", "releaseIfNothingHolds", "(I)V"⟩ ∈ BIG := bt 350 (by decide +kernel) (by decide +kernel)
theorem ml_X_218 : Cond.methodLink "DeclareStates" 218 ⟨"DeclareStates$Declaration", "write", "(LDeclareStates$Event;)V"⟩ ∈ BIG := bt 352 (by decide +kernel) (by decide +kernel)
theorem im_D_write : Cond.instanceMethod ⟨"DeclareStates$Declaration", "write", "(LDeclareStates$Event;)V"⟩ ∈ BIG := bt 353 (by decide +kernel) (by decide +kernel)
theorem sl_D_write : Cond.selects "DeclareStates$Declaration" ⟨"DeclareStates$Declaration", "write", "(LDeclareStates$Event;)V"⟩ ⟨"DeclareStates$Declaration", "write", "(LDeclareStates$Event;)V"⟩ ∈ BIG := bt 354 (by decide +kernel) (by decide +kernel)
theorem ml_L_82 : Cond.methodLink "DeclareStatesLaw" 82 ⟨"DeclareStatesLaw", "bar", "(LDeclareStates;IIZ[J)I"⟩ ∈ BIG := bt 356 (by decide +kernel) (by decide +kernel)
theorem sm_L_bar : Cond.static ⟨"DeclareStatesLaw", "bar", "(LDeclareStates;IIZ[J)I"⟩ ∈ BIG := bt 357 (by decide +kernel) (by decide +kernel)
theorem ml_L_28 : Cond.methodLink "DeclareStatesLaw" 28 ⟨"DeclareStates", "bar", "(IIZ)I"⟩ ∈ BIG := bt 359 (by decide +kernel) (by decide +kernel)
theorem im_X_bar : Cond.instanceMethod ⟨"DeclareStates", "bar", "(IIZ)I"⟩ ∈ BIG := bt 360 (by decide +kernel) (by decide +kernel)
theorem sl_X_bar : Cond.selects "DeclareStates" ⟨"DeclareStates", "bar", "(IIZ)I"⟩ ⟨"DeclareStates", "bar", "(IIZ)I"⟩ ∈ BIG := bt 361 (by decide +kernel) (by decide +kernel)
theorem ml_X_121 : Cond.methodLink "DeclareStates" 121 ⟨"DeclareStates$Declaration", "isOver", "()Z"⟩ ∈ BIG := bt 364 (by decide +kernel) (by decide +kernel)
theorem im_D_isOver : Cond.instanceMethod ⟨"DeclareStates$Declaration", "isOver", "()Z"⟩ ∈ BIG := bt 365 (by decide +kernel) (by decide +kernel)
theorem sl_D_isOver : Cond.selects "DeclareStates$Declaration" ⟨"DeclareStates$Declaration", "isOver", "()Z"⟩ ⟨"DeclareStates$Declaration", "isOver", "()Z"⟩ ∈ BIG := bt 366 (by decide +kernel) (by decide +kernel)
theorem ml_X_125 : Cond.methodLink "DeclareStates" 125 ⟨"DeclareStates$Declaration", "hasBar", "(I)Z"⟩ ∈ BIG := bt 368 (by decide +kernel) (by decide +kernel)
theorem im_D_hasBar : Cond.instanceMethod ⟨"DeclareStates$Declaration", "hasBar", "(I)Z"⟩ ∈ BIG := bt 369 (by decide +kernel) (by decide +kernel)
theorem sl_D_hasBar : Cond.selects "DeclareStates$Declaration" ⟨"DeclareStates$Declaration", "hasBar", "(I)Z"⟩ ⟨"DeclareStates$Declaration", "hasBar", "(I)Z"⟩ ∈ BIG := bt 370 (by decide +kernel) (by decide +kernel)
theorem ml_X_131 : Cond.methodLink "DeclareStates" 131 ⟨"DeclareStates$Declaration", "releaseIfNothingHolds", "(I)V"⟩ ∈ BIG := bt 372 (by decide +kernel) (by decide +kernel)
theorem ml_X_135 : Cond.methodLink "DeclareStates" 135 ⟨"java/lang/Integer", "bitCount", "(I)I"⟩ ∈ BIG := bt 373 (by decide +kernel) (by decide +kernel)
theorem ml_L_86 : Cond.methodLink "DeclareStatesLaw" 86 ⟨"DeclareStatesLaw", "invalidate", "(LDeclareStates;III[J)I"⟩ ∈ BIG := bt 379 (by decide +kernel) (by decide +kernel)
theorem sm_L_invalidate : Cond.static ⟨"DeclareStatesLaw", "invalidate", "(LDeclareStates;III[J)I"⟩ ∈ BIG := bt 380 (by decide +kernel) (by decide +kernel)
theorem ml_L_32 : Cond.methodLink "DeclareStatesLaw" 32 ⟨"DeclareStates", "invalidate", "(III)I"⟩ ∈ BIG := bt 382 (by decide +kernel) (by decide +kernel)
theorem im_X_invalidate : Cond.instanceMethod ⟨"DeclareStates", "invalidate", "(III)I"⟩ ∈ BIG := bt 383 (by decide +kernel) (by decide +kernel)
theorem sl_X_invalidate : Cond.selects "DeclareStates" ⟨"DeclareStates", "invalidate", "(III)I"⟩ ⟨"DeclareStates", "invalidate", "(III)I"⟩ ∈ BIG := bt 384 (by decide +kernel) (by decide +kernel)
theorem ml_X_142 : Cond.methodLink "DeclareStates" 142 ⟨"DeclareStates$Declaration", "requestInvalidation", "(III)I"⟩ ∈ BIG := bt 387 (by decide +kernel) (by decide +kernel)
theorem im_D_requestInvalidation : Cond.instanceMethod ⟨"DeclareStates$Declaration", "requestInvalidation", "(III)I"⟩ ∈ BIG := bt 388 (by decide +kernel) (by decide +kernel)
theorem sl_D_requestInvalidation : Cond.selects "DeclareStates$Declaration" ⟨"DeclareStates$Declaration", "requestInvalidation", "(III)I"⟩ ⟨"DeclareStates$Declaration", "requestInvalidation", "(III)I"⟩ ∈ BIG := bt 389 (by decide +kernel) (by decide +kernel)
theorem ml_D_45 : Cond.methodLink "DeclareStates$Declaration" 45 ⟨"DeclareStates$Declaration", "invalidateFor", "(II)I"⟩ ∈ BIG := bt 391 (by decide +kernel) (by decide +kernel)
theorem im_D_invalidateFor : Cond.instanceMethod ⟨"DeclareStates$Declaration", "invalidateFor", "(II)I"⟩ ∈ BIG := bt 392 (by decide +kernel) (by decide +kernel)
theorem sl_D_invalidateFor : Cond.selects "DeclareStates$Declaration" ⟨"DeclareStates$Declaration", "invalidateFor", "(II)I"⟩ ⟨"DeclareStates$Declaration", "invalidateFor", "(II)I"⟩ ∈ BIG := bt 393 (by decide +kernel) (by decide +kernel)
theorem ml_D_49 : Cond.methodLink "DeclareStates$Declaration" 49 ⟨"DeclareStates$Declaration", "requestAsOneOfTwo", "(III)I"⟩ ∈ BIG := bt 395 (by decide +kernel) (by decide +kernel)
theorem im_D_requestAsOneOfTwo : Cond.instanceMethod ⟨"DeclareStates$Declaration", "requestAsOneOfTwo", "(III)I"⟩ ∈ BIG := bt 396 (by decide +kernel) (by decide +kernel)
theorem sl_D_requestAsOneOfTwo : Cond.selects "DeclareStates$Declaration" ⟨"DeclareStates$Declaration", "requestAsOneOfTwo", "(III)I"⟩ ⟨"DeclareStates$Declaration", "requestAsOneOfTwo", "(III)I"⟩ ∈ BIG := bt 397 (by decide +kernel) (by decide +kernel)
theorem ml_L_90 : Cond.methodLink "DeclareStatesLaw" 90 ⟨"DeclareStatesLaw", "look", "(LDeclareStates;II[J)I"⟩ ∈ BIG := bt 399 (by decide +kernel) (by decide +kernel)
theorem sm_L_look : Cond.static ⟨"DeclareStatesLaw", "look", "(LDeclareStates;II[J)I"⟩ ∈ BIG := bt 400 (by decide +kernel) (by decide +kernel)
theorem cl_L_39 : Cond.classLink "DeclareStatesLaw" 39 "java/lang/IndexOutOfBoundsException" ∈ BIG := bt 402 (by decide +kernel) (by decide +kernel)
theorem ml_L_36 : Cond.methodLink "DeclareStatesLaw" 36 ⟨"DeclareStates", "look", "(II)I"⟩ ∈ BIG := bt 403 (by decide +kernel) (by decide +kernel)
theorem im_X_look : Cond.instanceMethod ⟨"DeclareStates", "look", "(II)I"⟩ ∈ BIG := bt 404 (by decide +kernel) (by decide +kernel)
theorem sl_X_look : Cond.selects "DeclareStates" ⟨"DeclareStates", "look", "(II)I"⟩ ⟨"DeclareStates", "look", "(II)I"⟩ ∈ BIG := bt 405 (by decide +kernel) (by decide +kernel)
theorem cl_X_146 : Cond.classLink "DeclareStates" 146 "java/lang/IndexOutOfBoundsException" ∈ BIG := bt 407 (by decide +kernel) (by decide +kernel)
theorem inst_java_lang_IndexOutOfBoundsException : Cond.instantiable "java/lang/IndexOutOfBoundsException" 6 ∈ BIG := bt 408 (by decide +kernel) (by decide +kernel)
theorem ml_X_150 : Cond.methodLink "DeclareStates" 150 ⟨"java/lang/IndexOutOfBoundsException", "<init>", "(Ljava/lang/String;)V"⟩ ∈ BIG := bt 417 (by decide +kernel) (by decide +kernel)
theorem ml_L_93 : Cond.methodLink "DeclareStatesLaw" 93 ⟨"DeclareStatesLaw", "written", "(LDeclareStates;II[J)I"⟩ ∈ BIG := bt 424 (by decide +kernel) (by decide +kernel)
theorem sm_L_written : Cond.static ⟨"DeclareStatesLaw", "written", "(LDeclareStates;II[J)I"⟩ ∈ BIG := bt 425 (by decide +kernel) (by decide +kernel)
theorem ml_L_41 : Cond.methodLink "DeclareStatesLaw" 41 ⟨"DeclareStates", "written", "(II)I"⟩ ∈ BIG := bt 427 (by decide +kernel) (by decide +kernel)
theorem im_X_written : Cond.instanceMethod ⟨"DeclareStates", "written", "(II)I"⟩ ∈ BIG := bt 428 (by decide +kernel) (by decide +kernel)
theorem sl_X_written : Cond.selects "DeclareStates" ⟨"DeclareStates", "written", "(II)I"⟩ ⟨"DeclareStates", "written", "(II)I"⟩ ∈ BIG := bt 429 (by decide +kernel) (by decide +kernel)
theorem ml_X_177 : Cond.methodLink "DeclareStates" 177 ⟨"DeclareStates$Declaration", "writtenAt", "(I)LDeclareStates$Event;"⟩ ∈ BIG := bt 431 (by decide +kernel) (by decide +kernel)
theorem im_D_writtenAt : Cond.instanceMethod ⟨"DeclareStates$Declaration", "writtenAt", "(I)LDeclareStates$Event;"⟩ ∈ BIG := bt 432 (by decide +kernel) (by decide +kernel)
theorem sl_D_writtenAt : Cond.selects "DeclareStates$Declaration" ⟨"DeclareStates$Declaration", "writtenAt", "(I)LDeclareStates$Event;"⟩ ⟨"DeclareStates$Declaration", "writtenAt", "(I)LDeclareStates$Event;"⟩ ∈ BIG := bt 433 (by decide +kernel) (by decide +kernel)
theorem ml_L_96 : Cond.methodLink "DeclareStatesLaw" 96 ⟨"DeclareStatesLaw", "of", "(LDeclareStates;II[J)I"⟩ ∈ BIG := bt 435 (by decide +kernel) (by decide +kernel)
theorem sm_L_of : Cond.static ⟨"DeclareStatesLaw", "of", "(LDeclareStates;II[J)I"⟩ ∈ BIG := bt 436 (by decide +kernel) (by decide +kernel)
theorem ml_L_44 : Cond.methodLink "DeclareStatesLaw" 44 ⟨"DeclareStates", "of", "(II)I"⟩ ∈ BIG := bt 438 (by decide +kernel) (by decide +kernel)
theorem im_X_of : Cond.instanceMethod ⟨"DeclareStates", "of", "(II)I"⟩ ∈ BIG := bt 439 (by decide +kernel) (by decide +kernel)
theorem sl_X_of : Cond.selects "DeclareStates" ⟨"DeclareStates", "of", "(II)I"⟩ ⟨"DeclareStates", "of", "(II)I"⟩ ∈ BIG := bt 440 (by decide +kernel) (by decide +kernel)
theorem ml_X_185 : Cond.methodLink "DeclareStates" 185 ⟨"DeclareStates", "eventAt", "(I)LDeclareStates$Event;"⟩ ∈ BIG := bt 442 (by decide +kernel) (by decide +kernel)
theorem im_X_eventAt : Cond.instanceMethod ⟨"DeclareStates", "eventAt", "(I)LDeclareStates$Event;"⟩ ∈ BIG := bt 444 (by decide +kernel) (by decide +kernel)
theorem ml_X_200 : Cond.methodLink "DeclareStates" 200 ⟨"DeclareStates$Event", "isWaiting", "()Z"⟩ ∈ BIG := bt 447 (by decide +kernel) (by decide +kernel)
theorem im_E_isWaiting : Cond.instanceMethod ⟨"DeclareStates$Event", "isWaiting", "()Z"⟩ ∈ BIG := bt 448 (by decide +kernel) (by decide +kernel)
theorem sl_E_isWaiting : Cond.selects "DeclareStates$Event" ⟨"DeclareStates$Event", "isWaiting", "()Z"⟩ ⟨"DeclareStates$Event", "isWaiting", "()Z"⟩ ∈ BIG := bt 449 (by decide +kernel) (by decide +kernel)
theorem cl_L_48 : Cond.classLink "DeclareStatesLaw" 48 "DeclareStatesModel" ∈ BIG := bt 451 (by decide +kernel) (by decide +kernel)
theorem inst_M : Cond.instantiable "DeclareStatesModel" 25 ∈ BIG := bt 452 (by decide +kernel) (by decide +kernel)
theorem ml_L_50 : Cond.methodLink "DeclareStatesLaw" 50 ⟨"DeclareStatesModel", "<init>", "()V"⟩ ∈ BIG := bt 453 (by decide +kernel) (by decide +kernel)
theorem im_M_init : Cond.instanceMethod ⟨"DeclareStatesModel", "<init>", "()V"⟩ ∈ BIG := bt 454 (by decide +kernel) (by decide +kernel)
theorem ml_M_1 : Cond.methodLink "DeclareStatesModel" 1 ⟨"java/lang/Object", "<init>", "()V"⟩ ∈ BIG := bt 456 (by decide +kernel) (by decide +kernel)
theorem fl_M_69 : Cond.fieldLink "DeclareStatesModel" 69 "DeclareStatesModel" "thrown" "I" ∈ BIG := bt 457 (by decide +kernel) (by decide +kernel)
theorem fl_M_96 : Cond.fieldLink "DeclareStatesModel" 96 "DeclareStatesModel" "now" "I" ∈ BIG := bt 458 (by decide +kernel) (by decide +kernel)
theorem fl_M_72 : Cond.fieldLink "DeclareStatesModel" 72 "DeclareStatesModel" "people" "I" ∈ BIG := bt 459 (by decide +kernel) (by decide +kernel)
theorem fl_M_7 : Cond.fieldLink "DeclareStatesModel" 7 "DeclareStatesModel" "role" "[I" ∈ BIG := bt 460 (by decide +kernel) (by decide +kernel)
theorem fl_M_75 : Cond.fieldLink "DeclareStatesModel" 75 "DeclareStatesModel" "declarations" "I" ∈ BIG := bt 461 (by decide +kernel) (by decide +kernel)
theorem fl_M_13 : Cond.fieldLink "DeclareStatesModel" 13 "DeclareStatesModel" "kind" "[I" ∈ BIG := bt 462 (by decide +kernel) (by decide +kernel)
theorem fl_M_16 : Cond.fieldLink "DeclareStatesModel" 16 "DeclareStatesModel" "trader" "[I" ∈ BIG := bt 463 (by decide +kernel) (by decide +kernel)
theorem fl_M_19 : Cond.fieldLink "DeclareStatesModel" 19 "DeclareStatesModel" "state" "[I" ∈ BIG := bt 464 (by decide +kernel) (by decide +kernel)
theorem fl_M_22 : Cond.fieldLink "DeclareStatesModel" 22 "DeclareStatesModel" "marks" "[I" ∈ BIG := bt 465 (by decide +kernel) (by decide +kernel)
theorem fl_M_25 : Cond.fieldLink "DeclareStatesModel" 25 "DeclareStatesModel" "bars" "[I" ∈ BIG := bt 466 (by decide +kernel) (by decide +kernel)
theorem fl_M_28 : Cond.fieldLink "DeclareStatesModel" 28 "DeclareStatesModel" "changed" "[I" ∈ BIG := bt 467 (by decide +kernel) (by decide +kernel)
theorem fl_M_31 : Cond.fieldLink "DeclareStatesModel" 31 "DeclareStatesModel" "asked" "[I" ∈ BIG := bt 468 (by decide +kernel) (by decide +kernel)
theorem fl_M_34 : Cond.fieldLink "DeclareStatesModel" 34 "DeclareStatesModel" "reason" "[I" ∈ BIG := bt 469 (by decide +kernel) (by decide +kernel)
theorem fl_M_90 : Cond.fieldLink "DeclareStatesModel" 90 "DeclareStatesModel" "events" "I" ∈ BIG := bt 470 (by decide +kernel) (by decide +kernel)
theorem fl_M_37 : Cond.fieldLink "DeclareStatesModel" 37 "DeclareStatesModel" "eventOf" "[I" ∈ BIG := bt 471 (by decide +kernel) (by decide +kernel)
theorem fl_M_40 : Cond.fieldLink "DeclareStatesModel" 40 "DeclareStatesModel" "eventKind" "[I" ∈ BIG := bt 472 (by decide +kernel) (by decide +kernel)
theorem fl_M_43 : Cond.fieldLink "DeclareStatesModel" 43 "DeclareStatesModel" "eventBy" "[I" ∈ BIG := bt 473 (by decide +kernel) (by decide +kernel)
theorem fl_M_46 : Cond.fieldLink "DeclareStatesModel" 46 "DeclareStatesModel" "eventTime" "[I" ∈ BIG := bt 474 (by decide +kernel) (by decide +kernel)
theorem fl_M_49 : Cond.fieldLink "DeclareStatesModel" 49 "DeclareStatesModel" "waits" "[Z" ∈ BIG := bt 475 (by decide +kernel) (by decide +kernel)
theorem fl_M_53 : Cond.fieldLink "DeclareStatesModel" 53 "DeclareStatesModel" "result" "[I" ∈ BIG := bt 476 (by decide +kernel) (by decide +kernel)
theorem fl_M_56 : Cond.fieldLink "DeclareStatesModel" 56 "DeclareStatesModel" "turn" "[I" ∈ BIG := bt 477 (by decide +kernel) (by decide +kernel)
theorem fl_M_137 : Cond.fieldLink "DeclareStatesModel" 137 "DeclareStatesModel" "turns" "I" ∈ BIG := bt 478 (by decide +kernel) (by decide +kernel)
theorem fl_M_59 : Cond.fieldLink "DeclareStatesModel" 59 "DeclareStatesModel" "opens" "I" ∈ BIG := bt 479 (by decide +kernel) (by decide +kernel)
theorem fl_M_63 : Cond.fieldLink "DeclareStatesModel" 63 "DeclareStatesModel" "closes" "I" ∈ BIG := bt 480 (by decide +kernel) (by decide +kernel)
theorem fl_M_66 : Cond.fieldLink "DeclareStatesModel" 66 "DeclareStatesModel" "failing" "[Z" ∈ BIG := bt 481 (by decide +kernel) (by decide +kernel)
theorem ac_boolean : Cond.arrayClass .boolean ∈ BIG := bt 533 (by decide +kernel) (by decide +kernel)
theorem ml_L_57 : Cond.methodLink "DeclareStatesLaw" 57 ⟨"DeclareStatesModel", "thrown", "()I"⟩ ∈ BIG := bt 534 (by decide +kernel) (by decide +kernel)
theorem im_M_thrown : Cond.instanceMethod ⟨"DeclareStatesModel", "thrown", "()I"⟩ ∈ BIG := bt 535 (by decide +kernel) (by decide +kernel)
theorem sl_M_thrown : Cond.selects "DeclareStatesModel" ⟨"DeclareStatesModel", "thrown", "()I"⟩ ⟨"DeclareStatesModel", "thrown", "()I"⟩ ∈ BIG := bt 536 (by decide +kernel) (by decide +kernel)
theorem ml_L_56 : Cond.methodLink "DeclareStatesLaw" 56 ⟨"DeclareStatesModel", "person", "(I)I"⟩ ∈ BIG := bt 538 (by decide +kernel) (by decide +kernel)
theorem im_M_person : Cond.instanceMethod ⟨"DeclareStatesModel", "person", "(I)I"⟩ ∈ BIG := bt 539 (by decide +kernel) (by decide +kernel)
theorem sl_M_person : Cond.selects "DeclareStatesModel" ⟨"DeclareStatesModel", "person", "(I)I"⟩ ⟨"DeclareStatesModel", "person", "(I)I"⟩ ∈ BIG := bt 540 (by decide +kernel) (by decide +kernel)
theorem ml_M_78 : Cond.methodLink "DeclareStatesModel" 78 ⟨"DeclareStatesModel", "in", "(III)Z"⟩ ∈ BIG := bt 542 (by decide +kernel) (by decide +kernel)
theorem sm_M_in : Cond.static ⟨"DeclareStatesModel", "in", "(III)Z"⟩ ∈ BIG := bt 543 (by decide +kernel) (by decide +kernel)
theorem ml_M_82 : Cond.methodLink "DeclareStatesModel" 82 ⟨"DeclareStatesModel", "refuse", "(I)I"⟩ ∈ BIG := bt 545 (by decide +kernel) (by decide +kernel)
theorem im_M_refuse : Cond.instanceMethod ⟨"DeclareStatesModel", "refuse", "(I)I"⟩ ∈ BIG := bt 547 (by decide +kernel) (by decide +kernel)
theorem ml_L_64 : Cond.methodLink "DeclareStatesLaw" 64 ⟨"DeclareStatesModel", "declaration", "(II)I"⟩ ∈ BIG := bt 549 (by decide +kernel) (by decide +kernel)
theorem im_M_declaration : Cond.instanceMethod ⟨"DeclareStatesModel", "declaration", "(II)I"⟩ ∈ BIG := bt 550 (by decide +kernel) (by decide +kernel)
theorem sl_M_declaration : Cond.selects "DeclareStatesModel" ⟨"DeclareStatesModel", "declaration", "(II)I"⟩ ⟨"DeclareStatesModel", "declaration", "(II)I"⟩ ∈ BIG := bt 551 (by decide +kernel) (by decide +kernel)
theorem ml_M_86 : Cond.methodLink "DeclareStatesModel" 86 ⟨"DeclareStatesModel", "isPerson", "(I)Z"⟩ ∈ BIG := bt 553 (by decide +kernel) (by decide +kernel)
theorem im_M_isPerson : Cond.instanceMethod ⟨"DeclareStatesModel", "isPerson", "(I)Z"⟩ ∈ BIG := bt 555 (by decide +kernel) (by decide +kernel)
theorem ml_L_68 : Cond.methodLink "DeclareStatesLaw" 68 ⟨"DeclareStatesModel", "event", "(IIII)I"⟩ ∈ BIG := bt 557 (by decide +kernel) (by decide +kernel)
theorem im_M_event : Cond.instanceMethod ⟨"DeclareStatesModel", "event", "(IIII)I"⟩ ∈ BIG := bt 558 (by decide +kernel) (by decide +kernel)
theorem sl_M_event : Cond.selects "DeclareStatesModel" ⟨"DeclareStatesModel", "event", "(IIII)I"⟩ ⟨"DeclareStatesModel", "event", "(IIII)I"⟩ ∈ BIG := bt 559 (by decide +kernel) (by decide +kernel)
theorem ml_M_93 : Cond.methodLink "DeclareStatesModel" 93 ⟨"DeclareStatesModel", "isOne", "(I)Z"⟩ ∈ BIG := bt 561 (by decide +kernel) (by decide +kernel)
theorem im_M_isOne : Cond.instanceMethod ⟨"DeclareStatesModel", "isOne", "(I)Z"⟩ ∈ BIG := bt 563 (by decide +kernel) (by decide +kernel)
theorem kn_M_99 : Cond.constant "DeclareStatesModel" 99 100000 ∈ BIG := bt 565 (by decide +kernel) (by decide +kernel)
theorem ml_M_100 : Cond.methodLink "DeclareStatesModel" 100 ⟨"DeclareStatesModel", "waiting", "()I"⟩ ∈ BIG := bt 566 (by decide +kernel) (by decide +kernel)
theorem im_M_waiting : Cond.instanceMethod ⟨"DeclareStatesModel", "waiting", "()I"⟩ ∈ BIG := bt 568 (by decide +kernel) (by decide +kernel)
theorem ml_L_71 : Cond.methodLink "DeclareStatesLaw" 71 ⟨"DeclareStatesModel", "tick", "(I)I"⟩ ∈ BIG := bt 570 (by decide +kernel) (by decide +kernel)
theorem im_M_tick : Cond.instanceMethod ⟨"DeclareStatesModel", "tick", "(I)I"⟩ ∈ BIG := bt 571 (by decide +kernel) (by decide +kernel)
theorem sl_M_tick : Cond.selects "DeclareStatesModel" ⟨"DeclareStatesModel", "tick", "(I)I"⟩ ⟨"DeclareStatesModel", "tick", "(I)I"⟩ ∈ BIG := bt 572 (by decide +kernel) (by decide +kernel)
theorem ml_M_128 : Cond.methodLink "DeclareStatesModel" 128 ⟨"DeclareStatesModel", "first", "(I)I"⟩ ∈ BIG := bt 574 (by decide +kernel) (by decide +kernel)
theorem im_M_first : Cond.instanceMethod ⟨"DeclareStatesModel", "first", "(I)I"⟩ ∈ BIG := bt 576 (by decide +kernel) (by decide +kernel)
theorem ml_M_131 : Cond.methodLink "DeclareStatesModel" 131 ⟨"DeclareStatesModel", "why", "(I)I"⟩ ∈ BIG := bt 578 (by decide +kernel) (by decide +kernel)
theorem im_M_why : Cond.instanceMethod ⟨"DeclareStatesModel", "why", "(I)I"⟩ ∈ BIG := bt 580 (by decide +kernel) (by decide +kernel)
theorem ml_M_111 : Cond.methodLink "DeclareStatesModel" 111 ⟨"DeclareStatesModel", "may", "(I)Z"⟩ ∈ BIG := bt 582 (by decide +kernel) (by decide +kernel)
theorem im_M_may : Cond.instanceMethod ⟨"DeclareStatesModel", "may", "(I)Z"⟩ ∈ BIG := bt 584 (by decide +kernel) (by decide +kernel)
theorem ml_M_104 : Cond.methodLink "DeclareStatesModel" 104 ⟨"DeclareStatesModel", "isOfficers", "(I)Z"⟩ ∈ BIG := bt 586 (by decide +kernel) (by decide +kernel)
theorem sm_M_isOfficers : Cond.static ⟨"DeclareStatesModel", "isOfficers", "(I)Z"⟩ ∈ BIG := bt 587 (by decide +kernel) (by decide +kernel)
theorem ml_M_114 : Cond.methodLink "DeclareStatesModel" 114 ⟨"DeclareStatesModel", "fits", "(II)Z"⟩ ∈ BIG := bt 589 (by decide +kernel) (by decide +kernel)
theorem im_M_fits : Cond.instanceMethod ⟨"DeclareStatesModel", "fits", "(II)Z"⟩ ∈ BIG := bt 591 (by decide +kernel) (by decide +kernel)
theorem ml_M_117 : Cond.methodLink "DeclareStatesModel" 117 ⟨"DeclareStatesModel", "isMarked", "(II)Z"⟩ ∈ BIG := bt 593 (by decide +kernel) (by decide +kernel)
theorem im_M_isMarked : Cond.instanceMethod ⟨"DeclareStatesModel", "isMarked", "(II)Z"⟩ ∈ BIG := bt 595 (by decide +kernel) (by decide +kernel)
theorem ml_M_107 : Cond.methodLink "DeclareStatesModel" 107 ⟨"DeclareStatesModel", "has", "(II)Z"⟩ ∈ BIG := bt 597 (by decide +kernel) (by decide +kernel)
theorem im_M_has : Cond.instanceMethod ⟨"DeclareStatesModel", "has", "(II)Z"⟩ ∈ BIG := bt 599 (by decide +kernel) (by decide +kernel)
theorem ml_M_134 : Cond.methodLink "DeclareStatesModel" 134 ⟨"DeclareStatesModel", "happens", "(III)V"⟩ ∈ BIG := bt 601 (by decide +kernel) (by decide +kernel)
theorem im_M_happens : Cond.instanceMethod ⟨"DeclareStatesModel", "happens", "(III)V"⟩ ∈ BIG := bt 603 (by decide +kernel) (by decide +kernel)
theorem ml_M_120 : Cond.methodLink "DeclareStatesModel" 120 ⟨"DeclareStatesModel", "becomes", "(III)V"⟩ ∈ BIG := bt 605 (by decide +kernel) (by decide +kernel)
theorem im_M_becomes : Cond.instanceMethod ⟨"DeclareStatesModel", "becomes", "(III)V"⟩ ∈ BIG := bt 607 (by decide +kernel) (by decide +kernel)
theorem ml_M_124 : Cond.methodLink "DeclareStatesModel" 124 ⟨"DeclareStatesModel", "release", "(II)V"⟩ ∈ BIG := bt 609 (by decide +kernel) (by decide +kernel)
theorem im_M_release : Cond.instanceMethod ⟨"DeclareStatesModel", "release", "(II)V"⟩ ∈ BIG := bt 611 (by decide +kernel) (by decide +kernel)
theorem ml_L_76 : Cond.methodLink "DeclareStatesLaw" 76 ⟨"DeclareStatesModel", "hours", "(II)Z"⟩ ∈ BIG := bt 613 (by decide +kernel) (by decide +kernel)
theorem im_M_hours : Cond.instanceMethod ⟨"DeclareStatesModel", "hours", "(II)Z"⟩ ∈ BIG := bt 614 (by decide +kernel) (by decide +kernel)
theorem sl_M_hours : Cond.selects "DeclareStatesModel" ⟨"DeclareStatesModel", "hours", "(II)Z"⟩ ⟨"DeclareStatesModel", "hours", "(II)Z"⟩ ∈ BIG := bt 615 (by decide +kernel) (by decide +kernel)
theorem ml_L_81 : Cond.methodLink "DeclareStatesLaw" 81 ⟨"DeclareStatesModel", "fails", "(IZ)Z"⟩ ∈ BIG := bt 617 (by decide +kernel) (by decide +kernel)
theorem im_M_fails : Cond.instanceMethod ⟨"DeclareStatesModel", "fails", "(IZ)Z"⟩ ∈ BIG := bt 618 (by decide +kernel) (by decide +kernel)
theorem sl_M_fails : Cond.selects "DeclareStatesModel" ⟨"DeclareStatesModel", "fails", "(IZ)Z"⟩ ⟨"DeclareStatesModel", "fails", "(IZ)Z"⟩ ∈ BIG := bt 619 (by decide +kernel) (by decide +kernel)
theorem ml_L_85 : Cond.methodLink "DeclareStatesLaw" 85 ⟨"DeclareStatesModel", "bar", "(IIZ)I"⟩ ∈ BIG := bt 621 (by decide +kernel) (by decide +kernel)
theorem im_M_bar : Cond.instanceMethod ⟨"DeclareStatesModel", "bar", "(IIZ)I"⟩ ∈ BIG := bt 622 (by decide +kernel) (by decide +kernel)
theorem sl_M_bar : Cond.selects "DeclareStatesModel" ⟨"DeclareStatesModel", "bar", "(IIZ)I"⟩ ⟨"DeclareStatesModel", "bar", "(IIZ)I"⟩ ∈ BIG := bt 623 (by decide +kernel) (by decide +kernel)
theorem ml_M_140 : Cond.methodLink "DeclareStatesModel" 140 ⟨"DeclareStatesModel", "ones", "(I)I"⟩ ∈ BIG := bt 625 (by decide +kernel) (by decide +kernel)
theorem sm_M_ones : Cond.static ⟨"DeclareStatesModel", "ones", "(I)I"⟩ ∈ BIG := bt 626 (by decide +kernel) (by decide +kernel)
theorem ml_L_89 : Cond.methodLink "DeclareStatesLaw" 89 ⟨"DeclareStatesModel", "invalidate", "(III)I"⟩ ∈ BIG := bt 628 (by decide +kernel) (by decide +kernel)
theorem im_M_invalidate : Cond.instanceMethod ⟨"DeclareStatesModel", "invalidate", "(III)I"⟩ ∈ BIG := bt 629 (by decide +kernel) (by decide +kernel)
theorem sl_M_invalidate : Cond.selects "DeclareStatesModel" ⟨"DeclareStatesModel", "invalidate", "(III)I"⟩ ⟨"DeclareStatesModel", "invalidate", "(III)I"⟩ ∈ BIG := bt 630 (by decide +kernel) (by decide +kernel)
theorem ml_L_92 : Cond.methodLink "DeclareStatesLaw" 92 ⟨"DeclareStatesModel", "look", "(II)I"⟩ ∈ BIG := bt 632 (by decide +kernel) (by decide +kernel)
theorem im_M_look : Cond.instanceMethod ⟨"DeclareStatesModel", "look", "(II)I"⟩ ∈ BIG := bt 633 (by decide +kernel) (by decide +kernel)
theorem sl_M_look : Cond.selects "DeclareStatesModel" ⟨"DeclareStatesModel", "look", "(II)I"⟩ ⟨"DeclareStatesModel", "look", "(II)I"⟩ ∈ BIG := bt 634 (by decide +kernel) (by decide +kernel)
theorem ml_M_143 : Cond.methodLink "DeclareStatesModel" 143 ⟨"DeclareStatesModel", "writtenOf", "(I)I"⟩ ∈ BIG := bt 636 (by decide +kernel) (by decide +kernel)
theorem im_M_writtenOf : Cond.instanceMethod ⟨"DeclareStatesModel", "writtenOf", "(I)I"⟩ ∈ BIG := bt 638 (by decide +kernel) (by decide +kernel)
theorem ml_L_95 : Cond.methodLink "DeclareStatesLaw" 95 ⟨"DeclareStatesModel", "written", "(II)I"⟩ ∈ BIG := bt 640 (by decide +kernel) (by decide +kernel)
theorem im_M_written : Cond.instanceMethod ⟨"DeclareStatesModel", "written", "(II)I"⟩ ∈ BIG := bt 641 (by decide +kernel) (by decide +kernel)
theorem sl_M_written : Cond.selects "DeclareStatesModel" ⟨"DeclareStatesModel", "written", "(II)I"⟩ ⟨"DeclareStatesModel", "written", "(II)I"⟩ ∈ BIG := bt 642 (by decide +kernel) (by decide +kernel)
theorem ml_L_98 : Cond.methodLink "DeclareStatesLaw" 98 ⟨"DeclareStatesModel", "of", "(II)I"⟩ ∈ BIG := bt 644 (by decide +kernel) (by decide +kernel)
theorem im_M_of : Cond.instanceMethod ⟨"DeclareStatesModel", "of", "(II)I"⟩ ∈ BIG := bt 645 (by decide +kernel) (by decide +kernel)
theorem sl_M_of : Cond.selects "DeclareStatesModel" ⟨"DeclareStatesModel", "of", "(II)I"⟩ ⟨"DeclareStatesModel", "of", "(II)I"⟩ ∈ BIG := bt 646 (by decide +kernel) (by decide +kernel)
theorem ml_L_102 : Cond.methodLink "DeclareStatesLaw" 102 ⟨"DeclareStatesModel", "count", "(I)I"⟩ ∈ BIG := bt 648 (by decide +kernel) (by decide +kernel)
theorem im_M_count : Cond.instanceMethod ⟨"DeclareStatesModel", "count", "(I)I"⟩ ∈ BIG := bt 649 (by decide +kernel) (by decide +kernel)
theorem sl_M_count : Cond.selects "DeclareStatesModel" ⟨"DeclareStatesModel", "count", "(I)I"⟩ ⟨"DeclareStatesModel", "count", "(I)I"⟩ ∈ BIG := bt 650 (by decide +kernel) (by decide +kernel)
theorem ac_long : Cond.arrayClass .long ∈ BIG := bt 652 (by decide +kernel) (by decide +kernel)
theorem sl_X_isFailing : Cond.selects "DeclareStates" ⟨"DeclareStates", "isFailing", "(I)Z"⟩ ⟨"DeclareStates", "isFailing", "(I)Z"⟩ ∈ BIG := bs 0 (by decide +kernel) (by decide +kernel)
theorem sl_X_countOfState : Cond.selects "DeclareStates" ⟨"DeclareStates", "countOfState", "(I)I"⟩ ⟨"DeclareStates", "countOfState", "(I)I"⟩ ∈ BIG := bs 1 (by decide +kernel) (by decide +kernel)
theorem sl_X_declarationAt : Cond.selects "DeclareStates" ⟨"DeclareStates", "declarationAt", "(I)LDeclareStates$Declaration;"⟩ ⟨"DeclareStates", "declarationAt", "(I)LDeclareStates$Declaration;"⟩ ∈ BIG := bs 2 (by decide +kernel) (by decide +kernel)
theorem sl_X_roleOf : Cond.selects "DeclareStates" ⟨"DeclareStates", "roleOf", "(I)I"⟩ ⟨"DeclareStates", "roleOf", "(I)I"⟩ ∈ BIG := bs 4 (by decide +kernel) (by decide +kernel)
theorem sl_X_isPerson : Cond.selects "DeclareStates" ⟨"DeclareStates", "isPerson", "(I)Z"⟩ ⟨"DeclareStates", "isPerson", "(I)Z"⟩ ∈ BIG := bs 5 (by decide +kernel) (by decide +kernel)
theorem sl_X_putInWaitingOrder : Cond.selects "DeclareStates" ⟨"DeclareStates", "putInWaitingOrder", "(LDeclareStates$Event;)V"⟩ ⟨"DeclareStates", "putInWaitingOrder", "(LDeclareStates$Event;)V"⟩ ∈ BIG := bs 6 (by decide +kernel) (by decide +kernel)
theorem sl_X_settle : Cond.selects "DeclareStates" ⟨"DeclareStates", "settle", "(LDeclareStates$Event;)V"⟩ ⟨"DeclareStates", "settle", "(LDeclareStates$Event;)V"⟩ ∈ BIG := bs 7 (by decide +kernel) (by decide +kernel)
theorem sl_X_refusalOf : Cond.selects "DeclareStates" ⟨"DeclareStates", "refusalOf", "(LDeclareStates$Event;)I"⟩ ⟨"DeclareStates", "refusalOf", "(LDeclareStates$Event;)I"⟩ ∈ BIG := bs 8 (by decide +kernel) (by decide +kernel)
theorem sl_X_mayTell : Cond.selects "DeclareStates" ⟨"DeclareStates", "mayTell", "(LDeclareStates$Event;)Z"⟩ ⟨"DeclareStates", "mayTell", "(LDeclareStates$Event;)Z"⟩ ∈ BIG := bs 9 (by decide +kernel) (by decide +kernel)
theorem sl_X_isOpenAt : Cond.selects "DeclareStates" ⟨"DeclareStates", "isOpenAt", "(I)Z"⟩ ⟨"DeclareStates", "isOpenAt", "(I)Z"⟩ ∈ BIG := bs 10 (by decide +kernel) (by decide +kernel)
theorem sl_X_eventAt : Cond.selects "DeclareStates" ⟨"DeclareStates", "eventAt", "(I)LDeclareStates$Event;"⟩ ⟨"DeclareStates", "eventAt", "(I)LDeclareStates$Event;"⟩ ∈ BIG := bs 11 (by decide +kernel) (by decide +kernel)
theorem sl_M_refuse : Cond.selects "DeclareStatesModel" ⟨"DeclareStatesModel", "refuse", "(I)I"⟩ ⟨"DeclareStatesModel", "refuse", "(I)I"⟩ ∈ BIG := bs 12 (by decide +kernel) (by decide +kernel)
theorem sl_M_isPerson : Cond.selects "DeclareStatesModel" ⟨"DeclareStatesModel", "isPerson", "(I)Z"⟩ ⟨"DeclareStatesModel", "isPerson", "(I)Z"⟩ ∈ BIG := bs 13 (by decide +kernel) (by decide +kernel)
theorem sl_M_isOne : Cond.selects "DeclareStatesModel" ⟨"DeclareStatesModel", "isOne", "(I)Z"⟩ ⟨"DeclareStatesModel", "isOne", "(I)Z"⟩ ∈ BIG := bs 14 (by decide +kernel) (by decide +kernel)
theorem sl_M_waiting : Cond.selects "DeclareStatesModel" ⟨"DeclareStatesModel", "waiting", "()I"⟩ ⟨"DeclareStatesModel", "waiting", "()I"⟩ ∈ BIG := bs 15 (by decide +kernel) (by decide +kernel)
theorem sl_M_first : Cond.selects "DeclareStatesModel" ⟨"DeclareStatesModel", "first", "(I)I"⟩ ⟨"DeclareStatesModel", "first", "(I)I"⟩ ∈ BIG := bs 16 (by decide +kernel) (by decide +kernel)
theorem sl_M_why : Cond.selects "DeclareStatesModel" ⟨"DeclareStatesModel", "why", "(I)I"⟩ ⟨"DeclareStatesModel", "why", "(I)I"⟩ ∈ BIG := bs 17 (by decide +kernel) (by decide +kernel)
theorem sl_M_may : Cond.selects "DeclareStatesModel" ⟨"DeclareStatesModel", "may", "(I)Z"⟩ ⟨"DeclareStatesModel", "may", "(I)Z"⟩ ∈ BIG := bs 18 (by decide +kernel) (by decide +kernel)
theorem sl_M_fits : Cond.selects "DeclareStatesModel" ⟨"DeclareStatesModel", "fits", "(II)Z"⟩ ⟨"DeclareStatesModel", "fits", "(II)Z"⟩ ∈ BIG := bs 19 (by decide +kernel) (by decide +kernel)
theorem sl_M_isMarked : Cond.selects "DeclareStatesModel" ⟨"DeclareStatesModel", "isMarked", "(II)Z"⟩ ⟨"DeclareStatesModel", "isMarked", "(II)Z"⟩ ∈ BIG := bs 20 (by decide +kernel) (by decide +kernel)
theorem sl_M_has : Cond.selects "DeclareStatesModel" ⟨"DeclareStatesModel", "has", "(II)Z"⟩ ⟨"DeclareStatesModel", "has", "(II)Z"⟩ ∈ BIG := bs 21 (by decide +kernel) (by decide +kernel)
theorem sl_M_happens : Cond.selects "DeclareStatesModel" ⟨"DeclareStatesModel", "happens", "(III)V"⟩ ⟨"DeclareStatesModel", "happens", "(III)V"⟩ ∈ BIG := bs 22 (by decide +kernel) (by decide +kernel)
theorem sl_M_becomes : Cond.selects "DeclareStatesModel" ⟨"DeclareStatesModel", "becomes", "(III)V"⟩ ⟨"DeclareStatesModel", "becomes", "(III)V"⟩ ∈ BIG := bs 23 (by decide +kernel) (by decide +kernel)
theorem sl_M_release : Cond.selects "DeclareStatesModel" ⟨"DeclareStatesModel", "release", "(II)V"⟩ ⟨"DeclareStatesModel", "release", "(II)V"⟩ ∈ BIG := bs 24 (by decide +kernel) (by decide +kernel)
theorem sl_M_writtenOf : Cond.selects "DeclareStatesModel" ⟨"DeclareStatesModel", "writtenOf", "(I)I"⟩ ⟨"DeclareStatesModel", "writtenOf", "(I)I"⟩ ∈ BIG := bs 25 (by decide +kernel) (by decide +kernel)
theorem oi_code : Cond.code objectInit ⟨#[0xb1]⟩ 1 none ∈ BIG := bt 19 (by decide +kernel) (by decide +kernel)
theorem oi_im : Cond.instanceMethod objectInit ∈ BIG := bt 18 (by decide +kernel) (by decide +kernel)
abbrev vwCl : List vw_C := [(NmX, TmX, 12), (NmD, TmD, 12), (NmE, TmE, 6), (NmM, TmM, 25)]
abbrev ciX : Nat := 0
abbrev ciD : Nat := 1
abbrev ciE : Nat := 2
abbrev ciM : Nat := 3
end
section
theorem dD_init_0 : decode cD_init 0 = .ok (.aload_n 0, 1) := by decide +kernel
theorem dD_init_1 : decode cD_init 1 = .ok (.invokespecial 3, 3) := by decide +kernel
theorem dD_init_4 : decode cD_init 4 = .ok (.aload_n 0, 1) := by decide +kernel
theorem dD_init_5 : decode cD_init 5 = .ok (.iload_n 1, 1) := by decide +kernel
theorem dD_init_6 : decode cD_init 6 = .ok (.putfield 9, 3) := by decide +kernel
theorem dD_init_9 : decode cD_init 9 = .ok (.aload_n 0, 1) := by decide +kernel
theorem dD_init_10 : decode cD_init 10 = .ok (.iload_n 2, 1) := by decide +kernel
theorem dD_init_11 : decode cD_init 11 = .ok (.putfield 15, 3) := by decide +kernel
theorem dD_init_14 : decode cD_init 14 = .ok (.aload_n 0, 1) := by decide +kernel
theorem dD_init_15 : decode cD_init 15 = .ok (.iload_n 3, 1) := by decide +kernel
theorem dD_init_16 : decode cD_init 16 = .ok (.putfield 18, 3) := by decide +kernel
theorem dD_init_19 : decode cD_init 19 = .ok (.aload_n 0, 1) := by decide +kernel
theorem dD_init_20 : decode cD_init 20 = .ok (.iconst 0, 1) := by decide +kernel
theorem dD_init_21 : decode cD_init 21 = .ok (.putfield 21, 3) := by decide +kernel
theorem dD_init_24 : decode cD_init 24 = .ok (.aload_n 0, 1) := by decide +kernel
theorem dD_init_25 : decode cD_init 25 = .ok (.iconst (-1), 1) := by decide +kernel
theorem dD_init_26 : decode cD_init 26 = .ok (.putfield 24, 3) := by decide +kernel
theorem dD_init_29 : decode cD_init 29 = .ok (.return_, 1) := by decide +kernel
theorem dD_isMarked_0 : decode cD_isMarked 0 = .ok (.aload_n 0, 1) := by decide +kernel
theorem dD_isMarked_1 : decode cD_isMarked 1 = .ok (.getfield 27, 3) := by decide +kernel
theorem dD_isMarked_4 : decode cD_isMarked 4 = .ok (.iload_n 1, 1) := by decide +kernel
theorem dD_isMarked_5 : decode cD_isMarked 5 = .ok (.iand, 1) := by decide +kernel
theorem dD_isMarked_6 : decode cD_isMarked 6 = .ok (.ifCond .eq 7, 3) := by decide +kernel
theorem dD_isMarked_9 : decode cD_isMarked 9 = .ok (.iconst 1, 1) := by decide +kernel
theorem dD_isMarked_10 : decode cD_isMarked 10 = .ok (.goto 4, 3) := by decide +kernel
theorem dD_isMarked_13 : decode cD_isMarked 13 = .ok (.iconst 0, 1) := by decide +kernel
theorem dD_isMarked_14 : decode cD_isMarked 14 = .ok (.ireturn, 1) := by decide +kernel
theorem dD_hasBar_0 : decode cD_hasBar 0 = .ok (.aload_n 0, 1) := by decide +kernel
theorem dD_hasBar_1 : decode cD_hasBar 1 = .ok (.getfield 30, 3) := by decide +kernel
theorem dD_hasBar_4 : decode cD_hasBar 4 = .ok (.iconst 1, 1) := by decide +kernel
theorem dD_hasBar_5 : decode cD_hasBar 5 = .ok (.iload_n 1, 1) := by decide +kernel
theorem dD_hasBar_6 : decode cD_hasBar 6 = .ok (.ishl, 1) := by decide +kernel
theorem dD_hasBar_7 : decode cD_hasBar 7 = .ok (.iand, 1) := by decide +kernel
theorem dD_hasBar_8 : decode cD_hasBar 8 = .ok (.ifCond .eq 7, 3) := by decide +kernel
theorem dD_hasBar_11 : decode cD_hasBar 11 = .ok (.iconst 1, 1) := by decide +kernel
theorem dD_hasBar_12 : decode cD_hasBar 12 = .ok (.goto 4, 3) := by decide +kernel
theorem dD_hasBar_15 : decode cD_hasBar 15 = .ok (.iconst 0, 1) := by decide +kernel
theorem dD_hasBar_16 : decode cD_hasBar 16 = .ok (.ireturn, 1) := by decide +kernel
theorem dD_isOver_0 : decode cD_isOver 0 = .ok (.aload_n 0, 1) := by decide +kernel
theorem dD_isOver_1 : decode cD_isOver 1 = .ok (.getfield 21, 3) := by decide +kernel
theorem dD_isOver_4 : decode cD_isOver 4 = .ok (.bipush 6, 2) := by decide +kernel
theorem dD_isOver_6 : decode cD_isOver 6 = .ok (.if_icmp .eq 12, 3) := by decide +kernel
theorem dD_isOver_9 : decode cD_isOver 9 = .ok (.aload_n 0, 1) := by decide +kernel
theorem dD_isOver_10 : decode cD_isOver 10 = .ok (.getfield 21, 3) := by decide +kernel
theorem dD_isOver_13 : decode cD_isOver 13 = .ok (.bipush 7, 2) := by decide +kernel
theorem dD_isOver_15 : decode cD_isOver 15 = .ok (.if_icmp .ne 7, 3) := by decide +kernel
theorem dD_isOver_18 : decode cD_isOver 18 = .ok (.iconst 1, 1) := by decide +kernel
theorem dD_isOver_19 : decode cD_isOver 19 = .ok (.goto 4, 3) := by decide +kernel
theorem dD_isOver_22 : decode cD_isOver 22 = .ok (.iconst 0, 1) := by decide +kernel
theorem dD_isOver_23 : decode cD_isOver 23 = .ok (.ireturn, 1) := by decide +kernel
theorem dD_stateAllows_0 : decode cD_stateAllows 0 = .ok (.iload_n 1, 1) := by decide +kernel
theorem dD_stateAllows_1 : decode cD_stateAllows 1 = .ok (.tableswitch 211 0 9 #[55, 68, 97, 111, 125, 125, 139, 161, 182, 139], 55) := by decide +kernel
theorem dD_stateAllows_56 : decode cD_stateAllows 56 = .ok (.aload_n 0, 1) := by decide +kernel
theorem dD_stateAllows_57 : decode cD_stateAllows 57 = .ok (.getfield 21, 3) := by decide +kernel
theorem dD_stateAllows_60 : decode cD_stateAllows 60 = .ok (.ifCond .ne 7, 3) := by decide +kernel
theorem dD_stateAllows_63 : decode cD_stateAllows 63 = .ok (.iconst 1, 1) := by decide +kernel
theorem dD_stateAllows_64 : decode cD_stateAllows 64 = .ok (.goto 4, 3) := by decide +kernel
theorem dD_stateAllows_67 : decode cD_stateAllows 67 = .ok (.iconst 0, 1) := by decide +kernel
theorem dD_stateAllows_68 : decode cD_stateAllows 68 = .ok (.ireturn, 1) := by decide +kernel
theorem dD_stateAllows_69 : decode cD_stateAllows 69 = .ok (.aload_n 0, 1) := by decide +kernel
theorem dD_stateAllows_70 : decode cD_stateAllows 70 = .ok (.getfield 21, 3) := by decide +kernel
theorem dD_stateAllows_73 : decode cD_stateAllows 73 = .ok (.ifCond .eq 19, 3) := by decide +kernel
theorem dD_stateAllows_76 : decode cD_stateAllows 76 = .ok (.aload_n 0, 1) := by decide +kernel
theorem dD_stateAllows_77 : decode cD_stateAllows 77 = .ok (.getfield 21, 3) := by decide +kernel
theorem dD_stateAllows_80 : decode cD_stateAllows 80 = .ok (.iconst 1, 1) := by decide +kernel
theorem dD_stateAllows_81 : decode cD_stateAllows 81 = .ok (.if_icmp .eq 11, 3) := by decide +kernel
theorem dD_stateAllows_84 : decode cD_stateAllows 84 = .ok (.aload_n 0, 1) := by decide +kernel
theorem dD_stateAllows_85 : decode cD_stateAllows 85 = .ok (.getfield 21, 3) := by decide +kernel
theorem dD_stateAllows_88 : decode cD_stateAllows 88 = .ok (.iconst 2, 1) := by decide +kernel
theorem dD_stateAllows_89 : decode cD_stateAllows 89 = .ok (.if_icmp .ne 7, 3) := by decide +kernel
theorem dD_stateAllows_92 : decode cD_stateAllows 92 = .ok (.iconst 1, 1) := by decide +kernel
theorem dD_stateAllows_93 : decode cD_stateAllows 93 = .ok (.goto 4, 3) := by decide +kernel
theorem dD_stateAllows_96 : decode cD_stateAllows 96 = .ok (.iconst 0, 1) := by decide +kernel
theorem dD_stateAllows_97 : decode cD_stateAllows 97 = .ok (.ireturn, 1) := by decide +kernel
theorem dD_stateAllows_98 : decode cD_stateAllows 98 = .ok (.aload_n 0, 1) := by decide +kernel
theorem dD_stateAllows_99 : decode cD_stateAllows 99 = .ok (.getfield 21, 3) := by decide +kernel
theorem dD_stateAllows_102 : decode cD_stateAllows 102 = .ok (.iconst 1, 1) := by decide +kernel
theorem dD_stateAllows_103 : decode cD_stateAllows 103 = .ok (.if_icmp .ne 7, 3) := by decide +kernel
theorem dD_stateAllows_106 : decode cD_stateAllows 106 = .ok (.iconst 1, 1) := by decide +kernel
theorem dD_stateAllows_107 : decode cD_stateAllows 107 = .ok (.goto 4, 3) := by decide +kernel
theorem dD_stateAllows_110 : decode cD_stateAllows 110 = .ok (.iconst 0, 1) := by decide +kernel
theorem dD_stateAllows_111 : decode cD_stateAllows 111 = .ok (.ireturn, 1) := by decide +kernel
theorem dD_stateAllows_112 : decode cD_stateAllows 112 = .ok (.aload_n 0, 1) := by decide +kernel
theorem dD_stateAllows_113 : decode cD_stateAllows 113 = .ok (.getfield 21, 3) := by decide +kernel
theorem dD_stateAllows_116 : decode cD_stateAllows 116 = .ok (.iconst 2, 1) := by decide +kernel
theorem dD_stateAllows_117 : decode cD_stateAllows 117 = .ok (.if_icmp .ne 7, 3) := by decide +kernel
theorem dD_stateAllows_120 : decode cD_stateAllows 120 = .ok (.iconst 1, 1) := by decide +kernel
theorem dD_stateAllows_121 : decode cD_stateAllows 121 = .ok (.goto 4, 3) := by decide +kernel
theorem dD_stateAllows_124 : decode cD_stateAllows 124 = .ok (.iconst 0, 1) := by decide +kernel
theorem dD_stateAllows_125 : decode cD_stateAllows 125 = .ok (.ireturn, 1) := by decide +kernel
theorem dD_stateAllows_126 : decode cD_stateAllows 126 = .ok (.aload_n 0, 1) := by decide +kernel
theorem dD_stateAllows_127 : decode cD_stateAllows 127 = .ok (.getfield 21, 3) := by decide +kernel
theorem dD_stateAllows_130 : decode cD_stateAllows 130 = .ok (.iconst 3, 1) := by decide +kernel
theorem dD_stateAllows_131 : decode cD_stateAllows 131 = .ok (.if_icmp .ne 7, 3) := by decide +kernel
theorem dD_stateAllows_134 : decode cD_stateAllows 134 = .ok (.iconst 1, 1) := by decide +kernel
theorem dD_stateAllows_135 : decode cD_stateAllows 135 = .ok (.goto 4, 3) := by decide +kernel
theorem dD_stateAllows_138 : decode cD_stateAllows 138 = .ok (.iconst 0, 1) := by decide +kernel
theorem dD_stateAllows_139 : decode cD_stateAllows 139 = .ok (.ireturn, 1) := by decide +kernel
theorem dD_stateAllows_140 : decode cD_stateAllows 140 = .ok (.aload_n 0, 1) := by decide +kernel
theorem dD_stateAllows_141 : decode cD_stateAllows 141 = .ok (.getfield 21, 3) := by decide +kernel
theorem dD_stateAllows_144 : decode cD_stateAllows 144 = .ok (.iconst 2, 1) := by decide +kernel
theorem dD_stateAllows_145 : decode cD_stateAllows 145 = .ok (.if_icmp .eq 11, 3) := by decide +kernel
theorem dD_stateAllows_148 : decode cD_stateAllows 148 = .ok (.aload_n 0, 1) := by decide +kernel
theorem dD_stateAllows_149 : decode cD_stateAllows 149 = .ok (.getfield 21, 3) := by decide +kernel
theorem dD_stateAllows_152 : decode cD_stateAllows 152 = .ok (.iconst 3, 1) := by decide +kernel
theorem dD_stateAllows_153 : decode cD_stateAllows 153 = .ok (.if_icmp .ne 7, 3) := by decide +kernel
theorem dD_stateAllows_156 : decode cD_stateAllows 156 = .ok (.iconst 1, 1) := by decide +kernel
theorem dD_stateAllows_157 : decode cD_stateAllows 157 = .ok (.goto 4, 3) := by decide +kernel
theorem dD_stateAllows_160 : decode cD_stateAllows 160 = .ok (.iconst 0, 1) := by decide +kernel
theorem dD_stateAllows_161 : decode cD_stateAllows 161 = .ok (.ireturn, 1) := by decide +kernel
theorem dD_stateAllows_162 : decode cD_stateAllows 162 = .ok (.aload_n 0, 1) := by decide +kernel
theorem dD_stateAllows_163 : decode cD_stateAllows 163 = .ok (.getfield 21, 3) := by decide +kernel
theorem dD_stateAllows_166 : decode cD_stateAllows 166 = .ok (.iconst 4, 1) := by decide +kernel
theorem dD_stateAllows_167 : decode cD_stateAllows 167 = .ok (.if_icmp .ne 14, 3) := by decide +kernel
theorem dD_stateAllows_170 : decode cD_stateAllows 170 = .ok (.aload_n 0, 1) := by decide +kernel
theorem dD_stateAllows_171 : decode cD_stateAllows 171 = .ok (.getfield 15, 3) := by decide +kernel
theorem dD_stateAllows_174 : decode cD_stateAllows 174 = .ok (.ifCond .eq 7, 3) := by decide +kernel
theorem dD_stateAllows_177 : decode cD_stateAllows 177 = .ok (.iconst 1, 1) := by decide +kernel
theorem dD_stateAllows_178 : decode cD_stateAllows 178 = .ok (.goto 4, 3) := by decide +kernel
theorem dD_stateAllows_181 : decode cD_stateAllows 181 = .ok (.iconst 0, 1) := by decide +kernel
theorem dD_stateAllows_182 : decode cD_stateAllows 182 = .ok (.ireturn, 1) := by decide +kernel
theorem dD_stateAllows_183 : decode cD_stateAllows 183 = .ok (.aload_n 0, 1) := by decide +kernel
theorem dD_stateAllows_184 : decode cD_stateAllows 184 = .ok (.getfield 21, 3) := by decide +kernel
theorem dD_stateAllows_187 : decode cD_stateAllows 187 = .ok (.iconst 4, 1) := by decide +kernel
theorem dD_stateAllows_188 : decode cD_stateAllows 188 = .ok (.if_icmp .ne 10, 3) := by decide +kernel
theorem dD_stateAllows_191 : decode cD_stateAllows 191 = .ok (.aload_n 0, 1) := by decide +kernel
theorem dD_stateAllows_192 : decode cD_stateAllows 192 = .ok (.getfield 15, 3) := by decide +kernel
theorem dD_stateAllows_195 : decode cD_stateAllows 195 = .ok (.ifCond .eq 11, 3) := by decide +kernel
theorem dD_stateAllows_198 : decode cD_stateAllows 198 = .ok (.aload_n 0, 1) := by decide +kernel
theorem dD_stateAllows_199 : decode cD_stateAllows 199 = .ok (.getfield 21, 3) := by decide +kernel
theorem dD_stateAllows_202 : decode cD_stateAllows 202 = .ok (.iconst 5, 1) := by decide +kernel
theorem dD_stateAllows_203 : decode cD_stateAllows 203 = .ok (.if_icmp .ne 7, 3) := by decide +kernel
theorem dD_stateAllows_206 : decode cD_stateAllows 206 = .ok (.iconst 1, 1) := by decide +kernel
theorem dD_stateAllows_207 : decode cD_stateAllows 207 = .ok (.goto 4, 3) := by decide +kernel
theorem dD_stateAllows_210 : decode cD_stateAllows 210 = .ok (.iconst 0, 1) := by decide +kernel
theorem dD_stateAllows_211 : decode cD_stateAllows 211 = .ok (.ireturn, 1) := by decide +kernel
theorem dD_stateAllows_212 : decode cD_stateAllows 212 = .ok (.iconst 0, 1) := by decide +kernel
theorem dD_stateAllows_213 : decode cD_stateAllows 213 = .ok (.ireturn, 1) := by decide +kernel
theorem dD_marksAllow_0 : decode cD_marksAllow 0 = .ok (.iload_n 1, 1) := by decide +kernel
theorem dD_marksAllow_1 : decode cD_marksAllow 1 = .ok (.tableswitch 107 1 9 #[51, 65, 107, 107, 107, 87, 107, 107, 101], 51) := by decide +kernel
theorem dD_marksAllow_52 : decode cD_marksAllow 52 = .ok (.aload_n 0, 1) := by decide +kernel
theorem dD_marksAllow_53 : decode cD_marksAllow 53 = .ok (.iconst 1, 1) := by decide +kernel
theorem dD_marksAllow_54 : decode cD_marksAllow 54 = .ok (.invokevirtual 33, 3) := by decide +kernel
theorem dD_marksAllow_57 : decode cD_marksAllow 57 = .ok (.ifCond .ne 7, 3) := by decide +kernel
theorem dD_marksAllow_60 : decode cD_marksAllow 60 = .ok (.iconst 1, 1) := by decide +kernel
theorem dD_marksAllow_61 : decode cD_marksAllow 61 = .ok (.goto 4, 3) := by decide +kernel
theorem dD_marksAllow_64 : decode cD_marksAllow 64 = .ok (.iconst 0, 1) := by decide +kernel
theorem dD_marksAllow_65 : decode cD_marksAllow 65 = .ok (.ireturn, 1) := by decide +kernel
theorem dD_marksAllow_66 : decode cD_marksAllow 66 = .ok (.aload_n 0, 1) := by decide +kernel
theorem dD_marksAllow_67 : decode cD_marksAllow 67 = .ok (.getfield 15, 3) := by decide +kernel
theorem dD_marksAllow_70 : decode cD_marksAllow 70 = .ok (.iconst 1, 1) := by decide +kernel
theorem dD_marksAllow_71 : decode cD_marksAllow 71 = .ok (.if_icmp .eq 11, 3) := by decide +kernel
theorem dD_marksAllow_74 : decode cD_marksAllow 74 = .ok (.aload_n 0, 1) := by decide +kernel
theorem dD_marksAllow_75 : decode cD_marksAllow 75 = .ok (.iconst 1, 1) := by decide +kernel
theorem dD_marksAllow_76 : decode cD_marksAllow 76 = .ok (.invokevirtual 33, 3) := by decide +kernel
theorem dD_marksAllow_79 : decode cD_marksAllow 79 = .ok (.ifCond .eq 7, 3) := by decide +kernel
theorem dD_marksAllow_82 : decode cD_marksAllow 82 = .ok (.iconst 1, 1) := by decide +kernel
theorem dD_marksAllow_83 : decode cD_marksAllow 83 = .ok (.goto 4, 3) := by decide +kernel
theorem dD_marksAllow_86 : decode cD_marksAllow 86 = .ok (.iconst 0, 1) := by decide +kernel
theorem dD_marksAllow_87 : decode cD_marksAllow 87 = .ok (.ireturn, 1) := by decide +kernel
theorem dD_marksAllow_88 : decode cD_marksAllow 88 = .ok (.aload_n 0, 1) := by decide +kernel
theorem dD_marksAllow_89 : decode cD_marksAllow 89 = .ok (.iconst 2, 1) := by decide +kernel
theorem dD_marksAllow_90 : decode cD_marksAllow 90 = .ok (.invokevirtual 33, 3) := by decide +kernel
theorem dD_marksAllow_93 : decode cD_marksAllow 93 = .ok (.ifCond .ne 7, 3) := by decide +kernel
theorem dD_marksAllow_96 : decode cD_marksAllow 96 = .ok (.iconst 1, 1) := by decide +kernel
theorem dD_marksAllow_97 : decode cD_marksAllow 97 = .ok (.goto 4, 3) := by decide +kernel
theorem dD_marksAllow_100 : decode cD_marksAllow 100 = .ok (.iconst 0, 1) := by decide +kernel
theorem dD_marksAllow_101 : decode cD_marksAllow 101 = .ok (.ireturn, 1) := by decide +kernel
theorem dD_marksAllow_102 : decode cD_marksAllow 102 = .ok (.aload_n 0, 1) := by decide +kernel
theorem dD_marksAllow_103 : decode cD_marksAllow 103 = .ok (.iconst 4, 1) := by decide +kernel
theorem dD_marksAllow_104 : decode cD_marksAllow 104 = .ok (.invokevirtual 33, 3) := by decide +kernel
theorem dD_marksAllow_107 : decode cD_marksAllow 107 = .ok (.ireturn, 1) := by decide +kernel
theorem dD_marksAllow_108 : decode cD_marksAllow 108 = .ok (.iconst 1, 1) := by decide +kernel
theorem dD_marksAllow_109 : decode cD_marksAllow 109 = .ok (.ireturn, 1) := by decide +kernel
theorem dD_carryOut_0 : decode cD_carryOut 0 = .ok (.iload_n 1, 1) := by decide +kernel
theorem dD_carryOut_1 : decode cD_carryOut 1 = .ok (.tableswitch 160 0 9 #[55, 64, 77, 86, 77, 95, 114, 127, 136, 146], 55) := by decide +kernel
theorem dD_carryOut_56 : decode cD_carryOut 56 = .ok (.aload_n 0, 1) := by decide +kernel
theorem dD_carryOut_57 : decode cD_carryOut 57 = .ok (.iconst 1, 1) := by decide +kernel
theorem dD_carryOut_58 : decode cD_carryOut 58 = .ok (.iload_n 2, 1) := by decide +kernel
theorem dD_carryOut_59 : decode cD_carryOut 59 = .ok (.invokevirtual 37, 3) := by decide +kernel
theorem dD_carryOut_62 : decode cD_carryOut 62 = .ok (.goto 99, 3) := by decide +kernel
theorem dD_carryOut_65 : decode cD_carryOut 65 = .ok (.aload_n 0, 1) := by decide +kernel
theorem dD_carryOut_66 : decode cD_carryOut 66 = .ok (.dup, 1) := by decide +kernel
theorem dD_carryOut_67 : decode cD_carryOut 67 = .ok (.getfield 27, 3) := by decide +kernel
theorem dD_carryOut_70 : decode cD_carryOut 70 = .ok (.iconst 1, 1) := by decide +kernel
theorem dD_carryOut_71 : decode cD_carryOut 71 = .ok (.ior, 1) := by decide +kernel
theorem dD_carryOut_72 : decode cD_carryOut 72 = .ok (.putfield 27, 3) := by decide +kernel
theorem dD_carryOut_75 : decode cD_carryOut 75 = .ok (.goto 86, 3) := by decide +kernel
theorem dD_carryOut_78 : decode cD_carryOut 78 = .ok (.aload_n 0, 1) := by decide +kernel
theorem dD_carryOut_79 : decode cD_carryOut 79 = .ok (.iconst 2, 1) := by decide +kernel
theorem dD_carryOut_80 : decode cD_carryOut 80 = .ok (.iload_n 2, 1) := by decide +kernel
theorem dD_carryOut_81 : decode cD_carryOut 81 = .ok (.invokevirtual 37, 3) := by decide +kernel
theorem dD_carryOut_84 : decode cD_carryOut 84 = .ok (.goto 77, 3) := by decide +kernel
theorem dD_carryOut_87 : decode cD_carryOut 87 = .ok (.aload_n 0, 1) := by decide +kernel
theorem dD_carryOut_88 : decode cD_carryOut 88 = .ok (.iconst 3, 1) := by decide +kernel
theorem dD_carryOut_89 : decode cD_carryOut 89 = .ok (.iload_n 2, 1) := by decide +kernel
theorem dD_carryOut_90 : decode cD_carryOut 90 = .ok (.invokevirtual 37, 3) := by decide +kernel
theorem dD_carryOut_93 : decode cD_carryOut 93 = .ok (.goto 68, 3) := by decide +kernel
theorem dD_carryOut_96 : decode cD_carryOut 96 = .ok (.aload_n 0, 1) := by decide +kernel
theorem dD_carryOut_97 : decode cD_carryOut 97 = .ok (.dup, 1) := by decide +kernel
theorem dD_carryOut_98 : decode cD_carryOut 98 = .ok (.getfield 27, 3) := by decide +kernel
theorem dD_carryOut_101 : decode cD_carryOut 101 = .ok (.iconst 4, 1) := by decide +kernel
theorem dD_carryOut_102 : decode cD_carryOut 102 = .ok (.ior, 1) := by decide +kernel
theorem dD_carryOut_103 : decode cD_carryOut 103 = .ok (.putfield 27, 3) := by decide +kernel
theorem dD_carryOut_106 : decode cD_carryOut 106 = .ok (.aload_n 0, 1) := by decide +kernel
theorem dD_carryOut_107 : decode cD_carryOut 107 = .ok (.iconst 2, 1) := by decide +kernel
theorem dD_carryOut_108 : decode cD_carryOut 108 = .ok (.iload_n 2, 1) := by decide +kernel
theorem dD_carryOut_109 : decode cD_carryOut 109 = .ok (.invokevirtual 37, 3) := by decide +kernel
theorem dD_carryOut_112 : decode cD_carryOut 112 = .ok (.goto 49, 3) := by decide +kernel
theorem dD_carryOut_115 : decode cD_carryOut 115 = .ok (.aload_n 0, 1) := by decide +kernel
theorem dD_carryOut_116 : decode cD_carryOut 116 = .ok (.dup, 1) := by decide +kernel
theorem dD_carryOut_117 : decode cD_carryOut 117 = .ok (.getfield 27, 3) := by decide +kernel
theorem dD_carryOut_120 : decode cD_carryOut 120 = .ok (.iconst 2, 1) := by decide +kernel
theorem dD_carryOut_121 : decode cD_carryOut 121 = .ok (.ior, 1) := by decide +kernel
theorem dD_carryOut_122 : decode cD_carryOut 122 = .ok (.putfield 27, 3) := by decide +kernel
theorem dD_carryOut_125 : decode cD_carryOut 125 = .ok (.goto 36, 3) := by decide +kernel
theorem dD_carryOut_128 : decode cD_carryOut 128 = .ok (.aload_n 0, 1) := by decide +kernel
theorem dD_carryOut_129 : decode cD_carryOut 129 = .ok (.iconst 5, 1) := by decide +kernel
theorem dD_carryOut_130 : decode cD_carryOut 130 = .ok (.iload_n 2, 1) := by decide +kernel
theorem dD_carryOut_131 : decode cD_carryOut 131 = .ok (.invokevirtual 37, 3) := by decide +kernel
theorem dD_carryOut_134 : decode cD_carryOut 134 = .ok (.goto 27, 3) := by decide +kernel
theorem dD_carryOut_137 : decode cD_carryOut 137 = .ok (.aload_n 0, 1) := by decide +kernel
theorem dD_carryOut_138 : decode cD_carryOut 138 = .ok (.bipush 7, 2) := by decide +kernel
theorem dD_carryOut_140 : decode cD_carryOut 140 = .ok (.iload_n 2, 1) := by decide +kernel
theorem dD_carryOut_141 : decode cD_carryOut 141 = .ok (.invokevirtual 37, 3) := by decide +kernel
theorem dD_carryOut_144 : decode cD_carryOut 144 = .ok (.goto 17, 3) := by decide +kernel
theorem dD_carryOut_147 : decode cD_carryOut 147 = .ok (.aload_n 0, 1) := by decide +kernel
theorem dD_carryOut_148 : decode cD_carryOut 148 = .ok (.dup, 1) := by decide +kernel
theorem dD_carryOut_149 : decode cD_carryOut 149 = .ok (.getfield 27, 3) := by decide +kernel
theorem dD_carryOut_152 : decode cD_carryOut 152 = .ok (.bipush (-5), 2) := by decide +kernel
theorem dD_carryOut_154 : decode cD_carryOut 154 = .ok (.iand, 1) := by decide +kernel
theorem dD_carryOut_155 : decode cD_carryOut 155 = .ok (.putfield 27, 3) := by decide +kernel
theorem dD_carryOut_158 : decode cD_carryOut 158 = .ok (.goto 3, 3) := by decide +kernel
theorem dD_carryOut_161 : decode cD_carryOut 161 = .ok (.aload_n 0, 1) := by decide +kernel
theorem dD_carryOut_162 : decode cD_carryOut 162 = .ok (.iload_n 2, 1) := by decide +kernel
theorem dD_carryOut_163 : decode cD_carryOut 163 = .ok (.invokevirtual 41, 3) := by decide +kernel
theorem dD_carryOut_166 : decode cD_carryOut 166 = .ok (.return_, 1) := by decide +kernel
theorem dD_releaseIfNothingHolds_0 : decode cD_releaseIfNothingHolds 0 = .ok (.aload_n 0, 1) := by decide +kernel
theorem dD_releaseIfNothingHolds_1 : decode cD_releaseIfNothingHolds 1 = .ok (.getfield 15, 3) := by decide +kernel
theorem dD_releaseIfNothingHolds_4 : decode cD_releaseIfNothingHolds 4 = .ok (.ifCond .ne 11, 3) := by decide +kernel
theorem dD_releaseIfNothingHolds_7 : decode cD_releaseIfNothingHolds 7 = .ok (.aload_n 0, 1) := by decide +kernel
theorem dD_releaseIfNothingHolds_8 : decode cD_releaseIfNothingHolds 8 = .ok (.iconst 2, 1) := by decide +kernel
theorem dD_releaseIfNothingHolds_9 : decode cD_releaseIfNothingHolds 9 = .ok (.invokevirtual 33, 3) := by decide +kernel
theorem dD_releaseIfNothingHolds_12 : decode cD_releaseIfNothingHolds 12 = .ok (.ifCond .eq 7, 3) := by decide +kernel
theorem dD_releaseIfNothingHolds_15 : decode cD_releaseIfNothingHolds 15 = .ok (.iconst 1, 1) := by decide +kernel
theorem dD_releaseIfNothingHolds_16 : decode cD_releaseIfNothingHolds 16 = .ok (.goto 4, 3) := by decide +kernel
theorem dD_releaseIfNothingHolds_19 : decode cD_releaseIfNothingHolds 19 = .ok (.iconst 0, 1) := by decide +kernel
theorem dD_releaseIfNothingHolds_20 : decode cD_releaseIfNothingHolds 20 = .ok (.istore_n 2, 1) := by decide +kernel
theorem dD_releaseIfNothingHolds_21 : decode cD_releaseIfNothingHolds 21 = .ok (.aload_n 0, 1) := by decide +kernel
theorem dD_releaseIfNothingHolds_22 : decode cD_releaseIfNothingHolds 22 = .ok (.getfield 21, 3) := by decide +kernel
theorem dD_releaseIfNothingHolds_25 : decode cD_releaseIfNothingHolds 25 = .ok (.iconst 2, 1) := by decide +kernel
theorem dD_releaseIfNothingHolds_26 : decode cD_releaseIfNothingHolds 26 = .ok (.if_icmp .ne 36, 3) := by decide +kernel
theorem dD_releaseIfNothingHolds_29 : decode cD_releaseIfNothingHolds 29 = .ok (.aload_n 0, 1) := by decide +kernel
theorem dD_releaseIfNothingHolds_30 : decode cD_releaseIfNothingHolds 30 = .ok (.getfield 30, 3) := by decide +kernel
theorem dD_releaseIfNothingHolds_33 : decode cD_releaseIfNothingHolds 33 = .ok (.ifCond .ne 29, 3) := by decide +kernel
theorem dD_releaseIfNothingHolds_36 : decode cD_releaseIfNothingHolds 36 = .ok (.aload_n 0, 1) := by decide +kernel
theorem dD_releaseIfNothingHolds_37 : decode cD_releaseIfNothingHolds 37 = .ok (.iconst 4, 1) := by decide +kernel
theorem dD_releaseIfNothingHolds_38 : decode cD_releaseIfNothingHolds 38 = .ok (.invokevirtual 33, 3) := by decide +kernel
theorem dD_releaseIfNothingHolds_41 : decode cD_releaseIfNothingHolds 41 = .ok (.ifCond .ne 21, 3) := by decide +kernel
theorem dD_releaseIfNothingHolds_44 : decode cD_releaseIfNothingHolds 44 = .ok (.aload_n 0, 1) := by decide +kernel
theorem dD_releaseIfNothingHolds_45 : decode cD_releaseIfNothingHolds 45 = .ok (.iconst 1, 1) := by decide +kernel
theorem dD_releaseIfNothingHolds_46 : decode cD_releaseIfNothingHolds 46 = .ok (.invokevirtual 33, 3) := by decide +kernel
theorem dD_releaseIfNothingHolds_49 : decode cD_releaseIfNothingHolds 49 = .ok (.ifCond .eq 13, 3) := by decide +kernel
theorem dD_releaseIfNothingHolds_52 : decode cD_releaseIfNothingHolds 52 = .ok (.iload_n 2, 1) := by decide +kernel
theorem dD_releaseIfNothingHolds_53 : decode cD_releaseIfNothingHolds 53 = .ok (.ifCond .eq 9, 3) := by decide +kernel
theorem dD_releaseIfNothingHolds_56 : decode cD_releaseIfNothingHolds 56 = .ok (.aload_n 0, 1) := by decide +kernel
theorem dD_releaseIfNothingHolds_57 : decode cD_releaseIfNothingHolds 57 = .ok (.iconst 4, 1) := by decide +kernel
theorem dD_releaseIfNothingHolds_58 : decode cD_releaseIfNothingHolds 58 = .ok (.iload_n 1, 1) := by decide +kernel
theorem dD_releaseIfNothingHolds_59 : decode cD_releaseIfNothingHolds 59 = .ok (.invokevirtual 37, 3) := by decide +kernel
theorem dD_releaseIfNothingHolds_62 : decode cD_releaseIfNothingHolds 62 = .ok (.return_, 1) := by decide +kernel
theorem dD_requestInvalidation_0 : decode cD_requestInvalidation 0 = .ok (.aload_n 0, 1) := by decide +kernel
theorem dD_requestInvalidation_1 : decode cD_requestInvalidation 1 = .ok (.getfield 21, 3) := by decide +kernel
theorem dD_requestInvalidation_4 : decode cD_requestInvalidation 4 = .ok (.tableswitch 74 0 4 #[36, 36, 43, 43, 58], 36) := by decide +kernel
theorem dD_requestInvalidation_40 : decode cD_requestInvalidation 40 = .ok (.aload_n 0, 1) := by decide +kernel
theorem dD_requestInvalidation_41 : decode cD_requestInvalidation 41 = .ok (.iload_n 2, 1) := by decide +kernel
theorem dD_requestInvalidation_42 : decode cD_requestInvalidation 42 = .ok (.iload_n 3, 1) := by decide +kernel
theorem dD_requestInvalidation_43 : decode cD_requestInvalidation 43 = .ok (.invokevirtual 45, 3) := by decide +kernel
theorem dD_requestInvalidation_46 : decode cD_requestInvalidation 46 = .ok (.ireturn, 1) := by decide +kernel
theorem dD_requestInvalidation_47 : decode cD_requestInvalidation 47 = .ok (.iload_n 2, 1) := by decide +kernel
theorem dD_requestInvalidation_48 : decode cD_requestInvalidation 48 = .ok (.ifCond .ne 7, 3) := by decide +kernel
theorem dD_requestInvalidation_51 : decode cD_requestInvalidation 51 = .ok (.iconst 0, 1) := by decide +kernel
theorem dD_requestInvalidation_52 : decode cD_requestInvalidation 52 = .ok (.goto 9, 3) := by decide +kernel
theorem dD_requestInvalidation_55 : decode cD_requestInvalidation 55 = .ok (.aload_n 0, 1) := by decide +kernel
theorem dD_requestInvalidation_56 : decode cD_requestInvalidation 56 = .ok (.iload_n 2, 1) := by decide +kernel
theorem dD_requestInvalidation_57 : decode cD_requestInvalidation 57 = .ok (.iload_n 3, 1) := by decide +kernel
theorem dD_requestInvalidation_58 : decode cD_requestInvalidation 58 = .ok (.invokevirtual 45, 3) := by decide +kernel
theorem dD_requestInvalidation_61 : decode cD_requestInvalidation 61 = .ok (.ireturn, 1) := by decide +kernel
theorem dD_requestInvalidation_62 : decode cD_requestInvalidation 62 = .ok (.iload_n 2, 1) := by decide +kernel
theorem dD_requestInvalidation_63 : decode cD_requestInvalidation 63 = .ok (.ifCond .ne 7, 3) := by decide +kernel
theorem dD_requestInvalidation_66 : decode cD_requestInvalidation 66 = .ok (.iconst 0, 1) := by decide +kernel
theorem dD_requestInvalidation_67 : decode cD_requestInvalidation 67 = .ok (.goto 10, 3) := by decide +kernel
theorem dD_requestInvalidation_70 : decode cD_requestInvalidation 70 = .ok (.aload_n 0, 1) := by decide +kernel
theorem dD_requestInvalidation_71 : decode cD_requestInvalidation 71 = .ok (.iload_n 1, 1) := by decide +kernel
theorem dD_requestInvalidation_72 : decode cD_requestInvalidation 72 = .ok (.iload_n 2, 1) := by decide +kernel
theorem dD_requestInvalidation_73 : decode cD_requestInvalidation 73 = .ok (.iload_n 3, 1) := by decide +kernel
theorem dD_requestInvalidation_74 : decode cD_requestInvalidation 74 = .ok (.invokevirtual 49, 3) := by decide +kernel
theorem dD_requestInvalidation_77 : decode cD_requestInvalidation 77 = .ok (.ireturn, 1) := by decide +kernel
theorem dD_requestInvalidation_78 : decode cD_requestInvalidation 78 = .ok (.iconst 0, 1) := by decide +kernel
theorem dD_requestInvalidation_79 : decode cD_requestInvalidation 79 = .ok (.ireturn, 1) := by decide +kernel
theorem dD_requestAsOneOfTwo_0 : decode cD_requestAsOneOfTwo 0 = .ok (.aload_n 0, 1) := by decide +kernel
theorem dD_requestAsOneOfTwo_1 : decode cD_requestAsOneOfTwo 1 = .ok (.getfield 24, 3) := by decide +kernel
theorem dD_requestAsOneOfTwo_4 : decode cD_requestAsOneOfTwo 4 = .ok (.iconst (-1), 1) := by decide +kernel
theorem dD_requestAsOneOfTwo_5 : decode cD_requestAsOneOfTwo 5 = .ok (.if_icmp .ne 10, 3) := by decide +kernel
theorem dD_requestAsOneOfTwo_8 : decode cD_requestAsOneOfTwo 8 = .ok (.aload_n 0, 1) := by decide +kernel
theorem dD_requestAsOneOfTwo_9 : decode cD_requestAsOneOfTwo 9 = .ok (.iload_n 1, 1) := by decide +kernel
theorem dD_requestAsOneOfTwo_10 : decode cD_requestAsOneOfTwo 10 = .ok (.putfield 24, 3) := by decide +kernel
theorem dD_requestAsOneOfTwo_13 : decode cD_requestAsOneOfTwo 13 = .ok (.iconst 2, 1) := by decide +kernel
theorem dD_requestAsOneOfTwo_14 : decode cD_requestAsOneOfTwo 14 = .ok (.ireturn, 1) := by decide +kernel
theorem dD_requestAsOneOfTwo_15 : decode cD_requestAsOneOfTwo 15 = .ok (.aload_n 0, 1) := by decide +kernel
theorem dD_requestAsOneOfTwo_16 : decode cD_requestAsOneOfTwo 16 = .ok (.getfield 24, 3) := by decide +kernel
theorem dD_requestAsOneOfTwo_19 : decode cD_requestAsOneOfTwo 19 = .ok (.iload_n 1, 1) := by decide +kernel
theorem dD_requestAsOneOfTwo_20 : decode cD_requestAsOneOfTwo 20 = .ok (.if_icmp .ne 7, 3) := by decide +kernel
theorem dD_requestAsOneOfTwo_23 : decode cD_requestAsOneOfTwo 23 = .ok (.iconst 0, 1) := by decide +kernel
theorem dD_requestAsOneOfTwo_24 : decode cD_requestAsOneOfTwo 24 = .ok (.goto 9, 3) := by decide +kernel
theorem dD_requestAsOneOfTwo_27 : decode cD_requestAsOneOfTwo 27 = .ok (.aload_n 0, 1) := by decide +kernel
theorem dD_requestAsOneOfTwo_28 : decode cD_requestAsOneOfTwo 28 = .ok (.iload_n 2, 1) := by decide +kernel
theorem dD_requestAsOneOfTwo_29 : decode cD_requestAsOneOfTwo 29 = .ok (.iload_n 3, 1) := by decide +kernel
theorem dD_requestAsOneOfTwo_30 : decode cD_requestAsOneOfTwo 30 = .ok (.invokevirtual 45, 3) := by decide +kernel
theorem dD_requestAsOneOfTwo_33 : decode cD_requestAsOneOfTwo 33 = .ok (.ireturn, 1) := by decide +kernel
theorem dD_invalidateFor_0 : decode cD_invalidateFor 0 = .ok (.aload_n 0, 1) := by decide +kernel
theorem dD_invalidateFor_1 : decode cD_invalidateFor 1 = .ok (.iload_n 1, 1) := by decide +kernel
theorem dD_invalidateFor_2 : decode cD_invalidateFor 2 = .ok (.putfield 53, 3) := by decide +kernel
theorem dD_invalidateFor_5 : decode cD_invalidateFor 5 = .ok (.aload_n 0, 1) := by decide +kernel
theorem dD_invalidateFor_6 : decode cD_invalidateFor 6 = .ok (.bipush 6, 2) := by decide +kernel
theorem dD_invalidateFor_8 : decode cD_invalidateFor 8 = .ok (.iload_n 2, 1) := by decide +kernel
theorem dD_invalidateFor_9 : decode cD_invalidateFor 9 = .ok (.invokevirtual 37, 3) := by decide +kernel
theorem dD_invalidateFor_12 : decode cD_invalidateFor 12 = .ok (.iconst 1, 1) := by decide +kernel
theorem dD_invalidateFor_13 : decode cD_invalidateFor 13 = .ok (.ireturn, 1) := by decide +kernel
theorem dD_become_0 : decode cD_become 0 = .ok (.aload_n 0, 1) := by decide +kernel
theorem dD_become_1 : decode cD_become 1 = .ok (.iload_n 1, 1) := by decide +kernel
theorem dD_become_2 : decode cD_become 2 = .ok (.putfield 21, 3) := by decide +kernel
theorem dD_become_5 : decode cD_become 5 = .ok (.aload_n 0, 1) := by decide +kernel
theorem dD_become_6 : decode cD_become 6 = .ok (.iload_n 2, 1) := by decide +kernel
theorem dD_become_7 : decode cD_become 7 = .ok (.putfield 56, 3) := by decide +kernel
theorem dD_become_10 : decode cD_become 10 = .ok (.aload_n 0, 1) := by decide +kernel
theorem dD_become_11 : decode cD_become 11 = .ok (.iconst (-1), 1) := by decide +kernel
theorem dD_become_12 : decode cD_become 12 = .ok (.putfield 24, 3) := by decide +kernel
theorem dD_become_15 : decode cD_become 15 = .ok (.return_, 1) := by decide +kernel
theorem dD_write_0 : decode cD_write 0 = .ok (.aload_n 1, 1) := by decide +kernel
theorem dD_write_1 : decode cD_write 1 = .ok (.aconst_null, 1) := by decide +kernel
theorem dD_write_2 : decode cD_write 2 = .ok (.putfield 59, 3) := by decide +kernel
theorem dD_write_5 : decode cD_write 5 = .ok (.aload_n 0, 1) := by decide +kernel
theorem dD_write_6 : decode cD_write 6 = .ok (.getfield 65, 3) := by decide +kernel
theorem dD_write_9 : decode cD_write 9 = .ok (.ifnonnull 11, 3) := by decide +kernel
theorem dD_write_12 : decode cD_write 12 = .ok (.aload_n 0, 1) := by decide +kernel
theorem dD_write_13 : decode cD_write 13 = .ok (.aload_n 1, 1) := by decide +kernel
theorem dD_write_14 : decode cD_write 14 = .ok (.putfield 68, 3) := by decide +kernel
theorem dD_write_17 : decode cD_write 17 = .ok (.goto 11, 3) := by decide +kernel
theorem dD_write_20 : decode cD_write 20 = .ok (.aload_n 0, 1) := by decide +kernel
theorem dD_write_21 : decode cD_write 21 = .ok (.getfield 65, 3) := by decide +kernel
theorem dD_write_24 : decode cD_write 24 = .ok (.aload_n 1, 1) := by decide +kernel
theorem dD_write_25 : decode cD_write 25 = .ok (.putfield 59, 3) := by decide +kernel
theorem dD_write_28 : decode cD_write 28 = .ok (.aload_n 0, 1) := by decide +kernel
theorem dD_write_29 : decode cD_write 29 = .ok (.aload_n 1, 1) := by decide +kernel
theorem dD_write_30 : decode cD_write 30 = .ok (.putfield 65, 3) := by decide +kernel
theorem dD_write_33 : decode cD_write 33 = .ok (.aload_n 0, 1) := by decide +kernel
theorem dD_write_34 : decode cD_write 34 = .ok (.dup, 1) := by decide +kernel
theorem dD_write_35 : decode cD_write 35 = .ok (.getfield 71, 3) := by decide +kernel
theorem dD_write_38 : decode cD_write 38 = .ok (.iconst 1, 1) := by decide +kernel
theorem dD_write_39 : decode cD_write 39 = .ok (.iadd, 1) := by decide +kernel
theorem dD_write_40 : decode cD_write 40 = .ok (.putfield 71, 3) := by decide +kernel
theorem dD_write_43 : decode cD_write 43 = .ok (.return_, 1) := by decide +kernel
theorem dD_writtenAt_0 : decode cD_writtenAt 0 = .ok (.iload_n 1, 1) := by decide +kernel
theorem dD_writtenAt_1 : decode cD_writtenAt 1 = .ok (.ifCond .lt 11, 3) := by decide +kernel
theorem dD_writtenAt_4 : decode cD_writtenAt 4 = .ok (.iload_n 1, 1) := by decide +kernel
theorem dD_writtenAt_5 : decode cD_writtenAt 5 = .ok (.aload_n 0, 1) := by decide +kernel
theorem dD_writtenAt_6 : decode cD_writtenAt 6 = .ok (.getfield 71, 3) := by decide +kernel
theorem dD_writtenAt_9 : decode cD_writtenAt 9 = .ok (.if_icmp .lt 5, 3) := by decide +kernel
theorem dD_writtenAt_12 : decode cD_writtenAt 12 = .ok (.aconst_null, 1) := by decide +kernel
theorem dD_writtenAt_13 : decode cD_writtenAt 13 = .ok (.areturn, 1) := by decide +kernel
theorem dD_writtenAt_14 : decode cD_writtenAt 14 = .ok (.aload_n 0, 1) := by decide +kernel
theorem dD_writtenAt_15 : decode cD_writtenAt 15 = .ok (.getfield 68, 3) := by decide +kernel
theorem dD_writtenAt_18 : decode cD_writtenAt 18 = .ok (.astore_n 2, 1) := by decide +kernel
theorem dD_writtenAt_19 : decode cD_writtenAt 19 = .ok (.iconst 0, 1) := by decide +kernel
theorem dD_writtenAt_20 : decode cD_writtenAt 20 = .ok (.istore_n 3, 1) := by decide +kernel
theorem dD_writtenAt_21 : decode cD_writtenAt 21 = .ok (.iload_n 3, 1) := by decide +kernel
theorem dD_writtenAt_22 : decode cD_writtenAt 22 = .ok (.iload_n 1, 1) := by decide +kernel
theorem dD_writtenAt_23 : decode cD_writtenAt 23 = .ok (.if_icmp .ge 18, 3) := by decide +kernel
theorem dD_writtenAt_26 : decode cD_writtenAt 26 = .ok (.aload_n 2, 1) := by decide +kernel
theorem dD_writtenAt_27 : decode cD_writtenAt 27 = .ok (.ifnull 14, 3) := by decide +kernel
theorem dD_writtenAt_30 : decode cD_writtenAt 30 = .ok (.aload_n 2, 1) := by decide +kernel
theorem dD_writtenAt_31 : decode cD_writtenAt 31 = .ok (.getfield 59, 3) := by decide +kernel
theorem dD_writtenAt_34 : decode cD_writtenAt 34 = .ok (.astore_n 2, 1) := by decide +kernel
theorem dD_writtenAt_35 : decode cD_writtenAt 35 = .ok (.iinc 3 1, 3) := by decide +kernel
theorem dD_writtenAt_38 : decode cD_writtenAt 38 = .ok (.goto (-17), 3) := by decide +kernel
theorem dD_writtenAt_41 : decode cD_writtenAt 41 = .ok (.aload_n 2, 1) := by decide +kernel
theorem dD_writtenAt_42 : decode cD_writtenAt 42 = .ok (.areturn, 1) := by decide +kernel
theorem dE_init_0 : decode cE_init 0 = .ok (.aload_n 0, 1) := by decide +kernel
theorem dE_init_1 : decode cE_init 1 = .ok (.invokespecial 3, 3) := by decide +kernel
theorem dE_init_4 : decode cE_init 4 = .ok (.aload_n 0, 1) := by decide +kernel
theorem dE_init_5 : decode cE_init 5 = .ok (.aload_n 1, 1) := by decide +kernel
theorem dE_init_6 : decode cE_init 6 = .ok (.putfield 9, 3) := by decide +kernel
theorem dE_init_9 : decode cE_init 9 = .ok (.aload_n 0, 1) := by decide +kernel
theorem dE_init_10 : decode cE_init 10 = .ok (.iload_n 2, 1) := by decide +kernel
theorem dE_init_11 : decode cE_init 11 = .ok (.putfield 15, 3) := by decide +kernel
theorem dE_init_14 : decode cE_init 14 = .ok (.aload_n 0, 1) := by decide +kernel
theorem dE_init_15 : decode cE_init 15 = .ok (.iload_n 3, 1) := by decide +kernel
theorem dE_init_16 : decode cE_init 16 = .ok (.putfield 19, 3) := by decide +kernel
theorem dE_init_19 : decode cE_init 19 = .ok (.aload_n 0, 1) := by decide +kernel
theorem dE_init_20 : decode cE_init 20 = .ok (.iload 4, 2) := by decide +kernel
theorem dE_init_22 : decode cE_init 22 = .ok (.putfield 22, 3) := by decide +kernel
theorem dE_init_25 : decode cE_init 25 = .ok (.aload_n 0, 1) := by decide +kernel
theorem dE_init_26 : decode cE_init 26 = .ok (.iconst (-1), 1) := by decide +kernel
theorem dE_init_27 : decode cE_init 27 = .ok (.putfield 25, 3) := by decide +kernel
theorem dE_init_30 : decode cE_init 30 = .ok (.return_, 1) := by decide +kernel
theorem dE_isWaiting_0 : decode cE_isWaiting 0 = .ok (.aload_n 0, 1) := by decide +kernel
theorem dE_isWaiting_1 : decode cE_isWaiting 1 = .ok (.getfield 25, 3) := by decide +kernel
theorem dE_isWaiting_4 : decode cE_isWaiting 4 = .ok (.iconst (-1), 1) := by decide +kernel
theorem dE_isWaiting_5 : decode cE_isWaiting 5 = .ok (.if_icmp .ne 7, 3) := by decide +kernel
theorem dE_isWaiting_8 : decode cE_isWaiting 8 = .ok (.iconst 1, 1) := by decide +kernel
theorem dE_isWaiting_9 : decode cE_isWaiting 9 = .ok (.goto 4, 3) := by decide +kernel
theorem dE_isWaiting_12 : decode cE_isWaiting 12 = .ok (.iconst 0, 1) := by decide +kernel
theorem dE_isWaiting_13 : decode cE_isWaiting 13 = .ok (.ireturn, 1) := by decide +kernel
theorem dE_goesAheadOf_0 : decode cE_goesAheadOf 0 = .ok (.aload_n 0, 1) := by decide +kernel
theorem dE_goesAheadOf_1 : decode cE_goesAheadOf 1 = .ok (.getfield 22, 3) := by decide +kernel
theorem dE_goesAheadOf_4 : decode cE_goesAheadOf 4 = .ok (.aload_n 1, 1) := by decide +kernel
theorem dE_goesAheadOf_5 : decode cE_goesAheadOf 5 = .ok (.getfield 22, 3) := by decide +kernel
theorem dE_goesAheadOf_8 : decode cE_goesAheadOf 8 = .ok (.if_icmp .lt 25, 3) := by decide +kernel
theorem dE_goesAheadOf_11 : decode cE_goesAheadOf 11 = .ok (.aload_n 0, 1) := by decide +kernel
theorem dE_goesAheadOf_12 : decode cE_goesAheadOf 12 = .ok (.getfield 22, 3) := by decide +kernel
theorem dE_goesAheadOf_15 : decode cE_goesAheadOf 15 = .ok (.aload_n 1, 1) := by decide +kernel
theorem dE_goesAheadOf_16 : decode cE_goesAheadOf 16 = .ok (.getfield 22, 3) := by decide +kernel
theorem dE_goesAheadOf_19 : decode cE_goesAheadOf 19 = .ok (.if_icmp .ne 18, 3) := by decide +kernel
theorem dE_goesAheadOf_22 : decode cE_goesAheadOf 22 = .ok (.aload_n 0, 1) := by decide +kernel
theorem dE_goesAheadOf_23 : decode cE_goesAheadOf 23 = .ok (.getfield 15, 3) := by decide +kernel
theorem dE_goesAheadOf_26 : decode cE_goesAheadOf 26 = .ok (.aload_n 1, 1) := by decide +kernel
theorem dE_goesAheadOf_27 : decode cE_goesAheadOf 27 = .ok (.getfield 15, 3) := by decide +kernel
theorem dE_goesAheadOf_30 : decode cE_goesAheadOf 30 = .ok (.if_icmp .ge 7, 3) := by decide +kernel
theorem dE_goesAheadOf_33 : decode cE_goesAheadOf 33 = .ok (.iconst 1, 1) := by decide +kernel
theorem dE_goesAheadOf_34 : decode cE_goesAheadOf 34 = .ok (.goto 4, 3) := by decide +kernel
theorem dE_goesAheadOf_37 : decode cE_goesAheadOf 37 = .ok (.iconst 0, 1) := by decide +kernel
theorem dE_goesAheadOf_38 : decode cE_goesAheadOf 38 = .ok (.ireturn, 1) := by decide +kernel
end
section
theorem dX_init_0 : decode cX_init 0 = .ok (.aload_n 0, 1) := by decide +kernel
theorem dX_init_1 : decode cX_init 1 = .ok (.invokespecial 1, 3) := by decide +kernel
theorem dX_init_4 : decode cX_init 4 = .ok (.aload_n 0, 1) := by decide +kernel
theorem dX_init_5 : decode cX_init 5 = .ok (.bipush 12, 2) := by decide +kernel
theorem dX_init_7 : decode cX_init 7 = .ok (.newarray .int, 2) := by decide +kernel
theorem dX_init_9 : decode cX_init 9 = .ok (.putfield 9, 3) := by decide +kernel
theorem dX_init_12 : decode cX_init 12 = .ok (.aload_n 0, 1) := by decide +kernel
theorem dX_init_13 : decode cX_init 13 = .ok (.bipush 20, 2) := by decide +kernel
theorem dX_init_15 : decode cX_init 15 = .ok (.anewarray 13, 3) := by decide +kernel
theorem dX_init_18 : decode cX_init 18 = .ok (.putfield 15, 3) := by decide +kernel
theorem dX_init_21 : decode cX_init 21 = .ok (.aload_n 0, 1) := by decide +kernel
theorem dX_init_22 : decode cX_init 22 = .ok (.bipush 120, 2) := by decide +kernel
theorem dX_init_24 : decode cX_init 24 = .ok (.anewarray 19, 3) := by decide +kernel
theorem dX_init_27 : decode cX_init 27 = .ok (.putfield 21, 3) := by decide +kernel
theorem dX_init_30 : decode cX_init 30 = .ok (.aload_n 0, 1) := by decide +kernel
theorem dX_init_31 : decode cX_init 31 = .ok (.bipush 8, 2) := by decide +kernel
theorem dX_init_33 : decode cX_init 33 = .ok (.putfield 25, 3) := by decide +kernel
theorem dX_init_36 : decode cX_init 36 = .ok (.aload_n 0, 1) := by decide +kernel
theorem dX_init_37 : decode cX_init 37 = .ok (.bipush 16, 2) := by decide +kernel
theorem dX_init_39 : decode cX_init 39 = .ok (.putfield 29, 3) := by decide +kernel
theorem dX_init_42 : decode cX_init 42 = .ok (.return_, 1) := by decide +kernel
theorem dX_person_0 : decode cX_person 0 = .ok (.iload_n 1, 1) := by decide +kernel
theorem dX_person_1 : decode cX_person 1 = .ok (.iconst 2, 1) := by decide +kernel
theorem dX_person_2 : decode cX_person 2 = .ok (.invokestatic 32, 3) := by decide +kernel
theorem dX_person_5 : decode cX_person 5 = .ok (.ifCond .ne 13, 3) := by decide +kernel
theorem dX_person_8 : decode cX_person 8 = .ok (.new 36, 3) := by decide +kernel
theorem dX_person_11 : decode cX_person 11 = .ok (.dup, 1) := by decide +kernel
theorem dX_person_12 : decode cX_person 12 = .ok (.ldc 38, 2) := by decide +kernel
theorem dX_person_14 : decode cX_person 14 = .ok (.invokespecial 40, 3) := by decide +kernel
theorem dX_person_17 : decode cX_person 17 = .ok (.athrow, 1) := by decide +kernel
theorem dX_person_18 : decode cX_person 18 = .ok (.aload_n 0, 1) := by decide +kernel
theorem dX_person_19 : decode cX_person 19 = .ok (.getfield 43, 3) := by decide +kernel
theorem dX_person_22 : decode cX_person 22 = .ok (.bipush 12, 2) := by decide +kernel
theorem dX_person_24 : decode cX_person 24 = .ok (.if_icmp .lt 13, 3) := by decide +kernel
theorem dX_person_27 : decode cX_person 27 = .ok (.new 46, 3) := by decide +kernel
theorem dX_person_30 : decode cX_person 30 = .ok (.dup, 1) := by decide +kernel
theorem dX_person_31 : decode cX_person 31 = .ok (.ldc 48, 2) := by decide +kernel
theorem dX_person_33 : decode cX_person 33 = .ok (.invokespecial 50, 3) := by decide +kernel
theorem dX_person_36 : decode cX_person 36 = .ok (.athrow, 1) := by decide +kernel
theorem dX_person_37 : decode cX_person 37 = .ok (.aload_n 0, 1) := by decide +kernel
theorem dX_person_38 : decode cX_person 38 = .ok (.getfield 43, 3) := by decide +kernel
theorem dX_person_41 : decode cX_person 41 = .ok (.istore_n 2, 1) := by decide +kernel
theorem dX_person_42 : decode cX_person 42 = .ok (.aload_n 0, 1) := by decide +kernel
theorem dX_person_43 : decode cX_person 43 = .ok (.getfield 9, 3) := by decide +kernel
theorem dX_person_46 : decode cX_person 46 = .ok (.iload_n 2, 1) := by decide +kernel
theorem dX_person_47 : decode cX_person 47 = .ok (.iload_n 1, 1) := by decide +kernel
theorem dX_person_48 : decode cX_person 48 = .ok (.iastore, 1) := by decide +kernel
theorem dX_person_49 : decode cX_person 49 = .ok (.aload_n 0, 1) := by decide +kernel
theorem dX_person_50 : decode cX_person 50 = .ok (.iload_n 2, 1) := by decide +kernel
theorem dX_person_51 : decode cX_person 51 = .ok (.iconst 1, 1) := by decide +kernel
theorem dX_person_52 : decode cX_person 52 = .ok (.iadd, 1) := by decide +kernel
theorem dX_person_53 : decode cX_person 53 = .ok (.putfield 43, 3) := by decide +kernel
theorem dX_person_56 : decode cX_person 56 = .ok (.iload_n 2, 1) := by decide +kernel
theorem dX_person_57 : decode cX_person 57 = .ok (.ireturn, 1) := by decide +kernel
theorem dX_declaration_0 : decode cX_declaration 0 = .ok (.iload_n 1, 1) := by decide +kernel
theorem dX_declaration_1 : decode cX_declaration 1 = .ok (.iconst 2, 1) := by decide +kernel
theorem dX_declaration_2 : decode cX_declaration 2 = .ok (.invokestatic 32, 3) := by decide +kernel
theorem dX_declaration_5 : decode cX_declaration 5 = .ok (.ifCond .ne 13, 3) := by decide +kernel
theorem dX_declaration_8 : decode cX_declaration 8 = .ok (.new 36, 3) := by decide +kernel
theorem dX_declaration_11 : decode cX_declaration 11 = .ok (.dup, 1) := by decide +kernel
theorem dX_declaration_12 : decode cX_declaration 12 = .ok (.ldc 51, 2) := by decide +kernel
theorem dX_declaration_14 : decode cX_declaration 14 = .ok (.invokespecial 40, 3) := by decide +kernel
theorem dX_declaration_17 : decode cX_declaration 17 = .ok (.athrow, 1) := by decide +kernel
theorem dX_declaration_18 : decode cX_declaration 18 = .ok (.aload_n 0, 1) := by decide +kernel
theorem dX_declaration_19 : decode cX_declaration 19 = .ok (.iload_n 2, 1) := by decide +kernel
theorem dX_declaration_20 : decode cX_declaration 20 = .ok (.invokevirtual 53, 3) := by decide +kernel
theorem dX_declaration_23 : decode cX_declaration 23 = .ok (.ifCond .eq 13, 3) := by decide +kernel
theorem dX_declaration_26 : decode cX_declaration 26 = .ok (.new 36, 3) := by decide +kernel
theorem dX_declaration_29 : decode cX_declaration 29 = .ok (.dup, 1) := by decide +kernel
theorem dX_declaration_30 : decode cX_declaration 30 = .ok (.ldc 57, 2) := by decide +kernel
theorem dX_declaration_32 : decode cX_declaration 32 = .ok (.invokespecial 40, 3) := by decide +kernel
theorem dX_declaration_35 : decode cX_declaration 35 = .ok (.athrow, 1) := by decide +kernel
theorem dX_declaration_36 : decode cX_declaration 36 = .ok (.aload_n 0, 1) := by decide +kernel
theorem dX_declaration_37 : decode cX_declaration 37 = .ok (.getfield 59, 3) := by decide +kernel
theorem dX_declaration_40 : decode cX_declaration 40 = .ok (.bipush 20, 2) := by decide +kernel
theorem dX_declaration_42 : decode cX_declaration 42 = .ok (.if_icmp .lt 13, 3) := by decide +kernel
theorem dX_declaration_45 : decode cX_declaration 45 = .ok (.new 46, 3) := by decide +kernel
theorem dX_declaration_48 : decode cX_declaration 48 = .ok (.dup, 1) := by decide +kernel
theorem dX_declaration_49 : decode cX_declaration 49 = .ok (.ldc 62, 2) := by decide +kernel
theorem dX_declaration_51 : decode cX_declaration 51 = .ok (.invokespecial 50, 3) := by decide +kernel
theorem dX_declaration_54 : decode cX_declaration 54 = .ok (.athrow, 1) := by decide +kernel
theorem dX_declaration_55 : decode cX_declaration 55 = .ok (.aload_n 0, 1) := by decide +kernel
theorem dX_declaration_56 : decode cX_declaration 56 = .ok (.getfield 59, 3) := by decide +kernel
theorem dX_declaration_59 : decode cX_declaration 59 = .ok (.istore_n 3, 1) := by decide +kernel
theorem dX_declaration_60 : decode cX_declaration 60 = .ok (.aload_n 0, 1) := by decide +kernel
theorem dX_declaration_61 : decode cX_declaration 61 = .ok (.getfield 15, 3) := by decide +kernel
theorem dX_declaration_64 : decode cX_declaration 64 = .ok (.iload_n 3, 1) := by decide +kernel
theorem dX_declaration_65 : decode cX_declaration 65 = .ok (.new 13, 3) := by decide +kernel
theorem dX_declaration_68 : decode cX_declaration 68 = .ok (.dup, 1) := by decide +kernel
theorem dX_declaration_69 : decode cX_declaration 69 = .ok (.iload_n 3, 1) := by decide +kernel
theorem dX_declaration_70 : decode cX_declaration 70 = .ok (.iload_n 1, 1) := by decide +kernel
theorem dX_declaration_71 : decode cX_declaration 71 = .ok (.iload_n 2, 1) := by decide +kernel
theorem dX_declaration_72 : decode cX_declaration 72 = .ok (.invokespecial 64, 3) := by decide +kernel
theorem dX_declaration_75 : decode cX_declaration 75 = .ok (.aastore, 1) := by decide +kernel
theorem dX_declaration_76 : decode cX_declaration 76 = .ok (.aload_n 0, 1) := by decide +kernel
theorem dX_declaration_77 : decode cX_declaration 77 = .ok (.iload_n 3, 1) := by decide +kernel
theorem dX_declaration_78 : decode cX_declaration 78 = .ok (.iconst 1, 1) := by decide +kernel
theorem dX_declaration_79 : decode cX_declaration 79 = .ok (.iadd, 1) := by decide +kernel
theorem dX_declaration_80 : decode cX_declaration 80 = .ok (.putfield 59, 3) := by decide +kernel
theorem dX_declaration_83 : decode cX_declaration 83 = .ok (.iload_n 3, 1) := by decide +kernel
theorem dX_declaration_84 : decode cX_declaration 84 = .ok (.ireturn, 1) := by decide +kernel
theorem dX_event_0 : decode cX_event 0 = .ok (.aload_n 0, 1) := by decide +kernel
theorem dX_event_1 : decode cX_event 1 = .ok (.iload_n 1, 1) := by decide +kernel
theorem dX_event_2 : decode cX_event 2 = .ok (.invokevirtual 67, 3) := by decide +kernel
theorem dX_event_5 : decode cX_event 5 = .ok (.astore 5, 2) := by decide +kernel
theorem dX_event_7 : decode cX_event 7 = .ok (.aload 5, 2) := by decide +kernel
theorem dX_event_9 : decode cX_event 9 = .ok (.ifnull 20, 3) := by decide +kernel
theorem dX_event_12 : decode cX_event 12 = .ok (.iload_n 2, 1) := by decide +kernel
theorem dX_event_13 : decode cX_event 13 = .ok (.bipush 9, 2) := by decide +kernel
theorem dX_event_15 : decode cX_event 15 = .ok (.invokestatic 32, 3) := by decide +kernel
theorem dX_event_18 : decode cX_event 18 = .ok (.ifCond .eq 11, 3) := by decide +kernel
theorem dX_event_21 : decode cX_event 21 = .ok (.aload_n 0, 1) := by decide +kernel
theorem dX_event_22 : decode cX_event 22 = .ok (.iload_n 3, 1) := by decide +kernel
theorem dX_event_23 : decode cX_event 23 = .ok (.invokevirtual 71, 3) := by decide +kernel
theorem dX_event_26 : decode cX_event 26 = .ok (.ifCond .ne 13, 3) := by decide +kernel
theorem dX_event_29 : decode cX_event 29 = .ok (.new 36, 3) := by decide +kernel
theorem dX_event_32 : decode cX_event 32 = .ok (.dup, 1) := by decide +kernel
theorem dX_event_33 : decode cX_event 33 = .ok (.ldc 75, 2) := by decide +kernel
theorem dX_event_35 : decode cX_event 35 = .ok (.invokespecial 40, 3) := by decide +kernel
theorem dX_event_38 : decode cX_event 38 = .ok (.athrow, 1) := by decide +kernel
theorem dX_event_39 : decode cX_event 39 = .ok (.iload 4, 2) := by decide +kernel
theorem dX_event_41 : decode cX_event 41 = .ok (.aload_n 0, 1) := by decide +kernel
theorem dX_event_42 : decode cX_event 42 = .ok (.getfield 77, 3) := by decide +kernel
theorem dX_event_45 : decode cX_event 45 = .ok (.if_icmp .le 10, 3) := by decide +kernel
theorem dX_event_48 : decode cX_event 48 = .ok (.iload 4, 2) := by decide +kernel
theorem dX_event_50 : decode cX_event 50 = .ok (.ldc 80, 2) := by decide +kernel
theorem dX_event_52 : decode cX_event 52 = .ok (.if_icmp .le 13, 3) := by decide +kernel
theorem dX_event_55 : decode cX_event 55 = .ok (.new 36, 3) := by decide +kernel
theorem dX_event_58 : decode cX_event 58 = .ok (.dup, 1) := by decide +kernel
theorem dX_event_59 : decode cX_event 59 = .ok (.ldc 81, 2) := by decide +kernel
theorem dX_event_61 : decode cX_event 61 = .ok (.invokespecial 40, 3) := by decide +kernel
theorem dX_event_64 : decode cX_event 64 = .ok (.athrow, 1) := by decide +kernel
theorem dX_event_65 : decode cX_event 65 = .ok (.aload_n 0, 1) := by decide +kernel
theorem dX_event_66 : decode cX_event 66 = .ok (.getfield 83, 3) := by decide +kernel
theorem dX_event_69 : decode cX_event 69 = .ok (.bipush 120, 2) := by decide +kernel
theorem dX_event_71 : decode cX_event 71 = .ok (.if_icmp .ge 12, 3) := by decide +kernel
theorem dX_event_74 : decode cX_event 74 = .ok (.aload_n 0, 1) := by decide +kernel
theorem dX_event_75 : decode cX_event 75 = .ok (.getfield 86, 3) := by decide +kernel
theorem dX_event_78 : decode cX_event 78 = .ok (.bipush 20, 2) := by decide +kernel
theorem dX_event_80 : decode cX_event 80 = .ok (.if_icmp .lt 13, 3) := by decide +kernel
theorem dX_event_83 : decode cX_event 83 = .ok (.new 46, 3) := by decide +kernel
theorem dX_event_86 : decode cX_event 86 = .ok (.dup, 1) := by decide +kernel
theorem dX_event_87 : decode cX_event 87 = .ok (.ldc 89, 2) := by decide +kernel
theorem dX_event_89 : decode cX_event 89 = .ok (.invokespecial 50, 3) := by decide +kernel
theorem dX_event_92 : decode cX_event 92 = .ok (.athrow, 1) := by decide +kernel
theorem dX_event_93 : decode cX_event 93 = .ok (.aload_n 0, 1) := by decide +kernel
theorem dX_event_94 : decode cX_event 94 = .ok (.getfield 83, 3) := by decide +kernel
theorem dX_event_97 : decode cX_event 97 = .ok (.istore 6, 2) := by decide +kernel
theorem dX_event_99 : decode cX_event 99 = .ok (.new 19, 3) := by decide +kernel
theorem dX_event_102 : decode cX_event 102 = .ok (.dup, 1) := by decide +kernel
theorem dX_event_103 : decode cX_event 103 = .ok (.aload 5, 2) := by decide +kernel
theorem dX_event_105 : decode cX_event 105 = .ok (.iload_n 2, 1) := by decide +kernel
theorem dX_event_106 : decode cX_event 106 = .ok (.iload_n 3, 1) := by decide +kernel
theorem dX_event_107 : decode cX_event 107 = .ok (.iload 4, 2) := by decide +kernel
theorem dX_event_109 : decode cX_event 109 = .ok (.invokespecial 91, 3) := by decide +kernel
theorem dX_event_112 : decode cX_event 112 = .ok (.astore 7, 2) := by decide +kernel
theorem dX_event_114 : decode cX_event 114 = .ok (.aload_n 0, 1) := by decide +kernel
theorem dX_event_115 : decode cX_event 115 = .ok (.getfield 21, 3) := by decide +kernel
theorem dX_event_118 : decode cX_event 118 = .ok (.iload 6, 2) := by decide +kernel
theorem dX_event_120 : decode cX_event 120 = .ok (.aload 7, 2) := by decide +kernel
theorem dX_event_122 : decode cX_event 122 = .ok (.aastore, 1) := by decide +kernel
theorem dX_event_123 : decode cX_event 123 = .ok (.aload_n 0, 1) := by decide +kernel
theorem dX_event_124 : decode cX_event 124 = .ok (.iload 6, 2) := by decide +kernel
theorem dX_event_126 : decode cX_event 126 = .ok (.iconst 1, 1) := by decide +kernel
theorem dX_event_127 : decode cX_event 127 = .ok (.iadd, 1) := by decide +kernel
theorem dX_event_128 : decode cX_event 128 = .ok (.putfield 83, 3) := by decide +kernel
theorem dX_event_131 : decode cX_event 131 = .ok (.aload_n 0, 1) := by decide +kernel
theorem dX_event_132 : decode cX_event 132 = .ok (.aload 7, 2) := by decide +kernel
theorem dX_event_134 : decode cX_event 134 = .ok (.invokevirtual 94, 3) := by decide +kernel
theorem dX_event_137 : decode cX_event 137 = .ok (.iload 6, 2) := by decide +kernel
theorem dX_event_139 : decode cX_event 139 = .ok (.ireturn, 1) := by decide +kernel
theorem dX_tick_0 : decode cX_tick 0 = .ok (.iload_n 1, 1) := by decide +kernel
theorem dX_tick_1 : decode cX_tick 1 = .ok (.aload_n 0, 1) := by decide +kernel
theorem dX_tick_2 : decode cX_tick 2 = .ok (.getfield 77, 3) := by decide +kernel
theorem dX_tick_5 : decode cX_tick 5 = .ok (.if_icmp .lt 9, 3) := by decide +kernel
theorem dX_tick_8 : decode cX_tick 8 = .ok (.iload_n 1, 1) := by decide +kernel
theorem dX_tick_9 : decode cX_tick 9 = .ok (.ldc 80, 2) := by decide +kernel
theorem dX_tick_11 : decode cX_tick 11 = .ok (.if_icmp .le 13, 3) := by decide +kernel
theorem dX_tick_14 : decode cX_tick 14 = .ok (.new 36, 3) := by decide +kernel
theorem dX_tick_17 : decode cX_tick 17 = .ok (.dup, 1) := by decide +kernel
theorem dX_tick_18 : decode cX_tick 18 = .ok (.ldc 98, 2) := by decide +kernel
theorem dX_tick_20 : decode cX_tick 20 = .ok (.invokespecial 40, 3) := by decide +kernel
theorem dX_tick_23 : decode cX_tick 23 = .ok (.athrow, 1) := by decide +kernel
theorem dX_tick_24 : decode cX_tick 24 = .ok (.iconst 0, 1) := by decide +kernel
theorem dX_tick_25 : decode cX_tick 25 = .ok (.istore_n 2, 1) := by decide +kernel
theorem dX_tick_26 : decode cX_tick 26 = .ok (.aload_n 0, 1) := by decide +kernel
theorem dX_tick_27 : decode cX_tick 27 = .ok (.getfield 100, 3) := by decide +kernel
theorem dX_tick_30 : decode cX_tick 30 = .ok (.astore_n 3, 1) := by decide +kernel
theorem dX_tick_31 : decode cX_tick 31 = .ok (.aload_n 3, 1) := by decide +kernel
theorem dX_tick_32 : decode cX_tick 32 = .ok (.ifnull 51, 3) := by decide +kernel
theorem dX_tick_35 : decode cX_tick 35 = .ok (.aload_n 3, 1) := by decide +kernel
theorem dX_tick_36 : decode cX_tick 36 = .ok (.getfield 104, 3) := by decide +kernel
theorem dX_tick_39 : decode cX_tick 39 = .ok (.iload_n 1, 1) := by decide +kernel
theorem dX_tick_40 : decode cX_tick 40 = .ok (.if_icmp .gt 43, 3) := by decide +kernel
theorem dX_tick_43 : decode cX_tick 43 = .ok (.iload_n 2, 1) := by decide +kernel
theorem dX_tick_44 : decode cX_tick 44 = .ok (.bipush 20, 2) := by decide +kernel
theorem dX_tick_46 : decode cX_tick 46 = .ok (.if_icmp .ge 37, 3) := by decide +kernel
theorem dX_tick_49 : decode cX_tick 49 = .ok (.aload_n 0, 1) := by decide +kernel
theorem dX_tick_50 : decode cX_tick 50 = .ok (.aload_n 3, 1) := by decide +kernel
theorem dX_tick_51 : decode cX_tick 51 = .ok (.getfield 107, 3) := by decide +kernel
theorem dX_tick_54 : decode cX_tick 54 = .ok (.putfield 100, 3) := by decide +kernel
theorem dX_tick_57 : decode cX_tick 57 = .ok (.aload_n 0, 1) := by decide +kernel
theorem dX_tick_58 : decode cX_tick 58 = .ok (.dup, 1) := by decide +kernel
theorem dX_tick_59 : decode cX_tick 59 = .ok (.getfield 86, 3) := by decide +kernel
theorem dX_tick_62 : decode cX_tick 62 = .ok (.iconst 1, 1) := by decide +kernel
theorem dX_tick_63 : decode cX_tick 63 = .ok (.isub, 1) := by decide +kernel
theorem dX_tick_64 : decode cX_tick 64 = .ok (.putfield 86, 3) := by decide +kernel
theorem dX_tick_67 : decode cX_tick 67 = .ok (.aload_n 0, 1) := by decide +kernel
theorem dX_tick_68 : decode cX_tick 68 = .ok (.aload_n 3, 1) := by decide +kernel
theorem dX_tick_69 : decode cX_tick 69 = .ok (.invokevirtual 110, 3) := by decide +kernel
theorem dX_tick_72 : decode cX_tick 72 = .ok (.iinc 2 1, 3) := by decide +kernel
theorem dX_tick_75 : decode cX_tick 75 = .ok (.aload_n 0, 1) := by decide +kernel
theorem dX_tick_76 : decode cX_tick 76 = .ok (.getfield 100, 3) := by decide +kernel
theorem dX_tick_79 : decode cX_tick 79 = .ok (.astore_n 3, 1) := by decide +kernel
theorem dX_tick_80 : decode cX_tick 80 = .ok (.goto (-49), 3) := by decide +kernel
theorem dX_tick_83 : decode cX_tick 83 = .ok (.aload_n 0, 1) := by decide +kernel
theorem dX_tick_84 : decode cX_tick 84 = .ok (.iload_n 1, 1) := by decide +kernel
theorem dX_tick_85 : decode cX_tick 85 = .ok (.putfield 77, 3) := by decide +kernel
theorem dX_tick_88 : decode cX_tick 88 = .ok (.iload_n 2, 1) := by decide +kernel
theorem dX_tick_89 : decode cX_tick 89 = .ok (.ireturn, 1) := by decide +kernel
theorem dX_hours_0 : decode cX_hours 0 = .ok (.iload_n 1, 1) := by decide +kernel
theorem dX_hours_1 : decode cX_hours 1 = .ok (.ifCond .lt 14, 3) := by decide +kernel
theorem dX_hours_4 : decode cX_hours 4 = .ok (.iload_n 2, 1) := by decide +kernel
theorem dX_hours_5 : decode cX_hours 5 = .ok (.bipush 24, 2) := by decide +kernel
theorem dX_hours_7 : decode cX_hours 7 = .ok (.if_icmp .gt 8, 3) := by decide +kernel
theorem dX_hours_10 : decode cX_hours 10 = .ok (.iload_n 1, 1) := by decide +kernel
theorem dX_hours_11 : decode cX_hours 11 = .ok (.iload_n 2, 1) := by decide +kernel
theorem dX_hours_12 : decode cX_hours 12 = .ok (.if_icmp .lt 5, 3) := by decide +kernel
theorem dX_hours_15 : decode cX_hours 15 = .ok (.iconst 0, 1) := by decide +kernel
theorem dX_hours_16 : decode cX_hours 16 = .ok (.ireturn, 1) := by decide +kernel
theorem dX_hours_17 : decode cX_hours 17 = .ok (.aload_n 0, 1) := by decide +kernel
theorem dX_hours_18 : decode cX_hours 18 = .ok (.iload_n 1, 1) := by decide +kernel
theorem dX_hours_19 : decode cX_hours 19 = .ok (.putfield 25, 3) := by decide +kernel
theorem dX_hours_22 : decode cX_hours 22 = .ok (.aload_n 0, 1) := by decide +kernel
theorem dX_hours_23 : decode cX_hours 23 = .ok (.iload_n 2, 1) := by decide +kernel
theorem dX_hours_24 : decode cX_hours 24 = .ok (.putfield 29, 3) := by decide +kernel
theorem dX_hours_27 : decode cX_hours 27 = .ok (.iconst 1, 1) := by decide +kernel
theorem dX_hours_28 : decode cX_hours 28 = .ok (.ireturn, 1) := by decide +kernel
theorem dX_fails_0 : decode cX_fails 0 = .ok (.iload_n 1, 1) := by decide +kernel
theorem dX_fails_1 : decode cX_fails 1 = .ok (.bipush 9, 2) := by decide +kernel
theorem dX_fails_3 : decode cX_fails 3 = .ok (.invokestatic 32, 3) := by decide +kernel
theorem dX_fails_6 : decode cX_fails 6 = .ok (.ifCond .eq 12, 3) := by decide +kernel
theorem dX_fails_9 : decode cX_fails 9 = .ok (.aload_n 0, 1) := by decide +kernel
theorem dX_fails_10 : decode cX_fails 10 = .ok (.iload_n 1, 1) := by decide +kernel
theorem dX_fails_11 : decode cX_fails 11 = .ok (.invokevirtual 113, 3) := by decide +kernel
theorem dX_fails_14 : decode cX_fails 14 = .ok (.iload_n 2, 1) := by decide +kernel
theorem dX_fails_15 : decode cX_fails 15 = .ok (.if_icmp .ne 5, 3) := by decide +kernel
theorem dX_fails_18 : decode cX_fails 18 = .ok (.iconst 0, 1) := by decide +kernel
theorem dX_fails_19 : decode cX_fails 19 = .ok (.ireturn, 1) := by decide +kernel
theorem dX_fails_20 : decode cX_fails 20 = .ok (.aload_n 0, 1) := by decide +kernel
theorem dX_fails_21 : decode cX_fails 21 = .ok (.dup, 1) := by decide +kernel
theorem dX_fails_22 : decode cX_fails 22 = .ok (.getfield 116, 3) := by decide +kernel
theorem dX_fails_25 : decode cX_fails 25 = .ok (.iconst 1, 1) := by decide +kernel
theorem dX_fails_26 : decode cX_fails 26 = .ok (.iload_n 1, 1) := by decide +kernel
theorem dX_fails_27 : decode cX_fails 27 = .ok (.ishl, 1) := by decide +kernel
theorem dX_fails_28 : decode cX_fails 28 = .ok (.ixor, 1) := by decide +kernel
theorem dX_fails_29 : decode cX_fails 29 = .ok (.putfield 116, 3) := by decide +kernel
theorem dX_fails_32 : decode cX_fails 32 = .ok (.iconst 1, 1) := by decide +kernel
theorem dX_fails_33 : decode cX_fails 33 = .ok (.ireturn, 1) := by decide +kernel
theorem dX_bar_0 : decode cX_bar 0 = .ok (.aload_n 0, 1) := by decide +kernel
theorem dX_bar_1 : decode cX_bar 1 = .ok (.iload_n 1, 1) := by decide +kernel
theorem dX_bar_2 : decode cX_bar 2 = .ok (.invokevirtual 67, 3) := by decide +kernel
theorem dX_bar_5 : decode cX_bar 5 = .ok (.astore 4, 2) := by decide +kernel
theorem dX_bar_7 : decode cX_bar 7 = .ok (.aload 4, 2) := by decide +kernel
theorem dX_bar_9 : decode cX_bar 9 = .ok (.ifnull 12, 3) := by decide +kernel
theorem dX_bar_12 : decode cX_bar 12 = .ok (.iload_n 2, 1) := by decide +kernel
theorem dX_bar_13 : decode cX_bar 13 = .ok (.bipush 7, 2) := by decide +kernel
theorem dX_bar_15 : decode cX_bar 15 = .ok (.invokestatic 32, 3) := by decide +kernel
theorem dX_bar_18 : decode cX_bar 18 = .ok (.ifCond .ne 13, 3) := by decide +kernel
theorem dX_bar_21 : decode cX_bar 21 = .ok (.new 36, 3) := by decide +kernel
theorem dX_bar_24 : decode cX_bar 24 = .ok (.dup, 1) := by decide +kernel
theorem dX_bar_25 : decode cX_bar 25 = .ok (.ldc 119, 2) := by decide +kernel
theorem dX_bar_27 : decode cX_bar 27 = .ok (.invokespecial 40, 3) := by decide +kernel
theorem dX_bar_30 : decode cX_bar 30 = .ok (.athrow, 1) := by decide +kernel
theorem dX_bar_31 : decode cX_bar 31 = .ok (.aload 4, 2) := by decide +kernel
theorem dX_bar_33 : decode cX_bar 33 = .ok (.invokevirtual 121, 3) := by decide +kernel
theorem dX_bar_36 : decode cX_bar 36 = .ok (.ifCond .ne 13, 3) := by decide +kernel
theorem dX_bar_39 : decode cX_bar 39 = .ok (.aload 4, 2) := by decide +kernel
theorem dX_bar_41 : decode cX_bar 41 = .ok (.iload_n 2, 1) := by decide +kernel
theorem dX_bar_42 : decode cX_bar 42 = .ok (.invokevirtual 125, 3) := by decide +kernel
theorem dX_bar_45 : decode cX_bar 45 = .ok (.iload_n 3, 1) := by decide +kernel
theorem dX_bar_46 : decode cX_bar 46 = .ok (.if_icmp .ne 5, 3) := by decide +kernel
theorem dX_bar_49 : decode cX_bar 49 = .ok (.iconst (-1), 1) := by decide +kernel
theorem dX_bar_50 : decode cX_bar 50 = .ok (.ireturn, 1) := by decide +kernel
theorem dX_bar_51 : decode cX_bar 51 = .ok (.aload 4, 2) := by decide +kernel
theorem dX_bar_53 : decode cX_bar 53 = .ok (.dup, 1) := by decide +kernel
theorem dX_bar_54 : decode cX_bar 54 = .ok (.getfield 128, 3) := by decide +kernel
theorem dX_bar_57 : decode cX_bar 57 = .ok (.iconst 1, 1) := by decide +kernel
theorem dX_bar_58 : decode cX_bar 58 = .ok (.iload_n 2, 1) := by decide +kernel
theorem dX_bar_59 : decode cX_bar 59 = .ok (.ishl, 1) := by decide +kernel
theorem dX_bar_60 : decode cX_bar 60 = .ok (.ixor, 1) := by decide +kernel
theorem dX_bar_61 : decode cX_bar 61 = .ok (.putfield 128, 3) := by decide +kernel
theorem dX_bar_64 : decode cX_bar 64 = .ok (.iload_n 3, 1) := by decide +kernel
theorem dX_bar_65 : decode cX_bar 65 = .ok (.ifCond .ne 12, 3) := by decide +kernel
theorem dX_bar_68 : decode cX_bar 68 = .ok (.aload 4, 2) := by decide +kernel
theorem dX_bar_70 : decode cX_bar 70 = .ok (.aload_n 0, 1) := by decide +kernel
theorem dX_bar_71 : decode cX_bar 71 = .ok (.getfield 77, 3) := by decide +kernel
theorem dX_bar_74 : decode cX_bar 74 = .ok (.invokevirtual 131, 3) := by decide +kernel
theorem dX_bar_77 : decode cX_bar 77 = .ok (.aload 4, 2) := by decide +kernel
theorem dX_bar_79 : decode cX_bar 79 = .ok (.getfield 128, 3) := by decide +kernel
theorem dX_bar_82 : decode cX_bar 82 = .ok (.invokestatic 135, 3) := by decide +kernel
theorem dX_bar_85 : decode cX_bar 85 = .ok (.ireturn, 1) := by decide +kernel
theorem dX_invalidate_0 : decode cX_invalidate 0 = .ok (.aload_n 0, 1) := by decide +kernel
theorem dX_invalidate_1 : decode cX_invalidate 1 = .ok (.iload_n 1, 1) := by decide +kernel
theorem dX_invalidate_2 : decode cX_invalidate 2 = .ok (.invokevirtual 67, 3) := by decide +kernel
theorem dX_invalidate_5 : decode cX_invalidate 5 = .ok (.astore 4, 2) := by decide +kernel
theorem dX_invalidate_7 : decode cX_invalidate 7 = .ok (.aload 4, 2) := by decide +kernel
theorem dX_invalidate_9 : decode cX_invalidate 9 = .ok (.ifnull 20, 3) := by decide +kernel
theorem dX_invalidate_12 : decode cX_invalidate 12 = .ok (.aload_n 0, 1) := by decide +kernel
theorem dX_invalidate_13 : decode cX_invalidate 13 = .ok (.iload_n 2, 1) := by decide +kernel
theorem dX_invalidate_14 : decode cX_invalidate 14 = .ok (.invokevirtual 71, 3) := by decide +kernel
theorem dX_invalidate_17 : decode cX_invalidate 17 = .ok (.ifCond .eq 12, 3) := by decide +kernel
theorem dX_invalidate_20 : decode cX_invalidate 20 = .ok (.iload_n 3, 1) := by decide +kernel
theorem dX_invalidate_21 : decode cX_invalidate 21 = .ok (.bipush 9, 2) := by decide +kernel
theorem dX_invalidate_23 : decode cX_invalidate 23 = .ok (.invokestatic 32, 3) := by decide +kernel
theorem dX_invalidate_26 : decode cX_invalidate 26 = .ok (.ifCond .ne 13, 3) := by decide +kernel
theorem dX_invalidate_29 : decode cX_invalidate 29 = .ok (.new 36, 3) := by decide +kernel
theorem dX_invalidate_32 : decode cX_invalidate 32 = .ok (.dup, 1) := by decide +kernel
theorem dX_invalidate_33 : decode cX_invalidate 33 = .ok (.ldc 140, 2) := by decide +kernel
theorem dX_invalidate_35 : decode cX_invalidate 35 = .ok (.invokespecial 40, 3) := by decide +kernel
theorem dX_invalidate_38 : decode cX_invalidate 38 = .ok (.athrow, 1) := by decide +kernel
theorem dX_invalidate_39 : decode cX_invalidate 39 = .ok (.aload_n 0, 1) := by decide +kernel
theorem dX_invalidate_40 : decode cX_invalidate 40 = .ok (.iload_n 2, 1) := by decide +kernel
theorem dX_invalidate_41 : decode cX_invalidate 41 = .ok (.invokevirtual 53, 3) := by decide +kernel
theorem dX_invalidate_44 : decode cX_invalidate 44 = .ok (.iconst 1, 1) := by decide +kernel
theorem dX_invalidate_45 : decode cX_invalidate 45 = .ok (.if_icmp .eq 5, 3) := by decide +kernel
theorem dX_invalidate_48 : decode cX_invalidate 48 = .ok (.iconst 0, 1) := by decide +kernel
theorem dX_invalidate_49 : decode cX_invalidate 49 = .ok (.ireturn, 1) := by decide +kernel
theorem dX_invalidate_50 : decode cX_invalidate 50 = .ok (.aload 4, 2) := by decide +kernel
theorem dX_invalidate_52 : decode cX_invalidate 52 = .ok (.iload_n 2, 1) := by decide +kernel
theorem dX_invalidate_53 : decode cX_invalidate 53 = .ok (.iload_n 3, 1) := by decide +kernel
theorem dX_invalidate_54 : decode cX_invalidate 54 = .ok (.aload_n 0, 1) := by decide +kernel
theorem dX_invalidate_55 : decode cX_invalidate 55 = .ok (.getfield 77, 3) := by decide +kernel
theorem dX_invalidate_58 : decode cX_invalidate 58 = .ok (.invokevirtual 142, 3) := by decide +kernel
theorem dX_invalidate_61 : decode cX_invalidate 61 = .ok (.ireturn, 1) := by decide +kernel
theorem dX_look_0 : decode cX_look 0 = .ok (.aload_n 0, 1) := by decide +kernel
theorem dX_look_1 : decode cX_look 1 = .ok (.iload_n 1, 1) := by decide +kernel
theorem dX_look_2 : decode cX_look 2 = .ok (.invokevirtual 67, 3) := by decide +kernel
theorem dX_look_5 : decode cX_look 5 = .ok (.astore_n 3, 1) := by decide +kernel
theorem dX_look_6 : decode cX_look 6 = .ok (.aload_n 3, 1) := by decide +kernel
theorem dX_look_7 : decode cX_look 7 = .ok (.ifnonnull 13, 3) := by decide +kernel
theorem dX_look_10 : decode cX_look 10 = .ok (.new 146, 3) := by decide +kernel
theorem dX_look_13 : decode cX_look 13 = .ok (.dup, 1) := by decide +kernel
theorem dX_look_14 : decode cX_look 14 = .ok (.ldc 148, 2) := by decide +kernel
theorem dX_look_16 : decode cX_look 16 = .ok (.invokespecial 150, 3) := by decide +kernel
theorem dX_look_19 : decode cX_look 19 = .ok (.athrow, 1) := by decide +kernel
theorem dX_look_20 : decode cX_look 20 = .ok (.iload_n 2, 1) := by decide +kernel
theorem dX_look_21 : decode cX_look 21 = .ok (.tableswitch 96 0 8 #[51, 56, 61, 66, 71, 76, 81, 86, 91], 51) := by decide +kernel
theorem dX_look_72 : decode cX_look 72 = .ok (.aload_n 3, 1) := by decide +kernel
theorem dX_look_73 : decode cX_look 73 = .ok (.getfield 151, 3) := by decide +kernel
theorem dX_look_76 : decode cX_look 76 = .ok (.ireturn, 1) := by decide +kernel
theorem dX_look_77 : decode cX_look 77 = .ok (.aload_n 3, 1) := by decide +kernel
theorem dX_look_78 : decode cX_look 78 = .ok (.getfield 154, 3) := by decide +kernel
theorem dX_look_81 : decode cX_look 81 = .ok (.ireturn, 1) := by decide +kernel
theorem dX_look_82 : decode cX_look 82 = .ok (.aload_n 3, 1) := by decide +kernel
theorem dX_look_83 : decode cX_look 83 = .ok (.getfield 157, 3) := by decide +kernel
theorem dX_look_86 : decode cX_look 86 = .ok (.ireturn, 1) := by decide +kernel
theorem dX_look_87 : decode cX_look 87 = .ok (.aload_n 3, 1) := by decide +kernel
theorem dX_look_88 : decode cX_look 88 = .ok (.getfield 160, 3) := by decide +kernel
theorem dX_look_91 : decode cX_look 91 = .ok (.ireturn, 1) := by decide +kernel
theorem dX_look_92 : decode cX_look 92 = .ok (.aload_n 3, 1) := by decide +kernel
theorem dX_look_93 : decode cX_look 93 = .ok (.getfield 128, 3) := by decide +kernel
theorem dX_look_96 : decode cX_look 96 = .ok (.ireturn, 1) := by decide +kernel
theorem dX_look_97 : decode cX_look 97 = .ok (.aload_n 3, 1) := by decide +kernel
theorem dX_look_98 : decode cX_look 98 = .ok (.getfield 163, 3) := by decide +kernel
theorem dX_look_101 : decode cX_look 101 = .ok (.ireturn, 1) := by decide +kernel
theorem dX_look_102 : decode cX_look 102 = .ok (.aload_n 3, 1) := by decide +kernel
theorem dX_look_103 : decode cX_look 103 = .ok (.getfield 166, 3) := by decide +kernel
theorem dX_look_106 : decode cX_look 106 = .ok (.ireturn, 1) := by decide +kernel
theorem dX_look_107 : decode cX_look 107 = .ok (.aload_n 3, 1) := by decide +kernel
theorem dX_look_108 : decode cX_look 108 = .ok (.getfield 169, 3) := by decide +kernel
theorem dX_look_111 : decode cX_look 111 = .ok (.ireturn, 1) := by decide +kernel
theorem dX_look_112 : decode cX_look 112 = .ok (.aload_n 3, 1) := by decide +kernel
theorem dX_look_113 : decode cX_look 113 = .ok (.getfield 172, 3) := by decide +kernel
theorem dX_look_116 : decode cX_look 116 = .ok (.ireturn, 1) := by decide +kernel
theorem dX_look_117 : decode cX_look 117 = .ok (.new 146, 3) := by decide +kernel
theorem dX_look_120 : decode cX_look 120 = .ok (.dup, 1) := by decide +kernel
theorem dX_look_121 : decode cX_look 121 = .ok (.ldc 175, 2) := by decide +kernel
theorem dX_look_123 : decode cX_look 123 = .ok (.invokespecial 150, 3) := by decide +kernel
theorem dX_look_126 : decode cX_look 126 = .ok (.athrow, 1) := by decide +kernel
theorem dX_written_0 : decode cX_written 0 = .ok (.aload_n 0, 1) := by decide +kernel
theorem dX_written_1 : decode cX_written 1 = .ok (.iload_n 1, 1) := by decide +kernel
theorem dX_written_2 : decode cX_written 2 = .ok (.invokevirtual 67, 3) := by decide +kernel
theorem dX_written_5 : decode cX_written 5 = .ok (.astore_n 3, 1) := by decide +kernel
theorem dX_written_6 : decode cX_written 6 = .ok (.aload_n 3, 1) := by decide +kernel
theorem dX_written_7 : decode cX_written 7 = .ok (.ifnonnull 13, 3) := by decide +kernel
theorem dX_written_10 : decode cX_written 10 = .ok (.new 36, 3) := by decide +kernel
theorem dX_written_13 : decode cX_written 13 = .ok (.dup, 1) := by decide +kernel
theorem dX_written_14 : decode cX_written 14 = .ok (.ldc 148, 2) := by decide +kernel
theorem dX_written_16 : decode cX_written 16 = .ok (.invokespecial 40, 3) := by decide +kernel
theorem dX_written_19 : decode cX_written 19 = .ok (.athrow, 1) := by decide +kernel
theorem dX_written_20 : decode cX_written 20 = .ok (.aload_n 3, 1) := by decide +kernel
theorem dX_written_21 : decode cX_written 21 = .ok (.iload_n 2, 1) := by decide +kernel
theorem dX_written_22 : decode cX_written 22 = .ok (.invokevirtual 177, 3) := by decide +kernel
theorem dX_written_25 : decode cX_written 25 = .ok (.astore 4, 2) := by decide +kernel
theorem dX_written_27 : decode cX_written 27 = .ok (.aload 4, 2) := by decide +kernel
theorem dX_written_29 : decode cX_written 29 = .ok (.ifnonnull 7, 3) := by decide +kernel
theorem dX_written_32 : decode cX_written 32 = .ok (.iconst (-1), 1) := by decide +kernel
theorem dX_written_33 : decode cX_written 33 = .ok (.goto 20, 3) := by decide +kernel
theorem dX_written_36 : decode cX_written 36 = .ok (.bipush 16, 2) := by decide +kernel
theorem dX_written_38 : decode cX_written 38 = .ok (.aload 4, 2) := by decide +kernel
theorem dX_written_40 : decode cX_written 40 = .ok (.getfield 181, 3) := by decide +kernel
theorem dX_written_43 : decode cX_written 43 = .ok (.bipush 8, 2) := by decide +kernel
theorem dX_written_45 : decode cX_written 45 = .ok (.iadd, 1) := by decide +kernel
theorem dX_written_46 : decode cX_written 46 = .ok (.imul, 1) := by decide +kernel
theorem dX_written_47 : decode cX_written 47 = .ok (.aload 4, 2) := by decide +kernel
theorem dX_written_49 : decode cX_written 49 = .ok (.getfield 184, 3) := by decide +kernel
theorem dX_written_52 : decode cX_written 52 = .ok (.iadd, 1) := by decide +kernel
theorem dX_written_53 : decode cX_written 53 = .ok (.ireturn, 1) := by decide +kernel
theorem dX_of_0 : decode cX_of 0 = .ok (.aload_n 0, 1) := by decide +kernel
theorem dX_of_1 : decode cX_of 1 = .ok (.iload_n 1, 1) := by decide +kernel
theorem dX_of_2 : decode cX_of 2 = .ok (.invokevirtual 185, 3) := by decide +kernel
theorem dX_of_5 : decode cX_of 5 = .ok (.astore_n 3, 1) := by decide +kernel
theorem dX_of_6 : decode cX_of 6 = .ok (.aload_n 3, 1) := by decide +kernel
theorem dX_of_7 : decode cX_of 7 = .ok (.ifnonnull 13, 3) := by decide +kernel
theorem dX_of_10 : decode cX_of 10 = .ok (.new 146, 3) := by decide +kernel
theorem dX_of_13 : decode cX_of 13 = .ok (.dup, 1) := by decide +kernel
theorem dX_of_14 : decode cX_of 14 = .ok (.ldc 188, 2) := by decide +kernel
theorem dX_of_16 : decode cX_of 16 = .ok (.invokespecial 150, 3) := by decide +kernel
theorem dX_of_19 : decode cX_of 19 = .ok (.athrow, 1) := by decide +kernel
theorem dX_of_20 : decode cX_of 20 = .ok (.iload_n 2, 1) := by decide +kernel
theorem dX_of_21 : decode cX_of 21 = .ok (.tableswitch 80 0 5 #[39, 47, 52, 57, 62, 75], 39) := by decide +kernel
theorem dX_of_60 : decode cX_of 60 = .ok (.aload_n 3, 1) := by decide +kernel
theorem dX_of_61 : decode cX_of 61 = .ok (.getfield 190, 3) := by decide +kernel
theorem dX_of_64 : decode cX_of 64 = .ok (.getfield 194, 3) := by decide +kernel
theorem dX_of_67 : decode cX_of 67 = .ok (.ireturn, 1) := by decide +kernel
theorem dX_of_68 : decode cX_of 68 = .ok (.aload_n 3, 1) := by decide +kernel
theorem dX_of_69 : decode cX_of 69 = .ok (.getfield 184, 3) := by decide +kernel
theorem dX_of_72 : decode cX_of 72 = .ok (.ireturn, 1) := by decide +kernel
theorem dX_of_73 : decode cX_of 73 = .ok (.aload_n 3, 1) := by decide +kernel
theorem dX_of_74 : decode cX_of 74 = .ok (.getfield 197, 3) := by decide +kernel
theorem dX_of_77 : decode cX_of 77 = .ok (.ireturn, 1) := by decide +kernel
theorem dX_of_78 : decode cX_of 78 = .ok (.aload_n 3, 1) := by decide +kernel
theorem dX_of_79 : decode cX_of 79 = .ok (.getfield 104, 3) := by decide +kernel
theorem dX_of_82 : decode cX_of 82 = .ok (.ireturn, 1) := by decide +kernel
theorem dX_of_83 : decode cX_of 83 = .ok (.aload_n 3, 1) := by decide +kernel
theorem dX_of_84 : decode cX_of 84 = .ok (.invokevirtual 200, 3) := by decide +kernel
theorem dX_of_87 : decode cX_of 87 = .ok (.ifCond .eq 7, 3) := by decide +kernel
theorem dX_of_90 : decode cX_of 90 = .ok (.iconst 1, 1) := by decide +kernel
theorem dX_of_91 : decode cX_of 91 = .ok (.goto 4, 3) := by decide +kernel
theorem dX_of_94 : decode cX_of 94 = .ok (.iconst 0, 1) := by decide +kernel
theorem dX_of_95 : decode cX_of 95 = .ok (.ireturn, 1) := by decide +kernel
theorem dX_of_96 : decode cX_of 96 = .ok (.aload_n 3, 1) := by decide +kernel
theorem dX_of_97 : decode cX_of 97 = .ok (.getfield 181, 3) := by decide +kernel
theorem dX_of_100 : decode cX_of 100 = .ok (.ireturn, 1) := by decide +kernel
theorem dX_of_101 : decode cX_of 101 = .ok (.new 146, 3) := by decide +kernel
theorem dX_of_104 : decode cX_of 104 = .ok (.dup, 1) := by decide +kernel
theorem dX_of_105 : decode cX_of 105 = .ok (.ldc 175, 2) := by decide +kernel
theorem dX_of_107 : decode cX_of 107 = .ok (.invokespecial 150, 3) := by decide +kernel
theorem dX_of_110 : decode cX_of 110 = .ok (.athrow, 1) := by decide +kernel
theorem dX_count_0 : decode cX_count 0 = .ok (.iload_n 1, 1) := by decide +kernel
theorem dX_count_1 : decode cX_count 1 = .ok (.tableswitch 60 0 4 #[35, 40, 45, 50, 55], 35) := by decide +kernel
theorem dX_count_36 : decode cX_count 36 = .ok (.aload_n 0, 1) := by decide +kernel
theorem dX_count_37 : decode cX_count 37 = .ok (.getfield 43, 3) := by decide +kernel
theorem dX_count_40 : decode cX_count 40 = .ok (.ireturn, 1) := by decide +kernel
theorem dX_count_41 : decode cX_count 41 = .ok (.aload_n 0, 1) := by decide +kernel
theorem dX_count_42 : decode cX_count 42 = .ok (.getfield 59, 3) := by decide +kernel
theorem dX_count_45 : decode cX_count 45 = .ok (.ireturn, 1) := by decide +kernel
theorem dX_count_46 : decode cX_count 46 = .ok (.aload_n 0, 1) := by decide +kernel
theorem dX_count_47 : decode cX_count 47 = .ok (.getfield 83, 3) := by decide +kernel
theorem dX_count_50 : decode cX_count 50 = .ok (.ireturn, 1) := by decide +kernel
theorem dX_count_51 : decode cX_count 51 = .ok (.aload_n 0, 1) := by decide +kernel
theorem dX_count_52 : decode cX_count 52 = .ok (.getfield 86, 3) := by decide +kernel
theorem dX_count_55 : decode cX_count 55 = .ok (.ireturn, 1) := by decide +kernel
theorem dX_count_56 : decode cX_count 56 = .ok (.aload_n 0, 1) := by decide +kernel
theorem dX_count_57 : decode cX_count 57 = .ok (.getfield 77, 3) := by decide +kernel
theorem dX_count_60 : decode cX_count 60 = .ok (.ireturn, 1) := by decide +kernel
theorem dX_count_61 : decode cX_count 61 = .ok (.aload_n 0, 1) := by decide +kernel
theorem dX_count_62 : decode cX_count 62 = .ok (.iload_n 1, 1) := by decide +kernel
theorem dX_count_63 : decode cX_count 63 = .ok (.invokevirtual 203, 3) := by decide +kernel
theorem dX_count_66 : decode cX_count 66 = .ok (.ireturn, 1) := by decide +kernel
theorem dX_countOfState_0 : decode cX_countOfState 0 = .ok (.iload_n 1, 1) := by decide +kernel
theorem dX_countOfState_1 : decode cX_countOfState 1 = .ok (.bipush 10, 2) := by decide +kernel
theorem dX_countOfState_3 : decode cX_countOfState 3 = .ok (.if_icmp .lt 9, 3) := by decide +kernel
theorem dX_countOfState_6 : decode cX_countOfState 6 = .ok (.iload_n 1, 1) := by decide +kernel
theorem dX_countOfState_7 : decode cX_countOfState 7 = .ok (.bipush 17, 2) := by decide +kernel
theorem dX_countOfState_9 : decode cX_countOfState 9 = .ok (.if_icmp .le 5, 3) := by decide +kernel
theorem dX_countOfState_12 : decode cX_countOfState 12 = .ok (.iconst (-1), 1) := by decide +kernel
theorem dX_countOfState_13 : decode cX_countOfState 13 = .ok (.ireturn, 1) := by decide +kernel
theorem dX_countOfState_14 : decode cX_countOfState 14 = .ok (.iconst 0, 1) := by decide +kernel
theorem dX_countOfState_15 : decode cX_countOfState 15 = .ok (.istore_n 2, 1) := by decide +kernel
theorem dX_countOfState_16 : decode cX_countOfState 16 = .ok (.iconst 0, 1) := by decide +kernel
theorem dX_countOfState_17 : decode cX_countOfState 17 = .ok (.istore_n 3, 1) := by decide +kernel
theorem dX_countOfState_18 : decode cX_countOfState 18 = .ok (.iload_n 3, 1) := by decide +kernel
theorem dX_countOfState_19 : decode cX_countOfState 19 = .ok (.aload_n 0, 1) := by decide +kernel
theorem dX_countOfState_20 : decode cX_countOfState 20 = .ok (.getfield 59, 3) := by decide +kernel
theorem dX_countOfState_23 : decode cX_countOfState 23 = .ok (.if_icmp .ge 36, 3) := by decide +kernel
theorem dX_countOfState_26 : decode cX_countOfState 26 = .ok (.aload_n 0, 1) := by decide +kernel
theorem dX_countOfState_27 : decode cX_countOfState 27 = .ok (.iload_n 3, 1) := by decide +kernel
theorem dX_countOfState_28 : decode cX_countOfState 28 = .ok (.invokevirtual 67, 3) := by decide +kernel
theorem dX_countOfState_31 : decode cX_countOfState 31 = .ok (.astore 4, 2) := by decide +kernel
theorem dX_countOfState_33 : decode cX_countOfState 33 = .ok (.aload 4, 2) := by decide +kernel
theorem dX_countOfState_35 : decode cX_countOfState 35 = .ok (.ifnull 18, 3) := by decide +kernel
theorem dX_countOfState_38 : decode cX_countOfState 38 = .ok (.aload 4, 2) := by decide +kernel
theorem dX_countOfState_40 : decode cX_countOfState 40 = .ok (.getfield 151, 3) := by decide +kernel
theorem dX_countOfState_43 : decode cX_countOfState 43 = .ok (.iload_n 1, 1) := by decide +kernel
theorem dX_countOfState_44 : decode cX_countOfState 44 = .ok (.bipush 10, 2) := by decide +kernel
theorem dX_countOfState_46 : decode cX_countOfState 46 = .ok (.isub, 1) := by decide +kernel
theorem dX_countOfState_47 : decode cX_countOfState 47 = .ok (.if_icmp .ne 6, 3) := by decide +kernel
theorem dX_countOfState_50 : decode cX_countOfState 50 = .ok (.iinc 2 1, 3) := by decide +kernel
theorem dX_countOfState_53 : decode cX_countOfState 53 = .ok (.iinc 3 1, 3) := by decide +kernel
theorem dX_countOfState_56 : decode cX_countOfState 56 = .ok (.goto (-38), 3) := by decide +kernel
theorem dX_countOfState_59 : decode cX_countOfState 59 = .ok (.iload_n 2, 1) := by decide +kernel
theorem dX_countOfState_60 : decode cX_countOfState 60 = .ok (.ireturn, 1) := by decide +kernel
theorem dX_isWithin_0 : decode cX_isWithin 0 = .ok (.iload_n 0, 1) := by decide +kernel
theorem dX_isWithin_1 : decode cX_isWithin 1 = .ok (.ifCond .lt 12, 3) := by decide +kernel
theorem dX_isWithin_4 : decode cX_isWithin 4 = .ok (.iload_n 0, 1) := by decide +kernel
theorem dX_isWithin_5 : decode cX_isWithin 5 = .ok (.iload_n 1, 1) := by decide +kernel
theorem dX_isWithin_6 : decode cX_isWithin 6 = .ok (.if_icmp .gt 7, 3) := by decide +kernel
theorem dX_isWithin_9 : decode cX_isWithin 9 = .ok (.iconst 1, 1) := by decide +kernel
theorem dX_isWithin_10 : decode cX_isWithin 10 = .ok (.goto 4, 3) := by decide +kernel
theorem dX_isWithin_13 : decode cX_isWithin 13 = .ok (.iconst 0, 1) := by decide +kernel
theorem dX_isWithin_14 : decode cX_isWithin 14 = .ok (.ireturn, 1) := by decide +kernel
theorem dX_isPerson_0 : decode cX_isPerson 0 = .ok (.iload_n 1, 1) := by decide +kernel
theorem dX_isPerson_1 : decode cX_isPerson 1 = .ok (.ifCond .lt 24, 3) := by decide +kernel
theorem dX_isPerson_4 : decode cX_isPerson 4 = .ok (.iload_n 1, 1) := by decide +kernel
theorem dX_isPerson_5 : decode cX_isPerson 5 = .ok (.aload_n 0, 1) := by decide +kernel
theorem dX_isPerson_6 : decode cX_isPerson 6 = .ok (.getfield 43, 3) := by decide +kernel
theorem dX_isPerson_9 : decode cX_isPerson 9 = .ok (.if_icmp .ge 16, 3) := by decide +kernel
theorem dX_isPerson_12 : decode cX_isPerson 12 = .ok (.iload_n 1, 1) := by decide +kernel
theorem dX_isPerson_13 : decode cX_isPerson 13 = .ok (.aload_n 0, 1) := by decide +kernel
theorem dX_isPerson_14 : decode cX_isPerson 14 = .ok (.getfield 9, 3) := by decide +kernel
theorem dX_isPerson_17 : decode cX_isPerson 17 = .ok (.arraylength, 1) := by decide +kernel
theorem dX_isPerson_18 : decode cX_isPerson 18 = .ok (.if_icmp .ge 7, 3) := by decide +kernel
theorem dX_isPerson_21 : decode cX_isPerson 21 = .ok (.iconst 1, 1) := by decide +kernel
theorem dX_isPerson_22 : decode cX_isPerson 22 = .ok (.goto 4, 3) := by decide +kernel
theorem dX_isPerson_25 : decode cX_isPerson 25 = .ok (.iconst 0, 1) := by decide +kernel
theorem dX_isPerson_26 : decode cX_isPerson 26 = .ok (.ireturn, 1) := by decide +kernel
theorem dX_roleOf_0 : decode cX_roleOf 0 = .ok (.aload_n 0, 1) := by decide +kernel
theorem dX_roleOf_1 : decode cX_roleOf 1 = .ok (.iload_n 1, 1) := by decide +kernel
theorem dX_roleOf_2 : decode cX_roleOf 2 = .ok (.invokevirtual 71, 3) := by decide +kernel
theorem dX_roleOf_5 : decode cX_roleOf 5 = .ok (.ifCond .eq 12, 3) := by decide +kernel
theorem dX_roleOf_8 : decode cX_roleOf 8 = .ok (.aload_n 0, 1) := by decide +kernel
theorem dX_roleOf_9 : decode cX_roleOf 9 = .ok (.getfield 9, 3) := by decide +kernel
theorem dX_roleOf_12 : decode cX_roleOf 12 = .ok (.iload_n 1, 1) := by decide +kernel
theorem dX_roleOf_13 : decode cX_roleOf 13 = .ok (.iaload, 1) := by decide +kernel
theorem dX_roleOf_14 : decode cX_roleOf 14 = .ok (.goto 4, 3) := by decide +kernel
theorem dX_roleOf_17 : decode cX_roleOf 17 = .ok (.iconst (-1), 1) := by decide +kernel
theorem dX_roleOf_18 : decode cX_roleOf 18 = .ok (.ireturn, 1) := by decide +kernel
theorem dX_declarationAt_0 : decode cX_declarationAt 0 = .ok (.iload_n 1, 1) := by decide +kernel
theorem dX_declarationAt_1 : decode cX_declarationAt 1 = .ok (.ifCond .lt 24, 3) := by decide +kernel
theorem dX_declarationAt_4 : decode cX_declarationAt 4 = .ok (.iload_n 1, 1) := by decide +kernel
theorem dX_declarationAt_5 : decode cX_declarationAt 5 = .ok (.aload_n 0, 1) := by decide +kernel
theorem dX_declarationAt_6 : decode cX_declarationAt 6 = .ok (.getfield 59, 3) := by decide +kernel
theorem dX_declarationAt_9 : decode cX_declarationAt 9 = .ok (.if_icmp .ge 16, 3) := by decide +kernel
theorem dX_declarationAt_12 : decode cX_declarationAt 12 = .ok (.iload_n 1, 1) := by decide +kernel
theorem dX_declarationAt_13 : decode cX_declarationAt 13 = .ok (.aload_n 0, 1) := by decide +kernel
theorem dX_declarationAt_14 : decode cX_declarationAt 14 = .ok (.getfield 15, 3) := by decide +kernel
theorem dX_declarationAt_17 : decode cX_declarationAt 17 = .ok (.arraylength, 1) := by decide +kernel
theorem dX_declarationAt_18 : decode cX_declarationAt 18 = .ok (.if_icmp .ge 7, 3) := by decide +kernel
theorem dX_declarationAt_21 : decode cX_declarationAt 21 = .ok (.iconst 1, 1) := by decide +kernel
theorem dX_declarationAt_22 : decode cX_declarationAt 22 = .ok (.goto 4, 3) := by decide +kernel
theorem dX_declarationAt_25 : decode cX_declarationAt 25 = .ok (.iconst 0, 1) := by decide +kernel
theorem dX_declarationAt_26 : decode cX_declarationAt 26 = .ok (.istore_n 2, 1) := by decide +kernel
theorem dX_declarationAt_27 : decode cX_declarationAt 27 = .ok (.iload_n 2, 1) := by decide +kernel
theorem dX_declarationAt_28 : decode cX_declarationAt 28 = .ok (.ifCond .eq 12, 3) := by decide +kernel
theorem dX_declarationAt_31 : decode cX_declarationAt 31 = .ok (.aload_n 0, 1) := by decide +kernel
theorem dX_declarationAt_32 : decode cX_declarationAt 32 = .ok (.getfield 15, 3) := by decide +kernel
theorem dX_declarationAt_35 : decode cX_declarationAt 35 = .ok (.iload_n 1, 1) := by decide +kernel
theorem dX_declarationAt_36 : decode cX_declarationAt 36 = .ok (.aaload, 1) := by decide +kernel
theorem dX_declarationAt_37 : decode cX_declarationAt 37 = .ok (.goto 4, 3) := by decide +kernel
theorem dX_declarationAt_40 : decode cX_declarationAt 40 = .ok (.aconst_null, 1) := by decide +kernel
theorem dX_declarationAt_41 : decode cX_declarationAt 41 = .ok (.areturn, 1) := by decide +kernel
theorem dX_eventAt_0 : decode cX_eventAt 0 = .ok (.iload_n 1, 1) := by decide +kernel
theorem dX_eventAt_1 : decode cX_eventAt 1 = .ok (.ifCond .lt 24, 3) := by decide +kernel
theorem dX_eventAt_4 : decode cX_eventAt 4 = .ok (.iload_n 1, 1) := by decide +kernel
theorem dX_eventAt_5 : decode cX_eventAt 5 = .ok (.aload_n 0, 1) := by decide +kernel
theorem dX_eventAt_6 : decode cX_eventAt 6 = .ok (.getfield 83, 3) := by decide +kernel
theorem dX_eventAt_9 : decode cX_eventAt 9 = .ok (.if_icmp .ge 16, 3) := by decide +kernel
theorem dX_eventAt_12 : decode cX_eventAt 12 = .ok (.iload_n 1, 1) := by decide +kernel
theorem dX_eventAt_13 : decode cX_eventAt 13 = .ok (.aload_n 0, 1) := by decide +kernel
theorem dX_eventAt_14 : decode cX_eventAt 14 = .ok (.getfield 21, 3) := by decide +kernel
theorem dX_eventAt_17 : decode cX_eventAt 17 = .ok (.arraylength, 1) := by decide +kernel
theorem dX_eventAt_18 : decode cX_eventAt 18 = .ok (.if_icmp .ge 7, 3) := by decide +kernel
theorem dX_eventAt_21 : decode cX_eventAt 21 = .ok (.iconst 1, 1) := by decide +kernel
theorem dX_eventAt_22 : decode cX_eventAt 22 = .ok (.goto 4, 3) := by decide +kernel
theorem dX_eventAt_25 : decode cX_eventAt 25 = .ok (.iconst 0, 1) := by decide +kernel
theorem dX_eventAt_26 : decode cX_eventAt 26 = .ok (.istore_n 2, 1) := by decide +kernel
theorem dX_eventAt_27 : decode cX_eventAt 27 = .ok (.iload_n 2, 1) := by decide +kernel
theorem dX_eventAt_28 : decode cX_eventAt 28 = .ok (.ifCond .eq 12, 3) := by decide +kernel
theorem dX_eventAt_31 : decode cX_eventAt 31 = .ok (.aload_n 0, 1) := by decide +kernel
theorem dX_eventAt_32 : decode cX_eventAt 32 = .ok (.getfield 21, 3) := by decide +kernel
theorem dX_eventAt_35 : decode cX_eventAt 35 = .ok (.iload_n 1, 1) := by decide +kernel
theorem dX_eventAt_36 : decode cX_eventAt 36 = .ok (.aaload, 1) := by decide +kernel
theorem dX_eventAt_37 : decode cX_eventAt 37 = .ok (.goto 4, 3) := by decide +kernel
theorem dX_eventAt_40 : decode cX_eventAt 40 = .ok (.aconst_null, 1) := by decide +kernel
theorem dX_eventAt_41 : decode cX_eventAt 41 = .ok (.areturn, 1) := by decide +kernel
theorem dX_isFailing_0 : decode cX_isFailing 0 = .ok (.aload_n 0, 1) := by decide +kernel
theorem dX_isFailing_1 : decode cX_isFailing 1 = .ok (.getfield 116, 3) := by decide +kernel
theorem dX_isFailing_4 : decode cX_isFailing 4 = .ok (.iconst 1, 1) := by decide +kernel
theorem dX_isFailing_5 : decode cX_isFailing 5 = .ok (.iload_n 1, 1) := by decide +kernel
theorem dX_isFailing_6 : decode cX_isFailing 6 = .ok (.ishl, 1) := by decide +kernel
theorem dX_isFailing_7 : decode cX_isFailing 7 = .ok (.iand, 1) := by decide +kernel
theorem dX_isFailing_8 : decode cX_isFailing 8 = .ok (.ifCond .eq 7, 3) := by decide +kernel
theorem dX_isFailing_11 : decode cX_isFailing 11 = .ok (.iconst 1, 1) := by decide +kernel
theorem dX_isFailing_12 : decode cX_isFailing 12 = .ok (.goto 4, 3) := by decide +kernel
theorem dX_isFailing_15 : decode cX_isFailing 15 = .ok (.iconst 0, 1) := by decide +kernel
theorem dX_isFailing_16 : decode cX_isFailing 16 = .ok (.ireturn, 1) := by decide +kernel
theorem dX_putInWaitingOrder_0 : decode cX_putInWaitingOrder 0 = .ok (.aconst_null, 1) := by decide +kernel
theorem dX_putInWaitingOrder_1 : decode cX_putInWaitingOrder 1 = .ok (.astore_n 2, 1) := by decide +kernel
theorem dX_putInWaitingOrder_2 : decode cX_putInWaitingOrder 2 = .ok (.aload_n 0, 1) := by decide +kernel
theorem dX_putInWaitingOrder_3 : decode cX_putInWaitingOrder 3 = .ok (.getfield 100, 3) := by decide +kernel
theorem dX_putInWaitingOrder_6 : decode cX_putInWaitingOrder 6 = .ok (.astore_n 3, 1) := by decide +kernel
theorem dX_putInWaitingOrder_7 : decode cX_putInWaitingOrder 7 = .ok (.aload_n 3, 1) := by decide +kernel
theorem dX_putInWaitingOrder_8 : decode cX_putInWaitingOrder 8 = .ok (.ifnull 21, 3) := by decide +kernel
theorem dX_putInWaitingOrder_11 : decode cX_putInWaitingOrder 11 = .ok (.aload_n 1, 1) := by decide +kernel
theorem dX_putInWaitingOrder_12 : decode cX_putInWaitingOrder 12 = .ok (.aload_n 3, 1) := by decide +kernel
theorem dX_putInWaitingOrder_13 : decode cX_putInWaitingOrder 13 = .ok (.invokevirtual 206, 3) := by decide +kernel
theorem dX_putInWaitingOrder_16 : decode cX_putInWaitingOrder 16 = .ok (.ifCond .ne 13, 3) := by decide +kernel
theorem dX_putInWaitingOrder_19 : decode cX_putInWaitingOrder 19 = .ok (.aload_n 3, 1) := by decide +kernel
theorem dX_putInWaitingOrder_20 : decode cX_putInWaitingOrder 20 = .ok (.astore_n 2, 1) := by decide +kernel
theorem dX_putInWaitingOrder_21 : decode cX_putInWaitingOrder 21 = .ok (.aload_n 3, 1) := by decide +kernel
theorem dX_putInWaitingOrder_22 : decode cX_putInWaitingOrder 22 = .ok (.getfield 107, 3) := by decide +kernel
theorem dX_putInWaitingOrder_25 : decode cX_putInWaitingOrder 25 = .ok (.astore_n 3, 1) := by decide +kernel
theorem dX_putInWaitingOrder_26 : decode cX_putInWaitingOrder 26 = .ok (.goto (-19), 3) := by decide +kernel
theorem dX_putInWaitingOrder_29 : decode cX_putInWaitingOrder 29 = .ok (.aload_n 1, 1) := by decide +kernel
theorem dX_putInWaitingOrder_30 : decode cX_putInWaitingOrder 30 = .ok (.aload_n 3, 1) := by decide +kernel
theorem dX_putInWaitingOrder_31 : decode cX_putInWaitingOrder 31 = .ok (.putfield 107, 3) := by decide +kernel
theorem dX_putInWaitingOrder_34 : decode cX_putInWaitingOrder 34 = .ok (.aload_n 2, 1) := by decide +kernel
theorem dX_putInWaitingOrder_35 : decode cX_putInWaitingOrder 35 = .ok (.ifnonnull 11, 3) := by decide +kernel
theorem dX_putInWaitingOrder_38 : decode cX_putInWaitingOrder 38 = .ok (.aload_n 0, 1) := by decide +kernel
theorem dX_putInWaitingOrder_39 : decode cX_putInWaitingOrder 39 = .ok (.aload_n 1, 1) := by decide +kernel
theorem dX_putInWaitingOrder_40 : decode cX_putInWaitingOrder 40 = .ok (.putfield 100, 3) := by decide +kernel
theorem dX_putInWaitingOrder_43 : decode cX_putInWaitingOrder 43 = .ok (.goto 8, 3) := by decide +kernel
theorem dX_putInWaitingOrder_46 : decode cX_putInWaitingOrder 46 = .ok (.aload_n 2, 1) := by decide +kernel
theorem dX_putInWaitingOrder_47 : decode cX_putInWaitingOrder 47 = .ok (.aload_n 1, 1) := by decide +kernel
theorem dX_putInWaitingOrder_48 : decode cX_putInWaitingOrder 48 = .ok (.putfield 107, 3) := by decide +kernel
theorem dX_putInWaitingOrder_51 : decode cX_putInWaitingOrder 51 = .ok (.aload_n 0, 1) := by decide +kernel
theorem dX_putInWaitingOrder_52 : decode cX_putInWaitingOrder 52 = .ok (.dup, 1) := by decide +kernel
theorem dX_putInWaitingOrder_53 : decode cX_putInWaitingOrder 53 = .ok (.getfield 86, 3) := by decide +kernel
theorem dX_putInWaitingOrder_56 : decode cX_putInWaitingOrder 56 = .ok (.iconst 1, 1) := by decide +kernel
theorem dX_putInWaitingOrder_57 : decode cX_putInWaitingOrder 57 = .ok (.iadd, 1) := by decide +kernel
theorem dX_putInWaitingOrder_58 : decode cX_putInWaitingOrder 58 = .ok (.putfield 86, 3) := by decide +kernel
theorem dX_putInWaitingOrder_61 : decode cX_putInWaitingOrder 61 = .ok (.return_, 1) := by decide +kernel
theorem dX_settle_0 : decode cX_settle 0 = .ok (.aload_n 1, 1) := by decide +kernel
theorem dX_settle_1 : decode cX_settle 1 = .ok (.getfield 190, 3) := by decide +kernel
theorem dX_settle_4 : decode cX_settle 4 = .ok (.astore_n 2, 1) := by decide +kernel
theorem dX_settle_5 : decode cX_settle 5 = .ok (.aload_n 0, 1) := by decide +kernel
theorem dX_settle_6 : decode cX_settle 6 = .ok (.aload_n 1, 1) := by decide +kernel
theorem dX_settle_7 : decode cX_settle 7 = .ok (.invokevirtual 210, 3) := by decide +kernel
theorem dX_settle_10 : decode cX_settle 10 = .ok (.istore_n 3, 1) := by decide +kernel
theorem dX_settle_11 : decode cX_settle 11 = .ok (.iload_n 3, 1) := by decide +kernel
theorem dX_settle_12 : decode cX_settle 12 = .ok (.ifCond .ne 26, 3) := by decide +kernel
theorem dX_settle_15 : decode cX_settle 15 = .ok (.aload_n 2, 1) := by decide +kernel
theorem dX_settle_16 : decode cX_settle 16 = .ok (.aload_n 1, 1) := by decide +kernel
theorem dX_settle_17 : decode cX_settle 17 = .ok (.getfield 184, 3) := by decide +kernel
theorem dX_settle_20 : decode cX_settle 20 = .ok (.aload_n 1, 1) := by decide +kernel
theorem dX_settle_21 : decode cX_settle 21 = .ok (.getfield 104, 3) := by decide +kernel
theorem dX_settle_24 : decode cX_settle 24 = .ok (.invokevirtual 214, 3) := by decide +kernel
theorem dX_settle_27 : decode cX_settle 27 = .ok (.aload_n 1, 1) := by decide +kernel
theorem dX_settle_28 : decode cX_settle 28 = .ok (.aload_n 2, 1) := by decide +kernel
theorem dX_settle_29 : decode cX_settle 29 = .ok (.getfield 151, 3) := by decide +kernel
theorem dX_settle_32 : decode cX_settle 32 = .ok (.putfield 181, 3) := by decide +kernel
theorem dX_settle_35 : decode cX_settle 35 = .ok (.goto 10, 3) := by decide +kernel
theorem dX_settle_38 : decode cX_settle 38 = .ok (.aload_n 1, 1) := by decide +kernel
theorem dX_settle_39 : decode cX_settle 39 = .ok (.iconst (-1), 1) := by decide +kernel
theorem dX_settle_40 : decode cX_settle 40 = .ok (.iload_n 3, 1) := by decide +kernel
theorem dX_settle_41 : decode cX_settle 41 = .ok (.isub, 1) := by decide +kernel
theorem dX_settle_42 : decode cX_settle 42 = .ok (.putfield 181, 3) := by decide +kernel
theorem dX_settle_45 : decode cX_settle 45 = .ok (.iload_n 3, 1) := by decide +kernel
theorem dX_settle_46 : decode cX_settle 46 = .ok (.iconst 1, 1) := by decide +kernel
theorem dX_settle_47 : decode cX_settle 47 = .ok (.if_icmp .ne 20, 3) := by decide +kernel
theorem dX_settle_50 : decode cX_settle 50 = .ok (.aload_n 0, 1) := by decide +kernel
theorem dX_settle_51 : decode cX_settle 51 = .ok (.dup, 1) := by decide +kernel
theorem dX_settle_52 : decode cX_settle 52 = .ok (.getfield 116, 3) := by decide +kernel
theorem dX_settle_55 : decode cX_settle 55 = .ok (.iconst 1, 1) := by decide +kernel
theorem dX_settle_56 : decode cX_settle 56 = .ok (.aload_n 1, 1) := by decide +kernel
theorem dX_settle_57 : decode cX_settle 57 = .ok (.getfield 184, 3) := by decide +kernel
theorem dX_settle_60 : decode cX_settle 60 = .ok (.ishl, 1) := by decide +kernel
theorem dX_settle_61 : decode cX_settle 61 = .ok (.iconst (-1), 1) := by decide +kernel
theorem dX_settle_62 : decode cX_settle 62 = .ok (.ixor, 1) := by decide +kernel
theorem dX_settle_63 : decode cX_settle 63 = .ok (.iand, 1) := by decide +kernel
theorem dX_settle_64 : decode cX_settle 64 = .ok (.putfield 116, 3) := by decide +kernel
theorem dX_settle_67 : decode cX_settle 67 = .ok (.aload_n 2, 1) := by decide +kernel
theorem dX_settle_68 : decode cX_settle 68 = .ok (.aload_n 1, 1) := by decide +kernel
theorem dX_settle_69 : decode cX_settle 69 = .ok (.invokevirtual 218, 3) := by decide +kernel
theorem dX_settle_72 : decode cX_settle 72 = .ok (.return_, 1) := by decide +kernel
theorem dX_refusalOf_0 : decode cX_refusalOf 0 = .ok (.aload_n 0, 1) := by decide +kernel
theorem dX_refusalOf_1 : decode cX_refusalOf 1 = .ok (.aload_n 1, 1) := by decide +kernel
theorem dX_refusalOf_2 : decode cX_refusalOf 2 = .ok (.getfield 184, 3) := by decide +kernel
theorem dX_refusalOf_5 : decode cX_refusalOf 5 = .ok (.invokevirtual 113, 3) := by decide +kernel
theorem dX_refusalOf_8 : decode cX_refusalOf 8 = .ok (.ifCond .eq 5, 3) := by decide +kernel
theorem dX_refusalOf_11 : decode cX_refusalOf 11 = .ok (.iconst 1, 1) := by decide +kernel
theorem dX_refusalOf_12 : decode cX_refusalOf 12 = .ok (.ireturn, 1) := by decide +kernel
theorem dX_refusalOf_13 : decode cX_refusalOf 13 = .ok (.aload_n 0, 1) := by decide +kernel
theorem dX_refusalOf_14 : decode cX_refusalOf 14 = .ok (.aload_n 1, 1) := by decide +kernel
theorem dX_refusalOf_15 : decode cX_refusalOf 15 = .ok (.invokevirtual 221, 3) := by decide +kernel
theorem dX_refusalOf_18 : decode cX_refusalOf 18 = .ok (.ifCond .ne 5, 3) := by decide +kernel
theorem dX_refusalOf_21 : decode cX_refusalOf 21 = .ok (.iconst 2, 1) := by decide +kernel
theorem dX_refusalOf_22 : decode cX_refusalOf 22 = .ok (.ireturn, 1) := by decide +kernel
theorem dX_refusalOf_23 : decode cX_refusalOf 23 = .ok (.aload_n 1, 1) := by decide +kernel
theorem dX_refusalOf_24 : decode cX_refusalOf 24 = .ok (.getfield 184, 3) := by decide +kernel
theorem dX_refusalOf_27 : decode cX_refusalOf 27 = .ok (.invokestatic 224, 3) := by decide +kernel
theorem dX_refusalOf_30 : decode cX_refusalOf 30 = .ok (.ifCond .eq 16, 3) := by decide +kernel
theorem dX_refusalOf_33 : decode cX_refusalOf 33 = .ok (.aload_n 0, 1) := by decide +kernel
theorem dX_refusalOf_34 : decode cX_refusalOf 34 = .ok (.aload_n 1, 1) := by decide +kernel
theorem dX_refusalOf_35 : decode cX_refusalOf 35 = .ok (.getfield 104, 3) := by decide +kernel
theorem dX_refusalOf_38 : decode cX_refusalOf 38 = .ok (.invokevirtual 227, 3) := by decide +kernel
theorem dX_refusalOf_41 : decode cX_refusalOf 41 = .ok (.ifCond .ne 5, 3) := by decide +kernel
theorem dX_refusalOf_44 : decode cX_refusalOf 44 = .ok (.iconst 3, 1) := by decide +kernel
theorem dX_refusalOf_45 : decode cX_refusalOf 45 = .ok (.ireturn, 1) := by decide +kernel
theorem dX_refusalOf_46 : decode cX_refusalOf 46 = .ok (.aload_n 1, 1) := by decide +kernel
theorem dX_refusalOf_47 : decode cX_refusalOf 47 = .ok (.getfield 190, 3) := by decide +kernel
theorem dX_refusalOf_50 : decode cX_refusalOf 50 = .ok (.aload_n 1, 1) := by decide +kernel
theorem dX_refusalOf_51 : decode cX_refusalOf 51 = .ok (.getfield 184, 3) := by decide +kernel
theorem dX_refusalOf_54 : decode cX_refusalOf 54 = .ok (.invokevirtual 230, 3) := by decide +kernel
theorem dX_refusalOf_57 : decode cX_refusalOf 57 = .ok (.ifCond .ne 5, 3) := by decide +kernel
theorem dX_refusalOf_60 : decode cX_refusalOf 60 = .ok (.iconst 4, 1) := by decide +kernel
theorem dX_refusalOf_61 : decode cX_refusalOf 61 = .ok (.ireturn, 1) := by decide +kernel
theorem dX_refusalOf_62 : decode cX_refusalOf 62 = .ok (.aload_n 1, 1) := by decide +kernel
theorem dX_refusalOf_63 : decode cX_refusalOf 63 = .ok (.getfield 190, 3) := by decide +kernel
theorem dX_refusalOf_66 : decode cX_refusalOf 66 = .ok (.aload_n 1, 1) := by decide +kernel
theorem dX_refusalOf_67 : decode cX_refusalOf 67 = .ok (.getfield 184, 3) := by decide +kernel
theorem dX_refusalOf_70 : decode cX_refusalOf 70 = .ok (.invokevirtual 233, 3) := by decide +kernel
theorem dX_refusalOf_73 : decode cX_refusalOf 73 = .ok (.ifCond .ne 5, 3) := by decide +kernel
theorem dX_refusalOf_76 : decode cX_refusalOf 76 = .ok (.iconst 5, 1) := by decide +kernel
theorem dX_refusalOf_77 : decode cX_refusalOf 77 = .ok (.ireturn, 1) := by decide +kernel
theorem dX_refusalOf_78 : decode cX_refusalOf 78 = .ok (.iconst 0, 1) := by decide +kernel
theorem dX_refusalOf_79 : decode cX_refusalOf 79 = .ok (.ireturn, 1) := by decide +kernel
theorem dX_mayTell_0 : decode cX_mayTell 0 = .ok (.aload_n 0, 1) := by decide +kernel
theorem dX_mayTell_1 : decode cX_mayTell 1 = .ok (.aload_n 1, 1) := by decide +kernel
theorem dX_mayTell_2 : decode cX_mayTell 2 = .ok (.getfield 197, 3) := by decide +kernel
theorem dX_mayTell_5 : decode cX_mayTell 5 = .ok (.invokevirtual 53, 3) := by decide +kernel
theorem dX_mayTell_8 : decode cX_mayTell 8 = .ok (.istore_n 2, 1) := by decide +kernel
theorem dX_mayTell_9 : decode cX_mayTell 9 = .ok (.aload_n 1, 1) := by decide +kernel
theorem dX_mayTell_10 : decode cX_mayTell 10 = .ok (.getfield 184, 3) := by decide +kernel
theorem dX_mayTell_13 : decode cX_mayTell 13 = .ok (.tableswitch 101 0 9 #[55, 75, 101, 101, 101, 101, 55, 90, 101, 55], 55) := by decide +kernel
theorem dX_mayTell_68 : decode cX_mayTell 68 = .ok (.aload_n 1, 1) := by decide +kernel
theorem dX_mayTell_69 : decode cX_mayTell 69 = .ok (.getfield 197, 3) := by decide +kernel
theorem dX_mayTell_72 : decode cX_mayTell 72 = .ok (.aload_n 1, 1) := by decide +kernel
theorem dX_mayTell_73 : decode cX_mayTell 73 = .ok (.getfield 190, 3) := by decide +kernel
theorem dX_mayTell_76 : decode cX_mayTell 76 = .ok (.getfield 157, 3) := by decide +kernel
theorem dX_mayTell_79 : decode cX_mayTell 79 = .ok (.if_icmp .ne 7, 3) := by decide +kernel
theorem dX_mayTell_82 : decode cX_mayTell 82 = .ok (.iconst 1, 1) := by decide +kernel
theorem dX_mayTell_83 : decode cX_mayTell 83 = .ok (.goto 4, 3) := by decide +kernel
theorem dX_mayTell_86 : decode cX_mayTell 86 = .ok (.iconst 0, 1) := by decide +kernel
theorem dX_mayTell_87 : decode cX_mayTell 87 = .ok (.ireturn, 1) := by decide +kernel
theorem dX_mayTell_88 : decode cX_mayTell 88 = .ok (.iload_n 2, 1) := by decide +kernel
theorem dX_mayTell_89 : decode cX_mayTell 89 = .ok (.ifCond .eq 8, 3) := by decide +kernel
theorem dX_mayTell_92 : decode cX_mayTell 92 = .ok (.iload_n 2, 1) := by decide +kernel
theorem dX_mayTell_93 : decode cX_mayTell 93 = .ok (.iconst 2, 1) := by decide +kernel
theorem dX_mayTell_94 : decode cX_mayTell 94 = .ok (.if_icmp .ne 7, 3) := by decide +kernel
theorem dX_mayTell_97 : decode cX_mayTell 97 = .ok (.iconst 1, 1) := by decide +kernel
theorem dX_mayTell_98 : decode cX_mayTell 98 = .ok (.goto 4, 3) := by decide +kernel
theorem dX_mayTell_101 : decode cX_mayTell 101 = .ok (.iconst 0, 1) := by decide +kernel
theorem dX_mayTell_102 : decode cX_mayTell 102 = .ok (.ireturn, 1) := by decide +kernel
theorem dX_mayTell_103 : decode cX_mayTell 103 = .ok (.iload_n 2, 1) := by decide +kernel
theorem dX_mayTell_104 : decode cX_mayTell 104 = .ok (.iconst 2, 1) := by decide +kernel
theorem dX_mayTell_105 : decode cX_mayTell 105 = .ok (.if_icmp .ne 7, 3) := by decide +kernel
theorem dX_mayTell_108 : decode cX_mayTell 108 = .ok (.iconst 1, 1) := by decide +kernel
theorem dX_mayTell_109 : decode cX_mayTell 109 = .ok (.goto 4, 3) := by decide +kernel
theorem dX_mayTell_112 : decode cX_mayTell 112 = .ok (.iconst 0, 1) := by decide +kernel
theorem dX_mayTell_113 : decode cX_mayTell 113 = .ok (.ireturn, 1) := by decide +kernel
theorem dX_mayTell_114 : decode cX_mayTell 114 = .ok (.iload_n 2, 1) := by decide +kernel
theorem dX_mayTell_115 : decode cX_mayTell 115 = .ok (.iconst 1, 1) := by decide +kernel
theorem dX_mayTell_116 : decode cX_mayTell 116 = .ok (.if_icmp .ne 7, 3) := by decide +kernel
theorem dX_mayTell_119 : decode cX_mayTell 119 = .ok (.iconst 1, 1) := by decide +kernel
theorem dX_mayTell_120 : decode cX_mayTell 120 = .ok (.goto 4, 3) := by decide +kernel
theorem dX_mayTell_123 : decode cX_mayTell 123 = .ok (.iconst 0, 1) := by decide +kernel
theorem dX_mayTell_124 : decode cX_mayTell 124 = .ok (.ireturn, 1) := by decide +kernel
theorem dX_isOfficersAct_0 : decode cX_isOfficersAct 0 = .ok (.iload_n 0, 1) := by decide +kernel
theorem dX_isOfficersAct_1 : decode cX_isOfficersAct 1 = .ok (.iconst 2, 1) := by decide +kernel
theorem dX_isOfficersAct_2 : decode cX_isOfficersAct 2 = .ok (.if_icmp .lt 8, 3) := by decide +kernel
theorem dX_isOfficersAct_5 : decode cX_isOfficersAct 5 = .ok (.iload_n 0, 1) := by decide +kernel
theorem dX_isOfficersAct_6 : decode cX_isOfficersAct 6 = .ok (.iconst 5, 1) := by decide +kernel
theorem dX_isOfficersAct_7 : decode cX_isOfficersAct 7 = .ok (.if_icmp .le 9, 3) := by decide +kernel
theorem dX_isOfficersAct_10 : decode cX_isOfficersAct 10 = .ok (.iload_n 0, 1) := by decide +kernel
theorem dX_isOfficersAct_11 : decode cX_isOfficersAct 11 = .ok (.bipush 8, 2) := by decide +kernel
theorem dX_isOfficersAct_13 : decode cX_isOfficersAct 13 = .ok (.if_icmp .ne 7, 3) := by decide +kernel
theorem dX_isOfficersAct_16 : decode cX_isOfficersAct 16 = .ok (.iconst 1, 1) := by decide +kernel
theorem dX_isOfficersAct_17 : decode cX_isOfficersAct 17 = .ok (.goto 4, 3) := by decide +kernel
theorem dX_isOfficersAct_20 : decode cX_isOfficersAct 20 = .ok (.iconst 0, 1) := by decide +kernel
theorem dX_isOfficersAct_21 : decode cX_isOfficersAct 21 = .ok (.ireturn, 1) := by decide +kernel
theorem dX_isOpenAt_0 : decode cX_isOpenAt 0 = .ok (.iload_n 1, 1) := by decide +kernel
theorem dX_isOpenAt_1 : decode cX_isOpenAt 1 = .ok (.bipush 24, 2) := by decide +kernel
theorem dX_isOpenAt_3 : decode cX_isOpenAt 3 = .ok (.irem, 1) := by decide +kernel
theorem dX_isOpenAt_4 : decode cX_isOpenAt 4 = .ok (.istore_n 2, 1) := by decide +kernel
theorem dX_isOpenAt_5 : decode cX_isOpenAt 5 = .ok (.iload_n 2, 1) := by decide +kernel
theorem dX_isOpenAt_6 : decode cX_isOpenAt 6 = .ok (.aload_n 0, 1) := by decide +kernel
theorem dX_isOpenAt_7 : decode cX_isOpenAt 7 = .ok (.getfield 25, 3) := by decide +kernel
theorem dX_isOpenAt_10 : decode cX_isOpenAt 10 = .ok (.if_icmp .lt 15, 3) := by decide +kernel
theorem dX_isOpenAt_13 : decode cX_isOpenAt 13 = .ok (.iload_n 2, 1) := by decide +kernel
theorem dX_isOpenAt_14 : decode cX_isOpenAt 14 = .ok (.aload_n 0, 1) := by decide +kernel
theorem dX_isOpenAt_15 : decode cX_isOpenAt 15 = .ok (.getfield 29, 3) := by decide +kernel
theorem dX_isOpenAt_18 : decode cX_isOpenAt 18 = .ok (.if_icmp .ge 7, 3) := by decide +kernel
theorem dX_isOpenAt_21 : decode cX_isOpenAt 21 = .ok (.iconst 1, 1) := by decide +kernel
theorem dX_isOpenAt_22 : decode cX_isOpenAt 22 = .ok (.goto 4, 3) := by decide +kernel
theorem dX_isOpenAt_25 : decode cX_isOpenAt 25 = .ok (.iconst 0, 1) := by decide +kernel
theorem dX_isOpenAt_26 : decode cX_isOpenAt 26 = .ok (.ireturn, 1) := by decide +kernel
end
section
theorem dM_init_0 : decode cM_init 0 = .ok (.aload_n 0, 1) := by decide +kernel
theorem dM_init_1 : decode cM_init 1 = .ok (.invokespecial 1, 3) := by decide +kernel
theorem dM_init_4 : decode cM_init 4 = .ok (.aload_n 0, 1) := by decide +kernel
theorem dM_init_5 : decode cM_init 5 = .ok (.bipush 12, 2) := by decide +kernel
theorem dM_init_7 : decode cM_init 7 = .ok (.newarray .int, 2) := by decide +kernel
theorem dM_init_9 : decode cM_init 9 = .ok (.putfield 7, 3) := by decide +kernel
theorem dM_init_12 : decode cM_init 12 = .ok (.aload_n 0, 1) := by decide +kernel
theorem dM_init_13 : decode cM_init 13 = .ok (.bipush 20, 2) := by decide +kernel
theorem dM_init_15 : decode cM_init 15 = .ok (.newarray .int, 2) := by decide +kernel
theorem dM_init_17 : decode cM_init 17 = .ok (.putfield 13, 3) := by decide +kernel
theorem dM_init_20 : decode cM_init 20 = .ok (.aload_n 0, 1) := by decide +kernel
theorem dM_init_21 : decode cM_init 21 = .ok (.bipush 20, 2) := by decide +kernel
theorem dM_init_23 : decode cM_init 23 = .ok (.newarray .int, 2) := by decide +kernel
theorem dM_init_25 : decode cM_init 25 = .ok (.putfield 16, 3) := by decide +kernel
theorem dM_init_28 : decode cM_init 28 = .ok (.aload_n 0, 1) := by decide +kernel
theorem dM_init_29 : decode cM_init 29 = .ok (.bipush 20, 2) := by decide +kernel
theorem dM_init_31 : decode cM_init 31 = .ok (.newarray .int, 2) := by decide +kernel
theorem dM_init_33 : decode cM_init 33 = .ok (.putfield 19, 3) := by decide +kernel
theorem dM_init_36 : decode cM_init 36 = .ok (.aload_n 0, 1) := by decide +kernel
theorem dM_init_37 : decode cM_init 37 = .ok (.bipush 20, 2) := by decide +kernel
theorem dM_init_39 : decode cM_init 39 = .ok (.newarray .int, 2) := by decide +kernel
theorem dM_init_41 : decode cM_init 41 = .ok (.putfield 22, 3) := by decide +kernel
theorem dM_init_44 : decode cM_init 44 = .ok (.aload_n 0, 1) := by decide +kernel
theorem dM_init_45 : decode cM_init 45 = .ok (.bipush 20, 2) := by decide +kernel
theorem dM_init_47 : decode cM_init 47 = .ok (.newarray .int, 2) := by decide +kernel
theorem dM_init_49 : decode cM_init 49 = .ok (.putfield 25, 3) := by decide +kernel
theorem dM_init_52 : decode cM_init 52 = .ok (.aload_n 0, 1) := by decide +kernel
theorem dM_init_53 : decode cM_init 53 = .ok (.bipush 20, 2) := by decide +kernel
theorem dM_init_55 : decode cM_init 55 = .ok (.newarray .int, 2) := by decide +kernel
theorem dM_init_57 : decode cM_init 57 = .ok (.putfield 28, 3) := by decide +kernel
theorem dM_init_60 : decode cM_init 60 = .ok (.aload_n 0, 1) := by decide +kernel
theorem dM_init_61 : decode cM_init 61 = .ok (.bipush 20, 2) := by decide +kernel
theorem dM_init_63 : decode cM_init 63 = .ok (.newarray .int, 2) := by decide +kernel
theorem dM_init_65 : decode cM_init 65 = .ok (.putfield 31, 3) := by decide +kernel
theorem dM_init_68 : decode cM_init 68 = .ok (.aload_n 0, 1) := by decide +kernel
theorem dM_init_69 : decode cM_init 69 = .ok (.bipush 20, 2) := by decide +kernel
theorem dM_init_71 : decode cM_init 71 = .ok (.newarray .int, 2) := by decide +kernel
theorem dM_init_73 : decode cM_init 73 = .ok (.putfield 34, 3) := by decide +kernel
theorem dM_init_76 : decode cM_init 76 = .ok (.aload_n 0, 1) := by decide +kernel
theorem dM_init_77 : decode cM_init 77 = .ok (.bipush 120, 2) := by decide +kernel
theorem dM_init_79 : decode cM_init 79 = .ok (.newarray .int, 2) := by decide +kernel
theorem dM_init_81 : decode cM_init 81 = .ok (.putfield 37, 3) := by decide +kernel
theorem dM_init_84 : decode cM_init 84 = .ok (.aload_n 0, 1) := by decide +kernel
theorem dM_init_85 : decode cM_init 85 = .ok (.bipush 120, 2) := by decide +kernel
theorem dM_init_87 : decode cM_init 87 = .ok (.newarray .int, 2) := by decide +kernel
theorem dM_init_89 : decode cM_init 89 = .ok (.putfield 40, 3) := by decide +kernel
theorem dM_init_92 : decode cM_init 92 = .ok (.aload_n 0, 1) := by decide +kernel
theorem dM_init_93 : decode cM_init 93 = .ok (.bipush 120, 2) := by decide +kernel
theorem dM_init_95 : decode cM_init 95 = .ok (.newarray .int, 2) := by decide +kernel
theorem dM_init_97 : decode cM_init 97 = .ok (.putfield 43, 3) := by decide +kernel
theorem dM_init_100 : decode cM_init 100 = .ok (.aload_n 0, 1) := by decide +kernel
theorem dM_init_101 : decode cM_init 101 = .ok (.bipush 120, 2) := by decide +kernel
theorem dM_init_103 : decode cM_init 103 = .ok (.newarray .int, 2) := by decide +kernel
theorem dM_init_105 : decode cM_init 105 = .ok (.putfield 46, 3) := by decide +kernel
theorem dM_init_108 : decode cM_init 108 = .ok (.aload_n 0, 1) := by decide +kernel
theorem dM_init_109 : decode cM_init 109 = .ok (.bipush 120, 2) := by decide +kernel
theorem dM_init_111 : decode cM_init 111 = .ok (.newarray .boolean, 2) := by decide +kernel
theorem dM_init_113 : decode cM_init 113 = .ok (.putfield 49, 3) := by decide +kernel
theorem dM_init_116 : decode cM_init 116 = .ok (.aload_n 0, 1) := by decide +kernel
theorem dM_init_117 : decode cM_init 117 = .ok (.bipush 120, 2) := by decide +kernel
theorem dM_init_119 : decode cM_init 119 = .ok (.newarray .int, 2) := by decide +kernel
theorem dM_init_121 : decode cM_init 121 = .ok (.putfield 53, 3) := by decide +kernel
theorem dM_init_124 : decode cM_init 124 = .ok (.aload_n 0, 1) := by decide +kernel
theorem dM_init_125 : decode cM_init 125 = .ok (.bipush 120, 2) := by decide +kernel
theorem dM_init_127 : decode cM_init 127 = .ok (.newarray .int, 2) := by decide +kernel
theorem dM_init_129 : decode cM_init 129 = .ok (.putfield 56, 3) := by decide +kernel
theorem dM_init_132 : decode cM_init 132 = .ok (.aload_n 0, 1) := by decide +kernel
theorem dM_init_133 : decode cM_init 133 = .ok (.bipush 8, 2) := by decide +kernel
theorem dM_init_135 : decode cM_init 135 = .ok (.putfield 59, 3) := by decide +kernel
theorem dM_init_138 : decode cM_init 138 = .ok (.aload_n 0, 1) := by decide +kernel
theorem dM_init_139 : decode cM_init 139 = .ok (.bipush 16, 2) := by decide +kernel
theorem dM_init_141 : decode cM_init 141 = .ok (.putfield 63, 3) := by decide +kernel
theorem dM_init_144 : decode cM_init 144 = .ok (.aload_n 0, 1) := by decide +kernel
theorem dM_init_145 : decode cM_init 145 = .ok (.bipush 10, 2) := by decide +kernel
theorem dM_init_147 : decode cM_init 147 = .ok (.newarray .boolean, 2) := by decide +kernel
theorem dM_init_149 : decode cM_init 149 = .ok (.putfield 66, 3) := by decide +kernel
theorem dM_init_152 : decode cM_init 152 = .ok (.return_, 1) := by decide +kernel
theorem dM_thrown_0 : decode cM_thrown 0 = .ok (.aload_n 0, 1) := by decide +kernel
theorem dM_thrown_1 : decode cM_thrown 1 = .ok (.getfield 69, 3) := by decide +kernel
theorem dM_thrown_4 : decode cM_thrown 4 = .ok (.ireturn, 1) := by decide +kernel
theorem dM_refuse_0 : decode cM_refuse 0 = .ok (.aload_n 0, 1) := by decide +kernel
theorem dM_refuse_1 : decode cM_refuse 1 = .ok (.iload_n 1, 1) := by decide +kernel
theorem dM_refuse_2 : decode cM_refuse 2 = .ok (.putfield 69, 3) := by decide +kernel
theorem dM_refuse_5 : decode cM_refuse 5 = .ok (.iconst 0, 1) := by decide +kernel
theorem dM_refuse_6 : decode cM_refuse 6 = .ok (.ireturn, 1) := by decide +kernel
theorem dM_in_0 : decode cM_in 0 = .ok (.iload_n 0, 1) := by decide +kernel
theorem dM_in_1 : decode cM_in 1 = .ok (.iload_n 1, 1) := by decide +kernel
theorem dM_in_2 : decode cM_in 2 = .ok (.if_icmp .lt 12, 3) := by decide +kernel
theorem dM_in_5 : decode cM_in 5 = .ok (.iload_n 0, 1) := by decide +kernel
theorem dM_in_6 : decode cM_in 6 = .ok (.iload_n 2, 1) := by decide +kernel
theorem dM_in_7 : decode cM_in 7 = .ok (.if_icmp .gt 7, 3) := by decide +kernel
theorem dM_in_10 : decode cM_in 10 = .ok (.iconst 1, 1) := by decide +kernel
theorem dM_in_11 : decode cM_in 11 = .ok (.goto 4, 3) := by decide +kernel
theorem dM_in_14 : decode cM_in 14 = .ok (.iconst 0, 1) := by decide +kernel
theorem dM_in_15 : decode cM_in 15 = .ok (.ireturn, 1) := by decide +kernel
theorem dM_isPerson_0 : decode cM_isPerson 0 = .ok (.iload_n 1, 1) := by decide +kernel
theorem dM_isPerson_1 : decode cM_isPerson 1 = .ok (.ifCond .lt 15, 3) := by decide +kernel
theorem dM_isPerson_4 : decode cM_isPerson 4 = .ok (.iload_n 1, 1) := by decide +kernel
theorem dM_isPerson_5 : decode cM_isPerson 5 = .ok (.aload_n 0, 1) := by decide +kernel
theorem dM_isPerson_6 : decode cM_isPerson 6 = .ok (.getfield 72, 3) := by decide +kernel
theorem dM_isPerson_9 : decode cM_isPerson 9 = .ok (.if_icmp .ge 7, 3) := by decide +kernel
theorem dM_isPerson_12 : decode cM_isPerson 12 = .ok (.iconst 1, 1) := by decide +kernel
theorem dM_isPerson_13 : decode cM_isPerson 13 = .ok (.goto 4, 3) := by decide +kernel
theorem dM_isPerson_16 : decode cM_isPerson 16 = .ok (.iconst 0, 1) := by decide +kernel
theorem dM_isPerson_17 : decode cM_isPerson 17 = .ok (.ireturn, 1) := by decide +kernel
theorem dM_isOne_0 : decode cM_isOne 0 = .ok (.iload_n 1, 1) := by decide +kernel
theorem dM_isOne_1 : decode cM_isOne 1 = .ok (.ifCond .lt 15, 3) := by decide +kernel
theorem dM_isOne_4 : decode cM_isOne 4 = .ok (.iload_n 1, 1) := by decide +kernel
theorem dM_isOne_5 : decode cM_isOne 5 = .ok (.aload_n 0, 1) := by decide +kernel
theorem dM_isOne_6 : decode cM_isOne 6 = .ok (.getfield 75, 3) := by decide +kernel
theorem dM_isOne_9 : decode cM_isOne 9 = .ok (.if_icmp .ge 7, 3) := by decide +kernel
theorem dM_isOne_12 : decode cM_isOne 12 = .ok (.iconst 1, 1) := by decide +kernel
theorem dM_isOne_13 : decode cM_isOne 13 = .ok (.goto 4, 3) := by decide +kernel
theorem dM_isOne_16 : decode cM_isOne 16 = .ok (.iconst 0, 1) := by decide +kernel
theorem dM_isOne_17 : decode cM_isOne 17 = .ok (.ireturn, 1) := by decide +kernel
theorem dM_person_0 : decode cM_person 0 = .ok (.iload_n 1, 1) := by decide +kernel
theorem dM_person_1 : decode cM_person 1 = .ok (.iconst 0, 1) := by decide +kernel
theorem dM_person_2 : decode cM_person 2 = .ok (.iconst 2, 1) := by decide +kernel
theorem dM_person_3 : decode cM_person 3 = .ok (.invokestatic 78, 3) := by decide +kernel
theorem dM_person_6 : decode cM_person 6 = .ok (.ifCond .ne 9, 3) := by decide +kernel
theorem dM_person_9 : decode cM_person 9 = .ok (.aload_n 0, 1) := by decide +kernel
theorem dM_person_10 : decode cM_person 10 = .ok (.iconst 1, 1) := by decide +kernel
theorem dM_person_11 : decode cM_person 11 = .ok (.invokevirtual 82, 3) := by decide +kernel
theorem dM_person_14 : decode cM_person 14 = .ok (.ireturn, 1) := by decide +kernel
theorem dM_person_15 : decode cM_person 15 = .ok (.aload_n 0, 1) := by decide +kernel
theorem dM_person_16 : decode cM_person 16 = .ok (.getfield 72, 3) := by decide +kernel
theorem dM_person_19 : decode cM_person 19 = .ok (.bipush 12, 2) := by decide +kernel
theorem dM_person_21 : decode cM_person 21 = .ok (.if_icmp .ne 9, 3) := by decide +kernel
theorem dM_person_24 : decode cM_person 24 = .ok (.aload_n 0, 1) := by decide +kernel
theorem dM_person_25 : decode cM_person 25 = .ok (.iconst 2, 1) := by decide +kernel
theorem dM_person_26 : decode cM_person 26 = .ok (.invokevirtual 82, 3) := by decide +kernel
theorem dM_person_29 : decode cM_person 29 = .ok (.ireturn, 1) := by decide +kernel
theorem dM_person_30 : decode cM_person 30 = .ok (.aload_n 0, 1) := by decide +kernel
theorem dM_person_31 : decode cM_person 31 = .ok (.iconst 0, 1) := by decide +kernel
theorem dM_person_32 : decode cM_person 32 = .ok (.putfield 69, 3) := by decide +kernel
theorem dM_person_35 : decode cM_person 35 = .ok (.aload_n 0, 1) := by decide +kernel
theorem dM_person_36 : decode cM_person 36 = .ok (.getfield 7, 3) := by decide +kernel
theorem dM_person_39 : decode cM_person 39 = .ok (.aload_n 0, 1) := by decide +kernel
theorem dM_person_40 : decode cM_person 40 = .ok (.getfield 72, 3) := by decide +kernel
theorem dM_person_43 : decode cM_person 43 = .ok (.iload_n 1, 1) := by decide +kernel
theorem dM_person_44 : decode cM_person 44 = .ok (.iastore, 1) := by decide +kernel
theorem dM_person_45 : decode cM_person 45 = .ok (.aload_n 0, 1) := by decide +kernel
theorem dM_person_46 : decode cM_person 46 = .ok (.dup, 1) := by decide +kernel
theorem dM_person_47 : decode cM_person 47 = .ok (.getfield 72, 3) := by decide +kernel
theorem dM_person_50 : decode cM_person 50 = .ok (.iconst 1, 1) := by decide +kernel
theorem dM_person_51 : decode cM_person 51 = .ok (.iadd, 1) := by decide +kernel
theorem dM_person_52 : decode cM_person 52 = .ok (.putfield 72, 3) := by decide +kernel
theorem dM_person_55 : decode cM_person 55 = .ok (.aload_n 0, 1) := by decide +kernel
theorem dM_person_56 : decode cM_person 56 = .ok (.getfield 72, 3) := by decide +kernel
theorem dM_person_59 : decode cM_person 59 = .ok (.iconst 1, 1) := by decide +kernel
theorem dM_person_60 : decode cM_person 60 = .ok (.isub, 1) := by decide +kernel
theorem dM_person_61 : decode cM_person 61 = .ok (.ireturn, 1) := by decide +kernel
theorem dM_declaration_0 : decode cM_declaration 0 = .ok (.iload_n 1, 1) := by decide +kernel
theorem dM_declaration_1 : decode cM_declaration 1 = .ok (.iconst 0, 1) := by decide +kernel
theorem dM_declaration_2 : decode cM_declaration 2 = .ok (.iconst 2, 1) := by decide +kernel
theorem dM_declaration_3 : decode cM_declaration 3 = .ok (.invokestatic 78, 3) := by decide +kernel
theorem dM_declaration_6 : decode cM_declaration 6 = .ok (.ifCond .eq 20, 3) := by decide +kernel
theorem dM_declaration_9 : decode cM_declaration 9 = .ok (.aload_n 0, 1) := by decide +kernel
theorem dM_declaration_10 : decode cM_declaration 10 = .ok (.iload_n 2, 1) := by decide +kernel
theorem dM_declaration_11 : decode cM_declaration 11 = .ok (.invokevirtual 86, 3) := by decide +kernel
theorem dM_declaration_14 : decode cM_declaration 14 = .ok (.ifCond .eq 12, 3) := by decide +kernel
theorem dM_declaration_17 : decode cM_declaration 17 = .ok (.aload_n 0, 1) := by decide +kernel
theorem dM_declaration_18 : decode cM_declaration 18 = .ok (.getfield 7, 3) := by decide +kernel
theorem dM_declaration_21 : decode cM_declaration 21 = .ok (.iload_n 2, 1) := by decide +kernel
theorem dM_declaration_22 : decode cM_declaration 22 = .ok (.iaload, 1) := by decide +kernel
theorem dM_declaration_23 : decode cM_declaration 23 = .ok (.ifCond .eq 9, 3) := by decide +kernel
theorem dM_declaration_26 : decode cM_declaration 26 = .ok (.aload_n 0, 1) := by decide +kernel
theorem dM_declaration_27 : decode cM_declaration 27 = .ok (.iconst 1, 1) := by decide +kernel
theorem dM_declaration_28 : decode cM_declaration 28 = .ok (.invokevirtual 82, 3) := by decide +kernel
theorem dM_declaration_31 : decode cM_declaration 31 = .ok (.ireturn, 1) := by decide +kernel
theorem dM_declaration_32 : decode cM_declaration 32 = .ok (.aload_n 0, 1) := by decide +kernel
theorem dM_declaration_33 : decode cM_declaration 33 = .ok (.getfield 75, 3) := by decide +kernel
theorem dM_declaration_36 : decode cM_declaration 36 = .ok (.bipush 20, 2) := by decide +kernel
theorem dM_declaration_38 : decode cM_declaration 38 = .ok (.if_icmp .ne 9, 3) := by decide +kernel
theorem dM_declaration_41 : decode cM_declaration 41 = .ok (.aload_n 0, 1) := by decide +kernel
theorem dM_declaration_42 : decode cM_declaration 42 = .ok (.iconst 2, 1) := by decide +kernel
theorem dM_declaration_43 : decode cM_declaration 43 = .ok (.invokevirtual 82, 3) := by decide +kernel
theorem dM_declaration_46 : decode cM_declaration 46 = .ok (.ireturn, 1) := by decide +kernel
theorem dM_declaration_47 : decode cM_declaration 47 = .ok (.aload_n 0, 1) := by decide +kernel
theorem dM_declaration_48 : decode cM_declaration 48 = .ok (.iconst 0, 1) := by decide +kernel
theorem dM_declaration_49 : decode cM_declaration 49 = .ok (.putfield 69, 3) := by decide +kernel
theorem dM_declaration_52 : decode cM_declaration 52 = .ok (.aload_n 0, 1) := by decide +kernel
theorem dM_declaration_53 : decode cM_declaration 53 = .ok (.getfield 13, 3) := by decide +kernel
theorem dM_declaration_56 : decode cM_declaration 56 = .ok (.aload_n 0, 1) := by decide +kernel
theorem dM_declaration_57 : decode cM_declaration 57 = .ok (.getfield 75, 3) := by decide +kernel
theorem dM_declaration_60 : decode cM_declaration 60 = .ok (.iload_n 1, 1) := by decide +kernel
theorem dM_declaration_61 : decode cM_declaration 61 = .ok (.iastore, 1) := by decide +kernel
theorem dM_declaration_62 : decode cM_declaration 62 = .ok (.aload_n 0, 1) := by decide +kernel
theorem dM_declaration_63 : decode cM_declaration 63 = .ok (.getfield 16, 3) := by decide +kernel
theorem dM_declaration_66 : decode cM_declaration 66 = .ok (.aload_n 0, 1) := by decide +kernel
theorem dM_declaration_67 : decode cM_declaration 67 = .ok (.getfield 75, 3) := by decide +kernel
theorem dM_declaration_70 : decode cM_declaration 70 = .ok (.iload_n 2, 1) := by decide +kernel
theorem dM_declaration_71 : decode cM_declaration 71 = .ok (.iastore, 1) := by decide +kernel
theorem dM_declaration_72 : decode cM_declaration 72 = .ok (.aload_n 0, 1) := by decide +kernel
theorem dM_declaration_73 : decode cM_declaration 73 = .ok (.getfield 31, 3) := by decide +kernel
theorem dM_declaration_76 : decode cM_declaration 76 = .ok (.aload_n 0, 1) := by decide +kernel
theorem dM_declaration_77 : decode cM_declaration 77 = .ok (.getfield 75, 3) := by decide +kernel
theorem dM_declaration_80 : decode cM_declaration 80 = .ok (.iconst (-1), 1) := by decide +kernel
theorem dM_declaration_81 : decode cM_declaration 81 = .ok (.iastore, 1) := by decide +kernel
theorem dM_declaration_82 : decode cM_declaration 82 = .ok (.aload_n 0, 1) := by decide +kernel
theorem dM_declaration_83 : decode cM_declaration 83 = .ok (.dup, 1) := by decide +kernel
theorem dM_declaration_84 : decode cM_declaration 84 = .ok (.getfield 75, 3) := by decide +kernel
theorem dM_declaration_87 : decode cM_declaration 87 = .ok (.iconst 1, 1) := by decide +kernel
theorem dM_declaration_88 : decode cM_declaration 88 = .ok (.iadd, 1) := by decide +kernel
theorem dM_declaration_89 : decode cM_declaration 89 = .ok (.putfield 75, 3) := by decide +kernel
theorem dM_declaration_92 : decode cM_declaration 92 = .ok (.aload_n 0, 1) := by decide +kernel
theorem dM_declaration_93 : decode cM_declaration 93 = .ok (.getfield 75, 3) := by decide +kernel
theorem dM_declaration_96 : decode cM_declaration 96 = .ok (.iconst 1, 1) := by decide +kernel
theorem dM_declaration_97 : decode cM_declaration 97 = .ok (.isub, 1) := by decide +kernel
theorem dM_declaration_98 : decode cM_declaration 98 = .ok (.ireturn, 1) := by decide +kernel
theorem dM_waiting_0 : decode cM_waiting 0 = .ok (.iconst 0, 1) := by decide +kernel
theorem dM_waiting_1 : decode cM_waiting 1 = .ok (.istore_n 1, 1) := by decide +kernel
theorem dM_waiting_2 : decode cM_waiting 2 = .ok (.iconst 0, 1) := by decide +kernel
theorem dM_waiting_3 : decode cM_waiting 3 = .ok (.istore_n 2, 1) := by decide +kernel
theorem dM_waiting_4 : decode cM_waiting 4 = .ok (.iload_n 2, 1) := by decide +kernel
theorem dM_waiting_5 : decode cM_waiting 5 = .ok (.aload_n 0, 1) := by decide +kernel
theorem dM_waiting_6 : decode cM_waiting 6 = .ok (.getfield 90, 3) := by decide +kernel
theorem dM_waiting_9 : decode cM_waiting 9 = .ok (.if_icmp .ge 26, 3) := by decide +kernel
theorem dM_waiting_12 : decode cM_waiting 12 = .ok (.iload_n 1, 1) := by decide +kernel
theorem dM_waiting_13 : decode cM_waiting 13 = .ok (.aload_n 0, 1) := by decide +kernel
theorem dM_waiting_14 : decode cM_waiting 14 = .ok (.getfield 49, 3) := by decide +kernel
theorem dM_waiting_17 : decode cM_waiting 17 = .ok (.iload_n 2, 1) := by decide +kernel
theorem dM_waiting_18 : decode cM_waiting 18 = .ok (.baload, 1) := by decide +kernel
theorem dM_waiting_19 : decode cM_waiting 19 = .ok (.ifCond .eq 7, 3) := by decide +kernel
theorem dM_waiting_22 : decode cM_waiting 22 = .ok (.iconst 1, 1) := by decide +kernel
theorem dM_waiting_23 : decode cM_waiting 23 = .ok (.goto 4, 3) := by decide +kernel
theorem dM_waiting_26 : decode cM_waiting 26 = .ok (.iconst 0, 1) := by decide +kernel
theorem dM_waiting_27 : decode cM_waiting 27 = .ok (.iadd, 1) := by decide +kernel
theorem dM_waiting_28 : decode cM_waiting 28 = .ok (.istore_n 1, 1) := by decide +kernel
theorem dM_waiting_29 : decode cM_waiting 29 = .ok (.iinc 2 1, 3) := by decide +kernel
theorem dM_waiting_32 : decode cM_waiting 32 = .ok (.goto (-28), 3) := by decide +kernel
theorem dM_waiting_35 : decode cM_waiting 35 = .ok (.iload_n 1, 1) := by decide +kernel
theorem dM_waiting_36 : decode cM_waiting 36 = .ok (.ireturn, 1) := by decide +kernel
theorem dM_event_0 : decode cM_event 0 = .ok (.aload_n 0, 1) := by decide +kernel
theorem dM_event_1 : decode cM_event 1 = .ok (.iload_n 1, 1) := by decide +kernel
theorem dM_event_2 : decode cM_event 2 = .ok (.invokevirtual 93, 3) := by decide +kernel
theorem dM_event_5 : decode cM_event 5 = .ok (.ifCond .eq 37, 3) := by decide +kernel
theorem dM_event_8 : decode cM_event 8 = .ok (.iload_n 2, 1) := by decide +kernel
theorem dM_event_9 : decode cM_event 9 = .ok (.iconst 0, 1) := by decide +kernel
theorem dM_event_10 : decode cM_event 10 = .ok (.bipush 9, 2) := by decide +kernel
theorem dM_event_12 : decode cM_event 12 = .ok (.invokestatic 78, 3) := by decide +kernel
theorem dM_event_15 : decode cM_event 15 = .ok (.ifCond .eq 27, 3) := by decide +kernel
theorem dM_event_18 : decode cM_event 18 = .ok (.aload_n 0, 1) := by decide +kernel
theorem dM_event_19 : decode cM_event 19 = .ok (.iload_n 3, 1) := by decide +kernel
theorem dM_event_20 : decode cM_event 20 = .ok (.invokevirtual 86, 3) := by decide +kernel
theorem dM_event_23 : decode cM_event 23 = .ok (.ifCond .eq 19, 3) := by decide +kernel
theorem dM_event_26 : decode cM_event 26 = .ok (.iload 4, 2) := by decide +kernel
theorem dM_event_28 : decode cM_event 28 = .ok (.aload_n 0, 1) := by decide +kernel
theorem dM_event_29 : decode cM_event 29 = .ok (.getfield 96, 3) := by decide +kernel
theorem dM_event_32 : decode cM_event 32 = .ok (.if_icmp .le 10, 3) := by decide +kernel
theorem dM_event_35 : decode cM_event 35 = .ok (.iload 4, 2) := by decide +kernel
theorem dM_event_37 : decode cM_event 37 = .ok (.ldc 99, 2) := by decide +kernel
theorem dM_event_39 : decode cM_event 39 = .ok (.if_icmp .le 9, 3) := by decide +kernel
theorem dM_event_42 : decode cM_event 42 = .ok (.aload_n 0, 1) := by decide +kernel
theorem dM_event_43 : decode cM_event 43 = .ok (.iconst 1, 1) := by decide +kernel
theorem dM_event_44 : decode cM_event 44 = .ok (.invokevirtual 82, 3) := by decide +kernel
theorem dM_event_47 : decode cM_event 47 = .ok (.ireturn, 1) := by decide +kernel
theorem dM_event_48 : decode cM_event 48 = .ok (.aload_n 0, 1) := by decide +kernel
theorem dM_event_49 : decode cM_event 49 = .ok (.getfield 90, 3) := by decide +kernel
theorem dM_event_52 : decode cM_event 52 = .ok (.bipush 120, 2) := by decide +kernel
theorem dM_event_54 : decode cM_event 54 = .ok (.if_icmp .eq 12, 3) := by decide +kernel
theorem dM_event_57 : decode cM_event 57 = .ok (.aload_n 0, 1) := by decide +kernel
theorem dM_event_58 : decode cM_event 58 = .ok (.invokevirtual 100, 3) := by decide +kernel
theorem dM_event_61 : decode cM_event 61 = .ok (.bipush 20, 2) := by decide +kernel
theorem dM_event_63 : decode cM_event 63 = .ok (.if_icmp .ne 9, 3) := by decide +kernel
theorem dM_event_66 : decode cM_event 66 = .ok (.aload_n 0, 1) := by decide +kernel
theorem dM_event_67 : decode cM_event 67 = .ok (.iconst 2, 1) := by decide +kernel
theorem dM_event_68 : decode cM_event 68 = .ok (.invokevirtual 82, 3) := by decide +kernel
theorem dM_event_71 : decode cM_event 71 = .ok (.ireturn, 1) := by decide +kernel
theorem dM_event_72 : decode cM_event 72 = .ok (.aload_n 0, 1) := by decide +kernel
theorem dM_event_73 : decode cM_event 73 = .ok (.iconst 0, 1) := by decide +kernel
theorem dM_event_74 : decode cM_event 74 = .ok (.putfield 69, 3) := by decide +kernel
theorem dM_event_77 : decode cM_event 77 = .ok (.aload_n 0, 1) := by decide +kernel
theorem dM_event_78 : decode cM_event 78 = .ok (.getfield 37, 3) := by decide +kernel
theorem dM_event_81 : decode cM_event 81 = .ok (.aload_n 0, 1) := by decide +kernel
theorem dM_event_82 : decode cM_event 82 = .ok (.getfield 90, 3) := by decide +kernel
theorem dM_event_85 : decode cM_event 85 = .ok (.iload_n 1, 1) := by decide +kernel
theorem dM_event_86 : decode cM_event 86 = .ok (.iastore, 1) := by decide +kernel
theorem dM_event_87 : decode cM_event 87 = .ok (.aload_n 0, 1) := by decide +kernel
theorem dM_event_88 : decode cM_event 88 = .ok (.getfield 40, 3) := by decide +kernel
theorem dM_event_91 : decode cM_event 91 = .ok (.aload_n 0, 1) := by decide +kernel
theorem dM_event_92 : decode cM_event 92 = .ok (.getfield 90, 3) := by decide +kernel
theorem dM_event_95 : decode cM_event 95 = .ok (.iload_n 2, 1) := by decide +kernel
theorem dM_event_96 : decode cM_event 96 = .ok (.iastore, 1) := by decide +kernel
theorem dM_event_97 : decode cM_event 97 = .ok (.aload_n 0, 1) := by decide +kernel
theorem dM_event_98 : decode cM_event 98 = .ok (.getfield 43, 3) := by decide +kernel
theorem dM_event_101 : decode cM_event 101 = .ok (.aload_n 0, 1) := by decide +kernel
theorem dM_event_102 : decode cM_event 102 = .ok (.getfield 90, 3) := by decide +kernel
theorem dM_event_105 : decode cM_event 105 = .ok (.iload_n 3, 1) := by decide +kernel
theorem dM_event_106 : decode cM_event 106 = .ok (.iastore, 1) := by decide +kernel
theorem dM_event_107 : decode cM_event 107 = .ok (.aload_n 0, 1) := by decide +kernel
theorem dM_event_108 : decode cM_event 108 = .ok (.getfield 46, 3) := by decide +kernel
theorem dM_event_111 : decode cM_event 111 = .ok (.aload_n 0, 1) := by decide +kernel
theorem dM_event_112 : decode cM_event 112 = .ok (.getfield 90, 3) := by decide +kernel
theorem dM_event_115 : decode cM_event 115 = .ok (.iload 4, 2) := by decide +kernel
theorem dM_event_117 : decode cM_event 117 = .ok (.iastore, 1) := by decide +kernel
theorem dM_event_118 : decode cM_event 118 = .ok (.aload_n 0, 1) := by decide +kernel
theorem dM_event_119 : decode cM_event 119 = .ok (.getfield 49, 3) := by decide +kernel
theorem dM_event_122 : decode cM_event 122 = .ok (.aload_n 0, 1) := by decide +kernel
theorem dM_event_123 : decode cM_event 123 = .ok (.getfield 90, 3) := by decide +kernel
theorem dM_event_126 : decode cM_event 126 = .ok (.iconst 1, 1) := by decide +kernel
theorem dM_event_127 : decode cM_event 127 = .ok (.bastore, 1) := by decide +kernel
theorem dM_event_128 : decode cM_event 128 = .ok (.aload_n 0, 1) := by decide +kernel
theorem dM_event_129 : decode cM_event 129 = .ok (.getfield 53, 3) := by decide +kernel
theorem dM_event_132 : decode cM_event 132 = .ok (.aload_n 0, 1) := by decide +kernel
theorem dM_event_133 : decode cM_event 133 = .ok (.getfield 90, 3) := by decide +kernel
theorem dM_event_136 : decode cM_event 136 = .ok (.iconst (-1), 1) := by decide +kernel
theorem dM_event_137 : decode cM_event 137 = .ok (.iastore, 1) := by decide +kernel
theorem dM_event_138 : decode cM_event 138 = .ok (.aload_n 0, 1) := by decide +kernel
theorem dM_event_139 : decode cM_event 139 = .ok (.dup, 1) := by decide +kernel
theorem dM_event_140 : decode cM_event 140 = .ok (.getfield 90, 3) := by decide +kernel
theorem dM_event_143 : decode cM_event 143 = .ok (.iconst 1, 1) := by decide +kernel
theorem dM_event_144 : decode cM_event 144 = .ok (.iadd, 1) := by decide +kernel
theorem dM_event_145 : decode cM_event 145 = .ok (.putfield 90, 3) := by decide +kernel
theorem dM_event_148 : decode cM_event 148 = .ok (.aload_n 0, 1) := by decide +kernel
theorem dM_event_149 : decode cM_event 149 = .ok (.getfield 90, 3) := by decide +kernel
theorem dM_event_152 : decode cM_event 152 = .ok (.iconst 1, 1) := by decide +kernel
theorem dM_event_153 : decode cM_event 153 = .ok (.isub, 1) := by decide +kernel
theorem dM_event_154 : decode cM_event 154 = .ok (.ireturn, 1) := by decide +kernel
theorem dM_isOfficers_0 : decode cM_isOfficers 0 = .ok (.iload_n 0, 1) := by decide +kernel
theorem dM_isOfficers_1 : decode cM_isOfficers 1 = .ok (.iconst 1, 1) := by decide +kernel
theorem dM_isOfficers_2 : decode cM_isOfficers 2 = .ok (.if_icmp .le 9, 3) := by decide +kernel
theorem dM_isOfficers_5 : decode cM_isOfficers 5 = .ok (.iload_n 0, 1) := by decide +kernel
theorem dM_isOfficers_6 : decode cM_isOfficers 6 = .ok (.bipush 6, 2) := by decide +kernel
theorem dM_isOfficers_8 : decode cM_isOfficers 8 = .ok (.if_icmp .lt 9, 3) := by decide +kernel
theorem dM_isOfficers_11 : decode cM_isOfficers 11 = .ok (.iload_n 0, 1) := by decide +kernel
theorem dM_isOfficers_12 : decode cM_isOfficers 12 = .ok (.bipush 8, 2) := by decide +kernel
theorem dM_isOfficers_14 : decode cM_isOfficers 14 = .ok (.if_icmp .ne 7, 3) := by decide +kernel
theorem dM_isOfficers_17 : decode cM_isOfficers 17 = .ok (.iconst 1, 1) := by decide +kernel
theorem dM_isOfficers_18 : decode cM_isOfficers 18 = .ok (.goto 4, 3) := by decide +kernel
theorem dM_isOfficers_21 : decode cM_isOfficers 21 = .ok (.iconst 0, 1) := by decide +kernel
theorem dM_isOfficers_22 : decode cM_isOfficers 22 = .ok (.ireturn, 1) := by decide +kernel
theorem dM_may_0 : decode cM_may 0 = .ok (.aload_n 0, 1) := by decide +kernel
theorem dM_may_1 : decode cM_may 1 = .ok (.getfield 43, 3) := by decide +kernel
theorem dM_may_4 : decode cM_may 4 = .ok (.iload_n 1, 1) := by decide +kernel
theorem dM_may_5 : decode cM_may 5 = .ok (.iaload, 1) := by decide +kernel
theorem dM_may_6 : decode cM_may 6 = .ok (.istore_n 2, 1) := by decide +kernel
theorem dM_may_7 : decode cM_may 7 = .ok (.aload_n 0, 1) := by decide +kernel
theorem dM_may_8 : decode cM_may 8 = .ok (.getfield 40, 3) := by decide +kernel
theorem dM_may_11 : decode cM_may 11 = .ok (.iload_n 1, 1) := by decide +kernel
theorem dM_may_12 : decode cM_may 12 = .ok (.iaload, 1) := by decide +kernel
theorem dM_may_13 : decode cM_may 13 = .ok (.istore_n 3, 1) := by decide +kernel
theorem dM_may_14 : decode cM_may 14 = .ok (.iload_n 3, 1) := by decide +kernel
theorem dM_may_15 : decode cM_may 15 = .ok (.invokestatic 104, 3) := by decide +kernel
theorem dM_may_18 : decode cM_may 18 = .ok (.ifCond .eq 19, 3) := by decide +kernel
theorem dM_may_21 : decode cM_may 21 = .ok (.aload_n 0, 1) := by decide +kernel
theorem dM_may_22 : decode cM_may 22 = .ok (.getfield 7, 3) := by decide +kernel
theorem dM_may_25 : decode cM_may 25 = .ok (.iload_n 2, 1) := by decide +kernel
theorem dM_may_26 : decode cM_may 26 = .ok (.iaload, 1) := by decide +kernel
theorem dM_may_27 : decode cM_may 27 = .ok (.iconst 1, 1) := by decide +kernel
theorem dM_may_28 : decode cM_may 28 = .ok (.if_icmp .ne 7, 3) := by decide +kernel
theorem dM_may_31 : decode cM_may 31 = .ok (.iconst 1, 1) := by decide +kernel
theorem dM_may_32 : decode cM_may 32 = .ok (.goto 4, 3) := by decide +kernel
theorem dM_may_35 : decode cM_may 35 = .ok (.iconst 0, 1) := by decide +kernel
theorem dM_may_36 : decode cM_may 36 = .ok (.ireturn, 1) := by decide +kernel
theorem dM_may_37 : decode cM_may 37 = .ok (.iload_n 3, 1) := by decide +kernel
theorem dM_may_38 : decode cM_may 38 = .ok (.iconst 1, 1) := by decide +kernel
theorem dM_may_39 : decode cM_may 39 = .ok (.if_icmp .ne 21, 3) := by decide +kernel
theorem dM_may_42 : decode cM_may 42 = .ok (.aload_n 0, 1) := by decide +kernel
theorem dM_may_43 : decode cM_may 43 = .ok (.getfield 7, 3) := by decide +kernel
theorem dM_may_46 : decode cM_may 46 = .ok (.iload_n 2, 1) := by decide +kernel
theorem dM_may_47 : decode cM_may 47 = .ok (.iaload, 1) := by decide +kernel
theorem dM_may_48 : decode cM_may 48 = .ok (.iconst 1, 1) := by decide +kernel
theorem dM_may_49 : decode cM_may 49 = .ok (.if_icmp .eq 7, 3) := by decide +kernel
theorem dM_may_52 : decode cM_may 52 = .ok (.iconst 1, 1) := by decide +kernel
theorem dM_may_53 : decode cM_may 53 = .ok (.goto 51, 3) := by decide +kernel
theorem dM_may_56 : decode cM_may 56 = .ok (.iconst 0, 1) := by decide +kernel
theorem dM_may_57 : decode cM_may 57 = .ok (.goto 47, 3) := by decide +kernel
theorem dM_may_60 : decode cM_may 60 = .ok (.iload_n 3, 1) := by decide +kernel
theorem dM_may_61 : decode cM_may 61 = .ok (.bipush 7, 2) := by decide +kernel
theorem dM_may_63 : decode cM_may 63 = .ok (.if_icmp .ne 21, 3) := by decide +kernel
theorem dM_may_66 : decode cM_may 66 = .ok (.aload_n 0, 1) := by decide +kernel
theorem dM_may_67 : decode cM_may 67 = .ok (.getfield 7, 3) := by decide +kernel
theorem dM_may_70 : decode cM_may 70 = .ok (.iload_n 2, 1) := by decide +kernel
theorem dM_may_71 : decode cM_may 71 = .ok (.iaload, 1) := by decide +kernel
theorem dM_may_72 : decode cM_may 72 = .ok (.iconst 2, 1) := by decide +kernel
theorem dM_may_73 : decode cM_may 73 = .ok (.if_icmp .ne 7, 3) := by decide +kernel
theorem dM_may_76 : decode cM_may 76 = .ok (.iconst 1, 1) := by decide +kernel
theorem dM_may_77 : decode cM_may 77 = .ok (.goto 27, 3) := by decide +kernel
theorem dM_may_80 : decode cM_may 80 = .ok (.iconst 0, 1) := by decide +kernel
theorem dM_may_81 : decode cM_may 81 = .ok (.goto 23, 3) := by decide +kernel
theorem dM_may_84 : decode cM_may 84 = .ok (.iload_n 2, 1) := by decide +kernel
theorem dM_may_85 : decode cM_may 85 = .ok (.aload_n 0, 1) := by decide +kernel
theorem dM_may_86 : decode cM_may 86 = .ok (.getfield 16, 3) := by decide +kernel
theorem dM_may_89 : decode cM_may 89 = .ok (.aload_n 0, 1) := by decide +kernel
theorem dM_may_90 : decode cM_may 90 = .ok (.getfield 37, 3) := by decide +kernel
theorem dM_may_93 : decode cM_may 93 = .ok (.iload_n 1, 1) := by decide +kernel
theorem dM_may_94 : decode cM_may 94 = .ok (.iaload, 1) := by decide +kernel
theorem dM_may_95 : decode cM_may 95 = .ok (.iaload, 1) := by decide +kernel
theorem dM_may_96 : decode cM_may 96 = .ok (.if_icmp .ne 7, 3) := by decide +kernel
theorem dM_may_99 : decode cM_may 99 = .ok (.iconst 1, 1) := by decide +kernel
theorem dM_may_100 : decode cM_may 100 = .ok (.goto 4, 3) := by decide +kernel
theorem dM_may_103 : decode cM_may 103 = .ok (.iconst 0, 1) := by decide +kernel
theorem dM_may_104 : decode cM_may 104 = .ok (.ireturn, 1) := by decide +kernel
theorem dM_fits_0 : decode cM_fits 0 = .ok (.aload_n 0, 1) := by decide +kernel
theorem dM_fits_1 : decode cM_fits 1 = .ok (.getfield 19, 3) := by decide +kernel
theorem dM_fits_4 : decode cM_fits 4 = .ok (.iload_n 1, 1) := by decide +kernel
theorem dM_fits_5 : decode cM_fits 5 = .ok (.iaload, 1) := by decide +kernel
theorem dM_fits_6 : decode cM_fits 6 = .ok (.istore_n 3, 1) := by decide +kernel
theorem dM_fits_7 : decode cM_fits 7 = .ok (.iload_n 2, 1) := by decide +kernel
theorem dM_fits_8 : decode cM_fits 8 = .ok (.tableswitch 151 0 8 #[52, 62, 73, 84, 95, 95, 151, 106, 126], 52) := by decide +kernel
theorem dM_fits_60 : decode cM_fits 60 = .ok (.iload_n 3, 1) := by decide +kernel
theorem dM_fits_61 : decode cM_fits 61 = .ok (.ifCond .ne 7, 3) := by decide +kernel
theorem dM_fits_64 : decode cM_fits 64 = .ok (.iconst 1, 1) := by decide +kernel
theorem dM_fits_65 : decode cM_fits 65 = .ok (.goto 4, 3) := by decide +kernel
theorem dM_fits_68 : decode cM_fits 68 = .ok (.iconst 0, 1) := by decide +kernel
theorem dM_fits_69 : decode cM_fits 69 = .ok (.ireturn, 1) := by decide +kernel
theorem dM_fits_70 : decode cM_fits 70 = .ok (.iload_n 3, 1) := by decide +kernel
theorem dM_fits_71 : decode cM_fits 71 = .ok (.iconst 3, 1) := by decide +kernel
theorem dM_fits_72 : decode cM_fits 72 = .ok (.if_icmp .ge 7, 3) := by decide +kernel
theorem dM_fits_75 : decode cM_fits 75 = .ok (.iconst 1, 1) := by decide +kernel
theorem dM_fits_76 : decode cM_fits 76 = .ok (.goto 4, 3) := by decide +kernel
theorem dM_fits_79 : decode cM_fits 79 = .ok (.iconst 0, 1) := by decide +kernel
theorem dM_fits_80 : decode cM_fits 80 = .ok (.ireturn, 1) := by decide +kernel
theorem dM_fits_81 : decode cM_fits 81 = .ok (.iload_n 3, 1) := by decide +kernel
theorem dM_fits_82 : decode cM_fits 82 = .ok (.iconst 1, 1) := by decide +kernel
theorem dM_fits_83 : decode cM_fits 83 = .ok (.if_icmp .ne 7, 3) := by decide +kernel
theorem dM_fits_86 : decode cM_fits 86 = .ok (.iconst 1, 1) := by decide +kernel
theorem dM_fits_87 : decode cM_fits 87 = .ok (.goto 4, 3) := by decide +kernel
theorem dM_fits_90 : decode cM_fits 90 = .ok (.iconst 0, 1) := by decide +kernel
theorem dM_fits_91 : decode cM_fits 91 = .ok (.ireturn, 1) := by decide +kernel
theorem dM_fits_92 : decode cM_fits 92 = .ok (.iload_n 3, 1) := by decide +kernel
theorem dM_fits_93 : decode cM_fits 93 = .ok (.iconst 2, 1) := by decide +kernel
theorem dM_fits_94 : decode cM_fits 94 = .ok (.if_icmp .ne 7, 3) := by decide +kernel
theorem dM_fits_97 : decode cM_fits 97 = .ok (.iconst 1, 1) := by decide +kernel
theorem dM_fits_98 : decode cM_fits 98 = .ok (.goto 4, 3) := by decide +kernel
theorem dM_fits_101 : decode cM_fits 101 = .ok (.iconst 0, 1) := by decide +kernel
theorem dM_fits_102 : decode cM_fits 102 = .ok (.ireturn, 1) := by decide +kernel
theorem dM_fits_103 : decode cM_fits 103 = .ok (.iload_n 3, 1) := by decide +kernel
theorem dM_fits_104 : decode cM_fits 104 = .ok (.iconst 3, 1) := by decide +kernel
theorem dM_fits_105 : decode cM_fits 105 = .ok (.if_icmp .ne 7, 3) := by decide +kernel
theorem dM_fits_108 : decode cM_fits 108 = .ok (.iconst 1, 1) := by decide +kernel
theorem dM_fits_109 : decode cM_fits 109 = .ok (.goto 4, 3) := by decide +kernel
theorem dM_fits_112 : decode cM_fits 112 = .ok (.iconst 0, 1) := by decide +kernel
theorem dM_fits_113 : decode cM_fits 113 = .ok (.ireturn, 1) := by decide +kernel
theorem dM_fits_114 : decode cM_fits 114 = .ok (.iload_n 3, 1) := by decide +kernel
theorem dM_fits_115 : decode cM_fits 115 = .ok (.iconst 4, 1) := by decide +kernel
theorem dM_fits_116 : decode cM_fits 116 = .ok (.if_icmp .ne 16, 3) := by decide +kernel
theorem dM_fits_119 : decode cM_fits 119 = .ok (.aload_n 0, 1) := by decide +kernel
theorem dM_fits_120 : decode cM_fits 120 = .ok (.getfield 13, 3) := by decide +kernel
theorem dM_fits_123 : decode cM_fits 123 = .ok (.iload_n 1, 1) := by decide +kernel
theorem dM_fits_124 : decode cM_fits 124 = .ok (.iaload, 1) := by decide +kernel
theorem dM_fits_125 : decode cM_fits 125 = .ok (.ifCond .le 7, 3) := by decide +kernel
theorem dM_fits_128 : decode cM_fits 128 = .ok (.iconst 1, 1) := by decide +kernel
theorem dM_fits_129 : decode cM_fits 129 = .ok (.goto 4, 3) := by decide +kernel
theorem dM_fits_132 : decode cM_fits 132 = .ok (.iconst 0, 1) := by decide +kernel
theorem dM_fits_133 : decode cM_fits 133 = .ok (.ireturn, 1) := by decide +kernel
theorem dM_fits_134 : decode cM_fits 134 = .ok (.iload_n 3, 1) := by decide +kernel
theorem dM_fits_135 : decode cM_fits 135 = .ok (.iconst 4, 1) := by decide +kernel
theorem dM_fits_136 : decode cM_fits 136 = .ok (.if_icmp .ne 12, 3) := by decide +kernel
theorem dM_fits_139 : decode cM_fits 139 = .ok (.aload_n 0, 1) := by decide +kernel
theorem dM_fits_140 : decode cM_fits 140 = .ok (.getfield 13, 3) := by decide +kernel
theorem dM_fits_143 : decode cM_fits 143 = .ok (.iload_n 1, 1) := by decide +kernel
theorem dM_fits_144 : decode cM_fits 144 = .ok (.iaload, 1) := by decide +kernel
theorem dM_fits_145 : decode cM_fits 145 = .ok (.ifCond .eq 8, 3) := by decide +kernel
theorem dM_fits_148 : decode cM_fits 148 = .ok (.iload_n 3, 1) := by decide +kernel
theorem dM_fits_149 : decode cM_fits 149 = .ok (.iconst 5, 1) := by decide +kernel
theorem dM_fits_150 : decode cM_fits 150 = .ok (.if_icmp .ne 7, 3) := by decide +kernel
theorem dM_fits_153 : decode cM_fits 153 = .ok (.iconst 1, 1) := by decide +kernel
theorem dM_fits_154 : decode cM_fits 154 = .ok (.goto 4, 3) := by decide +kernel
theorem dM_fits_157 : decode cM_fits 157 = .ok (.iconst 0, 1) := by decide +kernel
theorem dM_fits_158 : decode cM_fits 158 = .ok (.ireturn, 1) := by decide +kernel
theorem dM_fits_159 : decode cM_fits 159 = .ok (.iload_n 3, 1) := by decide +kernel
theorem dM_fits_160 : decode cM_fits 160 = .ok (.iconst 2, 1) := by decide +kernel
theorem dM_fits_161 : decode cM_fits 161 = .ok (.if_icmp .eq 8, 3) := by decide +kernel
theorem dM_fits_164 : decode cM_fits 164 = .ok (.iload_n 3, 1) := by decide +kernel
theorem dM_fits_165 : decode cM_fits 165 = .ok (.iconst 3, 1) := by decide +kernel
theorem dM_fits_166 : decode cM_fits 166 = .ok (.if_icmp .ne 7, 3) := by decide +kernel
theorem dM_fits_169 : decode cM_fits 169 = .ok (.iconst 1, 1) := by decide +kernel
theorem dM_fits_170 : decode cM_fits 170 = .ok (.goto 4, 3) := by decide +kernel
theorem dM_fits_173 : decode cM_fits 173 = .ok (.iconst 0, 1) := by decide +kernel
theorem dM_fits_174 : decode cM_fits 174 = .ok (.ireturn, 1) := by decide +kernel
theorem dM_has_0 : decode cM_has 0 = .ok (.aload_n 0, 1) := by decide +kernel
theorem dM_has_1 : decode cM_has 1 = .ok (.getfield 22, 3) := by decide +kernel
theorem dM_has_4 : decode cM_has 4 = .ok (.iload_n 1, 1) := by decide +kernel
theorem dM_has_5 : decode cM_has 5 = .ok (.iaload, 1) := by decide +kernel
theorem dM_has_6 : decode cM_has 6 = .ok (.iload_n 2, 1) := by decide +kernel
theorem dM_has_7 : decode cM_has 7 = .ok (.iand, 1) := by decide +kernel
theorem dM_has_8 : decode cM_has 8 = .ok (.ifCond .le 7, 3) := by decide +kernel
theorem dM_has_11 : decode cM_has 11 = .ok (.iconst 1, 1) := by decide +kernel
theorem dM_has_12 : decode cM_has 12 = .ok (.goto 4, 3) := by decide +kernel
theorem dM_has_15 : decode cM_has 15 = .ok (.iconst 0, 1) := by decide +kernel
theorem dM_has_16 : decode cM_has 16 = .ok (.ireturn, 1) := by decide +kernel
theorem dM_isMarked_0 : decode cM_isMarked 0 = .ok (.iload_n 2, 1) := by decide +kernel
theorem dM_isMarked_1 : decode cM_isMarked 1 = .ok (.iconst 1, 1) := by decide +kernel
theorem dM_isMarked_2 : decode cM_isMarked 2 = .ok (.if_icmp .ne 20, 3) := by decide +kernel
theorem dM_isMarked_5 : decode cM_isMarked 5 = .ok (.aload_n 0, 1) := by decide +kernel
theorem dM_isMarked_6 : decode cM_isMarked 6 = .ok (.iload_n 1, 1) := by decide +kernel
theorem dM_isMarked_7 : decode cM_isMarked 7 = .ok (.iconst 1, 1) := by decide +kernel
theorem dM_isMarked_8 : decode cM_isMarked 8 = .ok (.invokevirtual 107, 3) := by decide +kernel
theorem dM_isMarked_11 : decode cM_isMarked 11 = .ok (.ifCond .ne 7, 3) := by decide +kernel
theorem dM_isMarked_14 : decode cM_isMarked 14 = .ok (.iconst 1, 1) := by decide +kernel
theorem dM_isMarked_15 : decode cM_isMarked 15 = .ok (.goto 82, 3) := by decide +kernel
theorem dM_isMarked_18 : decode cM_isMarked 18 = .ok (.iconst 0, 1) := by decide +kernel
theorem dM_isMarked_19 : decode cM_isMarked 19 = .ok (.goto 78, 3) := by decide +kernel
theorem dM_isMarked_22 : decode cM_isMarked 22 = .ok (.iload_n 2, 1) := by decide +kernel
theorem dM_isMarked_23 : decode cM_isMarked 23 = .ok (.iconst 2, 1) := by decide +kernel
theorem dM_isMarked_24 : decode cM_isMarked 24 = .ok (.if_icmp .ne 30, 3) := by decide +kernel
theorem dM_isMarked_27 : decode cM_isMarked 27 = .ok (.aload_n 0, 1) := by decide +kernel
theorem dM_isMarked_28 : decode cM_isMarked 28 = .ok (.getfield 13, 3) := by decide +kernel
theorem dM_isMarked_31 : decode cM_isMarked 31 = .ok (.iload_n 1, 1) := by decide +kernel
theorem dM_isMarked_32 : decode cM_isMarked 32 = .ok (.iaload, 1) := by decide +kernel
theorem dM_isMarked_33 : decode cM_isMarked 33 = .ok (.iconst 1, 1) := by decide +kernel
theorem dM_isMarked_34 : decode cM_isMarked 34 = .ok (.if_icmp .eq 12, 3) := by decide +kernel
theorem dM_isMarked_37 : decode cM_isMarked 37 = .ok (.aload_n 0, 1) := by decide +kernel
theorem dM_isMarked_38 : decode cM_isMarked 38 = .ok (.iload_n 1, 1) := by decide +kernel
theorem dM_isMarked_39 : decode cM_isMarked 39 = .ok (.iconst 1, 1) := by decide +kernel
theorem dM_isMarked_40 : decode cM_isMarked 40 = .ok (.invokevirtual 107, 3) := by decide +kernel
theorem dM_isMarked_43 : decode cM_isMarked 43 = .ok (.ifCond .eq 7, 3) := by decide +kernel
theorem dM_isMarked_46 : decode cM_isMarked 46 = .ok (.iconst 1, 1) := by decide +kernel
theorem dM_isMarked_47 : decode cM_isMarked 47 = .ok (.goto 50, 3) := by decide +kernel
theorem dM_isMarked_50 : decode cM_isMarked 50 = .ok (.iconst 0, 1) := by decide +kernel
theorem dM_isMarked_51 : decode cM_isMarked 51 = .ok (.goto 46, 3) := by decide +kernel
theorem dM_isMarked_54 : decode cM_isMarked 54 = .ok (.iload_n 2, 1) := by decide +kernel
theorem dM_isMarked_55 : decode cM_isMarked 55 = .ok (.bipush 6, 2) := by decide +kernel
theorem dM_isMarked_57 : decode cM_isMarked 57 = .ok (.if_icmp .ne 20, 3) := by decide +kernel
theorem dM_isMarked_60 : decode cM_isMarked 60 = .ok (.aload_n 0, 1) := by decide +kernel
theorem dM_isMarked_61 : decode cM_isMarked 61 = .ok (.iload_n 1, 1) := by decide +kernel
theorem dM_isMarked_62 : decode cM_isMarked 62 = .ok (.iconst 2, 1) := by decide +kernel
theorem dM_isMarked_63 : decode cM_isMarked 63 = .ok (.invokevirtual 107, 3) := by decide +kernel
theorem dM_isMarked_66 : decode cM_isMarked 66 = .ok (.ifCond .ne 7, 3) := by decide +kernel
theorem dM_isMarked_69 : decode cM_isMarked 69 = .ok (.iconst 1, 1) := by decide +kernel
theorem dM_isMarked_70 : decode cM_isMarked 70 = .ok (.goto 27, 3) := by decide +kernel
theorem dM_isMarked_73 : decode cM_isMarked 73 = .ok (.iconst 0, 1) := by decide +kernel
theorem dM_isMarked_74 : decode cM_isMarked 74 = .ok (.goto 23, 3) := by decide +kernel
theorem dM_isMarked_77 : decode cM_isMarked 77 = .ok (.iload_n 2, 1) := by decide +kernel
theorem dM_isMarked_78 : decode cM_isMarked 78 = .ok (.bipush 9, 2) := by decide +kernel
theorem dM_isMarked_80 : decode cM_isMarked 80 = .ok (.if_icmp .ne 12, 3) := by decide +kernel
theorem dM_isMarked_83 : decode cM_isMarked 83 = .ok (.aload_n 0, 1) := by decide +kernel
theorem dM_isMarked_84 : decode cM_isMarked 84 = .ok (.iload_n 1, 1) := by decide +kernel
theorem dM_isMarked_85 : decode cM_isMarked 85 = .ok (.iconst 4, 1) := by decide +kernel
theorem dM_isMarked_86 : decode cM_isMarked 86 = .ok (.invokevirtual 107, 3) := by decide +kernel
theorem dM_isMarked_89 : decode cM_isMarked 89 = .ok (.ifCond .eq 7, 3) := by decide +kernel
theorem dM_isMarked_92 : decode cM_isMarked 92 = .ok (.iconst 1, 1) := by decide +kernel
theorem dM_isMarked_93 : decode cM_isMarked 93 = .ok (.goto 4, 3) := by decide +kernel
theorem dM_isMarked_96 : decode cM_isMarked 96 = .ok (.iconst 0, 1) := by decide +kernel
theorem dM_isMarked_97 : decode cM_isMarked 97 = .ok (.ireturn, 1) := by decide +kernel
theorem dM_why_0 : decode cM_why 0 = .ok (.aload_n 0, 1) := by decide +kernel
theorem dM_why_1 : decode cM_why 1 = .ok (.getfield 40, 3) := by decide +kernel
theorem dM_why_4 : decode cM_why 4 = .ok (.iload_n 1, 1) := by decide +kernel
theorem dM_why_5 : decode cM_why 5 = .ok (.iaload, 1) := by decide +kernel
theorem dM_why_6 : decode cM_why 6 = .ok (.istore_n 2, 1) := by decide +kernel
theorem dM_why_7 : decode cM_why 7 = .ok (.aload_n 0, 1) := by decide +kernel
theorem dM_why_8 : decode cM_why 8 = .ok (.getfield 46, 3) := by decide +kernel
theorem dM_why_11 : decode cM_why 11 = .ok (.iload_n 1, 1) := by decide +kernel
theorem dM_why_12 : decode cM_why 12 = .ok (.iaload, 1) := by decide +kernel
theorem dM_why_13 : decode cM_why 13 = .ok (.bipush 24, 2) := by decide +kernel
theorem dM_why_15 : decode cM_why 15 = .ok (.irem, 1) := by decide +kernel
theorem dM_why_16 : decode cM_why 16 = .ok (.istore_n 3, 1) := by decide +kernel
theorem dM_why_17 : decode cM_why 17 = .ok (.aload_n 0, 1) := by decide +kernel
theorem dM_why_18 : decode cM_why 18 = .ok (.getfield 66, 3) := by decide +kernel
theorem dM_why_21 : decode cM_why 21 = .ok (.iload_n 2, 1) := by decide +kernel
theorem dM_why_22 : decode cM_why 22 = .ok (.baload, 1) := by decide +kernel
theorem dM_why_23 : decode cM_why 23 = .ok (.ifCond .eq 12, 3) := by decide +kernel
theorem dM_why_26 : decode cM_why 26 = .ok (.aload_n 0, 1) := by decide +kernel
theorem dM_why_27 : decode cM_why 27 = .ok (.getfield 66, 3) := by decide +kernel
theorem dM_why_30 : decode cM_why 30 = .ok (.iload_n 2, 1) := by decide +kernel
theorem dM_why_31 : decode cM_why 31 = .ok (.iconst 0, 1) := by decide +kernel
theorem dM_why_32 : decode cM_why 32 = .ok (.bastore, 1) := by decide +kernel
theorem dM_why_33 : decode cM_why 33 = .ok (.iconst 1, 1) := by decide +kernel
theorem dM_why_34 : decode cM_why 34 = .ok (.ireturn, 1) := by decide +kernel
theorem dM_why_35 : decode cM_why 35 = .ok (.aload_n 0, 1) := by decide +kernel
theorem dM_why_36 : decode cM_why 36 = .ok (.iload_n 1, 1) := by decide +kernel
theorem dM_why_37 : decode cM_why 37 = .ok (.invokevirtual 111, 3) := by decide +kernel
theorem dM_why_40 : decode cM_why 40 = .ok (.ifCond .ne 5, 3) := by decide +kernel
theorem dM_why_43 : decode cM_why 43 = .ok (.iconst 2, 1) := by decide +kernel
theorem dM_why_44 : decode cM_why 44 = .ok (.ireturn, 1) := by decide +kernel
theorem dM_why_45 : decode cM_why 45 = .ok (.iload_n 2, 1) := by decide +kernel
theorem dM_why_46 : decode cM_why 46 = .ok (.invokestatic 104, 3) := by decide +kernel
theorem dM_why_49 : decode cM_why 49 = .ok (.ifCond .eq 21, 3) := by decide +kernel
theorem dM_why_52 : decode cM_why 52 = .ok (.iload_n 3, 1) := by decide +kernel
theorem dM_why_53 : decode cM_why 53 = .ok (.aload_n 0, 1) := by decide +kernel
theorem dM_why_54 : decode cM_why 54 = .ok (.getfield 59, 3) := by decide +kernel
theorem dM_why_57 : decode cM_why 57 = .ok (.if_icmp .lt 11, 3) := by decide +kernel
theorem dM_why_60 : decode cM_why 60 = .ok (.iload_n 3, 1) := by decide +kernel
theorem dM_why_61 : decode cM_why 61 = .ok (.aload_n 0, 1) := by decide +kernel
theorem dM_why_62 : decode cM_why 62 = .ok (.getfield 63, 3) := by decide +kernel
theorem dM_why_65 : decode cM_why 65 = .ok (.if_icmp .lt 5, 3) := by decide +kernel
theorem dM_why_68 : decode cM_why 68 = .ok (.iconst 3, 1) := by decide +kernel
theorem dM_why_69 : decode cM_why 69 = .ok (.ireturn, 1) := by decide +kernel
theorem dM_why_70 : decode cM_why 70 = .ok (.aload_n 0, 1) := by decide +kernel
theorem dM_why_71 : decode cM_why 71 = .ok (.aload_n 0, 1) := by decide +kernel
theorem dM_why_72 : decode cM_why 72 = .ok (.getfield 37, 3) := by decide +kernel
theorem dM_why_75 : decode cM_why 75 = .ok (.iload_n 1, 1) := by decide +kernel
theorem dM_why_76 : decode cM_why 76 = .ok (.iaload, 1) := by decide +kernel
theorem dM_why_77 : decode cM_why 77 = .ok (.iload_n 2, 1) := by decide +kernel
theorem dM_why_78 : decode cM_why 78 = .ok (.invokevirtual 114, 3) := by decide +kernel
theorem dM_why_81 : decode cM_why 81 = .ok (.ifCond .ne 7, 3) := by decide +kernel
theorem dM_why_84 : decode cM_why 84 = .ok (.iconst 4, 1) := by decide +kernel
theorem dM_why_85 : decode cM_why 85 = .ok (.goto 22, 3) := by decide +kernel
theorem dM_why_88 : decode cM_why 88 = .ok (.aload_n 0, 1) := by decide +kernel
theorem dM_why_89 : decode cM_why 89 = .ok (.aload_n 0, 1) := by decide +kernel
theorem dM_why_90 : decode cM_why 90 = .ok (.getfield 37, 3) := by decide +kernel
theorem dM_why_93 : decode cM_why 93 = .ok (.iload_n 1, 1) := by decide +kernel
theorem dM_why_94 : decode cM_why 94 = .ok (.iaload, 1) := by decide +kernel
theorem dM_why_95 : decode cM_why 95 = .ok (.iload_n 2, 1) := by decide +kernel
theorem dM_why_96 : decode cM_why 96 = .ok (.invokevirtual 117, 3) := by decide +kernel
theorem dM_why_99 : decode cM_why 99 = .ok (.ifCond .ne 7, 3) := by decide +kernel
theorem dM_why_102 : decode cM_why 102 = .ok (.iconst 5, 1) := by decide +kernel
theorem dM_why_103 : decode cM_why 103 = .ok (.goto 4, 3) := by decide +kernel
theorem dM_why_106 : decode cM_why 106 = .ok (.iconst 0, 1) := by decide +kernel
theorem dM_why_107 : decode cM_why 107 = .ok (.ireturn, 1) := by decide +kernel
theorem dM_becomes_0 : decode cM_becomes 0 = .ok (.aload_n 0, 1) := by decide +kernel
theorem dM_becomes_1 : decode cM_becomes 1 = .ok (.getfield 19, 3) := by decide +kernel
theorem dM_becomes_4 : decode cM_becomes 4 = .ok (.iload_n 1, 1) := by decide +kernel
theorem dM_becomes_5 : decode cM_becomes 5 = .ok (.iaload, 1) := by decide +kernel
theorem dM_becomes_6 : decode cM_becomes 6 = .ok (.iload_n 2, 1) := by decide +kernel
theorem dM_becomes_7 : decode cM_becomes 7 = .ok (.if_icmp .eq 24, 3) := by decide +kernel
theorem dM_becomes_10 : decode cM_becomes 10 = .ok (.aload_n 0, 1) := by decide +kernel
theorem dM_becomes_11 : decode cM_becomes 11 = .ok (.getfield 19, 3) := by decide +kernel
theorem dM_becomes_14 : decode cM_becomes 14 = .ok (.iload_n 1, 1) := by decide +kernel
theorem dM_becomes_15 : decode cM_becomes 15 = .ok (.iload_n 2, 1) := by decide +kernel
theorem dM_becomes_16 : decode cM_becomes 16 = .ok (.iastore, 1) := by decide +kernel
theorem dM_becomes_17 : decode cM_becomes 17 = .ok (.aload_n 0, 1) := by decide +kernel
theorem dM_becomes_18 : decode cM_becomes 18 = .ok (.getfield 28, 3) := by decide +kernel
theorem dM_becomes_21 : decode cM_becomes 21 = .ok (.iload_n 1, 1) := by decide +kernel
theorem dM_becomes_22 : decode cM_becomes 22 = .ok (.iload_n 3, 1) := by decide +kernel
theorem dM_becomes_23 : decode cM_becomes 23 = .ok (.iastore, 1) := by decide +kernel
theorem dM_becomes_24 : decode cM_becomes 24 = .ok (.aload_n 0, 1) := by decide +kernel
theorem dM_becomes_25 : decode cM_becomes 25 = .ok (.getfield 31, 3) := by decide +kernel
theorem dM_becomes_28 : decode cM_becomes 28 = .ok (.iload_n 1, 1) := by decide +kernel
theorem dM_becomes_29 : decode cM_becomes 29 = .ok (.iconst (-1), 1) := by decide +kernel
theorem dM_becomes_30 : decode cM_becomes 30 = .ok (.iastore, 1) := by decide +kernel
theorem dM_becomes_31 : decode cM_becomes 31 = .ok (.return_, 1) := by decide +kernel
theorem dM_release_0 : decode cM_release 0 = .ok (.aload_n 0, 1) := by decide +kernel
theorem dM_release_1 : decode cM_release 1 = .ok (.getfield 19, 3) := by decide +kernel
theorem dM_release_4 : decode cM_release 4 = .ok (.iload_n 1, 1) := by decide +kernel
theorem dM_release_5 : decode cM_release 5 = .ok (.iaload, 1) := by decide +kernel
theorem dM_release_6 : decode cM_release 6 = .ok (.iconst 2, 1) := by decide +kernel
theorem dM_release_7 : decode cM_release 7 = .ok (.if_icmp .ne 55, 3) := by decide +kernel
theorem dM_release_10 : decode cM_release 10 = .ok (.aload_n 0, 1) := by decide +kernel
theorem dM_release_11 : decode cM_release 11 = .ok (.getfield 25, 3) := by decide +kernel
theorem dM_release_14 : decode cM_release 14 = .ok (.iload_n 1, 1) := by decide +kernel
theorem dM_release_15 : decode cM_release 15 = .ok (.iaload, 1) := by decide +kernel
theorem dM_release_16 : decode cM_release 16 = .ok (.ifCond .ne 46, 3) := by decide +kernel
theorem dM_release_19 : decode cM_release 19 = .ok (.aload_n 0, 1) := by decide +kernel
theorem dM_release_20 : decode cM_release 20 = .ok (.iload_n 1, 1) := by decide +kernel
theorem dM_release_21 : decode cM_release 21 = .ok (.iconst 4, 1) := by decide +kernel
theorem dM_release_22 : decode cM_release 22 = .ok (.invokevirtual 107, 3) := by decide +kernel
theorem dM_release_25 : decode cM_release 25 = .ok (.ifCond .ne 37, 3) := by decide +kernel
theorem dM_release_28 : decode cM_release 28 = .ok (.aload_n 0, 1) := by decide +kernel
theorem dM_release_29 : decode cM_release 29 = .ok (.iload_n 1, 1) := by decide +kernel
theorem dM_release_30 : decode cM_release 30 = .ok (.iconst 1, 1) := by decide +kernel
theorem dM_release_31 : decode cM_release 31 = .ok (.invokevirtual 107, 3) := by decide +kernel
theorem dM_release_34 : decode cM_release 34 = .ok (.ifCond .eq 28, 3) := by decide +kernel
theorem dM_release_37 : decode cM_release 37 = .ok (.aload_n 0, 1) := by decide +kernel
theorem dM_release_38 : decode cM_release 38 = .ok (.getfield 13, 3) := by decide +kernel
theorem dM_release_41 : decode cM_release 41 = .ok (.iload_n 1, 1) := by decide +kernel
theorem dM_release_42 : decode cM_release 42 = .ok (.iaload, 1) := by decide +kernel
theorem dM_release_43 : decode cM_release 43 = .ok (.ifCond .gt 12, 3) := by decide +kernel
theorem dM_release_46 : decode cM_release 46 = .ok (.aload_n 0, 1) := by decide +kernel
theorem dM_release_47 : decode cM_release 47 = .ok (.iload_n 1, 1) := by decide +kernel
theorem dM_release_48 : decode cM_release 48 = .ok (.iconst 2, 1) := by decide +kernel
theorem dM_release_49 : decode cM_release 49 = .ok (.invokevirtual 107, 3) := by decide +kernel
theorem dM_release_52 : decode cM_release 52 = .ok (.ifCond .eq 10, 3) := by decide +kernel
theorem dM_release_55 : decode cM_release 55 = .ok (.aload_n 0, 1) := by decide +kernel
theorem dM_release_56 : decode cM_release 56 = .ok (.iload_n 1, 1) := by decide +kernel
theorem dM_release_57 : decode cM_release 57 = .ok (.iconst 4, 1) := by decide +kernel
theorem dM_release_58 : decode cM_release 58 = .ok (.iload_n 2, 1) := by decide +kernel
theorem dM_release_59 : decode cM_release 59 = .ok (.invokevirtual 120, 3) := by decide +kernel
theorem dM_release_62 : decode cM_release 62 = .ok (.return_, 1) := by decide +kernel
theorem dM_happens_0 : decode cM_happens 0 = .ok (.aload_n 0, 1) := by decide +kernel
theorem dM_happens_1 : decode cM_happens 1 = .ok (.getfield 19, 3) := by decide +kernel
theorem dM_happens_4 : decode cM_happens 4 = .ok (.iload_n 1, 1) := by decide +kernel
theorem dM_happens_5 : decode cM_happens 5 = .ok (.iaload, 1) := by decide +kernel
theorem dM_happens_6 : decode cM_happens 6 = .ok (.istore 4, 2) := by decide +kernel
theorem dM_happens_8 : decode cM_happens 8 = .ok (.aload_n 0, 1) := by decide +kernel
theorem dM_happens_9 : decode cM_happens 9 = .ok (.getfield 22, 3) := by decide +kernel
theorem dM_happens_12 : decode cM_happens 12 = .ok (.iload_n 1, 1) := by decide +kernel
theorem dM_happens_13 : decode cM_happens 13 = .ok (.dup2, 1) := by decide +kernel
theorem dM_happens_14 : decode cM_happens 14 = .ok (.iaload, 1) := by decide +kernel
theorem dM_happens_15 : decode cM_happens 15 = .ok (.iload_n 2, 1) := by decide +kernel
theorem dM_happens_16 : decode cM_happens 16 = .ok (.iconst 1, 1) := by decide +kernel
theorem dM_happens_17 : decode cM_happens 17 = .ok (.if_icmp .ne 7, 3) := by decide +kernel
theorem dM_happens_20 : decode cM_happens 20 = .ok (.iconst 1, 1) := by decide +kernel
theorem dM_happens_21 : decode cM_happens 21 = .ok (.goto 23, 3) := by decide +kernel
theorem dM_happens_24 : decode cM_happens 24 = .ok (.iload_n 2, 1) := by decide +kernel
theorem dM_happens_25 : decode cM_happens 25 = .ok (.bipush 6, 2) := by decide +kernel
theorem dM_happens_27 : decode cM_happens 27 = .ok (.if_icmp .ne 7, 3) := by decide +kernel
theorem dM_happens_30 : decode cM_happens 30 = .ok (.iconst 2, 1) := by decide +kernel
theorem dM_happens_31 : decode cM_happens 31 = .ok (.goto 13, 3) := by decide +kernel
theorem dM_happens_34 : decode cM_happens 34 = .ok (.iload_n 2, 1) := by decide +kernel
theorem dM_happens_35 : decode cM_happens 35 = .ok (.iconst 5, 1) := by decide +kernel
theorem dM_happens_36 : decode cM_happens 36 = .ok (.if_icmp .ne 7, 3) := by decide +kernel
theorem dM_happens_39 : decode cM_happens 39 = .ok (.iconst 4, 1) := by decide +kernel
theorem dM_happens_40 : decode cM_happens 40 = .ok (.goto 4, 3) := by decide +kernel
theorem dM_happens_43 : decode cM_happens 43 = .ok (.iconst 0, 1) := by decide +kernel
theorem dM_happens_44 : decode cM_happens 44 = .ok (.ior, 1) := by decide +kernel
theorem dM_happens_45 : decode cM_happens 45 = .ok (.iastore, 1) := by decide +kernel
theorem dM_happens_46 : decode cM_happens 46 = .ok (.aload_n 0, 1) := by decide +kernel
theorem dM_happens_47 : decode cM_happens 47 = .ok (.getfield 22, 3) := by decide +kernel
theorem dM_happens_50 : decode cM_happens 50 = .ok (.iload_n 1, 1) := by decide +kernel
theorem dM_happens_51 : decode cM_happens 51 = .ok (.dup2, 1) := by decide +kernel
theorem dM_happens_52 : decode cM_happens 52 = .ok (.iaload, 1) := by decide +kernel
theorem dM_happens_53 : decode cM_happens 53 = .ok (.iload_n 2, 1) := by decide +kernel
theorem dM_happens_54 : decode cM_happens 54 = .ok (.bipush 9, 2) := by decide +kernel
theorem dM_happens_56 : decode cM_happens 56 = .ok (.if_icmp .ne 7, 3) := by decide +kernel
theorem dM_happens_59 : decode cM_happens 59 = .ok (.iconst 4, 1) := by decide +kernel
theorem dM_happens_60 : decode cM_happens 60 = .ok (.goto 4, 3) := by decide +kernel
theorem dM_happens_63 : decode cM_happens 63 = .ok (.iconst 0, 1) := by decide +kernel
theorem dM_happens_64 : decode cM_happens 64 = .ok (.isub, 1) := by decide +kernel
theorem dM_happens_65 : decode cM_happens 65 = .ok (.iastore, 1) := by decide +kernel
theorem dM_happens_66 : decode cM_happens 66 = .ok (.iload_n 2, 1) := by decide +kernel
theorem dM_happens_67 : decode cM_happens 67 = .ok (.ifCond .ne 7, 3) := by decide +kernel
theorem dM_happens_70 : decode cM_happens 70 = .ok (.iconst 1, 1) := by decide +kernel
theorem dM_happens_71 : decode cM_happens 71 = .ok (.goto 54, 3) := by decide +kernel
theorem dM_happens_74 : decode cM_happens 74 = .ok (.iload_n 2, 1) := by decide +kernel
theorem dM_happens_75 : decode cM_happens 75 = .ok (.iconst 2, 1) := by decide +kernel
theorem dM_happens_76 : decode cM_happens 76 = .ok (.if_icmp .eq 13, 3) := by decide +kernel
theorem dM_happens_79 : decode cM_happens 79 = .ok (.iload_n 2, 1) := by decide +kernel
theorem dM_happens_80 : decode cM_happens 80 = .ok (.iconst 4, 1) := by decide +kernel
theorem dM_happens_81 : decode cM_happens 81 = .ok (.if_icmp .eq 8, 3) := by decide +kernel
theorem dM_happens_84 : decode cM_happens 84 = .ok (.iload_n 2, 1) := by decide +kernel
theorem dM_happens_85 : decode cM_happens 85 = .ok (.iconst 5, 1) := by decide +kernel
theorem dM_happens_86 : decode cM_happens 86 = .ok (.if_icmp .ne 7, 3) := by decide +kernel
theorem dM_happens_89 : decode cM_happens 89 = .ok (.iconst 2, 1) := by decide +kernel
theorem dM_happens_90 : decode cM_happens 90 = .ok (.goto 35, 3) := by decide +kernel
theorem dM_happens_93 : decode cM_happens 93 = .ok (.iload_n 2, 1) := by decide +kernel
theorem dM_happens_94 : decode cM_happens 94 = .ok (.iconst 3, 1) := by decide +kernel
theorem dM_happens_95 : decode cM_happens 95 = .ok (.if_icmp .ne 7, 3) := by decide +kernel
theorem dM_happens_98 : decode cM_happens 98 = .ok (.iconst 3, 1) := by decide +kernel
theorem dM_happens_99 : decode cM_happens 99 = .ok (.goto 26, 3) := by decide +kernel
theorem dM_happens_102 : decode cM_happens 102 = .ok (.iload_n 2, 1) := by decide +kernel
theorem dM_happens_103 : decode cM_happens 103 = .ok (.bipush 7, 2) := by decide +kernel
theorem dM_happens_105 : decode cM_happens 105 = .ok (.if_icmp .ne 7, 3) := by decide +kernel
theorem dM_happens_108 : decode cM_happens 108 = .ok (.iconst 5, 1) := by decide +kernel
theorem dM_happens_109 : decode cM_happens 109 = .ok (.goto 16, 3) := by decide +kernel
theorem dM_happens_112 : decode cM_happens 112 = .ok (.iload_n 2, 1) := by decide +kernel
theorem dM_happens_113 : decode cM_happens 113 = .ok (.bipush 8, 2) := by decide +kernel
theorem dM_happens_115 : decode cM_happens 115 = .ok (.if_icmp .ne 8, 3) := by decide +kernel
theorem dM_happens_118 : decode cM_happens 118 = .ok (.bipush 7, 2) := by decide +kernel
theorem dM_happens_120 : decode cM_happens 120 = .ok (.goto 5, 3) := by decide +kernel
theorem dM_happens_123 : decode cM_happens 123 = .ok (.iload 4, 2) := by decide +kernel
theorem dM_happens_125 : decode cM_happens 125 = .ok (.istore 5, 2) := by decide +kernel
theorem dM_happens_127 : decode cM_happens 127 = .ok (.aload_n 0, 1) := by decide +kernel
theorem dM_happens_128 : decode cM_happens 128 = .ok (.iload_n 1, 1) := by decide +kernel
theorem dM_happens_129 : decode cM_happens 129 = .ok (.iload 5, 2) := by decide +kernel
theorem dM_happens_131 : decode cM_happens 131 = .ok (.iload_n 3, 1) := by decide +kernel
theorem dM_happens_132 : decode cM_happens 132 = .ok (.invokevirtual 120, 3) := by decide +kernel
theorem dM_happens_135 : decode cM_happens 135 = .ok (.aload_n 0, 1) := by decide +kernel
theorem dM_happens_136 : decode cM_happens 136 = .ok (.iload_n 1, 1) := by decide +kernel
theorem dM_happens_137 : decode cM_happens 137 = .ok (.iload_n 3, 1) := by decide +kernel
theorem dM_happens_138 : decode cM_happens 138 = .ok (.invokevirtual 124, 3) := by decide +kernel
theorem dM_happens_141 : decode cM_happens 141 = .ok (.return_, 1) := by decide +kernel
theorem dM_first_0 : decode cM_first 0 = .ok (.iconst (-1), 1) := by decide +kernel
theorem dM_first_1 : decode cM_first 1 = .ok (.istore_n 2, 1) := by decide +kernel
theorem dM_first_2 : decode cM_first 2 = .ok (.iconst 0, 1) := by decide +kernel
theorem dM_first_3 : decode cM_first 3 = .ok (.istore_n 3, 1) := by decide +kernel
theorem dM_first_4 : decode cM_first 4 = .ok (.iload_n 3, 1) := by decide +kernel
theorem dM_first_5 : decode cM_first 5 = .ok (.aload_n 0, 1) := by decide +kernel
theorem dM_first_6 : decode cM_first 6 = .ok (.getfield 90, 3) := by decide +kernel
theorem dM_first_9 : decode cM_first 9 = .ok (.if_icmp .ge 109, 3) := by decide +kernel
theorem dM_first_12 : decode cM_first 12 = .ok (.iload_n 2, 1) := by decide +kernel
theorem dM_first_13 : decode cM_first 13 = .ok (.ifCond .ge 7, 3) := by decide +kernel
theorem dM_first_16 : decode cM_first 16 = .ok (.iload_n 3, 1) := by decide +kernel
theorem dM_first_17 : decode cM_first 17 = .ok (.goto 4, 3) := by decide +kernel
theorem dM_first_20 : decode cM_first 20 = .ok (.iload_n 2, 1) := by decide +kernel
theorem dM_first_21 : decode cM_first 21 = .ok (.istore 4, 2) := by decide +kernel
theorem dM_first_23 : decode cM_first 23 = .ok (.iload_n 2, 1) := by decide +kernel
theorem dM_first_24 : decode cM_first 24 = .ok (.ifCond .lt 51, 3) := by decide +kernel
theorem dM_first_27 : decode cM_first 27 = .ok (.aload_n 0, 1) := by decide +kernel
theorem dM_first_28 : decode cM_first 28 = .ok (.getfield 46, 3) := by decide +kernel
theorem dM_first_31 : decode cM_first 31 = .ok (.iload_n 3, 1) := by decide +kernel
theorem dM_first_32 : decode cM_first 32 = .ok (.iaload, 1) := by decide +kernel
theorem dM_first_33 : decode cM_first 33 = .ok (.aload_n 0, 1) := by decide +kernel
theorem dM_first_34 : decode cM_first 34 = .ok (.getfield 46, 3) := by decide +kernel
theorem dM_first_37 : decode cM_first 37 = .ok (.iload 4, 2) := by decide +kernel
theorem dM_first_39 : decode cM_first 39 = .ok (.iaload, 1) := by decide +kernel
theorem dM_first_40 : decode cM_first 40 = .ok (.if_icmp .lt 35, 3) := by decide +kernel
theorem dM_first_43 : decode cM_first 43 = .ok (.aload_n 0, 1) := by decide +kernel
theorem dM_first_44 : decode cM_first 44 = .ok (.getfield 46, 3) := by decide +kernel
theorem dM_first_47 : decode cM_first 47 = .ok (.iload_n 3, 1) := by decide +kernel
theorem dM_first_48 : decode cM_first 48 = .ok (.iaload, 1) := by decide +kernel
theorem dM_first_49 : decode cM_first 49 = .ok (.aload_n 0, 1) := by decide +kernel
theorem dM_first_50 : decode cM_first 50 = .ok (.getfield 46, 3) := by decide +kernel
theorem dM_first_53 : decode cM_first 53 = .ok (.iload 4, 2) := by decide +kernel
theorem dM_first_55 : decode cM_first 55 = .ok (.iaload, 1) := by decide +kernel
theorem dM_first_56 : decode cM_first 56 = .ok (.if_icmp .ne 23, 3) := by decide +kernel
theorem dM_first_59 : decode cM_first 59 = .ok (.aload_n 0, 1) := by decide +kernel
theorem dM_first_60 : decode cM_first 60 = .ok (.getfield 40, 3) := by decide +kernel
theorem dM_first_63 : decode cM_first 63 = .ok (.iload_n 3, 1) := by decide +kernel
theorem dM_first_64 : decode cM_first 64 = .ok (.iaload, 1) := by decide +kernel
theorem dM_first_65 : decode cM_first 65 = .ok (.aload_n 0, 1) := by decide +kernel
theorem dM_first_66 : decode cM_first 66 = .ok (.getfield 40, 3) := by decide +kernel
theorem dM_first_69 : decode cM_first 69 = .ok (.iload 4, 2) := by decide +kernel
theorem dM_first_71 : decode cM_first 71 = .ok (.iaload, 1) := by decide +kernel
theorem dM_first_72 : decode cM_first 72 = .ok (.if_icmp .ge 7, 3) := by decide +kernel
theorem dM_first_75 : decode cM_first 75 = .ok (.iconst 1, 1) := by decide +kernel
theorem dM_first_76 : decode cM_first 76 = .ok (.goto 4, 3) := by decide +kernel
theorem dM_first_79 : decode cM_first 79 = .ok (.iconst 0, 1) := by decide +kernel
theorem dM_first_80 : decode cM_first 80 = .ok (.istore 5, 2) := by decide +kernel
theorem dM_first_82 : decode cM_first 82 = .ok (.aload_n 0, 1) := by decide +kernel
theorem dM_first_83 : decode cM_first 83 = .ok (.getfield 49, 3) := by decide +kernel
theorem dM_first_86 : decode cM_first 86 = .ok (.iload_n 3, 1) := by decide +kernel
theorem dM_first_87 : decode cM_first 87 = .ok (.baload, 1) := by decide +kernel
theorem dM_first_88 : decode cM_first 88 = .ok (.ifCond .eq 22, 3) := by decide +kernel
theorem dM_first_91 : decode cM_first 91 = .ok (.aload_n 0, 1) := by decide +kernel
theorem dM_first_92 : decode cM_first 92 = .ok (.getfield 46, 3) := by decide +kernel
theorem dM_first_95 : decode cM_first 95 = .ok (.iload_n 3, 1) := by decide +kernel
theorem dM_first_96 : decode cM_first 96 = .ok (.iaload, 1) := by decide +kernel
theorem dM_first_97 : decode cM_first 97 = .ok (.iload_n 1, 1) := by decide +kernel
theorem dM_first_98 : decode cM_first 98 = .ok (.if_icmp .gt 12, 3) := by decide +kernel
theorem dM_first_101 : decode cM_first 101 = .ok (.iload 5, 2) := by decide +kernel
theorem dM_first_103 : decode cM_first 103 = .ok (.ifCond .eq 7, 3) := by decide +kernel
theorem dM_first_106 : decode cM_first 106 = .ok (.iload_n 3, 1) := by decide +kernel
theorem dM_first_107 : decode cM_first 107 = .ok (.goto 4, 3) := by decide +kernel
theorem dM_first_110 : decode cM_first 110 = .ok (.iload_n 2, 1) := by decide +kernel
theorem dM_first_111 : decode cM_first 111 = .ok (.istore_n 2, 1) := by decide +kernel
theorem dM_first_112 : decode cM_first 112 = .ok (.iinc 3 1, 3) := by decide +kernel
theorem dM_first_115 : decode cM_first 115 = .ok (.goto (-111), 3) := by decide +kernel
theorem dM_first_118 : decode cM_first 118 = .ok (.iload_n 2, 1) := by decide +kernel
theorem dM_first_119 : decode cM_first 119 = .ok (.ireturn, 1) := by decide +kernel
theorem dM_tick_0 : decode cM_tick 0 = .ok (.iload_n 1, 1) := by decide +kernel
theorem dM_tick_1 : decode cM_tick 1 = .ok (.aload_n 0, 1) := by decide +kernel
theorem dM_tick_2 : decode cM_tick 2 = .ok (.getfield 96, 3) := by decide +kernel
theorem dM_tick_5 : decode cM_tick 5 = .ok (.ldc 99, 2) := by decide +kernel
theorem dM_tick_7 : decode cM_tick 7 = .ok (.invokestatic 78, 3) := by decide +kernel
theorem dM_tick_10 : decode cM_tick 10 = .ok (.ifCond .ne 9, 3) := by decide +kernel
theorem dM_tick_13 : decode cM_tick 13 = .ok (.aload_n 0, 1) := by decide +kernel
theorem dM_tick_14 : decode cM_tick 14 = .ok (.iconst 1, 1) := by decide +kernel
theorem dM_tick_15 : decode cM_tick 15 = .ok (.invokevirtual 82, 3) := by decide +kernel
theorem dM_tick_18 : decode cM_tick 18 = .ok (.ireturn, 1) := by decide +kernel
theorem dM_tick_19 : decode cM_tick 19 = .ok (.aload_n 0, 1) := by decide +kernel
theorem dM_tick_20 : decode cM_tick 20 = .ok (.iconst 0, 1) := by decide +kernel
theorem dM_tick_21 : decode cM_tick 21 = .ok (.putfield 69, 3) := by decide +kernel
theorem dM_tick_24 : decode cM_tick 24 = .ok (.iconst 0, 1) := by decide +kernel
theorem dM_tick_25 : decode cM_tick 25 = .ok (.istore_n 2, 1) := by decide +kernel
theorem dM_tick_26 : decode cM_tick 26 = .ok (.aload_n 0, 1) := by decide +kernel
theorem dM_tick_27 : decode cM_tick 27 = .ok (.iload_n 1, 1) := by decide +kernel
theorem dM_tick_28 : decode cM_tick 28 = .ok (.invokevirtual 128, 3) := by decide +kernel
theorem dM_tick_31 : decode cM_tick 31 = .ok (.istore_n 3, 1) := by decide +kernel
theorem dM_tick_32 : decode cM_tick 32 = .ok (.iload_n 3, 1) := by decide +kernel
theorem dM_tick_33 : decode cM_tick 33 = .ok (.ifCond .lt 105, 3) := by decide +kernel
theorem dM_tick_36 : decode cM_tick 36 = .ok (.aload_n 0, 1) := by decide +kernel
theorem dM_tick_37 : decode cM_tick 37 = .ok (.iload_n 3, 1) := by decide +kernel
theorem dM_tick_38 : decode cM_tick 38 = .ok (.invokevirtual 131, 3) := by decide +kernel
theorem dM_tick_41 : decode cM_tick 41 = .ok (.istore 4, 2) := by decide +kernel
theorem dM_tick_43 : decode cM_tick 43 = .ok (.iload 4, 2) := by decide +kernel
theorem dM_tick_45 : decode cM_tick 45 = .ok (.ifCond .ne 25, 3) := by decide +kernel
theorem dM_tick_48 : decode cM_tick 48 = .ok (.aload_n 0, 1) := by decide +kernel
theorem dM_tick_49 : decode cM_tick 49 = .ok (.aload_n 0, 1) := by decide +kernel
theorem dM_tick_50 : decode cM_tick 50 = .ok (.getfield 37, 3) := by decide +kernel
theorem dM_tick_53 : decode cM_tick 53 = .ok (.iload_n 3, 1) := by decide +kernel
theorem dM_tick_54 : decode cM_tick 54 = .ok (.iaload, 1) := by decide +kernel
theorem dM_tick_55 : decode cM_tick 55 = .ok (.aload_n 0, 1) := by decide +kernel
theorem dM_tick_56 : decode cM_tick 56 = .ok (.getfield 40, 3) := by decide +kernel
theorem dM_tick_59 : decode cM_tick 59 = .ok (.iload_n 3, 1) := by decide +kernel
theorem dM_tick_60 : decode cM_tick 60 = .ok (.iaload, 1) := by decide +kernel
theorem dM_tick_61 : decode cM_tick 61 = .ok (.aload_n 0, 1) := by decide +kernel
theorem dM_tick_62 : decode cM_tick 62 = .ok (.getfield 46, 3) := by decide +kernel
theorem dM_tick_65 : decode cM_tick 65 = .ok (.iload_n 3, 1) := by decide +kernel
theorem dM_tick_66 : decode cM_tick 66 = .ok (.iaload, 1) := by decide +kernel
theorem dM_tick_67 : decode cM_tick 67 = .ok (.invokevirtual 134, 3) := by decide +kernel
theorem dM_tick_70 : decode cM_tick 70 = .ok (.aload_n 0, 1) := by decide +kernel
theorem dM_tick_71 : decode cM_tick 71 = .ok (.getfield 49, 3) := by decide +kernel
theorem dM_tick_74 : decode cM_tick 74 = .ok (.iload_n 3, 1) := by decide +kernel
theorem dM_tick_75 : decode cM_tick 75 = .ok (.iconst 0, 1) := by decide +kernel
theorem dM_tick_76 : decode cM_tick 76 = .ok (.bastore, 1) := by decide +kernel
theorem dM_tick_77 : decode cM_tick 77 = .ok (.aload_n 0, 1) := by decide +kernel
theorem dM_tick_78 : decode cM_tick 78 = .ok (.getfield 53, 3) := by decide +kernel
theorem dM_tick_81 : decode cM_tick 81 = .ok (.iload_n 3, 1) := by decide +kernel
theorem dM_tick_82 : decode cM_tick 82 = .ok (.iload 4, 2) := by decide +kernel
theorem dM_tick_84 : decode cM_tick 84 = .ok (.ifCond .le 10, 3) := by decide +kernel
theorem dM_tick_87 : decode cM_tick 87 = .ok (.iconst (-1), 1) := by decide +kernel
theorem dM_tick_88 : decode cM_tick 88 = .ok (.iload 4, 2) := by decide +kernel
theorem dM_tick_90 : decode cM_tick 90 = .ok (.isub, 1) := by decide +kernel
theorem dM_tick_91 : decode cM_tick 91 = .ok (.goto 14, 3) := by decide +kernel
theorem dM_tick_94 : decode cM_tick 94 = .ok (.aload_n 0, 1) := by decide +kernel
theorem dM_tick_95 : decode cM_tick 95 = .ok (.getfield 19, 3) := by decide +kernel
theorem dM_tick_98 : decode cM_tick 98 = .ok (.aload_n 0, 1) := by decide +kernel
theorem dM_tick_99 : decode cM_tick 99 = .ok (.getfield 37, 3) := by decide +kernel
theorem dM_tick_102 : decode cM_tick 102 = .ok (.iload_n 3, 1) := by decide +kernel
theorem dM_tick_103 : decode cM_tick 103 = .ok (.iaload, 1) := by decide +kernel
theorem dM_tick_104 : decode cM_tick 104 = .ok (.iaload, 1) := by decide +kernel
theorem dM_tick_105 : decode cM_tick 105 = .ok (.iastore, 1) := by decide +kernel
theorem dM_tick_106 : decode cM_tick 106 = .ok (.aload_n 0, 1) := by decide +kernel
theorem dM_tick_107 : decode cM_tick 107 = .ok (.getfield 56, 3) := by decide +kernel
theorem dM_tick_110 : decode cM_tick 110 = .ok (.iload_n 3, 1) := by decide +kernel
theorem dM_tick_111 : decode cM_tick 111 = .ok (.aload_n 0, 1) := by decide +kernel
theorem dM_tick_112 : decode cM_tick 112 = .ok (.getfield 137, 3) := by decide +kernel
theorem dM_tick_115 : decode cM_tick 115 = .ok (.iastore, 1) := by decide +kernel
theorem dM_tick_116 : decode cM_tick 116 = .ok (.aload_n 0, 1) := by decide +kernel
theorem dM_tick_117 : decode cM_tick 117 = .ok (.dup, 1) := by decide +kernel
theorem dM_tick_118 : decode cM_tick 118 = .ok (.getfield 137, 3) := by decide +kernel
theorem dM_tick_121 : decode cM_tick 121 = .ok (.iconst 1, 1) := by decide +kernel
theorem dM_tick_122 : decode cM_tick 122 = .ok (.iadd, 1) := by decide +kernel
theorem dM_tick_123 : decode cM_tick 123 = .ok (.putfield 137, 3) := by decide +kernel
theorem dM_tick_126 : decode cM_tick 126 = .ok (.iinc 2 1, 3) := by decide +kernel
theorem dM_tick_129 : decode cM_tick 129 = .ok (.aload_n 0, 1) := by decide +kernel
theorem dM_tick_130 : decode cM_tick 130 = .ok (.iload_n 1, 1) := by decide +kernel
theorem dM_tick_131 : decode cM_tick 131 = .ok (.invokevirtual 128, 3) := by decide +kernel
theorem dM_tick_134 : decode cM_tick 134 = .ok (.istore_n 3, 1) := by decide +kernel
theorem dM_tick_135 : decode cM_tick 135 = .ok (.goto (-103), 3) := by decide +kernel
theorem dM_tick_138 : decode cM_tick 138 = .ok (.aload_n 0, 1) := by decide +kernel
theorem dM_tick_139 : decode cM_tick 139 = .ok (.iload_n 1, 1) := by decide +kernel
theorem dM_tick_140 : decode cM_tick 140 = .ok (.putfield 96, 3) := by decide +kernel
theorem dM_tick_143 : decode cM_tick 143 = .ok (.iload_n 2, 1) := by decide +kernel
theorem dM_tick_144 : decode cM_tick 144 = .ok (.ireturn, 1) := by decide +kernel
theorem dM_hours_0 : decode cM_hours 0 = .ok (.aload_n 0, 1) := by decide +kernel
theorem dM_hours_1 : decode cM_hours 1 = .ok (.iconst 0, 1) := by decide +kernel
theorem dM_hours_2 : decode cM_hours 2 = .ok (.putfield 69, 3) := by decide +kernel
theorem dM_hours_5 : decode cM_hours 5 = .ok (.iload_n 1, 1) := by decide +kernel
theorem dM_hours_6 : decode cM_hours 6 = .ok (.iconst 0, 1) := by decide +kernel
theorem dM_hours_7 : decode cM_hours 7 = .ok (.bipush 24, 2) := by decide +kernel
theorem dM_hours_9 : decode cM_hours 9 = .ok (.invokestatic 78, 3) := by decide +kernel
theorem dM_hours_12 : decode cM_hours 12 = .ok (.ifCond .eq 18, 3) := by decide +kernel
theorem dM_hours_15 : decode cM_hours 15 = .ok (.iload_n 2, 1) := by decide +kernel
theorem dM_hours_16 : decode cM_hours 16 = .ok (.iconst 0, 1) := by decide +kernel
theorem dM_hours_17 : decode cM_hours 17 = .ok (.bipush 24, 2) := by decide +kernel
theorem dM_hours_19 : decode cM_hours 19 = .ok (.invokestatic 78, 3) := by decide +kernel
theorem dM_hours_22 : decode cM_hours 22 = .ok (.ifCond .eq 8, 3) := by decide +kernel
theorem dM_hours_25 : decode cM_hours 25 = .ok (.iload_n 1, 1) := by decide +kernel
theorem dM_hours_26 : decode cM_hours 26 = .ok (.iload_n 2, 1) := by decide +kernel
theorem dM_hours_27 : decode cM_hours 27 = .ok (.if_icmp .lt 5, 3) := by decide +kernel
theorem dM_hours_30 : decode cM_hours 30 = .ok (.iconst 0, 1) := by decide +kernel
theorem dM_hours_31 : decode cM_hours 31 = .ok (.ireturn, 1) := by decide +kernel
theorem dM_hours_32 : decode cM_hours 32 = .ok (.aload_n 0, 1) := by decide +kernel
theorem dM_hours_33 : decode cM_hours 33 = .ok (.iload_n 1, 1) := by decide +kernel
theorem dM_hours_34 : decode cM_hours 34 = .ok (.putfield 59, 3) := by decide +kernel
theorem dM_hours_37 : decode cM_hours 37 = .ok (.aload_n 0, 1) := by decide +kernel
theorem dM_hours_38 : decode cM_hours 38 = .ok (.iload_n 2, 1) := by decide +kernel
theorem dM_hours_39 : decode cM_hours 39 = .ok (.putfield 63, 3) := by decide +kernel
theorem dM_hours_42 : decode cM_hours 42 = .ok (.iconst 1, 1) := by decide +kernel
theorem dM_hours_43 : decode cM_hours 43 = .ok (.ireturn, 1) := by decide +kernel
theorem dM_fails_0 : decode cM_fails 0 = .ok (.aload_n 0, 1) := by decide +kernel
theorem dM_fails_1 : decode cM_fails 1 = .ok (.iconst 0, 1) := by decide +kernel
theorem dM_fails_2 : decode cM_fails 2 = .ok (.putfield 69, 3) := by decide +kernel
theorem dM_fails_5 : decode cM_fails 5 = .ok (.iload_n 1, 1) := by decide +kernel
theorem dM_fails_6 : decode cM_fails 6 = .ok (.iconst 0, 1) := by decide +kernel
theorem dM_fails_7 : decode cM_fails 7 = .ok (.bipush 9, 2) := by decide +kernel
theorem dM_fails_9 : decode cM_fails 9 = .ok (.invokestatic 78, 3) := by decide +kernel
theorem dM_fails_12 : decode cM_fails 12 = .ok (.ifCond .eq 13, 3) := by decide +kernel
theorem dM_fails_15 : decode cM_fails 15 = .ok (.aload_n 0, 1) := by decide +kernel
theorem dM_fails_16 : decode cM_fails 16 = .ok (.getfield 66, 3) := by decide +kernel
theorem dM_fails_19 : decode cM_fails 19 = .ok (.iload_n 1, 1) := by decide +kernel
theorem dM_fails_20 : decode cM_fails 20 = .ok (.baload, 1) := by decide +kernel
theorem dM_fails_21 : decode cM_fails 21 = .ok (.iload_n 2, 1) := by decide +kernel
theorem dM_fails_22 : decode cM_fails 22 = .ok (.if_icmp .ne 5, 3) := by decide +kernel
theorem dM_fails_25 : decode cM_fails 25 = .ok (.iconst 0, 1) := by decide +kernel
theorem dM_fails_26 : decode cM_fails 26 = .ok (.ireturn, 1) := by decide +kernel
theorem dM_fails_27 : decode cM_fails 27 = .ok (.aload_n 0, 1) := by decide +kernel
theorem dM_fails_28 : decode cM_fails 28 = .ok (.getfield 66, 3) := by decide +kernel
theorem dM_fails_31 : decode cM_fails 31 = .ok (.iload_n 1, 1) := by decide +kernel
theorem dM_fails_32 : decode cM_fails 32 = .ok (.iload_n 2, 1) := by decide +kernel
theorem dM_fails_33 : decode cM_fails 33 = .ok (.bastore, 1) := by decide +kernel
theorem dM_fails_34 : decode cM_fails 34 = .ok (.iconst 1, 1) := by decide +kernel
theorem dM_fails_35 : decode cM_fails 35 = .ok (.ireturn, 1) := by decide +kernel
theorem dM_ones_0 : decode cM_ones 0 = .ok (.iconst 0, 1) := by decide +kernel
theorem dM_ones_1 : decode cM_ones 1 = .ok (.istore_n 1, 1) := by decide +kernel
theorem dM_ones_2 : decode cM_ones 2 = .ok (.iconst 0, 1) := by decide +kernel
theorem dM_ones_3 : decode cM_ones 3 = .ok (.istore_n 2, 1) := by decide +kernel
theorem dM_ones_4 : decode cM_ones 4 = .ok (.iload_n 2, 1) := by decide +kernel
theorem dM_ones_5 : decode cM_ones 5 = .ok (.bipush 8, 2) := by decide +kernel
theorem dM_ones_7 : decode cM_ones 7 = .ok (.if_icmp .ge 17, 3) := by decide +kernel
theorem dM_ones_10 : decode cM_ones 10 = .ok (.iload_n 1, 1) := by decide +kernel
theorem dM_ones_11 : decode cM_ones 11 = .ok (.iload_n 0, 1) := by decide +kernel
theorem dM_ones_12 : decode cM_ones 12 = .ok (.iload_n 2, 1) := by decide +kernel
theorem dM_ones_13 : decode cM_ones 13 = .ok (.ishr, 1) := by decide +kernel
theorem dM_ones_14 : decode cM_ones 14 = .ok (.iconst 1, 1) := by decide +kernel
theorem dM_ones_15 : decode cM_ones 15 = .ok (.iand, 1) := by decide +kernel
theorem dM_ones_16 : decode cM_ones 16 = .ok (.iadd, 1) := by decide +kernel
theorem dM_ones_17 : decode cM_ones 17 = .ok (.istore_n 1, 1) := by decide +kernel
theorem dM_ones_18 : decode cM_ones 18 = .ok (.iinc 2 1, 3) := by decide +kernel
theorem dM_ones_21 : decode cM_ones 21 = .ok (.goto (-17), 3) := by decide +kernel
theorem dM_ones_24 : decode cM_ones 24 = .ok (.iload_n 1, 1) := by decide +kernel
theorem dM_ones_25 : decode cM_ones 25 = .ok (.ireturn, 1) := by decide +kernel
theorem dM_bar_0 : decode cM_bar 0 = .ok (.aload_n 0, 1) := by decide +kernel
theorem dM_bar_1 : decode cM_bar 1 = .ok (.iload_n 1, 1) := by decide +kernel
theorem dM_bar_2 : decode cM_bar 2 = .ok (.invokevirtual 93, 3) := by decide +kernel
theorem dM_bar_5 : decode cM_bar 5 = .ok (.ifCond .eq 13, 3) := by decide +kernel
theorem dM_bar_8 : decode cM_bar 8 = .ok (.iload_n 2, 1) := by decide +kernel
theorem dM_bar_9 : decode cM_bar 9 = .ok (.iconst 0, 1) := by decide +kernel
theorem dM_bar_10 : decode cM_bar 10 = .ok (.bipush 7, 2) := by decide +kernel
theorem dM_bar_12 : decode cM_bar 12 = .ok (.invokestatic 78, 3) := by decide +kernel
theorem dM_bar_15 : decode cM_bar 15 = .ok (.ifCond .ne 9, 3) := by decide +kernel
theorem dM_bar_18 : decode cM_bar 18 = .ok (.aload_n 0, 1) := by decide +kernel
theorem dM_bar_19 : decode cM_bar 19 = .ok (.iconst 1, 1) := by decide +kernel
theorem dM_bar_20 : decode cM_bar 20 = .ok (.invokevirtual 82, 3) := by decide +kernel
theorem dM_bar_23 : decode cM_bar 23 = .ok (.ireturn, 1) := by decide +kernel
theorem dM_bar_24 : decode cM_bar 24 = .ok (.aload_n 0, 1) := by decide +kernel
theorem dM_bar_25 : decode cM_bar 25 = .ok (.iconst 0, 1) := by decide +kernel
theorem dM_bar_26 : decode cM_bar 26 = .ok (.putfield 69, 3) := by decide +kernel
theorem dM_bar_29 : decode cM_bar 29 = .ok (.aload_n 0, 1) := by decide +kernel
theorem dM_bar_30 : decode cM_bar 30 = .ok (.getfield 19, 3) := by decide +kernel
theorem dM_bar_33 : decode cM_bar 33 = .ok (.iload_n 1, 1) := by decide +kernel
theorem dM_bar_34 : decode cM_bar 34 = .ok (.iaload, 1) := by decide +kernel
theorem dM_bar_35 : decode cM_bar 35 = .ok (.bipush 6, 2) := by decide +kernel
theorem dM_bar_37 : decode cM_bar 37 = .ok (.if_icmp .eq 37, 3) := by decide +kernel
theorem dM_bar_40 : decode cM_bar 40 = .ok (.aload_n 0, 1) := by decide +kernel
theorem dM_bar_41 : decode cM_bar 41 = .ok (.getfield 19, 3) := by decide +kernel
theorem dM_bar_44 : decode cM_bar 44 = .ok (.iload_n 1, 1) := by decide +kernel
theorem dM_bar_45 : decode cM_bar 45 = .ok (.iaload, 1) := by decide +kernel
theorem dM_bar_46 : decode cM_bar 46 = .ok (.bipush 7, 2) := by decide +kernel
theorem dM_bar_48 : decode cM_bar 48 = .ok (.if_icmp .eq 26, 3) := by decide +kernel
theorem dM_bar_51 : decode cM_bar 51 = .ok (.aload_n 0, 1) := by decide +kernel
theorem dM_bar_52 : decode cM_bar 52 = .ok (.getfield 25, 3) := by decide +kernel
theorem dM_bar_55 : decode cM_bar 55 = .ok (.iload_n 1, 1) := by decide +kernel
theorem dM_bar_56 : decode cM_bar 56 = .ok (.iaload, 1) := by decide +kernel
theorem dM_bar_57 : decode cM_bar 57 = .ok (.iload_n 2, 1) := by decide +kernel
theorem dM_bar_58 : decode cM_bar 58 = .ok (.ishr, 1) := by decide +kernel
theorem dM_bar_59 : decode cM_bar 59 = .ok (.iconst 1, 1) := by decide +kernel
theorem dM_bar_60 : decode cM_bar 60 = .ok (.iand, 1) := by decide +kernel
theorem dM_bar_61 : decode cM_bar 61 = .ok (.iconst 1, 1) := by decide +kernel
theorem dM_bar_62 : decode cM_bar 62 = .ok (.if_icmp .ne 7, 3) := by decide +kernel
theorem dM_bar_65 : decode cM_bar 65 = .ok (.iconst 1, 1) := by decide +kernel
theorem dM_bar_66 : decode cM_bar 66 = .ok (.goto 4, 3) := by decide +kernel
theorem dM_bar_69 : decode cM_bar 69 = .ok (.iconst 0, 1) := by decide +kernel
theorem dM_bar_70 : decode cM_bar 70 = .ok (.iload_n 3, 1) := by decide +kernel
theorem dM_bar_71 : decode cM_bar 71 = .ok (.if_icmp .ne 5, 3) := by decide +kernel
theorem dM_bar_74 : decode cM_bar 74 = .ok (.iconst (-1), 1) := by decide +kernel
theorem dM_bar_75 : decode cM_bar 75 = .ok (.ireturn, 1) := by decide +kernel
theorem dM_bar_76 : decode cM_bar 76 = .ok (.aload_n 0, 1) := by decide +kernel
theorem dM_bar_77 : decode cM_bar 77 = .ok (.getfield 25, 3) := by decide +kernel
theorem dM_bar_80 : decode cM_bar 80 = .ok (.iload_n 1, 1) := by decide +kernel
theorem dM_bar_81 : decode cM_bar 81 = .ok (.dup2, 1) := by decide +kernel
theorem dM_bar_82 : decode cM_bar 82 = .ok (.iaload, 1) := by decide +kernel
theorem dM_bar_83 : decode cM_bar 83 = .ok (.iload_n 3, 1) := by decide +kernel
theorem dM_bar_84 : decode cM_bar 84 = .ok (.ifCond .eq 9, 3) := by decide +kernel
theorem dM_bar_87 : decode cM_bar 87 = .ok (.iconst 1, 1) := by decide +kernel
theorem dM_bar_88 : decode cM_bar 88 = .ok (.iload_n 2, 1) := by decide +kernel
theorem dM_bar_89 : decode cM_bar 89 = .ok (.ishl, 1) := by decide +kernel
theorem dM_bar_90 : decode cM_bar 90 = .ok (.goto 7, 3) := by decide +kernel
theorem dM_bar_93 : decode cM_bar 93 = .ok (.iconst 1, 1) := by decide +kernel
theorem dM_bar_94 : decode cM_bar 94 = .ok (.iload_n 2, 1) := by decide +kernel
theorem dM_bar_95 : decode cM_bar 95 = .ok (.ishl, 1) := by decide +kernel
theorem dM_bar_96 : decode cM_bar 96 = .ok (.ineg, 1) := by decide +kernel
theorem dM_bar_97 : decode cM_bar 97 = .ok (.iadd, 1) := by decide +kernel
theorem dM_bar_98 : decode cM_bar 98 = .ok (.iastore, 1) := by decide +kernel
theorem dM_bar_99 : decode cM_bar 99 = .ok (.iload_n 3, 1) := by decide +kernel
theorem dM_bar_100 : decode cM_bar 100 = .ok (.ifCond .ne 12, 3) := by decide +kernel
theorem dM_bar_103 : decode cM_bar 103 = .ok (.aload_n 0, 1) := by decide +kernel
theorem dM_bar_104 : decode cM_bar 104 = .ok (.iload_n 1, 1) := by decide +kernel
theorem dM_bar_105 : decode cM_bar 105 = .ok (.aload_n 0, 1) := by decide +kernel
theorem dM_bar_106 : decode cM_bar 106 = .ok (.getfield 96, 3) := by decide +kernel
theorem dM_bar_109 : decode cM_bar 109 = .ok (.invokevirtual 124, 3) := by decide +kernel
theorem dM_bar_112 : decode cM_bar 112 = .ok (.aload_n 0, 1) := by decide +kernel
theorem dM_bar_113 : decode cM_bar 113 = .ok (.getfield 25, 3) := by decide +kernel
theorem dM_bar_116 : decode cM_bar 116 = .ok (.iload_n 1, 1) := by decide +kernel
theorem dM_bar_117 : decode cM_bar 117 = .ok (.iaload, 1) := by decide +kernel
theorem dM_bar_118 : decode cM_bar 118 = .ok (.invokestatic 140, 3) := by decide +kernel
theorem dM_bar_121 : decode cM_bar 121 = .ok (.ireturn, 1) := by decide +kernel
theorem dM_invalidate_0 : decode cM_invalidate 0 = .ok (.aload_n 0, 1) := by decide +kernel
theorem dM_invalidate_1 : decode cM_invalidate 1 = .ok (.iload_n 1, 1) := by decide +kernel
theorem dM_invalidate_2 : decode cM_invalidate 2 = .ok (.invokevirtual 93, 3) := by decide +kernel
theorem dM_invalidate_5 : decode cM_invalidate 5 = .ok (.ifCond .eq 21, 3) := by decide +kernel
theorem dM_invalidate_8 : decode cM_invalidate 8 = .ok (.aload_n 0, 1) := by decide +kernel
theorem dM_invalidate_9 : decode cM_invalidate 9 = .ok (.iload_n 2, 1) := by decide +kernel
theorem dM_invalidate_10 : decode cM_invalidate 10 = .ok (.invokevirtual 86, 3) := by decide +kernel
theorem dM_invalidate_13 : decode cM_invalidate 13 = .ok (.ifCond .eq 13, 3) := by decide +kernel
theorem dM_invalidate_16 : decode cM_invalidate 16 = .ok (.iload_n 3, 1) := by decide +kernel
theorem dM_invalidate_17 : decode cM_invalidate 17 = .ok (.iconst 0, 1) := by decide +kernel
theorem dM_invalidate_18 : decode cM_invalidate 18 = .ok (.bipush 9, 2) := by decide +kernel
theorem dM_invalidate_20 : decode cM_invalidate 20 = .ok (.invokestatic 78, 3) := by decide +kernel
theorem dM_invalidate_23 : decode cM_invalidate 23 = .ok (.ifCond .ne 9, 3) := by decide +kernel
theorem dM_invalidate_26 : decode cM_invalidate 26 = .ok (.aload_n 0, 1) := by decide +kernel
theorem dM_invalidate_27 : decode cM_invalidate 27 = .ok (.iconst 1, 1) := by decide +kernel
theorem dM_invalidate_28 : decode cM_invalidate 28 = .ok (.invokevirtual 82, 3) := by decide +kernel
theorem dM_invalidate_31 : decode cM_invalidate 31 = .ok (.ireturn, 1) := by decide +kernel
theorem dM_invalidate_32 : decode cM_invalidate 32 = .ok (.aload_n 0, 1) := by decide +kernel
theorem dM_invalidate_33 : decode cM_invalidate 33 = .ok (.iconst 0, 1) := by decide +kernel
theorem dM_invalidate_34 : decode cM_invalidate 34 = .ok (.putfield 69, 3) := by decide +kernel
theorem dM_invalidate_37 : decode cM_invalidate 37 = .ok (.aload_n 0, 1) := by decide +kernel
theorem dM_invalidate_38 : decode cM_invalidate 38 = .ok (.getfield 19, 3) := by decide +kernel
theorem dM_invalidate_41 : decode cM_invalidate 41 = .ok (.iload_n 1, 1) := by decide +kernel
theorem dM_invalidate_42 : decode cM_invalidate 42 = .ok (.iaload, 1) := by decide +kernel
theorem dM_invalidate_43 : decode cM_invalidate 43 = .ok (.istore 4, 2) := by decide +kernel
theorem dM_invalidate_45 : decode cM_invalidate 45 = .ok (.aload_n 0, 1) := by decide +kernel
theorem dM_invalidate_46 : decode cM_invalidate 46 = .ok (.getfield 7, 3) := by decide +kernel
theorem dM_invalidate_49 : decode cM_invalidate 49 = .ok (.iload_n 2, 1) := by decide +kernel
theorem dM_invalidate_50 : decode cM_invalidate 50 = .ok (.iaload, 1) := by decide +kernel
theorem dM_invalidate_51 : decode cM_invalidate 51 = .ok (.iconst 1, 1) := by decide +kernel
theorem dM_invalidate_52 : decode cM_invalidate 52 = .ok (.if_icmp .ne 35, 3) := by decide +kernel
theorem dM_invalidate_55 : decode cM_invalidate 55 = .ok (.iload 4, 2) := by decide +kernel
theorem dM_invalidate_57 : decode cM_invalidate 57 = .ok (.iconst 4, 1) := by decide +kernel
theorem dM_invalidate_58 : decode cM_invalidate 58 = .ok (.if_icmp .gt 29, 3) := by decide +kernel
theorem dM_invalidate_61 : decode cM_invalidate 61 = .ok (.iload 4, 2) := by decide +kernel
theorem dM_invalidate_63 : decode cM_invalidate 63 = .ok (.iconst 1, 1) := by decide +kernel
theorem dM_invalidate_64 : decode cM_invalidate 64 = .ok (.if_icmp .le 7, 3) := by decide +kernel
theorem dM_invalidate_67 : decode cM_invalidate 67 = .ok (.iload_n 3, 1) := by decide +kernel
theorem dM_invalidate_68 : decode cM_invalidate 68 = .ok (.ifCond .eq 19, 3) := by decide +kernel
theorem dM_invalidate_71 : decode cM_invalidate 71 = .ok (.iload 4, 2) := by decide +kernel
theorem dM_invalidate_73 : decode cM_invalidate 73 = .ok (.iconst 4, 1) := by decide +kernel
theorem dM_invalidate_74 : decode cM_invalidate 74 = .ok (.if_icmp .ne 15, 3) := by decide +kernel
theorem dM_invalidate_77 : decode cM_invalidate 77 = .ok (.aload_n 0, 1) := by decide +kernel
theorem dM_invalidate_78 : decode cM_invalidate 78 = .ok (.getfield 31, 3) := by decide +kernel
theorem dM_invalidate_81 : decode cM_invalidate 81 = .ok (.iload_n 1, 1) := by decide +kernel
theorem dM_invalidate_82 : decode cM_invalidate 82 = .ok (.iaload, 1) := by decide +kernel
theorem dM_invalidate_83 : decode cM_invalidate 83 = .ok (.iload_n 2, 1) := by decide +kernel
theorem dM_invalidate_84 : decode cM_invalidate 84 = .ok (.if_icmp .ne 5, 3) := by decide +kernel
theorem dM_invalidate_87 : decode cM_invalidate 87 = .ok (.iconst 0, 1) := by decide +kernel
theorem dM_invalidate_88 : decode cM_invalidate 88 = .ok (.ireturn, 1) := by decide +kernel
theorem dM_invalidate_89 : decode cM_invalidate 89 = .ok (.iload 4, 2) := by decide +kernel
theorem dM_invalidate_91 : decode cM_invalidate 91 = .ok (.iconst 4, 1) := by decide +kernel
theorem dM_invalidate_92 : decode cM_invalidate 92 = .ok (.if_icmp .ne 22, 3) := by decide +kernel
theorem dM_invalidate_95 : decode cM_invalidate 95 = .ok (.aload_n 0, 1) := by decide +kernel
theorem dM_invalidate_96 : decode cM_invalidate 96 = .ok (.getfield 31, 3) := by decide +kernel
theorem dM_invalidate_99 : decode cM_invalidate 99 = .ok (.iload_n 1, 1) := by decide +kernel
theorem dM_invalidate_100 : decode cM_invalidate 100 = .ok (.iaload, 1) := by decide +kernel
theorem dM_invalidate_101 : decode cM_invalidate 101 = .ok (.iconst (-1), 1) := by decide +kernel
theorem dM_invalidate_102 : decode cM_invalidate 102 = .ok (.if_icmp .ne 12, 3) := by decide +kernel
theorem dM_invalidate_105 : decode cM_invalidate 105 = .ok (.aload_n 0, 1) := by decide +kernel
theorem dM_invalidate_106 : decode cM_invalidate 106 = .ok (.getfield 31, 3) := by decide +kernel
theorem dM_invalidate_109 : decode cM_invalidate 109 = .ok (.iload_n 1, 1) := by decide +kernel
theorem dM_invalidate_110 : decode cM_invalidate 110 = .ok (.iload_n 2, 1) := by decide +kernel
theorem dM_invalidate_111 : decode cM_invalidate 111 = .ok (.iastore, 1) := by decide +kernel
theorem dM_invalidate_112 : decode cM_invalidate 112 = .ok (.iconst 2, 1) := by decide +kernel
theorem dM_invalidate_113 : decode cM_invalidate 113 = .ok (.ireturn, 1) := by decide +kernel
theorem dM_invalidate_114 : decode cM_invalidate 114 = .ok (.aload_n 0, 1) := by decide +kernel
theorem dM_invalidate_115 : decode cM_invalidate 115 = .ok (.iload_n 1, 1) := by decide +kernel
theorem dM_invalidate_116 : decode cM_invalidate 116 = .ok (.bipush 6, 2) := by decide +kernel
theorem dM_invalidate_118 : decode cM_invalidate 118 = .ok (.aload_n 0, 1) := by decide +kernel
theorem dM_invalidate_119 : decode cM_invalidate 119 = .ok (.getfield 96, 3) := by decide +kernel
theorem dM_invalidate_122 : decode cM_invalidate 122 = .ok (.invokevirtual 120, 3) := by decide +kernel
theorem dM_invalidate_125 : decode cM_invalidate 125 = .ok (.aload_n 0, 1) := by decide +kernel
theorem dM_invalidate_126 : decode cM_invalidate 126 = .ok (.getfield 34, 3) := by decide +kernel
theorem dM_invalidate_129 : decode cM_invalidate 129 = .ok (.iload_n 1, 1) := by decide +kernel
theorem dM_invalidate_130 : decode cM_invalidate 130 = .ok (.iload_n 3, 1) := by decide +kernel
theorem dM_invalidate_131 : decode cM_invalidate 131 = .ok (.iastore, 1) := by decide +kernel
theorem dM_invalidate_132 : decode cM_invalidate 132 = .ok (.iconst 1, 1) := by decide +kernel
theorem dM_invalidate_133 : decode cM_invalidate 133 = .ok (.ireturn, 1) := by decide +kernel
theorem dM_writtenOf_0 : decode cM_writtenOf 0 = .ok (.iconst 0, 1) := by decide +kernel
theorem dM_writtenOf_1 : decode cM_writtenOf 1 = .ok (.istore_n 2, 1) := by decide +kernel
theorem dM_writtenOf_2 : decode cM_writtenOf 2 = .ok (.iconst 0, 1) := by decide +kernel
theorem dM_writtenOf_3 : decode cM_writtenOf 3 = .ok (.istore_n 3, 1) := by decide +kernel
theorem dM_writtenOf_4 : decode cM_writtenOf 4 = .ok (.iload_n 3, 1) := by decide +kernel
theorem dM_writtenOf_5 : decode cM_writtenOf 5 = .ok (.aload_n 0, 1) := by decide +kernel
theorem dM_writtenOf_6 : decode cM_writtenOf 6 = .ok (.getfield 90, 3) := by decide +kernel
theorem dM_writtenOf_9 : decode cM_writtenOf 9 = .ok (.if_icmp .ge 36, 3) := by decide +kernel
theorem dM_writtenOf_12 : decode cM_writtenOf 12 = .ok (.iload_n 2, 1) := by decide +kernel
theorem dM_writtenOf_13 : decode cM_writtenOf 13 = .ok (.aload_n 0, 1) := by decide +kernel
theorem dM_writtenOf_14 : decode cM_writtenOf 14 = .ok (.getfield 37, 3) := by decide +kernel
theorem dM_writtenOf_17 : decode cM_writtenOf 17 = .ok (.iload_n 3, 1) := by decide +kernel
theorem dM_writtenOf_18 : decode cM_writtenOf 18 = .ok (.iaload, 1) := by decide +kernel
theorem dM_writtenOf_19 : decode cM_writtenOf 19 = .ok (.iload_n 1, 1) := by decide +kernel
theorem dM_writtenOf_20 : decode cM_writtenOf 20 = .ok (.if_icmp .ne 16, 3) := by decide +kernel
theorem dM_writtenOf_23 : decode cM_writtenOf 23 = .ok (.aload_n 0, 1) := by decide +kernel
theorem dM_writtenOf_24 : decode cM_writtenOf 24 = .ok (.getfield 49, 3) := by decide +kernel
theorem dM_writtenOf_27 : decode cM_writtenOf 27 = .ok (.iload_n 3, 1) := by decide +kernel
theorem dM_writtenOf_28 : decode cM_writtenOf 28 = .ok (.baload, 1) := by decide +kernel
theorem dM_writtenOf_29 : decode cM_writtenOf 29 = .ok (.ifCond .ne 7, 3) := by decide +kernel
theorem dM_writtenOf_32 : decode cM_writtenOf 32 = .ok (.iconst 1, 1) := by decide +kernel
theorem dM_writtenOf_33 : decode cM_writtenOf 33 = .ok (.goto 4, 3) := by decide +kernel
theorem dM_writtenOf_36 : decode cM_writtenOf 36 = .ok (.iconst 0, 1) := by decide +kernel
theorem dM_writtenOf_37 : decode cM_writtenOf 37 = .ok (.iadd, 1) := by decide +kernel
theorem dM_writtenOf_38 : decode cM_writtenOf 38 = .ok (.istore_n 2, 1) := by decide +kernel
theorem dM_writtenOf_39 : decode cM_writtenOf 39 = .ok (.iinc 3 1, 3) := by decide +kernel
theorem dM_writtenOf_42 : decode cM_writtenOf 42 = .ok (.goto (-38), 3) := by decide +kernel
theorem dM_writtenOf_45 : decode cM_writtenOf 45 = .ok (.iload_n 2, 1) := by decide +kernel
theorem dM_writtenOf_46 : decode cM_writtenOf 46 = .ok (.ireturn, 1) := by decide +kernel
theorem dM_look_0 : decode cM_look 0 = .ok (.aload_n 0, 1) := by decide +kernel
theorem dM_look_1 : decode cM_look 1 = .ok (.iload_n 1, 1) := by decide +kernel
theorem dM_look_2 : decode cM_look 2 = .ok (.invokevirtual 93, 3) := by decide +kernel
theorem dM_look_5 : decode cM_look 5 = .ok (.ifCond .eq 13, 3) := by decide +kernel
theorem dM_look_8 : decode cM_look 8 = .ok (.iload_n 2, 1) := by decide +kernel
theorem dM_look_9 : decode cM_look 9 = .ok (.iconst 0, 1) := by decide +kernel
theorem dM_look_10 : decode cM_look 10 = .ok (.bipush 8, 2) := by decide +kernel
theorem dM_look_12 : decode cM_look 12 = .ok (.invokestatic 78, 3) := by decide +kernel
theorem dM_look_15 : decode cM_look 15 = .ok (.ifCond .ne 9, 3) := by decide +kernel
theorem dM_look_18 : decode cM_look 18 = .ok (.aload_n 0, 1) := by decide +kernel
theorem dM_look_19 : decode cM_look 19 = .ok (.iconst 1, 1) := by decide +kernel
theorem dM_look_20 : decode cM_look 20 = .ok (.invokevirtual 82, 3) := by decide +kernel
theorem dM_look_23 : decode cM_look 23 = .ok (.ireturn, 1) := by decide +kernel
theorem dM_look_24 : decode cM_look 24 = .ok (.aload_n 0, 1) := by decide +kernel
theorem dM_look_25 : decode cM_look 25 = .ok (.iconst 0, 1) := by decide +kernel
theorem dM_look_26 : decode cM_look 26 = .ok (.putfield 69, 3) := by decide +kernel
theorem dM_look_29 : decode cM_look 29 = .ok (.iload_n 2, 1) := by decide +kernel
theorem dM_look_30 : decode cM_look 30 = .ok (.tableswitch 101 0 7 #[46, 53, 60, 67, 74, 81, 87, 94], 46) := by decide +kernel
theorem dM_look_76 : decode cM_look 76 = .ok (.aload_n 0, 1) := by decide +kernel
theorem dM_look_77 : decode cM_look 77 = .ok (.getfield 19, 3) := by decide +kernel
theorem dM_look_80 : decode cM_look 80 = .ok (.iload_n 1, 1) := by decide +kernel
theorem dM_look_81 : decode cM_look 81 = .ok (.iaload, 1) := by decide +kernel
theorem dM_look_82 : decode cM_look 82 = .ok (.ireturn, 1) := by decide +kernel
theorem dM_look_83 : decode cM_look 83 = .ok (.aload_n 0, 1) := by decide +kernel
theorem dM_look_84 : decode cM_look 84 = .ok (.getfield 13, 3) := by decide +kernel
theorem dM_look_87 : decode cM_look 87 = .ok (.iload_n 1, 1) := by decide +kernel
theorem dM_look_88 : decode cM_look 88 = .ok (.iaload, 1) := by decide +kernel
theorem dM_look_89 : decode cM_look 89 = .ok (.ireturn, 1) := by decide +kernel
theorem dM_look_90 : decode cM_look 90 = .ok (.aload_n 0, 1) := by decide +kernel
theorem dM_look_91 : decode cM_look 91 = .ok (.getfield 16, 3) := by decide +kernel
theorem dM_look_94 : decode cM_look 94 = .ok (.iload_n 1, 1) := by decide +kernel
theorem dM_look_95 : decode cM_look 95 = .ok (.iaload, 1) := by decide +kernel
theorem dM_look_96 : decode cM_look 96 = .ok (.ireturn, 1) := by decide +kernel
theorem dM_look_97 : decode cM_look 97 = .ok (.aload_n 0, 1) := by decide +kernel
theorem dM_look_98 : decode cM_look 98 = .ok (.getfield 22, 3) := by decide +kernel
theorem dM_look_101 : decode cM_look 101 = .ok (.iload_n 1, 1) := by decide +kernel
theorem dM_look_102 : decode cM_look 102 = .ok (.iaload, 1) := by decide +kernel
theorem dM_look_103 : decode cM_look 103 = .ok (.ireturn, 1) := by decide +kernel
theorem dM_look_104 : decode cM_look 104 = .ok (.aload_n 0, 1) := by decide +kernel
theorem dM_look_105 : decode cM_look 105 = .ok (.getfield 25, 3) := by decide +kernel
theorem dM_look_108 : decode cM_look 108 = .ok (.iload_n 1, 1) := by decide +kernel
theorem dM_look_109 : decode cM_look 109 = .ok (.iaload, 1) := by decide +kernel
theorem dM_look_110 : decode cM_look 110 = .ok (.ireturn, 1) := by decide +kernel
theorem dM_look_111 : decode cM_look 111 = .ok (.aload_n 0, 1) := by decide +kernel
theorem dM_look_112 : decode cM_look 112 = .ok (.iload_n 1, 1) := by decide +kernel
theorem dM_look_113 : decode cM_look 113 = .ok (.invokevirtual 143, 3) := by decide +kernel
theorem dM_look_116 : decode cM_look 116 = .ok (.ireturn, 1) := by decide +kernel
theorem dM_look_117 : decode cM_look 117 = .ok (.aload_n 0, 1) := by decide +kernel
theorem dM_look_118 : decode cM_look 118 = .ok (.getfield 28, 3) := by decide +kernel
theorem dM_look_121 : decode cM_look 121 = .ok (.iload_n 1, 1) := by decide +kernel
theorem dM_look_122 : decode cM_look 122 = .ok (.iaload, 1) := by decide +kernel
theorem dM_look_123 : decode cM_look 123 = .ok (.ireturn, 1) := by decide +kernel
theorem dM_look_124 : decode cM_look 124 = .ok (.aload_n 0, 1) := by decide +kernel
theorem dM_look_125 : decode cM_look 125 = .ok (.getfield 31, 3) := by decide +kernel
theorem dM_look_128 : decode cM_look 128 = .ok (.iload_n 1, 1) := by decide +kernel
theorem dM_look_129 : decode cM_look 129 = .ok (.iaload, 1) := by decide +kernel
theorem dM_look_130 : decode cM_look 130 = .ok (.ireturn, 1) := by decide +kernel
theorem dM_look_131 : decode cM_look 131 = .ok (.aload_n 0, 1) := by decide +kernel
theorem dM_look_132 : decode cM_look 132 = .ok (.getfield 34, 3) := by decide +kernel
theorem dM_look_135 : decode cM_look 135 = .ok (.iload_n 1, 1) := by decide +kernel
theorem dM_look_136 : decode cM_look 136 = .ok (.iaload, 1) := by decide +kernel
theorem dM_look_137 : decode cM_look 137 = .ok (.ireturn, 1) := by decide +kernel
theorem dM_written_0 : decode cM_written 0 = .ok (.aload_n 0, 1) := by decide +kernel
theorem dM_written_1 : decode cM_written 1 = .ok (.iload_n 1, 1) := by decide +kernel
theorem dM_written_2 : decode cM_written 2 = .ok (.invokevirtual 93, 3) := by decide +kernel
theorem dM_written_5 : decode cM_written 5 = .ok (.ifCond .ne 9, 3) := by decide +kernel
theorem dM_written_8 : decode cM_written 8 = .ok (.aload_n 0, 1) := by decide +kernel
theorem dM_written_9 : decode cM_written 9 = .ok (.iconst 1, 1) := by decide +kernel
theorem dM_written_10 : decode cM_written 10 = .ok (.invokevirtual 82, 3) := by decide +kernel
theorem dM_written_13 : decode cM_written 13 = .ok (.ireturn, 1) := by decide +kernel
theorem dM_written_14 : decode cM_written 14 = .ok (.aload_n 0, 1) := by decide +kernel
theorem dM_written_15 : decode cM_written 15 = .ok (.iconst 0, 1) := by decide +kernel
theorem dM_written_16 : decode cM_written 16 = .ok (.putfield 69, 3) := by decide +kernel
theorem dM_written_19 : decode cM_written 19 = .ok (.iconst 0, 1) := by decide +kernel
theorem dM_written_20 : decode cM_written 20 = .ok (.istore_n 3, 1) := by decide +kernel
theorem dM_written_21 : decode cM_written 21 = .ok (.iload_n 3, 1) := by decide +kernel
theorem dM_written_22 : decode cM_written 22 = .ok (.aload_n 0, 1) := by decide +kernel
theorem dM_written_23 : decode cM_written 23 = .ok (.getfield 90, 3) := by decide +kernel
theorem dM_written_26 : decode cM_written 26 = .ok (.if_icmp .ge 122, 3) := by decide +kernel
theorem dM_written_29 : decode cM_written 29 = .ok (.iconst 0, 1) := by decide +kernel
theorem dM_written_30 : decode cM_written 30 = .ok (.istore 4, 2) := by decide +kernel
theorem dM_written_32 : decode cM_written 32 = .ok (.iconst 0, 1) := by decide +kernel
theorem dM_written_33 : decode cM_written 33 = .ok (.istore 5, 2) := by decide +kernel
theorem dM_written_35 : decode cM_written 35 = .ok (.iload 5, 2) := by decide +kernel
theorem dM_written_37 : decode cM_written 37 = .ok (.aload_n 0, 1) := by decide +kernel
theorem dM_written_38 : decode cM_written 38 = .ok (.getfield 90, 3) := by decide +kernel
theorem dM_written_41 : decode cM_written 41 = .ok (.if_icmp .ge 56, 3) := by decide +kernel
theorem dM_written_44 : decode cM_written 44 = .ok (.iload 4, 2) := by decide +kernel
theorem dM_written_46 : decode cM_written 46 = .ok (.aload_n 0, 1) := by decide +kernel
theorem dM_written_47 : decode cM_written 47 = .ok (.getfield 37, 3) := by decide +kernel
theorem dM_written_50 : decode cM_written 50 = .ok (.iload 5, 2) := by decide +kernel
theorem dM_written_52 : decode cM_written 52 = .ok (.iaload, 1) := by decide +kernel
theorem dM_written_53 : decode cM_written 53 = .ok (.iload_n 1, 1) := by decide +kernel
theorem dM_written_54 : decode cM_written 54 = .ok (.if_icmp .ne 33, 3) := by decide +kernel
theorem dM_written_57 : decode cM_written 57 = .ok (.aload_n 0, 1) := by decide +kernel
theorem dM_written_58 : decode cM_written 58 = .ok (.getfield 49, 3) := by decide +kernel
theorem dM_written_61 : decode cM_written 61 = .ok (.iload 5, 2) := by decide +kernel
theorem dM_written_63 : decode cM_written 63 = .ok (.baload, 1) := by decide +kernel
theorem dM_written_64 : decode cM_written 64 = .ok (.ifCond .ne 23, 3) := by decide +kernel
theorem dM_written_67 : decode cM_written 67 = .ok (.aload_n 0, 1) := by decide +kernel
theorem dM_written_68 : decode cM_written 68 = .ok (.getfield 56, 3) := by decide +kernel
theorem dM_written_71 : decode cM_written 71 = .ok (.iload 5, 2) := by decide +kernel
theorem dM_written_73 : decode cM_written 73 = .ok (.iaload, 1) := by decide +kernel
theorem dM_written_74 : decode cM_written 74 = .ok (.aload_n 0, 1) := by decide +kernel
theorem dM_written_75 : decode cM_written 75 = .ok (.getfield 56, 3) := by decide +kernel
theorem dM_written_78 : decode cM_written 78 = .ok (.iload_n 3, 1) := by decide +kernel
theorem dM_written_79 : decode cM_written 79 = .ok (.iaload, 1) := by decide +kernel
theorem dM_written_80 : decode cM_written 80 = .ok (.if_icmp .ge 7, 3) := by decide +kernel
theorem dM_written_83 : decode cM_written 83 = .ok (.iconst 1, 1) := by decide +kernel
theorem dM_written_84 : decode cM_written 84 = .ok (.goto 4, 3) := by decide +kernel
theorem dM_written_87 : decode cM_written 87 = .ok (.iconst 0, 1) := by decide +kernel
theorem dM_written_88 : decode cM_written 88 = .ok (.iadd, 1) := by decide +kernel
theorem dM_written_89 : decode cM_written 89 = .ok (.istore 4, 2) := by decide +kernel
theorem dM_written_91 : decode cM_written 91 = .ok (.iinc 5 1, 3) := by decide +kernel
theorem dM_written_94 : decode cM_written 94 = .ok (.goto (-59), 3) := by decide +kernel
theorem dM_written_97 : decode cM_written 97 = .ok (.aload_n 0, 1) := by decide +kernel
theorem dM_written_98 : decode cM_written 98 = .ok (.getfield 37, 3) := by decide +kernel
theorem dM_written_101 : decode cM_written 101 = .ok (.iload_n 3, 1) := by decide +kernel
theorem dM_written_102 : decode cM_written 102 = .ok (.iaload, 1) := by decide +kernel
theorem dM_written_103 : decode cM_written 103 = .ok (.iload_n 1, 1) := by decide +kernel
theorem dM_written_104 : decode cM_written 104 = .ok (.if_icmp .ne 38, 3) := by decide +kernel
theorem dM_written_107 : decode cM_written 107 = .ok (.aload_n 0, 1) := by decide +kernel
theorem dM_written_108 : decode cM_written 108 = .ok (.getfield 49, 3) := by decide +kernel
theorem dM_written_111 : decode cM_written 111 = .ok (.iload_n 3, 1) := by decide +kernel
theorem dM_written_112 : decode cM_written 112 = .ok (.baload, 1) := by decide +kernel
theorem dM_written_113 : decode cM_written 113 = .ok (.ifCond .ne 29, 3) := by decide +kernel
theorem dM_written_116 : decode cM_written 116 = .ok (.iload 4, 2) := by decide +kernel
theorem dM_written_118 : decode cM_written 118 = .ok (.iload_n 2, 1) := by decide +kernel
theorem dM_written_119 : decode cM_written 119 = .ok (.if_icmp .ne 23, 3) := by decide +kernel
theorem dM_written_122 : decode cM_written 122 = .ok (.bipush 16, 2) := by decide +kernel
theorem dM_written_124 : decode cM_written 124 = .ok (.aload_n 0, 1) := by decide +kernel
theorem dM_written_125 : decode cM_written 125 = .ok (.getfield 53, 3) := by decide +kernel
theorem dM_written_128 : decode cM_written 128 = .ok (.iload_n 3, 1) := by decide +kernel
theorem dM_written_129 : decode cM_written 129 = .ok (.iaload, 1) := by decide +kernel
theorem dM_written_130 : decode cM_written 130 = .ok (.bipush 8, 2) := by decide +kernel
theorem dM_written_132 : decode cM_written 132 = .ok (.iadd, 1) := by decide +kernel
theorem dM_written_133 : decode cM_written 133 = .ok (.imul, 1) := by decide +kernel
theorem dM_written_134 : decode cM_written 134 = .ok (.aload_n 0, 1) := by decide +kernel
theorem dM_written_135 : decode cM_written 135 = .ok (.getfield 40, 3) := by decide +kernel
theorem dM_written_138 : decode cM_written 138 = .ok (.iload_n 3, 1) := by decide +kernel
theorem dM_written_139 : decode cM_written 139 = .ok (.iaload, 1) := by decide +kernel
theorem dM_written_140 : decode cM_written 140 = .ok (.iadd, 1) := by decide +kernel
theorem dM_written_141 : decode cM_written 141 = .ok (.ireturn, 1) := by decide +kernel
theorem dM_written_142 : decode cM_written 142 = .ok (.iinc 3 1, 3) := by decide +kernel
theorem dM_written_145 : decode cM_written 145 = .ok (.goto (-124), 3) := by decide +kernel
theorem dM_written_148 : decode cM_written 148 = .ok (.iconst (-1), 1) := by decide +kernel
theorem dM_written_149 : decode cM_written 149 = .ok (.ireturn, 1) := by decide +kernel
theorem dM_of_0 : decode cM_of 0 = .ok (.iload_n 1, 1) := by decide +kernel
theorem dM_of_1 : decode cM_of 1 = .ok (.ifCond .lt 20, 3) := by decide +kernel
theorem dM_of_4 : decode cM_of 4 = .ok (.iload_n 1, 1) := by decide +kernel
theorem dM_of_5 : decode cM_of 5 = .ok (.aload_n 0, 1) := by decide +kernel
theorem dM_of_6 : decode cM_of 6 = .ok (.getfield 90, 3) := by decide +kernel
theorem dM_of_9 : decode cM_of 9 = .ok (.if_icmp .ge 12, 3) := by decide +kernel
theorem dM_of_12 : decode cM_of 12 = .ok (.iload_n 2, 1) := by decide +kernel
theorem dM_of_13 : decode cM_of 13 = .ok (.iconst 0, 1) := by decide +kernel
theorem dM_of_14 : decode cM_of 14 = .ok (.iconst 5, 1) := by decide +kernel
theorem dM_of_15 : decode cM_of 15 = .ok (.invokestatic 78, 3) := by decide +kernel
theorem dM_of_18 : decode cM_of 18 = .ok (.ifCond .ne 9, 3) := by decide +kernel
theorem dM_of_21 : decode cM_of 21 = .ok (.aload_n 0, 1) := by decide +kernel
theorem dM_of_22 : decode cM_of 22 = .ok (.iconst 1, 1) := by decide +kernel
theorem dM_of_23 : decode cM_of 23 = .ok (.invokevirtual 82, 3) := by decide +kernel
theorem dM_of_26 : decode cM_of 26 = .ok (.ireturn, 1) := by decide +kernel
theorem dM_of_27 : decode cM_of 27 = .ok (.aload_n 0, 1) := by decide +kernel
theorem dM_of_28 : decode cM_of 28 = .ok (.iconst 0, 1) := by decide +kernel
theorem dM_of_29 : decode cM_of 29 = .ok (.putfield 69, 3) := by decide +kernel
theorem dM_of_32 : decode cM_of 32 = .ok (.iload_n 2, 1) := by decide +kernel
theorem dM_of_33 : decode cM_of 33 = .ok (.tableswitch 78 0 4 #[35, 42, 49, 56, 63], 35) := by decide +kernel
theorem dM_of_68 : decode cM_of 68 = .ok (.aload_n 0, 1) := by decide +kernel
theorem dM_of_69 : decode cM_of 69 = .ok (.getfield 37, 3) := by decide +kernel
theorem dM_of_72 : decode cM_of 72 = .ok (.iload_n 1, 1) := by decide +kernel
theorem dM_of_73 : decode cM_of 73 = .ok (.iaload, 1) := by decide +kernel
theorem dM_of_74 : decode cM_of 74 = .ok (.ireturn, 1) := by decide +kernel
theorem dM_of_75 : decode cM_of 75 = .ok (.aload_n 0, 1) := by decide +kernel
theorem dM_of_76 : decode cM_of 76 = .ok (.getfield 40, 3) := by decide +kernel
theorem dM_of_79 : decode cM_of 79 = .ok (.iload_n 1, 1) := by decide +kernel
theorem dM_of_80 : decode cM_of 80 = .ok (.iaload, 1) := by decide +kernel
theorem dM_of_81 : decode cM_of 81 = .ok (.ireturn, 1) := by decide +kernel
theorem dM_of_82 : decode cM_of 82 = .ok (.aload_n 0, 1) := by decide +kernel
theorem dM_of_83 : decode cM_of 83 = .ok (.getfield 43, 3) := by decide +kernel
theorem dM_of_86 : decode cM_of 86 = .ok (.iload_n 1, 1) := by decide +kernel
theorem dM_of_87 : decode cM_of 87 = .ok (.iaload, 1) := by decide +kernel
theorem dM_of_88 : decode cM_of 88 = .ok (.ireturn, 1) := by decide +kernel
theorem dM_of_89 : decode cM_of 89 = .ok (.aload_n 0, 1) := by decide +kernel
theorem dM_of_90 : decode cM_of 90 = .ok (.getfield 46, 3) := by decide +kernel
theorem dM_of_93 : decode cM_of 93 = .ok (.iload_n 1, 1) := by decide +kernel
theorem dM_of_94 : decode cM_of 94 = .ok (.iaload, 1) := by decide +kernel
theorem dM_of_95 : decode cM_of 95 = .ok (.ireturn, 1) := by decide +kernel
theorem dM_of_96 : decode cM_of 96 = .ok (.aload_n 0, 1) := by decide +kernel
theorem dM_of_97 : decode cM_of 97 = .ok (.getfield 49, 3) := by decide +kernel
theorem dM_of_100 : decode cM_of 100 = .ok (.iload_n 1, 1) := by decide +kernel
theorem dM_of_101 : decode cM_of 101 = .ok (.baload, 1) := by decide +kernel
theorem dM_of_102 : decode cM_of 102 = .ok (.ifCond .eq 7, 3) := by decide +kernel
theorem dM_of_105 : decode cM_of 105 = .ok (.iconst 1, 1) := by decide +kernel
theorem dM_of_106 : decode cM_of 106 = .ok (.goto 4, 3) := by decide +kernel
theorem dM_of_109 : decode cM_of 109 = .ok (.iconst 0, 1) := by decide +kernel
theorem dM_of_110 : decode cM_of 110 = .ok (.ireturn, 1) := by decide +kernel
theorem dM_of_111 : decode cM_of 111 = .ok (.aload_n 0, 1) := by decide +kernel
theorem dM_of_112 : decode cM_of 112 = .ok (.getfield 53, 3) := by decide +kernel
theorem dM_of_115 : decode cM_of 115 = .ok (.iload_n 1, 1) := by decide +kernel
theorem dM_of_116 : decode cM_of 116 = .ok (.iaload, 1) := by decide +kernel
theorem dM_of_117 : decode cM_of 117 = .ok (.ireturn, 1) := by decide +kernel
theorem dM_count_0 : decode cM_count 0 = .ok (.aload_n 0, 1) := by decide +kernel
theorem dM_count_1 : decode cM_count 1 = .ok (.iconst 0, 1) := by decide +kernel
theorem dM_count_2 : decode cM_count 2 = .ok (.putfield 69, 3) := by decide +kernel
theorem dM_count_5 : decode cM_count 5 = .ok (.iload_n 1, 1) := by decide +kernel
theorem dM_count_6 : decode cM_count 6 = .ok (.bipush 10, 2) := by decide +kernel
theorem dM_count_8 : decode cM_count 8 = .ok (.if_icmp .lt 54, 3) := by decide +kernel
theorem dM_count_11 : decode cM_count 11 = .ok (.iconst 0, 1) := by decide +kernel
theorem dM_count_12 : decode cM_count 12 = .ok (.istore_n 2, 1) := by decide +kernel
theorem dM_count_13 : decode cM_count 13 = .ok (.iconst 0, 1) := by decide +kernel
theorem dM_count_14 : decode cM_count 14 = .ok (.istore_n 3, 1) := by decide +kernel
theorem dM_count_15 : decode cM_count 15 = .ok (.iload_n 3, 1) := by decide +kernel
theorem dM_count_16 : decode cM_count 16 = .ok (.aload_n 0, 1) := by decide +kernel
theorem dM_count_17 : decode cM_count 17 = .ok (.getfield 75, 3) := by decide +kernel
theorem dM_count_20 : decode cM_count 20 = .ok (.if_icmp .ge 30, 3) := by decide +kernel
theorem dM_count_23 : decode cM_count 23 = .ok (.iload_n 2, 1) := by decide +kernel
theorem dM_count_24 : decode cM_count 24 = .ok (.aload_n 0, 1) := by decide +kernel
theorem dM_count_25 : decode cM_count 25 = .ok (.getfield 19, 3) := by decide +kernel
theorem dM_count_28 : decode cM_count 28 = .ok (.iload_n 3, 1) := by decide +kernel
theorem dM_count_29 : decode cM_count 29 = .ok (.iaload, 1) := by decide +kernel
theorem dM_count_30 : decode cM_count 30 = .ok (.iload_n 1, 1) := by decide +kernel
theorem dM_count_31 : decode cM_count 31 = .ok (.bipush 10, 2) := by decide +kernel
theorem dM_count_33 : decode cM_count 33 = .ok (.isub, 1) := by decide +kernel
theorem dM_count_34 : decode cM_count 34 = .ok (.if_icmp .ne 7, 3) := by decide +kernel
theorem dM_count_37 : decode cM_count 37 = .ok (.iconst 1, 1) := by decide +kernel
theorem dM_count_38 : decode cM_count 38 = .ok (.goto 4, 3) := by decide +kernel
theorem dM_count_41 : decode cM_count 41 = .ok (.iconst 0, 1) := by decide +kernel
theorem dM_count_42 : decode cM_count 42 = .ok (.iadd, 1) := by decide +kernel
theorem dM_count_43 : decode cM_count 43 = .ok (.istore_n 2, 1) := by decide +kernel
theorem dM_count_44 : decode cM_count 44 = .ok (.iinc 3 1, 3) := by decide +kernel
theorem dM_count_47 : decode cM_count 47 = .ok (.goto (-32), 3) := by decide +kernel
theorem dM_count_50 : decode cM_count 50 = .ok (.iload_n 1, 1) := by decide +kernel
theorem dM_count_51 : decode cM_count 51 = .ok (.bipush 18, 2) := by decide +kernel
theorem dM_count_53 : decode cM_count 53 = .ok (.if_icmp .ge 7, 3) := by decide +kernel
theorem dM_count_56 : decode cM_count 56 = .ok (.iload_n 2, 1) := by decide +kernel
theorem dM_count_57 : decode cM_count 57 = .ok (.goto 4, 3) := by decide +kernel
theorem dM_count_60 : decode cM_count 60 = .ok (.iconst (-1), 1) := by decide +kernel
theorem dM_count_61 : decode cM_count 61 = .ok (.ireturn, 1) := by decide +kernel
theorem dM_count_62 : decode cM_count 62 = .ok (.iload_n 1, 1) := by decide +kernel
theorem dM_count_63 : decode cM_count 63 = .ok (.tableswitch 58 0 4 #[33, 38, 43, 48, 53], 33) := by decide +kernel
theorem dM_count_96 : decode cM_count 96 = .ok (.aload_n 0, 1) := by decide +kernel
theorem dM_count_97 : decode cM_count 97 = .ok (.getfield 72, 3) := by decide +kernel
theorem dM_count_100 : decode cM_count 100 = .ok (.ireturn, 1) := by decide +kernel
theorem dM_count_101 : decode cM_count 101 = .ok (.aload_n 0, 1) := by decide +kernel
theorem dM_count_102 : decode cM_count 102 = .ok (.getfield 75, 3) := by decide +kernel
theorem dM_count_105 : decode cM_count 105 = .ok (.ireturn, 1) := by decide +kernel
theorem dM_count_106 : decode cM_count 106 = .ok (.aload_n 0, 1) := by decide +kernel
theorem dM_count_107 : decode cM_count 107 = .ok (.getfield 90, 3) := by decide +kernel
theorem dM_count_110 : decode cM_count 110 = .ok (.ireturn, 1) := by decide +kernel
theorem dM_count_111 : decode cM_count 111 = .ok (.aload_n 0, 1) := by decide +kernel
theorem dM_count_112 : decode cM_count 112 = .ok (.invokevirtual 100, 3) := by decide +kernel
theorem dM_count_115 : decode cM_count 115 = .ok (.ireturn, 1) := by decide +kernel
theorem dM_count_116 : decode cM_count 116 = .ok (.aload_n 0, 1) := by decide +kernel
theorem dM_count_117 : decode cM_count 117 = .ok (.getfield 96, 3) := by decide +kernel
theorem dM_count_120 : decode cM_count 120 = .ok (.ireturn, 1) := by decide +kernel
theorem dM_count_121 : decode cM_count 121 = .ok (.iconst (-1), 1) := by decide +kernel
theorem dM_count_122 : decode cM_count 122 = .ok (.ireturn, 1) := by decide +kernel
end
section
theorem dL_person_0 : decode cL_person 0 = .ok (.aload_n 2, 1) := by decide +kernel
theorem dL_person_1 : decode cL_person 1 = .ok (.iconst 0, 1) := by decide +kernel
theorem dL_person_2 : decode cL_person 2 = .ok (.aload_n 0, 1) := by decide +kernel
theorem dL_person_3 : decode cL_person 3 = .ok (.iload_n 1, 1) := by decide +kernel
theorem dL_person_4 : decode cL_person 4 = .ok (.invokevirtual 7, 3) := by decide +kernel
theorem dL_person_7 : decode cL_person 7 = .ok (.i2l, 1) := by decide +kernel
theorem dL_person_8 : decode cL_person 8 = .ok (.lastore, 1) := by decide +kernel
theorem dL_person_9 : decode cL_person 9 = .ok (.goto 9, 3) := by decide +kernel
theorem dL_person_12 : decode cL_person 12 = .ok (.astore_n 3, 1) := by decide +kernel
theorem dL_person_13 : decode cL_person 13 = .ok (.iconst 1, 1) := by decide +kernel
theorem dL_person_14 : decode cL_person 14 = .ok (.ireturn, 1) := by decide +kernel
theorem dL_person_15 : decode cL_person 15 = .ok (.astore_n 3, 1) := by decide +kernel
theorem dL_person_16 : decode cL_person 16 = .ok (.iconst 2, 1) := by decide +kernel
theorem dL_person_17 : decode cL_person 17 = .ok (.ireturn, 1) := by decide +kernel
theorem dL_person_18 : decode cL_person 18 = .ok (.iconst 0, 1) := by decide +kernel
theorem dL_person_19 : decode cL_person 19 = .ok (.ireturn, 1) := by decide +kernel
theorem dL_declaration_0 : decode cL_declaration 0 = .ok (.aload_n 3, 1) := by decide +kernel
theorem dL_declaration_1 : decode cL_declaration 1 = .ok (.iconst 0, 1) := by decide +kernel
theorem dL_declaration_2 : decode cL_declaration 2 = .ok (.aload_n 0, 1) := by decide +kernel
theorem dL_declaration_3 : decode cL_declaration 3 = .ok (.iload_n 1, 1) := by decide +kernel
theorem dL_declaration_4 : decode cL_declaration 4 = .ok (.iload_n 2, 1) := by decide +kernel
theorem dL_declaration_5 : decode cL_declaration 5 = .ok (.invokevirtual 17, 3) := by decide +kernel
theorem dL_declaration_8 : decode cL_declaration 8 = .ok (.i2l, 1) := by decide +kernel
theorem dL_declaration_9 : decode cL_declaration 9 = .ok (.lastore, 1) := by decide +kernel
theorem dL_declaration_10 : decode cL_declaration 10 = .ok (.goto 11, 3) := by decide +kernel
theorem dL_declaration_13 : decode cL_declaration 13 = .ok (.astore 4, 2) := by decide +kernel
theorem dL_declaration_15 : decode cL_declaration 15 = .ok (.iconst 1, 1) := by decide +kernel
theorem dL_declaration_16 : decode cL_declaration 16 = .ok (.ireturn, 1) := by decide +kernel
theorem dL_declaration_17 : decode cL_declaration 17 = .ok (.astore 4, 2) := by decide +kernel
theorem dL_declaration_19 : decode cL_declaration 19 = .ok (.iconst 2, 1) := by decide +kernel
theorem dL_declaration_20 : decode cL_declaration 20 = .ok (.ireturn, 1) := by decide +kernel
theorem dL_declaration_21 : decode cL_declaration 21 = .ok (.iconst 0, 1) := by decide +kernel
theorem dL_declaration_22 : decode cL_declaration 22 = .ok (.ireturn, 1) := by decide +kernel
theorem dL_event_0 : decode cL_event 0 = .ok (.aload 5, 2) := by decide +kernel
theorem dL_event_2 : decode cL_event 2 = .ok (.iconst 0, 1) := by decide +kernel
theorem dL_event_3 : decode cL_event 3 = .ok (.aload_n 0, 1) := by decide +kernel
theorem dL_event_4 : decode cL_event 4 = .ok (.iload_n 1, 1) := by decide +kernel
theorem dL_event_5 : decode cL_event 5 = .ok (.iload_n 2, 1) := by decide +kernel
theorem dL_event_6 : decode cL_event 6 = .ok (.iload_n 3, 1) := by decide +kernel
theorem dL_event_7 : decode cL_event 7 = .ok (.iload 4, 2) := by decide +kernel
theorem dL_event_9 : decode cL_event 9 = .ok (.invokevirtual 21, 3) := by decide +kernel
theorem dL_event_12 : decode cL_event 12 = .ok (.i2l, 1) := by decide +kernel
theorem dL_event_13 : decode cL_event 13 = .ok (.lastore, 1) := by decide +kernel
theorem dL_event_14 : decode cL_event 14 = .ok (.goto 11, 3) := by decide +kernel
theorem dL_event_17 : decode cL_event 17 = .ok (.astore 6, 2) := by decide +kernel
theorem dL_event_19 : decode cL_event 19 = .ok (.iconst 1, 1) := by decide +kernel
theorem dL_event_20 : decode cL_event 20 = .ok (.ireturn, 1) := by decide +kernel
theorem dL_event_21 : decode cL_event 21 = .ok (.astore 6, 2) := by decide +kernel
theorem dL_event_23 : decode cL_event 23 = .ok (.iconst 2, 1) := by decide +kernel
theorem dL_event_24 : decode cL_event 24 = .ok (.ireturn, 1) := by decide +kernel
theorem dL_event_25 : decode cL_event 25 = .ok (.iconst 0, 1) := by decide +kernel
theorem dL_event_26 : decode cL_event 26 = .ok (.ireturn, 1) := by decide +kernel
theorem dL_tick_0 : decode cL_tick 0 = .ok (.aload_n 2, 1) := by decide +kernel
theorem dL_tick_1 : decode cL_tick 1 = .ok (.iconst 0, 1) := by decide +kernel
theorem dL_tick_2 : decode cL_tick 2 = .ok (.aload_n 0, 1) := by decide +kernel
theorem dL_tick_3 : decode cL_tick 3 = .ok (.iload_n 1, 1) := by decide +kernel
theorem dL_tick_4 : decode cL_tick 4 = .ok (.invokevirtual 25, 3) := by decide +kernel
theorem dL_tick_7 : decode cL_tick 7 = .ok (.i2l, 1) := by decide +kernel
theorem dL_tick_8 : decode cL_tick 8 = .ok (.lastore, 1) := by decide +kernel
theorem dL_tick_9 : decode cL_tick 9 = .ok (.goto 6, 3) := by decide +kernel
theorem dL_tick_12 : decode cL_tick 12 = .ok (.astore_n 3, 1) := by decide +kernel
theorem dL_tick_13 : decode cL_tick 13 = .ok (.iconst 1, 1) := by decide +kernel
theorem dL_tick_14 : decode cL_tick 14 = .ok (.ireturn, 1) := by decide +kernel
theorem dL_tick_15 : decode cL_tick 15 = .ok (.iconst 0, 1) := by decide +kernel
theorem dL_tick_16 : decode cL_tick 16 = .ok (.ireturn, 1) := by decide +kernel
theorem dL_bar_0 : decode cL_bar 0 = .ok (.aload 4, 2) := by decide +kernel
theorem dL_bar_2 : decode cL_bar 2 = .ok (.iconst 0, 1) := by decide +kernel
theorem dL_bar_3 : decode cL_bar 3 = .ok (.aload_n 0, 1) := by decide +kernel
theorem dL_bar_4 : decode cL_bar 4 = .ok (.iload_n 1, 1) := by decide +kernel
theorem dL_bar_5 : decode cL_bar 5 = .ok (.iload_n 2, 1) := by decide +kernel
theorem dL_bar_6 : decode cL_bar 6 = .ok (.iload_n 3, 1) := by decide +kernel
theorem dL_bar_7 : decode cL_bar 7 = .ok (.invokevirtual 28, 3) := by decide +kernel
theorem dL_bar_10 : decode cL_bar 10 = .ok (.i2l, 1) := by decide +kernel
theorem dL_bar_11 : decode cL_bar 11 = .ok (.lastore, 1) := by decide +kernel
theorem dL_bar_12 : decode cL_bar 12 = .ok (.goto 7, 3) := by decide +kernel
theorem dL_bar_15 : decode cL_bar 15 = .ok (.astore 5, 2) := by decide +kernel
theorem dL_bar_17 : decode cL_bar 17 = .ok (.iconst 1, 1) := by decide +kernel
theorem dL_bar_18 : decode cL_bar 18 = .ok (.ireturn, 1) := by decide +kernel
theorem dL_bar_19 : decode cL_bar 19 = .ok (.iconst 0, 1) := by decide +kernel
theorem dL_bar_20 : decode cL_bar 20 = .ok (.ireturn, 1) := by decide +kernel
theorem dL_invalidate_0 : decode cL_invalidate 0 = .ok (.aload 4, 2) := by decide +kernel
theorem dL_invalidate_2 : decode cL_invalidate 2 = .ok (.iconst 0, 1) := by decide +kernel
theorem dL_invalidate_3 : decode cL_invalidate 3 = .ok (.aload_n 0, 1) := by decide +kernel
theorem dL_invalidate_4 : decode cL_invalidate 4 = .ok (.iload_n 1, 1) := by decide +kernel
theorem dL_invalidate_5 : decode cL_invalidate 5 = .ok (.iload_n 2, 1) := by decide +kernel
theorem dL_invalidate_6 : decode cL_invalidate 6 = .ok (.iload_n 3, 1) := by decide +kernel
theorem dL_invalidate_7 : decode cL_invalidate 7 = .ok (.invokevirtual 32, 3) := by decide +kernel
theorem dL_invalidate_10 : decode cL_invalidate 10 = .ok (.i2l, 1) := by decide +kernel
theorem dL_invalidate_11 : decode cL_invalidate 11 = .ok (.lastore, 1) := by decide +kernel
theorem dL_invalidate_12 : decode cL_invalidate 12 = .ok (.goto 7, 3) := by decide +kernel
theorem dL_invalidate_15 : decode cL_invalidate 15 = .ok (.astore 5, 2) := by decide +kernel
theorem dL_invalidate_17 : decode cL_invalidate 17 = .ok (.iconst 1, 1) := by decide +kernel
theorem dL_invalidate_18 : decode cL_invalidate 18 = .ok (.ireturn, 1) := by decide +kernel
theorem dL_invalidate_19 : decode cL_invalidate 19 = .ok (.iconst 0, 1) := by decide +kernel
theorem dL_invalidate_20 : decode cL_invalidate 20 = .ok (.ireturn, 1) := by decide +kernel
theorem dL_look_0 : decode cL_look 0 = .ok (.aload_n 3, 1) := by decide +kernel
theorem dL_look_1 : decode cL_look 1 = .ok (.iconst 0, 1) := by decide +kernel
theorem dL_look_2 : decode cL_look 2 = .ok (.aload_n 0, 1) := by decide +kernel
theorem dL_look_3 : decode cL_look 3 = .ok (.iload_n 1, 1) := by decide +kernel
theorem dL_look_4 : decode cL_look 4 = .ok (.iload_n 2, 1) := by decide +kernel
theorem dL_look_5 : decode cL_look 5 = .ok (.invokevirtual 36, 3) := by decide +kernel
theorem dL_look_8 : decode cL_look 8 = .ok (.i2l, 1) := by decide +kernel
theorem dL_look_9 : decode cL_look 9 = .ok (.lastore, 1) := by decide +kernel
theorem dL_look_10 : decode cL_look 10 = .ok (.goto 7, 3) := by decide +kernel
theorem dL_look_13 : decode cL_look 13 = .ok (.astore 4, 2) := by decide +kernel
theorem dL_look_15 : decode cL_look 15 = .ok (.iconst 1, 1) := by decide +kernel
theorem dL_look_16 : decode cL_look 16 = .ok (.ireturn, 1) := by decide +kernel
theorem dL_look_17 : decode cL_look 17 = .ok (.iconst 0, 1) := by decide +kernel
theorem dL_look_18 : decode cL_look 18 = .ok (.ireturn, 1) := by decide +kernel
theorem dL_written_0 : decode cL_written 0 = .ok (.aload_n 3, 1) := by decide +kernel
theorem dL_written_1 : decode cL_written 1 = .ok (.iconst 0, 1) := by decide +kernel
theorem dL_written_2 : decode cL_written 2 = .ok (.aload_n 0, 1) := by decide +kernel
theorem dL_written_3 : decode cL_written 3 = .ok (.iload_n 1, 1) := by decide +kernel
theorem dL_written_4 : decode cL_written 4 = .ok (.iload_n 2, 1) := by decide +kernel
theorem dL_written_5 : decode cL_written 5 = .ok (.invokevirtual 41, 3) := by decide +kernel
theorem dL_written_8 : decode cL_written 8 = .ok (.i2l, 1) := by decide +kernel
theorem dL_written_9 : decode cL_written 9 = .ok (.lastore, 1) := by decide +kernel
theorem dL_written_10 : decode cL_written 10 = .ok (.goto 7, 3) := by decide +kernel
theorem dL_written_13 : decode cL_written 13 = .ok (.astore 4, 2) := by decide +kernel
theorem dL_written_15 : decode cL_written 15 = .ok (.iconst 1, 1) := by decide +kernel
theorem dL_written_16 : decode cL_written 16 = .ok (.ireturn, 1) := by decide +kernel
theorem dL_written_17 : decode cL_written 17 = .ok (.iconst 0, 1) := by decide +kernel
theorem dL_written_18 : decode cL_written 18 = .ok (.ireturn, 1) := by decide +kernel
theorem dL_of_0 : decode cL_of 0 = .ok (.aload_n 3, 1) := by decide +kernel
theorem dL_of_1 : decode cL_of 1 = .ok (.iconst 0, 1) := by decide +kernel
theorem dL_of_2 : decode cL_of 2 = .ok (.aload_n 0, 1) := by decide +kernel
theorem dL_of_3 : decode cL_of 3 = .ok (.iload_n 1, 1) := by decide +kernel
theorem dL_of_4 : decode cL_of 4 = .ok (.iload_n 2, 1) := by decide +kernel
theorem dL_of_5 : decode cL_of 5 = .ok (.invokevirtual 44, 3) := by decide +kernel
theorem dL_of_8 : decode cL_of 8 = .ok (.i2l, 1) := by decide +kernel
theorem dL_of_9 : decode cL_of 9 = .ok (.lastore, 1) := by decide +kernel
theorem dL_of_10 : decode cL_of 10 = .ok (.goto 7, 3) := by decide +kernel
theorem dL_of_13 : decode cL_of 13 = .ok (.astore 4, 2) := by decide +kernel
theorem dL_of_15 : decode cL_of 15 = .ok (.iconst 1, 1) := by decide +kernel
theorem dL_of_16 : decode cL_of 16 = .ok (.ireturn, 1) := by decide +kernel
theorem dL_of_17 : decode cL_of 17 = .ok (.iconst 0, 1) := by decide +kernel
theorem dL_of_18 : decode cL_of 18 = .ok (.ireturn, 1) := by decide +kernel
theorem dL_law_0 : decode code 0 = .ok (.new 8, 3) := by decide +kernel
theorem dL_law_3 : decode code 3 = .ok (.dup, 1) := by decide +kernel
theorem dL_law_4 : decode code 4 = .ok (.invokespecial 47, 3) := by decide +kernel
theorem dL_law_7 : decode code 7 = .ok (.astore_n 1, 1) := by decide +kernel
theorem dL_law_8 : decode code 8 = .ok (.new 48, 3) := by decide +kernel
theorem dL_law_11 : decode code 11 = .ok (.dup, 1) := by decide +kernel
theorem dL_law_12 : decode code 12 = .ok (.invokespecial 50, 3) := by decide +kernel
theorem dL_law_15 : decode code 15 = .ok (.astore_n 2, 1) := by decide +kernel
theorem dL_law_16 : decode code 16 = .ok (.iconst 1, 1) := by decide +kernel
theorem dL_law_17 : decode code 17 = .ok (.newarray .long, 2) := by decide +kernel
theorem dL_law_19 : decode code 19 = .ok (.astore_n 3, 1) := by decide +kernel
theorem dL_law_20 : decode code 20 = .ok (.iconst 0, 1) := by decide +kernel
theorem dL_law_21 : decode code 21 = .ok (.istore 4, 2) := by decide +kernel
theorem dL_law_23 : decode code 23 = .ok (.iload 4, 2) := by decide +kernel
theorem dL_law_25 : decode code 25 = .ok (.aload_n 0, 1) := by decide +kernel
theorem dL_law_26 : decode code 26 = .ok (.arraylength, 1) := by decide +kernel
theorem dL_law_27 : decode code 27 = .ok (.iconst 5, 1) := by decide +kernel
theorem dL_law_28 : decode code 28 = .ok (.isub, 1) := by decide +kernel
theorem dL_law_29 : decode code 29 = .ok (.if_icmp .gt 844, 3) := by decide +kernel
theorem dL_law_32 : decode code 32 = .ok (.aload_n 0, 1) := by decide +kernel
theorem dL_law_33 : decode code 33 = .ok (.iload 4, 2) := by decide +kernel
theorem dL_law_35 : decode code 35 = .ok (.iaload, 1) := by decide +kernel
theorem dL_law_36 : decode code 36 = .ok (.bipush 15, 2) := by decide +kernel
theorem dL_law_38 : decode code 38 = .ok (.iand, 1) := by decide +kernel
theorem dL_law_39 : decode code 39 = .ok (.tableswitch 828 0 11 #[61, 117, 185, 277, 333, 370, 423, 519, 599, 667, 735, 803], 61) := by decide +kernel
theorem dL_law_100 : decode code 100 = .ok (.aload_n 1, 1) := by decide +kernel
theorem dL_law_101 : decode code 101 = .ok (.aload_n 0, 1) := by decide +kernel
theorem dL_law_102 : decode code 102 = .ok (.iload 4, 2) := by decide +kernel
theorem dL_law_104 : decode code 104 = .ok (.iconst 1, 1) := by decide +kernel
theorem dL_law_105 : decode code 105 = .ok (.iadd, 1) := by decide +kernel
theorem dL_law_106 : decode code 106 = .ok (.iaload, 1) := by decide +kernel
theorem dL_law_107 : decode code 107 = .ok (.aload_n 3, 1) := by decide +kernel
theorem dL_law_108 : decode code 108 = .ok (.invokestatic 51, 3) := by decide +kernel
theorem dL_law_111 : decode code 111 = .ok (.istore 5, 2) := by decide +kernel
theorem dL_law_113 : decode code 113 = .ok (.aload_n 2, 1) := by decide +kernel
theorem dL_law_114 : decode code 114 = .ok (.aload_n 0, 1) := by decide +kernel
theorem dL_law_115 : decode code 115 = .ok (.iload 4, 2) := by decide +kernel
theorem dL_law_117 : decode code 117 = .ok (.iconst 1, 1) := by decide +kernel
theorem dL_law_118 : decode code 118 = .ok (.iadd, 1) := by decide +kernel
theorem dL_law_119 : decode code 119 = .ok (.iaload, 1) := by decide +kernel
theorem dL_law_120 : decode code 120 = .ok (.invokevirtual 56, 3) := by decide +kernel
theorem dL_law_123 : decode code 123 = .ok (.istore 6, 2) := by decide +kernel
theorem dL_law_125 : decode code 125 = .ok (.aload_n 2, 1) := by decide +kernel
theorem dL_law_126 : decode code 126 = .ok (.invokevirtual 57, 3) := by decide +kernel
theorem dL_law_129 : decode code 129 = .ok (.iload 5, 2) := by decide +kernel
theorem dL_law_131 : decode code 131 = .ok (.if_icmp .eq 5, 3) := by decide +kernel
theorem dL_law_134 : decode code 134 = .ok (.iconst 0, 1) := by decide +kernel
theorem dL_law_135 : decode code 135 = .ok (.ireturn, 1) := by decide +kernel
theorem dL_law_136 : decode code 136 = .ok (.iload 5, 2) := by decide +kernel
theorem dL_law_138 : decode code 138 = .ok (.ifCond .ne 15, 3) := by decide +kernel
theorem dL_law_141 : decode code 141 = .ok (.aload_n 3, 1) := by decide +kernel
theorem dL_law_142 : decode code 142 = .ok (.iconst 0, 1) := by decide +kernel
theorem dL_law_143 : decode code 143 = .ok (.laload, 1) := by decide +kernel
theorem dL_law_144 : decode code 144 = .ok (.iload 6, 2) := by decide +kernel
theorem dL_law_146 : decode code 146 = .ok (.i2l, 1) := by decide +kernel
theorem dL_law_147 : decode code 147 = .ok (.lcmp, 1) := by decide +kernel
theorem dL_law_148 : decode code 148 = .ok (.ifCond .eq 5, 3) := by decide +kernel
theorem dL_law_151 : decode code 151 = .ok (.iconst 0, 1) := by decide +kernel
theorem dL_law_152 : decode code 152 = .ok (.ireturn, 1) := by decide +kernel
theorem dL_law_153 : decode code 153 = .ok (.goto 714, 3) := by decide +kernel
theorem dL_law_156 : decode code 156 = .ok (.aload_n 1, 1) := by decide +kernel
theorem dL_law_157 : decode code 157 = .ok (.aload_n 0, 1) := by decide +kernel
theorem dL_law_158 : decode code 158 = .ok (.iload 4, 2) := by decide +kernel
theorem dL_law_160 : decode code 160 = .ok (.iconst 1, 1) := by decide +kernel
theorem dL_law_161 : decode code 161 = .ok (.iadd, 1) := by decide +kernel
theorem dL_law_162 : decode code 162 = .ok (.iaload, 1) := by decide +kernel
theorem dL_law_163 : decode code 163 = .ok (.aload_n 0, 1) := by decide +kernel
theorem dL_law_164 : decode code 164 = .ok (.iload 4, 2) := by decide +kernel
theorem dL_law_166 : decode code 166 = .ok (.iconst 2, 1) := by decide +kernel
theorem dL_law_167 : decode code 167 = .ok (.iadd, 1) := by decide +kernel
theorem dL_law_168 : decode code 168 = .ok (.iaload, 1) := by decide +kernel
theorem dL_law_169 : decode code 169 = .ok (.aload_n 3, 1) := by decide +kernel
theorem dL_law_170 : decode code 170 = .ok (.invokestatic 61, 3) := by decide +kernel
theorem dL_law_173 : decode code 173 = .ok (.istore 5, 2) := by decide +kernel
theorem dL_law_175 : decode code 175 = .ok (.aload_n 2, 1) := by decide +kernel
theorem dL_law_176 : decode code 176 = .ok (.aload_n 0, 1) := by decide +kernel
theorem dL_law_177 : decode code 177 = .ok (.iload 4, 2) := by decide +kernel
theorem dL_law_179 : decode code 179 = .ok (.iconst 1, 1) := by decide +kernel
theorem dL_law_180 : decode code 180 = .ok (.iadd, 1) := by decide +kernel
theorem dL_law_181 : decode code 181 = .ok (.iaload, 1) := by decide +kernel
theorem dL_law_182 : decode code 182 = .ok (.aload_n 0, 1) := by decide +kernel
theorem dL_law_183 : decode code 183 = .ok (.iload 4, 2) := by decide +kernel
theorem dL_law_185 : decode code 185 = .ok (.iconst 2, 1) := by decide +kernel
theorem dL_law_186 : decode code 186 = .ok (.iadd, 1) := by decide +kernel
theorem dL_law_187 : decode code 187 = .ok (.iaload, 1) := by decide +kernel
theorem dL_law_188 : decode code 188 = .ok (.invokevirtual 64, 3) := by decide +kernel
theorem dL_law_191 : decode code 191 = .ok (.istore 6, 2) := by decide +kernel
theorem dL_law_193 : decode code 193 = .ok (.aload_n 2, 1) := by decide +kernel
theorem dL_law_194 : decode code 194 = .ok (.invokevirtual 57, 3) := by decide +kernel
theorem dL_law_197 : decode code 197 = .ok (.iload 5, 2) := by decide +kernel
theorem dL_law_199 : decode code 199 = .ok (.if_icmp .eq 5, 3) := by decide +kernel
theorem dL_law_202 : decode code 202 = .ok (.iconst 0, 1) := by decide +kernel
theorem dL_law_203 : decode code 203 = .ok (.ireturn, 1) := by decide +kernel
theorem dL_law_204 : decode code 204 = .ok (.iload 5, 2) := by decide +kernel
theorem dL_law_206 : decode code 206 = .ok (.ifCond .ne 15, 3) := by decide +kernel
theorem dL_law_209 : decode code 209 = .ok (.aload_n 3, 1) := by decide +kernel
theorem dL_law_210 : decode code 210 = .ok (.iconst 0, 1) := by decide +kernel
theorem dL_law_211 : decode code 211 = .ok (.laload, 1) := by decide +kernel
theorem dL_law_212 : decode code 212 = .ok (.iload 6, 2) := by decide +kernel
theorem dL_law_214 : decode code 214 = .ok (.i2l, 1) := by decide +kernel
theorem dL_law_215 : decode code 215 = .ok (.lcmp, 1) := by decide +kernel
theorem dL_law_216 : decode code 216 = .ok (.ifCond .eq 5, 3) := by decide +kernel
theorem dL_law_219 : decode code 219 = .ok (.iconst 0, 1) := by decide +kernel
theorem dL_law_220 : decode code 220 = .ok (.ireturn, 1) := by decide +kernel
theorem dL_law_221 : decode code 221 = .ok (.goto 646, 3) := by decide +kernel
theorem dL_law_224 : decode code 224 = .ok (.aload_n 1, 1) := by decide +kernel
theorem dL_law_225 : decode code 225 = .ok (.aload_n 0, 1) := by decide +kernel
theorem dL_law_226 : decode code 226 = .ok (.iload 4, 2) := by decide +kernel
theorem dL_law_228 : decode code 228 = .ok (.iconst 1, 1) := by decide +kernel
theorem dL_law_229 : decode code 229 = .ok (.iadd, 1) := by decide +kernel
theorem dL_law_230 : decode code 230 = .ok (.iaload, 1) := by decide +kernel
theorem dL_law_231 : decode code 231 = .ok (.aload_n 0, 1) := by decide +kernel
theorem dL_law_232 : decode code 232 = .ok (.iload 4, 2) := by decide +kernel
theorem dL_law_234 : decode code 234 = .ok (.iconst 2, 1) := by decide +kernel
theorem dL_law_235 : decode code 235 = .ok (.iadd, 1) := by decide +kernel
theorem dL_law_236 : decode code 236 = .ok (.iaload, 1) := by decide +kernel
theorem dL_law_237 : decode code 237 = .ok (.aload_n 0, 1) := by decide +kernel
theorem dL_law_238 : decode code 238 = .ok (.iload 4, 2) := by decide +kernel
theorem dL_law_240 : decode code 240 = .ok (.iconst 3, 1) := by decide +kernel
theorem dL_law_241 : decode code 241 = .ok (.iadd, 1) := by decide +kernel
theorem dL_law_242 : decode code 242 = .ok (.iaload, 1) := by decide +kernel
theorem dL_law_243 : decode code 243 = .ok (.aload_n 0, 1) := by decide +kernel
theorem dL_law_244 : decode code 244 = .ok (.iload 4, 2) := by decide +kernel
theorem dL_law_246 : decode code 246 = .ok (.iconst 4, 1) := by decide +kernel
theorem dL_law_247 : decode code 247 = .ok (.iadd, 1) := by decide +kernel
theorem dL_law_248 : decode code 248 = .ok (.iaload, 1) := by decide +kernel
theorem dL_law_249 : decode code 249 = .ok (.aload_n 3, 1) := by decide +kernel
theorem dL_law_250 : decode code 250 = .ok (.invokestatic 65, 3) := by decide +kernel
theorem dL_law_253 : decode code 253 = .ok (.istore 5, 2) := by decide +kernel
theorem dL_law_255 : decode code 255 = .ok (.aload_n 2, 1) := by decide +kernel
theorem dL_law_256 : decode code 256 = .ok (.aload_n 0, 1) := by decide +kernel
theorem dL_law_257 : decode code 257 = .ok (.iload 4, 2) := by decide +kernel
theorem dL_law_259 : decode code 259 = .ok (.iconst 1, 1) := by decide +kernel
theorem dL_law_260 : decode code 260 = .ok (.iadd, 1) := by decide +kernel
theorem dL_law_261 : decode code 261 = .ok (.iaload, 1) := by decide +kernel
theorem dL_law_262 : decode code 262 = .ok (.aload_n 0, 1) := by decide +kernel
theorem dL_law_263 : decode code 263 = .ok (.iload 4, 2) := by decide +kernel
theorem dL_law_265 : decode code 265 = .ok (.iconst 2, 1) := by decide +kernel
theorem dL_law_266 : decode code 266 = .ok (.iadd, 1) := by decide +kernel
theorem dL_law_267 : decode code 267 = .ok (.iaload, 1) := by decide +kernel
theorem dL_law_268 : decode code 268 = .ok (.aload_n 0, 1) := by decide +kernel
theorem dL_law_269 : decode code 269 = .ok (.iload 4, 2) := by decide +kernel
theorem dL_law_271 : decode code 271 = .ok (.iconst 3, 1) := by decide +kernel
theorem dL_law_272 : decode code 272 = .ok (.iadd, 1) := by decide +kernel
theorem dL_law_273 : decode code 273 = .ok (.iaload, 1) := by decide +kernel
theorem dL_law_274 : decode code 274 = .ok (.aload_n 0, 1) := by decide +kernel
theorem dL_law_275 : decode code 275 = .ok (.iload 4, 2) := by decide +kernel
theorem dL_law_277 : decode code 277 = .ok (.iconst 4, 1) := by decide +kernel
theorem dL_law_278 : decode code 278 = .ok (.iadd, 1) := by decide +kernel
theorem dL_law_279 : decode code 279 = .ok (.iaload, 1) := by decide +kernel
theorem dL_law_280 : decode code 280 = .ok (.invokevirtual 68, 3) := by decide +kernel
theorem dL_law_283 : decode code 283 = .ok (.istore 6, 2) := by decide +kernel
theorem dL_law_285 : decode code 285 = .ok (.aload_n 2, 1) := by decide +kernel
theorem dL_law_286 : decode code 286 = .ok (.invokevirtual 57, 3) := by decide +kernel
theorem dL_law_289 : decode code 289 = .ok (.iload 5, 2) := by decide +kernel
theorem dL_law_291 : decode code 291 = .ok (.if_icmp .eq 5, 3) := by decide +kernel
theorem dL_law_294 : decode code 294 = .ok (.iconst 0, 1) := by decide +kernel
theorem dL_law_295 : decode code 295 = .ok (.ireturn, 1) := by decide +kernel
theorem dL_law_296 : decode code 296 = .ok (.iload 5, 2) := by decide +kernel
theorem dL_law_298 : decode code 298 = .ok (.ifCond .ne 15, 3) := by decide +kernel
theorem dL_law_301 : decode code 301 = .ok (.aload_n 3, 1) := by decide +kernel
theorem dL_law_302 : decode code 302 = .ok (.iconst 0, 1) := by decide +kernel
theorem dL_law_303 : decode code 303 = .ok (.laload, 1) := by decide +kernel
theorem dL_law_304 : decode code 304 = .ok (.iload 6, 2) := by decide +kernel
theorem dL_law_306 : decode code 306 = .ok (.i2l, 1) := by decide +kernel
theorem dL_law_307 : decode code 307 = .ok (.lcmp, 1) := by decide +kernel
theorem dL_law_308 : decode code 308 = .ok (.ifCond .eq 5, 3) := by decide +kernel
theorem dL_law_311 : decode code 311 = .ok (.iconst 0, 1) := by decide +kernel
theorem dL_law_312 : decode code 312 = .ok (.ireturn, 1) := by decide +kernel
theorem dL_law_313 : decode code 313 = .ok (.goto 554, 3) := by decide +kernel
theorem dL_law_316 : decode code 316 = .ok (.aload_n 1, 1) := by decide +kernel
theorem dL_law_317 : decode code 317 = .ok (.aload_n 0, 1) := by decide +kernel
theorem dL_law_318 : decode code 318 = .ok (.iload 4, 2) := by decide +kernel
theorem dL_law_320 : decode code 320 = .ok (.iconst 1, 1) := by decide +kernel
theorem dL_law_321 : decode code 321 = .ok (.iadd, 1) := by decide +kernel
theorem dL_law_322 : decode code 322 = .ok (.iaload, 1) := by decide +kernel
theorem dL_law_323 : decode code 323 = .ok (.aload_n 3, 1) := by decide +kernel
theorem dL_law_324 : decode code 324 = .ok (.invokestatic 69, 3) := by decide +kernel
theorem dL_law_327 : decode code 327 = .ok (.istore 5, 2) := by decide +kernel
theorem dL_law_329 : decode code 329 = .ok (.aload_n 2, 1) := by decide +kernel
theorem dL_law_330 : decode code 330 = .ok (.aload_n 0, 1) := by decide +kernel
theorem dL_law_331 : decode code 331 = .ok (.iload 4, 2) := by decide +kernel
theorem dL_law_333 : decode code 333 = .ok (.iconst 1, 1) := by decide +kernel
theorem dL_law_334 : decode code 334 = .ok (.iadd, 1) := by decide +kernel
theorem dL_law_335 : decode code 335 = .ok (.iaload, 1) := by decide +kernel
theorem dL_law_336 : decode code 336 = .ok (.invokevirtual 71, 3) := by decide +kernel
theorem dL_law_339 : decode code 339 = .ok (.istore 6, 2) := by decide +kernel
theorem dL_law_341 : decode code 341 = .ok (.aload_n 2, 1) := by decide +kernel
theorem dL_law_342 : decode code 342 = .ok (.invokevirtual 57, 3) := by decide +kernel
theorem dL_law_345 : decode code 345 = .ok (.iload 5, 2) := by decide +kernel
theorem dL_law_347 : decode code 347 = .ok (.if_icmp .eq 5, 3) := by decide +kernel
theorem dL_law_350 : decode code 350 = .ok (.iconst 0, 1) := by decide +kernel
theorem dL_law_351 : decode code 351 = .ok (.ireturn, 1) := by decide +kernel
theorem dL_law_352 : decode code 352 = .ok (.iload 5, 2) := by decide +kernel
theorem dL_law_354 : decode code 354 = .ok (.ifCond .ne 15, 3) := by decide +kernel
theorem dL_law_357 : decode code 357 = .ok (.aload_n 3, 1) := by decide +kernel
theorem dL_law_358 : decode code 358 = .ok (.iconst 0, 1) := by decide +kernel
theorem dL_law_359 : decode code 359 = .ok (.laload, 1) := by decide +kernel
theorem dL_law_360 : decode code 360 = .ok (.iload 6, 2) := by decide +kernel
theorem dL_law_362 : decode code 362 = .ok (.i2l, 1) := by decide +kernel
theorem dL_law_363 : decode code 363 = .ok (.lcmp, 1) := by decide +kernel
theorem dL_law_364 : decode code 364 = .ok (.ifCond .eq 5, 3) := by decide +kernel
theorem dL_law_367 : decode code 367 = .ok (.iconst 0, 1) := by decide +kernel
theorem dL_law_368 : decode code 368 = .ok (.ireturn, 1) := by decide +kernel
theorem dL_law_369 : decode code 369 = .ok (.goto 498, 3) := by decide +kernel
theorem dL_law_372 : decode code 372 = .ok (.aload_n 1, 1) := by decide +kernel
theorem dL_law_373 : decode code 373 = .ok (.aload_n 0, 1) := by decide +kernel
theorem dL_law_374 : decode code 374 = .ok (.iload 4, 2) := by decide +kernel
theorem dL_law_376 : decode code 376 = .ok (.iconst 1, 1) := by decide +kernel
theorem dL_law_377 : decode code 377 = .ok (.iadd, 1) := by decide +kernel
theorem dL_law_378 : decode code 378 = .ok (.iaload, 1) := by decide +kernel
theorem dL_law_379 : decode code 379 = .ok (.aload_n 0, 1) := by decide +kernel
theorem dL_law_380 : decode code 380 = .ok (.iload 4, 2) := by decide +kernel
theorem dL_law_382 : decode code 382 = .ok (.iconst 2, 1) := by decide +kernel
theorem dL_law_383 : decode code 383 = .ok (.iadd, 1) := by decide +kernel
theorem dL_law_384 : decode code 384 = .ok (.iaload, 1) := by decide +kernel
theorem dL_law_385 : decode code 385 = .ok (.invokevirtual 72, 3) := by decide +kernel
theorem dL_law_388 : decode code 388 = .ok (.aload_n 2, 1) := by decide +kernel
theorem dL_law_389 : decode code 389 = .ok (.aload_n 0, 1) := by decide +kernel
theorem dL_law_390 : decode code 390 = .ok (.iload 4, 2) := by decide +kernel
theorem dL_law_392 : decode code 392 = .ok (.iconst 1, 1) := by decide +kernel
theorem dL_law_393 : decode code 393 = .ok (.iadd, 1) := by decide +kernel
theorem dL_law_394 : decode code 394 = .ok (.iaload, 1) := by decide +kernel
theorem dL_law_395 : decode code 395 = .ok (.aload_n 0, 1) := by decide +kernel
theorem dL_law_396 : decode code 396 = .ok (.iload 4, 2) := by decide +kernel
theorem dL_law_398 : decode code 398 = .ok (.iconst 2, 1) := by decide +kernel
theorem dL_law_399 : decode code 399 = .ok (.iadd, 1) := by decide +kernel
theorem dL_law_400 : decode code 400 = .ok (.iaload, 1) := by decide +kernel
theorem dL_law_401 : decode code 401 = .ok (.invokevirtual 76, 3) := by decide +kernel
theorem dL_law_404 : decode code 404 = .ok (.if_icmp .eq 463, 3) := by decide +kernel
theorem dL_law_407 : decode code 407 = .ok (.iconst 0, 1) := by decide +kernel
theorem dL_law_408 : decode code 408 = .ok (.ireturn, 1) := by decide +kernel
theorem dL_law_409 : decode code 409 = .ok (.aload_n 1, 1) := by decide +kernel
theorem dL_law_410 : decode code 410 = .ok (.aload_n 0, 1) := by decide +kernel
theorem dL_law_411 : decode code 411 = .ok (.iload 4, 2) := by decide +kernel
theorem dL_law_413 : decode code 413 = .ok (.iconst 1, 1) := by decide +kernel
theorem dL_law_414 : decode code 414 = .ok (.iadd, 1) := by decide +kernel
theorem dL_law_415 : decode code 415 = .ok (.iaload, 1) := by decide +kernel
theorem dL_law_416 : decode code 416 = .ok (.aload_n 0, 1) := by decide +kernel
theorem dL_law_417 : decode code 417 = .ok (.iload 4, 2) := by decide +kernel
theorem dL_law_419 : decode code 419 = .ok (.iconst 2, 1) := by decide +kernel
theorem dL_law_420 : decode code 420 = .ok (.iadd, 1) := by decide +kernel
theorem dL_law_421 : decode code 421 = .ok (.iaload, 1) := by decide +kernel
theorem dL_law_422 : decode code 422 = .ok (.ifCond .eq 7, 3) := by decide +kernel
theorem dL_law_425 : decode code 425 = .ok (.iconst 1, 1) := by decide +kernel
theorem dL_law_426 : decode code 426 = .ok (.goto 4, 3) := by decide +kernel
theorem dL_law_429 : decode code 429 = .ok (.iconst 0, 1) := by decide +kernel
theorem dL_law_430 : decode code 430 = .ok (.invokevirtual 77, 3) := by decide +kernel
theorem dL_law_433 : decode code 433 = .ok (.aload_n 2, 1) := by decide +kernel
theorem dL_law_434 : decode code 434 = .ok (.aload_n 0, 1) := by decide +kernel
theorem dL_law_435 : decode code 435 = .ok (.iload 4, 2) := by decide +kernel
theorem dL_law_437 : decode code 437 = .ok (.iconst 1, 1) := by decide +kernel
theorem dL_law_438 : decode code 438 = .ok (.iadd, 1) := by decide +kernel
theorem dL_law_439 : decode code 439 = .ok (.iaload, 1) := by decide +kernel
theorem dL_law_440 : decode code 440 = .ok (.aload_n 0, 1) := by decide +kernel
theorem dL_law_441 : decode code 441 = .ok (.iload 4, 2) := by decide +kernel
theorem dL_law_443 : decode code 443 = .ok (.iconst 2, 1) := by decide +kernel
theorem dL_law_444 : decode code 444 = .ok (.iadd, 1) := by decide +kernel
theorem dL_law_445 : decode code 445 = .ok (.iaload, 1) := by decide +kernel
theorem dL_law_446 : decode code 446 = .ok (.ifCond .eq 7, 3) := by decide +kernel
theorem dL_law_449 : decode code 449 = .ok (.iconst 1, 1) := by decide +kernel
theorem dL_law_450 : decode code 450 = .ok (.goto 4, 3) := by decide +kernel
theorem dL_law_453 : decode code 453 = .ok (.iconst 0, 1) := by decide +kernel
theorem dL_law_454 : decode code 454 = .ok (.invokevirtual 81, 3) := by decide +kernel
theorem dL_law_457 : decode code 457 = .ok (.if_icmp .eq 410, 3) := by decide +kernel
theorem dL_law_460 : decode code 460 = .ok (.iconst 0, 1) := by decide +kernel
theorem dL_law_461 : decode code 461 = .ok (.ireturn, 1) := by decide +kernel
theorem dL_law_462 : decode code 462 = .ok (.aload_n 1, 1) := by decide +kernel
theorem dL_law_463 : decode code 463 = .ok (.aload_n 0, 1) := by decide +kernel
theorem dL_law_464 : decode code 464 = .ok (.iload 4, 2) := by decide +kernel
theorem dL_law_466 : decode code 466 = .ok (.iconst 1, 1) := by decide +kernel
theorem dL_law_467 : decode code 467 = .ok (.iadd, 1) := by decide +kernel
theorem dL_law_468 : decode code 468 = .ok (.iaload, 1) := by decide +kernel
theorem dL_law_469 : decode code 469 = .ok (.aload_n 0, 1) := by decide +kernel
theorem dL_law_470 : decode code 470 = .ok (.iload 4, 2) := by decide +kernel
theorem dL_law_472 : decode code 472 = .ok (.iconst 2, 1) := by decide +kernel
theorem dL_law_473 : decode code 473 = .ok (.iadd, 1) := by decide +kernel
theorem dL_law_474 : decode code 474 = .ok (.iaload, 1) := by decide +kernel
theorem dL_law_475 : decode code 475 = .ok (.aload_n 0, 1) := by decide +kernel
theorem dL_law_476 : decode code 476 = .ok (.iload 4, 2) := by decide +kernel
theorem dL_law_478 : decode code 478 = .ok (.iconst 3, 1) := by decide +kernel
theorem dL_law_479 : decode code 479 = .ok (.iadd, 1) := by decide +kernel
theorem dL_law_480 : decode code 480 = .ok (.iaload, 1) := by decide +kernel
theorem dL_law_481 : decode code 481 = .ok (.ifCond .eq 7, 3) := by decide +kernel
theorem dL_law_484 : decode code 484 = .ok (.iconst 1, 1) := by decide +kernel
theorem dL_law_485 : decode code 485 = .ok (.goto 4, 3) := by decide +kernel
theorem dL_law_488 : decode code 488 = .ok (.iconst 0, 1) := by decide +kernel
theorem dL_law_489 : decode code 489 = .ok (.aload_n 3, 1) := by decide +kernel
theorem dL_law_490 : decode code 490 = .ok (.invokestatic 82, 3) := by decide +kernel
theorem dL_law_493 : decode code 493 = .ok (.istore 5, 2) := by decide +kernel
theorem dL_law_495 : decode code 495 = .ok (.aload_n 2, 1) := by decide +kernel
theorem dL_law_496 : decode code 496 = .ok (.aload_n 0, 1) := by decide +kernel
theorem dL_law_497 : decode code 497 = .ok (.iload 4, 2) := by decide +kernel
theorem dL_law_499 : decode code 499 = .ok (.iconst 1, 1) := by decide +kernel
theorem dL_law_500 : decode code 500 = .ok (.iadd, 1) := by decide +kernel
theorem dL_law_501 : decode code 501 = .ok (.iaload, 1) := by decide +kernel
theorem dL_law_502 : decode code 502 = .ok (.aload_n 0, 1) := by decide +kernel
theorem dL_law_503 : decode code 503 = .ok (.iload 4, 2) := by decide +kernel
theorem dL_law_505 : decode code 505 = .ok (.iconst 2, 1) := by decide +kernel
theorem dL_law_506 : decode code 506 = .ok (.iadd, 1) := by decide +kernel
theorem dL_law_507 : decode code 507 = .ok (.iaload, 1) := by decide +kernel
theorem dL_law_508 : decode code 508 = .ok (.aload_n 0, 1) := by decide +kernel
theorem dL_law_509 : decode code 509 = .ok (.iload 4, 2) := by decide +kernel
theorem dL_law_511 : decode code 511 = .ok (.iconst 3, 1) := by decide +kernel
theorem dL_law_512 : decode code 512 = .ok (.iadd, 1) := by decide +kernel
theorem dL_law_513 : decode code 513 = .ok (.iaload, 1) := by decide +kernel
theorem dL_law_514 : decode code 514 = .ok (.ifCond .eq 7, 3) := by decide +kernel
theorem dL_law_517 : decode code 517 = .ok (.iconst 1, 1) := by decide +kernel
theorem dL_law_518 : decode code 518 = .ok (.goto 4, 3) := by decide +kernel
theorem dL_law_521 : decode code 521 = .ok (.iconst 0, 1) := by decide +kernel
theorem dL_law_522 : decode code 522 = .ok (.invokevirtual 85, 3) := by decide +kernel
theorem dL_law_525 : decode code 525 = .ok (.istore 6, 2) := by decide +kernel
theorem dL_law_527 : decode code 527 = .ok (.aload_n 2, 1) := by decide +kernel
theorem dL_law_528 : decode code 528 = .ok (.invokevirtual 57, 3) := by decide +kernel
theorem dL_law_531 : decode code 531 = .ok (.iload 5, 2) := by decide +kernel
theorem dL_law_533 : decode code 533 = .ok (.if_icmp .eq 5, 3) := by decide +kernel
theorem dL_law_536 : decode code 536 = .ok (.iconst 0, 1) := by decide +kernel
theorem dL_law_537 : decode code 537 = .ok (.ireturn, 1) := by decide +kernel
theorem dL_law_538 : decode code 538 = .ok (.iload 5, 2) := by decide +kernel
theorem dL_law_540 : decode code 540 = .ok (.ifCond .ne 15, 3) := by decide +kernel
theorem dL_law_543 : decode code 543 = .ok (.aload_n 3, 1) := by decide +kernel
theorem dL_law_544 : decode code 544 = .ok (.iconst 0, 1) := by decide +kernel
theorem dL_law_545 : decode code 545 = .ok (.laload, 1) := by decide +kernel
theorem dL_law_546 : decode code 546 = .ok (.iload 6, 2) := by decide +kernel
theorem dL_law_548 : decode code 548 = .ok (.i2l, 1) := by decide +kernel
theorem dL_law_549 : decode code 549 = .ok (.lcmp, 1) := by decide +kernel
theorem dL_law_550 : decode code 550 = .ok (.ifCond .eq 5, 3) := by decide +kernel
theorem dL_law_553 : decode code 553 = .ok (.iconst 0, 1) := by decide +kernel
theorem dL_law_554 : decode code 554 = .ok (.ireturn, 1) := by decide +kernel
theorem dL_law_555 : decode code 555 = .ok (.goto 312, 3) := by decide +kernel
theorem dL_law_558 : decode code 558 = .ok (.aload_n 1, 1) := by decide +kernel
theorem dL_law_559 : decode code 559 = .ok (.aload_n 0, 1) := by decide +kernel
theorem dL_law_560 : decode code 560 = .ok (.iload 4, 2) := by decide +kernel
theorem dL_law_562 : decode code 562 = .ok (.iconst 1, 1) := by decide +kernel
theorem dL_law_563 : decode code 563 = .ok (.iadd, 1) := by decide +kernel
theorem dL_law_564 : decode code 564 = .ok (.iaload, 1) := by decide +kernel
theorem dL_law_565 : decode code 565 = .ok (.aload_n 0, 1) := by decide +kernel
theorem dL_law_566 : decode code 566 = .ok (.iload 4, 2) := by decide +kernel
theorem dL_law_568 : decode code 568 = .ok (.iconst 2, 1) := by decide +kernel
theorem dL_law_569 : decode code 569 = .ok (.iadd, 1) := by decide +kernel
theorem dL_law_570 : decode code 570 = .ok (.iaload, 1) := by decide +kernel
theorem dL_law_571 : decode code 571 = .ok (.aload_n 0, 1) := by decide +kernel
theorem dL_law_572 : decode code 572 = .ok (.iload 4, 2) := by decide +kernel
theorem dL_law_574 : decode code 574 = .ok (.iconst 3, 1) := by decide +kernel
theorem dL_law_575 : decode code 575 = .ok (.iadd, 1) := by decide +kernel
theorem dL_law_576 : decode code 576 = .ok (.iaload, 1) := by decide +kernel
theorem dL_law_577 : decode code 577 = .ok (.aload_n 3, 1) := by decide +kernel
theorem dL_law_578 : decode code 578 = .ok (.invokestatic 86, 3) := by decide +kernel
theorem dL_law_581 : decode code 581 = .ok (.istore 5, 2) := by decide +kernel
theorem dL_law_583 : decode code 583 = .ok (.aload_n 2, 1) := by decide +kernel
theorem dL_law_584 : decode code 584 = .ok (.aload_n 0, 1) := by decide +kernel
theorem dL_law_585 : decode code 585 = .ok (.iload 4, 2) := by decide +kernel
theorem dL_law_587 : decode code 587 = .ok (.iconst 1, 1) := by decide +kernel
theorem dL_law_588 : decode code 588 = .ok (.iadd, 1) := by decide +kernel
theorem dL_law_589 : decode code 589 = .ok (.iaload, 1) := by decide +kernel
theorem dL_law_590 : decode code 590 = .ok (.aload_n 0, 1) := by decide +kernel
theorem dL_law_591 : decode code 591 = .ok (.iload 4, 2) := by decide +kernel
theorem dL_law_593 : decode code 593 = .ok (.iconst 2, 1) := by decide +kernel
theorem dL_law_594 : decode code 594 = .ok (.iadd, 1) := by decide +kernel
theorem dL_law_595 : decode code 595 = .ok (.iaload, 1) := by decide +kernel
theorem dL_law_596 : decode code 596 = .ok (.aload_n 0, 1) := by decide +kernel
theorem dL_law_597 : decode code 597 = .ok (.iload 4, 2) := by decide +kernel
theorem dL_law_599 : decode code 599 = .ok (.iconst 3, 1) := by decide +kernel
theorem dL_law_600 : decode code 600 = .ok (.iadd, 1) := by decide +kernel
theorem dL_law_601 : decode code 601 = .ok (.iaload, 1) := by decide +kernel
theorem dL_law_602 : decode code 602 = .ok (.invokevirtual 89, 3) := by decide +kernel
theorem dL_law_605 : decode code 605 = .ok (.istore 6, 2) := by decide +kernel
theorem dL_law_607 : decode code 607 = .ok (.aload_n 2, 1) := by decide +kernel
theorem dL_law_608 : decode code 608 = .ok (.invokevirtual 57, 3) := by decide +kernel
theorem dL_law_611 : decode code 611 = .ok (.iload 5, 2) := by decide +kernel
theorem dL_law_613 : decode code 613 = .ok (.if_icmp .eq 5, 3) := by decide +kernel
theorem dL_law_616 : decode code 616 = .ok (.iconst 0, 1) := by decide +kernel
theorem dL_law_617 : decode code 617 = .ok (.ireturn, 1) := by decide +kernel
theorem dL_law_618 : decode code 618 = .ok (.iload 5, 2) := by decide +kernel
theorem dL_law_620 : decode code 620 = .ok (.ifCond .ne 15, 3) := by decide +kernel
theorem dL_law_623 : decode code 623 = .ok (.aload_n 3, 1) := by decide +kernel
theorem dL_law_624 : decode code 624 = .ok (.iconst 0, 1) := by decide +kernel
theorem dL_law_625 : decode code 625 = .ok (.laload, 1) := by decide +kernel
theorem dL_law_626 : decode code 626 = .ok (.iload 6, 2) := by decide +kernel
theorem dL_law_628 : decode code 628 = .ok (.i2l, 1) := by decide +kernel
theorem dL_law_629 : decode code 629 = .ok (.lcmp, 1) := by decide +kernel
theorem dL_law_630 : decode code 630 = .ok (.ifCond .eq 5, 3) := by decide +kernel
theorem dL_law_633 : decode code 633 = .ok (.iconst 0, 1) := by decide +kernel
theorem dL_law_634 : decode code 634 = .ok (.ireturn, 1) := by decide +kernel
theorem dL_law_635 : decode code 635 = .ok (.goto 232, 3) := by decide +kernel
theorem dL_law_638 : decode code 638 = .ok (.aload_n 1, 1) := by decide +kernel
theorem dL_law_639 : decode code 639 = .ok (.aload_n 0, 1) := by decide +kernel
theorem dL_law_640 : decode code 640 = .ok (.iload 4, 2) := by decide +kernel
theorem dL_law_642 : decode code 642 = .ok (.iconst 1, 1) := by decide +kernel
theorem dL_law_643 : decode code 643 = .ok (.iadd, 1) := by decide +kernel
theorem dL_law_644 : decode code 644 = .ok (.iaload, 1) := by decide +kernel
theorem dL_law_645 : decode code 645 = .ok (.aload_n 0, 1) := by decide +kernel
theorem dL_law_646 : decode code 646 = .ok (.iload 4, 2) := by decide +kernel
theorem dL_law_648 : decode code 648 = .ok (.iconst 2, 1) := by decide +kernel
theorem dL_law_649 : decode code 649 = .ok (.iadd, 1) := by decide +kernel
theorem dL_law_650 : decode code 650 = .ok (.iaload, 1) := by decide +kernel
theorem dL_law_651 : decode code 651 = .ok (.aload_n 3, 1) := by decide +kernel
theorem dL_law_652 : decode code 652 = .ok (.invokestatic 90, 3) := by decide +kernel
theorem dL_law_655 : decode code 655 = .ok (.istore 5, 2) := by decide +kernel
theorem dL_law_657 : decode code 657 = .ok (.aload_n 2, 1) := by decide +kernel
theorem dL_law_658 : decode code 658 = .ok (.aload_n 0, 1) := by decide +kernel
theorem dL_law_659 : decode code 659 = .ok (.iload 4, 2) := by decide +kernel
theorem dL_law_661 : decode code 661 = .ok (.iconst 1, 1) := by decide +kernel
theorem dL_law_662 : decode code 662 = .ok (.iadd, 1) := by decide +kernel
theorem dL_law_663 : decode code 663 = .ok (.iaload, 1) := by decide +kernel
theorem dL_law_664 : decode code 664 = .ok (.aload_n 0, 1) := by decide +kernel
theorem dL_law_665 : decode code 665 = .ok (.iload 4, 2) := by decide +kernel
theorem dL_law_667 : decode code 667 = .ok (.iconst 2, 1) := by decide +kernel
theorem dL_law_668 : decode code 668 = .ok (.iadd, 1) := by decide +kernel
theorem dL_law_669 : decode code 669 = .ok (.iaload, 1) := by decide +kernel
theorem dL_law_670 : decode code 670 = .ok (.invokevirtual 92, 3) := by decide +kernel
theorem dL_law_673 : decode code 673 = .ok (.istore 6, 2) := by decide +kernel
theorem dL_law_675 : decode code 675 = .ok (.aload_n 2, 1) := by decide +kernel
theorem dL_law_676 : decode code 676 = .ok (.invokevirtual 57, 3) := by decide +kernel
theorem dL_law_679 : decode code 679 = .ok (.iload 5, 2) := by decide +kernel
theorem dL_law_681 : decode code 681 = .ok (.if_icmp .eq 5, 3) := by decide +kernel
theorem dL_law_684 : decode code 684 = .ok (.iconst 0, 1) := by decide +kernel
theorem dL_law_685 : decode code 685 = .ok (.ireturn, 1) := by decide +kernel
theorem dL_law_686 : decode code 686 = .ok (.iload 5, 2) := by decide +kernel
theorem dL_law_688 : decode code 688 = .ok (.ifCond .ne 15, 3) := by decide +kernel
theorem dL_law_691 : decode code 691 = .ok (.aload_n 3, 1) := by decide +kernel
theorem dL_law_692 : decode code 692 = .ok (.iconst 0, 1) := by decide +kernel
theorem dL_law_693 : decode code 693 = .ok (.laload, 1) := by decide +kernel
theorem dL_law_694 : decode code 694 = .ok (.iload 6, 2) := by decide +kernel
theorem dL_law_696 : decode code 696 = .ok (.i2l, 1) := by decide +kernel
theorem dL_law_697 : decode code 697 = .ok (.lcmp, 1) := by decide +kernel
theorem dL_law_698 : decode code 698 = .ok (.ifCond .eq 5, 3) := by decide +kernel
theorem dL_law_701 : decode code 701 = .ok (.iconst 0, 1) := by decide +kernel
theorem dL_law_702 : decode code 702 = .ok (.ireturn, 1) := by decide +kernel
theorem dL_law_703 : decode code 703 = .ok (.goto 164, 3) := by decide +kernel
theorem dL_law_706 : decode code 706 = .ok (.aload_n 1, 1) := by decide +kernel
theorem dL_law_707 : decode code 707 = .ok (.aload_n 0, 1) := by decide +kernel
theorem dL_law_708 : decode code 708 = .ok (.iload 4, 2) := by decide +kernel
theorem dL_law_710 : decode code 710 = .ok (.iconst 1, 1) := by decide +kernel
theorem dL_law_711 : decode code 711 = .ok (.iadd, 1) := by decide +kernel
theorem dL_law_712 : decode code 712 = .ok (.iaload, 1) := by decide +kernel
theorem dL_law_713 : decode code 713 = .ok (.aload_n 0, 1) := by decide +kernel
theorem dL_law_714 : decode code 714 = .ok (.iload 4, 2) := by decide +kernel
theorem dL_law_716 : decode code 716 = .ok (.iconst 2, 1) := by decide +kernel
theorem dL_law_717 : decode code 717 = .ok (.iadd, 1) := by decide +kernel
theorem dL_law_718 : decode code 718 = .ok (.iaload, 1) := by decide +kernel
theorem dL_law_719 : decode code 719 = .ok (.aload_n 3, 1) := by decide +kernel
theorem dL_law_720 : decode code 720 = .ok (.invokestatic 93, 3) := by decide +kernel
theorem dL_law_723 : decode code 723 = .ok (.istore 5, 2) := by decide +kernel
theorem dL_law_725 : decode code 725 = .ok (.aload_n 2, 1) := by decide +kernel
theorem dL_law_726 : decode code 726 = .ok (.aload_n 0, 1) := by decide +kernel
theorem dL_law_727 : decode code 727 = .ok (.iload 4, 2) := by decide +kernel
theorem dL_law_729 : decode code 729 = .ok (.iconst 1, 1) := by decide +kernel
theorem dL_law_730 : decode code 730 = .ok (.iadd, 1) := by decide +kernel
theorem dL_law_731 : decode code 731 = .ok (.iaload, 1) := by decide +kernel
theorem dL_law_732 : decode code 732 = .ok (.aload_n 0, 1) := by decide +kernel
theorem dL_law_733 : decode code 733 = .ok (.iload 4, 2) := by decide +kernel
theorem dL_law_735 : decode code 735 = .ok (.iconst 2, 1) := by decide +kernel
theorem dL_law_736 : decode code 736 = .ok (.iadd, 1) := by decide +kernel
theorem dL_law_737 : decode code 737 = .ok (.iaload, 1) := by decide +kernel
theorem dL_law_738 : decode code 738 = .ok (.invokevirtual 95, 3) := by decide +kernel
theorem dL_law_741 : decode code 741 = .ok (.istore 6, 2) := by decide +kernel
theorem dL_law_743 : decode code 743 = .ok (.aload_n 2, 1) := by decide +kernel
theorem dL_law_744 : decode code 744 = .ok (.invokevirtual 57, 3) := by decide +kernel
theorem dL_law_747 : decode code 747 = .ok (.iload 5, 2) := by decide +kernel
theorem dL_law_749 : decode code 749 = .ok (.if_icmp .eq 5, 3) := by decide +kernel
theorem dL_law_752 : decode code 752 = .ok (.iconst 0, 1) := by decide +kernel
theorem dL_law_753 : decode code 753 = .ok (.ireturn, 1) := by decide +kernel
theorem dL_law_754 : decode code 754 = .ok (.iload 5, 2) := by decide +kernel
theorem dL_law_756 : decode code 756 = .ok (.ifCond .ne 15, 3) := by decide +kernel
theorem dL_law_759 : decode code 759 = .ok (.aload_n 3, 1) := by decide +kernel
theorem dL_law_760 : decode code 760 = .ok (.iconst 0, 1) := by decide +kernel
theorem dL_law_761 : decode code 761 = .ok (.laload, 1) := by decide +kernel
theorem dL_law_762 : decode code 762 = .ok (.iload 6, 2) := by decide +kernel
theorem dL_law_764 : decode code 764 = .ok (.i2l, 1) := by decide +kernel
theorem dL_law_765 : decode code 765 = .ok (.lcmp, 1) := by decide +kernel
theorem dL_law_766 : decode code 766 = .ok (.ifCond .eq 5, 3) := by decide +kernel
theorem dL_law_769 : decode code 769 = .ok (.iconst 0, 1) := by decide +kernel
theorem dL_law_770 : decode code 770 = .ok (.ireturn, 1) := by decide +kernel
theorem dL_law_771 : decode code 771 = .ok (.goto 96, 3) := by decide +kernel
theorem dL_law_774 : decode code 774 = .ok (.aload_n 1, 1) := by decide +kernel
theorem dL_law_775 : decode code 775 = .ok (.aload_n 0, 1) := by decide +kernel
theorem dL_law_776 : decode code 776 = .ok (.iload 4, 2) := by decide +kernel
theorem dL_law_778 : decode code 778 = .ok (.iconst 1, 1) := by decide +kernel
theorem dL_law_779 : decode code 779 = .ok (.iadd, 1) := by decide +kernel
theorem dL_law_780 : decode code 780 = .ok (.iaload, 1) := by decide +kernel
theorem dL_law_781 : decode code 781 = .ok (.aload_n 0, 1) := by decide +kernel
theorem dL_law_782 : decode code 782 = .ok (.iload 4, 2) := by decide +kernel
theorem dL_law_784 : decode code 784 = .ok (.iconst 2, 1) := by decide +kernel
theorem dL_law_785 : decode code 785 = .ok (.iadd, 1) := by decide +kernel
theorem dL_law_786 : decode code 786 = .ok (.iaload, 1) := by decide +kernel
theorem dL_law_787 : decode code 787 = .ok (.aload_n 3, 1) := by decide +kernel
theorem dL_law_788 : decode code 788 = .ok (.invokestatic 96, 3) := by decide +kernel
theorem dL_law_791 : decode code 791 = .ok (.istore 5, 2) := by decide +kernel
theorem dL_law_793 : decode code 793 = .ok (.aload_n 2, 1) := by decide +kernel
theorem dL_law_794 : decode code 794 = .ok (.aload_n 0, 1) := by decide +kernel
theorem dL_law_795 : decode code 795 = .ok (.iload 4, 2) := by decide +kernel
theorem dL_law_797 : decode code 797 = .ok (.iconst 1, 1) := by decide +kernel
theorem dL_law_798 : decode code 798 = .ok (.iadd, 1) := by decide +kernel
theorem dL_law_799 : decode code 799 = .ok (.iaload, 1) := by decide +kernel
theorem dL_law_800 : decode code 800 = .ok (.aload_n 0, 1) := by decide +kernel
theorem dL_law_801 : decode code 801 = .ok (.iload 4, 2) := by decide +kernel
theorem dL_law_803 : decode code 803 = .ok (.iconst 2, 1) := by decide +kernel
theorem dL_law_804 : decode code 804 = .ok (.iadd, 1) := by decide +kernel
theorem dL_law_805 : decode code 805 = .ok (.iaload, 1) := by decide +kernel
theorem dL_law_806 : decode code 806 = .ok (.invokevirtual 98, 3) := by decide +kernel
theorem dL_law_809 : decode code 809 = .ok (.istore 6, 2) := by decide +kernel
theorem dL_law_811 : decode code 811 = .ok (.aload_n 2, 1) := by decide +kernel
theorem dL_law_812 : decode code 812 = .ok (.invokevirtual 57, 3) := by decide +kernel
theorem dL_law_815 : decode code 815 = .ok (.iload 5, 2) := by decide +kernel
theorem dL_law_817 : decode code 817 = .ok (.if_icmp .eq 5, 3) := by decide +kernel
theorem dL_law_820 : decode code 820 = .ok (.iconst 0, 1) := by decide +kernel
theorem dL_law_821 : decode code 821 = .ok (.ireturn, 1) := by decide +kernel
theorem dL_law_822 : decode code 822 = .ok (.iload 5, 2) := by decide +kernel
theorem dL_law_824 : decode code 824 = .ok (.ifCond .ne 15, 3) := by decide +kernel
theorem dL_law_827 : decode code 827 = .ok (.aload_n 3, 1) := by decide +kernel
theorem dL_law_828 : decode code 828 = .ok (.iconst 0, 1) := by decide +kernel
theorem dL_law_829 : decode code 829 = .ok (.laload, 1) := by decide +kernel
theorem dL_law_830 : decode code 830 = .ok (.iload 6, 2) := by decide +kernel
theorem dL_law_832 : decode code 832 = .ok (.i2l, 1) := by decide +kernel
theorem dL_law_833 : decode code 833 = .ok (.lcmp, 1) := by decide +kernel
theorem dL_law_834 : decode code 834 = .ok (.ifCond .eq 5, 3) := by decide +kernel
theorem dL_law_837 : decode code 837 = .ok (.iconst 0, 1) := by decide +kernel
theorem dL_law_838 : decode code 838 = .ok (.ireturn, 1) := by decide +kernel
theorem dL_law_839 : decode code 839 = .ok (.goto 28, 3) := by decide +kernel
theorem dL_law_842 : decode code 842 = .ok (.aload_n 1, 1) := by decide +kernel
theorem dL_law_843 : decode code 843 = .ok (.aload_n 0, 1) := by decide +kernel
theorem dL_law_844 : decode code 844 = .ok (.iload 4, 2) := by decide +kernel
theorem dL_law_846 : decode code 846 = .ok (.iconst 1, 1) := by decide +kernel
theorem dL_law_847 : decode code 847 = .ok (.iadd, 1) := by decide +kernel
theorem dL_law_848 : decode code 848 = .ok (.iaload, 1) := by decide +kernel
theorem dL_law_849 : decode code 849 = .ok (.invokevirtual 99, 3) := by decide +kernel
theorem dL_law_852 : decode code 852 = .ok (.aload_n 2, 1) := by decide +kernel
theorem dL_law_853 : decode code 853 = .ok (.aload_n 0, 1) := by decide +kernel
theorem dL_law_854 : decode code 854 = .ok (.iload 4, 2) := by decide +kernel
theorem dL_law_856 : decode code 856 = .ok (.iconst 1, 1) := by decide +kernel
theorem dL_law_857 : decode code 857 = .ok (.iadd, 1) := by decide +kernel
theorem dL_law_858 : decode code 858 = .ok (.iaload, 1) := by decide +kernel
theorem dL_law_859 : decode code 859 = .ok (.invokevirtual 102, 3) := by decide +kernel
theorem dL_law_862 : decode code 862 = .ok (.if_icmp .eq 5, 3) := by decide +kernel
theorem dL_law_865 : decode code 865 = .ok (.iconst 0, 1) := by decide +kernel
theorem dL_law_866 : decode code 866 = .ok (.ireturn, 1) := by decide +kernel
theorem dL_law_867 : decode code 867 = .ok (.iinc 4 5, 3) := by decide +kernel
theorem dL_law_870 : decode code 870 = .ok (.goto (-847), 3) := by decide +kernel
theorem dL_law_873 : decode code 873 = .ok (.iconst 1, 1) := by decide +kernel
theorem dL_law_874 : decode code 874 = .ok (.ireturn, 1) := by decide +kernel
end
section
-- OWN KIT: a method's world is one list w of cells, handed on whole; its end is a world w'
def xPre (G : va_G) (tys : List (ClassId × FieldType)) (w : va_W) (sz : Nat) (U : State) : Prop := U.heap.size = sz ∧ va_P G vwCl w U.heap ∧ va_K G vwCl tys U ∧ va_D (fun _ => True) w
def xEnd (G : va_G) (tys : List (ClassId × FieldType)) (A : Nat → Prop) (w' : va_W) (t : State) : Prop := va_P G vwCl w' t.heap ∧ va_K G vwCl tys t ∧ va_D A w'
/-- answers an int (a boolean) -/
abbrev xMi (l : Launch) (y : MethodName) (ws : List Cond) (rm : Room) (av : List Value) (G : va_G) (tys : List (ClassId × FieldType)) (w : va_W) (sz : Nat) (post : Int32 → va_W → Prop) (mc ms : Nat) : Prop :=
  Met l y ws rm (va_Pc av (xPre G tys w sz)) (va_Qi post (xEnd G tys (va_A w sz)) (va_A w sz)) mc ms (va_A w sz)
abbrev xMv (l : Launch) (y : MethodName) (ws : List Cond) (rm : Room) (av : List Value) (G : va_G) (tys : List (ClassId × FieldType)) (w : va_W) (sz : Nat) (post : va_W → Prop) (mc ms : Nat) : Prop :=
  Met l y ws rm (va_Pc av (xPre G tys w sz)) (va_Qv post (xEnd G tys (va_A w sz)) (va_A w sz)) mc ms (va_A w sz)
abbrev xMq (l : Launch) (y : MethodName) (ws : List Cond) (rm : Room) (av : List Value) (G : va_G) (tys : List (ClassId × FieldType)) (w : va_W) (sz : Nat) (post : Option Nat → va_W → Prop) (mc ms : Nat) : Prop :=
  Met l y ws rm (va_Pc av (xPre G tys w sz)) (va_Qq post (xEnd G tys (va_A w sz)) (va_A w sz)) mc ms (va_A w sz)
theorem x_blind {G : va_G} {tys : List (ClassId × FieldType)} {w : va_W} {sz : Nat} {av : List Value} : FrameBlind (va_Pc av (xPre G tys w sz)) := fun a U g mk q => by
  obtain ⟨q0, q1, qP, qK, qD⟩ := q
  exact ⟨q0, q1, qP, va_K.moved (u := U) (U := U.calling g mk a) (Vm.Alike.refl U.vm) qK, qD⟩
theorem x_preS {s : State} {H : Heap} {A : Nat → Prop} {G : va_G} {tys : List (ClassId × FieldType)} {w : va_W} {As : List Value} (hP : va_P G vwCl w H) (hK : va_K G vwCl tys s) (hD : va_D A w) : PreS s H (va_Pc As (xPre G tys w H.size)) As :=
  ⟨x_blind, fun U hU hW => ⟨rfl, by rw [hU], by rw [hU]; exact hP, va_K.moved hW.alike hK, hD.weaken (fun _ _ _ _ => trivial)⟩⟩
theorem x_preV {s : State} {H : Heap} {A : Nat → Prop} {G : va_G} {tys : List (ClassId × FieldType)} {w : va_W} {As fs : List Value} {b k ci : Nat} {q : vw_C} (hP : va_P G vwCl w H) (hK : va_K G vwCl tys s) (hD : va_D A w) (he : w[k]? = some (b, .inr (ci, fs))) (hc : vwCl[ci]? = some q) : PreV s H q.1 b (va_Pc (.ref b :: As) (xPre G tys w H.size)) As :=
  ⟨x_blind, va_recv hK hP hc he, fun U hU hW => ⟨rfl, by rw [hU], by rw [hU]; exact hP, va_K.moved hW.alike hK, hD.weaken (fun _ _ _ _ => trivial)⟩⟩
theorem x_free {A : Nat → Prop} {w : va_W} {H0 H : Heap} {locs : List Loc} (hD : va_D A w) (hS : va_S A H0 H locs) (hA : ∀ q, H0.size ≤ q → A q) : ∀ q, va_A w H.size q → A q := by
  intro q h
  rcases h with ⟨k, e, h⟩ | h
  · exact hD.2 k _ h
  · exact hA q (Nat.le_trans hS.1 h)
section XK
variable {p : Program} {l : Launch} {e : Env} {R : Room} {s : State} {m : MethodId} {args : Array Value} {below : List Frame} {meth : Method} {c : Code} {H : Heap} {locs : List Loc} {cells slots : Nat} {Q : State → Prop}
variable {cc : ByteArray} {pc : Nat} {ls : Array Slot} {rest st0 : List Value} {A : Nat → Prop} {H0 : Heap} {G : va_G} {tys : List (ClassId × FieldType)} {w : va_W} {mc ms : Nat} {a : Array Value}
theorem x_calli {post : Int32 → va_W → Prop} (hr : va_Run p l e R s m args below meth c H locs cells slots mc ms (F0 m pc ls st0) rest (va_Qi post (xEnd G tys (va_A w H.size)) (va_A w H.size) a) (va_A w H.size)) (hD : va_D A w) (hS : va_S A H0 H locs) (hA : ∀ q, H0.size ≤ q → A q)
    (kk : ∀ (r : Int32) (w' : va_W) (H1 : Heap) (locs1 : List Loc), post r w' → va_P G vwCl w' H1 → va_D A w' → va_S A H0 H1 locs1 → W p l e R s m args below meth c H1 locs1 (cells + mc) (slots + ms) Q (F0 m (pc + 3) ls (.int r :: rest))) : W p l e R s m args below meth c H locs cells slots Q (F0 m pc ls st0) := by
  have hF := x_free hD hS hA
  exact va_calli hr hS (fun q _ h => hF q h) hF (fun r u t H1 locs ht hvm hw hB hz1 hk1 hS => kk r u H1 locs hw (by rw [← ht]; exact hB.1) (hB.2.2.weaken (fun _ _ _ h => hF _ h)) hS)
theorem x_callv {post : va_W → Prop} (hr : va_Run p l e R s m args below meth c H locs cells slots mc ms (F0 m pc ls st0) rest (va_Qv post (xEnd G tys (va_A w H.size)) (va_A w H.size) a) (va_A w H.size)) (hD : va_D A w) (hS : va_S A H0 H locs) (hA : ∀ q, H0.size ≤ q → A q)
    (kk : ∀ (w' : va_W) (H1 : Heap) (locs1 : List Loc), post w' → va_P G vwCl w' H1 → va_D A w' → va_S A H0 H1 locs1 → W p l e R s m args below meth c H1 locs1 (cells + mc) (slots + ms) Q (F0 m (pc + 3) ls rest)) : W p l e R s m args below meth c H locs cells slots Q (F0 m pc ls st0) := by
  have hF := x_free hD hS hA
  exact va_callv hr hS (fun q _ h => hF q h) hF (fun u t H1 locs ht hvm hw hB hz1 hk1 hS => kk u H1 locs hw (by rw [← ht]; exact hB.1) (hB.2.2.weaken (fun _ _ _ h => hF _ h)) hS)
theorem x_callq {post : Option Nat → va_W → Prop} (hr : va_Run p l e R s m args below meth c H locs cells slots mc ms (F0 m pc ls st0) rest (va_Qq post (xEnd G tys (va_A w H.size)) (va_A w H.size) a) (va_A w H.size)) (hD : va_D A w) (hS : va_S A H0 H locs) (hA : ∀ q, H0.size ≤ q → A q)
    (kk : ∀ (r : Option Nat) (w' : va_W) (H1 : Heap) (locs1 : List Loc), post r w' → va_P G vwCl w' H1 → va_D A w' → va_S A H0 H1 locs1 → W p l e R s m args below meth c H1 locs1 (cells + mc) (slots + ms) Q (F0 m (pc + 3) ls (va_rf r :: rest))) : W p l e R s m args below meth c H locs cells slots Q (F0 m pc ls st0) := by
  have hF := x_free hD hS hA
  exact va_callq hr hS (fun q _ h => hF q h) hF (fun r u t H1 locs ht hvm hw hB hz1 hk1 hS => kk r u H1 locs hw (by rw [← ht]; exact hB.1) (hB.2.2.weaken (fun _ _ _ h => hF _ h)) hS)
/-- ends -/
theorem x_iret {post : Int32 → va_W → Prop} {v : Int32} (hx : p.tables.exec = Jvm.exec) (hb : c.code = cc) (hr : meth.sig.returnType = some .int) (hlocks : meth.locks = false) (hp : post v w) (hP : va_P G vwCl w H) (hK : va_K G vwCl tys s) (hD : va_D A w) (hS : va_S A s.heap H locs) (hdg : decode cc pc = .ok (.ireturn, 1)) :
    W p l e R s m args below meth c H locs cells slots (MQ below (va_Qi post (xEnd G tys A) A) args s cells slots A) (F0 m pc ls [.int v]) :=
  W.iret hx hb hr (fun t ht hW => ⟨⟨v, w, rfl, hp, by rw [ht]; exact hP, va_K.moved hW.alike hK, hD⟩, hS.F ht⟩) hS.2.2 hdg hlocks
theorem x_zret {post : Int32 → va_W → Prop} {v : Int32} (hx : p.tables.exec = Jvm.exec) (hb : c.code = cc) (hr : meth.sig.returnType = some .boolean) (hlocks : meth.locks = false) (hn : narrow .boolean (.int v) = .int v) (hp : post v w) (hP : va_P G vwCl w H) (hK : va_K G vwCl tys s) (hD : va_D A w) (hS : va_S A s.heap H locs) (hdg : decode cc pc = .ok (.ireturn, 1)) :
    W p l e R s m args below meth c H locs cells slots (MQ below (va_Qi post (xEnd G tys A) A) args s cells slots A) (F0 m pc ls [.int v]) :=
  W.zret hx hb hr hn (fun t ht hW => ⟨⟨v, w, rfl, hp, by rw [ht]; exact hP, va_K.moved hW.alike hK, hD⟩, hS.F ht⟩) hS.2.2 hdg hlocks
theorem x_vret {post : va_W → Prop} (hx : p.tables.exec = Jvm.exec) (hb : c.code = cc) (hr : meth.sig.returnType = none) (hlocks : meth.locks = false) (hp : post w) (hP : va_P G vwCl w H) (hK : va_K G vwCl tys s) (hD : va_D A w) (hS : va_S A s.heap H locs) (hdg : decode cc pc = .ok (.return_, 1)) :
    W p l e R s m args below meth c H locs cells slots (MQ below (va_Qv post (xEnd G tys A) A) args s cells slots A) (F0 m pc ls []) :=
  W.vret hx hb hr (fun t ht hW => ⟨⟨w, rfl, hp, by rw [ht]; exact hP, va_K.moved hW.alike hK, hD⟩, hS.F ht⟩) hS.2.2 hdg hlocks
theorem x_qret {post : Option Nat → va_W → Prop} {r : Option Nat} {n : String} (hx : p.tables.exec = Jvm.exec) (hb : c.code = cc) (hr : meth.sig.returnType = some (.object n)) (hlocks : meth.locks = false) (hp : post r w) (hP : va_P G vwCl w H) (hK : va_K G vwCl tys s) (hD : va_D A w) (hS : va_S A s.heap H locs) (hdg : decode cc pc = .ok (.areturn, 1)) :
    W p l e R s m args below meth c H locs cells slots (MQ below (va_Qq post (xEnd G tys A) A) args s cells slots A) (F0 m pc ls [va_rf r]) :=
  W.aret hx hb hr (Or.inl ⟨n, rfl⟩) (va_rf_or r) (fun t ht hW => ⟨⟨r, w, rfl, hp, by rw [ht]; exact hP, va_K.moved hW.alike hK, hD⟩, hS.F ht⟩) hS.2.2 hdg hlocks
/-- the stack, spelled otherwise -/
theorem x_st {st st' : List Value} (h : st = st') (k : W p l e R s m args below meth c H locs cells slots Q (F0 m pc ls st')) : W p l e R s m args below meth c H locs cells slots Q (F0 m pc ls st) := h ▸ k
theorem x_ls {ls' : Array Slot} {nL : Nat} {lv lv' : List (Nat × Value)} (hl : lv_has ls nL lv) (h : lv = lv') : lv_has ls nL lv' := h ▸ hl
/-- a local that may be null is loaded, stored -/
theorem x_aload_n {o : Option Nat} {k : Fin 4} {i : Nat} (hx : p.tables.exec = Jvm.exec) (hb : c.code = cc) (hdg : decode cc pc = .ok (.aload_n k, 1)) (hi : (k : Nat) = i) (hl : ls[i]? = some (.val (va_rf o)))
    (kk : W p l e R s m args below meth c H locs cells slots Q (F0 m (pc + 1) ls (va_rf o :: rest))) : W p l e R s m args below meth c H locs cells slots Q (F0 m pc ls rest) := by
  cases o with
  | none => exact lv_aload_nN hx hb hdg hi hl kk
  | some x => exact lv_aload_n hx hb hdg hi hl kk
theorem x_aload {o : Option Nat} {i : Nat} (hx : p.tables.exec = Jvm.exec) (hb : c.code = cc) (hdg : decode cc pc = .ok (.aload i, 2)) (hl : ls[i]? = some (.val (va_rf o)))
    (kk : W p l e R s m args below meth c H locs cells slots Q (F0 m (pc + 2) ls (va_rf o :: rest))) : W p l e R s m args below meth c H locs cells slots Q (F0 m pc ls rest) := by
  cases o with
  | none => exact lv_aloadN hx hb hdg hl kk
  | some x => exact lv_aload hx hb hdg hl kk
theorem x_astore_n {o : Option Nat} {k : Fin 4} {i nL : Nat} {lv lv' : List (Nat × Value)} (hx : p.tables.exec = Jvm.exec) (hb : c.code = cc) (hdg : decode cc pc = .ok (.astore_n k, 1)) (hi : (k : Nat) = i) (h : lv_has ls nL lv) (hn : i < nL) (hl : (i, va_rf o) :: lv.filter (fun q => !(q.1 == i) && !(q.1 + 1 == i && q.2.category == 2)) = lv')
    (kk : ∀ ls' : Array Slot, lv_has ls' nL lv' → W p l e R s m args below meth c H locs cells slots Q (F0 m (pc + 1) ls' rest)) : W p l e R s m args below meth c H locs cells slots Q (F0 m pc ls (va_rf o :: rest)) := by
  cases o with
  | none => exact lv_astore_nN hx hb hdg hi h hn hl kk
  | some x => exact lv_astore_n hx hb hdg hi h hn hl kk
theorem x_astore {o : Option Nat} {i nL : Nat} {lv lv' : List (Nat × Value)} (hx : p.tables.exec = Jvm.exec) (hb : c.code = cc) (hdg : decode cc pc = .ok (.astore i, 2)) (h : lv_has ls nL lv) (hn : i < nL) (hl : (i, va_rf o) :: lv.filter (fun q => !(q.1 == i) && !(q.1 + 1 == i && q.2.category == 2)) = lv')
    (kk : ∀ ls' : Array Slot, lv_has ls' nL lv' → W p l e R s m args below meth c H locs cells slots Q (F0 m (pc + 2) ls' rest)) : W p l e R s m args below meth c H locs cells slots Q (F0 m pc ls (va_rf o :: rest)) := by
  cases o with
  | none => exact lv_astoreN hx hb hdg h hn hl kk
  | some x => exact lv_astore hx hb hdg h hn hl kk
/-- a test for null -/
theorem x_ifnull {o : Option Nat} {off : Int} {tgt : Nat} (hx : p.tables.exec = Jvm.exec) (hb : c.code = cc) (hdg : decode cc pc = .ok (.ifnull off, 3)) (ht : (pc : Int) + off = (tgt : Int))
    (kn : o = none → W p l e R s m args below meth c H locs cells slots Q (F0 m tgt ls rest)) (ks : ∀ x, o = some x → W p l e R s m args below meth c H locs cells slots Q (F0 m (pc + 3) ls rest)) : W p l e R s m args below meth c H locs cells slots Q (F0 m pc ls (va_rf o :: rest)) := by
  cases o with
  | none => exact lv_ifnullN hx hb hdg ht (kn rfl)
  | some x => exact lv_ifnull hx hb hdg (ks x rfl)
theorem x_ifnonnull {o : Option Nat} {off : Int} {tgt : Nat} (hx : p.tables.exec = Jvm.exec) (hb : c.code = cc) (hdg : decode cc pc = .ok (.ifnonnull off, 3)) (ht : (pc : Int) + off = (tgt : Int))
    (ks : ∀ x, o = some x → W p l e R s m args below meth c H locs cells slots Q (F0 m tgt ls rest)) (kn : o = none → W p l e R s m args below meth c H locs cells slots Q (F0 m (pc + 3) ls rest)) : W p l e R s m args below meth c H locs cells slots Q (F0 m pc ls (va_rf o :: rest)) := by
  cases o with
  | none => exact lv_ifnonnullN hx hb hdg (kn rfl)
  | some x => exact lv_ifnonnull hx hb hdg ht (ks x rfl)
end XK
/-- a method's body, from its entry, in a world w -/
theorem x_ofW {l : Launch} {y : MethodName} {ws : List Cond} {rm : Room} {av : List Value} {G : va_G} {tys : List (ClassId × FieldType)} {w : va_W} {sz : Nat} (Qc : (Nat → Prop) → Array Value → State → Outcome → State → Prop) {mc ms : Nat} (cc : ByteArray) (maxL : Nat) (ret : Option FieldType) (hy : plainName y.cls = true) (hw : ws = Cond.code y cc maxL ret :: BIG) (hn : (lg_sl av).length ≤ maxL)
    (body : ∀ (p : Program) (e : Env) (s : State) (m : MethodId) (below : List Frame) (meth : Method) (c : Code) (A : Nat → Prop) (ls : Array Slot), p.tables.exec = Jvm.exec → c.code = cc → meth.sig.returnType = ret → meth.locks = false → c.maxLocals = maxL → meth.name = y.name → s.vm.findClass y.cls = some m.cls → (∀ w ∈ BIG, w.before av.toArray s = true) → (∀ q, s.heap.size ≤ q → A q) →
      va_P G vwCl w s.heap → va_K G vwCl tys s → va_D A w → va_S A s.heap s.heap [] → lv_has ls maxL (lv_args 0 av) → W p l e rm s m av.toArray below meth c s.heap [] 0 0 (MQ below (Qc A) av.toArray s mc ms A) (F0 m 0 ls [])) :
    Met l y ws rm (va_Pc av (xPre G tys w sz)) (Qc (va_A w sz)) mc ms (va_A w sz) := by
  refine Met.ofW (cc := cc) (maxL := maxL) (ret := ret) hy hw ?_
  intro p e s m args below meth c s₁ B hml hv
  obtain ⟨rfl, hsz, hP, hK, hD0⟩ := hv
  subst hsz
  rw [lg_entry_eq]
  exact body p e s m below meth c _ _ B.exec B.bytes B.returns B.notSynchronized hml (name_of_methodNamed B.named B.method).1 (findClass_of_methodNamed B.named) (fun w h => atoms_spec (ws := ws) B.pre w (by rw [hw]; exact List.mem_cons_of_mem _ h)) (fun q h => Or.inr h) hP hK (hD0.self (sz := s.heap.size)) va_S.rf (lv_entry av hn)
end
section
-- THE CLASS'S STATE: g: the object's numbers by their places (1 people, 3 declared, 5 told, 7 waiting, 8 now, 9 opens, 10 closes, 11 failing); ro: roles;
-- fst: the first that waits; d: a declaration's numbers; fw, lw: first and last written; ed, ev: an event's declaration and numbers (1 kind, 2 who, 3 time, 4 result); nx: the next in its chain
def xFs (aR aD aE : Nat) (eA : Nat → Nat) (g : Nat → Int32) (fst : Option Nat) : List Value := [.ref aR, .int (g 1), .ref aD, .int (g 3), .ref aE, .int (g 5), va_rf (fst.map eA), .int (g 7), .int (g 8), .int (g 9), .int (g 10), .int (g 11)]
def dFs (eA : Nat → Nat) (f : Nat → Int32) (a b : Option Nat) : List Value := [.int (f 0), .int (f 1), .int (f 2), .int (f 3), .int (f 4), .int (f 5), .int (f 6), .int (f 7), .int (f 8), .int (f 9), va_rf (a.map eA), va_rf (b.map eA)]
def eFs (dA eA : Nat → Nat) (dj : Nat) (f : Nat → Int32) (n : Option Nat) : List Value := [.ref (dA dj), .int (f 1), .int (f 2), .int (f 3), .int (f 4), va_rf (n.map eA)]
def rA (dA : Nat → Nat) (n : Nat) (k : Nat) : Option Nat := if k < n then some (dA k) else none
abbrev arR (c : ClassId) (n : Nat) (f : Nat → Option Nat) : va_E := .inl (c, n, .inr (.inr (.inr (.inr f))))
abbrev arI (c : ClassId) (n : Nat) (f : Nat → Int32) : va_E := .inl (c, n, .inl f)
def okP (n : Nat) (o : Option Nat) : Prop := ∀ k, o = some k → k < n
theorem okP_none {n : Nat} : okP n none := fun _ h => by cases h
theorem okP_some {n k : Nat} (h : k < n) : okP n (some k) := fun _ e => by cases e; exact h
theorem okP_mono {n n' : Nat} {o : Option Nat} (h : okP n o) (hn : n ≤ n') : okP n' o := fun k e => Nat.lt_of_lt_of_le (h k e) hn
def xCells (cI cD cE : ClassId) (aX aR aD aE : Nat) (dA eA : Nat → Nat) (g ro : Nat → Int32) (fst : Option Nat) (nD nE : Nat) (d : Nat → Nat → Int32) (fw lw : Nat → Option Nat) (ed : Nat → Nat) (ev : Nat → Nat → Int32) (nx : Nat → Option Nat) (iD iE : Nat → Nat) (w : va_W) : Prop :=
  w[0]? = some (aX, .inr (ciX, xFs aR aD aE eA g fst)) ∧ w[1]? = some (aR, arI cI 12 ro) ∧ w[2]? = some (aD, arR cD 20 (rA dA nD)) ∧ w[3]? = some (aE, arR cE 120 (rA eA nE)) ∧
  (∀ j, j < nD → w[iD j]? = some (dA j, .inr (ciD, dFs eA (d j) (fw j) (lw j)))) ∧ (∀ k, k < nE → w[iE k]? = some (eA k, .inr (ciE, eFs dA eA (ed k) (ev k) (nx k))))
def xInj (nD nE : Nat) (iD iE : Nat → Nat) : Prop := (∀ i j, i < nD → j < nD → iD i = iD j → i = j) ∧ (∀ i j, i < nE → j < nE → iE i = iE j → i = j)
def xOk (nD nE : Nat) (fst : Option Nat) (fw lw : Nat → Option Nat) (ed : Nat → Nat) (nx : Nat → Option Nat) : Prop := okP nE fst ∧ (∀ j, j < nD → okP nE (fw j) ∧ okP nE (lw j)) ∧ ∀ k, k < nE → ed k < nD ∧ okP nE (nx k)
def RX (cI cD cE : ClassId) (aX aR aD aE : Nat) (dA eA : Nat → Nat) (g ro : Nat → Int32) (fst : Option Nat) (nD nE : Nat) (d : Nat → Nat → Int32) (fw lw : Nat → Option Nat) (ed : Nat → Nat) (ev : Nat → Nat → Int32) (nx : Nat → Option Nat) (w : va_W) : Prop :=
  (∃ iD iE : Nat → Nat, xCells cI cD cE aX aR aD aE dA eA g ro fst nD nE d fw lw ed ev nx iD iE w ∧ xInj nD nE iD iE) ∧ xOk nD nE fst fw lw ed nx
def up2 (f : Nat → Nat → Int32) (j : Nat) (k : Nat) (v : Int32) : Nat → Nat → Int32 := fun i => if i = j then upd (f i) k v else f i
def upo (f : Nat → Option Nat) (j : Nat) (v : Option Nat) : Nat → Option Nat := fun i => if i = j then v else f i
section RXS
variable {cI cD cE : ClassId} {aX aR aD aE : Nat} {dA eA : Nat → Nat} {g ro : Nat → Int32} {fst : Option Nat} {nD nE : Nat} {d : Nat → Nat → Int32} {fw lw : Nat → Option Nat} {ed : Nat → Nat} {ev : Nat → Nat → Int32} {nx : Nat → Option Nat} {iD iE : Nat → Nat} {w : va_W}
theorem RX.x (h : RX cI cD cE aX aR aD aE dA eA g ro fst nD nE d fw lw ed ev nx w) : w[0]? = some (aX, .inr (ciX, xFs aR aD aE eA g fst)) := by obtain ⟨⟨iD, iE, h, -⟩, -⟩ := h; exact h.1
theorem RX.r (h : RX cI cD cE aX aR aD aE dA eA g ro fst nD nE d fw lw ed ev nx w) : w[1]? = some (aR, arI cI 12 ro) := by obtain ⟨⟨iD, iE, h, -⟩, -⟩ := h; exact h.2.1
theorem RX.da (h : RX cI cD cE aX aR aD aE dA eA g ro fst nD nE d fw lw ed ev nx w) : w[2]? = some (aD, arR cD 20 (rA dA nD)) := by obtain ⟨⟨iD, iE, h, -⟩, -⟩ := h; exact h.2.2.1
theorem RX.ea (h : RX cI cD cE aX aR aD aE dA eA g ro fst nD nE d fw lw ed ev nx w) : w[3]? = some (aE, arR cE 120 (rA eA nE)) := by obtain ⟨⟨iD, iE, h, -⟩, -⟩ := h; exact h.2.2.2.1
theorem RX.dc (h : RX cI cD cE aX aR aD aE dA eA g ro fst nD nE d fw lw ed ev nx w) {j : Nat} (hj : j < nD) : ∃ q : Nat, w[q]? = some (dA j, .inr (ciD, dFs eA (d j) (fw j) (lw j))) := by obtain ⟨⟨iD, iE, h, -⟩, -⟩ := h; exact ⟨_, h.2.2.2.2.1 j hj⟩
theorem RX.ec (h : RX cI cD cE aX aR aD aE dA eA g ro fst nD nE d fw lw ed ev nx w) {k : Nat} (hk : k < nE) : ∃ q : Nat, w[q]? = some (eA k, .inr (ciE, eFs dA eA (ed k) (ev k) (nx k))) := by obtain ⟨⟨iD, iE, h, -⟩, -⟩ := h; exact ⟨_, h.2.2.2.2.2 k hk⟩
theorem RX.ok (h : RX cI cD cE aX aR aD aE dA eA g ro fst nD nE d fw lw ed ev nx w) : xOk nD nE fst fw lw ed nx := h.2
theorem x_set_ne {i q : Nat} {x y : Nat × va_E} (h : w[q]? = some y) (hne : i ≠ q) : (w.set i x)[q]? = some y := by rw [List.getElem?_set_ne hne]; exact h
theorem x_set_eq {i : Nat} {x y : Nat × va_E} (h : w[i]? = some y) : (w.set i x)[i]? = some x := List.getElem?_set_self (List.getElem?_eq_some_iff.mp h).1
theorem x_idx_ne {i q : Nat} {x y : Nat × va_E} (h1 : w[i]? = some x) (h2 : w[q]? = some y) (hne : x.2 ≠ y.2) : i ≠ q := fun e => by subst e; rw [h1] at h2; cases h2; exact hne rfl
/-- the object's own cell is written -/
theorem RX.setX (h : RX cI cD cE aX aR aD aE dA eA g ro fst nD nE d fw lw ed ev nx w) {g' : Nat → Int32} {fst' : Option Nat} (hf : okP nE fst') : RX cI cD cE aX aR aD aE dA eA g' ro fst' nD nE d fw lw ed ev nx (w.set 0 (aX, .inr (ciX, xFs aR aD aE eA g' fst'))) := by
  obtain ⟨⟨iD, iE, ⟨h0, h1, h2, h3, h4, h5⟩, hi⟩, hk⟩ := h
  refine ⟨⟨iD, iE, ⟨x_set_eq h0, x_set_ne h1 (by decide), x_set_ne h2 (by decide), x_set_ne h3 (by decide), fun j hj => x_set_ne (h4 j hj) (x_idx_ne h0 (h4 j hj) ?_), fun k hk => x_set_ne (h5 k hk) (x_idx_ne h0 (h5 k hk) ?_)⟩, hi⟩, hf, hk.2⟩
  · intro e; simp [ciX, ciD] at e
  · intro e; simp [ciX, ciE] at e
theorem RX.setR (h : RX cI cD cE aX aR aD aE dA eA g ro fst nD nE d fw lw ed ev nx w) {ro' : Nat → Int32} : RX cI cD cE aX aR aD aE dA eA g ro' fst nD nE d fw lw ed ev nx (w.set 1 (aR, arI cI 12 ro')) := by
  obtain ⟨⟨iD, iE, ⟨h0, h1, h2, h3, h4, h5⟩, hi⟩, hk⟩ := h
  refine ⟨⟨iD, iE, ⟨x_set_ne h0 (by decide), x_set_eq h1, x_set_ne h2 (by decide), x_set_ne h3 (by decide), fun j hj => x_set_ne (h4 j hj) (x_idx_ne h1 (h4 j hj) ?_), fun k hk => x_set_ne (h5 k hk) (x_idx_ne h1 (h5 k hk) ?_)⟩, hi⟩, hk⟩
  · intro e; cases e
  · intro e; cases e
/-- a declaration's cell is written -/
theorem RX.setD (h : RX cI cD cE aX aR aD aE dA eA g ro fst nD nE d fw lw ed ev nx w) {j q : Nat} (hj : j < nD) {e0 : va_E} (hA : va_D (fun _ => True) w) (hq : w[q]? = some (dA j, e0)) {d' : Nat → Nat → Int32} {fw' lw' : Nat → Option Nat} (hd : ∀ i, i ≠ j → d' i = d i ∧ fw' i = fw i ∧ lw' i = lw i) (h1 : okP nE (fw' j)) (h2 : okP nE (lw' j)) :
    RX cI cD cE aX aR aD aE dA eA g ro fst nD nE d' fw' lw' ed ev nx (w.set q (dA j, .inr (ciD, dFs eA (d' j) (fw' j) (lw' j)))) := by
  obtain ⟨⟨iD, iE, ⟨h0, h1', h2', h3, h4, h5⟩, hi⟩, hk⟩ := h
  have hqi : q = iD j := hA.1 q (iD j) _ _ hq (h4 j hj) rfl
  subst hqi
  refine ⟨⟨iD, iE, ⟨x_set_ne h0 (x_idx_ne (h4 j hj) h0 ?_), x_set_ne h1' (x_idx_ne (h4 j hj) h1' ?_), x_set_ne h2' (x_idx_ne (h4 j hj) h2' ?_), x_set_ne h3 (x_idx_ne (h4 j hj) h3 ?_), fun i hi' => ?_, fun k hk => x_set_ne (h5 k hk) (x_idx_ne (h4 j hj) (h5 k hk) ?_)⟩, hi⟩, hk.1, fun i hi' => ?_, hk.2.2⟩
  · intro e; simp [ciX, ciD] at e
  · intro e; cases e
  · intro e; cases e
  · intro e; cases e
  · by_cases e : i = j
    · subst e; exact x_set_eq (h4 i hj)
    · rw [x_set_ne (h4 i hi') (fun z => e (hi.1 i j hi' hj z.symm)), (hd i e).1, (hd i e).2.1, (hd i e).2.2]
  · intro e; simp [ciE, ciD] at e
  · by_cases e : i = j
    · subst e; exact ⟨h1, h2⟩
    · rw [(hd i e).2.1, (hd i e).2.2]; exact hk.2.1 i hi'
/-- an event's cell is written -/
theorem RX.setE (h : RX cI cD cE aX aR aD aE dA eA g ro fst nD nE d fw lw ed ev nx w) {k q : Nat} (hkn : k < nE) {e0 : va_E} (hA : va_D (fun _ => True) w) (hq : w[q]? = some (eA k, e0)) {ev' : Nat → Nat → Int32} {nx' : Nat → Option Nat} (hd : ∀ i, i ≠ k → ev' i = ev i ∧ nx' i = nx i) (h1 : okP nE (nx' k)) :
    RX cI cD cE aX aR aD aE dA eA g ro fst nD nE d fw lw ed ev' nx' (w.set q (eA k, .inr (ciE, eFs dA eA (ed k) (ev' k) (nx' k)))) := by
  obtain ⟨⟨iD, iE, ⟨h0, h1', h2', h3, h4, h5⟩, hi⟩, hk⟩ := h
  have hqi : q = iE k := hA.1 q (iE k) _ _ hq (h5 k hkn) rfl
  subst hqi
  refine ⟨⟨iD, iE, ⟨x_set_ne h0 (x_idx_ne (h5 k hkn) h0 ?_), x_set_ne h1' (x_idx_ne (h5 k hkn) h1' ?_), x_set_ne h2' (x_idx_ne (h5 k hkn) h2' ?_), x_set_ne h3 (x_idx_ne (h5 k hkn) h3 ?_), fun j hj => x_set_ne (h4 j hj) (x_idx_ne (h5 k hkn) (h4 j hj) ?_), fun i hi' => ?_⟩, hi⟩, hk.1, hk.2.1, fun i hi' => ?_⟩
  · intro e; simp [ciX, ciE] at e
  · intro e; cases e
  · intro e; cases e
  · intro e; cases e
  · intro e; simp [ciE, ciD] at e
  · by_cases e : i = k
    · subst e; exact x_set_eq (h5 i hkn)
    · rw [x_set_ne (h5 i hi') (fun z => e (hi.2 i k hi' hkn z.symm)), (hd i e).1, (hd i e).2]
  · by_cases e : i = k
    · subst e; exact ⟨(hk.2.2 i hkn).1, h1⟩
    · rw [(hd i e).2]; exact hk.2.2 i hi'
end RXS
end
section
-- ROWS over the class's state
abbrev xTys (cI cD cE : ClassId) : List (ClassId × FieldType) := [(cI, .int), (cD, .object NmD), (cE, .object NmE)]
theorem dFs_set {eA : Nat → Nat} {f : Nat → Int32} {a b : Option Nat} {v : Int32} {k : Nat} (hk : k < 10) : (dFs eA f a b).set k (.int v) = dFs eA (upd f k v) a b := by
  match k, hk with
  | 0, _ => rfl | 1, _ => rfl | 2, _ => rfl | 3, _ => rfl | 4, _ => rfl | 5, _ => rfl | 6, _ => rfl | 7, _ => rfl | 8, _ => rfl | 9, _ => rfl
theorem dFs_get {eA : Nat → Nat} {f : Nat → Int32} {a b : Option Nat} {k : Nat} (hk : k < 10) : (dFs eA f a b)[k]? = some (.int (f k)) := by
  match k, hk with
  | 0, _ => rfl | 1, _ => rfl | 2, _ => rfl | 3, _ => rfl | 4, _ => rfl | 5, _ => rfl | 6, _ => rfl | 7, _ => rfl | 8, _ => rfl | 9, _ => rfl
theorem eFs_set {dA eA : Nat → Nat} {dj : Nat} {f : Nat → Int32} {n : Option Nat} {v : Int32} {k : Nat} (h1 : 1 ≤ k) (hk : k < 5) : (eFs dA eA dj f n).set k (.int v) = eFs dA eA dj (upd f k v) n := by
  match k, h1, hk with
  | 1, _, _ => rfl | 2, _, _ => rfl | 3, _, _ => rfl | 4, _, _ => rfl
theorem eFs_get {dA eA : Nat → Nat} {dj : Nat} {f : Nat → Int32} {n : Option Nat} {k : Nat} (h1 : 1 ≤ k) (hk : k < 5) : (eFs dA eA dj f n)[k]? = some (.int (f k)) := by
  match k, h1, hk with
  | 1, _, _ => rfl | 2, _, _ => rfl | 3, _, _ => rfl | 4, _, _ => rfl
def xNum (k : Nat) : Bool := k == 1 || k == 3 || k == 5 || k == 7 || k == 8 || k == 9 || k == 10 || k == 11
theorem xNum_or {k : Nat} (h : xNum k = true) : k = 1 ∨ k = 3 ∨ k = 5 ∨ k = 7 ∨ k = 8 ∨ k = 9 ∨ k = 10 ∨ k = 11 := by
  simp only [xNum, Bool.or_eq_true, beq_iff_eq] at h
  omega
theorem xFs_set {aR aD aE : Nat} {eA : Nat → Nat} {g : Nat → Int32} {fst : Option Nat} {v : Int32} {k : Nat} (hk : xNum k = true) : (xFs aR aD aE eA g fst).set k (.int v) = xFs aR aD aE eA (upd g k v) fst := by
  rcases xNum_or hk with rfl | rfl | rfl | rfl | rfl | rfl | rfl | rfl <;> rfl
theorem xFs_get {aR aD aE : Nat} {eA : Nat → Nat} {g : Nat → Int32} {fst : Option Nat} {k : Nat} (hk : xNum k = true) : (xFs aR aD aE eA g fst)[k]? = some (.int (g k)) := by
  rcases xNum_or hk with rfl | rfl | rfl | rfl | rfl | rfl | rfl | rfl <;> rfl
theorem up2_eq {f : Nat → Nat → Int32} {j k : Nat} {v : Int32} : up2 f j k v j = upd (f j) k v := if_pos rfl
theorem up2_ne {f : Nat → Nat → Int32} {i j k : Nat} {v : Int32} (h : i ≠ j) : up2 f j k v i = f i := if_neg h
theorem upo_eq {f : Nat → Option Nat} {j : Nat} {v : Option Nat} : upo f j v j = v := if_pos rfl
theorem upo_ne {f : Nat → Option Nat} {i j : Nat} {v : Option Nat} (h : i ≠ j) : upo f j v i = f i := if_neg h
/-- a declaration's numbers, all of them anew -/
def upf (d : Nat → Nat → Int32) (j : Nat) (f : Nat → Int32) : Nat → Nat → Int32 := fun i => if i = j then f else d i
theorem upf_up2 {d : Nat → Nat → Int32} {j k : Nat} {v : Int32} : up2 d j k v = upf d j (upd (d j) k v) := by
  funext i; unfold up2 upf; by_cases h : i = j
  · subst h; rfl
  · rw [if_neg h, if_neg h]
theorem upf_eq {d : Nat → Nat → Int32} {j : Nat} {f : Nat → Int32} : upf d j f j = f := if_pos rfl
theorem upf_ne {d : Nat → Nat → Int32} {i j : Nat} {f : Nat → Int32} (h : i ≠ j) : upf d j f i = d i := if_neg h
theorem upf_upf {d : Nat → Nat → Int32} {j : Nat} {f f' : Nat → Int32} : upf (upf d j f) j f' = upf d j f' := by
  funext i; unfold upf; by_cases h : i = j
  · rw [if_pos h, if_pos h]
  · rw [if_neg h, if_neg h, if_neg h]
theorem upf_self {d : Nat → Nat → Int32} {j : Nat} : upf d j (d j) = d := by
  funext i; unfold upf; by_cases h : i = j
  · subst h; exact if_pos rfl
  · exact if_neg h
section XR
variable {p : Program} {l : Launch} {e : Env} {R : Room} {s : State} {m : MethodId} {args : Array Value} {below : List Frame} {meth : Method} {c : Code} {H : Heap} {locs : List Loc} {cells slots : Nat} {Q : State → Prop}
variable {cc : ByteArray} {pc : Nat} {ls : Array Slot} {rest : List Value} {A : Nat → Prop} {H0 : Heap} {G : va_G} {tys : List (ClassId × FieldType)} {Ts : List Cond} {own : String} {index : Nat}
variable {cI cD cE : ClassId} {aX aR aD aE : Nat} {dA eA : Nat → Nat} {g ro : Nat → Int32} {fst : Option Nat} {nD nE : Nat} {d : Nat → Nat → Int32} {fw lw : Nat → Option Nat} {ed : Nat → Nat} {ev : Nat → Nat → Int32} {nx : Nat → Option Nat} {w : va_W}
/-- a number of the object is read -/
theorem x_getX (k : Nat) (hx : p.tables.exec = Jvm.exec) (hb : c.code = cc) (hts : ∀ w ∈ Ts, w.before args s = true) (hin : ∀ w ∈ u_ws NmX TmX 12, w ∈ Ts) (hown : s.vm.findClass own = some m.cls) (hK : va_K G vwCl tys s) (hP : va_P G vwCl w H) (hR : RX cI cD cE aX aR aD aE dA eA g ro fst nD nE d fw lw ed ev nx w) (hk : xNum k = true)
    (hlink : (Cond.fieldLink own index NmX (TmX k).2.1 (TmX k).2.2.1).before args s = true) (hsame : (TmX k).1 = NmX) (hdg : decode cc pc = .ok (.getfield index, 3))
    (kk : W p l e R s m args below meth c H locs cells slots Q (F0 m (pc + 3) ls (.int (g k) :: rest))) : W p l e R s m args below meth c H locs cells slots Q (F0 m pc ls (.ref aX :: rest)) :=
  va_get (D := G) (ci := ciX) (v := .int (g k)) (C := NmX) (T := TmX) (N := 12) hx hb hts hin hown hK hP 0 hR.x rfl k (by have := xNum_or hk; omega) hlink (fun _ h9 => by rw [hsame] at h9; exact h9) (xFs_get hk) hdg kk
theorem x_putX (k : Nat) (v : Int32) (hx : p.tables.exec = Jvm.exec) (hb : c.code = cc) (hts : ∀ w ∈ Ts, w.before args s = true) (hin : ∀ w ∈ u_ws NmX TmX 12, w ∈ Ts) (hown : s.vm.findClass own = some m.cls) (hK : va_K G vwCl tys s) (hP : va_P G vwCl w H) (hD : va_D A w) (hS : va_S A H0 H locs) (hR : RX cI cD cE aX aR aD aE dA eA g ro fst nD nE d fw lw ed ev nx w) (hk : xNum k = true)
    (hlink : (Cond.fieldLink own index NmX (TmX k).2.1 (TmX k).2.2.1).before args s = true) (hsame : (TmX k).1 = NmX) (hfin : (TmX k).2.2.2 = false) (hd : parseFieldDescriptor (TmX k).2.2.1 = some .int) (hdg : decode cc pc = .ok (.putfield index, 3))
    (kk : ∀ (w' : va_W) (H1 : Heap) (locs1 : List Loc), RX cI cD cE aX aR aD aE dA eA (upd g k v) ro fst nD nE d fw lw ed ev nx w' → va_P G vwCl w' H1 → va_D A w' → va_S A H0 H1 locs1 → W p l e R s m args below meth c H1 locs1 cells slots Q (F0 m (pc + 3) ls rest)) : W p l e R s m args below meth c H locs cells slots Q (F0 m pc ls (.int v :: .ref aX :: rest)) :=
  va_put (D := G) (ci := ciX) (v := .int v) (ty := .int) (C := NmX) (T := TmX) (N := 12) hx hb hts hin tyX tyX_ok nmX hown hK hP hD hS 0 hR.x rfl k (by have := xNum_or hk; omega) hlink (fun _ h9 => by rw [hsame] at h9; exact h9) hfin hd rfl rfl (by have := xNum_or hk; show k < 12; omega) hdg
    (fun H1 locs1 hP hD hS => by rw [xFs_set hk] at hP hD; exact kk _ H1 locs1 (hR.setX (g' := upd g k v) hR.ok.1) hP hD hS)
/-- the first that waits -/
theorem x_getF (hx : p.tables.exec = Jvm.exec) (hb : c.code = cc) (hts : ∀ w ∈ Ts, w.before args s = true) (hin : ∀ w ∈ u_ws NmX TmX 12, w ∈ Ts) (hown : s.vm.findClass own = some m.cls) (hK : va_K G vwCl tys s) (hP : va_P G vwCl w H) (hR : RX cI cD cE aX aR aD aE dA eA g ro fst nD nE d fw lw ed ev nx w)
    (hlink : (Cond.fieldLink own index NmX (TmX 6).2.1 (TmX 6).2.2.1).before args s = true) (hdg : decode cc pc = .ok (.getfield index, 3))
    (kk : W p l e R s m args below meth c H locs cells slots Q (F0 m (pc + 3) ls (va_rf (fst.map eA) :: rest))) : W p l e R s m args below meth c H locs cells slots Q (F0 m pc ls (.ref aX :: rest)) :=
  va_get (D := G) (ci := ciX) (v := va_rf (fst.map eA)) (C := NmX) (T := TmX) (N := 12) hx hb hts hin hown hK hP 0 hR.x rfl 6 (by decide) hlink (fun _ h9 => h9) rfl hdg kk
theorem x_putF (o : Option Nat) (ho : okP nE o) (hx : p.tables.exec = Jvm.exec) (hb : c.code = cc) (hts : ∀ w ∈ Ts, w.before args s = true) (hin : ∀ w ∈ u_ws NmX TmX 12, w ∈ Ts) (hown : s.vm.findClass own = some m.cls) (hK : va_K G vwCl tys s) (hP : va_P G vwCl w H) (hD : va_D A w) (hS : va_S A H0 H locs) (hR : RX cI cD cE aX aR aD aE dA eA g ro fst nD nE d fw lw ed ev nx w)
    (hlink : (Cond.fieldLink own index NmX (TmX 6).2.1 (TmX 6).2.2.1).before args s = true) (hdg : decode cc pc = .ok (.putfield index, 3))
    (kk : ∀ (w' : va_W) (H1 : Heap) (locs1 : List Loc), RX cI cD cE aX aR aD aE dA eA g ro o nD nE d fw lw ed ev nx w' → va_P G vwCl w' H1 → va_D A w' → va_S A H0 H1 locs1 → W p l e R s m args below meth c H1 locs1 cells slots Q (F0 m (pc + 3) ls rest)) : W p l e R s m args below meth c H locs cells slots Q (F0 m pc ls (va_rf (o.map eA) :: .ref aX :: rest)) :=
  va_put (D := G) (ci := ciX) (v := va_rf (o.map eA)) (ty := .object NmE) (C := NmX) (T := TmX) (N := 12) hx hb hts hin tyX tyX_ok nmX hown hK hP hD hS 0 hR.x rfl 6 (by decide) hlink (fun _ h9 => h9) rfl (by decide +kernel) (by cases o <;> rfl) (by cases o <;> rfl) (Nat.le_of_ble_eq_true rfl) hdg
    (fun H1 locs1 hP hD hS => kk _ H1 locs1 (hR.setX (g' := g) ho) hP hD hS)
/-- the arrays -/
theorem x_getA0 (hx : p.tables.exec = Jvm.exec) (hb : c.code = cc) (hts : ∀ w ∈ Ts, w.before args s = true) (hin : ∀ w ∈ u_ws NmX TmX 12, w ∈ Ts) (hown : s.vm.findClass own = some m.cls) (hK : va_K G vwCl tys s) (hP : va_P G vwCl w H) (hR : RX cI cD cE aX aR aD aE dA eA g ro fst nD nE d fw lw ed ev nx w)
    (hlink : (Cond.fieldLink own index NmX (TmX 0).2.1 (TmX 0).2.2.1).before args s = true) (hdg : decode cc pc = .ok (.getfield index, 3))
    (kk : W p l e R s m args below meth c H locs cells slots Q (F0 m (pc + 3) ls (.ref aR :: rest))) : W p l e R s m args below meth c H locs cells slots Q (F0 m pc ls (.ref aX :: rest)) :=
  va_get (D := G) (ci := ciX) (v := .ref aR) (C := NmX) (T := TmX) (N := 12) hx hb hts hin hown hK hP 0 hR.x rfl 0 (by decide) hlink (fun _ h9 => h9) rfl hdg kk
theorem x_getA2 (hx : p.tables.exec = Jvm.exec) (hb : c.code = cc) (hts : ∀ w ∈ Ts, w.before args s = true) (hin : ∀ w ∈ u_ws NmX TmX 12, w ∈ Ts) (hown : s.vm.findClass own = some m.cls) (hK : va_K G vwCl tys s) (hP : va_P G vwCl w H) (hR : RX cI cD cE aX aR aD aE dA eA g ro fst nD nE d fw lw ed ev nx w)
    (hlink : (Cond.fieldLink own index NmX (TmX 2).2.1 (TmX 2).2.2.1).before args s = true) (hdg : decode cc pc = .ok (.getfield index, 3))
    (kk : W p l e R s m args below meth c H locs cells slots Q (F0 m (pc + 3) ls (.ref aD :: rest))) : W p l e R s m args below meth c H locs cells slots Q (F0 m pc ls (.ref aX :: rest)) :=
  va_get (D := G) (ci := ciX) (v := .ref aD) (C := NmX) (T := TmX) (N := 12) hx hb hts hin hown hK hP 0 hR.x rfl 2 (by decide) hlink (fun _ h9 => h9) rfl hdg kk
theorem x_getA4 (hx : p.tables.exec = Jvm.exec) (hb : c.code = cc) (hts : ∀ w ∈ Ts, w.before args s = true) (hin : ∀ w ∈ u_ws NmX TmX 12, w ∈ Ts) (hown : s.vm.findClass own = some m.cls) (hK : va_K G vwCl tys s) (hP : va_P G vwCl w H) (hR : RX cI cD cE aX aR aD aE dA eA g ro fst nD nE d fw lw ed ev nx w)
    (hlink : (Cond.fieldLink own index NmX (TmX 4).2.1 (TmX 4).2.2.1).before args s = true) (hdg : decode cc pc = .ok (.getfield index, 3))
    (kk : W p l e R s m args below meth c H locs cells slots Q (F0 m (pc + 3) ls (.ref aE :: rest))) : W p l e R s m args below meth c H locs cells slots Q (F0 m pc ls (.ref aX :: rest)) :=
  va_get (D := G) (ci := ciX) (v := .ref aE) (C := NmX) (T := TmX) (N := 12) hx hb hts hin hown hK hP 0 hR.x rfl 4 (by decide) hlink (fun _ h9 => h9) rfl hdg kk
/-- a declaration's numbers and chains -/
theorem x_getD (k : Nat) {j : Nat} (hj : j < nD) (hx : p.tables.exec = Jvm.exec) (hb : c.code = cc) (hts : ∀ w ∈ Ts, w.before args s = true) (hin : ∀ w ∈ u_ws NmD TmD 12, w ∈ Ts) (hown : s.vm.findClass own = some m.cls) (hK : va_K G vwCl tys s) (hP : va_P G vwCl w H) (hR : RX cI cD cE aX aR aD aE dA eA g ro fst nD nE d fw lw ed ev nx w) (hk : k < 10)
    (hlink : (Cond.fieldLink own index NmD (TmD k).2.1 (TmD k).2.2.1).before args s = true) (hsame : (TmD k).1 = NmD) (hdg : decode cc pc = .ok (.getfield index, 3))
    (kk : W p l e R s m args below meth c H locs cells slots Q (F0 m (pc + 3) ls (.int (d j k) :: rest))) : W p l e R s m args below meth c H locs cells slots Q (F0 m pc ls (.ref (dA j) :: rest)) := by
  obtain ⟨q, hq⟩ := hR.dc hj
  exact va_get (D := G) (ci := ciD) (v := .int (d j k)) (C := NmD) (T := TmD) (N := 12) hx hb hts hin hown hK hP q hq rfl k (by omega) hlink (fun _ h9 => by rw [hsame] at h9; exact h9) (dFs_get hk) hdg kk
theorem x_getD10 {j : Nat} (hj : j < nD) (hx : p.tables.exec = Jvm.exec) (hb : c.code = cc) (hts : ∀ w ∈ Ts, w.before args s = true) (hin : ∀ w ∈ u_ws NmD TmD 12, w ∈ Ts) (hown : s.vm.findClass own = some m.cls) (hK : va_K G vwCl tys s) (hP : va_P G vwCl w H) (hR : RX cI cD cE aX aR aD aE dA eA g ro fst nD nE d fw lw ed ev nx w)
    (hlink : (Cond.fieldLink own index NmD (TmD 10).2.1 (TmD 10).2.2.1).before args s = true) (hdg : decode cc pc = .ok (.getfield index, 3))
    (kk : W p l e R s m args below meth c H locs cells slots Q (F0 m (pc + 3) ls (va_rf ((fw j).map eA) :: rest))) : W p l e R s m args below meth c H locs cells slots Q (F0 m pc ls (.ref (dA j) :: rest)) := by
  obtain ⟨q, hq⟩ := hR.dc hj
  exact va_get (D := G) (ci := ciD) (v := va_rf ((fw j).map eA)) (C := NmD) (T := TmD) (N := 12) hx hb hts hin hown hK hP q hq rfl 10 (by decide) hlink (fun _ h9 => h9) rfl hdg kk
theorem x_getD11 {j : Nat} (hj : j < nD) (hx : p.tables.exec = Jvm.exec) (hb : c.code = cc) (hts : ∀ w ∈ Ts, w.before args s = true) (hin : ∀ w ∈ u_ws NmD TmD 12, w ∈ Ts) (hown : s.vm.findClass own = some m.cls) (hK : va_K G vwCl tys s) (hP : va_P G vwCl w H) (hR : RX cI cD cE aX aR aD aE dA eA g ro fst nD nE d fw lw ed ev nx w)
    (hlink : (Cond.fieldLink own index NmD (TmD 11).2.1 (TmD 11).2.2.1).before args s = true) (hdg : decode cc pc = .ok (.getfield index, 3))
    (kk : W p l e R s m args below meth c H locs cells slots Q (F0 m (pc + 3) ls (va_rf ((lw j).map eA) :: rest))) : W p l e R s m args below meth c H locs cells slots Q (F0 m pc ls (.ref (dA j) :: rest)) := by
  obtain ⟨q, hq⟩ := hR.dc hj
  exact va_get (D := G) (ci := ciD) (v := va_rf ((lw j).map eA)) (C := NmD) (T := TmD) (N := 12) hx hb hts hin hown hK hP q hq rfl 11 (by decide) hlink (fun _ h9 => h9) rfl hdg kk
theorem x_putD (k : Nat) (v : Int32) {j : Nat} (hj : j < nD) (hx : p.tables.exec = Jvm.exec) (hb : c.code = cc) (hts : ∀ w ∈ Ts, w.before args s = true) (hin : ∀ w ∈ u_ws NmD TmD 12, w ∈ Ts) (hown : s.vm.findClass own = some m.cls) (hK : va_K G vwCl tys s) (hP : va_P G vwCl w H) (hD : va_D A w) (hS : va_S A H0 H locs) (hR : RX cI cD cE aX aR aD aE dA eA g ro fst nD nE d fw lw ed ev nx w) (hk : k < 10)
    (hlink : (Cond.fieldLink own index NmD (TmD k).2.1 (TmD k).2.2.1).before args s = true) (hsame : (TmD k).1 = NmD) (hfin : (TmD k).2.2.2 = false) (hd : parseFieldDescriptor (TmD k).2.2.1 = some .int) (hdg : decode cc pc = .ok (.putfield index, 3))
    (kk : ∀ (w' : va_W) (H1 : Heap) (locs1 : List Loc), RX cI cD cE aX aR aD aE dA eA g ro fst nD nE (upf d j (upd (d j) k v)) fw lw ed ev nx w' → va_P G vwCl w' H1 → va_D A w' → va_S A H0 H1 locs1 → W p l e R s m args below meth c H1 locs1 cells slots Q (F0 m (pc + 3) ls rest)) : W p l e R s m args below meth c H locs cells slots Q (F0 m pc ls (.int v :: .ref (dA j) :: rest)) := by
  obtain ⟨q, hq⟩ := hR.dc hj
  have hA := hD.weaken (B := fun _ => True) (fun _ _ _ _ => trivial)
  refine va_put (D := G) (ci := ciD) (v := .int v) (ty := .int) (C := NmD) (T := TmD) (N := 12) hx hb hts hin tyD tyD_ok nmD hown hK hP hD hS q hq rfl k (by omega) hlink (fun _ h9 => by rw [hsame] at h9; exact h9) hfin hd rfl rfl (show k < 12 by omega) hdg
    (fun H1 locs1 hP hD hS => ?_)
  have hR' := hR.setD hj hA hq (d' := upf d j (upd (d j) k v)) (fw' := fw) (lw' := lw) (fun i hi => ⟨upf_ne hi, rfl, rfl⟩) (hR.ok.2.1 j hj).1 (hR.ok.2.1 j hj).2
  rw [dFs_set hk] at hP hD
  rw [upf_eq] at hR'
  exact kk _ H1 locs1 hR' hP hD hS
theorem x_putD10 (o : Option Nat) (ho : okP nE o) {j : Nat} (hj : j < nD) (hx : p.tables.exec = Jvm.exec) (hb : c.code = cc) (hts : ∀ w ∈ Ts, w.before args s = true) (hin : ∀ w ∈ u_ws NmD TmD 12, w ∈ Ts) (hown : s.vm.findClass own = some m.cls) (hK : va_K G vwCl tys s) (hP : va_P G vwCl w H) (hD : va_D A w) (hS : va_S A H0 H locs) (hR : RX cI cD cE aX aR aD aE dA eA g ro fst nD nE d fw lw ed ev nx w)
    (hlink : (Cond.fieldLink own index NmD (TmD 10).2.1 (TmD 10).2.2.1).before args s = true) (hdg : decode cc pc = .ok (.putfield index, 3))
    (kk : ∀ (w' : va_W) (H1 : Heap) (locs1 : List Loc), RX cI cD cE aX aR aD aE dA eA g ro fst nD nE d (upo fw j o) lw ed ev nx w' → va_P G vwCl w' H1 → va_D A w' → va_S A H0 H1 locs1 → W p l e R s m args below meth c H1 locs1 cells slots Q (F0 m (pc + 3) ls rest)) : W p l e R s m args below meth c H locs cells slots Q (F0 m pc ls (va_rf (o.map eA) :: .ref (dA j) :: rest)) := by
  obtain ⟨q, hq⟩ := hR.dc hj
  have hA := hD.weaken (B := fun _ => True) (fun _ _ _ _ => trivial)
  refine va_put (D := G) (ci := ciD) (v := va_rf (o.map eA)) (ty := .object NmE) (C := NmD) (T := TmD) (N := 12) hx hb hts hin tyD tyD_ok nmD hown hK hP hD hS q hq rfl 10 (by decide) hlink (fun _ h9 => h9) rfl (by decide +kernel) (by cases o <;> rfl) (by cases o <;> rfl) (Nat.le_of_ble_eq_true rfl) hdg
    (fun H1 locs1 hP hD hS => ?_)
  have hR' := hR.setD hj hA hq (d' := d) (fw' := upo fw j o) (lw' := lw) (fun i hi => ⟨rfl, upo_ne hi, rfl⟩) (by rw [upo_eq]; exact ho) (hR.ok.2.1 j hj).2
  rw [upo_eq] at hR'
  exact kk _ H1 locs1 hR' hP hD hS
theorem x_putD11 (o : Option Nat) (ho : okP nE o) {j : Nat} (hj : j < nD) (hx : p.tables.exec = Jvm.exec) (hb : c.code = cc) (hts : ∀ w ∈ Ts, w.before args s = true) (hin : ∀ w ∈ u_ws NmD TmD 12, w ∈ Ts) (hown : s.vm.findClass own = some m.cls) (hK : va_K G vwCl tys s) (hP : va_P G vwCl w H) (hD : va_D A w) (hS : va_S A H0 H locs) (hR : RX cI cD cE aX aR aD aE dA eA g ro fst nD nE d fw lw ed ev nx w)
    (hlink : (Cond.fieldLink own index NmD (TmD 11).2.1 (TmD 11).2.2.1).before args s = true) (hdg : decode cc pc = .ok (.putfield index, 3))
    (kk : ∀ (w' : va_W) (H1 : Heap) (locs1 : List Loc), RX cI cD cE aX aR aD aE dA eA g ro fst nD nE d fw (upo lw j o) ed ev nx w' → va_P G vwCl w' H1 → va_D A w' → va_S A H0 H1 locs1 → W p l e R s m args below meth c H1 locs1 cells slots Q (F0 m (pc + 3) ls rest)) : W p l e R s m args below meth c H locs cells slots Q (F0 m pc ls (va_rf (o.map eA) :: .ref (dA j) :: rest)) := by
  obtain ⟨q, hq⟩ := hR.dc hj
  have hA := hD.weaken (B := fun _ => True) (fun _ _ _ _ => trivial)
  refine va_put (D := G) (ci := ciD) (v := va_rf (o.map eA)) (ty := .object NmE) (C := NmD) (T := TmD) (N := 12) hx hb hts hin tyD tyD_ok nmD hown hK hP hD hS q hq rfl 11 (by decide) hlink (fun _ h9 => h9) rfl (by decide +kernel) (by cases o <;> rfl) (by cases o <;> rfl) (Nat.le_of_ble_eq_true rfl) hdg
    (fun H1 locs1 hP hD hS => ?_)
  have hR' := hR.setD hj hA hq (d' := d) (fw' := fw) (lw' := upo lw j o) (fun i hi => ⟨rfl, rfl, upo_ne hi⟩) (hR.ok.2.1 j hj).1 (by rw [upo_eq]; exact ho)
  rw [upo_eq] at hR'
  exact kk _ H1 locs1 hR' hP hD hS
/-- an event's -/
theorem x_getE (k : Nat) {j : Nat} (hj : j < nE) (hx : p.tables.exec = Jvm.exec) (hb : c.code = cc) (hts : ∀ w ∈ Ts, w.before args s = true) (hin : ∀ w ∈ u_ws NmE TmE 6, w ∈ Ts) (hown : s.vm.findClass own = some m.cls) (hK : va_K G vwCl tys s) (hP : va_P G vwCl w H) (hR : RX cI cD cE aX aR aD aE dA eA g ro fst nD nE d fw lw ed ev nx w) (h1 : 1 ≤ k) (hk : k < 5)
    (hlink : (Cond.fieldLink own index NmE (TmE k).2.1 (TmE k).2.2.1).before args s = true) (hsame : (TmE k).1 = NmE) (hdg : decode cc pc = .ok (.getfield index, 3))
    (kk : W p l e R s m args below meth c H locs cells slots Q (F0 m (pc + 3) ls (.int (ev j k) :: rest))) : W p l e R s m args below meth c H locs cells slots Q (F0 m pc ls (.ref (eA j) :: rest)) := by
  obtain ⟨q, hq⟩ := hR.ec hj
  exact va_get (D := G) (ci := ciE) (v := .int (ev j k)) (C := NmE) (T := TmE) (N := 6) hx hb hts hin hown hK hP q hq rfl k (by omega) hlink (fun _ h9 => by rw [hsame] at h9; exact h9) (eFs_get h1 hk) hdg kk
theorem x_getE0 {j : Nat} (hj : j < nE) (hx : p.tables.exec = Jvm.exec) (hb : c.code = cc) (hts : ∀ w ∈ Ts, w.before args s = true) (hin : ∀ w ∈ u_ws NmE TmE 6, w ∈ Ts) (hown : s.vm.findClass own = some m.cls) (hK : va_K G vwCl tys s) (hP : va_P G vwCl w H) (hR : RX cI cD cE aX aR aD aE dA eA g ro fst nD nE d fw lw ed ev nx w)
    (hlink : (Cond.fieldLink own index NmE (TmE 0).2.1 (TmE 0).2.2.1).before args s = true) (hdg : decode cc pc = .ok (.getfield index, 3))
    (kk : W p l e R s m args below meth c H locs cells slots Q (F0 m (pc + 3) ls (.ref (dA (ed j)) :: rest))) : W p l e R s m args below meth c H locs cells slots Q (F0 m pc ls (.ref (eA j) :: rest)) := by
  obtain ⟨q, hq⟩ := hR.ec hj
  exact va_get (D := G) (ci := ciE) (v := .ref (dA (ed j))) (C := NmE) (T := TmE) (N := 6) hx hb hts hin hown hK hP q hq rfl 0 (by decide) hlink (fun _ h9 => h9) rfl hdg kk
theorem x_getE5 {j : Nat} (hj : j < nE) (hx : p.tables.exec = Jvm.exec) (hb : c.code = cc) (hts : ∀ w ∈ Ts, w.before args s = true) (hin : ∀ w ∈ u_ws NmE TmE 6, w ∈ Ts) (hown : s.vm.findClass own = some m.cls) (hK : va_K G vwCl tys s) (hP : va_P G vwCl w H) (hR : RX cI cD cE aX aR aD aE dA eA g ro fst nD nE d fw lw ed ev nx w)
    (hlink : (Cond.fieldLink own index NmE (TmE 5).2.1 (TmE 5).2.2.1).before args s = true) (hdg : decode cc pc = .ok (.getfield index, 3))
    (kk : W p l e R s m args below meth c H locs cells slots Q (F0 m (pc + 3) ls (va_rf ((nx j).map eA) :: rest))) : W p l e R s m args below meth c H locs cells slots Q (F0 m pc ls (.ref (eA j) :: rest)) := by
  obtain ⟨q, hq⟩ := hR.ec hj
  exact va_get (D := G) (ci := ciE) (v := va_rf ((nx j).map eA)) (C := NmE) (T := TmE) (N := 6) hx hb hts hin hown hK hP q hq rfl 5 (by decide) hlink (fun _ h9 => h9) rfl hdg kk
theorem x_putE4 (v : Int32) {j : Nat} (hj : j < nE) (hx : p.tables.exec = Jvm.exec) (hb : c.code = cc) (hts : ∀ w ∈ Ts, w.before args s = true) (hin : ∀ w ∈ u_ws NmE TmE 6, w ∈ Ts) (hown : s.vm.findClass own = some m.cls) (hK : va_K G vwCl tys s) (hP : va_P G vwCl w H) (hD : va_D A w) (hS : va_S A H0 H locs) (hR : RX cI cD cE aX aR aD aE dA eA g ro fst nD nE d fw lw ed ev nx w)
    (hlink : (Cond.fieldLink own index NmE (TmE 4).2.1 (TmE 4).2.2.1).before args s = true) (hdg : decode cc pc = .ok (.putfield index, 3))
    (kk : ∀ (w' : va_W) (H1 : Heap) (locs1 : List Loc), RX cI cD cE aX aR aD aE dA eA g ro fst nD nE d fw lw ed (up2 ev j 4 v) nx w' → va_P G vwCl w' H1 → va_D A w' → va_S A H0 H1 locs1 → W p l e R s m args below meth c H1 locs1 cells slots Q (F0 m (pc + 3) ls rest)) : W p l e R s m args below meth c H locs cells slots Q (F0 m pc ls (.int v :: .ref (eA j) :: rest)) := by
  obtain ⟨q, hq⟩ := hR.ec hj
  have hA := hD.weaken (B := fun _ => True) (fun _ _ _ _ => trivial)
  refine va_put (D := G) (ci := ciE) (v := .int v) (ty := .int) (C := NmE) (T := TmE) (N := 6) hx hb hts hin tyE tyE_ok nmE hown hK hP hD hS q hq rfl 4 (by decide) hlink (fun _ h9 => h9) rfl (by decide +kernel) rfl rfl (Nat.le_of_ble_eq_true rfl) hdg
    (fun H1 locs1 hP hD hS => ?_)
  have hR' := hR.setE hj hA hq (ev' := up2 ev j 4 v) (nx' := nx) (fun i hi => ⟨up2_ne hi, rfl⟩) (hR.ok.2.2 j hj).2
  rw [eFs_set (by decide) (by decide)] at hP hD
  rw [up2_eq] at hR'
  exact kk _ H1 locs1 hR' hP hD hS
theorem x_putE5 (o : Option Nat) (ho : okP nE o) {j : Nat} (hj : j < nE) (hx : p.tables.exec = Jvm.exec) (hb : c.code = cc) (hts : ∀ w ∈ Ts, w.before args s = true) (hin : ∀ w ∈ u_ws NmE TmE 6, w ∈ Ts) (hown : s.vm.findClass own = some m.cls) (hK : va_K G vwCl tys s) (hP : va_P G vwCl w H) (hD : va_D A w) (hS : va_S A H0 H locs) (hR : RX cI cD cE aX aR aD aE dA eA g ro fst nD nE d fw lw ed ev nx w)
    (hlink : (Cond.fieldLink own index NmE (TmE 5).2.1 (TmE 5).2.2.1).before args s = true) (hdg : decode cc pc = .ok (.putfield index, 3))
    (kk : ∀ (w' : va_W) (H1 : Heap) (locs1 : List Loc), RX cI cD cE aX aR aD aE dA eA g ro fst nD nE d fw lw ed ev (upo nx j o) w' → va_P G vwCl w' H1 → va_D A w' → va_S A H0 H1 locs1 → W p l e R s m args below meth c H1 locs1 cells slots Q (F0 m (pc + 3) ls rest)) : W p l e R s m args below meth c H locs cells slots Q (F0 m pc ls (va_rf (o.map eA) :: .ref (eA j) :: rest)) := by
  obtain ⟨q, hq⟩ := hR.ec hj
  have hA := hD.weaken (B := fun _ => True) (fun _ _ _ _ => trivial)
  refine va_put (D := G) (ci := ciE) (v := va_rf (o.map eA)) (ty := .object NmE) (C := NmE) (T := TmE) (N := 6) hx hb hts hin tyE tyE_ok nmE hown hK hP hD hS q hq rfl 5 (by decide) hlink (fun _ h9 => h9) rfl (by decide +kernel) (by cases o <;> rfl) (by cases o <;> rfl) (Nat.le_of_ble_eq_true rfl) hdg
    (fun H1 locs1 hP hD hS => ?_)
  have hR' := hR.setE hj hA hq (ev' := ev) (nx' := upo nx j o) (fun i hi => ⟨rfl, upo_ne hi⟩) (by rw [upo_eq]; exact ho)
  rw [upo_eq] at hR'
  exact kk _ H1 locs1 hR' hP hD hS
end XR
end
section
-- WHAT EACH METHOD OF THE CLASS ANSWERS AND DOES, over the numbers of its state
def fWithin (v l : Int32) : Int32 := if v < 0 then 0 else if l < v then 0 else 1
def fPerson (g : Nat → Int32) (v : Int32) : Int32 := if v < 0 then 0 else if g 1 ≤ v then 0 else if 12 ≤ v then 0 else 1
def fRole (g ro : Nat → Int32) (v : Int32) : Int32 := if fPerson g v = 0 then -1 else ro v.toNatClampNeg
def fDeclAt (g : Nat → Int32) (v : Int32) : Option Nat := if v < 0 then none else if g 3 ≤ v then none else if 20 ≤ v then none else some v.toNatClampNeg
def fEvAt (g : Nat → Int32) (v : Int32) : Option Nat := if v < 0 then none else if g 5 ≤ v then none else if 120 ≤ v then none else some v.toNatClampNeg
def fBit (x k : Int32) : Int32 := if x &&& (1 : Int32) <<< (k &&& 31) = 0 then 0 else 1
def fMarked (f : Nat → Int32) (k : Int32) : Int32 := if f 4 &&& k = 0 then 0 else 1
def fOver (f : Nat → Int32) : Int32 := if f 3 = 6 then 1 else if f 3 = 7 then 1 else 0
def fIs (b : Prop) (h : Decidable b) : Int32 := if b then 1 else 0
def fStateAllows (f : Nat → Int32) (a : Int32) : Int32 :=
  if a = 0 then (if f 3 = 0 then 1 else 0)
  else if a = 1 then (if f 3 = 0 then 1 else if f 3 = 1 then 1 else if f 3 = 2 then 1 else 0)
  else if a = 2 then (if f 3 = 1 then 1 else 0)
  else if a = 3 then (if f 3 = 2 then 1 else 0)
  else if a = 4 then (if f 3 = 3 then 1 else 0)
  else if a = 5 then (if f 3 = 3 then 1 else 0)
  else if a = 6 then (if f 3 = 2 then 1 else if f 3 = 3 then 1 else 0)
  else if a = 7 then (if f 3 = 4 then (if f 1 = 0 then 0 else 1) else 0)
  else if a = 8 then (if f 3 = 4 then (if f 1 = 0 then 1 else if f 3 = 5 then 1 else 0) else if f 3 = 5 then 1 else 0)
  else if a = 9 then (if f 3 = 2 then 1 else if f 3 = 3 then 1 else 0)
  else 0
def fMarksAllow (f : Nat → Int32) (a : Int32) : Int32 :=
  if a = 1 then (if fMarked f 1 = 0 then 1 else 0)
  else if a = 2 then (if f 1 = 1 then 1 else if fMarked f 1 = 0 then 0 else 1)
  else if a = 6 then (if fMarked f 2 = 0 then 1 else 0)
  else if a = 9 then fMarked f 4
  else 1
def fBecome (f : Nat → Int32) (n t : Int32) : Nat → Int32 := upd (upd (upd f 3 n) 6 t) 7 (-1)
def fRelease (f : Nat → Int32) (t : Int32) : Nat → Int32 :=
  if f 3 = 2 then (if f 5 = 0 then (if fMarked f 4 = 0 then (if fMarked f 1 = 0 then f else if f 1 = 0 then (if fMarked f 2 = 0 then f else fBecome f 4 t) else fBecome f 4 t) else f) else f) else f
def fAct (f : Nat → Int32) (a t : Int32) : Nat → Int32 :=
  if a = 0 then fBecome f 1 t
  else if a = 1 then upd f 4 (f 4 ||| 1)
  else if a = 2 then fBecome f 2 t
  else if a = 3 then fBecome f 3 t
  else if a = 4 then fBecome f 2 t
  else if a = 5 then fBecome (upd f 4 (f 4 ||| 4)) 2 t
  else if a = 6 then upd f 4 (f 4 ||| 2)
  else if a = 7 then fBecome f 5 t
  else if a = 8 then fBecome f 7 t
  else if a = 9 then upd f 4 (f 4 &&& (-5))
  else f
def fCarry (f : Nat → Int32) (a t : Int32) : Nat → Int32 := fRelease (fAct f a t) t
def fInv (f : Nat → Int32) (why t : Int32) : Nat → Int32 := fBecome (upd f 8 why) 6 t
def fTwoR (f : Nat → Int32) (who : Int32) : Int32 := if f 7 = -1 then 2 else if f 7 = who then 0 else 1
def fTwo (f : Nat → Int32) (who why t : Int32) : Nat → Int32 := if f 7 = -1 then upd f 7 who else if f 7 = who then f else fInv f why t
def fReqR (f : Nat → Int32) (who why : Int32) : Int32 :=
  if f 3 = 0 then 1 else if f 3 = 1 then 1 else if f 3 = 2 then (if why = 0 then 0 else 1) else if f 3 = 3 then (if why = 0 then 0 else 1) else if f 3 = 4 then (if why = 0 then 0 else fTwoR f who) else 0
def fReq (f : Nat → Int32) (who why t : Int32) : Nat → Int32 :=
  if f 3 = 0 then fInv f why t else if f 3 = 1 then fInv f why t else if f 3 = 2 then (if why = 0 then f else fInv f why t) else if f 3 = 3 then (if why = 0 then f else fInv f why t) else if f 3 = 4 then (if why = 0 then f else fTwo f who why t) else f
def fOfficers (k : Int32) : Int32 := if k < 2 then (if k = 8 then 1 else 0) else if k ≤ 5 then 1 else if k = 8 then 1 else 0
def fOpen (g : Nat → Int32) (t : Int32) : Int32 := if t - t / 24 * 24 < g 9 then 0 else if g 10 ≤ t - t / 24 * 24 then 0 else 1
def fMayTell (g ro : Nat → Int32) (f : Nat → Int32) (v : Nat → Int32) : Int32 :=
  if v 1 = 0 then (if v 2 = f 2 then 1 else 0)
  else if v 1 = 1 then (if fRole g ro (v 2) = 0 then 1 else if fRole g ro (v 2) = 2 then 1 else 0)
  else if v 1 = 6 then (if v 2 = f 2 then 1 else 0)
  else if v 1 = 7 then (if fRole g ro (v 2) = 2 then 1 else 0)
  else if v 1 = 9 then (if v 2 = f 2 then 1 else 0)
  else (if fRole g ro (v 2) = 1 then 1 else 0)
def fRefusal (g ro : Nat → Int32) (f : Nat → Int32) (v : Nat → Int32) : Int32 :=
  if fBit (g 11) (v 1) = 0 then
    (if fMayTell g ro f v = 0 then 2
     else if fOfficers (v 1) = 0 then (if fStateAllows f (v 1) = 0 then 4 else if fMarksAllow f (v 1) = 0 then 5 else 0)
     else if fOpen g (v 3) = 0 then 3
     else if fStateAllows f (v 1) = 0 then 4 else if fMarksAllow f (v 1) = 0 then 5 else 0)
  else 1
def fAhead (a b : Nat → Int32) : Int32 := if a 3 < b 3 then 1 else if a 3 = b 3 then (if b 1 ≤ a 1 then 0 else 1) else 0
def fWaits (a : Nat → Int32) : Int32 := if a 4 = -1 then 1 else 0
theorem fBit01 (x k : Int32) : fBit x k = 0 ∨ fBit x k = 1 := by unfold fBit; split <;> simp
theorem fMarked01 (f : Nat → Int32) (k : Int32) : fMarked f k = 0 ∨ fMarked f k = 1 := by unfold fMarked; split <;> simp
theorem nz01 {r x : Int32} (e : r = x) (h : x = 0 ∨ x = 1) : narrow .boolean (.int r) = .int r := by subst e; rcases h with h | h <;> rw [h] <;> rfl
theorem x_sw0_9 (x : Int32) : x = 0 ∨ x = 1 ∨ x = 2 ∨ x = 3 ∨ x = 4 ∨ x = 5 ∨ x = 6 ∨ x = 7 ∨ x = 8 ∨ x = 9 ∨ ((x.toInt < 0 ∨ 9 < x.toInt) ∧ ¬ x = 0 ∧ ¬ x = 1 ∧ ¬ x = 2 ∧ ¬ x = 3 ∧ ¬ x = 4 ∧ ¬ x = 5 ∧ ¬ x = 6 ∧ ¬ x = 7 ∧ ¬ x = 8 ∧ ¬ x = 9) := by
  by_cases h0 : x = 0
  · simp [h0]
  by_cases h1 : x = 1
  · simp [h1]
  by_cases h2 : x = 2
  · simp [h2]
  by_cases h3 : x = 3
  · simp [h3]
  by_cases h4 : x = 4
  · simp [h4]
  by_cases h5 : x = 5
  · simp [h5]
  by_cases h6 : x = 6
  · simp [h6]
  by_cases h7 : x = 7
  · simp [h7]
  by_cases h8 : x = 8
  · simp [h8]
  by_cases h9 : x = 9
  · simp [h9]
  have a0 := lv_neT (a := 0) h0 rfl
  have a1 := lv_neT (a := 1) h1 rfl
  have a2 := lv_neT (a := 2) h2 rfl
  have a3 := lv_neT (a := 3) h3 rfl
  have a4 := lv_neT (a := 4) h4 rfl
  have a5 := lv_neT (a := 5) h5 rfl
  have a6 := lv_neT (a := 6) h6 rfl
  have a7 := lv_neT (a := 7) h7 rfl
  have a8 := lv_neT (a := 8) h8 rfl
  have a9 := lv_neT (a := 9) h9 rfl
  refine Or.inr (Or.inr (Or.inr (Or.inr (Or.inr (Or.inr (Or.inr (Or.inr (Or.inr (Or.inr (⟨by omega, h0, h1, h2, h3, h4, h5, h6, h7, h8, h9⟩))))))))))
theorem x_sw1_9 (x : Int32) : x = 1 ∨ x = 2 ∨ x = 3 ∨ x = 4 ∨ x = 5 ∨ x = 6 ∨ x = 7 ∨ x = 8 ∨ x = 9 ∨ ((x.toInt < 1 ∨ 9 < x.toInt) ∧ ¬ x = 1 ∧ ¬ x = 2 ∧ ¬ x = 3 ∧ ¬ x = 4 ∧ ¬ x = 5 ∧ ¬ x = 6 ∧ ¬ x = 7 ∧ ¬ x = 8 ∧ ¬ x = 9) := by
  by_cases h1 : x = 1
  · simp [h1]
  by_cases h2 : x = 2
  · simp [h2]
  by_cases h3 : x = 3
  · simp [h3]
  by_cases h4 : x = 4
  · simp [h4]
  by_cases h5 : x = 5
  · simp [h5]
  by_cases h6 : x = 6
  · simp [h6]
  by_cases h7 : x = 7
  · simp [h7]
  by_cases h8 : x = 8
  · simp [h8]
  by_cases h9 : x = 9
  · simp [h9]
  have a1 := lv_neT (a := 1) h1 rfl
  have a2 := lv_neT (a := 2) h2 rfl
  have a3 := lv_neT (a := 3) h3 rfl
  have a4 := lv_neT (a := 4) h4 rfl
  have a5 := lv_neT (a := 5) h5 rfl
  have a6 := lv_neT (a := 6) h6 rfl
  have a7 := lv_neT (a := 7) h7 rfl
  have a8 := lv_neT (a := 8) h8 rfl
  have a9 := lv_neT (a := 9) h9 rfl
  refine Or.inr (Or.inr (Or.inr (Or.inr (Or.inr (Or.inr (Or.inr (Or.inr (Or.inr (⟨by omega, h1, h2, h3, h4, h5, h6, h7, h8, h9⟩)))))))))
theorem x_sw0_4 (x : Int32) : x = 0 ∨ x = 1 ∨ x = 2 ∨ x = 3 ∨ x = 4 ∨ ((x.toInt < 0 ∨ 4 < x.toInt) ∧ ¬ x = 0 ∧ ¬ x = 1 ∧ ¬ x = 2 ∧ ¬ x = 3 ∧ ¬ x = 4) := by
  by_cases h0 : x = 0
  · simp [h0]
  by_cases h1 : x = 1
  · simp [h1]
  by_cases h2 : x = 2
  · simp [h2]
  by_cases h3 : x = 3
  · simp [h3]
  by_cases h4 : x = 4
  · simp [h4]
  have a0 := lv_neT (a := 0) h0 rfl
  have a1 := lv_neT (a := 1) h1 rfl
  have a2 := lv_neT (a := 2) h2 rfl
  have a3 := lv_neT (a := 3) h3 rfl
  have a4 := lv_neT (a := 4) h4 rfl
  refine Or.inr (Or.inr (Or.inr (Or.inr (Or.inr (⟨by omega, h0, h1, h2, h3, h4⟩)))))
theorem x_sw0_8 (x : Int32) : x = 0 ∨ x = 1 ∨ x = 2 ∨ x = 3 ∨ x = 4 ∨ x = 5 ∨ x = 6 ∨ x = 7 ∨ x = 8 ∨ ((x.toInt < 0 ∨ 8 < x.toInt) ∧ ¬ x = 0 ∧ ¬ x = 1 ∧ ¬ x = 2 ∧ ¬ x = 3 ∧ ¬ x = 4 ∧ ¬ x = 5 ∧ ¬ x = 6 ∧ ¬ x = 7 ∧ ¬ x = 8) := by
  by_cases h0 : x = 0
  · simp [h0]
  by_cases h1 : x = 1
  · simp [h1]
  by_cases h2 : x = 2
  · simp [h2]
  by_cases h3 : x = 3
  · simp [h3]
  by_cases h4 : x = 4
  · simp [h4]
  by_cases h5 : x = 5
  · simp [h5]
  by_cases h6 : x = 6
  · simp [h6]
  by_cases h7 : x = 7
  · simp [h7]
  by_cases h8 : x = 8
  · simp [h8]
  have a0 := lv_neT (a := 0) h0 rfl
  have a1 := lv_neT (a := 1) h1 rfl
  have a2 := lv_neT (a := 2) h2 rfl
  have a3 := lv_neT (a := 3) h3 rfl
  have a4 := lv_neT (a := 4) h4 rfl
  have a5 := lv_neT (a := 5) h5 rfl
  have a6 := lv_neT (a := 6) h6 rfl
  have a7 := lv_neT (a := 7) h7 rfl
  have a8 := lv_neT (a := 8) h8 rfl
  refine Or.inr (Or.inr (Or.inr (Or.inr (Or.inr (Or.inr (Or.inr (Or.inr (Or.inr (⟨by omega, h0, h1, h2, h3, h4, h5, h6, h7, h8⟩)))))))))
theorem x_sw0_5 (x : Int32) : x = 0 ∨ x = 1 ∨ x = 2 ∨ x = 3 ∨ x = 4 ∨ x = 5 ∨ ((x.toInt < 0 ∨ 5 < x.toInt) ∧ ¬ x = 0 ∧ ¬ x = 1 ∧ ¬ x = 2 ∧ ¬ x = 3 ∧ ¬ x = 4 ∧ ¬ x = 5) := by
  by_cases h0 : x = 0
  · simp [h0]
  by_cases h1 : x = 1
  · simp [h1]
  by_cases h2 : x = 2
  · simp [h2]
  by_cases h3 : x = 3
  · simp [h3]
  by_cases h4 : x = 4
  · simp [h4]
  by_cases h5 : x = 5
  · simp [h5]
  have a0 := lv_neT (a := 0) h0 rfl
  have a1 := lv_neT (a := 1) h1 rfl
  have a2 := lv_neT (a := 2) h2 rfl
  have a3 := lv_neT (a := 3) h3 rfl
  have a4 := lv_neT (a := 4) h4 rfl
  have a5 := lv_neT (a := 5) h5 rfl
  refine Or.inr (Or.inr (Or.inr (Or.inr (Or.inr (Or.inr (⟨by omega, h0, h1, h2, h3, h4, h5⟩))))))
end
section
set_option maxHeartbeats 4000000 in
set_option maxRecDepth 100000 in
theorem c_D_isMarked {l : Launch} {G : va_G} {cI cD cE : ClassId} {aX aR aD aE : Nat} {dA eA : Nat → Nat} {g ro : Nat → Int32} {fst : Option Nat} {nD nE : Nat} {d : Nat → Nat → Int32} {fw lw : Nat → Option Nat} {ed : Nat → Nat} {ev : Nat → Nat → Int32} {nx : Nat → Option Nat} {w : va_W} {sz : Nat} (hR : RX cI cD cE aX aR aD aE dA eA g ro fst nD nE d fw lw ed ev nx w) {j : Nat} (hj : j < nD) (mark : Int32) : xMi l yD_isMarked wsD_isMarked ({ frames := 0, cells := 0, slots := 0, locals := 0 }) [.ref (dA j), .int mark] G (xTys cI cD cE) w sz (fun r w' => r = fMarked (d j) mark ∧ w = w') 0 0 := by
  refine x_ofW (fun A => va_Qi (fun r w' => r = fMarked (d j) mark ∧ w = w') (xEnd G (xTys cI cD cE) A) A) cD_isMarked 2 (some .boolean) (by decide) rfl (Nat.le_of_ble_eq_true rfl) ?_
  intro p e s m below meth c A ls hx hb hr hlocks hml hnm hown hB hA hP hK hD hS hl
  have hl : lv_has ls 2 [(0, .ref (dA j)), (1, .int mark)] := hl
  have hown : s.vm.findClass NmD = some m.cls := hown
  refine lv_aload_n hx hb dD_isMarked_0 rfl (lv_at hl 0 rfl) ?_
  refine x_getD 4 hj hx hb hB inBD hown hK hP hR (by decide) (hB _ fl_D_27) rfl dD_isMarked_1 ?_
  refine lv_iload_n hx hb dD_isMarked_4 rfl (lv_at hl 1 rfl) ?_
  refine lv_iand hx hb dD_isMarked_5 ?_
  refine lv_if_eq (tgt := 13) hx hb dD_isMarked_6 (by decide) (fun c1 => ?_) (fun c1 => ?_)
  · refine lv_iconst (v := 0) hx hb dD_isMarked_13 (by decide) ?_
    exact x_zret (v := 0) hx hb hr hlocks rfl ⟨by first | (simp [fMarked, c1]; done) | simp_all [fMarked], rfl⟩ hP hK hD hS dD_isMarked_14
  · refine lv_iconst (v := 1) hx hb dD_isMarked_9 (by decide) ?_
    refine lv_goto (tgt := 14) hx hb dD_isMarked_10 (by decide) ?_
    exact x_zret (v := 1) hx hb hr hlocks rfl ⟨by first | (simp [fMarked, c1]; done) | simp_all [fMarked], rfl⟩ hP hK hD hS dD_isMarked_14
set_option maxHeartbeats 4000000 in
set_option maxRecDepth 100000 in
theorem c_D_hasBar {l : Launch} {G : va_G} {cI cD cE : ClassId} {aX aR aD aE : Nat} {dA eA : Nat → Nat} {g ro : Nat → Int32} {fst : Option Nat} {nD nE : Nat} {d : Nat → Nat → Int32} {fw lw : Nat → Option Nat} {ed : Nat → Nat} {ev : Nat → Nat → Int32} {nx : Nat → Option Nat} {w : va_W} {sz : Nat} (hR : RX cI cD cE aX aR aD aE dA eA g ro fst nD nE d fw lw ed ev nx w) {j : Nat} (hj : j < nD) (bar : Int32) : xMi l yD_hasBar wsD_hasBar ({ frames := 0, cells := 0, slots := 0, locals := 0 }) [.ref (dA j), .int bar] G (xTys cI cD cE) w sz (fun r w' => r = fBit (d j 5) bar ∧ w = w') 0 0 := by
  refine x_ofW (fun A => va_Qi (fun r w' => r = fBit (d j 5) bar ∧ w = w') (xEnd G (xTys cI cD cE) A) A) cD_hasBar 2 (some .boolean) (by decide) rfl (Nat.le_of_ble_eq_true rfl) ?_
  intro p e s m below meth c A ls hx hb hr hlocks hml hnm hown hB hA hP hK hD hS hl
  have hl : lv_has ls 2 [(0, .ref (dA j)), (1, .int bar)] := hl
  have hown : s.vm.findClass NmD = some m.cls := hown
  refine lv_aload_n hx hb dD_hasBar_0 rfl (lv_at hl 0 rfl) ?_
  refine x_getD 5 hj hx hb hB inBD hown hK hP hR (by decide) (hB _ fl_D_30) rfl dD_hasBar_1 ?_
  refine lv_iconst (v := 1) hx hb dD_hasBar_4 (by decide) ?_
  refine lv_iload_n hx hb dD_hasBar_5 rfl (lv_at hl 1 rfl) ?_
  refine lv_ishl hx hb dD_hasBar_6 ?_
  refine lv_iand hx hb dD_hasBar_7 ?_
  refine lv_if_eq (tgt := 15) hx hb dD_hasBar_8 (by decide) (fun c1 => ?_) (fun c1 => ?_)
  · refine lv_iconst (v := 0) hx hb dD_hasBar_15 (by decide) ?_
    exact x_zret (v := 0) hx hb hr hlocks rfl ⟨by first | (simp [fBit, c1]; done) | simp_all [fBit], rfl⟩ hP hK hD hS dD_hasBar_16
  · refine lv_iconst (v := 1) hx hb dD_hasBar_11 (by decide) ?_
    refine lv_goto (tgt := 16) hx hb dD_hasBar_12 (by decide) ?_
    exact x_zret (v := 1) hx hb hr hlocks rfl ⟨by first | (simp [fBit, c1]; done) | simp_all [fBit], rfl⟩ hP hK hD hS dD_hasBar_16
set_option maxHeartbeats 4000000 in
set_option maxRecDepth 100000 in
theorem c_D_isOver {l : Launch} {G : va_G} {cI cD cE : ClassId} {aX aR aD aE : Nat} {dA eA : Nat → Nat} {g ro : Nat → Int32} {fst : Option Nat} {nD nE : Nat} {d : Nat → Nat → Int32} {fw lw : Nat → Option Nat} {ed : Nat → Nat} {ev : Nat → Nat → Int32} {nx : Nat → Option Nat} {w : va_W} {sz : Nat} (hR : RX cI cD cE aX aR aD aE dA eA g ro fst nD nE d fw lw ed ev nx w) {j : Nat} (hj : j < nD)  : xMi l yD_isOver wsD_isOver ({ frames := 0, cells := 0, slots := 0, locals := 0 }) [.ref (dA j)] G (xTys cI cD cE) w sz (fun r w' => r = fOver (d j) ∧ w = w') 0 0 := by
  refine x_ofW (fun A => va_Qi (fun r w' => r = fOver (d j) ∧ w = w') (xEnd G (xTys cI cD cE) A) A) cD_isOver 1 (some .boolean) (by decide) rfl (Nat.le_of_ble_eq_true rfl) ?_
  intro p e s m below meth c A ls hx hb hr hlocks hml hnm hown hB hA hP hK hD hS hl
  have hl : lv_has ls 1 [(0, .ref (dA j))] := hl
  have hown : s.vm.findClass NmD = some m.cls := hown
  refine lv_aload_n hx hb dD_isOver_0 rfl (lv_at hl 0 rfl) ?_
  refine x_getD 3 hj hx hb hB inBD hown hK hP hR (by decide) (hB _ fl_D_21) rfl dD_isOver_1 ?_
  refine lv_bipush (v := 6) hx hb dD_isOver_4 (by decide) ?_
  refine lv_icmp_eq (tgt := 18) hx hb dD_isOver_6 (by decide) (fun c1 => ?_) (fun c1 => ?_)
  · refine lv_iconst (v := 1) hx hb dD_isOver_18 (by decide) ?_
    refine lv_goto (tgt := 23) hx hb dD_isOver_19 (by decide) ?_
    exact x_zret (v := 1) hx hb hr hlocks rfl ⟨by first | (simp [fOver, c1]; done) | simp_all [fOver], rfl⟩ hP hK hD hS dD_isOver_23
  · refine lv_aload_n hx hb dD_isOver_9 rfl (lv_at hl 0 rfl) ?_
    refine x_getD 3 hj hx hb hB inBD hown hK hP hR (by decide) (hB _ fl_D_21) rfl dD_isOver_10 ?_
    refine lv_bipush (v := 7) hx hb dD_isOver_13 (by decide) ?_
    refine lv_icmp_ne (tgt := 22) hx hb dD_isOver_15 (by decide) (fun c2 => ?_) (fun c2 => ?_)
    · refine lv_iconst (v := 0) hx hb dD_isOver_22 (by decide) ?_
      exact x_zret (v := 0) hx hb hr hlocks rfl ⟨by first | (simp [fOver, c1, c2]; done) | simp_all [fOver], rfl⟩ hP hK hD hS dD_isOver_23
    · refine lv_iconst (v := 1) hx hb dD_isOver_18 (by decide) ?_
      refine lv_goto (tgt := 23) hx hb dD_isOver_19 (by decide) ?_
      exact x_zret (v := 1) hx hb hr hlocks rfl ⟨by first | (simp [fOver, c1, c2]; done) | simp_all [fOver], rfl⟩ hP hK hD hS dD_isOver_23
set_option maxHeartbeats 4000000 in
set_option maxRecDepth 100000 in
theorem c_D_stateAllows {l : Launch} {G : va_G} {cI cD cE : ClassId} {aX aR aD aE : Nat} {dA eA : Nat → Nat} {g ro : Nat → Int32} {fst : Option Nat} {nD nE : Nat} {d : Nat → Nat → Int32} {fw lw : Nat → Option Nat} {ed : Nat → Nat} {ev : Nat → Nat → Int32} {nx : Nat → Option Nat} {w : va_W} {sz : Nat} (hR : RX cI cD cE aX aR aD aE dA eA g ro fst nD nE d fw lw ed ev nx w) {j : Nat} (hj : j < nD) (act : Int32) : xMi l yD_stateAllows wsD_stateAllows ({ frames := 0, cells := 0, slots := 0, locals := 0 }) [.ref (dA j), .int act] G (xTys cI cD cE) w sz (fun r w' => r = fStateAllows (d j) act ∧ w = w') 0 0 := by
  refine x_ofW (fun A => va_Qi (fun r w' => r = fStateAllows (d j) act ∧ w = w') (xEnd G (xTys cI cD cE) A) A) cD_stateAllows 2 (some .boolean) (by decide) rfl (Nat.le_of_ble_eq_true rfl) ?_
  intro p e s m below meth c A ls hx hb hr hlocks hml hnm hown hB hA hP hK hD hS hl
  have hl : lv_has ls 2 [(0, .ref (dA j)), (1, .int act)] := hl
  have hown : s.vm.findClass NmD = some m.cls := hown
  refine lv_iload_n hx hb dD_stateAllows_0 rfl (lv_at hl 1 rfl) ?_
  rcases x_sw0_9 act with h1 | h2 | h3 | h4 | h5 | h6 | h7 | h8 | h9 | h10 | h11
  · refine lv_tableIn (tgt := 56) hx hb dD_stateAllows_1 (by rw [h1]; decide) (by rw [h1]; decide) (by rw [h1]; rfl) (by decide) ?_
    refine lv_aload_n hx hb dD_stateAllows_56 rfl (lv_at hl 0 rfl) ?_
    refine x_getD 3 hj hx hb hB inBD hown hK hP hR (by decide) (hB _ fl_D_21) rfl dD_stateAllows_57 ?_
    refine lv_if_ne (tgt := 67) hx hb dD_stateAllows_60 (by decide) (fun c12 => ?_) (fun c12 => ?_)
    · refine lv_iconst (v := 0) hx hb dD_stateAllows_67 (by decide) ?_
      exact x_zret (v := 0) hx hb hr hlocks rfl ⟨by first | (simp [fStateAllows, h1, c12]; done) | simp_all [fStateAllows], rfl⟩ hP hK hD hS dD_stateAllows_68
    · refine lv_iconst (v := 1) hx hb dD_stateAllows_63 (by decide) ?_
      refine lv_goto (tgt := 68) hx hb dD_stateAllows_64 (by decide) ?_
      exact x_zret (v := 1) hx hb hr hlocks rfl ⟨by first | (simp [fStateAllows, h1, c12]; done) | simp_all [fStateAllows], rfl⟩ hP hK hD hS dD_stateAllows_68
  · refine lv_tableIn (tgt := 69) hx hb dD_stateAllows_1 (by rw [h2]; decide) (by rw [h2]; decide) (by rw [h2]; rfl) (by decide) ?_
    refine lv_aload_n hx hb dD_stateAllows_69 rfl (lv_at hl 0 rfl) ?_
    refine x_getD 3 hj hx hb hB inBD hown hK hP hR (by decide) (hB _ fl_D_21) rfl dD_stateAllows_70 ?_
    refine lv_if_eq (tgt := 92) hx hb dD_stateAllows_73 (by decide) (fun c13 => ?_) (fun c13 => ?_)
    · refine lv_iconst (v := 1) hx hb dD_stateAllows_92 (by decide) ?_
      refine lv_goto (tgt := 97) hx hb dD_stateAllows_93 (by decide) ?_
      exact x_zret (v := 1) hx hb hr hlocks rfl ⟨by first | (simp [fStateAllows, h2, c13]; done) | simp_all [fStateAllows], rfl⟩ hP hK hD hS dD_stateAllows_97
    · refine lv_aload_n hx hb dD_stateAllows_76 rfl (lv_at hl 0 rfl) ?_
      refine x_getD 3 hj hx hb hB inBD hown hK hP hR (by decide) (hB _ fl_D_21) rfl dD_stateAllows_77 ?_
      refine lv_iconst (v := 1) hx hb dD_stateAllows_80 (by decide) ?_
      refine lv_icmp_eq (tgt := 92) hx hb dD_stateAllows_81 (by decide) (fun c14 => ?_) (fun c14 => ?_)
      · refine lv_iconst (v := 1) hx hb dD_stateAllows_92 (by decide) ?_
        refine lv_goto (tgt := 97) hx hb dD_stateAllows_93 (by decide) ?_
        exact x_zret (v := 1) hx hb hr hlocks rfl ⟨by first | (simp [fStateAllows, h2, c13, c14]; done) | simp_all [fStateAllows], rfl⟩ hP hK hD hS dD_stateAllows_97
      · refine lv_aload_n hx hb dD_stateAllows_84 rfl (lv_at hl 0 rfl) ?_
        refine x_getD 3 hj hx hb hB inBD hown hK hP hR (by decide) (hB _ fl_D_21) rfl dD_stateAllows_85 ?_
        refine lv_iconst (v := 2) hx hb dD_stateAllows_88 (by decide) ?_
        refine lv_icmp_ne (tgt := 96) hx hb dD_stateAllows_89 (by decide) (fun c15 => ?_) (fun c15 => ?_)
        · refine lv_iconst (v := 0) hx hb dD_stateAllows_96 (by decide) ?_
          exact x_zret (v := 0) hx hb hr hlocks rfl ⟨by first | (simp [fStateAllows, h2, c13, c14, c15]; done) | simp_all [fStateAllows], rfl⟩ hP hK hD hS dD_stateAllows_97
        · refine lv_iconst (v := 1) hx hb dD_stateAllows_92 (by decide) ?_
          refine lv_goto (tgt := 97) hx hb dD_stateAllows_93 (by decide) ?_
          exact x_zret (v := 1) hx hb hr hlocks rfl ⟨by first | (simp [fStateAllows, h2, c13, c14, c15]; done) | simp_all [fStateAllows], rfl⟩ hP hK hD hS dD_stateAllows_97
  · refine lv_tableIn (tgt := 98) hx hb dD_stateAllows_1 (by rw [h3]; decide) (by rw [h3]; decide) (by rw [h3]; rfl) (by decide) ?_
    refine lv_aload_n hx hb dD_stateAllows_98 rfl (lv_at hl 0 rfl) ?_
    refine x_getD 3 hj hx hb hB inBD hown hK hP hR (by decide) (hB _ fl_D_21) rfl dD_stateAllows_99 ?_
    refine lv_iconst (v := 1) hx hb dD_stateAllows_102 (by decide) ?_
    refine lv_icmp_ne (tgt := 110) hx hb dD_stateAllows_103 (by decide) (fun c16 => ?_) (fun c16 => ?_)
    · refine lv_iconst (v := 0) hx hb dD_stateAllows_110 (by decide) ?_
      exact x_zret (v := 0) hx hb hr hlocks rfl ⟨by first | (simp [fStateAllows, h3, c16]; done) | simp_all [fStateAllows], rfl⟩ hP hK hD hS dD_stateAllows_111
    · refine lv_iconst (v := 1) hx hb dD_stateAllows_106 (by decide) ?_
      refine lv_goto (tgt := 111) hx hb dD_stateAllows_107 (by decide) ?_
      exact x_zret (v := 1) hx hb hr hlocks rfl ⟨by first | (simp [fStateAllows, h3, c16]; done) | simp_all [fStateAllows], rfl⟩ hP hK hD hS dD_stateAllows_111
  · refine lv_tableIn (tgt := 112) hx hb dD_stateAllows_1 (by rw [h4]; decide) (by rw [h4]; decide) (by rw [h4]; rfl) (by decide) ?_
    refine lv_aload_n hx hb dD_stateAllows_112 rfl (lv_at hl 0 rfl) ?_
    refine x_getD 3 hj hx hb hB inBD hown hK hP hR (by decide) (hB _ fl_D_21) rfl dD_stateAllows_113 ?_
    refine lv_iconst (v := 2) hx hb dD_stateAllows_116 (by decide) ?_
    refine lv_icmp_ne (tgt := 124) hx hb dD_stateAllows_117 (by decide) (fun c17 => ?_) (fun c17 => ?_)
    · refine lv_iconst (v := 0) hx hb dD_stateAllows_124 (by decide) ?_
      exact x_zret (v := 0) hx hb hr hlocks rfl ⟨by first | (simp [fStateAllows, h4, c17]; done) | simp_all [fStateAllows], rfl⟩ hP hK hD hS dD_stateAllows_125
    · refine lv_iconst (v := 1) hx hb dD_stateAllows_120 (by decide) ?_
      refine lv_goto (tgt := 125) hx hb dD_stateAllows_121 (by decide) ?_
      exact x_zret (v := 1) hx hb hr hlocks rfl ⟨by first | (simp [fStateAllows, h4, c17]; done) | simp_all [fStateAllows], rfl⟩ hP hK hD hS dD_stateAllows_125
  · refine lv_tableIn (tgt := 126) hx hb dD_stateAllows_1 (by rw [h5]; decide) (by rw [h5]; decide) (by rw [h5]; rfl) (by decide) ?_
    refine lv_aload_n hx hb dD_stateAllows_126 rfl (lv_at hl 0 rfl) ?_
    refine x_getD 3 hj hx hb hB inBD hown hK hP hR (by decide) (hB _ fl_D_21) rfl dD_stateAllows_127 ?_
    refine lv_iconst (v := 3) hx hb dD_stateAllows_130 (by decide) ?_
    refine lv_icmp_ne (tgt := 138) hx hb dD_stateAllows_131 (by decide) (fun c18 => ?_) (fun c18 => ?_)
    · refine lv_iconst (v := 0) hx hb dD_stateAllows_138 (by decide) ?_
      exact x_zret (v := 0) hx hb hr hlocks rfl ⟨by first | (simp [fStateAllows, h5, c18]; done) | simp_all [fStateAllows], rfl⟩ hP hK hD hS dD_stateAllows_139
    · refine lv_iconst (v := 1) hx hb dD_stateAllows_134 (by decide) ?_
      refine lv_goto (tgt := 139) hx hb dD_stateAllows_135 (by decide) ?_
      exact x_zret (v := 1) hx hb hr hlocks rfl ⟨by first | (simp [fStateAllows, h5, c18]; done) | simp_all [fStateAllows], rfl⟩ hP hK hD hS dD_stateAllows_139
  · refine lv_tableIn (tgt := 126) hx hb dD_stateAllows_1 (by rw [h6]; decide) (by rw [h6]; decide) (by rw [h6]; rfl) (by decide) ?_
    refine lv_aload_n hx hb dD_stateAllows_126 rfl (lv_at hl 0 rfl) ?_
    refine x_getD 3 hj hx hb hB inBD hown hK hP hR (by decide) (hB _ fl_D_21) rfl dD_stateAllows_127 ?_
    refine lv_iconst (v := 3) hx hb dD_stateAllows_130 (by decide) ?_
    refine lv_icmp_ne (tgt := 138) hx hb dD_stateAllows_131 (by decide) (fun c19 => ?_) (fun c19 => ?_)
    · refine lv_iconst (v := 0) hx hb dD_stateAllows_138 (by decide) ?_
      exact x_zret (v := 0) hx hb hr hlocks rfl ⟨by first | (simp [fStateAllows, h6, c19]; done) | simp_all [fStateAllows], rfl⟩ hP hK hD hS dD_stateAllows_139
    · refine lv_iconst (v := 1) hx hb dD_stateAllows_134 (by decide) ?_
      refine lv_goto (tgt := 139) hx hb dD_stateAllows_135 (by decide) ?_
      exact x_zret (v := 1) hx hb hr hlocks rfl ⟨by first | (simp [fStateAllows, h6, c19]; done) | simp_all [fStateAllows], rfl⟩ hP hK hD hS dD_stateAllows_139
  · refine lv_tableIn (tgt := 140) hx hb dD_stateAllows_1 (by rw [h7]; decide) (by rw [h7]; decide) (by rw [h7]; rfl) (by decide) ?_
    refine lv_aload_n hx hb dD_stateAllows_140 rfl (lv_at hl 0 rfl) ?_
    refine x_getD 3 hj hx hb hB inBD hown hK hP hR (by decide) (hB _ fl_D_21) rfl dD_stateAllows_141 ?_
    refine lv_iconst (v := 2) hx hb dD_stateAllows_144 (by decide) ?_
    refine lv_icmp_eq (tgt := 156) hx hb dD_stateAllows_145 (by decide) (fun c20 => ?_) (fun c20 => ?_)
    · refine lv_iconst (v := 1) hx hb dD_stateAllows_156 (by decide) ?_
      refine lv_goto (tgt := 161) hx hb dD_stateAllows_157 (by decide) ?_
      exact x_zret (v := 1) hx hb hr hlocks rfl ⟨by first | (simp [fStateAllows, h7, c20]; done) | simp_all [fStateAllows], rfl⟩ hP hK hD hS dD_stateAllows_161
    · refine lv_aload_n hx hb dD_stateAllows_148 rfl (lv_at hl 0 rfl) ?_
      refine x_getD 3 hj hx hb hB inBD hown hK hP hR (by decide) (hB _ fl_D_21) rfl dD_stateAllows_149 ?_
      refine lv_iconst (v := 3) hx hb dD_stateAllows_152 (by decide) ?_
      refine lv_icmp_ne (tgt := 160) hx hb dD_stateAllows_153 (by decide) (fun c21 => ?_) (fun c21 => ?_)
      · refine lv_iconst (v := 0) hx hb dD_stateAllows_160 (by decide) ?_
        exact x_zret (v := 0) hx hb hr hlocks rfl ⟨by first | (simp [fStateAllows, h7, c20, c21]; done) | simp_all [fStateAllows], rfl⟩ hP hK hD hS dD_stateAllows_161
      · refine lv_iconst (v := 1) hx hb dD_stateAllows_156 (by decide) ?_
        refine lv_goto (tgt := 161) hx hb dD_stateAllows_157 (by decide) ?_
        exact x_zret (v := 1) hx hb hr hlocks rfl ⟨by first | (simp [fStateAllows, h7, c20, c21]; done) | simp_all [fStateAllows], rfl⟩ hP hK hD hS dD_stateAllows_161
  · refine lv_tableIn (tgt := 162) hx hb dD_stateAllows_1 (by rw [h8]; decide) (by rw [h8]; decide) (by rw [h8]; rfl) (by decide) ?_
    refine lv_aload_n hx hb dD_stateAllows_162 rfl (lv_at hl 0 rfl) ?_
    refine x_getD 3 hj hx hb hB inBD hown hK hP hR (by decide) (hB _ fl_D_21) rfl dD_stateAllows_163 ?_
    refine lv_iconst (v := 4) hx hb dD_stateAllows_166 (by decide) ?_
    refine lv_icmp_ne (tgt := 181) hx hb dD_stateAllows_167 (by decide) (fun c22 => ?_) (fun c22 => ?_)
    · refine lv_iconst (v := 0) hx hb dD_stateAllows_181 (by decide) ?_
      exact x_zret (v := 0) hx hb hr hlocks rfl ⟨by first | (simp [fStateAllows, h8, c22]; done) | simp_all [fStateAllows], rfl⟩ hP hK hD hS dD_stateAllows_182
    · refine lv_aload_n hx hb dD_stateAllows_170 rfl (lv_at hl 0 rfl) ?_
      refine x_getD 1 hj hx hb hB inBD hown hK hP hR (by decide) (hB _ fl_D_15) rfl dD_stateAllows_171 ?_
      refine lv_if_eq (tgt := 181) hx hb dD_stateAllows_174 (by decide) (fun c23 => ?_) (fun c23 => ?_)
      · refine lv_iconst (v := 0) hx hb dD_stateAllows_181 (by decide) ?_
        exact x_zret (v := 0) hx hb hr hlocks rfl ⟨by first | (simp [fStateAllows, h8, c22, c23]; done) | simp_all [fStateAllows], rfl⟩ hP hK hD hS dD_stateAllows_182
      · refine lv_iconst (v := 1) hx hb dD_stateAllows_177 (by decide) ?_
        refine lv_goto (tgt := 182) hx hb dD_stateAllows_178 (by decide) ?_
        exact x_zret (v := 1) hx hb hr hlocks rfl ⟨by first | (simp [fStateAllows, h8, c22, c23]; done) | simp_all [fStateAllows], rfl⟩ hP hK hD hS dD_stateAllows_182
  · refine lv_tableIn (tgt := 183) hx hb dD_stateAllows_1 (by rw [h9]; decide) (by rw [h9]; decide) (by rw [h9]; rfl) (by decide) ?_
    refine lv_aload_n hx hb dD_stateAllows_183 rfl (lv_at hl 0 rfl) ?_
    refine x_getD 3 hj hx hb hB inBD hown hK hP hR (by decide) (hB _ fl_D_21) rfl dD_stateAllows_184 ?_
    refine lv_iconst (v := 4) hx hb dD_stateAllows_187 (by decide) ?_
    refine lv_icmp_ne (tgt := 198) hx hb dD_stateAllows_188 (by decide) (fun c24 => ?_) (fun c24 => ?_)
    · refine lv_aload_n hx hb dD_stateAllows_198 rfl (lv_at hl 0 rfl) ?_
      refine x_getD 3 hj hx hb hB inBD hown hK hP hR (by decide) (hB _ fl_D_21) rfl dD_stateAllows_199 ?_
      refine lv_iconst (v := 5) hx hb dD_stateAllows_202 (by decide) ?_
      refine lv_icmp_ne (tgt := 210) hx hb dD_stateAllows_203 (by decide) (fun c25 => ?_) (fun c25 => ?_)
      · refine lv_iconst (v := 0) hx hb dD_stateAllows_210 (by decide) ?_
        exact x_zret (v := 0) hx hb hr hlocks rfl ⟨by first | (simp [fStateAllows, h9, c24, c25]; done) | simp_all [fStateAllows], rfl⟩ hP hK hD hS dD_stateAllows_211
      · refine lv_iconst (v := 1) hx hb dD_stateAllows_206 (by decide) ?_
        refine lv_goto (tgt := 211) hx hb dD_stateAllows_207 (by decide) ?_
        exact x_zret (v := 1) hx hb hr hlocks rfl ⟨by first | (simp [fStateAllows, h9, c24, c25]; done) | simp_all [fStateAllows], rfl⟩ hP hK hD hS dD_stateAllows_211
    · refine lv_aload_n hx hb dD_stateAllows_191 rfl (lv_at hl 0 rfl) ?_
      refine x_getD 1 hj hx hb hB inBD hown hK hP hR (by decide) (hB _ fl_D_15) rfl dD_stateAllows_192 ?_
      refine lv_if_eq (tgt := 206) hx hb dD_stateAllows_195 (by decide) (fun c26 => ?_) (fun c26 => ?_)
      · refine lv_iconst (v := 1) hx hb dD_stateAllows_206 (by decide) ?_
        refine lv_goto (tgt := 211) hx hb dD_stateAllows_207 (by decide) ?_
        exact x_zret (v := 1) hx hb hr hlocks rfl ⟨by first | (simp [fStateAllows, h9, c24, c26]; done) | simp_all [fStateAllows], rfl⟩ hP hK hD hS dD_stateAllows_211
      · refine lv_aload_n hx hb dD_stateAllows_198 rfl (lv_at hl 0 rfl) ?_
        refine x_getD 3 hj hx hb hB inBD hown hK hP hR (by decide) (hB _ fl_D_21) rfl dD_stateAllows_199 ?_
        refine lv_iconst (v := 5) hx hb dD_stateAllows_202 (by decide) ?_
        refine lv_icmp_ne (tgt := 210) hx hb dD_stateAllows_203 (by decide) (fun c27 => ?_) (fun c27 => ?_)
        · refine lv_iconst (v := 0) hx hb dD_stateAllows_210 (by decide) ?_
          exact x_zret (v := 0) hx hb hr hlocks rfl ⟨by first | (simp [fStateAllows, h9, c24, c26, c27]; done) | simp_all [fStateAllows], rfl⟩ hP hK hD hS dD_stateAllows_211
        · refine lv_iconst (v := 1) hx hb dD_stateAllows_206 (by decide) ?_
          refine lv_goto (tgt := 211) hx hb dD_stateAllows_207 (by decide) ?_
          exact x_zret (v := 1) hx hb hr hlocks rfl ⟨by first | (simp [fStateAllows, h9, c24, c26, c27]; done) | simp_all [fStateAllows], rfl⟩ hP hK hD hS dD_stateAllows_211
  · refine lv_tableIn (tgt := 140) hx hb dD_stateAllows_1 (by rw [h10]; decide) (by rw [h10]; decide) (by rw [h10]; rfl) (by decide) ?_
    refine lv_aload_n hx hb dD_stateAllows_140 rfl (lv_at hl 0 rfl) ?_
    refine x_getD 3 hj hx hb hB inBD hown hK hP hR (by decide) (hB _ fl_D_21) rfl dD_stateAllows_141 ?_
    refine lv_iconst (v := 2) hx hb dD_stateAllows_144 (by decide) ?_
    refine lv_icmp_eq (tgt := 156) hx hb dD_stateAllows_145 (by decide) (fun c28 => ?_) (fun c28 => ?_)
    · refine lv_iconst (v := 1) hx hb dD_stateAllows_156 (by decide) ?_
      refine lv_goto (tgt := 161) hx hb dD_stateAllows_157 (by decide) ?_
      exact x_zret (v := 1) hx hb hr hlocks rfl ⟨by first | (simp [fStateAllows, h10, c28]; done) | simp_all [fStateAllows], rfl⟩ hP hK hD hS dD_stateAllows_161
    · refine lv_aload_n hx hb dD_stateAllows_148 rfl (lv_at hl 0 rfl) ?_
      refine x_getD 3 hj hx hb hB inBD hown hK hP hR (by decide) (hB _ fl_D_21) rfl dD_stateAllows_149 ?_
      refine lv_iconst (v := 3) hx hb dD_stateAllows_152 (by decide) ?_
      refine lv_icmp_ne (tgt := 160) hx hb dD_stateAllows_153 (by decide) (fun c29 => ?_) (fun c29 => ?_)
      · refine lv_iconst (v := 0) hx hb dD_stateAllows_160 (by decide) ?_
        exact x_zret (v := 0) hx hb hr hlocks rfl ⟨by first | (simp [fStateAllows, h10, c28, c29]; done) | simp_all [fStateAllows], rfl⟩ hP hK hD hS dD_stateAllows_161
      · refine lv_iconst (v := 1) hx hb dD_stateAllows_156 (by decide) ?_
        refine lv_goto (tgt := 161) hx hb dD_stateAllows_157 (by decide) ?_
        exact x_zret (v := 1) hx hb hr hlocks rfl ⟨by first | (simp [fStateAllows, h10, c28, c29]; done) | simp_all [fStateAllows], rfl⟩ hP hK hD hS dD_stateAllows_161
  · refine lv_tableOut (tgt := 212) hx hb dD_stateAllows_1 h11.1 (by decide) ?_
    refine lv_iconst (v := 0) hx hb dD_stateAllows_212 (by decide) ?_
    exact x_zret (v := 0) hx hb hr hlocks rfl ⟨by first | (simp [fStateAllows, h11.2]; done) | simp_all [fStateAllows], rfl⟩ hP hK hD hS dD_stateAllows_213
set_option maxHeartbeats 4000000 in
set_option maxRecDepth 100000 in
theorem c_D_marksAllow {l : Launch} {G : va_G} {cI cD cE : ClassId} {aX aR aD aE : Nat} {dA eA : Nat → Nat} {g ro : Nat → Int32} {fst : Option Nat} {nD nE : Nat} {d : Nat → Nat → Int32} {fw lw : Nat → Option Nat} {ed : Nat → Nat} {ev : Nat → Nat → Int32} {nx : Nat → Option Nat} {w : va_W} {sz : Nat} (hR : RX cI cD cE aX aR aD aE dA eA g ro fst nD nE d fw lw ed ev nx w) {j : Nat} (hj : j < nD) (act : Int32) : xMi l yD_marksAllow wsD_marksAllow ({ frames := 1, cells := 0, slots := 0, locals := 21 }) [.ref (dA j), .int act] G (xTys cI cD cE) w sz (fun r w' => r = fMarksAllow (d j) act ∧ w = w') 0 0 := by
  refine x_ofW (fun A => va_Qi (fun r w' => r = fMarksAllow (d j) act ∧ w = w') (xEnd G (xTys cI cD cE) A) A) cD_marksAllow 2 (some .boolean) (by decide) rfl (Nat.le_of_ble_eq_true rfl) ?_
  intro p e s m below meth c A ls hx hb hr hlocks hml hnm hown hB hA hP hK hD hS hl
  have hl : lv_has ls 2 [(0, .ref (dA j)), (1, .int act)] := hl
  have hown : s.vm.findClass NmD = some m.cls := hown
  refine lv_iload_n hx hb dD_marksAllow_0 rfl (lv_at hl 1 rfl) ?_
  rcases x_sw1_9 act with h1 | h2 | h3 | h4 | h5 | h6 | h7 | h8 | h9 | h10
  · refine lv_tableIn (tgt := 52) hx hb dD_marksAllow_1 (by rw [h1]; decide) (by rw [h1]; decide) (by rw [h1]; rfl) (by decide) ?_
    refine lv_aload_n hx hb dD_marksAllow_52 rfl (lv_at hl 0 rfl) ?_
    refine lv_iconst (v := 1) hx hb dD_marksAllow_53 (by decide) ?_
    obtain ⟨_, hq11⟩ := hR.dc hj
    refine x_calli (va_runV (As := [.int 1]) (rest := []) ⟨hx, hb, hml, hown, hB⟩ (c_D_isMarked hR hj 1) (cwV 1 hB (gV ml_D_33 im_D_isMarked sl_D_isMarked ini_D kc_D_isMarked) rfl rfl rfl (by decide +kernel) ⟨Nat.le_of_ble_eq_true rfl, Nat.le_of_ble_eq_true rfl⟩) (x_preV hP hK hD hq11 rfl) rfl rfl hl.1 rfl (lv_room (Nat.le_of_ble_eq_true rfl)) dD_marksAllow_54 ⟨Nat.le_of_ble_eq_true rfl, Nat.le_of_ble_eq_true rfl⟩) hD hS hA (fun r12 w H locs hw hP hD hS => ?_)
    obtain ⟨e13, rfl⟩ := hw
    refine lv_if_ne (tgt := 64) hx hb dD_marksAllow_57 (by decide) (fun c14 => ?_) (fun c14 => ?_)
    · refine lv_iconst (v := 0) hx hb dD_marksAllow_64 (by decide) ?_
      exact x_zret (v := 0) hx hb hr hlocks rfl ⟨by simp_all [fMarksAllow], rfl⟩ hP hK hD hS dD_marksAllow_65
    · refine lv_iconst (v := 1) hx hb dD_marksAllow_60 (by decide) ?_
      refine lv_goto (tgt := 65) hx hb dD_marksAllow_61 (by decide) ?_
      exact x_zret (v := 1) hx hb hr hlocks rfl ⟨by simp_all [fMarksAllow], rfl⟩ hP hK hD hS dD_marksAllow_65
  · refine lv_tableIn (tgt := 66) hx hb dD_marksAllow_1 (by rw [h2]; decide) (by rw [h2]; decide) (by rw [h2]; rfl) (by decide) ?_
    refine lv_aload_n hx hb dD_marksAllow_66 rfl (lv_at hl 0 rfl) ?_
    refine x_getD 1 hj hx hb hB inBD hown hK hP hR (by decide) (hB _ fl_D_15) rfl dD_marksAllow_67 ?_
    refine lv_iconst (v := 1) hx hb dD_marksAllow_70 (by decide) ?_
    refine lv_icmp_eq (tgt := 82) hx hb dD_marksAllow_71 (by decide) (fun c15 => ?_) (fun c15 => ?_)
    · refine lv_iconst (v := 1) hx hb dD_marksAllow_82 (by decide) ?_
      refine lv_goto (tgt := 87) hx hb dD_marksAllow_83 (by decide) ?_
      exact x_zret (v := 1) hx hb hr hlocks rfl ⟨by simp_all [fMarksAllow], rfl⟩ hP hK hD hS dD_marksAllow_87
    · refine lv_aload_n hx hb dD_marksAllow_74 rfl (lv_at hl 0 rfl) ?_
      refine lv_iconst (v := 1) hx hb dD_marksAllow_75 (by decide) ?_
      obtain ⟨_, hq16⟩ := hR.dc hj
      refine x_calli (va_runV (As := [.int 1]) (rest := []) ⟨hx, hb, hml, hown, hB⟩ (c_D_isMarked hR hj 1) (cwV 1 hB (gV ml_D_33 im_D_isMarked sl_D_isMarked ini_D kc_D_isMarked) rfl rfl rfl (by decide +kernel) ⟨Nat.le_of_ble_eq_true rfl, Nat.le_of_ble_eq_true rfl⟩) (x_preV hP hK hD hq16 rfl) rfl rfl hl.1 rfl (lv_room (Nat.le_of_ble_eq_true rfl)) dD_marksAllow_76 ⟨Nat.le_of_ble_eq_true rfl, Nat.le_of_ble_eq_true rfl⟩) hD hS hA (fun r17 w H locs hw hP hD hS => ?_)
      obtain ⟨e18, rfl⟩ := hw
      refine lv_if_eq (tgt := 86) hx hb dD_marksAllow_79 (by decide) (fun c19 => ?_) (fun c19 => ?_)
      · refine lv_iconst (v := 0) hx hb dD_marksAllow_86 (by decide) ?_
        exact x_zret (v := 0) hx hb hr hlocks rfl ⟨by simp_all [fMarksAllow], rfl⟩ hP hK hD hS dD_marksAllow_87
      · refine lv_iconst (v := 1) hx hb dD_marksAllow_82 (by decide) ?_
        refine lv_goto (tgt := 87) hx hb dD_marksAllow_83 (by decide) ?_
        exact x_zret (v := 1) hx hb hr hlocks rfl ⟨by simp_all [fMarksAllow], rfl⟩ hP hK hD hS dD_marksAllow_87
  · refine lv_tableIn (tgt := 108) hx hb dD_marksAllow_1 (by rw [h3]; decide) (by rw [h3]; decide) (by rw [h3]; rfl) (by decide) ?_
    refine lv_iconst (v := 1) hx hb dD_marksAllow_108 (by decide) ?_
    exact x_zret (v := 1) hx hb hr hlocks rfl ⟨by simp_all [fMarksAllow], rfl⟩ hP hK hD hS dD_marksAllow_109
  · refine lv_tableIn (tgt := 108) hx hb dD_marksAllow_1 (by rw [h4]; decide) (by rw [h4]; decide) (by rw [h4]; rfl) (by decide) ?_
    refine lv_iconst (v := 1) hx hb dD_marksAllow_108 (by decide) ?_
    exact x_zret (v := 1) hx hb hr hlocks rfl ⟨by simp_all [fMarksAllow], rfl⟩ hP hK hD hS dD_marksAllow_109
  · refine lv_tableIn (tgt := 108) hx hb dD_marksAllow_1 (by rw [h5]; decide) (by rw [h5]; decide) (by rw [h5]; rfl) (by decide) ?_
    refine lv_iconst (v := 1) hx hb dD_marksAllow_108 (by decide) ?_
    exact x_zret (v := 1) hx hb hr hlocks rfl ⟨by simp_all [fMarksAllow], rfl⟩ hP hK hD hS dD_marksAllow_109
  · refine lv_tableIn (tgt := 88) hx hb dD_marksAllow_1 (by rw [h6]; decide) (by rw [h6]; decide) (by rw [h6]; rfl) (by decide) ?_
    refine lv_aload_n hx hb dD_marksAllow_88 rfl (lv_at hl 0 rfl) ?_
    refine lv_iconst (v := 2) hx hb dD_marksAllow_89 (by decide) ?_
    obtain ⟨_, hq20⟩ := hR.dc hj
    refine x_calli (va_runV (As := [.int 2]) (rest := []) ⟨hx, hb, hml, hown, hB⟩ (c_D_isMarked hR hj 2) (cwV 1 hB (gV ml_D_33 im_D_isMarked sl_D_isMarked ini_D kc_D_isMarked) rfl rfl rfl (by decide +kernel) ⟨Nat.le_of_ble_eq_true rfl, Nat.le_of_ble_eq_true rfl⟩) (x_preV hP hK hD hq20 rfl) rfl rfl hl.1 rfl (lv_room (Nat.le_of_ble_eq_true rfl)) dD_marksAllow_90 ⟨Nat.le_of_ble_eq_true rfl, Nat.le_of_ble_eq_true rfl⟩) hD hS hA (fun r21 w H locs hw hP hD hS => ?_)
    obtain ⟨e22, rfl⟩ := hw
    refine lv_if_ne (tgt := 100) hx hb dD_marksAllow_93 (by decide) (fun c23 => ?_) (fun c23 => ?_)
    · refine lv_iconst (v := 0) hx hb dD_marksAllow_100 (by decide) ?_
      exact x_zret (v := 0) hx hb hr hlocks rfl ⟨by simp_all [fMarksAllow], rfl⟩ hP hK hD hS dD_marksAllow_101
    · refine lv_iconst (v := 1) hx hb dD_marksAllow_96 (by decide) ?_
      refine lv_goto (tgt := 101) hx hb dD_marksAllow_97 (by decide) ?_
      exact x_zret (v := 1) hx hb hr hlocks rfl ⟨by simp_all [fMarksAllow], rfl⟩ hP hK hD hS dD_marksAllow_101
  · refine lv_tableIn (tgt := 108) hx hb dD_marksAllow_1 (by rw [h7]; decide) (by rw [h7]; decide) (by rw [h7]; rfl) (by decide) ?_
    refine lv_iconst (v := 1) hx hb dD_marksAllow_108 (by decide) ?_
    exact x_zret (v := 1) hx hb hr hlocks rfl ⟨by simp_all [fMarksAllow], rfl⟩ hP hK hD hS dD_marksAllow_109
  · refine lv_tableIn (tgt := 108) hx hb dD_marksAllow_1 (by rw [h8]; decide) (by rw [h8]; decide) (by rw [h8]; rfl) (by decide) ?_
    refine lv_iconst (v := 1) hx hb dD_marksAllow_108 (by decide) ?_
    exact x_zret (v := 1) hx hb hr hlocks rfl ⟨by simp_all [fMarksAllow], rfl⟩ hP hK hD hS dD_marksAllow_109
  · refine lv_tableIn (tgt := 102) hx hb dD_marksAllow_1 (by rw [h9]; decide) (by rw [h9]; decide) (by rw [h9]; rfl) (by decide) ?_
    refine lv_aload_n hx hb dD_marksAllow_102 rfl (lv_at hl 0 rfl) ?_
    refine lv_iconst (v := 4) hx hb dD_marksAllow_103 (by decide) ?_
    obtain ⟨_, hq24⟩ := hR.dc hj
    refine x_calli (va_runV (As := [.int 4]) (rest := []) ⟨hx, hb, hml, hown, hB⟩ (c_D_isMarked hR hj 4) (cwV 1 hB (gV ml_D_33 im_D_isMarked sl_D_isMarked ini_D kc_D_isMarked) rfl rfl rfl (by decide +kernel) ⟨Nat.le_of_ble_eq_true rfl, Nat.le_of_ble_eq_true rfl⟩) (x_preV hP hK hD hq24 rfl) rfl rfl hl.1 rfl (lv_room (Nat.le_of_ble_eq_true rfl)) dD_marksAllow_104 ⟨Nat.le_of_ble_eq_true rfl, Nat.le_of_ble_eq_true rfl⟩) hD hS hA (fun r25 w H locs hw hP hD hS => ?_)
    obtain ⟨e26, rfl⟩ := hw
    exact x_zret (v := r25) hx hb hr hlocks (nz01 e26 (fMarked01 _ _)) ⟨by simp_all [fMarksAllow], rfl⟩ hP hK hD hS dD_marksAllow_107
  · refine lv_tableOut (tgt := 108) hx hb dD_marksAllow_1 h10.1 (by decide) ?_
    refine lv_iconst (v := 1) hx hb dD_marksAllow_108 (by decide) ?_
    exact x_zret (v := 1) hx hb hr hlocks rfl ⟨by simp_all [fMarksAllow], rfl⟩ hP hK hD hS dD_marksAllow_109
end
section
set_option maxHeartbeats 4000000 in
set_option maxRecDepth 100000 in
theorem c_D_become {l : Launch} {G : va_G} {cI cD cE : ClassId} {aX aR aD aE : Nat} {dA eA : Nat → Nat} {g ro : Nat → Int32} {fst : Option Nat} {nD nE : Nat} {d : Nat → Nat → Int32} {fw lw : Nat → Option Nat} {ed : Nat → Nat} {ev : Nat → Nat → Int32} {nx : Nat → Option Nat} {w : va_W} {sz : Nat} (hR : RX cI cD cE aX aR aD aE dA eA g ro fst nD nE d fw lw ed ev nx w) {j : Nat} (hj : j < nD) (n : Int32) (t : Int32) : xMv l yD_become wsD_become ({ frames := 0, cells := 0, slots := 0, locals := 0 }) [.ref (dA j), .int n, .int t] G (xTys cI cD cE) w sz (fun w' => RX cI cD cE aX aR aD aE dA eA g ro fst nD nE (upf d j (fBecome (d j) n t)) fw lw ed ev nx w') 0 0 := by
  refine x_ofW (fun A => va_Qv (fun w' => RX cI cD cE aX aR aD aE dA eA g ro fst nD nE (upf d j (fBecome (d j) n t)) fw lw ed ev nx w') (xEnd G (xTys cI cD cE) A) A) cD_become 3 none (by decide) rfl (Nat.le_of_ble_eq_true rfl) ?_
  intro p e s m below meth c A ls hx hb hr hlocks hml hnm hown hB hA hP hK hD hS hl
  have hl : lv_has ls 3 [(0, .ref (dA j)), (1, .int n), (2, .int t)] := hl
  have hown : s.vm.findClass NmD = some m.cls := hown
  refine lv_aload_n hx hb dD_become_0 rfl (lv_at hl 0 rfl) ?_
  refine lv_iload_n hx hb dD_become_1 rfl (lv_at hl 1 rfl) ?_
  refine x_putD 3 n hj hx hb hB inBD hown hK hP hD hS hR (by decide) (hB _ fl_D_21) rfl rfl (by decide +kernel) dD_become_2 (fun w H locs hR hP hD hS => ?_)
  refine lv_aload_n hx hb dD_become_5 rfl (lv_at hl 0 rfl) ?_
  refine lv_iload_n hx hb dD_become_6 rfl (lv_at hl 2 rfl) ?_
  refine x_putD 6 t hj hx hb hB inBD hown hK hP hD hS hR (by decide) (hB _ fl_D_56) rfl rfl (by decide +kernel) dD_become_7 (fun w H locs hR hP hD hS => ?_)
  refine lv_aload_n hx hb dD_become_10 rfl (lv_at hl 0 rfl) ?_
  refine lv_iconst (v := (-1)) hx hb dD_become_11 (by decide) ?_
  refine x_putD 7 (-1) hj hx hb hB inBD hown hK hP hD hS hR (by decide) (hB _ fl_D_24) rfl rfl (by decide +kernel) dD_become_12 (fun w H locs hR hP hD hS => ?_)
  exact x_vret hx hb hr hlocks (by first | (simpa [fBecome, upf_eq, upf_upf, upf_self] using hR) | (have hR9 := hR; simp_all [fBecome, upf_eq, upf_upf, upf_self])) hP hK hD hS dD_become_15
set_option maxHeartbeats 4000000 in
set_option maxRecDepth 100000 in
theorem c_D_releaseIfNothingHolds {l : Launch} {G : va_G} {cI cD cE : ClassId} {aX aR aD aE : Nat} {dA eA : Nat → Nat} {g ro : Nat → Int32} {fst : Option Nat} {nD nE : Nat} {d : Nat → Nat → Int32} {fw lw : Nat → Option Nat} {ed : Nat → Nat} {ev : Nat → Nat → Int32} {nx : Nat → Option Nat} {w : va_W} {sz : Nat} (hR : RX cI cD cE aX aR aD aE dA eA g ro fst nD nE d fw lw ed ev nx w) {j : Nat} (hj : j < nD) (t : Int32) : xMv l yD_releaseIfNothingHolds wsD_releaseIfNothingHolds ({ frames := 1, cells := 0, slots := 0, locals := 22 }) [.ref (dA j), .int t] G (xTys cI cD cE) w sz (fun w' => RX cI cD cE aX aR aD aE dA eA g ro fst nD nE (upf d j (fRelease (d j) t)) fw lw ed ev nx w') 0 0 := by
  refine x_ofW (fun A => va_Qv (fun w' => RX cI cD cE aX aR aD aE dA eA g ro fst nD nE (upf d j (fRelease (d j) t)) fw lw ed ev nx w') (xEnd G (xTys cI cD cE) A) A) cD_releaseIfNothingHolds 3 none (by decide) rfl (Nat.le_of_ble_eq_true rfl) ?_
  intro p e s m below meth c A ls hx hb hr hlocks hml hnm hown hB hA hP hK hD hS hl
  have hl : lv_has ls 3 [(0, .ref (dA j)), (1, .int t)] := hl
  have hown : s.vm.findClass NmD = some m.cls := hown
  refine lv_aload_n hx hb dD_releaseIfNothingHolds_0 rfl (lv_at hl 0 rfl) ?_
  refine x_getD 1 hj hx hb hB inBD hown hK hP hR (by decide) (hB _ fl_D_15) rfl dD_releaseIfNothingHolds_1 ?_
  refine lv_if_ne (tgt := 15) hx hb dD_releaseIfNothingHolds_4 (by decide) (fun c1 => ?_) (fun c1 => ?_)
  · refine lv_iconst (v := 1) hx hb dD_releaseIfNothingHolds_15 (by decide) ?_
    refine lv_goto (tgt := 20) hx hb dD_releaseIfNothingHolds_16 (by decide) ?_
    refine lv_istore_n (lv' := [(2, .int 1), (0, .ref (dA j)), (1, .int t)]) hx hb dD_releaseIfNothingHolds_20 rfl hl (by decide) rfl (fun ls hl => ?_)
    refine lv_aload_n hx hb dD_releaseIfNothingHolds_21 rfl (lv_at hl 1 rfl) ?_
    refine x_getD 3 hj hx hb hB inBD hown hK hP hR (by decide) (hB _ fl_D_21) rfl dD_releaseIfNothingHolds_22 ?_
    refine lv_iconst (v := 2) hx hb dD_releaseIfNothingHolds_25 (by decide) ?_
    refine lv_icmp_ne (tgt := 62) hx hb dD_releaseIfNothingHolds_26 (by decide) (fun c2 => ?_) (fun c2 => ?_)
    · exact x_vret hx hb hr hlocks (by have hR9 := hR; simp_all [fRelease, upf_eq, upf_upf, upf_self]) hP hK hD hS dD_releaseIfNothingHolds_62
    · refine lv_aload_n hx hb dD_releaseIfNothingHolds_29 rfl (lv_at hl 1 rfl) ?_
      refine x_getD 5 hj hx hb hB inBD hown hK hP hR (by decide) (hB _ fl_D_30) rfl dD_releaseIfNothingHolds_30 ?_
      refine lv_if_ne (tgt := 62) hx hb dD_releaseIfNothingHolds_33 (by decide) (fun c3 => ?_) (fun c3 => ?_)
      · exact x_vret hx hb hr hlocks (by have hR9 := hR; simp_all [fRelease, upf_eq, upf_upf, upf_self]) hP hK hD hS dD_releaseIfNothingHolds_62
      · refine lv_aload_n hx hb dD_releaseIfNothingHolds_36 rfl (lv_at hl 1 rfl) ?_
        refine lv_iconst (v := 4) hx hb dD_releaseIfNothingHolds_37 (by decide) ?_
        obtain ⟨_, hq4⟩ := hR.dc hj
        refine x_calli (va_runV (As := [.int 4]) (rest := []) ⟨hx, hb, hml, hown, hB⟩ (c_D_isMarked hR hj 4) (cwV 1 hB (gV ml_D_33 im_D_isMarked sl_D_isMarked ini_D kc_D_isMarked) rfl rfl rfl (by decide +kernel) ⟨Nat.le_of_ble_eq_true rfl, Nat.le_of_ble_eq_true rfl⟩) (x_preV hP hK hD hq4 rfl) rfl rfl hl.1 rfl (lv_room (Nat.le_of_ble_eq_true rfl)) dD_releaseIfNothingHolds_38 ⟨Nat.le_of_ble_eq_true rfl, Nat.le_of_ble_eq_true rfl⟩) hD hS hA (fun r5 w H locs hw hP hD hS => ?_)
        obtain ⟨e6, rfl⟩ := hw
        refine lv_if_ne (tgt := 62) hx hb dD_releaseIfNothingHolds_41 (by decide) (fun c7 => ?_) (fun c7 => ?_)
        · exact x_vret hx hb hr hlocks (by have hR9 := hR; simp_all [fRelease, upf_eq, upf_upf, upf_self]) hP hK hD hS dD_releaseIfNothingHolds_62
        · refine lv_aload_n hx hb dD_releaseIfNothingHolds_44 rfl (lv_at hl 1 rfl) ?_
          refine lv_iconst (v := 1) hx hb dD_releaseIfNothingHolds_45 (by decide) ?_
          obtain ⟨_, hq8⟩ := hR.dc hj
          refine x_calli (va_runV (As := [.int 1]) (rest := []) ⟨hx, hb, hml, hown, hB⟩ (c_D_isMarked hR hj 1) (cwV 1 hB (gV ml_D_33 im_D_isMarked sl_D_isMarked ini_D kc_D_isMarked) rfl rfl rfl (by decide +kernel) ⟨Nat.le_of_ble_eq_true rfl, Nat.le_of_ble_eq_true rfl⟩) (x_preV hP hK hD hq8 rfl) rfl rfl hl.1 rfl (lv_room (Nat.le_of_ble_eq_true rfl)) dD_releaseIfNothingHolds_46 ⟨Nat.le_of_ble_eq_true rfl, Nat.le_of_ble_eq_true rfl⟩) hD hS hA (fun r9 w H locs hw hP hD hS => ?_)
          obtain ⟨e10, rfl⟩ := hw
          refine lv_if_eq (tgt := 62) hx hb dD_releaseIfNothingHolds_49 (by decide) (fun c11 => ?_) (fun c11 => ?_)
          · exact x_vret hx hb hr hlocks (by have hR9 := hR; simp_all [fRelease, upf_eq, upf_upf, upf_self]) hP hK hD hS dD_releaseIfNothingHolds_62
          · refine lv_iload_n hx hb dD_releaseIfNothingHolds_52 rfl (lv_at hl 0 rfl) ?_
            refine lv_if_eq (tgt := 62) hx hb dD_releaseIfNothingHolds_53 (by decide) (fun c12 => absurd c12 (by decide)) (fun _ => ?_)
            refine lv_aload_n hx hb dD_releaseIfNothingHolds_56 rfl (lv_at hl 1 rfl) ?_
            refine lv_iconst (v := 4) hx hb dD_releaseIfNothingHolds_57 (by decide) ?_
            refine lv_iload_n hx hb dD_releaseIfNothingHolds_58 rfl (lv_at hl 2 rfl) ?_
            obtain ⟨_, hq13⟩ := hR.dc hj
            refine x_callv (va_runV (As := [.int 4, .int t]) (rest := []) ⟨hx, hb, hml, hown, hB⟩ (c_D_become hR hj 4 t) (cwV 2 hB (gV ml_D_37 im_D_become sl_D_become ini_D kc_D_become) rfl rfl rfl (by decide +kernel) ⟨Nat.le_of_ble_eq_true rfl, Nat.le_of_ble_eq_true rfl⟩) (x_preV hP hK hD hq13 rfl) rfl rfl hl.1 rfl (lv_room (Nat.le_of_ble_eq_true rfl)) dD_releaseIfNothingHolds_59 ⟨Nat.le_of_ble_eq_true rfl, Nat.le_of_ble_eq_true rfl⟩) hD hS hA (fun w H locs hw hP hD hS => ?_)
            have hR := hw
            exact x_vret hx hb hr hlocks (by have hR9 := hR; simp_all [fRelease, upf_eq, upf_upf, upf_self]) hP hK hD hS dD_releaseIfNothingHolds_62
  · refine lv_aload_n hx hb dD_releaseIfNothingHolds_7 rfl (lv_at hl 0 rfl) ?_
    refine lv_iconst (v := 2) hx hb dD_releaseIfNothingHolds_8 (by decide) ?_
    obtain ⟨_, hq16⟩ := hR.dc hj
    refine x_calli (va_runV (As := [.int 2]) (rest := []) ⟨hx, hb, hml, hown, hB⟩ (c_D_isMarked hR hj 2) (cwV 1 hB (gV ml_D_33 im_D_isMarked sl_D_isMarked ini_D kc_D_isMarked) rfl rfl rfl (by decide +kernel) ⟨Nat.le_of_ble_eq_true rfl, Nat.le_of_ble_eq_true rfl⟩) (x_preV hP hK hD hq16 rfl) rfl rfl hl.1 rfl (lv_room (Nat.le_of_ble_eq_true rfl)) dD_releaseIfNothingHolds_9 ⟨Nat.le_of_ble_eq_true rfl, Nat.le_of_ble_eq_true rfl⟩) hD hS hA (fun r17 w H locs hw hP hD hS => ?_)
    obtain ⟨e18, rfl⟩ := hw
    refine lv_if_eq (tgt := 19) hx hb dD_releaseIfNothingHolds_12 (by decide) (fun c19 => ?_) (fun c19 => ?_)
    · refine lv_iconst (v := 0) hx hb dD_releaseIfNothingHolds_19 (by decide) ?_
      refine lv_istore_n (lv' := [(2, .int 0), (0, .ref (dA j)), (1, .int t)]) hx hb dD_releaseIfNothingHolds_20 rfl hl (by decide) rfl (fun ls hl => ?_)
      refine lv_aload_n hx hb dD_releaseIfNothingHolds_21 rfl (lv_at hl 1 rfl) ?_
      refine x_getD 3 hj hx hb hB inBD hown hK hP hR (by decide) (hB _ fl_D_21) rfl dD_releaseIfNothingHolds_22 ?_
      refine lv_iconst (v := 2) hx hb dD_releaseIfNothingHolds_25 (by decide) ?_
      refine lv_icmp_ne (tgt := 62) hx hb dD_releaseIfNothingHolds_26 (by decide) (fun c20 => ?_) (fun c20 => ?_)
      · exact x_vret hx hb hr hlocks (by have hR9 := hR; simp_all [fRelease, upf_eq, upf_upf, upf_self]) hP hK hD hS dD_releaseIfNothingHolds_62
      · refine lv_aload_n hx hb dD_releaseIfNothingHolds_29 rfl (lv_at hl 1 rfl) ?_
        refine x_getD 5 hj hx hb hB inBD hown hK hP hR (by decide) (hB _ fl_D_30) rfl dD_releaseIfNothingHolds_30 ?_
        refine lv_if_ne (tgt := 62) hx hb dD_releaseIfNothingHolds_33 (by decide) (fun c21 => ?_) (fun c21 => ?_)
        · exact x_vret hx hb hr hlocks (by have hR9 := hR; simp_all [fRelease, upf_eq, upf_upf, upf_self]) hP hK hD hS dD_releaseIfNothingHolds_62
        · refine lv_aload_n hx hb dD_releaseIfNothingHolds_36 rfl (lv_at hl 1 rfl) ?_
          refine lv_iconst (v := 4) hx hb dD_releaseIfNothingHolds_37 (by decide) ?_
          obtain ⟨_, hq22⟩ := hR.dc hj
          refine x_calli (va_runV (As := [.int 4]) (rest := []) ⟨hx, hb, hml, hown, hB⟩ (c_D_isMarked hR hj 4) (cwV 1 hB (gV ml_D_33 im_D_isMarked sl_D_isMarked ini_D kc_D_isMarked) rfl rfl rfl (by decide +kernel) ⟨Nat.le_of_ble_eq_true rfl, Nat.le_of_ble_eq_true rfl⟩) (x_preV hP hK hD hq22 rfl) rfl rfl hl.1 rfl (lv_room (Nat.le_of_ble_eq_true rfl)) dD_releaseIfNothingHolds_38 ⟨Nat.le_of_ble_eq_true rfl, Nat.le_of_ble_eq_true rfl⟩) hD hS hA (fun r23 w H locs hw hP hD hS => ?_)
          obtain ⟨e24, rfl⟩ := hw
          refine lv_if_ne (tgt := 62) hx hb dD_releaseIfNothingHolds_41 (by decide) (fun c25 => ?_) (fun c25 => ?_)
          · exact x_vret hx hb hr hlocks (by have hR9 := hR; simp_all [fRelease, upf_eq, upf_upf, upf_self]) hP hK hD hS dD_releaseIfNothingHolds_62
          · refine lv_aload_n hx hb dD_releaseIfNothingHolds_44 rfl (lv_at hl 1 rfl) ?_
            refine lv_iconst (v := 1) hx hb dD_releaseIfNothingHolds_45 (by decide) ?_
            obtain ⟨_, hq26⟩ := hR.dc hj
            refine x_calli (va_runV (As := [.int 1]) (rest := []) ⟨hx, hb, hml, hown, hB⟩ (c_D_isMarked hR hj 1) (cwV 1 hB (gV ml_D_33 im_D_isMarked sl_D_isMarked ini_D kc_D_isMarked) rfl rfl rfl (by decide +kernel) ⟨Nat.le_of_ble_eq_true rfl, Nat.le_of_ble_eq_true rfl⟩) (x_preV hP hK hD hq26 rfl) rfl rfl hl.1 rfl (lv_room (Nat.le_of_ble_eq_true rfl)) dD_releaseIfNothingHolds_46 ⟨Nat.le_of_ble_eq_true rfl, Nat.le_of_ble_eq_true rfl⟩) hD hS hA (fun r27 w H locs hw hP hD hS => ?_)
            obtain ⟨e28, rfl⟩ := hw
            refine lv_if_eq (tgt := 62) hx hb dD_releaseIfNothingHolds_49 (by decide) (fun c29 => ?_) (fun c29 => ?_)
            · exact x_vret hx hb hr hlocks (by have hR9 := hR; simp_all [fRelease, upf_eq, upf_upf, upf_self]) hP hK hD hS dD_releaseIfNothingHolds_62
            · refine lv_iload_n hx hb dD_releaseIfNothingHolds_52 rfl (lv_at hl 0 rfl) ?_
              refine lv_if_eq (tgt := 62) hx hb dD_releaseIfNothingHolds_53 (by decide) (fun _ => ?_) (fun c30 => absurd c30 (by decide))
              exact x_vret hx hb hr hlocks (by have hR9 := hR; simp_all [fRelease, upf_eq, upf_upf, upf_self]) hP hK hD hS dD_releaseIfNothingHolds_62
    · refine lv_iconst (v := 1) hx hb dD_releaseIfNothingHolds_15 (by decide) ?_
      refine lv_goto (tgt := 20) hx hb dD_releaseIfNothingHolds_16 (by decide) ?_
      refine lv_istore_n (lv' := [(2, .int 1), (0, .ref (dA j)), (1, .int t)]) hx hb dD_releaseIfNothingHolds_20 rfl hl (by decide) rfl (fun ls hl => ?_)
      refine lv_aload_n hx hb dD_releaseIfNothingHolds_21 rfl (lv_at hl 1 rfl) ?_
      refine x_getD 3 hj hx hb hB inBD hown hK hP hR (by decide) (hB _ fl_D_21) rfl dD_releaseIfNothingHolds_22 ?_
      refine lv_iconst (v := 2) hx hb dD_releaseIfNothingHolds_25 (by decide) ?_
      refine lv_icmp_ne (tgt := 62) hx hb dD_releaseIfNothingHolds_26 (by decide) (fun c31 => ?_) (fun c31 => ?_)
      · exact x_vret hx hb hr hlocks (by have hR9 := hR; simp_all [fRelease, upf_eq, upf_upf, upf_self]) hP hK hD hS dD_releaseIfNothingHolds_62
      · refine lv_aload_n hx hb dD_releaseIfNothingHolds_29 rfl (lv_at hl 1 rfl) ?_
        refine x_getD 5 hj hx hb hB inBD hown hK hP hR (by decide) (hB _ fl_D_30) rfl dD_releaseIfNothingHolds_30 ?_
        refine lv_if_ne (tgt := 62) hx hb dD_releaseIfNothingHolds_33 (by decide) (fun c32 => ?_) (fun c32 => ?_)
        · exact x_vret hx hb hr hlocks (by have hR9 := hR; simp_all [fRelease, upf_eq, upf_upf, upf_self]) hP hK hD hS dD_releaseIfNothingHolds_62
        · refine lv_aload_n hx hb dD_releaseIfNothingHolds_36 rfl (lv_at hl 1 rfl) ?_
          refine lv_iconst (v := 4) hx hb dD_releaseIfNothingHolds_37 (by decide) ?_
          obtain ⟨_, hq33⟩ := hR.dc hj
          refine x_calli (va_runV (As := [.int 4]) (rest := []) ⟨hx, hb, hml, hown, hB⟩ (c_D_isMarked hR hj 4) (cwV 1 hB (gV ml_D_33 im_D_isMarked sl_D_isMarked ini_D kc_D_isMarked) rfl rfl rfl (by decide +kernel) ⟨Nat.le_of_ble_eq_true rfl, Nat.le_of_ble_eq_true rfl⟩) (x_preV hP hK hD hq33 rfl) rfl rfl hl.1 rfl (lv_room (Nat.le_of_ble_eq_true rfl)) dD_releaseIfNothingHolds_38 ⟨Nat.le_of_ble_eq_true rfl, Nat.le_of_ble_eq_true rfl⟩) hD hS hA (fun r34 w H locs hw hP hD hS => ?_)
          obtain ⟨e35, rfl⟩ := hw
          refine lv_if_ne (tgt := 62) hx hb dD_releaseIfNothingHolds_41 (by decide) (fun c36 => ?_) (fun c36 => ?_)
          · exact x_vret hx hb hr hlocks (by have hR9 := hR; simp_all [fRelease, upf_eq, upf_upf, upf_self]) hP hK hD hS dD_releaseIfNothingHolds_62
          · refine lv_aload_n hx hb dD_releaseIfNothingHolds_44 rfl (lv_at hl 1 rfl) ?_
            refine lv_iconst (v := 1) hx hb dD_releaseIfNothingHolds_45 (by decide) ?_
            obtain ⟨_, hq37⟩ := hR.dc hj
            refine x_calli (va_runV (As := [.int 1]) (rest := []) ⟨hx, hb, hml, hown, hB⟩ (c_D_isMarked hR hj 1) (cwV 1 hB (gV ml_D_33 im_D_isMarked sl_D_isMarked ini_D kc_D_isMarked) rfl rfl rfl (by decide +kernel) ⟨Nat.le_of_ble_eq_true rfl, Nat.le_of_ble_eq_true rfl⟩) (x_preV hP hK hD hq37 rfl) rfl rfl hl.1 rfl (lv_room (Nat.le_of_ble_eq_true rfl)) dD_releaseIfNothingHolds_46 ⟨Nat.le_of_ble_eq_true rfl, Nat.le_of_ble_eq_true rfl⟩) hD hS hA (fun r38 w H locs hw hP hD hS => ?_)
            obtain ⟨e39, rfl⟩ := hw
            refine lv_if_eq (tgt := 62) hx hb dD_releaseIfNothingHolds_49 (by decide) (fun c40 => ?_) (fun c40 => ?_)
            · exact x_vret hx hb hr hlocks (by have hR9 := hR; simp_all [fRelease, upf_eq, upf_upf, upf_self]) hP hK hD hS dD_releaseIfNothingHolds_62
            · refine lv_iload_n hx hb dD_releaseIfNothingHolds_52 rfl (lv_at hl 0 rfl) ?_
              refine lv_if_eq (tgt := 62) hx hb dD_releaseIfNothingHolds_53 (by decide) (fun c41 => absurd c41 (by decide)) (fun _ => ?_)
              refine lv_aload_n hx hb dD_releaseIfNothingHolds_56 rfl (lv_at hl 1 rfl) ?_
              refine lv_iconst (v := 4) hx hb dD_releaseIfNothingHolds_57 (by decide) ?_
              refine lv_iload_n hx hb dD_releaseIfNothingHolds_58 rfl (lv_at hl 2 rfl) ?_
              obtain ⟨_, hq42⟩ := hR.dc hj
              refine x_callv (va_runV (As := [.int 4, .int t]) (rest := []) ⟨hx, hb, hml, hown, hB⟩ (c_D_become hR hj 4 t) (cwV 2 hB (gV ml_D_37 im_D_become sl_D_become ini_D kc_D_become) rfl rfl rfl (by decide +kernel) ⟨Nat.le_of_ble_eq_true rfl, Nat.le_of_ble_eq_true rfl⟩) (x_preV hP hK hD hq42 rfl) rfl rfl hl.1 rfl (lv_room (Nat.le_of_ble_eq_true rfl)) dD_releaseIfNothingHolds_59 ⟨Nat.le_of_ble_eq_true rfl, Nat.le_of_ble_eq_true rfl⟩) hD hS hA (fun w H locs hw hP hD hS => ?_)
              have hR := hw
              exact x_vret hx hb hr hlocks (by have hR9 := hR; simp_all [fRelease, upf_eq, upf_upf, upf_self]) hP hK hD hS dD_releaseIfNothingHolds_62
set_option maxHeartbeats 4000000 in
set_option maxRecDepth 100000 in
theorem c_D_invalidateFor {l : Launch} {G : va_G} {cI cD cE : ClassId} {aX aR aD aE : Nat} {dA eA : Nat → Nat} {g ro : Nat → Int32} {fst : Option Nat} {nD nE : Nat} {d : Nat → Nat → Int32} {fw lw : Nat → Option Nat} {ed : Nat → Nat} {ev : Nat → Nat → Int32} {nx : Nat → Option Nat} {w : va_W} {sz : Nat} (hR : RX cI cD cE aX aR aD aE dA eA g ro fst nD nE d fw lw ed ev nx w) {j : Nat} (hj : j < nD) (why : Int32) (t : Int32) : xMi l yD_invalidateFor wsD_invalidateFor ({ frames := 1, cells := 0, slots := 0, locals := 22 }) [.ref (dA j), .int why, .int t] G (xTys cI cD cE) w sz (fun r w' => r = 1 ∧ RX cI cD cE aX aR aD aE dA eA g ro fst nD nE (upf d j (fInv (d j) why t)) fw lw ed ev nx w') 0 0 := by
  refine x_ofW (fun A => va_Qi (fun r w' => r = 1 ∧ RX cI cD cE aX aR aD aE dA eA g ro fst nD nE (upf d j (fInv (d j) why t)) fw lw ed ev nx w') (xEnd G (xTys cI cD cE) A) A) cD_invalidateFor 3 (some .int) (by decide) rfl (Nat.le_of_ble_eq_true rfl) ?_
  intro p e s m below meth c A ls hx hb hr hlocks hml hnm hown hB hA hP hK hD hS hl
  have hl : lv_has ls 3 [(0, .ref (dA j)), (1, .int why), (2, .int t)] := hl
  have hown : s.vm.findClass NmD = some m.cls := hown
  refine lv_aload_n hx hb dD_invalidateFor_0 rfl (lv_at hl 0 rfl) ?_
  refine lv_iload_n hx hb dD_invalidateFor_1 rfl (lv_at hl 1 rfl) ?_
  refine x_putD 8 why hj hx hb hB inBD hown hK hP hD hS hR (by decide) (hB _ fl_D_53) rfl rfl (by decide +kernel) dD_invalidateFor_2 (fun w H locs hR hP hD hS => ?_)
  refine lv_aload_n hx hb dD_invalidateFor_5 rfl (lv_at hl 0 rfl) ?_
  refine lv_bipush (v := 6) hx hb dD_invalidateFor_6 (by decide) ?_
  refine lv_iload_n hx hb dD_invalidateFor_8 rfl (lv_at hl 2 rfl) ?_
  obtain ⟨_, hq1⟩ := hR.dc hj
  refine x_callv (va_runV (As := [.int 6, .int t]) (rest := []) ⟨hx, hb, hml, hown, hB⟩ (c_D_become hR hj 6 t) (cwV 2 hB (gV ml_D_37 im_D_become sl_D_become ini_D kc_D_become) rfl rfl rfl (by decide +kernel) ⟨Nat.le_of_ble_eq_true rfl, Nat.le_of_ble_eq_true rfl⟩) (x_preV hP hK hD hq1 rfl) rfl rfl hl.1 rfl (lv_room (Nat.le_of_ble_eq_true rfl)) dD_invalidateFor_9 ⟨Nat.le_of_ble_eq_true rfl, Nat.le_of_ble_eq_true rfl⟩) hD hS hA (fun w H locs hw hP hD hS => ?_)
  have hR := hw
  refine lv_iconst (v := 1) hx hb dD_invalidateFor_12 (by decide) ?_
  exact x_iret (v := 1) hx hb hr hlocks ⟨by first | (simp [fInv, upf_eq, upf_upf, upf_self]; done) | simp_all [fInv, upf_eq, upf_upf, upf_self], (by first | (simpa [fInv, upf_eq, upf_upf, upf_self] using hR) | (have hR9 := hR; simp_all [fInv, upf_eq, upf_upf, upf_self]))⟩ hP hK hD hS dD_invalidateFor_13
set_option maxHeartbeats 4000000 in
set_option maxRecDepth 100000 in
theorem c_D_requestAsOneOfTwo {l : Launch} {G : va_G} {cI cD cE : ClassId} {aX aR aD aE : Nat} {dA eA : Nat → Nat} {g ro : Nat → Int32} {fst : Option Nat} {nD nE : Nat} {d : Nat → Nat → Int32} {fw lw : Nat → Option Nat} {ed : Nat → Nat} {ev : Nat → Nat → Int32} {nx : Nat → Option Nat} {w : va_W} {sz : Nat} (hR : RX cI cD cE aX aR aD aE dA eA g ro fst nD nE d fw lw ed ev nx w) {j : Nat} (hj : j < nD) (who : Int32) (why : Int32) (t : Int32) : xMi l yD_requestAsOneOfTwo wsD_requestAsOneOfTwo ({ frames := 2, cells := 0, slots := 0, locals := 44 }) [.ref (dA j), .int who, .int why, .int t] G (xTys cI cD cE) w sz (fun r w' => r = fTwoR (d j) who ∧ RX cI cD cE aX aR aD aE dA eA g ro fst nD nE (upf d j (fTwo (d j) who why t)) fw lw ed ev nx w') 0 0 := by
  refine x_ofW (fun A => va_Qi (fun r w' => r = fTwoR (d j) who ∧ RX cI cD cE aX aR aD aE dA eA g ro fst nD nE (upf d j (fTwo (d j) who why t)) fw lw ed ev nx w') (xEnd G (xTys cI cD cE) A) A) cD_requestAsOneOfTwo 4 (some .int) (by decide) rfl (Nat.le_of_ble_eq_true rfl) ?_
  intro p e s m below meth c A ls hx hb hr hlocks hml hnm hown hB hA hP hK hD hS hl
  have hl : lv_has ls 4 [(0, .ref (dA j)), (1, .int who), (2, .int why), (3, .int t)] := hl
  have hown : s.vm.findClass NmD = some m.cls := hown
  refine lv_aload_n hx hb dD_requestAsOneOfTwo_0 rfl (lv_at hl 0 rfl) ?_
  refine x_getD 7 hj hx hb hB inBD hown hK hP hR (by decide) (hB _ fl_D_24) rfl dD_requestAsOneOfTwo_1 ?_
  refine lv_iconst (v := (-1)) hx hb dD_requestAsOneOfTwo_4 (by decide) ?_
  refine lv_icmp_ne (tgt := 15) hx hb dD_requestAsOneOfTwo_5 (by decide) (fun c1 => ?_) (fun c1 => ?_)
  · refine lv_aload_n hx hb dD_requestAsOneOfTwo_15 rfl (lv_at hl 0 rfl) ?_
    refine x_getD 7 hj hx hb hB inBD hown hK hP hR (by decide) (hB _ fl_D_24) rfl dD_requestAsOneOfTwo_16 ?_
    refine lv_iload_n hx hb dD_requestAsOneOfTwo_19 rfl (lv_at hl 1 rfl) ?_
    refine lv_icmp_ne (tgt := 27) hx hb dD_requestAsOneOfTwo_20 (by decide) (fun c2 => ?_) (fun c2 => ?_)
    · refine lv_aload_n hx hb dD_requestAsOneOfTwo_27 rfl (lv_at hl 0 rfl) ?_
      refine lv_iload_n hx hb dD_requestAsOneOfTwo_28 rfl (lv_at hl 2 rfl) ?_
      refine lv_iload_n hx hb dD_requestAsOneOfTwo_29 rfl (lv_at hl 3 rfl) ?_
      obtain ⟨_, hq3⟩ := hR.dc hj
      refine x_calli (va_runV (As := [.int why, .int t]) (rest := []) ⟨hx, hb, hml, hown, hB⟩ (c_D_invalidateFor hR hj why t) (cwV 2 hB (gV ml_D_45 im_D_invalidateFor sl_D_invalidateFor ini_D kc_D_invalidateFor) rfl rfl rfl (by decide +kernel) ⟨Nat.le_of_ble_eq_true rfl, Nat.le_of_ble_eq_true rfl⟩) (x_preV hP hK hD hq3 rfl) rfl rfl hl.1 rfl (lv_room (Nat.le_of_ble_eq_true rfl)) dD_requestAsOneOfTwo_30 ⟨Nat.le_of_ble_eq_true rfl, Nat.le_of_ble_eq_true rfl⟩) hD hS hA (fun r4 w H locs hw hP hD hS => ?_)
      obtain ⟨e5, hR⟩ := hw
      exact x_iret (v := r4) hx hb hr hlocks ⟨by first | (simp [fTwo, fTwoR, upf_eq, upf_upf, upf_self, c1, c2, e5]; done) | simp_all [fTwo, fTwoR, upf_eq, upf_upf, upf_self], (by first | (simpa [fTwo, fTwoR, upf_eq, upf_upf, upf_self, c1, c2, e5] using hR) | (have hR9 := hR; simp_all [fTwo, fTwoR, upf_eq, upf_upf, upf_self]))⟩ hP hK hD hS dD_requestAsOneOfTwo_33
    · refine lv_iconst (v := 0) hx hb dD_requestAsOneOfTwo_23 (by decide) ?_
      refine lv_goto (tgt := 33) hx hb dD_requestAsOneOfTwo_24 (by decide) ?_
      exact x_iret (v := 0) hx hb hr hlocks ⟨by first | (simp [fTwo, fTwoR, upf_eq, upf_upf, upf_self, c1, c2]; done) | simp_all [fTwo, fTwoR, upf_eq, upf_upf, upf_self], (by first | (simpa [fTwo, fTwoR, upf_eq, upf_upf, upf_self, c1, c2] using hR) | (have hR9 := hR; simp_all [fTwo, fTwoR, upf_eq, upf_upf, upf_self]))⟩ hP hK hD hS dD_requestAsOneOfTwo_33
  · refine lv_aload_n hx hb dD_requestAsOneOfTwo_8 rfl (lv_at hl 0 rfl) ?_
    refine lv_iload_n hx hb dD_requestAsOneOfTwo_9 rfl (lv_at hl 1 rfl) ?_
    refine x_putD 7 who hj hx hb hB inBD hown hK hP hD hS hR (by decide) (hB _ fl_D_24) rfl rfl (by decide +kernel) dD_requestAsOneOfTwo_10 (fun w H locs hR hP hD hS => ?_)
    refine lv_iconst (v := 2) hx hb dD_requestAsOneOfTwo_13 (by decide) ?_
    exact x_iret (v := 2) hx hb hr hlocks ⟨by first | (simp [fTwo, fTwoR, upf_eq, upf_upf, upf_self, c1]; done) | simp_all [fTwo, fTwoR, upf_eq, upf_upf, upf_self], (by first | (simpa [fTwo, fTwoR, upf_eq, upf_upf, upf_self, c1] using hR) | (have hR9 := hR; simp_all [fTwo, fTwoR, upf_eq, upf_upf, upf_self]))⟩ hP hK hD hS dD_requestAsOneOfTwo_14
set_option maxHeartbeats 4000000 in
set_option maxRecDepth 100000 in
theorem c_D_requestInvalidation {l : Launch} {G : va_G} {cI cD cE : ClassId} {aX aR aD aE : Nat} {dA eA : Nat → Nat} {g ro : Nat → Int32} {fst : Option Nat} {nD nE : Nat} {d : Nat → Nat → Int32} {fw lw : Nat → Option Nat} {ed : Nat → Nat} {ev : Nat → Nat → Int32} {nx : Nat → Option Nat} {w : va_W} {sz : Nat} (hR : RX cI cD cE aX aR aD aE dA eA g ro fst nD nE d fw lw ed ev nx w) {j : Nat} (hj : j < nD) (who : Int32) (why : Int32) (t : Int32) : xMi l yD_requestInvalidation wsD_requestInvalidation ({ frames := 3, cells := 0, slots := 0, locals := 67 }) [.ref (dA j), .int who, .int why, .int t] G (xTys cI cD cE) w sz (fun r w' => r = fReqR (d j) who why ∧ RX cI cD cE aX aR aD aE dA eA g ro fst nD nE (upf d j (fReq (d j) who why t)) fw lw ed ev nx w') 0 0 := by
  refine x_ofW (fun A => va_Qi (fun r w' => r = fReqR (d j) who why ∧ RX cI cD cE aX aR aD aE dA eA g ro fst nD nE (upf d j (fReq (d j) who why t)) fw lw ed ev nx w') (xEnd G (xTys cI cD cE) A) A) cD_requestInvalidation 4 (some .int) (by decide) rfl (Nat.le_of_ble_eq_true rfl) ?_
  intro p e s m below meth c A ls hx hb hr hlocks hml hnm hown hB hA hP hK hD hS hl
  have hl : lv_has ls 4 [(0, .ref (dA j)), (1, .int who), (2, .int why), (3, .int t)] := hl
  have hown : s.vm.findClass NmD = some m.cls := hown
  refine lv_aload_n hx hb dD_requestInvalidation_0 rfl (lv_at hl 0 rfl) ?_
  refine x_getD 3 hj hx hb hB inBD hown hK hP hR (by decide) (hB _ fl_D_21) rfl dD_requestInvalidation_1 ?_
  rcases x_sw0_4 (d j 3) with h1 | h2 | h3 | h4 | h5 | h6
  · refine lv_tableIn (tgt := 40) hx hb dD_requestInvalidation_4 (by rw [h1]; decide) (by rw [h1]; decide) (by rw [h1]; rfl) (by decide) ?_
    refine lv_aload_n hx hb dD_requestInvalidation_40 rfl (lv_at hl 0 rfl) ?_
    refine lv_iload_n hx hb dD_requestInvalidation_41 rfl (lv_at hl 2 rfl) ?_
    refine lv_iload_n hx hb dD_requestInvalidation_42 rfl (lv_at hl 3 rfl) ?_
    obtain ⟨_, hq7⟩ := hR.dc hj
    refine x_calli (va_runV (As := [.int why, .int t]) (rest := []) ⟨hx, hb, hml, hown, hB⟩ (c_D_invalidateFor hR hj why t) (cwV 2 hB (gV ml_D_45 im_D_invalidateFor sl_D_invalidateFor ini_D kc_D_invalidateFor) rfl rfl rfl (by decide +kernel) ⟨Nat.le_of_ble_eq_true rfl, Nat.le_of_ble_eq_true rfl⟩) (x_preV hP hK hD hq7 rfl) rfl rfl hl.1 rfl (lv_room (Nat.le_of_ble_eq_true rfl)) dD_requestInvalidation_43 ⟨Nat.le_of_ble_eq_true rfl, Nat.le_of_ble_eq_true rfl⟩) hD hS hA (fun r8 w H locs hw hP hD hS => ?_)
    obtain ⟨e9, hR⟩ := hw
    exact x_iret (v := r8) hx hb hr hlocks ⟨by first | (simp [fReq, fReqR, upf_eq, upf_upf, upf_self, h1, e9]; done) | simp_all [fReq, fReqR, upf_eq, upf_upf, upf_self], (by first | (simpa [fReq, fReqR, upf_eq, upf_upf, upf_self, h1, e9] using hR) | (have hR9 := hR; simp_all [fReq, fReqR, upf_eq, upf_upf, upf_self]))⟩ hP hK hD hS dD_requestInvalidation_46
  · refine lv_tableIn (tgt := 40) hx hb dD_requestInvalidation_4 (by rw [h2]; decide) (by rw [h2]; decide) (by rw [h2]; rfl) (by decide) ?_
    refine lv_aload_n hx hb dD_requestInvalidation_40 rfl (lv_at hl 0 rfl) ?_
    refine lv_iload_n hx hb dD_requestInvalidation_41 rfl (lv_at hl 2 rfl) ?_
    refine lv_iload_n hx hb dD_requestInvalidation_42 rfl (lv_at hl 3 rfl) ?_
    obtain ⟨_, hq10⟩ := hR.dc hj
    refine x_calli (va_runV (As := [.int why, .int t]) (rest := []) ⟨hx, hb, hml, hown, hB⟩ (c_D_invalidateFor hR hj why t) (cwV 2 hB (gV ml_D_45 im_D_invalidateFor sl_D_invalidateFor ini_D kc_D_invalidateFor) rfl rfl rfl (by decide +kernel) ⟨Nat.le_of_ble_eq_true rfl, Nat.le_of_ble_eq_true rfl⟩) (x_preV hP hK hD hq10 rfl) rfl rfl hl.1 rfl (lv_room (Nat.le_of_ble_eq_true rfl)) dD_requestInvalidation_43 ⟨Nat.le_of_ble_eq_true rfl, Nat.le_of_ble_eq_true rfl⟩) hD hS hA (fun r11 w H locs hw hP hD hS => ?_)
    obtain ⟨e12, hR⟩ := hw
    exact x_iret (v := r11) hx hb hr hlocks ⟨by first | (simp [fReq, fReqR, upf_eq, upf_upf, upf_self, h2, e12]; done) | simp_all [fReq, fReqR, upf_eq, upf_upf, upf_self], (by first | (simpa [fReq, fReqR, upf_eq, upf_upf, upf_self, h2, e12] using hR) | (have hR9 := hR; simp_all [fReq, fReqR, upf_eq, upf_upf, upf_self]))⟩ hP hK hD hS dD_requestInvalidation_46
  · refine lv_tableIn (tgt := 47) hx hb dD_requestInvalidation_4 (by rw [h3]; decide) (by rw [h3]; decide) (by rw [h3]; rfl) (by decide) ?_
    refine lv_iload_n hx hb dD_requestInvalidation_47 rfl (lv_at hl 2 rfl) ?_
    refine lv_if_ne (tgt := 55) hx hb dD_requestInvalidation_48 (by decide) (fun c13 => ?_) (fun c13 => ?_)
    · refine lv_aload_n hx hb dD_requestInvalidation_55 rfl (lv_at hl 0 rfl) ?_
      refine lv_iload_n hx hb dD_requestInvalidation_56 rfl (lv_at hl 2 rfl) ?_
      refine lv_iload_n hx hb dD_requestInvalidation_57 rfl (lv_at hl 3 rfl) ?_
      obtain ⟨_, hq14⟩ := hR.dc hj
      refine x_calli (va_runV (As := [.int why, .int t]) (rest := []) ⟨hx, hb, hml, hown, hB⟩ (c_D_invalidateFor hR hj why t) (cwV 2 hB (gV ml_D_45 im_D_invalidateFor sl_D_invalidateFor ini_D kc_D_invalidateFor) rfl rfl rfl (by decide +kernel) ⟨Nat.le_of_ble_eq_true rfl, Nat.le_of_ble_eq_true rfl⟩) (x_preV hP hK hD hq14 rfl) rfl rfl hl.1 rfl (lv_room (Nat.le_of_ble_eq_true rfl)) dD_requestInvalidation_58 ⟨Nat.le_of_ble_eq_true rfl, Nat.le_of_ble_eq_true rfl⟩) hD hS hA (fun r15 w H locs hw hP hD hS => ?_)
      obtain ⟨e16, hR⟩ := hw
      exact x_iret (v := r15) hx hb hr hlocks ⟨by first | (simp [fReq, fReqR, upf_eq, upf_upf, upf_self, h3, c13, e16]; done) | simp_all [fReq, fReqR, upf_eq, upf_upf, upf_self], (by first | (simpa [fReq, fReqR, upf_eq, upf_upf, upf_self, h3, c13, e16] using hR) | (have hR9 := hR; simp_all [fReq, fReqR, upf_eq, upf_upf, upf_self]))⟩ hP hK hD hS dD_requestInvalidation_61
    · refine lv_iconst (v := 0) hx hb dD_requestInvalidation_51 (by decide) ?_
      refine lv_goto (tgt := 61) hx hb dD_requestInvalidation_52 (by decide) ?_
      exact x_iret (v := 0) hx hb hr hlocks ⟨by first | (simp [fReq, fReqR, upf_eq, upf_upf, upf_self, h3, c13]; done) | simp_all [fReq, fReqR, upf_eq, upf_upf, upf_self], (by first | (simpa [fReq, fReqR, upf_eq, upf_upf, upf_self, h3, c13] using hR) | (have hR9 := hR; simp_all [fReq, fReqR, upf_eq, upf_upf, upf_self]))⟩ hP hK hD hS dD_requestInvalidation_61
  · refine lv_tableIn (tgt := 47) hx hb dD_requestInvalidation_4 (by rw [h4]; decide) (by rw [h4]; decide) (by rw [h4]; rfl) (by decide) ?_
    refine lv_iload_n hx hb dD_requestInvalidation_47 rfl (lv_at hl 2 rfl) ?_
    refine lv_if_ne (tgt := 55) hx hb dD_requestInvalidation_48 (by decide) (fun c17 => ?_) (fun c17 => ?_)
    · refine lv_aload_n hx hb dD_requestInvalidation_55 rfl (lv_at hl 0 rfl) ?_
      refine lv_iload_n hx hb dD_requestInvalidation_56 rfl (lv_at hl 2 rfl) ?_
      refine lv_iload_n hx hb dD_requestInvalidation_57 rfl (lv_at hl 3 rfl) ?_
      obtain ⟨_, hq18⟩ := hR.dc hj
      refine x_calli (va_runV (As := [.int why, .int t]) (rest := []) ⟨hx, hb, hml, hown, hB⟩ (c_D_invalidateFor hR hj why t) (cwV 2 hB (gV ml_D_45 im_D_invalidateFor sl_D_invalidateFor ini_D kc_D_invalidateFor) rfl rfl rfl (by decide +kernel) ⟨Nat.le_of_ble_eq_true rfl, Nat.le_of_ble_eq_true rfl⟩) (x_preV hP hK hD hq18 rfl) rfl rfl hl.1 rfl (lv_room (Nat.le_of_ble_eq_true rfl)) dD_requestInvalidation_58 ⟨Nat.le_of_ble_eq_true rfl, Nat.le_of_ble_eq_true rfl⟩) hD hS hA (fun r19 w H locs hw hP hD hS => ?_)
      obtain ⟨e20, hR⟩ := hw
      exact x_iret (v := r19) hx hb hr hlocks ⟨by first | (simp [fReq, fReqR, upf_eq, upf_upf, upf_self, h4, c17, e20]; done) | simp_all [fReq, fReqR, upf_eq, upf_upf, upf_self], (by first | (simpa [fReq, fReqR, upf_eq, upf_upf, upf_self, h4, c17, e20] using hR) | (have hR9 := hR; simp_all [fReq, fReqR, upf_eq, upf_upf, upf_self]))⟩ hP hK hD hS dD_requestInvalidation_61
    · refine lv_iconst (v := 0) hx hb dD_requestInvalidation_51 (by decide) ?_
      refine lv_goto (tgt := 61) hx hb dD_requestInvalidation_52 (by decide) ?_
      exact x_iret (v := 0) hx hb hr hlocks ⟨by first | (simp [fReq, fReqR, upf_eq, upf_upf, upf_self, h4, c17]; done) | simp_all [fReq, fReqR, upf_eq, upf_upf, upf_self], (by first | (simpa [fReq, fReqR, upf_eq, upf_upf, upf_self, h4, c17] using hR) | (have hR9 := hR; simp_all [fReq, fReqR, upf_eq, upf_upf, upf_self]))⟩ hP hK hD hS dD_requestInvalidation_61
  · refine lv_tableIn (tgt := 62) hx hb dD_requestInvalidation_4 (by rw [h5]; decide) (by rw [h5]; decide) (by rw [h5]; rfl) (by decide) ?_
    refine lv_iload_n hx hb dD_requestInvalidation_62 rfl (lv_at hl 2 rfl) ?_
    refine lv_if_ne (tgt := 70) hx hb dD_requestInvalidation_63 (by decide) (fun c21 => ?_) (fun c21 => ?_)
    · refine lv_aload_n hx hb dD_requestInvalidation_70 rfl (lv_at hl 0 rfl) ?_
      refine lv_iload_n hx hb dD_requestInvalidation_71 rfl (lv_at hl 1 rfl) ?_
      refine lv_iload_n hx hb dD_requestInvalidation_72 rfl (lv_at hl 2 rfl) ?_
      refine lv_iload_n hx hb dD_requestInvalidation_73 rfl (lv_at hl 3 rfl) ?_
      obtain ⟨_, hq22⟩ := hR.dc hj
      refine x_calli (va_runV (As := [.int who, .int why, .int t]) (rest := []) ⟨hx, hb, hml, hown, hB⟩ (c_D_requestAsOneOfTwo hR hj who why t) (cwV 3 hB (gV ml_D_49 im_D_requestAsOneOfTwo sl_D_requestAsOneOfTwo ini_D kc_D_requestAsOneOfTwo) rfl rfl rfl (by decide +kernel) ⟨Nat.le_of_ble_eq_true rfl, Nat.le_of_ble_eq_true rfl⟩) (x_preV hP hK hD hq22 rfl) rfl rfl hl.1 rfl (lv_room (Nat.le_of_ble_eq_true rfl)) dD_requestInvalidation_74 ⟨Nat.le_of_ble_eq_true rfl, Nat.le_of_ble_eq_true rfl⟩) hD hS hA (fun r23 w H locs hw hP hD hS => ?_)
      obtain ⟨e24, hR⟩ := hw
      exact x_iret (v := r23) hx hb hr hlocks ⟨by first | (simp [fReq, fReqR, upf_eq, upf_upf, upf_self, h5, c21, e24]; done) | simp_all [fReq, fReqR, upf_eq, upf_upf, upf_self], (by first | (simpa [fReq, fReqR, upf_eq, upf_upf, upf_self, h5, c21, e24] using hR) | (have hR9 := hR; simp_all [fReq, fReqR, upf_eq, upf_upf, upf_self]))⟩ hP hK hD hS dD_requestInvalidation_77
    · refine lv_iconst (v := 0) hx hb dD_requestInvalidation_66 (by decide) ?_
      refine lv_goto (tgt := 77) hx hb dD_requestInvalidation_67 (by decide) ?_
      exact x_iret (v := 0) hx hb hr hlocks ⟨by first | (simp [fReq, fReqR, upf_eq, upf_upf, upf_self, h5, c21]; done) | simp_all [fReq, fReqR, upf_eq, upf_upf, upf_self], (by first | (simpa [fReq, fReqR, upf_eq, upf_upf, upf_self, h5, c21] using hR) | (have hR9 := hR; simp_all [fReq, fReqR, upf_eq, upf_upf, upf_self]))⟩ hP hK hD hS dD_requestInvalidation_77
  · refine lv_tableOut (tgt := 78) hx hb dD_requestInvalidation_4 h6.1 (by decide) ?_
    refine lv_iconst (v := 0) hx hb dD_requestInvalidation_78 (by decide) ?_
    exact x_iret (v := 0) hx hb hr hlocks ⟨by first | (simp [fReq, fReqR, upf_eq, upf_upf, upf_self, h6.2]; done) | simp_all [fReq, fReqR, upf_eq, upf_upf, upf_self], (by first | (simpa [fReq, fReqR, upf_eq, upf_upf, upf_self, h6.2] using hR) | (have hR9 := hR; simp_all [fReq, fReqR, upf_eq, upf_upf, upf_self]))⟩ hP hK hD hS dD_requestInvalidation_79
set_option maxHeartbeats 4000000 in
set_option maxRecDepth 100000 in
theorem c_D_carryOut {l : Launch} {G : va_G} {cI cD cE : ClassId} {aX aR aD aE : Nat} {dA eA : Nat → Nat} {g ro : Nat → Int32} {fst : Option Nat} {nD nE : Nat} {d : Nat → Nat → Int32} {fw lw : Nat → Option Nat} {ed : Nat → Nat} {ev : Nat → Nat → Int32} {nx : Nat → Option Nat} {w : va_W} {sz : Nat} (hR : RX cI cD cE aX aR aD aE dA eA g ro fst nD nE d fw lw ed ev nx w) {j : Nat} (hj : j < nD) (act : Int32) (t : Int32) : xMv l yD_carryOut wsD_carryOut ({ frames := 2, cells := 0, slots := 0, locals := 44 }) [.ref (dA j), .int act, .int t] G (xTys cI cD cE) w sz (fun w' => RX cI cD cE aX aR aD aE dA eA g ro fst nD nE (upf d j (fCarry (d j) act t)) fw lw ed ev nx w') 0 0 := by
  refine x_ofW (fun A => va_Qv (fun w' => RX cI cD cE aX aR aD aE dA eA g ro fst nD nE (upf d j (fCarry (d j) act t)) fw lw ed ev nx w') (xEnd G (xTys cI cD cE) A) A) cD_carryOut 3 none (by decide) rfl (Nat.le_of_ble_eq_true rfl) ?_
  intro p e s m below meth c A ls hx hb hr hlocks hml hnm hown hB hA hP hK hD hS hl
  have hl : lv_has ls 3 [(0, .ref (dA j)), (1, .int act), (2, .int t)] := hl
  have hown : s.vm.findClass NmD = some m.cls := hown
  refine lv_iload_n hx hb dD_carryOut_0 rfl (lv_at hl 1 rfl) ?_
  rcases x_sw0_9 act with h1 | h2 | h3 | h4 | h5 | h6 | h7 | h8 | h9 | h10 | h11
  · refine lv_tableIn (tgt := 56) hx hb dD_carryOut_1 (by rw [h1]; decide) (by rw [h1]; decide) (by rw [h1]; rfl) (by decide) ?_
    refine lv_aload_n hx hb dD_carryOut_56 rfl (lv_at hl 0 rfl) ?_
    refine lv_iconst (v := 1) hx hb dD_carryOut_57 (by decide) ?_
    refine lv_iload_n hx hb dD_carryOut_58 rfl (lv_at hl 2 rfl) ?_
    obtain ⟨_, hq12⟩ := hR.dc hj
    refine x_callv (va_runV (As := [.int 1, .int t]) (rest := []) ⟨hx, hb, hml, hown, hB⟩ (c_D_become hR hj 1 t) (cwV 2 hB (gV ml_D_37 im_D_become sl_D_become ini_D kc_D_become) rfl rfl rfl (by decide +kernel) ⟨Nat.le_of_ble_eq_true rfl, Nat.le_of_ble_eq_true rfl⟩) (x_preV hP hK hD hq12 rfl) rfl rfl hl.1 rfl (lv_room (Nat.le_of_ble_eq_true rfl)) dD_carryOut_59 ⟨Nat.le_of_ble_eq_true rfl, Nat.le_of_ble_eq_true rfl⟩) hD hS hA (fun w H locs hw hP hD hS => ?_)
    have hR := hw
    refine lv_goto (tgt := 161) hx hb dD_carryOut_62 (by decide) ?_
    refine lv_aload_n hx hb dD_carryOut_161 rfl (lv_at hl 0 rfl) ?_
    refine lv_iload_n hx hb dD_carryOut_162 rfl (lv_at hl 2 rfl) ?_
    obtain ⟨_, hq15⟩ := hR.dc hj
    refine x_callv (va_runV (As := [.int t]) (rest := []) ⟨hx, hb, hml, hown, hB⟩ (c_D_releaseIfNothingHolds hR hj t) (cwV 1 hB (gV ml_D_41 im_D_releaseIfNothingHolds sl_D_releaseIfNothingHolds ini_D kc_D_releaseIfNothingHolds) rfl rfl rfl (by decide +kernel) ⟨Nat.le_of_ble_eq_true rfl, Nat.le_of_ble_eq_true rfl⟩) (x_preV hP hK hD hq15 rfl) rfl rfl hl.1 rfl (lv_room (Nat.le_of_ble_eq_true rfl)) dD_carryOut_163 ⟨Nat.le_of_ble_eq_true rfl, Nat.le_of_ble_eq_true rfl⟩) hD hS hA (fun w H locs hw hP hD hS => ?_)
    have hR := hw
    exact x_vret hx hb hr hlocks (by first | (simpa [fCarry, fAct, upf_eq, upf_upf, upf_self, h1] using hR) | (have hR9 := hR; simp_all [fCarry, fAct, upf_eq, upf_upf, upf_self])) hP hK hD hS dD_carryOut_166
  · refine lv_tableIn (tgt := 65) hx hb dD_carryOut_1 (by rw [h2]; decide) (by rw [h2]; decide) (by rw [h2]; rfl) (by decide) ?_
    refine lv_aload_n hx hb dD_carryOut_65 rfl (lv_at hl 0 rfl) ?_
    refine lv_dup hx hb dD_carryOut_66 rfl ?_
    refine x_getD 4 hj hx hb hB inBD hown hK hP hR (by decide) (hB _ fl_D_27) rfl dD_carryOut_67 ?_
    refine lv_iconst (v := 1) hx hb dD_carryOut_70 (by decide) ?_
    refine lv_ior hx hb dD_carryOut_71 ?_
    refine x_putD 4 ((d j 4) ||| 1) hj hx hb hB inBD hown hK hP hD hS hR (by decide) (hB _ fl_D_27) rfl rfl (by decide +kernel) dD_carryOut_72 (fun w H locs hR hP hD hS => ?_)
    refine lv_goto (tgt := 161) hx hb dD_carryOut_75 (by decide) ?_
    refine lv_aload_n hx hb dD_carryOut_161 rfl (lv_at hl 0 rfl) ?_
    refine lv_iload_n hx hb dD_carryOut_162 rfl (lv_at hl 2 rfl) ?_
    obtain ⟨_, hq18⟩ := hR.dc hj
    refine x_callv (va_runV (As := [.int t]) (rest := []) ⟨hx, hb, hml, hown, hB⟩ (c_D_releaseIfNothingHolds hR hj t) (cwV 1 hB (gV ml_D_41 im_D_releaseIfNothingHolds sl_D_releaseIfNothingHolds ini_D kc_D_releaseIfNothingHolds) rfl rfl rfl (by decide +kernel) ⟨Nat.le_of_ble_eq_true rfl, Nat.le_of_ble_eq_true rfl⟩) (x_preV hP hK hD hq18 rfl) rfl rfl hl.1 rfl (lv_room (Nat.le_of_ble_eq_true rfl)) dD_carryOut_163 ⟨Nat.le_of_ble_eq_true rfl, Nat.le_of_ble_eq_true rfl⟩) hD hS hA (fun w H locs hw hP hD hS => ?_)
    have hR := hw
    exact x_vret hx hb hr hlocks (by first | (simpa [fCarry, fAct, upf_eq, upf_upf, upf_self, h2] using hR) | (have hR9 := hR; simp_all [fCarry, fAct, upf_eq, upf_upf, upf_self])) hP hK hD hS dD_carryOut_166
  · refine lv_tableIn (tgt := 78) hx hb dD_carryOut_1 (by rw [h3]; decide) (by rw [h3]; decide) (by rw [h3]; rfl) (by decide) ?_
    refine lv_aload_n hx hb dD_carryOut_78 rfl (lv_at hl 0 rfl) ?_
    refine lv_iconst (v := 2) hx hb dD_carryOut_79 (by decide) ?_
    refine lv_iload_n hx hb dD_carryOut_80 rfl (lv_at hl 2 rfl) ?_
    obtain ⟨_, hq21⟩ := hR.dc hj
    refine x_callv (va_runV (As := [.int 2, .int t]) (rest := []) ⟨hx, hb, hml, hown, hB⟩ (c_D_become hR hj 2 t) (cwV 2 hB (gV ml_D_37 im_D_become sl_D_become ini_D kc_D_become) rfl rfl rfl (by decide +kernel) ⟨Nat.le_of_ble_eq_true rfl, Nat.le_of_ble_eq_true rfl⟩) (x_preV hP hK hD hq21 rfl) rfl rfl hl.1 rfl (lv_room (Nat.le_of_ble_eq_true rfl)) dD_carryOut_81 ⟨Nat.le_of_ble_eq_true rfl, Nat.le_of_ble_eq_true rfl⟩) hD hS hA (fun w H locs hw hP hD hS => ?_)
    have hR := hw
    refine lv_goto (tgt := 161) hx hb dD_carryOut_84 (by decide) ?_
    refine lv_aload_n hx hb dD_carryOut_161 rfl (lv_at hl 0 rfl) ?_
    refine lv_iload_n hx hb dD_carryOut_162 rfl (lv_at hl 2 rfl) ?_
    obtain ⟨_, hq24⟩ := hR.dc hj
    refine x_callv (va_runV (As := [.int t]) (rest := []) ⟨hx, hb, hml, hown, hB⟩ (c_D_releaseIfNothingHolds hR hj t) (cwV 1 hB (gV ml_D_41 im_D_releaseIfNothingHolds sl_D_releaseIfNothingHolds ini_D kc_D_releaseIfNothingHolds) rfl rfl rfl (by decide +kernel) ⟨Nat.le_of_ble_eq_true rfl, Nat.le_of_ble_eq_true rfl⟩) (x_preV hP hK hD hq24 rfl) rfl rfl hl.1 rfl (lv_room (Nat.le_of_ble_eq_true rfl)) dD_carryOut_163 ⟨Nat.le_of_ble_eq_true rfl, Nat.le_of_ble_eq_true rfl⟩) hD hS hA (fun w H locs hw hP hD hS => ?_)
    have hR := hw
    exact x_vret hx hb hr hlocks (by first | (simpa [fCarry, fAct, upf_eq, upf_upf, upf_self, h3] using hR) | (have hR9 := hR; simp_all [fCarry, fAct, upf_eq, upf_upf, upf_self])) hP hK hD hS dD_carryOut_166
  · refine lv_tableIn (tgt := 87) hx hb dD_carryOut_1 (by rw [h4]; decide) (by rw [h4]; decide) (by rw [h4]; rfl) (by decide) ?_
    refine lv_aload_n hx hb dD_carryOut_87 rfl (lv_at hl 0 rfl) ?_
    refine lv_iconst (v := 3) hx hb dD_carryOut_88 (by decide) ?_
    refine lv_iload_n hx hb dD_carryOut_89 rfl (lv_at hl 2 rfl) ?_
    obtain ⟨_, hq27⟩ := hR.dc hj
    refine x_callv (va_runV (As := [.int 3, .int t]) (rest := []) ⟨hx, hb, hml, hown, hB⟩ (c_D_become hR hj 3 t) (cwV 2 hB (gV ml_D_37 im_D_become sl_D_become ini_D kc_D_become) rfl rfl rfl (by decide +kernel) ⟨Nat.le_of_ble_eq_true rfl, Nat.le_of_ble_eq_true rfl⟩) (x_preV hP hK hD hq27 rfl) rfl rfl hl.1 rfl (lv_room (Nat.le_of_ble_eq_true rfl)) dD_carryOut_90 ⟨Nat.le_of_ble_eq_true rfl, Nat.le_of_ble_eq_true rfl⟩) hD hS hA (fun w H locs hw hP hD hS => ?_)
    have hR := hw
    refine lv_goto (tgt := 161) hx hb dD_carryOut_93 (by decide) ?_
    refine lv_aload_n hx hb dD_carryOut_161 rfl (lv_at hl 0 rfl) ?_
    refine lv_iload_n hx hb dD_carryOut_162 rfl (lv_at hl 2 rfl) ?_
    obtain ⟨_, hq30⟩ := hR.dc hj
    refine x_callv (va_runV (As := [.int t]) (rest := []) ⟨hx, hb, hml, hown, hB⟩ (c_D_releaseIfNothingHolds hR hj t) (cwV 1 hB (gV ml_D_41 im_D_releaseIfNothingHolds sl_D_releaseIfNothingHolds ini_D kc_D_releaseIfNothingHolds) rfl rfl rfl (by decide +kernel) ⟨Nat.le_of_ble_eq_true rfl, Nat.le_of_ble_eq_true rfl⟩) (x_preV hP hK hD hq30 rfl) rfl rfl hl.1 rfl (lv_room (Nat.le_of_ble_eq_true rfl)) dD_carryOut_163 ⟨Nat.le_of_ble_eq_true rfl, Nat.le_of_ble_eq_true rfl⟩) hD hS hA (fun w H locs hw hP hD hS => ?_)
    have hR := hw
    exact x_vret hx hb hr hlocks (by first | (simpa [fCarry, fAct, upf_eq, upf_upf, upf_self, h4] using hR) | (have hR9 := hR; simp_all [fCarry, fAct, upf_eq, upf_upf, upf_self])) hP hK hD hS dD_carryOut_166
  · refine lv_tableIn (tgt := 78) hx hb dD_carryOut_1 (by rw [h5]; decide) (by rw [h5]; decide) (by rw [h5]; rfl) (by decide) ?_
    refine lv_aload_n hx hb dD_carryOut_78 rfl (lv_at hl 0 rfl) ?_
    refine lv_iconst (v := 2) hx hb dD_carryOut_79 (by decide) ?_
    refine lv_iload_n hx hb dD_carryOut_80 rfl (lv_at hl 2 rfl) ?_
    obtain ⟨_, hq33⟩ := hR.dc hj
    refine x_callv (va_runV (As := [.int 2, .int t]) (rest := []) ⟨hx, hb, hml, hown, hB⟩ (c_D_become hR hj 2 t) (cwV 2 hB (gV ml_D_37 im_D_become sl_D_become ini_D kc_D_become) rfl rfl rfl (by decide +kernel) ⟨Nat.le_of_ble_eq_true rfl, Nat.le_of_ble_eq_true rfl⟩) (x_preV hP hK hD hq33 rfl) rfl rfl hl.1 rfl (lv_room (Nat.le_of_ble_eq_true rfl)) dD_carryOut_81 ⟨Nat.le_of_ble_eq_true rfl, Nat.le_of_ble_eq_true rfl⟩) hD hS hA (fun w H locs hw hP hD hS => ?_)
    have hR := hw
    refine lv_goto (tgt := 161) hx hb dD_carryOut_84 (by decide) ?_
    refine lv_aload_n hx hb dD_carryOut_161 rfl (lv_at hl 0 rfl) ?_
    refine lv_iload_n hx hb dD_carryOut_162 rfl (lv_at hl 2 rfl) ?_
    obtain ⟨_, hq36⟩ := hR.dc hj
    refine x_callv (va_runV (As := [.int t]) (rest := []) ⟨hx, hb, hml, hown, hB⟩ (c_D_releaseIfNothingHolds hR hj t) (cwV 1 hB (gV ml_D_41 im_D_releaseIfNothingHolds sl_D_releaseIfNothingHolds ini_D kc_D_releaseIfNothingHolds) rfl rfl rfl (by decide +kernel) ⟨Nat.le_of_ble_eq_true rfl, Nat.le_of_ble_eq_true rfl⟩) (x_preV hP hK hD hq36 rfl) rfl rfl hl.1 rfl (lv_room (Nat.le_of_ble_eq_true rfl)) dD_carryOut_163 ⟨Nat.le_of_ble_eq_true rfl, Nat.le_of_ble_eq_true rfl⟩) hD hS hA (fun w H locs hw hP hD hS => ?_)
    have hR := hw
    exact x_vret hx hb hr hlocks (by first | (simpa [fCarry, fAct, upf_eq, upf_upf, upf_self, h5] using hR) | (have hR9 := hR; simp_all [fCarry, fAct, upf_eq, upf_upf, upf_self])) hP hK hD hS dD_carryOut_166
  · refine lv_tableIn (tgt := 96) hx hb dD_carryOut_1 (by rw [h6]; decide) (by rw [h6]; decide) (by rw [h6]; rfl) (by decide) ?_
    refine lv_aload_n hx hb dD_carryOut_96 rfl (lv_at hl 0 rfl) ?_
    refine lv_dup hx hb dD_carryOut_97 rfl ?_
    refine x_getD 4 hj hx hb hB inBD hown hK hP hR (by decide) (hB _ fl_D_27) rfl dD_carryOut_98 ?_
    refine lv_iconst (v := 4) hx hb dD_carryOut_101 (by decide) ?_
    refine lv_ior hx hb dD_carryOut_102 ?_
    refine x_putD 4 ((d j 4) ||| 4) hj hx hb hB inBD hown hK hP hD hS hR (by decide) (hB _ fl_D_27) rfl rfl (by decide +kernel) dD_carryOut_103 (fun w H locs hR hP hD hS => ?_)
    refine lv_aload_n hx hb dD_carryOut_106 rfl (lv_at hl 0 rfl) ?_
    refine lv_iconst (v := 2) hx hb dD_carryOut_107 (by decide) ?_
    refine lv_iload_n hx hb dD_carryOut_108 rfl (lv_at hl 2 rfl) ?_
    obtain ⟨_, hq39⟩ := hR.dc hj
    refine x_callv (va_runV (As := [.int 2, .int t]) (rest := []) ⟨hx, hb, hml, hown, hB⟩ (c_D_become hR hj 2 t) (cwV 2 hB (gV ml_D_37 im_D_become sl_D_become ini_D kc_D_become) rfl rfl rfl (by decide +kernel) ⟨Nat.le_of_ble_eq_true rfl, Nat.le_of_ble_eq_true rfl⟩) (x_preV hP hK hD hq39 rfl) rfl rfl hl.1 rfl (lv_room (Nat.le_of_ble_eq_true rfl)) dD_carryOut_109 ⟨Nat.le_of_ble_eq_true rfl, Nat.le_of_ble_eq_true rfl⟩) hD hS hA (fun w H locs hw hP hD hS => ?_)
    have hR := hw
    refine lv_goto (tgt := 161) hx hb dD_carryOut_112 (by decide) ?_
    refine lv_aload_n hx hb dD_carryOut_161 rfl (lv_at hl 0 rfl) ?_
    refine lv_iload_n hx hb dD_carryOut_162 rfl (lv_at hl 2 rfl) ?_
    obtain ⟨_, hq42⟩ := hR.dc hj
    refine x_callv (va_runV (As := [.int t]) (rest := []) ⟨hx, hb, hml, hown, hB⟩ (c_D_releaseIfNothingHolds hR hj t) (cwV 1 hB (gV ml_D_41 im_D_releaseIfNothingHolds sl_D_releaseIfNothingHolds ini_D kc_D_releaseIfNothingHolds) rfl rfl rfl (by decide +kernel) ⟨Nat.le_of_ble_eq_true rfl, Nat.le_of_ble_eq_true rfl⟩) (x_preV hP hK hD hq42 rfl) rfl rfl hl.1 rfl (lv_room (Nat.le_of_ble_eq_true rfl)) dD_carryOut_163 ⟨Nat.le_of_ble_eq_true rfl, Nat.le_of_ble_eq_true rfl⟩) hD hS hA (fun w H locs hw hP hD hS => ?_)
    have hR := hw
    exact x_vret hx hb hr hlocks (by first | (simpa [fCarry, fAct, upf_eq, upf_upf, upf_self, h6] using hR) | (have hR9 := hR; simp_all [fCarry, fAct, upf_eq, upf_upf, upf_self])) hP hK hD hS dD_carryOut_166
  · refine lv_tableIn (tgt := 115) hx hb dD_carryOut_1 (by rw [h7]; decide) (by rw [h7]; decide) (by rw [h7]; rfl) (by decide) ?_
    refine lv_aload_n hx hb dD_carryOut_115 rfl (lv_at hl 0 rfl) ?_
    refine lv_dup hx hb dD_carryOut_116 rfl ?_
    refine x_getD 4 hj hx hb hB inBD hown hK hP hR (by decide) (hB _ fl_D_27) rfl dD_carryOut_117 ?_
    refine lv_iconst (v := 2) hx hb dD_carryOut_120 (by decide) ?_
    refine lv_ior hx hb dD_carryOut_121 ?_
    refine x_putD 4 ((d j 4) ||| 2) hj hx hb hB inBD hown hK hP hD hS hR (by decide) (hB _ fl_D_27) rfl rfl (by decide +kernel) dD_carryOut_122 (fun w H locs hR hP hD hS => ?_)
    refine lv_goto (tgt := 161) hx hb dD_carryOut_125 (by decide) ?_
    refine lv_aload_n hx hb dD_carryOut_161 rfl (lv_at hl 0 rfl) ?_
    refine lv_iload_n hx hb dD_carryOut_162 rfl (lv_at hl 2 rfl) ?_
    obtain ⟨_, hq45⟩ := hR.dc hj
    refine x_callv (va_runV (As := [.int t]) (rest := []) ⟨hx, hb, hml, hown, hB⟩ (c_D_releaseIfNothingHolds hR hj t) (cwV 1 hB (gV ml_D_41 im_D_releaseIfNothingHolds sl_D_releaseIfNothingHolds ini_D kc_D_releaseIfNothingHolds) rfl rfl rfl (by decide +kernel) ⟨Nat.le_of_ble_eq_true rfl, Nat.le_of_ble_eq_true rfl⟩) (x_preV hP hK hD hq45 rfl) rfl rfl hl.1 rfl (lv_room (Nat.le_of_ble_eq_true rfl)) dD_carryOut_163 ⟨Nat.le_of_ble_eq_true rfl, Nat.le_of_ble_eq_true rfl⟩) hD hS hA (fun w H locs hw hP hD hS => ?_)
    have hR := hw
    exact x_vret hx hb hr hlocks (by first | (simpa [fCarry, fAct, upf_eq, upf_upf, upf_self, h7] using hR) | (have hR9 := hR; simp_all [fCarry, fAct, upf_eq, upf_upf, upf_self])) hP hK hD hS dD_carryOut_166
  · refine lv_tableIn (tgt := 128) hx hb dD_carryOut_1 (by rw [h8]; decide) (by rw [h8]; decide) (by rw [h8]; rfl) (by decide) ?_
    refine lv_aload_n hx hb dD_carryOut_128 rfl (lv_at hl 0 rfl) ?_
    refine lv_iconst (v := 5) hx hb dD_carryOut_129 (by decide) ?_
    refine lv_iload_n hx hb dD_carryOut_130 rfl (lv_at hl 2 rfl) ?_
    obtain ⟨_, hq48⟩ := hR.dc hj
    refine x_callv (va_runV (As := [.int 5, .int t]) (rest := []) ⟨hx, hb, hml, hown, hB⟩ (c_D_become hR hj 5 t) (cwV 2 hB (gV ml_D_37 im_D_become sl_D_become ini_D kc_D_become) rfl rfl rfl (by decide +kernel) ⟨Nat.le_of_ble_eq_true rfl, Nat.le_of_ble_eq_true rfl⟩) (x_preV hP hK hD hq48 rfl) rfl rfl hl.1 rfl (lv_room (Nat.le_of_ble_eq_true rfl)) dD_carryOut_131 ⟨Nat.le_of_ble_eq_true rfl, Nat.le_of_ble_eq_true rfl⟩) hD hS hA (fun w H locs hw hP hD hS => ?_)
    have hR := hw
    refine lv_goto (tgt := 161) hx hb dD_carryOut_134 (by decide) ?_
    refine lv_aload_n hx hb dD_carryOut_161 rfl (lv_at hl 0 rfl) ?_
    refine lv_iload_n hx hb dD_carryOut_162 rfl (lv_at hl 2 rfl) ?_
    obtain ⟨_, hq51⟩ := hR.dc hj
    refine x_callv (va_runV (As := [.int t]) (rest := []) ⟨hx, hb, hml, hown, hB⟩ (c_D_releaseIfNothingHolds hR hj t) (cwV 1 hB (gV ml_D_41 im_D_releaseIfNothingHolds sl_D_releaseIfNothingHolds ini_D kc_D_releaseIfNothingHolds) rfl rfl rfl (by decide +kernel) ⟨Nat.le_of_ble_eq_true rfl, Nat.le_of_ble_eq_true rfl⟩) (x_preV hP hK hD hq51 rfl) rfl rfl hl.1 rfl (lv_room (Nat.le_of_ble_eq_true rfl)) dD_carryOut_163 ⟨Nat.le_of_ble_eq_true rfl, Nat.le_of_ble_eq_true rfl⟩) hD hS hA (fun w H locs hw hP hD hS => ?_)
    have hR := hw
    exact x_vret hx hb hr hlocks (by first | (simpa [fCarry, fAct, upf_eq, upf_upf, upf_self, h8] using hR) | (have hR9 := hR; simp_all [fCarry, fAct, upf_eq, upf_upf, upf_self])) hP hK hD hS dD_carryOut_166
  · refine lv_tableIn (tgt := 137) hx hb dD_carryOut_1 (by rw [h9]; decide) (by rw [h9]; decide) (by rw [h9]; rfl) (by decide) ?_
    refine lv_aload_n hx hb dD_carryOut_137 rfl (lv_at hl 0 rfl) ?_
    refine lv_bipush (v := 7) hx hb dD_carryOut_138 (by decide) ?_
    refine lv_iload_n hx hb dD_carryOut_140 rfl (lv_at hl 2 rfl) ?_
    obtain ⟨_, hq54⟩ := hR.dc hj
    refine x_callv (va_runV (As := [.int 7, .int t]) (rest := []) ⟨hx, hb, hml, hown, hB⟩ (c_D_become hR hj 7 t) (cwV 2 hB (gV ml_D_37 im_D_become sl_D_become ini_D kc_D_become) rfl rfl rfl (by decide +kernel) ⟨Nat.le_of_ble_eq_true rfl, Nat.le_of_ble_eq_true rfl⟩) (x_preV hP hK hD hq54 rfl) rfl rfl hl.1 rfl (lv_room (Nat.le_of_ble_eq_true rfl)) dD_carryOut_141 ⟨Nat.le_of_ble_eq_true rfl, Nat.le_of_ble_eq_true rfl⟩) hD hS hA (fun w H locs hw hP hD hS => ?_)
    have hR := hw
    refine lv_goto (tgt := 161) hx hb dD_carryOut_144 (by decide) ?_
    refine lv_aload_n hx hb dD_carryOut_161 rfl (lv_at hl 0 rfl) ?_
    refine lv_iload_n hx hb dD_carryOut_162 rfl (lv_at hl 2 rfl) ?_
    obtain ⟨_, hq57⟩ := hR.dc hj
    refine x_callv (va_runV (As := [.int t]) (rest := []) ⟨hx, hb, hml, hown, hB⟩ (c_D_releaseIfNothingHolds hR hj t) (cwV 1 hB (gV ml_D_41 im_D_releaseIfNothingHolds sl_D_releaseIfNothingHolds ini_D kc_D_releaseIfNothingHolds) rfl rfl rfl (by decide +kernel) ⟨Nat.le_of_ble_eq_true rfl, Nat.le_of_ble_eq_true rfl⟩) (x_preV hP hK hD hq57 rfl) rfl rfl hl.1 rfl (lv_room (Nat.le_of_ble_eq_true rfl)) dD_carryOut_163 ⟨Nat.le_of_ble_eq_true rfl, Nat.le_of_ble_eq_true rfl⟩) hD hS hA (fun w H locs hw hP hD hS => ?_)
    have hR := hw
    exact x_vret hx hb hr hlocks (by first | (simpa [fCarry, fAct, upf_eq, upf_upf, upf_self, h9] using hR) | (have hR9 := hR; simp_all [fCarry, fAct, upf_eq, upf_upf, upf_self])) hP hK hD hS dD_carryOut_166
  · refine lv_tableIn (tgt := 147) hx hb dD_carryOut_1 (by rw [h10]; decide) (by rw [h10]; decide) (by rw [h10]; rfl) (by decide) ?_
    refine lv_aload_n hx hb dD_carryOut_147 rfl (lv_at hl 0 rfl) ?_
    refine lv_dup hx hb dD_carryOut_148 rfl ?_
    refine x_getD 4 hj hx hb hB inBD hown hK hP hR (by decide) (hB _ fl_D_27) rfl dD_carryOut_149 ?_
    refine lv_bipush (v := (-5)) hx hb dD_carryOut_152 (by decide) ?_
    refine lv_iand hx hb dD_carryOut_154 ?_
    refine x_putD 4 ((d j 4) &&& (-5)) hj hx hb hB inBD hown hK hP hD hS hR (by decide) (hB _ fl_D_27) rfl rfl (by decide +kernel) dD_carryOut_155 (fun w H locs hR hP hD hS => ?_)
    refine lv_goto (tgt := 161) hx hb dD_carryOut_158 (by decide) ?_
    refine lv_aload_n hx hb dD_carryOut_161 rfl (lv_at hl 0 rfl) ?_
    refine lv_iload_n hx hb dD_carryOut_162 rfl (lv_at hl 2 rfl) ?_
    obtain ⟨_, hq60⟩ := hR.dc hj
    refine x_callv (va_runV (As := [.int t]) (rest := []) ⟨hx, hb, hml, hown, hB⟩ (c_D_releaseIfNothingHolds hR hj t) (cwV 1 hB (gV ml_D_41 im_D_releaseIfNothingHolds sl_D_releaseIfNothingHolds ini_D kc_D_releaseIfNothingHolds) rfl rfl rfl (by decide +kernel) ⟨Nat.le_of_ble_eq_true rfl, Nat.le_of_ble_eq_true rfl⟩) (x_preV hP hK hD hq60 rfl) rfl rfl hl.1 rfl (lv_room (Nat.le_of_ble_eq_true rfl)) dD_carryOut_163 ⟨Nat.le_of_ble_eq_true rfl, Nat.le_of_ble_eq_true rfl⟩) hD hS hA (fun w H locs hw hP hD hS => ?_)
    have hR := hw
    exact x_vret hx hb hr hlocks (by first | (simpa [fCarry, fAct, upf_eq, upf_upf, upf_self, h10] using hR) | (have hR9 := hR; simp_all [fCarry, fAct, upf_eq, upf_upf, upf_self])) hP hK hD hS dD_carryOut_166
  · refine lv_tableOut (tgt := 161) hx hb dD_carryOut_1 h11.1 (by decide) ?_
    refine lv_aload_n hx hb dD_carryOut_161 rfl (lv_at hl 0 rfl) ?_
    refine lv_iload_n hx hb dD_carryOut_162 rfl (lv_at hl 2 rfl) ?_
    obtain ⟨_, hq63⟩ := hR.dc hj
    refine x_callv (va_runV (As := [.int t]) (rest := []) ⟨hx, hb, hml, hown, hB⟩ (c_D_releaseIfNothingHolds hR hj t) (cwV 1 hB (gV ml_D_41 im_D_releaseIfNothingHolds sl_D_releaseIfNothingHolds ini_D kc_D_releaseIfNothingHolds) rfl rfl rfl (by decide +kernel) ⟨Nat.le_of_ble_eq_true rfl, Nat.le_of_ble_eq_true rfl⟩) (x_preV hP hK hD hq63 rfl) rfl rfl hl.1 rfl (lv_room (Nat.le_of_ble_eq_true rfl)) dD_carryOut_163 ⟨Nat.le_of_ble_eq_true rfl, Nat.le_of_ble_eq_true rfl⟩) hD hS hA (fun w H locs hw hP hD hS => ?_)
    have hR := hw
    exact x_vret hx hb hr hlocks (by first | (simpa [fCarry, fAct, upf_eq, upf_upf, upf_self, h11.2] using hR) | (have hR9 := hR; simp_all [fCarry, fAct, upf_eq, upf_upf, upf_self])) hP hK hD hS dD_carryOut_166
end
section
-- pure rows: indices
theorem x_in {v : Int32} {N : Nat} {M : Int32} (hM : M.toInt = N) (h0 : ¬ v < 0) (h : ¬ M ≤ v) : vp_in v N := by
  rw [vp_in_iff]
  rw [Int32.lt_iff_toInt_lt, Int32.toInt_zero] at h0
  rw [Int32.le_iff_toInt_le, hM] at h
  omega
theorem x_lt {v : Int32} {n : Nat} (h0 : ¬ v < 0) (h : ¬ nI n ≤ v) (hn : n < 2 ^ 31) : v.toNatClampNeg < n := by
  obtain ⟨j, hj, rfl⟩ := nI_of h0
  rw [nI_clamp hj]
  rw [nI_leI hn hj] at h
  omega
theorem x_nI {v : Int32} (h0 : ¬ v < 0) : v = nI v.toNatClampNeg := by
  obtain ⟨j, hj, rfl⟩ := nI_of h0
  rw [nI_clamp hj]
theorem fPerson_in {g : Nat → Int32} {v : Int32} (h : ¬ fPerson g v = 0) : vp_in v 12 := by
  unfold fPerson at h
  by_cases h0 : v < 0
  · simp [h0] at h
  · by_cases h1 : g 1 ≤ v
    · simp [h0, h1] at h
    · by_cases h2 : (12 : Int32) ≤ v
      · simp [h0, h1, h2] at h
      · exact x_in rfl h0 h2
theorem fDeclAt_lt {g : Nat → Int32} {v : Int32} {n j : Nat} (hg : g 3 = nI n) (hn : n ≤ 20) (h : fDeclAt g v = some j) : j < n := by
  unfold fDeclAt at h
  by_cases h0 : v < 0
  · simp [h0] at h
  · by_cases h1 : g 3 ≤ v
    · simp [h0, h1] at h
    · by_cases h2 : (20 : Int32) ≤ v
      · simp [h0, h1, h2] at h
      · simp [h0, h1, h2] at h
        rw [hg] at h1
        rw [← h]; exact x_lt h0 h1 (by omega)
theorem fEvAt_lt {g : Nat → Int32} {v : Int32} {n j : Nat} (hg : g 5 = nI n) (hn : n ≤ 120) (h : fEvAt g v = some j) : j < n := by
  unfold fEvAt at h
  by_cases h0 : v < 0
  · simp [h0] at h
  · by_cases h1 : g 5 ≤ v
    · simp [h0, h1] at h
    · by_cases h2 : (120 : Int32) ≤ v
      · simp [h0, h1, h2] at h
      · simp [h0, h1, h2] at h
        rw [hg] at h1
        rw [← h]; exact x_lt h0 h1 (by omega)
end
section
set_option maxHeartbeats 4000000 in
set_option maxRecDepth 100000 in
theorem c_E_isWaiting {l : Launch} {G : va_G} {cI cD cE : ClassId} {aX aR aD aE : Nat} {dA eA : Nat → Nat} {g ro : Nat → Int32} {fst : Option Nat} {nD nE : Nat} {d : Nat → Nat → Int32} {fw lw : Nat → Option Nat} {ed : Nat → Nat} {ev : Nat → Nat → Int32} {nx : Nat → Option Nat} {w : va_W} {sz : Nat} (hR : RX cI cD cE aX aR aD aE dA eA g ro fst nD nE d fw lw ed ev nx w) {k : Nat} (hk : k < nE) : xMi l yE_isWaiting wsE_isWaiting ({ frames := 0, cells := 0, slots := 0, locals := 0 }) [.ref (eA k)] G (xTys cI cD cE) w sz (fun r w' => r = fWaits (ev k) ∧ w = w') 0 0 := by
  refine x_ofW (fun A => va_Qi (fun r w' => r = fWaits (ev k) ∧ w = w') (xEnd G (xTys cI cD cE) A) A) cE_isWaiting 1 (some .boolean) (by decide) rfl (Nat.le_of_ble_eq_true rfl) ?_
  intro p e s m below meth c A ls hx hb hr hlocks hml hnm hown hB hA hP hK hD hS hl
  have hl : lv_has ls 1 [(0, .ref (eA k))] := hl
  have hown : s.vm.findClass NmE = some m.cls := hown
  refine lv_aload_n hx hb dE_isWaiting_0 rfl (lv_at hl 0 rfl) ?_
  refine x_getE 4 hk hx hb hB inBE hown hK hP hR (by decide) (by decide) (hB _ fl_E_25) rfl dE_isWaiting_1 ?_
  refine lv_iconst (v := (-1)) hx hb dE_isWaiting_4 (by decide) ?_
  refine lv_icmp_ne (tgt := 12) hx hb dE_isWaiting_5 (by decide) (fun c1 => ?_) (fun c1 => ?_)
  · refine lv_iconst (v := 0) hx hb dE_isWaiting_12 (by decide) ?_
    exact x_zret (v := 0) hx hb hr hlocks rfl ⟨by first | (simp [fWaits, c1]; done) | simp_all [fWaits], rfl⟩ hP hK hD hS dE_isWaiting_13
  · refine lv_iconst (v := 1) hx hb dE_isWaiting_8 (by decide) ?_
    refine lv_goto (tgt := 13) hx hb dE_isWaiting_9 (by decide) ?_
    exact x_zret (v := 1) hx hb hr hlocks rfl ⟨by first | (simp [fWaits, c1]; done) | simp_all [fWaits], rfl⟩ hP hK hD hS dE_isWaiting_13
set_option maxHeartbeats 4000000 in
set_option maxRecDepth 100000 in
theorem c_E_goesAheadOf {l : Launch} {G : va_G} {cI cD cE : ClassId} {aX aR aD aE : Nat} {dA eA : Nat → Nat} {g ro : Nat → Int32} {fst : Option Nat} {nD nE : Nat} {d : Nat → Nat → Int32} {fw lw : Nat → Option Nat} {ed : Nat → Nat} {ev : Nat → Nat → Int32} {nx : Nat → Option Nat} {w : va_W} {sz : Nat} (hR : RX cI cD cE aX aR aD aE dA eA g ro fst nD nE d fw lw ed ev nx w) {k k2 : Nat} (hk : k < nE) (hk2 : k2 < nE) : xMi l yE_goesAheadOf wsE_goesAheadOf ({ frames := 0, cells := 0, slots := 0, locals := 0 }) [.ref (eA k), .ref (eA k2)] G (xTys cI cD cE) w sz (fun r w' => r = fAhead (ev k) (ev k2) ∧ w = w') 0 0 := by
  refine x_ofW (fun A => va_Qi (fun r w' => r = fAhead (ev k) (ev k2) ∧ w = w') (xEnd G (xTys cI cD cE) A) A) cE_goesAheadOf 2 (some .boolean) (by decide) rfl (Nat.le_of_ble_eq_true rfl) ?_
  intro p e s m below meth c A ls hx hb hr hlocks hml hnm hown hB hA hP hK hD hS hl
  have hl : lv_has ls 2 [(0, .ref (eA k)), (1, .ref (eA k2))] := hl
  have hown : s.vm.findClass NmE = some m.cls := hown
  refine lv_aload_n hx hb dE_goesAheadOf_0 rfl (lv_at hl 0 rfl) ?_
  refine x_getE 3 hk hx hb hB inBE hown hK hP hR (by decide) (by decide) (hB _ fl_E_22) rfl dE_goesAheadOf_1 ?_
  refine lv_aload_n hx hb dE_goesAheadOf_4 rfl (lv_at hl 1 rfl) ?_
  refine x_getE 3 hk2 hx hb hB inBE hown hK hP hR (by decide) (by decide) (hB _ fl_E_22) rfl dE_goesAheadOf_5 ?_
  refine lv_icmp_lt (tgt := 33) hx hb dE_goesAheadOf_8 (by decide) (fun c1 => ?_) (fun c1 => ?_)
  · refine lv_iconst (v := 1) hx hb dE_goesAheadOf_33 (by decide) ?_
    refine lv_goto (tgt := 38) hx hb dE_goesAheadOf_34 (by decide) ?_
    exact x_zret (v := 1) hx hb hr hlocks rfl ⟨by first | (simp [fAhead, c1]; done) | simp_all [fAhead], rfl⟩ hP hK hD hS dE_goesAheadOf_38
  · refine lv_aload_n hx hb dE_goesAheadOf_11 rfl (lv_at hl 0 rfl) ?_
    refine x_getE 3 hk hx hb hB inBE hown hK hP hR (by decide) (by decide) (hB _ fl_E_22) rfl dE_goesAheadOf_12 ?_
    refine lv_aload_n hx hb dE_goesAheadOf_15 rfl (lv_at hl 1 rfl) ?_
    refine x_getE 3 hk2 hx hb hB inBE hown hK hP hR (by decide) (by decide) (hB _ fl_E_22) rfl dE_goesAheadOf_16 ?_
    refine lv_icmp_ne (tgt := 37) hx hb dE_goesAheadOf_19 (by decide) (fun c2 => ?_) (fun c2 => ?_)
    · refine lv_iconst (v := 0) hx hb dE_goesAheadOf_37 (by decide) ?_
      exact x_zret (v := 0) hx hb hr hlocks rfl ⟨by first | (simp [fAhead, c1, c2]; done) | simp_all [fAhead], rfl⟩ hP hK hD hS dE_goesAheadOf_38
    · refine lv_aload_n hx hb dE_goesAheadOf_22 rfl (lv_at hl 0 rfl) ?_
      refine x_getE 1 hk hx hb hB inBE hown hK hP hR (by decide) (by decide) (hB _ fl_E_15) rfl dE_goesAheadOf_23 ?_
      refine lv_aload_n hx hb dE_goesAheadOf_26 rfl (lv_at hl 1 rfl) ?_
      refine x_getE 1 hk2 hx hb hB inBE hown hK hP hR (by decide) (by decide) (hB _ fl_E_15) rfl dE_goesAheadOf_27 ?_
      refine lv_icmp_ge (tgt := 37) hx hb dE_goesAheadOf_30 (by decide) (fun c3 => ?_) (fun c3 => ?_)
      · refine lv_iconst (v := 0) hx hb dE_goesAheadOf_37 (by decide) ?_
        exact x_zret (v := 0) hx hb hr hlocks rfl ⟨by first | (simp [fAhead, c1, c2, c3]; done) | simp_all [fAhead], rfl⟩ hP hK hD hS dE_goesAheadOf_38
      · refine lv_iconst (v := 1) hx hb dE_goesAheadOf_33 (by decide) ?_
        refine lv_goto (tgt := 38) hx hb dE_goesAheadOf_34 (by decide) ?_
        exact x_zret (v := 1) hx hb hr hlocks rfl ⟨by first | (simp [fAhead, c1, c2, c3]; done) | simp_all [fAhead], rfl⟩ hP hK hD hS dE_goesAheadOf_38
set_option maxHeartbeats 4000000 in
set_option maxRecDepth 100000 in
theorem c_X_isWithin {l : Launch} {G : va_G} {cI cD cE : ClassId} {aX aR aD aE : Nat} {dA eA : Nat → Nat} {g ro : Nat → Int32} {fst : Option Nat} {nD nE : Nat} {d : Nat → Nat → Int32} {fw lw : Nat → Option Nat} {ed : Nat → Nat} {ev : Nat → Nat → Int32} {nx : Nat → Option Nat} {w : va_W} {sz : Nat} (hR : RX cI cD cE aX aR aD aE dA eA g ro fst nD nE d fw lw ed ev nx w) (v l9 : Int32) : xMi l yX_isWithin wsX_isWithin ({ frames := 0, cells := 0, slots := 0, locals := 0 }) [.int v, .int l9] G (xTys cI cD cE) w sz (fun r w' => r = fWithin v l9 ∧ w = w') 0 0 := by
  refine x_ofW (fun A => va_Qi (fun r w' => r = fWithin v l9 ∧ w = w') (xEnd G (xTys cI cD cE) A) A) cX_isWithin 2 (some .boolean) (by decide) rfl (Nat.le_of_ble_eq_true rfl) ?_
  intro p e s m below meth c A ls hx hb hr hlocks hml hnm hown hB hA hP hK hD hS hl
  have hl : lv_has ls 2 [(0, .int v), (1, .int l9)] := hl
  have hown : s.vm.findClass NmX = some m.cls := hown
  refine lv_iload_n hx hb dX_isWithin_0 rfl (lv_at hl 0 rfl) ?_
  refine lv_if_lt (tgt := 13) hx hb dX_isWithin_1 (by decide) (fun c1 => ?_) (fun c1 => ?_)
  · refine lv_iconst (v := 0) hx hb dX_isWithin_13 (by decide) ?_
    exact x_zret (v := 0) hx hb hr hlocks rfl ⟨by first | (simp [fWithin, c1]; done) | simp_all [fWithin], rfl⟩ hP hK hD hS dX_isWithin_14
  · refine lv_iload_n hx hb dX_isWithin_4 rfl (lv_at hl 0 rfl) ?_
    refine lv_iload_n hx hb dX_isWithin_5 rfl (lv_at hl 1 rfl) ?_
    refine lv_icmp_gt (tgt := 13) hx hb dX_isWithin_6 (by decide) (fun c2 => ?_) (fun c2 => ?_)
    · refine lv_iconst (v := 0) hx hb dX_isWithin_13 (by decide) ?_
      exact x_zret (v := 0) hx hb hr hlocks rfl ⟨by first | (simp [fWithin, c1, c2]; done) | simp_all [fWithin], rfl⟩ hP hK hD hS dX_isWithin_14
    · refine lv_iconst (v := 1) hx hb dX_isWithin_9 (by decide) ?_
      refine lv_goto (tgt := 14) hx hb dX_isWithin_10 (by decide) ?_
      exact x_zret (v := 1) hx hb hr hlocks rfl ⟨by first | (simp [fWithin, c1, c2]; done) | simp_all [fWithin], rfl⟩ hP hK hD hS dX_isWithin_14
set_option maxHeartbeats 4000000 in
set_option maxRecDepth 100000 in
theorem c_X_isPerson {l : Launch} {G : va_G} {cI cD cE : ClassId} {aX aR aD aE : Nat} {dA eA : Nat → Nat} {g ro : Nat → Int32} {fst : Option Nat} {nD nE : Nat} {d : Nat → Nat → Int32} {fw lw : Nat → Option Nat} {ed : Nat → Nat} {ev : Nat → Nat → Int32} {nx : Nat → Option Nat} {w : va_W} {sz : Nat} (hR : RX cI cD cE aX aR aD aE dA eA g ro fst nD nE d fw lw ed ev nx w) (v : Int32) : xMi l yX_isPerson wsX_isPerson ({ frames := 0, cells := 0, slots := 0, locals := 0 }) [.ref aX, .int v] G (xTys cI cD cE) w sz (fun r w' => r = fPerson g v ∧ w = w') 0 0 := by
  refine x_ofW (fun A => va_Qi (fun r w' => r = fPerson g v ∧ w = w') (xEnd G (xTys cI cD cE) A) A) cX_isPerson 2 (some .boolean) (by decide) rfl (Nat.le_of_ble_eq_true rfl) ?_
  intro p e s m below meth c A ls hx hb hr hlocks hml hnm hown hB hA hP hK hD hS hl
  have hl : lv_has ls 2 [(0, .ref aX), (1, .int v)] := hl
  have hown : s.vm.findClass NmX = some m.cls := hown
  refine lv_iload_n hx hb dX_isPerson_0 rfl (lv_at hl 1 rfl) ?_
  refine lv_if_lt (tgt := 25) hx hb dX_isPerson_1 (by decide) (fun c1 => ?_) (fun c1 => ?_)
  · refine lv_iconst (v := 0) hx hb dX_isPerson_25 (by decide) ?_
    exact x_zret (v := 0) hx hb hr hlocks rfl ⟨by first | (simp [fPerson, c1]; done) | simp_all [fPerson], rfl⟩ hP hK hD hS dX_isPerson_26
  · refine lv_iload_n hx hb dX_isPerson_4 rfl (lv_at hl 1 rfl) ?_
    refine lv_aload_n hx hb dX_isPerson_5 rfl (lv_at hl 0 rfl) ?_
    refine x_getX 1 hx hb hB inBX hown hK hP hR rfl (hB _ fl_X_43) rfl dX_isPerson_6 ?_
    refine lv_icmp_ge (tgt := 25) hx hb dX_isPerson_9 (by decide) (fun c2 => ?_) (fun c2 => ?_)
    · refine lv_iconst (v := 0) hx hb dX_isPerson_25 (by decide) ?_
      exact x_zret (v := 0) hx hb hr hlocks rfl ⟨by first | (simp [fPerson, c1, c2]; done) | simp_all [fPerson], rfl⟩ hP hK hD hS dX_isPerson_26
    · refine lv_iload_n hx hb dX_isPerson_12 rfl (lv_at hl 1 rfl) ?_
      refine lv_aload_n hx hb dX_isPerson_13 rfl (lv_at hl 0 rfl) ?_
      refine x_getA0 hx hb hB inBX hown hK hP hR (hB _ fl_X_9) dX_isPerson_14 ?_
      refine va_alen hx hb hK hP 1 0 hR.r rfl (v := 12) rfl dX_isPerson_17 ?_
      refine lv_icmp_ge (tgt := 25) hx hb dX_isPerson_18 (by decide) (fun c3 => ?_) (fun c3 => ?_)
      · refine lv_iconst (v := 0) hx hb dX_isPerson_25 (by decide) ?_
        exact x_zret (v := 0) hx hb hr hlocks rfl ⟨by first | (simp [fPerson, c1, c2, c3]; done) | simp_all [fPerson], rfl⟩ hP hK hD hS dX_isPerson_26
      · refine lv_iconst (v := 1) hx hb dX_isPerson_21 (by decide) ?_
        refine lv_goto (tgt := 26) hx hb dX_isPerson_22 (by decide) ?_
        exact x_zret (v := 1) hx hb hr hlocks rfl ⟨by first | (simp [fPerson, c1, c2, c3]; done) | simp_all [fPerson], rfl⟩ hP hK hD hS dX_isPerson_26
set_option maxHeartbeats 4000000 in
set_option maxRecDepth 100000 in
theorem c_X_roleOf {l : Launch} {G : va_G} {cI cD cE : ClassId} {aX aR aD aE : Nat} {dA eA : Nat → Nat} {g ro : Nat → Int32} {fst : Option Nat} {nD nE : Nat} {d : Nat → Nat → Int32} {fw lw : Nat → Option Nat} {ed : Nat → Nat} {ev : Nat → Nat → Int32} {nx : Nat → Option Nat} {w : va_W} {sz : Nat} (hR : RX cI cD cE aX aR aD aE dA eA g ro fst nD nE d fw lw ed ev nx w) (v : Int32) : xMi l yX_roleOf wsX_roleOf ({ frames := 1, cells := 0, slots := 0, locals := 21 }) [.ref aX, .int v] G (xTys cI cD cE) w sz (fun r w' => r = fRole g ro v ∧ w = w') 0 0 := by
  refine x_ofW (fun A => va_Qi (fun r w' => r = fRole g ro v ∧ w = w') (xEnd G (xTys cI cD cE) A) A) cX_roleOf 2 (some .int) (by decide) rfl (Nat.le_of_ble_eq_true rfl) ?_
  intro p e s m below meth c A ls hx hb hr hlocks hml hnm hown hB hA hP hK hD hS hl
  have hl : lv_has ls 2 [(0, .ref aX), (1, .int v)] := hl
  have hown : s.vm.findClass NmX = some m.cls := hown
  refine lv_aload_n hx hb dX_roleOf_0 rfl (lv_at hl 0 rfl) ?_
  refine lv_iload_n hx hb dX_roleOf_1 rfl (lv_at hl 1 rfl) ?_
  refine x_calli (va_runV (As := [.int v]) (rest := []) ⟨hx, hb, hml, hown, hB⟩ (c_X_isPerson hR v) (cwV 1 hB (gV ml_X_71 im_X_isPerson sl_X_isPerson ini_X kc_X_isPerson) rfl rfl rfl (by decide +kernel) ⟨Nat.le_of_ble_eq_true rfl, Nat.le_of_ble_eq_true rfl⟩) (x_preV hP hK hD hR.x rfl) rfl rfl hl.1 rfl (lv_room (Nat.le_of_ble_eq_true rfl)) dX_roleOf_2 ⟨Nat.le_of_ble_eq_true rfl, Nat.le_of_ble_eq_true rfl⟩) hD hS hA (fun r1 w H locs hw hP hD hS => ?_)
  obtain ⟨e2, rfl⟩ := hw
  refine lv_if_eq (tgt := 17) hx hb dX_roleOf_5 (by decide) (fun c3 => ?_) (fun c3 => ?_)
  · refine lv_iconst (v := (-1)) hx hb dX_roleOf_17 (by decide) ?_
    exact x_iret (v := (-1)) hx hb hr hlocks ⟨by first | (simp_all [fRole]; done), rfl⟩ hP hK hD hS dX_roleOf_18
  · refine lv_aload_n hx hb dX_roleOf_8 rfl (lv_at hl 0 rfl) ?_
    refine x_getA0 hx hb hB inBX hown hK hP hR (hB _ fl_X_9) dX_roleOf_9 ?_
    refine lv_iload_n hx hb dX_roleOf_12 rfl (lv_at hl 1 rfl) ?_
    refine va_iald hx hb hK hP 1 0 hR.r rfl (fPerson_in (g := g) (by rw [← e2]; exact c3)) dX_roleOf_13 ?_
    refine lv_goto (tgt := 18) hx hb dX_roleOf_14 (by decide) ?_
    exact x_iret (v := ro v.toNatClampNeg) hx hb hr hlocks ⟨by first | (simp_all [fRole]; done), rfl⟩ hP hK hD hS dX_roleOf_18
set_option maxHeartbeats 4000000 in
set_option maxRecDepth 100000 in
theorem c_X_declarationAt {l : Launch} {G : va_G} {cI cD cE : ClassId} {aX aR aD aE : Nat} {dA eA : Nat → Nat} {g ro : Nat → Int32} {fst : Option Nat} {nD nE : Nat} {d : Nat → Nat → Int32} {fw lw : Nat → Option Nat} {ed : Nat → Nat} {ev : Nat → Nat → Int32} {nx : Nat → Option Nat} {w : va_W} {sz : Nat} (hR : RX cI cD cE aX aR aD aE dA eA g ro fst nD nE d fw lw ed ev nx w) (hg3 : g 3 = nI nD) (hnD : nD ≤ 20) (v : Int32) : xMq l yX_declarationAt wsX_declarationAt ({ frames := 0, cells := 0, slots := 0, locals := 0 }) [.ref aX, .int v] G (xTys cI cD cE) w sz (fun r w' => r = (fDeclAt g v).map dA ∧ w = w') 0 0 := by
  refine x_ofW (fun A => va_Qq (fun r w' => r = (fDeclAt g v).map dA ∧ w = w') (xEnd G (xTys cI cD cE) A) A) cX_declarationAt 3 (some (.object NmD)) (by decide) rfl (Nat.le_of_ble_eq_true rfl) ?_
  intro p e s m below meth c A ls hx hb hr hlocks hml hnm hown hB hA hP hK hD hS hl
  have hl : lv_has ls 3 [(0, .ref aX), (1, .int v)] := hl
  have hown : s.vm.findClass NmX = some m.cls := hown
  refine lv_iload_n hx hb dX_declarationAt_0 rfl (lv_at hl 1 rfl) ?_
  refine lv_if_lt (tgt := 25) hx hb dX_declarationAt_1 (by decide) (fun c1 => ?_) (fun c1 => ?_)
  · refine lv_iconst (v := 0) hx hb dX_declarationAt_25 (by decide) ?_
    refine lv_istore_n (lv' := [(2, .int 0), (0, .ref aX), (1, .int v)]) hx hb dX_declarationAt_26 rfl hl (by decide) rfl (fun ls hl => ?_)
    refine lv_iload_n hx hb dX_declarationAt_27 rfl (lv_at hl 0 rfl) ?_
    refine lv_if_eq (tgt := 40) hx hb dX_declarationAt_28 (by decide) (fun _ => ?_) (fun c2 => absurd c2 (by decide))
    refine lv_null hx hb dX_declarationAt_40 ?_
    exact x_qret (r := none) hx hb hr hlocks ⟨by simp [fDeclAt, c1], rfl⟩ hP hK hD hS dX_declarationAt_41
  · refine lv_iload_n hx hb dX_declarationAt_4 rfl (lv_at hl 1 rfl) ?_
    refine lv_aload_n hx hb dX_declarationAt_5 rfl (lv_at hl 0 rfl) ?_
    refine x_getX 3 hx hb hB inBX hown hK hP hR rfl (hB _ fl_X_59) rfl dX_declarationAt_6 ?_
    refine lv_icmp_ge (tgt := 25) hx hb dX_declarationAt_9 (by decide) (fun c3 => ?_) (fun c3 => ?_)
    · refine lv_iconst (v := 0) hx hb dX_declarationAt_25 (by decide) ?_
      refine lv_istore_n (lv' := [(2, .int 0), (0, .ref aX), (1, .int v)]) hx hb dX_declarationAt_26 rfl hl (by decide) rfl (fun ls hl => ?_)
      refine lv_iload_n hx hb dX_declarationAt_27 rfl (lv_at hl 0 rfl) ?_
      refine lv_if_eq (tgt := 40) hx hb dX_declarationAt_28 (by decide) (fun _ => ?_) (fun c4 => absurd c4 (by decide))
      refine lv_null hx hb dX_declarationAt_40 ?_
      exact x_qret (r := none) hx hb hr hlocks ⟨by simp [fDeclAt, c1, c3], rfl⟩ hP hK hD hS dX_declarationAt_41
    · refine lv_iload_n hx hb dX_declarationAt_12 rfl (lv_at hl 1 rfl) ?_
      refine lv_aload_n hx hb dX_declarationAt_13 rfl (lv_at hl 0 rfl) ?_
      refine x_getA2 hx hb hB inBX hown hK hP hR (hB _ fl_X_15) dX_declarationAt_14 ?_
      refine va_alen hx hb hK hP 2 1 hR.da rfl (v := 20) rfl dX_declarationAt_17 ?_
      refine lv_icmp_ge (tgt := 25) hx hb dX_declarationAt_18 (by decide) (fun c5 => ?_) (fun c5 => ?_)
      · refine lv_iconst (v := 0) hx hb dX_declarationAt_25 (by decide) ?_
        refine lv_istore_n (lv' := [(2, .int 0), (0, .ref aX), (1, .int v)]) hx hb dX_declarationAt_26 rfl hl (by decide) rfl (fun ls hl => ?_)
        refine lv_iload_n hx hb dX_declarationAt_27 rfl (lv_at hl 0 rfl) ?_
        refine lv_if_eq (tgt := 40) hx hb dX_declarationAt_28 (by decide) (fun _ => ?_) (fun c6 => absurd c6 (by decide))
        refine lv_null hx hb dX_declarationAt_40 ?_
        exact x_qret (r := none) hx hb hr hlocks ⟨by simp [fDeclAt, c1, c3, c5], rfl⟩ hP hK hD hS dX_declarationAt_41
      · refine lv_iconst (v := 1) hx hb dX_declarationAt_21 (by decide) ?_
        refine lv_goto (tgt := 26) hx hb dX_declarationAt_22 (by decide) ?_
        refine lv_istore_n (lv' := [(2, .int 1), (0, .ref aX), (1, .int v)]) hx hb dX_declarationAt_26 rfl hl (by decide) rfl (fun ls hl => ?_)
        refine lv_iload_n hx hb dX_declarationAt_27 rfl (lv_at hl 0 rfl) ?_
        refine lv_if_eq (tgt := 40) hx hb dX_declarationAt_28 (by decide) (fun c7 => absurd c7 (by decide)) (fun _ => ?_)
        refine lv_aload_n hx hb dX_declarationAt_31 rfl (lv_at hl 1 rfl) ?_
        refine x_getA2 hx hb hB inBX hown hK hP hR (hB _ fl_X_15) dX_declarationAt_32 ?_
        refine lv_iload_n hx hb dX_declarationAt_35 rfl (lv_at hl 2 rfl) ?_
        refine va_aldq hx hb hK hP 2 1 hR.da rfl (x_in rfl c1 c5) dX_declarationAt_36 ?_
        refine lv_goto (tgt := 41) hx hb dX_declarationAt_37 (by decide) ?_
        exact x_qret (r := rA dA nD v.toNatClampNeg) hx hb hr hlocks ⟨by have h9 := x_lt c1 (hg3 ▸ c3) (by omega); simp [fDeclAt, c1, c3, c5, rA, h9], rfl⟩ hP hK hD hS dX_declarationAt_41
set_option maxHeartbeats 4000000 in
set_option maxRecDepth 100000 in
theorem c_X_eventAt {l : Launch} {G : va_G} {cI cD cE : ClassId} {aX aR aD aE : Nat} {dA eA : Nat → Nat} {g ro : Nat → Int32} {fst : Option Nat} {nD nE : Nat} {d : Nat → Nat → Int32} {fw lw : Nat → Option Nat} {ed : Nat → Nat} {ev : Nat → Nat → Int32} {nx : Nat → Option Nat} {w : va_W} {sz : Nat} (hR : RX cI cD cE aX aR aD aE dA eA g ro fst nD nE d fw lw ed ev nx w) (hg5 : g 5 = nI nE) (hnE : nE ≤ 120) (v : Int32) : xMq l yX_eventAt wsX_eventAt ({ frames := 0, cells := 0, slots := 0, locals := 0 }) [.ref aX, .int v] G (xTys cI cD cE) w sz (fun r w' => r = (fEvAt g v).map eA ∧ w = w') 0 0 := by
  refine x_ofW (fun A => va_Qq (fun r w' => r = (fEvAt g v).map eA ∧ w = w') (xEnd G (xTys cI cD cE) A) A) cX_eventAt 3 (some (.object NmE)) (by decide) rfl (Nat.le_of_ble_eq_true rfl) ?_
  intro p e s m below meth c A ls hx hb hr hlocks hml hnm hown hB hA hP hK hD hS hl
  have hl : lv_has ls 3 [(0, .ref aX), (1, .int v)] := hl
  have hown : s.vm.findClass NmX = some m.cls := hown
  refine lv_iload_n hx hb dX_eventAt_0 rfl (lv_at hl 1 rfl) ?_
  refine lv_if_lt (tgt := 25) hx hb dX_eventAt_1 (by decide) (fun c1 => ?_) (fun c1 => ?_)
  · refine lv_iconst (v := 0) hx hb dX_eventAt_25 (by decide) ?_
    refine lv_istore_n (lv' := [(2, .int 0), (0, .ref aX), (1, .int v)]) hx hb dX_eventAt_26 rfl hl (by decide) rfl (fun ls hl => ?_)
    refine lv_iload_n hx hb dX_eventAt_27 rfl (lv_at hl 0 rfl) ?_
    refine lv_if_eq (tgt := 40) hx hb dX_eventAt_28 (by decide) (fun _ => ?_) (fun c2 => absurd c2 (by decide))
    refine lv_null hx hb dX_eventAt_40 ?_
    exact x_qret (r := none) hx hb hr hlocks ⟨by simp [fEvAt, c1], rfl⟩ hP hK hD hS dX_eventAt_41
  · refine lv_iload_n hx hb dX_eventAt_4 rfl (lv_at hl 1 rfl) ?_
    refine lv_aload_n hx hb dX_eventAt_5 rfl (lv_at hl 0 rfl) ?_
    refine x_getX 5 hx hb hB inBX hown hK hP hR rfl (hB _ fl_X_83) rfl dX_eventAt_6 ?_
    refine lv_icmp_ge (tgt := 25) hx hb dX_eventAt_9 (by decide) (fun c3 => ?_) (fun c3 => ?_)
    · refine lv_iconst (v := 0) hx hb dX_eventAt_25 (by decide) ?_
      refine lv_istore_n (lv' := [(2, .int 0), (0, .ref aX), (1, .int v)]) hx hb dX_eventAt_26 rfl hl (by decide) rfl (fun ls hl => ?_)
      refine lv_iload_n hx hb dX_eventAt_27 rfl (lv_at hl 0 rfl) ?_
      refine lv_if_eq (tgt := 40) hx hb dX_eventAt_28 (by decide) (fun _ => ?_) (fun c4 => absurd c4 (by decide))
      refine lv_null hx hb dX_eventAt_40 ?_
      exact x_qret (r := none) hx hb hr hlocks ⟨by simp [fEvAt, c1, c3], rfl⟩ hP hK hD hS dX_eventAt_41
    · refine lv_iload_n hx hb dX_eventAt_12 rfl (lv_at hl 1 rfl) ?_
      refine lv_aload_n hx hb dX_eventAt_13 rfl (lv_at hl 0 rfl) ?_
      refine x_getA4 hx hb hB inBX hown hK hP hR (hB _ fl_X_21) dX_eventAt_14 ?_
      refine va_alen hx hb hK hP 3 2 hR.ea rfl (v := 120) rfl dX_eventAt_17 ?_
      refine lv_icmp_ge (tgt := 25) hx hb dX_eventAt_18 (by decide) (fun c5 => ?_) (fun c5 => ?_)
      · refine lv_iconst (v := 0) hx hb dX_eventAt_25 (by decide) ?_
        refine lv_istore_n (lv' := [(2, .int 0), (0, .ref aX), (1, .int v)]) hx hb dX_eventAt_26 rfl hl (by decide) rfl (fun ls hl => ?_)
        refine lv_iload_n hx hb dX_eventAt_27 rfl (lv_at hl 0 rfl) ?_
        refine lv_if_eq (tgt := 40) hx hb dX_eventAt_28 (by decide) (fun _ => ?_) (fun c6 => absurd c6 (by decide))
        refine lv_null hx hb dX_eventAt_40 ?_
        exact x_qret (r := none) hx hb hr hlocks ⟨by simp [fEvAt, c1, c3, c5], rfl⟩ hP hK hD hS dX_eventAt_41
      · refine lv_iconst (v := 1) hx hb dX_eventAt_21 (by decide) ?_
        refine lv_goto (tgt := 26) hx hb dX_eventAt_22 (by decide) ?_
        refine lv_istore_n (lv' := [(2, .int 1), (0, .ref aX), (1, .int v)]) hx hb dX_eventAt_26 rfl hl (by decide) rfl (fun ls hl => ?_)
        refine lv_iload_n hx hb dX_eventAt_27 rfl (lv_at hl 0 rfl) ?_
        refine lv_if_eq (tgt := 40) hx hb dX_eventAt_28 (by decide) (fun c7 => absurd c7 (by decide)) (fun _ => ?_)
        refine lv_aload_n hx hb dX_eventAt_31 rfl (lv_at hl 1 rfl) ?_
        refine x_getA4 hx hb hB inBX hown hK hP hR (hB _ fl_X_21) dX_eventAt_32 ?_
        refine lv_iload_n hx hb dX_eventAt_35 rfl (lv_at hl 2 rfl) ?_
        refine va_aldq hx hb hK hP 3 2 hR.ea rfl (x_in rfl c1 c5) dX_eventAt_36 ?_
        refine lv_goto (tgt := 41) hx hb dX_eventAt_37 (by decide) ?_
        exact x_qret (r := rA eA nE v.toNatClampNeg) hx hb hr hlocks ⟨by have h9 := x_lt c1 (hg5 ▸ c3) (by omega); simp [fEvAt, c1, c3, c5, rA, h9], rfl⟩ hP hK hD hS dX_eventAt_41
set_option maxHeartbeats 4000000 in
set_option maxRecDepth 100000 in
theorem c_X_isFailing {l : Launch} {G : va_G} {cI cD cE : ClassId} {aX aR aD aE : Nat} {dA eA : Nat → Nat} {g ro : Nat → Int32} {fst : Option Nat} {nD nE : Nat} {d : Nat → Nat → Int32} {fw lw : Nat → Option Nat} {ed : Nat → Nat} {ev : Nat → Nat → Int32} {nx : Nat → Option Nat} {w : va_W} {sz : Nat} (hR : RX cI cD cE aX aR aD aE dA eA g ro fst nD nE d fw lw ed ev nx w) (v : Int32) : xMi l yX_isFailing wsX_isFailing ({ frames := 0, cells := 0, slots := 0, locals := 0 }) [.ref aX, .int v] G (xTys cI cD cE) w sz (fun r w' => r = fBit (g 11) v ∧ w = w') 0 0 := by
  refine x_ofW (fun A => va_Qi (fun r w' => r = fBit (g 11) v ∧ w = w') (xEnd G (xTys cI cD cE) A) A) cX_isFailing 2 (some .boolean) (by decide) rfl (Nat.le_of_ble_eq_true rfl) ?_
  intro p e s m below meth c A ls hx hb hr hlocks hml hnm hown hB hA hP hK hD hS hl
  have hl : lv_has ls 2 [(0, .ref aX), (1, .int v)] := hl
  have hown : s.vm.findClass NmX = some m.cls := hown
  refine lv_aload_n hx hb dX_isFailing_0 rfl (lv_at hl 0 rfl) ?_
  refine x_getX 11 hx hb hB inBX hown hK hP hR rfl (hB _ fl_X_116) rfl dX_isFailing_1 ?_
  refine lv_iconst (v := 1) hx hb dX_isFailing_4 (by decide) ?_
  refine lv_iload_n hx hb dX_isFailing_5 rfl (lv_at hl 1 rfl) ?_
  refine lv_ishl hx hb dX_isFailing_6 ?_
  refine lv_iand hx hb dX_isFailing_7 ?_
  refine lv_if_eq (tgt := 15) hx hb dX_isFailing_8 (by decide) (fun c1 => ?_) (fun c1 => ?_)
  · refine lv_iconst (v := 0) hx hb dX_isFailing_15 (by decide) ?_
    exact x_zret (v := 0) hx hb hr hlocks rfl ⟨by first | (simp [fBit, c1]; done) | simp_all [fBit], rfl⟩ hP hK hD hS dX_isFailing_16
  · refine lv_iconst (v := 1) hx hb dX_isFailing_11 (by decide) ?_
    refine lv_goto (tgt := 16) hx hb dX_isFailing_12 (by decide) ?_
    exact x_zret (v := 1) hx hb hr hlocks rfl ⟨by first | (simp [fBit, c1]; done) | simp_all [fBit], rfl⟩ hP hK hD hS dX_isFailing_16
set_option maxHeartbeats 4000000 in
set_option maxRecDepth 100000 in
theorem c_X_isOfficersAct {l : Launch} {G : va_G} {cI cD cE : ClassId} {aX aR aD aE : Nat} {dA eA : Nat → Nat} {g ro : Nat → Int32} {fst : Option Nat} {nD nE : Nat} {d : Nat → Nat → Int32} {fw lw : Nat → Option Nat} {ed : Nat → Nat} {ev : Nat → Nat → Int32} {nx : Nat → Option Nat} {w : va_W} {sz : Nat} (hR : RX cI cD cE aX aR aD aE dA eA g ro fst nD nE d fw lw ed ev nx w) (v : Int32) : xMi l yX_isOfficersAct wsX_isOfficersAct ({ frames := 0, cells := 0, slots := 0, locals := 0 }) [.int v] G (xTys cI cD cE) w sz (fun r w' => r = fOfficers v ∧ w = w') 0 0 := by
  refine x_ofW (fun A => va_Qi (fun r w' => r = fOfficers v ∧ w = w') (xEnd G (xTys cI cD cE) A) A) cX_isOfficersAct 1 (some .boolean) (by decide) rfl (Nat.le_of_ble_eq_true rfl) ?_
  intro p e s m below meth c A ls hx hb hr hlocks hml hnm hown hB hA hP hK hD hS hl
  have hl : lv_has ls 1 [(0, .int v)] := hl
  have hown : s.vm.findClass NmX = some m.cls := hown
  refine lv_iload_n hx hb dX_isOfficersAct_0 rfl (lv_at hl 0 rfl) ?_
  refine lv_iconst (v := 2) hx hb dX_isOfficersAct_1 (by decide) ?_
  refine lv_icmp_lt (tgt := 10) hx hb dX_isOfficersAct_2 (by decide) (fun c1 => ?_) (fun c1 => ?_)
  · refine lv_iload_n hx hb dX_isOfficersAct_10 rfl (lv_at hl 0 rfl) ?_
    refine lv_bipush (v := 8) hx hb dX_isOfficersAct_11 (by decide) ?_
    refine lv_icmp_ne (tgt := 20) hx hb dX_isOfficersAct_13 (by decide) (fun c2 => ?_) (fun c2 => ?_)
    · refine lv_iconst (v := 0) hx hb dX_isOfficersAct_20 (by decide) ?_
      exact x_zret (v := 0) hx hb hr hlocks rfl ⟨by first | (simp [fOfficers, c1, c2]; done) | simp_all [fOfficers], rfl⟩ hP hK hD hS dX_isOfficersAct_21
    · refine lv_iconst (v := 1) hx hb dX_isOfficersAct_16 (by decide) ?_
      refine lv_goto (tgt := 21) hx hb dX_isOfficersAct_17 (by decide) ?_
      exact x_zret (v := 1) hx hb hr hlocks rfl ⟨by first | (simp [fOfficers, c1, c2]; done) | simp_all [fOfficers], rfl⟩ hP hK hD hS dX_isOfficersAct_21
  · refine lv_iload_n hx hb dX_isOfficersAct_5 rfl (lv_at hl 0 rfl) ?_
    refine lv_iconst (v := 5) hx hb dX_isOfficersAct_6 (by decide) ?_
    refine lv_icmp_le (tgt := 16) hx hb dX_isOfficersAct_7 (by decide) (fun c3 => ?_) (fun c3 => ?_)
    · refine lv_iconst (v := 1) hx hb dX_isOfficersAct_16 (by decide) ?_
      refine lv_goto (tgt := 21) hx hb dX_isOfficersAct_17 (by decide) ?_
      exact x_zret (v := 1) hx hb hr hlocks rfl ⟨by first | (simp [fOfficers, c1, c3]; done) | simp_all [fOfficers], rfl⟩ hP hK hD hS dX_isOfficersAct_21
    · refine lv_iload_n hx hb dX_isOfficersAct_10 rfl (lv_at hl 0 rfl) ?_
      refine lv_bipush (v := 8) hx hb dX_isOfficersAct_11 (by decide) ?_
      refine lv_icmp_ne (tgt := 20) hx hb dX_isOfficersAct_13 (by decide) (fun c4 => ?_) (fun c4 => ?_)
      · refine lv_iconst (v := 0) hx hb dX_isOfficersAct_20 (by decide) ?_
        exact x_zret (v := 0) hx hb hr hlocks rfl ⟨by first | (simp [fOfficers, c1, c3, c4]; done) | simp_all [fOfficers], rfl⟩ hP hK hD hS dX_isOfficersAct_21
      · refine lv_iconst (v := 1) hx hb dX_isOfficersAct_16 (by decide) ?_
        refine lv_goto (tgt := 21) hx hb dX_isOfficersAct_17 (by decide) ?_
        exact x_zret (v := 1) hx hb hr hlocks rfl ⟨by first | (simp [fOfficers, c1, c3, c4]; done) | simp_all [fOfficers], rfl⟩ hP hK hD hS dX_isOfficersAct_21
set_option maxHeartbeats 4000000 in
set_option maxRecDepth 100000 in
theorem c_X_isOpenAt {l : Launch} {G : va_G} {cI cD cE : ClassId} {aX aR aD aE : Nat} {dA eA : Nat → Nat} {g ro : Nat → Int32} {fst : Option Nat} {nD nE : Nat} {d : Nat → Nat → Int32} {fw lw : Nat → Option Nat} {ed : Nat → Nat} {ev : Nat → Nat → Int32} {nx : Nat → Option Nat} {w : va_W} {sz : Nat} (hR : RX cI cD cE aX aR aD aE dA eA g ro fst nD nE d fw lw ed ev nx w) (v : Int32) : xMi l yX_isOpenAt wsX_isOpenAt ({ frames := 0, cells := 0, slots := 0, locals := 0 }) [.ref aX, .int v] G (xTys cI cD cE) w sz (fun r w' => r = fOpen g v ∧ w = w') 0 0 := by
  refine x_ofW (fun A => va_Qi (fun r w' => r = fOpen g v ∧ w = w') (xEnd G (xTys cI cD cE) A) A) cX_isOpenAt 3 (some .boolean) (by decide) rfl (Nat.le_of_ble_eq_true rfl) ?_
  intro p e s m below meth c A ls hx hb hr hlocks hml hnm hown hB hA hP hK hD hS hl
  have hl : lv_has ls 3 [(0, .ref aX), (1, .int v)] := hl
  have hown : s.vm.findClass NmX = some m.cls := hown
  refine lv_iload_n hx hb dX_isOpenAt_0 rfl (lv_at hl 1 rfl) ?_
  refine lv_bipush (v := 24) hx hb dX_isOpenAt_1 (by decide) ?_
  refine lv_irem hx hb dX_isOpenAt_3 (by decide) ?_
  refine lv_istore_n (lv' := [(2, .int (v - v / 24 * 24)), (0, .ref aX), (1, .int v)]) hx hb dX_isOpenAt_4 rfl hl (by decide) rfl (fun ls hl => ?_)
  refine lv_iload_n hx hb dX_isOpenAt_5 rfl (lv_at hl 0 rfl) ?_
  refine lv_aload_n hx hb dX_isOpenAt_6 rfl (lv_at hl 1 rfl) ?_
  refine x_getX 9 hx hb hB inBX hown hK hP hR rfl (hB _ fl_X_25) rfl dX_isOpenAt_7 ?_
  refine lv_icmp_lt (tgt := 25) hx hb dX_isOpenAt_10 (by decide) (fun c1 => ?_) (fun c1 => ?_)
  · refine lv_iconst (v := 0) hx hb dX_isOpenAt_25 (by decide) ?_
    exact x_zret (v := 0) hx hb hr hlocks rfl ⟨by first | (simp [fOpen, c1]; done) | simp_all [fOpen], rfl⟩ hP hK hD hS dX_isOpenAt_26
  · refine lv_iload_n hx hb dX_isOpenAt_13 rfl (lv_at hl 0 rfl) ?_
    refine lv_aload_n hx hb dX_isOpenAt_14 rfl (lv_at hl 1 rfl) ?_
    refine x_getX 10 hx hb hB inBX hown hK hP hR rfl (hB _ fl_X_29) rfl dX_isOpenAt_15 ?_
    refine lv_icmp_ge (tgt := 25) hx hb dX_isOpenAt_18 (by decide) (fun c2 => ?_) (fun c2 => ?_)
    · refine lv_iconst (v := 0) hx hb dX_isOpenAt_25 (by decide) ?_
      exact x_zret (v := 0) hx hb hr hlocks rfl ⟨by first | (simp [fOpen, c1, c2]; done) | simp_all [fOpen], rfl⟩ hP hK hD hS dX_isOpenAt_26
    · refine lv_iconst (v := 1) hx hb dX_isOpenAt_21 (by decide) ?_
      refine lv_goto (tgt := 26) hx hb dX_isOpenAt_22 (by decide) ?_
      exact x_zret (v := 1) hx hb hr hlocks rfl ⟨by first | (simp [fOpen, c1, c2]; done) | simp_all [fOpen], rfl⟩ hP hK hD hS dX_isOpenAt_26
end
section
set_option maxHeartbeats 4000000 in
set_option maxRecDepth 100000 in
theorem c_X_mayTell {l : Launch} {G : va_G} {cI cD cE : ClassId} {aX aR aD aE : Nat} {dA eA : Nat → Nat} {g ro : Nat → Int32} {fst : Option Nat} {nD nE : Nat} {d : Nat → Nat → Int32} {fw lw : Nat → Option Nat} {ed : Nat → Nat} {ev : Nat → Nat → Int32} {nx : Nat → Option Nat} {w : va_W} {sz : Nat} (hR : RX cI cD cE aX aR aD aE dA eA g ro fst nD nE d fw lw ed ev nx w) {k : Nat} (hk : k < nE) : xMi l yX_mayTell wsX_mayTell ({ frames := 2, cells := 0, slots := 0, locals := 42 }) [.ref aX, .ref (eA k)] G (xTys cI cD cE) w sz (fun r w' => r = fMayTell g ro (d (ed k)) (ev k) ∧ w = w') 0 0 := by
  refine x_ofW (fun A => va_Qi (fun r w' => r = fMayTell g ro (d (ed k)) (ev k) ∧ w = w') (xEnd G (xTys cI cD cE) A) A) cX_mayTell 3 (some .boolean) (by decide) rfl (Nat.le_of_ble_eq_true rfl) ?_
  intro p e s m below meth c A ls hx hb hr hlocks hml hnm hown hB hA hP hK hD hS hl
  have hl : lv_has ls 3 [(0, .ref aX), (1, .ref (eA k))] := hl
  have hown : s.vm.findClass NmX = some m.cls := hown
  refine lv_aload_n hx hb dX_mayTell_0 rfl (lv_at hl 0 rfl) ?_
  refine lv_aload_n hx hb dX_mayTell_1 rfl (lv_at hl 1 rfl) ?_
  refine x_getE 2 hk hx hb hB inBE hown hK hP hR (by decide) (by decide) (hB _ fl_X_197) rfl dX_mayTell_2 ?_
  refine x_calli (va_runV (As := [.int (ev k 2)]) (rest := []) ⟨hx, hb, hml, hown, hB⟩ (c_X_roleOf hR (ev k 2)) (cwV 1 hB (gV ml_X_53 im_X_roleOf sl_X_roleOf ini_X kc_X_roleOf) rfl rfl rfl (by decide +kernel) ⟨Nat.le_of_ble_eq_true rfl, Nat.le_of_ble_eq_true rfl⟩) (x_preV hP hK hD hR.x rfl) rfl rfl hl.1 rfl (lv_room (Nat.le_of_ble_eq_true rfl)) dX_mayTell_5 ⟨Nat.le_of_ble_eq_true rfl, Nat.le_of_ble_eq_true rfl⟩) hD hS hA (fun r1 w H locs hw hP hD hS => ?_)
  obtain ⟨e2, rfl⟩ := hw
  refine lv_istore_n (lv' := [(2, .int r1), (0, .ref aX), (1, .ref (eA k))]) hx hb dX_mayTell_8 rfl hl (by decide) rfl (fun ls hl => ?_)
  refine lv_aload_n hx hb dX_mayTell_9 rfl (lv_at hl 2 rfl) ?_
  refine x_getE 1 hk hx hb hB inBE hown hK hP hR (by decide) (by decide) (hB _ fl_X_184) rfl dX_mayTell_10 ?_
  rcases x_sw0_9 (ev k 1) with h3 | h4 | h5 | h6 | h7 | h8 | h9 | h10 | h11 | h12 | h13
  · refine lv_tableIn (tgt := 68) hx hb dX_mayTell_13 (by rw [h3]; decide) (by rw [h3]; decide) (by rw [h3]; rfl) (by decide) ?_
    refine lv_aload_n hx hb dX_mayTell_68 rfl (lv_at hl 2 rfl) ?_
    refine x_getE 2 hk hx hb hB inBE hown hK hP hR (by decide) (by decide) (hB _ fl_X_197) rfl dX_mayTell_69 ?_
    refine lv_aload_n hx hb dX_mayTell_72 rfl (lv_at hl 2 rfl) ?_
    refine x_getE0 hk hx hb hB inBE hown hK hP hR (hB _ fl_X_190) dX_mayTell_73 ?_
    refine x_getD 2 (hR.ok.2.2 _ hk).1 hx hb hB inBD hown hK hP hR (by decide) (hB _ fl_X_157) rfl dX_mayTell_76 ?_
    refine lv_icmp_ne (tgt := 86) hx hb dX_mayTell_79 (by decide) (fun c14 => ?_) (fun c14 => ?_)
    · refine lv_iconst (v := 0) hx hb dX_mayTell_86 (by decide) ?_
      exact x_zret (v := 0) hx hb hr hlocks rfl ⟨(by subst e2; first | (simp [fMayTell, h3, c14]; done) | (simp_all [fMayTell]; done)), rfl⟩ hP hK hD hS dX_mayTell_87
    · refine lv_iconst (v := 1) hx hb dX_mayTell_82 (by decide) ?_
      refine lv_goto (tgt := 87) hx hb dX_mayTell_83 (by decide) ?_
      exact x_zret (v := 1) hx hb hr hlocks rfl ⟨(by subst e2; first | (simp [fMayTell, h3, c14]; done) | (simp_all [fMayTell]; done)), rfl⟩ hP hK hD hS dX_mayTell_87
  · refine lv_tableIn (tgt := 88) hx hb dX_mayTell_13 (by rw [h4]; decide) (by rw [h4]; decide) (by rw [h4]; rfl) (by decide) ?_
    refine lv_iload_n hx hb dX_mayTell_88 rfl (lv_at hl 0 rfl) ?_
    refine lv_if_eq (tgt := 97) hx hb dX_mayTell_89 (by decide) (fun c15 => ?_) (fun c15 => ?_)
    · refine lv_iconst (v := 1) hx hb dX_mayTell_97 (by decide) ?_
      refine lv_goto (tgt := 102) hx hb dX_mayTell_98 (by decide) ?_
      exact x_zret (v := 1) hx hb hr hlocks rfl ⟨(by subst e2; first | (simp [fMayTell, h4, c15]; done) | (simp_all [fMayTell]; done)), rfl⟩ hP hK hD hS dX_mayTell_102
    · refine lv_iload_n hx hb dX_mayTell_92 rfl (lv_at hl 0 rfl) ?_
      refine lv_iconst (v := 2) hx hb dX_mayTell_93 (by decide) ?_
      refine lv_icmp_ne (tgt := 101) hx hb dX_mayTell_94 (by decide) (fun c16 => ?_) (fun c16 => ?_)
      · refine lv_iconst (v := 0) hx hb dX_mayTell_101 (by decide) ?_
        exact x_zret (v := 0) hx hb hr hlocks rfl ⟨(by subst e2; first | (simp [fMayTell, h4, c15, c16]; done) | (simp_all [fMayTell]; done)), rfl⟩ hP hK hD hS dX_mayTell_102
      · refine lv_iconst (v := 1) hx hb dX_mayTell_97 (by decide) ?_
        refine lv_goto (tgt := 102) hx hb dX_mayTell_98 (by decide) ?_
        exact x_zret (v := 1) hx hb hr hlocks rfl ⟨(by subst e2; first | (simp [fMayTell, h4, c15, c16]; done) | (simp_all [fMayTell]; done)), rfl⟩ hP hK hD hS dX_mayTell_102
  · refine lv_tableIn (tgt := 114) hx hb dX_mayTell_13 (by rw [h5]; decide) (by rw [h5]; decide) (by rw [h5]; rfl) (by decide) ?_
    refine lv_iload_n hx hb dX_mayTell_114 rfl (lv_at hl 0 rfl) ?_
    refine lv_iconst (v := 1) hx hb dX_mayTell_115 (by decide) ?_
    refine lv_icmp_ne (tgt := 123) hx hb dX_mayTell_116 (by decide) (fun c17 => ?_) (fun c17 => ?_)
    · refine lv_iconst (v := 0) hx hb dX_mayTell_123 (by decide) ?_
      exact x_zret (v := 0) hx hb hr hlocks rfl ⟨(by subst e2; first | (simp [fMayTell, h5, c17]; done) | (simp_all [fMayTell]; done)), rfl⟩ hP hK hD hS dX_mayTell_124
    · refine lv_iconst (v := 1) hx hb dX_mayTell_119 (by decide) ?_
      refine lv_goto (tgt := 124) hx hb dX_mayTell_120 (by decide) ?_
      exact x_zret (v := 1) hx hb hr hlocks rfl ⟨(by subst e2; first | (simp [fMayTell, h5, c17]; done) | (simp_all [fMayTell]; done)), rfl⟩ hP hK hD hS dX_mayTell_124
  · refine lv_tableIn (tgt := 114) hx hb dX_mayTell_13 (by rw [h6]; decide) (by rw [h6]; decide) (by rw [h6]; rfl) (by decide) ?_
    refine lv_iload_n hx hb dX_mayTell_114 rfl (lv_at hl 0 rfl) ?_
    refine lv_iconst (v := 1) hx hb dX_mayTell_115 (by decide) ?_
    refine lv_icmp_ne (tgt := 123) hx hb dX_mayTell_116 (by decide) (fun c18 => ?_) (fun c18 => ?_)
    · refine lv_iconst (v := 0) hx hb dX_mayTell_123 (by decide) ?_
      exact x_zret (v := 0) hx hb hr hlocks rfl ⟨(by subst e2; first | (simp [fMayTell, h6, c18]; done) | (simp_all [fMayTell]; done)), rfl⟩ hP hK hD hS dX_mayTell_124
    · refine lv_iconst (v := 1) hx hb dX_mayTell_119 (by decide) ?_
      refine lv_goto (tgt := 124) hx hb dX_mayTell_120 (by decide) ?_
      exact x_zret (v := 1) hx hb hr hlocks rfl ⟨(by subst e2; first | (simp [fMayTell, h6, c18]; done) | (simp_all [fMayTell]; done)), rfl⟩ hP hK hD hS dX_mayTell_124
  · refine lv_tableIn (tgt := 114) hx hb dX_mayTell_13 (by rw [h7]; decide) (by rw [h7]; decide) (by rw [h7]; rfl) (by decide) ?_
    refine lv_iload_n hx hb dX_mayTell_114 rfl (lv_at hl 0 rfl) ?_
    refine lv_iconst (v := 1) hx hb dX_mayTell_115 (by decide) ?_
    refine lv_icmp_ne (tgt := 123) hx hb dX_mayTell_116 (by decide) (fun c19 => ?_) (fun c19 => ?_)
    · refine lv_iconst (v := 0) hx hb dX_mayTell_123 (by decide) ?_
      exact x_zret (v := 0) hx hb hr hlocks rfl ⟨(by subst e2; first | (simp [fMayTell, h7, c19]; done) | (simp_all [fMayTell]; done)), rfl⟩ hP hK hD hS dX_mayTell_124
    · refine lv_iconst (v := 1) hx hb dX_mayTell_119 (by decide) ?_
      refine lv_goto (tgt := 124) hx hb dX_mayTell_120 (by decide) ?_
      exact x_zret (v := 1) hx hb hr hlocks rfl ⟨(by subst e2; first | (simp [fMayTell, h7, c19]; done) | (simp_all [fMayTell]; done)), rfl⟩ hP hK hD hS dX_mayTell_124
  · refine lv_tableIn (tgt := 114) hx hb dX_mayTell_13 (by rw [h8]; decide) (by rw [h8]; decide) (by rw [h8]; rfl) (by decide) ?_
    refine lv_iload_n hx hb dX_mayTell_114 rfl (lv_at hl 0 rfl) ?_
    refine lv_iconst (v := 1) hx hb dX_mayTell_115 (by decide) ?_
    refine lv_icmp_ne (tgt := 123) hx hb dX_mayTell_116 (by decide) (fun c20 => ?_) (fun c20 => ?_)
    · refine lv_iconst (v := 0) hx hb dX_mayTell_123 (by decide) ?_
      exact x_zret (v := 0) hx hb hr hlocks rfl ⟨(by subst e2; first | (simp [fMayTell, h8, c20]; done) | (simp_all [fMayTell]; done)), rfl⟩ hP hK hD hS dX_mayTell_124
    · refine lv_iconst (v := 1) hx hb dX_mayTell_119 (by decide) ?_
      refine lv_goto (tgt := 124) hx hb dX_mayTell_120 (by decide) ?_
      exact x_zret (v := 1) hx hb hr hlocks rfl ⟨(by subst e2; first | (simp [fMayTell, h8, c20]; done) | (simp_all [fMayTell]; done)), rfl⟩ hP hK hD hS dX_mayTell_124
  · refine lv_tableIn (tgt := 68) hx hb dX_mayTell_13 (by rw [h9]; decide) (by rw [h9]; decide) (by rw [h9]; rfl) (by decide) ?_
    refine lv_aload_n hx hb dX_mayTell_68 rfl (lv_at hl 2 rfl) ?_
    refine x_getE 2 hk hx hb hB inBE hown hK hP hR (by decide) (by decide) (hB _ fl_X_197) rfl dX_mayTell_69 ?_
    refine lv_aload_n hx hb dX_mayTell_72 rfl (lv_at hl 2 rfl) ?_
    refine x_getE0 hk hx hb hB inBE hown hK hP hR (hB _ fl_X_190) dX_mayTell_73 ?_
    refine x_getD 2 (hR.ok.2.2 _ hk).1 hx hb hB inBD hown hK hP hR (by decide) (hB _ fl_X_157) rfl dX_mayTell_76 ?_
    refine lv_icmp_ne (tgt := 86) hx hb dX_mayTell_79 (by decide) (fun c21 => ?_) (fun c21 => ?_)
    · refine lv_iconst (v := 0) hx hb dX_mayTell_86 (by decide) ?_
      exact x_zret (v := 0) hx hb hr hlocks rfl ⟨(by subst e2; first | (simp [fMayTell, h9, c21]; done) | (simp_all [fMayTell]; done)), rfl⟩ hP hK hD hS dX_mayTell_87
    · refine lv_iconst (v := 1) hx hb dX_mayTell_82 (by decide) ?_
      refine lv_goto (tgt := 87) hx hb dX_mayTell_83 (by decide) ?_
      exact x_zret (v := 1) hx hb hr hlocks rfl ⟨(by subst e2; first | (simp [fMayTell, h9, c21]; done) | (simp_all [fMayTell]; done)), rfl⟩ hP hK hD hS dX_mayTell_87
  · refine lv_tableIn (tgt := 103) hx hb dX_mayTell_13 (by rw [h10]; decide) (by rw [h10]; decide) (by rw [h10]; rfl) (by decide) ?_
    refine lv_iload_n hx hb dX_mayTell_103 rfl (lv_at hl 0 rfl) ?_
    refine lv_iconst (v := 2) hx hb dX_mayTell_104 (by decide) ?_
    refine lv_icmp_ne (tgt := 112) hx hb dX_mayTell_105 (by decide) (fun c22 => ?_) (fun c22 => ?_)
    · refine lv_iconst (v := 0) hx hb dX_mayTell_112 (by decide) ?_
      exact x_zret (v := 0) hx hb hr hlocks rfl ⟨(by subst e2; first | (simp [fMayTell, h10, c22]; done) | (simp_all [fMayTell]; done)), rfl⟩ hP hK hD hS dX_mayTell_113
    · refine lv_iconst (v := 1) hx hb dX_mayTell_108 (by decide) ?_
      refine lv_goto (tgt := 113) hx hb dX_mayTell_109 (by decide) ?_
      exact x_zret (v := 1) hx hb hr hlocks rfl ⟨(by subst e2; first | (simp [fMayTell, h10, c22]; done) | (simp_all [fMayTell]; done)), rfl⟩ hP hK hD hS dX_mayTell_113
  · refine lv_tableIn (tgt := 114) hx hb dX_mayTell_13 (by rw [h11]; decide) (by rw [h11]; decide) (by rw [h11]; rfl) (by decide) ?_
    refine lv_iload_n hx hb dX_mayTell_114 rfl (lv_at hl 0 rfl) ?_
    refine lv_iconst (v := 1) hx hb dX_mayTell_115 (by decide) ?_
    refine lv_icmp_ne (tgt := 123) hx hb dX_mayTell_116 (by decide) (fun c23 => ?_) (fun c23 => ?_)
    · refine lv_iconst (v := 0) hx hb dX_mayTell_123 (by decide) ?_
      exact x_zret (v := 0) hx hb hr hlocks rfl ⟨(by subst e2; first | (simp [fMayTell, h11, c23]; done) | (simp_all [fMayTell]; done)), rfl⟩ hP hK hD hS dX_mayTell_124
    · refine lv_iconst (v := 1) hx hb dX_mayTell_119 (by decide) ?_
      refine lv_goto (tgt := 124) hx hb dX_mayTell_120 (by decide) ?_
      exact x_zret (v := 1) hx hb hr hlocks rfl ⟨(by subst e2; first | (simp [fMayTell, h11, c23]; done) | (simp_all [fMayTell]; done)), rfl⟩ hP hK hD hS dX_mayTell_124
  · refine lv_tableIn (tgt := 68) hx hb dX_mayTell_13 (by rw [h12]; decide) (by rw [h12]; decide) (by rw [h12]; rfl) (by decide) ?_
    refine lv_aload_n hx hb dX_mayTell_68 rfl (lv_at hl 2 rfl) ?_
    refine x_getE 2 hk hx hb hB inBE hown hK hP hR (by decide) (by decide) (hB _ fl_X_197) rfl dX_mayTell_69 ?_
    refine lv_aload_n hx hb dX_mayTell_72 rfl (lv_at hl 2 rfl) ?_
    refine x_getE0 hk hx hb hB inBE hown hK hP hR (hB _ fl_X_190) dX_mayTell_73 ?_
    refine x_getD 2 (hR.ok.2.2 _ hk).1 hx hb hB inBD hown hK hP hR (by decide) (hB _ fl_X_157) rfl dX_mayTell_76 ?_
    refine lv_icmp_ne (tgt := 86) hx hb dX_mayTell_79 (by decide) (fun c24 => ?_) (fun c24 => ?_)
    · refine lv_iconst (v := 0) hx hb dX_mayTell_86 (by decide) ?_
      exact x_zret (v := 0) hx hb hr hlocks rfl ⟨(by subst e2; first | (simp [fMayTell, h12, c24]; done) | (simp_all [fMayTell]; done)), rfl⟩ hP hK hD hS dX_mayTell_87
    · refine lv_iconst (v := 1) hx hb dX_mayTell_82 (by decide) ?_
      refine lv_goto (tgt := 87) hx hb dX_mayTell_83 (by decide) ?_
      exact x_zret (v := 1) hx hb hr hlocks rfl ⟨(by subst e2; first | (simp [fMayTell, h12, c24]; done) | (simp_all [fMayTell]; done)), rfl⟩ hP hK hD hS dX_mayTell_87
  · refine lv_tableOut (tgt := 114) hx hb dX_mayTell_13 h13.1 (by decide) ?_
    refine lv_iload_n hx hb dX_mayTell_114 rfl (lv_at hl 0 rfl) ?_
    refine lv_iconst (v := 1) hx hb dX_mayTell_115 (by decide) ?_
    refine lv_icmp_ne (tgt := 123) hx hb dX_mayTell_116 (by decide) (fun c25 => ?_) (fun c25 => ?_)
    · refine lv_iconst (v := 0) hx hb dX_mayTell_123 (by decide) ?_
      exact x_zret (v := 0) hx hb hr hlocks rfl ⟨(by subst e2; first | (simp [fMayTell, h13.2, c25]; done) | (simp_all [fMayTell]; done)), rfl⟩ hP hK hD hS dX_mayTell_124
    · refine lv_iconst (v := 1) hx hb dX_mayTell_119 (by decide) ?_
      refine lv_goto (tgt := 124) hx hb dX_mayTell_120 (by decide) ?_
      exact x_zret (v := 1) hx hb hr hlocks rfl ⟨(by subst e2; first | (simp [fMayTell, h13.2, c25]; done) | (simp_all [fMayTell]; done)), rfl⟩ hP hK hD hS dX_mayTell_124
set_option maxHeartbeats 4000000 in
set_option maxRecDepth 100000 in
theorem c_X_refusalOf {l : Launch} {G : va_G} {cI cD cE : ClassId} {aX aR aD aE : Nat} {dA eA : Nat → Nat} {g ro : Nat → Int32} {fst : Option Nat} {nD nE : Nat} {d : Nat → Nat → Int32} {fw lw : Nat → Option Nat} {ed : Nat → Nat} {ev : Nat → Nat → Int32} {nx : Nat → Option Nat} {w : va_W} {sz : Nat} (hR : RX cI cD cE aX aR aD aE dA eA g ro fst nD nE d fw lw ed ev nx w) {k : Nat} (hk : k < nE) : xMi l yX_refusalOf wsX_refusalOf ({ frames := 3, cells := 0, slots := 0, locals := 64 }) [.ref aX, .ref (eA k)] G (xTys cI cD cE) w sz (fun r w' => r = fRefusal g ro (d (ed k)) (ev k) ∧ w = w') 0 0 := by
  refine x_ofW (fun A => va_Qi (fun r w' => r = fRefusal g ro (d (ed k)) (ev k) ∧ w = w') (xEnd G (xTys cI cD cE) A) A) cX_refusalOf 2 (some .int) (by decide) rfl (Nat.le_of_ble_eq_true rfl) ?_
  intro p e s m below meth c A ls hx hb hr hlocks hml hnm hown hB hA hP hK hD hS hl
  have hl : lv_has ls 2 [(0, .ref aX), (1, .ref (eA k))] := hl
  have hown : s.vm.findClass NmX = some m.cls := hown
  refine lv_aload_n hx hb dX_refusalOf_0 rfl (lv_at hl 0 rfl) ?_
  refine lv_aload_n hx hb dX_refusalOf_1 rfl (lv_at hl 1 rfl) ?_
  refine x_getE 1 hk hx hb hB inBE hown hK hP hR (by decide) (by decide) (hB _ fl_X_184) rfl dX_refusalOf_2 ?_
  refine x_calli (va_runV (As := [.int (ev k 1)]) (rest := []) ⟨hx, hb, hml, hown, hB⟩ (c_X_isFailing hR (ev k 1)) (cwV 1 hB (gV ml_X_113 im_X_isFailing sl_X_isFailing ini_X kc_X_isFailing) rfl rfl rfl (by decide +kernel) ⟨Nat.le_of_ble_eq_true rfl, Nat.le_of_ble_eq_true rfl⟩) (x_preV hP hK hD hR.x rfl) rfl rfl hl.1 rfl (lv_room (Nat.le_of_ble_eq_true rfl)) dX_refusalOf_5 ⟨Nat.le_of_ble_eq_true rfl, Nat.le_of_ble_eq_true rfl⟩) hD hS hA (fun r1 w H locs hw hP hD hS => ?_)
  obtain ⟨e2, rfl⟩ := hw
  refine lv_if_eq (tgt := 13) hx hb dX_refusalOf_8 (by decide) (fun c3 => ?_) (fun c3 => ?_)
  · refine lv_aload_n hx hb dX_refusalOf_13 rfl (lv_at hl 0 rfl) ?_
    refine lv_aload_n hx hb dX_refusalOf_14 rfl (lv_at hl 1 rfl) ?_
    refine x_calli (va_runV (As := [.ref (eA k)]) (rest := []) ⟨hx, hb, hml, hown, hB⟩ (c_X_mayTell hR hk) (cwV 1 hB (gV ml_X_221 im_X_mayTell sl_X_mayTell ini_X kc_X_mayTell) rfl rfl rfl (by decide +kernel) ⟨Nat.le_of_ble_eq_true rfl, Nat.le_of_ble_eq_true rfl⟩) (x_preV hP hK hD hR.x rfl) rfl rfl hl.1 rfl (lv_room (Nat.le_of_ble_eq_true rfl)) dX_refusalOf_15 ⟨Nat.le_of_ble_eq_true rfl, Nat.le_of_ble_eq_true rfl⟩) hD hS hA (fun r4 w H locs hw hP hD hS => ?_)
    obtain ⟨e5, rfl⟩ := hw
    refine lv_if_ne (tgt := 23) hx hb dX_refusalOf_18 (by decide) (fun c6 => ?_) (fun c6 => ?_)
    · refine lv_aload_n hx hb dX_refusalOf_23 rfl (lv_at hl 1 rfl) ?_
      refine x_getE 1 hk hx hb hB inBE hown hK hP hR (by decide) (by decide) (hB _ fl_X_184) rfl dX_refusalOf_24 ?_
      refine x_calli (va_runS (As := [.int (ev k 1)]) (rest := []) ⟨hx, hb, hml, hown, hB⟩ (c_X_isOfficersAct hR (ev k 1)) (va_cwS 1 hB (gS ml_X_224 sm_X_isOfficersAct ini_X kc_X_isOfficersAct) rfl rfl rfl (by decide +kernel) ⟨Nat.le_of_ble_eq_true rfl, Nat.le_of_ble_eq_true rfl⟩) (x_preS hP hK hD) rfl rfl hl.1 rfl (lv_room (Nat.le_of_ble_eq_true rfl)) dX_refusalOf_27 ⟨Nat.le_of_ble_eq_true rfl, Nat.le_of_ble_eq_true rfl⟩) hD hS hA (fun r7 w H locs hw hP hD hS => ?_)
      obtain ⟨e8, rfl⟩ := hw
      refine lv_if_eq (tgt := 46) hx hb dX_refusalOf_30 (by decide) (fun c9 => ?_) (fun c9 => ?_)
      · refine lv_aload_n hx hb dX_refusalOf_46 rfl (lv_at hl 1 rfl) ?_
        refine x_getE0 hk hx hb hB inBE hown hK hP hR (hB _ fl_X_190) dX_refusalOf_47 ?_
        refine lv_aload_n hx hb dX_refusalOf_50 rfl (lv_at hl 1 rfl) ?_
        refine x_getE 1 hk hx hb hB inBE hown hK hP hR (by decide) (by decide) (hB _ fl_X_184) rfl dX_refusalOf_51 ?_
        obtain ⟨_, hq10⟩ := hR.dc (hR.ok.2.2 _ hk).1
        refine x_calli (va_runV (As := [.int (ev k 1)]) (rest := []) ⟨hx, hb, hml, hown, hB⟩ (c_D_stateAllows hR (hR.ok.2.2 _ hk).1 (ev k 1)) (cwV 1 hB (gV ml_X_230 im_D_stateAllows sl_D_stateAllows ini_D kc_D_stateAllows) rfl rfl rfl (by decide +kernel) ⟨Nat.le_of_ble_eq_true rfl, Nat.le_of_ble_eq_true rfl⟩) (x_preV hP hK hD hq10 rfl) rfl rfl hl.1 rfl (lv_room (Nat.le_of_ble_eq_true rfl)) dX_refusalOf_54 ⟨Nat.le_of_ble_eq_true rfl, Nat.le_of_ble_eq_true rfl⟩) hD hS hA (fun r11 w H locs hw hP hD hS => ?_)
        obtain ⟨e12, rfl⟩ := hw
        refine lv_if_ne (tgt := 62) hx hb dX_refusalOf_57 (by decide) (fun c13 => ?_) (fun c13 => ?_)
        · refine lv_aload_n hx hb dX_refusalOf_62 rfl (lv_at hl 1 rfl) ?_
          refine x_getE0 hk hx hb hB inBE hown hK hP hR (hB _ fl_X_190) dX_refusalOf_63 ?_
          refine lv_aload_n hx hb dX_refusalOf_66 rfl (lv_at hl 1 rfl) ?_
          refine x_getE 1 hk hx hb hB inBE hown hK hP hR (by decide) (by decide) (hB _ fl_X_184) rfl dX_refusalOf_67 ?_
          obtain ⟨_, hq14⟩ := hR.dc (hR.ok.2.2 _ hk).1
          refine x_calli (va_runV (As := [.int (ev k 1)]) (rest := []) ⟨hx, hb, hml, hown, hB⟩ (c_D_marksAllow hR (hR.ok.2.2 _ hk).1 (ev k 1)) (cwV 1 hB (gV ml_X_233 im_D_marksAllow sl_D_marksAllow ini_D kc_D_marksAllow) rfl rfl rfl (by decide +kernel) ⟨Nat.le_of_ble_eq_true rfl, Nat.le_of_ble_eq_true rfl⟩) (x_preV hP hK hD hq14 rfl) rfl rfl hl.1 rfl (lv_room (Nat.le_of_ble_eq_true rfl)) dX_refusalOf_70 ⟨Nat.le_of_ble_eq_true rfl, Nat.le_of_ble_eq_true rfl⟩) hD hS hA (fun r15 w H locs hw hP hD hS => ?_)
          obtain ⟨e16, rfl⟩ := hw
          refine lv_if_ne (tgt := 78) hx hb dX_refusalOf_73 (by decide) (fun c17 => ?_) (fun c17 => ?_)
          · refine lv_iconst (v := 0) hx hb dX_refusalOf_78 (by decide) ?_
            exact x_iret (v := 0) hx hb hr hlocks ⟨(by subst e2 e5 e8 e12 e16; first | (simp [fRefusal, c3, c6, c9, c13, c17]; done) | (simp_all [fRefusal]; done)), rfl⟩ hP hK hD hS dX_refusalOf_79
          · refine lv_iconst (v := 5) hx hb dX_refusalOf_76 (by decide) ?_
            exact x_iret (v := 5) hx hb hr hlocks ⟨(by subst e2 e5 e8 e12 e16; first | (simp [fRefusal, c3, c6, c9, c13, c17]; done) | (simp_all [fRefusal]; done)), rfl⟩ hP hK hD hS dX_refusalOf_77
        · refine lv_iconst (v := 4) hx hb dX_refusalOf_60 (by decide) ?_
          exact x_iret (v := 4) hx hb hr hlocks ⟨(by subst e2 e5 e8 e12; first | (simp [fRefusal, c3, c6, c9, c13]; done) | (simp_all [fRefusal]; done)), rfl⟩ hP hK hD hS dX_refusalOf_61
      · refine lv_aload_n hx hb dX_refusalOf_33 rfl (lv_at hl 0 rfl) ?_
        refine lv_aload_n hx hb dX_refusalOf_34 rfl (lv_at hl 1 rfl) ?_
        refine x_getE 3 hk hx hb hB inBE hown hK hP hR (by decide) (by decide) (hB _ fl_X_104) rfl dX_refusalOf_35 ?_
        refine x_calli (va_runV (As := [.int (ev k 3)]) (rest := []) ⟨hx, hb, hml, hown, hB⟩ (c_X_isOpenAt hR (ev k 3)) (cwV 1 hB (gV ml_X_227 im_X_isOpenAt sl_X_isOpenAt ini_X kc_X_isOpenAt) rfl rfl rfl (by decide +kernel) ⟨Nat.le_of_ble_eq_true rfl, Nat.le_of_ble_eq_true rfl⟩) (x_preV hP hK hD hR.x rfl) rfl rfl hl.1 rfl (lv_room (Nat.le_of_ble_eq_true rfl)) dX_refusalOf_38 ⟨Nat.le_of_ble_eq_true rfl, Nat.le_of_ble_eq_true rfl⟩) hD hS hA (fun r18 w H locs hw hP hD hS => ?_)
        obtain ⟨e19, rfl⟩ := hw
        refine lv_if_ne (tgt := 46) hx hb dX_refusalOf_41 (by decide) (fun c20 => ?_) (fun c20 => ?_)
        · refine lv_aload_n hx hb dX_refusalOf_46 rfl (lv_at hl 1 rfl) ?_
          refine x_getE0 hk hx hb hB inBE hown hK hP hR (hB _ fl_X_190) dX_refusalOf_47 ?_
          refine lv_aload_n hx hb dX_refusalOf_50 rfl (lv_at hl 1 rfl) ?_
          refine x_getE 1 hk hx hb hB inBE hown hK hP hR (by decide) (by decide) (hB _ fl_X_184) rfl dX_refusalOf_51 ?_
          obtain ⟨_, hq21⟩ := hR.dc (hR.ok.2.2 _ hk).1
          refine x_calli (va_runV (As := [.int (ev k 1)]) (rest := []) ⟨hx, hb, hml, hown, hB⟩ (c_D_stateAllows hR (hR.ok.2.2 _ hk).1 (ev k 1)) (cwV 1 hB (gV ml_X_230 im_D_stateAllows sl_D_stateAllows ini_D kc_D_stateAllows) rfl rfl rfl (by decide +kernel) ⟨Nat.le_of_ble_eq_true rfl, Nat.le_of_ble_eq_true rfl⟩) (x_preV hP hK hD hq21 rfl) rfl rfl hl.1 rfl (lv_room (Nat.le_of_ble_eq_true rfl)) dX_refusalOf_54 ⟨Nat.le_of_ble_eq_true rfl, Nat.le_of_ble_eq_true rfl⟩) hD hS hA (fun r22 w H locs hw hP hD hS => ?_)
          obtain ⟨e23, rfl⟩ := hw
          refine lv_if_ne (tgt := 62) hx hb dX_refusalOf_57 (by decide) (fun c24 => ?_) (fun c24 => ?_)
          · refine lv_aload_n hx hb dX_refusalOf_62 rfl (lv_at hl 1 rfl) ?_
            refine x_getE0 hk hx hb hB inBE hown hK hP hR (hB _ fl_X_190) dX_refusalOf_63 ?_
            refine lv_aload_n hx hb dX_refusalOf_66 rfl (lv_at hl 1 rfl) ?_
            refine x_getE 1 hk hx hb hB inBE hown hK hP hR (by decide) (by decide) (hB _ fl_X_184) rfl dX_refusalOf_67 ?_
            obtain ⟨_, hq25⟩ := hR.dc (hR.ok.2.2 _ hk).1
            refine x_calli (va_runV (As := [.int (ev k 1)]) (rest := []) ⟨hx, hb, hml, hown, hB⟩ (c_D_marksAllow hR (hR.ok.2.2 _ hk).1 (ev k 1)) (cwV 1 hB (gV ml_X_233 im_D_marksAllow sl_D_marksAllow ini_D kc_D_marksAllow) rfl rfl rfl (by decide +kernel) ⟨Nat.le_of_ble_eq_true rfl, Nat.le_of_ble_eq_true rfl⟩) (x_preV hP hK hD hq25 rfl) rfl rfl hl.1 rfl (lv_room (Nat.le_of_ble_eq_true rfl)) dX_refusalOf_70 ⟨Nat.le_of_ble_eq_true rfl, Nat.le_of_ble_eq_true rfl⟩) hD hS hA (fun r26 w H locs hw hP hD hS => ?_)
            obtain ⟨e27, rfl⟩ := hw
            refine lv_if_ne (tgt := 78) hx hb dX_refusalOf_73 (by decide) (fun c28 => ?_) (fun c28 => ?_)
            · refine lv_iconst (v := 0) hx hb dX_refusalOf_78 (by decide) ?_
              exact x_iret (v := 0) hx hb hr hlocks ⟨(by subst e2 e5 e8 e19 e23 e27; first | (simp [fRefusal, c3, c6, c9, c20, c24, c28]; done) | (simp_all [fRefusal]; done)), rfl⟩ hP hK hD hS dX_refusalOf_79
            · refine lv_iconst (v := 5) hx hb dX_refusalOf_76 (by decide) ?_
              exact x_iret (v := 5) hx hb hr hlocks ⟨(by subst e2 e5 e8 e19 e23 e27; first | (simp [fRefusal, c3, c6, c9, c20, c24, c28]; done) | (simp_all [fRefusal]; done)), rfl⟩ hP hK hD hS dX_refusalOf_77
          · refine lv_iconst (v := 4) hx hb dX_refusalOf_60 (by decide) ?_
            exact x_iret (v := 4) hx hb hr hlocks ⟨(by subst e2 e5 e8 e19 e23; first | (simp [fRefusal, c3, c6, c9, c20, c24]; done) | (simp_all [fRefusal]; done)), rfl⟩ hP hK hD hS dX_refusalOf_61
        · refine lv_iconst (v := 3) hx hb dX_refusalOf_44 (by decide) ?_
          exact x_iret (v := 3) hx hb hr hlocks ⟨(by subst e2 e5 e8 e19; first | (simp [fRefusal, c3, c6, c9, c20]; done) | (simp_all [fRefusal]; done)), rfl⟩ hP hK hD hS dX_refusalOf_45
    · refine lv_iconst (v := 2) hx hb dX_refusalOf_21 (by decide) ?_
      exact x_iret (v := 2) hx hb hr hlocks ⟨(by subst e2 e5; first | (simp [fRefusal, c3, c6]; done) | (simp_all [fRefusal]; done)), rfl⟩ hP hK hD hS dX_refusalOf_22
  · refine lv_iconst (v := 1) hx hb dX_refusalOf_11 (by decide) ?_
    exact x_iret (v := 1) hx hb hr hlocks ⟨(by subst e2; first | (simp [fRefusal, c3]; done) | (simp_all [fRefusal]; done)), rfl⟩ hP hK hD hS dX_refusalOf_12
end
section
def wNx (nx : Nat → Option Nat) (l : Option Nat) (k : Nat) : Nat → Option Nat := match l with
  | none => upo nx k none
  | some l => upo (upo nx k none) l (some k)
def wFw (fw : Nat → Option Nat) (l : Option Nat) (j k : Nat) : Nat → Option Nat := match l with
  | none => upo fw j (some k)
  | some _ => fw
def fWrote (f : Nat → Int32) : Nat → Int32 := upd f 9 (f 9 + 1)
def fSetF (g ro f v : Nat → Int32) : Nat → Int32 := fWrote (if fRefusal g ro f v = 0 then fCarry f (v 1) (v 3) else f)
def fSetR (g ro f v : Nat → Int32) : Int32 := if fRefusal g ro f v = 0 then fCarry f (v 1) (v 3) 3 else -1 - fRefusal g ro f v
def fSetG (g ro f v : Nat → Int32) : Nat → Int32 := if fRefusal g ro f v = 1 then upd g 11 (g 11 &&& ((1 : Int32) <<< (v 1 &&& 31) ^^^ (-1))) else g
theorem up2_k1 {ev : Nat → Nat → Int32} {k : Nat} {v : Int32} : up2 ev k 4 v k 1 = ev k 1 := by rw [up2_eq]; rfl
theorem up2_k3 {ev : Nat → Nat → Int32} {k : Nat} {v : Int32} : up2 ev k 4 v k 3 = ev k 3 := by rw [up2_eq]; rfl
def cntSt (d : Nat → Nat → Int32) (x : Int32) : Nat → Int32
  | 0 => 0
  | n + 1 => cntSt d x n + (if d n 3 = x then 1 else 0)
def fCount (d : Nat → Nat → Int32) (n : Nat) (what : Int32) : Int32 := if what < 10 then -1 else if what ≤ 17 then cntSt d (what - 10) n else -1
theorem x_ltn {x a : Int32} {i n : Nat} (hx : x = nI i) (ha : a = nI n) (h : ¬ a ≤ x) (hi : i < 2 ^ 31) (hn : n < 2 ^ 31) : i < n := by
  subst hx ha
  rw [nI_leI hn hi] at h
  omega
theorem x_gen {x a : Int32} {i n : Nat} (hx : x = nI i) (ha : a = nI n) (h : a ≤ x) (hi : i ≤ n) (hn : n < 2 ^ 31) : i = n := by
  subst hx ha
  rw [nI_leI hn (by omega)] at h
  omega
theorem fDeclAt_at {g : Nat → Int32} {x : Int32} {i n : Nat} (hg : g 3 = nI n) (hn : n ≤ 20) (hx : x = nI i) (hi : i < n) : fDeclAt g x = some i := by
  subst hx
  have h0 : ¬ nI i < 0 := nI_pos (by omega)
  have h1 : ¬ g 3 ≤ nI i := by rw [hg, nI_leI (by omega) (by omega)]; omega
  have h2 : ¬ (20 : Int32) ≤ nI i := by rw [show (20 : Int32) = nI 20 from rfl, nI_leI (by omega) (by omega)]; omega
  simp [fDeclAt, h0, h1, h2, nI_clamp (show i < 2 ^ 31 by omega)]
theorem fDeclAt_none {g : Nat → Int32} {x : Int32} {i n : Nat} (hg : g 3 = nI n) (hn : n ≤ 20) (hx : x = nI i) (hi : i < n) (h : fDeclAt g x = none) : False := by
  rw [fDeclAt_at hg hn hx hi] at h; cases h
theorem fDeclAt_some {g : Nat → Int32} {x : Int32} {i n j : Nat} (hg : g 3 = nI n) (hn : n ≤ 20) (hx : x = nI i) (hi : i < n) (h : fDeclAt g x = some j) : j = i := by
  rw [fDeclAt_at hg hn hx hi] at h; cases h; rfl
end
section
set_option maxHeartbeats 4000000 in
set_option maxRecDepth 100000 in
theorem c_D_write {l : Launch} {G : va_G} {cI cD cE : ClassId} {aX aR aD aE : Nat} {dA eA : Nat → Nat} {g ro : Nat → Int32} {fst : Option Nat} {nD nE : Nat} {d : Nat → Nat → Int32} {fw lw : Nat → Option Nat} {ed : Nat → Nat} {ev : Nat → Nat → Int32} {nx : Nat → Option Nat} {w : va_W} {sz : Nat} (hR : RX cI cD cE aX aR aD aE dA eA g ro fst nD nE d fw lw ed ev nx w) {j k : Nat} (hj : j < nD) (hk : k < nE) : xMv l yD_write wsD_write ({ frames := 0, cells := 0, slots := 0, locals := 0 }) [.ref (dA j), .ref (eA k)] G (xTys cI cD cE) w sz (fun w' => RX cI cD cE aX aR aD aE dA eA g ro fst nD nE (upf d j (fWrote (d j))) (wFw fw (lw j) j k) (upo lw j (some k)) ed ev (wNx nx (lw j) k) w') 0 0 := by
  refine x_ofW (fun A => va_Qv (fun w' => RX cI cD cE aX aR aD aE dA eA g ro fst nD nE (upf d j (fWrote (d j))) (wFw fw (lw j) j k) (upo lw j (some k)) ed ev (wNx nx (lw j) k) w') (xEnd G (xTys cI cD cE) A) A) cD_write 2 none (by decide) rfl (Nat.le_of_ble_eq_true rfl) ?_
  intro p e s m below meth c A ls hx hb hr hlocks hml hnm hown hB hA hP hK hD hS hl
  have hl : lv_has ls 2 [(0, .ref (dA j)), (1, .ref (eA k))] := hl
  have hown : s.vm.findClass NmD = some m.cls := hown
  refine lv_aload_n hx hb dD_write_0 rfl (lv_at hl 1 rfl) ?_
  refine lv_null hx hb dD_write_1 ?_
  refine x_putE5 none okP_none hk hx hb hB inBE hown hK hP hD hS hR (hB _ fl_D_59) dD_write_2 (fun w H locs hR hP hD hS => ?_)
  refine lv_aload_n hx hb dD_write_5 rfl (lv_at hl 0 rfl) ?_
  refine x_getD11 hj hx hb hB inBD hown hK hP hR (hB _ fl_D_65) dD_write_6 ?_
  rcases Option.eq_none_or_eq_some (lw j) with o1 | ⟨k2, o1⟩
  · refine x_st (st' := [.null]) (by rw [o1]; rfl) ?_
    refine lv_ifnonnullN hx hb dD_write_9 ?_
    refine lv_aload_n hx hb dD_write_12 rfl (lv_at hl 0 rfl) ?_
    refine lv_aload_n hx hb dD_write_13 rfl (lv_at hl 1 rfl) ?_
    refine x_putD10 (some k) (okP_some hk) hj hx hb hB inBD hown hK hP hD hS hR (hB _ fl_D_68) dD_write_14 (fun w H locs hR hP hD hS => ?_)
    refine lv_goto (tgt := 28) hx hb dD_write_17 (by decide) ?_
    refine lv_aload_n hx hb dD_write_28 rfl (lv_at hl 0 rfl) ?_
    refine lv_aload_n hx hb dD_write_29 rfl (lv_at hl 1 rfl) ?_
    refine x_putD11 (some k) (okP_some hk) hj hx hb hB inBD hown hK hP hD hS hR (hB _ fl_D_65) dD_write_30 (fun w H locs hR hP hD hS => ?_)
    refine lv_aload_n hx hb dD_write_33 rfl (lv_at hl 0 rfl) ?_
    refine lv_dup hx hb dD_write_34 rfl ?_
    refine x_getD 9 hj hx hb hB inBD hown hK hP hR (by decide) (hB _ fl_D_71) rfl dD_write_35 ?_
    refine lv_iconst (v := 1) hx hb dD_write_38 (by decide) ?_
    refine lv_iadd hx hb dD_write_39 ?_
    refine x_putD 9 ((d j 9) + 1) hj hx hb hB inBD hown hK hP hD hS hR (by decide) (hB _ fl_D_71) rfl rfl (by decide +kernel) dD_write_40 (fun w H locs hR hP hD hS => ?_)
    exact x_vret hx hb hr hlocks (by first | (simpa [wNx, wFw, fWrote, upf_eq, upf_upf, upf_self, o1] using hR) | (have hR9 := hR; simp_all [wNx, wFw, fWrote, upf_eq, upf_upf, upf_self])) hP hK hD hS dD_write_43
  · have hk2 : k2 < nE := (hR.ok.2.1 _ hj).2 _ o1
    refine x_st (st' := [.ref (eA k2)]) (by rw [o1]; rfl) ?_
    refine lv_ifnonnull (tgt := 20) hx hb dD_write_9 (by decide) ?_
    refine lv_aload_n hx hb dD_write_20 rfl (lv_at hl 0 rfl) ?_
    refine x_getD11 hj hx hb hB inBD hown hK hP hR (hB _ fl_D_65) dD_write_21 ?_
    refine x_st (st' := [.ref (eA k2)]) (by rw [o1]; rfl) ?_
    refine lv_aload_n hx hb dD_write_24 rfl (lv_at hl 1 rfl) ?_
    refine x_putE5 (some k) (okP_some hk) hk2 hx hb hB inBE hown hK hP hD hS hR (hB _ fl_D_59) dD_write_25 (fun w H locs hR hP hD hS => ?_)
    refine lv_aload_n hx hb dD_write_28 rfl (lv_at hl 0 rfl) ?_
    refine lv_aload_n hx hb dD_write_29 rfl (lv_at hl 1 rfl) ?_
    refine x_putD11 (some k) (okP_some hk) hj hx hb hB inBD hown hK hP hD hS hR (hB _ fl_D_65) dD_write_30 (fun w H locs hR hP hD hS => ?_)
    refine lv_aload_n hx hb dD_write_33 rfl (lv_at hl 0 rfl) ?_
    refine lv_dup hx hb dD_write_34 rfl ?_
    refine x_getD 9 hj hx hb hB inBD hown hK hP hR (by decide) (hB _ fl_D_71) rfl dD_write_35 ?_
    refine lv_iconst (v := 1) hx hb dD_write_38 (by decide) ?_
    refine lv_iadd hx hb dD_write_39 ?_
    refine x_putD 9 ((d j 9) + 1) hj hx hb hB inBD hown hK hP hD hS hR (by decide) (hB _ fl_D_71) rfl rfl (by decide +kernel) dD_write_40 (fun w H locs hR hP hD hS => ?_)
    exact x_vret hx hb hr hlocks (by first | (simpa [wNx, wFw, fWrote, upf_eq, upf_upf, upf_self, o1] using hR) | (have hR9 := hR; simp_all [wNx, wFw, fWrote, upf_eq, upf_upf, upf_self])) hP hK hD hS dD_write_43
set_option maxHeartbeats 4000000 in
set_option maxRecDepth 100000 in
theorem c_X_settle {l : Launch} {G : va_G} {cI cD cE : ClassId} {aX aR aD aE : Nat} {dA eA : Nat → Nat} {g ro : Nat → Int32} {fst : Option Nat} {nD nE : Nat} {d : Nat → Nat → Int32} {fw lw : Nat → Option Nat} {ed : Nat → Nat} {ev : Nat → Nat → Int32} {nx : Nat → Option Nat} {w : va_W} {sz : Nat} (hR : RX cI cD cE aX aR aD aE dA eA g ro fst nD nE d fw lw ed ev nx w) {k : Nat} (hk : k < nE) : xMv l yX_settle wsX_settle ({ frames := 4, cells := 0, slots := 0, locals := 85 }) [.ref aX, .ref (eA k)] G (xTys cI cD cE) w sz (fun w' => RX cI cD cE aX aR aD aE dA eA (fSetG g ro (d (ed k)) (ev k)) ro fst nD nE (upf d (ed k) (fSetF g ro (d (ed k)) (ev k))) (wFw fw (lw (ed k)) (ed k) k) (upo lw (ed k) (some k)) ed (up2 ev k 4 (fSetR g ro (d (ed k)) (ev k))) (wNx nx (lw (ed k)) k) w') 0 0 := by
  refine x_ofW (fun A => va_Qv (fun w' => RX cI cD cE aX aR aD aE dA eA (fSetG g ro (d (ed k)) (ev k)) ro fst nD nE (upf d (ed k) (fSetF g ro (d (ed k)) (ev k))) (wFw fw (lw (ed k)) (ed k) k) (upo lw (ed k) (some k)) ed (up2 ev k 4 (fSetR g ro (d (ed k)) (ev k))) (wNx nx (lw (ed k)) k) w') (xEnd G (xTys cI cD cE) A) A) cX_settle 4 none (by decide) rfl (Nat.le_of_ble_eq_true rfl) ?_
  intro p e s m below meth c A ls hx hb hr hlocks hml hnm hown hB hA hP hK hD hS hl
  have hl : lv_has ls 4 [(0, .ref aX), (1, .ref (eA k))] := hl
  have hown : s.vm.findClass NmX = some m.cls := hown
  refine lv_aload_n hx hb dX_settle_0 rfl (lv_at hl 1 rfl) ?_
  refine x_getE0 hk hx hb hB inBE hown hK hP hR (hB _ fl_X_190) dX_settle_1 ?_
  refine lv_astore_n (lv' := [(2, .ref (dA (ed k))), (0, .ref aX), (1, .ref (eA k))]) hx hb dX_settle_4 rfl hl (by decide) rfl (fun ls hl => ?_)
  refine lv_aload_n hx hb dX_settle_5 rfl (lv_at hl 1 rfl) ?_
  refine lv_aload_n hx hb dX_settle_6 rfl (lv_at hl 2 rfl) ?_
  refine x_calli (va_runV (As := [.ref (eA k)]) (rest := []) ⟨hx, hb, hml, hown, hB⟩ (c_X_refusalOf hR hk) (cwV 1 hB (gV ml_X_210 im_X_refusalOf sl_X_refusalOf ini_X kc_X_refusalOf) rfl rfl rfl (by decide +kernel) ⟨Nat.le_of_ble_eq_true rfl, Nat.le_of_ble_eq_true rfl⟩) (x_preV hP hK hD hR.x rfl) rfl rfl hl.1 rfl (lv_room (Nat.le_of_ble_eq_true rfl)) dX_settle_7 ⟨Nat.le_of_ble_eq_true rfl, Nat.le_of_ble_eq_true rfl⟩) hD hS hA (fun r1 w H locs hw hP hD hS => ?_)
  obtain ⟨e2, rfl⟩ := hw
  refine lv_istore_n (lv' := [(3, .int r1), (2, .ref (dA (ed k))), (0, .ref aX), (1, .ref (eA k))]) hx hb dX_settle_10 rfl hl (by decide) rfl (fun ls hl => ?_)
  refine lv_iload_n hx hb dX_settle_11 rfl (lv_at hl 0 rfl) ?_
  refine lv_if_ne (tgt := 38) hx hb dX_settle_12 (by decide) (fun c3 => ?_) (fun c3 => ?_)
  · refine lv_aload_n hx hb dX_settle_38 rfl (lv_at hl 3 rfl) ?_
    refine lv_iconst (v := (-1)) hx hb dX_settle_39 (by decide) ?_
    refine lv_iload_n hx hb dX_settle_40 rfl (lv_at hl 0 rfl) ?_
    refine lv_isub hx hb dX_settle_41 ?_
    refine x_putE4 ((-1) - r1) hk hx hb hB inBE hown hK hP hD hS hR (hB _ fl_X_181) dX_settle_42 (fun w H locs hR hP hD hS => ?_)
    refine lv_iload_n hx hb dX_settle_45 rfl (lv_at hl 0 rfl) ?_
    refine lv_iconst (v := 1) hx hb dX_settle_46 (by decide) ?_
    refine lv_icmp_ne (tgt := 67) hx hb dX_settle_47 (by decide) (fun c4 => ?_) (fun c4 => ?_)
    · refine lv_aload_n hx hb dX_settle_67 rfl (lv_at hl 1 rfl) ?_
      refine lv_aload_n hx hb dX_settle_68 rfl (lv_at hl 3 rfl) ?_
      obtain ⟨_, hq5⟩ := hR.dc (hR.ok.2.2 _ hk).1
      refine x_callv (va_runV (As := [.ref (eA k)]) (rest := []) ⟨hx, hb, hml, hown, hB⟩ (c_D_write hR (hR.ok.2.2 _ hk).1 hk) (cwV 1 hB (gV ml_X_218 im_D_write sl_D_write ini_D kc_D_write) rfl rfl rfl (by decide +kernel) ⟨Nat.le_of_ble_eq_true rfl, Nat.le_of_ble_eq_true rfl⟩) (x_preV hP hK hD hq5 rfl) rfl rfl hl.1 rfl (lv_room (Nat.le_of_ble_eq_true rfl)) dX_settle_69 ⟨Nat.le_of_ble_eq_true rfl, Nat.le_of_ble_eq_true rfl⟩) hD hS hA (fun w H locs hw hP hD hS => ?_)
      have hR := hw
      exact x_vret hx hb hr hlocks (by subst e2; first | (simpa [fSetG, fSetF, fSetR, upf_eq, upf_upf, up2_k1, up2_k3, c3, c4] using hR) | (have hR9 := hR; simp_all [fSetG, fSetF, fSetR, upf_eq, upf_upf, up2_k1, up2_k3]; done)) hP hK hD hS dX_settle_72
    · refine lv_aload_n hx hb dX_settle_50 rfl (lv_at hl 2 rfl) ?_
      refine lv_dup hx hb dX_settle_51 rfl ?_
      refine x_getX 11 hx hb hB inBX hown hK hP hR rfl (hB _ fl_X_116) rfl dX_settle_52 ?_
      refine lv_iconst (v := 1) hx hb dX_settle_55 (by decide) ?_
      refine lv_aload_n hx hb dX_settle_56 rfl (lv_at hl 3 rfl) ?_
      refine x_getE 1 hk hx hb hB inBE hown hK hP hR (by decide) (by decide) (hB _ fl_X_184) rfl dX_settle_57 ?_
      refine lv_ishl hx hb dX_settle_60 ?_
      refine lv_iconst (v := (-1)) hx hb dX_settle_61 (by decide) ?_
      refine lv_ixor hx hb dX_settle_62 ?_
      refine lv_iand hx hb dX_settle_63 ?_
      refine x_putX 11 ((g 11) &&& ((1 <<< (((up2 ev k 4 ((-1) - r1)) k 1) &&& 31)) ^^^ (-1))) hx hb hB inBX hown hK hP hD hS hR rfl (hB _ fl_X_116) rfl rfl (by decide +kernel) dX_settle_64 (fun w H locs hR hP hD hS => ?_)
      refine lv_aload_n hx hb dX_settle_67 rfl (lv_at hl 1 rfl) ?_
      refine lv_aload_n hx hb dX_settle_68 rfl (lv_at hl 3 rfl) ?_
      obtain ⟨_, hq8⟩ := hR.dc (hR.ok.2.2 _ hk).1
      refine x_callv (va_runV (As := [.ref (eA k)]) (rest := []) ⟨hx, hb, hml, hown, hB⟩ (c_D_write hR (hR.ok.2.2 _ hk).1 hk) (cwV 1 hB (gV ml_X_218 im_D_write sl_D_write ini_D kc_D_write) rfl rfl rfl (by decide +kernel) ⟨Nat.le_of_ble_eq_true rfl, Nat.le_of_ble_eq_true rfl⟩) (x_preV hP hK hD hq8 rfl) rfl rfl hl.1 rfl (lv_room (Nat.le_of_ble_eq_true rfl)) dX_settle_69 ⟨Nat.le_of_ble_eq_true rfl, Nat.le_of_ble_eq_true rfl⟩) hD hS hA (fun w H locs hw hP hD hS => ?_)
      have hR := hw
      exact x_vret hx hb hr hlocks (by subst e2; first | (simpa [fSetG, fSetF, fSetR, upf_eq, upf_upf, up2_k1, up2_k3, c3, c4] using hR) | (have hR9 := hR; simp_all [fSetG, fSetF, fSetR, upf_eq, upf_upf, up2_k1, up2_k3]; done)) hP hK hD hS dX_settle_72
  · refine lv_aload_n hx hb dX_settle_15 rfl (lv_at hl 1 rfl) ?_
    refine lv_aload_n hx hb dX_settle_16 rfl (lv_at hl 3 rfl) ?_
    refine x_getE 1 hk hx hb hB inBE hown hK hP hR (by decide) (by decide) (hB _ fl_X_184) rfl dX_settle_17 ?_
    refine lv_aload_n hx hb dX_settle_20 rfl (lv_at hl 3 rfl) ?_
    refine x_getE 3 hk hx hb hB inBE hown hK hP hR (by decide) (by decide) (hB _ fl_X_104) rfl dX_settle_21 ?_
    obtain ⟨_, hq11⟩ := hR.dc (hR.ok.2.2 _ hk).1
    refine x_callv (va_runV (As := [.int (ev k 1), .int (ev k 3)]) (rest := []) ⟨hx, hb, hml, hown, hB⟩ (c_D_carryOut hR (hR.ok.2.2 _ hk).1 (ev k 1) (ev k 3)) (cwV 2 hB (gV ml_X_214 im_D_carryOut sl_D_carryOut ini_D kc_D_carryOut) rfl rfl rfl (by decide +kernel) ⟨Nat.le_of_ble_eq_true rfl, Nat.le_of_ble_eq_true rfl⟩) (x_preV hP hK hD hq11 rfl) rfl rfl hl.1 rfl (lv_room (Nat.le_of_ble_eq_true rfl)) dX_settle_24 ⟨Nat.le_of_ble_eq_true rfl, Nat.le_of_ble_eq_true rfl⟩) hD hS hA (fun w H locs hw hP hD hS => ?_)
    have hR := hw
    refine lv_aload_n hx hb dX_settle_27 rfl (lv_at hl 3 rfl) ?_
    refine lv_aload_n hx hb dX_settle_28 rfl (lv_at hl 1 rfl) ?_
    refine x_getD 3 (hR.ok.2.2 _ hk).1 hx hb hB inBD hown hK hP hR (by decide) (hB _ fl_X_151) rfl dX_settle_29 ?_
    refine x_putE4 ((upf d (ed k) (fCarry (d (ed k)) (ev k 1) (ev k 3))) (ed k) 3) hk hx hb hB inBE hown hK hP hD hS hR (hB _ fl_X_181) dX_settle_32 (fun w H locs hR hP hD hS => ?_)
    refine lv_goto (tgt := 45) hx hb dX_settle_35 (by decide) ?_
    refine lv_iload_n hx hb dX_settle_45 rfl (lv_at hl 0 rfl) ?_
    refine lv_iconst (v := 1) hx hb dX_settle_46 (by decide) ?_
    refine lv_icmp_ne (tgt := 67) hx hb dX_settle_47 (by decide) (fun c14 => ?_) (fun c14 => ?_)
    · refine lv_aload_n hx hb dX_settle_67 rfl (lv_at hl 1 rfl) ?_
      refine lv_aload_n hx hb dX_settle_68 rfl (lv_at hl 3 rfl) ?_
      obtain ⟨_, hq15⟩ := hR.dc (hR.ok.2.2 _ hk).1
      refine x_callv (va_runV (As := [.ref (eA k)]) (rest := []) ⟨hx, hb, hml, hown, hB⟩ (c_D_write hR (hR.ok.2.2 _ hk).1 hk) (cwV 1 hB (gV ml_X_218 im_D_write sl_D_write ini_D kc_D_write) rfl rfl rfl (by decide +kernel) ⟨Nat.le_of_ble_eq_true rfl, Nat.le_of_ble_eq_true rfl⟩) (x_preV hP hK hD hq15 rfl) rfl rfl hl.1 rfl (lv_room (Nat.le_of_ble_eq_true rfl)) dX_settle_69 ⟨Nat.le_of_ble_eq_true rfl, Nat.le_of_ble_eq_true rfl⟩) hD hS hA (fun w H locs hw hP hD hS => ?_)
      have hR := hw
      exact x_vret hx hb hr hlocks (by subst e2; first | (simpa [fSetG, fSetF, fSetR, upf_eq, upf_upf, up2_k1, up2_k3, c3, c14] using hR) | (have hR9 := hR; simp_all [fSetG, fSetF, fSetR, upf_eq, upf_upf, up2_k1, up2_k3]; done)) hP hK hD hS dX_settle_72
    · refine lv_aload_n hx hb dX_settle_50 rfl (lv_at hl 2 rfl) ?_
      refine lv_dup hx hb dX_settle_51 rfl ?_
      refine x_getX 11 hx hb hB inBX hown hK hP hR rfl (hB _ fl_X_116) rfl dX_settle_52 ?_
      refine lv_iconst (v := 1) hx hb dX_settle_55 (by decide) ?_
      refine lv_aload_n hx hb dX_settle_56 rfl (lv_at hl 3 rfl) ?_
      refine x_getE 1 hk hx hb hB inBE hown hK hP hR (by decide) (by decide) (hB _ fl_X_184) rfl dX_settle_57 ?_
      refine lv_ishl hx hb dX_settle_60 ?_
      refine lv_iconst (v := (-1)) hx hb dX_settle_61 (by decide) ?_
      refine lv_ixor hx hb dX_settle_62 ?_
      refine lv_iand hx hb dX_settle_63 ?_
      refine x_putX 11 ((g 11) &&& ((1 <<< (((up2 ev k 4 ((upf d (ed k) (fCarry (d (ed k)) (ev k 1) (ev k 3))) (ed k) 3)) k 1) &&& 31)) ^^^ (-1))) hx hb hB inBX hown hK hP hD hS hR rfl (hB _ fl_X_116) rfl rfl (by decide +kernel) dX_settle_64 (fun w H locs hR hP hD hS => ?_)
      refine lv_aload_n hx hb dX_settle_67 rfl (lv_at hl 1 rfl) ?_
      refine lv_aload_n hx hb dX_settle_68 rfl (lv_at hl 3 rfl) ?_
      obtain ⟨_, hq18⟩ := hR.dc (hR.ok.2.2 _ hk).1
      refine x_callv (va_runV (As := [.ref (eA k)]) (rest := []) ⟨hx, hb, hml, hown, hB⟩ (c_D_write hR (hR.ok.2.2 _ hk).1 hk) (cwV 1 hB (gV ml_X_218 im_D_write sl_D_write ini_D kc_D_write) rfl rfl rfl (by decide +kernel) ⟨Nat.le_of_ble_eq_true rfl, Nat.le_of_ble_eq_true rfl⟩) (x_preV hP hK hD hq18 rfl) rfl rfl hl.1 rfl (lv_room (Nat.le_of_ble_eq_true rfl)) dX_settle_69 ⟨Nat.le_of_ble_eq_true rfl, Nat.le_of_ble_eq_true rfl⟩) hD hS hA (fun w H locs hw hP hD hS => ?_)
      have hR := hw
      exact x_vret hx hb hr hlocks (by subst e2; first | (simpa [fSetG, fSetF, fSetR, upf_eq, upf_upf, up2_k1, up2_k3, c3, c14] using hR) | (have hR9 := hR; simp_all [fSetG, fSetF, fSetR, upf_eq, upf_upf, up2_k1, up2_k3]; done)) hP hK hD hS dX_settle_72
end
section
set_option maxHeartbeats 4000000 in
set_option maxRecDepth 100000 in
theorem c_X_countOfState {l : Launch} {G : va_G} {cI cD cE : ClassId} {aX aR aD aE : Nat} {dA eA : Nat → Nat} {g ro : Nat → Int32} {fst : Option Nat} {nD nE : Nat} {d : Nat → Nat → Int32} {fw lw : Nat → Option Nat} {ed : Nat → Nat} {ev : Nat → Nat → Int32} {nx : Nat → Option Nat} {w : va_W} {sz : Nat} (hR : RX cI cD cE aX aR aD aE dA eA g ro fst nD nE d fw lw ed ev nx w) (hg3 : g 3 = nI nD) (hnD : nD ≤ 20) (what : Int32) : xMi l yX_countOfState wsX_countOfState ({ frames := 1, cells := 0, slots := 0, locals := 22 }) [.ref aX, .int what] G (xTys cI cD cE) w sz (fun r w' => r = fCount d nD what ∧ w = w') 0 0 := by
  refine x_ofW (fun A => va_Qi (fun r w' => r = fCount d nD what ∧ w = w') (xEnd G (xTys cI cD cE) A) A) cX_countOfState 5 (some .int) (by decide) rfl (Nat.le_of_ble_eq_true rfl) ?_
  intro p e s m below meth c A ls hx hb hr hlocks hml hnm hown hB hA hP hK hD hS hl
  have hl : lv_has ls 5 [(0, .ref aX), (1, .int what)] := hl
  have hown : s.vm.findClass NmX = some m.cls := hown
  have loop18 : ∀ (n : Nat) (i : Nat) (x2 x3 : Int32), i ≤ nD → nD + 1 ≤ i + n → x3 = nI i → x2 = cntSt d (what - 10) i → ¬ what < 10 → what ≤ 17 → ∀ (ls : Array Slot) (H : Heap) (locs : List Loc), lv_has ls 5 [(0, .ref aX), (1, .int what), (2, .int x2), (3, .int x3)] → va_P G vwCl w H → va_D A w → va_S A s.heap H locs → W p l e ({ frames := 1, cells := 0, slots := 0, locals := 22 }) s m [.ref aX, .int what].toArray below meth c H locs 0 0 (MQ below (va_Qi (fun r w' => r = fCount d nD what ∧ w = w') (xEnd G (xTys cI cD cE) A) A) [.ref aX, .int what].toArray s 0 0 A) (F0 m 18 ls []) := by
    intro n
    induction n with
    | zero => intro i x2 x3 hi hn ex3 ex2 hw1 hw2; exact absurd hn (by omega)
    | succ n ih =>
      intro i x2 x3 hi hn ex3 ex2 hw1 hw2 ls H locs hl hP hD hS
      refine lv_iload_n hx hb dX_countOfState_18 rfl (lv_at hl 3 rfl) ?_
      refine lv_aload_n hx hb dX_countOfState_19 rfl (lv_at hl 0 rfl) ?_
      refine x_getX 3 hx hb hB inBX hown hK hP hR rfl (hB _ fl_X_59) rfl dX_countOfState_20 ?_
      refine lv_icmp_ge (tgt := 59) hx hb dX_countOfState_23 (by decide) (fun c1 => ?_) (fun c1 => ?_)
      · refine lv_iload_n hx hb dX_countOfState_59 rfl (lv_at hl 2 rfl) ?_
        exact x_iret (v := x2) hx hb hr hlocks ⟨(by have h9 := x_gen ex3 hg3 c1 hi (by omega); subst h9; subst ex2; simp [fCount, hw1, hw2]), rfl⟩ hP hK hD hS dX_countOfState_60
      · refine lv_aload_n hx hb dX_countOfState_26 rfl (lv_at hl 0 rfl) ?_
        refine lv_iload_n hx hb dX_countOfState_27 rfl (lv_at hl 3 rfl) ?_
        refine x_callq (va_runV (As := [.int x3]) (rest := []) ⟨hx, hb, hml, hown, hB⟩ (c_X_declarationAt hR hg3 hnD x3) (cwV 1 hB (gV ml_X_67 im_X_declarationAt sl_X_declarationAt ini_X kc_X_declarationAt) rfl rfl rfl (by decide +kernel) ⟨Nat.le_of_ble_eq_true rfl, Nat.le_of_ble_eq_true rfl⟩) (x_preV hP hK hD hR.x rfl) rfl rfl hl.1 rfl (lv_room (Nat.le_of_ble_eq_true rfl)) dX_countOfState_28 ⟨Nat.le_of_ble_eq_true rfl, Nat.le_of_ble_eq_true rfl⟩) hD hS hA (fun r2 w H locs hw hP hD hS => ?_)
        obtain ⟨e3, rfl⟩ := hw
        rcases Option.eq_none_or_eq_some (fDeclAt g x3) with o4 | ⟨j5, o4⟩
        · refine x_st (st' := [.null]) (by rw [e3, o4]; rfl) ?_
          refine lv_astoreN (lv' := [(4, .null), (0, .ref aX), (1, .int what), (2, .int x2), (3, .int x3)]) hx hb dX_countOfState_31 hl (by decide) rfl (fun ls hl => ?_)
          refine lv_aloadN hx hb dX_countOfState_33 (lv_at hl 0 rfl) ?_
          refine lv_ifnullN (tgt := 53) hx hb dX_countOfState_35 (by decide) ?_
          refine lv_iinc (v := x3 + 1) (lv' := [(3, .int (x3 + 1)), (4, .null), (0, .ref aX), (1, .int what), (2, .int x2)]) hx hb dX_countOfState_53 hl (k := 4) rfl rfl (by decide) rfl (fun ls hl => ?_)
          refine lv_goto (tgt := 18) hx hb dX_countOfState_56 (by decide) ?_
          exact ih (i + 1) _ _ (x_ltn ex3 hg3 c1 (by omega) (by omega)) (by omega) (by rw [ex3]; exact nI_1 i) (by exfalso; exact fDeclAt_none hg3 hnD ex3 (x_ltn ex3 hg3 c1 (by omega) (by omega)) o4) hw1 hw2 _ _ _ (lv_sub hl [2, 3, 4, 0] rfl) hP hD hS
        · have hj5 := fDeclAt_lt hg3 hnD o4
          refine x_st (st' := [.ref (dA j5)]) (by rw [e3, o4]; rfl) ?_
          refine lv_astore (lv' := [(4, .ref (dA j5)), (0, .ref aX), (1, .int what), (2, .int x2), (3, .int x3)]) hx hb dX_countOfState_31 hl (by decide) rfl (fun ls hl => ?_)
          refine lv_aload hx hb dX_countOfState_33 (lv_at hl 0 rfl) ?_
          refine lv_ifnull hx hb dX_countOfState_35 ?_
          refine lv_aload hx hb dX_countOfState_38 (lv_at hl 0 rfl) ?_
          refine x_getD 3 hj5 hx hb hB inBD hown hK hP hR (by decide) (hB _ fl_X_151) rfl dX_countOfState_40 ?_
          refine lv_iload_n hx hb dX_countOfState_43 rfl (lv_at hl 2 rfl) ?_
          refine lv_bipush (v := 10) hx hb dX_countOfState_44 (by decide) ?_
          refine lv_isub hx hb dX_countOfState_46 ?_
          refine lv_icmp_ne (tgt := 53) hx hb dX_countOfState_47 (by decide) (fun c6 => ?_) (fun c6 => ?_)
          · refine lv_iinc (v := x3 + 1) (lv' := [(3, .int (x3 + 1)), (4, .ref (dA j5)), (0, .ref aX), (1, .int what), (2, .int x2)]) hx hb dX_countOfState_53 hl (k := 4) rfl rfl (by decide) rfl (fun ls hl => ?_)
            refine lv_goto (tgt := 18) hx hb dX_countOfState_56 (by decide) ?_
            exact ih (i + 1) _ _ (x_ltn ex3 hg3 c1 (by omega) (by omega)) (by omega) (by rw [ex3]; exact nI_1 i) (by have h9 := fDeclAt_some hg3 hnD ex3 (x_ltn ex3 hg3 c1 (by omega) (by omega)) o4; subst h9; subst ex2; simp [cntSt, c6]) hw1 hw2 _ _ _ (lv_sub hl [2, 3, 4, 0] rfl) hP hD hS
          · refine lv_iinc (v := x2 + 1) (lv' := [(2, .int (x2 + 1)), (4, .ref (dA j5)), (0, .ref aX), (1, .int what), (3, .int x3)]) hx hb dX_countOfState_50 hl (k := 3) rfl rfl (by decide) rfl (fun ls hl => ?_)
            refine lv_iinc (v := x3 + 1) (lv' := [(3, .int (x3 + 1)), (2, .int (x2 + 1)), (4, .ref (dA j5)), (0, .ref aX), (1, .int what)]) hx hb dX_countOfState_53 hl (k := 4) rfl rfl (by decide) rfl (fun ls hl => ?_)
            refine lv_goto (tgt := 18) hx hb dX_countOfState_56 (by decide) ?_
            exact ih (i + 1) _ _ (x_ltn ex3 hg3 c1 (by omega) (by omega)) (by omega) (by rw [ex3]; exact nI_1 i) (by have h9 := fDeclAt_some hg3 hnD ex3 (x_ltn ex3 hg3 c1 (by omega) (by omega)) o4; subst h9; subst ex2; simp [cntSt, c6]) hw1 hw2 _ _ _ (lv_sub hl [3, 4, 1, 0] rfl) hP hD hS
  refine lv_iload_n hx hb dX_countOfState_0 rfl (lv_at hl 1 rfl) ?_
  refine lv_bipush (v := 10) hx hb dX_countOfState_1 (by decide) ?_
  refine lv_icmp_lt (tgt := 12) hx hb dX_countOfState_3 (by decide) (fun c7 => ?_) (fun c7 => ?_)
  · refine lv_iconst (v := (-1)) hx hb dX_countOfState_12 (by decide) ?_
    exact x_iret (v := (-1)) hx hb hr hlocks ⟨(by simp [fCount, c7]), rfl⟩ hP hK hD hS dX_countOfState_13
  · refine lv_iload_n hx hb dX_countOfState_6 rfl (lv_at hl 1 rfl) ?_
    refine lv_bipush (v := 17) hx hb dX_countOfState_7 (by decide) ?_
    refine lv_icmp_le (tgt := 14) hx hb dX_countOfState_9 (by decide) (fun c8 => ?_) (fun c8 => ?_)
    · refine lv_iconst (v := 0) hx hb dX_countOfState_14 (by decide) ?_
      refine lv_istore_n (lv' := [(2, .int 0), (0, .ref aX), (1, .int what)]) hx hb dX_countOfState_15 rfl hl (by decide) rfl (fun ls hl => ?_)
      refine lv_iconst (v := 0) hx hb dX_countOfState_16 (by decide) ?_
      refine lv_istore_n (lv' := [(3, .int 0), (2, .int 0), (0, .ref aX), (1, .int what)]) hx hb dX_countOfState_17 rfl hl (by decide) rfl (fun ls hl => ?_)
      exact loop18 (nD + 1) 0 _ _ (Nat.zero_le _) (by omega) nI_0.symm rfl c7 c8 _ _ _ (lv_sub hl [2, 3, 1, 0] rfl) hP hD hS
    · refine lv_iconst (v := (-1)) hx hb dX_countOfState_12 (by decide) ?_
      exact x_iret (v := (-1)) hx hb hr hlocks ⟨(by simp [fCount, c7, c8]), rfl⟩ hP hK hD hS dX_countOfState_13
end
section
/-- the events l, one behind the other, from o on -/
def Chain (nx : Nat → Option Nat) : List Nat → Option Nat → Prop
  | [], o => o = none
  | k :: l, o => o = some k ∧ Chain nx l (nx k)
def fWrittenAt (f : Nat → Int32) (wr : List Nat) (v : Int32) : Option Nat := if v < 0 then none else if v < f 9 then wr[v.toNatClampNeg]? else none
def insAt (ev : Nat → Nat → Int32) (v : Nat → Int32) : Option Nat → List Nat → Option Nat × Option Nat
  | a, [] => (a, none)
  | a, b :: l => if fAhead v (ev b) = 0 then insAt ev v (some b) l else (a, some b)
def iNx (nx : Nat → Option Nat) (k : Nat) (q : Option Nat × Option Nat) : Nat → Option Nat := match q.1 with
  | none => upo nx k q.2
  | some a => upo (upo nx k q.2) a (some k)
def iFs (fst : Option Nat) (k : Nat) (q : Option Nat × Option Nat) : Option Nat := match q.1 with
  | none => some k
  | some _ => fst
theorem x_pl (v : Int32) : (v < 0 ∧ True) ∨ ∃ pl : Nat, pl < 2 ^ 31 ∧ v = nI pl := by
  by_cases h : v < 0
  · exact Or.inl ⟨h, trivial⟩
  · obtain ⟨j, hj, e⟩ := nI_of h; exact Or.inr ⟨j, hj, e⟩
theorem x_ltn' {x a : Int32} {i n : Nat} (hx : x = nI i) (ha : a = nI n) (h : ¬ a ≤ x) (hi : i < 2 ^ 31) (hn : n < 2 ^ 31) : i + 1 ≤ n := x_ltn hx ha h hi hn
theorem x_geq {x a : Int32} {i n : Nat} (hx : x = nI i) (ha : a = nI n) (h : a ≤ x) (hi : i ≤ n) (hn : n < 2 ^ 31) : i = n := x_gen hx ha h hi hn
theorem x_nb {v : Int32} (h0 : ¬ v < 0) : v.toNatClampNeg < 2 ^ 31 := by
  obtain ⟨j, hj, rfl⟩ := nI_of h0
  rw [nI_clamp hj]; exact hj
theorem x_lt9 {v a : Int32} {n : Nat} (h0 : ¬ v < 0) (h : v < a) (ha : a = nI n) (hn : n < 2 ^ 31) : v.toNatClampNeg < 0 + n := by
  obtain ⟨j, hj, rfl⟩ := nI_of h0
  rw [ha, nI_ltI hj hn] at h
  rw [nI_clamp hj]; omega
theorem va_rf_cat (o : Option Nat) : (va_rf o).category = 1 := by cases o <;> rfl
end
section
set_option maxHeartbeats 4000000 in
set_option maxRecDepth 100000 in
theorem c_D_writtenAt {l : Launch} {G : va_G} {cI cD cE : ClassId} {aX aR aD aE : Nat} {dA eA : Nat → Nat} {g ro : Nat → Int32} {fst : Option Nat} {nD nE : Nat} {d : Nat → Nat → Int32} {fw lw : Nat → Option Nat} {ed : Nat → Nat} {ev : Nat → Nat → Int32} {nx : Nat → Option Nat} {w : va_W} {sz : Nat} (hR : RX cI cD cE aX aR aD aE dA eA g ro fst nD nE d fw lw ed ev nx w) {j : Nat} (hj : j < nD) {wr : List Nat} (hc : Chain nx wr (fw j)) (hw9 : d j 9 = nI wr.length) (hwr : wr.length < 2 ^ 30) (v : Int32) : xMq l yD_writtenAt wsD_writtenAt ({ frames := 0, cells := 0, slots := 0, locals := 0 }) [.ref (dA j), .int v] G (xTys cI cD cE) w sz (fun r w' => r = (fWrittenAt (d j) wr v).map eA ∧ w = w') 0 0 := by
  refine x_ofW (fun A => va_Qq (fun r w' => r = (fWrittenAt (d j) wr v).map eA ∧ w = w') (xEnd G (xTys cI cD cE) A) A) cD_writtenAt 4 (some (.object NmE)) (by decide) rfl (Nat.le_of_ble_eq_true rfl) ?_
  intro p e s m below meth c A ls hx hb hr hlocks hml hnm hown hB hA hP hK hD hS hl
  have hl : lv_has ls 4 [(0, .ref (dA j)), (1, .int v)] := hl
  have hown : s.vm.findClass NmD = some m.cls := hown
  have loop21 : ∀ (L9 : List Nat) (o : Option Nat) (i pl : Nat) (x3 : Int32), Chain nx L9 o → okP nE o → x3 = nI i → i ≤ pl → pl < i + L9.length → fWrittenAt (d j) wr v = L9[pl - i]? → v = nI pl → pl < 2 ^ 31 → ∀ (ls : Array Slot) (H : Heap) (locs : List Loc), lv_has ls 4 [(0, .ref (dA j)), (1, .int v), (2, va_rf (Option.map eA o)), (3, .int x3)] → va_P G vwCl w H → va_D A w → va_S A s.heap H locs → W p l e ({ frames := 0, cells := 0, slots := 0, locals := 0 }) s m [.ref (dA j), .int v].toArray below meth c H locs 0 0 (MQ below (va_Qq (fun r w' => r = (fWrittenAt (d j) wr v).map eA ∧ w = w') (xEnd G (xTys cI cD cE) A) A) [.ref (dA j), .int v].toArray s 0 0 A) (F0 m 21 ls []) := by
    intro L9
    induction L9 with
    | nil =>
      intro o i pl x3 hc ho ex3 hi hl2 hq hv hpl ls H locs hl hP hD hS
      simp at hl2; omega
    | cons k L9 ih =>
      intro o i pl x3 hc ho ex3 hi hl2 hq hv hpl ls H locs hl hP hD hS
      obtain ⟨rfl, hc⟩ := hc
      have hk : k < nE := ho _ rfl
      have hl : lv_has ls 4 [(0, .ref (dA j)), (1, .int v), (2, .ref (eA k)), (3, .int x3)] := hl
      refine lv_iload_n hx hb dD_writtenAt_21 rfl (lv_at hl 3 rfl) ?_
      refine lv_iload_n hx hb dD_writtenAt_22 rfl (lv_at hl 1 rfl) ?_
      refine lv_icmp_ge (tgt := 41) hx hb dD_writtenAt_23 (by decide) (fun c1 => ?_) (fun c1 => ?_)
      · refine lv_aload_n hx hb dD_writtenAt_41 rfl (lv_at hl 2 rfl) ?_
        exact x_qret (r := some (eA k)) hx hb hr hlocks ⟨by have h9 := x_geq ex3 hv c1 hi (by omega); subst h9; rw [hq]; simp, rfl⟩ hP hK hD hS dD_writtenAt_42
      · refine lv_aload_n hx hb dD_writtenAt_26 rfl (lv_at hl 2 rfl) ?_
        refine lv_ifnull hx hb dD_writtenAt_27 ?_
        refine lv_aload_n hx hb dD_writtenAt_30 rfl (lv_at hl 2 rfl) ?_
        refine x_getE5 hk hx hb hB inBE hown hK hP hR (hB _ fl_D_59) dD_writtenAt_31 ?_
        refine x_astore_n (lv' := [(2, va_rf (Option.map eA (nx k))), (0, .ref (dA j)), (1, .int v), (3, .int x3)]) hx hb dD_writtenAt_34 rfl hl (by decide) rfl (fun ls hl => ?_)
        refine lv_iinc (v := x3 + 1) (lv' := [(3, .int (x3 + 1)), (2, va_rf (Option.map eA (nx k))), (0, .ref (dA j)), (1, .int v)]) hx hb dD_writtenAt_35 hl (k := 3) rfl rfl (by decide) (by simp [va_rf_cat]) (fun ls hl => ?_)
        refine lv_goto (tgt := 21) hx hb dD_writtenAt_38 (by decide) ?_
        exact ih (nx k) (i + 1) pl _ hc (hR.ok.2.2 _ hk).2 (by rw [ex3]; exact nI_1 i) (x_ltn' ex3 hv c1 (by omega) (by omega)) (by simp at hl2 ⊢; omega) (by have h9 := x_ltn' ex3 hv c1 (by omega) (by omega); rw [hq, show pl - i = (pl - (i + 1)) + 1 by omega]; rfl) hv hpl _ _ _ (lv_sub hl [2, 3, 1, 0] rfl) hP hD hS
  refine lv_iload_n hx hb dD_writtenAt_0 rfl (lv_at hl 1 rfl) ?_
  refine lv_if_lt (tgt := 12) hx hb dD_writtenAt_1 (by decide) (fun c2 => ?_) (fun c2 => ?_)
  · refine lv_null hx hb dD_writtenAt_12 ?_
    exact x_qret (r := none) hx hb hr hlocks ⟨by simp [fWrittenAt, c2], rfl⟩ hP hK hD hS dD_writtenAt_13
  · refine lv_iload_n hx hb dD_writtenAt_4 rfl (lv_at hl 1 rfl) ?_
    refine lv_aload_n hx hb dD_writtenAt_5 rfl (lv_at hl 0 rfl) ?_
    refine x_getD 9 hj hx hb hB inBD hown hK hP hR (by decide) (hB _ fl_D_71) rfl dD_writtenAt_6 ?_
    refine lv_icmp_lt (tgt := 14) hx hb dD_writtenAt_9 (by decide) (fun c3 => ?_) (fun c3 => ?_)
    · refine lv_aload_n hx hb dD_writtenAt_14 rfl (lv_at hl 0 rfl) ?_
      refine x_getD10 hj hx hb hB inBD hown hK hP hR (hB _ fl_D_68) dD_writtenAt_15 ?_
      refine x_astore_n (lv' := [(2, va_rf (Option.map eA (fw j))), (0, .ref (dA j)), (1, .int v)]) hx hb dD_writtenAt_18 rfl hl (by decide) rfl (fun ls hl => ?_)
      refine lv_iconst (v := 0) hx hb dD_writtenAt_19 (by decide) ?_
      refine lv_istore_n (i := 3) (lv' := [(3, .int 0), (2, va_rf (Option.map eA (fw j))), (0, .ref (dA j)), (1, .int v)]) hx hb dD_writtenAt_20 rfl hl (by decide) (by simp [va_rf_cat]) (fun ls hl => ?_)
      exact loop21 wr (fw j) 0 v.toNatClampNeg _ hc (hR.ok.2.1 _ hj).1 nI_0.symm (Nat.zero_le _) (x_lt9 c2 c3 hw9 (by omega)) (by simp [fWrittenAt, c2, c3]) (x_nI c2) (x_nb c2) _ _ _ (lv_sub hl [2, 3, 1, 0] rfl) hP hD hS
    · refine lv_null hx hb dD_writtenAt_12 ?_
      exact x_qret (r := none) hx hb hr hlocks ⟨by simp [fWrittenAt, c2, c3], rfl⟩ hP hK hD hS dD_writtenAt_13
set_option maxHeartbeats 4000000 in
set_option maxRecDepth 100000 in
theorem c_X_putInWaitingOrder {l : Launch} {G : va_G} {cI cD cE : ClassId} {aX aR aD aE : Nat} {dA eA : Nat → Nat} {g ro : Nat → Int32} {fst : Option Nat} {nD nE : Nat} {d : Nat → Nat → Int32} {fw lw : Nat → Option Nat} {ed : Nat → Nat} {ev : Nat → Nat → Int32} {nx : Nat → Option Nat} {w : va_W} {sz : Nat} (hR : RX cI cD cE aX aR aD aE dA eA g ro fst nD nE d fw lw ed ev nx w) {k : Nat} (hk : k < nE) {wl : List Nat} (hc : Chain nx wl fst) : xMv l yX_putInWaitingOrder wsX_putInWaitingOrder ({ frames := 1, cells := 0, slots := 0, locals := 21 }) [.ref aX, .ref (eA k)] G (xTys cI cD cE) w sz (fun w' => RX cI cD cE aX aR aD aE dA eA (upd g 7 (g 7 + 1)) ro (iFs fst k (insAt ev (ev k) none wl)) nD nE d fw lw ed ev (iNx nx k (insAt ev (ev k) none wl)) w') 0 0 := by
  refine x_ofW (fun A => va_Qv (fun w' => RX cI cD cE aX aR aD aE dA eA (upd g 7 (g 7 + 1)) ro (iFs fst k (insAt ev (ev k) none wl)) nD nE d fw lw ed ev (iNx nx k (insAt ev (ev k) none wl)) w') (xEnd G (xTys cI cD cE) A) A) cX_putInWaitingOrder 4 none (by decide) rfl (Nat.le_of_ble_eq_true rfl) ?_
  intro p e s m below meth c A ls hx hb hr hlocks hml hnm hown hB hA hP hK hD hS hl
  have hl : lv_has ls 4 [(0, .ref aX), (1, .ref (eA k))] := hl
  have hown : s.vm.findClass NmX = some m.cls := hown
  have loop7 : ∀ (L9 : List Nat) (o2 o3 : Option Nat), Chain nx L9 o3 → okP nE o2 → okP nE o3 → insAt ev (ev k) o2 L9 = insAt ev (ev k) none wl → ∀ (ls : Array Slot) (H : Heap) (locs : List Loc), lv_has ls 4 [(0, .ref aX), (1, .ref (eA k)), (2, va_rf (Option.map eA o2)), (3, va_rf (Option.map eA o3))] → va_P G vwCl w H → va_D A w → va_S A s.heap H locs → W p l e ({ frames := 1, cells := 0, slots := 0, locals := 21 }) s m [.ref aX, .ref (eA k)].toArray below meth c H locs 0 0 (MQ below (va_Qv (fun w' => RX cI cD cE aX aR aD aE dA eA (upd g 7 (g 7 + 1)) ro (iFs fst k (insAt ev (ev k) none wl)) nD nE d fw lw ed ev (iNx nx k (insAt ev (ev k) none wl)) w') (xEnd G (xTys cI cD cE) A) A) [.ref aX, .ref (eA k)].toArray s 0 0 A) (F0 m 7 ls []) := by
    intro L9
    induction L9 with
    | nil =>
      intro o2 o3 hc h2 h3 hq ls H locs hl hP hD hS
      obtain rfl : o3 = none := hc
      have hl : lv_has ls 4 [(0, .ref aX), (1, .ref (eA k)), (2, va_rf (Option.map eA o2)), (3, .null)] := hl
      refine lv_aload_nN hx hb dX_putInWaitingOrder_7 rfl (lv_at hl 3 rfl) ?_
      refine lv_ifnullN (tgt := 29) hx hb dX_putInWaitingOrder_8 (by decide) ?_
      cases o2 with
      | none =>
        have hl : lv_has ls 4 [(0, .ref aX), (1, .ref (eA k)), (2, .null), (3, .null)] := hl
        refine lv_aload_n hx hb dX_putInWaitingOrder_29 rfl (lv_at hl 1 rfl) ?_
        refine lv_aload_nN hx hb dX_putInWaitingOrder_30 rfl (lv_at hl 3 rfl) ?_
        refine x_putE5 none okP_none hk hx hb hB inBE hown hK hP hD hS hR (hB _ fl_X_107) dX_putInWaitingOrder_31 (fun w H locs hR hP hD hS => ?_)
        refine lv_aload_nN hx hb dX_putInWaitingOrder_34 rfl (lv_at hl 2 rfl) ?_
        refine lv_ifnonnullN hx hb dX_putInWaitingOrder_35 ?_
        refine lv_aload_n hx hb dX_putInWaitingOrder_38 rfl (lv_at hl 0 rfl) ?_
        refine lv_aload_n hx hb dX_putInWaitingOrder_39 rfl (lv_at hl 1 rfl) ?_
        refine x_putF (some k) (okP_some hk) hx hb hB inBX hown hK hP hD hS hR (hB _ fl_X_100) dX_putInWaitingOrder_40 (fun w H locs hR hP hD hS => ?_)
        refine lv_goto (tgt := 51) hx hb dX_putInWaitingOrder_43 (by decide) ?_
        refine lv_aload_n hx hb dX_putInWaitingOrder_51 rfl (lv_at hl 0 rfl) ?_
        refine lv_dup hx hb dX_putInWaitingOrder_52 rfl ?_
        refine x_getX 7 hx hb hB inBX hown hK hP hR rfl (hB _ fl_X_86) rfl dX_putInWaitingOrder_53 ?_
        refine lv_iconst (v := 1) hx hb dX_putInWaitingOrder_56 (by decide) ?_
        refine lv_iadd hx hb dX_putInWaitingOrder_57 ?_
        refine x_putX 7 ((g 7) + 1) hx hb hB inBX hown hK hP hD hS hR rfl (hB _ fl_X_86) rfl rfl (by decide +kernel) dX_putInWaitingOrder_58 (fun w H locs hR hP hD hS => ?_)
        exact x_vret hx hb hr hlocks (by (have hq2 := hq.symm); simp [insAt, ] at hq2; simpa [hq2, iFs, iNx] using hR) hP hK hD hS dX_putInWaitingOrder_61
      | some a =>
        have ha9 : a < nE := h2 _ rfl
        have hl : lv_has ls 4 [(0, .ref aX), (1, .ref (eA k)), (2, .ref (eA a)), (3, .null)] := hl
        refine lv_aload_n hx hb dX_putInWaitingOrder_29 rfl (lv_at hl 1 rfl) ?_
        refine lv_aload_nN hx hb dX_putInWaitingOrder_30 rfl (lv_at hl 3 rfl) ?_
        refine x_putE5 none okP_none hk hx hb hB inBE hown hK hP hD hS hR (hB _ fl_X_107) dX_putInWaitingOrder_31 (fun w H locs hR hP hD hS => ?_)
        refine lv_aload_n hx hb dX_putInWaitingOrder_34 rfl (lv_at hl 2 rfl) ?_
        refine lv_ifnonnull (tgt := 46) hx hb dX_putInWaitingOrder_35 (by decide) ?_
        refine lv_aload_n hx hb dX_putInWaitingOrder_46 rfl (lv_at hl 2 rfl) ?_
        refine lv_aload_n hx hb dX_putInWaitingOrder_47 rfl (lv_at hl 1 rfl) ?_
        refine x_putE5 (some k) (okP_some hk) ha9 hx hb hB inBE hown hK hP hD hS hR (hB _ fl_X_107) dX_putInWaitingOrder_48 (fun w H locs hR hP hD hS => ?_)
        refine lv_aload_n hx hb dX_putInWaitingOrder_51 rfl (lv_at hl 0 rfl) ?_
        refine lv_dup hx hb dX_putInWaitingOrder_52 rfl ?_
        refine x_getX 7 hx hb hB inBX hown hK hP hR rfl (hB _ fl_X_86) rfl dX_putInWaitingOrder_53 ?_
        refine lv_iconst (v := 1) hx hb dX_putInWaitingOrder_56 (by decide) ?_
        refine lv_iadd hx hb dX_putInWaitingOrder_57 ?_
        refine x_putX 7 ((g 7) + 1) hx hb hB inBX hown hK hP hD hS hR rfl (hB _ fl_X_86) rfl rfl (by decide +kernel) dX_putInWaitingOrder_58 (fun w H locs hR hP hD hS => ?_)
        exact x_vret hx hb hr hlocks (by (have hq2 := hq.symm); simp [insAt, ] at hq2; simpa [hq2, iFs, iNx] using hR) hP hK hD hS dX_putInWaitingOrder_61
    | cons b L9 ih =>
      intro o2 o3 hc h2 h3 hq ls H locs hl hP hD hS
      obtain ⟨rfl, hc⟩ := hc
      have hb9 : b < nE := h3 _ rfl
      have hl : lv_has ls 4 [(0, .ref aX), (1, .ref (eA k)), (2, va_rf (Option.map eA o2)), (3, .ref (eA b))] := hl
      refine lv_aload_n hx hb dX_putInWaitingOrder_7 rfl (lv_at hl 3 rfl) ?_
      refine lv_ifnull hx hb dX_putInWaitingOrder_8 ?_
      refine lv_aload_n hx hb dX_putInWaitingOrder_11 rfl (lv_at hl 1 rfl) ?_
      refine lv_aload_n hx hb dX_putInWaitingOrder_12 rfl (lv_at hl 3 rfl) ?_
      obtain ⟨_, hq1⟩ := hR.ec hk
      refine x_calli (va_runV (As := [.ref (eA b)]) (rest := []) ⟨hx, hb, hml, hown, hB⟩ (c_E_goesAheadOf hR hk hb9) (cwV 1 hB (gV ml_X_206 im_E_goesAheadOf sl_E_goesAheadOf ini_E kc_E_goesAheadOf) rfl rfl rfl (by decide +kernel) ⟨Nat.le_of_ble_eq_true rfl, Nat.le_of_ble_eq_true rfl⟩) (x_preV hP hK hD hq1 rfl) rfl rfl hl.1 rfl (lv_room (Nat.le_of_ble_eq_true rfl)) dX_putInWaitingOrder_13 ⟨Nat.le_of_ble_eq_true rfl, Nat.le_of_ble_eq_true rfl⟩) hD hS hA (fun r2 w H locs hw hP hD hS => ?_)
      obtain ⟨e3, rfl⟩ := hw
      refine lv_if_ne (tgt := 29) hx hb dX_putInWaitingOrder_16 (by decide) (fun c4 => ?_) (fun c4 => ?_)
      · cases o2 with
        | none =>
          have hl : lv_has ls 4 [(0, .ref aX), (1, .ref (eA k)), (2, .null), (3, .ref (eA b))] := hl
          refine lv_aload_n hx hb dX_putInWaitingOrder_29 rfl (lv_at hl 1 rfl) ?_
          refine lv_aload_n hx hb dX_putInWaitingOrder_30 rfl (lv_at hl 3 rfl) ?_
          refine x_putE5 (some b) (okP_some hb9) hk hx hb hB inBE hown hK hP hD hS hR (hB _ fl_X_107) dX_putInWaitingOrder_31 (fun w H locs hR hP hD hS => ?_)
          refine lv_aload_nN hx hb dX_putInWaitingOrder_34 rfl (lv_at hl 2 rfl) ?_
          refine lv_ifnonnullN hx hb dX_putInWaitingOrder_35 ?_
          refine lv_aload_n hx hb dX_putInWaitingOrder_38 rfl (lv_at hl 0 rfl) ?_
          refine lv_aload_n hx hb dX_putInWaitingOrder_39 rfl (lv_at hl 1 rfl) ?_
          refine x_putF (some k) (okP_some hk) hx hb hB inBX hown hK hP hD hS hR (hB _ fl_X_100) dX_putInWaitingOrder_40 (fun w H locs hR hP hD hS => ?_)
          refine lv_goto (tgt := 51) hx hb dX_putInWaitingOrder_43 (by decide) ?_
          refine lv_aload_n hx hb dX_putInWaitingOrder_51 rfl (lv_at hl 0 rfl) ?_
          refine lv_dup hx hb dX_putInWaitingOrder_52 rfl ?_
          refine x_getX 7 hx hb hB inBX hown hK hP hR rfl (hB _ fl_X_86) rfl dX_putInWaitingOrder_53 ?_
          refine lv_iconst (v := 1) hx hb dX_putInWaitingOrder_56 (by decide) ?_
          refine lv_iadd hx hb dX_putInWaitingOrder_57 ?_
          refine x_putX 7 ((g 7) + 1) hx hb hB inBX hown hK hP hD hS hR rfl (hB _ fl_X_86) rfl rfl (by decide +kernel) dX_putInWaitingOrder_58 (fun w H locs hR hP hD hS => ?_)
          exact x_vret hx hb hr hlocks (by subst e3; (have hq2 := hq.symm); simp [insAt, c4] at hq2; simpa [hq2, iFs, iNx] using hR) hP hK hD hS dX_putInWaitingOrder_61
        | some a =>
          have ha9 : a < nE := h2 _ rfl
          have hl : lv_has ls 4 [(0, .ref aX), (1, .ref (eA k)), (2, .ref (eA a)), (3, .ref (eA b))] := hl
          refine lv_aload_n hx hb dX_putInWaitingOrder_29 rfl (lv_at hl 1 rfl) ?_
          refine lv_aload_n hx hb dX_putInWaitingOrder_30 rfl (lv_at hl 3 rfl) ?_
          refine x_putE5 (some b) (okP_some hb9) hk hx hb hB inBE hown hK hP hD hS hR (hB _ fl_X_107) dX_putInWaitingOrder_31 (fun w H locs hR hP hD hS => ?_)
          refine lv_aload_n hx hb dX_putInWaitingOrder_34 rfl (lv_at hl 2 rfl) ?_
          refine lv_ifnonnull (tgt := 46) hx hb dX_putInWaitingOrder_35 (by decide) ?_
          refine lv_aload_n hx hb dX_putInWaitingOrder_46 rfl (lv_at hl 2 rfl) ?_
          refine lv_aload_n hx hb dX_putInWaitingOrder_47 rfl (lv_at hl 1 rfl) ?_
          refine x_putE5 (some k) (okP_some hk) ha9 hx hb hB inBE hown hK hP hD hS hR (hB _ fl_X_107) dX_putInWaitingOrder_48 (fun w H locs hR hP hD hS => ?_)
          refine lv_aload_n hx hb dX_putInWaitingOrder_51 rfl (lv_at hl 0 rfl) ?_
          refine lv_dup hx hb dX_putInWaitingOrder_52 rfl ?_
          refine x_getX 7 hx hb hB inBX hown hK hP hR rfl (hB _ fl_X_86) rfl dX_putInWaitingOrder_53 ?_
          refine lv_iconst (v := 1) hx hb dX_putInWaitingOrder_56 (by decide) ?_
          refine lv_iadd hx hb dX_putInWaitingOrder_57 ?_
          refine x_putX 7 ((g 7) + 1) hx hb hB inBX hown hK hP hD hS hR rfl (hB _ fl_X_86) rfl rfl (by decide +kernel) dX_putInWaitingOrder_58 (fun w H locs hR hP hD hS => ?_)
          exact x_vret hx hb hr hlocks (by subst e3; (have hq2 := hq.symm); simp [insAt, c4] at hq2; simpa [hq2, iFs, iNx] using hR) hP hK hD hS dX_putInWaitingOrder_61
      · refine lv_aload_n hx hb dX_putInWaitingOrder_19 rfl (lv_at hl 3 rfl) ?_
        refine lv_astore_n (lv' := [(2, .ref (eA b)), (0, .ref aX), (1, .ref (eA k)), (3, .ref (eA b))]) hx hb dX_putInWaitingOrder_20 rfl hl (by decide) rfl (fun ls hl => ?_)
        refine lv_aload_n hx hb dX_putInWaitingOrder_21 rfl (lv_at hl 3 rfl) ?_
        refine x_getE5 hb9 hx hb hB inBE hown hK hP hR (hB _ fl_X_107) dX_putInWaitingOrder_22 ?_
        refine x_astore_n (lv' := [(3, va_rf (Option.map eA (nx b))), (2, .ref (eA b)), (0, .ref aX), (1, .ref (eA k))]) hx hb dX_putInWaitingOrder_25 rfl hl (by decide) rfl (fun ls hl => ?_)
        refine lv_goto (tgt := 7) hx hb dX_putInWaitingOrder_26 (by decide) ?_
        exact ih (some b) (nx b) hc (okP_some hb9) (hR.ok.2.2 _ hb9).2 (by rw [← hq]; subst e3; simp [insAt, c4]) _ _ _ (lv_sub hl [2, 3, 1, 0] rfl) hP hD hS
  refine lv_null hx hb dX_putInWaitingOrder_0 ?_
  refine lv_astore_nN (lv' := [(2, .null), (0, .ref aX), (1, .ref (eA k))]) hx hb dX_putInWaitingOrder_1 rfl hl (by decide) rfl (fun ls hl => ?_)
  refine lv_aload_n hx hb dX_putInWaitingOrder_2 rfl (lv_at hl 1 rfl) ?_
  refine x_getF hx hb hB inBX hown hK hP hR (hB _ fl_X_100) dX_putInWaitingOrder_3 ?_
  refine x_astore_n (lv' := [(3, va_rf (Option.map eA (fst))), (2, .null), (0, .ref aX), (1, .ref (eA k))]) hx hb dX_putInWaitingOrder_6 rfl hl (by decide) rfl (fun ls hl => ?_)
  exact loop7 wl none fst hc okP_none hR.ok.1 rfl _ _ _ (lv_sub hl [2, 3, 1, 0] rfl) hP hD hS
end
section
-- THE REFERENCE'S STATE: h: its numbers by their places (0 thrown, 1 now, 2 people, 4 declarations, 13 events, 21 turns, 22 opens, 23 closes); ar k: what the array at place k holds
def mNum (k : Nat) : Bool := k == 0 || k == 1 || k == 2 || k == 4 || k == 13 || k == 21 || k == 22 || k == 23
def mInt (k : Nat) : Bool := k == 3 || k == 5 || k == 6 || k == 7 || k == 8 || k == 9 || k == 10 || k == 11 || k == 12 || k == 14 || k == 15 || k == 16 || k == 17 || k == 19 || k == 20
def mBoo (k : Nat) : Bool := k == 18 || k == 24
def mArr (k : Nat) : Bool := mInt k || mBoo k
def mi : Nat → Nat
  | 3 => 1 | 5 => 2 | 6 => 3 | 7 => 4 | 8 => 5 | 9 => 6 | 10 => 7 | 11 => 8 | 12 => 9 | 14 => 10 | 15 => 11 | 16 => 12 | 17 => 13 | 18 => 14 | 19 => 15 | 20 => 16 | 24 => 17 | _ => 0
def mLen : Nat → Nat
  | 3 => 12 | 5 => 20 | 6 => 20 | 7 => 20 | 8 => 20 | 9 => 20 | 10 => 20 | 11 => 20 | 12 => 20 | 24 => 10 | _ => 120
def mFs (am : Nat → Nat) (h : Nat → Int32) : List Value := [.int (h 0), .int (h 1), .int (h 2), .ref (am 3), .int (h 4), .ref (am 5), .ref (am 6), .ref (am 7), .ref (am 8), .ref (am 9), .ref (am 10), .ref (am 11), .ref (am 12), .int (h 13), .ref (am 14), .ref (am 15), .ref (am 16), .ref (am 17), .ref (am 18), .ref (am 19), .ref (am 20), .int (h 21), .int (h 22), .int (h 23), .ref (am 24)]
abbrev mTys (ca : Nat → ClassId) : List (ClassId × FieldType) := [(ca 3, .int), (ca 5, .int), (ca 6, .int), (ca 7, .int), (ca 8, .int), (ca 9, .int), (ca 10, .int), (ca 11, .int), (ca 12, .int), (ca 14, .int), (ca 15, .int), (ca 16, .int), (ca 17, .int), (ca 18, .boolean), (ca 19, .int), (ca 20, .int), (ca 24, .boolean)]
def RM (ca : Nat → ClassId) (aM : Nat) (am : Nat → Nat) (h : Nat → Int32) (ar : Nat → Nat → Int32) (w : va_W) : Prop :=
  w[0]? = some (aM, .inr (ciM, mFs am h)) ∧ ∀ k, mArr k = true → w[mi k]? = some (am k, arI (ca k) (mLen k) (ar k))
theorem mArr_lt {k : Nat} (h : mArr k = true) : k < 25 := by
  simp only [mArr, mInt, mBoo, Bool.or_eq_true, beq_iff_eq] at h; omega
theorem mNum_lt {k : Nat} (h : mNum k = true) : k < 25 := by
  simp only [mNum, Bool.or_eq_true, beq_iff_eq] at h; omega
theorem mi_inj0 : ∀ a, a < 25 → ∀ b, b < 25 → mArr a = true → mArr b = true → mi a = mi b → a = b := by decide +kernel
theorem mi_pos0 : ∀ a, a < 25 → mArr a = true → mi a ≠ 0 := by decide +kernel
theorem mTys_i0 (ca : Nat → ClassId) : ∀ k, mInt k = true → (mTys ca)[mi k - 1]? = some (ca k, .int) := by
  intro k h
  simp only [mInt, Bool.or_eq_true, beq_iff_eq] at h
  rcases h with ((((((((((((((rfl | rfl) | rfl) | rfl) | rfl) | rfl) | rfl) | rfl) | rfl) | rfl) | rfl) | rfl) | rfl) | rfl) | rfl) <;> rfl
theorem mTys_b0 (ca : Nat → ClassId) : ∀ k, mBoo k = true → (mTys ca)[mi k - 1]? = some (ca k, .boolean) := by
  intro k h
  simp only [mBoo, Bool.or_eq_true, beq_iff_eq] at h
  rcases h with rfl | rfl <;> rfl
theorem mFs_set {am : Nat → Nat} {h : Nat → Int32} {v : Int32} {k : Nat} (hk : mNum k = true) : (mFs am h).set k (.int v) = mFs am (upd h k v) := by
  simp only [mNum, Bool.or_eq_true, beq_iff_eq] at hk
  rcases hk with ((((((rfl | rfl) | rfl) | rfl) | rfl) | rfl) | rfl) | rfl <;> rfl
theorem mFs_get {am : Nat → Nat} {h : Nat → Int32} {k : Nat} (hk : mNum k = true) : (mFs am h)[k]? = some (.int (h k)) := by
  simp only [mNum, Bool.or_eq_true, beq_iff_eq] at hk
  rcases hk with ((((((rfl | rfl) | rfl) | rfl) | rfl) | rfl) | rfl) | rfl <;> rfl
theorem mFs_arr {am : Nat → Nat} {h : Nat → Int32} {k : Nat} (hk : mArr k = true) : (mFs am h)[k]? = some (.ref (am k)) := by
  simp only [mArr, mInt, mBoo, Bool.or_eq_true, beq_iff_eq] at hk
  rcases hk with ((((((((((((((rfl | rfl) | rfl) | rfl) | rfl) | rfl) | rfl) | rfl) | rfl) | rfl) | rfl) | rfl) | rfl) | rfl) | rfl) | (rfl | rfl) <;> rfl
def mSt (ar : Nat → Nat → Int32) (p j : Nat) (v : Int32) : Nat → Nat → Int32 := upf ar p (upd (ar p) j v)
section MXR
variable {p : Program} {l : Launch} {e : Env} {R : Room} {s : State} {m : MethodId} {args : Array Value} {below : List Frame} {meth : Method} {c : Code} {H : Heap} {locs : List Loc} {cells slots : Nat} {Q : State → Prop}
variable {cc : ByteArray} {pc : Nat} {ls : Array Slot} {rest : List Value} {A : Nat → Prop} {H0 : Heap} {G : va_G} {Ts : List Cond} {own : String} {index : Nat}
variable {ca : Nat → ClassId} {aM : Nat} {am : Nat → Nat} {h : Nat → Int32} {ar : Nat → Nat → Int32} {w : va_W}
theorem RM.setO (hR : RM ca aM am h ar w) (h' : Nat → Int32) : RM ca aM am h' ar (w.set 0 (aM, .inr (ciM, mFs am h'))) :=
  ⟨x_set_eq hR.1, fun k hk => x_set_ne (hR.2 k hk) (fun z => mi_pos0 k (mArr_lt hk) hk z.symm)⟩
theorem RM.setA (hR : RM ca aM am h ar w) {k : Nat} (hk : mArr k = true) (f : Nat → Int32) : RM ca aM am h (upf ar k f) (w.set (mi k) (am k, arI (ca k) (mLen k) f)) := by
  refine ⟨x_set_ne hR.1 (mi_pos0 k (mArr_lt hk) hk), fun i hi => ?_⟩
  by_cases e : i = k
  · subst e; rw [upf_eq]; exact x_set_eq (hR.2 i hi)
  · rw [upf_ne e]; exact x_set_ne (hR.2 i hi) (fun z => e (mi_inj0 i (mArr_lt hi) k (mArr_lt hk) hi hk z.symm))
theorem m_get (k : Nat) (hx : p.tables.exec = Jvm.exec) (hb : c.code = cc) (hts : ∀ w ∈ Ts, w.before args s = true) (hin : ∀ w ∈ u_ws NmM TmM 25, w ∈ Ts) (hown : s.vm.findClass own = some m.cls) (hK : va_K G vwCl (mTys ca) s) (hP : va_P G vwCl w H) (hR : RM ca aM am h ar w) (hk : mNum k = true)
    (hlink : (Cond.fieldLink own index NmM (TmM k).2.1 (TmM k).2.2.1).before args s = true) (hsame : (TmM k).1 = NmM) (hdg : decode cc pc = .ok (.getfield index, 3))
    (kk : W p l e R s m args below meth c H locs cells slots Q (F0 m (pc + 3) ls (.int (h k) :: rest))) : W p l e R s m args below meth c H locs cells slots Q (F0 m pc ls (.ref aM :: rest)) :=
  va_get (D := G) (ci := ciM) (v := .int (h k)) (C := NmM) (T := TmM) (N := 25) hx hb hts hin hown hK hP 0 hR.1 rfl k (mNum_lt hk) hlink (fun _ h9 => by rw [hsame] at h9; exact h9) (mFs_get hk) hdg kk
theorem m_arr (k : Nat) (hx : p.tables.exec = Jvm.exec) (hb : c.code = cc) (hts : ∀ w ∈ Ts, w.before args s = true) (hin : ∀ w ∈ u_ws NmM TmM 25, w ∈ Ts) (hown : s.vm.findClass own = some m.cls) (hK : va_K G vwCl (mTys ca) s) (hP : va_P G vwCl w H) (hR : RM ca aM am h ar w) (hk : mArr k = true)
    (hlink : (Cond.fieldLink own index NmM (TmM k).2.1 (TmM k).2.2.1).before args s = true) (hsame : (TmM k).1 = NmM) (hdg : decode cc pc = .ok (.getfield index, 3))
    (kk : W p l e R s m args below meth c H locs cells slots Q (F0 m (pc + 3) ls (.ref (am k) :: rest))) : W p l e R s m args below meth c H locs cells slots Q (F0 m pc ls (.ref aM :: rest)) :=
  va_get (D := G) (ci := ciM) (v := .ref (am k)) (C := NmM) (T := TmM) (N := 25) hx hb hts hin hown hK hP 0 hR.1 rfl k (mArr_lt hk) hlink (fun _ h9 => by rw [hsame] at h9; exact h9) (mFs_arr hk) hdg kk
theorem m_put (k : Nat) (v : Int32) (hx : p.tables.exec = Jvm.exec) (hb : c.code = cc) (hts : ∀ w ∈ Ts, w.before args s = true) (hin : ∀ w ∈ u_ws NmM TmM 25, w ∈ Ts) (hown : s.vm.findClass own = some m.cls) (hK : va_K G vwCl (mTys ca) s) (hP : va_P G vwCl w H) (hD : va_D A w) (hS : va_S A H0 H locs) (hR : RM ca aM am h ar w) (hk : mNum k = true)
    (hlink : (Cond.fieldLink own index NmM (TmM k).2.1 (TmM k).2.2.1).before args s = true) (hsame : (TmM k).1 = NmM) (hfin : (TmM k).2.2.2 = false) (hd : parseFieldDescriptor (TmM k).2.2.1 = some .int) (hdg : decode cc pc = .ok (.putfield index, 3))
    (kk : ∀ (w' : va_W) (H1 : Heap) (locs1 : List Loc), RM ca aM am (upd h k v) ar w' → va_P G vwCl w' H1 → va_D A w' → va_S A H0 H1 locs1 → W p l e R s m args below meth c H1 locs1 cells slots Q (F0 m (pc + 3) ls rest)) : W p l e R s m args below meth c H locs cells slots Q (F0 m pc ls (.int v :: .ref aM :: rest)) :=
  va_put (D := G) (ci := ciM) (v := .int v) (ty := .int) (C := NmM) (T := TmM) (N := 25) hx hb hts hin tyM tyM_ok nmM hown hK hP hD hS 0 hR.1 rfl k (mNum_lt hk) hlink (fun _ h9 => by rw [hsame] at h9; exact h9) hfin hd rfl rfl (mNum_lt hk) hdg
    (fun H1 locs1 hP hD hS => by rw [mFs_set hk] at hP hD; exact kk _ H1 locs1 (hR.setO (upd h k v)) hP hD hS)
theorem m_ld (k : Nat) {i : Int32} (hin : vp_in i (mLen k)) (hx : p.tables.exec = Jvm.exec) (hb : c.code = cc) (hK : va_K G vwCl (mTys ca) s) (hP : va_P G vwCl w H) (hR : RM ca aM am h ar w) (hk : mInt k = true) (hdg : decode cc pc = .ok (.iaload, 1))
    (kk : W p l e R s m args below meth c H locs cells slots Q (F0 m (pc + 1) ls (.int (ar k i.toNatClampNeg) :: rest))) : W p l e R s m args below meth c H locs cells slots Q (F0 m pc ls (.int i :: .ref (am k) :: rest)) :=
  va_iald hx hb hK hP (mi k) (mi k - 1) (hR.2 k (by rw [mArr, hk]; rfl)) (mTys_i0 ca k hk) hin hdg kk
theorem m_ldz (k : Nat) {i : Int32} (hin : vp_in i (mLen k)) (hx : p.tables.exec = Jvm.exec) (hb : c.code = cc) (hK : va_K G vwCl (mTys ca) s) (hP : va_P G vwCl w H) (hR : RM ca aM am h ar w) (hk : mBoo k = true) (hdg : decode cc pc = .ok (.baload, 1))
    (kk : W p l e R s m args below meth c H locs cells slots Q (F0 m (pc + 1) ls (.int (ar k i.toNatClampNeg) :: rest))) : W p l e R s m args below meth c H locs cells slots Q (F0 m pc ls (.int i :: .ref (am k) :: rest)) :=
  va_zald hx hb hK hP (mi k) (mi k - 1) (hR.2 k (by rw [mArr, hk, Bool.or_true])) (mTys_b0 ca k hk) hin hdg kk
theorem m_st (k : Nat) {i x : Int32} (hin : vp_in i (mLen k)) (hx : p.tables.exec = Jvm.exec) (hb : c.code = cc) (hK : va_K G vwCl (mTys ca) s) (hP : va_P G vwCl w H) (hD : va_D A w) (hS : va_S A H0 H locs) (hR : RM ca aM am h ar w) (hk : mInt k = true) (hdg : decode cc pc = .ok (.iastore, 1))
    (kk : ∀ (w' : va_W) (H1 : Heap) (locs1 : List Loc), RM ca aM am h (mSt ar k i.toNatClampNeg x) w' → va_P G vwCl w' H1 → va_D A w' → va_S A H0 H1 locs1 → W p l e R s m args below meth c H1 locs1 cells slots Q (F0 m (pc + 1) ls rest)) : W p l e R s m args below meth c H locs cells slots Q (F0 m pc ls (.int x :: .int i :: .ref (am k) :: rest)) :=
  va_iast hx hb hK hP hD hS (mi k) (mi k - 1) (hR.2 k (by rw [mArr, hk]; rfl)) (mTys_i0 ca k hk) hin hdg (fun H1 locs1 hP hD hS => kk _ H1 locs1 (hR.setA (by rw [mArr, hk]; rfl) _) hP hD hS)
theorem m_stz (k : Nat) {i x : Int32} (hv : vp_nar .boolean x = x) (hin : vp_in i (mLen k)) (hx : p.tables.exec = Jvm.exec) (hb : c.code = cc) (hK : va_K G vwCl (mTys ca) s) (hP : va_P G vwCl w H) (hD : va_D A w) (hS : va_S A H0 H locs) (hR : RM ca aM am h ar w) (hk : mBoo k = true) (hdg : decode cc pc = .ok (.bastore, 1))
    (kk : ∀ (w' : va_W) (H1 : Heap) (locs1 : List Loc), RM ca aM am h (mSt ar k i.toNatClampNeg x) w' → va_P G vwCl w' H1 → va_D A w' → va_S A H0 H1 locs1 → W p l e R s m args below meth c H1 locs1 cells slots Q (F0 m (pc + 1) ls rest)) : W p l e R s m args below meth c H locs cells slots Q (F0 m pc ls (.int x :: .int i :: .ref (am k) :: rest)) :=
  va_zast hx hb hK hP hD hS (mi k) (mi k - 1) (hR.2 k (by rw [mArr, hk, Bool.or_true])) (mTys_b0 ca k hk) hin hdg (fun H1 locs1 hP hD hS => by rw [hv] at hP hD; exact kk _ H1 locs1 (hR.setA (by rw [mArr, hk, Bool.or_true]) _) hP hD hS)
end MXR
end
section
-- WHAT EACH METHOD OF THE REFERENCE ANSWERS AND DOES
def mIn (v a b : Int32) : Int32 := if v < a then 0 else if b < v then 0 else 1
def mPers (h : Nat → Int32) (v : Int32) : Int32 := if v < 0 then 0 else if h 2 ≤ v then 0 else 1
def mOne (h : Nat → Int32) (v : Int32) : Int32 := if v < 0 then 0 else if h 4 ≤ v then 0 else 1
def mOff (k : Int32) : Int32 := if k ≤ 1 then (if k = 8 then 1 else 0) else if k < 6 then 1 else if k = 8 then 1 else 0
def mMay (k who rl tr : Int32) : Int32 := if mOff k = 0 then (if k = 1 then (if rl = 1 then 0 else 1) else if k = 7 then (if rl = 2 then 1 else 0) else if who = tr then 1 else 0) else if rl = 1 then 1 else 0
def mFits (s kd k : Int32) : Int32 :=
  if k = 0 then (if s = 0 then 1 else 0) else if k = 1 then (if 3 ≤ s then 0 else 1) else if k = 2 then (if s = 1 then 1 else 0) else if k = 3 then (if s = 2 then 1 else 0) else if k = 4 then (if s = 3 then 1 else 0) else if k = 5 then (if s = 3 then 1 else 0)
  else if k = 7 then (if s = 4 then (if kd ≤ 0 then 0 else 1) else 0) else if k = 8 then (if s = 4 then (if kd = 0 then 1 else if s = 5 then 1 else 0) else if s = 5 then 1 else 0) else (if s = 2 then 1 else if s = 3 then 1 else 0)
def mHas (mk m : Int32) : Int32 := if mk &&& m ≤ 0 then 0 else 1
def mMarked (mk kd k : Int32) : Int32 := if k = 1 then (if mHas mk 1 = 0 then 1 else 0) else if k = 2 then (if kd = 1 then 1 else if mHas mk 1 = 0 then 0 else 1) else if k = 6 then (if mHas mk 2 = 0 then 1 else 0) else if k = 9 then (if mHas mk 4 = 0 then 0 else 1) else 1
def mFM (s kd mk k : Int32) : Int32 := if mFits s kd k = 0 then 4 else if mMarked mk kd k = 0 then 5 else 0
def mWhyV (fl op cl k who rl tr tm s kd mk : Int32) : Int32 :=
  if fl = 0 then (if mMay k who rl tr = 0 then 2 else if mOff k = 0 then mFM s kd mk k else if tm - tm / 24 * 24 < op then 3 else if tm - tm / 24 * 24 < cl then mFM s kd mk k else 3) else 1
def mWhy (h : Nat → Int32) (ar : Nat → Nat → Int32) (e : Nat) : Int32 :=
  mWhyV (ar 24 (ar 15 e).toNatClampNeg) (h 22) (h 23) (ar 15 e) (ar 16 e) (ar 3 (ar 16 e).toNatClampNeg) (ar 6 (ar 14 e).toNatClampNeg) (ar 17 e) (ar 7 (ar 14 e).toNatClampNeg) (ar 5 (ar 14 e).toNatClampNeg) (ar 8 (ar 14 e).toNatClampNeg)
def mWhyA (ar : Nat → Nat → Int32) (e : Nat) : Nat → Nat → Int32 := if ar 24 (ar 15 e).toNatClampNeg = 0 then ar else mSt ar 24 (ar 15 e).toNatClampNeg 0
def mBec (ar : Nat → Nat → Int32) (j : Nat) (s t : Int32) : Nat → Nat → Int32 := if ar 7 j = s then ar else mSt (mSt (mSt ar 7 j s) 10 j t) 11 j (-1)
def mRel (ar : Nat → Nat → Int32) (j : Nat) (t : Int32) : Nat → Nat → Int32 :=
  if ar 7 j = 2 then (if ar 9 j = 0 then (if mHas (ar 8 j) 4 = 0 then (if mHas (ar 8 j) 1 = 0 then ar else if 0 < ar 5 j then mBec ar j 4 t else if mHas (ar 8 j) 2 = 0 then ar else mBec ar j 4 t) else ar) else ar) else ar
def mOr (k : Int32) : Int32 := if k = 1 then 1 else if k = 6 then 2 else if k = 5 then 4 else 0
def mThen (k s : Int32) : Int32 := if k = 0 then 1 else if k = 2 then 2 else if k = 4 then 2 else if k = 5 then 2 else if k = 3 then 3 else if k = 7 then 5 else if k = 8 then 7 else s
def mHap (ar : Nat → Nat → Int32) (j : Nat) (k t : Int32) : Nat → Nat → Int32 :=
  mRel (mBec (mSt (mSt ar 8 j (ar 8 j ||| mOr k)) 8 j ((mSt ar 8 j (ar 8 j ||| mOr k)) 8 j - (if k = 9 then 4 else 0))) j (mThen k (ar 7 j)) t) j t
def onesL (v : Int32) : Nat → Int32
  | 0 => 0
  | n + 1 => onesL v n + (v >>> (nI n &&& 31) &&& 1)
def mCntW (ar : Nat → Nat → Int32) : Nat → Int32
  | 0 => 0
  | n + 1 => mCntW ar n + (if ar 18 n = 0 then 0 else 1)
def mCntO (ar : Nat → Nat → Int32) (d : Int32) : Nat → Int32
  | 0 => 0
  | n + 1 => mCntO ar d n + (if ar 14 n = d then (if ar 18 n = 0 then 1 else 0) else 0)
def mCntS (ar : Nat → Nat → Int32) (x : Int32) : Nat → Int32
  | 0 => 0
  | n + 1 => mCntS ar x n + (if ar 7 n = x then 1 else 0)
theorem mHas01 (a b : Int32) : mHas a b = 0 ∨ mHas a b = 1 := by unfold mHas; split <;> simp
end
section
set_option maxHeartbeats 4000000 in
set_option maxRecDepth 100000 in
theorem c_M_thrown {l : Launch} {G : va_G} {ca : Nat → ClassId} {aM : Nat} {am : Nat → Nat} {h : Nat → Int32} {ar : Nat → Nat → Int32} {w : va_W} {sz : Nat} (hR : RM ca aM am h ar w)   : xMi l yM_thrown wsM_thrown ({ frames := 0, cells := 0, slots := 0, locals := 0 }) [.ref aM] G (mTys ca) w sz (fun r w' => r = h 0 ∧ w = w') 0 0 := by
  refine x_ofW (fun A => va_Qi (fun r w' => r = h 0 ∧ w = w') (xEnd G (mTys ca) A) A) cM_thrown 1 (some .int) (by decide) rfl (Nat.le_of_ble_eq_true rfl) ?_
  intro p e s m below meth c A ls hx hb hr hlocks hml hnm hown hB hA hP hK hD hS hl
  have hl : lv_has ls 1 [(0, .ref aM)] := hl
  have hown : s.vm.findClass NmM = some m.cls := hown
  refine lv_aload_n hx hb dM_thrown_0 rfl (lv_at hl 0 rfl) ?_
  refine m_get 0 hx hb hB inBM hown hK hP hR rfl (hB _ fl_M_69) rfl dM_thrown_1 ?_
  exact x_iret (v := h 0) hx hb hr hlocks ⟨(by first | (simp []; done) | (simp_all []; done)), rfl⟩ hP hK hD hS dM_thrown_4
set_option maxHeartbeats 4000000 in
set_option maxRecDepth 100000 in
theorem c_M_refuse {l : Launch} {G : va_G} {ca : Nat → ClassId} {aM : Nat} {am : Nat → Nat} {h : Nat → Int32} {ar : Nat → Nat → Int32} {w : va_W} {sz : Nat} (hR : RM ca aM am h ar w) (y : Int32)  : xMi l yM_refuse wsM_refuse ({ frames := 0, cells := 0, slots := 0, locals := 0 }) [.ref aM, .int y] G (mTys ca) w sz (fun r w' => r = 0 ∧ RM ca aM am (upd h 0 y) ar w') 0 0 := by
  refine x_ofW (fun A => va_Qi (fun r w' => r = 0 ∧ RM ca aM am (upd h 0 y) ar w') (xEnd G (mTys ca) A) A) cM_refuse 2 (some .int) (by decide) rfl (Nat.le_of_ble_eq_true rfl) ?_
  intro p e s m below meth c A ls hx hb hr hlocks hml hnm hown hB hA hP hK hD hS hl
  have hl : lv_has ls 2 [(0, .ref aM), (1, .int y)] := hl
  have hown : s.vm.findClass NmM = some m.cls := hown
  refine lv_aload_n hx hb dM_refuse_0 rfl (lv_at hl 0 rfl) ?_
  refine lv_iload_n hx hb dM_refuse_1 rfl (lv_at hl 1 rfl) ?_
  refine m_put 0 y hx hb hB inBM hown hK hP hD hS hR rfl (hB _ fl_M_69) rfl rfl (by decide +kernel) dM_refuse_2 (fun w H locs hR hP hD hS => ?_)
  refine lv_iconst (v := 0) hx hb dM_refuse_5 (by decide) ?_
  exact x_iret (v := 0) hx hb hr hlocks ⟨(by first | (simp []; done) | (simp_all []; done)), (by first | (simpa [] using hR) | (have hR9 := hR; simp_all []; done))⟩ hP hK hD hS dM_refuse_6
set_option maxHeartbeats 4000000 in
set_option maxRecDepth 100000 in
theorem c_M_in {l : Launch} {G : va_G} {ca : Nat → ClassId} {aM : Nat} {am : Nat → Nat} {h : Nat → Int32} {ar : Nat → Nat → Int32} {w : va_W} {sz : Nat} (hR : RM ca aM am h ar w) (v : Int32) (a : Int32) (b : Int32)  : xMi l yM_in wsM_in ({ frames := 0, cells := 0, slots := 0, locals := 0 }) [.int v, .int a, .int b] G (mTys ca) w sz (fun r w' => r = mIn v a b ∧ w = w') 0 0 := by
  refine x_ofW (fun A => va_Qi (fun r w' => r = mIn v a b ∧ w = w') (xEnd G (mTys ca) A) A) cM_in 3 (some .boolean) (by decide) rfl (Nat.le_of_ble_eq_true rfl) ?_
  intro p e s m below meth c A ls hx hb hr hlocks hml hnm hown hB hA hP hK hD hS hl
  have hl : lv_has ls 3 [(0, .int v), (1, .int a), (2, .int b)] := hl
  have hown : s.vm.findClass NmM = some m.cls := hown
  refine lv_iload_n hx hb dM_in_0 rfl (lv_at hl 0 rfl) ?_
  refine lv_iload_n hx hb dM_in_1 rfl (lv_at hl 1 rfl) ?_
  refine lv_icmp_lt (tgt := 14) hx hb dM_in_2 (by decide) (fun c1 => ?_) (fun c1 => ?_)
  · refine lv_iconst (v := 0) hx hb dM_in_14 (by decide) ?_
    exact x_zret (v := 0) hx hb hr hlocks rfl ⟨(by first | (simp [mIn, c1]; done) | (simp_all [mIn]; done)), rfl⟩ hP hK hD hS dM_in_15
  · refine lv_iload_n hx hb dM_in_5 rfl (lv_at hl 0 rfl) ?_
    refine lv_iload_n hx hb dM_in_6 rfl (lv_at hl 2 rfl) ?_
    refine lv_icmp_gt (tgt := 14) hx hb dM_in_7 (by decide) (fun c2 => ?_) (fun c2 => ?_)
    · refine lv_iconst (v := 0) hx hb dM_in_14 (by decide) ?_
      exact x_zret (v := 0) hx hb hr hlocks rfl ⟨(by first | (simp [mIn, c1, c2]; done) | (simp_all [mIn]; done)), rfl⟩ hP hK hD hS dM_in_15
    · refine lv_iconst (v := 1) hx hb dM_in_10 (by decide) ?_
      refine lv_goto (tgt := 15) hx hb dM_in_11 (by decide) ?_
      exact x_zret (v := 1) hx hb hr hlocks rfl ⟨(by first | (simp [mIn, c1, c2]; done) | (simp_all [mIn]; done)), rfl⟩ hP hK hD hS dM_in_15
set_option maxHeartbeats 4000000 in
set_option maxRecDepth 100000 in
theorem c_M_isPerson {l : Launch} {G : va_G} {ca : Nat → ClassId} {aM : Nat} {am : Nat → Nat} {h : Nat → Int32} {ar : Nat → Nat → Int32} {w : va_W} {sz : Nat} (hR : RM ca aM am h ar w) (v : Int32)  : xMi l yM_isPerson wsM_isPerson ({ frames := 0, cells := 0, slots := 0, locals := 0 }) [.ref aM, .int v] G (mTys ca) w sz (fun r w' => r = mPers h v ∧ w = w') 0 0 := by
  refine x_ofW (fun A => va_Qi (fun r w' => r = mPers h v ∧ w = w') (xEnd G (mTys ca) A) A) cM_isPerson 2 (some .boolean) (by decide) rfl (Nat.le_of_ble_eq_true rfl) ?_
  intro p e s m below meth c A ls hx hb hr hlocks hml hnm hown hB hA hP hK hD hS hl
  have hl : lv_has ls 2 [(0, .ref aM), (1, .int v)] := hl
  have hown : s.vm.findClass NmM = some m.cls := hown
  refine lv_iload_n hx hb dM_isPerson_0 rfl (lv_at hl 1 rfl) ?_
  refine lv_if_lt (tgt := 16) hx hb dM_isPerson_1 (by decide) (fun c1 => ?_) (fun c1 => ?_)
  · refine lv_iconst (v := 0) hx hb dM_isPerson_16 (by decide) ?_
    exact x_zret (v := 0) hx hb hr hlocks rfl ⟨(by first | (simp [mPers, c1]; done) | (simp_all [mPers]; done)), rfl⟩ hP hK hD hS dM_isPerson_17
  · refine lv_iload_n hx hb dM_isPerson_4 rfl (lv_at hl 1 rfl) ?_
    refine lv_aload_n hx hb dM_isPerson_5 rfl (lv_at hl 0 rfl) ?_
    refine m_get 2 hx hb hB inBM hown hK hP hR rfl (hB _ fl_M_72) rfl dM_isPerson_6 ?_
    refine lv_icmp_ge (tgt := 16) hx hb dM_isPerson_9 (by decide) (fun c2 => ?_) (fun c2 => ?_)
    · refine lv_iconst (v := 0) hx hb dM_isPerson_16 (by decide) ?_
      exact x_zret (v := 0) hx hb hr hlocks rfl ⟨(by first | (simp [mPers, c1, c2]; done) | (simp_all [mPers]; done)), rfl⟩ hP hK hD hS dM_isPerson_17
    · refine lv_iconst (v := 1) hx hb dM_isPerson_12 (by decide) ?_
      refine lv_goto (tgt := 17) hx hb dM_isPerson_13 (by decide) ?_
      exact x_zret (v := 1) hx hb hr hlocks rfl ⟨(by first | (simp [mPers, c1, c2]; done) | (simp_all [mPers]; done)), rfl⟩ hP hK hD hS dM_isPerson_17
set_option maxHeartbeats 4000000 in
set_option maxRecDepth 100000 in
theorem c_M_isOne {l : Launch} {G : va_G} {ca : Nat → ClassId} {aM : Nat} {am : Nat → Nat} {h : Nat → Int32} {ar : Nat → Nat → Int32} {w : va_W} {sz : Nat} (hR : RM ca aM am h ar w) (v : Int32)  : xMi l yM_isOne wsM_isOne ({ frames := 0, cells := 0, slots := 0, locals := 0 }) [.ref aM, .int v] G (mTys ca) w sz (fun r w' => r = mOne h v ∧ w = w') 0 0 := by
  refine x_ofW (fun A => va_Qi (fun r w' => r = mOne h v ∧ w = w') (xEnd G (mTys ca) A) A) cM_isOne 2 (some .boolean) (by decide) rfl (Nat.le_of_ble_eq_true rfl) ?_
  intro p e s m below meth c A ls hx hb hr hlocks hml hnm hown hB hA hP hK hD hS hl
  have hl : lv_has ls 2 [(0, .ref aM), (1, .int v)] := hl
  have hown : s.vm.findClass NmM = some m.cls := hown
  refine lv_iload_n hx hb dM_isOne_0 rfl (lv_at hl 1 rfl) ?_
  refine lv_if_lt (tgt := 16) hx hb dM_isOne_1 (by decide) (fun c1 => ?_) (fun c1 => ?_)
  · refine lv_iconst (v := 0) hx hb dM_isOne_16 (by decide) ?_
    exact x_zret (v := 0) hx hb hr hlocks rfl ⟨(by first | (simp [mOne, c1]; done) | (simp_all [mOne]; done)), rfl⟩ hP hK hD hS dM_isOne_17
  · refine lv_iload_n hx hb dM_isOne_4 rfl (lv_at hl 1 rfl) ?_
    refine lv_aload_n hx hb dM_isOne_5 rfl (lv_at hl 0 rfl) ?_
    refine m_get 4 hx hb hB inBM hown hK hP hR rfl (hB _ fl_M_75) rfl dM_isOne_6 ?_
    refine lv_icmp_ge (tgt := 16) hx hb dM_isOne_9 (by decide) (fun c2 => ?_) (fun c2 => ?_)
    · refine lv_iconst (v := 0) hx hb dM_isOne_16 (by decide) ?_
      exact x_zret (v := 0) hx hb hr hlocks rfl ⟨(by first | (simp [mOne, c1, c2]; done) | (simp_all [mOne]; done)), rfl⟩ hP hK hD hS dM_isOne_17
    · refine lv_iconst (v := 1) hx hb dM_isOne_12 (by decide) ?_
      refine lv_goto (tgt := 17) hx hb dM_isOne_13 (by decide) ?_
      exact x_zret (v := 1) hx hb hr hlocks rfl ⟨(by first | (simp [mOne, c1, c2]; done) | (simp_all [mOne]; done)), rfl⟩ hP hK hD hS dM_isOne_17
set_option maxHeartbeats 4000000 in
set_option maxRecDepth 100000 in
theorem c_M_isOfficers {l : Launch} {G : va_G} {ca : Nat → ClassId} {aM : Nat} {am : Nat → Nat} {h : Nat → Int32} {ar : Nat → Nat → Int32} {w : va_W} {sz : Nat} (hR : RM ca aM am h ar w) (k : Int32)  : xMi l yM_isOfficers wsM_isOfficers ({ frames := 0, cells := 0, slots := 0, locals := 0 }) [.int k] G (mTys ca) w sz (fun r w' => r = mOff k ∧ w = w') 0 0 := by
  refine x_ofW (fun A => va_Qi (fun r w' => r = mOff k ∧ w = w') (xEnd G (mTys ca) A) A) cM_isOfficers 1 (some .boolean) (by decide) rfl (Nat.le_of_ble_eq_true rfl) ?_
  intro p e s m below meth c A ls hx hb hr hlocks hml hnm hown hB hA hP hK hD hS hl
  have hl : lv_has ls 1 [(0, .int k)] := hl
  have hown : s.vm.findClass NmM = some m.cls := hown
  refine lv_iload_n hx hb dM_isOfficers_0 rfl (lv_at hl 0 rfl) ?_
  refine lv_iconst (v := 1) hx hb dM_isOfficers_1 (by decide) ?_
  refine lv_icmp_le (tgt := 11) hx hb dM_isOfficers_2 (by decide) (fun c1 => ?_) (fun c1 => ?_)
  · refine lv_iload_n hx hb dM_isOfficers_11 rfl (lv_at hl 0 rfl) ?_
    refine lv_bipush (v := 8) hx hb dM_isOfficers_12 (by decide) ?_
    refine lv_icmp_ne (tgt := 21) hx hb dM_isOfficers_14 (by decide) (fun c2 => ?_) (fun c2 => ?_)
    · refine lv_iconst (v := 0) hx hb dM_isOfficers_21 (by decide) ?_
      exact x_zret (v := 0) hx hb hr hlocks rfl ⟨(by first | (simp [mOff, c1, c2]; done) | (simp_all [mOff]; done)), rfl⟩ hP hK hD hS dM_isOfficers_22
    · refine lv_iconst (v := 1) hx hb dM_isOfficers_17 (by decide) ?_
      refine lv_goto (tgt := 22) hx hb dM_isOfficers_18 (by decide) ?_
      exact x_zret (v := 1) hx hb hr hlocks rfl ⟨(by first | (simp [mOff, c1, c2]; done) | (simp_all [mOff]; done)), rfl⟩ hP hK hD hS dM_isOfficers_22
  · refine lv_iload_n hx hb dM_isOfficers_5 rfl (lv_at hl 0 rfl) ?_
    refine lv_bipush (v := 6) hx hb dM_isOfficers_6 (by decide) ?_
    refine lv_icmp_lt (tgt := 17) hx hb dM_isOfficers_8 (by decide) (fun c3 => ?_) (fun c3 => ?_)
    · refine lv_iconst (v := 1) hx hb dM_isOfficers_17 (by decide) ?_
      refine lv_goto (tgt := 22) hx hb dM_isOfficers_18 (by decide) ?_
      exact x_zret (v := 1) hx hb hr hlocks rfl ⟨(by first | (simp [mOff, c1, c3]; done) | (simp_all [mOff]; done)), rfl⟩ hP hK hD hS dM_isOfficers_22
    · refine lv_iload_n hx hb dM_isOfficers_11 rfl (lv_at hl 0 rfl) ?_
      refine lv_bipush (v := 8) hx hb dM_isOfficers_12 (by decide) ?_
      refine lv_icmp_ne (tgt := 21) hx hb dM_isOfficers_14 (by decide) (fun c4 => ?_) (fun c4 => ?_)
      · refine lv_iconst (v := 0) hx hb dM_isOfficers_21 (by decide) ?_
        exact x_zret (v := 0) hx hb hr hlocks rfl ⟨(by first | (simp [mOff, c1, c3, c4]; done) | (simp_all [mOff]; done)), rfl⟩ hP hK hD hS dM_isOfficers_22
      · refine lv_iconst (v := 1) hx hb dM_isOfficers_17 (by decide) ?_
        refine lv_goto (tgt := 22) hx hb dM_isOfficers_18 (by decide) ?_
        exact x_zret (v := 1) hx hb hr hlocks rfl ⟨(by first | (simp [mOff, c1, c3, c4]; done) | (simp_all [mOff]; done)), rfl⟩ hP hK hD hS dM_isOfficers_22
set_option maxHeartbeats 4000000 in
set_option maxRecDepth 100000 in
theorem c_M_may {l : Launch} {G : va_G} {ca : Nat → ClassId} {aM : Nat} {am : Nat → Nat} {h : Nat → Int32} {ar : Nat → Nat → Int32} {w : va_W} {sz : Nat} (hR : RM ca aM am h ar w) (e9 : Int32) (he : vp_in e9 120) (hw9 : vp_in (ar 16 e9.toNatClampNeg) 12) (ho : vp_in (ar 14 e9.toNatClampNeg) 20) : xMi l yM_may wsM_may ({ frames := 1, cells := 0, slots := 0, locals := 20 }) [.ref aM, .int e9] G (mTys ca) w sz (fun r w' => r = mMay (ar 15 e9.toNatClampNeg) (ar 16 e9.toNatClampNeg) (ar 3 (ar 16 e9.toNatClampNeg).toNatClampNeg) (ar 6 (ar 14 e9.toNatClampNeg).toNatClampNeg) ∧ w = w') 0 0 := by
  refine x_ofW (fun A => va_Qi (fun r w' => r = mMay (ar 15 e9.toNatClampNeg) (ar 16 e9.toNatClampNeg) (ar 3 (ar 16 e9.toNatClampNeg).toNatClampNeg) (ar 6 (ar 14 e9.toNatClampNeg).toNatClampNeg) ∧ w = w') (xEnd G (mTys ca) A) A) cM_may 4 (some .boolean) (by decide) rfl (Nat.le_of_ble_eq_true rfl) ?_
  intro p e s m below meth c A ls hx hb hr hlocks hml hnm hown hB hA hP hK hD hS hl
  have hl : lv_has ls 4 [(0, .ref aM), (1, .int e9)] := hl
  have hown : s.vm.findClass NmM = some m.cls := hown
  refine lv_aload_n hx hb dM_may_0 rfl (lv_at hl 0 rfl) ?_
  refine m_arr 16 hx hb hB inBM hown hK hP hR rfl (hB _ fl_M_43) rfl dM_may_1 ?_
  refine lv_iload_n hx hb dM_may_4 rfl (lv_at hl 1 rfl) ?_
  refine m_ld 16 (i := e9) he hx hb hK hP hR rfl dM_may_5 ?_
  refine lv_istore_n (lv' := [(2, .int (ar 16 e9.toNatClampNeg)), (0, .ref aM), (1, .int e9)]) hx hb dM_may_6 rfl hl (by decide) rfl (fun ls hl => ?_)
  refine lv_aload_n hx hb dM_may_7 rfl (lv_at hl 1 rfl) ?_
  refine m_arr 15 hx hb hB inBM hown hK hP hR rfl (hB _ fl_M_40) rfl dM_may_8 ?_
  refine lv_iload_n hx hb dM_may_11 rfl (lv_at hl 2 rfl) ?_
  refine m_ld 15 (i := e9) he hx hb hK hP hR rfl dM_may_12 ?_
  refine lv_istore_n (lv' := [(3, .int (ar 15 e9.toNatClampNeg)), (2, .int (ar 16 e9.toNatClampNeg)), (0, .ref aM), (1, .int e9)]) hx hb dM_may_13 rfl hl (by decide) rfl (fun ls hl => ?_)
  refine lv_iload_n hx hb dM_may_14 rfl (lv_at hl 0 rfl) ?_
  refine x_calli (va_runS (As := [.int (ar 15 e9.toNatClampNeg)]) (rest := []) ⟨hx, hb, hml, hown, hB⟩ (c_M_isOfficers hR (ar 15 e9.toNatClampNeg) ) (va_cwS 1 hB (gS ml_M_104 sm_M_isOfficers ini_M kc_M_isOfficers) rfl rfl rfl (by decide +kernel) ⟨Nat.le_of_ble_eq_true rfl, Nat.le_of_ble_eq_true rfl⟩) (x_preS hP hK hD) rfl rfl hl.1 rfl (lv_room (Nat.le_of_ble_eq_true rfl)) dM_may_15 ⟨Nat.le_of_ble_eq_true rfl, Nat.le_of_ble_eq_true rfl⟩) hD hS hA (fun r1 w H locs hw hP hD hS => ?_)
  obtain ⟨ee2, rfl⟩ := hw
  refine lv_if_eq (tgt := 37) hx hb dM_may_18 (by decide) (fun c3 => ?_) (fun c3 => ?_)
  · refine lv_iload_n hx hb dM_may_37 rfl (lv_at hl 0 rfl) ?_
    refine lv_iconst (v := 1) hx hb dM_may_38 (by decide) ?_
    refine lv_icmp_ne (tgt := 60) hx hb dM_may_39 (by decide) (fun c4 => ?_) (fun c4 => ?_)
    · refine lv_iload_n hx hb dM_may_60 rfl (lv_at hl 0 rfl) ?_
      refine lv_bipush (v := 7) hx hb dM_may_61 (by decide) ?_
      refine lv_icmp_ne (tgt := 84) hx hb dM_may_63 (by decide) (fun c5 => ?_) (fun c5 => ?_)
      · refine lv_iload_n hx hb dM_may_84 rfl (lv_at hl 1 rfl) ?_
        refine lv_aload_n hx hb dM_may_85 rfl (lv_at hl 2 rfl) ?_
        refine m_arr 6 hx hb hB inBM hown hK hP hR rfl (hB _ fl_M_16) rfl dM_may_86 ?_
        refine lv_aload_n hx hb dM_may_89 rfl (lv_at hl 2 rfl) ?_
        refine m_arr 14 hx hb hB inBM hown hK hP hR rfl (hB _ fl_M_37) rfl dM_may_90 ?_
        refine lv_iload_n hx hb dM_may_93 rfl (lv_at hl 3 rfl) ?_
        refine m_ld 14 (i := e9) he hx hb hK hP hR rfl dM_may_94 ?_
        refine m_ld 6 (i := ar 14 e9.toNatClampNeg) ho hx hb hK hP hR rfl dM_may_95 ?_
        refine lv_icmp_ne (tgt := 103) hx hb dM_may_96 (by decide) (fun c6 => ?_) (fun c6 => ?_)
        · refine lv_iconst (v := 0) hx hb dM_may_103 (by decide) ?_
          exact x_zret (v := 0) hx hb hr hlocks rfl ⟨(by subst ee2; first | (simp [mMay, c3, c4, c5, c6]; done) | (simp_all [mMay]; done)), rfl⟩ hP hK hD hS dM_may_104
        · refine lv_iconst (v := 1) hx hb dM_may_99 (by decide) ?_
          refine lv_goto (tgt := 104) hx hb dM_may_100 (by decide) ?_
          exact x_zret (v := 1) hx hb hr hlocks rfl ⟨(by subst ee2; first | (simp [mMay, c3, c4, c5, c6]; done) | (simp_all [mMay]; done)), rfl⟩ hP hK hD hS dM_may_104
      · refine lv_aload_n hx hb dM_may_66 rfl (lv_at hl 2 rfl) ?_
        refine m_arr 3 hx hb hB inBM hown hK hP hR rfl (hB _ fl_M_7) rfl dM_may_67 ?_
        refine lv_iload_n hx hb dM_may_70 rfl (lv_at hl 1 rfl) ?_
        refine m_ld 3 (i := ar 16 e9.toNatClampNeg) hw9 hx hb hK hP hR rfl dM_may_71 ?_
        refine lv_iconst (v := 2) hx hb dM_may_72 (by decide) ?_
        refine lv_icmp_ne (tgt := 80) hx hb dM_may_73 (by decide) (fun c7 => ?_) (fun c7 => ?_)
        · refine lv_iconst (v := 0) hx hb dM_may_80 (by decide) ?_
          refine lv_goto (tgt := 104) hx hb dM_may_81 (by decide) ?_
          exact x_zret (v := 0) hx hb hr hlocks rfl ⟨(by subst ee2; first | (simp [mMay, c3, c4, c5, c7]; done) | (simp_all [mMay]; done)), rfl⟩ hP hK hD hS dM_may_104
        · refine lv_iconst (v := 1) hx hb dM_may_76 (by decide) ?_
          refine lv_goto (tgt := 104) hx hb dM_may_77 (by decide) ?_
          exact x_zret (v := 1) hx hb hr hlocks rfl ⟨(by subst ee2; first | (simp [mMay, c3, c4, c5, c7]; done) | (simp_all [mMay]; done)), rfl⟩ hP hK hD hS dM_may_104
    · refine lv_aload_n hx hb dM_may_42 rfl (lv_at hl 2 rfl) ?_
      refine m_arr 3 hx hb hB inBM hown hK hP hR rfl (hB _ fl_M_7) rfl dM_may_43 ?_
      refine lv_iload_n hx hb dM_may_46 rfl (lv_at hl 1 rfl) ?_
      refine m_ld 3 (i := ar 16 e9.toNatClampNeg) hw9 hx hb hK hP hR rfl dM_may_47 ?_
      refine lv_iconst (v := 1) hx hb dM_may_48 (by decide) ?_
      refine lv_icmp_eq (tgt := 56) hx hb dM_may_49 (by decide) (fun c8 => ?_) (fun c8 => ?_)
      · refine lv_iconst (v := 0) hx hb dM_may_56 (by decide) ?_
        refine lv_goto (tgt := 104) hx hb dM_may_57 (by decide) ?_
        exact x_zret (v := 0) hx hb hr hlocks rfl ⟨(by subst ee2; first | (simp [mMay, c3, c4, c8]; done) | (simp_all [mMay]; done)), rfl⟩ hP hK hD hS dM_may_104
      · refine lv_iconst (v := 1) hx hb dM_may_52 (by decide) ?_
        refine lv_goto (tgt := 104) hx hb dM_may_53 (by decide) ?_
        exact x_zret (v := 1) hx hb hr hlocks rfl ⟨(by subst ee2; first | (simp [mMay, c3, c4, c8]; done) | (simp_all [mMay]; done)), rfl⟩ hP hK hD hS dM_may_104
  · refine lv_aload_n hx hb dM_may_21 rfl (lv_at hl 2 rfl) ?_
    refine m_arr 3 hx hb hB inBM hown hK hP hR rfl (hB _ fl_M_7) rfl dM_may_22 ?_
    refine lv_iload_n hx hb dM_may_25 rfl (lv_at hl 1 rfl) ?_
    refine m_ld 3 (i := ar 16 e9.toNatClampNeg) hw9 hx hb hK hP hR rfl dM_may_26 ?_
    refine lv_iconst (v := 1) hx hb dM_may_27 (by decide) ?_
    refine lv_icmp_ne (tgt := 35) hx hb dM_may_28 (by decide) (fun c9 => ?_) (fun c9 => ?_)
    · refine lv_iconst (v := 0) hx hb dM_may_35 (by decide) ?_
      exact x_zret (v := 0) hx hb hr hlocks rfl ⟨(by subst ee2; first | (simp [mMay, c3, c9]; done) | (simp_all [mMay]; done)), rfl⟩ hP hK hD hS dM_may_36
    · refine lv_iconst (v := 1) hx hb dM_may_31 (by decide) ?_
      refine lv_goto (tgt := 36) hx hb dM_may_32 (by decide) ?_
      exact x_zret (v := 1) hx hb hr hlocks rfl ⟨(by subst ee2; first | (simp [mMay, c3, c9]; done) | (simp_all [mMay]; done)), rfl⟩ hP hK hD hS dM_may_36
set_option maxHeartbeats 4000000 in
set_option maxRecDepth 100000 in
theorem c_M_fits {l : Launch} {G : va_G} {ca : Nat → ClassId} {aM : Nat} {am : Nat → Nat} {h : Nat → Int32} {ar : Nat → Nat → Int32} {w : va_W} {sz : Nat} (hR : RM ca aM am h ar w) (d9 : Int32) (k : Int32) (hd : vp_in d9 20) : xMi l yM_fits wsM_fits ({ frames := 0, cells := 0, slots := 0, locals := 0 }) [.ref aM, .int d9, .int k] G (mTys ca) w sz (fun r w' => r = mFits (ar 7 d9.toNatClampNeg) (ar 5 d9.toNatClampNeg) k ∧ w = w') 0 0 := by
  refine x_ofW (fun A => va_Qi (fun r w' => r = mFits (ar 7 d9.toNatClampNeg) (ar 5 d9.toNatClampNeg) k ∧ w = w') (xEnd G (mTys ca) A) A) cM_fits 4 (some .boolean) (by decide) rfl (Nat.le_of_ble_eq_true rfl) ?_
  intro p e s m below meth c A ls hx hb hr hlocks hml hnm hown hB hA hP hK hD hS hl
  have hl : lv_has ls 4 [(0, .ref aM), (1, .int d9), (2, .int k)] := hl
  have hown : s.vm.findClass NmM = some m.cls := hown
  refine lv_aload_n hx hb dM_fits_0 rfl (lv_at hl 0 rfl) ?_
  refine m_arr 7 hx hb hB inBM hown hK hP hR rfl (hB _ fl_M_19) rfl dM_fits_1 ?_
  refine lv_iload_n hx hb dM_fits_4 rfl (lv_at hl 1 rfl) ?_
  refine m_ld 7 (i := d9) hd hx hb hK hP hR rfl dM_fits_5 ?_
  refine lv_istore_n (lv' := [(3, .int (ar 7 d9.toNatClampNeg)), (0, .ref aM), (1, .int d9), (2, .int k)]) hx hb dM_fits_6 rfl hl (by decide) rfl (fun ls hl => ?_)
  refine lv_iload_n hx hb dM_fits_7 rfl (lv_at hl 3 rfl) ?_
  rcases x_sw0_8 k with h1 | h2 | h3 | h4 | h5 | h6 | h7 | h8 | h9 | h10
  · refine lv_tableIn (tgt := 60) hx hb dM_fits_8 (by rw [h1]; decide) (by rw [h1]; decide) (by rw [h1]; rfl) (by decide) ?_
    refine lv_iload_n hx hb dM_fits_60 rfl (lv_at hl 0 rfl) ?_
    refine lv_if_ne (tgt := 68) hx hb dM_fits_61 (by decide) (fun c11 => ?_) (fun c11 => ?_)
    · refine lv_iconst (v := 0) hx hb dM_fits_68 (by decide) ?_
      exact x_zret (v := 0) hx hb hr hlocks rfl ⟨(by first | (simp [mFits, h1, c11]; done) | (simp_all [mFits]; done)), rfl⟩ hP hK hD hS dM_fits_69
    · refine lv_iconst (v := 1) hx hb dM_fits_64 (by decide) ?_
      refine lv_goto (tgt := 69) hx hb dM_fits_65 (by decide) ?_
      exact x_zret (v := 1) hx hb hr hlocks rfl ⟨(by first | (simp [mFits, h1, c11]; done) | (simp_all [mFits]; done)), rfl⟩ hP hK hD hS dM_fits_69
  · refine lv_tableIn (tgt := 70) hx hb dM_fits_8 (by rw [h2]; decide) (by rw [h2]; decide) (by rw [h2]; rfl) (by decide) ?_
    refine lv_iload_n hx hb dM_fits_70 rfl (lv_at hl 0 rfl) ?_
    refine lv_iconst (v := 3) hx hb dM_fits_71 (by decide) ?_
    refine lv_icmp_ge (tgt := 79) hx hb dM_fits_72 (by decide) (fun c12 => ?_) (fun c12 => ?_)
    · refine lv_iconst (v := 0) hx hb dM_fits_79 (by decide) ?_
      exact x_zret (v := 0) hx hb hr hlocks rfl ⟨(by first | (simp [mFits, h2, c12]; done) | (simp_all [mFits]; done)), rfl⟩ hP hK hD hS dM_fits_80
    · refine lv_iconst (v := 1) hx hb dM_fits_75 (by decide) ?_
      refine lv_goto (tgt := 80) hx hb dM_fits_76 (by decide) ?_
      exact x_zret (v := 1) hx hb hr hlocks rfl ⟨(by first | (simp [mFits, h2, c12]; done) | (simp_all [mFits]; done)), rfl⟩ hP hK hD hS dM_fits_80
  · refine lv_tableIn (tgt := 81) hx hb dM_fits_8 (by rw [h3]; decide) (by rw [h3]; decide) (by rw [h3]; rfl) (by decide) ?_
    refine lv_iload_n hx hb dM_fits_81 rfl (lv_at hl 0 rfl) ?_
    refine lv_iconst (v := 1) hx hb dM_fits_82 (by decide) ?_
    refine lv_icmp_ne (tgt := 90) hx hb dM_fits_83 (by decide) (fun c13 => ?_) (fun c13 => ?_)
    · refine lv_iconst (v := 0) hx hb dM_fits_90 (by decide) ?_
      exact x_zret (v := 0) hx hb hr hlocks rfl ⟨(by first | (simp [mFits, h3, c13]; done) | (simp_all [mFits]; done)), rfl⟩ hP hK hD hS dM_fits_91
    · refine lv_iconst (v := 1) hx hb dM_fits_86 (by decide) ?_
      refine lv_goto (tgt := 91) hx hb dM_fits_87 (by decide) ?_
      exact x_zret (v := 1) hx hb hr hlocks rfl ⟨(by first | (simp [mFits, h3, c13]; done) | (simp_all [mFits]; done)), rfl⟩ hP hK hD hS dM_fits_91
  · refine lv_tableIn (tgt := 92) hx hb dM_fits_8 (by rw [h4]; decide) (by rw [h4]; decide) (by rw [h4]; rfl) (by decide) ?_
    refine lv_iload_n hx hb dM_fits_92 rfl (lv_at hl 0 rfl) ?_
    refine lv_iconst (v := 2) hx hb dM_fits_93 (by decide) ?_
    refine lv_icmp_ne (tgt := 101) hx hb dM_fits_94 (by decide) (fun c14 => ?_) (fun c14 => ?_)
    · refine lv_iconst (v := 0) hx hb dM_fits_101 (by decide) ?_
      exact x_zret (v := 0) hx hb hr hlocks rfl ⟨(by first | (simp [mFits, h4, c14]; done) | (simp_all [mFits]; done)), rfl⟩ hP hK hD hS dM_fits_102
    · refine lv_iconst (v := 1) hx hb dM_fits_97 (by decide) ?_
      refine lv_goto (tgt := 102) hx hb dM_fits_98 (by decide) ?_
      exact x_zret (v := 1) hx hb hr hlocks rfl ⟨(by first | (simp [mFits, h4, c14]; done) | (simp_all [mFits]; done)), rfl⟩ hP hK hD hS dM_fits_102
  · refine lv_tableIn (tgt := 103) hx hb dM_fits_8 (by rw [h5]; decide) (by rw [h5]; decide) (by rw [h5]; rfl) (by decide) ?_
    refine lv_iload_n hx hb dM_fits_103 rfl (lv_at hl 0 rfl) ?_
    refine lv_iconst (v := 3) hx hb dM_fits_104 (by decide) ?_
    refine lv_icmp_ne (tgt := 112) hx hb dM_fits_105 (by decide) (fun c15 => ?_) (fun c15 => ?_)
    · refine lv_iconst (v := 0) hx hb dM_fits_112 (by decide) ?_
      exact x_zret (v := 0) hx hb hr hlocks rfl ⟨(by first | (simp [mFits, h5, c15]; done) | (simp_all [mFits]; done)), rfl⟩ hP hK hD hS dM_fits_113
    · refine lv_iconst (v := 1) hx hb dM_fits_108 (by decide) ?_
      refine lv_goto (tgt := 113) hx hb dM_fits_109 (by decide) ?_
      exact x_zret (v := 1) hx hb hr hlocks rfl ⟨(by first | (simp [mFits, h5, c15]; done) | (simp_all [mFits]; done)), rfl⟩ hP hK hD hS dM_fits_113
  · refine lv_tableIn (tgt := 103) hx hb dM_fits_8 (by rw [h6]; decide) (by rw [h6]; decide) (by rw [h6]; rfl) (by decide) ?_
    refine lv_iload_n hx hb dM_fits_103 rfl (lv_at hl 0 rfl) ?_
    refine lv_iconst (v := 3) hx hb dM_fits_104 (by decide) ?_
    refine lv_icmp_ne (tgt := 112) hx hb dM_fits_105 (by decide) (fun c16 => ?_) (fun c16 => ?_)
    · refine lv_iconst (v := 0) hx hb dM_fits_112 (by decide) ?_
      exact x_zret (v := 0) hx hb hr hlocks rfl ⟨(by first | (simp [mFits, h6, c16]; done) | (simp_all [mFits]; done)), rfl⟩ hP hK hD hS dM_fits_113
    · refine lv_iconst (v := 1) hx hb dM_fits_108 (by decide) ?_
      refine lv_goto (tgt := 113) hx hb dM_fits_109 (by decide) ?_
      exact x_zret (v := 1) hx hb hr hlocks rfl ⟨(by first | (simp [mFits, h6, c16]; done) | (simp_all [mFits]; done)), rfl⟩ hP hK hD hS dM_fits_113
  · refine lv_tableIn (tgt := 159) hx hb dM_fits_8 (by rw [h7]; decide) (by rw [h7]; decide) (by rw [h7]; rfl) (by decide) ?_
    refine lv_iload_n hx hb dM_fits_159 rfl (lv_at hl 0 rfl) ?_
    refine lv_iconst (v := 2) hx hb dM_fits_160 (by decide) ?_
    refine lv_icmp_eq (tgt := 169) hx hb dM_fits_161 (by decide) (fun c17 => ?_) (fun c17 => ?_)
    · refine lv_iconst (v := 1) hx hb dM_fits_169 (by decide) ?_
      refine lv_goto (tgt := 174) hx hb dM_fits_170 (by decide) ?_
      exact x_zret (v := 1) hx hb hr hlocks rfl ⟨(by first | (simp [mFits, h7, c17]; done) | (simp_all [mFits]; done)), rfl⟩ hP hK hD hS dM_fits_174
    · refine lv_iload_n hx hb dM_fits_164 rfl (lv_at hl 0 rfl) ?_
      refine lv_iconst (v := 3) hx hb dM_fits_165 (by decide) ?_
      refine lv_icmp_ne (tgt := 173) hx hb dM_fits_166 (by decide) (fun c18 => ?_) (fun c18 => ?_)
      · refine lv_iconst (v := 0) hx hb dM_fits_173 (by decide) ?_
        exact x_zret (v := 0) hx hb hr hlocks rfl ⟨(by first | (simp [mFits, h7, c17, c18]; done) | (simp_all [mFits]; done)), rfl⟩ hP hK hD hS dM_fits_174
      · refine lv_iconst (v := 1) hx hb dM_fits_169 (by decide) ?_
        refine lv_goto (tgt := 174) hx hb dM_fits_170 (by decide) ?_
        exact x_zret (v := 1) hx hb hr hlocks rfl ⟨(by first | (simp [mFits, h7, c17, c18]; done) | (simp_all [mFits]; done)), rfl⟩ hP hK hD hS dM_fits_174
  · refine lv_tableIn (tgt := 114) hx hb dM_fits_8 (by rw [h8]; decide) (by rw [h8]; decide) (by rw [h8]; rfl) (by decide) ?_
    refine lv_iload_n hx hb dM_fits_114 rfl (lv_at hl 0 rfl) ?_
    refine lv_iconst (v := 4) hx hb dM_fits_115 (by decide) ?_
    refine lv_icmp_ne (tgt := 132) hx hb dM_fits_116 (by decide) (fun c19 => ?_) (fun c19 => ?_)
    · refine lv_iconst (v := 0) hx hb dM_fits_132 (by decide) ?_
      exact x_zret (v := 0) hx hb hr hlocks rfl ⟨(by first | (simp [mFits, h8, c19]; done) | (simp_all [mFits]; done)), rfl⟩ hP hK hD hS dM_fits_133
    · refine lv_aload_n hx hb dM_fits_119 rfl (lv_at hl 1 rfl) ?_
      refine m_arr 5 hx hb hB inBM hown hK hP hR rfl (hB _ fl_M_13) rfl dM_fits_120 ?_
      refine lv_iload_n hx hb dM_fits_123 rfl (lv_at hl 2 rfl) ?_
      refine m_ld 5 (i := d9) hd hx hb hK hP hR rfl dM_fits_124 ?_
      refine lv_if_le (tgt := 132) hx hb dM_fits_125 (by decide) (fun c20 => ?_) (fun c20 => ?_)
      · refine lv_iconst (v := 0) hx hb dM_fits_132 (by decide) ?_
        exact x_zret (v := 0) hx hb hr hlocks rfl ⟨(by first | (simp [mFits, h8, c19, c20]; done) | (simp_all [mFits]; done)), rfl⟩ hP hK hD hS dM_fits_133
      · refine lv_iconst (v := 1) hx hb dM_fits_128 (by decide) ?_
        refine lv_goto (tgt := 133) hx hb dM_fits_129 (by decide) ?_
        exact x_zret (v := 1) hx hb hr hlocks rfl ⟨(by first | (simp [mFits, h8, c19, c20]; done) | (simp_all [mFits]; done)), rfl⟩ hP hK hD hS dM_fits_133
  · refine lv_tableIn (tgt := 134) hx hb dM_fits_8 (by rw [h9]; decide) (by rw [h9]; decide) (by rw [h9]; rfl) (by decide) ?_
    refine lv_iload_n hx hb dM_fits_134 rfl (lv_at hl 0 rfl) ?_
    refine lv_iconst (v := 4) hx hb dM_fits_135 (by decide) ?_
    refine lv_icmp_ne (tgt := 148) hx hb dM_fits_136 (by decide) (fun c21 => ?_) (fun c21 => ?_)
    · refine lv_iload_n hx hb dM_fits_148 rfl (lv_at hl 0 rfl) ?_
      refine lv_iconst (v := 5) hx hb dM_fits_149 (by decide) ?_
      refine lv_icmp_ne (tgt := 157) hx hb dM_fits_150 (by decide) (fun c22 => ?_) (fun c22 => ?_)
      · refine lv_iconst (v := 0) hx hb dM_fits_157 (by decide) ?_
        exact x_zret (v := 0) hx hb hr hlocks rfl ⟨(by first | (simp [mFits, h9, c21, c22]; done) | (simp_all [mFits]; done)), rfl⟩ hP hK hD hS dM_fits_158
      · refine lv_iconst (v := 1) hx hb dM_fits_153 (by decide) ?_
        refine lv_goto (tgt := 158) hx hb dM_fits_154 (by decide) ?_
        exact x_zret (v := 1) hx hb hr hlocks rfl ⟨(by first | (simp [mFits, h9, c21, c22]; done) | (simp_all [mFits]; done)), rfl⟩ hP hK hD hS dM_fits_158
    · refine lv_aload_n hx hb dM_fits_139 rfl (lv_at hl 1 rfl) ?_
      refine m_arr 5 hx hb hB inBM hown hK hP hR rfl (hB _ fl_M_13) rfl dM_fits_140 ?_
      refine lv_iload_n hx hb dM_fits_143 rfl (lv_at hl 2 rfl) ?_
      refine m_ld 5 (i := d9) hd hx hb hK hP hR rfl dM_fits_144 ?_
      refine lv_if_eq (tgt := 153) hx hb dM_fits_145 (by decide) (fun c23 => ?_) (fun c23 => ?_)
      · refine lv_iconst (v := 1) hx hb dM_fits_153 (by decide) ?_
        refine lv_goto (tgt := 158) hx hb dM_fits_154 (by decide) ?_
        exact x_zret (v := 1) hx hb hr hlocks rfl ⟨(by first | (simp [mFits, h9, c21, c23]; done) | (simp_all [mFits]; done)), rfl⟩ hP hK hD hS dM_fits_158
      · refine lv_iload_n hx hb dM_fits_148 rfl (lv_at hl 0 rfl) ?_
        refine lv_iconst (v := 5) hx hb dM_fits_149 (by decide) ?_
        refine lv_icmp_ne (tgt := 157) hx hb dM_fits_150 (by decide) (fun _ => ?_) (fun c24 => absurd (c21.symm.trans c24) (by decide))
        refine lv_iconst (v := 0) hx hb dM_fits_157 (by decide) ?_
        exact x_zret (v := 0) hx hb hr hlocks rfl ⟨(by first | (simp [mFits, h9, c21, c23]; done) | (simp_all [mFits]; done)), rfl⟩ hP hK hD hS dM_fits_158
  · refine lv_tableOut (tgt := 159) hx hb dM_fits_8 h10.1 (by decide) ?_
    refine lv_iload_n hx hb dM_fits_159 rfl (lv_at hl 0 rfl) ?_
    refine lv_iconst (v := 2) hx hb dM_fits_160 (by decide) ?_
    refine lv_icmp_eq (tgt := 169) hx hb dM_fits_161 (by decide) (fun c25 => ?_) (fun c25 => ?_)
    · refine lv_iconst (v := 1) hx hb dM_fits_169 (by decide) ?_
      refine lv_goto (tgt := 174) hx hb dM_fits_170 (by decide) ?_
      exact x_zret (v := 1) hx hb hr hlocks rfl ⟨(by first | (simp [mFits, h10.2, c25]; done) | (simp_all [mFits]; done)), rfl⟩ hP hK hD hS dM_fits_174
    · refine lv_iload_n hx hb dM_fits_164 rfl (lv_at hl 0 rfl) ?_
      refine lv_iconst (v := 3) hx hb dM_fits_165 (by decide) ?_
      refine lv_icmp_ne (tgt := 173) hx hb dM_fits_166 (by decide) (fun c26 => ?_) (fun c26 => ?_)
      · refine lv_iconst (v := 0) hx hb dM_fits_173 (by decide) ?_
        exact x_zret (v := 0) hx hb hr hlocks rfl ⟨(by first | (simp [mFits, h10.2, c25, c26]; done) | (simp_all [mFits]; done)), rfl⟩ hP hK hD hS dM_fits_174
      · refine lv_iconst (v := 1) hx hb dM_fits_169 (by decide) ?_
        refine lv_goto (tgt := 174) hx hb dM_fits_170 (by decide) ?_
        exact x_zret (v := 1) hx hb hr hlocks rfl ⟨(by first | (simp [mFits, h10.2, c25, c26]; done) | (simp_all [mFits]; done)), rfl⟩ hP hK hD hS dM_fits_174
set_option maxHeartbeats 4000000 in
set_option maxRecDepth 100000 in
theorem c_M_has {l : Launch} {G : va_G} {ca : Nat → ClassId} {aM : Nat} {am : Nat → Nat} {h : Nat → Int32} {ar : Nat → Nat → Int32} {w : va_W} {sz : Nat} (hR : RM ca aM am h ar w) (d9 : Int32) (m9 : Int32) (hd : vp_in d9 20) : xMi l yM_has wsM_has ({ frames := 0, cells := 0, slots := 0, locals := 0 }) [.ref aM, .int d9, .int m9] G (mTys ca) w sz (fun r w' => r = mHas (ar 8 d9.toNatClampNeg) m9 ∧ w = w') 0 0 := by
  refine x_ofW (fun A => va_Qi (fun r w' => r = mHas (ar 8 d9.toNatClampNeg) m9 ∧ w = w') (xEnd G (mTys ca) A) A) cM_has 3 (some .boolean) (by decide) rfl (Nat.le_of_ble_eq_true rfl) ?_
  intro p e s m below meth c A ls hx hb hr hlocks hml hnm hown hB hA hP hK hD hS hl
  have hl : lv_has ls 3 [(0, .ref aM), (1, .int d9), (2, .int m9)] := hl
  have hown : s.vm.findClass NmM = some m.cls := hown
  refine lv_aload_n hx hb dM_has_0 rfl (lv_at hl 0 rfl) ?_
  refine m_arr 8 hx hb hB inBM hown hK hP hR rfl (hB _ fl_M_22) rfl dM_has_1 ?_
  refine lv_iload_n hx hb dM_has_4 rfl (lv_at hl 1 rfl) ?_
  refine m_ld 8 (i := d9) hd hx hb hK hP hR rfl dM_has_5 ?_
  refine lv_iload_n hx hb dM_has_6 rfl (lv_at hl 2 rfl) ?_
  refine lv_iand hx hb dM_has_7 ?_
  refine lv_if_le (tgt := 15) hx hb dM_has_8 (by decide) (fun c1 => ?_) (fun c1 => ?_)
  · refine lv_iconst (v := 0) hx hb dM_has_15 (by decide) ?_
    exact x_zret (v := 0) hx hb hr hlocks rfl ⟨(by first | (simp [mHas, c1]; done) | (simp_all [mHas]; done)), rfl⟩ hP hK hD hS dM_has_16
  · refine lv_iconst (v := 1) hx hb dM_has_11 (by decide) ?_
    refine lv_goto (tgt := 16) hx hb dM_has_12 (by decide) ?_
    exact x_zret (v := 1) hx hb hr hlocks rfl ⟨(by first | (simp [mHas, c1]; done) | (simp_all [mHas]; done)), rfl⟩ hP hK hD hS dM_has_16
set_option maxHeartbeats 4000000 in
set_option maxRecDepth 100000 in
theorem c_M_isMarked {l : Launch} {G : va_G} {ca : Nat → ClassId} {aM : Nat} {am : Nat → Nat} {h : Nat → Int32} {ar : Nat → Nat → Int32} {w : va_W} {sz : Nat} (hR : RM ca aM am h ar w) (d9 : Int32) (k : Int32) (hd : vp_in d9 20) : xMi l yM_isMarked wsM_isMarked ({ frames := 1, cells := 0, slots := 0, locals := 22 }) [.ref aM, .int d9, .int k] G (mTys ca) w sz (fun r w' => r = mMarked (ar 8 d9.toNatClampNeg) (ar 5 d9.toNatClampNeg) k ∧ w = w') 0 0 := by
  refine x_ofW (fun A => va_Qi (fun r w' => r = mMarked (ar 8 d9.toNatClampNeg) (ar 5 d9.toNatClampNeg) k ∧ w = w') (xEnd G (mTys ca) A) A) cM_isMarked 3 (some .boolean) (by decide) rfl (Nat.le_of_ble_eq_true rfl) ?_
  intro p e s m below meth c A ls hx hb hr hlocks hml hnm hown hB hA hP hK hD hS hl
  have hl : lv_has ls 3 [(0, .ref aM), (1, .int d9), (2, .int k)] := hl
  have hown : s.vm.findClass NmM = some m.cls := hown
  refine lv_iload_n hx hb dM_isMarked_0 rfl (lv_at hl 2 rfl) ?_
  refine lv_iconst (v := 1) hx hb dM_isMarked_1 (by decide) ?_
  refine lv_icmp_ne (tgt := 22) hx hb dM_isMarked_2 (by decide) (fun c1 => ?_) (fun c1 => ?_)
  · refine lv_iload_n hx hb dM_isMarked_22 rfl (lv_at hl 2 rfl) ?_
    refine lv_iconst (v := 2) hx hb dM_isMarked_23 (by decide) ?_
    refine lv_icmp_ne (tgt := 54) hx hb dM_isMarked_24 (by decide) (fun c2 => ?_) (fun c2 => ?_)
    · refine lv_iload_n hx hb dM_isMarked_54 rfl (lv_at hl 2 rfl) ?_
      refine lv_bipush (v := 6) hx hb dM_isMarked_55 (by decide) ?_
      refine lv_icmp_ne (tgt := 77) hx hb dM_isMarked_57 (by decide) (fun c3 => ?_) (fun c3 => ?_)
      · refine lv_iload_n hx hb dM_isMarked_77 rfl (lv_at hl 2 rfl) ?_
        refine lv_bipush (v := 9) hx hb dM_isMarked_78 (by decide) ?_
        refine lv_icmp_ne (tgt := 92) hx hb dM_isMarked_80 (by decide) (fun c4 => ?_) (fun c4 => ?_)
        · refine lv_iconst (v := 1) hx hb dM_isMarked_92 (by decide) ?_
          refine lv_goto (tgt := 97) hx hb dM_isMarked_93 (by decide) ?_
          exact x_zret (v := 1) hx hb hr hlocks rfl ⟨(by first | (simp [mMarked, c1, c2, c3, c4]; done) | (simp_all [mMarked]; done)), rfl⟩ hP hK hD hS dM_isMarked_97
        · refine lv_aload_n hx hb dM_isMarked_83 rfl (lv_at hl 0 rfl) ?_
          refine lv_iload_n hx hb dM_isMarked_84 rfl (lv_at hl 1 rfl) ?_
          refine lv_iconst (v := 4) hx hb dM_isMarked_85 (by decide) ?_
          refine x_calli (va_runV (As := [.int d9, .int 4]) (rest := []) ⟨hx, hb, hml, hown, hB⟩ (c_M_has hR d9 4 hd) (cwV 2 hB (gV ml_M_107 im_M_has sl_M_has ini_M kc_M_has) rfl rfl rfl (by decide +kernel) ⟨Nat.le_of_ble_eq_true rfl, Nat.le_of_ble_eq_true rfl⟩) (x_preV hP hK hD hR.1 rfl) rfl rfl hl.1 rfl (lv_room (Nat.le_of_ble_eq_true rfl)) dM_isMarked_86 ⟨Nat.le_of_ble_eq_true rfl, Nat.le_of_ble_eq_true rfl⟩) hD hS hA (fun r5 w H locs hw hP hD hS => ?_)
          obtain ⟨ee6, rfl⟩ := hw
          refine lv_if_eq (tgt := 96) hx hb dM_isMarked_89 (by decide) (fun c7 => ?_) (fun c7 => ?_)
          · refine lv_iconst (v := 0) hx hb dM_isMarked_96 (by decide) ?_
            exact x_zret (v := 0) hx hb hr hlocks rfl ⟨(by subst ee6; first | (simp [mMarked, c1, c2, c3, c4, c7]; done) | (simp_all [mMarked]; done)), rfl⟩ hP hK hD hS dM_isMarked_97
          · refine lv_iconst (v := 1) hx hb dM_isMarked_92 (by decide) ?_
            refine lv_goto (tgt := 97) hx hb dM_isMarked_93 (by decide) ?_
            exact x_zret (v := 1) hx hb hr hlocks rfl ⟨(by subst ee6; first | (simp [mMarked, c1, c2, c3, c4, c7]; done) | (simp_all [mMarked]; done)), rfl⟩ hP hK hD hS dM_isMarked_97
      · refine lv_aload_n hx hb dM_isMarked_60 rfl (lv_at hl 0 rfl) ?_
        refine lv_iload_n hx hb dM_isMarked_61 rfl (lv_at hl 1 rfl) ?_
        refine lv_iconst (v := 2) hx hb dM_isMarked_62 (by decide) ?_
        refine x_calli (va_runV (As := [.int d9, .int 2]) (rest := []) ⟨hx, hb, hml, hown, hB⟩ (c_M_has hR d9 2 hd) (cwV 2 hB (gV ml_M_107 im_M_has sl_M_has ini_M kc_M_has) rfl rfl rfl (by decide +kernel) ⟨Nat.le_of_ble_eq_true rfl, Nat.le_of_ble_eq_true rfl⟩) (x_preV hP hK hD hR.1 rfl) rfl rfl hl.1 rfl (lv_room (Nat.le_of_ble_eq_true rfl)) dM_isMarked_63 ⟨Nat.le_of_ble_eq_true rfl, Nat.le_of_ble_eq_true rfl⟩) hD hS hA (fun r8 w H locs hw hP hD hS => ?_)
        obtain ⟨ee9, rfl⟩ := hw
        refine lv_if_ne (tgt := 73) hx hb dM_isMarked_66 (by decide) (fun c10 => ?_) (fun c10 => ?_)
        · refine lv_iconst (v := 0) hx hb dM_isMarked_73 (by decide) ?_
          refine lv_goto (tgt := 97) hx hb dM_isMarked_74 (by decide) ?_
          exact x_zret (v := 0) hx hb hr hlocks rfl ⟨(by subst ee9; first | (simp [mMarked, c1, c2, c3, c10]; done) | (simp_all [mMarked]; done)), rfl⟩ hP hK hD hS dM_isMarked_97
        · refine lv_iconst (v := 1) hx hb dM_isMarked_69 (by decide) ?_
          refine lv_goto (tgt := 97) hx hb dM_isMarked_70 (by decide) ?_
          exact x_zret (v := 1) hx hb hr hlocks rfl ⟨(by subst ee9; first | (simp [mMarked, c1, c2, c3, c10]; done) | (simp_all [mMarked]; done)), rfl⟩ hP hK hD hS dM_isMarked_97
    · refine lv_aload_n hx hb dM_isMarked_27 rfl (lv_at hl 0 rfl) ?_
      refine m_arr 5 hx hb hB inBM hown hK hP hR rfl (hB _ fl_M_13) rfl dM_isMarked_28 ?_
      refine lv_iload_n hx hb dM_isMarked_31 rfl (lv_at hl 1 rfl) ?_
      refine m_ld 5 (i := d9) hd hx hb hK hP hR rfl dM_isMarked_32 ?_
      refine lv_iconst (v := 1) hx hb dM_isMarked_33 (by decide) ?_
      refine lv_icmp_eq (tgt := 46) hx hb dM_isMarked_34 (by decide) (fun c11 => ?_) (fun c11 => ?_)
      · refine lv_iconst (v := 1) hx hb dM_isMarked_46 (by decide) ?_
        refine lv_goto (tgt := 97) hx hb dM_isMarked_47 (by decide) ?_
        exact x_zret (v := 1) hx hb hr hlocks rfl ⟨(by first | (simp [mMarked, c1, c2, c11]; done) | (simp_all [mMarked]; done)), rfl⟩ hP hK hD hS dM_isMarked_97
      · refine lv_aload_n hx hb dM_isMarked_37 rfl (lv_at hl 0 rfl) ?_
        refine lv_iload_n hx hb dM_isMarked_38 rfl (lv_at hl 1 rfl) ?_
        refine lv_iconst (v := 1) hx hb dM_isMarked_39 (by decide) ?_
        refine x_calli (va_runV (As := [.int d9, .int 1]) (rest := []) ⟨hx, hb, hml, hown, hB⟩ (c_M_has hR d9 1 hd) (cwV 2 hB (gV ml_M_107 im_M_has sl_M_has ini_M kc_M_has) rfl rfl rfl (by decide +kernel) ⟨Nat.le_of_ble_eq_true rfl, Nat.le_of_ble_eq_true rfl⟩) (x_preV hP hK hD hR.1 rfl) rfl rfl hl.1 rfl (lv_room (Nat.le_of_ble_eq_true rfl)) dM_isMarked_40 ⟨Nat.le_of_ble_eq_true rfl, Nat.le_of_ble_eq_true rfl⟩) hD hS hA (fun r12 w H locs hw hP hD hS => ?_)
        obtain ⟨ee13, rfl⟩ := hw
        refine lv_if_eq (tgt := 50) hx hb dM_isMarked_43 (by decide) (fun c14 => ?_) (fun c14 => ?_)
        · refine lv_iconst (v := 0) hx hb dM_isMarked_50 (by decide) ?_
          refine lv_goto (tgt := 97) hx hb dM_isMarked_51 (by decide) ?_
          exact x_zret (v := 0) hx hb hr hlocks rfl ⟨(by subst ee13; first | (simp [mMarked, c1, c2, c11, c14]; done) | (simp_all [mMarked]; done)), rfl⟩ hP hK hD hS dM_isMarked_97
        · refine lv_iconst (v := 1) hx hb dM_isMarked_46 (by decide) ?_
          refine lv_goto (tgt := 97) hx hb dM_isMarked_47 (by decide) ?_
          exact x_zret (v := 1) hx hb hr hlocks rfl ⟨(by subst ee13; first | (simp [mMarked, c1, c2, c11, c14]; done) | (simp_all [mMarked]; done)), rfl⟩ hP hK hD hS dM_isMarked_97
  · refine lv_aload_n hx hb dM_isMarked_5 rfl (lv_at hl 0 rfl) ?_
    refine lv_iload_n hx hb dM_isMarked_6 rfl (lv_at hl 1 rfl) ?_
    refine lv_iconst (v := 1) hx hb dM_isMarked_7 (by decide) ?_
    refine x_calli (va_runV (As := [.int d9, .int 1]) (rest := []) ⟨hx, hb, hml, hown, hB⟩ (c_M_has hR d9 1 hd) (cwV 2 hB (gV ml_M_107 im_M_has sl_M_has ini_M kc_M_has) rfl rfl rfl (by decide +kernel) ⟨Nat.le_of_ble_eq_true rfl, Nat.le_of_ble_eq_true rfl⟩) (x_preV hP hK hD hR.1 rfl) rfl rfl hl.1 rfl (lv_room (Nat.le_of_ble_eq_true rfl)) dM_isMarked_8 ⟨Nat.le_of_ble_eq_true rfl, Nat.le_of_ble_eq_true rfl⟩) hD hS hA (fun r15 w H locs hw hP hD hS => ?_)
    obtain ⟨ee16, rfl⟩ := hw
    refine lv_if_ne (tgt := 18) hx hb dM_isMarked_11 (by decide) (fun c17 => ?_) (fun c17 => ?_)
    · refine lv_iconst (v := 0) hx hb dM_isMarked_18 (by decide) ?_
      refine lv_goto (tgt := 97) hx hb dM_isMarked_19 (by decide) ?_
      exact x_zret (v := 0) hx hb hr hlocks rfl ⟨(by subst ee16; first | (simp [mMarked, c1, c17]; done) | (simp_all [mMarked]; done)), rfl⟩ hP hK hD hS dM_isMarked_97
    · refine lv_iconst (v := 1) hx hb dM_isMarked_14 (by decide) ?_
      refine lv_goto (tgt := 97) hx hb dM_isMarked_15 (by decide) ?_
      exact x_zret (v := 1) hx hb hr hlocks rfl ⟨(by subst ee16; first | (simp [mMarked, c1, c17]; done) | (simp_all [mMarked]; done)), rfl⟩ hP hK hD hS dM_isMarked_97
end
section
set_option maxHeartbeats 4000000 in
set_option maxRecDepth 100000 in
theorem c_M_why {l : Launch} {G : va_G} {ca : Nat → ClassId} {aM : Nat} {am : Nat → Nat} {h : Nat → Int32} {ar : Nat → Nat → Int32} {w : va_W} {sz : Nat} (hR : RM ca aM am h ar w) (e9 : Int32) (he : vp_in e9 120) (hw9 : vp_in (ar 16 e9.toNatClampNeg) 12) (ho : vp_in (ar 14 e9.toNatClampNeg) 20) (hk9 : vp_in (ar 15 e9.toNatClampNeg) 10) : xMi l yM_why wsM_why ({ frames := 2, cells := 0, slots := 0, locals := 44 }) [.ref aM, .int e9] G (mTys ca) w sz (fun r w' => r = mWhy h ar e9.toNatClampNeg ∧ RM ca aM am h (mWhyA ar e9.toNatClampNeg) w') 0 0 := by
  refine x_ofW (fun A => va_Qi (fun r w' => r = mWhy h ar e9.toNatClampNeg ∧ RM ca aM am h (mWhyA ar e9.toNatClampNeg) w') (xEnd G (mTys ca) A) A) cM_why 4 (some .int) (by decide) rfl (Nat.le_of_ble_eq_true rfl) ?_
  intro p e s m below meth c A ls hx hb hr hlocks hml hnm hown hB hA hP hK hD hS hl
  have hl : lv_has ls 4 [(0, .ref aM), (1, .int e9)] := hl
  have hown : s.vm.findClass NmM = some m.cls := hown
  refine lv_aload_n hx hb dM_why_0 rfl (lv_at hl 0 rfl) ?_
  refine m_arr 15 hx hb hB inBM hown hK hP hR rfl (hB _ fl_M_40) rfl dM_why_1 ?_
  refine lv_iload_n hx hb dM_why_4 rfl (lv_at hl 1 rfl) ?_
  refine m_ld 15 (i := e9) he hx hb hK hP hR rfl dM_why_5 ?_
  refine lv_istore_n (lv' := [(2, .int (ar 15 e9.toNatClampNeg)), (0, .ref aM), (1, .int e9)]) hx hb dM_why_6 rfl hl (by decide) rfl (fun ls hl => ?_)
  refine lv_aload_n hx hb dM_why_7 rfl (lv_at hl 1 rfl) ?_
  refine m_arr 17 hx hb hB inBM hown hK hP hR rfl (hB _ fl_M_46) rfl dM_why_8 ?_
  refine lv_iload_n hx hb dM_why_11 rfl (lv_at hl 2 rfl) ?_
  refine m_ld 17 (i := e9) he hx hb hK hP hR rfl dM_why_12 ?_
  refine lv_bipush (v := 24) hx hb dM_why_13 (by decide) ?_
  refine lv_irem hx hb dM_why_15 (by decide) ?_
  refine lv_istore_n (lv' := [(3, .int ((ar 17 e9.toNatClampNeg) - (ar 17 e9.toNatClampNeg) / 24 * 24)), (2, .int (ar 15 e9.toNatClampNeg)), (0, .ref aM), (1, .int e9)]) hx hb dM_why_16 rfl hl (by decide) rfl (fun ls hl => ?_)
  refine lv_aload_n hx hb dM_why_17 rfl (lv_at hl 2 rfl) ?_
  refine m_arr 24 hx hb hB inBM hown hK hP hR rfl (hB _ fl_M_66) rfl dM_why_18 ?_
  refine lv_iload_n hx hb dM_why_21 rfl (lv_at hl 1 rfl) ?_
  refine m_ldz 24 (i := ar 15 e9.toNatClampNeg) hk9 hx hb hK hP hR rfl dM_why_22 ?_
  refine lv_if_eq (tgt := 35) hx hb dM_why_23 (by decide) (fun c1 => ?_) (fun c1 => ?_)
  · refine lv_aload_n hx hb dM_why_35 rfl (lv_at hl 2 rfl) ?_
    refine lv_iload_n hx hb dM_why_36 rfl (lv_at hl 3 rfl) ?_
    refine x_calli (va_runV (As := [.int e9]) (rest := []) ⟨hx, hb, hml, hown, hB⟩ (c_M_may hR e9 he hw9 ho) (cwV 1 hB (gV ml_M_111 im_M_may sl_M_may ini_M kc_M_may) rfl rfl rfl (by decide +kernel) ⟨Nat.le_of_ble_eq_true rfl, Nat.le_of_ble_eq_true rfl⟩) (x_preV hP hK hD hR.1 rfl) rfl rfl hl.1 rfl (lv_room (Nat.le_of_ble_eq_true rfl)) dM_why_37 ⟨Nat.le_of_ble_eq_true rfl, Nat.le_of_ble_eq_true rfl⟩) hD hS hA (fun r2 w H locs hw hP hD hS => ?_)
    obtain ⟨ee3, rfl⟩ := hw
    refine lv_if_ne (tgt := 45) hx hb dM_why_40 (by decide) (fun c4 => ?_) (fun c4 => ?_)
    · refine lv_iload_n hx hb dM_why_45 rfl (lv_at hl 1 rfl) ?_
      refine x_calli (va_runS (As := [.int (ar 15 e9.toNatClampNeg)]) (rest := []) ⟨hx, hb, hml, hown, hB⟩ (c_M_isOfficers hR (ar 15 e9.toNatClampNeg) ) (va_cwS 1 hB (gS ml_M_104 sm_M_isOfficers ini_M kc_M_isOfficers) rfl rfl rfl (by decide +kernel) ⟨Nat.le_of_ble_eq_true rfl, Nat.le_of_ble_eq_true rfl⟩) (x_preS hP hK hD) rfl rfl hl.1 rfl (lv_room (Nat.le_of_ble_eq_true rfl)) dM_why_46 ⟨Nat.le_of_ble_eq_true rfl, Nat.le_of_ble_eq_true rfl⟩) hD hS hA (fun r5 w H locs hw hP hD hS => ?_)
      obtain ⟨ee6, rfl⟩ := hw
      refine lv_if_eq (tgt := 70) hx hb dM_why_49 (by decide) (fun c7 => ?_) (fun c7 => ?_)
      · refine lv_aload_n hx hb dM_why_70 rfl (lv_at hl 2 rfl) ?_
        refine lv_aload_n hx hb dM_why_71 rfl (lv_at hl 2 rfl) ?_
        refine m_arr 14 hx hb hB inBM hown hK hP hR rfl (hB _ fl_M_37) rfl dM_why_72 ?_
        refine lv_iload_n hx hb dM_why_75 rfl (lv_at hl 3 rfl) ?_
        refine m_ld 14 (i := e9) he hx hb hK hP hR rfl dM_why_76 ?_
        refine lv_iload_n hx hb dM_why_77 rfl (lv_at hl 1 rfl) ?_
        refine x_calli (va_runV (As := [.int (ar 14 e9.toNatClampNeg), .int (ar 15 e9.toNatClampNeg)]) (rest := []) ⟨hx, hb, hml, hown, hB⟩ (c_M_fits hR (ar 14 e9.toNatClampNeg) (ar 15 e9.toNatClampNeg) ho) (cwV 2 hB (gV ml_M_114 im_M_fits sl_M_fits ini_M kc_M_fits) rfl rfl rfl (by decide +kernel) ⟨Nat.le_of_ble_eq_true rfl, Nat.le_of_ble_eq_true rfl⟩) (x_preV hP hK hD hR.1 rfl) rfl rfl hl.1 rfl (lv_room (Nat.le_of_ble_eq_true rfl)) dM_why_78 ⟨Nat.le_of_ble_eq_true rfl, Nat.le_of_ble_eq_true rfl⟩) hD hS hA (fun r8 w H locs hw hP hD hS => ?_)
        obtain ⟨ee9, rfl⟩ := hw
        refine lv_if_ne (tgt := 88) hx hb dM_why_81 (by decide) (fun c10 => ?_) (fun c10 => ?_)
        · refine lv_aload_n hx hb dM_why_88 rfl (lv_at hl 2 rfl) ?_
          refine lv_aload_n hx hb dM_why_89 rfl (lv_at hl 2 rfl) ?_
          refine m_arr 14 hx hb hB inBM hown hK hP hR rfl (hB _ fl_M_37) rfl dM_why_90 ?_
          refine lv_iload_n hx hb dM_why_93 rfl (lv_at hl 3 rfl) ?_
          refine m_ld 14 (i := e9) he hx hb hK hP hR rfl dM_why_94 ?_
          refine lv_iload_n hx hb dM_why_95 rfl (lv_at hl 1 rfl) ?_
          refine x_calli (va_runV (As := [.int (ar 14 e9.toNatClampNeg), .int (ar 15 e9.toNatClampNeg)]) (rest := []) ⟨hx, hb, hml, hown, hB⟩ (c_M_isMarked hR (ar 14 e9.toNatClampNeg) (ar 15 e9.toNatClampNeg) ho) (cwV 2 hB (gV ml_M_117 im_M_isMarked sl_M_isMarked ini_M kc_M_isMarked) rfl rfl rfl (by decide +kernel) ⟨Nat.le_of_ble_eq_true rfl, Nat.le_of_ble_eq_true rfl⟩) (x_preV hP hK hD hR.1 rfl) rfl rfl hl.1 rfl (lv_room (Nat.le_of_ble_eq_true rfl)) dM_why_96 ⟨Nat.le_of_ble_eq_true rfl, Nat.le_of_ble_eq_true rfl⟩) hD hS hA (fun r11 w H locs hw hP hD hS => ?_)
          obtain ⟨ee12, rfl⟩ := hw
          refine lv_if_ne (tgt := 106) hx hb dM_why_99 (by decide) (fun c13 => ?_) (fun c13 => ?_)
          · refine lv_iconst (v := 0) hx hb dM_why_106 (by decide) ?_
            exact x_iret (v := 0) hx hb hr hlocks ⟨(by subst ee3 ee6 ee9 ee12; first | (simp [mWhy, mWhyV, mWhyA, mFM, c1, c4, c7, c10, c13]; done) | (simp_all [mWhy, mWhyV, mWhyA, mFM]; done)), (by subst ee3 ee6 ee9 ee12; first | (simpa [mWhy, mWhyV, mWhyA, mFM, c1, c4, c7, c10, c13] using hR) | (have hR9 := hR; simp_all [mWhy, mWhyV, mWhyA, mFM]; done))⟩ hP hK hD hS dM_why_107
          · refine lv_iconst (v := 5) hx hb dM_why_102 (by decide) ?_
            refine lv_goto (tgt := 107) hx hb dM_why_103 (by decide) ?_
            exact x_iret (v := 5) hx hb hr hlocks ⟨(by subst ee3 ee6 ee9 ee12; first | (simp [mWhy, mWhyV, mWhyA, mFM, c1, c4, c7, c10, c13]; done) | (simp_all [mWhy, mWhyV, mWhyA, mFM]; done)), (by subst ee3 ee6 ee9 ee12; first | (simpa [mWhy, mWhyV, mWhyA, mFM, c1, c4, c7, c10, c13] using hR) | (have hR9 := hR; simp_all [mWhy, mWhyV, mWhyA, mFM]; done))⟩ hP hK hD hS dM_why_107
        · refine lv_iconst (v := 4) hx hb dM_why_84 (by decide) ?_
          refine lv_goto (tgt := 107) hx hb dM_why_85 (by decide) ?_
          exact x_iret (v := 4) hx hb hr hlocks ⟨(by subst ee3 ee6 ee9; first | (simp [mWhy, mWhyV, mWhyA, mFM, c1, c4, c7, c10]; done) | (simp_all [mWhy, mWhyV, mWhyA, mFM]; done)), (by subst ee3 ee6 ee9; first | (simpa [mWhy, mWhyV, mWhyA, mFM, c1, c4, c7, c10] using hR) | (have hR9 := hR; simp_all [mWhy, mWhyV, mWhyA, mFM]; done))⟩ hP hK hD hS dM_why_107
      · refine lv_iload_n hx hb dM_why_52 rfl (lv_at hl 0 rfl) ?_
        refine lv_aload_n hx hb dM_why_53 rfl (lv_at hl 2 rfl) ?_
        refine m_get 22 hx hb hB inBM hown hK hP hR rfl (hB _ fl_M_59) rfl dM_why_54 ?_
        refine lv_icmp_lt (tgt := 68) hx hb dM_why_57 (by decide) (fun c14 => ?_) (fun c14 => ?_)
        · refine lv_iconst (v := 3) hx hb dM_why_68 (by decide) ?_
          exact x_iret (v := 3) hx hb hr hlocks ⟨(by subst ee3 ee6; first | (simp [mWhy, mWhyV, mWhyA, mFM, c1, c4, c7, c14]; done) | (simp_all [mWhy, mWhyV, mWhyA, mFM]; done)), (by subst ee3 ee6; first | (simpa [mWhy, mWhyV, mWhyA, mFM, c1, c4, c7, c14] using hR) | (have hR9 := hR; simp_all [mWhy, mWhyV, mWhyA, mFM]; done))⟩ hP hK hD hS dM_why_69
        · refine lv_iload_n hx hb dM_why_60 rfl (lv_at hl 0 rfl) ?_
          refine lv_aload_n hx hb dM_why_61 rfl (lv_at hl 2 rfl) ?_
          refine m_get 23 hx hb hB inBM hown hK hP hR rfl (hB _ fl_M_63) rfl dM_why_62 ?_
          refine lv_icmp_lt (tgt := 70) hx hb dM_why_65 (by decide) (fun c15 => ?_) (fun c15 => ?_)
          · refine lv_aload_n hx hb dM_why_70 rfl (lv_at hl 2 rfl) ?_
            refine lv_aload_n hx hb dM_why_71 rfl (lv_at hl 2 rfl) ?_
            refine m_arr 14 hx hb hB inBM hown hK hP hR rfl (hB _ fl_M_37) rfl dM_why_72 ?_
            refine lv_iload_n hx hb dM_why_75 rfl (lv_at hl 3 rfl) ?_
            refine m_ld 14 (i := e9) he hx hb hK hP hR rfl dM_why_76 ?_
            refine lv_iload_n hx hb dM_why_77 rfl (lv_at hl 1 rfl) ?_
            refine x_calli (va_runV (As := [.int (ar 14 e9.toNatClampNeg), .int (ar 15 e9.toNatClampNeg)]) (rest := []) ⟨hx, hb, hml, hown, hB⟩ (c_M_fits hR (ar 14 e9.toNatClampNeg) (ar 15 e9.toNatClampNeg) ho) (cwV 2 hB (gV ml_M_114 im_M_fits sl_M_fits ini_M kc_M_fits) rfl rfl rfl (by decide +kernel) ⟨Nat.le_of_ble_eq_true rfl, Nat.le_of_ble_eq_true rfl⟩) (x_preV hP hK hD hR.1 rfl) rfl rfl hl.1 rfl (lv_room (Nat.le_of_ble_eq_true rfl)) dM_why_78 ⟨Nat.le_of_ble_eq_true rfl, Nat.le_of_ble_eq_true rfl⟩) hD hS hA (fun r16 w H locs hw hP hD hS => ?_)
            obtain ⟨ee17, rfl⟩ := hw
            refine lv_if_ne (tgt := 88) hx hb dM_why_81 (by decide) (fun c18 => ?_) (fun c18 => ?_)
            · refine lv_aload_n hx hb dM_why_88 rfl (lv_at hl 2 rfl) ?_
              refine lv_aload_n hx hb dM_why_89 rfl (lv_at hl 2 rfl) ?_
              refine m_arr 14 hx hb hB inBM hown hK hP hR rfl (hB _ fl_M_37) rfl dM_why_90 ?_
              refine lv_iload_n hx hb dM_why_93 rfl (lv_at hl 3 rfl) ?_
              refine m_ld 14 (i := e9) he hx hb hK hP hR rfl dM_why_94 ?_
              refine lv_iload_n hx hb dM_why_95 rfl (lv_at hl 1 rfl) ?_
              refine x_calli (va_runV (As := [.int (ar 14 e9.toNatClampNeg), .int (ar 15 e9.toNatClampNeg)]) (rest := []) ⟨hx, hb, hml, hown, hB⟩ (c_M_isMarked hR (ar 14 e9.toNatClampNeg) (ar 15 e9.toNatClampNeg) ho) (cwV 2 hB (gV ml_M_117 im_M_isMarked sl_M_isMarked ini_M kc_M_isMarked) rfl rfl rfl (by decide +kernel) ⟨Nat.le_of_ble_eq_true rfl, Nat.le_of_ble_eq_true rfl⟩) (x_preV hP hK hD hR.1 rfl) rfl rfl hl.1 rfl (lv_room (Nat.le_of_ble_eq_true rfl)) dM_why_96 ⟨Nat.le_of_ble_eq_true rfl, Nat.le_of_ble_eq_true rfl⟩) hD hS hA (fun r19 w H locs hw hP hD hS => ?_)
              obtain ⟨ee20, rfl⟩ := hw
              refine lv_if_ne (tgt := 106) hx hb dM_why_99 (by decide) (fun c21 => ?_) (fun c21 => ?_)
              · refine lv_iconst (v := 0) hx hb dM_why_106 (by decide) ?_
                exact x_iret (v := 0) hx hb hr hlocks ⟨(by subst ee3 ee6 ee17 ee20; first | (simp [mWhy, mWhyV, mWhyA, mFM, c1, c4, c7, c14, c15, c18, c21]; done) | (simp_all [mWhy, mWhyV, mWhyA, mFM]; done)), (by subst ee3 ee6 ee17 ee20; first | (simpa [mWhy, mWhyV, mWhyA, mFM, c1, c4, c7, c14, c15, c18, c21] using hR) | (have hR9 := hR; simp_all [mWhy, mWhyV, mWhyA, mFM]; done))⟩ hP hK hD hS dM_why_107
              · refine lv_iconst (v := 5) hx hb dM_why_102 (by decide) ?_
                refine lv_goto (tgt := 107) hx hb dM_why_103 (by decide) ?_
                exact x_iret (v := 5) hx hb hr hlocks ⟨(by subst ee3 ee6 ee17 ee20; first | (simp [mWhy, mWhyV, mWhyA, mFM, c1, c4, c7, c14, c15, c18, c21]; done) | (simp_all [mWhy, mWhyV, mWhyA, mFM]; done)), (by subst ee3 ee6 ee17 ee20; first | (simpa [mWhy, mWhyV, mWhyA, mFM, c1, c4, c7, c14, c15, c18, c21] using hR) | (have hR9 := hR; simp_all [mWhy, mWhyV, mWhyA, mFM]; done))⟩ hP hK hD hS dM_why_107
            · refine lv_iconst (v := 4) hx hb dM_why_84 (by decide) ?_
              refine lv_goto (tgt := 107) hx hb dM_why_85 (by decide) ?_
              exact x_iret (v := 4) hx hb hr hlocks ⟨(by subst ee3 ee6 ee17; first | (simp [mWhy, mWhyV, mWhyA, mFM, c1, c4, c7, c14, c15, c18]; done) | (simp_all [mWhy, mWhyV, mWhyA, mFM]; done)), (by subst ee3 ee6 ee17; first | (simpa [mWhy, mWhyV, mWhyA, mFM, c1, c4, c7, c14, c15, c18] using hR) | (have hR9 := hR; simp_all [mWhy, mWhyV, mWhyA, mFM]; done))⟩ hP hK hD hS dM_why_107
          · refine lv_iconst (v := 3) hx hb dM_why_68 (by decide) ?_
            exact x_iret (v := 3) hx hb hr hlocks ⟨(by subst ee3 ee6; first | (simp [mWhy, mWhyV, mWhyA, mFM, c1, c4, c7, c14, c15]; done) | (simp_all [mWhy, mWhyV, mWhyA, mFM]; done)), (by subst ee3 ee6; first | (simpa [mWhy, mWhyV, mWhyA, mFM, c1, c4, c7, c14, c15] using hR) | (have hR9 := hR; simp_all [mWhy, mWhyV, mWhyA, mFM]; done))⟩ hP hK hD hS dM_why_69
    · refine lv_iconst (v := 2) hx hb dM_why_43 (by decide) ?_
      exact x_iret (v := 2) hx hb hr hlocks ⟨(by subst ee3; first | (simp [mWhy, mWhyV, mWhyA, mFM, c1, c4]; done) | (simp_all [mWhy, mWhyV, mWhyA, mFM]; done)), (by subst ee3; first | (simpa [mWhy, mWhyV, mWhyA, mFM, c1, c4] using hR) | (have hR9 := hR; simp_all [mWhy, mWhyV, mWhyA, mFM]; done))⟩ hP hK hD hS dM_why_44
  · refine lv_aload_n hx hb dM_why_26 rfl (lv_at hl 2 rfl) ?_
    refine m_arr 24 hx hb hB inBM hown hK hP hR rfl (hB _ fl_M_66) rfl dM_why_27 ?_
    refine lv_iload_n hx hb dM_why_30 rfl (lv_at hl 1 rfl) ?_
    refine lv_iconst (v := 0) hx hb dM_why_31 (by decide) ?_
    refine m_stz 24 (i := ar 15 e9.toNatClampNeg) (x := 0) rfl hk9 hx hb hK hP hD hS hR rfl dM_why_32 (fun w H locs hR hP hD hS => ?_)
    refine lv_iconst (v := 1) hx hb dM_why_33 (by decide) ?_
    exact x_iret (v := 1) hx hb hr hlocks ⟨(by first | (simp [mWhy, mWhyV, mWhyA, mFM, c1]; done) | (simp_all [mWhy, mWhyV, mWhyA, mFM]; done)), (by first | (simpa [mWhy, mWhyV, mWhyA, mFM, c1] using hR) | (have hR9 := hR; simp_all [mWhy, mWhyV, mWhyA, mFM]; done))⟩ hP hK hD hS dM_why_34
set_option maxHeartbeats 4000000 in
set_option maxRecDepth 100000 in
theorem c_M_becomes {l : Launch} {G : va_G} {ca : Nat → ClassId} {aM : Nat} {am : Nat → Nat} {h : Nat → Int32} {ar : Nat → Nat → Int32} {w : va_W} {sz : Nat} (hR : RM ca aM am h ar w) (d9 : Int32) (s9 : Int32) (t9 : Int32) (hd : vp_in d9 20) : xMv l yM_becomes wsM_becomes ({ frames := 0, cells := 0, slots := 0, locals := 0 }) [.ref aM, .int d9, .int s9, .int t9] G (mTys ca) w sz (fun w' => RM ca aM am h (mBec ar d9.toNatClampNeg s9 t9) w') 0 0 := by
  refine x_ofW (fun A => va_Qv (fun w' => RM ca aM am h (mBec ar d9.toNatClampNeg s9 t9) w') (xEnd G (mTys ca) A) A) cM_becomes 4 none (by decide) rfl (Nat.le_of_ble_eq_true rfl) ?_
  intro p e s m below meth c A ls hx hb hr hlocks hml hnm hown hB hA hP hK hD hS hl
  have hl : lv_has ls 4 [(0, .ref aM), (1, .int d9), (2, .int s9), (3, .int t9)] := hl
  have hown : s.vm.findClass NmM = some m.cls := hown
  refine lv_aload_n hx hb dM_becomes_0 rfl (lv_at hl 0 rfl) ?_
  refine m_arr 7 hx hb hB inBM hown hK hP hR rfl (hB _ fl_M_19) rfl dM_becomes_1 ?_
  refine lv_iload_n hx hb dM_becomes_4 rfl (lv_at hl 1 rfl) ?_
  refine m_ld 7 (i := d9) hd hx hb hK hP hR rfl dM_becomes_5 ?_
  refine lv_iload_n hx hb dM_becomes_6 rfl (lv_at hl 2 rfl) ?_
  refine lv_icmp_eq (tgt := 31) hx hb dM_becomes_7 (by decide) (fun c1 => ?_) (fun c1 => ?_)
  · exact x_vret hx hb hr hlocks (by first | (simpa [mBec, c1] using hR) | (have hR9 := hR; simp_all [mBec]; done)) hP hK hD hS dM_becomes_31
  · refine lv_aload_n hx hb dM_becomes_10 rfl (lv_at hl 0 rfl) ?_
    refine m_arr 7 hx hb hB inBM hown hK hP hR rfl (hB _ fl_M_19) rfl dM_becomes_11 ?_
    refine lv_iload_n hx hb dM_becomes_14 rfl (lv_at hl 1 rfl) ?_
    refine lv_iload_n hx hb dM_becomes_15 rfl (lv_at hl 2 rfl) ?_
    refine m_st 7 (i := d9) (x := s9) hd hx hb hK hP hD hS hR rfl dM_becomes_16 (fun w H locs hR hP hD hS => ?_)
    refine lv_aload_n hx hb dM_becomes_17 rfl (lv_at hl 0 rfl) ?_
    refine m_arr 10 hx hb hB inBM hown hK hP hR rfl (hB _ fl_M_28) rfl dM_becomes_18 ?_
    refine lv_iload_n hx hb dM_becomes_21 rfl (lv_at hl 1 rfl) ?_
    refine lv_iload_n hx hb dM_becomes_22 rfl (lv_at hl 3 rfl) ?_
    refine m_st 10 (i := d9) (x := t9) hd hx hb hK hP hD hS hR rfl dM_becomes_23 (fun w H locs hR hP hD hS => ?_)
    refine lv_aload_n hx hb dM_becomes_24 rfl (lv_at hl 0 rfl) ?_
    refine m_arr 11 hx hb hB inBM hown hK hP hR rfl (hB _ fl_M_31) rfl dM_becomes_25 ?_
    refine lv_iload_n hx hb dM_becomes_28 rfl (lv_at hl 1 rfl) ?_
    refine lv_iconst (v := (-1)) hx hb dM_becomes_29 (by decide) ?_
    refine m_st 11 (i := d9) (x := (-1)) hd hx hb hK hP hD hS hR rfl dM_becomes_30 (fun w H locs hR hP hD hS => ?_)
    exact x_vret hx hb hr hlocks (by first | (simpa [mBec, c1] using hR) | (have hR9 := hR; simp_all [mBec]; done)) hP hK hD hS dM_becomes_31
set_option maxHeartbeats 4000000 in
set_option maxRecDepth 100000 in
theorem c_M_release {l : Launch} {G : va_G} {ca : Nat → ClassId} {aM : Nat} {am : Nat → Nat} {h : Nat → Int32} {ar : Nat → Nat → Int32} {w : va_W} {sz : Nat} (hR : RM ca aM am h ar w) (d9 : Int32) (t9 : Int32) (hd : vp_in d9 20) : xMv l yM_release wsM_release ({ frames := 1, cells := 0, slots := 0, locals := 23 }) [.ref aM, .int d9, .int t9] G (mTys ca) w sz (fun w' => RM ca aM am h (mRel ar d9.toNatClampNeg t9) w') 0 0 := by
  refine x_ofW (fun A => va_Qv (fun w' => RM ca aM am h (mRel ar d9.toNatClampNeg t9) w') (xEnd G (mTys ca) A) A) cM_release 3 none (by decide) rfl (Nat.le_of_ble_eq_true rfl) ?_
  intro p e s m below meth c A ls hx hb hr hlocks hml hnm hown hB hA hP hK hD hS hl
  have hl : lv_has ls 3 [(0, .ref aM), (1, .int d9), (2, .int t9)] := hl
  have hown : s.vm.findClass NmM = some m.cls := hown
  refine lv_aload_n hx hb dM_release_0 rfl (lv_at hl 0 rfl) ?_
  refine m_arr 7 hx hb hB inBM hown hK hP hR rfl (hB _ fl_M_19) rfl dM_release_1 ?_
  refine lv_iload_n hx hb dM_release_4 rfl (lv_at hl 1 rfl) ?_
  refine m_ld 7 (i := d9) hd hx hb hK hP hR rfl dM_release_5 ?_
  refine lv_iconst (v := 2) hx hb dM_release_6 (by decide) ?_
  refine lv_icmp_ne (tgt := 62) hx hb dM_release_7 (by decide) (fun c1 => ?_) (fun c1 => ?_)
  · exact x_vret hx hb hr hlocks (by first | (simpa [mRel, c1] using hR) | (have hR9 := hR; simp_all [mRel]; done)) hP hK hD hS dM_release_62
  · refine lv_aload_n hx hb dM_release_10 rfl (lv_at hl 0 rfl) ?_
    refine m_arr 9 hx hb hB inBM hown hK hP hR rfl (hB _ fl_M_25) rfl dM_release_11 ?_
    refine lv_iload_n hx hb dM_release_14 rfl (lv_at hl 1 rfl) ?_
    refine m_ld 9 (i := d9) hd hx hb hK hP hR rfl dM_release_15 ?_
    refine lv_if_ne (tgt := 62) hx hb dM_release_16 (by decide) (fun c2 => ?_) (fun c2 => ?_)
    · exact x_vret hx hb hr hlocks (by first | (simpa [mRel, c1, c2] using hR) | (have hR9 := hR; simp_all [mRel]; done)) hP hK hD hS dM_release_62
    · refine lv_aload_n hx hb dM_release_19 rfl (lv_at hl 0 rfl) ?_
      refine lv_iload_n hx hb dM_release_20 rfl (lv_at hl 1 rfl) ?_
      refine lv_iconst (v := 4) hx hb dM_release_21 (by decide) ?_
      refine x_calli (va_runV (As := [.int d9, .int 4]) (rest := []) ⟨hx, hb, hml, hown, hB⟩ (c_M_has hR d9 4 hd) (cwV 2 hB (gV ml_M_107 im_M_has sl_M_has ini_M kc_M_has) rfl rfl rfl (by decide +kernel) ⟨Nat.le_of_ble_eq_true rfl, Nat.le_of_ble_eq_true rfl⟩) (x_preV hP hK hD hR.1 rfl) rfl rfl hl.1 rfl (lv_room (Nat.le_of_ble_eq_true rfl)) dM_release_22 ⟨Nat.le_of_ble_eq_true rfl, Nat.le_of_ble_eq_true rfl⟩) hD hS hA (fun r3 w H locs hw hP hD hS => ?_)
      obtain ⟨ee4, rfl⟩ := hw
      refine lv_if_ne (tgt := 62) hx hb dM_release_25 (by decide) (fun c5 => ?_) (fun c5 => ?_)
      · exact x_vret hx hb hr hlocks (by subst ee4; first | (simpa [mRel, c1, c2, c5] using hR) | (have hR9 := hR; simp_all [mRel]; done)) hP hK hD hS dM_release_62
      · refine lv_aload_n hx hb dM_release_28 rfl (lv_at hl 0 rfl) ?_
        refine lv_iload_n hx hb dM_release_29 rfl (lv_at hl 1 rfl) ?_
        refine lv_iconst (v := 1) hx hb dM_release_30 (by decide) ?_
        refine x_calli (va_runV (As := [.int d9, .int 1]) (rest := []) ⟨hx, hb, hml, hown, hB⟩ (c_M_has hR d9 1 hd) (cwV 2 hB (gV ml_M_107 im_M_has sl_M_has ini_M kc_M_has) rfl rfl rfl (by decide +kernel) ⟨Nat.le_of_ble_eq_true rfl, Nat.le_of_ble_eq_true rfl⟩) (x_preV hP hK hD hR.1 rfl) rfl rfl hl.1 rfl (lv_room (Nat.le_of_ble_eq_true rfl)) dM_release_31 ⟨Nat.le_of_ble_eq_true rfl, Nat.le_of_ble_eq_true rfl⟩) hD hS hA (fun r6 w H locs hw hP hD hS => ?_)
        obtain ⟨ee7, rfl⟩ := hw
        refine lv_if_eq (tgt := 62) hx hb dM_release_34 (by decide) (fun c8 => ?_) (fun c8 => ?_)
        · exact x_vret hx hb hr hlocks (by subst ee4 ee7; first | (simpa [mRel, c1, c2, c5, c8] using hR) | (have hR9 := hR; simp_all [mRel]; done)) hP hK hD hS dM_release_62
        · refine lv_aload_n hx hb dM_release_37 rfl (lv_at hl 0 rfl) ?_
          refine m_arr 5 hx hb hB inBM hown hK hP hR rfl (hB _ fl_M_13) rfl dM_release_38 ?_
          refine lv_iload_n hx hb dM_release_41 rfl (lv_at hl 1 rfl) ?_
          refine m_ld 5 (i := d9) hd hx hb hK hP hR rfl dM_release_42 ?_
          refine lv_if_gt (tgt := 55) hx hb dM_release_43 (by decide) (fun c9 => ?_) (fun c9 => ?_)
          · refine lv_aload_n hx hb dM_release_55 rfl (lv_at hl 0 rfl) ?_
            refine lv_iload_n hx hb dM_release_56 rfl (lv_at hl 1 rfl) ?_
            refine lv_iconst (v := 4) hx hb dM_release_57 (by decide) ?_
            refine lv_iload_n hx hb dM_release_58 rfl (lv_at hl 2 rfl) ?_
            refine x_callv (va_runV (As := [.int d9, .int 4, .int t9]) (rest := []) ⟨hx, hb, hml, hown, hB⟩ (c_M_becomes hR d9 4 t9 hd) (cwV 3 hB (gV ml_M_120 im_M_becomes sl_M_becomes ini_M kc_M_becomes) rfl rfl rfl (by decide +kernel) ⟨Nat.le_of_ble_eq_true rfl, Nat.le_of_ble_eq_true rfl⟩) (x_preV hP hK hD hR.1 rfl) rfl rfl hl.1 rfl (lv_room (Nat.le_of_ble_eq_true rfl)) dM_release_59 ⟨Nat.le_of_ble_eq_true rfl, Nat.le_of_ble_eq_true rfl⟩) hD hS hA (fun w H locs hw hP hD hS => ?_)
            have hR := hw
            exact x_vret hx hb hr hlocks (by subst ee4 ee7; first | (simpa [mRel, c1, c2, c5, c8, c9] using hR) | (have hR9 := hR; simp_all [mRel]; done)) hP hK hD hS dM_release_62
          · refine lv_aload_n hx hb dM_release_46 rfl (lv_at hl 0 rfl) ?_
            refine lv_iload_n hx hb dM_release_47 rfl (lv_at hl 1 rfl) ?_
            refine lv_iconst (v := 2) hx hb dM_release_48 (by decide) ?_
            refine x_calli (va_runV (As := [.int d9, .int 2]) (rest := []) ⟨hx, hb, hml, hown, hB⟩ (c_M_has hR d9 2 hd) (cwV 2 hB (gV ml_M_107 im_M_has sl_M_has ini_M kc_M_has) rfl rfl rfl (by decide +kernel) ⟨Nat.le_of_ble_eq_true rfl, Nat.le_of_ble_eq_true rfl⟩) (x_preV hP hK hD hR.1 rfl) rfl rfl hl.1 rfl (lv_room (Nat.le_of_ble_eq_true rfl)) dM_release_49 ⟨Nat.le_of_ble_eq_true rfl, Nat.le_of_ble_eq_true rfl⟩) hD hS hA (fun r12 w H locs hw hP hD hS => ?_)
            obtain ⟨ee13, rfl⟩ := hw
            refine lv_if_eq (tgt := 62) hx hb dM_release_52 (by decide) (fun c14 => ?_) (fun c14 => ?_)
            · exact x_vret hx hb hr hlocks (by subst ee4 ee7 ee13; first | (simpa [mRel, c1, c2, c5, c8, c9, c14] using hR) | (have hR9 := hR; simp_all [mRel]; done)) hP hK hD hS dM_release_62
            · refine lv_aload_n hx hb dM_release_55 rfl (lv_at hl 0 rfl) ?_
              refine lv_iload_n hx hb dM_release_56 rfl (lv_at hl 1 rfl) ?_
              refine lv_iconst (v := 4) hx hb dM_release_57 (by decide) ?_
              refine lv_iload_n hx hb dM_release_58 rfl (lv_at hl 2 rfl) ?_
              refine x_callv (va_runV (As := [.int d9, .int 4, .int t9]) (rest := []) ⟨hx, hb, hml, hown, hB⟩ (c_M_becomes hR d9 4 t9 hd) (cwV 3 hB (gV ml_M_120 im_M_becomes sl_M_becomes ini_M kc_M_becomes) rfl rfl rfl (by decide +kernel) ⟨Nat.le_of_ble_eq_true rfl, Nat.le_of_ble_eq_true rfl⟩) (x_preV hP hK hD hR.1 rfl) rfl rfl hl.1 rfl (lv_room (Nat.le_of_ble_eq_true rfl)) dM_release_59 ⟨Nat.le_of_ble_eq_true rfl, Nat.le_of_ble_eq_true rfl⟩) hD hS hA (fun w H locs hw hP hD hS => ?_)
              have hR := hw
              exact x_vret hx hb hr hlocks (by subst ee4 ee7 ee13; first | (simpa [mRel, c1, c2, c5, c8, c9, c14] using hR) | (have hR9 := hR; simp_all [mRel]; done)) hP hK hD hS dM_release_62
set_option maxHeartbeats 4000000 in
set_option maxRecDepth 100000 in
theorem c_M_happens {l : Launch} {G : va_G} {ca : Nat → ClassId} {aM : Nat} {am : Nat → Nat} {h : Nat → Int32} {ar : Nat → Nat → Int32} {w : va_W} {sz : Nat} (hR : RM ca aM am h ar w) (d9 : Int32) (k : Int32) (t9 : Int32) (hd : vp_in d9 20) : xMv l yM_happens wsM_happens ({ frames := 2, cells := 0, slots := 0, locals := 45 }) [.ref aM, .int d9, .int k, .int t9] G (mTys ca) w sz (fun w' => RM ca aM am h (mHap ar d9.toNatClampNeg k t9) w') 0 0 := by
  refine x_ofW (fun A => va_Qv (fun w' => RM ca aM am h (mHap ar d9.toNatClampNeg k t9) w') (xEnd G (mTys ca) A) A) cM_happens 6 none (by decide) rfl (Nat.le_of_ble_eq_true rfl) ?_
  intro p e s m below meth c A ls hx hb hr hlocks hml hnm hown hB hA hP hK hD hS hl
  have hl : lv_has ls 6 [(0, .ref aM), (1, .int d9), (2, .int k), (3, .int t9)] := hl
  have hown : s.vm.findClass NmM = some m.cls := hown
  refine lv_aload_n hx hb dM_happens_0 rfl (lv_at hl 0 rfl) ?_
  refine m_arr 7 hx hb hB inBM hown hK hP hR rfl (hB _ fl_M_19) rfl dM_happens_1 ?_
  refine lv_iload_n hx hb dM_happens_4 rfl (lv_at hl 1 rfl) ?_
  refine m_ld 7 (i := d9) hd hx hb hK hP hR rfl dM_happens_5 ?_
  refine lv_istore (lv' := [(4, .int (ar 7 d9.toNatClampNeg)), (0, .ref aM), (1, .int d9), (2, .int k), (3, .int t9)]) hx hb dM_happens_6 hl (by decide) rfl (fun ls hl => ?_)
  refine lv_aload_n hx hb dM_happens_8 rfl (lv_at hl 1 rfl) ?_
  refine m_arr 8 hx hb hB inBM hown hK hP hR rfl (hB _ fl_M_22) rfl dM_happens_9 ?_
  refine lv_iload_n hx hb dM_happens_12 rfl (lv_at hl 2 rfl) ?_
  refine lv_dup2_11 hx hb dM_happens_13 rfl rfl ?_
  refine m_ld 8 (i := d9) hd hx hb hK hP hR rfl dM_happens_14 ?_
  refine lv_iload_n hx hb dM_happens_15 rfl (lv_at hl 3 rfl) ?_
  refine lv_iconst (v := 1) hx hb dM_happens_16 (by decide) ?_
  refine lv_icmp_ne (tgt := 24) hx hb dM_happens_17 (by decide) (fun c1 => ?_) (fun c1 => ?_)
  · refine lv_iload_n hx hb dM_happens_24 rfl (lv_at hl 3 rfl) ?_
    refine lv_bipush (v := 6) hx hb dM_happens_25 (by decide) ?_
    refine lv_icmp_ne (tgt := 34) hx hb dM_happens_27 (by decide) (fun c2 => ?_) (fun c2 => ?_)
    · refine lv_iload_n hx hb dM_happens_34 rfl (lv_at hl 3 rfl) ?_
      refine lv_iconst (v := 5) hx hb dM_happens_35 (by decide) ?_
      refine lv_icmp_ne (tgt := 43) hx hb dM_happens_36 (by decide) (fun c3 => ?_) (fun c3 => ?_)
      · refine lv_iconst (v := 0) hx hb dM_happens_43 (by decide) ?_
        refine lv_ior hx hb dM_happens_44 ?_
        refine m_st 8 (i := d9) (x := (ar 8 d9.toNatClampNeg) ||| 0) hd hx hb hK hP hD hS hR rfl dM_happens_45 (fun w H locs hR hP hD hS => ?_)
        refine lv_aload_n hx hb dM_happens_46 rfl (lv_at hl 1 rfl) ?_
        refine m_arr 8 hx hb hB inBM hown hK hP hR rfl (hB _ fl_M_22) rfl dM_happens_47 ?_
        refine lv_iload_n hx hb dM_happens_50 rfl (lv_at hl 2 rfl) ?_
        refine lv_dup2_11 hx hb dM_happens_51 rfl rfl ?_
        refine m_ld 8 (i := d9) hd hx hb hK hP hR rfl dM_happens_52 ?_
        refine lv_iload_n hx hb dM_happens_53 rfl (lv_at hl 3 rfl) ?_
        refine lv_bipush (v := 9) hx hb dM_happens_54 (by decide) ?_
        refine lv_icmp_ne (tgt := 63) hx hb dM_happens_56 (by decide) (fun c4 => ?_) (fun c4 => ?_)
        · refine lv_iconst (v := 0) hx hb dM_happens_63 (by decide) ?_
          refine lv_isub hx hb dM_happens_64 ?_
          refine m_st 8 (i := d9) (x := ((mSt ar 8 d9.toNatClampNeg ((ar 8 d9.toNatClampNeg) ||| 0)) 8 d9.toNatClampNeg) - 0) hd hx hb hK hP hD hS hR rfl dM_happens_65 (fun w H locs hR hP hD hS => ?_)
          refine lv_iload_n hx hb dM_happens_66 rfl (lv_at hl 3 rfl) ?_
          refine lv_if_ne (tgt := 74) hx hb dM_happens_67 (by decide) (fun c5 => ?_) (fun c5 => ?_)
          · refine lv_iload_n hx hb dM_happens_74 rfl (lv_at hl 3 rfl) ?_
            refine lv_iconst (v := 2) hx hb dM_happens_75 (by decide) ?_
            refine lv_icmp_eq (tgt := 89) hx hb dM_happens_76 (by decide) (fun c6 => ?_) (fun c6 => ?_)
            · refine lv_iconst (v := 2) hx hb dM_happens_89 (by decide) ?_
              refine lv_goto (tgt := 125) hx hb dM_happens_90 (by decide) ?_
              refine lv_istore (lv' := [(5, .int 2), (4, .int (ar 7 d9.toNatClampNeg)), (0, .ref aM), (1, .int d9), (2, .int k), (3, .int t9)]) hx hb dM_happens_125 hl (by decide) rfl (fun ls hl => ?_)
              refine lv_aload_n hx hb dM_happens_127 rfl (lv_at hl 2 rfl) ?_
              refine lv_iload_n hx hb dM_happens_128 rfl (lv_at hl 3 rfl) ?_
              refine lv_iload hx hb dM_happens_129 (lv_at hl 0 rfl) ?_
              refine lv_iload_n hx hb dM_happens_131 rfl (lv_at hl 5 rfl) ?_
              refine x_callv (va_runV (As := [.int d9, .int 2, .int t9]) (rest := []) ⟨hx, hb, hml, hown, hB⟩ (c_M_becomes hR d9 2 t9 hd) (cwV 3 hB (gV ml_M_120 im_M_becomes sl_M_becomes ini_M kc_M_becomes) rfl rfl rfl (by decide +kernel) ⟨Nat.le_of_ble_eq_true rfl, Nat.le_of_ble_eq_true rfl⟩) (x_preV hP hK hD hR.1 rfl) rfl rfl hl.1 rfl (lv_room (Nat.le_of_ble_eq_true rfl)) dM_happens_132 ⟨Nat.le_of_ble_eq_true rfl, Nat.le_of_ble_eq_true rfl⟩) hD hS hA (fun w H locs hw hP hD hS => ?_)
              have hR := hw
              refine lv_aload_n hx hb dM_happens_135 rfl (lv_at hl 2 rfl) ?_
              refine lv_iload_n hx hb dM_happens_136 rfl (lv_at hl 3 rfl) ?_
              refine lv_iload_n hx hb dM_happens_137 rfl (lv_at hl 5 rfl) ?_
              refine x_callv (va_runV (As := [.int d9, .int t9]) (rest := []) ⟨hx, hb, hml, hown, hB⟩ (c_M_release hR d9 t9 hd) (cwV 2 hB (gV ml_M_124 im_M_release sl_M_release ini_M kc_M_release) rfl rfl rfl (by decide +kernel) ⟨Nat.le_of_ble_eq_true rfl, Nat.le_of_ble_eq_true rfl⟩) (x_preV hP hK hD hR.1 rfl) rfl rfl hl.1 rfl (lv_room (Nat.le_of_ble_eq_true rfl)) dM_happens_138 ⟨Nat.le_of_ble_eq_true rfl, Nat.le_of_ble_eq_true rfl⟩) hD hS hA (fun w H locs hw hP hD hS => ?_)
              have hR := hw
              exact x_vret hx hb hr hlocks (by first | (simpa [mHap, mOr, mThen, c1, c2, c3, c4, c5, c6] using hR) | (have hR9 := hR; simp_all [mHap, mOr, mThen]; done)) hP hK hD hS dM_happens_141
            · refine lv_iload_n hx hb dM_happens_79 rfl (lv_at hl 3 rfl) ?_
              refine lv_iconst (v := 4) hx hb dM_happens_80 (by decide) ?_
              refine lv_icmp_eq (tgt := 89) hx hb dM_happens_81 (by decide) (fun c11 => ?_) (fun c11 => ?_)
              · refine lv_iconst (v := 2) hx hb dM_happens_89 (by decide) ?_
                refine lv_goto (tgt := 125) hx hb dM_happens_90 (by decide) ?_
                refine lv_istore (lv' := [(5, .int 2), (4, .int (ar 7 d9.toNatClampNeg)), (0, .ref aM), (1, .int d9), (2, .int k), (3, .int t9)]) hx hb dM_happens_125 hl (by decide) rfl (fun ls hl => ?_)
                refine lv_aload_n hx hb dM_happens_127 rfl (lv_at hl 2 rfl) ?_
                refine lv_iload_n hx hb dM_happens_128 rfl (lv_at hl 3 rfl) ?_
                refine lv_iload hx hb dM_happens_129 (lv_at hl 0 rfl) ?_
                refine lv_iload_n hx hb dM_happens_131 rfl (lv_at hl 5 rfl) ?_
                refine x_callv (va_runV (As := [.int d9, .int 2, .int t9]) (rest := []) ⟨hx, hb, hml, hown, hB⟩ (c_M_becomes hR d9 2 t9 hd) (cwV 3 hB (gV ml_M_120 im_M_becomes sl_M_becomes ini_M kc_M_becomes) rfl rfl rfl (by decide +kernel) ⟨Nat.le_of_ble_eq_true rfl, Nat.le_of_ble_eq_true rfl⟩) (x_preV hP hK hD hR.1 rfl) rfl rfl hl.1 rfl (lv_room (Nat.le_of_ble_eq_true rfl)) dM_happens_132 ⟨Nat.le_of_ble_eq_true rfl, Nat.le_of_ble_eq_true rfl⟩) hD hS hA (fun w H locs hw hP hD hS => ?_)
                have hR := hw
                refine lv_aload_n hx hb dM_happens_135 rfl (lv_at hl 2 rfl) ?_
                refine lv_iload_n hx hb dM_happens_136 rfl (lv_at hl 3 rfl) ?_
                refine lv_iload_n hx hb dM_happens_137 rfl (lv_at hl 5 rfl) ?_
                refine x_callv (va_runV (As := [.int d9, .int t9]) (rest := []) ⟨hx, hb, hml, hown, hB⟩ (c_M_release hR d9 t9 hd) (cwV 2 hB (gV ml_M_124 im_M_release sl_M_release ini_M kc_M_release) rfl rfl rfl (by decide +kernel) ⟨Nat.le_of_ble_eq_true rfl, Nat.le_of_ble_eq_true rfl⟩) (x_preV hP hK hD hR.1 rfl) rfl rfl hl.1 rfl (lv_room (Nat.le_of_ble_eq_true rfl)) dM_happens_138 ⟨Nat.le_of_ble_eq_true rfl, Nat.le_of_ble_eq_true rfl⟩) hD hS hA (fun w H locs hw hP hD hS => ?_)
                have hR := hw
                exact x_vret hx hb hr hlocks (by first | (simpa [mHap, mOr, mThen, c1, c2, c3, c4, c5, c6, c11] using hR) | (have hR9 := hR; simp_all [mHap, mOr, mThen]; done)) hP hK hD hS dM_happens_141
              · refine lv_iload_n hx hb dM_happens_84 rfl (lv_at hl 3 rfl) ?_
                refine lv_iconst (v := 5) hx hb dM_happens_85 (by decide) ?_
                refine lv_icmp_ne (tgt := 93) hx hb dM_happens_86 (by decide) (fun _ => ?_) (fun c16 => absurd c16 c3)
                refine lv_iload_n hx hb dM_happens_93 rfl (lv_at hl 3 rfl) ?_
                refine lv_iconst (v := 3) hx hb dM_happens_94 (by decide) ?_
                refine lv_icmp_ne (tgt := 102) hx hb dM_happens_95 (by decide) (fun c17 => ?_) (fun c17 => ?_)
                · refine lv_iload_n hx hb dM_happens_102 rfl (lv_at hl 3 rfl) ?_
                  refine lv_bipush (v := 7) hx hb dM_happens_103 (by decide) ?_
                  refine lv_icmp_ne (tgt := 112) hx hb dM_happens_105 (by decide) (fun c18 => ?_) (fun c18 => ?_)
                  · refine lv_iload_n hx hb dM_happens_112 rfl (lv_at hl 3 rfl) ?_
                    refine lv_bipush (v := 8) hx hb dM_happens_113 (by decide) ?_
                    refine lv_icmp_ne (tgt := 123) hx hb dM_happens_115 (by decide) (fun c19 => ?_) (fun c19 => ?_)
                    · refine lv_iload hx hb dM_happens_123 (lv_at hl 0 rfl) ?_
                      refine lv_istore (lv' := [(5, .int (ar 7 d9.toNatClampNeg)), (4, .int (ar 7 d9.toNatClampNeg)), (0, .ref aM), (1, .int d9), (2, .int k), (3, .int t9)]) hx hb dM_happens_125 hl (by decide) rfl (fun ls hl => ?_)
                      refine lv_aload_n hx hb dM_happens_127 rfl (lv_at hl 2 rfl) ?_
                      refine lv_iload_n hx hb dM_happens_128 rfl (lv_at hl 3 rfl) ?_
                      refine lv_iload hx hb dM_happens_129 (lv_at hl 0 rfl) ?_
                      refine lv_iload_n hx hb dM_happens_131 rfl (lv_at hl 5 rfl) ?_
                      refine x_callv (va_runV (As := [.int d9, .int (ar 7 d9.toNatClampNeg), .int t9]) (rest := []) ⟨hx, hb, hml, hown, hB⟩ (c_M_becomes hR d9 (ar 7 d9.toNatClampNeg) t9 hd) (cwV 3 hB (gV ml_M_120 im_M_becomes sl_M_becomes ini_M kc_M_becomes) rfl rfl rfl (by decide +kernel) ⟨Nat.le_of_ble_eq_true rfl, Nat.le_of_ble_eq_true rfl⟩) (x_preV hP hK hD hR.1 rfl) rfl rfl hl.1 rfl (lv_room (Nat.le_of_ble_eq_true rfl)) dM_happens_132 ⟨Nat.le_of_ble_eq_true rfl, Nat.le_of_ble_eq_true rfl⟩) hD hS hA (fun w H locs hw hP hD hS => ?_)
                      have hR := hw
                      refine lv_aload_n hx hb dM_happens_135 rfl (lv_at hl 2 rfl) ?_
                      refine lv_iload_n hx hb dM_happens_136 rfl (lv_at hl 3 rfl) ?_
                      refine lv_iload_n hx hb dM_happens_137 rfl (lv_at hl 5 rfl) ?_
                      refine x_callv (va_runV (As := [.int d9, .int t9]) (rest := []) ⟨hx, hb, hml, hown, hB⟩ (c_M_release hR d9 t9 hd) (cwV 2 hB (gV ml_M_124 im_M_release sl_M_release ini_M kc_M_release) rfl rfl rfl (by decide +kernel) ⟨Nat.le_of_ble_eq_true rfl, Nat.le_of_ble_eq_true rfl⟩) (x_preV hP hK hD hR.1 rfl) rfl rfl hl.1 rfl (lv_room (Nat.le_of_ble_eq_true rfl)) dM_happens_138 ⟨Nat.le_of_ble_eq_true rfl, Nat.le_of_ble_eq_true rfl⟩) hD hS hA (fun w H locs hw hP hD hS => ?_)
                      have hR := hw
                      exact x_vret hx hb hr hlocks (by first | (simpa [mHap, mOr, mThen, c1, c2, c3, c4, c5, c6, c11, c17, c18, c19] using hR) | (have hR9 := hR; simp_all [mHap, mOr, mThen]; done)) hP hK hD hS dM_happens_141
                    · refine lv_bipush (v := 7) hx hb dM_happens_118 (by decide) ?_
                      refine lv_goto (tgt := 125) hx hb dM_happens_120 (by decide) ?_
                      refine lv_istore (lv' := [(5, .int 7), (4, .int (ar 7 d9.toNatClampNeg)), (0, .ref aM), (1, .int d9), (2, .int k), (3, .int t9)]) hx hb dM_happens_125 hl (by decide) rfl (fun ls hl => ?_)
                      refine lv_aload_n hx hb dM_happens_127 rfl (lv_at hl 2 rfl) ?_
                      refine lv_iload_n hx hb dM_happens_128 rfl (lv_at hl 3 rfl) ?_
                      refine lv_iload hx hb dM_happens_129 (lv_at hl 0 rfl) ?_
                      refine lv_iload_n hx hb dM_happens_131 rfl (lv_at hl 5 rfl) ?_
                      refine x_callv (va_runV (As := [.int d9, .int 7, .int t9]) (rest := []) ⟨hx, hb, hml, hown, hB⟩ (c_M_becomes hR d9 7 t9 hd) (cwV 3 hB (gV ml_M_120 im_M_becomes sl_M_becomes ini_M kc_M_becomes) rfl rfl rfl (by decide +kernel) ⟨Nat.le_of_ble_eq_true rfl, Nat.le_of_ble_eq_true rfl⟩) (x_preV hP hK hD hR.1 rfl) rfl rfl hl.1 rfl (lv_room (Nat.le_of_ble_eq_true rfl)) dM_happens_132 ⟨Nat.le_of_ble_eq_true rfl, Nat.le_of_ble_eq_true rfl⟩) hD hS hA (fun w H locs hw hP hD hS => ?_)
                      have hR := hw
                      refine lv_aload_n hx hb dM_happens_135 rfl (lv_at hl 2 rfl) ?_
                      refine lv_iload_n hx hb dM_happens_136 rfl (lv_at hl 3 rfl) ?_
                      refine lv_iload_n hx hb dM_happens_137 rfl (lv_at hl 5 rfl) ?_
                      refine x_callv (va_runV (As := [.int d9, .int t9]) (rest := []) ⟨hx, hb, hml, hown, hB⟩ (c_M_release hR d9 t9 hd) (cwV 2 hB (gV ml_M_124 im_M_release sl_M_release ini_M kc_M_release) rfl rfl rfl (by decide +kernel) ⟨Nat.le_of_ble_eq_true rfl, Nat.le_of_ble_eq_true rfl⟩) (x_preV hP hK hD hR.1 rfl) rfl rfl hl.1 rfl (lv_room (Nat.le_of_ble_eq_true rfl)) dM_happens_138 ⟨Nat.le_of_ble_eq_true rfl, Nat.le_of_ble_eq_true rfl⟩) hD hS hA (fun w H locs hw hP hD hS => ?_)
                      have hR := hw
                      exact x_vret hx hb hr hlocks (by first | (simpa [mHap, mOr, mThen, c1, c2, c3, c4, c5, c6, c11, c17, c18, c19] using hR) | (have hR9 := hR; simp_all [mHap, mOr, mThen]; done)) hP hK hD hS dM_happens_141
                  · refine lv_iconst (v := 5) hx hb dM_happens_108 (by decide) ?_
                    refine lv_goto (tgt := 125) hx hb dM_happens_109 (by decide) ?_
                    refine lv_istore (lv' := [(5, .int 5), (4, .int (ar 7 d9.toNatClampNeg)), (0, .ref aM), (1, .int d9), (2, .int k), (3, .int t9)]) hx hb dM_happens_125 hl (by decide) rfl (fun ls hl => ?_)
                    refine lv_aload_n hx hb dM_happens_127 rfl (lv_at hl 2 rfl) ?_
                    refine lv_iload_n hx hb dM_happens_128 rfl (lv_at hl 3 rfl) ?_
                    refine lv_iload hx hb dM_happens_129 (lv_at hl 0 rfl) ?_
                    refine lv_iload_n hx hb dM_happens_131 rfl (lv_at hl 5 rfl) ?_
                    refine x_callv (va_runV (As := [.int d9, .int 5, .int t9]) (rest := []) ⟨hx, hb, hml, hown, hB⟩ (c_M_becomes hR d9 5 t9 hd) (cwV 3 hB (gV ml_M_120 im_M_becomes sl_M_becomes ini_M kc_M_becomes) rfl rfl rfl (by decide +kernel) ⟨Nat.le_of_ble_eq_true rfl, Nat.le_of_ble_eq_true rfl⟩) (x_preV hP hK hD hR.1 rfl) rfl rfl hl.1 rfl (lv_room (Nat.le_of_ble_eq_true rfl)) dM_happens_132 ⟨Nat.le_of_ble_eq_true rfl, Nat.le_of_ble_eq_true rfl⟩) hD hS hA (fun w H locs hw hP hD hS => ?_)
                    have hR := hw
                    refine lv_aload_n hx hb dM_happens_135 rfl (lv_at hl 2 rfl) ?_
                    refine lv_iload_n hx hb dM_happens_136 rfl (lv_at hl 3 rfl) ?_
                    refine lv_iload_n hx hb dM_happens_137 rfl (lv_at hl 5 rfl) ?_
                    refine x_callv (va_runV (As := [.int d9, .int t9]) (rest := []) ⟨hx, hb, hml, hown, hB⟩ (c_M_release hR d9 t9 hd) (cwV 2 hB (gV ml_M_124 im_M_release sl_M_release ini_M kc_M_release) rfl rfl rfl (by decide +kernel) ⟨Nat.le_of_ble_eq_true rfl, Nat.le_of_ble_eq_true rfl⟩) (x_preV hP hK hD hR.1 rfl) rfl rfl hl.1 rfl (lv_room (Nat.le_of_ble_eq_true rfl)) dM_happens_138 ⟨Nat.le_of_ble_eq_true rfl, Nat.le_of_ble_eq_true rfl⟩) hD hS hA (fun w H locs hw hP hD hS => ?_)
                    have hR := hw
                    exact x_vret hx hb hr hlocks (by first | (simpa [mHap, mOr, mThen, c1, c2, c3, c4, c5, c6, c11, c17, c18] using hR) | (have hR9 := hR; simp_all [mHap, mOr, mThen]; done)) hP hK hD hS dM_happens_141
                · refine lv_iconst (v := 3) hx hb dM_happens_98 (by decide) ?_
                  refine lv_goto (tgt := 125) hx hb dM_happens_99 (by decide) ?_
                  refine lv_istore (lv' := [(5, .int 3), (4, .int (ar 7 d9.toNatClampNeg)), (0, .ref aM), (1, .int d9), (2, .int k), (3, .int t9)]) hx hb dM_happens_125 hl (by decide) rfl (fun ls hl => ?_)
                  refine lv_aload_n hx hb dM_happens_127 rfl (lv_at hl 2 rfl) ?_
                  refine lv_iload_n hx hb dM_happens_128 rfl (lv_at hl 3 rfl) ?_
                  refine lv_iload hx hb dM_happens_129 (lv_at hl 0 rfl) ?_
                  refine lv_iload_n hx hb dM_happens_131 rfl (lv_at hl 5 rfl) ?_
                  refine x_callv (va_runV (As := [.int d9, .int 3, .int t9]) (rest := []) ⟨hx, hb, hml, hown, hB⟩ (c_M_becomes hR d9 3 t9 hd) (cwV 3 hB (gV ml_M_120 im_M_becomes sl_M_becomes ini_M kc_M_becomes) rfl rfl rfl (by decide +kernel) ⟨Nat.le_of_ble_eq_true rfl, Nat.le_of_ble_eq_true rfl⟩) (x_preV hP hK hD hR.1 rfl) rfl rfl hl.1 rfl (lv_room (Nat.le_of_ble_eq_true rfl)) dM_happens_132 ⟨Nat.le_of_ble_eq_true rfl, Nat.le_of_ble_eq_true rfl⟩) hD hS hA (fun w H locs hw hP hD hS => ?_)
                  have hR := hw
                  refine lv_aload_n hx hb dM_happens_135 rfl (lv_at hl 2 rfl) ?_
                  refine lv_iload_n hx hb dM_happens_136 rfl (lv_at hl 3 rfl) ?_
                  refine lv_iload_n hx hb dM_happens_137 rfl (lv_at hl 5 rfl) ?_
                  refine x_callv (va_runV (As := [.int d9, .int t9]) (rest := []) ⟨hx, hb, hml, hown, hB⟩ (c_M_release hR d9 t9 hd) (cwV 2 hB (gV ml_M_124 im_M_release sl_M_release ini_M kc_M_release) rfl rfl rfl (by decide +kernel) ⟨Nat.le_of_ble_eq_true rfl, Nat.le_of_ble_eq_true rfl⟩) (x_preV hP hK hD hR.1 rfl) rfl rfl hl.1 rfl (lv_room (Nat.le_of_ble_eq_true rfl)) dM_happens_138 ⟨Nat.le_of_ble_eq_true rfl, Nat.le_of_ble_eq_true rfl⟩) hD hS hA (fun w H locs hw hP hD hS => ?_)
                  have hR := hw
                  exact x_vret hx hb hr hlocks (by first | (simpa [mHap, mOr, mThen, c1, c2, c3, c4, c5, c6, c11, c17] using hR) | (have hR9 := hR; simp_all [mHap, mOr, mThen]; done)) hP hK hD hS dM_happens_141
          · refine lv_iconst (v := 1) hx hb dM_happens_70 (by decide) ?_
            refine lv_goto (tgt := 125) hx hb dM_happens_71 (by decide) ?_
            refine lv_istore (lv' := [(5, .int 1), (4, .int (ar 7 d9.toNatClampNeg)), (0, .ref aM), (1, .int d9), (2, .int k), (3, .int t9)]) hx hb dM_happens_125 hl (by decide) rfl (fun ls hl => ?_)
            refine lv_aload_n hx hb dM_happens_127 rfl (lv_at hl 2 rfl) ?_
            refine lv_iload_n hx hb dM_happens_128 rfl (lv_at hl 3 rfl) ?_
            refine lv_iload hx hb dM_happens_129 (lv_at hl 0 rfl) ?_
            refine lv_iload_n hx hb dM_happens_131 rfl (lv_at hl 5 rfl) ?_
            refine x_callv (va_runV (As := [.int d9, .int 1, .int t9]) (rest := []) ⟨hx, hb, hml, hown, hB⟩ (c_M_becomes hR d9 1 t9 hd) (cwV 3 hB (gV ml_M_120 im_M_becomes sl_M_becomes ini_M kc_M_becomes) rfl rfl rfl (by decide +kernel) ⟨Nat.le_of_ble_eq_true rfl, Nat.le_of_ble_eq_true rfl⟩) (x_preV hP hK hD hR.1 rfl) rfl rfl hl.1 rfl (lv_room (Nat.le_of_ble_eq_true rfl)) dM_happens_132 ⟨Nat.le_of_ble_eq_true rfl, Nat.le_of_ble_eq_true rfl⟩) hD hS hA (fun w H locs hw hP hD hS => ?_)
            have hR := hw
            refine lv_aload_n hx hb dM_happens_135 rfl (lv_at hl 2 rfl) ?_
            refine lv_iload_n hx hb dM_happens_136 rfl (lv_at hl 3 rfl) ?_
            refine lv_iload_n hx hb dM_happens_137 rfl (lv_at hl 5 rfl) ?_
            refine x_callv (va_runV (As := [.int d9, .int t9]) (rest := []) ⟨hx, hb, hml, hown, hB⟩ (c_M_release hR d9 t9 hd) (cwV 2 hB (gV ml_M_124 im_M_release sl_M_release ini_M kc_M_release) rfl rfl rfl (by decide +kernel) ⟨Nat.le_of_ble_eq_true rfl, Nat.le_of_ble_eq_true rfl⟩) (x_preV hP hK hD hR.1 rfl) rfl rfl hl.1 rfl (lv_room (Nat.le_of_ble_eq_true rfl)) dM_happens_138 ⟨Nat.le_of_ble_eq_true rfl, Nat.le_of_ble_eq_true rfl⟩) hD hS hA (fun w H locs hw hP hD hS => ?_)
            have hR := hw
            exact x_vret hx hb hr hlocks (by first | (simpa [mHap, mOr, mThen, c1, c2, c3, c4, c5] using hR) | (have hR9 := hR; simp_all [mHap, mOr, mThen]; done)) hP hK hD hS dM_happens_141
        · refine lv_iconst (v := 4) hx hb dM_happens_59 (by decide) ?_
          refine lv_goto (tgt := 64) hx hb dM_happens_60 (by decide) ?_
          refine lv_isub hx hb dM_happens_64 ?_
          refine m_st 8 (i := d9) (x := ((mSt ar 8 d9.toNatClampNeg ((ar 8 d9.toNatClampNeg) ||| 0)) 8 d9.toNatClampNeg) - 4) hd hx hb hK hP hD hS hR rfl dM_happens_65 (fun w H locs hR hP hD hS => ?_)
          refine lv_iload_n hx hb dM_happens_66 rfl (lv_at hl 3 rfl) ?_
          refine lv_if_ne (tgt := 74) hx hb dM_happens_67 (by decide) (fun _ => ?_) (fun c40 => absurd (c4.symm.trans c40) (by decide))
          refine lv_iload_n hx hb dM_happens_74 rfl (lv_at hl 3 rfl) ?_
          refine lv_iconst (v := 2) hx hb dM_happens_75 (by decide) ?_
          refine lv_icmp_eq (tgt := 89) hx hb dM_happens_76 (by decide) (fun c41 => absurd (c4.symm.trans c41) (by decide)) (fun _ => ?_)
          refine lv_iload_n hx hb dM_happens_79 rfl (lv_at hl 3 rfl) ?_
          refine lv_iconst (v := 4) hx hb dM_happens_80 (by decide) ?_
          refine lv_icmp_eq (tgt := 89) hx hb dM_happens_81 (by decide) (fun c42 => absurd (c4.symm.trans c42) (by decide)) (fun _ => ?_)
          refine lv_iload_n hx hb dM_happens_84 rfl (lv_at hl 3 rfl) ?_
          refine lv_iconst (v := 5) hx hb dM_happens_85 (by decide) ?_
          refine lv_icmp_ne (tgt := 93) hx hb dM_happens_86 (by decide) (fun _ => ?_) (fun c43 => absurd c43 c3)
          refine lv_iload_n hx hb dM_happens_93 rfl (lv_at hl 3 rfl) ?_
          refine lv_iconst (v := 3) hx hb dM_happens_94 (by decide) ?_
          refine lv_icmp_ne (tgt := 102) hx hb dM_happens_95 (by decide) (fun _ => ?_) (fun c44 => absurd (c4.symm.trans c44) (by decide))
          refine lv_iload_n hx hb dM_happens_102 rfl (lv_at hl 3 rfl) ?_
          refine lv_bipush (v := 7) hx hb dM_happens_103 (by decide) ?_
          refine lv_icmp_ne (tgt := 112) hx hb dM_happens_105 (by decide) (fun _ => ?_) (fun c45 => absurd (c4.symm.trans c45) (by decide))
          refine lv_iload_n hx hb dM_happens_112 rfl (lv_at hl 3 rfl) ?_
          refine lv_bipush (v := 8) hx hb dM_happens_113 (by decide) ?_
          refine lv_icmp_ne (tgt := 123) hx hb dM_happens_115 (by decide) (fun _ => ?_) (fun c46 => absurd (c4.symm.trans c46) (by decide))
          refine lv_iload hx hb dM_happens_123 (lv_at hl 0 rfl) ?_
          refine lv_istore (lv' := [(5, .int (ar 7 d9.toNatClampNeg)), (4, .int (ar 7 d9.toNatClampNeg)), (0, .ref aM), (1, .int d9), (2, .int k), (3, .int t9)]) hx hb dM_happens_125 hl (by decide) rfl (fun ls hl => ?_)
          refine lv_aload_n hx hb dM_happens_127 rfl (lv_at hl 2 rfl) ?_
          refine lv_iload_n hx hb dM_happens_128 rfl (lv_at hl 3 rfl) ?_
          refine lv_iload hx hb dM_happens_129 (lv_at hl 0 rfl) ?_
          refine lv_iload_n hx hb dM_happens_131 rfl (lv_at hl 5 rfl) ?_
          refine x_callv (va_runV (As := [.int d9, .int (ar 7 d9.toNatClampNeg), .int t9]) (rest := []) ⟨hx, hb, hml, hown, hB⟩ (c_M_becomes hR d9 (ar 7 d9.toNatClampNeg) t9 hd) (cwV 3 hB (gV ml_M_120 im_M_becomes sl_M_becomes ini_M kc_M_becomes) rfl rfl rfl (by decide +kernel) ⟨Nat.le_of_ble_eq_true rfl, Nat.le_of_ble_eq_true rfl⟩) (x_preV hP hK hD hR.1 rfl) rfl rfl hl.1 rfl (lv_room (Nat.le_of_ble_eq_true rfl)) dM_happens_132 ⟨Nat.le_of_ble_eq_true rfl, Nat.le_of_ble_eq_true rfl⟩) hD hS hA (fun w H locs hw hP hD hS => ?_)
          have hR := hw
          refine lv_aload_n hx hb dM_happens_135 rfl (lv_at hl 2 rfl) ?_
          refine lv_iload_n hx hb dM_happens_136 rfl (lv_at hl 3 rfl) ?_
          refine lv_iload_n hx hb dM_happens_137 rfl (lv_at hl 5 rfl) ?_
          refine x_callv (va_runV (As := [.int d9, .int t9]) (rest := []) ⟨hx, hb, hml, hown, hB⟩ (c_M_release hR d9 t9 hd) (cwV 2 hB (gV ml_M_124 im_M_release sl_M_release ini_M kc_M_release) rfl rfl rfl (by decide +kernel) ⟨Nat.le_of_ble_eq_true rfl, Nat.le_of_ble_eq_true rfl⟩) (x_preV hP hK hD hR.1 rfl) rfl rfl hl.1 rfl (lv_room (Nat.le_of_ble_eq_true rfl)) dM_happens_138 ⟨Nat.le_of_ble_eq_true rfl, Nat.le_of_ble_eq_true rfl⟩) hD hS hA (fun w H locs hw hP hD hS => ?_)
          have hR := hw
          exact x_vret hx hb hr hlocks (by first | (simpa [mHap, mOr, mThen, c1, c2, c3, c4] using hR) | (have hR9 := hR; simp_all [mHap, mOr, mThen]; done)) hP hK hD hS dM_happens_141
      · refine lv_iconst (v := 4) hx hb dM_happens_39 (by decide) ?_
        refine lv_goto (tgt := 44) hx hb dM_happens_40 (by decide) ?_
        refine lv_ior hx hb dM_happens_44 ?_
        refine m_st 8 (i := d9) (x := (ar 8 d9.toNatClampNeg) ||| 4) hd hx hb hK hP hD hS hR rfl dM_happens_45 (fun w H locs hR hP hD hS => ?_)
        refine lv_aload_n hx hb dM_happens_46 rfl (lv_at hl 1 rfl) ?_
        refine m_arr 8 hx hb hB inBM hown hK hP hR rfl (hB _ fl_M_22) rfl dM_happens_47 ?_
        refine lv_iload_n hx hb dM_happens_50 rfl (lv_at hl 2 rfl) ?_
        refine lv_dup2_11 hx hb dM_happens_51 rfl rfl ?_
        refine m_ld 8 (i := d9) hd hx hb hK hP hR rfl dM_happens_52 ?_
        refine lv_iload_n hx hb dM_happens_53 rfl (lv_at hl 3 rfl) ?_
        refine lv_bipush (v := 9) hx hb dM_happens_54 (by decide) ?_
        refine lv_icmp_ne (tgt := 63) hx hb dM_happens_56 (by decide) (fun _ => ?_) (fun c51 => absurd (c3.symm.trans c51) (by decide))
        refine lv_iconst (v := 0) hx hb dM_happens_63 (by decide) ?_
        refine lv_isub hx hb dM_happens_64 ?_
        refine m_st 8 (i := d9) (x := ((mSt ar 8 d9.toNatClampNeg ((ar 8 d9.toNatClampNeg) ||| 4)) 8 d9.toNatClampNeg) - 0) hd hx hb hK hP hD hS hR rfl dM_happens_65 (fun w H locs hR hP hD hS => ?_)
        refine lv_iload_n hx hb dM_happens_66 rfl (lv_at hl 3 rfl) ?_
        refine lv_if_ne (tgt := 74) hx hb dM_happens_67 (by decide) (fun _ => ?_) (fun c52 => absurd (c3.symm.trans c52) (by decide))
        refine lv_iload_n hx hb dM_happens_74 rfl (lv_at hl 3 rfl) ?_
        refine lv_iconst (v := 2) hx hb dM_happens_75 (by decide) ?_
        refine lv_icmp_eq (tgt := 89) hx hb dM_happens_76 (by decide) (fun c53 => absurd (c3.symm.trans c53) (by decide)) (fun _ => ?_)
        refine lv_iload_n hx hb dM_happens_79 rfl (lv_at hl 3 rfl) ?_
        refine lv_iconst (v := 4) hx hb dM_happens_80 (by decide) ?_
        refine lv_icmp_eq (tgt := 89) hx hb dM_happens_81 (by decide) (fun c54 => absurd (c3.symm.trans c54) (by decide)) (fun _ => ?_)
        refine lv_iload_n hx hb dM_happens_84 rfl (lv_at hl 3 rfl) ?_
        refine lv_iconst (v := 5) hx hb dM_happens_85 (by decide) ?_
        refine lv_icmp_ne (tgt := 93) hx hb dM_happens_86 (by decide) (fun c55 => absurd c3 c55) (fun _ => ?_)
        refine lv_iconst (v := 2) hx hb dM_happens_89 (by decide) ?_
        refine lv_goto (tgt := 125) hx hb dM_happens_90 (by decide) ?_
        refine lv_istore (lv' := [(5, .int 2), (4, .int (ar 7 d9.toNatClampNeg)), (0, .ref aM), (1, .int d9), (2, .int k), (3, .int t9)]) hx hb dM_happens_125 hl (by decide) rfl (fun ls hl => ?_)
        refine lv_aload_n hx hb dM_happens_127 rfl (lv_at hl 2 rfl) ?_
        refine lv_iload_n hx hb dM_happens_128 rfl (lv_at hl 3 rfl) ?_
        refine lv_iload hx hb dM_happens_129 (lv_at hl 0 rfl) ?_
        refine lv_iload_n hx hb dM_happens_131 rfl (lv_at hl 5 rfl) ?_
        refine x_callv (va_runV (As := [.int d9, .int 2, .int t9]) (rest := []) ⟨hx, hb, hml, hown, hB⟩ (c_M_becomes hR d9 2 t9 hd) (cwV 3 hB (gV ml_M_120 im_M_becomes sl_M_becomes ini_M kc_M_becomes) rfl rfl rfl (by decide +kernel) ⟨Nat.le_of_ble_eq_true rfl, Nat.le_of_ble_eq_true rfl⟩) (x_preV hP hK hD hR.1 rfl) rfl rfl hl.1 rfl (lv_room (Nat.le_of_ble_eq_true rfl)) dM_happens_132 ⟨Nat.le_of_ble_eq_true rfl, Nat.le_of_ble_eq_true rfl⟩) hD hS hA (fun w H locs hw hP hD hS => ?_)
        have hR := hw
        refine lv_aload_n hx hb dM_happens_135 rfl (lv_at hl 2 rfl) ?_
        refine lv_iload_n hx hb dM_happens_136 rfl (lv_at hl 3 rfl) ?_
        refine lv_iload_n hx hb dM_happens_137 rfl (lv_at hl 5 rfl) ?_
        refine x_callv (va_runV (As := [.int d9, .int t9]) (rest := []) ⟨hx, hb, hml, hown, hB⟩ (c_M_release hR d9 t9 hd) (cwV 2 hB (gV ml_M_124 im_M_release sl_M_release ini_M kc_M_release) rfl rfl rfl (by decide +kernel) ⟨Nat.le_of_ble_eq_true rfl, Nat.le_of_ble_eq_true rfl⟩) (x_preV hP hK hD hR.1 rfl) rfl rfl hl.1 rfl (lv_room (Nat.le_of_ble_eq_true rfl)) dM_happens_138 ⟨Nat.le_of_ble_eq_true rfl, Nat.le_of_ble_eq_true rfl⟩) hD hS hA (fun w H locs hw hP hD hS => ?_)
        have hR := hw
        exact x_vret hx hb hr hlocks (by first | (simpa [mHap, mOr, mThen, c1, c2, c3] using hR) | (have hR9 := hR; simp_all [mHap, mOr, mThen]; done)) hP hK hD hS dM_happens_141
    · refine lv_iconst (v := 2) hx hb dM_happens_30 (by decide) ?_
      refine lv_goto (tgt := 44) hx hb dM_happens_31 (by decide) ?_
      refine lv_ior hx hb dM_happens_44 ?_
      refine m_st 8 (i := d9) (x := (ar 8 d9.toNatClampNeg) ||| 2) hd hx hb hK hP hD hS hR rfl dM_happens_45 (fun w H locs hR hP hD hS => ?_)
      refine lv_aload_n hx hb dM_happens_46 rfl (lv_at hl 1 rfl) ?_
      refine m_arr 8 hx hb hB inBM hown hK hP hR rfl (hB _ fl_M_22) rfl dM_happens_47 ?_
      refine lv_iload_n hx hb dM_happens_50 rfl (lv_at hl 2 rfl) ?_
      refine lv_dup2_11 hx hb dM_happens_51 rfl rfl ?_
      refine m_ld 8 (i := d9) hd hx hb hK hP hR rfl dM_happens_52 ?_
      refine lv_iload_n hx hb dM_happens_53 rfl (lv_at hl 3 rfl) ?_
      refine lv_bipush (v := 9) hx hb dM_happens_54 (by decide) ?_
      refine lv_icmp_ne (tgt := 63) hx hb dM_happens_56 (by decide) (fun _ => ?_) (fun c60 => absurd (c2.symm.trans c60) (by decide))
      refine lv_iconst (v := 0) hx hb dM_happens_63 (by decide) ?_
      refine lv_isub hx hb dM_happens_64 ?_
      refine m_st 8 (i := d9) (x := ((mSt ar 8 d9.toNatClampNeg ((ar 8 d9.toNatClampNeg) ||| 2)) 8 d9.toNatClampNeg) - 0) hd hx hb hK hP hD hS hR rfl dM_happens_65 (fun w H locs hR hP hD hS => ?_)
      refine lv_iload_n hx hb dM_happens_66 rfl (lv_at hl 3 rfl) ?_
      refine lv_if_ne (tgt := 74) hx hb dM_happens_67 (by decide) (fun _ => ?_) (fun c61 => absurd (c2.symm.trans c61) (by decide))
      refine lv_iload_n hx hb dM_happens_74 rfl (lv_at hl 3 rfl) ?_
      refine lv_iconst (v := 2) hx hb dM_happens_75 (by decide) ?_
      refine lv_icmp_eq (tgt := 89) hx hb dM_happens_76 (by decide) (fun c62 => absurd (c2.symm.trans c62) (by decide)) (fun _ => ?_)
      refine lv_iload_n hx hb dM_happens_79 rfl (lv_at hl 3 rfl) ?_
      refine lv_iconst (v := 4) hx hb dM_happens_80 (by decide) ?_
      refine lv_icmp_eq (tgt := 89) hx hb dM_happens_81 (by decide) (fun c63 => absurd (c2.symm.trans c63) (by decide)) (fun _ => ?_)
      refine lv_iload_n hx hb dM_happens_84 rfl (lv_at hl 3 rfl) ?_
      refine lv_iconst (v := 5) hx hb dM_happens_85 (by decide) ?_
      refine lv_icmp_ne (tgt := 93) hx hb dM_happens_86 (by decide) (fun _ => ?_) (fun c64 => absurd (c2.symm.trans c64) (by decide))
      refine lv_iload_n hx hb dM_happens_93 rfl (lv_at hl 3 rfl) ?_
      refine lv_iconst (v := 3) hx hb dM_happens_94 (by decide) ?_
      refine lv_icmp_ne (tgt := 102) hx hb dM_happens_95 (by decide) (fun _ => ?_) (fun c65 => absurd (c2.symm.trans c65) (by decide))
      refine lv_iload_n hx hb dM_happens_102 rfl (lv_at hl 3 rfl) ?_
      refine lv_bipush (v := 7) hx hb dM_happens_103 (by decide) ?_
      refine lv_icmp_ne (tgt := 112) hx hb dM_happens_105 (by decide) (fun _ => ?_) (fun c66 => absurd (c2.symm.trans c66) (by decide))
      refine lv_iload_n hx hb dM_happens_112 rfl (lv_at hl 3 rfl) ?_
      refine lv_bipush (v := 8) hx hb dM_happens_113 (by decide) ?_
      refine lv_icmp_ne (tgt := 123) hx hb dM_happens_115 (by decide) (fun _ => ?_) (fun c67 => absurd (c2.symm.trans c67) (by decide))
      refine lv_iload hx hb dM_happens_123 (lv_at hl 0 rfl) ?_
      refine lv_istore (lv' := [(5, .int (ar 7 d9.toNatClampNeg)), (4, .int (ar 7 d9.toNatClampNeg)), (0, .ref aM), (1, .int d9), (2, .int k), (3, .int t9)]) hx hb dM_happens_125 hl (by decide) rfl (fun ls hl => ?_)
      refine lv_aload_n hx hb dM_happens_127 rfl (lv_at hl 2 rfl) ?_
      refine lv_iload_n hx hb dM_happens_128 rfl (lv_at hl 3 rfl) ?_
      refine lv_iload hx hb dM_happens_129 (lv_at hl 0 rfl) ?_
      refine lv_iload_n hx hb dM_happens_131 rfl (lv_at hl 5 rfl) ?_
      refine x_callv (va_runV (As := [.int d9, .int (ar 7 d9.toNatClampNeg), .int t9]) (rest := []) ⟨hx, hb, hml, hown, hB⟩ (c_M_becomes hR d9 (ar 7 d9.toNatClampNeg) t9 hd) (cwV 3 hB (gV ml_M_120 im_M_becomes sl_M_becomes ini_M kc_M_becomes) rfl rfl rfl (by decide +kernel) ⟨Nat.le_of_ble_eq_true rfl, Nat.le_of_ble_eq_true rfl⟩) (x_preV hP hK hD hR.1 rfl) rfl rfl hl.1 rfl (lv_room (Nat.le_of_ble_eq_true rfl)) dM_happens_132 ⟨Nat.le_of_ble_eq_true rfl, Nat.le_of_ble_eq_true rfl⟩) hD hS hA (fun w H locs hw hP hD hS => ?_)
      have hR := hw
      refine lv_aload_n hx hb dM_happens_135 rfl (lv_at hl 2 rfl) ?_
      refine lv_iload_n hx hb dM_happens_136 rfl (lv_at hl 3 rfl) ?_
      refine lv_iload_n hx hb dM_happens_137 rfl (lv_at hl 5 rfl) ?_
      refine x_callv (va_runV (As := [.int d9, .int t9]) (rest := []) ⟨hx, hb, hml, hown, hB⟩ (c_M_release hR d9 t9 hd) (cwV 2 hB (gV ml_M_124 im_M_release sl_M_release ini_M kc_M_release) rfl rfl rfl (by decide +kernel) ⟨Nat.le_of_ble_eq_true rfl, Nat.le_of_ble_eq_true rfl⟩) (x_preV hP hK hD hR.1 rfl) rfl rfl hl.1 rfl (lv_room (Nat.le_of_ble_eq_true rfl)) dM_happens_138 ⟨Nat.le_of_ble_eq_true rfl, Nat.le_of_ble_eq_true rfl⟩) hD hS hA (fun w H locs hw hP hD hS => ?_)
      have hR := hw
      exact x_vret hx hb hr hlocks (by first | (simpa [mHap, mOr, mThen, c1, c2] using hR) | (have hR9 := hR; simp_all [mHap, mOr, mThen]; done)) hP hK hD hS dM_happens_141
  · refine lv_iconst (v := 1) hx hb dM_happens_20 (by decide) ?_
    refine lv_goto (tgt := 44) hx hb dM_happens_21 (by decide) ?_
    refine lv_ior hx hb dM_happens_44 ?_
    refine m_st 8 (i := d9) (x := (ar 8 d9.toNatClampNeg) ||| 1) hd hx hb hK hP hD hS hR rfl dM_happens_45 (fun w H locs hR hP hD hS => ?_)
    refine lv_aload_n hx hb dM_happens_46 rfl (lv_at hl 1 rfl) ?_
    refine m_arr 8 hx hb hB inBM hown hK hP hR rfl (hB _ fl_M_22) rfl dM_happens_47 ?_
    refine lv_iload_n hx hb dM_happens_50 rfl (lv_at hl 2 rfl) ?_
    refine lv_dup2_11 hx hb dM_happens_51 rfl rfl ?_
    refine m_ld 8 (i := d9) hd hx hb hK hP hR rfl dM_happens_52 ?_
    refine lv_iload_n hx hb dM_happens_53 rfl (lv_at hl 3 rfl) ?_
    refine lv_bipush (v := 9) hx hb dM_happens_54 (by decide) ?_
    refine lv_icmp_ne (tgt := 63) hx hb dM_happens_56 (by decide) (fun _ => ?_) (fun c72 => absurd (c1.symm.trans c72) (by decide))
    refine lv_iconst (v := 0) hx hb dM_happens_63 (by decide) ?_
    refine lv_isub hx hb dM_happens_64 ?_
    refine m_st 8 (i := d9) (x := ((mSt ar 8 d9.toNatClampNeg ((ar 8 d9.toNatClampNeg) ||| 1)) 8 d9.toNatClampNeg) - 0) hd hx hb hK hP hD hS hR rfl dM_happens_65 (fun w H locs hR hP hD hS => ?_)
    refine lv_iload_n hx hb dM_happens_66 rfl (lv_at hl 3 rfl) ?_
    refine lv_if_ne (tgt := 74) hx hb dM_happens_67 (by decide) (fun _ => ?_) (fun c73 => absurd (c1.symm.trans c73) (by decide))
    refine lv_iload_n hx hb dM_happens_74 rfl (lv_at hl 3 rfl) ?_
    refine lv_iconst (v := 2) hx hb dM_happens_75 (by decide) ?_
    refine lv_icmp_eq (tgt := 89) hx hb dM_happens_76 (by decide) (fun c74 => absurd (c1.symm.trans c74) (by decide)) (fun _ => ?_)
    refine lv_iload_n hx hb dM_happens_79 rfl (lv_at hl 3 rfl) ?_
    refine lv_iconst (v := 4) hx hb dM_happens_80 (by decide) ?_
    refine lv_icmp_eq (tgt := 89) hx hb dM_happens_81 (by decide) (fun c75 => absurd (c1.symm.trans c75) (by decide)) (fun _ => ?_)
    refine lv_iload_n hx hb dM_happens_84 rfl (lv_at hl 3 rfl) ?_
    refine lv_iconst (v := 5) hx hb dM_happens_85 (by decide) ?_
    refine lv_icmp_ne (tgt := 93) hx hb dM_happens_86 (by decide) (fun _ => ?_) (fun c76 => absurd (c1.symm.trans c76) (by decide))
    refine lv_iload_n hx hb dM_happens_93 rfl (lv_at hl 3 rfl) ?_
    refine lv_iconst (v := 3) hx hb dM_happens_94 (by decide) ?_
    refine lv_icmp_ne (tgt := 102) hx hb dM_happens_95 (by decide) (fun _ => ?_) (fun c77 => absurd (c1.symm.trans c77) (by decide))
    refine lv_iload_n hx hb dM_happens_102 rfl (lv_at hl 3 rfl) ?_
    refine lv_bipush (v := 7) hx hb dM_happens_103 (by decide) ?_
    refine lv_icmp_ne (tgt := 112) hx hb dM_happens_105 (by decide) (fun _ => ?_) (fun c78 => absurd (c1.symm.trans c78) (by decide))
    refine lv_iload_n hx hb dM_happens_112 rfl (lv_at hl 3 rfl) ?_
    refine lv_bipush (v := 8) hx hb dM_happens_113 (by decide) ?_
    refine lv_icmp_ne (tgt := 123) hx hb dM_happens_115 (by decide) (fun _ => ?_) (fun c79 => absurd (c1.symm.trans c79) (by decide))
    refine lv_iload hx hb dM_happens_123 (lv_at hl 0 rfl) ?_
    refine lv_istore (lv' := [(5, .int (ar 7 d9.toNatClampNeg)), (4, .int (ar 7 d9.toNatClampNeg)), (0, .ref aM), (1, .int d9), (2, .int k), (3, .int t9)]) hx hb dM_happens_125 hl (by decide) rfl (fun ls hl => ?_)
    refine lv_aload_n hx hb dM_happens_127 rfl (lv_at hl 2 rfl) ?_
    refine lv_iload_n hx hb dM_happens_128 rfl (lv_at hl 3 rfl) ?_
    refine lv_iload hx hb dM_happens_129 (lv_at hl 0 rfl) ?_
    refine lv_iload_n hx hb dM_happens_131 rfl (lv_at hl 5 rfl) ?_
    refine x_callv (va_runV (As := [.int d9, .int (ar 7 d9.toNatClampNeg), .int t9]) (rest := []) ⟨hx, hb, hml, hown, hB⟩ (c_M_becomes hR d9 (ar 7 d9.toNatClampNeg) t9 hd) (cwV 3 hB (gV ml_M_120 im_M_becomes sl_M_becomes ini_M kc_M_becomes) rfl rfl rfl (by decide +kernel) ⟨Nat.le_of_ble_eq_true rfl, Nat.le_of_ble_eq_true rfl⟩) (x_preV hP hK hD hR.1 rfl) rfl rfl hl.1 rfl (lv_room (Nat.le_of_ble_eq_true rfl)) dM_happens_132 ⟨Nat.le_of_ble_eq_true rfl, Nat.le_of_ble_eq_true rfl⟩) hD hS hA (fun w H locs hw hP hD hS => ?_)
    have hR := hw
    refine lv_aload_n hx hb dM_happens_135 rfl (lv_at hl 2 rfl) ?_
    refine lv_iload_n hx hb dM_happens_136 rfl (lv_at hl 3 rfl) ?_
    refine lv_iload_n hx hb dM_happens_137 rfl (lv_at hl 5 rfl) ?_
    refine x_callv (va_runV (As := [.int d9, .int t9]) (rest := []) ⟨hx, hb, hml, hown, hB⟩ (c_M_release hR d9 t9 hd) (cwV 2 hB (gV ml_M_124 im_M_release sl_M_release ini_M kc_M_release) rfl rfl rfl (by decide +kernel) ⟨Nat.le_of_ble_eq_true rfl, Nat.le_of_ble_eq_true rfl⟩) (x_preV hP hK hD hR.1 rfl) rfl rfl hl.1 rfl (lv_room (Nat.le_of_ble_eq_true rfl)) dM_happens_138 ⟨Nat.le_of_ble_eq_true rfl, Nat.le_of_ble_eq_true rfl⟩) hD hS hA (fun w H locs hw hP hD hS => ?_)
    have hR := hw
    exact x_vret hx hb hr hlocks (by first | (simpa [mHap, mOr, mThen, c1] using hR) | (have hR9 := hR; simp_all [mHap, mOr, mThen]; done)) hP hK hD hS dM_happens_141
end
section
theorem m_in {x : Int32} {n N : Nat} {M : Int32} (hx : x = nI n) (hn : n ≤ N) (hM : M = nI N) (hN : N < 2 ^ 31) (hne : ¬ x = M) : vp_in x N := by
  subst hx hM
  rw [nI_eq (by omega) hN] at hne
  exact vp_in_nI (by omega) hN
theorem m_inB {x a : Int32} {i n N : Nat} (hx : x = nI i) (ha : a = nI n) (h : ¬ a ≤ x) (hi : i < 2 ^ 31) (hn : n ≤ N) (hN : N < 2 ^ 31) : vp_in x N := by
  have := x_ltn hx ha h hi (by omega)
  subst hx
  exact vp_in_nI (by omega) hN
theorem mIn_in {k M : Int32} {N : Nat} (hM : M.toInt + 1 = N) (h : ¬ mIn k 0 M = 0) : vp_in k N := by
  unfold mIn at h
  by_cases h0 : k < 0
  · simp [h0] at h
  · by_cases h1 : M < k
    · simp [h0, h1] at h
    · rw [vp_in_iff]
      rw [Int32.lt_iff_toInt_lt, Int32.toInt_zero] at h0
      rw [Int32.lt_iff_toInt_lt] at h1
      omega
theorem mPers_in {h : Nat → Int32} {v : Int32} {n N : Nat} (hp : h 2 = nI n) (hn : n ≤ N) (hN : N < 2 ^ 31) (hx : ¬ mPers h v = 0) : vp_in v N := by
  unfold mPers at hx
  by_cases h0 : v < 0
  · simp [h0] at hx
  · by_cases h1 : h 2 ≤ v
    · simp [h0, h1] at hx
    · rw [hp] at h1
      obtain ⟨j, hj, rfl⟩ := nI_of h0
      rw [nI_leI (by omega) hj] at h1
      exact vp_in_nI (by omega) hN
theorem mOne_in {h : Nat → Int32} {v : Int32} {n N : Nat} (hp : h 4 = nI n) (hn : n ≤ N) (hN : N < 2 ^ 31) (hx : ¬ mOne h v = 0) : vp_in v N := by
  unfold mOne at hx
  by_cases h0 : v < 0
  · simp [h0] at hx
  · by_cases h1 : h 4 ≤ v
    · simp [h0, h1] at hx
    · rw [hp] at h1
      obtain ⟨j, hj, rfl⟩ := nI_of h0
      rw [nI_leI (by omega) hj] at h1
      exact vp_in_nI (by omega) hN
def mPersonC (h : Nat → Int32) (v : Int32) : Int32 := if mIn v 0 2 = 0 then 1 else if h 2 = 12 then 2 else 0
def mPersonH (h : Nat → Int32) (v : Int32) : Nat → Int32 := if mPersonC h v = 0 then upd (upd h 0 0) 2 (h 2 + 1) else upd h 0 (mPersonC h v)
def mPersonA (h : Nat → Int32) (ar : Nat → Nat → Int32) (v : Int32) : Nat → Nat → Int32 := if mPersonC h v = 0 then mSt ar 3 (h 2).toNatClampNeg v else ar
def mPersonR (h : Nat → Int32) (v : Int32) : Int32 := if mPersonC h v = 0 then h 2 + 1 - 1 else 0
def mDeclC (h : Nat → Int32) (ar : Nat → Nat → Int32) (k t : Int32) : Int32 := if mIn k 0 2 = 0 then 1 else if mPers h t = 0 then 1 else if ar 3 t.toNatClampNeg = 0 then (if h 4 = 20 then 2 else 0) else 1
def mDeclH (h : Nat → Int32) (ar : Nat → Nat → Int32) (k t : Int32) : Nat → Int32 := if mDeclC h ar k t = 0 then upd (upd h 0 0) 4 (h 4 + 1) else upd h 0 (mDeclC h ar k t)
def mDeclA (h : Nat → Int32) (ar : Nat → Nat → Int32) (k t : Int32) : Nat → Nat → Int32 := if mDeclC h ar k t = 0 then mSt (mSt (mSt ar 5 (h 4).toNatClampNeg k) 6 (h 4).toNatClampNeg t) 11 (h 4).toNatClampNeg (-1) else ar
def mDeclR (h : Nat → Int32) (ar : Nat → Nat → Int32) (k t : Int32) : Int32 := if mDeclC h ar k t = 0 then h 4 + 1 - 1 else 0
def mEvC (h : Nat → Int32) (ar : Nat → Nat → Int32) (n : Nat) (d k w t : Int32) : Int32 :=
  if mOne h d = 0 then 1 else if mIn k 0 9 = 0 then 1 else if mPers h w = 0 then 1 else if t ≤ h 1 then 1 else if t ≤ 100000 then (if h 13 = 120 then 2 else if mCntW ar n = 20 then 2 else 0) else 1
def mEvH (h : Nat → Int32) (ar : Nat → Nat → Int32) (n : Nat) (d k w t : Int32) : Nat → Int32 := if mEvC h ar n d k w t = 0 then upd (upd h 0 0) 13 (h 13 + 1) else upd h 0 (mEvC h ar n d k w t)
def mEvA (h : Nat → Int32) (ar : Nat → Nat → Int32) (n : Nat) (d k w t : Int32) : Nat → Nat → Int32 := if mEvC h ar n d k w t = 0 then mSt (mSt (mSt (mSt (mSt (mSt ar 14 (h 13).toNatClampNeg d) 15 (h 13).toNatClampNeg k) 16 (h 13).toNatClampNeg w) 17 (h 13).toNatClampNeg t) 18 (h 13).toNatClampNeg 1) 19 (h 13).toNatClampNeg (-1) else ar
def mEvR (h : Nat → Int32) (ar : Nat → Nat → Int32) (n : Nat) (d k w t : Int32) : Int32 := if mEvC h ar n d k w t = 0 then h 13 + 1 - 1 else 0
def mHoursR (a b : Int32) : Int32 := if mIn a 0 24 = 0 then 0 else if mIn b 0 24 = 0 then 0 else if a < b then 1 else 0
def mHours (h : Nat → Int32) (a b : Int32) : Nat → Int32 := if mHoursR a b = 0 then upd h 0 0 else upd (upd (upd h 0 0) 22 a) 23 b
def mFailsR (ar : Nat → Nat → Int32) (k on : Int32) : Int32 := if mIn k 0 9 = 0 then 0 else if ar 24 k.toNatClampNeg = on then 0 else 1
def mFailsA (ar : Nat → Nat → Int32) (k on : Int32) : Nat → Nat → Int32 := if mFailsR ar k on = 0 then ar else mSt ar 24 k.toNatClampNeg on
def mBarC (h : Nat → Int32) (d k : Int32) : Int32 := if mOne h d = 0 then 1 else if mIn k 0 7 = 0 then 1 else 0
def mBarN (ar : Nat → Nat → Int32) (j : Nat) (k on : Int32) : Int32 := if ar 7 j = 6 then 1 else if ar 7 j = 7 then 1 else if (ar 9 j >>> (k &&& 31)) &&& 1 = 1 then (if 1 = on then 1 else 0) else if 0 = on then 1 else 0
def mBarS (ar : Nat → Nat → Int32) (j : Nat) (k on : Int32) : Nat → Nat → Int32 := mSt ar 9 j (ar 9 j + (if on = 0 then -((1 : Int32) <<< (k &&& 31)) else (1 : Int32) <<< (k &&& 31)))
def mBarT (h : Nat → Int32) (ar : Nat → Nat → Int32) (j : Nat) (k on : Int32) : Nat → Nat → Int32 := if on = 0 then mRel (mBarS ar j k on) j (h 1) else mBarS ar j k on
def mBarA (h : Nat → Int32) (ar : Nat → Nat → Int32) (d k on : Int32) : Nat → Nat → Int32 := if mBarC h d k = 0 then (if mBarN ar d.toNatClampNeg k on = 0 then mBarT h ar d.toNatClampNeg k on else ar) else ar
def mBarR (h : Nat → Int32) (ar : Nat → Nat → Int32) (d k on : Int32) : Int32 := if mBarC h d k = 0 then (if mBarN ar d.toNatClampNeg k on = 0 then onesL (mBarT h ar d.toNatClampNeg k on 9 d.toNatClampNeg) 8 else -1) else 0
def mInvC (h : Nat → Int32) (d w y : Int32) : Int32 := if mOne h d = 0 then 1 else if mPers h w = 0 then 1 else if mIn y 0 9 = 0 then 1 else 0
def mInvV (ar : Nat → Nat → Int32) (j : Nat) (w y : Int32) : Int32 :=
  if ar 3 w.toNatClampNeg = 1 then (if 4 < ar 7 j then 0 else if ar 7 j ≤ 1 then (if ar 7 j = 4 then (if ar 11 j = w then 0 else if ar 11 j = -1 then 2 else 1) else 1) else if y = 0 then 0 else if ar 7 j = 4 then (if ar 11 j = w then 0 else if ar 11 j = -1 then 2 else 1) else 1) else 0
def mInvR (h : Nat → Int32) (ar : Nat → Nat → Int32) (d w y : Int32) : Int32 := if mInvC h d w y = 0 then mInvV ar d.toNatClampNeg w y else 0
def mInvA (h : Nat → Int32) (ar : Nat → Nat → Int32) (d w y : Int32) : Nat → Nat → Int32 := if mInvC h d w y = 0 then (if mInvV ar d.toNatClampNeg w y = 2 then mSt ar 11 d.toNatClampNeg w else if mInvV ar d.toNatClampNeg w y = 1 then mSt (mBec ar d.toNatClampNeg 6 (h 1)) 12 d.toNatClampNeg y else ar) else ar
def mLookC (h : Nat → Int32) (d x : Int32) : Int32 := if mOne h d = 0 then 1 else if mIn x 0 8 = 0 then 1 else 0
def mLookV (ar : Nat → Nat → Int32) (n : Nat) (d x : Int32) : Int32 :=
  if x = 0 then ar 7 d.toNatClampNeg else if x = 1 then ar 5 d.toNatClampNeg else if x = 2 then ar 6 d.toNatClampNeg else if x = 3 then ar 8 d.toNatClampNeg else if x = 4 then ar 9 d.toNatClampNeg else if x = 5 then mCntO ar d n else if x = 6 then ar 10 d.toNatClampNeg else if x = 7 then ar 11 d.toNatClampNeg else ar 12 d.toNatClampNeg
def mLookR (h : Nat → Int32) (ar : Nat → Nat → Int32) (n : Nat) (d x : Int32) : Int32 := if mLookC h d x = 0 then mLookV ar n d x else 0
def mOfC (h : Nat → Int32) (e x : Int32) : Int32 := if e < 0 then 1 else if h 13 ≤ e then 1 else if mIn x 0 5 = 0 then 1 else 0
def mOfV (ar : Nat → Nat → Int32) (e x : Int32) : Int32 :=
  if x = 0 then ar 14 e.toNatClampNeg else if x = 1 then ar 15 e.toNatClampNeg else if x = 2 then ar 16 e.toNatClampNeg else if x = 3 then ar 17 e.toNatClampNeg else if x = 4 then (if ar 18 e.toNatClampNeg = 0 then 0 else 1) else ar 19 e.toNatClampNeg
def mOfR (h : Nat → Int32) (ar : Nat → Nat → Int32) (e x : Int32) : Int32 := if mOfC h e x = 0 then mOfV ar e x else 0
def mCountR (h : Nat → Int32) (ar : Nat → Nat → Int32) (nD nE : Nat) (x : Int32) : Int32 :=
  if x < 10 then (if x = 0 then h 2 else if x = 1 then h 4 else if x = 2 then h 13 else if x = 3 then mCntW ar nE else if x = 4 then h 1 else -1) else if 18 ≤ x then -1 else mCntS ar (x - 10) nD
end
section
set_option maxHeartbeats 4000000 in
set_option maxRecDepth 100000 in
theorem c_M_person {l : Launch} {G : va_G} {ca : Nat → ClassId} {aM : Nat} {am : Nat → Nat} {h : Nat → Int32} {ar : Nat → Nat → Int32} {w : va_W} {sz : Nat} (hR : RM ca aM am h ar w) (v : Int32) {nP : Nat} (hp2 : h 2 = nI nP) (hnP : nP ≤ 12) : xMi l yM_person wsM_person ({ frames := 1, cells := 0, slots := 0, locals := 22 }) [.ref aM, .int v] G (mTys ca) w sz (fun r w' => r = mPersonR h v ∧ RM ca aM am (mPersonH h v) (mPersonA h ar v) w') 0 0 := by
  refine x_ofW (fun A => va_Qi (fun r w' => r = mPersonR h v ∧ RM ca aM am (mPersonH h v) (mPersonA h ar v) w') (xEnd G (mTys ca) A) A) cM_person 2 (some .int) (by decide) rfl (Nat.le_of_ble_eq_true rfl) ?_
  intro p e s m below meth c A ls hx hb hr hlocks hml hnm hown hB hA hP hK hD hS hl
  have hl : lv_has ls 2 [(0, .ref aM), (1, .int v)] := hl
  have hown : s.vm.findClass NmM = some m.cls := hown
  refine lv_iload_n hx hb dM_person_0 rfl (lv_at hl 1 rfl) ?_
  refine lv_iconst (v := 0) hx hb dM_person_1 (by decide) ?_
  refine lv_iconst (v := 2) hx hb dM_person_2 (by decide) ?_
  refine x_calli (va_runS (As := [.int v, .int 0, .int 2]) (rest := []) ⟨hx, hb, hml, hown, hB⟩ (c_M_in hR v 0 2 ) (va_cwS 3 hB (gS ml_M_78 sm_M_in ini_M kc_M_in) rfl rfl rfl (by decide +kernel) ⟨Nat.le_of_ble_eq_true rfl, Nat.le_of_ble_eq_true rfl⟩) (x_preS hP hK hD) rfl rfl hl.1 rfl (lv_room (Nat.le_of_ble_eq_true rfl)) dM_person_3 ⟨Nat.le_of_ble_eq_true rfl, Nat.le_of_ble_eq_true rfl⟩) hD hS hA (fun r1 w H locs hw hP hD hS => ?_)
  obtain ⟨ee2, rfl⟩ := hw
  refine lv_if_ne (tgt := 15) hx hb dM_person_6 (by decide) (fun c3 => ?_) (fun c3 => ?_)
  · refine lv_aload_n hx hb dM_person_15 rfl (lv_at hl 0 rfl) ?_
    refine m_get 2 hx hb hB inBM hown hK hP hR rfl (hB _ fl_M_72) rfl dM_person_16 ?_
    refine lv_bipush (v := 12) hx hb dM_person_19 (by decide) ?_
    refine lv_icmp_ne (tgt := 30) hx hb dM_person_21 (by decide) (fun c4 => ?_) (fun c4 => ?_)
    · refine lv_aload_n hx hb dM_person_30 rfl (lv_at hl 0 rfl) ?_
      refine lv_iconst (v := 0) hx hb dM_person_31 (by decide) ?_
      refine m_put 0 0 hx hb hB inBM hown hK hP hD hS hR rfl (hB _ fl_M_69) rfl rfl (by decide +kernel) dM_person_32 (fun w H locs hR hP hD hS => ?_)
      refine lv_aload_n hx hb dM_person_35 rfl (lv_at hl 0 rfl) ?_
      refine m_arr 3 hx hb hB inBM hown hK hP hR rfl (hB _ fl_M_7) rfl dM_person_36 ?_
      refine lv_aload_n hx hb dM_person_39 rfl (lv_at hl 0 rfl) ?_
      refine m_get 2 hx hb hB inBM hown hK hP hR rfl (hB _ fl_M_72) rfl dM_person_40 ?_
      refine lv_iload_n hx hb dM_person_43 rfl (lv_at hl 1 rfl) ?_
      refine m_st 3 (i := (upd h 0 0) 2) (x := v) (m_in (x := h 2) hp2 hnP (M := 12) rfl (by decide) c4) hx hb hK hP hD hS hR rfl dM_person_44 (fun w H locs hR hP hD hS => ?_)
      refine lv_aload_n hx hb dM_person_45 rfl (lv_at hl 0 rfl) ?_
      refine lv_dup hx hb dM_person_46 rfl ?_
      refine m_get 2 hx hb hB inBM hown hK hP hR rfl (hB _ fl_M_72) rfl dM_person_47 ?_
      refine lv_iconst (v := 1) hx hb dM_person_50 (by decide) ?_
      refine lv_iadd hx hb dM_person_51 ?_
      refine m_put 2 (((upd h 0 0) 2) + 1) hx hb hB inBM hown hK hP hD hS hR rfl (hB _ fl_M_72) rfl rfl (by decide +kernel) dM_person_52 (fun w H locs hR hP hD hS => ?_)
      refine lv_aload_n hx hb dM_person_55 rfl (lv_at hl 0 rfl) ?_
      refine m_get 2 hx hb hB inBM hown hK hP hR rfl (hB _ fl_M_72) rfl dM_person_56 ?_
      refine lv_iconst (v := 1) hx hb dM_person_59 (by decide) ?_
      refine lv_isub hx hb dM_person_60 ?_
      exact x_iret (v := ((upd (upd h 0 0) 2 (((upd h 0 0) 2) + 1)) 2) - 1) hx hb hr hlocks ⟨(by subst ee2; first | (simp [mPersonR, mPersonH, mPersonA, mPersonC, pk_us, pk_un, c3, c4]; done) | (simp_all [mPersonR, mPersonH, mPersonA, mPersonC, pk_us, pk_un]; done)), (by subst ee2; first | (simpa [mPersonR, mPersonH, mPersonA, mPersonC, pk_us, pk_un, c3, c4] using hR) | (have hR9 := hR; simp_all [mPersonR, mPersonH, mPersonA, mPersonC, pk_us, pk_un]; done))⟩ hP hK hD hS dM_person_61
    · refine lv_aload_n hx hb dM_person_24 rfl (lv_at hl 0 rfl) ?_
      refine lv_iconst (v := 2) hx hb dM_person_25 (by decide) ?_
      refine x_calli (va_runV (As := [.int 2]) (rest := []) ⟨hx, hb, hml, hown, hB⟩ (c_M_refuse hR 2 ) (cwV 1 hB (gV ml_M_82 im_M_refuse sl_M_refuse ini_M kc_M_refuse) rfl rfl rfl (by decide +kernel) ⟨Nat.le_of_ble_eq_true rfl, Nat.le_of_ble_eq_true rfl⟩) (x_preV hP hK hD hR.1 rfl) rfl rfl hl.1 rfl (lv_room (Nat.le_of_ble_eq_true rfl)) dM_person_26 ⟨Nat.le_of_ble_eq_true rfl, Nat.le_of_ble_eq_true rfl⟩) hD hS hA (fun r5 w H locs hw hP hD hS => ?_)
      obtain ⟨ee6, hR⟩ := hw
      exact x_iret (v := r5) hx hb hr hlocks ⟨(by subst ee2 ee6; first | (simp [mPersonR, mPersonH, mPersonA, mPersonC, pk_us, pk_un, c3, c4]; done) | (simp_all [mPersonR, mPersonH, mPersonA, mPersonC, pk_us, pk_un]; done)), (by subst ee2 ee6; first | (simpa [mPersonR, mPersonH, mPersonA, mPersonC, pk_us, pk_un, c3, c4] using hR) | (have hR9 := hR; simp_all [mPersonR, mPersonH, mPersonA, mPersonC, pk_us, pk_un]; done))⟩ hP hK hD hS dM_person_29
  · refine lv_aload_n hx hb dM_person_9 rfl (lv_at hl 0 rfl) ?_
    refine lv_iconst (v := 1) hx hb dM_person_10 (by decide) ?_
    refine x_calli (va_runV (As := [.int 1]) (rest := []) ⟨hx, hb, hml, hown, hB⟩ (c_M_refuse hR 1 ) (cwV 1 hB (gV ml_M_82 im_M_refuse sl_M_refuse ini_M kc_M_refuse) rfl rfl rfl (by decide +kernel) ⟨Nat.le_of_ble_eq_true rfl, Nat.le_of_ble_eq_true rfl⟩) (x_preV hP hK hD hR.1 rfl) rfl rfl hl.1 rfl (lv_room (Nat.le_of_ble_eq_true rfl)) dM_person_11 ⟨Nat.le_of_ble_eq_true rfl, Nat.le_of_ble_eq_true rfl⟩) hD hS hA (fun r7 w H locs hw hP hD hS => ?_)
    obtain ⟨ee8, hR⟩ := hw
    exact x_iret (v := r7) hx hb hr hlocks ⟨(by subst ee2 ee8; first | (simp [mPersonR, mPersonH, mPersonA, mPersonC, pk_us, pk_un, c3]; done) | (simp_all [mPersonR, mPersonH, mPersonA, mPersonC, pk_us, pk_un]; done)), (by subst ee2 ee8; first | (simpa [mPersonR, mPersonH, mPersonA, mPersonC, pk_us, pk_un, c3] using hR) | (have hR9 := hR; simp_all [mPersonR, mPersonH, mPersonA, mPersonC, pk_us, pk_un]; done))⟩ hP hK hD hS dM_person_14
set_option maxHeartbeats 4000000 in
set_option maxRecDepth 100000 in
theorem c_M_declaration {l : Launch} {G : va_G} {ca : Nat → ClassId} {aM : Nat} {am : Nat → Nat} {h : Nat → Int32} {ar : Nat → Nat → Int32} {w : va_W} {sz : Nat} (hR : RM ca aM am h ar w) (k : Int32) (t : Int32) {nP : Nat} (hp2 : h 2 = nI nP) (hnP : nP ≤ 12) {nD : Nat} (hd4 : h 4 = nI nD) (hnD : nD ≤ 20) : xMi l yM_declaration wsM_declaration ({ frames := 1, cells := 0, slots := 0, locals := 22 }) [.ref aM, .int k, .int t] G (mTys ca) w sz (fun r w' => r = mDeclR h ar k t ∧ RM ca aM am (mDeclH h ar k t) (mDeclA h ar k t) w') 0 0 := by
  refine x_ofW (fun A => va_Qi (fun r w' => r = mDeclR h ar k t ∧ RM ca aM am (mDeclH h ar k t) (mDeclA h ar k t) w') (xEnd G (mTys ca) A) A) cM_declaration 3 (some .int) (by decide) rfl (Nat.le_of_ble_eq_true rfl) ?_
  intro p e s m below meth c A ls hx hb hr hlocks hml hnm hown hB hA hP hK hD hS hl
  have hl : lv_has ls 3 [(0, .ref aM), (1, .int k), (2, .int t)] := hl
  have hown : s.vm.findClass NmM = some m.cls := hown
  refine lv_iload_n hx hb dM_declaration_0 rfl (lv_at hl 1 rfl) ?_
  refine lv_iconst (v := 0) hx hb dM_declaration_1 (by decide) ?_
  refine lv_iconst (v := 2) hx hb dM_declaration_2 (by decide) ?_
  refine x_calli (va_runS (As := [.int k, .int 0, .int 2]) (rest := []) ⟨hx, hb, hml, hown, hB⟩ (c_M_in hR k 0 2 ) (va_cwS 3 hB (gS ml_M_78 sm_M_in ini_M kc_M_in) rfl rfl rfl (by decide +kernel) ⟨Nat.le_of_ble_eq_true rfl, Nat.le_of_ble_eq_true rfl⟩) (x_preS hP hK hD) rfl rfl hl.1 rfl (lv_room (Nat.le_of_ble_eq_true rfl)) dM_declaration_3 ⟨Nat.le_of_ble_eq_true rfl, Nat.le_of_ble_eq_true rfl⟩) hD hS hA (fun r1 w H locs hw hP hD hS => ?_)
  obtain ⟨ee2, rfl⟩ := hw
  refine lv_if_eq (tgt := 26) hx hb dM_declaration_6 (by decide) (fun c3 => ?_) (fun c3 => ?_)
  · refine lv_aload_n hx hb dM_declaration_26 rfl (lv_at hl 0 rfl) ?_
    refine lv_iconst (v := 1) hx hb dM_declaration_27 (by decide) ?_
    refine x_calli (va_runV (As := [.int 1]) (rest := []) ⟨hx, hb, hml, hown, hB⟩ (c_M_refuse hR 1 ) (cwV 1 hB (gV ml_M_82 im_M_refuse sl_M_refuse ini_M kc_M_refuse) rfl rfl rfl (by decide +kernel) ⟨Nat.le_of_ble_eq_true rfl, Nat.le_of_ble_eq_true rfl⟩) (x_preV hP hK hD hR.1 rfl) rfl rfl hl.1 rfl (lv_room (Nat.le_of_ble_eq_true rfl)) dM_declaration_28 ⟨Nat.le_of_ble_eq_true rfl, Nat.le_of_ble_eq_true rfl⟩) hD hS hA (fun r4 w H locs hw hP hD hS => ?_)
    obtain ⟨ee5, hR⟩ := hw
    exact x_iret (v := r4) hx hb hr hlocks ⟨(by subst ee2 ee5; first | (simp [mDeclR, mDeclH, mDeclA, mDeclC, pk_us, pk_un, c3]; done) | (simp_all [mDeclR, mDeclH, mDeclA, mDeclC, pk_us, pk_un]; done)), (by subst ee2 ee5; first | (simpa [mDeclR, mDeclH, mDeclA, mDeclC, pk_us, pk_un, c3] using hR) | (have hR9 := hR; simp_all [mDeclR, mDeclH, mDeclA, mDeclC, pk_us, pk_un]; done))⟩ hP hK hD hS dM_declaration_31
  · refine lv_aload_n hx hb dM_declaration_9 rfl (lv_at hl 0 rfl) ?_
    refine lv_iload_n hx hb dM_declaration_10 rfl (lv_at hl 2 rfl) ?_
    refine x_calli (va_runV (As := [.int t]) (rest := []) ⟨hx, hb, hml, hown, hB⟩ (c_M_isPerson hR t ) (cwV 1 hB (gV ml_M_86 im_M_isPerson sl_M_isPerson ini_M kc_M_isPerson) rfl rfl rfl (by decide +kernel) ⟨Nat.le_of_ble_eq_true rfl, Nat.le_of_ble_eq_true rfl⟩) (x_preV hP hK hD hR.1 rfl) rfl rfl hl.1 rfl (lv_room (Nat.le_of_ble_eq_true rfl)) dM_declaration_11 ⟨Nat.le_of_ble_eq_true rfl, Nat.le_of_ble_eq_true rfl⟩) hD hS hA (fun r6 w H locs hw hP hD hS => ?_)
    obtain ⟨ee7, rfl⟩ := hw
    refine lv_if_eq (tgt := 26) hx hb dM_declaration_14 (by decide) (fun c8 => ?_) (fun c8 => ?_)
    · refine lv_aload_n hx hb dM_declaration_26 rfl (lv_at hl 0 rfl) ?_
      refine lv_iconst (v := 1) hx hb dM_declaration_27 (by decide) ?_
      refine x_calli (va_runV (As := [.int 1]) (rest := []) ⟨hx, hb, hml, hown, hB⟩ (c_M_refuse hR 1 ) (cwV 1 hB (gV ml_M_82 im_M_refuse sl_M_refuse ini_M kc_M_refuse) rfl rfl rfl (by decide +kernel) ⟨Nat.le_of_ble_eq_true rfl, Nat.le_of_ble_eq_true rfl⟩) (x_preV hP hK hD hR.1 rfl) rfl rfl hl.1 rfl (lv_room (Nat.le_of_ble_eq_true rfl)) dM_declaration_28 ⟨Nat.le_of_ble_eq_true rfl, Nat.le_of_ble_eq_true rfl⟩) hD hS hA (fun r9 w H locs hw hP hD hS => ?_)
      obtain ⟨ee10, hR⟩ := hw
      exact x_iret (v := r9) hx hb hr hlocks ⟨(by subst ee2 ee7 ee10; first | (simp [mDeclR, mDeclH, mDeclA, mDeclC, pk_us, pk_un, c3, c8]; done) | (simp_all [mDeclR, mDeclH, mDeclA, mDeclC, pk_us, pk_un]; done)), (by subst ee2 ee7 ee10; first | (simpa [mDeclR, mDeclH, mDeclA, mDeclC, pk_us, pk_un, c3, c8] using hR) | (have hR9 := hR; simp_all [mDeclR, mDeclH, mDeclA, mDeclC, pk_us, pk_un]; done))⟩ hP hK hD hS dM_declaration_31
    · refine lv_aload_n hx hb dM_declaration_17 rfl (lv_at hl 0 rfl) ?_
      refine m_arr 3 hx hb hB inBM hown hK hP hR rfl (hB _ fl_M_7) rfl dM_declaration_18 ?_
      refine lv_iload_n hx hb dM_declaration_21 rfl (lv_at hl 2 rfl) ?_
      refine m_ld 3 (i := t) (mPers_in hp2 hnP (by decide) (by rw [← ee7]; exact c8)) hx hb hK hP hR rfl dM_declaration_22 ?_
      refine lv_if_eq (tgt := 32) hx hb dM_declaration_23 (by decide) (fun c11 => ?_) (fun c11 => ?_)
      · refine lv_aload_n hx hb dM_declaration_32 rfl (lv_at hl 0 rfl) ?_
        refine m_get 4 hx hb hB inBM hown hK hP hR rfl (hB _ fl_M_75) rfl dM_declaration_33 ?_
        refine lv_bipush (v := 20) hx hb dM_declaration_36 (by decide) ?_
        refine lv_icmp_ne (tgt := 47) hx hb dM_declaration_38 (by decide) (fun c12 => ?_) (fun c12 => ?_)
        · refine lv_aload_n hx hb dM_declaration_47 rfl (lv_at hl 0 rfl) ?_
          refine lv_iconst (v := 0) hx hb dM_declaration_48 (by decide) ?_
          refine m_put 0 0 hx hb hB inBM hown hK hP hD hS hR rfl (hB _ fl_M_69) rfl rfl (by decide +kernel) dM_declaration_49 (fun w H locs hR hP hD hS => ?_)
          refine lv_aload_n hx hb dM_declaration_52 rfl (lv_at hl 0 rfl) ?_
          refine m_arr 5 hx hb hB inBM hown hK hP hR rfl (hB _ fl_M_13) rfl dM_declaration_53 ?_
          refine lv_aload_n hx hb dM_declaration_56 rfl (lv_at hl 0 rfl) ?_
          refine m_get 4 hx hb hB inBM hown hK hP hR rfl (hB _ fl_M_75) rfl dM_declaration_57 ?_
          refine lv_iload_n hx hb dM_declaration_60 rfl (lv_at hl 1 rfl) ?_
          refine m_st 5 (i := (upd h 0 0) 4) (x := k) (m_in (x := h 4) hd4 hnD (M := 20) rfl (by decide) c12) hx hb hK hP hD hS hR rfl dM_declaration_61 (fun w H locs hR hP hD hS => ?_)
          refine lv_aload_n hx hb dM_declaration_62 rfl (lv_at hl 0 rfl) ?_
          refine m_arr 6 hx hb hB inBM hown hK hP hR rfl (hB _ fl_M_16) rfl dM_declaration_63 ?_
          refine lv_aload_n hx hb dM_declaration_66 rfl (lv_at hl 0 rfl) ?_
          refine m_get 4 hx hb hB inBM hown hK hP hR rfl (hB _ fl_M_75) rfl dM_declaration_67 ?_
          refine lv_iload_n hx hb dM_declaration_70 rfl (lv_at hl 2 rfl) ?_
          refine m_st 6 (i := (upd h 0 0) 4) (x := t) (m_in (x := h 4) hd4 hnD (M := 20) rfl (by decide) c12) hx hb hK hP hD hS hR rfl dM_declaration_71 (fun w H locs hR hP hD hS => ?_)
          refine lv_aload_n hx hb dM_declaration_72 rfl (lv_at hl 0 rfl) ?_
          refine m_arr 11 hx hb hB inBM hown hK hP hR rfl (hB _ fl_M_31) rfl dM_declaration_73 ?_
          refine lv_aload_n hx hb dM_declaration_76 rfl (lv_at hl 0 rfl) ?_
          refine m_get 4 hx hb hB inBM hown hK hP hR rfl (hB _ fl_M_75) rfl dM_declaration_77 ?_
          refine lv_iconst (v := (-1)) hx hb dM_declaration_80 (by decide) ?_
          refine m_st 11 (i := (upd h 0 0) 4) (x := (-1)) (m_in (x := h 4) hd4 hnD (M := 20) rfl (by decide) c12) hx hb hK hP hD hS hR rfl dM_declaration_81 (fun w H locs hR hP hD hS => ?_)
          refine lv_aload_n hx hb dM_declaration_82 rfl (lv_at hl 0 rfl) ?_
          refine lv_dup hx hb dM_declaration_83 rfl ?_
          refine m_get 4 hx hb hB inBM hown hK hP hR rfl (hB _ fl_M_75) rfl dM_declaration_84 ?_
          refine lv_iconst (v := 1) hx hb dM_declaration_87 (by decide) ?_
          refine lv_iadd hx hb dM_declaration_88 ?_
          refine m_put 4 (((upd h 0 0) 4) + 1) hx hb hB inBM hown hK hP hD hS hR rfl (hB _ fl_M_75) rfl rfl (by decide +kernel) dM_declaration_89 (fun w H locs hR hP hD hS => ?_)
          refine lv_aload_n hx hb dM_declaration_92 rfl (lv_at hl 0 rfl) ?_
          refine m_get 4 hx hb hB inBM hown hK hP hR rfl (hB _ fl_M_75) rfl dM_declaration_93 ?_
          refine lv_iconst (v := 1) hx hb dM_declaration_96 (by decide) ?_
          refine lv_isub hx hb dM_declaration_97 ?_
          exact x_iret (v := ((upd (upd h 0 0) 4 (((upd h 0 0) 4) + 1)) 4) - 1) hx hb hr hlocks ⟨(by subst ee2 ee7; first | (simp [mDeclR, mDeclH, mDeclA, mDeclC, pk_us, pk_un, c3, c8, c11, c12]; done) | (simp_all [mDeclR, mDeclH, mDeclA, mDeclC, pk_us, pk_un]; done)), (by subst ee2 ee7; first | (simpa [mDeclR, mDeclH, mDeclA, mDeclC, pk_us, pk_un, c3, c8, c11, c12] using hR) | (have hR9 := hR; simp_all [mDeclR, mDeclH, mDeclA, mDeclC, pk_us, pk_un]; done))⟩ hP hK hD hS dM_declaration_98
        · refine lv_aload_n hx hb dM_declaration_41 rfl (lv_at hl 0 rfl) ?_
          refine lv_iconst (v := 2) hx hb dM_declaration_42 (by decide) ?_
          refine x_calli (va_runV (As := [.int 2]) (rest := []) ⟨hx, hb, hml, hown, hB⟩ (c_M_refuse hR 2 ) (cwV 1 hB (gV ml_M_82 im_M_refuse sl_M_refuse ini_M kc_M_refuse) rfl rfl rfl (by decide +kernel) ⟨Nat.le_of_ble_eq_true rfl, Nat.le_of_ble_eq_true rfl⟩) (x_preV hP hK hD hR.1 rfl) rfl rfl hl.1 rfl (lv_room (Nat.le_of_ble_eq_true rfl)) dM_declaration_43 ⟨Nat.le_of_ble_eq_true rfl, Nat.le_of_ble_eq_true rfl⟩) hD hS hA (fun r13 w H locs hw hP hD hS => ?_)
          obtain ⟨ee14, hR⟩ := hw
          exact x_iret (v := r13) hx hb hr hlocks ⟨(by subst ee2 ee7 ee14; first | (simp [mDeclR, mDeclH, mDeclA, mDeclC, pk_us, pk_un, c3, c8, c11, c12]; done) | (simp_all [mDeclR, mDeclH, mDeclA, mDeclC, pk_us, pk_un]; done)), (by subst ee2 ee7 ee14; first | (simpa [mDeclR, mDeclH, mDeclA, mDeclC, pk_us, pk_un, c3, c8, c11, c12] using hR) | (have hR9 := hR; simp_all [mDeclR, mDeclH, mDeclA, mDeclC, pk_us, pk_un]; done))⟩ hP hK hD hS dM_declaration_46
      · refine lv_aload_n hx hb dM_declaration_26 rfl (lv_at hl 0 rfl) ?_
        refine lv_iconst (v := 1) hx hb dM_declaration_27 (by decide) ?_
        refine x_calli (va_runV (As := [.int 1]) (rest := []) ⟨hx, hb, hml, hown, hB⟩ (c_M_refuse hR 1 ) (cwV 1 hB (gV ml_M_82 im_M_refuse sl_M_refuse ini_M kc_M_refuse) rfl rfl rfl (by decide +kernel) ⟨Nat.le_of_ble_eq_true rfl, Nat.le_of_ble_eq_true rfl⟩) (x_preV hP hK hD hR.1 rfl) rfl rfl hl.1 rfl (lv_room (Nat.le_of_ble_eq_true rfl)) dM_declaration_28 ⟨Nat.le_of_ble_eq_true rfl, Nat.le_of_ble_eq_true rfl⟩) hD hS hA (fun r15 w H locs hw hP hD hS => ?_)
        obtain ⟨ee16, hR⟩ := hw
        exact x_iret (v := r15) hx hb hr hlocks ⟨(by subst ee2 ee7 ee16; first | (simp [mDeclR, mDeclH, mDeclA, mDeclC, pk_us, pk_un, c3, c8, c11]; done) | (simp_all [mDeclR, mDeclH, mDeclA, mDeclC, pk_us, pk_un]; done)), (by subst ee2 ee7 ee16; first | (simpa [mDeclR, mDeclH, mDeclA, mDeclC, pk_us, pk_un, c3, c8, c11] using hR) | (have hR9 := hR; simp_all [mDeclR, mDeclH, mDeclA, mDeclC, pk_us, pk_un]; done))⟩ hP hK hD hS dM_declaration_31
set_option maxHeartbeats 4000000 in
set_option maxRecDepth 100000 in
theorem c_M_waiting {l : Launch} {G : va_G} {ca : Nat → ClassId} {aM : Nat} {am : Nat → Nat} {h : Nat → Int32} {ar : Nat → Nat → Int32} {w : va_W} {sz : Nat} (hR : RM ca aM am h ar w)  {nE : Nat} (he13 : h 13 = nI nE) (hnE : nE ≤ 120) : xMi l yM_waiting wsM_waiting ({ frames := 0, cells := 0, slots := 0, locals := 0 }) [.ref aM] G (mTys ca) w sz (fun r w' => r = mCntW ar nE ∧ w = w') 0 0 := by
  refine x_ofW (fun A => va_Qi (fun r w' => r = mCntW ar nE ∧ w = w') (xEnd G (mTys ca) A) A) cM_waiting 3 (some .int) (by decide) rfl (Nat.le_of_ble_eq_true rfl) ?_
  intro p e s m below meth c A ls hx hb hr hlocks hml hnm hown hB hA hP hK hD hS hl
  have hl : lv_has ls 3 [(0, .ref aM)] := hl
  have hown : s.vm.findClass NmM = some m.cls := hown
  have loop4 : ∀ (n : Nat) (i : Nat) (xa xi : Int32), i ≤ nE → nE + 1 ≤ i + n → xi = nI i → xa = mCntW ar i → ∀ (ls : Array Slot) (H : Heap) (locs : List Loc), lv_has ls 3 [(0, .ref aM), (1, .int xa), (2, .int xi)] → va_P G vwCl w H → va_D A w → va_S A s.heap H locs → W p l e ({ frames := 0, cells := 0, slots := 0, locals := 0 }) s m [.ref aM].toArray below meth c H locs 0 0 (MQ below (va_Qi (fun r w' => r = mCntW ar nE ∧ w = w') (xEnd G (mTys ca) A) A) [.ref aM].toArray s 0 0 A) (F0 m 4 ls []) := by
    intro n
    induction n with
    | zero => intro i xa xi hi hn exi exa; exact absurd hn (by omega)
    | succ n ih4 =>
      intro i xa xi hi hn exi exa ls H locs hl hP hD hS
      have hcl : xi.toNatClampNeg = i := by rw [exi]; exact nI_clamp (by omega)
      refine lv_iload_n hx hb dM_waiting_4 rfl (lv_at hl 2 rfl) ?_
      refine lv_aload_n hx hb dM_waiting_5 rfl (lv_at hl 0 rfl) ?_
      refine m_get 13 hx hb hB inBM hown hK hP hR rfl (hB _ fl_M_90) rfl dM_waiting_6 ?_
      refine lv_icmp_ge (tgt := 35) hx hb dM_waiting_9 (by decide) (fun c1 => ?_) (fun c1 => ?_)
      · refine lv_iload_n hx hb dM_waiting_35 rfl (lv_at hl 1 rfl) ?_
        exact x_iret (v := xa) hx hb hr hlocks ⟨(by rw [exa, x_gen exi he13 c1 hi (by omega)]), rfl⟩ hP hK hD hS dM_waiting_36
      · refine lv_iload_n hx hb dM_waiting_12 rfl (lv_at hl 1 rfl) ?_
        refine lv_aload_n hx hb dM_waiting_13 rfl (lv_at hl 0 rfl) ?_
        refine m_arr 18 hx hb hB inBM hown hK hP hR rfl (hB _ fl_M_49) rfl dM_waiting_14 ?_
        refine lv_iload_n hx hb dM_waiting_17 rfl (lv_at hl 2 rfl) ?_
        refine m_ldz 18 (i := xi) (m_inB exi he13 c1 (by omega) hnE (by decide)) hx hb hK hP hR rfl dM_waiting_18 ?_
        refine lv_if_eq (tgt := 26) hx hb dM_waiting_19 (by decide) (fun c2 => ?_) (fun c2 => ?_)
        · refine lv_iconst (v := 0) hx hb dM_waiting_26 (by decide) ?_
          refine lv_iadd hx hb dM_waiting_27 ?_
          refine lv_istore_n (lv' := [(1, .int (xa + 0)), (0, .ref aM), (2, .int xi)]) hx hb dM_waiting_28 rfl hl (by decide) rfl (fun ls hl => ?_)
          refine lv_iinc (v := xi + 1) (lv' := [(2, .int (xi + 1)), (1, .int (xa + 0)), (0, .ref aM)]) hx hb dM_waiting_29 hl (k := 2) rfl rfl (by decide) rfl (fun ls hl => ?_)
          refine lv_goto (tgt := 4) hx hb dM_waiting_32 (by decide) ?_
          exact ih4 (i + 1) _ _ (x_ltn exi he13 c1 (by omega) (by omega)) (by omega) (by rw [exi]; exact nI_1 i) (by have h8 := c2; rw [hcl] at h8; rw [exa]; simp [mCntW, h8]) _ _ _ (lv_sub hl [2, 1, 0] rfl) hP hD hS
        · refine lv_iconst (v := 1) hx hb dM_waiting_22 (by decide) ?_
          refine lv_goto (tgt := 27) hx hb dM_waiting_23 (by decide) ?_
          refine lv_iadd hx hb dM_waiting_27 ?_
          refine lv_istore_n (lv' := [(1, .int (xa + 1)), (0, .ref aM), (2, .int xi)]) hx hb dM_waiting_28 rfl hl (by decide) rfl (fun ls hl => ?_)
          refine lv_iinc (v := xi + 1) (lv' := [(2, .int (xi + 1)), (1, .int (xa + 1)), (0, .ref aM)]) hx hb dM_waiting_29 hl (k := 2) rfl rfl (by decide) rfl (fun ls hl => ?_)
          refine lv_goto (tgt := 4) hx hb dM_waiting_32 (by decide) ?_
          exact ih4 (i + 1) _ _ (x_ltn exi he13 c1 (by omega) (by omega)) (by omega) (by rw [exi]; exact nI_1 i) (by have h8 := c2; rw [hcl] at h8; rw [exa]; simp [mCntW, h8]) _ _ _ (lv_sub hl [2, 1, 0] rfl) hP hD hS
  refine lv_iconst (v := 0) hx hb dM_waiting_0 (by decide) ?_
  refine lv_istore_n (lv' := [(1, .int 0), (0, .ref aM)]) hx hb dM_waiting_1 rfl hl (by decide) rfl (fun ls hl => ?_)
  refine lv_iconst (v := 0) hx hb dM_waiting_2 (by decide) ?_
  refine lv_istore_n (lv' := [(2, .int 0), (1, .int 0), (0, .ref aM)]) hx hb dM_waiting_3 rfl hl (by decide) rfl (fun ls hl => ?_)
  exact loop4 (nE + 1) 0 _ _ (Nat.zero_le _) (by omega) nI_0.symm rfl _ _ _ (lv_sub hl [2, 1, 0] rfl) hP hD hS
set_option maxHeartbeats 4000000 in
set_option maxRecDepth 100000 in
theorem c_M_event {l : Launch} {G : va_G} {ca : Nat → ClassId} {aM : Nat} {am : Nat → Nat} {h : Nat → Int32} {ar : Nat → Nat → Int32} {w : va_W} {sz : Nat} (hR : RM ca aM am h ar w) (d9 : Int32) (k : Int32) (w9 : Int32) (t9 : Int32) {nP : Nat} (hp2 : h 2 = nI nP) (hnP : nP ≤ 12) {nD : Nat} (hd4 : h 4 = nI nD) (hnD : nD ≤ 20) {nE : Nat} (he13 : h 13 = nI nE) (hnE : nE ≤ 120) : xMi l yM_event wsM_event ({ frames := 1, cells := 0, slots := 0, locals := 22 }) [.ref aM, .int d9, .int k, .int w9, .int t9] G (mTys ca) w sz (fun r w' => r = mEvR h ar nE d9 k w9 t9 ∧ RM ca aM am (mEvH h ar nE d9 k w9 t9) (mEvA h ar nE d9 k w9 t9) w') 0 0 := by
  refine x_ofW (fun A => va_Qi (fun r w' => r = mEvR h ar nE d9 k w9 t9 ∧ RM ca aM am (mEvH h ar nE d9 k w9 t9) (mEvA h ar nE d9 k w9 t9) w') (xEnd G (mTys ca) A) A) cM_event 5 (some .int) (by decide) rfl (Nat.le_of_ble_eq_true rfl) ?_
  intro p e s m below meth c A ls hx hb hr hlocks hml hnm hown hB hA hP hK hD hS hl
  have hl : lv_has ls 5 [(0, .ref aM), (1, .int d9), (2, .int k), (3, .int w9), (4, .int t9)] := hl
  have hown : s.vm.findClass NmM = some m.cls := hown
  refine lv_aload_n hx hb dM_event_0 rfl (lv_at hl 0 rfl) ?_
  refine lv_iload_n hx hb dM_event_1 rfl (lv_at hl 1 rfl) ?_
  refine x_calli (va_runV (As := [.int d9]) (rest := []) ⟨hx, hb, hml, hown, hB⟩ (c_M_isOne hR d9 ) (cwV 1 hB (gV ml_M_93 im_M_isOne sl_M_isOne ini_M kc_M_isOne) rfl rfl rfl (by decide +kernel) ⟨Nat.le_of_ble_eq_true rfl, Nat.le_of_ble_eq_true rfl⟩) (x_preV hP hK hD hR.1 rfl) rfl rfl hl.1 rfl (lv_room (Nat.le_of_ble_eq_true rfl)) dM_event_2 ⟨Nat.le_of_ble_eq_true rfl, Nat.le_of_ble_eq_true rfl⟩) hD hS hA (fun r1 w H locs hw hP hD hS => ?_)
  obtain ⟨ee2, rfl⟩ := hw
  refine lv_if_eq (tgt := 42) hx hb dM_event_5 (by decide) (fun c3 => ?_) (fun c3 => ?_)
  · refine lv_aload_n hx hb dM_event_42 rfl (lv_at hl 0 rfl) ?_
    refine lv_iconst (v := 1) hx hb dM_event_43 (by decide) ?_
    refine x_calli (va_runV (As := [.int 1]) (rest := []) ⟨hx, hb, hml, hown, hB⟩ (c_M_refuse hR 1 ) (cwV 1 hB (gV ml_M_82 im_M_refuse sl_M_refuse ini_M kc_M_refuse) rfl rfl rfl (by decide +kernel) ⟨Nat.le_of_ble_eq_true rfl, Nat.le_of_ble_eq_true rfl⟩) (x_preV hP hK hD hR.1 rfl) rfl rfl hl.1 rfl (lv_room (Nat.le_of_ble_eq_true rfl)) dM_event_44 ⟨Nat.le_of_ble_eq_true rfl, Nat.le_of_ble_eq_true rfl⟩) hD hS hA (fun r4 w H locs hw hP hD hS => ?_)
    obtain ⟨ee5, hR⟩ := hw
    exact x_iret (v := r4) hx hb hr hlocks ⟨(by subst ee2 ee5; first | (simp [mEvR, mEvH, mEvA, mEvC, pk_us, pk_un, c3]; done) | (simp_all [mEvR, mEvH, mEvA, mEvC, pk_us, pk_un]; done)), (by subst ee2 ee5; first | (simpa [mEvR, mEvH, mEvA, mEvC, pk_us, pk_un, c3] using hR) | (have hR9 := hR; simp_all [mEvR, mEvH, mEvA, mEvC, pk_us, pk_un]; done))⟩ hP hK hD hS dM_event_47
  · refine lv_iload_n hx hb dM_event_8 rfl (lv_at hl 2 rfl) ?_
    refine lv_iconst (v := 0) hx hb dM_event_9 (by decide) ?_
    refine lv_bipush (v := 9) hx hb dM_event_10 (by decide) ?_
    refine x_calli (va_runS (As := [.int k, .int 0, .int 9]) (rest := []) ⟨hx, hb, hml, hown, hB⟩ (c_M_in hR k 0 9 ) (va_cwS 3 hB (gS ml_M_78 sm_M_in ini_M kc_M_in) rfl rfl rfl (by decide +kernel) ⟨Nat.le_of_ble_eq_true rfl, Nat.le_of_ble_eq_true rfl⟩) (x_preS hP hK hD) rfl rfl hl.1 rfl (lv_room (Nat.le_of_ble_eq_true rfl)) dM_event_12 ⟨Nat.le_of_ble_eq_true rfl, Nat.le_of_ble_eq_true rfl⟩) hD hS hA (fun r6 w H locs hw hP hD hS => ?_)
    obtain ⟨ee7, rfl⟩ := hw
    refine lv_if_eq (tgt := 42) hx hb dM_event_15 (by decide) (fun c8 => ?_) (fun c8 => ?_)
    · refine lv_aload_n hx hb dM_event_42 rfl (lv_at hl 0 rfl) ?_
      refine lv_iconst (v := 1) hx hb dM_event_43 (by decide) ?_
      refine x_calli (va_runV (As := [.int 1]) (rest := []) ⟨hx, hb, hml, hown, hB⟩ (c_M_refuse hR 1 ) (cwV 1 hB (gV ml_M_82 im_M_refuse sl_M_refuse ini_M kc_M_refuse) rfl rfl rfl (by decide +kernel) ⟨Nat.le_of_ble_eq_true rfl, Nat.le_of_ble_eq_true rfl⟩) (x_preV hP hK hD hR.1 rfl) rfl rfl hl.1 rfl (lv_room (Nat.le_of_ble_eq_true rfl)) dM_event_44 ⟨Nat.le_of_ble_eq_true rfl, Nat.le_of_ble_eq_true rfl⟩) hD hS hA (fun r9 w H locs hw hP hD hS => ?_)
      obtain ⟨ee10, hR⟩ := hw
      exact x_iret (v := r9) hx hb hr hlocks ⟨(by subst ee2 ee7 ee10; first | (simp [mEvR, mEvH, mEvA, mEvC, pk_us, pk_un, c3, c8]; done) | (simp_all [mEvR, mEvH, mEvA, mEvC, pk_us, pk_un]; done)), (by subst ee2 ee7 ee10; first | (simpa [mEvR, mEvH, mEvA, mEvC, pk_us, pk_un, c3, c8] using hR) | (have hR9 := hR; simp_all [mEvR, mEvH, mEvA, mEvC, pk_us, pk_un]; done))⟩ hP hK hD hS dM_event_47
    · refine lv_aload_n hx hb dM_event_18 rfl (lv_at hl 0 rfl) ?_
      refine lv_iload_n hx hb dM_event_19 rfl (lv_at hl 3 rfl) ?_
      refine x_calli (va_runV (As := [.int w9]) (rest := []) ⟨hx, hb, hml, hown, hB⟩ (c_M_isPerson hR w9 ) (cwV 1 hB (gV ml_M_86 im_M_isPerson sl_M_isPerson ini_M kc_M_isPerson) rfl rfl rfl (by decide +kernel) ⟨Nat.le_of_ble_eq_true rfl, Nat.le_of_ble_eq_true rfl⟩) (x_preV hP hK hD hR.1 rfl) rfl rfl hl.1 rfl (lv_room (Nat.le_of_ble_eq_true rfl)) dM_event_20 ⟨Nat.le_of_ble_eq_true rfl, Nat.le_of_ble_eq_true rfl⟩) hD hS hA (fun r11 w H locs hw hP hD hS => ?_)
      obtain ⟨ee12, rfl⟩ := hw
      refine lv_if_eq (tgt := 42) hx hb dM_event_23 (by decide) (fun c13 => ?_) (fun c13 => ?_)
      · refine lv_aload_n hx hb dM_event_42 rfl (lv_at hl 0 rfl) ?_
        refine lv_iconst (v := 1) hx hb dM_event_43 (by decide) ?_
        refine x_calli (va_runV (As := [.int 1]) (rest := []) ⟨hx, hb, hml, hown, hB⟩ (c_M_refuse hR 1 ) (cwV 1 hB (gV ml_M_82 im_M_refuse sl_M_refuse ini_M kc_M_refuse) rfl rfl rfl (by decide +kernel) ⟨Nat.le_of_ble_eq_true rfl, Nat.le_of_ble_eq_true rfl⟩) (x_preV hP hK hD hR.1 rfl) rfl rfl hl.1 rfl (lv_room (Nat.le_of_ble_eq_true rfl)) dM_event_44 ⟨Nat.le_of_ble_eq_true rfl, Nat.le_of_ble_eq_true rfl⟩) hD hS hA (fun r14 w H locs hw hP hD hS => ?_)
        obtain ⟨ee15, hR⟩ := hw
        exact x_iret (v := r14) hx hb hr hlocks ⟨(by subst ee2 ee7 ee12 ee15; first | (simp [mEvR, mEvH, mEvA, mEvC, pk_us, pk_un, c3, c8, c13]; done) | (simp_all [mEvR, mEvH, mEvA, mEvC, pk_us, pk_un]; done)), (by subst ee2 ee7 ee12 ee15; first | (simpa [mEvR, mEvH, mEvA, mEvC, pk_us, pk_un, c3, c8, c13] using hR) | (have hR9 := hR; simp_all [mEvR, mEvH, mEvA, mEvC, pk_us, pk_un]; done))⟩ hP hK hD hS dM_event_47
      · refine lv_iload hx hb dM_event_26 (lv_at hl 4 rfl) ?_
        refine lv_aload_n hx hb dM_event_28 rfl (lv_at hl 0 rfl) ?_
        refine m_get 1 hx hb hB inBM hown hK hP hR rfl (hB _ fl_M_96) rfl dM_event_29 ?_
        refine lv_icmp_le (tgt := 42) hx hb dM_event_32 (by decide) (fun c16 => ?_) (fun c16 => ?_)
        · refine lv_aload_n hx hb dM_event_42 rfl (lv_at hl 0 rfl) ?_
          refine lv_iconst (v := 1) hx hb dM_event_43 (by decide) ?_
          refine x_calli (va_runV (As := [.int 1]) (rest := []) ⟨hx, hb, hml, hown, hB⟩ (c_M_refuse hR 1 ) (cwV 1 hB (gV ml_M_82 im_M_refuse sl_M_refuse ini_M kc_M_refuse) rfl rfl rfl (by decide +kernel) ⟨Nat.le_of_ble_eq_true rfl, Nat.le_of_ble_eq_true rfl⟩) (x_preV hP hK hD hR.1 rfl) rfl rfl hl.1 rfl (lv_room (Nat.le_of_ble_eq_true rfl)) dM_event_44 ⟨Nat.le_of_ble_eq_true rfl, Nat.le_of_ble_eq_true rfl⟩) hD hS hA (fun r17 w H locs hw hP hD hS => ?_)
          obtain ⟨ee18, hR⟩ := hw
          exact x_iret (v := r17) hx hb hr hlocks ⟨(by subst ee2 ee7 ee12 ee18; first | (simp [mEvR, mEvH, mEvA, mEvC, pk_us, pk_un, c3, c8, c13, c16]; done) | (simp_all [mEvR, mEvH, mEvA, mEvC, pk_us, pk_un]; done)), (by subst ee2 ee7 ee12 ee18; first | (simpa [mEvR, mEvH, mEvA, mEvC, pk_us, pk_un, c3, c8, c13, c16] using hR) | (have hR9 := hR; simp_all [mEvR, mEvH, mEvA, mEvC, pk_us, pk_un]; done))⟩ hP hK hD hS dM_event_47
        · refine lv_iload hx hb dM_event_35 (lv_at hl 4 rfl) ?_
          refine lv_ldc (v := 100000) hx hb hown (hB _ kn_M_99) dM_event_37 ?_
          refine lv_icmp_le (tgt := 48) hx hb dM_event_39 (by decide) (fun c19 => ?_) (fun c19 => ?_)
          · refine lv_aload_n hx hb dM_event_48 rfl (lv_at hl 0 rfl) ?_
            refine m_get 13 hx hb hB inBM hown hK hP hR rfl (hB _ fl_M_90) rfl dM_event_49 ?_
            refine lv_bipush (v := 120) hx hb dM_event_52 (by decide) ?_
            refine lv_icmp_eq (tgt := 66) hx hb dM_event_54 (by decide) (fun c20 => ?_) (fun c20 => ?_)
            · refine lv_aload_n hx hb dM_event_66 rfl (lv_at hl 0 rfl) ?_
              refine lv_iconst (v := 2) hx hb dM_event_67 (by decide) ?_
              refine x_calli (va_runV (As := [.int 2]) (rest := []) ⟨hx, hb, hml, hown, hB⟩ (c_M_refuse hR 2 ) (cwV 1 hB (gV ml_M_82 im_M_refuse sl_M_refuse ini_M kc_M_refuse) rfl rfl rfl (by decide +kernel) ⟨Nat.le_of_ble_eq_true rfl, Nat.le_of_ble_eq_true rfl⟩) (x_preV hP hK hD hR.1 rfl) rfl rfl hl.1 rfl (lv_room (Nat.le_of_ble_eq_true rfl)) dM_event_68 ⟨Nat.le_of_ble_eq_true rfl, Nat.le_of_ble_eq_true rfl⟩) hD hS hA (fun r21 w H locs hw hP hD hS => ?_)
              obtain ⟨ee22, hR⟩ := hw
              exact x_iret (v := r21) hx hb hr hlocks ⟨(by subst ee2 ee7 ee12 ee22; first | (simp [mEvR, mEvH, mEvA, mEvC, pk_us, pk_un, c3, c8, c13, c16, c19, c20]; done) | (simp_all [mEvR, mEvH, mEvA, mEvC, pk_us, pk_un]; done)), (by subst ee2 ee7 ee12 ee22; first | (simpa [mEvR, mEvH, mEvA, mEvC, pk_us, pk_un, c3, c8, c13, c16, c19, c20] using hR) | (have hR9 := hR; simp_all [mEvR, mEvH, mEvA, mEvC, pk_us, pk_un]; done))⟩ hP hK hD hS dM_event_71
            · refine lv_aload_n hx hb dM_event_57 rfl (lv_at hl 0 rfl) ?_
              refine x_calli (va_runV (As := []) (rest := []) ⟨hx, hb, hml, hown, hB⟩ (c_M_waiting hR  he13 hnE) (cwV 0 hB (gV ml_M_100 im_M_waiting sl_M_waiting ini_M kc_M_waiting) rfl rfl rfl (by decide +kernel) ⟨Nat.le_of_ble_eq_true rfl, Nat.le_of_ble_eq_true rfl⟩) (x_preV hP hK hD hR.1 rfl) rfl rfl hl.1 rfl (lv_room (Nat.le_of_ble_eq_true rfl)) dM_event_58 ⟨Nat.le_of_ble_eq_true rfl, Nat.le_of_ble_eq_true rfl⟩) hD hS hA (fun r23 w H locs hw hP hD hS => ?_)
              obtain ⟨ee24, rfl⟩ := hw
              refine lv_bipush (v := 20) hx hb dM_event_61 (by decide) ?_
              refine lv_icmp_ne (tgt := 72) hx hb dM_event_63 (by decide) (fun c25 => ?_) (fun c25 => ?_)
              · refine lv_aload_n hx hb dM_event_72 rfl (lv_at hl 0 rfl) ?_
                refine lv_iconst (v := 0) hx hb dM_event_73 (by decide) ?_
                refine m_put 0 0 hx hb hB inBM hown hK hP hD hS hR rfl (hB _ fl_M_69) rfl rfl (by decide +kernel) dM_event_74 (fun w H locs hR hP hD hS => ?_)
                refine lv_aload_n hx hb dM_event_77 rfl (lv_at hl 0 rfl) ?_
                refine m_arr 14 hx hb hB inBM hown hK hP hR rfl (hB _ fl_M_37) rfl dM_event_78 ?_
                refine lv_aload_n hx hb dM_event_81 rfl (lv_at hl 0 rfl) ?_
                refine m_get 13 hx hb hB inBM hown hK hP hR rfl (hB _ fl_M_90) rfl dM_event_82 ?_
                refine lv_iload_n hx hb dM_event_85 rfl (lv_at hl 1 rfl) ?_
                refine m_st 14 (i := (upd h 0 0) 13) (x := d9) (m_in (x := h 13) he13 hnE (M := 120) rfl (by decide) c20) hx hb hK hP hD hS hR rfl dM_event_86 (fun w H locs hR hP hD hS => ?_)
                refine lv_aload_n hx hb dM_event_87 rfl (lv_at hl 0 rfl) ?_
                refine m_arr 15 hx hb hB inBM hown hK hP hR rfl (hB _ fl_M_40) rfl dM_event_88 ?_
                refine lv_aload_n hx hb dM_event_91 rfl (lv_at hl 0 rfl) ?_
                refine m_get 13 hx hb hB inBM hown hK hP hR rfl (hB _ fl_M_90) rfl dM_event_92 ?_
                refine lv_iload_n hx hb dM_event_95 rfl (lv_at hl 2 rfl) ?_
                refine m_st 15 (i := (upd h 0 0) 13) (x := k) (m_in (x := h 13) he13 hnE (M := 120) rfl (by decide) c20) hx hb hK hP hD hS hR rfl dM_event_96 (fun w H locs hR hP hD hS => ?_)
                refine lv_aload_n hx hb dM_event_97 rfl (lv_at hl 0 rfl) ?_
                refine m_arr 16 hx hb hB inBM hown hK hP hR rfl (hB _ fl_M_43) rfl dM_event_98 ?_
                refine lv_aload_n hx hb dM_event_101 rfl (lv_at hl 0 rfl) ?_
                refine m_get 13 hx hb hB inBM hown hK hP hR rfl (hB _ fl_M_90) rfl dM_event_102 ?_
                refine lv_iload_n hx hb dM_event_105 rfl (lv_at hl 3 rfl) ?_
                refine m_st 16 (i := (upd h 0 0) 13) (x := w9) (m_in (x := h 13) he13 hnE (M := 120) rfl (by decide) c20) hx hb hK hP hD hS hR rfl dM_event_106 (fun w H locs hR hP hD hS => ?_)
                refine lv_aload_n hx hb dM_event_107 rfl (lv_at hl 0 rfl) ?_
                refine m_arr 17 hx hb hB inBM hown hK hP hR rfl (hB _ fl_M_46) rfl dM_event_108 ?_
                refine lv_aload_n hx hb dM_event_111 rfl (lv_at hl 0 rfl) ?_
                refine m_get 13 hx hb hB inBM hown hK hP hR rfl (hB _ fl_M_90) rfl dM_event_112 ?_
                refine lv_iload hx hb dM_event_115 (lv_at hl 4 rfl) ?_
                refine m_st 17 (i := (upd h 0 0) 13) (x := t9) (m_in (x := h 13) he13 hnE (M := 120) rfl (by decide) c20) hx hb hK hP hD hS hR rfl dM_event_117 (fun w H locs hR hP hD hS => ?_)
                refine lv_aload_n hx hb dM_event_118 rfl (lv_at hl 0 rfl) ?_
                refine m_arr 18 hx hb hB inBM hown hK hP hR rfl (hB _ fl_M_49) rfl dM_event_119 ?_
                refine lv_aload_n hx hb dM_event_122 rfl (lv_at hl 0 rfl) ?_
                refine m_get 13 hx hb hB inBM hown hK hP hR rfl (hB _ fl_M_90) rfl dM_event_123 ?_
                refine lv_iconst (v := 1) hx hb dM_event_126 (by decide) ?_
                refine m_stz 18 (i := (upd h 0 0) 13) (x := 1) rfl (m_in (x := h 13) he13 hnE (M := 120) rfl (by decide) c20) hx hb hK hP hD hS hR rfl dM_event_127 (fun w H locs hR hP hD hS => ?_)
                refine lv_aload_n hx hb dM_event_128 rfl (lv_at hl 0 rfl) ?_
                refine m_arr 19 hx hb hB inBM hown hK hP hR rfl (hB _ fl_M_53) rfl dM_event_129 ?_
                refine lv_aload_n hx hb dM_event_132 rfl (lv_at hl 0 rfl) ?_
                refine m_get 13 hx hb hB inBM hown hK hP hR rfl (hB _ fl_M_90) rfl dM_event_133 ?_
                refine lv_iconst (v := (-1)) hx hb dM_event_136 (by decide) ?_
                refine m_st 19 (i := (upd h 0 0) 13) (x := (-1)) (m_in (x := h 13) he13 hnE (M := 120) rfl (by decide) c20) hx hb hK hP hD hS hR rfl dM_event_137 (fun w H locs hR hP hD hS => ?_)
                refine lv_aload_n hx hb dM_event_138 rfl (lv_at hl 0 rfl) ?_
                refine lv_dup hx hb dM_event_139 rfl ?_
                refine m_get 13 hx hb hB inBM hown hK hP hR rfl (hB _ fl_M_90) rfl dM_event_140 ?_
                refine lv_iconst (v := 1) hx hb dM_event_143 (by decide) ?_
                refine lv_iadd hx hb dM_event_144 ?_
                refine m_put 13 (((upd h 0 0) 13) + 1) hx hb hB inBM hown hK hP hD hS hR rfl (hB _ fl_M_90) rfl rfl (by decide +kernel) dM_event_145 (fun w H locs hR hP hD hS => ?_)
                refine lv_aload_n hx hb dM_event_148 rfl (lv_at hl 0 rfl) ?_
                refine m_get 13 hx hb hB inBM hown hK hP hR rfl (hB _ fl_M_90) rfl dM_event_149 ?_
                refine lv_iconst (v := 1) hx hb dM_event_152 (by decide) ?_
                refine lv_isub hx hb dM_event_153 ?_
                exact x_iret (v := ((upd (upd h 0 0) 13 (((upd h 0 0) 13) + 1)) 13) - 1) hx hb hr hlocks ⟨(by subst ee2 ee7 ee12 ee24; first | (simp [mEvR, mEvH, mEvA, mEvC, pk_us, pk_un, c3, c8, c13, c16, c19, c20, c25]; done) | (simp_all [mEvR, mEvH, mEvA, mEvC, pk_us, pk_un]; done)), (by subst ee2 ee7 ee12 ee24; first | (simpa [mEvR, mEvH, mEvA, mEvC, pk_us, pk_un, c3, c8, c13, c16, c19, c20, c25] using hR) | (have hR9 := hR; simp_all [mEvR, mEvH, mEvA, mEvC, pk_us, pk_un]; done))⟩ hP hK hD hS dM_event_154
              · refine lv_aload_n hx hb dM_event_66 rfl (lv_at hl 0 rfl) ?_
                refine lv_iconst (v := 2) hx hb dM_event_67 (by decide) ?_
                refine x_calli (va_runV (As := [.int 2]) (rest := []) ⟨hx, hb, hml, hown, hB⟩ (c_M_refuse hR 2 ) (cwV 1 hB (gV ml_M_82 im_M_refuse sl_M_refuse ini_M kc_M_refuse) rfl rfl rfl (by decide +kernel) ⟨Nat.le_of_ble_eq_true rfl, Nat.le_of_ble_eq_true rfl⟩) (x_preV hP hK hD hR.1 rfl) rfl rfl hl.1 rfl (lv_room (Nat.le_of_ble_eq_true rfl)) dM_event_68 ⟨Nat.le_of_ble_eq_true rfl, Nat.le_of_ble_eq_true rfl⟩) hD hS hA (fun r26 w H locs hw hP hD hS => ?_)
                obtain ⟨ee27, hR⟩ := hw
                exact x_iret (v := r26) hx hb hr hlocks ⟨(by subst ee2 ee7 ee12 ee24 ee27; first | (simp [mEvR, mEvH, mEvA, mEvC, pk_us, pk_un, c3, c8, c13, c16, c19, c20, c25]; done) | (simp_all [mEvR, mEvH, mEvA, mEvC, pk_us, pk_un]; done)), (by subst ee2 ee7 ee12 ee24 ee27; first | (simpa [mEvR, mEvH, mEvA, mEvC, pk_us, pk_un, c3, c8, c13, c16, c19, c20, c25] using hR) | (have hR9 := hR; simp_all [mEvR, mEvH, mEvA, mEvC, pk_us, pk_un]; done))⟩ hP hK hD hS dM_event_71
          · refine lv_aload_n hx hb dM_event_42 rfl (lv_at hl 0 rfl) ?_
            refine lv_iconst (v := 1) hx hb dM_event_43 (by decide) ?_
            refine x_calli (va_runV (As := [.int 1]) (rest := []) ⟨hx, hb, hml, hown, hB⟩ (c_M_refuse hR 1 ) (cwV 1 hB (gV ml_M_82 im_M_refuse sl_M_refuse ini_M kc_M_refuse) rfl rfl rfl (by decide +kernel) ⟨Nat.le_of_ble_eq_true rfl, Nat.le_of_ble_eq_true rfl⟩) (x_preV hP hK hD hR.1 rfl) rfl rfl hl.1 rfl (lv_room (Nat.le_of_ble_eq_true rfl)) dM_event_44 ⟨Nat.le_of_ble_eq_true rfl, Nat.le_of_ble_eq_true rfl⟩) hD hS hA (fun r28 w H locs hw hP hD hS => ?_)
            obtain ⟨ee29, hR⟩ := hw
            exact x_iret (v := r28) hx hb hr hlocks ⟨(by subst ee2 ee7 ee12 ee29; first | (simp [mEvR, mEvH, mEvA, mEvC, pk_us, pk_un, c3, c8, c13, c16, c19]; done) | (simp_all [mEvR, mEvH, mEvA, mEvC, pk_us, pk_un]; done)), (by subst ee2 ee7 ee12 ee29; first | (simpa [mEvR, mEvH, mEvA, mEvC, pk_us, pk_un, c3, c8, c13, c16, c19] using hR) | (have hR9 := hR; simp_all [mEvR, mEvH, mEvA, mEvC, pk_us, pk_un]; done))⟩ hP hK hD hS dM_event_47
set_option maxHeartbeats 4000000 in
set_option maxRecDepth 100000 in
theorem c_M_hours {l : Launch} {G : va_G} {ca : Nat → ClassId} {aM : Nat} {am : Nat → Nat} {h : Nat → Int32} {ar : Nat → Nat → Int32} {w : va_W} {sz : Nat} (hR : RM ca aM am h ar w) (a9 : Int32) (b9 : Int32)  : xMi l yM_hours wsM_hours ({ frames := 1, cells := 0, slots := 0, locals := 22 }) [.ref aM, .int a9, .int b9] G (mTys ca) w sz (fun r w' => r = mHoursR a9 b9 ∧ RM ca aM am (mHours h a9 b9) ar w') 0 0 := by
  refine x_ofW (fun A => va_Qi (fun r w' => r = mHoursR a9 b9 ∧ RM ca aM am (mHours h a9 b9) ar w') (xEnd G (mTys ca) A) A) cM_hours 3 (some .boolean) (by decide) rfl (Nat.le_of_ble_eq_true rfl) ?_
  intro p e s m below meth c A ls hx hb hr hlocks hml hnm hown hB hA hP hK hD hS hl
  have hl : lv_has ls 3 [(0, .ref aM), (1, .int a9), (2, .int b9)] := hl
  have hown : s.vm.findClass NmM = some m.cls := hown
  refine lv_aload_n hx hb dM_hours_0 rfl (lv_at hl 0 rfl) ?_
  refine lv_iconst (v := 0) hx hb dM_hours_1 (by decide) ?_
  refine m_put 0 0 hx hb hB inBM hown hK hP hD hS hR rfl (hB _ fl_M_69) rfl rfl (by decide +kernel) dM_hours_2 (fun w H locs hR hP hD hS => ?_)
  refine lv_iload_n hx hb dM_hours_5 rfl (lv_at hl 1 rfl) ?_
  refine lv_iconst (v := 0) hx hb dM_hours_6 (by decide) ?_
  refine lv_bipush (v := 24) hx hb dM_hours_7 (by decide) ?_
  refine x_calli (va_runS (As := [.int a9, .int 0, .int 24]) (rest := []) ⟨hx, hb, hml, hown, hB⟩ (c_M_in hR a9 0 24 ) (va_cwS 3 hB (gS ml_M_78 sm_M_in ini_M kc_M_in) rfl rfl rfl (by decide +kernel) ⟨Nat.le_of_ble_eq_true rfl, Nat.le_of_ble_eq_true rfl⟩) (x_preS hP hK hD) rfl rfl hl.1 rfl (lv_room (Nat.le_of_ble_eq_true rfl)) dM_hours_9 ⟨Nat.le_of_ble_eq_true rfl, Nat.le_of_ble_eq_true rfl⟩) hD hS hA (fun r1 w H locs hw hP hD hS => ?_)
  obtain ⟨ee2, rfl⟩ := hw
  refine lv_if_eq (tgt := 30) hx hb dM_hours_12 (by decide) (fun c3 => ?_) (fun c3 => ?_)
  · refine lv_iconst (v := 0) hx hb dM_hours_30 (by decide) ?_
    exact x_zret (v := 0) hx hb hr hlocks rfl ⟨(by subst ee2; first | (simp [mHoursR, mHours, pk_us, pk_un, c3]; done) | (simp_all [mHoursR, mHours, pk_us, pk_un]; done)), (by subst ee2; first | (simpa [mHoursR, mHours, pk_us, pk_un, c3] using hR) | (have hR9 := hR; simp_all [mHoursR, mHours, pk_us, pk_un]; done))⟩ hP hK hD hS dM_hours_31
  · refine lv_iload_n hx hb dM_hours_15 rfl (lv_at hl 2 rfl) ?_
    refine lv_iconst (v := 0) hx hb dM_hours_16 (by decide) ?_
    refine lv_bipush (v := 24) hx hb dM_hours_17 (by decide) ?_
    refine x_calli (va_runS (As := [.int b9, .int 0, .int 24]) (rest := []) ⟨hx, hb, hml, hown, hB⟩ (c_M_in hR b9 0 24 ) (va_cwS 3 hB (gS ml_M_78 sm_M_in ini_M kc_M_in) rfl rfl rfl (by decide +kernel) ⟨Nat.le_of_ble_eq_true rfl, Nat.le_of_ble_eq_true rfl⟩) (x_preS hP hK hD) rfl rfl hl.1 rfl (lv_room (Nat.le_of_ble_eq_true rfl)) dM_hours_19 ⟨Nat.le_of_ble_eq_true rfl, Nat.le_of_ble_eq_true rfl⟩) hD hS hA (fun r4 w H locs hw hP hD hS => ?_)
    obtain ⟨ee5, rfl⟩ := hw
    refine lv_if_eq (tgt := 30) hx hb dM_hours_22 (by decide) (fun c6 => ?_) (fun c6 => ?_)
    · refine lv_iconst (v := 0) hx hb dM_hours_30 (by decide) ?_
      exact x_zret (v := 0) hx hb hr hlocks rfl ⟨(by subst ee2 ee5; first | (simp [mHoursR, mHours, pk_us, pk_un, c3, c6]; done) | (simp_all [mHoursR, mHours, pk_us, pk_un]; done)), (by subst ee2 ee5; first | (simpa [mHoursR, mHours, pk_us, pk_un, c3, c6] using hR) | (have hR9 := hR; simp_all [mHoursR, mHours, pk_us, pk_un]; done))⟩ hP hK hD hS dM_hours_31
    · refine lv_iload_n hx hb dM_hours_25 rfl (lv_at hl 1 rfl) ?_
      refine lv_iload_n hx hb dM_hours_26 rfl (lv_at hl 2 rfl) ?_
      refine lv_icmp_lt (tgt := 32) hx hb dM_hours_27 (by decide) (fun c7 => ?_) (fun c7 => ?_)
      · refine lv_aload_n hx hb dM_hours_32 rfl (lv_at hl 0 rfl) ?_
        refine lv_iload_n hx hb dM_hours_33 rfl (lv_at hl 1 rfl) ?_
        refine m_put 22 a9 hx hb hB inBM hown hK hP hD hS hR rfl (hB _ fl_M_59) rfl rfl (by decide +kernel) dM_hours_34 (fun w H locs hR hP hD hS => ?_)
        refine lv_aload_n hx hb dM_hours_37 rfl (lv_at hl 0 rfl) ?_
        refine lv_iload_n hx hb dM_hours_38 rfl (lv_at hl 2 rfl) ?_
        refine m_put 23 b9 hx hb hB inBM hown hK hP hD hS hR rfl (hB _ fl_M_63) rfl rfl (by decide +kernel) dM_hours_39 (fun w H locs hR hP hD hS => ?_)
        refine lv_iconst (v := 1) hx hb dM_hours_42 (by decide) ?_
        exact x_zret (v := 1) hx hb hr hlocks rfl ⟨(by subst ee2 ee5; first | (simp [mHoursR, mHours, pk_us, pk_un, c3, c6, c7]; done) | (simp_all [mHoursR, mHours, pk_us, pk_un]; done)), (by subst ee2 ee5; first | (simpa [mHoursR, mHours, pk_us, pk_un, c3, c6, c7] using hR) | (have hR9 := hR; simp_all [mHoursR, mHours, pk_us, pk_un]; done))⟩ hP hK hD hS dM_hours_43
      · refine lv_iconst (v := 0) hx hb dM_hours_30 (by decide) ?_
        exact x_zret (v := 0) hx hb hr hlocks rfl ⟨(by subst ee2 ee5; first | (simp [mHoursR, mHours, pk_us, pk_un, c3, c6, c7]; done) | (simp_all [mHoursR, mHours, pk_us, pk_un]; done)), (by subst ee2 ee5; first | (simpa [mHoursR, mHours, pk_us, pk_un, c3, c6, c7] using hR) | (have hR9 := hR; simp_all [mHoursR, mHours, pk_us, pk_un]; done))⟩ hP hK hD hS dM_hours_31
set_option maxHeartbeats 4000000 in
set_option maxRecDepth 100000 in
theorem c_M_fails {l : Launch} {G : va_G} {ca : Nat → ClassId} {aM : Nat} {am : Nat → Nat} {h : Nat → Int32} {ar : Nat → Nat → Int32} {w : va_W} {sz : Nat} (hR : RM ca aM am h ar w) (k : Int32) (on : Int32) (hon : vp_nar .boolean on = on) : xMi l yM_fails wsM_fails ({ frames := 1, cells := 0, slots := 0, locals := 22 }) [.ref aM, .int k, .int on] G (mTys ca) w sz (fun r w' => r = mFailsR ar k on ∧ RM ca aM am (upd h 0 0) (mFailsA ar k on) w') 0 0 := by
  refine x_ofW (fun A => va_Qi (fun r w' => r = mFailsR ar k on ∧ RM ca aM am (upd h 0 0) (mFailsA ar k on) w') (xEnd G (mTys ca) A) A) cM_fails 3 (some .boolean) (by decide) rfl (Nat.le_of_ble_eq_true rfl) ?_
  intro p e s m below meth c A ls hx hb hr hlocks hml hnm hown hB hA hP hK hD hS hl
  have hl : lv_has ls 3 [(0, .ref aM), (1, .int k), (2, .int on)] := hl
  have hown : s.vm.findClass NmM = some m.cls := hown
  refine lv_aload_n hx hb dM_fails_0 rfl (lv_at hl 0 rfl) ?_
  refine lv_iconst (v := 0) hx hb dM_fails_1 (by decide) ?_
  refine m_put 0 0 hx hb hB inBM hown hK hP hD hS hR rfl (hB _ fl_M_69) rfl rfl (by decide +kernel) dM_fails_2 (fun w H locs hR hP hD hS => ?_)
  refine lv_iload_n hx hb dM_fails_5 rfl (lv_at hl 1 rfl) ?_
  refine lv_iconst (v := 0) hx hb dM_fails_6 (by decide) ?_
  refine lv_bipush (v := 9) hx hb dM_fails_7 (by decide) ?_
  refine x_calli (va_runS (As := [.int k, .int 0, .int 9]) (rest := []) ⟨hx, hb, hml, hown, hB⟩ (c_M_in hR k 0 9 ) (va_cwS 3 hB (gS ml_M_78 sm_M_in ini_M kc_M_in) rfl rfl rfl (by decide +kernel) ⟨Nat.le_of_ble_eq_true rfl, Nat.le_of_ble_eq_true rfl⟩) (x_preS hP hK hD) rfl rfl hl.1 rfl (lv_room (Nat.le_of_ble_eq_true rfl)) dM_fails_9 ⟨Nat.le_of_ble_eq_true rfl, Nat.le_of_ble_eq_true rfl⟩) hD hS hA (fun r1 w H locs hw hP hD hS => ?_)
  obtain ⟨ee2, rfl⟩ := hw
  refine lv_if_eq (tgt := 25) hx hb dM_fails_12 (by decide) (fun c3 => ?_) (fun c3 => ?_)
  · refine lv_iconst (v := 0) hx hb dM_fails_25 (by decide) ?_
    exact x_zret (v := 0) hx hb hr hlocks rfl ⟨(by subst ee2; first | (simp [mFailsR, mFailsA, pk_us, pk_un, c3]; done) | (simp_all [mFailsR, mFailsA, pk_us, pk_un]; done)), (by subst ee2; first | (simpa [mFailsR, mFailsA, pk_us, pk_un, c3] using hR) | (have hR9 := hR; simp_all [mFailsR, mFailsA, pk_us, pk_un]; done))⟩ hP hK hD hS dM_fails_26
  · refine lv_aload_n hx hb dM_fails_15 rfl (lv_at hl 0 rfl) ?_
    refine m_arr 24 hx hb hB inBM hown hK hP hR rfl (hB _ fl_M_66) rfl dM_fails_16 ?_
    refine lv_iload_n hx hb dM_fails_19 rfl (lv_at hl 1 rfl) ?_
    refine m_ldz 24 (i := k) (mIn_in (N := 10) rfl (by rw [← ee2]; exact c3)) hx hb hK hP hR rfl dM_fails_20 ?_
    refine lv_iload_n hx hb dM_fails_21 rfl (lv_at hl 2 rfl) ?_
    refine lv_icmp_ne (tgt := 27) hx hb dM_fails_22 (by decide) (fun c4 => ?_) (fun c4 => ?_)
    · refine lv_aload_n hx hb dM_fails_27 rfl (lv_at hl 0 rfl) ?_
      refine m_arr 24 hx hb hB inBM hown hK hP hR rfl (hB _ fl_M_66) rfl dM_fails_28 ?_
      refine lv_iload_n hx hb dM_fails_31 rfl (lv_at hl 1 rfl) ?_
      refine lv_iload_n hx hb dM_fails_32 rfl (lv_at hl 2 rfl) ?_
      refine m_stz 24 (i := k) (x := on) hon (mIn_in (N := 10) rfl (by rw [← ee2]; exact c3)) hx hb hK hP hD hS hR rfl dM_fails_33 (fun w H locs hR hP hD hS => ?_)
      refine lv_iconst (v := 1) hx hb dM_fails_34 (by decide) ?_
      exact x_zret (v := 1) hx hb hr hlocks rfl ⟨(by subst ee2; first | (simp [mFailsR, mFailsA, pk_us, pk_un, c3, c4]; done) | (simp_all [mFailsR, mFailsA, pk_us, pk_un]; done)), (by subst ee2; first | (simpa [mFailsR, mFailsA, pk_us, pk_un, c3, c4] using hR) | (have hR9 := hR; simp_all [mFailsR, mFailsA, pk_us, pk_un]; done))⟩ hP hK hD hS dM_fails_35
    · refine lv_iconst (v := 0) hx hb dM_fails_25 (by decide) ?_
      exact x_zret (v := 0) hx hb hr hlocks rfl ⟨(by subst ee2; first | (simp [mFailsR, mFailsA, pk_us, pk_un, c3, c4]; done) | (simp_all [mFailsR, mFailsA, pk_us, pk_un]; done)), (by subst ee2; first | (simpa [mFailsR, mFailsA, pk_us, pk_un, c3, c4] using hR) | (have hR9 := hR; simp_all [mFailsR, mFailsA, pk_us, pk_un]; done))⟩ hP hK hD hS dM_fails_26
end
