-- THROWS of the class's face
abbrev eIAE : String := "java/lang/IllegalArgumentException"
abbrev eISE : String := "java/lang/IllegalStateException"
abbrev eIOB : String := "java/lang/IndexOutOfBoundsException"
abbrev eUps : List String := ["java/lang/RuntimeException", "java/lang/Exception"]
def xBad : List Cond := [.castable eIAE eIAE, .castable eISE eISE, .castable eIOB eIOB, .declares ⟨"java/lang/RuntimeException", "<init>", "(Ljava/lang/String;)V"⟩, .declares ⟨"java/lang/Exception", "<init>", "(Ljava/lang/String;)V"⟩, .declares ⟨"java/lang/Throwable", "<init>", "(Ljava/lang/String;)V"⟩]
def xStrs : List (Nat × String) := [(38, "no such role"), (48, "no room for more people"), (51, "no such kind of declaration"), (57, "no such trader"), (62, "no room for more declarations"), (75, "no such declaration, kind of event or person"), (81, "the time is not behind now, or too late"), (89, "no room for more events"), (98, "the time is ahead of now, or too late"), (119, "no such declaration or kind of bar"), (140, "no such declaration, person or reason"), (148, "no such declaration"), (175, "no such what"), (188, "no such event")]
def xThr (A : Nat → Prop) (U : State) (H : Heap) : Prop := (vx_Zq Bundle.tN "UNASSIGNED_STACK" Bundle.steD A U H ∧ vx_Zq Bundle.tN "SUPPRESSED_SENTINEL" Bundle.listD A U H) ∧ (∀ w ∈ xBad, va_Nw w U) ∧ ∀ q ∈ xStrs, ∃ sa, vk_R NmX q.1 q.2 sa U
theorem xBad_warm {s U : State} (hW : s.WarmedH U.vm) (h : ∀ w ∈ xBad, va_Nw w s) : ∀ w ∈ xBad, va_Nw w U := by
  intro w hw
  have h1 := h w hw
  simp only [xBad, List.mem_cons, List.not_mem_nil, or_false] at hw
  rcases hw with rfl | rfl | rfl | rfl | rfl | rfl
  · exact va_Nw.warmC hW h1
  · exact va_Nw.warmC hW h1
  · exact va_Nw.warmC hW h1
  · exact va_Nw.warmD hW h1
  · exact va_Nw.warmD hW h1
  · exact va_Nw.warmD hW h1
theorem xThr.warm {A : Nat → Prop} {s U : State} {H : Heap} (hW : s.WarmedH U.vm) (h : xThr A s H) : xThr A U H :=
  ⟨⟨vx_Zq.moved hW.alike h.1.1, vx_Zq.moved hW.alike h.1.2⟩, xBad_warm hW h.2.1, fun q hq => by obtain ⟨sa, h9⟩ := h.2.2 q hq; exact ⟨sa, vk_R.warm hW h9⟩⟩
theorem xThr.kept {A : Nat → Prop} {s : State} {H H1 : Heap} (h : xThr A s H) (hq : ∀ a : Nat, a < H.size → ¬ A a → H1[a]? = H[a]?) : xThr A s H1 := ⟨⟨h.1.1.kept hq, h.1.2.kept hq⟩, h.2⟩
theorem xThr.narrow {A B : Nat → Prop} {s : State} {H : Heap} (h : xThr A s H) (hAB : ∀ q, B q → A q) : xThr B s H := ⟨⟨h.1.1.narrow hAB, h.1.2.narrow hAB⟩, h.2⟩
theorem xBad_same {u U : State} (hv : u.vm = U.vm) (h : ∀ w ∈ xBad, va_Nw w u) : ∀ w ∈ xBad, va_Nw w U := by
  intro w hw
  have h1 := h w hw
  simp only [xBad, List.mem_cons, List.not_mem_nil, or_false] at hw
  rcases hw with rfl | rfl | rfl | rfl | rfl | rfl <;> exact va_Nw.same rfl hv h1
theorem xThr.same {A : Nat → Prop} {u U : State} {H : Heap} (hv : u.vm = U.vm) (h : xThr A u H) : xThr A U H :=
  ⟨⟨vx_Zq.moved (by rw [hv]; exact Vm.Alike.refl _) h.1.1, vx_Zq.moved (by rw [hv]; exact Vm.Alike.refl _) h.1.2⟩, xBad_same hv h.2.1, fun q hq => by obtain ⟨sa, h9⟩ := h.2.2 q hq; exact ⟨sa, vk_R.same hv.symm h9⟩⟩
def xPreX (G : va_G) (tys : List (ClassId × FieldType)) (w : va_W) (sz : Nat) (U : State) : Prop := xPre G tys w sz U ∧ xThr (va_A w sz) U U.heap
/-- where it throws: which, and the world as it was -/
abbrev xXC (G : va_G) (tys : List (ClassId × FieldType)) (w : va_W) (pX : String → Prop) (A : Nat → Prop) : String → State → State → Prop := vx_X (fun _ : Unit => True) (fun E _ t => pX E ∧ xEnd G tys A w t) A
abbrev xXi (l : Launch) (y : MethodName) (ws : List Cond) (rm : Room) (av : List Value) (G : va_G) (tys : List (ClassId × FieldType)) (w : va_W) (sz : Nat) (post : Int32 → va_W → Prop) (pX : String → Prop) (mc ms : Nat) : Prop :=
  vx_Met l y ws rm (va_Pc av (xPreX G tys w sz)) (va_Qi post (xEnd G tys (va_A w sz)) (va_A w sz)) (xXC G tys w pX (va_A w sz)) mc ms (va_A w sz)
theorem x_ofX {l : Launch} {y : MethodName} {ws : List Cond} {rm : Room} {av : List Value} {G : va_G} {tys : List (ClassId × FieldType)} {w : va_W} {sz : Nat} (Qc : (Nat → Prop) → Array Value → State → Outcome → State → Prop) (pX : String → Prop) {mc ms : Nat} (cc : ByteArray) (maxL : Nat) (ret : Option FieldType) (hy : plainName y.cls = true) (hw : ws = Cond.code y cc maxL ret :: BIG) (hn : (lg_sl av).length ≤ maxL)
    (body : ∀ (p : Program) (e : Env) (s : State) (m : MethodId) (below : List Frame) (meth : Method) (c : Code) (A : Nat → Prop) (ls : Array Slot), p.tables.exec = Jvm.exec → c.code = cc → meth.sig.returnType = ret → meth.locks = false → c.maxLocals = maxL → meth.name = y.name → s.vm.findClass y.cls = some m.cls → (∀ w ∈ BIG, w.before av.toArray s = true) → (∀ q, s.heap.size ≤ q → A q) → (∀ x ∈ c.exceptionTable.toList, False) → xThr A s s.heap →
      va_P G vwCl w s.heap → va_K G vwCl tys s → va_D A w → va_S A s.heap s.heap [] → lv_has ls maxL (lv_args 0 av) → W p l e rm s m av.toArray below meth c s.heap [] 0 0 (vx_MQ below (Qc A) (xXC G tys w pX A) av.toArray s mc ms A) (F0 m 0 ls [])) :
    vx_Met l y ws rm (va_Pc av (xPreX G tys w sz)) (Qc (va_A w sz)) (xXC G tys w pX (va_A w sz)) mc ms (va_A w sz) := by
  refine vx_ofW (cc := cc) (maxL := maxL) (ret := ret) hy hw ?_
  intro p e s m args below meth c s₁ B hml ht hv
  obtain ⟨rfl, ⟨hsz, hP, hK, hD0⟩, hthr⟩ := hv
  subst hsz
  rw [lg_entry_eq]
  exact body p e s m below meth c _ _ B.exec B.bytes B.returns B.notSynchronized hml (name_of_methodNamed B.named B.method).1 (findClass_of_methodNamed B.named) (fun w h => atoms_spec (ws := ws) B.pre w (by rw [hw]; exact List.mem_cons_of_mem _ h)) (fun q h => Or.inr h) ht hthr hP hK (hD0.self (sz := s.heap.size)) va_S.rf (lv_entry av hn)
def thL (ic : Nat) (E : String) : List Cond := vx_atS NmX ic E eUps
set_option maxRecDepth 100000 in
theorem th_in40 : ∀ w ∈ (thL 40 eIAE).filter goodWord, w ∈ lw_tbl := by decide +kernel
set_option maxRecDepth 100000 in
theorem th_in50 : ∀ w ∈ (thL 50 eISE).filter goodWord, w ∈ lw_tbl := by decide +kernel
set_option maxRecDepth 100000 in
theorem th_in150 : ∀ w ∈ (thL 150 eIOB).filter goodWord, w ∈ lw_tbl := by decide +kernel
set_option maxRecDepth 100000 in
theorem th_bad40 : ∀ w ∈ (thL 40 eIAE).filter (fun w => !goodWord w), w ∈ xBad := by decide +kernel
set_option maxRecDepth 100000 in
theorem th_bad50 : ∀ w ∈ (thL 50 eISE).filter (fun w => !goodWord w), w ∈ xBad := by decide +kernel
set_option maxRecDepth 100000 in
theorem th_bad150 : ∀ w ∈ (thL 150 eIOB).filter (fun w => !goodWord w), w ∈ xBad := by decide +kernel
set_option maxRecDepth 100000 in
theorem th_ot40 : ∀ w ∈ Cond.classLink NmX 36 eIAE :: Cond.initialized eIAE :: vx_atS NmX 40 eIAE eUps, vx_ot w = true := by decide +kernel
set_option maxRecDepth 100000 in
theorem th_ot50 : ∀ w ∈ Cond.classLink NmX 46 eISE :: Cond.initialized eISE :: vx_atS NmX 50 eISE eUps, vx_ot w = true := by decide +kernel
set_option maxRecDepth 100000 in
theorem th_ot150 : ∀ w ∈ Cond.classLink NmX 146 eIOB :: Cond.initialized eIOB :: vx_atS NmX 150 eIOB eUps, vx_ot w = true := by decide +kernel
theorem th_hat {args : Array Value} {s : State} {ic : Nat} {E : String} (h1 : ∀ w ∈ (thL ic E).filter goodWord, w ∈ lw_tbl) (h2 : ∀ w ∈ (thL ic E).filter (fun w => !goodWord w), w ∈ xBad) (hB : ∀ w ∈ BIG, w.before args s = true) (hZ : ∀ w ∈ xBad, va_Nw w s) : ∀ w ∈ vx_atS NmX ic E eUps, w.before args s = true := by
  refine vx_hat (L := thL ic E) (B := xBad) (fun w hw => hB w (List.mem_filter.mpr ⟨h1 w hw, (List.mem_filter.mp hw).2⟩)) h2 (fun w hw => ?_)
  have h9 := hZ w hw
  simp only [xBad, List.mem_cons, List.not_mem_nil, or_false] at hw
  rcases hw with rfl | rfl | rfl | rfl | rfl | rfl <;> exact va_Nw.use rfl h9
section XTH
variable {p : Program} {l : Launch} {e : Env} {R : Room} {s : State} {m : MethodId} {args : Array Value} {below : List Frame} {meth : Method} {c : Code} {H : Heap} {locs : List Loc} {cells slots : Nat} {Q : State → Prop}
variable {cc : ByteArray} {pc : Nat} {ls : Array Slot} {rest : List Value} {A : Nat → Prop} {G : va_G} {tys : List (ClassId × FieldType)} {w w0 : va_W} {mc ms : Nat}
theorem x_exc {t : State} (hP : va_P G vwCl w H) (hK : va_K G vwCl tys s) (hD : va_D A w) (hS : va_S A s.heap H locs) (h1 : s.vm.Alike t.vm) (h2 : H.size ≤ t.heap.size) (h3 : ∀ q : Nat, q < H.size → t.heap[q]? = H[q]?) : xEnd G tys A w t ∧ va_F A s t :=
  ⟨⟨hP.kept (fun k q hk => h3 q.1 (hP k q hk).lt), va_K.moved h1 hK, hD⟩, Nat.le_trans hS.1 h2, fun q hq hA => by rw [h3 q (Nat.lt_of_lt_of_le hq hS.1)]; exact hS.2.1 q hq hA⟩
/-- throw new E("text") -/
theorem x_throw {Qc : Array Value → State → Outcome → State → Prop} {pX : String → Prop} {E text : String} {ik is ic : Nat} (hx : p.tables.exec = Jvm.exec) (hb : c.code = cc) (hl : l.stackTraces = false) (hown : s.vm.findClass NmX = some m.cls) (hfit : Bundle.fit E = true) (hB : ∀ w ∈ BIG, w.before args s = true) (hk : Cond.classLink NmX ik E ∈ BIG) (hi : Cond.initialized E ∈ BIG)
    (h1 : ∀ w ∈ (thL ic E).filter goodWord, w ∈ lw_tbl) (h2 : ∀ w ∈ (thL ic E).filter (fun w => !goodWord w), w ∈ xBad) (h3 : ∀ w ∈ Cond.classLink NmX ik E :: Cond.initialized E :: vx_atS NmX ic E eUps, vx_ot w = true) (hthr : xThr A s s.heap) (hstr : (is, text) ∈ xStrs) (hpX : pX E)
    (hP : va_P G vwCl w H) (hK : va_K G vwCl tys s) (hD : va_D A w) (hS : va_S A s.heap H locs) (hsize : ls.size = c.maxLocals) (ht : ∀ x ∈ c.exceptionTable.toList, False) (hlocks : meth.locks = false)
    (d0 : decode cc pc = .ok (.new ik, 3)) (d3 : decode cc (pc + 3) = .ok (.dup, 1)) (d4 : decode cc (pc + 4) = .ok (.ldc is, 2)) (d6 : decode cc (pc + 6) = .ok (.invokespecial ic, 3)) (d9 : decode cc (pc + 9) = .ok (.athrow, 1))
    (hRf : 5 < R.frames) (hRl : (rest.map fun v => v.category).sum + 82 ≤ R.locals) (hRc : cells + 1 ≤ R.cells) (hRs : slots + 6 ≤ R.slots) (hc : cells + 1 ≤ mc) (hs : slots + 6 ≤ ms) :
    W p l e R s m args below meth c H locs cells slots (vx_MQ below Qc (xXC G tys w pX A) args s mc ms A) (F0 m pc ls rest) := by
  obtain ⟨sa, hsa⟩ := hthr.2.2 _ hstr
  refine vx_throwS (A := A) (own := NmX) (cls := E) (text := text) (names := eUps) (ik := ik) (is := is) (ic := ic) (sa := sa) hx hb hl hown hfit (by decide +kernel) (hB _ hk) (hB _ hi) hsa (th_hat h1 h2 hB hthr.2.1) h3 hthr.1.1 hthr.1.2 hS hsize d0 d3 d4 d6 d9 (fun x h => (ht x h).elim) hRf hRl hRc hRs hlocks (fun t a1 a2 a3 => ?_) hS.2.2 hc hs
  obtain ⟨b1, b2⟩ := x_exc hP hK hD hS a1 a2 a3
  exact ⟨(), trivial, ⟨hpX, b1⟩, b2⟩
theorem x_reti {post : Int32 → va_W → Prop} {XC : String → State → State → Prop} {v : Int32} (hx : p.tables.exec = Jvm.exec) (hb : c.code = cc) (hr : meth.sig.returnType = some .int) (hlocks : meth.locks = false) (hc : cells ≤ mc) (hs : slots ≤ ms) (hp : post v w) (hP : va_P G vwCl w H) (hK : va_K G vwCl tys s) (hD : va_D A w) (hS : va_S A s.heap H locs) (hdg : decode cc pc = .ok (.ireturn, 1)) :
    W p l e R s m args below meth c H locs cells slots (vx_MQ below (va_Qi post (xEnd G tys A) A) XC args s mc ms A) (F0 m pc ls [.int v]) :=
  vx_ret (W.widen hc hs (x_iret hx hb hr hlocks hp hP hK hD hS hdg))
end XTH
