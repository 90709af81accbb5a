-- THE LAW'S BODY: its world is the class's cells, the array out, the reference's cells
theorem x_swP {G : va_G} {w r : va_W} {H : Heap} (h : va_P G vwCl (w ++ r) H) : va_P G vwCl (r ++ w) H := va_P.app (x_app_P h).2 (x_app_P h).1
theorem x_swD {A : Nat → Prop} {w r : va_W} (h : va_D A (w ++ r)) : va_D A (r ++ w) :=
  va_D.app (x_app_D h).2.1 (x_app_D h).1 (fun i j p q h1 h2 e => (x_app_D h).2.2 j i q p h2 h1 e.symm)
section XLL
variable {p : Program} {l : Launch} {e : Env} {R : Room} {s : State} {m : MethodId} {args : Array Value} {below : List Frame} {meth : Method} {c : Code} {H : Heap} {locs : List Loc} {cells slots : Nat} {Q : State → Prop}
variable {cc : ByteArray} {pc : Nat} {ls : Array Slot} {rest st0 : List Value} {A : Nat → Prop} {H0 : Heap} {G : va_G} {tys : List (ClassId × FieldType)} {w r : va_W} {mc ms : Nat} {a : Array Value}
/-- a call over the first part of the world -/
theorem x_callP {post : Int32 → va_W → Prop} (hr : va_Run p l e R s m args below meth c H locs cells slots mc ms (F0 m pc ls st0) rest (va_Qi post (xEnd G tys (va_A w H.size)) (va_A w H.size) a) (va_A w H.size)) (hP : va_P G vwCl (w ++ r) H) (hD : va_D A (w ++ r)) (hS : va_S A H0 H locs) (hA : ∀ q, H0.size ≤ q → A q)
    (kk : ∀ (v : Int32) (w' : va_W) (H1 : Heap) (locs1 : List Loc), post v w' → va_P G vwCl (w' ++ r) H1 → va_D A (w' ++ r) → va_S A H0 H1 locs1 → W p l e R s m args below meth c H1 locs1 (cells + mc) (slots + ms) Q (F0 m (pc + 3) ls (.int v :: rest))) : W p l e R s m args below meth c H locs cells slots Q (F0 m pc ls st0) := by
  have hF := x_free (x_app_D hD).1 hS hA
  refine va_calli hr hS (fun q _ h => hF q h) hF (fun v u t H1 locs ht hvm hw hB hz hk hS => ?_)
  obtain ⟨h1, h2⟩ := x_join hP hD hF hk (by rw [← ht]; exact hB.1) hB.2.2
  exact kk v u H1 locs hw h1 h2 hS
/-- a call over the last part -/
theorem x_callR {post : Int32 → va_W → Prop} (hr : va_Run p l e R s m args below meth c H locs cells slots mc ms (F0 m pc ls st0) rest (va_Qi post (xEnd G tys (va_A w H.size)) (va_A w H.size) a) (va_A w H.size)) (hP : va_P G vwCl (r ++ w) H) (hD : va_D A (r ++ w)) (hS : va_S A H0 H locs) (hA : ∀ q, H0.size ≤ q → A q)
    (kk : ∀ (v : Int32) (w' : va_W) (H1 : Heap) (locs1 : List Loc), post v w' → va_P G vwCl (r ++ w') H1 → va_D A (r ++ w') → va_S A H0 H1 locs1 → W p l e R s m args below meth c H1 locs1 (cells + mc) (slots + ms) Q (F0 m (pc + 3) ls (.int v :: rest))) : W p l e R s m args below meth c H locs cells slots Q (F0 m pc ls st0) :=
  x_callP hr (x_swP hP) (x_swD hD) hS hA (fun v w' H1 locs1 h1 h2 h3 h4 => kk v w' H1 locs1 h1 (x_swP h2) (x_swD h3) h4)
/-- a call of one of the law's small methods -/
theorem x_callL {post : Int32 → va_W × (Nat → Int64) → Prop} {aO : Nat} {cO : ClassId} (hr : va_Run p l e R s m args below meth c H locs cells slots mc ms (F0 m pc ls st0) rest (va_Qi post (fun u t => xEnd G tys (va_A w H.size) (u.1 ++ [(aO, oL cO u.2)]) t) (va_A w H.size) a) (va_A w H.size)) (hP : va_P G vwCl (w ++ r) H) (hD : va_D A (w ++ r)) (hS : va_S A H0 H locs) (hA : ∀ q, H0.size ≤ q → A q)
    (kk : ∀ (v : Int32) (w' : va_W) (fo : Nat → Int64) (H1 : Heap) (locs1 : List Loc), post v (w', fo) → va_P G vwCl ((w' ++ [(aO, oL cO fo)]) ++ r) H1 → va_D A ((w' ++ [(aO, oL cO fo)]) ++ r) → va_S A H0 H1 locs1 → W p l e R s m args below meth c H1 locs1 (cells + mc) (slots + ms) Q (F0 m (pc + 3) ls (.int v :: rest))) : W p l e R s m args below meth c H locs cells slots Q (F0 m pc ls st0) := by
  have hF := x_free (x_app_D hD).1 hS hA
  refine va_calli hr hS (fun q _ h => hF q h) hF (fun v u t H1 locs ht hvm hw hB hz hk hS => ?_)
  obtain ⟨h1, h2⟩ := x_join hP hD hF hk (by rw [← ht]; exact hB.1) hB.2.2
  exact kk v u.1 u.2 H1 locs hw h1 h2 hS
theorem x_blindL {av : List Value} {sz : Nat} : FrameBlind (va_Pc av (fun U => xPreX G tys w sz U ∧ va_Nc eISE eIAE U)) := fun a U g mk q => by
  obtain ⟨q0, ⟨⟨q1, qP, qK, qD⟩, qT⟩, qN⟩ := q
  exact ⟨q0, ⟨⟨q1, qP, va_K.moved (u := U) (U := U.calling g mk a) (Vm.Alike.refl U.vm) qK, qD⟩, (show xThr (va_A w sz) (U.calling g mk a) U.heap from xThr.same (u := U) rfl qT)⟩, va_Nc.moved (u := U) (U := U.calling g mk a) (Vm.Alike.refl U.vm) qN⟩
theorem x_preL {As : List Value} (hP : va_P G vwCl w H) (hK : va_K G vwCl tys s) (hD : va_D A w) (hS : va_S A s.heap H locs) (hA : ∀ q, s.heap.size ≤ q → A q) (hthr : xThr A s s.heap) (hN : va_Nc eISE eIAE s) : PreS s H (va_Pc As (fun U => xPreX G tys w H.size U ∧ va_Nc eISE eIAE U)) As :=
  ⟨x_blindL, fun U hU hW => ⟨rfl, ⟨⟨by rw [hU], by rw [hU]; exact hP, va_K.moved hW.alike hK, hD.weaken (fun _ _ _ _ => trivial)⟩, by
    rw [hU]; exact ((hthr.kept hS.2.1).narrow (x_free hD hS hA)).warm hW⟩, va_Nc.moved hW.alike hN⟩⟩
end XLL
/-- what holds all along the law -/
def LC (p : Program) (l : Launch) (s : State) (m : MethodId) (c : Code) (b L : Nat) (xs : Nat → Int32) (G : va_G) (cI cD cE cO : ClassId) (ca : Nat → ClassId) : Prop :=
  p.tables.exec = Jvm.exec ∧ c.code = code ∧ c.maxLocals = 7 ∧ s.vm.findClass NmL = some m.cls ∧ (∀ w ∈ BIG, w.before #[Value.ref b] s = true) ∧ va_X b L xs s s.heap ∧ b < s.heap.size ∧ xThr (fun q : Nat => s.heap.size ≤ q) s s.heap ∧ va_Nc eISE eIAE s ∧ va_K G vwCl (lTys cI cD cE cO) s ∧ va_K G vwCl (mTys ca) s ∧ l.stackTraces = false
/-- the law's world -/
def LWO (G : va_G) (s : State) (cO : ClassId) (aO : Nat) (wX wM : va_W) (fo : Nat → Int64) (H : Heap) (locs : List Loc) : Prop :=
  va_P G vwCl ((wX ++ [(aO, oL cO fo)]) ++ wM) H ∧ va_D (fun q : Nat => s.heap.size ≤ q) ((wX ++ [(aO, oL cO fo)]) ++ wM) ∧ va_S (fun q : Nat => s.heap.size ≤ q) s.heap H locs
/-- class and reference are tied -/
def LST (cI cD cE : ClassId) (ca : Nat → ClassId) (aX aM : Nat) (am : Nat → Nat) (wX wM : va_W) : Prop :=
  ∃ (aR aD aE : Nat) (dA eA : Nat → Nat) (g ro : Nat → Int32) (fst : Option Nat) (nD nE : Nat) (d : Nat → Nat → Int32) (fw lw : Nat → Option Nat) (ed : Nat → Nat) (ev : Nat → Nat → Int32) (nx : Nat → Option Nat) (h : Nat → Int32) (ar : Nat → Nat → Int32) (nP : Nat) (wl : List Nat) (wr : Nat → List Nat),
    RX cI cD cE aX aR aD aE dA eA g ro fst nD nE d fw lw ed ev nx wX ∧ RM ca aM am h ar wM ∧ INV g ro fst nD nE d fw lw ed ev nx h ar nP wl wr
theorem lg_cmp_self (x : Int64) : lg_cmp x x = 0 := by simp [lg_cmp, Int64.lt_irrefl]
section LAWT
variable {p : Program} {l : Launch} {e : Env} {s : State} {m : MethodId} {below : List Frame} {meth : Method} {c : Code} {H : Heap} {locs : List Loc} {cells slots : Nat} {Q : State → Prop}
variable {b L : Nat} {xs : Nat → Int32} {G : va_G} {cI cD cE cO : ClassId} {ca : Nat → ClassId} {aX aM aO : Nat} {am : Nat → Nat} {wX wM : va_W} {fo : Nat → Int64} {ls : Array Slot} {i4 : Int32}
/-- behind the two calls: thrown, answers; they are alike -/
theorem L_tail (C : LC p l s m c b L xs G cI cD cE cO ca) {h : Nat → Int32} {ar : Nat → Nat → Int32} {k bb : Int32} (hR : RM ca aM am h ar wM) (hk : h 0 = k) (ho : k = 0 → fo 0 = bb.toInt64) (pc : Nat)
    (d0 : decode code pc = .ok (.istore 6, 2)) (d2 : decode code (pc + 2) = .ok (.aload_n 2, 1)) (d3 : decode code (pc + 2 + 1) = .ok (.invokevirtual 57, 3)) (d6 : decode code (pc + 2 + 1 + 3) = .ok (.iload 5, 2)) (d8 : decode code (pc + 2 + 1 + 3 + 2) = .ok (.if_icmp .eq 5, 3)) (d13 : decode code (pc + 13) = .ok (.iload 5, 2)) (d15 : decode code (pc + 13 + 2) = .ok (.ifCond .ne 15, 3)) (d18 : decode code (pc + 13 + 2 + 3) = .ok (.aload_n 3, 1)) (d19 : decode code (pc + 13 + 2 + 3 + 1) = .ok (.iconst 0, 1)) (d20 : decode code (pc + 13 + 2 + 3 + 1 + 1) = .ok (.laload, 1)) (d21 : decode code (pc + 13 + 2 + 3 + 1 + 1 + 1) = .ok (.iload 6, 2)) (d23 : decode code (pc + 13 + 2 + 3 + 1 + 1 + 1 + 2) = .ok (.i2l, 1)) (d24 : decode code (pc + 13 + 2 + 3 + 1 + 1 + 1 + 2 + 1) = .ok (.lcmp, 1)) (d25 : decode code (pc + 13 + 2 + 3 + 1 + 1 + 1 + 2 + 1 + 1) = .ok (.ifCond .eq 5, 3)) {off : Int} (d30 : decode code (pc + 30) = .ok (.goto off, 3)) (hoff : ((pc + 30 : Nat) : Int) + off = ((867 : Nat) : Int))
    (hW : LWO G s cO aO wX wM fo H locs) (hl : lv_has ls 7 [(5, .int k), (0, .ref b), (1, .ref aX), (2, .ref aM), (3, .ref aO), (4, .int i4)]) (hcells : cells ≤ 601024) (hslots : slots ≤ 7293034)
    (kk : ∀ (ls : Array Slot) (H : Heap) (locs : List Loc), LWO G s cO aO wX wM fo H locs → lv_has ls 7 [(0, .ref b), (1, .ref aX), (2, .ref aM), (3, .ref aO), (4, .int i4)] → W p l e room_1 s m #[Value.ref b] below meth c H locs cells slots Q (F0 m 867 ls [])) : W p l e room_1 s m #[Value.ref b] below meth c H locs cells slots Q (F0 m pc ls [.int bb]) := by
  obtain ⟨hx, hb, hml, hown, hB, hX, hbl, hthr, hN, hKL, hKM, hl9⟩ := C
  obtain ⟨hP, hD, hS⟩ := hW
  have hA : ∀ q : Nat, s.heap.size ≤ q → (fun q : Nat => s.heap.size ≤ q) q := fun _ h => h
  refine lv_istore (lv' := [(6, .int bb), (5, .int k), (0, .ref b), (1, .ref aX), (2, .ref aM), (3, .ref aO), (4, .int i4)]) hx hb d0 hl (by decide) rfl (fun ls hl => ?_)
  refine lv_aload_n hx hb d2 rfl (lv_at hl 4 rfl) ?_
  refine x_callR (r := wX ++ [(aO, oL cO fo)]) (w := wM) (va_runV (As := []) (rest := []) ⟨hx, hb, hml, hown, hB⟩ (c_M_thrown hR) (cwV 0 hB (gV ml_L_57 im_M_thrown sl_M_thrown ini_M kc_M_thrown) rfl rfl rfl (by decide +kernel) ⟨Nat.le_of_ble_eq_true rfl, Nat.le_of_ble_eq_true rfl⟩) (x_preV (x_app_P hP).2 hKM (x_app_D hD).2.1 hR.1 rfl) rfl rfl hl.1 rfl (lv_room (Nat.le_of_ble_eq_true rfl)) d3 ⟨by show cells + 0 ≤ 601024; omega, by show slots + 0 ≤ 7293034; omega⟩) hP hD hS hA (fun r1 w1 H locs hw hP hD hS => ?_)
  obtain ⟨e1, rfl⟩ := hw
  refine lv_iload hx hb d6 (lv_at hl 1 rfl) ?_
  refine lv_icmp_eq (tgt := pc + 13) hx hb d8 (by omega) (fun _ => ?_) (fun c1 => absurd (e1.trans hk) c1)
  refine lv_iload hx hb d13 (lv_at hl 1 rfl) ?_
  refine lv_if_ne (tgt := pc + 30) hx hb d15 (by omega) (fun c2 => ?_) (fun c2 => ?_)
  · refine lv_goto (tgt := 867) hx hb d30 hoff ?_
    exact kk ls _ _ ⟨hP, hD, hS⟩ (lv_sub hl [2, 3, 4, 5, 6] rfl)
  · refine lv_aload_n hx hb d18 rfl (lv_at hl 5 rfl) ?_
    refine lv_iconst (v := 0) hx hb d19 (by decide) ?_
    have hg : ((wX ++ [(aO, oL cO fo)]) ++ wM)[wX.length]? = some (aO, oL cO fo) := by
      rw [List.getElem?_append_left (by simp)]; exact x_app_get
    refine va_lald hx hb hKL hP wX.length 3 hg rfl (i := 0) (vp_in_nI (n := 0) (N := 1) (by decide) (by decide)) d20 ?_
    refine lv_iload hx hb d21 (lv_at hl 0 rfl) ?_
    refine lv_i2l (v := bb.toInt64) hx hb d23 rfl ?_
    refine W.lcmp hx hb d24 ?_
    refine lv_if_eq (tgt := pc + 30) hx hb d25 (by omega) (fun _ => ?_) (fun c3 => absurd ?_ c3)
    · refine lv_goto (tgt := 867) hx hb d30 hoff ?_
      exact kk ls _ _ ⟨hP, hD, hS⟩ (lv_sub hl [2, 3, 4, 5, 6] rfl)
    · rw [show (0 : Int32).toNatClampNeg = 0 from rfl, ho c2]; exact lg_cmp_self _
/-- != 0, as a boolean -/
theorem L_bool (hx : p.tables.exec = Jvm.exec) (hb : c.code = code) (pc : Nat) {x : Int32} {rest : List Value} (d0 : decode code pc = .ok (.ifCond .eq 7, 3)) (d3 : decode code (pc + 3) = .ok (.iconst 1, 1)) (d4 : decode code (pc + 3 + 1) = .ok (.goto 4, 3)) (d7 : decode code (pc + 7) = .ok (.iconst 0, 1))
    (kk : W p l e room_1 s m #[Value.ref b] below meth c H locs cells slots Q (F0 m (pc + 8) ls (.int (if x = 0 then 0 else 1) :: rest))) : W p l e room_1 s m #[Value.ref b] below meth c H locs cells slots Q (F0 m pc ls (.int x :: rest)) := by
  refine lv_if_eq (tgt := pc + 7) hx hb d0 (by omega) (fun c1 => ?_) (fun c1 => ?_)
  · refine lv_iconst (v := 0) hx hb d7 (by decide) ?_
    rw [if_pos c1] at kk; exact kk
  · refine lv_iconst (v := 1) hx hb d3 (by decide) ?_
    refine lv_goto (tgt := pc + 8) hx hb d4 (by omega) ?_
    rw [if_neg c1] at kk; exact kk
end LAWT
