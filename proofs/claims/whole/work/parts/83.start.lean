theorem x_midD {A : Nat → Prop} {a b r : va_W} (h : va_D A ((a ++ b) ++ r)) : va_D A ((b ++ a) ++ r) := by
  obtain ⟨h1, h2, h3⟩ := x_app_D h
  refine va_D.app (x_swD h1) h2 (fun i j p q hi hj e => ?_)
  have hm : p ∈ a ++ b := by
    have := List.mem_of_getElem? hi
    rw [List.mem_append] at this ⊢
    exact this.symm
  obtain ⟨i', hi'⟩ := List.getElem?_of_mem hm
  exact h3 i' j p q hi' hj e
theorem x_midP {G : va_G} {a b r : va_W} {H : Heap} (h : va_P G vwCl ((a ++ b) ++ r) H) : va_P G vwCl ((b ++ a) ++ r) H := va_P.app (x_swP (x_app_P h).1) (x_app_P h).2
-- what the start gives: the texts, the two statics, who is no one's child
theorem st_str {args : Array Value} {s : State} {k : Nat} {tx : String} (h1 : (Cond.stringRef NmX k tx).before args s = true) (h2 : (Cond.exactly (.string NmX k) "java/lang/String").before args s = true) : ∃ sa, vk_R NmX k tx sa s := by
  obtain ⟨a, c, cA, kA, q1, -⟩ := Cond.exactly_spec (args := args) (first := s) (o := none) (s := s) (idx := []) (t := .string NmX k) (cls := "java/lang/String") h2
  exact ⟨a, vk_R.of h1 q1⟩
set_option maxRecDepth 100000 in
theorem st_t38 : Cond.stringRef NmX 38 "no such role" ∈ lw_tbl := by decide +kernel
set_option maxRecDepth 100000 in
theorem st_x38 : Cond.exactly (.string NmX 38) "java/lang/String" ∈ flatC (Jvm.Cond.and given_1 narrow_1) := by decide +kernel
set_option maxRecDepth 100000 in
theorem st_t48 : Cond.stringRef NmX 48 "no room for more people" ∈ lw_tbl := by decide +kernel
set_option maxRecDepth 100000 in
theorem st_x48 : Cond.exactly (.string NmX 48) "java/lang/String" ∈ flatC (Jvm.Cond.and given_1 narrow_1) := by decide +kernel
set_option maxRecDepth 100000 in
theorem st_t51 : Cond.stringRef NmX 51 "no such kind of declaration" ∈ lw_tbl := by decide +kernel
set_option maxRecDepth 100000 in
theorem st_x51 : Cond.exactly (.string NmX 51) "java/lang/String" ∈ flatC (Jvm.Cond.and given_1 narrow_1) := by decide +kernel
set_option maxRecDepth 100000 in
theorem st_t57 : Cond.stringRef NmX 57 "no such trader" ∈ lw_tbl := by decide +kernel
set_option maxRecDepth 100000 in
theorem st_x57 : Cond.exactly (.string NmX 57) "java/lang/String" ∈ flatC (Jvm.Cond.and given_1 narrow_1) := by decide +kernel
set_option maxRecDepth 100000 in
theorem st_t62 : Cond.stringRef NmX 62 "no room for more declarations" ∈ lw_tbl := by decide +kernel
set_option maxRecDepth 100000 in
theorem st_x62 : Cond.exactly (.string NmX 62) "java/lang/String" ∈ flatC (Jvm.Cond.and given_1 narrow_1) := by decide +kernel
set_option maxRecDepth 100000 in
theorem st_t75 : Cond.stringRef NmX 75 "no such declaration, kind of event or person" ∈ lw_tbl := by decide +kernel
set_option maxRecDepth 100000 in
theorem st_x75 : Cond.exactly (.string NmX 75) "java/lang/String" ∈ flatC (Jvm.Cond.and given_1 narrow_1) := by decide +kernel
set_option maxRecDepth 100000 in
theorem st_t81 : Cond.stringRef NmX 81 "the time is not behind now, or too late" ∈ lw_tbl := by decide +kernel
set_option maxRecDepth 100000 in
theorem st_x81 : Cond.exactly (.string NmX 81) "java/lang/String" ∈ flatC (Jvm.Cond.and given_1 narrow_1) := by decide +kernel
set_option maxRecDepth 100000 in
theorem st_t89 : Cond.stringRef NmX 89 "no room for more events" ∈ lw_tbl := by decide +kernel
set_option maxRecDepth 100000 in
theorem st_x89 : Cond.exactly (.string NmX 89) "java/lang/String" ∈ flatC (Jvm.Cond.and given_1 narrow_1) := by decide +kernel
set_option maxRecDepth 100000 in
theorem st_t98 : Cond.stringRef NmX 98 "the time is ahead of now, or too late" ∈ lw_tbl := by decide +kernel
set_option maxRecDepth 100000 in
theorem st_x98 : Cond.exactly (.string NmX 98) "java/lang/String" ∈ flatC (Jvm.Cond.and given_1 narrow_1) := by decide +kernel
set_option maxRecDepth 100000 in
theorem st_t119 : Cond.stringRef NmX 119 "no such declaration or kind of bar" ∈ lw_tbl := by decide +kernel
set_option maxRecDepth 100000 in
theorem st_x119 : Cond.exactly (.string NmX 119) "java/lang/String" ∈ flatC (Jvm.Cond.and given_1 narrow_1) := by decide +kernel
set_option maxRecDepth 100000 in
theorem st_t140 : Cond.stringRef NmX 140 "no such declaration, person or reason" ∈ lw_tbl := by decide +kernel
set_option maxRecDepth 100000 in
theorem st_x140 : Cond.exactly (.string NmX 140) "java/lang/String" ∈ flatC (Jvm.Cond.and given_1 narrow_1) := by decide +kernel
set_option maxRecDepth 100000 in
theorem st_t148 : Cond.stringRef NmX 148 "no such declaration" ∈ lw_tbl := by decide +kernel
set_option maxRecDepth 100000 in
theorem st_x148 : Cond.exactly (.string NmX 148) "java/lang/String" ∈ flatC (Jvm.Cond.and given_1 narrow_1) := by decide +kernel
set_option maxRecDepth 100000 in
theorem st_t175 : Cond.stringRef NmX 175 "no such what" ∈ lw_tbl := by decide +kernel
set_option maxRecDepth 100000 in
theorem st_x175 : Cond.exactly (.string NmX 175) "java/lang/String" ∈ flatC (Jvm.Cond.and given_1 narrow_1) := by decide +kernel
set_option maxRecDepth 100000 in
theorem st_t188 : Cond.stringRef NmX 188 "no such event" ∈ lw_tbl := by decide +kernel
set_option maxRecDepth 100000 in
theorem st_x188 : Cond.exactly (.string NmX 188) "java/lang/String" ∈ flatC (Jvm.Cond.and given_1 narrow_1) := by decide +kernel
set_option maxRecDepth 100000 in
theorem st_l1 : Cond.laysStatic Bundle.tN "UNASSIGNED_STACK" Bundle.steD ∈ lw_tbl := by decide +kernel
set_option maxRecDepth 100000 in
theorem st_l2 : Cond.laysStatic Bundle.tN "SUPPRESSED_SENTINEL" Bundle.listD ∈ lw_tbl := by decide +kernel
set_option maxRecDepth 100000 in
theorem st_i1 : Cond.initialized Bundle.tN ∈ lw_tbl := by decide +kernel
set_option maxRecDepth 100000 in
theorem st_r1 : Cond.isRef (.static Bundle.tN "UNASSIGNED_STACK" Bundle.steD) ∈ flatC (Jvm.Cond.and given_1 narrow_1) := by decide +kernel
set_option maxRecDepth 100000 in
theorem st_r2 : Cond.isRef (.static Bundle.tN "SUPPRESSED_SENTINEL" Bundle.listD) ∈ flatC (Jvm.Cond.and given_1 narrow_1) := by decide +kernel
set_option maxRecDepth 100000 in
theorem st_nc : Cond.not (.castable eISE eIAE) ∈ flatC (Jvm.Cond.and given_1 narrow_1) := by decide +kernel
set_option maxRecDepth 100000 in
theorem st_bad : ∀ w ∈ xBad, w ∈ lw_tbl := by decide +kernel
set_option maxRecDepth 100000 in
theorem st_oD : Cond.arrayOver (.object NmD) ∈ lw_tbl := by decide +kernel
set_option maxRecDepth 100000 in
theorem st_oE : Cond.arrayOver (.object NmE) ∈ lw_tbl := by decide +kernel
theorem st_thr {args : Array Value} {s : State} (hts : ∀ w ∈ lw_tbl, w.before args s = true) (hgv : (Jvm.Cond.and given_1 narrow_1).before args s = true) : xThr (fun q : Nat => s.heap.size ≤ q) s s.heap := by
  have hs := flat_of_before _ hgv
  have hA : ∀ a : Nat, a < s.heap.size → ¬ (fun q : Nat => s.heap.size ≤ q) a := fun a h => Nat.not_le.mpr h
  refine ⟨⟨vx_Zqof (hts _ st_l1) (hts _ st_i1) (hs _ st_r1) hA, vx_Zqof (hts _ st_l2) (hts _ st_i1) (hs _ st_r2) hA⟩, fun w hw => ?_, fun q hq => ?_⟩
  · have h1 := hts w (st_bad w hw)
    simp only [xBad, List.mem_cons, List.not_mem_nil, or_false] at hw
    rcases hw with rfl | rfl | rfl | rfl | rfl | rfl <;> exact va_Nw.of rfl h1
  · simp only [xStrs, List.mem_cons, List.not_mem_nil, or_false] at hq
    rcases hq with rfl | rfl | rfl | rfl | rfl | rfl | rfl | rfl | rfl | rfl | rfl | rfl | rfl | rfl
    · exact st_str (hts _ st_t38) (hs _ st_x38)
    · exact st_str (hts _ st_t48) (hs _ st_x48)
    · exact st_str (hts _ st_t51) (hs _ st_x51)
    · exact st_str (hts _ st_t57) (hs _ st_x57)
    · exact st_str (hts _ st_t62) (hs _ st_x62)
    · exact st_str (hts _ st_t75) (hs _ st_x75)
    · exact st_str (hts _ st_t81) (hs _ st_x81)
    · exact st_str (hts _ st_t89) (hs _ st_x89)
    · exact st_str (hts _ st_t98) (hs _ st_x98)
    · exact st_str (hts _ st_t119) (hs _ st_x119)
    · exact st_str (hts _ st_t140) (hs _ st_x140)
    · exact st_str (hts _ st_t148) (hs _ st_x148)
    · exact st_str (hts _ st_t175) (hs _ st_x175)
    · exact st_str (hts _ st_t188) (hs _ st_x188)
set_option maxHeartbeats 4000000 in
set_option maxRecDepth 100000 in
/-- THE LAW, from its entry -/
theorem whole_start {p : Program} {e : Env} {s : State} {m : MethodId} {below : List Frame} {meth : Method} {c : Code} (l : Launch) (hl9 : l.stackTraces = false) {b L : Nat} {xs : Nat → Int32} (hL : L ≤ 2560) (C0 : lw_At p s m meth c b L xs) : W p l e room_1 s m #[Value.ref b] below meth c s.heap [] 0 0 (lw_Z below #[Value.ref b] s) (entryFrame m ([Value.ref b] : List Value).toArray 7) := by
  obtain ⟨hx, hb, hr, hml, hown, hts, hX, hbl, hlocks, hgv⟩ := id C0
  have hA : ∀ q : Nat, s.heap.size ≤ q → (fun q : Nat => s.heap.size ≤ q) q := fun _ h => h
  have hbA : ¬ (fun q : Nat => s.heap.size ≤ q) b := Nat.not_le.mpr hbl
  have hB : ∀ w ∈ BIG, w.before #[Value.ref b] s = true := fun w hw => hts w (List.mem_filter.mp hw).1
  have hown : s.vm.findClass NmL = some m.cls := hown
  have hthr := st_thr hts hgv
  have hN : va_Nc eISE eIAE s := va_Nc.of (flat_of_before _ hgv _ st_nc)
  obtain ⟨c0, iS0, hKn0⟩ := u_known (C := NmX) (T := TmX) (N := 12) (n := 12) hB inBX (hB _ inst_X)
  obtain ⟨c1, iS1, hKn1⟩ := u_known (C := NmD) (T := TmD) (N := 12) (n := 12) hB inBD (hB _ inst_D)
  obtain ⟨c2, iS2, hKn2⟩ := u_known (C := NmE) (T := TmE) (N := 6) (n := 6) hB inBE (hB _ inst_E)
  obtain ⟨c3, iS3, hKn3⟩ := u_known (C := NmM) (T := TmM) (N := 25) (n := 25) hB inBM (hB _ inst_M)
  obtain ⟨dC, dI, hKc⟩ : ∃ (dC : Nat → ClassId) (dI : Nat → Nat → Nat), ∀ (k : Nat) (q : vw_C), vwCl[k]? = some q → u_Kn s q.1 q.2.1 q.2.2 (dC k) (dI k) := by
    refine ⟨fun k => if k = 0 then c0 else if k = 1 then c1 else if k = 2 then c2 else c3, fun k => if k = 0 then iS0 else if k = 1 then iS1 else if k = 2 then iS2 else iS3, ?_⟩
    intro k q hq
    match k, hq with
    | 0, hq => cases hq; exact hKn0
    | 1, hq => cases hq; exact hKn1
    | 2, hq => cases hq; exact hKn2
    | 3, hq => cases hq; exact hKn3
    | k + 4, hq => simp [vwCl] at hq
  have hS : va_S (fun q : Nat => s.heap.size ≤ q) s.heap s.heap [] := va_S.rf
  have hK : va_K (dC, dI) vwCl [] s := ⟨hKc, fun k q h => by simp at h⟩
  have hP : va_P (dC, dI) vwCl [] s.heap := fun k q h => by simp at h
  have hD : va_D (fun q : Nat => s.heap.size ≤ q) [] := ⟨fun i j p q h => by simp at h, fun k q h => by simp at h⟩
  have hl := lv_entry ([.ref b]) (n := 7) (Nat.le_of_ble_eq_true rfl)
  rw [lg_entry_eq]
  generalize (lg_sl ([.ref b]) ++ List.replicate (7 - (lg_sl ([.ref b])).length) Slot.unset).toArray = ls at hl ⊢
  have hl : lv_has ls 7 [(0, .ref b)] := hl
  -- new DeclareStates()
  refine va_new (ci := ciX) (fs := xB) (C := NmX) (T := TmX) (N := 12) hx hb hB inBX tyX tyX_ok hown (hB _ cl_L_8) (hB _ inst_X) (hB _ ini_X) hK hP hD hS hA rfl (fun j hj => by rcases (show j = 0 ∨ j = 1 ∨ j = 2 ∨ j = 3 ∨ j = 4 ∨ j = 5 ∨ j = 6 ∨ j = 7 ∨ j = 8 ∨ j = 9 ∨ j = 10 ∨ j = 11 by omega) with rfl | rfl | rfl | rfl | rfl | rfl | rfl | rfl | rfl | rfl | rfl | rfl <;> rfl) (Nat.le_of_ble_eq_true rfl) (Nat.le_of_ble_eq_true rfl) dL_law_0 (fun aX H hP hD hS => ?_)
  have hP : va_P (dC, dI) vwCl ([(aX, .inr (ciX, xB))] ++ ([] : va_W)) H := hP
  have hD : va_D (fun q : Nat => s.heap.size ≤ q) ([(aX, .inr (ciX, xB))] ++ ([] : va_W)) := hD
  refine lv_dup hx hb dL_law_3 rfl ?_
  have hF := x_free (x_app_D hD).1 hS hA
  refine va_callv (va_runI (As := []) (rest := [.ref aX]) ⟨hx, hb, hml, hown, hB⟩ (c_X_init (G := (dC, dI)) (aX := aX) (sz := H.size)) (cwI 0 hB (gI kc_X_init) rfl rfl rfl (hB _ ini_X) (hB _ ml_L_47) (hB _ im_X_init) rfl (by decide +kernel) ⟨Nat.le_of_ble_eq_true rfl, Nat.le_of_ble_eq_true rfl⟩) ⟨fun a U g mk q => by
    obtain ⟨q0, ⟨q1, qP, qK, qD⟩, qa, qb⟩ := q
    exact ⟨q0, ⟨q1, qP, va_K.moved (u := U) (U := U.calling g mk a) (Vm.Alike.refl U.vm) qK, qD⟩, va_AO.moved (u := U) (U := U.calling g mk a) (Vm.Alike.refl U.vm) qa, va_AO.moved (u := U) (U := U.calling g mk a) (Vm.Alike.refl U.vm) qb⟩, fun U hU hW => ⟨rfl, ⟨by rw [hU], by rw [hU]; exact (x_app_P hP).1, va_K.moved hW.alike hK, (x_app_D hD).1.weaken (fun _ _ _ _ => trivial)⟩, va_AO.moved hW.alike (va_AO.of (hts _ st_oD)), va_AO.moved hW.alike (va_AO.of (hts _ st_oE))⟩⟩ rfl rfl hl.1 rfl (lv_room (Nat.le_of_ble_eq_true rfl)) dL_law_4 ⟨Nat.le_of_ble_eq_true rfl, Nat.le_of_ble_eq_true rfl⟩) hS (fun q _ h => hF q h) hF (fun u t H1 locs ht hvm hw hB1 hz hk hS => ?_)
  obtain ⟨hP, hD⟩ := x_join hP hD hF hk (by rw [← ht]; exact hB1.1) hB1.2.2
  have hKX := va_K.moved hvm.symm hB1.2.1
  obtain ⟨wX, ty⟩ := u
  obtain ⟨aR, aD, aE, cI, cD, cE, e1, hR⟩ := hw
  have e1 : ty = xTys cI cD cE := e1
  subst e1
  have hR : RX cI cD cE aX aR aD aE (fun _ => 0) (fun _ => 0) gNew (fun _ => 0) none 0 0 (fun _ _ => 0) (fun _ => none) (fun _ => none) (fun _ => 0) (fun _ _ => 0) (fun _ => none) wX := hR
  have hKX : va_K (dC, dI) vwCl (xTys cI cD cE) s := hKX
  have hP : va_P (dC, dI) vwCl wX H1 := (x_app_P hP).1
  have hD : va_D (fun q : Nat => s.heap.size ≤ q) wX := (x_app_D hD).1
  refine lv_astore_n (lv' := [(1, .ref aX), (0, .ref b)]) hx hb dL_law_7 rfl hl (by decide) rfl (fun ls hl => ?_)
  -- new DeclareStatesModel()
  refine va_new (ci := ciM) (fs := mB) (C := NmM) (T := TmM) (N := 25) hx hb hB inBM tyM tyM_ok hown (hB _ cl_L_48) (hB _ inst_M) (hB _ ini_M) hK hP hD hS hA rfl (fun j hj => by rcases (show j = 0 ∨ j = 1 ∨ j = 2 ∨ j = 3 ∨ j = 4 ∨ j = 5 ∨ j = 6 ∨ j = 7 ∨ j = 8 ∨ j = 9 ∨ j = 10 ∨ j = 11 ∨ j = 12 ∨ j = 13 ∨ j = 14 ∨ j = 15 ∨ j = 16 ∨ j = 17 ∨ j = 18 ∨ j = 19 ∨ j = 20 ∨ j = 21 ∨ j = 22 ∨ j = 23 ∨ j = 24 by omega) with rfl | rfl | rfl | rfl | rfl | rfl | rfl | rfl | rfl | rfl | rfl | rfl | rfl | rfl | rfl | rfl | rfl | rfl | rfl | rfl | rfl | rfl | rfl | rfl | rfl <;> rfl) (Nat.le_of_ble_eq_true rfl) (Nat.le_of_ble_eq_true rfl) dL_law_8 (fun aM H hP hD hS => ?_)
  have hP := x_swP hP
  have hD := x_swD hD
  refine lv_dup hx hb dL_law_11 rfl ?_
  have hF := x_free (x_app_D hD).1 hS hA
  refine va_callv (va_runI (As := []) (rest := [.ref aM]) ⟨hx, hb, hml, hown, hB⟩ (c_M_init (G := (dC, dI)) (aM := aM) (sz := H.size)) (cwI 0 hB (gI kc_M_init) rfl rfl rfl (hB _ ini_M) (hB _ ml_L_50) (hB _ im_M_init) rfl (by decide +kernel) ⟨Nat.le_of_ble_eq_true rfl, Nat.le_of_ble_eq_true rfl⟩) (x_preS (x_app_P hP).1 hK (x_app_D hD).1) rfl rfl hl.1 rfl (lv_room (Nat.le_of_ble_eq_true rfl)) dL_law_12 ⟨Nat.le_of_ble_eq_true rfl, Nat.le_of_ble_eq_true rfl⟩) hS (fun q _ h => hF q h) hF (fun u t H1 locs ht hvm hw hB1 hz hk hS => ?_)
  obtain ⟨hP, hD⟩ := x_join hP hD hF hk (by rw [← ht]; exact hB1.1) hB1.2.2
  have hKM := va_K.moved hvm.symm hB1.2.1
  obtain ⟨wM, ty⟩ := u
  obtain ⟨ca, am, e1, hM⟩ := hw
  have e1 : ty = mTys ca := e1
  subst e1
  have hM : RM ca aM am hNew (fun _ _ => 0) wM := hM
  have hKM : va_K (dC, dI) vwCl (mTys ca) s := hKM
  have hP : va_P (dC, dI) vwCl (wX ++ wM) H1 := x_swP hP
  have hD : va_D (fun q : Nat => s.heap.size ≤ q) (wX ++ wM) := x_swD hD
  refine lv_astore_n (lv' := [(2, .ref aM), (1, .ref aX), (0, .ref b)]) hx hb dL_law_15 rfl hl (by decide) rfl (fun ls hl => ?_)
  -- new long[1]
  refine lv_iconst (v := 1) hx hb dL_law_16 (by decide) ?_
  refine va_newa (atype := .long) (N' := 1) (a0 := (1, .inr (.inl (fun _ => 0)))) hx hb (hB _ ac_long) rfl hKX hP hD hS hA (fun cA => rfl) (by decide) rfl (by decide) (Nat.le_of_ble_eq_true rfl) (Nat.le_of_ble_eq_true rfl) dL_law_17 (fun aO cO H hKL hP hD hS => ?_)
  have hP : va_P (dC, dI) vwCl ((wX ++ [(aO, oL cO (fun _ => 0))]) ++ wM) H := by
    have := x_swP hP
    rw [← List.append_assoc] at this
    exact x_midP this
  have hD : va_D (fun q : Nat => s.heap.size ≤ q) ((wX ++ [(aO, oL cO (fun _ => 0))]) ++ wM) := by
    have := x_swD hD
    rw [← List.append_assoc] at this
    exact x_midD this
  refine lv_astore_n (lv' := [(3, .ref aO), (2, .ref aM), (1, .ref aX), (0, .ref b)]) hx hb dL_law_19 rfl hl (by decide) rfl (fun ls hl => ?_)
  refine lv_iconst (v := 0) hx hb dL_law_20 (by decide) ?_
  refine lv_istore (lv' := [(4, .int 0), (3, .ref aO), (2, .ref aM), (1, .ref aX), (0, .ref b)]) hx hb dL_law_21 hl (by decide) rfl (fun ls hl => ?_)
  refine W.widen (k := 100) (n := 2000) (Nat.le_of_ble_eq_true rfl) (Nat.le_of_ble_eq_true rfl) ?_
  have hKL : va_K (dC, dI) vwCl (lTys cI cD cE cO) s := hKL
  exact L_loop (aX := aX) (aM := aM) (aO := aO) (am := am) (cO := cO) hL ⟨hx, hb, hml, hown, hB, hX, hbl, hthr, hN, hKL, hKM, hl9⟩ hr hlocks (L + 1) 0 100 2000 wX wM (fun _ => 0) H _ ls (Nat.zero_le L) (by omega) (by omega) (by omega) ⟨_, _, _, _, _, _, _, _, _, _, _, _, _, _, _, _, _, _, _, _, _, hR, hM, P_new⟩ ⟨hP, hD, hS⟩ (lv_sub hl [4, 3, 2, 1, 0] rfl)
