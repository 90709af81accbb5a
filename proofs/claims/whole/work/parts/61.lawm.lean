set_option maxHeartbeats 4000000 in
set_option maxRecDepth 100000 in
theorem c_L_person {l : Launch} {G : va_G} {cI cD cE cO : ClassId} {aX aO sz : Nat} {w : va_W} {fs9 : List Value} {fo : Nat → Int64} {post : Int32 → va_W → Prop} {pX : String → Prop} (v : Int32) (he : w[0]? = some (aX, .inr (ciX, fs9))) (hE : ∀ E, pX E → E = eIAE ∨ E = eISE) (hM : ∀ sz, xXi l yX_person wsX_person ({ frames := 6, cells := 1, slots := 6, locals := 90 }) [.ref aX, .int v] G (xTys cI cD cE) w sz post pX 1 6) :
    Met l yL_person wsL_person ({ frames := 7, cells := 1, slots := 6, locals := 112 }) (va_Pc [.ref aX, .int v, .ref aO] (fun U => xPreX G (lTys cI cD cE cO) (w ++ ([(aO, oL cO fo)] : va_W)) sz U ∧ va_Nc eISE eIAE U)) (va_Qi (lPost post pX w fo) (fun u t => xEnd G (lTys cI cD cE cO) (va_A (w ++ ([(aO, oL cO fo)] : va_W)) sz) (u.1 ++ [(aO, oL cO u.2)]) t) (va_A (w ++ ([(aO, oL cO fo)] : va_W)) sz)) 1 6 (va_A (w ++ ([(aO, oL cO fo)] : va_W)) sz) := by
  refine va_MetW (cc := cL_person) (maxL := 4) (ret := (some .int)) (hh := [(0, 9, 12, 13), (0, 9, 15, 15)]) (by decide) rfl ?_
  intro p e s m args below meth c s₁ B hml hv
  obtain ⟨rfl, ⟨⟨hsz, hP, hK, hD0⟩, hthr⟩, hnc⟩ := hv
  subst hsz
  have hx := B.exec
  have hb := B.bytes
  have hr := B.returns
  have hlocks := B.notSynchronized
  have hown : s.vm.findClass NmL = some m.cls := findClass_of_methodNamed B.named
  have hB : ∀ w ∈ BIG, w.before [.ref aX, .int v, .ref aO].toArray s = true := fun w h => atoms_spec (ws := wsL_person) B.pre w (List.mem_cons_of_mem _ h)
  have htab : c.exceptionTable.toList = tableOf [(0, 9, 12, 13), (0, 9, 15, 15)] := vx_table (x := yL_person) B (atoms_spec (ws := wsL_person) B.pre _ List.mem_cons_self)
  have hD := hD0.self (sz := s.heap.size)
  generalize hAe : va_A (w ++ ([(aO, oL cO fo)] : va_W)) s.heap.size = A at hD hthr ⊢
  have hA : ∀ q : Nat, s.heap.size ≤ q → A q := fun q h => by rw [← hAe]; exact Or.inr h
  have hS : va_S A s.heap s.heap [] := va_S.rf
  have hl := lv_entry [.ref aX, .int v, .ref aO] (n := 4) (Nat.le_of_ble_eq_true rfl)
  rw [lg_entry_eq]
  generalize (lg_sl [.ref aX, .int v, .ref aO] ++ List.replicate (4 - (lg_sl [.ref aX, .int v, .ref aO]).length) Slot.unset).toArray = ls at hl ⊢
  have hl : lv_has ls 4 [(0, .ref aX), (1, .int v), (2, .ref aO)] := hl
  refine lv_aload_n hx hb dL_person_0 rfl (lv_at hl 2 rfl) ?_
  refine lv_iconst (v := 0) hx hb dL_person_1 (by decide) ?_
  refine lv_aload_n hx hb dL_person_2 rfl (lv_at hl 0 rfl) ?_
  refine lv_iload_n hx hb dL_person_3 rfl (lv_at hl 1 rfl) ?_
  refine x_callXi (w := w) (r := [(aO, oL cO fo)]) (vx_runV (As := [.int v]) (rest := [.int 0, .ref aO]) ⟨hx, hb, hml, hown, hB⟩ (hM _) (cwV 1 hB (gV ml_L_7 im_X_person sl_X_person ini_X kc_X_person) rfl rfl rfl (by decide +kernel) ⟨Nat.le_of_ble_eq_true rfl, Nat.le_of_ble_eq_true rfl⟩) (x_preVX (x_app_P hP).1 (hK.sub (tys' := xTys cI cD cE) [0, 1, 2] rfl) (x_app_D hD).1 hS hA hthr he rfl) rfl rfl hl.1 rfl (lv_room (Nat.le_of_ble_eq_true rfl)) dL_person_4 ⟨Nat.le_of_ble_eq_true rfl, Nat.le_of_ble_eq_true rfl⟩) hP hD hS hA (fun E ce q9 H locs hpx hP hD hS hc1 hc2 hc3 => ?_) (fun v9 w1 H locs hw hP hD hS => ?_)
  · rcases hE E hpx with rfl | rfl
    · refine vx_catch (own := NmL) (name := eIAE) (E := eIAE) hown [] ⟨0, 9, 12, 13⟩ [⟨0, 9, 15, 15⟩] (by rw [htab]; rfl) (fun z hz => by cases hz) (by decide) (by decide) (hB _ cl_L_13) (va_Nw.use rfl (hthr.2.1 _ (List.mem_of_getElem? (i := 0) rfl))) hc1 hc2 hc3 ?_
      refine lv_astore_n (lv' := [(3, .ref q9), (0, .ref aX), (1, .int v), (2, .ref aO)]) hx hb dL_person_12 rfl hl (by decide) rfl (fun ls hl => ?_)
      refine lv_iconst (v := 1) hx hb dL_person_13 (by decide) ?_
      exact W.iret (v := 1) hx hb hr (fun t ht hW => ⟨⟨1, (w, fo), rfl, Or.inr (Or.inl ⟨rfl, Or.inl hpx, rfl⟩), by show va_P G vwCl _ t.heap; rw [ht]; exact hP, va_K.moved hW.alike hK, hD⟩, hS.F ht⟩) hS.2.2 dL_person_14
    · refine vx_catch (own := NmL) (name := eISE) (E := eISE) hown [⟨0, 9, 12, 13⟩] ⟨0, 9, 15, 15⟩ [] (by rw [htab]; rfl) (fun z hz => by rw [List.mem_singleton.mp hz]; exact Or.inr ⟨by decide, eIAE, hB _ cl_L_13, hnc⟩) (by decide) (by decide) (hB _ cl_L_15) (va_Nw.use rfl (hthr.2.1 _ (List.mem_of_getElem? (i := 1) rfl))) hc1 hc2 hc3 ?_
      refine lv_astore_n (lv' := [(3, .ref q9), (0, .ref aX), (1, .int v), (2, .ref aO)]) hx hb dL_person_15 rfl hl (by decide) rfl (fun ls hl => ?_)
      refine lv_iconst (v := 2) hx hb dL_person_16 (by decide) ?_
      exact W.iret (v := 2) hx hb hr (fun t ht hW => ⟨⟨2, (w, fo), rfl, Or.inr (Or.inr ⟨rfl, hpx, rfl⟩), by show va_P G vwCl _ t.heap; rw [ht]; exact hP, va_K.moved hW.alike hK, hD⟩, hS.F ht⟩) hS.2.2 dL_person_17
  · refine lv_i2l (v := v9.toInt64) hx hb dL_person_7 rfl ?_
    refine va_last hx hb hK hP hD hS w1.length 3 x_app_get rfl (i := 0) (vp_in_nI (n := 0) (N := 1) (by decide) (by decide)) dL_person_8 (fun H locs hP hD hS => ?_)
    rw [x_app_set] at hP hD
    refine lv_goto (tgt := 18) hx hb dL_person_9 (by decide) ?_
    refine lv_iconst (v := 0) hx hb dL_person_18 (by decide) ?_
    exact W.iret (v := 0) hx hb hr (fun t ht hW => ⟨⟨0, (w1, vp_updL fo 0 v9.toInt64), rfl, Or.inl ⟨rfl, v9, hw, rfl⟩, by show va_P G vwCl _ t.heap; rw [ht]; exact hP, va_K.moved hW.alike hK, hD⟩, hS.F ht⟩) hS.2.2 dL_person_19
set_option maxHeartbeats 4000000 in
set_option maxRecDepth 100000 in
theorem c_L_declaration {l : Launch} {G : va_G} {cI cD cE cO : ClassId} {aX aO sz : Nat} {w : va_W} {fs9 : List Value} {fo : Nat → Int64} {post : Int32 → va_W → Prop} {pX : String → Prop} (k t : Int32) (he : w[0]? = some (aX, .inr (ciX, fs9))) (hE : ∀ E, pX E → E = eIAE ∨ E = eISE) (hM : ∀ sz, xXi l yX_declaration wsX_declaration ({ frames := 6, cells := 1, slots := 12, locals := 90 }) [.ref aX, .int k, .int t] G (xTys cI cD cE) w sz post pX 1 12) :
    Met l yL_declaration wsL_declaration ({ frames := 7, cells := 1, slots := 12, locals := 113 }) (va_Pc [.ref aX, .int k, .int t, .ref aO] (fun U => xPreX G (lTys cI cD cE cO) (w ++ ([(aO, oL cO fo)] : va_W)) sz U ∧ va_Nc eISE eIAE U)) (va_Qi (lPost post pX w fo) (fun u t => xEnd G (lTys cI cD cE cO) (va_A (w ++ ([(aO, oL cO fo)] : va_W)) sz) (u.1 ++ [(aO, oL cO u.2)]) t) (va_A (w ++ ([(aO, oL cO fo)] : va_W)) sz)) 1 12 (va_A (w ++ ([(aO, oL cO fo)] : va_W)) sz) := by
  refine va_MetW (cc := cL_declaration) (maxL := 5) (ret := (some .int)) (hh := [(0, 10, 13, 13), (0, 10, 17, 15)]) (by decide) rfl ?_
  intro p e s m args below meth c s₁ B hml hv
  obtain ⟨rfl, ⟨⟨hsz, hP, hK, hD0⟩, hthr⟩, hnc⟩ := hv
  subst hsz
  have hx := B.exec
  have hb := B.bytes
  have hr := B.returns
  have hlocks := B.notSynchronized
  have hown : s.vm.findClass NmL = some m.cls := findClass_of_methodNamed B.named
  have hB : ∀ w ∈ BIG, w.before [.ref aX, .int k, .int t, .ref aO].toArray s = true := fun w h => atoms_spec (ws := wsL_declaration) B.pre w (List.mem_cons_of_mem _ h)
  have htab : c.exceptionTable.toList = tableOf [(0, 10, 13, 13), (0, 10, 17, 15)] := vx_table (x := yL_declaration) B (atoms_spec (ws := wsL_declaration) B.pre _ List.mem_cons_self)
  have hD := hD0.self (sz := s.heap.size)
  generalize hAe : va_A (w ++ ([(aO, oL cO fo)] : va_W)) s.heap.size = A at hD hthr ⊢
  have hA : ∀ q : Nat, s.heap.size ≤ q → A q := fun q h => by rw [← hAe]; exact Or.inr h
  have hS : va_S A s.heap s.heap [] := va_S.rf
  have hl := lv_entry [.ref aX, .int k, .int t, .ref aO] (n := 5) (Nat.le_of_ble_eq_true rfl)
  rw [lg_entry_eq]
  generalize (lg_sl [.ref aX, .int k, .int t, .ref aO] ++ List.replicate (5 - (lg_sl [.ref aX, .int k, .int t, .ref aO]).length) Slot.unset).toArray = ls at hl ⊢
  have hl : lv_has ls 5 [(0, .ref aX), (1, .int k), (2, .int t), (3, .ref aO)] := hl
  refine lv_aload_n hx hb dL_declaration_0 rfl (lv_at hl 3 rfl) ?_
  refine lv_iconst (v := 0) hx hb dL_declaration_1 (by decide) ?_
  refine lv_aload_n hx hb dL_declaration_2 rfl (lv_at hl 0 rfl) ?_
  refine lv_iload_n hx hb dL_declaration_3 rfl (lv_at hl 1 rfl) ?_
  refine lv_iload_n hx hb dL_declaration_4 rfl (lv_at hl 2 rfl) ?_
  refine x_callXi (w := w) (r := [(aO, oL cO fo)]) (vx_runV (As := [.int k, .int t]) (rest := [.int 0, .ref aO]) ⟨hx, hb, hml, hown, hB⟩ (hM _) (cwV 2 hB (gV ml_L_17 im_X_declaration sl_X_declaration ini_X kc_X_declaration) rfl rfl rfl (by decide +kernel) ⟨Nat.le_of_ble_eq_true rfl, Nat.le_of_ble_eq_true rfl⟩) (x_preVX (x_app_P hP).1 (hK.sub (tys' := xTys cI cD cE) [0, 1, 2] rfl) (x_app_D hD).1 hS hA hthr he rfl) rfl rfl hl.1 rfl (lv_room (Nat.le_of_ble_eq_true rfl)) dL_declaration_5 ⟨Nat.le_of_ble_eq_true rfl, Nat.le_of_ble_eq_true rfl⟩) hP hD hS hA (fun E ce q9 H locs hpx hP hD hS hc1 hc2 hc3 => ?_) (fun v9 w1 H locs hw hP hD hS => ?_)
  · rcases hE E hpx with rfl | rfl
    · refine vx_catch (own := NmL) (name := eIAE) (E := eIAE) hown [] ⟨0, 10, 13, 13⟩ [⟨0, 10, 17, 15⟩] (by rw [htab]; rfl) (fun z hz => by cases hz) (by decide) (by decide) (hB _ cl_L_13) (va_Nw.use rfl (hthr.2.1 _ (List.mem_of_getElem? (i := 0) rfl))) hc1 hc2 hc3 ?_
      refine lv_astore (lv' := [(4, .ref q9), (0, .ref aX), (1, .int k), (2, .int t), (3, .ref aO)]) hx hb dL_declaration_13 hl (by decide) rfl (fun ls hl => ?_)
      refine lv_iconst (v := 1) hx hb dL_declaration_15 (by decide) ?_
      exact W.iret (v := 1) hx hb hr (fun t ht hW => ⟨⟨1, (w, fo), rfl, Or.inr (Or.inl ⟨rfl, Or.inl hpx, rfl⟩), by show va_P G vwCl _ t.heap; rw [ht]; exact hP, va_K.moved hW.alike hK, hD⟩, hS.F ht⟩) hS.2.2 dL_declaration_16
    · refine vx_catch (own := NmL) (name := eISE) (E := eISE) hown [⟨0, 10, 13, 13⟩] ⟨0, 10, 17, 15⟩ [] (by rw [htab]; rfl) (fun z hz => by rw [List.mem_singleton.mp hz]; exact Or.inr ⟨by decide, eIAE, hB _ cl_L_13, hnc⟩) (by decide) (by decide) (hB _ cl_L_15) (va_Nw.use rfl (hthr.2.1 _ (List.mem_of_getElem? (i := 1) rfl))) hc1 hc2 hc3 ?_
      refine lv_astore (lv' := [(4, .ref q9), (0, .ref aX), (1, .int k), (2, .int t), (3, .ref aO)]) hx hb dL_declaration_17 hl (by decide) rfl (fun ls hl => ?_)
      refine lv_iconst (v := 2) hx hb dL_declaration_19 (by decide) ?_
      exact W.iret (v := 2) hx hb hr (fun t ht hW => ⟨⟨2, (w, fo), rfl, Or.inr (Or.inr ⟨rfl, hpx, rfl⟩), by show va_P G vwCl _ t.heap; rw [ht]; exact hP, va_K.moved hW.alike hK, hD⟩, hS.F ht⟩) hS.2.2 dL_declaration_20
  · refine lv_i2l (v := v9.toInt64) hx hb dL_declaration_8 rfl ?_
    refine va_last hx hb hK hP hD hS w1.length 3 x_app_get rfl (i := 0) (vp_in_nI (n := 0) (N := 1) (by decide) (by decide)) dL_declaration_9 (fun H locs hP hD hS => ?_)
    rw [x_app_set] at hP hD
    refine lv_goto (tgt := 21) hx hb dL_declaration_10 (by decide) ?_
    refine lv_iconst (v := 0) hx hb dL_declaration_21 (by decide) ?_
    exact W.iret (v := 0) hx hb hr (fun t ht hW => ⟨⟨0, (w1, vp_updL fo 0 v9.toInt64), rfl, Or.inl ⟨rfl, v9, hw, rfl⟩, by show va_P G vwCl _ t.heap; rw [ht]; exact hP, va_K.moved hW.alike hK, hD⟩, hS.F ht⟩) hS.2.2 dL_declaration_22
set_option maxHeartbeats 4000000 in
set_option maxRecDepth 100000 in
theorem c_L_event {l : Launch} {G : va_G} {cI cD cE cO : ClassId} {aX aO sz : Nat} {w : va_W} {fs9 : List Value} {fo : Nat → Int64} {post : Int32 → va_W → Prop} {pX : String → Prop} (d9 k w9 t9 : Int32) (he : w[0]? = some (aX, .inr (ciX, fs9))) (hE : ∀ E, pX E → E = eIAE ∨ E = eISE) (hM : ∀ sz, xXi l yX_event wsX_event ({ frames := 6, cells := 1, slots := 6, locals := 90 }) [.ref aX, .int d9, .int k, .int w9, .int t9] G (xTys cI cD cE) w sz post pX 1 6) :
    Met l yL_event wsL_event ({ frames := 7, cells := 1, slots := 6, locals := 117 }) (va_Pc [.ref aX, .int d9, .int k, .int w9, .int t9, .ref aO] (fun U => xPreX G (lTys cI cD cE cO) (w ++ ([(aO, oL cO fo)] : va_W)) sz U ∧ va_Nc eISE eIAE U)) (va_Qi (lPost post pX w fo) (fun u t => xEnd G (lTys cI cD cE cO) (va_A (w ++ ([(aO, oL cO fo)] : va_W)) sz) (u.1 ++ [(aO, oL cO u.2)]) t) (va_A (w ++ ([(aO, oL cO fo)] : va_W)) sz)) 1 6 (va_A (w ++ ([(aO, oL cO fo)] : va_W)) sz) := by
  refine va_MetW (cc := cL_event) (maxL := 7) (ret := (some .int)) (hh := [(0, 14, 17, 13), (0, 14, 21, 15)]) (by decide) rfl ?_
  intro p e s m args below meth c s₁ B hml hv
  obtain ⟨rfl, ⟨⟨hsz, hP, hK, hD0⟩, hthr⟩, hnc⟩ := hv
  subst hsz
  have hx := B.exec
  have hb := B.bytes
  have hr := B.returns
  have hlocks := B.notSynchronized
  have hown : s.vm.findClass NmL = some m.cls := findClass_of_methodNamed B.named
  have hB : ∀ w ∈ BIG, w.before [.ref aX, .int d9, .int k, .int w9, .int t9, .ref aO].toArray s = true := fun w h => atoms_spec (ws := wsL_event) B.pre w (List.mem_cons_of_mem _ h)
  have htab : c.exceptionTable.toList = tableOf [(0, 14, 17, 13), (0, 14, 21, 15)] := vx_table (x := yL_event) B (atoms_spec (ws := wsL_event) B.pre _ List.mem_cons_self)
  have hD := hD0.self (sz := s.heap.size)
  generalize hAe : va_A (w ++ ([(aO, oL cO fo)] : va_W)) s.heap.size = A at hD hthr ⊢
  have hA : ∀ q : Nat, s.heap.size ≤ q → A q := fun q h => by rw [← hAe]; exact Or.inr h
  have hS : va_S A s.heap s.heap [] := va_S.rf
  have hl := lv_entry [.ref aX, .int d9, .int k, .int w9, .int t9, .ref aO] (n := 7) (Nat.le_of_ble_eq_true rfl)
  rw [lg_entry_eq]
  generalize (lg_sl [.ref aX, .int d9, .int k, .int w9, .int t9, .ref aO] ++ List.replicate (7 - (lg_sl [.ref aX, .int d9, .int k, .int w9, .int t9, .ref aO]).length) Slot.unset).toArray = ls at hl ⊢
  have hl : lv_has ls 7 [(0, .ref aX), (1, .int d9), (2, .int k), (3, .int w9), (4, .int t9), (5, .ref aO)] := hl
  refine lv_aload hx hb dL_event_0 (lv_at hl 5 rfl) ?_
  refine lv_iconst (v := 0) hx hb dL_event_2 (by decide) ?_
  refine lv_aload_n hx hb dL_event_3 rfl (lv_at hl 0 rfl) ?_
  refine lv_iload_n hx hb dL_event_4 rfl (lv_at hl 1 rfl) ?_
  refine lv_iload_n hx hb dL_event_5 rfl (lv_at hl 2 rfl) ?_
  refine lv_iload_n hx hb dL_event_6 rfl (lv_at hl 3 rfl) ?_
  refine lv_iload hx hb dL_event_7 (lv_at hl 4 rfl) ?_
  refine x_callXi (w := w) (r := [(aO, oL cO fo)]) (vx_runV (As := [.int d9, .int k, .int w9, .int t9]) (rest := [.int 0, .ref aO]) ⟨hx, hb, hml, hown, hB⟩ (hM _) (cwV 4 hB (gV ml_L_21 im_X_event sl_X_event ini_X kc_X_event) rfl rfl rfl (by decide +kernel) ⟨Nat.le_of_ble_eq_true rfl, Nat.le_of_ble_eq_true rfl⟩) (x_preVX (x_app_P hP).1 (hK.sub (tys' := xTys cI cD cE) [0, 1, 2] rfl) (x_app_D hD).1 hS hA hthr he rfl) rfl rfl hl.1 rfl (lv_room (Nat.le_of_ble_eq_true rfl)) dL_event_9 ⟨Nat.le_of_ble_eq_true rfl, Nat.le_of_ble_eq_true rfl⟩) hP hD hS hA (fun E ce q9 H locs hpx hP hD hS hc1 hc2 hc3 => ?_) (fun v9 w1 H locs hw hP hD hS => ?_)
  · rcases hE E hpx with rfl | rfl
    · refine vx_catch (own := NmL) (name := eIAE) (E := eIAE) hown [] ⟨0, 14, 17, 13⟩ [⟨0, 14, 21, 15⟩] (by rw [htab]; rfl) (fun z hz => by cases hz) (by decide) (by decide) (hB _ cl_L_13) (va_Nw.use rfl (hthr.2.1 _ (List.mem_of_getElem? (i := 0) rfl))) hc1 hc2 hc3 ?_
      refine lv_astore (lv' := [(6, .ref q9), (0, .ref aX), (1, .int d9), (2, .int k), (3, .int w9), (4, .int t9), (5, .ref aO)]) hx hb dL_event_17 hl (by decide) rfl (fun ls hl => ?_)
      refine lv_iconst (v := 1) hx hb dL_event_19 (by decide) ?_
      exact W.iret (v := 1) hx hb hr (fun t ht hW => ⟨⟨1, (w, fo), rfl, Or.inr (Or.inl ⟨rfl, Or.inl hpx, rfl⟩), by show va_P G vwCl _ t.heap; rw [ht]; exact hP, va_K.moved hW.alike hK, hD⟩, hS.F ht⟩) hS.2.2 dL_event_20
    · refine vx_catch (own := NmL) (name := eISE) (E := eISE) hown [⟨0, 14, 17, 13⟩] ⟨0, 14, 21, 15⟩ [] (by rw [htab]; rfl) (fun z hz => by rw [List.mem_singleton.mp hz]; exact Or.inr ⟨by decide, eIAE, hB _ cl_L_13, hnc⟩) (by decide) (by decide) (hB _ cl_L_15) (va_Nw.use rfl (hthr.2.1 _ (List.mem_of_getElem? (i := 1) rfl))) hc1 hc2 hc3 ?_
      refine lv_astore (lv' := [(6, .ref q9), (0, .ref aX), (1, .int d9), (2, .int k), (3, .int w9), (4, .int t9), (5, .ref aO)]) hx hb dL_event_21 hl (by decide) rfl (fun ls hl => ?_)
      refine lv_iconst (v := 2) hx hb dL_event_23 (by decide) ?_
      exact W.iret (v := 2) hx hb hr (fun t ht hW => ⟨⟨2, (w, fo), rfl, Or.inr (Or.inr ⟨rfl, hpx, rfl⟩), by show va_P G vwCl _ t.heap; rw [ht]; exact hP, va_K.moved hW.alike hK, hD⟩, hS.F ht⟩) hS.2.2 dL_event_24
  · refine lv_i2l (v := v9.toInt64) hx hb dL_event_12 rfl ?_
    refine va_last hx hb hK hP hD hS w1.length 3 x_app_get rfl (i := 0) (vp_in_nI (n := 0) (N := 1) (by decide) (by decide)) dL_event_13 (fun H locs hP hD hS => ?_)
    rw [x_app_set] at hP hD
    refine lv_goto (tgt := 25) hx hb dL_event_14 (by decide) ?_
    refine lv_iconst (v := 0) hx hb dL_event_25 (by decide) ?_
    exact W.iret (v := 0) hx hb hr (fun t ht hW => ⟨⟨0, (w1, vp_updL fo 0 v9.toInt64), rfl, Or.inl ⟨rfl, v9, hw, rfl⟩, by show va_P G vwCl _ t.heap; rw [ht]; exact hP, va_K.moved hW.alike hK, hD⟩, hS.F ht⟩) hS.2.2 dL_event_26
set_option maxHeartbeats 4000000 in
set_option maxRecDepth 100000 in
theorem c_L_tick {l : Launch} {G : va_G} {cI cD cE cO : ClassId} {aX aO sz : Nat} {w : va_W} {fs9 : List Value} {fo : Nat → Int64} {post : Int32 → va_W → Prop} {pX : String → Prop} (t9 : Int32) (he : w[0]? = some (aX, .inr (ciX, fs9))) (hE : ∀ E, pX E → E = eIAE) (hM : ∀ sz, xXi l yX_tick wsX_tick ({ frames := 6, cells := 1, slots := 6, locals := 108 }) [.ref aX, .int t9] G (xTys cI cD cE) w sz post pX 1 6) :
    Met l yL_tick wsL_tick ({ frames := 7, cells := 1, slots := 6, locals := 131 }) (va_Pc [.ref aX, .int t9, .ref aO] (fun U => xPreX G (lTys cI cD cE cO) (w ++ ([(aO, oL cO fo)] : va_W)) sz U ∧ va_Nc eISE eIAE U)) (va_Qi (lPost post pX w fo) (fun u t => xEnd G (lTys cI cD cE cO) (va_A (w ++ ([(aO, oL cO fo)] : va_W)) sz) (u.1 ++ [(aO, oL cO u.2)]) t) (va_A (w ++ ([(aO, oL cO fo)] : va_W)) sz)) 1 6 (va_A (w ++ ([(aO, oL cO fo)] : va_W)) sz) := by
  refine va_MetW (cc := cL_tick) (maxL := 4) (ret := (some .int)) (hh := [(0, 9, 12, 13)]) (by decide) rfl ?_
  intro p e s m args below meth c s₁ B hml hv
  obtain ⟨rfl, ⟨⟨hsz, hP, hK, hD0⟩, hthr⟩, hnc⟩ := hv
  subst hsz
  have hx := B.exec
  have hb := B.bytes
  have hr := B.returns
  have hlocks := B.notSynchronized
  have hown : s.vm.findClass NmL = some m.cls := findClass_of_methodNamed B.named
  have hB : ∀ w ∈ BIG, w.before [.ref aX, .int t9, .ref aO].toArray s = true := fun w h => atoms_spec (ws := wsL_tick) B.pre w (List.mem_cons_of_mem _ h)
  have htab : c.exceptionTable.toList = tableOf [(0, 9, 12, 13)] := vx_table (x := yL_tick) B (atoms_spec (ws := wsL_tick) B.pre _ List.mem_cons_self)
  have hD := hD0.self (sz := s.heap.size)
  generalize hAe : va_A (w ++ ([(aO, oL cO fo)] : va_W)) s.heap.size = A at hD hthr ⊢
  have hA : ∀ q : Nat, s.heap.size ≤ q → A q := fun q h => by rw [← hAe]; exact Or.inr h
  have hS : va_S A s.heap s.heap [] := va_S.rf
  have hl := lv_entry [.ref aX, .int t9, .ref aO] (n := 4) (Nat.le_of_ble_eq_true rfl)
  rw [lg_entry_eq]
  generalize (lg_sl [.ref aX, .int t9, .ref aO] ++ List.replicate (4 - (lg_sl [.ref aX, .int t9, .ref aO]).length) Slot.unset).toArray = ls at hl ⊢
  have hl : lv_has ls 4 [(0, .ref aX), (1, .int t9), (2, .ref aO)] := hl
  refine lv_aload_n hx hb dL_tick_0 rfl (lv_at hl 2 rfl) ?_
  refine lv_iconst (v := 0) hx hb dL_tick_1 (by decide) ?_
  refine lv_aload_n hx hb dL_tick_2 rfl (lv_at hl 0 rfl) ?_
  refine lv_iload_n hx hb dL_tick_3 rfl (lv_at hl 1 rfl) ?_
  refine x_callXi (w := w) (r := [(aO, oL cO fo)]) (vx_runV (As := [.int t9]) (rest := [.int 0, .ref aO]) ⟨hx, hb, hml, hown, hB⟩ (hM _) (cwV 1 hB (gV ml_L_25 im_X_tick sl_X_tick ini_X kc_X_tick) rfl rfl rfl (by decide +kernel) ⟨Nat.le_of_ble_eq_true rfl, Nat.le_of_ble_eq_true rfl⟩) (x_preVX (x_app_P hP).1 (hK.sub (tys' := xTys cI cD cE) [0, 1, 2] rfl) (x_app_D hD).1 hS hA hthr he rfl) rfl rfl hl.1 rfl (lv_room (Nat.le_of_ble_eq_true rfl)) dL_tick_4 ⟨Nat.le_of_ble_eq_true rfl, Nat.le_of_ble_eq_true rfl⟩) hP hD hS hA (fun E ce q9 H locs hpx hP hD hS hc1 hc2 hc3 => ?_) (fun v9 w1 H locs hw hP hD hS => ?_)
  · obtain rfl := hE E hpx
    refine vx_catch (own := NmL) (name := eIAE) (E := eIAE) hown [] ⟨0, 9, 12, 13⟩ [] (by rw [htab]; rfl) (fun z hz => by cases hz) (by decide) (by decide) (hB _ cl_L_13) (va_Nw.use rfl (hthr.2.1 _ (List.mem_of_getElem? (i := 0) rfl))) hc1 hc2 hc3 ?_
    refine lv_astore_n (lv' := [(3, .ref q9), (0, .ref aX), (1, .int t9), (2, .ref aO)]) hx hb dL_tick_12 rfl hl (by decide) rfl (fun ls hl => ?_)
    refine lv_iconst (v := 1) hx hb dL_tick_13 (by decide) ?_
    exact W.iret (v := 1) hx hb hr (fun t ht hW => ⟨⟨1, (w, fo), rfl, Or.inr (Or.inl ⟨rfl, Or.inl hpx, rfl⟩), by show va_P G vwCl _ t.heap; rw [ht]; exact hP, va_K.moved hW.alike hK, hD⟩, hS.F ht⟩) hS.2.2 dL_tick_14
  · refine lv_i2l (v := v9.toInt64) hx hb dL_tick_7 rfl ?_
    refine va_last hx hb hK hP hD hS w1.length 3 x_app_get rfl (i := 0) (vp_in_nI (n := 0) (N := 1) (by decide) (by decide)) dL_tick_8 (fun H locs hP hD hS => ?_)
    rw [x_app_set] at hP hD
    refine lv_goto (tgt := 15) hx hb dL_tick_9 (by decide) ?_
    refine lv_iconst (v := 0) hx hb dL_tick_15 (by decide) ?_
    exact W.iret (v := 0) hx hb hr (fun t ht hW => ⟨⟨0, (w1, vp_updL fo 0 v9.toInt64), rfl, Or.inl ⟨rfl, v9, hw, rfl⟩, by show va_P G vwCl _ t.heap; rw [ht]; exact hP, va_K.moved hW.alike hK, hD⟩, hS.F ht⟩) hS.2.2 dL_tick_16
set_option maxHeartbeats 4000000 in
set_option maxRecDepth 100000 in
theorem c_L_bar {l : Launch} {G : va_G} {cI cD cE cO : ClassId} {aX aO sz : Nat} {w : va_W} {fs9 : List Value} {fo : Nat → Int64} {post : Int32 → va_W → Prop} {pX : String → Prop} (d9 k on : Int32) (he : w[0]? = some (aX, .inr (ciX, fs9))) (hE : ∀ E, pX E → E = eIAE) (hM : ∀ sz, xXi l yX_bar wsX_bar ({ frames := 6, cells := 1, slots := 6, locals := 90 }) [.ref aX, .int d9, .int k, .int on] G (xTys cI cD cE) w sz post pX 1 6) :
    Met l yL_bar wsL_bar ({ frames := 7, cells := 1, slots := 6, locals := 114 }) (va_Pc [.ref aX, .int d9, .int k, .int on, .ref aO] (fun U => xPreX G (lTys cI cD cE cO) (w ++ ([(aO, oL cO fo)] : va_W)) sz U ∧ va_Nc eISE eIAE U)) (va_Qi (lPost post pX w fo) (fun u t => xEnd G (lTys cI cD cE cO) (va_A (w ++ ([(aO, oL cO fo)] : va_W)) sz) (u.1 ++ [(aO, oL cO u.2)]) t) (va_A (w ++ ([(aO, oL cO fo)] : va_W)) sz)) 1 6 (va_A (w ++ ([(aO, oL cO fo)] : va_W)) sz) := by
  refine va_MetW (cc := cL_bar) (maxL := 6) (ret := (some .int)) (hh := [(0, 12, 15, 13)]) (by decide) rfl ?_
  intro p e s m args below meth c s₁ B hml hv
  obtain ⟨rfl, ⟨⟨hsz, hP, hK, hD0⟩, hthr⟩, hnc⟩ := hv
  subst hsz
  have hx := B.exec
  have hb := B.bytes
  have hr := B.returns
  have hlocks := B.notSynchronized
  have hown : s.vm.findClass NmL = some m.cls := findClass_of_methodNamed B.named
  have hB : ∀ w ∈ BIG, w.before [.ref aX, .int d9, .int k, .int on, .ref aO].toArray s = true := fun w h => atoms_spec (ws := wsL_bar) B.pre w (List.mem_cons_of_mem _ h)
  have htab : c.exceptionTable.toList = tableOf [(0, 12, 15, 13)] := vx_table (x := yL_bar) B (atoms_spec (ws := wsL_bar) B.pre _ List.mem_cons_self)
  have hD := hD0.self (sz := s.heap.size)
  generalize hAe : va_A (w ++ ([(aO, oL cO fo)] : va_W)) s.heap.size = A at hD hthr ⊢
  have hA : ∀ q : Nat, s.heap.size ≤ q → A q := fun q h => by rw [← hAe]; exact Or.inr h
  have hS : va_S A s.heap s.heap [] := va_S.rf
  have hl := lv_entry [.ref aX, .int d9, .int k, .int on, .ref aO] (n := 6) (Nat.le_of_ble_eq_true rfl)
  rw [lg_entry_eq]
  generalize (lg_sl [.ref aX, .int d9, .int k, .int on, .ref aO] ++ List.replicate (6 - (lg_sl [.ref aX, .int d9, .int k, .int on, .ref aO]).length) Slot.unset).toArray = ls at hl ⊢
  have hl : lv_has ls 6 [(0, .ref aX), (1, .int d9), (2, .int k), (3, .int on), (4, .ref aO)] := hl
  refine lv_aload hx hb dL_bar_0 (lv_at hl 4 rfl) ?_
  refine lv_iconst (v := 0) hx hb dL_bar_2 (by decide) ?_
  refine lv_aload_n hx hb dL_bar_3 rfl (lv_at hl 0 rfl) ?_
  refine lv_iload_n hx hb dL_bar_4 rfl (lv_at hl 1 rfl) ?_
  refine lv_iload_n hx hb dL_bar_5 rfl (lv_at hl 2 rfl) ?_
  refine lv_iload_n hx hb dL_bar_6 rfl (lv_at hl 3 rfl) ?_
  refine x_callXi (w := w) (r := [(aO, oL cO fo)]) (vx_runV (As := [.int d9, .int k, .int on]) (rest := [.int 0, .ref aO]) ⟨hx, hb, hml, hown, hB⟩ (hM _) (cwV 3 hB (gV ml_L_28 im_X_bar sl_X_bar ini_X kc_X_bar) rfl rfl rfl (by decide +kernel) ⟨Nat.le_of_ble_eq_true rfl, Nat.le_of_ble_eq_true rfl⟩) (x_preVX (x_app_P hP).1 (hK.sub (tys' := xTys cI cD cE) [0, 1, 2] rfl) (x_app_D hD).1 hS hA hthr he rfl) rfl rfl hl.1 rfl (lv_room (Nat.le_of_ble_eq_true rfl)) dL_bar_7 ⟨Nat.le_of_ble_eq_true rfl, Nat.le_of_ble_eq_true rfl⟩) hP hD hS hA (fun E ce q9 H locs hpx hP hD hS hc1 hc2 hc3 => ?_) (fun v9 w1 H locs hw hP hD hS => ?_)
  · obtain rfl := hE E hpx
    refine vx_catch (own := NmL) (name := eIAE) (E := eIAE) hown [] ⟨0, 12, 15, 13⟩ [] (by rw [htab]; rfl) (fun z hz => by cases hz) (by decide) (by decide) (hB _ cl_L_13) (va_Nw.use rfl (hthr.2.1 _ (List.mem_of_getElem? (i := 0) rfl))) hc1 hc2 hc3 ?_
    refine lv_astore (lv' := [(5, .ref q9), (0, .ref aX), (1, .int d9), (2, .int k), (3, .int on), (4, .ref aO)]) hx hb dL_bar_15 hl (by decide) rfl (fun ls hl => ?_)
    refine lv_iconst (v := 1) hx hb dL_bar_17 (by decide) ?_
    exact W.iret (v := 1) hx hb hr (fun t ht hW => ⟨⟨1, (w, fo), rfl, Or.inr (Or.inl ⟨rfl, Or.inl hpx, rfl⟩), by show va_P G vwCl _ t.heap; rw [ht]; exact hP, va_K.moved hW.alike hK, hD⟩, hS.F ht⟩) hS.2.2 dL_bar_18
  · refine lv_i2l (v := v9.toInt64) hx hb dL_bar_10 rfl ?_
    refine va_last hx hb hK hP hD hS w1.length 3 x_app_get rfl (i := 0) (vp_in_nI (n := 0) (N := 1) (by decide) (by decide)) dL_bar_11 (fun H locs hP hD hS => ?_)
    rw [x_app_set] at hP hD
    refine lv_goto (tgt := 19) hx hb dL_bar_12 (by decide) ?_
    refine lv_iconst (v := 0) hx hb dL_bar_19 (by decide) ?_
    exact W.iret (v := 0) hx hb hr (fun t ht hW => ⟨⟨0, (w1, vp_updL fo 0 v9.toInt64), rfl, Or.inl ⟨rfl, v9, hw, rfl⟩, by show va_P G vwCl _ t.heap; rw [ht]; exact hP, va_K.moved hW.alike hK, hD⟩, hS.F ht⟩) hS.2.2 dL_bar_20
set_option maxHeartbeats 4000000 in
set_option maxRecDepth 100000 in
theorem c_L_invalidate {l : Launch} {G : va_G} {cI cD cE cO : ClassId} {aX aO sz : Nat} {w : va_W} {fs9 : List Value} {fo : Nat → Int64} {post : Int32 → va_W → Prop} {pX : String → Prop} (d9 w9 y : Int32) (he : w[0]? = some (aX, .inr (ciX, fs9))) (hE : ∀ E, pX E → E = eIAE) (hM : ∀ sz, xXi l yX_invalidate wsX_invalidate ({ frames := 6, cells := 1, slots := 6, locals := 90 }) [.ref aX, .int d9, .int w9, .int y] G (xTys cI cD cE) w sz post pX 1 6) :
    Met l yL_invalidate wsL_invalidate ({ frames := 7, cells := 1, slots := 6, locals := 114 }) (va_Pc [.ref aX, .int d9, .int w9, .int y, .ref aO] (fun U => xPreX G (lTys cI cD cE cO) (w ++ ([(aO, oL cO fo)] : va_W)) sz U ∧ va_Nc eISE eIAE U)) (va_Qi (lPost post pX w fo) (fun u t => xEnd G (lTys cI cD cE cO) (va_A (w ++ ([(aO, oL cO fo)] : va_W)) sz) (u.1 ++ [(aO, oL cO u.2)]) t) (va_A (w ++ ([(aO, oL cO fo)] : va_W)) sz)) 1 6 (va_A (w ++ ([(aO, oL cO fo)] : va_W)) sz) := by
  refine va_MetW (cc := cL_invalidate) (maxL := 6) (ret := (some .int)) (hh := [(0, 12, 15, 13)]) (by decide) rfl ?_
  intro p e s m args below meth c s₁ B hml hv
  obtain ⟨rfl, ⟨⟨hsz, hP, hK, hD0⟩, hthr⟩, hnc⟩ := hv
  subst hsz
  have hx := B.exec
  have hb := B.bytes
  have hr := B.returns
  have hlocks := B.notSynchronized
  have hown : s.vm.findClass NmL = some m.cls := findClass_of_methodNamed B.named
  have hB : ∀ w ∈ BIG, w.before [.ref aX, .int d9, .int w9, .int y, .ref aO].toArray s = true := fun w h => atoms_spec (ws := wsL_invalidate) B.pre w (List.mem_cons_of_mem _ h)
  have htab : c.exceptionTable.toList = tableOf [(0, 12, 15, 13)] := vx_table (x := yL_invalidate) B (atoms_spec (ws := wsL_invalidate) B.pre _ List.mem_cons_self)
  have hD := hD0.self (sz := s.heap.size)
  generalize hAe : va_A (w ++ ([(aO, oL cO fo)] : va_W)) s.heap.size = A at hD hthr ⊢
  have hA : ∀ q : Nat, s.heap.size ≤ q → A q := fun q h => by rw [← hAe]; exact Or.inr h
  have hS : va_S A s.heap s.heap [] := va_S.rf
  have hl := lv_entry [.ref aX, .int d9, .int w9, .int y, .ref aO] (n := 6) (Nat.le_of_ble_eq_true rfl)
  rw [lg_entry_eq]
  generalize (lg_sl [.ref aX, .int d9, .int w9, .int y, .ref aO] ++ List.replicate (6 - (lg_sl [.ref aX, .int d9, .int w9, .int y, .ref aO]).length) Slot.unset).toArray = ls at hl ⊢
  have hl : lv_has ls 6 [(0, .ref aX), (1, .int d9), (2, .int w9), (3, .int y), (4, .ref aO)] := hl
  refine lv_aload hx hb dL_invalidate_0 (lv_at hl 4 rfl) ?_
  refine lv_iconst (v := 0) hx hb dL_invalidate_2 (by decide) ?_
  refine lv_aload_n hx hb dL_invalidate_3 rfl (lv_at hl 0 rfl) ?_
  refine lv_iload_n hx hb dL_invalidate_4 rfl (lv_at hl 1 rfl) ?_
  refine lv_iload_n hx hb dL_invalidate_5 rfl (lv_at hl 2 rfl) ?_
  refine lv_iload_n hx hb dL_invalidate_6 rfl (lv_at hl 3 rfl) ?_
  refine x_callXi (w := w) (r := [(aO, oL cO fo)]) (vx_runV (As := [.int d9, .int w9, .int y]) (rest := [.int 0, .ref aO]) ⟨hx, hb, hml, hown, hB⟩ (hM _) (cwV 3 hB (gV ml_L_32 im_X_invalidate sl_X_invalidate ini_X kc_X_invalidate) rfl rfl rfl (by decide +kernel) ⟨Nat.le_of_ble_eq_true rfl, Nat.le_of_ble_eq_true rfl⟩) (x_preVX (x_app_P hP).1 (hK.sub (tys' := xTys cI cD cE) [0, 1, 2] rfl) (x_app_D hD).1 hS hA hthr he rfl) rfl rfl hl.1 rfl (lv_room (Nat.le_of_ble_eq_true rfl)) dL_invalidate_7 ⟨Nat.le_of_ble_eq_true rfl, Nat.le_of_ble_eq_true rfl⟩) hP hD hS hA (fun E ce q9 H locs hpx hP hD hS hc1 hc2 hc3 => ?_) (fun v9 w1 H locs hw hP hD hS => ?_)
  · obtain rfl := hE E hpx
    refine vx_catch (own := NmL) (name := eIAE) (E := eIAE) hown [] ⟨0, 12, 15, 13⟩ [] (by rw [htab]; rfl) (fun z hz => by cases hz) (by decide) (by decide) (hB _ cl_L_13) (va_Nw.use rfl (hthr.2.1 _ (List.mem_of_getElem? (i := 0) rfl))) hc1 hc2 hc3 ?_
    refine lv_astore (lv' := [(5, .ref q9), (0, .ref aX), (1, .int d9), (2, .int w9), (3, .int y), (4, .ref aO)]) hx hb dL_invalidate_15 hl (by decide) rfl (fun ls hl => ?_)
    refine lv_iconst (v := 1) hx hb dL_invalidate_17 (by decide) ?_
    exact W.iret (v := 1) hx hb hr (fun t ht hW => ⟨⟨1, (w, fo), rfl, Or.inr (Or.inl ⟨rfl, Or.inl hpx, rfl⟩), by show va_P G vwCl _ t.heap; rw [ht]; exact hP, va_K.moved hW.alike hK, hD⟩, hS.F ht⟩) hS.2.2 dL_invalidate_18
  · refine lv_i2l (v := v9.toInt64) hx hb dL_invalidate_10 rfl ?_
    refine va_last hx hb hK hP hD hS w1.length 3 x_app_get rfl (i := 0) (vp_in_nI (n := 0) (N := 1) (by decide) (by decide)) dL_invalidate_11 (fun H locs hP hD hS => ?_)
    rw [x_app_set] at hP hD
    refine lv_goto (tgt := 19) hx hb dL_invalidate_12 (by decide) ?_
    refine lv_iconst (v := 0) hx hb dL_invalidate_19 (by decide) ?_
    exact W.iret (v := 0) hx hb hr (fun t ht hW => ⟨⟨0, (w1, vp_updL fo 0 v9.toInt64), rfl, Or.inl ⟨rfl, v9, hw, rfl⟩, by show va_P G vwCl _ t.heap; rw [ht]; exact hP, va_K.moved hW.alike hK, hD⟩, hS.F ht⟩) hS.2.2 dL_invalidate_20
set_option maxHeartbeats 4000000 in
set_option maxRecDepth 100000 in
theorem c_L_look {l : Launch} {G : va_G} {cI cD cE cO : ClassId} {aX aO sz : Nat} {w : va_W} {fs9 : List Value} {fo : Nat → Int64} {post : Int32 → va_W → Prop} {pX : String → Prop} (d9 x : Int32) (he : w[0]? = some (aX, .inr (ciX, fs9))) (hE : ∀ E, pX E → E = eIOB) (hM : ∀ sz, xXi l yX_look wsX_look ({ frames := 6, cells := 1, slots := 6, locals := 90 }) [.ref aX, .int d9, .int x] G (xTys cI cD cE) w sz post pX 1 6) :
    Met l yL_look wsL_look ({ frames := 7, cells := 1, slots := 6, locals := 113 }) (va_Pc [.ref aX, .int d9, .int x, .ref aO] (fun U => xPreX G (lTys cI cD cE cO) (w ++ ([(aO, oL cO fo)] : va_W)) sz U ∧ va_Nc eISE eIAE U)) (va_Qi (lPost post pX w fo) (fun u t => xEnd G (lTys cI cD cE cO) (va_A (w ++ ([(aO, oL cO fo)] : va_W)) sz) (u.1 ++ [(aO, oL cO u.2)]) t) (va_A (w ++ ([(aO, oL cO fo)] : va_W)) sz)) 1 6 (va_A (w ++ ([(aO, oL cO fo)] : va_W)) sz) := by
  refine va_MetW (cc := cL_look) (maxL := 5) (ret := (some .int)) (hh := [(0, 10, 13, 39)]) (by decide) rfl ?_
  intro p e s m args below meth c s₁ B hml hv
  obtain ⟨rfl, ⟨⟨hsz, hP, hK, hD0⟩, hthr⟩, hnc⟩ := hv
  subst hsz
  have hx := B.exec
  have hb := B.bytes
  have hr := B.returns
  have hlocks := B.notSynchronized
  have hown : s.vm.findClass NmL = some m.cls := findClass_of_methodNamed B.named
  have hB : ∀ w ∈ BIG, w.before [.ref aX, .int d9, .int x, .ref aO].toArray s = true := fun w h => atoms_spec (ws := wsL_look) B.pre w (List.mem_cons_of_mem _ h)
  have htab : c.exceptionTable.toList = tableOf [(0, 10, 13, 39)] := vx_table (x := yL_look) B (atoms_spec (ws := wsL_look) B.pre _ List.mem_cons_self)
  have hD := hD0.self (sz := s.heap.size)
  generalize hAe : va_A (w ++ ([(aO, oL cO fo)] : va_W)) s.heap.size = A at hD hthr ⊢
  have hA : ∀ q : Nat, s.heap.size ≤ q → A q := fun q h => by rw [← hAe]; exact Or.inr h
  have hS : va_S A s.heap s.heap [] := va_S.rf
  have hl := lv_entry [.ref aX, .int d9, .int x, .ref aO] (n := 5) (Nat.le_of_ble_eq_true rfl)
  rw [lg_entry_eq]
  generalize (lg_sl [.ref aX, .int d9, .int x, .ref aO] ++ List.replicate (5 - (lg_sl [.ref aX, .int d9, .int x, .ref aO]).length) Slot.unset).toArray = ls at hl ⊢
  have hl : lv_has ls 5 [(0, .ref aX), (1, .int d9), (2, .int x), (3, .ref aO)] := hl
  refine lv_aload_n hx hb dL_look_0 rfl (lv_at hl 3 rfl) ?_
  refine lv_iconst (v := 0) hx hb dL_look_1 (by decide) ?_
  refine lv_aload_n hx hb dL_look_2 rfl (lv_at hl 0 rfl) ?_
  refine lv_iload_n hx hb dL_look_3 rfl (lv_at hl 1 rfl) ?_
  refine lv_iload_n hx hb dL_look_4 rfl (lv_at hl 2 rfl) ?_
  refine x_callXi (w := w) (r := [(aO, oL cO fo)]) (vx_runV (As := [.int d9, .int x]) (rest := [.int 0, .ref aO]) ⟨hx, hb, hml, hown, hB⟩ (hM _) (cwV 2 hB (gV ml_L_36 im_X_look sl_X_look ini_X kc_X_look) rfl rfl rfl (by decide +kernel) ⟨Nat.le_of_ble_eq_true rfl, Nat.le_of_ble_eq_true rfl⟩) (x_preVX (x_app_P hP).1 (hK.sub (tys' := xTys cI cD cE) [0, 1, 2] rfl) (x_app_D hD).1 hS hA hthr he rfl) rfl rfl hl.1 rfl (lv_room (Nat.le_of_ble_eq_true rfl)) dL_look_5 ⟨Nat.le_of_ble_eq_true rfl, Nat.le_of_ble_eq_true rfl⟩) hP hD hS hA (fun E ce q9 H locs hpx hP hD hS hc1 hc2 hc3 => ?_) (fun v9 w1 H locs hw hP hD hS => ?_)
  · obtain rfl := hE E hpx
    refine vx_catch (own := NmL) (name := eIOB) (E := eIOB) hown [] ⟨0, 10, 13, 39⟩ [] (by rw [htab]; rfl) (fun z hz => by cases hz) (by decide) (by decide) (hB _ cl_L_39) (va_Nw.use rfl (hthr.2.1 _ (List.mem_of_getElem? (i := 2) rfl))) hc1 hc2 hc3 ?_
    refine lv_astore (lv' := [(4, .ref q9), (0, .ref aX), (1, .int d9), (2, .int x), (3, .ref aO)]) hx hb dL_look_13 hl (by decide) rfl (fun ls hl => ?_)
    refine lv_iconst (v := 1) hx hb dL_look_15 (by decide) ?_
    exact W.iret (v := 1) hx hb hr (fun t ht hW => ⟨⟨1, (w, fo), rfl, Or.inr (Or.inl ⟨rfl, Or.inr hpx, rfl⟩), by show va_P G vwCl _ t.heap; rw [ht]; exact hP, va_K.moved hW.alike hK, hD⟩, hS.F ht⟩) hS.2.2 dL_look_16
  · refine lv_i2l (v := v9.toInt64) hx hb dL_look_8 rfl ?_
    refine va_last hx hb hK hP hD hS w1.length 3 x_app_get rfl (i := 0) (vp_in_nI (n := 0) (N := 1) (by decide) (by decide)) dL_look_9 (fun H locs hP hD hS => ?_)
    rw [x_app_set] at hP hD
    refine lv_goto (tgt := 17) hx hb dL_look_10 (by decide) ?_
    refine lv_iconst (v := 0) hx hb dL_look_17 (by decide) ?_
    exact W.iret (v := 0) hx hb hr (fun t ht hW => ⟨⟨0, (w1, vp_updL fo 0 v9.toInt64), rfl, Or.inl ⟨rfl, v9, hw, rfl⟩, by show va_P G vwCl _ t.heap; rw [ht]; exact hP, va_K.moved hW.alike hK, hD⟩, hS.F ht⟩) hS.2.2 dL_look_18
set_option maxHeartbeats 4000000 in
set_option maxRecDepth 100000 in
theorem c_L_written {l : Launch} {G : va_G} {cI cD cE cO : ClassId} {aX aO sz : Nat} {w : va_W} {fs9 : List Value} {fo : Nat → Int64} {post : Int32 → va_W → Prop} {pX : String → Prop} (d9 i9 : Int32) (he : w[0]? = some (aX, .inr (ciX, fs9))) (hE : ∀ E, pX E → E = eIAE) (hM : ∀ sz, xXi l yX_written wsX_written ({ frames := 6, cells := 1, slots := 6, locals := 90 }) [.ref aX, .int d9, .int i9] G (xTys cI cD cE) w sz post pX 1 6) :
    Met l yL_written wsL_written ({ frames := 7, cells := 1, slots := 6, locals := 114 }) (va_Pc [.ref aX, .int d9, .int i9, .ref aO] (fun U => xPreX G (lTys cI cD cE cO) (w ++ ([(aO, oL cO fo)] : va_W)) sz U ∧ va_Nc eISE eIAE U)) (va_Qi (lPost post pX w fo) (fun u t => xEnd G (lTys cI cD cE cO) (va_A (w ++ ([(aO, oL cO fo)] : va_W)) sz) (u.1 ++ [(aO, oL cO u.2)]) t) (va_A (w ++ ([(aO, oL cO fo)] : va_W)) sz)) 1 6 (va_A (w ++ ([(aO, oL cO fo)] : va_W)) sz) := by
  refine va_MetW (cc := cL_written) (maxL := 5) (ret := (some .int)) (hh := [(0, 10, 13, 13)]) (by decide) rfl ?_
  intro p e s m args below meth c s₁ B hml hv
  obtain ⟨rfl, ⟨⟨hsz, hP, hK, hD0⟩, hthr⟩, hnc⟩ := hv
  subst hsz
  have hx := B.exec
  have hb := B.bytes
  have hr := B.returns
  have hlocks := B.notSynchronized
  have hown : s.vm.findClass NmL = some m.cls := findClass_of_methodNamed B.named
  have hB : ∀ w ∈ BIG, w.before [.ref aX, .int d9, .int i9, .ref aO].toArray s = true := fun w h => atoms_spec (ws := wsL_written) B.pre w (List.mem_cons_of_mem _ h)
  have htab : c.exceptionTable.toList = tableOf [(0, 10, 13, 13)] := vx_table (x := yL_written) B (atoms_spec (ws := wsL_written) B.pre _ List.mem_cons_self)
  have hD := hD0.self (sz := s.heap.size)
  generalize hAe : va_A (w ++ ([(aO, oL cO fo)] : va_W)) s.heap.size = A at hD hthr ⊢
  have hA : ∀ q : Nat, s.heap.size ≤ q → A q := fun q h => by rw [← hAe]; exact Or.inr h
  have hS : va_S A s.heap s.heap [] := va_S.rf
  have hl := lv_entry [.ref aX, .int d9, .int i9, .ref aO] (n := 5) (Nat.le_of_ble_eq_true rfl)
  rw [lg_entry_eq]
  generalize (lg_sl [.ref aX, .int d9, .int i9, .ref aO] ++ List.replicate (5 - (lg_sl [.ref aX, .int d9, .int i9, .ref aO]).length) Slot.unset).toArray = ls at hl ⊢
  have hl : lv_has ls 5 [(0, .ref aX), (1, .int d9), (2, .int i9), (3, .ref aO)] := hl
  refine lv_aload_n hx hb dL_written_0 rfl (lv_at hl 3 rfl) ?_
  refine lv_iconst (v := 0) hx hb dL_written_1 (by decide) ?_
  refine lv_aload_n hx hb dL_written_2 rfl (lv_at hl 0 rfl) ?_
  refine lv_iload_n hx hb dL_written_3 rfl (lv_at hl 1 rfl) ?_
  refine lv_iload_n hx hb dL_written_4 rfl (lv_at hl 2 rfl) ?_
  refine x_callXi (w := w) (r := [(aO, oL cO fo)]) (vx_runV (As := [.int d9, .int i9]) (rest := [.int 0, .ref aO]) ⟨hx, hb, hml, hown, hB⟩ (hM _) (cwV 2 hB (gV ml_L_41 im_X_written sl_X_written ini_X kc_X_written) rfl rfl rfl (by decide +kernel) ⟨Nat.le_of_ble_eq_true rfl, Nat.le_of_ble_eq_true rfl⟩) (x_preVX (x_app_P hP).1 (hK.sub (tys' := xTys cI cD cE) [0, 1, 2] rfl) (x_app_D hD).1 hS hA hthr he rfl) rfl rfl hl.1 rfl (lv_room (Nat.le_of_ble_eq_true rfl)) dL_written_5 ⟨Nat.le_of_ble_eq_true rfl, Nat.le_of_ble_eq_true rfl⟩) hP hD hS hA (fun E ce q9 H locs hpx hP hD hS hc1 hc2 hc3 => ?_) (fun v9 w1 H locs hw hP hD hS => ?_)
  · obtain rfl := hE E hpx
    refine vx_catch (own := NmL) (name := eIAE) (E := eIAE) hown [] ⟨0, 10, 13, 13⟩ [] (by rw [htab]; rfl) (fun z hz => by cases hz) (by decide) (by decide) (hB _ cl_L_13) (va_Nw.use rfl (hthr.2.1 _ (List.mem_of_getElem? (i := 0) rfl))) hc1 hc2 hc3 ?_
    refine lv_astore (lv' := [(4, .ref q9), (0, .ref aX), (1, .int d9), (2, .int i9), (3, .ref aO)]) hx hb dL_written_13 hl (by decide) rfl (fun ls hl => ?_)
    refine lv_iconst (v := 1) hx hb dL_written_15 (by decide) ?_
    exact W.iret (v := 1) hx hb hr (fun t ht hW => ⟨⟨1, (w, fo), rfl, Or.inr (Or.inl ⟨rfl, Or.inl hpx, rfl⟩), by show va_P G vwCl _ t.heap; rw [ht]; exact hP, va_K.moved hW.alike hK, hD⟩, hS.F ht⟩) hS.2.2 dL_written_16
  · refine lv_i2l (v := v9.toInt64) hx hb dL_written_8 rfl ?_
    refine va_last hx hb hK hP hD hS w1.length 3 x_app_get rfl (i := 0) (vp_in_nI (n := 0) (N := 1) (by decide) (by decide)) dL_written_9 (fun H locs hP hD hS => ?_)
    rw [x_app_set] at hP hD
    refine lv_goto (tgt := 17) hx hb dL_written_10 (by decide) ?_
    refine lv_iconst (v := 0) hx hb dL_written_17 (by decide) ?_
    exact W.iret (v := 0) hx hb hr (fun t ht hW => ⟨⟨0, (w1, vp_updL fo 0 v9.toInt64), rfl, Or.inl ⟨rfl, v9, hw, rfl⟩, by show va_P G vwCl _ t.heap; rw [ht]; exact hP, va_K.moved hW.alike hK, hD⟩, hS.F ht⟩) hS.2.2 dL_written_18
set_option maxHeartbeats 4000000 in
set_option maxRecDepth 100000 in
theorem c_L_of {l : Launch} {G : va_G} {cI cD cE cO : ClassId} {aX aO sz : Nat} {w : va_W} {fs9 : List Value} {fo : Nat → Int64} {post : Int32 → va_W → Prop} {pX : String → Prop} (e9 x : Int32) (he : w[0]? = some (aX, .inr (ciX, fs9))) (hE : ∀ E, pX E → E = eIOB) (hM : ∀ sz, xXi l yX_of wsX_of ({ frames := 6, cells := 1, slots := 6, locals := 90 }) [.ref aX, .int e9, .int x] G (xTys cI cD cE) w sz post pX 1 6) :
    Met l yL_of wsL_of ({ frames := 7, cells := 1, slots := 6, locals := 113 }) (va_Pc [.ref aX, .int e9, .int x, .ref aO] (fun U => xPreX G (lTys cI cD cE cO) (w ++ ([(aO, oL cO fo)] : va_W)) sz U ∧ va_Nc eISE eIAE U)) (va_Qi (lPost post pX w fo) (fun u t => xEnd G (lTys cI cD cE cO) (va_A (w ++ ([(aO, oL cO fo)] : va_W)) sz) (u.1 ++ [(aO, oL cO u.2)]) t) (va_A (w ++ ([(aO, oL cO fo)] : va_W)) sz)) 1 6 (va_A (w ++ ([(aO, oL cO fo)] : va_W)) sz) := by
  refine va_MetW (cc := cL_of) (maxL := 5) (ret := (some .int)) (hh := [(0, 10, 13, 39)]) (by decide) rfl ?_
  intro p e s m args below meth c s₁ B hml hv
  obtain ⟨rfl, ⟨⟨hsz, hP, hK, hD0⟩, hthr⟩, hnc⟩ := hv
  subst hsz
  have hx := B.exec
  have hb := B.bytes
  have hr := B.returns
  have hlocks := B.notSynchronized
  have hown : s.vm.findClass NmL = some m.cls := findClass_of_methodNamed B.named
  have hB : ∀ w ∈ BIG, w.before [.ref aX, .int e9, .int x, .ref aO].toArray s = true := fun w h => atoms_spec (ws := wsL_of) B.pre w (List.mem_cons_of_mem _ h)
  have htab : c.exceptionTable.toList = tableOf [(0, 10, 13, 39)] := vx_table (x := yL_of) B (atoms_spec (ws := wsL_of) B.pre _ List.mem_cons_self)
  have hD := hD0.self (sz := s.heap.size)
  generalize hAe : va_A (w ++ ([(aO, oL cO fo)] : va_W)) s.heap.size = A at hD hthr ⊢
  have hA : ∀ q : Nat, s.heap.size ≤ q → A q := fun q h => by rw [← hAe]; exact Or.inr h
  have hS : va_S A s.heap s.heap [] := va_S.rf
  have hl := lv_entry [.ref aX, .int e9, .int x, .ref aO] (n := 5) (Nat.le_of_ble_eq_true rfl)
  rw [lg_entry_eq]
  generalize (lg_sl [.ref aX, .int e9, .int x, .ref aO] ++ List.replicate (5 - (lg_sl [.ref aX, .int e9, .int x, .ref aO]).length) Slot.unset).toArray = ls at hl ⊢
  have hl : lv_has ls 5 [(0, .ref aX), (1, .int e9), (2, .int x), (3, .ref aO)] := hl
  refine lv_aload_n hx hb dL_of_0 rfl (lv_at hl 3 rfl) ?_
  refine lv_iconst (v := 0) hx hb dL_of_1 (by decide) ?_
  refine lv_aload_n hx hb dL_of_2 rfl (lv_at hl 0 rfl) ?_
  refine lv_iload_n hx hb dL_of_3 rfl (lv_at hl 1 rfl) ?_
  refine lv_iload_n hx hb dL_of_4 rfl (lv_at hl 2 rfl) ?_
  refine x_callXi (w := w) (r := [(aO, oL cO fo)]) (vx_runV (As := [.int e9, .int x]) (rest := [.int 0, .ref aO]) ⟨hx, hb, hml, hown, hB⟩ (hM _) (cwV 2 hB (gV ml_L_44 im_X_of sl_X_of ini_X kc_X_of) rfl rfl rfl (by decide +kernel) ⟨Nat.le_of_ble_eq_true rfl, Nat.le_of_ble_eq_true rfl⟩) (x_preVX (x_app_P hP).1 (hK.sub (tys' := xTys cI cD cE) [0, 1, 2] rfl) (x_app_D hD).1 hS hA hthr he rfl) rfl rfl hl.1 rfl (lv_room (Nat.le_of_ble_eq_true rfl)) dL_of_5 ⟨Nat.le_of_ble_eq_true rfl, Nat.le_of_ble_eq_true rfl⟩) hP hD hS hA (fun E ce q9 H locs hpx hP hD hS hc1 hc2 hc3 => ?_) (fun v9 w1 H locs hw hP hD hS => ?_)
  · obtain rfl := hE E hpx
    refine vx_catch (own := NmL) (name := eIOB) (E := eIOB) hown [] ⟨0, 10, 13, 39⟩ [] (by rw [htab]; rfl) (fun z hz => by cases hz) (by decide) (by decide) (hB _ cl_L_39) (va_Nw.use rfl (hthr.2.1 _ (List.mem_of_getElem? (i := 2) rfl))) hc1 hc2 hc3 ?_
    refine lv_astore (lv' := [(4, .ref q9), (0, .ref aX), (1, .int e9), (2, .int x), (3, .ref aO)]) hx hb dL_of_13 hl (by decide) rfl (fun ls hl => ?_)
    refine lv_iconst (v := 1) hx hb dL_of_15 (by decide) ?_
    exact W.iret (v := 1) hx hb hr (fun t ht hW => ⟨⟨1, (w, fo), rfl, Or.inr (Or.inl ⟨rfl, Or.inr hpx, rfl⟩), by show va_P G vwCl _ t.heap; rw [ht]; exact hP, va_K.moved hW.alike hK, hD⟩, hS.F ht⟩) hS.2.2 dL_of_16
  · refine lv_i2l (v := v9.toInt64) hx hb dL_of_8 rfl ?_
    refine va_last hx hb hK hP hD hS w1.length 3 x_app_get rfl (i := 0) (vp_in_nI (n := 0) (N := 1) (by decide) (by decide)) dL_of_9 (fun H locs hP hD hS => ?_)
    rw [x_app_set] at hP hD
    refine lv_goto (tgt := 17) hx hb dL_of_10 (by decide) ?_
    refine lv_iconst (v := 0) hx hb dL_of_17 (by decide) ?_
    exact W.iret (v := 0) hx hb hr (fun t ht hW => ⟨⟨0, (w1, vp_updL fo 0 v9.toInt64), rfl, Or.inl ⟨rfl, v9, hw, rfl⟩, by show va_P G vwCl _ t.heap; rw [ht]; exact hP, va_K.moved hW.alike hK, hD⟩, hS.F ht⟩) hS.2.2 dL_of_18
