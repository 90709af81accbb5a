set_option maxHeartbeats 4000000 in
set_option maxRecDepth 100000 in
theorem c_E_isWaiting {l : Launch} {G : va_G} {cI cD cE : ClassId} {aX aR aD aE : Nat} {dA eA : Nat → Nat} {g ro : Nat → Int32} {fst : Option Nat} {nD nE : Nat} {d : Nat → Nat → Int32} {fw lw : Nat → Option Nat} {ed : Nat → Nat} {ev : Nat → Nat → Int32} {nx : Nat → Option Nat} {w : va_W} {sz : Nat} (hR : RX cI cD cE aX aR aD aE dA eA g ro fst nD nE d fw lw ed ev nx w) {k : Nat} (hk : k < nE) : xMi l yE_isWaiting wsE_isWaiting ({ frames := 0, cells := 0, slots := 0, locals := 0 }) [.ref (eA k)] G (xTys cI cD cE) w sz (fun r w' => r = fWaits (ev k) ∧ w = w') 0 0 := by
  refine x_ofW (fun A => va_Qi (fun r w' => r = fWaits (ev k) ∧ w = w') (xEnd G (xTys cI cD cE) A) A) cE_isWaiting 1 (some .boolean) (by decide) rfl (Nat.le_of_ble_eq_true rfl) ?_
  intro p e s m below meth c A ls hx hb hr hlocks hml hnm hown hB hA hP hK hD hS hl
  have hl : lv_has ls 1 [(0, .ref (eA k))] := hl
  have hown : s.vm.findClass NmE = some m.cls := hown
  refine lv_aload_n hx hb dE_isWaiting_0 rfl (lv_at hl 0 rfl) ?_
  refine x_getE 4 hk hx hb hB inBE hown hK hP hR (by decide) (by decide) (hB _ fl_E_25) rfl dE_isWaiting_1 ?_
  refine lv_iconst (v := (-1)) hx hb dE_isWaiting_4 (by decide) ?_
  refine lv_icmp_ne (tgt := 12) hx hb dE_isWaiting_5 (by decide) (fun c1 => ?_) (fun c1 => ?_)
  · refine lv_iconst (v := 0) hx hb dE_isWaiting_12 (by decide) ?_
    exact x_zret (v := 0) hx hb hr hlocks rfl ⟨by first | (simp [fWaits, c1]; done) | simp_all [fWaits], rfl⟩ hP hK hD hS dE_isWaiting_13
  · refine lv_iconst (v := 1) hx hb dE_isWaiting_8 (by decide) ?_
    refine lv_goto (tgt := 13) hx hb dE_isWaiting_9 (by decide) ?_
    exact x_zret (v := 1) hx hb hr hlocks rfl ⟨by first | (simp [fWaits, c1]; done) | simp_all [fWaits], rfl⟩ hP hK hD hS dE_isWaiting_13
set_option maxHeartbeats 4000000 in
set_option maxRecDepth 100000 in
theorem c_E_goesAheadOf {l : Launch} {G : va_G} {cI cD cE : ClassId} {aX aR aD aE : Nat} {dA eA : Nat → Nat} {g ro : Nat → Int32} {fst : Option Nat} {nD nE : Nat} {d : Nat → Nat → Int32} {fw lw : Nat → Option Nat} {ed : Nat → Nat} {ev : Nat → Nat → Int32} {nx : Nat → Option Nat} {w : va_W} {sz : Nat} (hR : RX cI cD cE aX aR aD aE dA eA g ro fst nD nE d fw lw ed ev nx w) {k k2 : Nat} (hk : k < nE) (hk2 : k2 < nE) : xMi l yE_goesAheadOf wsE_goesAheadOf ({ frames := 0, cells := 0, slots := 0, locals := 0 }) [.ref (eA k), .ref (eA k2)] G (xTys cI cD cE) w sz (fun r w' => r = fAhead (ev k) (ev k2) ∧ w = w') 0 0 := by
  refine x_ofW (fun A => va_Qi (fun r w' => r = fAhead (ev k) (ev k2) ∧ w = w') (xEnd G (xTys cI cD cE) A) A) cE_goesAheadOf 2 (some .boolean) (by decide) rfl (Nat.le_of_ble_eq_true rfl) ?_
  intro p e s m below meth c A ls hx hb hr hlocks hml hnm hown hB hA hP hK hD hS hl
  have hl : lv_has ls 2 [(0, .ref (eA k)), (1, .ref (eA k2))] := hl
  have hown : s.vm.findClass NmE = some m.cls := hown
  refine lv_aload_n hx hb dE_goesAheadOf_0 rfl (lv_at hl 0 rfl) ?_
  refine x_getE 3 hk hx hb hB inBE hown hK hP hR (by decide) (by decide) (hB _ fl_E_22) rfl dE_goesAheadOf_1 ?_
  refine lv_aload_n hx hb dE_goesAheadOf_4 rfl (lv_at hl 1 rfl) ?_
  refine x_getE 3 hk2 hx hb hB inBE hown hK hP hR (by decide) (by decide) (hB _ fl_E_22) rfl dE_goesAheadOf_5 ?_
  refine lv_icmp_lt (tgt := 33) hx hb dE_goesAheadOf_8 (by decide) (fun c1 => ?_) (fun c1 => ?_)
  · refine lv_iconst (v := 1) hx hb dE_goesAheadOf_33 (by decide) ?_
    refine lv_goto (tgt := 38) hx hb dE_goesAheadOf_34 (by decide) ?_
    exact x_zret (v := 1) hx hb hr hlocks rfl ⟨by first | (simp [fAhead, c1]; done) | simp_all [fAhead], rfl⟩ hP hK hD hS dE_goesAheadOf_38
  · refine lv_aload_n hx hb dE_goesAheadOf_11 rfl (lv_at hl 0 rfl) ?_
    refine x_getE 3 hk hx hb hB inBE hown hK hP hR (by decide) (by decide) (hB _ fl_E_22) rfl dE_goesAheadOf_12 ?_
    refine lv_aload_n hx hb dE_goesAheadOf_15 rfl (lv_at hl 1 rfl) ?_
    refine x_getE 3 hk2 hx hb hB inBE hown hK hP hR (by decide) (by decide) (hB _ fl_E_22) rfl dE_goesAheadOf_16 ?_
    refine lv_icmp_ne (tgt := 37) hx hb dE_goesAheadOf_19 (by decide) (fun c2 => ?_) (fun c2 => ?_)
    · refine lv_iconst (v := 0) hx hb dE_goesAheadOf_37 (by decide) ?_
      exact x_zret (v := 0) hx hb hr hlocks rfl ⟨by first | (simp [fAhead, c1, c2]; done) | simp_all [fAhead], rfl⟩ hP hK hD hS dE_goesAheadOf_38
    · refine lv_aload_n hx hb dE_goesAheadOf_22 rfl (lv_at hl 0 rfl) ?_
      refine x_getE 1 hk hx hb hB inBE hown hK hP hR (by decide) (by decide) (hB _ fl_E_15) rfl dE_goesAheadOf_23 ?_
      refine lv_aload_n hx hb dE_goesAheadOf_26 rfl (lv_at hl 1 rfl) ?_
      refine x_getE 1 hk2 hx hb hB inBE hown hK hP hR (by decide) (by decide) (hB _ fl_E_15) rfl dE_goesAheadOf_27 ?_
      refine lv_icmp_ge (tgt := 37) hx hb dE_goesAheadOf_30 (by decide) (fun c3 => ?_) (fun c3 => ?_)
      · refine lv_iconst (v := 0) hx hb dE_goesAheadOf_37 (by decide) ?_
        exact x_zret (v := 0) hx hb hr hlocks rfl ⟨by first | (simp [fAhead, c1, c2, c3]; done) | simp_all [fAhead], rfl⟩ hP hK hD hS dE_goesAheadOf_38
      · refine lv_iconst (v := 1) hx hb dE_goesAheadOf_33 (by decide) ?_
        refine lv_goto (tgt := 38) hx hb dE_goesAheadOf_34 (by decide) ?_
        exact x_zret (v := 1) hx hb hr hlocks rfl ⟨by first | (simp [fAhead, c1, c2, c3]; done) | simp_all [fAhead], rfl⟩ hP hK hD hS dE_goesAheadOf_38
set_option maxHeartbeats 4000000 in
set_option maxRecDepth 100000 in
theorem c_X_isWithin {l : Launch} {G : va_G} {cI cD cE : ClassId} {aX aR aD aE : Nat} {dA eA : Nat → Nat} {g ro : Nat → Int32} {fst : Option Nat} {nD nE : Nat} {d : Nat → Nat → Int32} {fw lw : Nat → Option Nat} {ed : Nat → Nat} {ev : Nat → Nat → Int32} {nx : Nat → Option Nat} {w : va_W} {sz : Nat} (hR : RX cI cD cE aX aR aD aE dA eA g ro fst nD nE d fw lw ed ev nx w) (v l9 : Int32) : xMi l yX_isWithin wsX_isWithin ({ frames := 0, cells := 0, slots := 0, locals := 0 }) [.int v, .int l9] G (xTys cI cD cE) w sz (fun r w' => r = fWithin v l9 ∧ w = w') 0 0 := by
  refine x_ofW (fun A => va_Qi (fun r w' => r = fWithin v l9 ∧ w = w') (xEnd G (xTys cI cD cE) A) A) cX_isWithin 2 (some .boolean) (by decide) rfl (Nat.le_of_ble_eq_true rfl) ?_
  intro p e s m below meth c A ls hx hb hr hlocks hml hnm hown hB hA hP hK hD hS hl
  have hl : lv_has ls 2 [(0, .int v), (1, .int l9)] := hl
  have hown : s.vm.findClass NmX = some m.cls := hown
  refine lv_iload_n hx hb dX_isWithin_0 rfl (lv_at hl 0 rfl) ?_
  refine lv_if_lt (tgt := 13) hx hb dX_isWithin_1 (by decide) (fun c1 => ?_) (fun c1 => ?_)
  · refine lv_iconst (v := 0) hx hb dX_isWithin_13 (by decide) ?_
    exact x_zret (v := 0) hx hb hr hlocks rfl ⟨by first | (simp [fWithin, c1]; done) | simp_all [fWithin], rfl⟩ hP hK hD hS dX_isWithin_14
  · refine lv_iload_n hx hb dX_isWithin_4 rfl (lv_at hl 0 rfl) ?_
    refine lv_iload_n hx hb dX_isWithin_5 rfl (lv_at hl 1 rfl) ?_
    refine lv_icmp_gt (tgt := 13) hx hb dX_isWithin_6 (by decide) (fun c2 => ?_) (fun c2 => ?_)
    · refine lv_iconst (v := 0) hx hb dX_isWithin_13 (by decide) ?_
      exact x_zret (v := 0) hx hb hr hlocks rfl ⟨by first | (simp [fWithin, c1, c2]; done) | simp_all [fWithin], rfl⟩ hP hK hD hS dX_isWithin_14
    · refine lv_iconst (v := 1) hx hb dX_isWithin_9 (by decide) ?_
      refine lv_goto (tgt := 14) hx hb dX_isWithin_10 (by decide) ?_
      exact x_zret (v := 1) hx hb hr hlocks rfl ⟨by first | (simp [fWithin, c1, c2]; done) | simp_all [fWithin], rfl⟩ hP hK hD hS dX_isWithin_14
set_option maxHeartbeats 4000000 in
set_option maxRecDepth 100000 in
theorem c_X_isPerson {l : Launch} {G : va_G} {cI cD cE : ClassId} {aX aR aD aE : Nat} {dA eA : Nat → Nat} {g ro : Nat → Int32} {fst : Option Nat} {nD nE : Nat} {d : Nat → Nat → Int32} {fw lw : Nat → Option Nat} {ed : Nat → Nat} {ev : Nat → Nat → Int32} {nx : Nat → Option Nat} {w : va_W} {sz : Nat} (hR : RX cI cD cE aX aR aD aE dA eA g ro fst nD nE d fw lw ed ev nx w) (v : Int32) : xMi l yX_isPerson wsX_isPerson ({ frames := 0, cells := 0, slots := 0, locals := 0 }) [.ref aX, .int v] G (xTys cI cD cE) w sz (fun r w' => r = fPerson g v ∧ w = w') 0 0 := by
  refine x_ofW (fun A => va_Qi (fun r w' => r = fPerson g v ∧ w = w') (xEnd G (xTys cI cD cE) A) A) cX_isPerson 2 (some .boolean) (by decide) rfl (Nat.le_of_ble_eq_true rfl) ?_
  intro p e s m below meth c A ls hx hb hr hlocks hml hnm hown hB hA hP hK hD hS hl
  have hl : lv_has ls 2 [(0, .ref aX), (1, .int v)] := hl
  have hown : s.vm.findClass NmX = some m.cls := hown
  refine lv_iload_n hx hb dX_isPerson_0 rfl (lv_at hl 1 rfl) ?_
  refine lv_if_lt (tgt := 25) hx hb dX_isPerson_1 (by decide) (fun c1 => ?_) (fun c1 => ?_)
  · refine lv_iconst (v := 0) hx hb dX_isPerson_25 (by decide) ?_
    exact x_zret (v := 0) hx hb hr hlocks rfl ⟨by first | (simp [fPerson, c1]; done) | simp_all [fPerson], rfl⟩ hP hK hD hS dX_isPerson_26
  · refine lv_iload_n hx hb dX_isPerson_4 rfl (lv_at hl 1 rfl) ?_
    refine lv_aload_n hx hb dX_isPerson_5 rfl (lv_at hl 0 rfl) ?_
    refine x_getX 1 hx hb hB inBX hown hK hP hR rfl (hB _ fl_X_43) rfl dX_isPerson_6 ?_
    refine lv_icmp_ge (tgt := 25) hx hb dX_isPerson_9 (by decide) (fun c2 => ?_) (fun c2 => ?_)
    · refine lv_iconst (v := 0) hx hb dX_isPerson_25 (by decide) ?_
      exact x_zret (v := 0) hx hb hr hlocks rfl ⟨by first | (simp [fPerson, c1, c2]; done) | simp_all [fPerson], rfl⟩ hP hK hD hS dX_isPerson_26
    · refine lv_iload_n hx hb dX_isPerson_12 rfl (lv_at hl 1 rfl) ?_
      refine lv_aload_n hx hb dX_isPerson_13 rfl (lv_at hl 0 rfl) ?_
      refine x_getA0 hx hb hB inBX hown hK hP hR (hB _ fl_X_9) dX_isPerson_14 ?_
      refine va_alen hx hb hK hP 1 0 hR.r rfl (v := 12) rfl dX_isPerson_17 ?_
      refine lv_icmp_ge (tgt := 25) hx hb dX_isPerson_18 (by decide) (fun c3 => ?_) (fun c3 => ?_)
      · refine lv_iconst (v := 0) hx hb dX_isPerson_25 (by decide) ?_
        exact x_zret (v := 0) hx hb hr hlocks rfl ⟨by first | (simp [fPerson, c1, c2, c3]; done) | simp_all [fPerson], rfl⟩ hP hK hD hS dX_isPerson_26
      · refine lv_iconst (v := 1) hx hb dX_isPerson_21 (by decide) ?_
        refine lv_goto (tgt := 26) hx hb dX_isPerson_22 (by decide) ?_
        exact x_zret (v := 1) hx hb hr hlocks rfl ⟨by first | (simp [fPerson, c1, c2, c3]; done) | simp_all [fPerson], rfl⟩ hP hK hD hS dX_isPerson_26
set_option maxHeartbeats 4000000 in
set_option maxRecDepth 100000 in
theorem c_X_roleOf {l : Launch} {G : va_G} {cI cD cE : ClassId} {aX aR aD aE : Nat} {dA eA : Nat → Nat} {g ro : Nat → Int32} {fst : Option Nat} {nD nE : Nat} {d : Nat → Nat → Int32} {fw lw : Nat → Option Nat} {ed : Nat → Nat} {ev : Nat → Nat → Int32} {nx : Nat → Option Nat} {w : va_W} {sz : Nat} (hR : RX cI cD cE aX aR aD aE dA eA g ro fst nD nE d fw lw ed ev nx w) (v : Int32) : xMi l yX_roleOf wsX_roleOf ({ frames := 1, cells := 0, slots := 0, locals := 21 }) [.ref aX, .int v] G (xTys cI cD cE) w sz (fun r w' => r = fRole g ro v ∧ w = w') 0 0 := by
  refine x_ofW (fun A => va_Qi (fun r w' => r = fRole g ro v ∧ w = w') (xEnd G (xTys cI cD cE) A) A) cX_roleOf 2 (some .int) (by decide) rfl (Nat.le_of_ble_eq_true rfl) ?_
  intro p e s m below meth c A ls hx hb hr hlocks hml hnm hown hB hA hP hK hD hS hl
  have hl : lv_has ls 2 [(0, .ref aX), (1, .int v)] := hl
  have hown : s.vm.findClass NmX = some m.cls := hown
  refine lv_aload_n hx hb dX_roleOf_0 rfl (lv_at hl 0 rfl) ?_
  refine lv_iload_n hx hb dX_roleOf_1 rfl (lv_at hl 1 rfl) ?_
  refine x_calli (va_runV (As := [.int v]) (rest := []) ⟨hx, hb, hml, hown, hB⟩ (c_X_isPerson hR v) (cwV 1 hB (gV ml_X_71 im_X_isPerson sl_X_isPerson ini_X kc_X_isPerson) rfl rfl rfl (by decide +kernel) ⟨Nat.le_of_ble_eq_true rfl, Nat.le_of_ble_eq_true rfl⟩) (x_preV hP hK hD hR.x rfl) rfl rfl hl.1 rfl (lv_room (Nat.le_of_ble_eq_true rfl)) dX_roleOf_2 ⟨Nat.le_of_ble_eq_true rfl, Nat.le_of_ble_eq_true rfl⟩) hD hS hA (fun r1 w H locs hw hP hD hS => ?_)
  obtain ⟨e2, rfl⟩ := hw
  refine lv_if_eq (tgt := 17) hx hb dX_roleOf_5 (by decide) (fun c3 => ?_) (fun c3 => ?_)
  · refine lv_iconst (v := (-1)) hx hb dX_roleOf_17 (by decide) ?_
    exact x_iret (v := (-1)) hx hb hr hlocks ⟨by first | (simp_all [fRole]; done), rfl⟩ hP hK hD hS dX_roleOf_18
  · refine lv_aload_n hx hb dX_roleOf_8 rfl (lv_at hl 0 rfl) ?_
    refine x_getA0 hx hb hB inBX hown hK hP hR (hB _ fl_X_9) dX_roleOf_9 ?_
    refine lv_iload_n hx hb dX_roleOf_12 rfl (lv_at hl 1 rfl) ?_
    refine va_iald hx hb hK hP 1 0 hR.r rfl (fPerson_in (g := g) (by rw [← e2]; exact c3)) dX_roleOf_13 ?_
    refine lv_goto (tgt := 18) hx hb dX_roleOf_14 (by decide) ?_
    exact x_iret (v := ro v.toNatClampNeg) hx hb hr hlocks ⟨by first | (simp_all [fRole]; done), rfl⟩ hP hK hD hS dX_roleOf_18
set_option maxHeartbeats 4000000 in
set_option maxRecDepth 100000 in
theorem c_X_declarationAt {l : Launch} {G : va_G} {cI cD cE : ClassId} {aX aR aD aE : Nat} {dA eA : Nat → Nat} {g ro : Nat → Int32} {fst : Option Nat} {nD nE : Nat} {d : Nat → Nat → Int32} {fw lw : Nat → Option Nat} {ed : Nat → Nat} {ev : Nat → Nat → Int32} {nx : Nat → Option Nat} {w : va_W} {sz : Nat} (hR : RX cI cD cE aX aR aD aE dA eA g ro fst nD nE d fw lw ed ev nx w) (hg3 : g 3 = nI nD) (hnD : nD ≤ 20) (v : Int32) : xMq l yX_declarationAt wsX_declarationAt ({ frames := 0, cells := 0, slots := 0, locals := 0 }) [.ref aX, .int v] G (xTys cI cD cE) w sz (fun r w' => r = (fDeclAt g v).map dA ∧ w = w') 0 0 := by
  refine x_ofW (fun A => va_Qq (fun r w' => r = (fDeclAt g v).map dA ∧ w = w') (xEnd G (xTys cI cD cE) A) A) cX_declarationAt 3 (some (.object NmD)) (by decide) rfl (Nat.le_of_ble_eq_true rfl) ?_
  intro p e s m below meth c A ls hx hb hr hlocks hml hnm hown hB hA hP hK hD hS hl
  have hl : lv_has ls 3 [(0, .ref aX), (1, .int v)] := hl
  have hown : s.vm.findClass NmX = some m.cls := hown
  refine lv_iload_n hx hb dX_declarationAt_0 rfl (lv_at hl 1 rfl) ?_
  refine lv_if_lt (tgt := 25) hx hb dX_declarationAt_1 (by decide) (fun c1 => ?_) (fun c1 => ?_)
  · refine lv_iconst (v := 0) hx hb dX_declarationAt_25 (by decide) ?_
    refine lv_istore_n (lv' := [(2, .int 0), (0, .ref aX), (1, .int v)]) hx hb dX_declarationAt_26 rfl hl (by decide) rfl (fun ls hl => ?_)
    refine lv_iload_n hx hb dX_declarationAt_27 rfl (lv_at hl 0 rfl) ?_
    refine lv_if_eq (tgt := 40) hx hb dX_declarationAt_28 (by decide) (fun _ => ?_) (fun c2 => absurd c2 (by decide))
    refine lv_null hx hb dX_declarationAt_40 ?_
    exact x_qret (r := none) hx hb hr hlocks ⟨by simp [fDeclAt, c1], rfl⟩ hP hK hD hS dX_declarationAt_41
  · refine lv_iload_n hx hb dX_declarationAt_4 rfl (lv_at hl 1 rfl) ?_
    refine lv_aload_n hx hb dX_declarationAt_5 rfl (lv_at hl 0 rfl) ?_
    refine x_getX 3 hx hb hB inBX hown hK hP hR rfl (hB _ fl_X_59) rfl dX_declarationAt_6 ?_
    refine lv_icmp_ge (tgt := 25) hx hb dX_declarationAt_9 (by decide) (fun c3 => ?_) (fun c3 => ?_)
    · refine lv_iconst (v := 0) hx hb dX_declarationAt_25 (by decide) ?_
      refine lv_istore_n (lv' := [(2, .int 0), (0, .ref aX), (1, .int v)]) hx hb dX_declarationAt_26 rfl hl (by decide) rfl (fun ls hl => ?_)
      refine lv_iload_n hx hb dX_declarationAt_27 rfl (lv_at hl 0 rfl) ?_
      refine lv_if_eq (tgt := 40) hx hb dX_declarationAt_28 (by decide) (fun _ => ?_) (fun c4 => absurd c4 (by decide))
      refine lv_null hx hb dX_declarationAt_40 ?_
      exact x_qret (r := none) hx hb hr hlocks ⟨by simp [fDeclAt, c1, c3], rfl⟩ hP hK hD hS dX_declarationAt_41
    · refine lv_iload_n hx hb dX_declarationAt_12 rfl (lv_at hl 1 rfl) ?_
      refine lv_aload_n hx hb dX_declarationAt_13 rfl (lv_at hl 0 rfl) ?_
      refine x_getA2 hx hb hB inBX hown hK hP hR (hB _ fl_X_15) dX_declarationAt_14 ?_
      refine va_alen hx hb hK hP 2 1 hR.da rfl (v := 20) rfl dX_declarationAt_17 ?_
      refine lv_icmp_ge (tgt := 25) hx hb dX_declarationAt_18 (by decide) (fun c5 => ?_) (fun c5 => ?_)
      · refine lv_iconst (v := 0) hx hb dX_declarationAt_25 (by decide) ?_
        refine lv_istore_n (lv' := [(2, .int 0), (0, .ref aX), (1, .int v)]) hx hb dX_declarationAt_26 rfl hl (by decide) rfl (fun ls hl => ?_)
        refine lv_iload_n hx hb dX_declarationAt_27 rfl (lv_at hl 0 rfl) ?_
        refine lv_if_eq (tgt := 40) hx hb dX_declarationAt_28 (by decide) (fun _ => ?_) (fun c6 => absurd c6 (by decide))
        refine lv_null hx hb dX_declarationAt_40 ?_
        exact x_qret (r := none) hx hb hr hlocks ⟨by simp [fDeclAt, c1, c3, c5], rfl⟩ hP hK hD hS dX_declarationAt_41
      · refine lv_iconst (v := 1) hx hb dX_declarationAt_21 (by decide) ?_
        refine lv_goto (tgt := 26) hx hb dX_declarationAt_22 (by decide) ?_
        refine lv_istore_n (lv' := [(2, .int 1), (0, .ref aX), (1, .int v)]) hx hb dX_declarationAt_26 rfl hl (by decide) rfl (fun ls hl => ?_)
        refine lv_iload_n hx hb dX_declarationAt_27 rfl (lv_at hl 0 rfl) ?_
        refine lv_if_eq (tgt := 40) hx hb dX_declarationAt_28 (by decide) (fun c7 => absurd c7 (by decide)) (fun _ => ?_)
        refine lv_aload_n hx hb dX_declarationAt_31 rfl (lv_at hl 1 rfl) ?_
        refine x_getA2 hx hb hB inBX hown hK hP hR (hB _ fl_X_15) dX_declarationAt_32 ?_
        refine lv_iload_n hx hb dX_declarationAt_35 rfl (lv_at hl 2 rfl) ?_
        refine va_aldq hx hb hK hP 2 1 hR.da rfl (x_in rfl c1 c5) dX_declarationAt_36 ?_
        refine lv_goto (tgt := 41) hx hb dX_declarationAt_37 (by decide) ?_
        exact x_qret (r := rA dA nD v.toNatClampNeg) hx hb hr hlocks ⟨by have h9 := x_lt c1 (hg3 ▸ c3) (by omega); simp [fDeclAt, c1, c3, c5, rA, h9], rfl⟩ hP hK hD hS dX_declarationAt_41
set_option maxHeartbeats 4000000 in
set_option maxRecDepth 100000 in
theorem c_X_eventAt {l : Launch} {G : va_G} {cI cD cE : ClassId} {aX aR aD aE : Nat} {dA eA : Nat → Nat} {g ro : Nat → Int32} {fst : Option Nat} {nD nE : Nat} {d : Nat → Nat → Int32} {fw lw : Nat → Option Nat} {ed : Nat → Nat} {ev : Nat → Nat → Int32} {nx : Nat → Option Nat} {w : va_W} {sz : Nat} (hR : RX cI cD cE aX aR aD aE dA eA g ro fst nD nE d fw lw ed ev nx w) (hg5 : g 5 = nI nE) (hnE : nE ≤ 120) (v : Int32) : xMq l yX_eventAt wsX_eventAt ({ frames := 0, cells := 0, slots := 0, locals := 0 }) [.ref aX, .int v] G (xTys cI cD cE) w sz (fun r w' => r = (fEvAt g v).map eA ∧ w = w') 0 0 := by
  refine x_ofW (fun A => va_Qq (fun r w' => r = (fEvAt g v).map eA ∧ w = w') (xEnd G (xTys cI cD cE) A) A) cX_eventAt 3 (some (.object NmE)) (by decide) rfl (Nat.le_of_ble_eq_true rfl) ?_
  intro p e s m below meth c A ls hx hb hr hlocks hml hnm hown hB hA hP hK hD hS hl
  have hl : lv_has ls 3 [(0, .ref aX), (1, .int v)] := hl
  have hown : s.vm.findClass NmX = some m.cls := hown
  refine lv_iload_n hx hb dX_eventAt_0 rfl (lv_at hl 1 rfl) ?_
  refine lv_if_lt (tgt := 25) hx hb dX_eventAt_1 (by decide) (fun c1 => ?_) (fun c1 => ?_)
  · refine lv_iconst (v := 0) hx hb dX_eventAt_25 (by decide) ?_
    refine lv_istore_n (lv' := [(2, .int 0), (0, .ref aX), (1, .int v)]) hx hb dX_eventAt_26 rfl hl (by decide) rfl (fun ls hl => ?_)
    refine lv_iload_n hx hb dX_eventAt_27 rfl (lv_at hl 0 rfl) ?_
    refine lv_if_eq (tgt := 40) hx hb dX_eventAt_28 (by decide) (fun _ => ?_) (fun c2 => absurd c2 (by decide))
    refine lv_null hx hb dX_eventAt_40 ?_
    exact x_qret (r := none) hx hb hr hlocks ⟨by simp [fEvAt, c1], rfl⟩ hP hK hD hS dX_eventAt_41
  · refine lv_iload_n hx hb dX_eventAt_4 rfl (lv_at hl 1 rfl) ?_
    refine lv_aload_n hx hb dX_eventAt_5 rfl (lv_at hl 0 rfl) ?_
    refine x_getX 5 hx hb hB inBX hown hK hP hR rfl (hB _ fl_X_83) rfl dX_eventAt_6 ?_
    refine lv_icmp_ge (tgt := 25) hx hb dX_eventAt_9 (by decide) (fun c3 => ?_) (fun c3 => ?_)
    · refine lv_iconst (v := 0) hx hb dX_eventAt_25 (by decide) ?_
      refine lv_istore_n (lv' := [(2, .int 0), (0, .ref aX), (1, .int v)]) hx hb dX_eventAt_26 rfl hl (by decide) rfl (fun ls hl => ?_)
      refine lv_iload_n hx hb dX_eventAt_27 rfl (lv_at hl 0 rfl) ?_
      refine lv_if_eq (tgt := 40) hx hb dX_eventAt_28 (by decide) (fun _ => ?_) (fun c4 => absurd c4 (by decide))
      refine lv_null hx hb dX_eventAt_40 ?_
      exact x_qret (r := none) hx hb hr hlocks ⟨by simp [fEvAt, c1, c3], rfl⟩ hP hK hD hS dX_eventAt_41
    · refine lv_iload_n hx hb dX_eventAt_12 rfl (lv_at hl 1 rfl) ?_
      refine lv_aload_n hx hb dX_eventAt_13 rfl (lv_at hl 0 rfl) ?_
      refine x_getA4 hx hb hB inBX hown hK hP hR (hB _ fl_X_21) dX_eventAt_14 ?_
      refine va_alen hx hb hK hP 3 2 hR.ea rfl (v := 120) rfl dX_eventAt_17 ?_
      refine lv_icmp_ge (tgt := 25) hx hb dX_eventAt_18 (by decide) (fun c5 => ?_) (fun c5 => ?_)
      · refine lv_iconst (v := 0) hx hb dX_eventAt_25 (by decide) ?_
        refine lv_istore_n (lv' := [(2, .int 0), (0, .ref aX), (1, .int v)]) hx hb dX_eventAt_26 rfl hl (by decide) rfl (fun ls hl => ?_)
        refine lv_iload_n hx hb dX_eventAt_27 rfl (lv_at hl 0 rfl) ?_
        refine lv_if_eq (tgt := 40) hx hb dX_eventAt_28 (by decide) (fun _ => ?_) (fun c6 => absurd c6 (by decide))
        refine lv_null hx hb dX_eventAt_40 ?_
        exact x_qret (r := none) hx hb hr hlocks ⟨by simp [fEvAt, c1, c3, c5], rfl⟩ hP hK hD hS dX_eventAt_41
      · refine lv_iconst (v := 1) hx hb dX_eventAt_21 (by decide) ?_
        refine lv_goto (tgt := 26) hx hb dX_eventAt_22 (by decide) ?_
        refine lv_istore_n (lv' := [(2, .int 1), (0, .ref aX), (1, .int v)]) hx hb dX_eventAt_26 rfl hl (by decide) rfl (fun ls hl => ?_)
        refine lv_iload_n hx hb dX_eventAt_27 rfl (lv_at hl 0 rfl) ?_
        refine lv_if_eq (tgt := 40) hx hb dX_eventAt_28 (by decide) (fun c7 => absurd c7 (by decide)) (fun _ => ?_)
        refine lv_aload_n hx hb dX_eventAt_31 rfl (lv_at hl 1 rfl) ?_
        refine x_getA4 hx hb hB inBX hown hK hP hR (hB _ fl_X_21) dX_eventAt_32 ?_
        refine lv_iload_n hx hb dX_eventAt_35 rfl (lv_at hl 2 rfl) ?_
        refine va_aldq hx hb hK hP 3 2 hR.ea rfl (x_in rfl c1 c5) dX_eventAt_36 ?_
        refine lv_goto (tgt := 41) hx hb dX_eventAt_37 (by decide) ?_
        exact x_qret (r := rA eA nE v.toNatClampNeg) hx hb hr hlocks ⟨by have h9 := x_lt c1 (hg5 ▸ c3) (by omega); simp [fEvAt, c1, c3, c5, rA, h9], rfl⟩ hP hK hD hS dX_eventAt_41
set_option maxHeartbeats 4000000 in
set_option maxRecDepth 100000 in
theorem c_X_isFailing {l : Launch} {G : va_G} {cI cD cE : ClassId} {aX aR aD aE : Nat} {dA eA : Nat → Nat} {g ro : Nat → Int32} {fst : Option Nat} {nD nE : Nat} {d : Nat → Nat → Int32} {fw lw : Nat → Option Nat} {ed : Nat → Nat} {ev : Nat → Nat → Int32} {nx : Nat → Option Nat} {w : va_W} {sz : Nat} (hR : RX cI cD cE aX aR aD aE dA eA g ro fst nD nE d fw lw ed ev nx w) (v : Int32) : xMi l yX_isFailing wsX_isFailing ({ frames := 0, cells := 0, slots := 0, locals := 0 }) [.ref aX, .int v] G (xTys cI cD cE) w sz (fun r w' => r = fBit (g 11) v ∧ w = w') 0 0 := by
  refine x_ofW (fun A => va_Qi (fun r w' => r = fBit (g 11) v ∧ w = w') (xEnd G (xTys cI cD cE) A) A) cX_isFailing 2 (some .boolean) (by decide) rfl (Nat.le_of_ble_eq_true rfl) ?_
  intro p e s m below meth c A ls hx hb hr hlocks hml hnm hown hB hA hP hK hD hS hl
  have hl : lv_has ls 2 [(0, .ref aX), (1, .int v)] := hl
  have hown : s.vm.findClass NmX = some m.cls := hown
  refine lv_aload_n hx hb dX_isFailing_0 rfl (lv_at hl 0 rfl) ?_
  refine x_getX 11 hx hb hB inBX hown hK hP hR rfl (hB _ fl_X_116) rfl dX_isFailing_1 ?_
  refine lv_iconst (v := 1) hx hb dX_isFailing_4 (by decide) ?_
  refine lv_iload_n hx hb dX_isFailing_5 rfl (lv_at hl 1 rfl) ?_
  refine lv_ishl hx hb dX_isFailing_6 ?_
  refine lv_iand hx hb dX_isFailing_7 ?_
  refine lv_if_eq (tgt := 15) hx hb dX_isFailing_8 (by decide) (fun c1 => ?_) (fun c1 => ?_)
  · refine lv_iconst (v := 0) hx hb dX_isFailing_15 (by decide) ?_
    exact x_zret (v := 0) hx hb hr hlocks rfl ⟨by first | (simp [fBit, c1]; done) | simp_all [fBit], rfl⟩ hP hK hD hS dX_isFailing_16
  · refine lv_iconst (v := 1) hx hb dX_isFailing_11 (by decide) ?_
    refine lv_goto (tgt := 16) hx hb dX_isFailing_12 (by decide) ?_
    exact x_zret (v := 1) hx hb hr hlocks rfl ⟨by first | (simp [fBit, c1]; done) | simp_all [fBit], rfl⟩ hP hK hD hS dX_isFailing_16
set_option maxHeartbeats 4000000 in
set_option maxRecDepth 100000 in
theorem c_X_isOfficersAct {l : Launch} {G : va_G} {cI cD cE : ClassId} {aX aR aD aE : Nat} {dA eA : Nat → Nat} {g ro : Nat → Int32} {fst : Option Nat} {nD nE : Nat} {d : Nat → Nat → Int32} {fw lw : Nat → Option Nat} {ed : Nat → Nat} {ev : Nat → Nat → Int32} {nx : Nat → Option Nat} {w : va_W} {sz : Nat} (hR : RX cI cD cE aX aR aD aE dA eA g ro fst nD nE d fw lw ed ev nx w) (v : Int32) : xMi l yX_isOfficersAct wsX_isOfficersAct ({ frames := 0, cells := 0, slots := 0, locals := 0 }) [.int v] G (xTys cI cD cE) w sz (fun r w' => r = fOfficers v ∧ w = w') 0 0 := by
  refine x_ofW (fun A => va_Qi (fun r w' => r = fOfficers v ∧ w = w') (xEnd G (xTys cI cD cE) A) A) cX_isOfficersAct 1 (some .boolean) (by decide) rfl (Nat.le_of_ble_eq_true rfl) ?_
  intro p e s m below meth c A ls hx hb hr hlocks hml hnm hown hB hA hP hK hD hS hl
  have hl : lv_has ls 1 [(0, .int v)] := hl
  have hown : s.vm.findClass NmX = some m.cls := hown
  refine lv_iload_n hx hb dX_isOfficersAct_0 rfl (lv_at hl 0 rfl) ?_
  refine lv_iconst (v := 2) hx hb dX_isOfficersAct_1 (by decide) ?_
  refine lv_icmp_lt (tgt := 10) hx hb dX_isOfficersAct_2 (by decide) (fun c1 => ?_) (fun c1 => ?_)
  · refine lv_iload_n hx hb dX_isOfficersAct_10 rfl (lv_at hl 0 rfl) ?_
    refine lv_bipush (v := 8) hx hb dX_isOfficersAct_11 (by decide) ?_
    refine lv_icmp_ne (tgt := 20) hx hb dX_isOfficersAct_13 (by decide) (fun c2 => ?_) (fun c2 => ?_)
    · refine lv_iconst (v := 0) hx hb dX_isOfficersAct_20 (by decide) ?_
      exact x_zret (v := 0) hx hb hr hlocks rfl ⟨by first | (simp [fOfficers, c1, c2]; done) | simp_all [fOfficers], rfl⟩ hP hK hD hS dX_isOfficersAct_21
    · refine lv_iconst (v := 1) hx hb dX_isOfficersAct_16 (by decide) ?_
      refine lv_goto (tgt := 21) hx hb dX_isOfficersAct_17 (by decide) ?_
      exact x_zret (v := 1) hx hb hr hlocks rfl ⟨by first | (simp [fOfficers, c1, c2]; done) | simp_all [fOfficers], rfl⟩ hP hK hD hS dX_isOfficersAct_21
  · refine lv_iload_n hx hb dX_isOfficersAct_5 rfl (lv_at hl 0 rfl) ?_
    refine lv_iconst (v := 5) hx hb dX_isOfficersAct_6 (by decide) ?_
    refine lv_icmp_le (tgt := 16) hx hb dX_isOfficersAct_7 (by decide) (fun c3 => ?_) (fun c3 => ?_)
    · refine lv_iconst (v := 1) hx hb dX_isOfficersAct_16 (by decide) ?_
      refine lv_goto (tgt := 21) hx hb dX_isOfficersAct_17 (by decide) ?_
      exact x_zret (v := 1) hx hb hr hlocks rfl ⟨by first | (simp [fOfficers, c1, c3]; done) | simp_all [fOfficers], rfl⟩ hP hK hD hS dX_isOfficersAct_21
    · refine lv_iload_n hx hb dX_isOfficersAct_10 rfl (lv_at hl 0 rfl) ?_
      refine lv_bipush (v := 8) hx hb dX_isOfficersAct_11 (by decide) ?_
      refine lv_icmp_ne (tgt := 20) hx hb dX_isOfficersAct_13 (by decide) (fun c4 => ?_) (fun c4 => ?_)
      · refine lv_iconst (v := 0) hx hb dX_isOfficersAct_20 (by decide) ?_
        exact x_zret (v := 0) hx hb hr hlocks rfl ⟨by first | (simp [fOfficers, c1, c3, c4]; done) | simp_all [fOfficers], rfl⟩ hP hK hD hS dX_isOfficersAct_21
      · refine lv_iconst (v := 1) hx hb dX_isOfficersAct_16 (by decide) ?_
        refine lv_goto (tgt := 21) hx hb dX_isOfficersAct_17 (by decide) ?_
        exact x_zret (v := 1) hx hb hr hlocks rfl ⟨by first | (simp [fOfficers, c1, c3, c4]; done) | simp_all [fOfficers], rfl⟩ hP hK hD hS dX_isOfficersAct_21
set_option maxHeartbeats 4000000 in
set_option maxRecDepth 100000 in
theorem c_X_isOpenAt {l : Launch} {G : va_G} {cI cD cE : ClassId} {aX aR aD aE : Nat} {dA eA : Nat → Nat} {g ro : Nat → Int32} {fst : Option Nat} {nD nE : Nat} {d : Nat → Nat → Int32} {fw lw : Nat → Option Nat} {ed : Nat → Nat} {ev : Nat → Nat → Int32} {nx : Nat → Option Nat} {w : va_W} {sz : Nat} (hR : RX cI cD cE aX aR aD aE dA eA g ro fst nD nE d fw lw ed ev nx w) (v : Int32) : xMi l yX_isOpenAt wsX_isOpenAt ({ frames := 0, cells := 0, slots := 0, locals := 0 }) [.ref aX, .int v] G (xTys cI cD cE) w sz (fun r w' => r = fOpen g v ∧ w = w') 0 0 := by
  refine x_ofW (fun A => va_Qi (fun r w' => r = fOpen g v ∧ w = w') (xEnd G (xTys cI cD cE) A) A) cX_isOpenAt 3 (some .boolean) (by decide) rfl (Nat.le_of_ble_eq_true rfl) ?_
  intro p e s m below meth c A ls hx hb hr hlocks hml hnm hown hB hA hP hK hD hS hl
  have hl : lv_has ls 3 [(0, .ref aX), (1, .int v)] := hl
  have hown : s.vm.findClass NmX = some m.cls := hown
  refine lv_iload_n hx hb dX_isOpenAt_0 rfl (lv_at hl 1 rfl) ?_
  refine lv_bipush (v := 24) hx hb dX_isOpenAt_1 (by decide) ?_
  refine lv_irem hx hb dX_isOpenAt_3 (by decide) ?_
  refine lv_istore_n (lv' := [(2, .int (v - v / 24 * 24)), (0, .ref aX), (1, .int v)]) hx hb dX_isOpenAt_4 rfl hl (by decide) rfl (fun ls hl => ?_)
  refine lv_iload_n hx hb dX_isOpenAt_5 rfl (lv_at hl 0 rfl) ?_
  refine lv_aload_n hx hb dX_isOpenAt_6 rfl (lv_at hl 1 rfl) ?_
  refine x_getX 9 hx hb hB inBX hown hK hP hR rfl (hB _ fl_X_25) rfl dX_isOpenAt_7 ?_
  refine lv_icmp_lt (tgt := 25) hx hb dX_isOpenAt_10 (by decide) (fun c1 => ?_) (fun c1 => ?_)
  · refine lv_iconst (v := 0) hx hb dX_isOpenAt_25 (by decide) ?_
    exact x_zret (v := 0) hx hb hr hlocks rfl ⟨by first | (simp [fOpen, c1]; done) | simp_all [fOpen], rfl⟩ hP hK hD hS dX_isOpenAt_26
  · refine lv_iload_n hx hb dX_isOpenAt_13 rfl (lv_at hl 0 rfl) ?_
    refine lv_aload_n hx hb dX_isOpenAt_14 rfl (lv_at hl 1 rfl) ?_
    refine x_getX 10 hx hb hB inBX hown hK hP hR rfl (hB _ fl_X_29) rfl dX_isOpenAt_15 ?_
    refine lv_icmp_ge (tgt := 25) hx hb dX_isOpenAt_18 (by decide) (fun c2 => ?_) (fun c2 => ?_)
    · refine lv_iconst (v := 0) hx hb dX_isOpenAt_25 (by decide) ?_
      exact x_zret (v := 0) hx hb hr hlocks rfl ⟨by first | (simp [fOpen, c1, c2]; done) | simp_all [fOpen], rfl⟩ hP hK hD hS dX_isOpenAt_26
    · refine lv_iconst (v := 1) hx hb dX_isOpenAt_21 (by decide) ?_
      refine lv_goto (tgt := 26) hx hb dX_isOpenAt_22 (by decide) ?_
      exact x_zret (v := 1) hx hb hr hlocks rfl ⟨by first | (simp [fOpen, c1, c2]; done) | simp_all [fOpen], rfl⟩ hP hK hD hS dX_isOpenAt_26
