set_option maxHeartbeats 4000000 in
set_option maxRecDepth 100000 in
theorem c_M_thrown {l : Launch} {G : va_G} {ca : Nat → ClassId} {aM : Nat} {am : Nat → Nat} {h : Nat → Int32} {ar : Nat → Nat → Int32} {w : va_W} {sz : Nat} (hR : RM ca aM am h ar w)   : xMi l yM_thrown wsM_thrown ({ frames := 0, cells := 0, slots := 0, locals := 0 }) [.ref aM] G (mTys ca) w sz (fun r w' => r = h 0 ∧ w = w') 0 0 := by
  refine x_ofW (fun A => va_Qi (fun r w' => r = h 0 ∧ w = w') (xEnd G (mTys ca) A) A) cM_thrown 1 (some .int) (by decide) rfl (Nat.le_of_ble_eq_true rfl) ?_
  intro p e s m below meth c A ls hx hb hr hlocks hml hnm hown hB hA hP hK hD hS hl
  have hl : lv_has ls 1 [(0, .ref aM)] := hl
  have hown : s.vm.findClass NmM = some m.cls := hown
  refine lv_aload_n hx hb dM_thrown_0 rfl (lv_at hl 0 rfl) ?_
  refine m_get 0 hx hb hB inBM hown hK hP hR rfl (hB _ fl_M_69) rfl dM_thrown_1 ?_
  exact x_iret (v := h 0) hx hb hr hlocks ⟨(by first | (simp []; done) | (simp_all []; done)), rfl⟩ hP hK hD hS dM_thrown_4
set_option maxHeartbeats 4000000 in
set_option maxRecDepth 100000 in
theorem c_M_refuse {l : Launch} {G : va_G} {ca : Nat → ClassId} {aM : Nat} {am : Nat → Nat} {h : Nat → Int32} {ar : Nat → Nat → Int32} {w : va_W} {sz : Nat} (hR : RM ca aM am h ar w) (y : Int32)  : xMi l yM_refuse wsM_refuse ({ frames := 0, cells := 0, slots := 0, locals := 0 }) [.ref aM, .int y] G (mTys ca) w sz (fun r w' => r = 0 ∧ RM ca aM am (upd h 0 y) ar w') 0 0 := by
  refine x_ofW (fun A => va_Qi (fun r w' => r = 0 ∧ RM ca aM am (upd h 0 y) ar w') (xEnd G (mTys ca) A) A) cM_refuse 2 (some .int) (by decide) rfl (Nat.le_of_ble_eq_true rfl) ?_
  intro p e s m below meth c A ls hx hb hr hlocks hml hnm hown hB hA hP hK hD hS hl
  have hl : lv_has ls 2 [(0, .ref aM), (1, .int y)] := hl
  have hown : s.vm.findClass NmM = some m.cls := hown
  refine lv_aload_n hx hb dM_refuse_0 rfl (lv_at hl 0 rfl) ?_
  refine lv_iload_n hx hb dM_refuse_1 rfl (lv_at hl 1 rfl) ?_
  refine m_put 0 y hx hb hB inBM hown hK hP hD hS hR rfl (hB _ fl_M_69) rfl rfl (by decide +kernel) dM_refuse_2 (fun w H locs hR hP hD hS => ?_)
  refine lv_iconst (v := 0) hx hb dM_refuse_5 (by decide) ?_
  exact x_iret (v := 0) hx hb hr hlocks ⟨(by first | (simp []; done) | (simp_all []; done)), (by first | (simpa [] using hR) | (have hR9 := hR; simp_all []; done))⟩ hP hK hD hS dM_refuse_6
set_option maxHeartbeats 4000000 in
set_option maxRecDepth 100000 in
theorem c_M_in {l : Launch} {G : va_G} {ca : Nat → ClassId} {aM : Nat} {am : Nat → Nat} {h : Nat → Int32} {ar : Nat → Nat → Int32} {w : va_W} {sz : Nat} (hR : RM ca aM am h ar w) (v : Int32) (a : Int32) (b : Int32)  : xMi l yM_in wsM_in ({ frames := 0, cells := 0, slots := 0, locals := 0 }) [.int v, .int a, .int b] G (mTys ca) w sz (fun r w' => r = mIn v a b ∧ w = w') 0 0 := by
  refine x_ofW (fun A => va_Qi (fun r w' => r = mIn v a b ∧ w = w') (xEnd G (mTys ca) A) A) cM_in 3 (some .boolean) (by decide) rfl (Nat.le_of_ble_eq_true rfl) ?_
  intro p e s m below meth c A ls hx hb hr hlocks hml hnm hown hB hA hP hK hD hS hl
  have hl : lv_has ls 3 [(0, .int v), (1, .int a), (2, .int b)] := hl
  have hown : s.vm.findClass NmM = some m.cls := hown
  refine lv_iload_n hx hb dM_in_0 rfl (lv_at hl 0 rfl) ?_
  refine lv_iload_n hx hb dM_in_1 rfl (lv_at hl 1 rfl) ?_
  refine lv_icmp_lt (tgt := 14) hx hb dM_in_2 (by decide) (fun c1 => ?_) (fun c1 => ?_)
  · refine lv_iconst (v := 0) hx hb dM_in_14 (by decide) ?_
    exact x_zret (v := 0) hx hb hr hlocks rfl ⟨(by first | (simp [mIn, c1]; done) | (simp_all [mIn]; done)), rfl⟩ hP hK hD hS dM_in_15
  · refine lv_iload_n hx hb dM_in_5 rfl (lv_at hl 0 rfl) ?_
    refine lv_iload_n hx hb dM_in_6 rfl (lv_at hl 2 rfl) ?_
    refine lv_icmp_gt (tgt := 14) hx hb dM_in_7 (by decide) (fun c2 => ?_) (fun c2 => ?_)
    · refine lv_iconst (v := 0) hx hb dM_in_14 (by decide) ?_
      exact x_zret (v := 0) hx hb hr hlocks rfl ⟨(by first | (simp [mIn, c1, c2]; done) | (simp_all [mIn]; done)), rfl⟩ hP hK hD hS dM_in_15
    · refine lv_iconst (v := 1) hx hb dM_in_10 (by decide) ?_
      refine lv_goto (tgt := 15) hx hb dM_in_11 (by decide) ?_
      exact x_zret (v := 1) hx hb hr hlocks rfl ⟨(by first | (simp [mIn, c1, c2]; done) | (simp_all [mIn]; done)), rfl⟩ hP hK hD hS dM_in_15
set_option maxHeartbeats 4000000 in
set_option maxRecDepth 100000 in
theorem c_M_isPerson {l : Launch} {G : va_G} {ca : Nat → ClassId} {aM : Nat} {am : Nat → Nat} {h : Nat → Int32} {ar : Nat → Nat → Int32} {w : va_W} {sz : Nat} (hR : RM ca aM am h ar w) (v : Int32)  : xMi l yM_isPerson wsM_isPerson ({ frames := 0, cells := 0, slots := 0, locals := 0 }) [.ref aM, .int v] G (mTys ca) w sz (fun r w' => r = mPers h v ∧ w = w') 0 0 := by
  refine x_ofW (fun A => va_Qi (fun r w' => r = mPers h v ∧ w = w') (xEnd G (mTys ca) A) A) cM_isPerson 2 (some .boolean) (by decide) rfl (Nat.le_of_ble_eq_true rfl) ?_
  intro p e s m below meth c A ls hx hb hr hlocks hml hnm hown hB hA hP hK hD hS hl
  have hl : lv_has ls 2 [(0, .ref aM), (1, .int v)] := hl
  have hown : s.vm.findClass NmM = some m.cls := hown
  refine lv_iload_n hx hb dM_isPerson_0 rfl (lv_at hl 1 rfl) ?_
  refine lv_if_lt (tgt := 16) hx hb dM_isPerson_1 (by decide) (fun c1 => ?_) (fun c1 => ?_)
  · refine lv_iconst (v := 0) hx hb dM_isPerson_16 (by decide) ?_
    exact x_zret (v := 0) hx hb hr hlocks rfl ⟨(by first | (simp [mPers, c1]; done) | (simp_all [mPers]; done)), rfl⟩ hP hK hD hS dM_isPerson_17
  · refine lv_iload_n hx hb dM_isPerson_4 rfl (lv_at hl 1 rfl) ?_
    refine lv_aload_n hx hb dM_isPerson_5 rfl (lv_at hl 0 rfl) ?_
    refine m_get 2 hx hb hB inBM hown hK hP hR rfl (hB _ fl_M_72) rfl dM_isPerson_6 ?_
    refine lv_icmp_ge (tgt := 16) hx hb dM_isPerson_9 (by decide) (fun c2 => ?_) (fun c2 => ?_)
    · refine lv_iconst (v := 0) hx hb dM_isPerson_16 (by decide) ?_
      exact x_zret (v := 0) hx hb hr hlocks rfl ⟨(by first | (simp [mPers, c1, c2]; done) | (simp_all [mPers]; done)), rfl⟩ hP hK hD hS dM_isPerson_17
    · refine lv_iconst (v := 1) hx hb dM_isPerson_12 (by decide) ?_
      refine lv_goto (tgt := 17) hx hb dM_isPerson_13 (by decide) ?_
      exact x_zret (v := 1) hx hb hr hlocks rfl ⟨(by first | (simp [mPers, c1, c2]; done) | (simp_all [mPers]; done)), rfl⟩ hP hK hD hS dM_isPerson_17
set_option maxHeartbeats 4000000 in
set_option maxRecDepth 100000 in
theorem c_M_isOne {l : Launch} {G : va_G} {ca : Nat → ClassId} {aM : Nat} {am : Nat → Nat} {h : Nat → Int32} {ar : Nat → Nat → Int32} {w : va_W} {sz : Nat} (hR : RM ca aM am h ar w) (v : Int32)  : xMi l yM_isOne wsM_isOne ({ frames := 0, cells := 0, slots := 0, locals := 0 }) [.ref aM, .int v] G (mTys ca) w sz (fun r w' => r = mOne h v ∧ w = w') 0 0 := by
  refine x_ofW (fun A => va_Qi (fun r w' => r = mOne h v ∧ w = w') (xEnd G (mTys ca) A) A) cM_isOne 2 (some .boolean) (by decide) rfl (Nat.le_of_ble_eq_true rfl) ?_
  intro p e s m below meth c A ls hx hb hr hlocks hml hnm hown hB hA hP hK hD hS hl
  have hl : lv_has ls 2 [(0, .ref aM), (1, .int v)] := hl
  have hown : s.vm.findClass NmM = some m.cls := hown
  refine lv_iload_n hx hb dM_isOne_0 rfl (lv_at hl 1 rfl) ?_
  refine lv_if_lt (tgt := 16) hx hb dM_isOne_1 (by decide) (fun c1 => ?_) (fun c1 => ?_)
  · refine lv_iconst (v := 0) hx hb dM_isOne_16 (by decide) ?_
    exact x_zret (v := 0) hx hb hr hlocks rfl ⟨(by first | (simp [mOne, c1]; done) | (simp_all [mOne]; done)), rfl⟩ hP hK hD hS dM_isOne_17
  · refine lv_iload_n hx hb dM_isOne_4 rfl (lv_at hl 1 rfl) ?_
    refine lv_aload_n hx hb dM_isOne_5 rfl (lv_at hl 0 rfl) ?_
    refine m_get 4 hx hb hB inBM hown hK hP hR rfl (hB _ fl_M_75) rfl dM_isOne_6 ?_
    refine lv_icmp_ge (tgt := 16) hx hb dM_isOne_9 (by decide) (fun c2 => ?_) (fun c2 => ?_)
    · refine lv_iconst (v := 0) hx hb dM_isOne_16 (by decide) ?_
      exact x_zret (v := 0) hx hb hr hlocks rfl ⟨(by first | (simp [mOne, c1, c2]; done) | (simp_all [mOne]; done)), rfl⟩ hP hK hD hS dM_isOne_17
    · refine lv_iconst (v := 1) hx hb dM_isOne_12 (by decide) ?_
      refine lv_goto (tgt := 17) hx hb dM_isOne_13 (by decide) ?_
      exact x_zret (v := 1) hx hb hr hlocks rfl ⟨(by first | (simp [mOne, c1, c2]; done) | (simp_all [mOne]; done)), rfl⟩ hP hK hD hS dM_isOne_17
set_option maxHeartbeats 4000000 in
set_option maxRecDepth 100000 in
theorem c_M_isOfficers {l : Launch} {G : va_G} {ca : Nat → ClassId} {aM : Nat} {am : Nat → Nat} {h : Nat → Int32} {ar : Nat → Nat → Int32} {w : va_W} {sz : Nat} (hR : RM ca aM am h ar w) (k : Int32)  : xMi l yM_isOfficers wsM_isOfficers ({ frames := 0, cells := 0, slots := 0, locals := 0 }) [.int k] G (mTys ca) w sz (fun r w' => r = mOff k ∧ w = w') 0 0 := by
  refine x_ofW (fun A => va_Qi (fun r w' => r = mOff k ∧ w = w') (xEnd G (mTys ca) A) A) cM_isOfficers 1 (some .boolean) (by decide) rfl (Nat.le_of_ble_eq_true rfl) ?_
  intro p e s m below meth c A ls hx hb hr hlocks hml hnm hown hB hA hP hK hD hS hl
  have hl : lv_has ls 1 [(0, .int k)] := hl
  have hown : s.vm.findClass NmM = some m.cls := hown
  refine lv_iload_n hx hb dM_isOfficers_0 rfl (lv_at hl 0 rfl) ?_
  refine lv_iconst (v := 1) hx hb dM_isOfficers_1 (by decide) ?_
  refine lv_icmp_le (tgt := 11) hx hb dM_isOfficers_2 (by decide) (fun c1 => ?_) (fun c1 => ?_)
  · refine lv_iload_n hx hb dM_isOfficers_11 rfl (lv_at hl 0 rfl) ?_
    refine lv_bipush (v := 8) hx hb dM_isOfficers_12 (by decide) ?_
    refine lv_icmp_ne (tgt := 21) hx hb dM_isOfficers_14 (by decide) (fun c2 => ?_) (fun c2 => ?_)
    · refine lv_iconst (v := 0) hx hb dM_isOfficers_21 (by decide) ?_
      exact x_zret (v := 0) hx hb hr hlocks rfl ⟨(by first | (simp [mOff, c1, c2]; done) | (simp_all [mOff]; done)), rfl⟩ hP hK hD hS dM_isOfficers_22
    · refine lv_iconst (v := 1) hx hb dM_isOfficers_17 (by decide) ?_
      refine lv_goto (tgt := 22) hx hb dM_isOfficers_18 (by decide) ?_
      exact x_zret (v := 1) hx hb hr hlocks rfl ⟨(by first | (simp [mOff, c1, c2]; done) | (simp_all [mOff]; done)), rfl⟩ hP hK hD hS dM_isOfficers_22
  · refine lv_iload_n hx hb dM_isOfficers_5 rfl (lv_at hl 0 rfl) ?_
    refine lv_bipush (v := 6) hx hb dM_isOfficers_6 (by decide) ?_
    refine lv_icmp_lt (tgt := 17) hx hb dM_isOfficers_8 (by decide) (fun c3 => ?_) (fun c3 => ?_)
    · refine lv_iconst (v := 1) hx hb dM_isOfficers_17 (by decide) ?_
      refine lv_goto (tgt := 22) hx hb dM_isOfficers_18 (by decide) ?_
      exact x_zret (v := 1) hx hb hr hlocks rfl ⟨(by first | (simp [mOff, c1, c3]; done) | (simp_all [mOff]; done)), rfl⟩ hP hK hD hS dM_isOfficers_22
    · refine lv_iload_n hx hb dM_isOfficers_11 rfl (lv_at hl 0 rfl) ?_
      refine lv_bipush (v := 8) hx hb dM_isOfficers_12 (by decide) ?_
      refine lv_icmp_ne (tgt := 21) hx hb dM_isOfficers_14 (by decide) (fun c4 => ?_) (fun c4 => ?_)
      · refine lv_iconst (v := 0) hx hb dM_isOfficers_21 (by decide) ?_
        exact x_zret (v := 0) hx hb hr hlocks rfl ⟨(by first | (simp [mOff, c1, c3, c4]; done) | (simp_all [mOff]; done)), rfl⟩ hP hK hD hS dM_isOfficers_22
      · refine lv_iconst (v := 1) hx hb dM_isOfficers_17 (by decide) ?_
        refine lv_goto (tgt := 22) hx hb dM_isOfficers_18 (by decide) ?_
        exact x_zret (v := 1) hx hb hr hlocks rfl ⟨(by first | (simp [mOff, c1, c3, c4]; done) | (simp_all [mOff]; done)), rfl⟩ hP hK hD hS dM_isOfficers_22
set_option maxHeartbeats 4000000 in
set_option maxRecDepth 100000 in
theorem c_M_may {l : Launch} {G : va_G} {ca : Nat → ClassId} {aM : Nat} {am : Nat → Nat} {h : Nat → Int32} {ar : Nat → Nat → Int32} {w : va_W} {sz : Nat} (hR : RM ca aM am h ar w) (e9 : Int32) (he : vp_in e9 120) (hw9 : vp_in (ar 16 e9.toNatClampNeg) 12) (ho : vp_in (ar 14 e9.toNatClampNeg) 20) : xMi l yM_may wsM_may ({ frames := 1, cells := 0, slots := 0, locals := 20 }) [.ref aM, .int e9] G (mTys ca) w sz (fun r w' => r = mMay (ar 15 e9.toNatClampNeg) (ar 16 e9.toNatClampNeg) (ar 3 (ar 16 e9.toNatClampNeg).toNatClampNeg) (ar 6 (ar 14 e9.toNatClampNeg).toNatClampNeg) ∧ w = w') 0 0 := by
  refine x_ofW (fun A => va_Qi (fun r w' => r = mMay (ar 15 e9.toNatClampNeg) (ar 16 e9.toNatClampNeg) (ar 3 (ar 16 e9.toNatClampNeg).toNatClampNeg) (ar 6 (ar 14 e9.toNatClampNeg).toNatClampNeg) ∧ w = w') (xEnd G (mTys ca) A) A) cM_may 4 (some .boolean) (by decide) rfl (Nat.le_of_ble_eq_true rfl) ?_
  intro p e s m below meth c A ls hx hb hr hlocks hml hnm hown hB hA hP hK hD hS hl
  have hl : lv_has ls 4 [(0, .ref aM), (1, .int e9)] := hl
  have hown : s.vm.findClass NmM = some m.cls := hown
  refine lv_aload_n hx hb dM_may_0 rfl (lv_at hl 0 rfl) ?_
  refine m_arr 16 hx hb hB inBM hown hK hP hR rfl (hB _ fl_M_43) rfl dM_may_1 ?_
  refine lv_iload_n hx hb dM_may_4 rfl (lv_at hl 1 rfl) ?_
  refine m_ld 16 (i := e9) he hx hb hK hP hR rfl dM_may_5 ?_
  refine lv_istore_n (lv' := [(2, .int (ar 16 e9.toNatClampNeg)), (0, .ref aM), (1, .int e9)]) hx hb dM_may_6 rfl hl (by decide) rfl (fun ls hl => ?_)
  refine lv_aload_n hx hb dM_may_7 rfl (lv_at hl 1 rfl) ?_
  refine m_arr 15 hx hb hB inBM hown hK hP hR rfl (hB _ fl_M_40) rfl dM_may_8 ?_
  refine lv_iload_n hx hb dM_may_11 rfl (lv_at hl 2 rfl) ?_
  refine m_ld 15 (i := e9) he hx hb hK hP hR rfl dM_may_12 ?_
  refine lv_istore_n (lv' := [(3, .int (ar 15 e9.toNatClampNeg)), (2, .int (ar 16 e9.toNatClampNeg)), (0, .ref aM), (1, .int e9)]) hx hb dM_may_13 rfl hl (by decide) rfl (fun ls hl => ?_)
  refine lv_iload_n hx hb dM_may_14 rfl (lv_at hl 0 rfl) ?_
  refine x_calli (va_runS (As := [.int (ar 15 e9.toNatClampNeg)]) (rest := []) ⟨hx, hb, hml, hown, hB⟩ (c_M_isOfficers hR (ar 15 e9.toNatClampNeg) ) (va_cwS 1 hB (gS ml_M_104 sm_M_isOfficers ini_M kc_M_isOfficers) rfl rfl rfl (by decide +kernel) ⟨Nat.le_of_ble_eq_true rfl, Nat.le_of_ble_eq_true rfl⟩) (x_preS hP hK hD) rfl rfl hl.1 rfl (lv_room (Nat.le_of_ble_eq_true rfl)) dM_may_15 ⟨Nat.le_of_ble_eq_true rfl, Nat.le_of_ble_eq_true rfl⟩) hD hS hA (fun r1 w H locs hw hP hD hS => ?_)
  obtain ⟨ee2, rfl⟩ := hw
  refine lv_if_eq (tgt := 37) hx hb dM_may_18 (by decide) (fun c3 => ?_) (fun c3 => ?_)
  · refine lv_iload_n hx hb dM_may_37 rfl (lv_at hl 0 rfl) ?_
    refine lv_iconst (v := 1) hx hb dM_may_38 (by decide) ?_
    refine lv_icmp_ne (tgt := 60) hx hb dM_may_39 (by decide) (fun c4 => ?_) (fun c4 => ?_)
    · refine lv_iload_n hx hb dM_may_60 rfl (lv_at hl 0 rfl) ?_
      refine lv_bipush (v := 7) hx hb dM_may_61 (by decide) ?_
      refine lv_icmp_ne (tgt := 84) hx hb dM_may_63 (by decide) (fun c5 => ?_) (fun c5 => ?_)
      · refine lv_iload_n hx hb dM_may_84 rfl (lv_at hl 1 rfl) ?_
        refine lv_aload_n hx hb dM_may_85 rfl (lv_at hl 2 rfl) ?_
        refine m_arr 6 hx hb hB inBM hown hK hP hR rfl (hB _ fl_M_16) rfl dM_may_86 ?_
        refine lv_aload_n hx hb dM_may_89 rfl (lv_at hl 2 rfl) ?_
        refine m_arr 14 hx hb hB inBM hown hK hP hR rfl (hB _ fl_M_37) rfl dM_may_90 ?_
        refine lv_iload_n hx hb dM_may_93 rfl (lv_at hl 3 rfl) ?_
        refine m_ld 14 (i := e9) he hx hb hK hP hR rfl dM_may_94 ?_
        refine m_ld 6 (i := ar 14 e9.toNatClampNeg) ho hx hb hK hP hR rfl dM_may_95 ?_
        refine lv_icmp_ne (tgt := 103) hx hb dM_may_96 (by decide) (fun c6 => ?_) (fun c6 => ?_)
        · refine lv_iconst (v := 0) hx hb dM_may_103 (by decide) ?_
          exact x_zret (v := 0) hx hb hr hlocks rfl ⟨(by subst ee2; first | (simp [mMay, c3, c4, c5, c6]; done) | (simp_all [mMay]; done)), rfl⟩ hP hK hD hS dM_may_104
        · refine lv_iconst (v := 1) hx hb dM_may_99 (by decide) ?_
          refine lv_goto (tgt := 104) hx hb dM_may_100 (by decide) ?_
          exact x_zret (v := 1) hx hb hr hlocks rfl ⟨(by subst ee2; first | (simp [mMay, c3, c4, c5, c6]; done) | (simp_all [mMay]; done)), rfl⟩ hP hK hD hS dM_may_104
      · refine lv_aload_n hx hb dM_may_66 rfl (lv_at hl 2 rfl) ?_
        refine m_arr 3 hx hb hB inBM hown hK hP hR rfl (hB _ fl_M_7) rfl dM_may_67 ?_
        refine lv_iload_n hx hb dM_may_70 rfl (lv_at hl 1 rfl) ?_
        refine m_ld 3 (i := ar 16 e9.toNatClampNeg) hw9 hx hb hK hP hR rfl dM_may_71 ?_
        refine lv_iconst (v := 2) hx hb dM_may_72 (by decide) ?_
        refine lv_icmp_ne (tgt := 80) hx hb dM_may_73 (by decide) (fun c7 => ?_) (fun c7 => ?_)
        · refine lv_iconst (v := 0) hx hb dM_may_80 (by decide) ?_
          refine lv_goto (tgt := 104) hx hb dM_may_81 (by decide) ?_
          exact x_zret (v := 0) hx hb hr hlocks rfl ⟨(by subst ee2; first | (simp [mMay, c3, c4, c5, c7]; done) | (simp_all [mMay]; done)), rfl⟩ hP hK hD hS dM_may_104
        · refine lv_iconst (v := 1) hx hb dM_may_76 (by decide) ?_
          refine lv_goto (tgt := 104) hx hb dM_may_77 (by decide) ?_
          exact x_zret (v := 1) hx hb hr hlocks rfl ⟨(by subst ee2; first | (simp [mMay, c3, c4, c5, c7]; done) | (simp_all [mMay]; done)), rfl⟩ hP hK hD hS dM_may_104
    · refine lv_aload_n hx hb dM_may_42 rfl (lv_at hl 2 rfl) ?_
      refine m_arr 3 hx hb hB inBM hown hK hP hR rfl (hB _ fl_M_7) rfl dM_may_43 ?_
      refine lv_iload_n hx hb dM_may_46 rfl (lv_at hl 1 rfl) ?_
      refine m_ld 3 (i := ar 16 e9.toNatClampNeg) hw9 hx hb hK hP hR rfl dM_may_47 ?_
      refine lv_iconst (v := 1) hx hb dM_may_48 (by decide) ?_
      refine lv_icmp_eq (tgt := 56) hx hb dM_may_49 (by decide) (fun c8 => ?_) (fun c8 => ?_)
      · refine lv_iconst (v := 0) hx hb dM_may_56 (by decide) ?_
        refine lv_goto (tgt := 104) hx hb dM_may_57 (by decide) ?_
        exact x_zret (v := 0) hx hb hr hlocks rfl ⟨(by subst ee2; first | (simp [mMay, c3, c4, c8]; done) | (simp_all [mMay]; done)), rfl⟩ hP hK hD hS dM_may_104
      · refine lv_iconst (v := 1) hx hb dM_may_52 (by decide) ?_
        refine lv_goto (tgt := 104) hx hb dM_may_53 (by decide) ?_
        exact x_zret (v := 1) hx hb hr hlocks rfl ⟨(by subst ee2; first | (simp [mMay, c3, c4, c8]; done) | (simp_all [mMay]; done)), rfl⟩ hP hK hD hS dM_may_104
  · refine lv_aload_n hx hb dM_may_21 rfl (lv_at hl 2 rfl) ?_
    refine m_arr 3 hx hb hB inBM hown hK hP hR rfl (hB _ fl_M_7) rfl dM_may_22 ?_
    refine lv_iload_n hx hb dM_may_25 rfl (lv_at hl 1 rfl) ?_
    refine m_ld 3 (i := ar 16 e9.toNatClampNeg) hw9 hx hb hK hP hR rfl dM_may_26 ?_
    refine lv_iconst (v := 1) hx hb dM_may_27 (by decide) ?_
    refine lv_icmp_ne (tgt := 35) hx hb dM_may_28 (by decide) (fun c9 => ?_) (fun c9 => ?_)
    · refine lv_iconst (v := 0) hx hb dM_may_35 (by decide) ?_
      exact x_zret (v := 0) hx hb hr hlocks rfl ⟨(by subst ee2; first | (simp [mMay, c3, c9]; done) | (simp_all [mMay]; done)), rfl⟩ hP hK hD hS dM_may_36
    · refine lv_iconst (v := 1) hx hb dM_may_31 (by decide) ?_
      refine lv_goto (tgt := 36) hx hb dM_may_32 (by decide) ?_
      exact x_zret (v := 1) hx hb hr hlocks rfl ⟨(by subst ee2; first | (simp [mMay, c3, c9]; done) | (simp_all [mMay]; done)), rfl⟩ hP hK hD hS dM_may_36
set_option maxHeartbeats 4000000 in
set_option maxRecDepth 100000 in
theorem c_M_fits {l : Launch} {G : va_G} {ca : Nat → ClassId} {aM : Nat} {am : Nat → Nat} {h : Nat → Int32} {ar : Nat → Nat → Int32} {w : va_W} {sz : Nat} (hR : RM ca aM am h ar w) (d9 : Int32) (k : Int32) (hd : vp_in d9 20) : xMi l yM_fits wsM_fits ({ frames := 0, cells := 0, slots := 0, locals := 0 }) [.ref aM, .int d9, .int k] G (mTys ca) w sz (fun r w' => r = mFits (ar 7 d9.toNatClampNeg) (ar 5 d9.toNatClampNeg) k ∧ w = w') 0 0 := by
  refine x_ofW (fun A => va_Qi (fun r w' => r = mFits (ar 7 d9.toNatClampNeg) (ar 5 d9.toNatClampNeg) k ∧ w = w') (xEnd G (mTys ca) A) A) cM_fits 4 (some .boolean) (by decide) rfl (Nat.le_of_ble_eq_true rfl) ?_
  intro p e s m below meth c A ls hx hb hr hlocks hml hnm hown hB hA hP hK hD hS hl
  have hl : lv_has ls 4 [(0, .ref aM), (1, .int d9), (2, .int k)] := hl
  have hown : s.vm.findClass NmM = some m.cls := hown
  refine lv_aload_n hx hb dM_fits_0 rfl (lv_at hl 0 rfl) ?_
  refine m_arr 7 hx hb hB inBM hown hK hP hR rfl (hB _ fl_M_19) rfl dM_fits_1 ?_
  refine lv_iload_n hx hb dM_fits_4 rfl (lv_at hl 1 rfl) ?_
  refine m_ld 7 (i := d9) hd hx hb hK hP hR rfl dM_fits_5 ?_
  refine lv_istore_n (lv' := [(3, .int (ar 7 d9.toNatClampNeg)), (0, .ref aM), (1, .int d9), (2, .int k)]) hx hb dM_fits_6 rfl hl (by decide) rfl (fun ls hl => ?_)
  refine lv_iload_n hx hb dM_fits_7 rfl (lv_at hl 3 rfl) ?_
  rcases x_sw0_8 k with h1 | h2 | h3 | h4 | h5 | h6 | h7 | h8 | h9 | h10
  · refine lv_tableIn (tgt := 60) hx hb dM_fits_8 (by rw [h1]; decide) (by rw [h1]; decide) (by rw [h1]; rfl) (by decide) ?_
    refine lv_iload_n hx hb dM_fits_60 rfl (lv_at hl 0 rfl) ?_
    refine lv_if_ne (tgt := 68) hx hb dM_fits_61 (by decide) (fun c11 => ?_) (fun c11 => ?_)
    · refine lv_iconst (v := 0) hx hb dM_fits_68 (by decide) ?_
      exact x_zret (v := 0) hx hb hr hlocks rfl ⟨(by first | (simp [mFits, h1, c11]; done) | (simp_all [mFits]; done)), rfl⟩ hP hK hD hS dM_fits_69
    · refine lv_iconst (v := 1) hx hb dM_fits_64 (by decide) ?_
      refine lv_goto (tgt := 69) hx hb dM_fits_65 (by decide) ?_
      exact x_zret (v := 1) hx hb hr hlocks rfl ⟨(by first | (simp [mFits, h1, c11]; done) | (simp_all [mFits]; done)), rfl⟩ hP hK hD hS dM_fits_69
  · refine lv_tableIn (tgt := 70) hx hb dM_fits_8 (by rw [h2]; decide) (by rw [h2]; decide) (by rw [h2]; rfl) (by decide) ?_
    refine lv_iload_n hx hb dM_fits_70 rfl (lv_at hl 0 rfl) ?_
    refine lv_iconst (v := 3) hx hb dM_fits_71 (by decide) ?_
    refine lv_icmp_ge (tgt := 79) hx hb dM_fits_72 (by decide) (fun c12 => ?_) (fun c12 => ?_)
    · refine lv_iconst (v := 0) hx hb dM_fits_79 (by decide) ?_
      exact x_zret (v := 0) hx hb hr hlocks rfl ⟨(by first | (simp [mFits, h2, c12]; done) | (simp_all [mFits]; done)), rfl⟩ hP hK hD hS dM_fits_80
    · refine lv_iconst (v := 1) hx hb dM_fits_75 (by decide) ?_
      refine lv_goto (tgt := 80) hx hb dM_fits_76 (by decide) ?_
      exact x_zret (v := 1) hx hb hr hlocks rfl ⟨(by first | (simp [mFits, h2, c12]; done) | (simp_all [mFits]; done)), rfl⟩ hP hK hD hS dM_fits_80
  · refine lv_tableIn (tgt := 81) hx hb dM_fits_8 (by rw [h3]; decide) (by rw [h3]; decide) (by rw [h3]; rfl) (by decide) ?_
    refine lv_iload_n hx hb dM_fits_81 rfl (lv_at hl 0 rfl) ?_
    refine lv_iconst (v := 1) hx hb dM_fits_82 (by decide) ?_
    refine lv_icmp_ne (tgt := 90) hx hb dM_fits_83 (by decide) (fun c13 => ?_) (fun c13 => ?_)
    · refine lv_iconst (v := 0) hx hb dM_fits_90 (by decide) ?_
      exact x_zret (v := 0) hx hb hr hlocks rfl ⟨(by first | (simp [mFits, h3, c13]; done) | (simp_all [mFits]; done)), rfl⟩ hP hK hD hS dM_fits_91
    · refine lv_iconst (v := 1) hx hb dM_fits_86 (by decide) ?_
      refine lv_goto (tgt := 91) hx hb dM_fits_87 (by decide) ?_
      exact x_zret (v := 1) hx hb hr hlocks rfl ⟨(by first | (simp [mFits, h3, c13]; done) | (simp_all [mFits]; done)), rfl⟩ hP hK hD hS dM_fits_91
  · refine lv_tableIn (tgt := 92) hx hb dM_fits_8 (by rw [h4]; decide) (by rw [h4]; decide) (by rw [h4]; rfl) (by decide) ?_
    refine lv_iload_n hx hb dM_fits_92 rfl (lv_at hl 0 rfl) ?_
    refine lv_iconst (v := 2) hx hb dM_fits_93 (by decide) ?_
    refine lv_icmp_ne (tgt := 101) hx hb dM_fits_94 (by decide) (fun c14 => ?_) (fun c14 => ?_)
    · refine lv_iconst (v := 0) hx hb dM_fits_101 (by decide) ?_
      exact x_zret (v := 0) hx hb hr hlocks rfl ⟨(by first | (simp [mFits, h4, c14]; done) | (simp_all [mFits]; done)), rfl⟩ hP hK hD hS dM_fits_102
    · refine lv_iconst (v := 1) hx hb dM_fits_97 (by decide) ?_
      refine lv_goto (tgt := 102) hx hb dM_fits_98 (by decide) ?_
      exact x_zret (v := 1) hx hb hr hlocks rfl ⟨(by first | (simp [mFits, h4, c14]; done) | (simp_all [mFits]; done)), rfl⟩ hP hK hD hS dM_fits_102
  · refine lv_tableIn (tgt := 103) hx hb dM_fits_8 (by rw [h5]; decide) (by rw [h5]; decide) (by rw [h5]; rfl) (by decide) ?_
    refine lv_iload_n hx hb dM_fits_103 rfl (lv_at hl 0 rfl) ?_
    refine lv_iconst (v := 3) hx hb dM_fits_104 (by decide) ?_
    refine lv_icmp_ne (tgt := 112) hx hb dM_fits_105 (by decide) (fun c15 => ?_) (fun c15 => ?_)
    · refine lv_iconst (v := 0) hx hb dM_fits_112 (by decide) ?_
      exact x_zret (v := 0) hx hb hr hlocks rfl ⟨(by first | (simp [mFits, h5, c15]; done) | (simp_all [mFits]; done)), rfl⟩ hP hK hD hS dM_fits_113
    · refine lv_iconst (v := 1) hx hb dM_fits_108 (by decide) ?_
      refine lv_goto (tgt := 113) hx hb dM_fits_109 (by decide) ?_
      exact x_zret (v := 1) hx hb hr hlocks rfl ⟨(by first | (simp [mFits, h5, c15]; done) | (simp_all [mFits]; done)), rfl⟩ hP hK hD hS dM_fits_113
  · refine lv_tableIn (tgt := 103) hx hb dM_fits_8 (by rw [h6]; decide) (by rw [h6]; decide) (by rw [h6]; rfl) (by decide) ?_
    refine lv_iload_n hx hb dM_fits_103 rfl (lv_at hl 0 rfl) ?_
    refine lv_iconst (v := 3) hx hb dM_fits_104 (by decide) ?_
    refine lv_icmp_ne (tgt := 112) hx hb dM_fits_105 (by decide) (fun c16 => ?_) (fun c16 => ?_)
    · refine lv_iconst (v := 0) hx hb dM_fits_112 (by decide) ?_
      exact x_zret (v := 0) hx hb hr hlocks rfl ⟨(by first | (simp [mFits, h6, c16]; done) | (simp_all [mFits]; done)), rfl⟩ hP hK hD hS dM_fits_113
    · refine lv_iconst (v := 1) hx hb dM_fits_108 (by decide) ?_
      refine lv_goto (tgt := 113) hx hb dM_fits_109 (by decide) ?_
      exact x_zret (v := 1) hx hb hr hlocks rfl ⟨(by first | (simp [mFits, h6, c16]; done) | (simp_all [mFits]; done)), rfl⟩ hP hK hD hS dM_fits_113
  · refine lv_tableIn (tgt := 159) hx hb dM_fits_8 (by rw [h7]; decide) (by rw [h7]; decide) (by rw [h7]; rfl) (by decide) ?_
    refine lv_iload_n hx hb dM_fits_159 rfl (lv_at hl 0 rfl) ?_
    refine lv_iconst (v := 2) hx hb dM_fits_160 (by decide) ?_
    refine lv_icmp_eq (tgt := 169) hx hb dM_fits_161 (by decide) (fun c17 => ?_) (fun c17 => ?_)
    · refine lv_iconst (v := 1) hx hb dM_fits_169 (by decide) ?_
      refine lv_goto (tgt := 174) hx hb dM_fits_170 (by decide) ?_
      exact x_zret (v := 1) hx hb hr hlocks rfl ⟨(by first | (simp [mFits, h7, c17]; done) | (simp_all [mFits]; done)), rfl⟩ hP hK hD hS dM_fits_174
    · refine lv_iload_n hx hb dM_fits_164 rfl (lv_at hl 0 rfl) ?_
      refine lv_iconst (v := 3) hx hb dM_fits_165 (by decide) ?_
      refine lv_icmp_ne (tgt := 173) hx hb dM_fits_166 (by decide) (fun c18 => ?_) (fun c18 => ?_)
      · refine lv_iconst (v := 0) hx hb dM_fits_173 (by decide) ?_
        exact x_zret (v := 0) hx hb hr hlocks rfl ⟨(by first | (simp [mFits, h7, c17, c18]; done) | (simp_all [mFits]; done)), rfl⟩ hP hK hD hS dM_fits_174
      · refine lv_iconst (v := 1) hx hb dM_fits_169 (by decide) ?_
        refine lv_goto (tgt := 174) hx hb dM_fits_170 (by decide) ?_
        exact x_zret (v := 1) hx hb hr hlocks rfl ⟨(by first | (simp [mFits, h7, c17, c18]; done) | (simp_all [mFits]; done)), rfl⟩ hP hK hD hS dM_fits_174
  · refine lv_tableIn (tgt := 114) hx hb dM_fits_8 (by rw [h8]; decide) (by rw [h8]; decide) (by rw [h8]; rfl) (by decide) ?_
    refine lv_iload_n hx hb dM_fits_114 rfl (lv_at hl 0 rfl) ?_
    refine lv_iconst (v := 4) hx hb dM_fits_115 (by decide) ?_
    refine lv_icmp_ne (tgt := 132) hx hb dM_fits_116 (by decide) (fun c19 => ?_) (fun c19 => ?_)
    · refine lv_iconst (v := 0) hx hb dM_fits_132 (by decide) ?_
      exact x_zret (v := 0) hx hb hr hlocks rfl ⟨(by first | (simp [mFits, h8, c19]; done) | (simp_all [mFits]; done)), rfl⟩ hP hK hD hS dM_fits_133
    · refine lv_aload_n hx hb dM_fits_119 rfl (lv_at hl 1 rfl) ?_
      refine m_arr 5 hx hb hB inBM hown hK hP hR rfl (hB _ fl_M_13) rfl dM_fits_120 ?_
      refine lv_iload_n hx hb dM_fits_123 rfl (lv_at hl 2 rfl) ?_
      refine m_ld 5 (i := d9) hd hx hb hK hP hR rfl dM_fits_124 ?_
      refine lv_if_le (tgt := 132) hx hb dM_fits_125 (by decide) (fun c20 => ?_) (fun c20 => ?_)
      · refine lv_iconst (v := 0) hx hb dM_fits_132 (by decide) ?_
        exact x_zret (v := 0) hx hb hr hlocks rfl ⟨(by first | (simp [mFits, h8, c19, c20]; done) | (simp_all [mFits]; done)), rfl⟩ hP hK hD hS dM_fits_133
      · refine lv_iconst (v := 1) hx hb dM_fits_128 (by decide) ?_
        refine lv_goto (tgt := 133) hx hb dM_fits_129 (by decide) ?_
        exact x_zret (v := 1) hx hb hr hlocks rfl ⟨(by first | (simp [mFits, h8, c19, c20]; done) | (simp_all [mFits]; done)), rfl⟩ hP hK hD hS dM_fits_133
  · refine lv_tableIn (tgt := 134) hx hb dM_fits_8 (by rw [h9]; decide) (by rw [h9]; decide) (by rw [h9]; rfl) (by decide) ?_
    refine lv_iload_n hx hb dM_fits_134 rfl (lv_at hl 0 rfl) ?_
    refine lv_iconst (v := 4) hx hb dM_fits_135 (by decide) ?_
    refine lv_icmp_ne (tgt := 148) hx hb dM_fits_136 (by decide) (fun c21 => ?_) (fun c21 => ?_)
    · refine lv_iload_n hx hb dM_fits_148 rfl (lv_at hl 0 rfl) ?_
      refine lv_iconst (v := 5) hx hb dM_fits_149 (by decide) ?_
      refine lv_icmp_ne (tgt := 157) hx hb dM_fits_150 (by decide) (fun c22 => ?_) (fun c22 => ?_)
      · refine lv_iconst (v := 0) hx hb dM_fits_157 (by decide) ?_
        exact x_zret (v := 0) hx hb hr hlocks rfl ⟨(by first | (simp [mFits, h9, c21, c22]; done) | (simp_all [mFits]; done)), rfl⟩ hP hK hD hS dM_fits_158
      · refine lv_iconst (v := 1) hx hb dM_fits_153 (by decide) ?_
        refine lv_goto (tgt := 158) hx hb dM_fits_154 (by decide) ?_
        exact x_zret (v := 1) hx hb hr hlocks rfl ⟨(by first | (simp [mFits, h9, c21, c22]; done) | (simp_all [mFits]; done)), rfl⟩ hP hK hD hS dM_fits_158
    · refine lv_aload_n hx hb dM_fits_139 rfl (lv_at hl 1 rfl) ?_
      refine m_arr 5 hx hb hB inBM hown hK hP hR rfl (hB _ fl_M_13) rfl dM_fits_140 ?_
      refine lv_iload_n hx hb dM_fits_143 rfl (lv_at hl 2 rfl) ?_
      refine m_ld 5 (i := d9) hd hx hb hK hP hR rfl dM_fits_144 ?_
      refine lv_if_eq (tgt := 153) hx hb dM_fits_145 (by decide) (fun c23 => ?_) (fun c23 => ?_)
      · refine lv_iconst (v := 1) hx hb dM_fits_153 (by decide) ?_
        refine lv_goto (tgt := 158) hx hb dM_fits_154 (by decide) ?_
        exact x_zret (v := 1) hx hb hr hlocks rfl ⟨(by first | (simp [mFits, h9, c21, c23]; done) | (simp_all [mFits]; done)), rfl⟩ hP hK hD hS dM_fits_158
      · refine lv_iload_n hx hb dM_fits_148 rfl (lv_at hl 0 rfl) ?_
        refine lv_iconst (v := 5) hx hb dM_fits_149 (by decide) ?_
        refine lv_icmp_ne (tgt := 157) hx hb dM_fits_150 (by decide) (fun _ => ?_) (fun c24 => absurd (c21.symm.trans c24) (by decide))
        refine lv_iconst (v := 0) hx hb dM_fits_157 (by decide) ?_
        exact x_zret (v := 0) hx hb hr hlocks rfl ⟨(by first | (simp [mFits, h9, c21, c23]; done) | (simp_all [mFits]; done)), rfl⟩ hP hK hD hS dM_fits_158
  · refine lv_tableOut (tgt := 159) hx hb dM_fits_8 h10.1 (by decide) ?_
    refine lv_iload_n hx hb dM_fits_159 rfl (lv_at hl 0 rfl) ?_
    refine lv_iconst (v := 2) hx hb dM_fits_160 (by decide) ?_
    refine lv_icmp_eq (tgt := 169) hx hb dM_fits_161 (by decide) (fun c25 => ?_) (fun c25 => ?_)
    · refine lv_iconst (v := 1) hx hb dM_fits_169 (by decide) ?_
      refine lv_goto (tgt := 174) hx hb dM_fits_170 (by decide) ?_
      exact x_zret (v := 1) hx hb hr hlocks rfl ⟨(by first | (simp [mFits, h10.2, c25]; done) | (simp_all [mFits]; done)), rfl⟩ hP hK hD hS dM_fits_174
    · refine lv_iload_n hx hb dM_fits_164 rfl (lv_at hl 0 rfl) ?_
      refine lv_iconst (v := 3) hx hb dM_fits_165 (by decide) ?_
      refine lv_icmp_ne (tgt := 173) hx hb dM_fits_166 (by decide) (fun c26 => ?_) (fun c26 => ?_)
      · refine lv_iconst (v := 0) hx hb dM_fits_173 (by decide) ?_
        exact x_zret (v := 0) hx hb hr hlocks rfl ⟨(by first | (simp [mFits, h10.2, c25, c26]; done) | (simp_all [mFits]; done)), rfl⟩ hP hK hD hS dM_fits_174
      · refine lv_iconst (v := 1) hx hb dM_fits_169 (by decide) ?_
        refine lv_goto (tgt := 174) hx hb dM_fits_170 (by decide) ?_
        exact x_zret (v := 1) hx hb hr hlocks rfl ⟨(by first | (simp [mFits, h10.2, c25, c26]; done) | (simp_all [mFits]; done)), rfl⟩ hP hK hD hS dM_fits_174
set_option maxHeartbeats 4000000 in
set_option maxRecDepth 100000 in
theorem c_M_has {l : Launch} {G : va_G} {ca : Nat → ClassId} {aM : Nat} {am : Nat → Nat} {h : Nat → Int32} {ar : Nat → Nat → Int32} {w : va_W} {sz : Nat} (hR : RM ca aM am h ar w) (d9 : Int32) (m9 : Int32) (hd : vp_in d9 20) : xMi l yM_has wsM_has ({ frames := 0, cells := 0, slots := 0, locals := 0 }) [.ref aM, .int d9, .int m9] G (mTys ca) w sz (fun r w' => r = mHas (ar 8 d9.toNatClampNeg) m9 ∧ w = w') 0 0 := by
  refine x_ofW (fun A => va_Qi (fun r w' => r = mHas (ar 8 d9.toNatClampNeg) m9 ∧ w = w') (xEnd G (mTys ca) A) A) cM_has 3 (some .boolean) (by decide) rfl (Nat.le_of_ble_eq_true rfl) ?_
  intro p e s m below meth c A ls hx hb hr hlocks hml hnm hown hB hA hP hK hD hS hl
  have hl : lv_has ls 3 [(0, .ref aM), (1, .int d9), (2, .int m9)] := hl
  have hown : s.vm.findClass NmM = some m.cls := hown
  refine lv_aload_n hx hb dM_has_0 rfl (lv_at hl 0 rfl) ?_
  refine m_arr 8 hx hb hB inBM hown hK hP hR rfl (hB _ fl_M_22) rfl dM_has_1 ?_
  refine lv_iload_n hx hb dM_has_4 rfl (lv_at hl 1 rfl) ?_
  refine m_ld 8 (i := d9) hd hx hb hK hP hR rfl dM_has_5 ?_
  refine lv_iload_n hx hb dM_has_6 rfl (lv_at hl 2 rfl) ?_
  refine lv_iand hx hb dM_has_7 ?_
  refine lv_if_le (tgt := 15) hx hb dM_has_8 (by decide) (fun c1 => ?_) (fun c1 => ?_)
  · refine lv_iconst (v := 0) hx hb dM_has_15 (by decide) ?_
    exact x_zret (v := 0) hx hb hr hlocks rfl ⟨(by first | (simp [mHas, c1]; done) | (simp_all [mHas]; done)), rfl⟩ hP hK hD hS dM_has_16
  · refine lv_iconst (v := 1) hx hb dM_has_11 (by decide) ?_
    refine lv_goto (tgt := 16) hx hb dM_has_12 (by decide) ?_
    exact x_zret (v := 1) hx hb hr hlocks rfl ⟨(by first | (simp [mHas, c1]; done) | (simp_all [mHas]; done)), rfl⟩ hP hK hD hS dM_has_16
set_option maxHeartbeats 4000000 in
set_option maxRecDepth 100000 in
theorem c_M_isMarked {l : Launch} {G : va_G} {ca : Nat → ClassId} {aM : Nat} {am : Nat → Nat} {h : Nat → Int32} {ar : Nat → Nat → Int32} {w : va_W} {sz : Nat} (hR : RM ca aM am h ar w) (d9 : Int32) (k : Int32) (hd : vp_in d9 20) : xMi l yM_isMarked wsM_isMarked ({ frames := 1, cells := 0, slots := 0, locals := 22 }) [.ref aM, .int d9, .int k] G (mTys ca) w sz (fun r w' => r = mMarked (ar 8 d9.toNatClampNeg) (ar 5 d9.toNatClampNeg) k ∧ w = w') 0 0 := by
  refine x_ofW (fun A => va_Qi (fun r w' => r = mMarked (ar 8 d9.toNatClampNeg) (ar 5 d9.toNatClampNeg) k ∧ w = w') (xEnd G (mTys ca) A) A) cM_isMarked 3 (some .boolean) (by decide) rfl (Nat.le_of_ble_eq_true rfl) ?_
  intro p e s m below meth c A ls hx hb hr hlocks hml hnm hown hB hA hP hK hD hS hl
  have hl : lv_has ls 3 [(0, .ref aM), (1, .int d9), (2, .int k)] := hl
  have hown : s.vm.findClass NmM = some m.cls := hown
  refine lv_iload_n hx hb dM_isMarked_0 rfl (lv_at hl 2 rfl) ?_
  refine lv_iconst (v := 1) hx hb dM_isMarked_1 (by decide) ?_
  refine lv_icmp_ne (tgt := 22) hx hb dM_isMarked_2 (by decide) (fun c1 => ?_) (fun c1 => ?_)
  · refine lv_iload_n hx hb dM_isMarked_22 rfl (lv_at hl 2 rfl) ?_
    refine lv_iconst (v := 2) hx hb dM_isMarked_23 (by decide) ?_
    refine lv_icmp_ne (tgt := 54) hx hb dM_isMarked_24 (by decide) (fun c2 => ?_) (fun c2 => ?_)
    · refine lv_iload_n hx hb dM_isMarked_54 rfl (lv_at hl 2 rfl) ?_
      refine lv_bipush (v := 6) hx hb dM_isMarked_55 (by decide) ?_
      refine lv_icmp_ne (tgt := 77) hx hb dM_isMarked_57 (by decide) (fun c3 => ?_) (fun c3 => ?_)
      · refine lv_iload_n hx hb dM_isMarked_77 rfl (lv_at hl 2 rfl) ?_
        refine lv_bipush (v := 9) hx hb dM_isMarked_78 (by decide) ?_
        refine lv_icmp_ne (tgt := 92) hx hb dM_isMarked_80 (by decide) (fun c4 => ?_) (fun c4 => ?_)
        · refine lv_iconst (v := 1) hx hb dM_isMarked_92 (by decide) ?_
          refine lv_goto (tgt := 97) hx hb dM_isMarked_93 (by decide) ?_
          exact x_zret (v := 1) hx hb hr hlocks rfl ⟨(by first | (simp [mMarked, c1, c2, c3, c4]; done) | (simp_all [mMarked]; done)), rfl⟩ hP hK hD hS dM_isMarked_97
        · refine lv_aload_n hx hb dM_isMarked_83 rfl (lv_at hl 0 rfl) ?_
          refine lv_iload_n hx hb dM_isMarked_84 rfl (lv_at hl 1 rfl) ?_
          refine lv_iconst (v := 4) hx hb dM_isMarked_85 (by decide) ?_
          refine x_calli (va_runV (As := [.int d9, .int 4]) (rest := []) ⟨hx, hb, hml, hown, hB⟩ (c_M_has hR d9 4 hd) (cwV 2 hB (gV ml_M_107 im_M_has sl_M_has ini_M kc_M_has) rfl rfl rfl (by decide +kernel) ⟨Nat.le_of_ble_eq_true rfl, Nat.le_of_ble_eq_true rfl⟩) (x_preV hP hK hD hR.1 rfl) rfl rfl hl.1 rfl (lv_room (Nat.le_of_ble_eq_true rfl)) dM_isMarked_86 ⟨Nat.le_of_ble_eq_true rfl, Nat.le_of_ble_eq_true rfl⟩) hD hS hA (fun r5 w H locs hw hP hD hS => ?_)
          obtain ⟨ee6, rfl⟩ := hw
          refine lv_if_eq (tgt := 96) hx hb dM_isMarked_89 (by decide) (fun c7 => ?_) (fun c7 => ?_)
          · refine lv_iconst (v := 0) hx hb dM_isMarked_96 (by decide) ?_
            exact x_zret (v := 0) hx hb hr hlocks rfl ⟨(by subst ee6; first | (simp [mMarked, c1, c2, c3, c4, c7]; done) | (simp_all [mMarked]; done)), rfl⟩ hP hK hD hS dM_isMarked_97
          · refine lv_iconst (v := 1) hx hb dM_isMarked_92 (by decide) ?_
            refine lv_goto (tgt := 97) hx hb dM_isMarked_93 (by decide) ?_
            exact x_zret (v := 1) hx hb hr hlocks rfl ⟨(by subst ee6; first | (simp [mMarked, c1, c2, c3, c4, c7]; done) | (simp_all [mMarked]; done)), rfl⟩ hP hK hD hS dM_isMarked_97
      · refine lv_aload_n hx hb dM_isMarked_60 rfl (lv_at hl 0 rfl) ?_
        refine lv_iload_n hx hb dM_isMarked_61 rfl (lv_at hl 1 rfl) ?_
        refine lv_iconst (v := 2) hx hb dM_isMarked_62 (by decide) ?_
        refine x_calli (va_runV (As := [.int d9, .int 2]) (rest := []) ⟨hx, hb, hml, hown, hB⟩ (c_M_has hR d9 2 hd) (cwV 2 hB (gV ml_M_107 im_M_has sl_M_has ini_M kc_M_has) rfl rfl rfl (by decide +kernel) ⟨Nat.le_of_ble_eq_true rfl, Nat.le_of_ble_eq_true rfl⟩) (x_preV hP hK hD hR.1 rfl) rfl rfl hl.1 rfl (lv_room (Nat.le_of_ble_eq_true rfl)) dM_isMarked_63 ⟨Nat.le_of_ble_eq_true rfl, Nat.le_of_ble_eq_true rfl⟩) hD hS hA (fun r8 w H locs hw hP hD hS => ?_)
        obtain ⟨ee9, rfl⟩ := hw
        refine lv_if_ne (tgt := 73) hx hb dM_isMarked_66 (by decide) (fun c10 => ?_) (fun c10 => ?_)
        · refine lv_iconst (v := 0) hx hb dM_isMarked_73 (by decide) ?_
          refine lv_goto (tgt := 97) hx hb dM_isMarked_74 (by decide) ?_
          exact x_zret (v := 0) hx hb hr hlocks rfl ⟨(by subst ee9; first | (simp [mMarked, c1, c2, c3, c10]; done) | (simp_all [mMarked]; done)), rfl⟩ hP hK hD hS dM_isMarked_97
        · refine lv_iconst (v := 1) hx hb dM_isMarked_69 (by decide) ?_
          refine lv_goto (tgt := 97) hx hb dM_isMarked_70 (by decide) ?_
          exact x_zret (v := 1) hx hb hr hlocks rfl ⟨(by subst ee9; first | (simp [mMarked, c1, c2, c3, c10]; done) | (simp_all [mMarked]; done)), rfl⟩ hP hK hD hS dM_isMarked_97
    · refine lv_aload_n hx hb dM_isMarked_27 rfl (lv_at hl 0 rfl) ?_
      refine m_arr 5 hx hb hB inBM hown hK hP hR rfl (hB _ fl_M_13) rfl dM_isMarked_28 ?_
      refine lv_iload_n hx hb dM_isMarked_31 rfl (lv_at hl 1 rfl) ?_
      refine m_ld 5 (i := d9) hd hx hb hK hP hR rfl dM_isMarked_32 ?_
      refine lv_iconst (v := 1) hx hb dM_isMarked_33 (by decide) ?_
      refine lv_icmp_eq (tgt := 46) hx hb dM_isMarked_34 (by decide) (fun c11 => ?_) (fun c11 => ?_)
      · refine lv_iconst (v := 1) hx hb dM_isMarked_46 (by decide) ?_
        refine lv_goto (tgt := 97) hx hb dM_isMarked_47 (by decide) ?_
        exact x_zret (v := 1) hx hb hr hlocks rfl ⟨(by first | (simp [mMarked, c1, c2, c11]; done) | (simp_all [mMarked]; done)), rfl⟩ hP hK hD hS dM_isMarked_97
      · refine lv_aload_n hx hb dM_isMarked_37 rfl (lv_at hl 0 rfl) ?_
        refine lv_iload_n hx hb dM_isMarked_38 rfl (lv_at hl 1 rfl) ?_
        refine lv_iconst (v := 1) hx hb dM_isMarked_39 (by decide) ?_
        refine x_calli (va_runV (As := [.int d9, .int 1]) (rest := []) ⟨hx, hb, hml, hown, hB⟩ (c_M_has hR d9 1 hd) (cwV 2 hB (gV ml_M_107 im_M_has sl_M_has ini_M kc_M_has) rfl rfl rfl (by decide +kernel) ⟨Nat.le_of_ble_eq_true rfl, Nat.le_of_ble_eq_true rfl⟩) (x_preV hP hK hD hR.1 rfl) rfl rfl hl.1 rfl (lv_room (Nat.le_of_ble_eq_true rfl)) dM_isMarked_40 ⟨Nat.le_of_ble_eq_true rfl, Nat.le_of_ble_eq_true rfl⟩) hD hS hA (fun r12 w H locs hw hP hD hS => ?_)
        obtain ⟨ee13, rfl⟩ := hw
        refine lv_if_eq (tgt := 50) hx hb dM_isMarked_43 (by decide) (fun c14 => ?_) (fun c14 => ?_)
        · refine lv_iconst (v := 0) hx hb dM_isMarked_50 (by decide) ?_
          refine lv_goto (tgt := 97) hx hb dM_isMarked_51 (by decide) ?_
          exact x_zret (v := 0) hx hb hr hlocks rfl ⟨(by subst ee13; first | (simp [mMarked, c1, c2, c11, c14]; done) | (simp_all [mMarked]; done)), rfl⟩ hP hK hD hS dM_isMarked_97
        · refine lv_iconst (v := 1) hx hb dM_isMarked_46 (by decide) ?_
          refine lv_goto (tgt := 97) hx hb dM_isMarked_47 (by decide) ?_
          exact x_zret (v := 1) hx hb hr hlocks rfl ⟨(by subst ee13; first | (simp [mMarked, c1, c2, c11, c14]; done) | (simp_all [mMarked]; done)), rfl⟩ hP hK hD hS dM_isMarked_97
  · refine lv_aload_n hx hb dM_isMarked_5 rfl (lv_at hl 0 rfl) ?_
    refine lv_iload_n hx hb dM_isMarked_6 rfl (lv_at hl 1 rfl) ?_
    refine lv_iconst (v := 1) hx hb dM_isMarked_7 (by decide) ?_
    refine x_calli (va_runV (As := [.int d9, .int 1]) (rest := []) ⟨hx, hb, hml, hown, hB⟩ (c_M_has hR d9 1 hd) (cwV 2 hB (gV ml_M_107 im_M_has sl_M_has ini_M kc_M_has) rfl rfl rfl (by decide +kernel) ⟨Nat.le_of_ble_eq_true rfl, Nat.le_of_ble_eq_true rfl⟩) (x_preV hP hK hD hR.1 rfl) rfl rfl hl.1 rfl (lv_room (Nat.le_of_ble_eq_true rfl)) dM_isMarked_8 ⟨Nat.le_of_ble_eq_true rfl, Nat.le_of_ble_eq_true rfl⟩) hD hS hA (fun r15 w H locs hw hP hD hS => ?_)
    obtain ⟨ee16, rfl⟩ := hw
    refine lv_if_ne (tgt := 18) hx hb dM_isMarked_11 (by decide) (fun c17 => ?_) (fun c17 => ?_)
    · refine lv_iconst (v := 0) hx hb dM_isMarked_18 (by decide) ?_
      refine lv_goto (tgt := 97) hx hb dM_isMarked_19 (by decide) ?_
      exact x_zret (v := 0) hx hb hr hlocks rfl ⟨(by subst ee16; first | (simp [mMarked, c1, c17]; done) | (simp_all [mMarked]; done)), rfl⟩ hP hK hD hS dM_isMarked_97
    · refine lv_iconst (v := 1) hx hb dM_isMarked_14 (by decide) ?_
      refine lv_goto (tgt := 97) hx hb dM_isMarked_15 (by decide) ?_
      exact x_zret (v := 1) hx hb hr hlocks rfl ⟨(by subst ee16; first | (simp [mMarked, c1, c17]; done) | (simp_all [mMarked]; done)), rfl⟩ hP hK hD hS dM_isMarked_97
