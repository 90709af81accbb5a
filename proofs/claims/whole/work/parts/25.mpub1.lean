set_option maxHeartbeats 4000000 in
set_option maxRecDepth 100000 in
theorem c_M_person {l : Launch} {G : va_G} {ca : Nat → ClassId} {aM : Nat} {am : Nat → Nat} {h : Nat → Int32} {ar : Nat → Nat → Int32} {w : va_W} {sz : Nat} (hR : RM ca aM am h ar w) (v : Int32) {nP : Nat} (hp2 : h 2 = nI nP) (hnP : nP ≤ 12) : xMi l yM_person wsM_person ({ frames := 1, cells := 0, slots := 0, locals := 22 }) [.ref aM, .int v] G (mTys ca) w sz (fun r w' => r = mPersonR h v ∧ RM ca aM am (mPersonH h v) (mPersonA h ar v) w') 0 0 := by
  refine x_ofW (fun A => va_Qi (fun r w' => r = mPersonR h v ∧ RM ca aM am (mPersonH h v) (mPersonA h ar v) w') (xEnd G (mTys ca) A) A) cM_person 2 (some .int) (by decide) rfl (Nat.le_of_ble_eq_true rfl) ?_
  intro p e s m below meth c A ls hx hb hr hlocks hml hnm hown hB hA hP hK hD hS hl
  have hl : lv_has ls 2 [(0, .ref aM), (1, .int v)] := hl
  have hown : s.vm.findClass NmM = some m.cls := hown
  refine lv_iload_n hx hb dM_person_0 rfl (lv_at hl 1 rfl) ?_
  refine lv_iconst (v := 0) hx hb dM_person_1 (by decide) ?_
  refine lv_iconst (v := 2) hx hb dM_person_2 (by decide) ?_
  refine x_calli (va_runS (As := [.int v, .int 0, .int 2]) (rest := []) ⟨hx, hb, hml, hown, hB⟩ (c_M_in hR v 0 2 ) (va_cwS 3 hB (gS ml_M_78 sm_M_in ini_M kc_M_in) rfl rfl rfl (by decide +kernel) ⟨Nat.le_of_ble_eq_true rfl, Nat.le_of_ble_eq_true rfl⟩) (x_preS hP hK hD) rfl rfl hl.1 rfl (lv_room (Nat.le_of_ble_eq_true rfl)) dM_person_3 ⟨Nat.le_of_ble_eq_true rfl, Nat.le_of_ble_eq_true rfl⟩) hD hS hA (fun r1 w H locs hw hP hD hS => ?_)
  obtain ⟨ee2, rfl⟩ := hw
  refine lv_if_ne (tgt := 15) hx hb dM_person_6 (by decide) (fun c3 => ?_) (fun c3 => ?_)
  · refine lv_aload_n hx hb dM_person_15 rfl (lv_at hl 0 rfl) ?_
    refine m_get 2 hx hb hB inBM hown hK hP hR rfl (hB _ fl_M_72) rfl dM_person_16 ?_
    refine lv_bipush (v := 12) hx hb dM_person_19 (by decide) ?_
    refine lv_icmp_ne (tgt := 30) hx hb dM_person_21 (by decide) (fun c4 => ?_) (fun c4 => ?_)
    · refine lv_aload_n hx hb dM_person_30 rfl (lv_at hl 0 rfl) ?_
      refine lv_iconst (v := 0) hx hb dM_person_31 (by decide) ?_
      refine m_put 0 0 hx hb hB inBM hown hK hP hD hS hR rfl (hB _ fl_M_69) rfl rfl (by decide +kernel) dM_person_32 (fun w H locs hR hP hD hS => ?_)
      refine lv_aload_n hx hb dM_person_35 rfl (lv_at hl 0 rfl) ?_
      refine m_arr 3 hx hb hB inBM hown hK hP hR rfl (hB _ fl_M_7) rfl dM_person_36 ?_
      refine lv_aload_n hx hb dM_person_39 rfl (lv_at hl 0 rfl) ?_
      refine m_get 2 hx hb hB inBM hown hK hP hR rfl (hB _ fl_M_72) rfl dM_person_40 ?_
      refine lv_iload_n hx hb dM_person_43 rfl (lv_at hl 1 rfl) ?_
      refine m_st 3 (i := (upd h 0 0) 2) (x := v) (m_in (x := h 2) hp2 hnP (M := 12) rfl (by decide) c4) hx hb hK hP hD hS hR rfl dM_person_44 (fun w H locs hR hP hD hS => ?_)
      refine lv_aload_n hx hb dM_person_45 rfl (lv_at hl 0 rfl) ?_
      refine lv_dup hx hb dM_person_46 rfl ?_
      refine m_get 2 hx hb hB inBM hown hK hP hR rfl (hB _ fl_M_72) rfl dM_person_47 ?_
      refine lv_iconst (v := 1) hx hb dM_person_50 (by decide) ?_
      refine lv_iadd hx hb dM_person_51 ?_
      refine m_put 2 (((upd h 0 0) 2) + 1) hx hb hB inBM hown hK hP hD hS hR rfl (hB _ fl_M_72) rfl rfl (by decide +kernel) dM_person_52 (fun w H locs hR hP hD hS => ?_)
      refine lv_aload_n hx hb dM_person_55 rfl (lv_at hl 0 rfl) ?_
      refine m_get 2 hx hb hB inBM hown hK hP hR rfl (hB _ fl_M_72) rfl dM_person_56 ?_
      refine lv_iconst (v := 1) hx hb dM_person_59 (by decide) ?_
      refine lv_isub hx hb dM_person_60 ?_
      exact x_iret (v := ((upd (upd h 0 0) 2 (((upd h 0 0) 2) + 1)) 2) - 1) hx hb hr hlocks ⟨(by subst ee2; first | (simp [mPersonR, mPersonH, mPersonA, mPersonC, pk_us, pk_un, c3, c4]; done) | (simp_all [mPersonR, mPersonH, mPersonA, mPersonC, pk_us, pk_un]; done)), (by subst ee2; first | (simpa [mPersonR, mPersonH, mPersonA, mPersonC, pk_us, pk_un, c3, c4] using hR) | (have hR9 := hR; simp_all [mPersonR, mPersonH, mPersonA, mPersonC, pk_us, pk_un]; done))⟩ hP hK hD hS dM_person_61
    · refine lv_aload_n hx hb dM_person_24 rfl (lv_at hl 0 rfl) ?_
      refine lv_iconst (v := 2) hx hb dM_person_25 (by decide) ?_
      refine x_calli (va_runV (As := [.int 2]) (rest := []) ⟨hx, hb, hml, hown, hB⟩ (c_M_refuse hR 2 ) (cwV 1 hB (gV ml_M_82 im_M_refuse sl_M_refuse ini_M kc_M_refuse) rfl rfl rfl (by decide +kernel) ⟨Nat.le_of_ble_eq_true rfl, Nat.le_of_ble_eq_true rfl⟩) (x_preV hP hK hD hR.1 rfl) rfl rfl hl.1 rfl (lv_room (Nat.le_of_ble_eq_true rfl)) dM_person_26 ⟨Nat.le_of_ble_eq_true rfl, Nat.le_of_ble_eq_true rfl⟩) hD hS hA (fun r5 w H locs hw hP hD hS => ?_)
      obtain ⟨ee6, hR⟩ := hw
      exact x_iret (v := r5) hx hb hr hlocks ⟨(by subst ee2 ee6; first | (simp [mPersonR, mPersonH, mPersonA, mPersonC, pk_us, pk_un, c3, c4]; done) | (simp_all [mPersonR, mPersonH, mPersonA, mPersonC, pk_us, pk_un]; done)), (by subst ee2 ee6; first | (simpa [mPersonR, mPersonH, mPersonA, mPersonC, pk_us, pk_un, c3, c4] using hR) | (have hR9 := hR; simp_all [mPersonR, mPersonH, mPersonA, mPersonC, pk_us, pk_un]; done))⟩ hP hK hD hS dM_person_29
  · refine lv_aload_n hx hb dM_person_9 rfl (lv_at hl 0 rfl) ?_
    refine lv_iconst (v := 1) hx hb dM_person_10 (by decide) ?_
    refine x_calli (va_runV (As := [.int 1]) (rest := []) ⟨hx, hb, hml, hown, hB⟩ (c_M_refuse hR 1 ) (cwV 1 hB (gV ml_M_82 im_M_refuse sl_M_refuse ini_M kc_M_refuse) rfl rfl rfl (by decide +kernel) ⟨Nat.le_of_ble_eq_true rfl, Nat.le_of_ble_eq_true rfl⟩) (x_preV hP hK hD hR.1 rfl) rfl rfl hl.1 rfl (lv_room (Nat.le_of_ble_eq_true rfl)) dM_person_11 ⟨Nat.le_of_ble_eq_true rfl, Nat.le_of_ble_eq_true rfl⟩) hD hS hA (fun r7 w H locs hw hP hD hS => ?_)
    obtain ⟨ee8, hR⟩ := hw
    exact x_iret (v := r7) hx hb hr hlocks ⟨(by subst ee2 ee8; first | (simp [mPersonR, mPersonH, mPersonA, mPersonC, pk_us, pk_un, c3]; done) | (simp_all [mPersonR, mPersonH, mPersonA, mPersonC, pk_us, pk_un]; done)), (by subst ee2 ee8; first | (simpa [mPersonR, mPersonH, mPersonA, mPersonC, pk_us, pk_un, c3] using hR) | (have hR9 := hR; simp_all [mPersonR, mPersonH, mPersonA, mPersonC, pk_us, pk_un]; done))⟩ hP hK hD hS dM_person_14
set_option maxHeartbeats 4000000 in
set_option maxRecDepth 100000 in
theorem c_M_declaration {l : Launch} {G : va_G} {ca : Nat → ClassId} {aM : Nat} {am : Nat → Nat} {h : Nat → Int32} {ar : Nat → Nat → Int32} {w : va_W} {sz : Nat} (hR : RM ca aM am h ar w) (k : Int32) (t : Int32) {nP : Nat} (hp2 : h 2 = nI nP) (hnP : nP ≤ 12) {nD : Nat} (hd4 : h 4 = nI nD) (hnD : nD ≤ 20) : xMi l yM_declaration wsM_declaration ({ frames := 1, cells := 0, slots := 0, locals := 22 }) [.ref aM, .int k, .int t] G (mTys ca) w sz (fun r w' => r = mDeclR h ar k t ∧ RM ca aM am (mDeclH h ar k t) (mDeclA h ar k t) w') 0 0 := by
  refine x_ofW (fun A => va_Qi (fun r w' => r = mDeclR h ar k t ∧ RM ca aM am (mDeclH h ar k t) (mDeclA h ar k t) w') (xEnd G (mTys ca) A) A) cM_declaration 3 (some .int) (by decide) rfl (Nat.le_of_ble_eq_true rfl) ?_
  intro p e s m below meth c A ls hx hb hr hlocks hml hnm hown hB hA hP hK hD hS hl
  have hl : lv_has ls 3 [(0, .ref aM), (1, .int k), (2, .int t)] := hl
  have hown : s.vm.findClass NmM = some m.cls := hown
  refine lv_iload_n hx hb dM_declaration_0 rfl (lv_at hl 1 rfl) ?_
  refine lv_iconst (v := 0) hx hb dM_declaration_1 (by decide) ?_
  refine lv_iconst (v := 2) hx hb dM_declaration_2 (by decide) ?_
  refine x_calli (va_runS (As := [.int k, .int 0, .int 2]) (rest := []) ⟨hx, hb, hml, hown, hB⟩ (c_M_in hR k 0 2 ) (va_cwS 3 hB (gS ml_M_78 sm_M_in ini_M kc_M_in) rfl rfl rfl (by decide +kernel) ⟨Nat.le_of_ble_eq_true rfl, Nat.le_of_ble_eq_true rfl⟩) (x_preS hP hK hD) rfl rfl hl.1 rfl (lv_room (Nat.le_of_ble_eq_true rfl)) dM_declaration_3 ⟨Nat.le_of_ble_eq_true rfl, Nat.le_of_ble_eq_true rfl⟩) hD hS hA (fun r1 w H locs hw hP hD hS => ?_)
  obtain ⟨ee2, rfl⟩ := hw
  refine lv_if_eq (tgt := 26) hx hb dM_declaration_6 (by decide) (fun c3 => ?_) (fun c3 => ?_)
  · refine lv_aload_n hx hb dM_declaration_26 rfl (lv_at hl 0 rfl) ?_
    refine lv_iconst (v := 1) hx hb dM_declaration_27 (by decide) ?_
    refine x_calli (va_runV (As := [.int 1]) (rest := []) ⟨hx, hb, hml, hown, hB⟩ (c_M_refuse hR 1 ) (cwV 1 hB (gV ml_M_82 im_M_refuse sl_M_refuse ini_M kc_M_refuse) rfl rfl rfl (by decide +kernel) ⟨Nat.le_of_ble_eq_true rfl, Nat.le_of_ble_eq_true rfl⟩) (x_preV hP hK hD hR.1 rfl) rfl rfl hl.1 rfl (lv_room (Nat.le_of_ble_eq_true rfl)) dM_declaration_28 ⟨Nat.le_of_ble_eq_true rfl, Nat.le_of_ble_eq_true rfl⟩) hD hS hA (fun r4 w H locs hw hP hD hS => ?_)
    obtain ⟨ee5, hR⟩ := hw
    exact x_iret (v := r4) hx hb hr hlocks ⟨(by subst ee2 ee5; first | (simp [mDeclR, mDeclH, mDeclA, mDeclC, pk_us, pk_un, c3]; done) | (simp_all [mDeclR, mDeclH, mDeclA, mDeclC, pk_us, pk_un]; done)), (by subst ee2 ee5; first | (simpa [mDeclR, mDeclH, mDeclA, mDeclC, pk_us, pk_un, c3] using hR) | (have hR9 := hR; simp_all [mDeclR, mDeclH, mDeclA, mDeclC, pk_us, pk_un]; done))⟩ hP hK hD hS dM_declaration_31
  · refine lv_aload_n hx hb dM_declaration_9 rfl (lv_at hl 0 rfl) ?_
    refine lv_iload_n hx hb dM_declaration_10 rfl (lv_at hl 2 rfl) ?_
    refine x_calli (va_runV (As := [.int t]) (rest := []) ⟨hx, hb, hml, hown, hB⟩ (c_M_isPerson hR t ) (cwV 1 hB (gV ml_M_86 im_M_isPerson sl_M_isPerson ini_M kc_M_isPerson) rfl rfl rfl (by decide +kernel) ⟨Nat.le_of_ble_eq_true rfl, Nat.le_of_ble_eq_true rfl⟩) (x_preV hP hK hD hR.1 rfl) rfl rfl hl.1 rfl (lv_room (Nat.le_of_ble_eq_true rfl)) dM_declaration_11 ⟨Nat.le_of_ble_eq_true rfl, Nat.le_of_ble_eq_true rfl⟩) hD hS hA (fun r6 w H locs hw hP hD hS => ?_)
    obtain ⟨ee7, rfl⟩ := hw
    refine lv_if_eq (tgt := 26) hx hb dM_declaration_14 (by decide) (fun c8 => ?_) (fun c8 => ?_)
    · refine lv_aload_n hx hb dM_declaration_26 rfl (lv_at hl 0 rfl) ?_
      refine lv_iconst (v := 1) hx hb dM_declaration_27 (by decide) ?_
      refine x_calli (va_runV (As := [.int 1]) (rest := []) ⟨hx, hb, hml, hown, hB⟩ (c_M_refuse hR 1 ) (cwV 1 hB (gV ml_M_82 im_M_refuse sl_M_refuse ini_M kc_M_refuse) rfl rfl rfl (by decide +kernel) ⟨Nat.le_of_ble_eq_true rfl, Nat.le_of_ble_eq_true rfl⟩) (x_preV hP hK hD hR.1 rfl) rfl rfl hl.1 rfl (lv_room (Nat.le_of_ble_eq_true rfl)) dM_declaration_28 ⟨Nat.le_of_ble_eq_true rfl, Nat.le_of_ble_eq_true rfl⟩) hD hS hA (fun r9 w H locs hw hP hD hS => ?_)
      obtain ⟨ee10, hR⟩ := hw
      exact x_iret (v := r9) hx hb hr hlocks ⟨(by subst ee2 ee7 ee10; first | (simp [mDeclR, mDeclH, mDeclA, mDeclC, pk_us, pk_un, c3, c8]; done) | (simp_all [mDeclR, mDeclH, mDeclA, mDeclC, pk_us, pk_un]; done)), (by subst ee2 ee7 ee10; first | (simpa [mDeclR, mDeclH, mDeclA, mDeclC, pk_us, pk_un, c3, c8] using hR) | (have hR9 := hR; simp_all [mDeclR, mDeclH, mDeclA, mDeclC, pk_us, pk_un]; done))⟩ hP hK hD hS dM_declaration_31
    · refine lv_aload_n hx hb dM_declaration_17 rfl (lv_at hl 0 rfl) ?_
      refine m_arr 3 hx hb hB inBM hown hK hP hR rfl (hB _ fl_M_7) rfl dM_declaration_18 ?_
      refine lv_iload_n hx hb dM_declaration_21 rfl (lv_at hl 2 rfl) ?_
      refine m_ld 3 (i := t) (mPers_in hp2 hnP (by decide) (by rw [← ee7]; exact c8)) hx hb hK hP hR rfl dM_declaration_22 ?_
      refine lv_if_eq (tgt := 32) hx hb dM_declaration_23 (by decide) (fun c11 => ?_) (fun c11 => ?_)
      · refine lv_aload_n hx hb dM_declaration_32 rfl (lv_at hl 0 rfl) ?_
        refine m_get 4 hx hb hB inBM hown hK hP hR rfl (hB _ fl_M_75) rfl dM_declaration_33 ?_
        refine lv_bipush (v := 20) hx hb dM_declaration_36 (by decide) ?_
        refine lv_icmp_ne (tgt := 47) hx hb dM_declaration_38 (by decide) (fun c12 => ?_) (fun c12 => ?_)
        · refine lv_aload_n hx hb dM_declaration_47 rfl (lv_at hl 0 rfl) ?_
          refine lv_iconst (v := 0) hx hb dM_declaration_48 (by decide) ?_
          refine m_put 0 0 hx hb hB inBM hown hK hP hD hS hR rfl (hB _ fl_M_69) rfl rfl (by decide +kernel) dM_declaration_49 (fun w H locs hR hP hD hS => ?_)
          refine lv_aload_n hx hb dM_declaration_52 rfl (lv_at hl 0 rfl) ?_
          refine m_arr 5 hx hb hB inBM hown hK hP hR rfl (hB _ fl_M_13) rfl dM_declaration_53 ?_
          refine lv_aload_n hx hb dM_declaration_56 rfl (lv_at hl 0 rfl) ?_
          refine m_get 4 hx hb hB inBM hown hK hP hR rfl (hB _ fl_M_75) rfl dM_declaration_57 ?_
          refine lv_iload_n hx hb dM_declaration_60 rfl (lv_at hl 1 rfl) ?_
          refine m_st 5 (i := (upd h 0 0) 4) (x := k) (m_in (x := h 4) hd4 hnD (M := 20) rfl (by decide) c12) hx hb hK hP hD hS hR rfl dM_declaration_61 (fun w H locs hR hP hD hS => ?_)
          refine lv_aload_n hx hb dM_declaration_62 rfl (lv_at hl 0 rfl) ?_
          refine m_arr 6 hx hb hB inBM hown hK hP hR rfl (hB _ fl_M_16) rfl dM_declaration_63 ?_
          refine lv_aload_n hx hb dM_declaration_66 rfl (lv_at hl 0 rfl) ?_
          refine m_get 4 hx hb hB inBM hown hK hP hR rfl (hB _ fl_M_75) rfl dM_declaration_67 ?_
          refine lv_iload_n hx hb dM_declaration_70 rfl (lv_at hl 2 rfl) ?_
          refine m_st 6 (i := (upd h 0 0) 4) (x := t) (m_in (x := h 4) hd4 hnD (M := 20) rfl (by decide) c12) hx hb hK hP hD hS hR rfl dM_declaration_71 (fun w H locs hR hP hD hS => ?_)
          refine lv_aload_n hx hb dM_declaration_72 rfl (lv_at hl 0 rfl) ?_
          refine m_arr 11 hx hb hB inBM hown hK hP hR rfl (hB _ fl_M_31) rfl dM_declaration_73 ?_
          refine lv_aload_n hx hb dM_declaration_76 rfl (lv_at hl 0 rfl) ?_
          refine m_get 4 hx hb hB inBM hown hK hP hR rfl (hB _ fl_M_75) rfl dM_declaration_77 ?_
          refine lv_iconst (v := (-1)) hx hb dM_declaration_80 (by decide) ?_
          refine m_st 11 (i := (upd h 0 0) 4) (x := (-1)) (m_in (x := h 4) hd4 hnD (M := 20) rfl (by decide) c12) hx hb hK hP hD hS hR rfl dM_declaration_81 (fun w H locs hR hP hD hS => ?_)
          refine lv_aload_n hx hb dM_declaration_82 rfl (lv_at hl 0 rfl) ?_
          refine lv_dup hx hb dM_declaration_83 rfl ?_
          refine m_get 4 hx hb hB inBM hown hK hP hR rfl (hB _ fl_M_75) rfl dM_declaration_84 ?_
          refine lv_iconst (v := 1) hx hb dM_declaration_87 (by decide) ?_
          refine lv_iadd hx hb dM_declaration_88 ?_
          refine m_put 4 (((upd h 0 0) 4) + 1) hx hb hB inBM hown hK hP hD hS hR rfl (hB _ fl_M_75) rfl rfl (by decide +kernel) dM_declaration_89 (fun w H locs hR hP hD hS => ?_)
          refine lv_aload_n hx hb dM_declaration_92 rfl (lv_at hl 0 rfl) ?_
          refine m_get 4 hx hb hB inBM hown hK hP hR rfl (hB _ fl_M_75) rfl dM_declaration_93 ?_
          refine lv_iconst (v := 1) hx hb dM_declaration_96 (by decide) ?_
          refine lv_isub hx hb dM_declaration_97 ?_
          exact x_iret (v := ((upd (upd h 0 0) 4 (((upd h 0 0) 4) + 1)) 4) - 1) hx hb hr hlocks ⟨(by subst ee2 ee7; first | (simp [mDeclR, mDeclH, mDeclA, mDeclC, pk_us, pk_un, c3, c8, c11, c12]; done) | (simp_all [mDeclR, mDeclH, mDeclA, mDeclC, pk_us, pk_un]; done)), (by subst ee2 ee7; first | (simpa [mDeclR, mDeclH, mDeclA, mDeclC, pk_us, pk_un, c3, c8, c11, c12] using hR) | (have hR9 := hR; simp_all [mDeclR, mDeclH, mDeclA, mDeclC, pk_us, pk_un]; done))⟩ hP hK hD hS dM_declaration_98
        · refine lv_aload_n hx hb dM_declaration_41 rfl (lv_at hl 0 rfl) ?_
          refine lv_iconst (v := 2) hx hb dM_declaration_42 (by decide) ?_
          refine x_calli (va_runV (As := [.int 2]) (rest := []) ⟨hx, hb, hml, hown, hB⟩ (c_M_refuse hR 2 ) (cwV 1 hB (gV ml_M_82 im_M_refuse sl_M_refuse ini_M kc_M_refuse) rfl rfl rfl (by decide +kernel) ⟨Nat.le_of_ble_eq_true rfl, Nat.le_of_ble_eq_true rfl⟩) (x_preV hP hK hD hR.1 rfl) rfl rfl hl.1 rfl (lv_room (Nat.le_of_ble_eq_true rfl)) dM_declaration_43 ⟨Nat.le_of_ble_eq_true rfl, Nat.le_of_ble_eq_true rfl⟩) hD hS hA (fun r13 w H locs hw hP hD hS => ?_)
          obtain ⟨ee14, hR⟩ := hw
          exact x_iret (v := r13) hx hb hr hlocks ⟨(by subst ee2 ee7 ee14; first | (simp [mDeclR, mDeclH, mDeclA, mDeclC, pk_us, pk_un, c3, c8, c11, c12]; done) | (simp_all [mDeclR, mDeclH, mDeclA, mDeclC, pk_us, pk_un]; done)), (by subst ee2 ee7 ee14; first | (simpa [mDeclR, mDeclH, mDeclA, mDeclC, pk_us, pk_un, c3, c8, c11, c12] using hR) | (have hR9 := hR; simp_all [mDeclR, mDeclH, mDeclA, mDeclC, pk_us, pk_un]; done))⟩ hP hK hD hS dM_declaration_46
      · refine lv_aload_n hx hb dM_declaration_26 rfl (lv_at hl 0 rfl) ?_
        refine lv_iconst (v := 1) hx hb dM_declaration_27 (by decide) ?_
        refine x_calli (va_runV (As := [.int 1]) (rest := []) ⟨hx, hb, hml, hown, hB⟩ (c_M_refuse hR 1 ) (cwV 1 hB (gV ml_M_82 im_M_refuse sl_M_refuse ini_M kc_M_refuse) rfl rfl rfl (by decide +kernel) ⟨Nat.le_of_ble_eq_true rfl, Nat.le_of_ble_eq_true rfl⟩) (x_preV hP hK hD hR.1 rfl) rfl rfl hl.1 rfl (lv_room (Nat.le_of_ble_eq_true rfl)) dM_declaration_28 ⟨Nat.le_of_ble_eq_true rfl, Nat.le_of_ble_eq_true rfl⟩) hD hS hA (fun r15 w H locs hw hP hD hS => ?_)
        obtain ⟨ee16, hR⟩ := hw
        exact x_iret (v := r15) hx hb hr hlocks ⟨(by subst ee2 ee7 ee16; first | (simp [mDeclR, mDeclH, mDeclA, mDeclC, pk_us, pk_un, c3, c8, c11]; done) | (simp_all [mDeclR, mDeclH, mDeclA, mDeclC, pk_us, pk_un]; done)), (by subst ee2 ee7 ee16; first | (simpa [mDeclR, mDeclH, mDeclA, mDeclC, pk_us, pk_un, c3, c8, c11] using hR) | (have hR9 := hR; simp_all [mDeclR, mDeclH, mDeclA, mDeclC, pk_us, pk_un]; done))⟩ hP hK hD hS dM_declaration_31
set_option maxHeartbeats 4000000 in
set_option maxRecDepth 100000 in
theorem c_M_waiting {l : Launch} {G : va_G} {ca : Nat → ClassId} {aM : Nat} {am : Nat → Nat} {h : Nat → Int32} {ar : Nat → Nat → Int32} {w : va_W} {sz : Nat} (hR : RM ca aM am h ar w)  {nE : Nat} (he13 : h 13 = nI nE) (hnE : nE ≤ 120) : xMi l yM_waiting wsM_waiting ({ frames := 0, cells := 0, slots := 0, locals := 0 }) [.ref aM] G (mTys ca) w sz (fun r w' => r = mCntW ar nE ∧ w = w') 0 0 := by
  refine x_ofW (fun A => va_Qi (fun r w' => r = mCntW ar nE ∧ w = w') (xEnd G (mTys ca) A) A) cM_waiting 3 (some .int) (by decide) rfl (Nat.le_of_ble_eq_true rfl) ?_
  intro p e s m below meth c A ls hx hb hr hlocks hml hnm hown hB hA hP hK hD hS hl
  have hl : lv_has ls 3 [(0, .ref aM)] := hl
  have hown : s.vm.findClass NmM = some m.cls := hown
  have loop4 : ∀ (n : Nat) (i : Nat) (xa xi : Int32), i ≤ nE → nE + 1 ≤ i + n → xi = nI i → xa = mCntW ar i → ∀ (ls : Array Slot) (H : Heap) (locs : List Loc), lv_has ls 3 [(0, .ref aM), (1, .int xa), (2, .int xi)] → va_P G vwCl w H → va_D A w → va_S A s.heap H locs → W p l e ({ frames := 0, cells := 0, slots := 0, locals := 0 }) s m [.ref aM].toArray below meth c H locs 0 0 (MQ below (va_Qi (fun r w' => r = mCntW ar nE ∧ w = w') (xEnd G (mTys ca) A) A) [.ref aM].toArray s 0 0 A) (F0 m 4 ls []) := by
    intro n
    induction n with
    | zero => intro i xa xi hi hn exi exa; exact absurd hn (by omega)
    | succ n ih4 =>
      intro i xa xi hi hn exi exa ls H locs hl hP hD hS
      have hcl : xi.toNatClampNeg = i := by rw [exi]; exact nI_clamp (by omega)
      refine lv_iload_n hx hb dM_waiting_4 rfl (lv_at hl 2 rfl) ?_
      refine lv_aload_n hx hb dM_waiting_5 rfl (lv_at hl 0 rfl) ?_
      refine m_get 13 hx hb hB inBM hown hK hP hR rfl (hB _ fl_M_90) rfl dM_waiting_6 ?_
      refine lv_icmp_ge (tgt := 35) hx hb dM_waiting_9 (by decide) (fun c1 => ?_) (fun c1 => ?_)
      · refine lv_iload_n hx hb dM_waiting_35 rfl (lv_at hl 1 rfl) ?_
        exact x_iret (v := xa) hx hb hr hlocks ⟨(by rw [exa, x_gen exi he13 c1 hi (by omega)]), rfl⟩ hP hK hD hS dM_waiting_36
      · refine lv_iload_n hx hb dM_waiting_12 rfl (lv_at hl 1 rfl) ?_
        refine lv_aload_n hx hb dM_waiting_13 rfl (lv_at hl 0 rfl) ?_
        refine m_arr 18 hx hb hB inBM hown hK hP hR rfl (hB _ fl_M_49) rfl dM_waiting_14 ?_
        refine lv_iload_n hx hb dM_waiting_17 rfl (lv_at hl 2 rfl) ?_
        refine m_ldz 18 (i := xi) (m_inB exi he13 c1 (by omega) hnE (by decide)) hx hb hK hP hR rfl dM_waiting_18 ?_
        refine lv_if_eq (tgt := 26) hx hb dM_waiting_19 (by decide) (fun c2 => ?_) (fun c2 => ?_)
        · refine lv_iconst (v := 0) hx hb dM_waiting_26 (by decide) ?_
          refine lv_iadd hx hb dM_waiting_27 ?_
          refine lv_istore_n (lv' := [(1, .int (xa + 0)), (0, .ref aM), (2, .int xi)]) hx hb dM_waiting_28 rfl hl (by decide) rfl (fun ls hl => ?_)
          refine lv_iinc (v := xi + 1) (lv' := [(2, .int (xi + 1)), (1, .int (xa + 0)), (0, .ref aM)]) hx hb dM_waiting_29 hl (k := 2) rfl rfl (by decide) rfl (fun ls hl => ?_)
          refine lv_goto (tgt := 4) hx hb dM_waiting_32 (by decide) ?_
          exact ih4 (i + 1) _ _ (x_ltn exi he13 c1 (by omega) (by omega)) (by omega) (by rw [exi]; exact nI_1 i) (by have h8 := c2; rw [hcl] at h8; rw [exa]; simp [mCntW, h8]) _ _ _ (lv_sub hl [2, 1, 0] rfl) hP hD hS
        · refine lv_iconst (v := 1) hx hb dM_waiting_22 (by decide) ?_
          refine lv_goto (tgt := 27) hx hb dM_waiting_23 (by decide) ?_
          refine lv_iadd hx hb dM_waiting_27 ?_
          refine lv_istore_n (lv' := [(1, .int (xa + 1)), (0, .ref aM), (2, .int xi)]) hx hb dM_waiting_28 rfl hl (by decide) rfl (fun ls hl => ?_)
          refine lv_iinc (v := xi + 1) (lv' := [(2, .int (xi + 1)), (1, .int (xa + 1)), (0, .ref aM)]) hx hb dM_waiting_29 hl (k := 2) rfl rfl (by decide) rfl (fun ls hl => ?_)
          refine lv_goto (tgt := 4) hx hb dM_waiting_32 (by decide) ?_
          exact ih4 (i + 1) _ _ (x_ltn exi he13 c1 (by omega) (by omega)) (by omega) (by rw [exi]; exact nI_1 i) (by have h8 := c2; rw [hcl] at h8; rw [exa]; simp [mCntW, h8]) _ _ _ (lv_sub hl [2, 1, 0] rfl) hP hD hS
  refine lv_iconst (v := 0) hx hb dM_waiting_0 (by decide) ?_
  refine lv_istore_n (lv' := [(1, .int 0), (0, .ref aM)]) hx hb dM_waiting_1 rfl hl (by decide) rfl (fun ls hl => ?_)
  refine lv_iconst (v := 0) hx hb dM_waiting_2 (by decide) ?_
  refine lv_istore_n (lv' := [(2, .int 0), (1, .int 0), (0, .ref aM)]) hx hb dM_waiting_3 rfl hl (by decide) rfl (fun ls hl => ?_)
  exact loop4 (nE + 1) 0 _ _ (Nat.zero_le _) (by omega) nI_0.symm rfl _ _ _ (lv_sub hl [2, 1, 0] rfl) hP hD hS
set_option maxHeartbeats 4000000 in
set_option maxRecDepth 100000 in
theorem c_M_event {l : Launch} {G : va_G} {ca : Nat → ClassId} {aM : Nat} {am : Nat → Nat} {h : Nat → Int32} {ar : Nat → Nat → Int32} {w : va_W} {sz : Nat} (hR : RM ca aM am h ar w) (d9 : Int32) (k : Int32) (w9 : Int32) (t9 : Int32) {nP : Nat} (hp2 : h 2 = nI nP) (hnP : nP ≤ 12) {nD : Nat} (hd4 : h 4 = nI nD) (hnD : nD ≤ 20) {nE : Nat} (he13 : h 13 = nI nE) (hnE : nE ≤ 120) : xMi l yM_event wsM_event ({ frames := 1, cells := 0, slots := 0, locals := 22 }) [.ref aM, .int d9, .int k, .int w9, .int t9] G (mTys ca) w sz (fun r w' => r = mEvR h ar nE d9 k w9 t9 ∧ RM ca aM am (mEvH h ar nE d9 k w9 t9) (mEvA h ar nE d9 k w9 t9) w') 0 0 := by
  refine x_ofW (fun A => va_Qi (fun r w' => r = mEvR h ar nE d9 k w9 t9 ∧ RM ca aM am (mEvH h ar nE d9 k w9 t9) (mEvA h ar nE d9 k w9 t9) w') (xEnd G (mTys ca) A) A) cM_event 5 (some .int) (by decide) rfl (Nat.le_of_ble_eq_true rfl) ?_
  intro p e s m below meth c A ls hx hb hr hlocks hml hnm hown hB hA hP hK hD hS hl
  have hl : lv_has ls 5 [(0, .ref aM), (1, .int d9), (2, .int k), (3, .int w9), (4, .int t9)] := hl
  have hown : s.vm.findClass NmM = some m.cls := hown
  refine lv_aload_n hx hb dM_event_0 rfl (lv_at hl 0 rfl) ?_
  refine lv_iload_n hx hb dM_event_1 rfl (lv_at hl 1 rfl) ?_
  refine x_calli (va_runV (As := [.int d9]) (rest := []) ⟨hx, hb, hml, hown, hB⟩ (c_M_isOne hR d9 ) (cwV 1 hB (gV ml_M_93 im_M_isOne sl_M_isOne ini_M kc_M_isOne) rfl rfl rfl (by decide +kernel) ⟨Nat.le_of_ble_eq_true rfl, Nat.le_of_ble_eq_true rfl⟩) (x_preV hP hK hD hR.1 rfl) rfl rfl hl.1 rfl (lv_room (Nat.le_of_ble_eq_true rfl)) dM_event_2 ⟨Nat.le_of_ble_eq_true rfl, Nat.le_of_ble_eq_true rfl⟩) hD hS hA (fun r1 w H locs hw hP hD hS => ?_)
  obtain ⟨ee2, rfl⟩ := hw
  refine lv_if_eq (tgt := 42) hx hb dM_event_5 (by decide) (fun c3 => ?_) (fun c3 => ?_)
  · refine lv_aload_n hx hb dM_event_42 rfl (lv_at hl 0 rfl) ?_
    refine lv_iconst (v := 1) hx hb dM_event_43 (by decide) ?_
    refine x_calli (va_runV (As := [.int 1]) (rest := []) ⟨hx, hb, hml, hown, hB⟩ (c_M_refuse hR 1 ) (cwV 1 hB (gV ml_M_82 im_M_refuse sl_M_refuse ini_M kc_M_refuse) rfl rfl rfl (by decide +kernel) ⟨Nat.le_of_ble_eq_true rfl, Nat.le_of_ble_eq_true rfl⟩) (x_preV hP hK hD hR.1 rfl) rfl rfl hl.1 rfl (lv_room (Nat.le_of_ble_eq_true rfl)) dM_event_44 ⟨Nat.le_of_ble_eq_true rfl, Nat.le_of_ble_eq_true rfl⟩) hD hS hA (fun r4 w H locs hw hP hD hS => ?_)
    obtain ⟨ee5, hR⟩ := hw
    exact x_iret (v := r4) hx hb hr hlocks ⟨(by subst ee2 ee5; first | (simp [mEvR, mEvH, mEvA, mEvC, pk_us, pk_un, c3]; done) | (simp_all [mEvR, mEvH, mEvA, mEvC, pk_us, pk_un]; done)), (by subst ee2 ee5; first | (simpa [mEvR, mEvH, mEvA, mEvC, pk_us, pk_un, c3] using hR) | (have hR9 := hR; simp_all [mEvR, mEvH, mEvA, mEvC, pk_us, pk_un]; done))⟩ hP hK hD hS dM_event_47
  · refine lv_iload_n hx hb dM_event_8 rfl (lv_at hl 2 rfl) ?_
    refine lv_iconst (v := 0) hx hb dM_event_9 (by decide) ?_
    refine lv_bipush (v := 9) hx hb dM_event_10 (by decide) ?_
    refine x_calli (va_runS (As := [.int k, .int 0, .int 9]) (rest := []) ⟨hx, hb, hml, hown, hB⟩ (c_M_in hR k 0 9 ) (va_cwS 3 hB (gS ml_M_78 sm_M_in ini_M kc_M_in) rfl rfl rfl (by decide +kernel) ⟨Nat.le_of_ble_eq_true rfl, Nat.le_of_ble_eq_true rfl⟩) (x_preS hP hK hD) rfl rfl hl.1 rfl (lv_room (Nat.le_of_ble_eq_true rfl)) dM_event_12 ⟨Nat.le_of_ble_eq_true rfl, Nat.le_of_ble_eq_true rfl⟩) hD hS hA (fun r6 w H locs hw hP hD hS => ?_)
    obtain ⟨ee7, rfl⟩ := hw
    refine lv_if_eq (tgt := 42) hx hb dM_event_15 (by decide) (fun c8 => ?_) (fun c8 => ?_)
    · refine lv_aload_n hx hb dM_event_42 rfl (lv_at hl 0 rfl) ?_
      refine lv_iconst (v := 1) hx hb dM_event_43 (by decide) ?_
      refine x_calli (va_runV (As := [.int 1]) (rest := []) ⟨hx, hb, hml, hown, hB⟩ (c_M_refuse hR 1 ) (cwV 1 hB (gV ml_M_82 im_M_refuse sl_M_refuse ini_M kc_M_refuse) rfl rfl rfl (by decide +kernel) ⟨Nat.le_of_ble_eq_true rfl, Nat.le_of_ble_eq_true rfl⟩) (x_preV hP hK hD hR.1 rfl) rfl rfl hl.1 rfl (lv_room (Nat.le_of_ble_eq_true rfl)) dM_event_44 ⟨Nat.le_of_ble_eq_true rfl, Nat.le_of_ble_eq_true rfl⟩) hD hS hA (fun r9 w H locs hw hP hD hS => ?_)
      obtain ⟨ee10, hR⟩ := hw
      exact x_iret (v := r9) hx hb hr hlocks ⟨(by subst ee2 ee7 ee10; first | (simp [mEvR, mEvH, mEvA, mEvC, pk_us, pk_un, c3, c8]; done) | (simp_all [mEvR, mEvH, mEvA, mEvC, pk_us, pk_un]; done)), (by subst ee2 ee7 ee10; first | (simpa [mEvR, mEvH, mEvA, mEvC, pk_us, pk_un, c3, c8] using hR) | (have hR9 := hR; simp_all [mEvR, mEvH, mEvA, mEvC, pk_us, pk_un]; done))⟩ hP hK hD hS dM_event_47
    · refine lv_aload_n hx hb dM_event_18 rfl (lv_at hl 0 rfl) ?_
      refine lv_iload_n hx hb dM_event_19 rfl (lv_at hl 3 rfl) ?_
      refine x_calli (va_runV (As := [.int w9]) (rest := []) ⟨hx, hb, hml, hown, hB⟩ (c_M_isPerson hR w9 ) (cwV 1 hB (gV ml_M_86 im_M_isPerson sl_M_isPerson ini_M kc_M_isPerson) rfl rfl rfl (by decide +kernel) ⟨Nat.le_of_ble_eq_true rfl, Nat.le_of_ble_eq_true rfl⟩) (x_preV hP hK hD hR.1 rfl) rfl rfl hl.1 rfl (lv_room (Nat.le_of_ble_eq_true rfl)) dM_event_20 ⟨Nat.le_of_ble_eq_true rfl, Nat.le_of_ble_eq_true rfl⟩) hD hS hA (fun r11 w H locs hw hP hD hS => ?_)
      obtain ⟨ee12, rfl⟩ := hw
      refine lv_if_eq (tgt := 42) hx hb dM_event_23 (by decide) (fun c13 => ?_) (fun c13 => ?_)
      · refine lv_aload_n hx hb dM_event_42 rfl (lv_at hl 0 rfl) ?_
        refine lv_iconst (v := 1) hx hb dM_event_43 (by decide) ?_
        refine x_calli (va_runV (As := [.int 1]) (rest := []) ⟨hx, hb, hml, hown, hB⟩ (c_M_refuse hR 1 ) (cwV 1 hB (gV ml_M_82 im_M_refuse sl_M_refuse ini_M kc_M_refuse) rfl rfl rfl (by decide +kernel) ⟨Nat.le_of_ble_eq_true rfl, Nat.le_of_ble_eq_true rfl⟩) (x_preV hP hK hD hR.1 rfl) rfl rfl hl.1 rfl (lv_room (Nat.le_of_ble_eq_true rfl)) dM_event_44 ⟨Nat.le_of_ble_eq_true rfl, Nat.le_of_ble_eq_true rfl⟩) hD hS hA (fun r14 w H locs hw hP hD hS => ?_)
        obtain ⟨ee15, hR⟩ := hw
        exact x_iret (v := r14) hx hb hr hlocks ⟨(by subst ee2 ee7 ee12 ee15; first | (simp [mEvR, mEvH, mEvA, mEvC, pk_us, pk_un, c3, c8, c13]; done) | (simp_all [mEvR, mEvH, mEvA, mEvC, pk_us, pk_un]; done)), (by subst ee2 ee7 ee12 ee15; first | (simpa [mEvR, mEvH, mEvA, mEvC, pk_us, pk_un, c3, c8, c13] using hR) | (have hR9 := hR; simp_all [mEvR, mEvH, mEvA, mEvC, pk_us, pk_un]; done))⟩ hP hK hD hS dM_event_47
      · refine lv_iload hx hb dM_event_26 (lv_at hl 4 rfl) ?_
        refine lv_aload_n hx hb dM_event_28 rfl (lv_at hl 0 rfl) ?_
        refine m_get 1 hx hb hB inBM hown hK hP hR rfl (hB _ fl_M_96) rfl dM_event_29 ?_
        refine lv_icmp_le (tgt := 42) hx hb dM_event_32 (by decide) (fun c16 => ?_) (fun c16 => ?_)
        · refine lv_aload_n hx hb dM_event_42 rfl (lv_at hl 0 rfl) ?_
          refine lv_iconst (v := 1) hx hb dM_event_43 (by decide) ?_
          refine x_calli (va_runV (As := [.int 1]) (rest := []) ⟨hx, hb, hml, hown, hB⟩ (c_M_refuse hR 1 ) (cwV 1 hB (gV ml_M_82 im_M_refuse sl_M_refuse ini_M kc_M_refuse) rfl rfl rfl (by decide +kernel) ⟨Nat.le_of_ble_eq_true rfl, Nat.le_of_ble_eq_true rfl⟩) (x_preV hP hK hD hR.1 rfl) rfl rfl hl.1 rfl (lv_room (Nat.le_of_ble_eq_true rfl)) dM_event_44 ⟨Nat.le_of_ble_eq_true rfl, Nat.le_of_ble_eq_true rfl⟩) hD hS hA (fun r17 w H locs hw hP hD hS => ?_)
          obtain ⟨ee18, hR⟩ := hw
          exact x_iret (v := r17) hx hb hr hlocks ⟨(by subst ee2 ee7 ee12 ee18; first | (simp [mEvR, mEvH, mEvA, mEvC, pk_us, pk_un, c3, c8, c13, c16]; done) | (simp_all [mEvR, mEvH, mEvA, mEvC, pk_us, pk_un]; done)), (by subst ee2 ee7 ee12 ee18; first | (simpa [mEvR, mEvH, mEvA, mEvC, pk_us, pk_un, c3, c8, c13, c16] using hR) | (have hR9 := hR; simp_all [mEvR, mEvH, mEvA, mEvC, pk_us, pk_un]; done))⟩ hP hK hD hS dM_event_47
        · refine lv_iload hx hb dM_event_35 (lv_at hl 4 rfl) ?_
          refine lv_ldc (v := 100000) hx hb hown (hB _ kn_M_99) dM_event_37 ?_
          refine lv_icmp_le (tgt := 48) hx hb dM_event_39 (by decide) (fun c19 => ?_) (fun c19 => ?_)
          · refine lv_aload_n hx hb dM_event_48 rfl (lv_at hl 0 rfl) ?_
            refine m_get 13 hx hb hB inBM hown hK hP hR rfl (hB _ fl_M_90) rfl dM_event_49 ?_
            refine lv_bipush (v := 120) hx hb dM_event_52 (by decide) ?_
            refine lv_icmp_eq (tgt := 66) hx hb dM_event_54 (by decide) (fun c20 => ?_) (fun c20 => ?_)
            · refine lv_aload_n hx hb dM_event_66 rfl (lv_at hl 0 rfl) ?_
              refine lv_iconst (v := 2) hx hb dM_event_67 (by decide) ?_
              refine x_calli (va_runV (As := [.int 2]) (rest := []) ⟨hx, hb, hml, hown, hB⟩ (c_M_refuse hR 2 ) (cwV 1 hB (gV ml_M_82 im_M_refuse sl_M_refuse ini_M kc_M_refuse) rfl rfl rfl (by decide +kernel) ⟨Nat.le_of_ble_eq_true rfl, Nat.le_of_ble_eq_true rfl⟩) (x_preV hP hK hD hR.1 rfl) rfl rfl hl.1 rfl (lv_room (Nat.le_of_ble_eq_true rfl)) dM_event_68 ⟨Nat.le_of_ble_eq_true rfl, Nat.le_of_ble_eq_true rfl⟩) hD hS hA (fun r21 w H locs hw hP hD hS => ?_)
              obtain ⟨ee22, hR⟩ := hw
              exact x_iret (v := r21) hx hb hr hlocks ⟨(by subst ee2 ee7 ee12 ee22; first | (simp [mEvR, mEvH, mEvA, mEvC, pk_us, pk_un, c3, c8, c13, c16, c19, c20]; done) | (simp_all [mEvR, mEvH, mEvA, mEvC, pk_us, pk_un]; done)), (by subst ee2 ee7 ee12 ee22; first | (simpa [mEvR, mEvH, mEvA, mEvC, pk_us, pk_un, c3, c8, c13, c16, c19, c20] using hR) | (have hR9 := hR; simp_all [mEvR, mEvH, mEvA, mEvC, pk_us, pk_un]; done))⟩ hP hK hD hS dM_event_71
            · refine lv_aload_n hx hb dM_event_57 rfl (lv_at hl 0 rfl) ?_
              refine x_calli (va_runV (As := []) (rest := []) ⟨hx, hb, hml, hown, hB⟩ (c_M_waiting hR  he13 hnE) (cwV 0 hB (gV ml_M_100 im_M_waiting sl_M_waiting ini_M kc_M_waiting) rfl rfl rfl (by decide +kernel) ⟨Nat.le_of_ble_eq_true rfl, Nat.le_of_ble_eq_true rfl⟩) (x_preV hP hK hD hR.1 rfl) rfl rfl hl.1 rfl (lv_room (Nat.le_of_ble_eq_true rfl)) dM_event_58 ⟨Nat.le_of_ble_eq_true rfl, Nat.le_of_ble_eq_true rfl⟩) hD hS hA (fun r23 w H locs hw hP hD hS => ?_)
              obtain ⟨ee24, rfl⟩ := hw
              refine lv_bipush (v := 20) hx hb dM_event_61 (by decide) ?_
              refine lv_icmp_ne (tgt := 72) hx hb dM_event_63 (by decide) (fun c25 => ?_) (fun c25 => ?_)
              · refine lv_aload_n hx hb dM_event_72 rfl (lv_at hl 0 rfl) ?_
                refine lv_iconst (v := 0) hx hb dM_event_73 (by decide) ?_
                refine m_put 0 0 hx hb hB inBM hown hK hP hD hS hR rfl (hB _ fl_M_69) rfl rfl (by decide +kernel) dM_event_74 (fun w H locs hR hP hD hS => ?_)
                refine lv_aload_n hx hb dM_event_77 rfl (lv_at hl 0 rfl) ?_
                refine m_arr 14 hx hb hB inBM hown hK hP hR rfl (hB _ fl_M_37) rfl dM_event_78 ?_
                refine lv_aload_n hx hb dM_event_81 rfl (lv_at hl 0 rfl) ?_
                refine m_get 13 hx hb hB inBM hown hK hP hR rfl (hB _ fl_M_90) rfl dM_event_82 ?_
                refine lv_iload_n hx hb dM_event_85 rfl (lv_at hl 1 rfl) ?_
                refine m_st 14 (i := (upd h 0 0) 13) (x := d9) (m_in (x := h 13) he13 hnE (M := 120) rfl (by decide) c20) hx hb hK hP hD hS hR rfl dM_event_86 (fun w H locs hR hP hD hS => ?_)
                refine lv_aload_n hx hb dM_event_87 rfl (lv_at hl 0 rfl) ?_
                refine m_arr 15 hx hb hB inBM hown hK hP hR rfl (hB _ fl_M_40) rfl dM_event_88 ?_
                refine lv_aload_n hx hb dM_event_91 rfl (lv_at hl 0 rfl) ?_
                refine m_get 13 hx hb hB inBM hown hK hP hR rfl (hB _ fl_M_90) rfl dM_event_92 ?_
                refine lv_iload_n hx hb dM_event_95 rfl (lv_at hl 2 rfl) ?_
                refine m_st 15 (i := (upd h 0 0) 13) (x := k) (m_in (x := h 13) he13 hnE (M := 120) rfl (by decide) c20) hx hb hK hP hD hS hR rfl dM_event_96 (fun w H locs hR hP hD hS => ?_)
                refine lv_aload_n hx hb dM_event_97 rfl (lv_at hl 0 rfl) ?_
                refine m_arr 16 hx hb hB inBM hown hK hP hR rfl (hB _ fl_M_43) rfl dM_event_98 ?_
                refine lv_aload_n hx hb dM_event_101 rfl (lv_at hl 0 rfl) ?_
                refine m_get 13 hx hb hB inBM hown hK hP hR rfl (hB _ fl_M_90) rfl dM_event_102 ?_
                refine lv_iload_n hx hb dM_event_105 rfl (lv_at hl 3 rfl) ?_
                refine m_st 16 (i := (upd h 0 0) 13) (x := w9) (m_in (x := h 13) he13 hnE (M := 120) rfl (by decide) c20) hx hb hK hP hD hS hR rfl dM_event_106 (fun w H locs hR hP hD hS => ?_)
                refine lv_aload_n hx hb dM_event_107 rfl (lv_at hl 0 rfl) ?_
                refine m_arr 17 hx hb hB inBM hown hK hP hR rfl (hB _ fl_M_46) rfl dM_event_108 ?_
                refine lv_aload_n hx hb dM_event_111 rfl (lv_at hl 0 rfl) ?_
                refine m_get 13 hx hb hB inBM hown hK hP hR rfl (hB _ fl_M_90) rfl dM_event_112 ?_
                refine lv_iload hx hb dM_event_115 (lv_at hl 4 rfl) ?_
                refine m_st 17 (i := (upd h 0 0) 13) (x := t9) (m_in (x := h 13) he13 hnE (M := 120) rfl (by decide) c20) hx hb hK hP hD hS hR rfl dM_event_117 (fun w H locs hR hP hD hS => ?_)
                refine lv_aload_n hx hb dM_event_118 rfl (lv_at hl 0 rfl) ?_
                refine m_arr 18 hx hb hB inBM hown hK hP hR rfl (hB _ fl_M_49) rfl dM_event_119 ?_
                refine lv_aload_n hx hb dM_event_122 rfl (lv_at hl 0 rfl) ?_
                refine m_get 13 hx hb hB inBM hown hK hP hR rfl (hB _ fl_M_90) rfl dM_event_123 ?_
                refine lv_iconst (v := 1) hx hb dM_event_126 (by decide) ?_
                refine m_stz 18 (i := (upd h 0 0) 13) (x := 1) rfl (m_in (x := h 13) he13 hnE (M := 120) rfl (by decide) c20) hx hb hK hP hD hS hR rfl dM_event_127 (fun w H locs hR hP hD hS => ?_)
                refine lv_aload_n hx hb dM_event_128 rfl (lv_at hl 0 rfl) ?_
                refine m_arr 19 hx hb hB inBM hown hK hP hR rfl (hB _ fl_M_53) rfl dM_event_129 ?_
                refine lv_aload_n hx hb dM_event_132 rfl (lv_at hl 0 rfl) ?_
                refine m_get 13 hx hb hB inBM hown hK hP hR rfl (hB _ fl_M_90) rfl dM_event_133 ?_
                refine lv_iconst (v := (-1)) hx hb dM_event_136 (by decide) ?_
                refine m_st 19 (i := (upd h 0 0) 13) (x := (-1)) (m_in (x := h 13) he13 hnE (M := 120) rfl (by decide) c20) hx hb hK hP hD hS hR rfl dM_event_137 (fun w H locs hR hP hD hS => ?_)
                refine lv_aload_n hx hb dM_event_138 rfl (lv_at hl 0 rfl) ?_
                refine lv_dup hx hb dM_event_139 rfl ?_
                refine m_get 13 hx hb hB inBM hown hK hP hR rfl (hB _ fl_M_90) rfl dM_event_140 ?_
                refine lv_iconst (v := 1) hx hb dM_event_143 (by decide) ?_
                refine lv_iadd hx hb dM_event_144 ?_
                refine m_put 13 (((upd h 0 0) 13) + 1) hx hb hB inBM hown hK hP hD hS hR rfl (hB _ fl_M_90) rfl rfl (by decide +kernel) dM_event_145 (fun w H locs hR hP hD hS => ?_)
                refine lv_aload_n hx hb dM_event_148 rfl (lv_at hl 0 rfl) ?_
                refine m_get 13 hx hb hB inBM hown hK hP hR rfl (hB _ fl_M_90) rfl dM_event_149 ?_
                refine lv_iconst (v := 1) hx hb dM_event_152 (by decide) ?_
                refine lv_isub hx hb dM_event_153 ?_
                exact x_iret (v := ((upd (upd h 0 0) 13 (((upd h 0 0) 13) + 1)) 13) - 1) hx hb hr hlocks ⟨(by subst ee2 ee7 ee12 ee24; first | (simp [mEvR, mEvH, mEvA, mEvC, pk_us, pk_un, c3, c8, c13, c16, c19, c20, c25]; done) | (simp_all [mEvR, mEvH, mEvA, mEvC, pk_us, pk_un]; done)), (by subst ee2 ee7 ee12 ee24; first | (simpa [mEvR, mEvH, mEvA, mEvC, pk_us, pk_un, c3, c8, c13, c16, c19, c20, c25] using hR) | (have hR9 := hR; simp_all [mEvR, mEvH, mEvA, mEvC, pk_us, pk_un]; done))⟩ hP hK hD hS dM_event_154
              · refine lv_aload_n hx hb dM_event_66 rfl (lv_at hl 0 rfl) ?_
                refine lv_iconst (v := 2) hx hb dM_event_67 (by decide) ?_
                refine x_calli (va_runV (As := [.int 2]) (rest := []) ⟨hx, hb, hml, hown, hB⟩ (c_M_refuse hR 2 ) (cwV 1 hB (gV ml_M_82 im_M_refuse sl_M_refuse ini_M kc_M_refuse) rfl rfl rfl (by decide +kernel) ⟨Nat.le_of_ble_eq_true rfl, Nat.le_of_ble_eq_true rfl⟩) (x_preV hP hK hD hR.1 rfl) rfl rfl hl.1 rfl (lv_room (Nat.le_of_ble_eq_true rfl)) dM_event_68 ⟨Nat.le_of_ble_eq_true rfl, Nat.le_of_ble_eq_true rfl⟩) hD hS hA (fun r26 w H locs hw hP hD hS => ?_)
                obtain ⟨ee27, hR⟩ := hw
                exact x_iret (v := r26) hx hb hr hlocks ⟨(by subst ee2 ee7 ee12 ee24 ee27; first | (simp [mEvR, mEvH, mEvA, mEvC, pk_us, pk_un, c3, c8, c13, c16, c19, c20, c25]; done) | (simp_all [mEvR, mEvH, mEvA, mEvC, pk_us, pk_un]; done)), (by subst ee2 ee7 ee12 ee24 ee27; first | (simpa [mEvR, mEvH, mEvA, mEvC, pk_us, pk_un, c3, c8, c13, c16, c19, c20, c25] using hR) | (have hR9 := hR; simp_all [mEvR, mEvH, mEvA, mEvC, pk_us, pk_un]; done))⟩ hP hK hD hS dM_event_71
          · refine lv_aload_n hx hb dM_event_42 rfl (lv_at hl 0 rfl) ?_
            refine lv_iconst (v := 1) hx hb dM_event_43 (by decide) ?_
            refine x_calli (va_runV (As := [.int 1]) (rest := []) ⟨hx, hb, hml, hown, hB⟩ (c_M_refuse hR 1 ) (cwV 1 hB (gV ml_M_82 im_M_refuse sl_M_refuse ini_M kc_M_refuse) rfl rfl rfl (by decide +kernel) ⟨Nat.le_of_ble_eq_true rfl, Nat.le_of_ble_eq_true rfl⟩) (x_preV hP hK hD hR.1 rfl) rfl rfl hl.1 rfl (lv_room (Nat.le_of_ble_eq_true rfl)) dM_event_44 ⟨Nat.le_of_ble_eq_true rfl, Nat.le_of_ble_eq_true rfl⟩) hD hS hA (fun r28 w H locs hw hP hD hS => ?_)
            obtain ⟨ee29, hR⟩ := hw
            exact x_iret (v := r28) hx hb hr hlocks ⟨(by subst ee2 ee7 ee12 ee29; first | (simp [mEvR, mEvH, mEvA, mEvC, pk_us, pk_un, c3, c8, c13, c16, c19]; done) | (simp_all [mEvR, mEvH, mEvA, mEvC, pk_us, pk_un]; done)), (by subst ee2 ee7 ee12 ee29; first | (simpa [mEvR, mEvH, mEvA, mEvC, pk_us, pk_un, c3, c8, c13, c16, c19] using hR) | (have hR9 := hR; simp_all [mEvR, mEvH, mEvA, mEvC, pk_us, pk_un]; done))⟩ hP hK hD hS dM_event_47
set_option maxHeartbeats 4000000 in
set_option maxRecDepth 100000 in
theorem c_M_hours {l : Launch} {G : va_G} {ca : Nat → ClassId} {aM : Nat} {am : Nat → Nat} {h : Nat → Int32} {ar : Nat → Nat → Int32} {w : va_W} {sz : Nat} (hR : RM ca aM am h ar w) (a9 : Int32) (b9 : Int32)  : xMi l yM_hours wsM_hours ({ frames := 1, cells := 0, slots := 0, locals := 22 }) [.ref aM, .int a9, .int b9] G (mTys ca) w sz (fun r w' => r = mHoursR a9 b9 ∧ RM ca aM am (mHours h a9 b9) ar w') 0 0 := by
  refine x_ofW (fun A => va_Qi (fun r w' => r = mHoursR a9 b9 ∧ RM ca aM am (mHours h a9 b9) ar w') (xEnd G (mTys ca) A) A) cM_hours 3 (some .boolean) (by decide) rfl (Nat.le_of_ble_eq_true rfl) ?_
  intro p e s m below meth c A ls hx hb hr hlocks hml hnm hown hB hA hP hK hD hS hl
  have hl : lv_has ls 3 [(0, .ref aM), (1, .int a9), (2, .int b9)] := hl
  have hown : s.vm.findClass NmM = some m.cls := hown
  refine lv_aload_n hx hb dM_hours_0 rfl (lv_at hl 0 rfl) ?_
  refine lv_iconst (v := 0) hx hb dM_hours_1 (by decide) ?_
  refine m_put 0 0 hx hb hB inBM hown hK hP hD hS hR rfl (hB _ fl_M_69) rfl rfl (by decide +kernel) dM_hours_2 (fun w H locs hR hP hD hS => ?_)
  refine lv_iload_n hx hb dM_hours_5 rfl (lv_at hl 1 rfl) ?_
  refine lv_iconst (v := 0) hx hb dM_hours_6 (by decide) ?_
  refine lv_bipush (v := 24) hx hb dM_hours_7 (by decide) ?_
  refine x_calli (va_runS (As := [.int a9, .int 0, .int 24]) (rest := []) ⟨hx, hb, hml, hown, hB⟩ (c_M_in hR a9 0 24 ) (va_cwS 3 hB (gS ml_M_78 sm_M_in ini_M kc_M_in) rfl rfl rfl (by decide +kernel) ⟨Nat.le_of_ble_eq_true rfl, Nat.le_of_ble_eq_true rfl⟩) (x_preS hP hK hD) rfl rfl hl.1 rfl (lv_room (Nat.le_of_ble_eq_true rfl)) dM_hours_9 ⟨Nat.le_of_ble_eq_true rfl, Nat.le_of_ble_eq_true rfl⟩) hD hS hA (fun r1 w H locs hw hP hD hS => ?_)
  obtain ⟨ee2, rfl⟩ := hw
  refine lv_if_eq (tgt := 30) hx hb dM_hours_12 (by decide) (fun c3 => ?_) (fun c3 => ?_)
  · refine lv_iconst (v := 0) hx hb dM_hours_30 (by decide) ?_
    exact x_zret (v := 0) hx hb hr hlocks rfl ⟨(by subst ee2; first | (simp [mHoursR, mHours, pk_us, pk_un, c3]; done) | (simp_all [mHoursR, mHours, pk_us, pk_un]; done)), (by subst ee2; first | (simpa [mHoursR, mHours, pk_us, pk_un, c3] using hR) | (have hR9 := hR; simp_all [mHoursR, mHours, pk_us, pk_un]; done))⟩ hP hK hD hS dM_hours_31
  · refine lv_iload_n hx hb dM_hours_15 rfl (lv_at hl 2 rfl) ?_
    refine lv_iconst (v := 0) hx hb dM_hours_16 (by decide) ?_
    refine lv_bipush (v := 24) hx hb dM_hours_17 (by decide) ?_
    refine x_calli (va_runS (As := [.int b9, .int 0, .int 24]) (rest := []) ⟨hx, hb, hml, hown, hB⟩ (c_M_in hR b9 0 24 ) (va_cwS 3 hB (gS ml_M_78 sm_M_in ini_M kc_M_in) rfl rfl rfl (by decide +kernel) ⟨Nat.le_of_ble_eq_true rfl, Nat.le_of_ble_eq_true rfl⟩) (x_preS hP hK hD) rfl rfl hl.1 rfl (lv_room (Nat.le_of_ble_eq_true rfl)) dM_hours_19 ⟨Nat.le_of_ble_eq_true rfl, Nat.le_of_ble_eq_true rfl⟩) hD hS hA (fun r4 w H locs hw hP hD hS => ?_)
    obtain ⟨ee5, rfl⟩ := hw
    refine lv_if_eq (tgt := 30) hx hb dM_hours_22 (by decide) (fun c6 => ?_) (fun c6 => ?_)
    · refine lv_iconst (v := 0) hx hb dM_hours_30 (by decide) ?_
      exact x_zret (v := 0) hx hb hr hlocks rfl ⟨(by subst ee2 ee5; first | (simp [mHoursR, mHours, pk_us, pk_un, c3, c6]; done) | (simp_all [mHoursR, mHours, pk_us, pk_un]; done)), (by subst ee2 ee5; first | (simpa [mHoursR, mHours, pk_us, pk_un, c3, c6] using hR) | (have hR9 := hR; simp_all [mHoursR, mHours, pk_us, pk_un]; done))⟩ hP hK hD hS dM_hours_31
    · refine lv_iload_n hx hb dM_hours_25 rfl (lv_at hl 1 rfl) ?_
      refine lv_iload_n hx hb dM_hours_26 rfl (lv_at hl 2 rfl) ?_
      refine lv_icmp_lt (tgt := 32) hx hb dM_hours_27 (by decide) (fun c7 => ?_) (fun c7 => ?_)
      · refine lv_aload_n hx hb dM_hours_32 rfl (lv_at hl 0 rfl) ?_
        refine lv_iload_n hx hb dM_hours_33 rfl (lv_at hl 1 rfl) ?_
        refine m_put 22 a9 hx hb hB inBM hown hK hP hD hS hR rfl (hB _ fl_M_59) rfl rfl (by decide +kernel) dM_hours_34 (fun w H locs hR hP hD hS => ?_)
        refine lv_aload_n hx hb dM_hours_37 rfl (lv_at hl 0 rfl) ?_
        refine lv_iload_n hx hb dM_hours_38 rfl (lv_at hl 2 rfl) ?_
        refine m_put 23 b9 hx hb hB inBM hown hK hP hD hS hR rfl (hB _ fl_M_63) rfl rfl (by decide +kernel) dM_hours_39 (fun w H locs hR hP hD hS => ?_)
        refine lv_iconst (v := 1) hx hb dM_hours_42 (by decide) ?_
        exact x_zret (v := 1) hx hb hr hlocks rfl ⟨(by subst ee2 ee5; first | (simp [mHoursR, mHours, pk_us, pk_un, c3, c6, c7]; done) | (simp_all [mHoursR, mHours, pk_us, pk_un]; done)), (by subst ee2 ee5; first | (simpa [mHoursR, mHours, pk_us, pk_un, c3, c6, c7] using hR) | (have hR9 := hR; simp_all [mHoursR, mHours, pk_us, pk_un]; done))⟩ hP hK hD hS dM_hours_43
      · refine lv_iconst (v := 0) hx hb dM_hours_30 (by decide) ?_
        exact x_zret (v := 0) hx hb hr hlocks rfl ⟨(by subst ee2 ee5; first | (simp [mHoursR, mHours, pk_us, pk_un, c3, c6, c7]; done) | (simp_all [mHoursR, mHours, pk_us, pk_un]; done)), (by subst ee2 ee5; first | (simpa [mHoursR, mHours, pk_us, pk_un, c3, c6, c7] using hR) | (have hR9 := hR; simp_all [mHoursR, mHours, pk_us, pk_un]; done))⟩ hP hK hD hS dM_hours_31
set_option maxHeartbeats 4000000 in
set_option maxRecDepth 100000 in
theorem c_M_fails {l : Launch} {G : va_G} {ca : Nat → ClassId} {aM : Nat} {am : Nat → Nat} {h : Nat → Int32} {ar : Nat → Nat → Int32} {w : va_W} {sz : Nat} (hR : RM ca aM am h ar w) (k : Int32) (on : Int32) (hon : vp_nar .boolean on = on) : xMi l yM_fails wsM_fails ({ frames := 1, cells := 0, slots := 0, locals := 22 }) [.ref aM, .int k, .int on] G (mTys ca) w sz (fun r w' => r = mFailsR ar k on ∧ RM ca aM am (upd h 0 0) (mFailsA ar k on) w') 0 0 := by
  refine x_ofW (fun A => va_Qi (fun r w' => r = mFailsR ar k on ∧ RM ca aM am (upd h 0 0) (mFailsA ar k on) w') (xEnd G (mTys ca) A) A) cM_fails 3 (some .boolean) (by decide) rfl (Nat.le_of_ble_eq_true rfl) ?_
  intro p e s m below meth c A ls hx hb hr hlocks hml hnm hown hB hA hP hK hD hS hl
  have hl : lv_has ls 3 [(0, .ref aM), (1, .int k), (2, .int on)] := hl
  have hown : s.vm.findClass NmM = some m.cls := hown
  refine lv_aload_n hx hb dM_fails_0 rfl (lv_at hl 0 rfl) ?_
  refine lv_iconst (v := 0) hx hb dM_fails_1 (by decide) ?_
  refine m_put 0 0 hx hb hB inBM hown hK hP hD hS hR rfl (hB _ fl_M_69) rfl rfl (by decide +kernel) dM_fails_2 (fun w H locs hR hP hD hS => ?_)
  refine lv_iload_n hx hb dM_fails_5 rfl (lv_at hl 1 rfl) ?_
  refine lv_iconst (v := 0) hx hb dM_fails_6 (by decide) ?_
  refine lv_bipush (v := 9) hx hb dM_fails_7 (by decide) ?_
  refine x_calli (va_runS (As := [.int k, .int 0, .int 9]) (rest := []) ⟨hx, hb, hml, hown, hB⟩ (c_M_in hR k 0 9 ) (va_cwS 3 hB (gS ml_M_78 sm_M_in ini_M kc_M_in) rfl rfl rfl (by decide +kernel) ⟨Nat.le_of_ble_eq_true rfl, Nat.le_of_ble_eq_true rfl⟩) (x_preS hP hK hD) rfl rfl hl.1 rfl (lv_room (Nat.le_of_ble_eq_true rfl)) dM_fails_9 ⟨Nat.le_of_ble_eq_true rfl, Nat.le_of_ble_eq_true rfl⟩) hD hS hA (fun r1 w H locs hw hP hD hS => ?_)
  obtain ⟨ee2, rfl⟩ := hw
  refine lv_if_eq (tgt := 25) hx hb dM_fails_12 (by decide) (fun c3 => ?_) (fun c3 => ?_)
  · refine lv_iconst (v := 0) hx hb dM_fails_25 (by decide) ?_
    exact x_zret (v := 0) hx hb hr hlocks rfl ⟨(by subst ee2; first | (simp [mFailsR, mFailsA, pk_us, pk_un, c3]; done) | (simp_all [mFailsR, mFailsA, pk_us, pk_un]; done)), (by subst ee2; first | (simpa [mFailsR, mFailsA, pk_us, pk_un, c3] using hR) | (have hR9 := hR; simp_all [mFailsR, mFailsA, pk_us, pk_un]; done))⟩ hP hK hD hS dM_fails_26
  · refine lv_aload_n hx hb dM_fails_15 rfl (lv_at hl 0 rfl) ?_
    refine m_arr 24 hx hb hB inBM hown hK hP hR rfl (hB _ fl_M_66) rfl dM_fails_16 ?_
    refine lv_iload_n hx hb dM_fails_19 rfl (lv_at hl 1 rfl) ?_
    refine m_ldz 24 (i := k) (mIn_in (N := 10) rfl (by rw [← ee2]; exact c3)) hx hb hK hP hR rfl dM_fails_20 ?_
    refine lv_iload_n hx hb dM_fails_21 rfl (lv_at hl 2 rfl) ?_
    refine lv_icmp_ne (tgt := 27) hx hb dM_fails_22 (by decide) (fun c4 => ?_) (fun c4 => ?_)
    · refine lv_aload_n hx hb dM_fails_27 rfl (lv_at hl 0 rfl) ?_
      refine m_arr 24 hx hb hB inBM hown hK hP hR rfl (hB _ fl_M_66) rfl dM_fails_28 ?_
      refine lv_iload_n hx hb dM_fails_31 rfl (lv_at hl 1 rfl) ?_
      refine lv_iload_n hx hb dM_fails_32 rfl (lv_at hl 2 rfl) ?_
      refine m_stz 24 (i := k) (x := on) hon (mIn_in (N := 10) rfl (by rw [← ee2]; exact c3)) hx hb hK hP hD hS hR rfl dM_fails_33 (fun w H locs hR hP hD hS => ?_)
      refine lv_iconst (v := 1) hx hb dM_fails_34 (by decide) ?_
      exact x_zret (v := 1) hx hb hr hlocks rfl ⟨(by subst ee2; first | (simp [mFailsR, mFailsA, pk_us, pk_un, c3, c4]; done) | (simp_all [mFailsR, mFailsA, pk_us, pk_un]; done)), (by subst ee2; first | (simpa [mFailsR, mFailsA, pk_us, pk_un, c3, c4] using hR) | (have hR9 := hR; simp_all [mFailsR, mFailsA, pk_us, pk_un]; done))⟩ hP hK hD hS dM_fails_35
    · refine lv_iconst (v := 0) hx hb dM_fails_25 (by decide) ?_
      exact x_zret (v := 0) hx hb hr hlocks rfl ⟨(by subst ee2; first | (simp [mFailsR, mFailsA, pk_us, pk_un, c3, c4]; done) | (simp_all [mFailsR, mFailsA, pk_us, pk_un]; done)), (by subst ee2; first | (simpa [mFailsR, mFailsA, pk_us, pk_un, c3, c4] using hR) | (have hR9 := hR; simp_all [mFailsR, mFailsA, pk_us, pk_un]; done))⟩ hP hK hD hS dM_fails_26
