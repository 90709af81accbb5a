set_option maxHeartbeats 4000000 in
set_option maxRecDepth 100000 in
theorem c_M_why {l : Launch} {G : va_G} {ca : Nat → ClassId} {aM : Nat} {am : Nat → Nat} {h : Nat → Int32} {ar : Nat → Nat → Int32} {w : va_W} {sz : Nat} (hR : RM ca aM am h ar w) (e9 : Int32) (he : vp_in e9 120) (hw9 : vp_in (ar 16 e9.toNatClampNeg) 12) (ho : vp_in (ar 14 e9.toNatClampNeg) 20) (hk9 : vp_in (ar 15 e9.toNatClampNeg) 10) : xMi l yM_why wsM_why ({ frames := 2, cells := 0, slots := 0, locals := 44 }) [.ref aM, .int e9] G (mTys ca) w sz (fun r w' => r = mWhy h ar e9.toNatClampNeg ∧ RM ca aM am h (mWhyA ar e9.toNatClampNeg) w') 0 0 := by
  refine x_ofW (fun A => va_Qi (fun r w' => r = mWhy h ar e9.toNatClampNeg ∧ RM ca aM am h (mWhyA ar e9.toNatClampNeg) w') (xEnd G (mTys ca) A) A) cM_why 4 (some .int) (by decide) rfl (Nat.le_of_ble_eq_true rfl) ?_
  intro p e s m below meth c A ls hx hb hr hlocks hml hnm hown hB hA hP hK hD hS hl
  have hl : lv_has ls 4 [(0, .ref aM), (1, .int e9)] := hl
  have hown : s.vm.findClass NmM = some m.cls := hown
  refine lv_aload_n hx hb dM_why_0 rfl (lv_at hl 0 rfl) ?_
  refine m_arr 15 hx hb hB inBM hown hK hP hR rfl (hB _ fl_M_40) rfl dM_why_1 ?_
  refine lv_iload_n hx hb dM_why_4 rfl (lv_at hl 1 rfl) ?_
  refine m_ld 15 (i := e9) he hx hb hK hP hR rfl dM_why_5 ?_
  refine lv_istore_n (lv' := [(2, .int (ar 15 e9.toNatClampNeg)), (0, .ref aM), (1, .int e9)]) hx hb dM_why_6 rfl hl (by decide) rfl (fun ls hl => ?_)
  refine lv_aload_n hx hb dM_why_7 rfl (lv_at hl 1 rfl) ?_
  refine m_arr 17 hx hb hB inBM hown hK hP hR rfl (hB _ fl_M_46) rfl dM_why_8 ?_
  refine lv_iload_n hx hb dM_why_11 rfl (lv_at hl 2 rfl) ?_
  refine m_ld 17 (i := e9) he hx hb hK hP hR rfl dM_why_12 ?_
  refine lv_bipush (v := 24) hx hb dM_why_13 (by decide) ?_
  refine lv_irem hx hb dM_why_15 (by decide) ?_
  refine lv_istore_n (lv' := [(3, .int ((ar 17 e9.toNatClampNeg) - (ar 17 e9.toNatClampNeg) / 24 * 24)), (2, .int (ar 15 e9.toNatClampNeg)), (0, .ref aM), (1, .int e9)]) hx hb dM_why_16 rfl hl (by decide) rfl (fun ls hl => ?_)
  refine lv_aload_n hx hb dM_why_17 rfl (lv_at hl 2 rfl) ?_
  refine m_arr 24 hx hb hB inBM hown hK hP hR rfl (hB _ fl_M_66) rfl dM_why_18 ?_
  refine lv_iload_n hx hb dM_why_21 rfl (lv_at hl 1 rfl) ?_
  refine m_ldz 24 (i := ar 15 e9.toNatClampNeg) hk9 hx hb hK hP hR rfl dM_why_22 ?_
  refine lv_if_eq (tgt := 35) hx hb dM_why_23 (by decide) (fun c1 => ?_) (fun c1 => ?_)
  · refine lv_aload_n hx hb dM_why_35 rfl (lv_at hl 2 rfl) ?_
    refine lv_iload_n hx hb dM_why_36 rfl (lv_at hl 3 rfl) ?_
    refine x_calli (va_runV (As := [.int e9]) (rest := []) ⟨hx, hb, hml, hown, hB⟩ (c_M_may hR e9 he hw9 ho) (cwV 1 hB (gV ml_M_111 im_M_may sl_M_may ini_M kc_M_may) rfl rfl rfl (by decide +kernel) ⟨Nat.le_of_ble_eq_true rfl, Nat.le_of_ble_eq_true rfl⟩) (x_preV hP hK hD hR.1 rfl) rfl rfl hl.1 rfl (lv_room (Nat.le_of_ble_eq_true rfl)) dM_why_37 ⟨Nat.le_of_ble_eq_true rfl, Nat.le_of_ble_eq_true rfl⟩) hD hS hA (fun r2 w H locs hw hP hD hS => ?_)
    obtain ⟨ee3, rfl⟩ := hw
    refine lv_if_ne (tgt := 45) hx hb dM_why_40 (by decide) (fun c4 => ?_) (fun c4 => ?_)
    · refine lv_iload_n hx hb dM_why_45 rfl (lv_at hl 1 rfl) ?_
      refine x_calli (va_runS (As := [.int (ar 15 e9.toNatClampNeg)]) (rest := []) ⟨hx, hb, hml, hown, hB⟩ (c_M_isOfficers hR (ar 15 e9.toNatClampNeg) ) (va_cwS 1 hB (gS ml_M_104 sm_M_isOfficers ini_M kc_M_isOfficers) rfl rfl rfl (by decide +kernel) ⟨Nat.le_of_ble_eq_true rfl, Nat.le_of_ble_eq_true rfl⟩) (x_preS hP hK hD) rfl rfl hl.1 rfl (lv_room (Nat.le_of_ble_eq_true rfl)) dM_why_46 ⟨Nat.le_of_ble_eq_true rfl, Nat.le_of_ble_eq_true rfl⟩) hD hS hA (fun r5 w H locs hw hP hD hS => ?_)
      obtain ⟨ee6, rfl⟩ := hw
      refine lv_if_eq (tgt := 70) hx hb dM_why_49 (by decide) (fun c7 => ?_) (fun c7 => ?_)
      · refine lv_aload_n hx hb dM_why_70 rfl (lv_at hl 2 rfl) ?_
        refine lv_aload_n hx hb dM_why_71 rfl (lv_at hl 2 rfl) ?_
        refine m_arr 14 hx hb hB inBM hown hK hP hR rfl (hB _ fl_M_37) rfl dM_why_72 ?_
        refine lv_iload_n hx hb dM_why_75 rfl (lv_at hl 3 rfl) ?_
        refine m_ld 14 (i := e9) he hx hb hK hP hR rfl dM_why_76 ?_
        refine lv_iload_n hx hb dM_why_77 rfl (lv_at hl 1 rfl) ?_
        refine x_calli (va_runV (As := [.int (ar 14 e9.toNatClampNeg), .int (ar 15 e9.toNatClampNeg)]) (rest := []) ⟨hx, hb, hml, hown, hB⟩ (c_M_fits hR (ar 14 e9.toNatClampNeg) (ar 15 e9.toNatClampNeg) ho) (cwV 2 hB (gV ml_M_114 im_M_fits sl_M_fits ini_M kc_M_fits) rfl rfl rfl (by decide +kernel) ⟨Nat.le_of_ble_eq_true rfl, Nat.le_of_ble_eq_true rfl⟩) (x_preV hP hK hD hR.1 rfl) rfl rfl hl.1 rfl (lv_room (Nat.le_of_ble_eq_true rfl)) dM_why_78 ⟨Nat.le_of_ble_eq_true rfl, Nat.le_of_ble_eq_true rfl⟩) hD hS hA (fun r8 w H locs hw hP hD hS => ?_)
        obtain ⟨ee9, rfl⟩ := hw
        refine lv_if_ne (tgt := 88) hx hb dM_why_81 (by decide) (fun c10 => ?_) (fun c10 => ?_)
        · refine lv_aload_n hx hb dM_why_88 rfl (lv_at hl 2 rfl) ?_
          refine lv_aload_n hx hb dM_why_89 rfl (lv_at hl 2 rfl) ?_
          refine m_arr 14 hx hb hB inBM hown hK hP hR rfl (hB _ fl_M_37) rfl dM_why_90 ?_
          refine lv_iload_n hx hb dM_why_93 rfl (lv_at hl 3 rfl) ?_
          refine m_ld 14 (i := e9) he hx hb hK hP hR rfl dM_why_94 ?_
          refine lv_iload_n hx hb dM_why_95 rfl (lv_at hl 1 rfl) ?_
          refine x_calli (va_runV (As := [.int (ar 14 e9.toNatClampNeg), .int (ar 15 e9.toNatClampNeg)]) (rest := []) ⟨hx, hb, hml, hown, hB⟩ (c_M_isMarked hR (ar 14 e9.toNatClampNeg) (ar 15 e9.toNatClampNeg) ho) (cwV 2 hB (gV ml_M_117 im_M_isMarked sl_M_isMarked ini_M kc_M_isMarked) rfl rfl rfl (by decide +kernel) ⟨Nat.le_of_ble_eq_true rfl, Nat.le_of_ble_eq_true rfl⟩) (x_preV hP hK hD hR.1 rfl) rfl rfl hl.1 rfl (lv_room (Nat.le_of_ble_eq_true rfl)) dM_why_96 ⟨Nat.le_of_ble_eq_true rfl, Nat.le_of_ble_eq_true rfl⟩) hD hS hA (fun r11 w H locs hw hP hD hS => ?_)
          obtain ⟨ee12, rfl⟩ := hw
          refine lv_if_ne (tgt := 106) hx hb dM_why_99 (by decide) (fun c13 => ?_) (fun c13 => ?_)
          · refine lv_iconst (v := 0) hx hb dM_why_106 (by decide) ?_
            exact x_iret (v := 0) hx hb hr hlocks ⟨(by subst ee3 ee6 ee9 ee12; first | (simp [mWhy, mWhyV, mWhyA, mFM, c1, c4, c7, c10, c13]; done) | (simp_all [mWhy, mWhyV, mWhyA, mFM]; done)), (by subst ee3 ee6 ee9 ee12; first | (simpa [mWhy, mWhyV, mWhyA, mFM, c1, c4, c7, c10, c13] using hR) | (have hR9 := hR; simp_all [mWhy, mWhyV, mWhyA, mFM]; done))⟩ hP hK hD hS dM_why_107
          · refine lv_iconst (v := 5) hx hb dM_why_102 (by decide) ?_
            refine lv_goto (tgt := 107) hx hb dM_why_103 (by decide) ?_
            exact x_iret (v := 5) hx hb hr hlocks ⟨(by subst ee3 ee6 ee9 ee12; first | (simp [mWhy, mWhyV, mWhyA, mFM, c1, c4, c7, c10, c13]; done) | (simp_all [mWhy, mWhyV, mWhyA, mFM]; done)), (by subst ee3 ee6 ee9 ee12; first | (simpa [mWhy, mWhyV, mWhyA, mFM, c1, c4, c7, c10, c13] using hR) | (have hR9 := hR; simp_all [mWhy, mWhyV, mWhyA, mFM]; done))⟩ hP hK hD hS dM_why_107
        · refine lv_iconst (v := 4) hx hb dM_why_84 (by decide) ?_
          refine lv_goto (tgt := 107) hx hb dM_why_85 (by decide) ?_
          exact x_iret (v := 4) hx hb hr hlocks ⟨(by subst ee3 ee6 ee9; first | (simp [mWhy, mWhyV, mWhyA, mFM, c1, c4, c7, c10]; done) | (simp_all [mWhy, mWhyV, mWhyA, mFM]; done)), (by subst ee3 ee6 ee9; first | (simpa [mWhy, mWhyV, mWhyA, mFM, c1, c4, c7, c10] using hR) | (have hR9 := hR; simp_all [mWhy, mWhyV, mWhyA, mFM]; done))⟩ hP hK hD hS dM_why_107
      · refine lv_iload_n hx hb dM_why_52 rfl (lv_at hl 0 rfl) ?_
        refine lv_aload_n hx hb dM_why_53 rfl (lv_at hl 2 rfl) ?_
        refine m_get 22 hx hb hB inBM hown hK hP hR rfl (hB _ fl_M_59) rfl dM_why_54 ?_
        refine lv_icmp_lt (tgt := 68) hx hb dM_why_57 (by decide) (fun c14 => ?_) (fun c14 => ?_)
        · refine lv_iconst (v := 3) hx hb dM_why_68 (by decide) ?_
          exact x_iret (v := 3) hx hb hr hlocks ⟨(by subst ee3 ee6; first | (simp [mWhy, mWhyV, mWhyA, mFM, c1, c4, c7, c14]; done) | (simp_all [mWhy, mWhyV, mWhyA, mFM]; done)), (by subst ee3 ee6; first | (simpa [mWhy, mWhyV, mWhyA, mFM, c1, c4, c7, c14] using hR) | (have hR9 := hR; simp_all [mWhy, mWhyV, mWhyA, mFM]; done))⟩ hP hK hD hS dM_why_69
        · refine lv_iload_n hx hb dM_why_60 rfl (lv_at hl 0 rfl) ?_
          refine lv_aload_n hx hb dM_why_61 rfl (lv_at hl 2 rfl) ?_
          refine m_get 23 hx hb hB inBM hown hK hP hR rfl (hB _ fl_M_63) rfl dM_why_62 ?_
          refine lv_icmp_lt (tgt := 70) hx hb dM_why_65 (by decide) (fun c15 => ?_) (fun c15 => ?_)
          · refine lv_aload_n hx hb dM_why_70 rfl (lv_at hl 2 rfl) ?_
            refine lv_aload_n hx hb dM_why_71 rfl (lv_at hl 2 rfl) ?_
            refine m_arr 14 hx hb hB inBM hown hK hP hR rfl (hB _ fl_M_37) rfl dM_why_72 ?_
            refine lv_iload_n hx hb dM_why_75 rfl (lv_at hl 3 rfl) ?_
            refine m_ld 14 (i := e9) he hx hb hK hP hR rfl dM_why_76 ?_
            refine lv_iload_n hx hb dM_why_77 rfl (lv_at hl 1 rfl) ?_
            refine x_calli (va_runV (As := [.int (ar 14 e9.toNatClampNeg), .int (ar 15 e9.toNatClampNeg)]) (rest := []) ⟨hx, hb, hml, hown, hB⟩ (c_M_fits hR (ar 14 e9.toNatClampNeg) (ar 15 e9.toNatClampNeg) ho) (cwV 2 hB (gV ml_M_114 im_M_fits sl_M_fits ini_M kc_M_fits) rfl rfl rfl (by decide +kernel) ⟨Nat.le_of_ble_eq_true rfl, Nat.le_of_ble_eq_true rfl⟩) (x_preV hP hK hD hR.1 rfl) rfl rfl hl.1 rfl (lv_room (Nat.le_of_ble_eq_true rfl)) dM_why_78 ⟨Nat.le_of_ble_eq_true rfl, Nat.le_of_ble_eq_true rfl⟩) hD hS hA (fun r16 w H locs hw hP hD hS => ?_)
            obtain ⟨ee17, rfl⟩ := hw
            refine lv_if_ne (tgt := 88) hx hb dM_why_81 (by decide) (fun c18 => ?_) (fun c18 => ?_)
            · refine lv_aload_n hx hb dM_why_88 rfl (lv_at hl 2 rfl) ?_
              refine lv_aload_n hx hb dM_why_89 rfl (lv_at hl 2 rfl) ?_
              refine m_arr 14 hx hb hB inBM hown hK hP hR rfl (hB _ fl_M_37) rfl dM_why_90 ?_
              refine lv_iload_n hx hb dM_why_93 rfl (lv_at hl 3 rfl) ?_
              refine m_ld 14 (i := e9) he hx hb hK hP hR rfl dM_why_94 ?_
              refine lv_iload_n hx hb dM_why_95 rfl (lv_at hl 1 rfl) ?_
              refine x_calli (va_runV (As := [.int (ar 14 e9.toNatClampNeg), .int (ar 15 e9.toNatClampNeg)]) (rest := []) ⟨hx, hb, hml, hown, hB⟩ (c_M_isMarked hR (ar 14 e9.toNatClampNeg) (ar 15 e9.toNatClampNeg) ho) (cwV 2 hB (gV ml_M_117 im_M_isMarked sl_M_isMarked ini_M kc_M_isMarked) rfl rfl rfl (by decide +kernel) ⟨Nat.le_of_ble_eq_true rfl, Nat.le_of_ble_eq_true rfl⟩) (x_preV hP hK hD hR.1 rfl) rfl rfl hl.1 rfl (lv_room (Nat.le_of_ble_eq_true rfl)) dM_why_96 ⟨Nat.le_of_ble_eq_true rfl, Nat.le_of_ble_eq_true rfl⟩) hD hS hA (fun r19 w H locs hw hP hD hS => ?_)
              obtain ⟨ee20, rfl⟩ := hw
              refine lv_if_ne (tgt := 106) hx hb dM_why_99 (by decide) (fun c21 => ?_) (fun c21 => ?_)
              · refine lv_iconst (v := 0) hx hb dM_why_106 (by decide) ?_
                exact x_iret (v := 0) hx hb hr hlocks ⟨(by subst ee3 ee6 ee17 ee20; first | (simp [mWhy, mWhyV, mWhyA, mFM, c1, c4, c7, c14, c15, c18, c21]; done) | (simp_all [mWhy, mWhyV, mWhyA, mFM]; done)), (by subst ee3 ee6 ee17 ee20; first | (simpa [mWhy, mWhyV, mWhyA, mFM, c1, c4, c7, c14, c15, c18, c21] using hR) | (have hR9 := hR; simp_all [mWhy, mWhyV, mWhyA, mFM]; done))⟩ hP hK hD hS dM_why_107
              · refine lv_iconst (v := 5) hx hb dM_why_102 (by decide) ?_
                refine lv_goto (tgt := 107) hx hb dM_why_103 (by decide) ?_
                exact x_iret (v := 5) hx hb hr hlocks ⟨(by subst ee3 ee6 ee17 ee20; first | (simp [mWhy, mWhyV, mWhyA, mFM, c1, c4, c7, c14, c15, c18, c21]; done) | (simp_all [mWhy, mWhyV, mWhyA, mFM]; done)), (by subst ee3 ee6 ee17 ee20; first | (simpa [mWhy, mWhyV, mWhyA, mFM, c1, c4, c7, c14, c15, c18, c21] using hR) | (have hR9 := hR; simp_all [mWhy, mWhyV, mWhyA, mFM]; done))⟩ hP hK hD hS dM_why_107
            · refine lv_iconst (v := 4) hx hb dM_why_84 (by decide) ?_
              refine lv_goto (tgt := 107) hx hb dM_why_85 (by decide) ?_
              exact x_iret (v := 4) hx hb hr hlocks ⟨(by subst ee3 ee6 ee17; first | (simp [mWhy, mWhyV, mWhyA, mFM, c1, c4, c7, c14, c15, c18]; done) | (simp_all [mWhy, mWhyV, mWhyA, mFM]; done)), (by subst ee3 ee6 ee17; first | (simpa [mWhy, mWhyV, mWhyA, mFM, c1, c4, c7, c14, c15, c18] using hR) | (have hR9 := hR; simp_all [mWhy, mWhyV, mWhyA, mFM]; done))⟩ hP hK hD hS dM_why_107
          · refine lv_iconst (v := 3) hx hb dM_why_68 (by decide) ?_
            exact x_iret (v := 3) hx hb hr hlocks ⟨(by subst ee3 ee6; first | (simp [mWhy, mWhyV, mWhyA, mFM, c1, c4, c7, c14, c15]; done) | (simp_all [mWhy, mWhyV, mWhyA, mFM]; done)), (by subst ee3 ee6; first | (simpa [mWhy, mWhyV, mWhyA, mFM, c1, c4, c7, c14, c15] using hR) | (have hR9 := hR; simp_all [mWhy, mWhyV, mWhyA, mFM]; done))⟩ hP hK hD hS dM_why_69
    · refine lv_iconst (v := 2) hx hb dM_why_43 (by decide) ?_
      exact x_iret (v := 2) hx hb hr hlocks ⟨(by subst ee3; first | (simp [mWhy, mWhyV, mWhyA, mFM, c1, c4]; done) | (simp_all [mWhy, mWhyV, mWhyA, mFM]; done)), (by subst ee3; first | (simpa [mWhy, mWhyV, mWhyA, mFM, c1, c4] using hR) | (have hR9 := hR; simp_all [mWhy, mWhyV, mWhyA, mFM]; done))⟩ hP hK hD hS dM_why_44
  · refine lv_aload_n hx hb dM_why_26 rfl (lv_at hl 2 rfl) ?_
    refine m_arr 24 hx hb hB inBM hown hK hP hR rfl (hB _ fl_M_66) rfl dM_why_27 ?_
    refine lv_iload_n hx hb dM_why_30 rfl (lv_at hl 1 rfl) ?_
    refine lv_iconst (v := 0) hx hb dM_why_31 (by decide) ?_
    refine m_stz 24 (i := ar 15 e9.toNatClampNeg) (x := 0) rfl hk9 hx hb hK hP hD hS hR rfl dM_why_32 (fun w H locs hR hP hD hS => ?_)
    refine lv_iconst (v := 1) hx hb dM_why_33 (by decide) ?_
    exact x_iret (v := 1) hx hb hr hlocks ⟨(by first | (simp [mWhy, mWhyV, mWhyA, mFM, c1]; done) | (simp_all [mWhy, mWhyV, mWhyA, mFM]; done)), (by first | (simpa [mWhy, mWhyV, mWhyA, mFM, c1] using hR) | (have hR9 := hR; simp_all [mWhy, mWhyV, mWhyA, mFM]; done))⟩ hP hK hD hS dM_why_34
set_option maxHeartbeats 4000000 in
set_option maxRecDepth 100000 in
theorem c_M_becomes {l : Launch} {G : va_G} {ca : Nat → ClassId} {aM : Nat} {am : Nat → Nat} {h : Nat → Int32} {ar : Nat → Nat → Int32} {w : va_W} {sz : Nat} (hR : RM ca aM am h ar w) (d9 : Int32) (s9 : Int32) (t9 : Int32) (hd : vp_in d9 20) : xMv l yM_becomes wsM_becomes ({ frames := 0, cells := 0, slots := 0, locals := 0 }) [.ref aM, .int d9, .int s9, .int t9] G (mTys ca) w sz (fun w' => RM ca aM am h (mBec ar d9.toNatClampNeg s9 t9) w') 0 0 := by
  refine x_ofW (fun A => va_Qv (fun w' => RM ca aM am h (mBec ar d9.toNatClampNeg s9 t9) w') (xEnd G (mTys ca) A) A) cM_becomes 4 none (by decide) rfl (Nat.le_of_ble_eq_true rfl) ?_
  intro p e s m below meth c A ls hx hb hr hlocks hml hnm hown hB hA hP hK hD hS hl
  have hl : lv_has ls 4 [(0, .ref aM), (1, .int d9), (2, .int s9), (3, .int t9)] := hl
  have hown : s.vm.findClass NmM = some m.cls := hown
  refine lv_aload_n hx hb dM_becomes_0 rfl (lv_at hl 0 rfl) ?_
  refine m_arr 7 hx hb hB inBM hown hK hP hR rfl (hB _ fl_M_19) rfl dM_becomes_1 ?_
  refine lv_iload_n hx hb dM_becomes_4 rfl (lv_at hl 1 rfl) ?_
  refine m_ld 7 (i := d9) hd hx hb hK hP hR rfl dM_becomes_5 ?_
  refine lv_iload_n hx hb dM_becomes_6 rfl (lv_at hl 2 rfl) ?_
  refine lv_icmp_eq (tgt := 31) hx hb dM_becomes_7 (by decide) (fun c1 => ?_) (fun c1 => ?_)
  · exact x_vret hx hb hr hlocks (by first | (simpa [mBec, c1] using hR) | (have hR9 := hR; simp_all [mBec]; done)) hP hK hD hS dM_becomes_31
  · refine lv_aload_n hx hb dM_becomes_10 rfl (lv_at hl 0 rfl) ?_
    refine m_arr 7 hx hb hB inBM hown hK hP hR rfl (hB _ fl_M_19) rfl dM_becomes_11 ?_
    refine lv_iload_n hx hb dM_becomes_14 rfl (lv_at hl 1 rfl) ?_
    refine lv_iload_n hx hb dM_becomes_15 rfl (lv_at hl 2 rfl) ?_
    refine m_st 7 (i := d9) (x := s9) hd hx hb hK hP hD hS hR rfl dM_becomes_16 (fun w H locs hR hP hD hS => ?_)
    refine lv_aload_n hx hb dM_becomes_17 rfl (lv_at hl 0 rfl) ?_
    refine m_arr 10 hx hb hB inBM hown hK hP hR rfl (hB _ fl_M_28) rfl dM_becomes_18 ?_
    refine lv_iload_n hx hb dM_becomes_21 rfl (lv_at hl 1 rfl) ?_
    refine lv_iload_n hx hb dM_becomes_22 rfl (lv_at hl 3 rfl) ?_
    refine m_st 10 (i := d9) (x := t9) hd hx hb hK hP hD hS hR rfl dM_becomes_23 (fun w H locs hR hP hD hS => ?_)
    refine lv_aload_n hx hb dM_becomes_24 rfl (lv_at hl 0 rfl) ?_
    refine m_arr 11 hx hb hB inBM hown hK hP hR rfl (hB _ fl_M_31) rfl dM_becomes_25 ?_
    refine lv_iload_n hx hb dM_becomes_28 rfl (lv_at hl 1 rfl) ?_
    refine lv_iconst (v := (-1)) hx hb dM_becomes_29 (by decide) ?_
    refine m_st 11 (i := d9) (x := (-1)) hd hx hb hK hP hD hS hR rfl dM_becomes_30 (fun w H locs hR hP hD hS => ?_)
    exact x_vret hx hb hr hlocks (by first | (simpa [mBec, c1] using hR) | (have hR9 := hR; simp_all [mBec]; done)) hP hK hD hS dM_becomes_31
set_option maxHeartbeats 4000000 in
set_option maxRecDepth 100000 in
theorem c_M_release {l : Launch} {G : va_G} {ca : Nat → ClassId} {aM : Nat} {am : Nat → Nat} {h : Nat → Int32} {ar : Nat → Nat → Int32} {w : va_W} {sz : Nat} (hR : RM ca aM am h ar w) (d9 : Int32) (t9 : Int32) (hd : vp_in d9 20) : xMv l yM_release wsM_release ({ frames := 1, cells := 0, slots := 0, locals := 23 }) [.ref aM, .int d9, .int t9] G (mTys ca) w sz (fun w' => RM ca aM am h (mRel ar d9.toNatClampNeg t9) w') 0 0 := by
  refine x_ofW (fun A => va_Qv (fun w' => RM ca aM am h (mRel ar d9.toNatClampNeg t9) w') (xEnd G (mTys ca) A) A) cM_release 3 none (by decide) rfl (Nat.le_of_ble_eq_true rfl) ?_
  intro p e s m below meth c A ls hx hb hr hlocks hml hnm hown hB hA hP hK hD hS hl
  have hl : lv_has ls 3 [(0, .ref aM), (1, .int d9), (2, .int t9)] := hl
  have hown : s.vm.findClass NmM = some m.cls := hown
  refine lv_aload_n hx hb dM_release_0 rfl (lv_at hl 0 rfl) ?_
  refine m_arr 7 hx hb hB inBM hown hK hP hR rfl (hB _ fl_M_19) rfl dM_release_1 ?_
  refine lv_iload_n hx hb dM_release_4 rfl (lv_at hl 1 rfl) ?_
  refine m_ld 7 (i := d9) hd hx hb hK hP hR rfl dM_release_5 ?_
  refine lv_iconst (v := 2) hx hb dM_release_6 (by decide) ?_
  refine lv_icmp_ne (tgt := 62) hx hb dM_release_7 (by decide) (fun c1 => ?_) (fun c1 => ?_)
  · exact x_vret hx hb hr hlocks (by first | (simpa [mRel, c1] using hR) | (have hR9 := hR; simp_all [mRel]; done)) hP hK hD hS dM_release_62
  · refine lv_aload_n hx hb dM_release_10 rfl (lv_at hl 0 rfl) ?_
    refine m_arr 9 hx hb hB inBM hown hK hP hR rfl (hB _ fl_M_25) rfl dM_release_11 ?_
    refine lv_iload_n hx hb dM_release_14 rfl (lv_at hl 1 rfl) ?_
    refine m_ld 9 (i := d9) hd hx hb hK hP hR rfl dM_release_15 ?_
    refine lv_if_ne (tgt := 62) hx hb dM_release_16 (by decide) (fun c2 => ?_) (fun c2 => ?_)
    · exact x_vret hx hb hr hlocks (by first | (simpa [mRel, c1, c2] using hR) | (have hR9 := hR; simp_all [mRel]; done)) hP hK hD hS dM_release_62
    · refine lv_aload_n hx hb dM_release_19 rfl (lv_at hl 0 rfl) ?_
      refine lv_iload_n hx hb dM_release_20 rfl (lv_at hl 1 rfl) ?_
      refine lv_iconst (v := 4) hx hb dM_release_21 (by decide) ?_
      refine x_calli (va_runV (As := [.int d9, .int 4]) (rest := []) ⟨hx, hb, hml, hown, hB⟩ (c_M_has hR d9 4 hd) (cwV 2 hB (gV ml_M_107 im_M_has sl_M_has ini_M kc_M_has) rfl rfl rfl (by decide +kernel) ⟨Nat.le_of_ble_eq_true rfl, Nat.le_of_ble_eq_true rfl⟩) (x_preV hP hK hD hR.1 rfl) rfl rfl hl.1 rfl (lv_room (Nat.le_of_ble_eq_true rfl)) dM_release_22 ⟨Nat.le_of_ble_eq_true rfl, Nat.le_of_ble_eq_true rfl⟩) hD hS hA (fun r3 w H locs hw hP hD hS => ?_)
      obtain ⟨ee4, rfl⟩ := hw
      refine lv_if_ne (tgt := 62) hx hb dM_release_25 (by decide) (fun c5 => ?_) (fun c5 => ?_)
      · exact x_vret hx hb hr hlocks (by subst ee4; first | (simpa [mRel, c1, c2, c5] using hR) | (have hR9 := hR; simp_all [mRel]; done)) hP hK hD hS dM_release_62
      · refine lv_aload_n hx hb dM_release_28 rfl (lv_at hl 0 rfl) ?_
        refine lv_iload_n hx hb dM_release_29 rfl (lv_at hl 1 rfl) ?_
        refine lv_iconst (v := 1) hx hb dM_release_30 (by decide) ?_
        refine x_calli (va_runV (As := [.int d9, .int 1]) (rest := []) ⟨hx, hb, hml, hown, hB⟩ (c_M_has hR d9 1 hd) (cwV 2 hB (gV ml_M_107 im_M_has sl_M_has ini_M kc_M_has) rfl rfl rfl (by decide +kernel) ⟨Nat.le_of_ble_eq_true rfl, Nat.le_of_ble_eq_true rfl⟩) (x_preV hP hK hD hR.1 rfl) rfl rfl hl.1 rfl (lv_room (Nat.le_of_ble_eq_true rfl)) dM_release_31 ⟨Nat.le_of_ble_eq_true rfl, Nat.le_of_ble_eq_true rfl⟩) hD hS hA (fun r6 w H locs hw hP hD hS => ?_)
        obtain ⟨ee7, rfl⟩ := hw
        refine lv_if_eq (tgt := 62) hx hb dM_release_34 (by decide) (fun c8 => ?_) (fun c8 => ?_)
        · exact x_vret hx hb hr hlocks (by subst ee4 ee7; first | (simpa [mRel, c1, c2, c5, c8] using hR) | (have hR9 := hR; simp_all [mRel]; done)) hP hK hD hS dM_release_62
        · refine lv_aload_n hx hb dM_release_37 rfl (lv_at hl 0 rfl) ?_
          refine m_arr 5 hx hb hB inBM hown hK hP hR rfl (hB _ fl_M_13) rfl dM_release_38 ?_
          refine lv_iload_n hx hb dM_release_41 rfl (lv_at hl 1 rfl) ?_
          refine m_ld 5 (i := d9) hd hx hb hK hP hR rfl dM_release_42 ?_
          refine lv_if_gt (tgt := 55) hx hb dM_release_43 (by decide) (fun c9 => ?_) (fun c9 => ?_)
          · refine lv_aload_n hx hb dM_release_55 rfl (lv_at hl 0 rfl) ?_
            refine lv_iload_n hx hb dM_release_56 rfl (lv_at hl 1 rfl) ?_
            refine lv_iconst (v := 4) hx hb dM_release_57 (by decide) ?_
            refine lv_iload_n hx hb dM_release_58 rfl (lv_at hl 2 rfl) ?_
            refine x_callv (va_runV (As := [.int d9, .int 4, .int t9]) (rest := []) ⟨hx, hb, hml, hown, hB⟩ (c_M_becomes hR d9 4 t9 hd) (cwV 3 hB (gV ml_M_120 im_M_becomes sl_M_becomes ini_M kc_M_becomes) rfl rfl rfl (by decide +kernel) ⟨Nat.le_of_ble_eq_true rfl, Nat.le_of_ble_eq_true rfl⟩) (x_preV hP hK hD hR.1 rfl) rfl rfl hl.1 rfl (lv_room (Nat.le_of_ble_eq_true rfl)) dM_release_59 ⟨Nat.le_of_ble_eq_true rfl, Nat.le_of_ble_eq_true rfl⟩) hD hS hA (fun w H locs hw hP hD hS => ?_)
            have hR := hw
            exact x_vret hx hb hr hlocks (by subst ee4 ee7; first | (simpa [mRel, c1, c2, c5, c8, c9] using hR) | (have hR9 := hR; simp_all [mRel]; done)) hP hK hD hS dM_release_62
          · refine lv_aload_n hx hb dM_release_46 rfl (lv_at hl 0 rfl) ?_
            refine lv_iload_n hx hb dM_release_47 rfl (lv_at hl 1 rfl) ?_
            refine lv_iconst (v := 2) hx hb dM_release_48 (by decide) ?_
            refine x_calli (va_runV (As := [.int d9, .int 2]) (rest := []) ⟨hx, hb, hml, hown, hB⟩ (c_M_has hR d9 2 hd) (cwV 2 hB (gV ml_M_107 im_M_has sl_M_has ini_M kc_M_has) rfl rfl rfl (by decide +kernel) ⟨Nat.le_of_ble_eq_true rfl, Nat.le_of_ble_eq_true rfl⟩) (x_preV hP hK hD hR.1 rfl) rfl rfl hl.1 rfl (lv_room (Nat.le_of_ble_eq_true rfl)) dM_release_49 ⟨Nat.le_of_ble_eq_true rfl, Nat.le_of_ble_eq_true rfl⟩) hD hS hA (fun r12 w H locs hw hP hD hS => ?_)
            obtain ⟨ee13, rfl⟩ := hw
            refine lv_if_eq (tgt := 62) hx hb dM_release_52 (by decide) (fun c14 => ?_) (fun c14 => ?_)
            · exact x_vret hx hb hr hlocks (by subst ee4 ee7 ee13; first | (simpa [mRel, c1, c2, c5, c8, c9, c14] using hR) | (have hR9 := hR; simp_all [mRel]; done)) hP hK hD hS dM_release_62
            · refine lv_aload_n hx hb dM_release_55 rfl (lv_at hl 0 rfl) ?_
              refine lv_iload_n hx hb dM_release_56 rfl (lv_at hl 1 rfl) ?_
              refine lv_iconst (v := 4) hx hb dM_release_57 (by decide) ?_
              refine lv_iload_n hx hb dM_release_58 rfl (lv_at hl 2 rfl) ?_
              refine x_callv (va_runV (As := [.int d9, .int 4, .int t9]) (rest := []) ⟨hx, hb, hml, hown, hB⟩ (c_M_becomes hR d9 4 t9 hd) (cwV 3 hB (gV ml_M_120 im_M_becomes sl_M_becomes ini_M kc_M_becomes) rfl rfl rfl (by decide +kernel) ⟨Nat.le_of_ble_eq_true rfl, Nat.le_of_ble_eq_true rfl⟩) (x_preV hP hK hD hR.1 rfl) rfl rfl hl.1 rfl (lv_room (Nat.le_of_ble_eq_true rfl)) dM_release_59 ⟨Nat.le_of_ble_eq_true rfl, Nat.le_of_ble_eq_true rfl⟩) hD hS hA (fun w H locs hw hP hD hS => ?_)
              have hR := hw
              exact x_vret hx hb hr hlocks (by subst ee4 ee7 ee13; first | (simpa [mRel, c1, c2, c5, c8, c9, c14] using hR) | (have hR9 := hR; simp_all [mRel]; done)) hP hK hD hS dM_release_62
set_option maxHeartbeats 4000000 in
set_option maxRecDepth 100000 in
theorem c_M_happens {l : Launch} {G : va_G} {ca : Nat → ClassId} {aM : Nat} {am : Nat → Nat} {h : Nat → Int32} {ar : Nat → Nat → Int32} {w : va_W} {sz : Nat} (hR : RM ca aM am h ar w) (d9 : Int32) (k : Int32) (t9 : Int32) (hd : vp_in d9 20) : xMv l yM_happens wsM_happens ({ frames := 2, cells := 0, slots := 0, locals := 45 }) [.ref aM, .int d9, .int k, .int t9] G (mTys ca) w sz (fun w' => RM ca aM am h (mHap ar d9.toNatClampNeg k t9) w') 0 0 := by
  refine x_ofW (fun A => va_Qv (fun w' => RM ca aM am h (mHap ar d9.toNatClampNeg k t9) w') (xEnd G (mTys ca) A) A) cM_happens 6 none (by decide) rfl (Nat.le_of_ble_eq_true rfl) ?_
  intro p e s m below meth c A ls hx hb hr hlocks hml hnm hown hB hA hP hK hD hS hl
  have hl : lv_has ls 6 [(0, .ref aM), (1, .int d9), (2, .int k), (3, .int t9)] := hl
  have hown : s.vm.findClass NmM = some m.cls := hown
  refine lv_aload_n hx hb dM_happens_0 rfl (lv_at hl 0 rfl) ?_
  refine m_arr 7 hx hb hB inBM hown hK hP hR rfl (hB _ fl_M_19) rfl dM_happens_1 ?_
  refine lv_iload_n hx hb dM_happens_4 rfl (lv_at hl 1 rfl) ?_
  refine m_ld 7 (i := d9) hd hx hb hK hP hR rfl dM_happens_5 ?_
  refine lv_istore (lv' := [(4, .int (ar 7 d9.toNatClampNeg)), (0, .ref aM), (1, .int d9), (2, .int k), (3, .int t9)]) hx hb dM_happens_6 hl (by decide) rfl (fun ls hl => ?_)
  refine lv_aload_n hx hb dM_happens_8 rfl (lv_at hl 1 rfl) ?_
  refine m_arr 8 hx hb hB inBM hown hK hP hR rfl (hB _ fl_M_22) rfl dM_happens_9 ?_
  refine lv_iload_n hx hb dM_happens_12 rfl (lv_at hl 2 rfl) ?_
  refine lv_dup2_11 hx hb dM_happens_13 rfl rfl ?_
  refine m_ld 8 (i := d9) hd hx hb hK hP hR rfl dM_happens_14 ?_
  refine lv_iload_n hx hb dM_happens_15 rfl (lv_at hl 3 rfl) ?_
  refine lv_iconst (v := 1) hx hb dM_happens_16 (by decide) ?_
  refine lv_icmp_ne (tgt := 24) hx hb dM_happens_17 (by decide) (fun c1 => ?_) (fun c1 => ?_)
  · refine lv_iload_n hx hb dM_happens_24 rfl (lv_at hl 3 rfl) ?_
    refine lv_bipush (v := 6) hx hb dM_happens_25 (by decide) ?_
    refine lv_icmp_ne (tgt := 34) hx hb dM_happens_27 (by decide) (fun c2 => ?_) (fun c2 => ?_)
    · refine lv_iload_n hx hb dM_happens_34 rfl (lv_at hl 3 rfl) ?_
      refine lv_iconst (v := 5) hx hb dM_happens_35 (by decide) ?_
      refine lv_icmp_ne (tgt := 43) hx hb dM_happens_36 (by decide) (fun c3 => ?_) (fun c3 => ?_)
      · refine lv_iconst (v := 0) hx hb dM_happens_43 (by decide) ?_
        refine lv_ior hx hb dM_happens_44 ?_
        refine m_st 8 (i := d9) (x := (ar 8 d9.toNatClampNeg) ||| 0) hd hx hb hK hP hD hS hR rfl dM_happens_45 (fun w H locs hR hP hD hS => ?_)
        refine lv_aload_n hx hb dM_happens_46 rfl (lv_at hl 1 rfl) ?_
        refine m_arr 8 hx hb hB inBM hown hK hP hR rfl (hB _ fl_M_22) rfl dM_happens_47 ?_
        refine lv_iload_n hx hb dM_happens_50 rfl (lv_at hl 2 rfl) ?_
        refine lv_dup2_11 hx hb dM_happens_51 rfl rfl ?_
        refine m_ld 8 (i := d9) hd hx hb hK hP hR rfl dM_happens_52 ?_
        refine lv_iload_n hx hb dM_happens_53 rfl (lv_at hl 3 rfl) ?_
        refine lv_bipush (v := 9) hx hb dM_happens_54 (by decide) ?_
        refine lv_icmp_ne (tgt := 63) hx hb dM_happens_56 (by decide) (fun c4 => ?_) (fun c4 => ?_)
        · refine lv_iconst (v := 0) hx hb dM_happens_63 (by decide) ?_
          refine lv_isub hx hb dM_happens_64 ?_
          refine m_st 8 (i := d9) (x := ((mSt ar 8 d9.toNatClampNeg ((ar 8 d9.toNatClampNeg) ||| 0)) 8 d9.toNatClampNeg) - 0) hd hx hb hK hP hD hS hR rfl dM_happens_65 (fun w H locs hR hP hD hS => ?_)
          refine lv_iload_n hx hb dM_happens_66 rfl (lv_at hl 3 rfl) ?_
          refine lv_if_ne (tgt := 74) hx hb dM_happens_67 (by decide) (fun c5 => ?_) (fun c5 => ?_)
          · refine lv_iload_n hx hb dM_happens_74 rfl (lv_at hl 3 rfl) ?_
            refine lv_iconst (v := 2) hx hb dM_happens_75 (by decide) ?_
            refine lv_icmp_eq (tgt := 89) hx hb dM_happens_76 (by decide) (fun c6 => ?_) (fun c6 => ?_)
            · refine lv_iconst (v := 2) hx hb dM_happens_89 (by decide) ?_
              refine lv_goto (tgt := 125) hx hb dM_happens_90 (by decide) ?_
              refine lv_istore (lv' := [(5, .int 2), (4, .int (ar 7 d9.toNatClampNeg)), (0, .ref aM), (1, .int d9), (2, .int k), (3, .int t9)]) hx hb dM_happens_125 hl (by decide) rfl (fun ls hl => ?_)
              refine lv_aload_n hx hb dM_happens_127 rfl (lv_at hl 2 rfl) ?_
              refine lv_iload_n hx hb dM_happens_128 rfl (lv_at hl 3 rfl) ?_
              refine lv_iload hx hb dM_happens_129 (lv_at hl 0 rfl) ?_
              refine lv_iload_n hx hb dM_happens_131 rfl (lv_at hl 5 rfl) ?_
              refine x_callv (va_runV (As := [.int d9, .int 2, .int t9]) (rest := []) ⟨hx, hb, hml, hown, hB⟩ (c_M_becomes hR d9 2 t9 hd) (cwV 3 hB (gV ml_M_120 im_M_becomes sl_M_becomes ini_M kc_M_becomes) rfl rfl rfl (by decide +kernel) ⟨Nat.le_of_ble_eq_true rfl, Nat.le_of_ble_eq_true rfl⟩) (x_preV hP hK hD hR.1 rfl) rfl rfl hl.1 rfl (lv_room (Nat.le_of_ble_eq_true rfl)) dM_happens_132 ⟨Nat.le_of_ble_eq_true rfl, Nat.le_of_ble_eq_true rfl⟩) hD hS hA (fun w H locs hw hP hD hS => ?_)
              have hR := hw
              refine lv_aload_n hx hb dM_happens_135 rfl (lv_at hl 2 rfl) ?_
              refine lv_iload_n hx hb dM_happens_136 rfl (lv_at hl 3 rfl) ?_
              refine lv_iload_n hx hb dM_happens_137 rfl (lv_at hl 5 rfl) ?_
              refine x_callv (va_runV (As := [.int d9, .int t9]) (rest := []) ⟨hx, hb, hml, hown, hB⟩ (c_M_release hR d9 t9 hd) (cwV 2 hB (gV ml_M_124 im_M_release sl_M_release ini_M kc_M_release) rfl rfl rfl (by decide +kernel) ⟨Nat.le_of_ble_eq_true rfl, Nat.le_of_ble_eq_true rfl⟩) (x_preV hP hK hD hR.1 rfl) rfl rfl hl.1 rfl (lv_room (Nat.le_of_ble_eq_true rfl)) dM_happens_138 ⟨Nat.le_of_ble_eq_true rfl, Nat.le_of_ble_eq_true rfl⟩) hD hS hA (fun w H locs hw hP hD hS => ?_)
              have hR := hw
              exact x_vret hx hb hr hlocks (by first | (simpa [mHap, mOr, mThen, c1, c2, c3, c4, c5, c6] using hR) | (have hR9 := hR; simp_all [mHap, mOr, mThen]; done)) hP hK hD hS dM_happens_141
            · refine lv_iload_n hx hb dM_happens_79 rfl (lv_at hl 3 rfl) ?_
              refine lv_iconst (v := 4) hx hb dM_happens_80 (by decide) ?_
              refine lv_icmp_eq (tgt := 89) hx hb dM_happens_81 (by decide) (fun c11 => ?_) (fun c11 => ?_)
              · refine lv_iconst (v := 2) hx hb dM_happens_89 (by decide) ?_
                refine lv_goto (tgt := 125) hx hb dM_happens_90 (by decide) ?_
                refine lv_istore (lv' := [(5, .int 2), (4, .int (ar 7 d9.toNatClampNeg)), (0, .ref aM), (1, .int d9), (2, .int k), (3, .int t9)]) hx hb dM_happens_125 hl (by decide) rfl (fun ls hl => ?_)
                refine lv_aload_n hx hb dM_happens_127 rfl (lv_at hl 2 rfl) ?_
                refine lv_iload_n hx hb dM_happens_128 rfl (lv_at hl 3 rfl) ?_
                refine lv_iload hx hb dM_happens_129 (lv_at hl 0 rfl) ?_
                refine lv_iload_n hx hb dM_happens_131 rfl (lv_at hl 5 rfl) ?_
                refine x_callv (va_runV (As := [.int d9, .int 2, .int t9]) (rest := []) ⟨hx, hb, hml, hown, hB⟩ (c_M_becomes hR d9 2 t9 hd) (cwV 3 hB (gV ml_M_120 im_M_becomes sl_M_becomes ini_M kc_M_becomes) rfl rfl rfl (by decide +kernel) ⟨Nat.le_of_ble_eq_true rfl, Nat.le_of_ble_eq_true rfl⟩) (x_preV hP hK hD hR.1 rfl) rfl rfl hl.1 rfl (lv_room (Nat.le_of_ble_eq_true rfl)) dM_happens_132 ⟨Nat.le_of_ble_eq_true rfl, Nat.le_of_ble_eq_true rfl⟩) hD hS hA (fun w H locs hw hP hD hS => ?_)
                have hR := hw
                refine lv_aload_n hx hb dM_happens_135 rfl (lv_at hl 2 rfl) ?_
                refine lv_iload_n hx hb dM_happens_136 rfl (lv_at hl 3 rfl) ?_
                refine lv_iload_n hx hb dM_happens_137 rfl (lv_at hl 5 rfl) ?_
                refine x_callv (va_runV (As := [.int d9, .int t9]) (rest := []) ⟨hx, hb, hml, hown, hB⟩ (c_M_release hR d9 t9 hd) (cwV 2 hB (gV ml_M_124 im_M_release sl_M_release ini_M kc_M_release) rfl rfl rfl (by decide +kernel) ⟨Nat.le_of_ble_eq_true rfl, Nat.le_of_ble_eq_true rfl⟩) (x_preV hP hK hD hR.1 rfl) rfl rfl hl.1 rfl (lv_room (Nat.le_of_ble_eq_true rfl)) dM_happens_138 ⟨Nat.le_of_ble_eq_true rfl, Nat.le_of_ble_eq_true rfl⟩) hD hS hA (fun w H locs hw hP hD hS => ?_)
                have hR := hw
                exact x_vret hx hb hr hlocks (by first | (simpa [mHap, mOr, mThen, c1, c2, c3, c4, c5, c6, c11] using hR) | (have hR9 := hR; simp_all [mHap, mOr, mThen]; done)) hP hK hD hS dM_happens_141
              · refine lv_iload_n hx hb dM_happens_84 rfl (lv_at hl 3 rfl) ?_
                refine lv_iconst (v := 5) hx hb dM_happens_85 (by decide) ?_
                refine lv_icmp_ne (tgt := 93) hx hb dM_happens_86 (by decide) (fun _ => ?_) (fun c16 => absurd c16 c3)
                refine lv_iload_n hx hb dM_happens_93 rfl (lv_at hl 3 rfl) ?_
                refine lv_iconst (v := 3) hx hb dM_happens_94 (by decide) ?_
                refine lv_icmp_ne (tgt := 102) hx hb dM_happens_95 (by decide) (fun c17 => ?_) (fun c17 => ?_)
                · refine lv_iload_n hx hb dM_happens_102 rfl (lv_at hl 3 rfl) ?_
                  refine lv_bipush (v := 7) hx hb dM_happens_103 (by decide) ?_
                  refine lv_icmp_ne (tgt := 112) hx hb dM_happens_105 (by decide) (fun c18 => ?_) (fun c18 => ?_)
                  · refine lv_iload_n hx hb dM_happens_112 rfl (lv_at hl 3 rfl) ?_
                    refine lv_bipush (v := 8) hx hb dM_happens_113 (by decide) ?_
                    refine lv_icmp_ne (tgt := 123) hx hb dM_happens_115 (by decide) (fun c19 => ?_) (fun c19 => ?_)
                    · refine lv_iload hx hb dM_happens_123 (lv_at hl 0 rfl) ?_
                      refine lv_istore (lv' := [(5, .int (ar 7 d9.toNatClampNeg)), (4, .int (ar 7 d9.toNatClampNeg)), (0, .ref aM), (1, .int d9), (2, .int k), (3, .int t9)]) hx hb dM_happens_125 hl (by decide) rfl (fun ls hl => ?_)
                      refine lv_aload_n hx hb dM_happens_127 rfl (lv_at hl 2 rfl) ?_
                      refine lv_iload_n hx hb dM_happens_128 rfl (lv_at hl 3 rfl) ?_
                      refine lv_iload hx hb dM_happens_129 (lv_at hl 0 rfl) ?_
                      refine lv_iload_n hx hb dM_happens_131 rfl (lv_at hl 5 rfl) ?_
                      refine x_callv (va_runV (As := [.int d9, .int (ar 7 d9.toNatClampNeg), .int t9]) (rest := []) ⟨hx, hb, hml, hown, hB⟩ (c_M_becomes hR d9 (ar 7 d9.toNatClampNeg) t9 hd) (cwV 3 hB (gV ml_M_120 im_M_becomes sl_M_becomes ini_M kc_M_becomes) rfl rfl rfl (by decide +kernel) ⟨Nat.le_of_ble_eq_true rfl, Nat.le_of_ble_eq_true rfl⟩) (x_preV hP hK hD hR.1 rfl) rfl rfl hl.1 rfl (lv_room (Nat.le_of_ble_eq_true rfl)) dM_happens_132 ⟨Nat.le_of_ble_eq_true rfl, Nat.le_of_ble_eq_true rfl⟩) hD hS hA (fun w H locs hw hP hD hS => ?_)
                      have hR := hw
                      refine lv_aload_n hx hb dM_happens_135 rfl (lv_at hl 2 rfl) ?_
                      refine lv_iload_n hx hb dM_happens_136 rfl (lv_at hl 3 rfl) ?_
                      refine lv_iload_n hx hb dM_happens_137 rfl (lv_at hl 5 rfl) ?_
                      refine x_callv (va_runV (As := [.int d9, .int t9]) (rest := []) ⟨hx, hb, hml, hown, hB⟩ (c_M_release hR d9 t9 hd) (cwV 2 hB (gV ml_M_124 im_M_release sl_M_release ini_M kc_M_release) rfl rfl rfl (by decide +kernel) ⟨Nat.le_of_ble_eq_true rfl, Nat.le_of_ble_eq_true rfl⟩) (x_preV hP hK hD hR.1 rfl) rfl rfl hl.1 rfl (lv_room (Nat.le_of_ble_eq_true rfl)) dM_happens_138 ⟨Nat.le_of_ble_eq_true rfl, Nat.le_of_ble_eq_true rfl⟩) hD hS hA (fun w H locs hw hP hD hS => ?_)
                      have hR := hw
                      exact x_vret hx hb hr hlocks (by first | (simpa [mHap, mOr, mThen, c1, c2, c3, c4, c5, c6, c11, c17, c18, c19] using hR) | (have hR9 := hR; simp_all [mHap, mOr, mThen]; done)) hP hK hD hS dM_happens_141
                    · refine lv_bipush (v := 7) hx hb dM_happens_118 (by decide) ?_
                      refine lv_goto (tgt := 125) hx hb dM_happens_120 (by decide) ?_
                      refine lv_istore (lv' := [(5, .int 7), (4, .int (ar 7 d9.toNatClampNeg)), (0, .ref aM), (1, .int d9), (2, .int k), (3, .int t9)]) hx hb dM_happens_125 hl (by decide) rfl (fun ls hl => ?_)
                      refine lv_aload_n hx hb dM_happens_127 rfl (lv_at hl 2 rfl) ?_
                      refine lv_iload_n hx hb dM_happens_128 rfl (lv_at hl 3 rfl) ?_
                      refine lv_iload hx hb dM_happens_129 (lv_at hl 0 rfl) ?_
                      refine lv_iload_n hx hb dM_happens_131 rfl (lv_at hl 5 rfl) ?_
                      refine x_callv (va_runV (As := [.int d9, .int 7, .int t9]) (rest := []) ⟨hx, hb, hml, hown, hB⟩ (c_M_becomes hR d9 7 t9 hd) (cwV 3 hB (gV ml_M_120 im_M_becomes sl_M_becomes ini_M kc_M_becomes) rfl rfl rfl (by decide +kernel) ⟨Nat.le_of_ble_eq_true rfl, Nat.le_of_ble_eq_true rfl⟩) (x_preV hP hK hD hR.1 rfl) rfl rfl hl.1 rfl (lv_room (Nat.le_of_ble_eq_true rfl)) dM_happens_132 ⟨Nat.le_of_ble_eq_true rfl, Nat.le_of_ble_eq_true rfl⟩) hD hS hA (fun w H locs hw hP hD hS => ?_)
                      have hR := hw
                      refine lv_aload_n hx hb dM_happens_135 rfl (lv_at hl 2 rfl) ?_
                      refine lv_iload_n hx hb dM_happens_136 rfl (lv_at hl 3 rfl) ?_
                      refine lv_iload_n hx hb dM_happens_137 rfl (lv_at hl 5 rfl) ?_
                      refine x_callv (va_runV (As := [.int d9, .int t9]) (rest := []) ⟨hx, hb, hml, hown, hB⟩ (c_M_release hR d9 t9 hd) (cwV 2 hB (gV ml_M_124 im_M_release sl_M_release ini_M kc_M_release) rfl rfl rfl (by decide +kernel) ⟨Nat.le_of_ble_eq_true rfl, Nat.le_of_ble_eq_true rfl⟩) (x_preV hP hK hD hR.1 rfl) rfl rfl hl.1 rfl (lv_room (Nat.le_of_ble_eq_true rfl)) dM_happens_138 ⟨Nat.le_of_ble_eq_true rfl, Nat.le_of_ble_eq_true rfl⟩) hD hS hA (fun w H locs hw hP hD hS => ?_)
                      have hR := hw
                      exact x_vret hx hb hr hlocks (by first | (simpa [mHap, mOr, mThen, c1, c2, c3, c4, c5, c6, c11, c17, c18, c19] using hR) | (have hR9 := hR; simp_all [mHap, mOr, mThen]; done)) hP hK hD hS dM_happens_141
                  · refine lv_iconst (v := 5) hx hb dM_happens_108 (by decide) ?_
                    refine lv_goto (tgt := 125) hx hb dM_happens_109 (by decide) ?_
                    refine lv_istore (lv' := [(5, .int 5), (4, .int (ar 7 d9.toNatClampNeg)), (0, .ref aM), (1, .int d9), (2, .int k), (3, .int t9)]) hx hb dM_happens_125 hl (by decide) rfl (fun ls hl => ?_)
                    refine lv_aload_n hx hb dM_happens_127 rfl (lv_at hl 2 rfl) ?_
                    refine lv_iload_n hx hb dM_happens_128 rfl (lv_at hl 3 rfl) ?_
                    refine lv_iload hx hb dM_happens_129 (lv_at hl 0 rfl) ?_
                    refine lv_iload_n hx hb dM_happens_131 rfl (lv_at hl 5 rfl) ?_
                    refine x_callv (va_runV (As := [.int d9, .int 5, .int t9]) (rest := []) ⟨hx, hb, hml, hown, hB⟩ (c_M_becomes hR d9 5 t9 hd) (cwV 3 hB (gV ml_M_120 im_M_becomes sl_M_becomes ini_M kc_M_becomes) rfl rfl rfl (by decide +kernel) ⟨Nat.le_of_ble_eq_true rfl, Nat.le_of_ble_eq_true rfl⟩) (x_preV hP hK hD hR.1 rfl) rfl rfl hl.1 rfl (lv_room (Nat.le_of_ble_eq_true rfl)) dM_happens_132 ⟨Nat.le_of_ble_eq_true rfl, Nat.le_of_ble_eq_true rfl⟩) hD hS hA (fun w H locs hw hP hD hS => ?_)
                    have hR := hw
                    refine lv_aload_n hx hb dM_happens_135 rfl (lv_at hl 2 rfl) ?_
                    refine lv_iload_n hx hb dM_happens_136 rfl (lv_at hl 3 rfl) ?_
                    refine lv_iload_n hx hb dM_happens_137 rfl (lv_at hl 5 rfl) ?_
                    refine x_callv (va_runV (As := [.int d9, .int t9]) (rest := []) ⟨hx, hb, hml, hown, hB⟩ (c_M_release hR d9 t9 hd) (cwV 2 hB (gV ml_M_124 im_M_release sl_M_release ini_M kc_M_release) rfl rfl rfl (by decide +kernel) ⟨Nat.le_of_ble_eq_true rfl, Nat.le_of_ble_eq_true rfl⟩) (x_preV hP hK hD hR.1 rfl) rfl rfl hl.1 rfl (lv_room (Nat.le_of_ble_eq_true rfl)) dM_happens_138 ⟨Nat.le_of_ble_eq_true rfl, Nat.le_of_ble_eq_true rfl⟩) hD hS hA (fun w H locs hw hP hD hS => ?_)
                    have hR := hw
                    exact x_vret hx hb hr hlocks (by first | (simpa [mHap, mOr, mThen, c1, c2, c3, c4, c5, c6, c11, c17, c18] using hR) | (have hR9 := hR; simp_all [mHap, mOr, mThen]; done)) hP hK hD hS dM_happens_141
                · refine lv_iconst (v := 3) hx hb dM_happens_98 (by decide) ?_
                  refine lv_goto (tgt := 125) hx hb dM_happens_99 (by decide) ?_
                  refine lv_istore (lv' := [(5, .int 3), (4, .int (ar 7 d9.toNatClampNeg)), (0, .ref aM), (1, .int d9), (2, .int k), (3, .int t9)]) hx hb dM_happens_125 hl (by decide) rfl (fun ls hl => ?_)
                  refine lv_aload_n hx hb dM_happens_127 rfl (lv_at hl 2 rfl) ?_
                  refine lv_iload_n hx hb dM_happens_128 rfl (lv_at hl 3 rfl) ?_
                  refine lv_iload hx hb dM_happens_129 (lv_at hl 0 rfl) ?_
                  refine lv_iload_n hx hb dM_happens_131 rfl (lv_at hl 5 rfl) ?_
                  refine x_callv (va_runV (As := [.int d9, .int 3, .int t9]) (rest := []) ⟨hx, hb, hml, hown, hB⟩ (c_M_becomes hR d9 3 t9 hd) (cwV 3 hB (gV ml_M_120 im_M_becomes sl_M_becomes ini_M kc_M_becomes) rfl rfl rfl (by decide +kernel) ⟨Nat.le_of_ble_eq_true rfl, Nat.le_of_ble_eq_true rfl⟩) (x_preV hP hK hD hR.1 rfl) rfl rfl hl.1 rfl (lv_room (Nat.le_of_ble_eq_true rfl)) dM_happens_132 ⟨Nat.le_of_ble_eq_true rfl, Nat.le_of_ble_eq_true rfl⟩) hD hS hA (fun w H locs hw hP hD hS => ?_)
                  have hR := hw
                  refine lv_aload_n hx hb dM_happens_135 rfl (lv_at hl 2 rfl) ?_
                  refine lv_iload_n hx hb dM_happens_136 rfl (lv_at hl 3 rfl) ?_
                  refine lv_iload_n hx hb dM_happens_137 rfl (lv_at hl 5 rfl) ?_
                  refine x_callv (va_runV (As := [.int d9, .int t9]) (rest := []) ⟨hx, hb, hml, hown, hB⟩ (c_M_release hR d9 t9 hd) (cwV 2 hB (gV ml_M_124 im_M_release sl_M_release ini_M kc_M_release) rfl rfl rfl (by decide +kernel) ⟨Nat.le_of_ble_eq_true rfl, Nat.le_of_ble_eq_true rfl⟩) (x_preV hP hK hD hR.1 rfl) rfl rfl hl.1 rfl (lv_room (Nat.le_of_ble_eq_true rfl)) dM_happens_138 ⟨Nat.le_of_ble_eq_true rfl, Nat.le_of_ble_eq_true rfl⟩) hD hS hA (fun w H locs hw hP hD hS => ?_)
                  have hR := hw
                  exact x_vret hx hb hr hlocks (by first | (simpa [mHap, mOr, mThen, c1, c2, c3, c4, c5, c6, c11, c17] using hR) | (have hR9 := hR; simp_all [mHap, mOr, mThen]; done)) hP hK hD hS dM_happens_141
          · refine lv_iconst (v := 1) hx hb dM_happens_70 (by decide) ?_
            refine lv_goto (tgt := 125) hx hb dM_happens_71 (by decide) ?_
            refine lv_istore (lv' := [(5, .int 1), (4, .int (ar 7 d9.toNatClampNeg)), (0, .ref aM), (1, .int d9), (2, .int k), (3, .int t9)]) hx hb dM_happens_125 hl (by decide) rfl (fun ls hl => ?_)
            refine lv_aload_n hx hb dM_happens_127 rfl (lv_at hl 2 rfl) ?_
            refine lv_iload_n hx hb dM_happens_128 rfl (lv_at hl 3 rfl) ?_
            refine lv_iload hx hb dM_happens_129 (lv_at hl 0 rfl) ?_
            refine lv_iload_n hx hb dM_happens_131 rfl (lv_at hl 5 rfl) ?_
            refine x_callv (va_runV (As := [.int d9, .int 1, .int t9]) (rest := []) ⟨hx, hb, hml, hown, hB⟩ (c_M_becomes hR d9 1 t9 hd) (cwV 3 hB (gV ml_M_120 im_M_becomes sl_M_becomes ini_M kc_M_becomes) rfl rfl rfl (by decide +kernel) ⟨Nat.le_of_ble_eq_true rfl, Nat.le_of_ble_eq_true rfl⟩) (x_preV hP hK hD hR.1 rfl) rfl rfl hl.1 rfl (lv_room (Nat.le_of_ble_eq_true rfl)) dM_happens_132 ⟨Nat.le_of_ble_eq_true rfl, Nat.le_of_ble_eq_true rfl⟩) hD hS hA (fun w H locs hw hP hD hS => ?_)
            have hR := hw
            refine lv_aload_n hx hb dM_happens_135 rfl (lv_at hl 2 rfl) ?_
            refine lv_iload_n hx hb dM_happens_136 rfl (lv_at hl 3 rfl) ?_
            refine lv_iload_n hx hb dM_happens_137 rfl (lv_at hl 5 rfl) ?_
            refine x_callv (va_runV (As := [.int d9, .int t9]) (rest := []) ⟨hx, hb, hml, hown, hB⟩ (c_M_release hR d9 t9 hd) (cwV 2 hB (gV ml_M_124 im_M_release sl_M_release ini_M kc_M_release) rfl rfl rfl (by decide +kernel) ⟨Nat.le_of_ble_eq_true rfl, Nat.le_of_ble_eq_true rfl⟩) (x_preV hP hK hD hR.1 rfl) rfl rfl hl.1 rfl (lv_room (Nat.le_of_ble_eq_true rfl)) dM_happens_138 ⟨Nat.le_of_ble_eq_true rfl, Nat.le_of_ble_eq_true rfl⟩) hD hS hA (fun w H locs hw hP hD hS => ?_)
            have hR := hw
            exact x_vret hx hb hr hlocks (by first | (simpa [mHap, mOr, mThen, c1, c2, c3, c4, c5] using hR) | (have hR9 := hR; simp_all [mHap, mOr, mThen]; done)) hP hK hD hS dM_happens_141
        · refine lv_iconst (v := 4) hx hb dM_happens_59 (by decide) ?_
          refine lv_goto (tgt := 64) hx hb dM_happens_60 (by decide) ?_
          refine lv_isub hx hb dM_happens_64 ?_
          refine m_st 8 (i := d9) (x := ((mSt ar 8 d9.toNatClampNeg ((ar 8 d9.toNatClampNeg) ||| 0)) 8 d9.toNatClampNeg) - 4) hd hx hb hK hP hD hS hR rfl dM_happens_65 (fun w H locs hR hP hD hS => ?_)
          refine lv_iload_n hx hb dM_happens_66 rfl (lv_at hl 3 rfl) ?_
          refine lv_if_ne (tgt := 74) hx hb dM_happens_67 (by decide) (fun _ => ?_) (fun c40 => absurd (c4.symm.trans c40) (by decide))
          refine lv_iload_n hx hb dM_happens_74 rfl (lv_at hl 3 rfl) ?_
          refine lv_iconst (v := 2) hx hb dM_happens_75 (by decide) ?_
          refine lv_icmp_eq (tgt := 89) hx hb dM_happens_76 (by decide) (fun c41 => absurd (c4.symm.trans c41) (by decide)) (fun _ => ?_)
          refine lv_iload_n hx hb dM_happens_79 rfl (lv_at hl 3 rfl) ?_
          refine lv_iconst (v := 4) hx hb dM_happens_80 (by decide) ?_
          refine lv_icmp_eq (tgt := 89) hx hb dM_happens_81 (by decide) (fun c42 => absurd (c4.symm.trans c42) (by decide)) (fun _ => ?_)
          refine lv_iload_n hx hb dM_happens_84 rfl (lv_at hl 3 rfl) ?_
          refine lv_iconst (v := 5) hx hb dM_happens_85 (by decide) ?_
          refine lv_icmp_ne (tgt := 93) hx hb dM_happens_86 (by decide) (fun _ => ?_) (fun c43 => absurd c43 c3)
          refine lv_iload_n hx hb dM_happens_93 rfl (lv_at hl 3 rfl) ?_
          refine lv_iconst (v := 3) hx hb dM_happens_94 (by decide) ?_
          refine lv_icmp_ne (tgt := 102) hx hb dM_happens_95 (by decide) (fun _ => ?_) (fun c44 => absurd (c4.symm.trans c44) (by decide))
          refine lv_iload_n hx hb dM_happens_102 rfl (lv_at hl 3 rfl) ?_
          refine lv_bipush (v := 7) hx hb dM_happens_103 (by decide) ?_
          refine lv_icmp_ne (tgt := 112) hx hb dM_happens_105 (by decide) (fun _ => ?_) (fun c45 => absurd (c4.symm.trans c45) (by decide))
          refine lv_iload_n hx hb dM_happens_112 rfl (lv_at hl 3 rfl) ?_
          refine lv_bipush (v := 8) hx hb dM_happens_113 (by decide) ?_
          refine lv_icmp_ne (tgt := 123) hx hb dM_happens_115 (by decide) (fun _ => ?_) (fun c46 => absurd (c4.symm.trans c46) (by decide))
          refine lv_iload hx hb dM_happens_123 (lv_at hl 0 rfl) ?_
          refine lv_istore (lv' := [(5, .int (ar 7 d9.toNatClampNeg)), (4, .int (ar 7 d9.toNatClampNeg)), (0, .ref aM), (1, .int d9), (2, .int k), (3, .int t9)]) hx hb dM_happens_125 hl (by decide) rfl (fun ls hl => ?_)
          refine lv_aload_n hx hb dM_happens_127 rfl (lv_at hl 2 rfl) ?_
          refine lv_iload_n hx hb dM_happens_128 rfl (lv_at hl 3 rfl) ?_
          refine lv_iload hx hb dM_happens_129 (lv_at hl 0 rfl) ?_
          refine lv_iload_n hx hb dM_happens_131 rfl (lv_at hl 5 rfl) ?_
          refine x_callv (va_runV (As := [.int d9, .int (ar 7 d9.toNatClampNeg), .int t9]) (rest := []) ⟨hx, hb, hml, hown, hB⟩ (c_M_becomes hR d9 (ar 7 d9.toNatClampNeg) t9 hd) (cwV 3 hB (gV ml_M_120 im_M_becomes sl_M_becomes ini_M kc_M_becomes) rfl rfl rfl (by decide +kernel) ⟨Nat.le_of_ble_eq_true rfl, Nat.le_of_ble_eq_true rfl⟩) (x_preV hP hK hD hR.1 rfl) rfl rfl hl.1 rfl (lv_room (Nat.le_of_ble_eq_true rfl)) dM_happens_132 ⟨Nat.le_of_ble_eq_true rfl, Nat.le_of_ble_eq_true rfl⟩) hD hS hA (fun w H locs hw hP hD hS => ?_)
          have hR := hw
          refine lv_aload_n hx hb dM_happens_135 rfl (lv_at hl 2 rfl) ?_
          refine lv_iload_n hx hb dM_happens_136 rfl (lv_at hl 3 rfl) ?_
          refine lv_iload_n hx hb dM_happens_137 rfl (lv_at hl 5 rfl) ?_
          refine x_callv (va_runV (As := [.int d9, .int t9]) (rest := []) ⟨hx, hb, hml, hown, hB⟩ (c_M_release hR d9 t9 hd) (cwV 2 hB (gV ml_M_124 im_M_release sl_M_release ini_M kc_M_release) rfl rfl rfl (by decide +kernel) ⟨Nat.le_of_ble_eq_true rfl, Nat.le_of_ble_eq_true rfl⟩) (x_preV hP hK hD hR.1 rfl) rfl rfl hl.1 rfl (lv_room (Nat.le_of_ble_eq_true rfl)) dM_happens_138 ⟨Nat.le_of_ble_eq_true rfl, Nat.le_of_ble_eq_true rfl⟩) hD hS hA (fun w H locs hw hP hD hS => ?_)
          have hR := hw
          exact x_vret hx hb hr hlocks (by first | (simpa [mHap, mOr, mThen, c1, c2, c3, c4] using hR) | (have hR9 := hR; simp_all [mHap, mOr, mThen]; done)) hP hK hD hS dM_happens_141
      · refine lv_iconst (v := 4) hx hb dM_happens_39 (by decide) ?_
        refine lv_goto (tgt := 44) hx hb dM_happens_40 (by decide) ?_
        refine lv_ior hx hb dM_happens_44 ?_
        refine m_st 8 (i := d9) (x := (ar 8 d9.toNatClampNeg) ||| 4) hd hx hb hK hP hD hS hR rfl dM_happens_45 (fun w H locs hR hP hD hS => ?_)
        refine lv_aload_n hx hb dM_happens_46 rfl (lv_at hl 1 rfl) ?_
        refine m_arr 8 hx hb hB inBM hown hK hP hR rfl (hB _ fl_M_22) rfl dM_happens_47 ?_
        refine lv_iload_n hx hb dM_happens_50 rfl (lv_at hl 2 rfl) ?_
        refine lv_dup2_11 hx hb dM_happens_51 rfl rfl ?_
        refine m_ld 8 (i := d9) hd hx hb hK hP hR rfl dM_happens_52 ?_
        refine lv_iload_n hx hb dM_happens_53 rfl (lv_at hl 3 rfl) ?_
        refine lv_bipush (v := 9) hx hb dM_happens_54 (by decide) ?_
        refine lv_icmp_ne (tgt := 63) hx hb dM_happens_56 (by decide) (fun _ => ?_) (fun c51 => absurd (c3.symm.trans c51) (by decide))
        refine lv_iconst (v := 0) hx hb dM_happens_63 (by decide) ?_
        refine lv_isub hx hb dM_happens_64 ?_
        refine m_st 8 (i := d9) (x := ((mSt ar 8 d9.toNatClampNeg ((ar 8 d9.toNatClampNeg) ||| 4)) 8 d9.toNatClampNeg) - 0) hd hx hb hK hP hD hS hR rfl dM_happens_65 (fun w H locs hR hP hD hS => ?_)
        refine lv_iload_n hx hb dM_happens_66 rfl (lv_at hl 3 rfl) ?_
        refine lv_if_ne (tgt := 74) hx hb dM_happens_67 (by decide) (fun _ => ?_) (fun c52 => absurd (c3.symm.trans c52) (by decide))
        refine lv_iload_n hx hb dM_happens_74 rfl (lv_at hl 3 rfl) ?_
        refine lv_iconst (v := 2) hx hb dM_happens_75 (by decide) ?_
        refine lv_icmp_eq (tgt := 89) hx hb dM_happens_76 (by decide) (fun c53 => absurd (c3.symm.trans c53) (by decide)) (fun _ => ?_)
        refine lv_iload_n hx hb dM_happens_79 rfl (lv_at hl 3 rfl) ?_
        refine lv_iconst (v := 4) hx hb dM_happens_80 (by decide) ?_
        refine lv_icmp_eq (tgt := 89) hx hb dM_happens_81 (by decide) (fun c54 => absurd (c3.symm.trans c54) (by decide)) (fun _ => ?_)
        refine lv_iload_n hx hb dM_happens_84 rfl (lv_at hl 3 rfl) ?_
        refine lv_iconst (v := 5) hx hb dM_happens_85 (by decide) ?_
        refine lv_icmp_ne (tgt := 93) hx hb dM_happens_86 (by decide) (fun c55 => absurd c3 c55) (fun _ => ?_)
        refine lv_iconst (v := 2) hx hb dM_happens_89 (by decide) ?_
        refine lv_goto (tgt := 125) hx hb dM_happens_90 (by decide) ?_
        refine lv_istore (lv' := [(5, .int 2), (4, .int (ar 7 d9.toNatClampNeg)), (0, .ref aM), (1, .int d9), (2, .int k), (3, .int t9)]) hx hb dM_happens_125 hl (by decide) rfl (fun ls hl => ?_)
        refine lv_aload_n hx hb dM_happens_127 rfl (lv_at hl 2 rfl) ?_
        refine lv_iload_n hx hb dM_happens_128 rfl (lv_at hl 3 rfl) ?_
        refine lv_iload hx hb dM_happens_129 (lv_at hl 0 rfl) ?_
        refine lv_iload_n hx hb dM_happens_131 rfl (lv_at hl 5 rfl) ?_
        refine x_callv (va_runV (As := [.int d9, .int 2, .int t9]) (rest := []) ⟨hx, hb, hml, hown, hB⟩ (c_M_becomes hR d9 2 t9 hd) (cwV 3 hB (gV ml_M_120 im_M_becomes sl_M_becomes ini_M kc_M_becomes) rfl rfl rfl (by decide +kernel) ⟨Nat.le_of_ble_eq_true rfl, Nat.le_of_ble_eq_true rfl⟩) (x_preV hP hK hD hR.1 rfl) rfl rfl hl.1 rfl (lv_room (Nat.le_of_ble_eq_true rfl)) dM_happens_132 ⟨Nat.le_of_ble_eq_true rfl, Nat.le_of_ble_eq_true rfl⟩) hD hS hA (fun w H locs hw hP hD hS => ?_)
        have hR := hw
        refine lv_aload_n hx hb dM_happens_135 rfl (lv_at hl 2 rfl) ?_
        refine lv_iload_n hx hb dM_happens_136 rfl (lv_at hl 3 rfl) ?_
        refine lv_iload_n hx hb dM_happens_137 rfl (lv_at hl 5 rfl) ?_
        refine x_callv (va_runV (As := [.int d9, .int t9]) (rest := []) ⟨hx, hb, hml, hown, hB⟩ (c_M_release hR d9 t9 hd) (cwV 2 hB (gV ml_M_124 im_M_release sl_M_release ini_M kc_M_release) rfl rfl rfl (by decide +kernel) ⟨Nat.le_of_ble_eq_true rfl, Nat.le_of_ble_eq_true rfl⟩) (x_preV hP hK hD hR.1 rfl) rfl rfl hl.1 rfl (lv_room (Nat.le_of_ble_eq_true rfl)) dM_happens_138 ⟨Nat.le_of_ble_eq_true rfl, Nat.le_of_ble_eq_true rfl⟩) hD hS hA (fun w H locs hw hP hD hS => ?_)
        have hR := hw
        exact x_vret hx hb hr hlocks (by first | (simpa [mHap, mOr, mThen, c1, c2, c3] using hR) | (have hR9 := hR; simp_all [mHap, mOr, mThen]; done)) hP hK hD hS dM_happens_141
    · refine lv_iconst (v := 2) hx hb dM_happens_30 (by decide) ?_
      refine lv_goto (tgt := 44) hx hb dM_happens_31 (by decide) ?_
      refine lv_ior hx hb dM_happens_44 ?_
      refine m_st 8 (i := d9) (x := (ar 8 d9.toNatClampNeg) ||| 2) hd hx hb hK hP hD hS hR rfl dM_happens_45 (fun w H locs hR hP hD hS => ?_)
      refine lv_aload_n hx hb dM_happens_46 rfl (lv_at hl 1 rfl) ?_
      refine m_arr 8 hx hb hB inBM hown hK hP hR rfl (hB _ fl_M_22) rfl dM_happens_47 ?_
      refine lv_iload_n hx hb dM_happens_50 rfl (lv_at hl 2 rfl) ?_
      refine lv_dup2_11 hx hb dM_happens_51 rfl rfl ?_
      refine m_ld 8 (i := d9) hd hx hb hK hP hR rfl dM_happens_52 ?_
      refine lv_iload_n hx hb dM_happens_53 rfl (lv_at hl 3 rfl) ?_
      refine lv_bipush (v := 9) hx hb dM_happens_54 (by decide) ?_
      refine lv_icmp_ne (tgt := 63) hx hb dM_happens_56 (by decide) (fun _ => ?_) (fun c60 => absurd (c2.symm.trans c60) (by decide))
      refine lv_iconst (v := 0) hx hb dM_happens_63 (by decide) ?_
      refine lv_isub hx hb dM_happens_64 ?_
      refine m_st 8 (i := d9) (x := ((mSt ar 8 d9.toNatClampNeg ((ar 8 d9.toNatClampNeg) ||| 2)) 8 d9.toNatClampNeg) - 0) hd hx hb hK hP hD hS hR rfl dM_happens_65 (fun w H locs hR hP hD hS => ?_)
      refine lv_iload_n hx hb dM_happens_66 rfl (lv_at hl 3 rfl) ?_
      refine lv_if_ne (tgt := 74) hx hb dM_happens_67 (by decide) (fun _ => ?_) (fun c61 => absurd (c2.symm.trans c61) (by decide))
      refine lv_iload_n hx hb dM_happens_74 rfl (lv_at hl 3 rfl) ?_
      refine lv_iconst (v := 2) hx hb dM_happens_75 (by decide) ?_
      refine lv_icmp_eq (tgt := 89) hx hb dM_happens_76 (by decide) (fun c62 => absurd (c2.symm.trans c62) (by decide)) (fun _ => ?_)
      refine lv_iload_n hx hb dM_happens_79 rfl (lv_at hl 3 rfl) ?_
      refine lv_iconst (v := 4) hx hb dM_happens_80 (by decide) ?_
      refine lv_icmp_eq (tgt := 89) hx hb dM_happens_81 (by decide) (fun c63 => absurd (c2.symm.trans c63) (by decide)) (fun _ => ?_)
      refine lv_iload_n hx hb dM_happens_84 rfl (lv_at hl 3 rfl) ?_
      refine lv_iconst (v := 5) hx hb dM_happens_85 (by decide) ?_
      refine lv_icmp_ne (tgt := 93) hx hb dM_happens_86 (by decide) (fun _ => ?_) (fun c64 => absurd (c2.symm.trans c64) (by decide))
      refine lv_iload_n hx hb dM_happens_93 rfl (lv_at hl 3 rfl) ?_
      refine lv_iconst (v := 3) hx hb dM_happens_94 (by decide) ?_
      refine lv_icmp_ne (tgt := 102) hx hb dM_happens_95 (by decide) (fun _ => ?_) (fun c65 => absurd (c2.symm.trans c65) (by decide))
      refine lv_iload_n hx hb dM_happens_102 rfl (lv_at hl 3 rfl) ?_
      refine lv_bipush (v := 7) hx hb dM_happens_103 (by decide) ?_
      refine lv_icmp_ne (tgt := 112) hx hb dM_happens_105 (by decide) (fun _ => ?_) (fun c66 => absurd (c2.symm.trans c66) (by decide))
      refine lv_iload_n hx hb dM_happens_112 rfl (lv_at hl 3 rfl) ?_
      refine lv_bipush (v := 8) hx hb dM_happens_113 (by decide) ?_
      refine lv_icmp_ne (tgt := 123) hx hb dM_happens_115 (by decide) (fun _ => ?_) (fun c67 => absurd (c2.symm.trans c67) (by decide))
      refine lv_iload hx hb dM_happens_123 (lv_at hl 0 rfl) ?_
      refine lv_istore (lv' := [(5, .int (ar 7 d9.toNatClampNeg)), (4, .int (ar 7 d9.toNatClampNeg)), (0, .ref aM), (1, .int d9), (2, .int k), (3, .int t9)]) hx hb dM_happens_125 hl (by decide) rfl (fun ls hl => ?_)
      refine lv_aload_n hx hb dM_happens_127 rfl (lv_at hl 2 rfl) ?_
      refine lv_iload_n hx hb dM_happens_128 rfl (lv_at hl 3 rfl) ?_
      refine lv_iload hx hb dM_happens_129 (lv_at hl 0 rfl) ?_
      refine lv_iload_n hx hb dM_happens_131 rfl (lv_at hl 5 rfl) ?_
      refine x_callv (va_runV (As := [.int d9, .int (ar 7 d9.toNatClampNeg), .int t9]) (rest := []) ⟨hx, hb, hml, hown, hB⟩ (c_M_becomes hR d9 (ar 7 d9.toNatClampNeg) t9 hd) (cwV 3 hB (gV ml_M_120 im_M_becomes sl_M_becomes ini_M kc_M_becomes) rfl rfl rfl (by decide +kernel) ⟨Nat.le_of_ble_eq_true rfl, Nat.le_of_ble_eq_true rfl⟩) (x_preV hP hK hD hR.1 rfl) rfl rfl hl.1 rfl (lv_room (Nat.le_of_ble_eq_true rfl)) dM_happens_132 ⟨Nat.le_of_ble_eq_true rfl, Nat.le_of_ble_eq_true rfl⟩) hD hS hA (fun w H locs hw hP hD hS => ?_)
      have hR := hw
      refine lv_aload_n hx hb dM_happens_135 rfl (lv_at hl 2 rfl) ?_
      refine lv_iload_n hx hb dM_happens_136 rfl (lv_at hl 3 rfl) ?_
      refine lv_iload_n hx hb dM_happens_137 rfl (lv_at hl 5 rfl) ?_
      refine x_callv (va_runV (As := [.int d9, .int t9]) (rest := []) ⟨hx, hb, hml, hown, hB⟩ (c_M_release hR d9 t9 hd) (cwV 2 hB (gV ml_M_124 im_M_release sl_M_release ini_M kc_M_release) rfl rfl rfl (by decide +kernel) ⟨Nat.le_of_ble_eq_true rfl, Nat.le_of_ble_eq_true rfl⟩) (x_preV hP hK hD hR.1 rfl) rfl rfl hl.1 rfl (lv_room (Nat.le_of_ble_eq_true rfl)) dM_happens_138 ⟨Nat.le_of_ble_eq_true rfl, Nat.le_of_ble_eq_true rfl⟩) hD hS hA (fun w H locs hw hP hD hS => ?_)
      have hR := hw
      exact x_vret hx hb hr hlocks (by first | (simpa [mHap, mOr, mThen, c1, c2] using hR) | (have hR9 := hR; simp_all [mHap, mOr, mThen]; done)) hP hK hD hS dM_happens_141
  · refine lv_iconst (v := 1) hx hb dM_happens_20 (by decide) ?_
    refine lv_goto (tgt := 44) hx hb dM_happens_21 (by decide) ?_
    refine lv_ior hx hb dM_happens_44 ?_
    refine m_st 8 (i := d9) (x := (ar 8 d9.toNatClampNeg) ||| 1) hd hx hb hK hP hD hS hR rfl dM_happens_45 (fun w H locs hR hP hD hS => ?_)
    refine lv_aload_n hx hb dM_happens_46 rfl (lv_at hl 1 rfl) ?_
    refine m_arr 8 hx hb hB inBM hown hK hP hR rfl (hB _ fl_M_22) rfl dM_happens_47 ?_
    refine lv_iload_n hx hb dM_happens_50 rfl (lv_at hl 2 rfl) ?_
    refine lv_dup2_11 hx hb dM_happens_51 rfl rfl ?_
    refine m_ld 8 (i := d9) hd hx hb hK hP hR rfl dM_happens_52 ?_
    refine lv_iload_n hx hb dM_happens_53 rfl (lv_at hl 3 rfl) ?_
    refine lv_bipush (v := 9) hx hb dM_happens_54 (by decide) ?_
    refine lv_icmp_ne (tgt := 63) hx hb dM_happens_56 (by decide) (fun _ => ?_) (fun c72 => absurd (c1.symm.trans c72) (by decide))
    refine lv_iconst (v := 0) hx hb dM_happens_63 (by decide) ?_
    refine lv_isub hx hb dM_happens_64 ?_
    refine m_st 8 (i := d9) (x := ((mSt ar 8 d9.toNatClampNeg ((ar 8 d9.toNatClampNeg) ||| 1)) 8 d9.toNatClampNeg) - 0) hd hx hb hK hP hD hS hR rfl dM_happens_65 (fun w H locs hR hP hD hS => ?_)
    refine lv_iload_n hx hb dM_happens_66 rfl (lv_at hl 3 rfl) ?_
    refine lv_if_ne (tgt := 74) hx hb dM_happens_67 (by decide) (fun _ => ?_) (fun c73 => absurd (c1.symm.trans c73) (by decide))
    refine lv_iload_n hx hb dM_happens_74 rfl (lv_at hl 3 rfl) ?_
    refine lv_iconst (v := 2) hx hb dM_happens_75 (by decide) ?_
    refine lv_icmp_eq (tgt := 89) hx hb dM_happens_76 (by decide) (fun c74 => absurd (c1.symm.trans c74) (by decide)) (fun _ => ?_)
    refine lv_iload_n hx hb dM_happens_79 rfl (lv_at hl 3 rfl) ?_
    refine lv_iconst (v := 4) hx hb dM_happens_80 (by decide) ?_
    refine lv_icmp_eq (tgt := 89) hx hb dM_happens_81 (by decide) (fun c75 => absurd (c1.symm.trans c75) (by decide)) (fun _ => ?_)
    refine lv_iload_n hx hb dM_happens_84 rfl (lv_at hl 3 rfl) ?_
    refine lv_iconst (v := 5) hx hb dM_happens_85 (by decide) ?_
    refine lv_icmp_ne (tgt := 93) hx hb dM_happens_86 (by decide) (fun _ => ?_) (fun c76 => absurd (c1.symm.trans c76) (by decide))
    refine lv_iload_n hx hb dM_happens_93 rfl (lv_at hl 3 rfl) ?_
    refine lv_iconst (v := 3) hx hb dM_happens_94 (by decide) ?_
    refine lv_icmp_ne (tgt := 102) hx hb dM_happens_95 (by decide) (fun _ => ?_) (fun c77 => absurd (c1.symm.trans c77) (by decide))
    refine lv_iload_n hx hb dM_happens_102 rfl (lv_at hl 3 rfl) ?_
    refine lv_bipush (v := 7) hx hb dM_happens_103 (by decide) ?_
    refine lv_icmp_ne (tgt := 112) hx hb dM_happens_105 (by decide) (fun _ => ?_) (fun c78 => absurd (c1.symm.trans c78) (by decide))
    refine lv_iload_n hx hb dM_happens_112 rfl (lv_at hl 3 rfl) ?_
    refine lv_bipush (v := 8) hx hb dM_happens_113 (by decide) ?_
    refine lv_icmp_ne (tgt := 123) hx hb dM_happens_115 (by decide) (fun _ => ?_) (fun c79 => absurd (c1.symm.trans c79) (by decide))
    refine lv_iload hx hb dM_happens_123 (lv_at hl 0 rfl) ?_
    refine lv_istore (lv' := [(5, .int (ar 7 d9.toNatClampNeg)), (4, .int (ar 7 d9.toNatClampNeg)), (0, .ref aM), (1, .int d9), (2, .int k), (3, .int t9)]) hx hb dM_happens_125 hl (by decide) rfl (fun ls hl => ?_)
    refine lv_aload_n hx hb dM_happens_127 rfl (lv_at hl 2 rfl) ?_
    refine lv_iload_n hx hb dM_happens_128 rfl (lv_at hl 3 rfl) ?_
    refine lv_iload hx hb dM_happens_129 (lv_at hl 0 rfl) ?_
    refine lv_iload_n hx hb dM_happens_131 rfl (lv_at hl 5 rfl) ?_
    refine x_callv (va_runV (As := [.int d9, .int (ar 7 d9.toNatClampNeg), .int t9]) (rest := []) ⟨hx, hb, hml, hown, hB⟩ (c_M_becomes hR d9 (ar 7 d9.toNatClampNeg) t9 hd) (cwV 3 hB (gV ml_M_120 im_M_becomes sl_M_becomes ini_M kc_M_becomes) rfl rfl rfl (by decide +kernel) ⟨Nat.le_of_ble_eq_true rfl, Nat.le_of_ble_eq_true rfl⟩) (x_preV hP hK hD hR.1 rfl) rfl rfl hl.1 rfl (lv_room (Nat.le_of_ble_eq_true rfl)) dM_happens_132 ⟨Nat.le_of_ble_eq_true rfl, Nat.le_of_ble_eq_true rfl⟩) hD hS hA (fun w H locs hw hP hD hS => ?_)
    have hR := hw
    refine lv_aload_n hx hb dM_happens_135 rfl (lv_at hl 2 rfl) ?_
    refine lv_iload_n hx hb dM_happens_136 rfl (lv_at hl 3 rfl) ?_
    refine lv_iload_n hx hb dM_happens_137 rfl (lv_at hl 5 rfl) ?_
    refine x_callv (va_runV (As := [.int d9, .int t9]) (rest := []) ⟨hx, hb, hml, hown, hB⟩ (c_M_release hR d9 t9 hd) (cwV 2 hB (gV ml_M_124 im_M_release sl_M_release ini_M kc_M_release) rfl rfl rfl (by decide +kernel) ⟨Nat.le_of_ble_eq_true rfl, Nat.le_of_ble_eq_true rfl⟩) (x_preV hP hK hD hR.1 rfl) rfl rfl hl.1 rfl (lv_room (Nat.le_of_ble_eq_true rfl)) dM_happens_138 ⟨Nat.le_of_ble_eq_true rfl, Nat.le_of_ble_eq_true rfl⟩) hD hS hA (fun w H locs hw hP hD hS => ?_)
    have hR := hw
    exact x_vret hx hb hr hlocks (by first | (simpa [mHap, mOr, mThen, c1] using hR) | (have hR9 := hR; simp_all [mHap, mOr, mThen]; done)) hP hK hD hS dM_happens_141
