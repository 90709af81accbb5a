set_option maxHeartbeats 4000000 in
set_option maxRecDepth 100000 in
theorem c_X_mayTell {l : Launch} {G : va_G} {cI cD cE : ClassId} {aX aR aD aE : Nat} {dA eA : Nat → Nat} {g ro : Nat → Int32} {fst : Option Nat} {nD nE : Nat} {d : Nat → Nat → Int32} {fw lw : Nat → Option Nat} {ed : Nat → Nat} {ev : Nat → Nat → Int32} {nx : Nat → Option Nat} {w : va_W} {sz : Nat} (hR : RX cI cD cE aX aR aD aE dA eA g ro fst nD nE d fw lw ed ev nx w) {k : Nat} (hk : k < nE) : xMi l yX_mayTell wsX_mayTell ({ frames := 2, cells := 0, slots := 0, locals := 42 }) [.ref aX, .ref (eA k)] G (xTys cI cD cE) w sz (fun r w' => r = fMayTell g ro (d (ed k)) (ev k) ∧ w = w') 0 0 := by
  refine x_ofW (fun A => va_Qi (fun r w' => r = fMayTell g ro (d (ed k)) (ev k) ∧ w = w') (xEnd G (xTys cI cD cE) A) A) cX_mayTell 3 (some .boolean) (by decide) rfl (Nat.le_of_ble_eq_true rfl) ?_
  intro p e s m below meth c A ls hx hb hr hlocks hml hnm hown hB hA hP hK hD hS hl
  have hl : lv_has ls 3 [(0, .ref aX), (1, .ref (eA k))] := hl
  have hown : s.vm.findClass NmX = some m.cls := hown
  refine lv_aload_n hx hb dX_mayTell_0 rfl (lv_at hl 0 rfl) ?_
  refine lv_aload_n hx hb dX_mayTell_1 rfl (lv_at hl 1 rfl) ?_
  refine x_getE 2 hk hx hb hB inBE hown hK hP hR (by decide) (by decide) (hB _ fl_X_197) rfl dX_mayTell_2 ?_
  refine x_calli (va_runV (As := [.int (ev k 2)]) (rest := []) ⟨hx, hb, hml, hown, hB⟩ (c_X_roleOf hR (ev k 2)) (cwV 1 hB (gV ml_X_53 im_X_roleOf sl_X_roleOf ini_X kc_X_roleOf) rfl rfl rfl (by decide +kernel) ⟨Nat.le_of_ble_eq_true rfl, Nat.le_of_ble_eq_true rfl⟩) (x_preV hP hK hD hR.x rfl) rfl rfl hl.1 rfl (lv_room (Nat.le_of_ble_eq_true rfl)) dX_mayTell_5 ⟨Nat.le_of_ble_eq_true rfl, Nat.le_of_ble_eq_true rfl⟩) hD hS hA (fun r1 w H locs hw hP hD hS => ?_)
  obtain ⟨e2, rfl⟩ := hw
  refine lv_istore_n (lv' := [(2, .int r1), (0, .ref aX), (1, .ref (eA k))]) hx hb dX_mayTell_8 rfl hl (by decide) rfl (fun ls hl => ?_)
  refine lv_aload_n hx hb dX_mayTell_9 rfl (lv_at hl 2 rfl) ?_
  refine x_getE 1 hk hx hb hB inBE hown hK hP hR (by decide) (by decide) (hB _ fl_X_184) rfl dX_mayTell_10 ?_
  rcases x_sw0_9 (ev k 1) with h3 | h4 | h5 | h6 | h7 | h8 | h9 | h10 | h11 | h12 | h13
  · refine lv_tableIn (tgt := 68) hx hb dX_mayTell_13 (by rw [h3]; decide) (by rw [h3]; decide) (by rw [h3]; rfl) (by decide) ?_
    refine lv_aload_n hx hb dX_mayTell_68 rfl (lv_at hl 2 rfl) ?_
    refine x_getE 2 hk hx hb hB inBE hown hK hP hR (by decide) (by decide) (hB _ fl_X_197) rfl dX_mayTell_69 ?_
    refine lv_aload_n hx hb dX_mayTell_72 rfl (lv_at hl 2 rfl) ?_
    refine x_getE0 hk hx hb hB inBE hown hK hP hR (hB _ fl_X_190) dX_mayTell_73 ?_
    refine x_getD 2 (hR.ok.2.2 _ hk).1 hx hb hB inBD hown hK hP hR (by decide) (hB _ fl_X_157) rfl dX_mayTell_76 ?_
    refine lv_icmp_ne (tgt := 86) hx hb dX_mayTell_79 (by decide) (fun c14 => ?_) (fun c14 => ?_)
    · refine lv_iconst (v := 0) hx hb dX_mayTell_86 (by decide) ?_
      exact x_zret (v := 0) hx hb hr hlocks rfl ⟨(by subst e2; first | (simp [fMayTell, h3, c14]; done) | (simp_all [fMayTell]; done)), rfl⟩ hP hK hD hS dX_mayTell_87
    · refine lv_iconst (v := 1) hx hb dX_mayTell_82 (by decide) ?_
      refine lv_goto (tgt := 87) hx hb dX_mayTell_83 (by decide) ?_
      exact x_zret (v := 1) hx hb hr hlocks rfl ⟨(by subst e2; first | (simp [fMayTell, h3, c14]; done) | (simp_all [fMayTell]; done)), rfl⟩ hP hK hD hS dX_mayTell_87
  · refine lv_tableIn (tgt := 88) hx hb dX_mayTell_13 (by rw [h4]; decide) (by rw [h4]; decide) (by rw [h4]; rfl) (by decide) ?_
    refine lv_iload_n hx hb dX_mayTell_88 rfl (lv_at hl 0 rfl) ?_
    refine lv_if_eq (tgt := 97) hx hb dX_mayTell_89 (by decide) (fun c15 => ?_) (fun c15 => ?_)
    · refine lv_iconst (v := 1) hx hb dX_mayTell_97 (by decide) ?_
      refine lv_goto (tgt := 102) hx hb dX_mayTell_98 (by decide) ?_
      exact x_zret (v := 1) hx hb hr hlocks rfl ⟨(by subst e2; first | (simp [fMayTell, h4, c15]; done) | (simp_all [fMayTell]; done)), rfl⟩ hP hK hD hS dX_mayTell_102
    · refine lv_iload_n hx hb dX_mayTell_92 rfl (lv_at hl 0 rfl) ?_
      refine lv_iconst (v := 2) hx hb dX_mayTell_93 (by decide) ?_
      refine lv_icmp_ne (tgt := 101) hx hb dX_mayTell_94 (by decide) (fun c16 => ?_) (fun c16 => ?_)
      · refine lv_iconst (v := 0) hx hb dX_mayTell_101 (by decide) ?_
        exact x_zret (v := 0) hx hb hr hlocks rfl ⟨(by subst e2; first | (simp [fMayTell, h4, c15, c16]; done) | (simp_all [fMayTell]; done)), rfl⟩ hP hK hD hS dX_mayTell_102
      · refine lv_iconst (v := 1) hx hb dX_mayTell_97 (by decide) ?_
        refine lv_goto (tgt := 102) hx hb dX_mayTell_98 (by decide) ?_
        exact x_zret (v := 1) hx hb hr hlocks rfl ⟨(by subst e2; first | (simp [fMayTell, h4, c15, c16]; done) | (simp_all [fMayTell]; done)), rfl⟩ hP hK hD hS dX_mayTell_102
  · refine lv_tableIn (tgt := 114) hx hb dX_mayTell_13 (by rw [h5]; decide) (by rw [h5]; decide) (by rw [h5]; rfl) (by decide) ?_
    refine lv_iload_n hx hb dX_mayTell_114 rfl (lv_at hl 0 rfl) ?_
    refine lv_iconst (v := 1) hx hb dX_mayTell_115 (by decide) ?_
    refine lv_icmp_ne (tgt := 123) hx hb dX_mayTell_116 (by decide) (fun c17 => ?_) (fun c17 => ?_)
    · refine lv_iconst (v := 0) hx hb dX_mayTell_123 (by decide) ?_
      exact x_zret (v := 0) hx hb hr hlocks rfl ⟨(by subst e2; first | (simp [fMayTell, h5, c17]; done) | (simp_all [fMayTell]; done)), rfl⟩ hP hK hD hS dX_mayTell_124
    · refine lv_iconst (v := 1) hx hb dX_mayTell_119 (by decide) ?_
      refine lv_goto (tgt := 124) hx hb dX_mayTell_120 (by decide) ?_
      exact x_zret (v := 1) hx hb hr hlocks rfl ⟨(by subst e2; first | (simp [fMayTell, h5, c17]; done) | (simp_all [fMayTell]; done)), rfl⟩ hP hK hD hS dX_mayTell_124
  · refine lv_tableIn (tgt := 114) hx hb dX_mayTell_13 (by rw [h6]; decide) (by rw [h6]; decide) (by rw [h6]; rfl) (by decide) ?_
    refine lv_iload_n hx hb dX_mayTell_114 rfl (lv_at hl 0 rfl) ?_
    refine lv_iconst (v := 1) hx hb dX_mayTell_115 (by decide) ?_
    refine lv_icmp_ne (tgt := 123) hx hb dX_mayTell_116 (by decide) (fun c18 => ?_) (fun c18 => ?_)
    · refine lv_iconst (v := 0) hx hb dX_mayTell_123 (by decide) ?_
      exact x_zret (v := 0) hx hb hr hlocks rfl ⟨(by subst e2; first | (simp [fMayTell, h6, c18]; done) | (simp_all [fMayTell]; done)), rfl⟩ hP hK hD hS dX_mayTell_124
    · refine lv_iconst (v := 1) hx hb dX_mayTell_119 (by decide) ?_
      refine lv_goto (tgt := 124) hx hb dX_mayTell_120 (by decide) ?_
      exact x_zret (v := 1) hx hb hr hlocks rfl ⟨(by subst e2; first | (simp [fMayTell, h6, c18]; done) | (simp_all [fMayTell]; done)), rfl⟩ hP hK hD hS dX_mayTell_124
  · refine lv_tableIn (tgt := 114) hx hb dX_mayTell_13 (by rw [h7]; decide) (by rw [h7]; decide) (by rw [h7]; rfl) (by decide) ?_
    refine lv_iload_n hx hb dX_mayTell_114 rfl (lv_at hl 0 rfl) ?_
    refine lv_iconst (v := 1) hx hb dX_mayTell_115 (by decide) ?_
    refine lv_icmp_ne (tgt := 123) hx hb dX_mayTell_116 (by decide) (fun c19 => ?_) (fun c19 => ?_)
    · refine lv_iconst (v := 0) hx hb dX_mayTell_123 (by decide) ?_
      exact x_zret (v := 0) hx hb hr hlocks rfl ⟨(by subst e2; first | (simp [fMayTell, h7, c19]; done) | (simp_all [fMayTell]; done)), rfl⟩ hP hK hD hS dX_mayTell_124
    · refine lv_iconst (v := 1) hx hb dX_mayTell_119 (by decide) ?_
      refine lv_goto (tgt := 124) hx hb dX_mayTell_120 (by decide) ?_
      exact x_zret (v := 1) hx hb hr hlocks rfl ⟨(by subst e2; first | (simp [fMayTell, h7, c19]; done) | (simp_all [fMayTell]; done)), rfl⟩ hP hK hD hS dX_mayTell_124
  · refine lv_tableIn (tgt := 114) hx hb dX_mayTell_13 (by rw [h8]; decide) (by rw [h8]; decide) (by rw [h8]; rfl) (by decide) ?_
    refine lv_iload_n hx hb dX_mayTell_114 rfl (lv_at hl 0 rfl) ?_
    refine lv_iconst (v := 1) hx hb dX_mayTell_115 (by decide) ?_
    refine lv_icmp_ne (tgt := 123) hx hb dX_mayTell_116 (by decide) (fun c20 => ?_) (fun c20 => ?_)
    · refine lv_iconst (v := 0) hx hb dX_mayTell_123 (by decide) ?_
      exact x_zret (v := 0) hx hb hr hlocks rfl ⟨(by subst e2; first | (simp [fMayTell, h8, c20]; done) | (simp_all [fMayTell]; done)), rfl⟩ hP hK hD hS dX_mayTell_124
    · refine lv_iconst (v := 1) hx hb dX_mayTell_119 (by decide) ?_
      refine lv_goto (tgt := 124) hx hb dX_mayTell_120 (by decide) ?_
      exact x_zret (v := 1) hx hb hr hlocks rfl ⟨(by subst e2; first | (simp [fMayTell, h8, c20]; done) | (simp_all [fMayTell]; done)), rfl⟩ hP hK hD hS dX_mayTell_124
  · refine lv_tableIn (tgt := 68) hx hb dX_mayTell_13 (by rw [h9]; decide) (by rw [h9]; decide) (by rw [h9]; rfl) (by decide) ?_
    refine lv_aload_n hx hb dX_mayTell_68 rfl (lv_at hl 2 rfl) ?_
    refine x_getE 2 hk hx hb hB inBE hown hK hP hR (by decide) (by decide) (hB _ fl_X_197) rfl dX_mayTell_69 ?_
    refine lv_aload_n hx hb dX_mayTell_72 rfl (lv_at hl 2 rfl) ?_
    refine x_getE0 hk hx hb hB inBE hown hK hP hR (hB _ fl_X_190) dX_mayTell_73 ?_
    refine x_getD 2 (hR.ok.2.2 _ hk).1 hx hb hB inBD hown hK hP hR (by decide) (hB _ fl_X_157) rfl dX_mayTell_76 ?_
    refine lv_icmp_ne (tgt := 86) hx hb dX_mayTell_79 (by decide) (fun c21 => ?_) (fun c21 => ?_)
    · refine lv_iconst (v := 0) hx hb dX_mayTell_86 (by decide) ?_
      exact x_zret (v := 0) hx hb hr hlocks rfl ⟨(by subst e2; first | (simp [fMayTell, h9, c21]; done) | (simp_all [fMayTell]; done)), rfl⟩ hP hK hD hS dX_mayTell_87
    · refine lv_iconst (v := 1) hx hb dX_mayTell_82 (by decide) ?_
      refine lv_goto (tgt := 87) hx hb dX_mayTell_83 (by decide) ?_
      exact x_zret (v := 1) hx hb hr hlocks rfl ⟨(by subst e2; first | (simp [fMayTell, h9, c21]; done) | (simp_all [fMayTell]; done)), rfl⟩ hP hK hD hS dX_mayTell_87
  · refine lv_tableIn (tgt := 103) hx hb dX_mayTell_13 (by rw [h10]; decide) (by rw [h10]; decide) (by rw [h10]; rfl) (by decide) ?_
    refine lv_iload_n hx hb dX_mayTell_103 rfl (lv_at hl 0 rfl) ?_
    refine lv_iconst (v := 2) hx hb dX_mayTell_104 (by decide) ?_
    refine lv_icmp_ne (tgt := 112) hx hb dX_mayTell_105 (by decide) (fun c22 => ?_) (fun c22 => ?_)
    · refine lv_iconst (v := 0) hx hb dX_mayTell_112 (by decide) ?_
      exact x_zret (v := 0) hx hb hr hlocks rfl ⟨(by subst e2; first | (simp [fMayTell, h10, c22]; done) | (simp_all [fMayTell]; done)), rfl⟩ hP hK hD hS dX_mayTell_113
    · refine lv_iconst (v := 1) hx hb dX_mayTell_108 (by decide) ?_
      refine lv_goto (tgt := 113) hx hb dX_mayTell_109 (by decide) ?_
      exact x_zret (v := 1) hx hb hr hlocks rfl ⟨(by subst e2; first | (simp [fMayTell, h10, c22]; done) | (simp_all [fMayTell]; done)), rfl⟩ hP hK hD hS dX_mayTell_113
  · refine lv_tableIn (tgt := 114) hx hb dX_mayTell_13 (by rw [h11]; decide) (by rw [h11]; decide) (by rw [h11]; rfl) (by decide) ?_
    refine lv_iload_n hx hb dX_mayTell_114 rfl (lv_at hl 0 rfl) ?_
    refine lv_iconst (v := 1) hx hb dX_mayTell_115 (by decide) ?_
    refine lv_icmp_ne (tgt := 123) hx hb dX_mayTell_116 (by decide) (fun c23 => ?_) (fun c23 => ?_)
    · refine lv_iconst (v := 0) hx hb dX_mayTell_123 (by decide) ?_
      exact x_zret (v := 0) hx hb hr hlocks rfl ⟨(by subst e2; first | (simp [fMayTell, h11, c23]; done) | (simp_all [fMayTell]; done)), rfl⟩ hP hK hD hS dX_mayTell_124
    · refine lv_iconst (v := 1) hx hb dX_mayTell_119 (by decide) ?_
      refine lv_goto (tgt := 124) hx hb dX_mayTell_120 (by decide) ?_
      exact x_zret (v := 1) hx hb hr hlocks rfl ⟨(by subst e2; first | (simp [fMayTell, h11, c23]; done) | (simp_all [fMayTell]; done)), rfl⟩ hP hK hD hS dX_mayTell_124
  · refine lv_tableIn (tgt := 68) hx hb dX_mayTell_13 (by rw [h12]; decide) (by rw [h12]; decide) (by rw [h12]; rfl) (by decide) ?_
    refine lv_aload_n hx hb dX_mayTell_68 rfl (lv_at hl 2 rfl) ?_
    refine x_getE 2 hk hx hb hB inBE hown hK hP hR (by decide) (by decide) (hB _ fl_X_197) rfl dX_mayTell_69 ?_
    refine lv_aload_n hx hb dX_mayTell_72 rfl (lv_at hl 2 rfl) ?_
    refine x_getE0 hk hx hb hB inBE hown hK hP hR (hB _ fl_X_190) dX_mayTell_73 ?_
    refine x_getD 2 (hR.ok.2.2 _ hk).1 hx hb hB inBD hown hK hP hR (by decide) (hB _ fl_X_157) rfl dX_mayTell_76 ?_
    refine lv_icmp_ne (tgt := 86) hx hb dX_mayTell_79 (by decide) (fun c24 => ?_) (fun c24 => ?_)
    · refine lv_iconst (v := 0) hx hb dX_mayTell_86 (by decide) ?_
      exact x_zret (v := 0) hx hb hr hlocks rfl ⟨(by subst e2; first | (simp [fMayTell, h12, c24]; done) | (simp_all [fMayTell]; done)), rfl⟩ hP hK hD hS dX_mayTell_87
    · refine lv_iconst (v := 1) hx hb dX_mayTell_82 (by decide) ?_
      refine lv_goto (tgt := 87) hx hb dX_mayTell_83 (by decide) ?_
      exact x_zret (v := 1) hx hb hr hlocks rfl ⟨(by subst e2; first | (simp [fMayTell, h12, c24]; done) | (simp_all [fMayTell]; done)), rfl⟩ hP hK hD hS dX_mayTell_87
  · refine lv_tableOut (tgt := 114) hx hb dX_mayTell_13 h13.1 (by decide) ?_
    refine lv_iload_n hx hb dX_mayTell_114 rfl (lv_at hl 0 rfl) ?_
    refine lv_iconst (v := 1) hx hb dX_mayTell_115 (by decide) ?_
    refine lv_icmp_ne (tgt := 123) hx hb dX_mayTell_116 (by decide) (fun c25 => ?_) (fun c25 => ?_)
    · refine lv_iconst (v := 0) hx hb dX_mayTell_123 (by decide) ?_
      exact x_zret (v := 0) hx hb hr hlocks rfl ⟨(by subst e2; first | (simp [fMayTell, h13.2, c25]; done) | (simp_all [fMayTell]; done)), rfl⟩ hP hK hD hS dX_mayTell_124
    · refine lv_iconst (v := 1) hx hb dX_mayTell_119 (by decide) ?_
      refine lv_goto (tgt := 124) hx hb dX_mayTell_120 (by decide) ?_
      exact x_zret (v := 1) hx hb hr hlocks rfl ⟨(by subst e2; first | (simp [fMayTell, h13.2, c25]; done) | (simp_all [fMayTell]; done)), rfl⟩ hP hK hD hS dX_mayTell_124
set_option maxHeartbeats 4000000 in
set_option maxRecDepth 100000 in
theorem c_X_refusalOf {l : Launch} {G : va_G} {cI cD cE : ClassId} {aX aR aD aE : Nat} {dA eA : Nat → Nat} {g ro : Nat → Int32} {fst : Option Nat} {nD nE : Nat} {d : Nat → Nat → Int32} {fw lw : Nat → Option Nat} {ed : Nat → Nat} {ev : Nat → Nat → Int32} {nx : Nat → Option Nat} {w : va_W} {sz : Nat} (hR : RX cI cD cE aX aR aD aE dA eA g ro fst nD nE d fw lw ed ev nx w) {k : Nat} (hk : k < nE) : xMi l yX_refusalOf wsX_refusalOf ({ frames := 3, cells := 0, slots := 0, locals := 64 }) [.ref aX, .ref (eA k)] G (xTys cI cD cE) w sz (fun r w' => r = fRefusal g ro (d (ed k)) (ev k) ∧ w = w') 0 0 := by
  refine x_ofW (fun A => va_Qi (fun r w' => r = fRefusal g ro (d (ed k)) (ev k) ∧ w = w') (xEnd G (xTys cI cD cE) A) A) cX_refusalOf 2 (some .int) (by decide) rfl (Nat.le_of_ble_eq_true rfl) ?_
  intro p e s m below meth c A ls hx hb hr hlocks hml hnm hown hB hA hP hK hD hS hl
  have hl : lv_has ls 2 [(0, .ref aX), (1, .ref (eA k))] := hl
  have hown : s.vm.findClass NmX = some m.cls := hown
  refine lv_aload_n hx hb dX_refusalOf_0 rfl (lv_at hl 0 rfl) ?_
  refine lv_aload_n hx hb dX_refusalOf_1 rfl (lv_at hl 1 rfl) ?_
  refine x_getE 1 hk hx hb hB inBE hown hK hP hR (by decide) (by decide) (hB _ fl_X_184) rfl dX_refusalOf_2 ?_
  refine x_calli (va_runV (As := [.int (ev k 1)]) (rest := []) ⟨hx, hb, hml, hown, hB⟩ (c_X_isFailing hR (ev k 1)) (cwV 1 hB (gV ml_X_113 im_X_isFailing sl_X_isFailing ini_X kc_X_isFailing) rfl rfl rfl (by decide +kernel) ⟨Nat.le_of_ble_eq_true rfl, Nat.le_of_ble_eq_true rfl⟩) (x_preV hP hK hD hR.x rfl) rfl rfl hl.1 rfl (lv_room (Nat.le_of_ble_eq_true rfl)) dX_refusalOf_5 ⟨Nat.le_of_ble_eq_true rfl, Nat.le_of_ble_eq_true rfl⟩) hD hS hA (fun r1 w H locs hw hP hD hS => ?_)
  obtain ⟨e2, rfl⟩ := hw
  refine lv_if_eq (tgt := 13) hx hb dX_refusalOf_8 (by decide) (fun c3 => ?_) (fun c3 => ?_)
  · refine lv_aload_n hx hb dX_refusalOf_13 rfl (lv_at hl 0 rfl) ?_
    refine lv_aload_n hx hb dX_refusalOf_14 rfl (lv_at hl 1 rfl) ?_
    refine x_calli (va_runV (As := [.ref (eA k)]) (rest := []) ⟨hx, hb, hml, hown, hB⟩ (c_X_mayTell hR hk) (cwV 1 hB (gV ml_X_221 im_X_mayTell sl_X_mayTell ini_X kc_X_mayTell) rfl rfl rfl (by decide +kernel) ⟨Nat.le_of_ble_eq_true rfl, Nat.le_of_ble_eq_true rfl⟩) (x_preV hP hK hD hR.x rfl) rfl rfl hl.1 rfl (lv_room (Nat.le_of_ble_eq_true rfl)) dX_refusalOf_15 ⟨Nat.le_of_ble_eq_true rfl, Nat.le_of_ble_eq_true rfl⟩) hD hS hA (fun r4 w H locs hw hP hD hS => ?_)
    obtain ⟨e5, rfl⟩ := hw
    refine lv_if_ne (tgt := 23) hx hb dX_refusalOf_18 (by decide) (fun c6 => ?_) (fun c6 => ?_)
    · refine lv_aload_n hx hb dX_refusalOf_23 rfl (lv_at hl 1 rfl) ?_
      refine x_getE 1 hk hx hb hB inBE hown hK hP hR (by decide) (by decide) (hB _ fl_X_184) rfl dX_refusalOf_24 ?_
      refine x_calli (va_runS (As := [.int (ev k 1)]) (rest := []) ⟨hx, hb, hml, hown, hB⟩ (c_X_isOfficersAct hR (ev k 1)) (va_cwS 1 hB (gS ml_X_224 sm_X_isOfficersAct ini_X kc_X_isOfficersAct) rfl rfl rfl (by decide +kernel) ⟨Nat.le_of_ble_eq_true rfl, Nat.le_of_ble_eq_true rfl⟩) (x_preS hP hK hD) rfl rfl hl.1 rfl (lv_room (Nat.le_of_ble_eq_true rfl)) dX_refusalOf_27 ⟨Nat.le_of_ble_eq_true rfl, Nat.le_of_ble_eq_true rfl⟩) hD hS hA (fun r7 w H locs hw hP hD hS => ?_)
      obtain ⟨e8, rfl⟩ := hw
      refine lv_if_eq (tgt := 46) hx hb dX_refusalOf_30 (by decide) (fun c9 => ?_) (fun c9 => ?_)
      · refine lv_aload_n hx hb dX_refusalOf_46 rfl (lv_at hl 1 rfl) ?_
        refine x_getE0 hk hx hb hB inBE hown hK hP hR (hB _ fl_X_190) dX_refusalOf_47 ?_
        refine lv_aload_n hx hb dX_refusalOf_50 rfl (lv_at hl 1 rfl) ?_
        refine x_getE 1 hk hx hb hB inBE hown hK hP hR (by decide) (by decide) (hB _ fl_X_184) rfl dX_refusalOf_51 ?_
        obtain ⟨_, hq10⟩ := hR.dc (hR.ok.2.2 _ hk).1
        refine x_calli (va_runV (As := [.int (ev k 1)]) (rest := []) ⟨hx, hb, hml, hown, hB⟩ (c_D_stateAllows hR (hR.ok.2.2 _ hk).1 (ev k 1)) (cwV 1 hB (gV ml_X_230 im_D_stateAllows sl_D_stateAllows ini_D kc_D_stateAllows) rfl rfl rfl (by decide +kernel) ⟨Nat.le_of_ble_eq_true rfl, Nat.le_of_ble_eq_true rfl⟩) (x_preV hP hK hD hq10 rfl) rfl rfl hl.1 rfl (lv_room (Nat.le_of_ble_eq_true rfl)) dX_refusalOf_54 ⟨Nat.le_of_ble_eq_true rfl, Nat.le_of_ble_eq_true rfl⟩) hD hS hA (fun r11 w H locs hw hP hD hS => ?_)
        obtain ⟨e12, rfl⟩ := hw
        refine lv_if_ne (tgt := 62) hx hb dX_refusalOf_57 (by decide) (fun c13 => ?_) (fun c13 => ?_)
        · refine lv_aload_n hx hb dX_refusalOf_62 rfl (lv_at hl 1 rfl) ?_
          refine x_getE0 hk hx hb hB inBE hown hK hP hR (hB _ fl_X_190) dX_refusalOf_63 ?_
          refine lv_aload_n hx hb dX_refusalOf_66 rfl (lv_at hl 1 rfl) ?_
          refine x_getE 1 hk hx hb hB inBE hown hK hP hR (by decide) (by decide) (hB _ fl_X_184) rfl dX_refusalOf_67 ?_
          obtain ⟨_, hq14⟩ := hR.dc (hR.ok.2.2 _ hk).1
          refine x_calli (va_runV (As := [.int (ev k 1)]) (rest := []) ⟨hx, hb, hml, hown, hB⟩ (c_D_marksAllow hR (hR.ok.2.2 _ hk).1 (ev k 1)) (cwV 1 hB (gV ml_X_233 im_D_marksAllow sl_D_marksAllow ini_D kc_D_marksAllow) rfl rfl rfl (by decide +kernel) ⟨Nat.le_of_ble_eq_true rfl, Nat.le_of_ble_eq_true rfl⟩) (x_preV hP hK hD hq14 rfl) rfl rfl hl.1 rfl (lv_room (Nat.le_of_ble_eq_true rfl)) dX_refusalOf_70 ⟨Nat.le_of_ble_eq_true rfl, Nat.le_of_ble_eq_true rfl⟩) hD hS hA (fun r15 w H locs hw hP hD hS => ?_)
          obtain ⟨e16, rfl⟩ := hw
          refine lv_if_ne (tgt := 78) hx hb dX_refusalOf_73 (by decide) (fun c17 => ?_) (fun c17 => ?_)
          · refine lv_iconst (v := 0) hx hb dX_refusalOf_78 (by decide) ?_
            exact x_iret (v := 0) hx hb hr hlocks ⟨(by subst e2 e5 e8 e12 e16; first | (simp [fRefusal, c3, c6, c9, c13, c17]; done) | (simp_all [fRefusal]; done)), rfl⟩ hP hK hD hS dX_refusalOf_79
          · refine lv_iconst (v := 5) hx hb dX_refusalOf_76 (by decide) ?_
            exact x_iret (v := 5) hx hb hr hlocks ⟨(by subst e2 e5 e8 e12 e16; first | (simp [fRefusal, c3, c6, c9, c13, c17]; done) | (simp_all [fRefusal]; done)), rfl⟩ hP hK hD hS dX_refusalOf_77
        · refine lv_iconst (v := 4) hx hb dX_refusalOf_60 (by decide) ?_
          exact x_iret (v := 4) hx hb hr hlocks ⟨(by subst e2 e5 e8 e12; first | (simp [fRefusal, c3, c6, c9, c13]; done) | (simp_all [fRefusal]; done)), rfl⟩ hP hK hD hS dX_refusalOf_61
      · refine lv_aload_n hx hb dX_refusalOf_33 rfl (lv_at hl 0 rfl) ?_
        refine lv_aload_n hx hb dX_refusalOf_34 rfl (lv_at hl 1 rfl) ?_
        refine x_getE 3 hk hx hb hB inBE hown hK hP hR (by decide) (by decide) (hB _ fl_X_104) rfl dX_refusalOf_35 ?_
        refine x_calli (va_runV (As := [.int (ev k 3)]) (rest := []) ⟨hx, hb, hml, hown, hB⟩ (c_X_isOpenAt hR (ev k 3)) (cwV 1 hB (gV ml_X_227 im_X_isOpenAt sl_X_isOpenAt ini_X kc_X_isOpenAt) rfl rfl rfl (by decide +kernel) ⟨Nat.le_of_ble_eq_true rfl, Nat.le_of_ble_eq_true rfl⟩) (x_preV hP hK hD hR.x rfl) rfl rfl hl.1 rfl (lv_room (Nat.le_of_ble_eq_true rfl)) dX_refusalOf_38 ⟨Nat.le_of_ble_eq_true rfl, Nat.le_of_ble_eq_true rfl⟩) hD hS hA (fun r18 w H locs hw hP hD hS => ?_)
        obtain ⟨e19, rfl⟩ := hw
        refine lv_if_ne (tgt := 46) hx hb dX_refusalOf_41 (by decide) (fun c20 => ?_) (fun c20 => ?_)
        · refine lv_aload_n hx hb dX_refusalOf_46 rfl (lv_at hl 1 rfl) ?_
          refine x_getE0 hk hx hb hB inBE hown hK hP hR (hB _ fl_X_190) dX_refusalOf_47 ?_
          refine lv_aload_n hx hb dX_refusalOf_50 rfl (lv_at hl 1 rfl) ?_
          refine x_getE 1 hk hx hb hB inBE hown hK hP hR (by decide) (by decide) (hB _ fl_X_184) rfl dX_refusalOf_51 ?_
          obtain ⟨_, hq21⟩ := hR.dc (hR.ok.2.2 _ hk).1
          refine x_calli (va_runV (As := [.int (ev k 1)]) (rest := []) ⟨hx, hb, hml, hown, hB⟩ (c_D_stateAllows hR (hR.ok.2.2 _ hk).1 (ev k 1)) (cwV 1 hB (gV ml_X_230 im_D_stateAllows sl_D_stateAllows ini_D kc_D_stateAllows) rfl rfl rfl (by decide +kernel) ⟨Nat.le_of_ble_eq_true rfl, Nat.le_of_ble_eq_true rfl⟩) (x_preV hP hK hD hq21 rfl) rfl rfl hl.1 rfl (lv_room (Nat.le_of_ble_eq_true rfl)) dX_refusalOf_54 ⟨Nat.le_of_ble_eq_true rfl, Nat.le_of_ble_eq_true rfl⟩) hD hS hA (fun r22 w H locs hw hP hD hS => ?_)
          obtain ⟨e23, rfl⟩ := hw
          refine lv_if_ne (tgt := 62) hx hb dX_refusalOf_57 (by decide) (fun c24 => ?_) (fun c24 => ?_)
          · refine lv_aload_n hx hb dX_refusalOf_62 rfl (lv_at hl 1 rfl) ?_
            refine x_getE0 hk hx hb hB inBE hown hK hP hR (hB _ fl_X_190) dX_refusalOf_63 ?_
            refine lv_aload_n hx hb dX_refusalOf_66 rfl (lv_at hl 1 rfl) ?_
            refine x_getE 1 hk hx hb hB inBE hown hK hP hR (by decide) (by decide) (hB _ fl_X_184) rfl dX_refusalOf_67 ?_
            obtain ⟨_, hq25⟩ := hR.dc (hR.ok.2.2 _ hk).1
            refine x_calli (va_runV (As := [.int (ev k 1)]) (rest := []) ⟨hx, hb, hml, hown, hB⟩ (c_D_marksAllow hR (hR.ok.2.2 _ hk).1 (ev k 1)) (cwV 1 hB (gV ml_X_233 im_D_marksAllow sl_D_marksAllow ini_D kc_D_marksAllow) rfl rfl rfl (by decide +kernel) ⟨Nat.le_of_ble_eq_true rfl, Nat.le_of_ble_eq_true rfl⟩) (x_preV hP hK hD hq25 rfl) rfl rfl hl.1 rfl (lv_room (Nat.le_of_ble_eq_true rfl)) dX_refusalOf_70 ⟨Nat.le_of_ble_eq_true rfl, Nat.le_of_ble_eq_true rfl⟩) hD hS hA (fun r26 w H locs hw hP hD hS => ?_)
            obtain ⟨e27, rfl⟩ := hw
            refine lv_if_ne (tgt := 78) hx hb dX_refusalOf_73 (by decide) (fun c28 => ?_) (fun c28 => ?_)
            · refine lv_iconst (v := 0) hx hb dX_refusalOf_78 (by decide) ?_
              exact x_iret (v := 0) hx hb hr hlocks ⟨(by subst e2 e5 e8 e19 e23 e27; first | (simp [fRefusal, c3, c6, c9, c20, c24, c28]; done) | (simp_all [fRefusal]; done)), rfl⟩ hP hK hD hS dX_refusalOf_79
            · refine lv_iconst (v := 5) hx hb dX_refusalOf_76 (by decide) ?_
              exact x_iret (v := 5) hx hb hr hlocks ⟨(by subst e2 e5 e8 e19 e23 e27; first | (simp [fRefusal, c3, c6, c9, c20, c24, c28]; done) | (simp_all [fRefusal]; done)), rfl⟩ hP hK hD hS dX_refusalOf_77
          · refine lv_iconst (v := 4) hx hb dX_refusalOf_60 (by decide) ?_
            exact x_iret (v := 4) hx hb hr hlocks ⟨(by subst e2 e5 e8 e19 e23; first | (simp [fRefusal, c3, c6, c9, c20, c24]; done) | (simp_all [fRefusal]; done)), rfl⟩ hP hK hD hS dX_refusalOf_61
        · refine lv_iconst (v := 3) hx hb dX_refusalOf_44 (by decide) ?_
          exact x_iret (v := 3) hx hb hr hlocks ⟨(by subst e2 e5 e8 e19; first | (simp [fRefusal, c3, c6, c9, c20]; done) | (simp_all [fRefusal]; done)), rfl⟩ hP hK hD hS dX_refusalOf_45
    · refine lv_iconst (v := 2) hx hb dX_refusalOf_21 (by decide) ?_
      exact x_iret (v := 2) hx hb hr hlocks ⟨(by subst e2 e5; first | (simp [fRefusal, c3, c6]; done) | (simp_all [fRefusal]; done)), rfl⟩ hP hK hD hS dX_refusalOf_22
  · refine lv_iconst (v := 1) hx hb dX_refusalOf_11 (by decide) ?_
    exact x_iret (v := 1) hx hb hr hlocks ⟨(by subst e2; first | (simp [fRefusal, c3]; done) | (simp_all [fRefusal]; done)), rfl⟩ hP hK hD hS dX_refusalOf_12
