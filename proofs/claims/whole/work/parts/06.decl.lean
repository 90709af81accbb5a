set_option maxHeartbeats 4000000 in
set_option maxRecDepth 100000 in
theorem c_D_isMarked {l : Launch} {G : va_G} {cI cD cE : ClassId} {aX aR aD aE : Nat} {dA eA : Nat → Nat} {g ro : Nat → Int32} {fst : Option Nat} {nD nE : Nat} {d : Nat → Nat → Int32} {fw lw : Nat → Option Nat} {ed : Nat → Nat} {ev : Nat → Nat → Int32} {nx : Nat → Option Nat} {w : va_W} {sz : Nat} (hR : RX cI cD cE aX aR aD aE dA eA g ro fst nD nE d fw lw ed ev nx w) {j : Nat} (hj : j < nD) (mark : Int32) : xMi l yD_isMarked wsD_isMarked ({ frames := 0, cells := 0, slots := 0, locals := 0 }) [.ref (dA j), .int mark] G (xTys cI cD cE) w sz (fun r w' => r = fMarked (d j) mark ∧ w = w') 0 0 := by
  refine x_ofW (fun A => va_Qi (fun r w' => r = fMarked (d j) mark ∧ w = w') (xEnd G (xTys cI cD cE) A) A) cD_isMarked 2 (some .boolean) (by decide) rfl (Nat.le_of_ble_eq_true rfl) ?_
  intro p e s m below meth c A ls hx hb hr hlocks hml hnm hown hB hA hP hK hD hS hl
  have hl : lv_has ls 2 [(0, .ref (dA j)), (1, .int mark)] := hl
  have hown : s.vm.findClass NmD = some m.cls := hown
  refine lv_aload_n hx hb dD_isMarked_0 rfl (lv_at hl 0 rfl) ?_
  refine x_getD 4 hj hx hb hB inBD hown hK hP hR (by decide) (hB _ fl_D_27) rfl dD_isMarked_1 ?_
  refine lv_iload_n hx hb dD_isMarked_4 rfl (lv_at hl 1 rfl) ?_
  refine lv_iand hx hb dD_isMarked_5 ?_
  refine lv_if_eq (tgt := 13) hx hb dD_isMarked_6 (by decide) (fun c1 => ?_) (fun c1 => ?_)
  · refine lv_iconst (v := 0) hx hb dD_isMarked_13 (by decide) ?_
    exact x_zret (v := 0) hx hb hr hlocks rfl ⟨by first | (simp [fMarked, c1]; done) | simp_all [fMarked], rfl⟩ hP hK hD hS dD_isMarked_14
  · refine lv_iconst (v := 1) hx hb dD_isMarked_9 (by decide) ?_
    refine lv_goto (tgt := 14) hx hb dD_isMarked_10 (by decide) ?_
    exact x_zret (v := 1) hx hb hr hlocks rfl ⟨by first | (simp [fMarked, c1]; done) | simp_all [fMarked], rfl⟩ hP hK hD hS dD_isMarked_14
set_option maxHeartbeats 4000000 in
set_option maxRecDepth 100000 in
theorem c_D_hasBar {l : Launch} {G : va_G} {cI cD cE : ClassId} {aX aR aD aE : Nat} {dA eA : Nat → Nat} {g ro : Nat → Int32} {fst : Option Nat} {nD nE : Nat} {d : Nat → Nat → Int32} {fw lw : Nat → Option Nat} {ed : Nat → Nat} {ev : Nat → Nat → Int32} {nx : Nat → Option Nat} {w : va_W} {sz : Nat} (hR : RX cI cD cE aX aR aD aE dA eA g ro fst nD nE d fw lw ed ev nx w) {j : Nat} (hj : j < nD) (bar : Int32) : xMi l yD_hasBar wsD_hasBar ({ frames := 0, cells := 0, slots := 0, locals := 0 }) [.ref (dA j), .int bar] G (xTys cI cD cE) w sz (fun r w' => r = fBit (d j 5) bar ∧ w = w') 0 0 := by
  refine x_ofW (fun A => va_Qi (fun r w' => r = fBit (d j 5) bar ∧ w = w') (xEnd G (xTys cI cD cE) A) A) cD_hasBar 2 (some .boolean) (by decide) rfl (Nat.le_of_ble_eq_true rfl) ?_
  intro p e s m below meth c A ls hx hb hr hlocks hml hnm hown hB hA hP hK hD hS hl
  have hl : lv_has ls 2 [(0, .ref (dA j)), (1, .int bar)] := hl
  have hown : s.vm.findClass NmD = some m.cls := hown
  refine lv_aload_n hx hb dD_hasBar_0 rfl (lv_at hl 0 rfl) ?_
  refine x_getD 5 hj hx hb hB inBD hown hK hP hR (by decide) (hB _ fl_D_30) rfl dD_hasBar_1 ?_
  refine lv_iconst (v := 1) hx hb dD_hasBar_4 (by decide) ?_
  refine lv_iload_n hx hb dD_hasBar_5 rfl (lv_at hl 1 rfl) ?_
  refine lv_ishl hx hb dD_hasBar_6 ?_
  refine lv_iand hx hb dD_hasBar_7 ?_
  refine lv_if_eq (tgt := 15) hx hb dD_hasBar_8 (by decide) (fun c1 => ?_) (fun c1 => ?_)
  · refine lv_iconst (v := 0) hx hb dD_hasBar_15 (by decide) ?_
    exact x_zret (v := 0) hx hb hr hlocks rfl ⟨by first | (simp [fBit, c1]; done) | simp_all [fBit], rfl⟩ hP hK hD hS dD_hasBar_16
  · refine lv_iconst (v := 1) hx hb dD_hasBar_11 (by decide) ?_
    refine lv_goto (tgt := 16) hx hb dD_hasBar_12 (by decide) ?_
    exact x_zret (v := 1) hx hb hr hlocks rfl ⟨by first | (simp [fBit, c1]; done) | simp_all [fBit], rfl⟩ hP hK hD hS dD_hasBar_16
set_option maxHeartbeats 4000000 in
set_option maxRecDepth 100000 in
theorem c_D_isOver {l : Launch} {G : va_G} {cI cD cE : ClassId} {aX aR aD aE : Nat} {dA eA : Nat → Nat} {g ro : Nat → Int32} {fst : Option Nat} {nD nE : Nat} {d : Nat → Nat → Int32} {fw lw : Nat → Option Nat} {ed : Nat → Nat} {ev : Nat → Nat → Int32} {nx : Nat → Option Nat} {w : va_W} {sz : Nat} (hR : RX cI cD cE aX aR aD aE dA eA g ro fst nD nE d fw lw ed ev nx w) {j : Nat} (hj : j < nD)  : xMi l yD_isOver wsD_isOver ({ frames := 0, cells := 0, slots := 0, locals := 0 }) [.ref (dA j)] G (xTys cI cD cE) w sz (fun r w' => r = fOver (d j) ∧ w = w') 0 0 := by
  refine x_ofW (fun A => va_Qi (fun r w' => r = fOver (d j) ∧ w = w') (xEnd G (xTys cI cD cE) A) A) cD_isOver 1 (some .boolean) (by decide) rfl (Nat.le_of_ble_eq_true rfl) ?_
  intro p e s m below meth c A ls hx hb hr hlocks hml hnm hown hB hA hP hK hD hS hl
  have hl : lv_has ls 1 [(0, .ref (dA j))] := hl
  have hown : s.vm.findClass NmD = some m.cls := hown
  refine lv_aload_n hx hb dD_isOver_0 rfl (lv_at hl 0 rfl) ?_
  refine x_getD 3 hj hx hb hB inBD hown hK hP hR (by decide) (hB _ fl_D_21) rfl dD_isOver_1 ?_
  refine lv_bipush (v := 6) hx hb dD_isOver_4 (by decide) ?_
  refine lv_icmp_eq (tgt := 18) hx hb dD_isOver_6 (by decide) (fun c1 => ?_) (fun c1 => ?_)
  · refine lv_iconst (v := 1) hx hb dD_isOver_18 (by decide) ?_
    refine lv_goto (tgt := 23) hx hb dD_isOver_19 (by decide) ?_
    exact x_zret (v := 1) hx hb hr hlocks rfl ⟨by first | (simp [fOver, c1]; done) | simp_all [fOver], rfl⟩ hP hK hD hS dD_isOver_23
  · refine lv_aload_n hx hb dD_isOver_9 rfl (lv_at hl 0 rfl) ?_
    refine x_getD 3 hj hx hb hB inBD hown hK hP hR (by decide) (hB _ fl_D_21) rfl dD_isOver_10 ?_
    refine lv_bipush (v := 7) hx hb dD_isOver_13 (by decide) ?_
    refine lv_icmp_ne (tgt := 22) hx hb dD_isOver_15 (by decide) (fun c2 => ?_) (fun c2 => ?_)
    · refine lv_iconst (v := 0) hx hb dD_isOver_22 (by decide) ?_
      exact x_zret (v := 0) hx hb hr hlocks rfl ⟨by first | (simp [fOver, c1, c2]; done) | simp_all [fOver], rfl⟩ hP hK hD hS dD_isOver_23
    · refine lv_iconst (v := 1) hx hb dD_isOver_18 (by decide) ?_
      refine lv_goto (tgt := 23) hx hb dD_isOver_19 (by decide) ?_
      exact x_zret (v := 1) hx hb hr hlocks rfl ⟨by first | (simp [fOver, c1, c2]; done) | simp_all [fOver], rfl⟩ hP hK hD hS dD_isOver_23
set_option maxHeartbeats 4000000 in
set_option maxRecDepth 100000 in
theorem c_D_stateAllows {l : Launch} {G : va_G} {cI cD cE : ClassId} {aX aR aD aE : Nat} {dA eA : Nat → Nat} {g ro : Nat → Int32} {fst : Option Nat} {nD nE : Nat} {d : Nat → Nat → Int32} {fw lw : Nat → Option Nat} {ed : Nat → Nat} {ev : Nat → Nat → Int32} {nx : Nat → Option Nat} {w : va_W} {sz : Nat} (hR : RX cI cD cE aX aR aD aE dA eA g ro fst nD nE d fw lw ed ev nx w) {j : Nat} (hj : j < nD) (act : Int32) : xMi l yD_stateAllows wsD_stateAllows ({ frames := 0, cells := 0, slots := 0, locals := 0 }) [.ref (dA j), .int act] G (xTys cI cD cE) w sz (fun r w' => r = fStateAllows (d j) act ∧ w = w') 0 0 := by
  refine x_ofW (fun A => va_Qi (fun r w' => r = fStateAllows (d j) act ∧ w = w') (xEnd G (xTys cI cD cE) A) A) cD_stateAllows 2 (some .boolean) (by decide) rfl (Nat.le_of_ble_eq_true rfl) ?_
  intro p e s m below meth c A ls hx hb hr hlocks hml hnm hown hB hA hP hK hD hS hl
  have hl : lv_has ls 2 [(0, .ref (dA j)), (1, .int act)] := hl
  have hown : s.vm.findClass NmD = some m.cls := hown
  refine lv_iload_n hx hb dD_stateAllows_0 rfl (lv_at hl 1 rfl) ?_
  rcases x_sw0_9 act with h1 | h2 | h3 | h4 | h5 | h6 | h7 | h8 | h9 | h10 | h11
  · refine lv_tableIn (tgt := 56) hx hb dD_stateAllows_1 (by rw [h1]; decide) (by rw [h1]; decide) (by rw [h1]; rfl) (by decide) ?_
    refine lv_aload_n hx hb dD_stateAllows_56 rfl (lv_at hl 0 rfl) ?_
    refine x_getD 3 hj hx hb hB inBD hown hK hP hR (by decide) (hB _ fl_D_21) rfl dD_stateAllows_57 ?_
    refine lv_if_ne (tgt := 67) hx hb dD_stateAllows_60 (by decide) (fun c12 => ?_) (fun c12 => ?_)
    · refine lv_iconst (v := 0) hx hb dD_stateAllows_67 (by decide) ?_
      exact x_zret (v := 0) hx hb hr hlocks rfl ⟨by first | (simp [fStateAllows, h1, c12]; done) | simp_all [fStateAllows], rfl⟩ hP hK hD hS dD_stateAllows_68
    · refine lv_iconst (v := 1) hx hb dD_stateAllows_63 (by decide) ?_
      refine lv_goto (tgt := 68) hx hb dD_stateAllows_64 (by decide) ?_
      exact x_zret (v := 1) hx hb hr hlocks rfl ⟨by first | (simp [fStateAllows, h1, c12]; done) | simp_all [fStateAllows], rfl⟩ hP hK hD hS dD_stateAllows_68
  · refine lv_tableIn (tgt := 69) hx hb dD_stateAllows_1 (by rw [h2]; decide) (by rw [h2]; decide) (by rw [h2]; rfl) (by decide) ?_
    refine lv_aload_n hx hb dD_stateAllows_69 rfl (lv_at hl 0 rfl) ?_
    refine x_getD 3 hj hx hb hB inBD hown hK hP hR (by decide) (hB _ fl_D_21) rfl dD_stateAllows_70 ?_
    refine lv_if_eq (tgt := 92) hx hb dD_stateAllows_73 (by decide) (fun c13 => ?_) (fun c13 => ?_)
    · refine lv_iconst (v := 1) hx hb dD_stateAllows_92 (by decide) ?_
      refine lv_goto (tgt := 97) hx hb dD_stateAllows_93 (by decide) ?_
      exact x_zret (v := 1) hx hb hr hlocks rfl ⟨by first | (simp [fStateAllows, h2, c13]; done) | simp_all [fStateAllows], rfl⟩ hP hK hD hS dD_stateAllows_97
    · refine lv_aload_n hx hb dD_stateAllows_76 rfl (lv_at hl 0 rfl) ?_
      refine x_getD 3 hj hx hb hB inBD hown hK hP hR (by decide) (hB _ fl_D_21) rfl dD_stateAllows_77 ?_
      refine lv_iconst (v := 1) hx hb dD_stateAllows_80 (by decide) ?_
      refine lv_icmp_eq (tgt := 92) hx hb dD_stateAllows_81 (by decide) (fun c14 => ?_) (fun c14 => ?_)
      · refine lv_iconst (v := 1) hx hb dD_stateAllows_92 (by decide) ?_
        refine lv_goto (tgt := 97) hx hb dD_stateAllows_93 (by decide) ?_
        exact x_zret (v := 1) hx hb hr hlocks rfl ⟨by first | (simp [fStateAllows, h2, c13, c14]; done) | simp_all [fStateAllows], rfl⟩ hP hK hD hS dD_stateAllows_97
      · refine lv_aload_n hx hb dD_stateAllows_84 rfl (lv_at hl 0 rfl) ?_
        refine x_getD 3 hj hx hb hB inBD hown hK hP hR (by decide) (hB _ fl_D_21) rfl dD_stateAllows_85 ?_
        refine lv_iconst (v := 2) hx hb dD_stateAllows_88 (by decide) ?_
        refine lv_icmp_ne (tgt := 96) hx hb dD_stateAllows_89 (by decide) (fun c15 => ?_) (fun c15 => ?_)
        · refine lv_iconst (v := 0) hx hb dD_stateAllows_96 (by decide) ?_
          exact x_zret (v := 0) hx hb hr hlocks rfl ⟨by first | (simp [fStateAllows, h2, c13, c14, c15]; done) | simp_all [fStateAllows], rfl⟩ hP hK hD hS dD_stateAllows_97
        · refine lv_iconst (v := 1) hx hb dD_stateAllows_92 (by decide) ?_
          refine lv_goto (tgt := 97) hx hb dD_stateAllows_93 (by decide) ?_
          exact x_zret (v := 1) hx hb hr hlocks rfl ⟨by first | (simp [fStateAllows, h2, c13, c14, c15]; done) | simp_all [fStateAllows], rfl⟩ hP hK hD hS dD_stateAllows_97
  · refine lv_tableIn (tgt := 98) hx hb dD_stateAllows_1 (by rw [h3]; decide) (by rw [h3]; decide) (by rw [h3]; rfl) (by decide) ?_
    refine lv_aload_n hx hb dD_stateAllows_98 rfl (lv_at hl 0 rfl) ?_
    refine x_getD 3 hj hx hb hB inBD hown hK hP hR (by decide) (hB _ fl_D_21) rfl dD_stateAllows_99 ?_
    refine lv_iconst (v := 1) hx hb dD_stateAllows_102 (by decide) ?_
    refine lv_icmp_ne (tgt := 110) hx hb dD_stateAllows_103 (by decide) (fun c16 => ?_) (fun c16 => ?_)
    · refine lv_iconst (v := 0) hx hb dD_stateAllows_110 (by decide) ?_
      exact x_zret (v := 0) hx hb hr hlocks rfl ⟨by first | (simp [fStateAllows, h3, c16]; done) | simp_all [fStateAllows], rfl⟩ hP hK hD hS dD_stateAllows_111
    · refine lv_iconst (v := 1) hx hb dD_stateAllows_106 (by decide) ?_
      refine lv_goto (tgt := 111) hx hb dD_stateAllows_107 (by decide) ?_
      exact x_zret (v := 1) hx hb hr hlocks rfl ⟨by first | (simp [fStateAllows, h3, c16]; done) | simp_all [fStateAllows], rfl⟩ hP hK hD hS dD_stateAllows_111
  · refine lv_tableIn (tgt := 112) hx hb dD_stateAllows_1 (by rw [h4]; decide) (by rw [h4]; decide) (by rw [h4]; rfl) (by decide) ?_
    refine lv_aload_n hx hb dD_stateAllows_112 rfl (lv_at hl 0 rfl) ?_
    refine x_getD 3 hj hx hb hB inBD hown hK hP hR (by decide) (hB _ fl_D_21) rfl dD_stateAllows_113 ?_
    refine lv_iconst (v := 2) hx hb dD_stateAllows_116 (by decide) ?_
    refine lv_icmp_ne (tgt := 124) hx hb dD_stateAllows_117 (by decide) (fun c17 => ?_) (fun c17 => ?_)
    · refine lv_iconst (v := 0) hx hb dD_stateAllows_124 (by decide) ?_
      exact x_zret (v := 0) hx hb hr hlocks rfl ⟨by first | (simp [fStateAllows, h4, c17]; done) | simp_all [fStateAllows], rfl⟩ hP hK hD hS dD_stateAllows_125
    · refine lv_iconst (v := 1) hx hb dD_stateAllows_120 (by decide) ?_
      refine lv_goto (tgt := 125) hx hb dD_stateAllows_121 (by decide) ?_
      exact x_zret (v := 1) hx hb hr hlocks rfl ⟨by first | (simp [fStateAllows, h4, c17]; done) | simp_all [fStateAllows], rfl⟩ hP hK hD hS dD_stateAllows_125
  · refine lv_tableIn (tgt := 126) hx hb dD_stateAllows_1 (by rw [h5]; decide) (by rw [h5]; decide) (by rw [h5]; rfl) (by decide) ?_
    refine lv_aload_n hx hb dD_stateAllows_126 rfl (lv_at hl 0 rfl) ?_
    refine x_getD 3 hj hx hb hB inBD hown hK hP hR (by decide) (hB _ fl_D_21) rfl dD_stateAllows_127 ?_
    refine lv_iconst (v := 3) hx hb dD_stateAllows_130 (by decide) ?_
    refine lv_icmp_ne (tgt := 138) hx hb dD_stateAllows_131 (by decide) (fun c18 => ?_) (fun c18 => ?_)
    · refine lv_iconst (v := 0) hx hb dD_stateAllows_138 (by decide) ?_
      exact x_zret (v := 0) hx hb hr hlocks rfl ⟨by first | (simp [fStateAllows, h5, c18]; done) | simp_all [fStateAllows], rfl⟩ hP hK hD hS dD_stateAllows_139
    · refine lv_iconst (v := 1) hx hb dD_stateAllows_134 (by decide) ?_
      refine lv_goto (tgt := 139) hx hb dD_stateAllows_135 (by decide) ?_
      exact x_zret (v := 1) hx hb hr hlocks rfl ⟨by first | (simp [fStateAllows, h5, c18]; done) | simp_all [fStateAllows], rfl⟩ hP hK hD hS dD_stateAllows_139
  · refine lv_tableIn (tgt := 126) hx hb dD_stateAllows_1 (by rw [h6]; decide) (by rw [h6]; decide) (by rw [h6]; rfl) (by decide) ?_
    refine lv_aload_n hx hb dD_stateAllows_126 rfl (lv_at hl 0 rfl) ?_
    refine x_getD 3 hj hx hb hB inBD hown hK hP hR (by decide) (hB _ fl_D_21) rfl dD_stateAllows_127 ?_
    refine lv_iconst (v := 3) hx hb dD_stateAllows_130 (by decide) ?_
    refine lv_icmp_ne (tgt := 138) hx hb dD_stateAllows_131 (by decide) (fun c19 => ?_) (fun c19 => ?_)
    · refine lv_iconst (v := 0) hx hb dD_stateAllows_138 (by decide) ?_
      exact x_zret (v := 0) hx hb hr hlocks rfl ⟨by first | (simp [fStateAllows, h6, c19]; done) | simp_all [fStateAllows], rfl⟩ hP hK hD hS dD_stateAllows_139
    · refine lv_iconst (v := 1) hx hb dD_stateAllows_134 (by decide) ?_
      refine lv_goto (tgt := 139) hx hb dD_stateAllows_135 (by decide) ?_
      exact x_zret (v := 1) hx hb hr hlocks rfl ⟨by first | (simp [fStateAllows, h6, c19]; done) | simp_all [fStateAllows], rfl⟩ hP hK hD hS dD_stateAllows_139
  · refine lv_tableIn (tgt := 140) hx hb dD_stateAllows_1 (by rw [h7]; decide) (by rw [h7]; decide) (by rw [h7]; rfl) (by decide) ?_
    refine lv_aload_n hx hb dD_stateAllows_140 rfl (lv_at hl 0 rfl) ?_
    refine x_getD 3 hj hx hb hB inBD hown hK hP hR (by decide) (hB _ fl_D_21) rfl dD_stateAllows_141 ?_
    refine lv_iconst (v := 2) hx hb dD_stateAllows_144 (by decide) ?_
    refine lv_icmp_eq (tgt := 156) hx hb dD_stateAllows_145 (by decide) (fun c20 => ?_) (fun c20 => ?_)
    · refine lv_iconst (v := 1) hx hb dD_stateAllows_156 (by decide) ?_
      refine lv_goto (tgt := 161) hx hb dD_stateAllows_157 (by decide) ?_
      exact x_zret (v := 1) hx hb hr hlocks rfl ⟨by first | (simp [fStateAllows, h7, c20]; done) | simp_all [fStateAllows], rfl⟩ hP hK hD hS dD_stateAllows_161
    · refine lv_aload_n hx hb dD_stateAllows_148 rfl (lv_at hl 0 rfl) ?_
      refine x_getD 3 hj hx hb hB inBD hown hK hP hR (by decide) (hB _ fl_D_21) rfl dD_stateAllows_149 ?_
      refine lv_iconst (v := 3) hx hb dD_stateAllows_152 (by decide) ?_
      refine lv_icmp_ne (tgt := 160) hx hb dD_stateAllows_153 (by decide) (fun c21 => ?_) (fun c21 => ?_)
      · refine lv_iconst (v := 0) hx hb dD_stateAllows_160 (by decide) ?_
        exact x_zret (v := 0) hx hb hr hlocks rfl ⟨by first | (simp [fStateAllows, h7, c20, c21]; done) | simp_all [fStateAllows], rfl⟩ hP hK hD hS dD_stateAllows_161
      · refine lv_iconst (v := 1) hx hb dD_stateAllows_156 (by decide) ?_
        refine lv_goto (tgt := 161) hx hb dD_stateAllows_157 (by decide) ?_
        exact x_zret (v := 1) hx hb hr hlocks rfl ⟨by first | (simp [fStateAllows, h7, c20, c21]; done) | simp_all [fStateAllows], rfl⟩ hP hK hD hS dD_stateAllows_161
  · refine lv_tableIn (tgt := 162) hx hb dD_stateAllows_1 (by rw [h8]; decide) (by rw [h8]; decide) (by rw [h8]; rfl) (by decide) ?_
    refine lv_aload_n hx hb dD_stateAllows_162 rfl (lv_at hl 0 rfl) ?_
    refine x_getD 3 hj hx hb hB inBD hown hK hP hR (by decide) (hB _ fl_D_21) rfl dD_stateAllows_163 ?_
    refine lv_iconst (v := 4) hx hb dD_stateAllows_166 (by decide) ?_
    refine lv_icmp_ne (tgt := 181) hx hb dD_stateAllows_167 (by decide) (fun c22 => ?_) (fun c22 => ?_)
    · refine lv_iconst (v := 0) hx hb dD_stateAllows_181 (by decide) ?_
      exact x_zret (v := 0) hx hb hr hlocks rfl ⟨by first | (simp [fStateAllows, h8, c22]; done) | simp_all [fStateAllows], rfl⟩ hP hK hD hS dD_stateAllows_182
    · refine lv_aload_n hx hb dD_stateAllows_170 rfl (lv_at hl 0 rfl) ?_
      refine x_getD 1 hj hx hb hB inBD hown hK hP hR (by decide) (hB _ fl_D_15) rfl dD_stateAllows_171 ?_
      refine lv_if_eq (tgt := 181) hx hb dD_stateAllows_174 (by decide) (fun c23 => ?_) (fun c23 => ?_)
      · refine lv_iconst (v := 0) hx hb dD_stateAllows_181 (by decide) ?_
        exact x_zret (v := 0) hx hb hr hlocks rfl ⟨by first | (simp [fStateAllows, h8, c22, c23]; done) | simp_all [fStateAllows], rfl⟩ hP hK hD hS dD_stateAllows_182
      · refine lv_iconst (v := 1) hx hb dD_stateAllows_177 (by decide) ?_
        refine lv_goto (tgt := 182) hx hb dD_stateAllows_178 (by decide) ?_
        exact x_zret (v := 1) hx hb hr hlocks rfl ⟨by first | (simp [fStateAllows, h8, c22, c23]; done) | simp_all [fStateAllows], rfl⟩ hP hK hD hS dD_stateAllows_182
  · refine lv_tableIn (tgt := 183) hx hb dD_stateAllows_1 (by rw [h9]; decide) (by rw [h9]; decide) (by rw [h9]; rfl) (by decide) ?_
    refine lv_aload_n hx hb dD_stateAllows_183 rfl (lv_at hl 0 rfl) ?_
    refine x_getD 3 hj hx hb hB inBD hown hK hP hR (by decide) (hB _ fl_D_21) rfl dD_stateAllows_184 ?_
    refine lv_iconst (v := 4) hx hb dD_stateAllows_187 (by decide) ?_
    refine lv_icmp_ne (tgt := 198) hx hb dD_stateAllows_188 (by decide) (fun c24 => ?_) (fun c24 => ?_)
    · refine lv_aload_n hx hb dD_stateAllows_198 rfl (lv_at hl 0 rfl) ?_
      refine x_getD 3 hj hx hb hB inBD hown hK hP hR (by decide) (hB _ fl_D_21) rfl dD_stateAllows_199 ?_
      refine lv_iconst (v := 5) hx hb dD_stateAllows_202 (by decide) ?_
      refine lv_icmp_ne (tgt := 210) hx hb dD_stateAllows_203 (by decide) (fun c25 => ?_) (fun c25 => ?_)
      · refine lv_iconst (v := 0) hx hb dD_stateAllows_210 (by decide) ?_
        exact x_zret (v := 0) hx hb hr hlocks rfl ⟨by first | (simp [fStateAllows, h9, c24, c25]; done) | simp_all [fStateAllows], rfl⟩ hP hK hD hS dD_stateAllows_211
      · refine lv_iconst (v := 1) hx hb dD_stateAllows_206 (by decide) ?_
        refine lv_goto (tgt := 211) hx hb dD_stateAllows_207 (by decide) ?_
        exact x_zret (v := 1) hx hb hr hlocks rfl ⟨by first | (simp [fStateAllows, h9, c24, c25]; done) | simp_all [fStateAllows], rfl⟩ hP hK hD hS dD_stateAllows_211
    · refine lv_aload_n hx hb dD_stateAllows_191 rfl (lv_at hl 0 rfl) ?_
      refine x_getD 1 hj hx hb hB inBD hown hK hP hR (by decide) (hB _ fl_D_15) rfl dD_stateAllows_192 ?_
      refine lv_if_eq (tgt := 206) hx hb dD_stateAllows_195 (by decide) (fun c26 => ?_) (fun c26 => ?_)
      · refine lv_iconst (v := 1) hx hb dD_stateAllows_206 (by decide) ?_
        refine lv_goto (tgt := 211) hx hb dD_stateAllows_207 (by decide) ?_
        exact x_zret (v := 1) hx hb hr hlocks rfl ⟨by first | (simp [fStateAllows, h9, c24, c26]; done) | simp_all [fStateAllows], rfl⟩ hP hK hD hS dD_stateAllows_211
      · refine lv_aload_n hx hb dD_stateAllows_198 rfl (lv_at hl 0 rfl) ?_
        refine x_getD 3 hj hx hb hB inBD hown hK hP hR (by decide) (hB _ fl_D_21) rfl dD_stateAllows_199 ?_
        refine lv_iconst (v := 5) hx hb dD_stateAllows_202 (by decide) ?_
        refine lv_icmp_ne (tgt := 210) hx hb dD_stateAllows_203 (by decide) (fun c27 => ?_) (fun c27 => ?_)
        · refine lv_iconst (v := 0) hx hb dD_stateAllows_210 (by decide) ?_
          exact x_zret (v := 0) hx hb hr hlocks rfl ⟨by first | (simp [fStateAllows, h9, c24, c26, c27]; done) | simp_all [fStateAllows], rfl⟩ hP hK hD hS dD_stateAllows_211
        · refine lv_iconst (v := 1) hx hb dD_stateAllows_206 (by decide) ?_
          refine lv_goto (tgt := 211) hx hb dD_stateAllows_207 (by decide) ?_
          exact x_zret (v := 1) hx hb hr hlocks rfl ⟨by first | (simp [fStateAllows, h9, c24, c26, c27]; done) | simp_all [fStateAllows], rfl⟩ hP hK hD hS dD_stateAllows_211
  · refine lv_tableIn (tgt := 140) hx hb dD_stateAllows_1 (by rw [h10]; decide) (by rw [h10]; decide) (by rw [h10]; rfl) (by decide) ?_
    refine lv_aload_n hx hb dD_stateAllows_140 rfl (lv_at hl 0 rfl) ?_
    refine x_getD 3 hj hx hb hB inBD hown hK hP hR (by decide) (hB _ fl_D_21) rfl dD_stateAllows_141 ?_
    refine lv_iconst (v := 2) hx hb dD_stateAllows_144 (by decide) ?_
    refine lv_icmp_eq (tgt := 156) hx hb dD_stateAllows_145 (by decide) (fun c28 => ?_) (fun c28 => ?_)
    · refine lv_iconst (v := 1) hx hb dD_stateAllows_156 (by decide) ?_
      refine lv_goto (tgt := 161) hx hb dD_stateAllows_157 (by decide) ?_
      exact x_zret (v := 1) hx hb hr hlocks rfl ⟨by first | (simp [fStateAllows, h10, c28]; done) | simp_all [fStateAllows], rfl⟩ hP hK hD hS dD_stateAllows_161
    · refine lv_aload_n hx hb dD_stateAllows_148 rfl (lv_at hl 0 rfl) ?_
      refine x_getD 3 hj hx hb hB inBD hown hK hP hR (by decide) (hB _ fl_D_21) rfl dD_stateAllows_149 ?_
      refine lv_iconst (v := 3) hx hb dD_stateAllows_152 (by decide) ?_
      refine lv_icmp_ne (tgt := 160) hx hb dD_stateAllows_153 (by decide) (fun c29 => ?_) (fun c29 => ?_)
      · refine lv_iconst (v := 0) hx hb dD_stateAllows_160 (by decide) ?_
        exact x_zret (v := 0) hx hb hr hlocks rfl ⟨by first | (simp [fStateAllows, h10, c28, c29]; done) | simp_all [fStateAllows], rfl⟩ hP hK hD hS dD_stateAllows_161
      · refine lv_iconst (v := 1) hx hb dD_stateAllows_156 (by decide) ?_
        refine lv_goto (tgt := 161) hx hb dD_stateAllows_157 (by decide) ?_
        exact x_zret (v := 1) hx hb hr hlocks rfl ⟨by first | (simp [fStateAllows, h10, c28, c29]; done) | simp_all [fStateAllows], rfl⟩ hP hK hD hS dD_stateAllows_161
  · refine lv_tableOut (tgt := 212) hx hb dD_stateAllows_1 h11.1 (by decide) ?_
    refine lv_iconst (v := 0) hx hb dD_stateAllows_212 (by decide) ?_
    exact x_zret (v := 0) hx hb hr hlocks rfl ⟨by first | (simp [fStateAllows, h11.2]; done) | simp_all [fStateAllows], rfl⟩ hP hK hD hS dD_stateAllows_213
set_option maxHeartbeats 4000000 in
set_option maxRecDepth 100000 in
theorem c_D_marksAllow {l : Launch} {G : va_G} {cI cD cE : ClassId} {aX aR aD aE : Nat} {dA eA : Nat → Nat} {g ro : Nat → Int32} {fst : Option Nat} {nD nE : Nat} {d : Nat → Nat → Int32} {fw lw : Nat → Option Nat} {ed : Nat → Nat} {ev : Nat → Nat → Int32} {nx : Nat → Option Nat} {w : va_W} {sz : Nat} (hR : RX cI cD cE aX aR aD aE dA eA g ro fst nD nE d fw lw ed ev nx w) {j : Nat} (hj : j < nD) (act : Int32) : xMi l yD_marksAllow wsD_marksAllow ({ frames := 1, cells := 0, slots := 0, locals := 21 }) [.ref (dA j), .int act] G (xTys cI cD cE) w sz (fun r w' => r = fMarksAllow (d j) act ∧ w = w') 0 0 := by
  refine x_ofW (fun A => va_Qi (fun r w' => r = fMarksAllow (d j) act ∧ w = w') (xEnd G (xTys cI cD cE) A) A) cD_marksAllow 2 (some .boolean) (by decide) rfl (Nat.le_of_ble_eq_true rfl) ?_
  intro p e s m below meth c A ls hx hb hr hlocks hml hnm hown hB hA hP hK hD hS hl
  have hl : lv_has ls 2 [(0, .ref (dA j)), (1, .int act)] := hl
  have hown : s.vm.findClass NmD = some m.cls := hown
  refine lv_iload_n hx hb dD_marksAllow_0 rfl (lv_at hl 1 rfl) ?_
  rcases x_sw1_9 act with h1 | h2 | h3 | h4 | h5 | h6 | h7 | h8 | h9 | h10
  · refine lv_tableIn (tgt := 52) hx hb dD_marksAllow_1 (by rw [h1]; decide) (by rw [h1]; decide) (by rw [h1]; rfl) (by decide) ?_
    refine lv_aload_n hx hb dD_marksAllow_52 rfl (lv_at hl 0 rfl) ?_
    refine lv_iconst (v := 1) hx hb dD_marksAllow_53 (by decide) ?_
    obtain ⟨_, hq11⟩ := hR.dc hj
    refine x_calli (va_runV (As := [.int 1]) (rest := []) ⟨hx, hb, hml, hown, hB⟩ (c_D_isMarked hR hj 1) (cwV 1 hB (gV ml_D_33 im_D_isMarked sl_D_isMarked ini_D kc_D_isMarked) rfl rfl rfl (by decide +kernel) ⟨Nat.le_of_ble_eq_true rfl, Nat.le_of_ble_eq_true rfl⟩) (x_preV hP hK hD hq11 rfl) rfl rfl hl.1 rfl (lv_room (Nat.le_of_ble_eq_true rfl)) dD_marksAllow_54 ⟨Nat.le_of_ble_eq_true rfl, Nat.le_of_ble_eq_true rfl⟩) hD hS hA (fun r12 w H locs hw hP hD hS => ?_)
    obtain ⟨e13, rfl⟩ := hw
    refine lv_if_ne (tgt := 64) hx hb dD_marksAllow_57 (by decide) (fun c14 => ?_) (fun c14 => ?_)
    · refine lv_iconst (v := 0) hx hb dD_marksAllow_64 (by decide) ?_
      exact x_zret (v := 0) hx hb hr hlocks rfl ⟨by simp_all [fMarksAllow], rfl⟩ hP hK hD hS dD_marksAllow_65
    · refine lv_iconst (v := 1) hx hb dD_marksAllow_60 (by decide) ?_
      refine lv_goto (tgt := 65) hx hb dD_marksAllow_61 (by decide) ?_
      exact x_zret (v := 1) hx hb hr hlocks rfl ⟨by simp_all [fMarksAllow], rfl⟩ hP hK hD hS dD_marksAllow_65
  · refine lv_tableIn (tgt := 66) hx hb dD_marksAllow_1 (by rw [h2]; decide) (by rw [h2]; decide) (by rw [h2]; rfl) (by decide) ?_
    refine lv_aload_n hx hb dD_marksAllow_66 rfl (lv_at hl 0 rfl) ?_
    refine x_getD 1 hj hx hb hB inBD hown hK hP hR (by decide) (hB _ fl_D_15) rfl dD_marksAllow_67 ?_
    refine lv_iconst (v := 1) hx hb dD_marksAllow_70 (by decide) ?_
    refine lv_icmp_eq (tgt := 82) hx hb dD_marksAllow_71 (by decide) (fun c15 => ?_) (fun c15 => ?_)
    · refine lv_iconst (v := 1) hx hb dD_marksAllow_82 (by decide) ?_
      refine lv_goto (tgt := 87) hx hb dD_marksAllow_83 (by decide) ?_
      exact x_zret (v := 1) hx hb hr hlocks rfl ⟨by simp_all [fMarksAllow], rfl⟩ hP hK hD hS dD_marksAllow_87
    · refine lv_aload_n hx hb dD_marksAllow_74 rfl (lv_at hl 0 rfl) ?_
      refine lv_iconst (v := 1) hx hb dD_marksAllow_75 (by decide) ?_
      obtain ⟨_, hq16⟩ := hR.dc hj
      refine x_calli (va_runV (As := [.int 1]) (rest := []) ⟨hx, hb, hml, hown, hB⟩ (c_D_isMarked hR hj 1) (cwV 1 hB (gV ml_D_33 im_D_isMarked sl_D_isMarked ini_D kc_D_isMarked) rfl rfl rfl (by decide +kernel) ⟨Nat.le_of_ble_eq_true rfl, Nat.le_of_ble_eq_true rfl⟩) (x_preV hP hK hD hq16 rfl) rfl rfl hl.1 rfl (lv_room (Nat.le_of_ble_eq_true rfl)) dD_marksAllow_76 ⟨Nat.le_of_ble_eq_true rfl, Nat.le_of_ble_eq_true rfl⟩) hD hS hA (fun r17 w H locs hw hP hD hS => ?_)
      obtain ⟨e18, rfl⟩ := hw
      refine lv_if_eq (tgt := 86) hx hb dD_marksAllow_79 (by decide) (fun c19 => ?_) (fun c19 => ?_)
      · refine lv_iconst (v := 0) hx hb dD_marksAllow_86 (by decide) ?_
        exact x_zret (v := 0) hx hb hr hlocks rfl ⟨by simp_all [fMarksAllow], rfl⟩ hP hK hD hS dD_marksAllow_87
      · refine lv_iconst (v := 1) hx hb dD_marksAllow_82 (by decide) ?_
        refine lv_goto (tgt := 87) hx hb dD_marksAllow_83 (by decide) ?_
        exact x_zret (v := 1) hx hb hr hlocks rfl ⟨by simp_all [fMarksAllow], rfl⟩ hP hK hD hS dD_marksAllow_87
  · refine lv_tableIn (tgt := 108) hx hb dD_marksAllow_1 (by rw [h3]; decide) (by rw [h3]; decide) (by rw [h3]; rfl) (by decide) ?_
    refine lv_iconst (v := 1) hx hb dD_marksAllow_108 (by decide) ?_
    exact x_zret (v := 1) hx hb hr hlocks rfl ⟨by simp_all [fMarksAllow], rfl⟩ hP hK hD hS dD_marksAllow_109
  · refine lv_tableIn (tgt := 108) hx hb dD_marksAllow_1 (by rw [h4]; decide) (by rw [h4]; decide) (by rw [h4]; rfl) (by decide) ?_
    refine lv_iconst (v := 1) hx hb dD_marksAllow_108 (by decide) ?_
    exact x_zret (v := 1) hx hb hr hlocks rfl ⟨by simp_all [fMarksAllow], rfl⟩ hP hK hD hS dD_marksAllow_109
  · refine lv_tableIn (tgt := 108) hx hb dD_marksAllow_1 (by rw [h5]; decide) (by rw [h5]; decide) (by rw [h5]; rfl) (by decide) ?_
    refine lv_iconst (v := 1) hx hb dD_marksAllow_108 (by decide) ?_
    exact x_zret (v := 1) hx hb hr hlocks rfl ⟨by simp_all [fMarksAllow], rfl⟩ hP hK hD hS dD_marksAllow_109
  · refine lv_tableIn (tgt := 88) hx hb dD_marksAllow_1 (by rw [h6]; decide) (by rw [h6]; decide) (by rw [h6]; rfl) (by decide) ?_
    refine lv_aload_n hx hb dD_marksAllow_88 rfl (lv_at hl 0 rfl) ?_
    refine lv_iconst (v := 2) hx hb dD_marksAllow_89 (by decide) ?_
    obtain ⟨_, hq20⟩ := hR.dc hj
    refine x_calli (va_runV (As := [.int 2]) (rest := []) ⟨hx, hb, hml, hown, hB⟩ (c_D_isMarked hR hj 2) (cwV 1 hB (gV ml_D_33 im_D_isMarked sl_D_isMarked ini_D kc_D_isMarked) rfl rfl rfl (by decide +kernel) ⟨Nat.le_of_ble_eq_true rfl, Nat.le_of_ble_eq_true rfl⟩) (x_preV hP hK hD hq20 rfl) rfl rfl hl.1 rfl (lv_room (Nat.le_of_ble_eq_true rfl)) dD_marksAllow_90 ⟨Nat.le_of_ble_eq_true rfl, Nat.le_of_ble_eq_true rfl⟩) hD hS hA (fun r21 w H locs hw hP hD hS => ?_)
    obtain ⟨e22, rfl⟩ := hw
    refine lv_if_ne (tgt := 100) hx hb dD_marksAllow_93 (by decide) (fun c23 => ?_) (fun c23 => ?_)
    · refine lv_iconst (v := 0) hx hb dD_marksAllow_100 (by decide) ?_
      exact x_zret (v := 0) hx hb hr hlocks rfl ⟨by simp_all [fMarksAllow], rfl⟩ hP hK hD hS dD_marksAllow_101
    · refine lv_iconst (v := 1) hx hb dD_marksAllow_96 (by decide) ?_
      refine lv_goto (tgt := 101) hx hb dD_marksAllow_97 (by decide) ?_
      exact x_zret (v := 1) hx hb hr hlocks rfl ⟨by simp_all [fMarksAllow], rfl⟩ hP hK hD hS dD_marksAllow_101
  · refine lv_tableIn (tgt := 108) hx hb dD_marksAllow_1 (by rw [h7]; decide) (by rw [h7]; decide) (by rw [h7]; rfl) (by decide) ?_
    refine lv_iconst (v := 1) hx hb dD_marksAllow_108 (by decide) ?_
    exact x_zret (v := 1) hx hb hr hlocks rfl ⟨by simp_all [fMarksAllow], rfl⟩ hP hK hD hS dD_marksAllow_109
  · refine lv_tableIn (tgt := 108) hx hb dD_marksAllow_1 (by rw [h8]; decide) (by rw [h8]; decide) (by rw [h8]; rfl) (by decide) ?_
    refine lv_iconst (v := 1) hx hb dD_marksAllow_108 (by decide) ?_
    exact x_zret (v := 1) hx hb hr hlocks rfl ⟨by simp_all [fMarksAllow], rfl⟩ hP hK hD hS dD_marksAllow_109
  · refine lv_tableIn (tgt := 102) hx hb dD_marksAllow_1 (by rw [h9]; decide) (by rw [h9]; decide) (by rw [h9]; rfl) (by decide) ?_
    refine lv_aload_n hx hb dD_marksAllow_102 rfl (lv_at hl 0 rfl) ?_
    refine lv_iconst (v := 4) hx hb dD_marksAllow_103 (by decide) ?_
    obtain ⟨_, hq24⟩ := hR.dc hj
    refine x_calli (va_runV (As := [.int 4]) (rest := []) ⟨hx, hb, hml, hown, hB⟩ (c_D_isMarked hR hj 4) (cwV 1 hB (gV ml_D_33 im_D_isMarked sl_D_isMarked ini_D kc_D_isMarked) rfl rfl rfl (by decide +kernel) ⟨Nat.le_of_ble_eq_true rfl, Nat.le_of_ble_eq_true rfl⟩) (x_preV hP hK hD hq24 rfl) rfl rfl hl.1 rfl (lv_room (Nat.le_of_ble_eq_true rfl)) dD_marksAllow_104 ⟨Nat.le_of_ble_eq_true rfl, Nat.le_of_ble_eq_true rfl⟩) hD hS hA (fun r25 w H locs hw hP hD hS => ?_)
    obtain ⟨e26, rfl⟩ := hw
    exact x_zret (v := r25) hx hb hr hlocks (nz01 e26 (fMarked01 _ _)) ⟨by simp_all [fMarksAllow], rfl⟩ hP hK hD hS dD_marksAllow_107
  · refine lv_tableOut (tgt := 108) hx hb dD_marksAllow_1 h10.1 (by decide) ?_
    refine lv_iconst (v := 1) hx hb dD_marksAllow_108 (by decide) ?_
    exact x_zret (v := 1) hx hb hr hlocks rfl ⟨by simp_all [fMarksAllow], rfl⟩ hP hK hD hS dD_marksAllow_109
