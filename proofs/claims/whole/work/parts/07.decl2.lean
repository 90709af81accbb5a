set_option maxHeartbeats 4000000 in
set_option maxRecDepth 100000 in
theorem c_D_become {l : Launch} {G : va_G} {cI cD cE : ClassId} {aX aR aD aE : Nat} {dA eA : Nat → Nat} {g ro : Nat → Int32} {fst : Option Nat} {nD nE : Nat} {d : Nat → Nat → Int32} {fw lw : Nat → Option Nat} {ed : Nat → Nat} {ev : Nat → Nat → Int32} {nx : Nat → Option Nat} {w : va_W} {sz : Nat} (hR : RX cI cD cE aX aR aD aE dA eA g ro fst nD nE d fw lw ed ev nx w) {j : Nat} (hj : j < nD) (n : Int32) (t : Int32) : xMv l yD_become wsD_become ({ frames := 0, cells := 0, slots := 0, locals := 0 }) [.ref (dA j), .int n, .int t] G (xTys cI cD cE) w sz (fun w' => RX cI cD cE aX aR aD aE dA eA g ro fst nD nE (upf d j (fBecome (d j) n t)) fw lw ed ev nx w') 0 0 := by
  refine x_ofW (fun A => va_Qv (fun w' => RX cI cD cE aX aR aD aE dA eA g ro fst nD nE (upf d j (fBecome (d j) n t)) fw lw ed ev nx w') (xEnd G (xTys cI cD cE) A) A) cD_become 3 none (by decide) rfl (Nat.le_of_ble_eq_true rfl) ?_
  intro p e s m below meth c A ls hx hb hr hlocks hml hnm hown hB hA hP hK hD hS hl
  have hl : lv_has ls 3 [(0, .ref (dA j)), (1, .int n), (2, .int t)] := hl
  have hown : s.vm.findClass NmD = some m.cls := hown
  refine lv_aload_n hx hb dD_become_0 rfl (lv_at hl 0 rfl) ?_
  refine lv_iload_n hx hb dD_become_1 rfl (lv_at hl 1 rfl) ?_
  refine x_putD 3 n hj hx hb hB inBD hown hK hP hD hS hR (by decide) (hB _ fl_D_21) rfl rfl (by decide +kernel) dD_become_2 (fun w H locs hR hP hD hS => ?_)
  refine lv_aload_n hx hb dD_become_5 rfl (lv_at hl 0 rfl) ?_
  refine lv_iload_n hx hb dD_become_6 rfl (lv_at hl 2 rfl) ?_
  refine x_putD 6 t hj hx hb hB inBD hown hK hP hD hS hR (by decide) (hB _ fl_D_56) rfl rfl (by decide +kernel) dD_become_7 (fun w H locs hR hP hD hS => ?_)
  refine lv_aload_n hx hb dD_become_10 rfl (lv_at hl 0 rfl) ?_
  refine lv_iconst (v := (-1)) hx hb dD_become_11 (by decide) ?_
  refine x_putD 7 (-1) hj hx hb hB inBD hown hK hP hD hS hR (by decide) (hB _ fl_D_24) rfl rfl (by decide +kernel) dD_become_12 (fun w H locs hR hP hD hS => ?_)
  exact x_vret hx hb hr hlocks (by first | (simpa [fBecome, upf_eq, upf_upf, upf_self] using hR) | (have hR9 := hR; simp_all [fBecome, upf_eq, upf_upf, upf_self])) hP hK hD hS dD_become_15
set_option maxHeartbeats 4000000 in
set_option maxRecDepth 100000 in
theorem c_D_releaseIfNothingHolds {l : Launch} {G : va_G} {cI cD cE : ClassId} {aX aR aD aE : Nat} {dA eA : Nat → Nat} {g ro : Nat → Int32} {fst : Option Nat} {nD nE : Nat} {d : Nat → Nat → Int32} {fw lw : Nat → Option Nat} {ed : Nat → Nat} {ev : Nat → Nat → Int32} {nx : Nat → Option Nat} {w : va_W} {sz : Nat} (hR : RX cI cD cE aX aR aD aE dA eA g ro fst nD nE d fw lw ed ev nx w) {j : Nat} (hj : j < nD) (t : Int32) : xMv l yD_releaseIfNothingHolds wsD_releaseIfNothingHolds ({ frames := 1, cells := 0, slots := 0, locals := 22 }) [.ref (dA j), .int t] G (xTys cI cD cE) w sz (fun w' => RX cI cD cE aX aR aD aE dA eA g ro fst nD nE (upf d j (fRelease (d j) t)) fw lw ed ev nx w') 0 0 := by
  refine x_ofW (fun A => va_Qv (fun w' => RX cI cD cE aX aR aD aE dA eA g ro fst nD nE (upf d j (fRelease (d j) t)) fw lw ed ev nx w') (xEnd G (xTys cI cD cE) A) A) cD_releaseIfNothingHolds 3 none (by decide) rfl (Nat.le_of_ble_eq_true rfl) ?_
  intro p e s m below meth c A ls hx hb hr hlocks hml hnm hown hB hA hP hK hD hS hl
  have hl : lv_has ls 3 [(0, .ref (dA j)), (1, .int t)] := hl
  have hown : s.vm.findClass NmD = some m.cls := hown
  refine lv_aload_n hx hb dD_releaseIfNothingHolds_0 rfl (lv_at hl 0 rfl) ?_
  refine x_getD 1 hj hx hb hB inBD hown hK hP hR (by decide) (hB _ fl_D_15) rfl dD_releaseIfNothingHolds_1 ?_
  refine lv_if_ne (tgt := 15) hx hb dD_releaseIfNothingHolds_4 (by decide) (fun c1 => ?_) (fun c1 => ?_)
  · refine lv_iconst (v := 1) hx hb dD_releaseIfNothingHolds_15 (by decide) ?_
    refine lv_goto (tgt := 20) hx hb dD_releaseIfNothingHolds_16 (by decide) ?_
    refine lv_istore_n (lv' := [(2, .int 1), (0, .ref (dA j)), (1, .int t)]) hx hb dD_releaseIfNothingHolds_20 rfl hl (by decide) rfl (fun ls hl => ?_)
    refine lv_aload_n hx hb dD_releaseIfNothingHolds_21 rfl (lv_at hl 1 rfl) ?_
    refine x_getD 3 hj hx hb hB inBD hown hK hP hR (by decide) (hB _ fl_D_21) rfl dD_releaseIfNothingHolds_22 ?_
    refine lv_iconst (v := 2) hx hb dD_releaseIfNothingHolds_25 (by decide) ?_
    refine lv_icmp_ne (tgt := 62) hx hb dD_releaseIfNothingHolds_26 (by decide) (fun c2 => ?_) (fun c2 => ?_)
    · exact x_vret hx hb hr hlocks (by have hR9 := hR; simp_all [fRelease, upf_eq, upf_upf, upf_self]) hP hK hD hS dD_releaseIfNothingHolds_62
    · refine lv_aload_n hx hb dD_releaseIfNothingHolds_29 rfl (lv_at hl 1 rfl) ?_
      refine x_getD 5 hj hx hb hB inBD hown hK hP hR (by decide) (hB _ fl_D_30) rfl dD_releaseIfNothingHolds_30 ?_
      refine lv_if_ne (tgt := 62) hx hb dD_releaseIfNothingHolds_33 (by decide) (fun c3 => ?_) (fun c3 => ?_)
      · exact x_vret hx hb hr hlocks (by have hR9 := hR; simp_all [fRelease, upf_eq, upf_upf, upf_self]) hP hK hD hS dD_releaseIfNothingHolds_62
      · refine lv_aload_n hx hb dD_releaseIfNothingHolds_36 rfl (lv_at hl 1 rfl) ?_
        refine lv_iconst (v := 4) hx hb dD_releaseIfNothingHolds_37 (by decide) ?_
        obtain ⟨_, hq4⟩ := hR.dc hj
        refine x_calli (va_runV (As := [.int 4]) (rest := []) ⟨hx, hb, hml, hown, hB⟩ (c_D_isMarked hR hj 4) (cwV 1 hB (gV ml_D_33 im_D_isMarked sl_D_isMarked ini_D kc_D_isMarked) rfl rfl rfl (by decide +kernel) ⟨Nat.le_of_ble_eq_true rfl, Nat.le_of_ble_eq_true rfl⟩) (x_preV hP hK hD hq4 rfl) rfl rfl hl.1 rfl (lv_room (Nat.le_of_ble_eq_true rfl)) dD_releaseIfNothingHolds_38 ⟨Nat.le_of_ble_eq_true rfl, Nat.le_of_ble_eq_true rfl⟩) hD hS hA (fun r5 w H locs hw hP hD hS => ?_)
        obtain ⟨e6, rfl⟩ := hw
        refine lv_if_ne (tgt := 62) hx hb dD_releaseIfNothingHolds_41 (by decide) (fun c7 => ?_) (fun c7 => ?_)
        · exact x_vret hx hb hr hlocks (by have hR9 := hR; simp_all [fRelease, upf_eq, upf_upf, upf_self]) hP hK hD hS dD_releaseIfNothingHolds_62
        · refine lv_aload_n hx hb dD_releaseIfNothingHolds_44 rfl (lv_at hl 1 rfl) ?_
          refine lv_iconst (v := 1) hx hb dD_releaseIfNothingHolds_45 (by decide) ?_
          obtain ⟨_, hq8⟩ := hR.dc hj
          refine x_calli (va_runV (As := [.int 1]) (rest := []) ⟨hx, hb, hml, hown, hB⟩ (c_D_isMarked hR hj 1) (cwV 1 hB (gV ml_D_33 im_D_isMarked sl_D_isMarked ini_D kc_D_isMarked) rfl rfl rfl (by decide +kernel) ⟨Nat.le_of_ble_eq_true rfl, Nat.le_of_ble_eq_true rfl⟩) (x_preV hP hK hD hq8 rfl) rfl rfl hl.1 rfl (lv_room (Nat.le_of_ble_eq_true rfl)) dD_releaseIfNothingHolds_46 ⟨Nat.le_of_ble_eq_true rfl, Nat.le_of_ble_eq_true rfl⟩) hD hS hA (fun r9 w H locs hw hP hD hS => ?_)
          obtain ⟨e10, rfl⟩ := hw
          refine lv_if_eq (tgt := 62) hx hb dD_releaseIfNothingHolds_49 (by decide) (fun c11 => ?_) (fun c11 => ?_)
          · exact x_vret hx hb hr hlocks (by have hR9 := hR; simp_all [fRelease, upf_eq, upf_upf, upf_self]) hP hK hD hS dD_releaseIfNothingHolds_62
          · refine lv_iload_n hx hb dD_releaseIfNothingHolds_52 rfl (lv_at hl 0 rfl) ?_
            refine lv_if_eq (tgt := 62) hx hb dD_releaseIfNothingHolds_53 (by decide) (fun c12 => absurd c12 (by decide)) (fun _ => ?_)
            refine lv_aload_n hx hb dD_releaseIfNothingHolds_56 rfl (lv_at hl 1 rfl) ?_
            refine lv_iconst (v := 4) hx hb dD_releaseIfNothingHolds_57 (by decide) ?_
            refine lv_iload_n hx hb dD_releaseIfNothingHolds_58 rfl (lv_at hl 2 rfl) ?_
            obtain ⟨_, hq13⟩ := hR.dc hj
            refine x_callv (va_runV (As := [.int 4, .int t]) (rest := []) ⟨hx, hb, hml, hown, hB⟩ (c_D_become hR hj 4 t) (cwV 2 hB (gV ml_D_37 im_D_become sl_D_become ini_D kc_D_become) rfl rfl rfl (by decide +kernel) ⟨Nat.le_of_ble_eq_true rfl, Nat.le_of_ble_eq_true rfl⟩) (x_preV hP hK hD hq13 rfl) rfl rfl hl.1 rfl (lv_room (Nat.le_of_ble_eq_true rfl)) dD_releaseIfNothingHolds_59 ⟨Nat.le_of_ble_eq_true rfl, Nat.le_of_ble_eq_true rfl⟩) hD hS hA (fun w H locs hw hP hD hS => ?_)
            have hR := hw
            exact x_vret hx hb hr hlocks (by have hR9 := hR; simp_all [fRelease, upf_eq, upf_upf, upf_self]) hP hK hD hS dD_releaseIfNothingHolds_62
  · refine lv_aload_n hx hb dD_releaseIfNothingHolds_7 rfl (lv_at hl 0 rfl) ?_
    refine lv_iconst (v := 2) hx hb dD_releaseIfNothingHolds_8 (by decide) ?_
    obtain ⟨_, hq16⟩ := hR.dc hj
    refine x_calli (va_runV (As := [.int 2]) (rest := []) ⟨hx, hb, hml, hown, hB⟩ (c_D_isMarked hR hj 2) (cwV 1 hB (gV ml_D_33 im_D_isMarked sl_D_isMarked ini_D kc_D_isMarked) rfl rfl rfl (by decide +kernel) ⟨Nat.le_of_ble_eq_true rfl, Nat.le_of_ble_eq_true rfl⟩) (x_preV hP hK hD hq16 rfl) rfl rfl hl.1 rfl (lv_room (Nat.le_of_ble_eq_true rfl)) dD_releaseIfNothingHolds_9 ⟨Nat.le_of_ble_eq_true rfl, Nat.le_of_ble_eq_true rfl⟩) hD hS hA (fun r17 w H locs hw hP hD hS => ?_)
    obtain ⟨e18, rfl⟩ := hw
    refine lv_if_eq (tgt := 19) hx hb dD_releaseIfNothingHolds_12 (by decide) (fun c19 => ?_) (fun c19 => ?_)
    · refine lv_iconst (v := 0) hx hb dD_releaseIfNothingHolds_19 (by decide) ?_
      refine lv_istore_n (lv' := [(2, .int 0), (0, .ref (dA j)), (1, .int t)]) hx hb dD_releaseIfNothingHolds_20 rfl hl (by decide) rfl (fun ls hl => ?_)
      refine lv_aload_n hx hb dD_releaseIfNothingHolds_21 rfl (lv_at hl 1 rfl) ?_
      refine x_getD 3 hj hx hb hB inBD hown hK hP hR (by decide) (hB _ fl_D_21) rfl dD_releaseIfNothingHolds_22 ?_
      refine lv_iconst (v := 2) hx hb dD_releaseIfNothingHolds_25 (by decide) ?_
      refine lv_icmp_ne (tgt := 62) hx hb dD_releaseIfNothingHolds_26 (by decide) (fun c20 => ?_) (fun c20 => ?_)
      · exact x_vret hx hb hr hlocks (by have hR9 := hR; simp_all [fRelease, upf_eq, upf_upf, upf_self]) hP hK hD hS dD_releaseIfNothingHolds_62
      · refine lv_aload_n hx hb dD_releaseIfNothingHolds_29 rfl (lv_at hl 1 rfl) ?_
        refine x_getD 5 hj hx hb hB inBD hown hK hP hR (by decide) (hB _ fl_D_30) rfl dD_releaseIfNothingHolds_30 ?_
        refine lv_if_ne (tgt := 62) hx hb dD_releaseIfNothingHolds_33 (by decide) (fun c21 => ?_) (fun c21 => ?_)
        · exact x_vret hx hb hr hlocks (by have hR9 := hR; simp_all [fRelease, upf_eq, upf_upf, upf_self]) hP hK hD hS dD_releaseIfNothingHolds_62
        · refine lv_aload_n hx hb dD_releaseIfNothingHolds_36 rfl (lv_at hl 1 rfl) ?_
          refine lv_iconst (v := 4) hx hb dD_releaseIfNothingHolds_37 (by decide) ?_
          obtain ⟨_, hq22⟩ := hR.dc hj
          refine x_calli (va_runV (As := [.int 4]) (rest := []) ⟨hx, hb, hml, hown, hB⟩ (c_D_isMarked hR hj 4) (cwV 1 hB (gV ml_D_33 im_D_isMarked sl_D_isMarked ini_D kc_D_isMarked) rfl rfl rfl (by decide +kernel) ⟨Nat.le_of_ble_eq_true rfl, Nat.le_of_ble_eq_true rfl⟩) (x_preV hP hK hD hq22 rfl) rfl rfl hl.1 rfl (lv_room (Nat.le_of_ble_eq_true rfl)) dD_releaseIfNothingHolds_38 ⟨Nat.le_of_ble_eq_true rfl, Nat.le_of_ble_eq_true rfl⟩) hD hS hA (fun r23 w H locs hw hP hD hS => ?_)
          obtain ⟨e24, rfl⟩ := hw
          refine lv_if_ne (tgt := 62) hx hb dD_releaseIfNothingHolds_41 (by decide) (fun c25 => ?_) (fun c25 => ?_)
          · exact x_vret hx hb hr hlocks (by have hR9 := hR; simp_all [fRelease, upf_eq, upf_upf, upf_self]) hP hK hD hS dD_releaseIfNothingHolds_62
          · refine lv_aload_n hx hb dD_releaseIfNothingHolds_44 rfl (lv_at hl 1 rfl) ?_
            refine lv_iconst (v := 1) hx hb dD_releaseIfNothingHolds_45 (by decide) ?_
            obtain ⟨_, hq26⟩ := hR.dc hj
            refine x_calli (va_runV (As := [.int 1]) (rest := []) ⟨hx, hb, hml, hown, hB⟩ (c_D_isMarked hR hj 1) (cwV 1 hB (gV ml_D_33 im_D_isMarked sl_D_isMarked ini_D kc_D_isMarked) rfl rfl rfl (by decide +kernel) ⟨Nat.le_of_ble_eq_true rfl, Nat.le_of_ble_eq_true rfl⟩) (x_preV hP hK hD hq26 rfl) rfl rfl hl.1 rfl (lv_room (Nat.le_of_ble_eq_true rfl)) dD_releaseIfNothingHolds_46 ⟨Nat.le_of_ble_eq_true rfl, Nat.le_of_ble_eq_true rfl⟩) hD hS hA (fun r27 w H locs hw hP hD hS => ?_)
            obtain ⟨e28, rfl⟩ := hw
            refine lv_if_eq (tgt := 62) hx hb dD_releaseIfNothingHolds_49 (by decide) (fun c29 => ?_) (fun c29 => ?_)
            · exact x_vret hx hb hr hlocks (by have hR9 := hR; simp_all [fRelease, upf_eq, upf_upf, upf_self]) hP hK hD hS dD_releaseIfNothingHolds_62
            · refine lv_iload_n hx hb dD_releaseIfNothingHolds_52 rfl (lv_at hl 0 rfl) ?_
              refine lv_if_eq (tgt := 62) hx hb dD_releaseIfNothingHolds_53 (by decide) (fun _ => ?_) (fun c30 => absurd c30 (by decide))
              exact x_vret hx hb hr hlocks (by have hR9 := hR; simp_all [fRelease, upf_eq, upf_upf, upf_self]) hP hK hD hS dD_releaseIfNothingHolds_62
    · refine lv_iconst (v := 1) hx hb dD_releaseIfNothingHolds_15 (by decide) ?_
      refine lv_goto (tgt := 20) hx hb dD_releaseIfNothingHolds_16 (by decide) ?_
      refine lv_istore_n (lv' := [(2, .int 1), (0, .ref (dA j)), (1, .int t)]) hx hb dD_releaseIfNothingHolds_20 rfl hl (by decide) rfl (fun ls hl => ?_)
      refine lv_aload_n hx hb dD_releaseIfNothingHolds_21 rfl (lv_at hl 1 rfl) ?_
      refine x_getD 3 hj hx hb hB inBD hown hK hP hR (by decide) (hB _ fl_D_21) rfl dD_releaseIfNothingHolds_22 ?_
      refine lv_iconst (v := 2) hx hb dD_releaseIfNothingHolds_25 (by decide) ?_
      refine lv_icmp_ne (tgt := 62) hx hb dD_releaseIfNothingHolds_26 (by decide) (fun c31 => ?_) (fun c31 => ?_)
      · exact x_vret hx hb hr hlocks (by have hR9 := hR; simp_all [fRelease, upf_eq, upf_upf, upf_self]) hP hK hD hS dD_releaseIfNothingHolds_62
      · refine lv_aload_n hx hb dD_releaseIfNothingHolds_29 rfl (lv_at hl 1 rfl) ?_
        refine x_getD 5 hj hx hb hB inBD hown hK hP hR (by decide) (hB _ fl_D_30) rfl dD_releaseIfNothingHolds_30 ?_
        refine lv_if_ne (tgt := 62) hx hb dD_releaseIfNothingHolds_33 (by decide) (fun c32 => ?_) (fun c32 => ?_)
        · exact x_vret hx hb hr hlocks (by have hR9 := hR; simp_all [fRelease, upf_eq, upf_upf, upf_self]) hP hK hD hS dD_releaseIfNothingHolds_62
        · refine lv_aload_n hx hb dD_releaseIfNothingHolds_36 rfl (lv_at hl 1 rfl) ?_
          refine lv_iconst (v := 4) hx hb dD_releaseIfNothingHolds_37 (by decide) ?_
          obtain ⟨_, hq33⟩ := hR.dc hj
          refine x_calli (va_runV (As := [.int 4]) (rest := []) ⟨hx, hb, hml, hown, hB⟩ (c_D_isMarked hR hj 4) (cwV 1 hB (gV ml_D_33 im_D_isMarked sl_D_isMarked ini_D kc_D_isMarked) rfl rfl rfl (by decide +kernel) ⟨Nat.le_of_ble_eq_true rfl, Nat.le_of_ble_eq_true rfl⟩) (x_preV hP hK hD hq33 rfl) rfl rfl hl.1 rfl (lv_room (Nat.le_of_ble_eq_true rfl)) dD_releaseIfNothingHolds_38 ⟨Nat.le_of_ble_eq_true rfl, Nat.le_of_ble_eq_true rfl⟩) hD hS hA (fun r34 w H locs hw hP hD hS => ?_)
          obtain ⟨e35, rfl⟩ := hw
          refine lv_if_ne (tgt := 62) hx hb dD_releaseIfNothingHolds_41 (by decide) (fun c36 => ?_) (fun c36 => ?_)
          · exact x_vret hx hb hr hlocks (by have hR9 := hR; simp_all [fRelease, upf_eq, upf_upf, upf_self]) hP hK hD hS dD_releaseIfNothingHolds_62
          · refine lv_aload_n hx hb dD_releaseIfNothingHolds_44 rfl (lv_at hl 1 rfl) ?_
            refine lv_iconst (v := 1) hx hb dD_releaseIfNothingHolds_45 (by decide) ?_
            obtain ⟨_, hq37⟩ := hR.dc hj
            refine x_calli (va_runV (As := [.int 1]) (rest := []) ⟨hx, hb, hml, hown, hB⟩ (c_D_isMarked hR hj 1) (cwV 1 hB (gV ml_D_33 im_D_isMarked sl_D_isMarked ini_D kc_D_isMarked) rfl rfl rfl (by decide +kernel) ⟨Nat.le_of_ble_eq_true rfl, Nat.le_of_ble_eq_true rfl⟩) (x_preV hP hK hD hq37 rfl) rfl rfl hl.1 rfl (lv_room (Nat.le_of_ble_eq_true rfl)) dD_releaseIfNothingHolds_46 ⟨Nat.le_of_ble_eq_true rfl, Nat.le_of_ble_eq_true rfl⟩) hD hS hA (fun r38 w H locs hw hP hD hS => ?_)
            obtain ⟨e39, rfl⟩ := hw
            refine lv_if_eq (tgt := 62) hx hb dD_releaseIfNothingHolds_49 (by decide) (fun c40 => ?_) (fun c40 => ?_)
            · exact x_vret hx hb hr hlocks (by have hR9 := hR; simp_all [fRelease, upf_eq, upf_upf, upf_self]) hP hK hD hS dD_releaseIfNothingHolds_62
            · refine lv_iload_n hx hb dD_releaseIfNothingHolds_52 rfl (lv_at hl 0 rfl) ?_
              refine lv_if_eq (tgt := 62) hx hb dD_releaseIfNothingHolds_53 (by decide) (fun c41 => absurd c41 (by decide)) (fun _ => ?_)
              refine lv_aload_n hx hb dD_releaseIfNothingHolds_56 rfl (lv_at hl 1 rfl) ?_
              refine lv_iconst (v := 4) hx hb dD_releaseIfNothingHolds_57 (by decide) ?_
              refine lv_iload_n hx hb dD_releaseIfNothingHolds_58 rfl (lv_at hl 2 rfl) ?_
              obtain ⟨_, hq42⟩ := hR.dc hj
              refine x_callv (va_runV (As := [.int 4, .int t]) (rest := []) ⟨hx, hb, hml, hown, hB⟩ (c_D_become hR hj 4 t) (cwV 2 hB (gV ml_D_37 im_D_become sl_D_become ini_D kc_D_become) rfl rfl rfl (by decide +kernel) ⟨Nat.le_of_ble_eq_true rfl, Nat.le_of_ble_eq_true rfl⟩) (x_preV hP hK hD hq42 rfl) rfl rfl hl.1 rfl (lv_room (Nat.le_of_ble_eq_true rfl)) dD_releaseIfNothingHolds_59 ⟨Nat.le_of_ble_eq_true rfl, Nat.le_of_ble_eq_true rfl⟩) hD hS hA (fun w H locs hw hP hD hS => ?_)
              have hR := hw
              exact x_vret hx hb hr hlocks (by have hR9 := hR; simp_all [fRelease, upf_eq, upf_upf, upf_self]) hP hK hD hS dD_releaseIfNothingHolds_62
set_option maxHeartbeats 4000000 in
set_option maxRecDepth 100000 in
theorem c_D_invalidateFor {l : Launch} {G : va_G} {cI cD cE : ClassId} {aX aR aD aE : Nat} {dA eA : Nat → Nat} {g ro : Nat → Int32} {fst : Option Nat} {nD nE : Nat} {d : Nat → Nat → Int32} {fw lw : Nat → Option Nat} {ed : Nat → Nat} {ev : Nat → Nat → Int32} {nx : Nat → Option Nat} {w : va_W} {sz : Nat} (hR : RX cI cD cE aX aR aD aE dA eA g ro fst nD nE d fw lw ed ev nx w) {j : Nat} (hj : j < nD) (why : Int32) (t : Int32) : xMi l yD_invalidateFor wsD_invalidateFor ({ frames := 1, cells := 0, slots := 0, locals := 22 }) [.ref (dA j), .int why, .int t] G (xTys cI cD cE) w sz (fun r w' => r = 1 ∧ RX cI cD cE aX aR aD aE dA eA g ro fst nD nE (upf d j (fInv (d j) why t)) fw lw ed ev nx w') 0 0 := by
  refine x_ofW (fun A => va_Qi (fun r w' => r = 1 ∧ RX cI cD cE aX aR aD aE dA eA g ro fst nD nE (upf d j (fInv (d j) why t)) fw lw ed ev nx w') (xEnd G (xTys cI cD cE) A) A) cD_invalidateFor 3 (some .int) (by decide) rfl (Nat.le_of_ble_eq_true rfl) ?_
  intro p e s m below meth c A ls hx hb hr hlocks hml hnm hown hB hA hP hK hD hS hl
  have hl : lv_has ls 3 [(0, .ref (dA j)), (1, .int why), (2, .int t)] := hl
  have hown : s.vm.findClass NmD = some m.cls := hown
  refine lv_aload_n hx hb dD_invalidateFor_0 rfl (lv_at hl 0 rfl) ?_
  refine lv_iload_n hx hb dD_invalidateFor_1 rfl (lv_at hl 1 rfl) ?_
  refine x_putD 8 why hj hx hb hB inBD hown hK hP hD hS hR (by decide) (hB _ fl_D_53) rfl rfl (by decide +kernel) dD_invalidateFor_2 (fun w H locs hR hP hD hS => ?_)
  refine lv_aload_n hx hb dD_invalidateFor_5 rfl (lv_at hl 0 rfl) ?_
  refine lv_bipush (v := 6) hx hb dD_invalidateFor_6 (by decide) ?_
  refine lv_iload_n hx hb dD_invalidateFor_8 rfl (lv_at hl 2 rfl) ?_
  obtain ⟨_, hq1⟩ := hR.dc hj
  refine x_callv (va_runV (As := [.int 6, .int t]) (rest := []) ⟨hx, hb, hml, hown, hB⟩ (c_D_become hR hj 6 t) (cwV 2 hB (gV ml_D_37 im_D_become sl_D_become ini_D kc_D_become) rfl rfl rfl (by decide +kernel) ⟨Nat.le_of_ble_eq_true rfl, Nat.le_of_ble_eq_true rfl⟩) (x_preV hP hK hD hq1 rfl) rfl rfl hl.1 rfl (lv_room (Nat.le_of_ble_eq_true rfl)) dD_invalidateFor_9 ⟨Nat.le_of_ble_eq_true rfl, Nat.le_of_ble_eq_true rfl⟩) hD hS hA (fun w H locs hw hP hD hS => ?_)
  have hR := hw
  refine lv_iconst (v := 1) hx hb dD_invalidateFor_12 (by decide) ?_
  exact x_iret (v := 1) hx hb hr hlocks ⟨by first | (simp [fInv, upf_eq, upf_upf, upf_self]; done) | simp_all [fInv, upf_eq, upf_upf, upf_self], (by first | (simpa [fInv, upf_eq, upf_upf, upf_self] using hR) | (have hR9 := hR; simp_all [fInv, upf_eq, upf_upf, upf_self]))⟩ hP hK hD hS dD_invalidateFor_13
set_option maxHeartbeats 4000000 in
set_option maxRecDepth 100000 in
theorem c_D_requestAsOneOfTwo {l : Launch} {G : va_G} {cI cD cE : ClassId} {aX aR aD aE : Nat} {dA eA : Nat → Nat} {g ro : Nat → Int32} {fst : Option Nat} {nD nE : Nat} {d : Nat → Nat → Int32} {fw lw : Nat → Option Nat} {ed : Nat → Nat} {ev : Nat → Nat → Int32} {nx : Nat → Option Nat} {w : va_W} {sz : Nat} (hR : RX cI cD cE aX aR aD aE dA eA g ro fst nD nE d fw lw ed ev nx w) {j : Nat} (hj : j < nD) (who : Int32) (why : Int32) (t : Int32) : xMi l yD_requestAsOneOfTwo wsD_requestAsOneOfTwo ({ frames := 2, cells := 0, slots := 0, locals := 44 }) [.ref (dA j), .int who, .int why, .int t] G (xTys cI cD cE) w sz (fun r w' => r = fTwoR (d j) who ∧ RX cI cD cE aX aR aD aE dA eA g ro fst nD nE (upf d j (fTwo (d j) who why t)) fw lw ed ev nx w') 0 0 := by
  refine x_ofW (fun A => va_Qi (fun r w' => r = fTwoR (d j) who ∧ RX cI cD cE aX aR aD aE dA eA g ro fst nD nE (upf d j (fTwo (d j) who why t)) fw lw ed ev nx w') (xEnd G (xTys cI cD cE) A) A) cD_requestAsOneOfTwo 4 (some .int) (by decide) rfl (Nat.le_of_ble_eq_true rfl) ?_
  intro p e s m below meth c A ls hx hb hr hlocks hml hnm hown hB hA hP hK hD hS hl
  have hl : lv_has ls 4 [(0, .ref (dA j)), (1, .int who), (2, .int why), (3, .int t)] := hl
  have hown : s.vm.findClass NmD = some m.cls := hown
  refine lv_aload_n hx hb dD_requestAsOneOfTwo_0 rfl (lv_at hl 0 rfl) ?_
  refine x_getD 7 hj hx hb hB inBD hown hK hP hR (by decide) (hB _ fl_D_24) rfl dD_requestAsOneOfTwo_1 ?_
  refine lv_iconst (v := (-1)) hx hb dD_requestAsOneOfTwo_4 (by decide) ?_
  refine lv_icmp_ne (tgt := 15) hx hb dD_requestAsOneOfTwo_5 (by decide) (fun c1 => ?_) (fun c1 => ?_)
  · refine lv_aload_n hx hb dD_requestAsOneOfTwo_15 rfl (lv_at hl 0 rfl) ?_
    refine x_getD 7 hj hx hb hB inBD hown hK hP hR (by decide) (hB _ fl_D_24) rfl dD_requestAsOneOfTwo_16 ?_
    refine lv_iload_n hx hb dD_requestAsOneOfTwo_19 rfl (lv_at hl 1 rfl) ?_
    refine lv_icmp_ne (tgt := 27) hx hb dD_requestAsOneOfTwo_20 (by decide) (fun c2 => ?_) (fun c2 => ?_)
    · refine lv_aload_n hx hb dD_requestAsOneOfTwo_27 rfl (lv_at hl 0 rfl) ?_
      refine lv_iload_n hx hb dD_requestAsOneOfTwo_28 rfl (lv_at hl 2 rfl) ?_
      refine lv_iload_n hx hb dD_requestAsOneOfTwo_29 rfl (lv_at hl 3 rfl) ?_
      obtain ⟨_, hq3⟩ := hR.dc hj
      refine x_calli (va_runV (As := [.int why, .int t]) (rest := []) ⟨hx, hb, hml, hown, hB⟩ (c_D_invalidateFor hR hj why t) (cwV 2 hB (gV ml_D_45 im_D_invalidateFor sl_D_invalidateFor ini_D kc_D_invalidateFor) rfl rfl rfl (by decide +kernel) ⟨Nat.le_of_ble_eq_true rfl, Nat.le_of_ble_eq_true rfl⟩) (x_preV hP hK hD hq3 rfl) rfl rfl hl.1 rfl (lv_room (Nat.le_of_ble_eq_true rfl)) dD_requestAsOneOfTwo_30 ⟨Nat.le_of_ble_eq_true rfl, Nat.le_of_ble_eq_true rfl⟩) hD hS hA (fun r4 w H locs hw hP hD hS => ?_)
      obtain ⟨e5, hR⟩ := hw
      exact x_iret (v := r4) hx hb hr hlocks ⟨by first | (simp [fTwo, fTwoR, upf_eq, upf_upf, upf_self, c1, c2, e5]; done) | simp_all [fTwo, fTwoR, upf_eq, upf_upf, upf_self], (by first | (simpa [fTwo, fTwoR, upf_eq, upf_upf, upf_self, c1, c2, e5] using hR) | (have hR9 := hR; simp_all [fTwo, fTwoR, upf_eq, upf_upf, upf_self]))⟩ hP hK hD hS dD_requestAsOneOfTwo_33
    · refine lv_iconst (v := 0) hx hb dD_requestAsOneOfTwo_23 (by decide) ?_
      refine lv_goto (tgt := 33) hx hb dD_requestAsOneOfTwo_24 (by decide) ?_
      exact x_iret (v := 0) hx hb hr hlocks ⟨by first | (simp [fTwo, fTwoR, upf_eq, upf_upf, upf_self, c1, c2]; done) | simp_all [fTwo, fTwoR, upf_eq, upf_upf, upf_self], (by first | (simpa [fTwo, fTwoR, upf_eq, upf_upf, upf_self, c1, c2] using hR) | (have hR9 := hR; simp_all [fTwo, fTwoR, upf_eq, upf_upf, upf_self]))⟩ hP hK hD hS dD_requestAsOneOfTwo_33
  · refine lv_aload_n hx hb dD_requestAsOneOfTwo_8 rfl (lv_at hl 0 rfl) ?_
    refine lv_iload_n hx hb dD_requestAsOneOfTwo_9 rfl (lv_at hl 1 rfl) ?_
    refine x_putD 7 who hj hx hb hB inBD hown hK hP hD hS hR (by decide) (hB _ fl_D_24) rfl rfl (by decide +kernel) dD_requestAsOneOfTwo_10 (fun w H locs hR hP hD hS => ?_)
    refine lv_iconst (v := 2) hx hb dD_requestAsOneOfTwo_13 (by decide) ?_
    exact x_iret (v := 2) hx hb hr hlocks ⟨by first | (simp [fTwo, fTwoR, upf_eq, upf_upf, upf_self, c1]; done) | simp_all [fTwo, fTwoR, upf_eq, upf_upf, upf_self], (by first | (simpa [fTwo, fTwoR, upf_eq, upf_upf, upf_self, c1] using hR) | (have hR9 := hR; simp_all [fTwo, fTwoR, upf_eq, upf_upf, upf_self]))⟩ hP hK hD hS dD_requestAsOneOfTwo_14
set_option maxHeartbeats 4000000 in
set_option maxRecDepth 100000 in
theorem c_D_requestInvalidation {l : Launch} {G : va_G} {cI cD cE : ClassId} {aX aR aD aE : Nat} {dA eA : Nat → Nat} {g ro : Nat → Int32} {fst : Option Nat} {nD nE : Nat} {d : Nat → Nat → Int32} {fw lw : Nat → Option Nat} {ed : Nat → Nat} {ev : Nat → Nat → Int32} {nx : Nat → Option Nat} {w : va_W} {sz : Nat} (hR : RX cI cD cE aX aR aD aE dA eA g ro fst nD nE d fw lw ed ev nx w) {j : Nat} (hj : j < nD) (who : Int32) (why : Int32) (t : Int32) : xMi l yD_requestInvalidation wsD_requestInvalidation ({ frames := 3, cells := 0, slots := 0, locals := 67 }) [.ref (dA j), .int who, .int why, .int t] G (xTys cI cD cE) w sz (fun r w' => r = fReqR (d j) who why ∧ RX cI cD cE aX aR aD aE dA eA g ro fst nD nE (upf d j (fReq (d j) who why t)) fw lw ed ev nx w') 0 0 := by
  refine x_ofW (fun A => va_Qi (fun r w' => r = fReqR (d j) who why ∧ RX cI cD cE aX aR aD aE dA eA g ro fst nD nE (upf d j (fReq (d j) who why t)) fw lw ed ev nx w') (xEnd G (xTys cI cD cE) A) A) cD_requestInvalidation 4 (some .int) (by decide) rfl (Nat.le_of_ble_eq_true rfl) ?_
  intro p e s m below meth c A ls hx hb hr hlocks hml hnm hown hB hA hP hK hD hS hl
  have hl : lv_has ls 4 [(0, .ref (dA j)), (1, .int who), (2, .int why), (3, .int t)] := hl
  have hown : s.vm.findClass NmD = some m.cls := hown
  refine lv_aload_n hx hb dD_requestInvalidation_0 rfl (lv_at hl 0 rfl) ?_
  refine x_getD 3 hj hx hb hB inBD hown hK hP hR (by decide) (hB _ fl_D_21) rfl dD_requestInvalidation_1 ?_
  rcases x_sw0_4 (d j 3) with h1 | h2 | h3 | h4 | h5 | h6
  · refine lv_tableIn (tgt := 40) hx hb dD_requestInvalidation_4 (by rw [h1]; decide) (by rw [h1]; decide) (by rw [h1]; rfl) (by decide) ?_
    refine lv_aload_n hx hb dD_requestInvalidation_40 rfl (lv_at hl 0 rfl) ?_
    refine lv_iload_n hx hb dD_requestInvalidation_41 rfl (lv_at hl 2 rfl) ?_
    refine lv_iload_n hx hb dD_requestInvalidation_42 rfl (lv_at hl 3 rfl) ?_
    obtain ⟨_, hq7⟩ := hR.dc hj
    refine x_calli (va_runV (As := [.int why, .int t]) (rest := []) ⟨hx, hb, hml, hown, hB⟩ (c_D_invalidateFor hR hj why t) (cwV 2 hB (gV ml_D_45 im_D_invalidateFor sl_D_invalidateFor ini_D kc_D_invalidateFor) rfl rfl rfl (by decide +kernel) ⟨Nat.le_of_ble_eq_true rfl, Nat.le_of_ble_eq_true rfl⟩) (x_preV hP hK hD hq7 rfl) rfl rfl hl.1 rfl (lv_room (Nat.le_of_ble_eq_true rfl)) dD_requestInvalidation_43 ⟨Nat.le_of_ble_eq_true rfl, Nat.le_of_ble_eq_true rfl⟩) hD hS hA (fun r8 w H locs hw hP hD hS => ?_)
    obtain ⟨e9, hR⟩ := hw
    exact x_iret (v := r8) hx hb hr hlocks ⟨by first | (simp [fReq, fReqR, upf_eq, upf_upf, upf_self, h1, e9]; done) | simp_all [fReq, fReqR, upf_eq, upf_upf, upf_self], (by first | (simpa [fReq, fReqR, upf_eq, upf_upf, upf_self, h1, e9] using hR) | (have hR9 := hR; simp_all [fReq, fReqR, upf_eq, upf_upf, upf_self]))⟩ hP hK hD hS dD_requestInvalidation_46
  · refine lv_tableIn (tgt := 40) hx hb dD_requestInvalidation_4 (by rw [h2]; decide) (by rw [h2]; decide) (by rw [h2]; rfl) (by decide) ?_
    refine lv_aload_n hx hb dD_requestInvalidation_40 rfl (lv_at hl 0 rfl) ?_
    refine lv_iload_n hx hb dD_requestInvalidation_41 rfl (lv_at hl 2 rfl) ?_
    refine lv_iload_n hx hb dD_requestInvalidation_42 rfl (lv_at hl 3 rfl) ?_
    obtain ⟨_, hq10⟩ := hR.dc hj
    refine x_calli (va_runV (As := [.int why, .int t]) (rest := []) ⟨hx, hb, hml, hown, hB⟩ (c_D_invalidateFor hR hj why t) (cwV 2 hB (gV ml_D_45 im_D_invalidateFor sl_D_invalidateFor ini_D kc_D_invalidateFor) rfl rfl rfl (by decide +kernel) ⟨Nat.le_of_ble_eq_true rfl, Nat.le_of_ble_eq_true rfl⟩) (x_preV hP hK hD hq10 rfl) rfl rfl hl.1 rfl (lv_room (Nat.le_of_ble_eq_true rfl)) dD_requestInvalidation_43 ⟨Nat.le_of_ble_eq_true rfl, Nat.le_of_ble_eq_true rfl⟩) hD hS hA (fun r11 w H locs hw hP hD hS => ?_)
    obtain ⟨e12, hR⟩ := hw
    exact x_iret (v := r11) hx hb hr hlocks ⟨by first | (simp [fReq, fReqR, upf_eq, upf_upf, upf_self, h2, e12]; done) | simp_all [fReq, fReqR, upf_eq, upf_upf, upf_self], (by first | (simpa [fReq, fReqR, upf_eq, upf_upf, upf_self, h2, e12] using hR) | (have hR9 := hR; simp_all [fReq, fReqR, upf_eq, upf_upf, upf_self]))⟩ hP hK hD hS dD_requestInvalidation_46
  · refine lv_tableIn (tgt := 47) hx hb dD_requestInvalidation_4 (by rw [h3]; decide) (by rw [h3]; decide) (by rw [h3]; rfl) (by decide) ?_
    refine lv_iload_n hx hb dD_requestInvalidation_47 rfl (lv_at hl 2 rfl) ?_
    refine lv_if_ne (tgt := 55) hx hb dD_requestInvalidation_48 (by decide) (fun c13 => ?_) (fun c13 => ?_)
    · refine lv_aload_n hx hb dD_requestInvalidation_55 rfl (lv_at hl 0 rfl) ?_
      refine lv_iload_n hx hb dD_requestInvalidation_56 rfl (lv_at hl 2 rfl) ?_
      refine lv_iload_n hx hb dD_requestInvalidation_57 rfl (lv_at hl 3 rfl) ?_
      obtain ⟨_, hq14⟩ := hR.dc hj
      refine x_calli (va_runV (As := [.int why, .int t]) (rest := []) ⟨hx, hb, hml, hown, hB⟩ (c_D_invalidateFor hR hj why t) (cwV 2 hB (gV ml_D_45 im_D_invalidateFor sl_D_invalidateFor ini_D kc_D_invalidateFor) rfl rfl rfl (by decide +kernel) ⟨Nat.le_of_ble_eq_true rfl, Nat.le_of_ble_eq_true rfl⟩) (x_preV hP hK hD hq14 rfl) rfl rfl hl.1 rfl (lv_room (Nat.le_of_ble_eq_true rfl)) dD_requestInvalidation_58 ⟨Nat.le_of_ble_eq_true rfl, Nat.le_of_ble_eq_true rfl⟩) hD hS hA (fun r15 w H locs hw hP hD hS => ?_)
      obtain ⟨e16, hR⟩ := hw
      exact x_iret (v := r15) hx hb hr hlocks ⟨by first | (simp [fReq, fReqR, upf_eq, upf_upf, upf_self, h3, c13, e16]; done) | simp_all [fReq, fReqR, upf_eq, upf_upf, upf_self], (by first | (simpa [fReq, fReqR, upf_eq, upf_upf, upf_self, h3, c13, e16] using hR) | (have hR9 := hR; simp_all [fReq, fReqR, upf_eq, upf_upf, upf_self]))⟩ hP hK hD hS dD_requestInvalidation_61
    · refine lv_iconst (v := 0) hx hb dD_requestInvalidation_51 (by decide) ?_
      refine lv_goto (tgt := 61) hx hb dD_requestInvalidation_52 (by decide) ?_
      exact x_iret (v := 0) hx hb hr hlocks ⟨by first | (simp [fReq, fReqR, upf_eq, upf_upf, upf_self, h3, c13]; done) | simp_all [fReq, fReqR, upf_eq, upf_upf, upf_self], (by first | (simpa [fReq, fReqR, upf_eq, upf_upf, upf_self, h3, c13] using hR) | (have hR9 := hR; simp_all [fReq, fReqR, upf_eq, upf_upf, upf_self]))⟩ hP hK hD hS dD_requestInvalidation_61
  · refine lv_tableIn (tgt := 47) hx hb dD_requestInvalidation_4 (by rw [h4]; decide) (by rw [h4]; decide) (by rw [h4]; rfl) (by decide) ?_
    refine lv_iload_n hx hb dD_requestInvalidation_47 rfl (lv_at hl 2 rfl) ?_
    refine lv_if_ne (tgt := 55) hx hb dD_requestInvalidation_48 (by decide) (fun c17 => ?_) (fun c17 => ?_)
    · refine lv_aload_n hx hb dD_requestInvalidation_55 rfl (lv_at hl 0 rfl) ?_
      refine lv_iload_n hx hb dD_requestInvalidation_56 rfl (lv_at hl 2 rfl) ?_
      refine lv_iload_n hx hb dD_requestInvalidation_57 rfl (lv_at hl 3 rfl) ?_
      obtain ⟨_, hq18⟩ := hR.dc hj
      refine x_calli (va_runV (As := [.int why, .int t]) (rest := []) ⟨hx, hb, hml, hown, hB⟩ (c_D_invalidateFor hR hj why t) (cwV 2 hB (gV ml_D_45 im_D_invalidateFor sl_D_invalidateFor ini_D kc_D_invalidateFor) rfl rfl rfl (by decide +kernel) ⟨Nat.le_of_ble_eq_true rfl, Nat.le_of_ble_eq_true rfl⟩) (x_preV hP hK hD hq18 rfl) rfl rfl hl.1 rfl (lv_room (Nat.le_of_ble_eq_true rfl)) dD_requestInvalidation_58 ⟨Nat.le_of_ble_eq_true rfl, Nat.le_of_ble_eq_true rfl⟩) hD hS hA (fun r19 w H locs hw hP hD hS => ?_)
      obtain ⟨e20, hR⟩ := hw
      exact x_iret (v := r19) hx hb hr hlocks ⟨by first | (simp [fReq, fReqR, upf_eq, upf_upf, upf_self, h4, c17, e20]; done) | simp_all [fReq, fReqR, upf_eq, upf_upf, upf_self], (by first | (simpa [fReq, fReqR, upf_eq, upf_upf, upf_self, h4, c17, e20] using hR) | (have hR9 := hR; simp_all [fReq, fReqR, upf_eq, upf_upf, upf_self]))⟩ hP hK hD hS dD_requestInvalidation_61
    · refine lv_iconst (v := 0) hx hb dD_requestInvalidation_51 (by decide) ?_
      refine lv_goto (tgt := 61) hx hb dD_requestInvalidation_52 (by decide) ?_
      exact x_iret (v := 0) hx hb hr hlocks ⟨by first | (simp [fReq, fReqR, upf_eq, upf_upf, upf_self, h4, c17]; done) | simp_all [fReq, fReqR, upf_eq, upf_upf, upf_self], (by first | (simpa [fReq, fReqR, upf_eq, upf_upf, upf_self, h4, c17] using hR) | (have hR9 := hR; simp_all [fReq, fReqR, upf_eq, upf_upf, upf_self]))⟩ hP hK hD hS dD_requestInvalidation_61
  · refine lv_tableIn (tgt := 62) hx hb dD_requestInvalidation_4 (by rw [h5]; decide) (by rw [h5]; decide) (by rw [h5]; rfl) (by decide) ?_
    refine lv_iload_n hx hb dD_requestInvalidation_62 rfl (lv_at hl 2 rfl) ?_
    refine lv_if_ne (tgt := 70) hx hb dD_requestInvalidation_63 (by decide) (fun c21 => ?_) (fun c21 => ?_)
    · refine lv_aload_n hx hb dD_requestInvalidation_70 rfl (lv_at hl 0 rfl) ?_
      refine lv_iload_n hx hb dD_requestInvalidation_71 rfl (lv_at hl 1 rfl) ?_
      refine lv_iload_n hx hb dD_requestInvalidation_72 rfl (lv_at hl 2 rfl) ?_
      refine lv_iload_n hx hb dD_requestInvalidation_73 rfl (lv_at hl 3 rfl) ?_
      obtain ⟨_, hq22⟩ := hR.dc hj
      refine x_calli (va_runV (As := [.int who, .int why, .int t]) (rest := []) ⟨hx, hb, hml, hown, hB⟩ (c_D_requestAsOneOfTwo hR hj who why t) (cwV 3 hB (gV ml_D_49 im_D_requestAsOneOfTwo sl_D_requestAsOneOfTwo ini_D kc_D_requestAsOneOfTwo) rfl rfl rfl (by decide +kernel) ⟨Nat.le_of_ble_eq_true rfl, Nat.le_of_ble_eq_true rfl⟩) (x_preV hP hK hD hq22 rfl) rfl rfl hl.1 rfl (lv_room (Nat.le_of_ble_eq_true rfl)) dD_requestInvalidation_74 ⟨Nat.le_of_ble_eq_true rfl, Nat.le_of_ble_eq_true rfl⟩) hD hS hA (fun r23 w H locs hw hP hD hS => ?_)
      obtain ⟨e24, hR⟩ := hw
      exact x_iret (v := r23) hx hb hr hlocks ⟨by first | (simp [fReq, fReqR, upf_eq, upf_upf, upf_self, h5, c21, e24]; done) | simp_all [fReq, fReqR, upf_eq, upf_upf, upf_self], (by first | (simpa [fReq, fReqR, upf_eq, upf_upf, upf_self, h5, c21, e24] using hR) | (have hR9 := hR; simp_all [fReq, fReqR, upf_eq, upf_upf, upf_self]))⟩ hP hK hD hS dD_requestInvalidation_77
    · refine lv_iconst (v := 0) hx hb dD_requestInvalidation_66 (by decide) ?_
      refine lv_goto (tgt := 77) hx hb dD_requestInvalidation_67 (by decide) ?_
      exact x_iret (v := 0) hx hb hr hlocks ⟨by first | (simp [fReq, fReqR, upf_eq, upf_upf, upf_self, h5, c21]; done) | simp_all [fReq, fReqR, upf_eq, upf_upf, upf_self], (by first | (simpa [fReq, fReqR, upf_eq, upf_upf, upf_self, h5, c21] using hR) | (have hR9 := hR; simp_all [fReq, fReqR, upf_eq, upf_upf, upf_self]))⟩ hP hK hD hS dD_requestInvalidation_77
  · refine lv_tableOut (tgt := 78) hx hb dD_requestInvalidation_4 h6.1 (by decide) ?_
    refine lv_iconst (v := 0) hx hb dD_requestInvalidation_78 (by decide) ?_
    exact x_iret (v := 0) hx hb hr hlocks ⟨by first | (simp [fReq, fReqR, upf_eq, upf_upf, upf_self, h6.2]; done) | simp_all [fReq, fReqR, upf_eq, upf_upf, upf_self], (by first | (simpa [fReq, fReqR, upf_eq, upf_upf, upf_self, h6.2] using hR) | (have hR9 := hR; simp_all [fReq, fReqR, upf_eq, upf_upf, upf_self]))⟩ hP hK hD hS dD_requestInvalidation_79
set_option maxHeartbeats 4000000 in
set_option maxRecDepth 100000 in
theorem c_D_carryOut {l : Launch} {G : va_G} {cI cD cE : ClassId} {aX aR aD aE : Nat} {dA eA : Nat → Nat} {g ro : Nat → Int32} {fst : Option Nat} {nD nE : Nat} {d : Nat → Nat → Int32} {fw lw : Nat → Option Nat} {ed : Nat → Nat} {ev : Nat → Nat → Int32} {nx : Nat → Option Nat} {w : va_W} {sz : Nat} (hR : RX cI cD cE aX aR aD aE dA eA g ro fst nD nE d fw lw ed ev nx w) {j : Nat} (hj : j < nD) (act : Int32) (t : Int32) : xMv l yD_carryOut wsD_carryOut ({ frames := 2, cells := 0, slots := 0, locals := 44 }) [.ref (dA j), .int act, .int t] G (xTys cI cD cE) w sz (fun w' => RX cI cD cE aX aR aD aE dA eA g ro fst nD nE (upf d j (fCarry (d j) act t)) fw lw ed ev nx w') 0 0 := by
  refine x_ofW (fun A => va_Qv (fun w' => RX cI cD cE aX aR aD aE dA eA g ro fst nD nE (upf d j (fCarry (d j) act t)) fw lw ed ev nx w') (xEnd G (xTys cI cD cE) A) A) cD_carryOut 3 none (by decide) rfl (Nat.le_of_ble_eq_true rfl) ?_
  intro p e s m below meth c A ls hx hb hr hlocks hml hnm hown hB hA hP hK hD hS hl
  have hl : lv_has ls 3 [(0, .ref (dA j)), (1, .int act), (2, .int t)] := hl
  have hown : s.vm.findClass NmD = some m.cls := hown
  refine lv_iload_n hx hb dD_carryOut_0 rfl (lv_at hl 1 rfl) ?_
  rcases x_sw0_9 act with h1 | h2 | h3 | h4 | h5 | h6 | h7 | h8 | h9 | h10 | h11
  · refine lv_tableIn (tgt := 56) hx hb dD_carryOut_1 (by rw [h1]; decide) (by rw [h1]; decide) (by rw [h1]; rfl) (by decide) ?_
    refine lv_aload_n hx hb dD_carryOut_56 rfl (lv_at hl 0 rfl) ?_
    refine lv_iconst (v := 1) hx hb dD_carryOut_57 (by decide) ?_
    refine lv_iload_n hx hb dD_carryOut_58 rfl (lv_at hl 2 rfl) ?_
    obtain ⟨_, hq12⟩ := hR.dc hj
    refine x_callv (va_runV (As := [.int 1, .int t]) (rest := []) ⟨hx, hb, hml, hown, hB⟩ (c_D_become hR hj 1 t) (cwV 2 hB (gV ml_D_37 im_D_become sl_D_become ini_D kc_D_become) rfl rfl rfl (by decide +kernel) ⟨Nat.le_of_ble_eq_true rfl, Nat.le_of_ble_eq_true rfl⟩) (x_preV hP hK hD hq12 rfl) rfl rfl hl.1 rfl (lv_room (Nat.le_of_ble_eq_true rfl)) dD_carryOut_59 ⟨Nat.le_of_ble_eq_true rfl, Nat.le_of_ble_eq_true rfl⟩) hD hS hA (fun w H locs hw hP hD hS => ?_)
    have hR := hw
    refine lv_goto (tgt := 161) hx hb dD_carryOut_62 (by decide) ?_
    refine lv_aload_n hx hb dD_carryOut_161 rfl (lv_at hl 0 rfl) ?_
    refine lv_iload_n hx hb dD_carryOut_162 rfl (lv_at hl 2 rfl) ?_
    obtain ⟨_, hq15⟩ := hR.dc hj
    refine x_callv (va_runV (As := [.int t]) (rest := []) ⟨hx, hb, hml, hown, hB⟩ (c_D_releaseIfNothingHolds hR hj t) (cwV 1 hB (gV ml_D_41 im_D_releaseIfNothingHolds sl_D_releaseIfNothingHolds ini_D kc_D_releaseIfNothingHolds) rfl rfl rfl (by decide +kernel) ⟨Nat.le_of_ble_eq_true rfl, Nat.le_of_ble_eq_true rfl⟩) (x_preV hP hK hD hq15 rfl) rfl rfl hl.1 rfl (lv_room (Nat.le_of_ble_eq_true rfl)) dD_carryOut_163 ⟨Nat.le_of_ble_eq_true rfl, Nat.le_of_ble_eq_true rfl⟩) hD hS hA (fun w H locs hw hP hD hS => ?_)
    have hR := hw
    exact x_vret hx hb hr hlocks (by first | (simpa [fCarry, fAct, upf_eq, upf_upf, upf_self, h1] using hR) | (have hR9 := hR; simp_all [fCarry, fAct, upf_eq, upf_upf, upf_self])) hP hK hD hS dD_carryOut_166
  · refine lv_tableIn (tgt := 65) hx hb dD_carryOut_1 (by rw [h2]; decide) (by rw [h2]; decide) (by rw [h2]; rfl) (by decide) ?_
    refine lv_aload_n hx hb dD_carryOut_65 rfl (lv_at hl 0 rfl) ?_
    refine lv_dup hx hb dD_carryOut_66 rfl ?_
    refine x_getD 4 hj hx hb hB inBD hown hK hP hR (by decide) (hB _ fl_D_27) rfl dD_carryOut_67 ?_
    refine lv_iconst (v := 1) hx hb dD_carryOut_70 (by decide) ?_
    refine lv_ior hx hb dD_carryOut_71 ?_
    refine x_putD 4 ((d j 4) ||| 1) hj hx hb hB inBD hown hK hP hD hS hR (by decide) (hB _ fl_D_27) rfl rfl (by decide +kernel) dD_carryOut_72 (fun w H locs hR hP hD hS => ?_)
    refine lv_goto (tgt := 161) hx hb dD_carryOut_75 (by decide) ?_
    refine lv_aload_n hx hb dD_carryOut_161 rfl (lv_at hl 0 rfl) ?_
    refine lv_iload_n hx hb dD_carryOut_162 rfl (lv_at hl 2 rfl) ?_
    obtain ⟨_, hq18⟩ := hR.dc hj
    refine x_callv (va_runV (As := [.int t]) (rest := []) ⟨hx, hb, hml, hown, hB⟩ (c_D_releaseIfNothingHolds hR hj t) (cwV 1 hB (gV ml_D_41 im_D_releaseIfNothingHolds sl_D_releaseIfNothingHolds ini_D kc_D_releaseIfNothingHolds) rfl rfl rfl (by decide +kernel) ⟨Nat.le_of_ble_eq_true rfl, Nat.le_of_ble_eq_true rfl⟩) (x_preV hP hK hD hq18 rfl) rfl rfl hl.1 rfl (lv_room (Nat.le_of_ble_eq_true rfl)) dD_carryOut_163 ⟨Nat.le_of_ble_eq_true rfl, Nat.le_of_ble_eq_true rfl⟩) hD hS hA (fun w H locs hw hP hD hS => ?_)
    have hR := hw
    exact x_vret hx hb hr hlocks (by first | (simpa [fCarry, fAct, upf_eq, upf_upf, upf_self, h2] using hR) | (have hR9 := hR; simp_all [fCarry, fAct, upf_eq, upf_upf, upf_self])) hP hK hD hS dD_carryOut_166
  · refine lv_tableIn (tgt := 78) hx hb dD_carryOut_1 (by rw [h3]; decide) (by rw [h3]; decide) (by rw [h3]; rfl) (by decide) ?_
    refine lv_aload_n hx hb dD_carryOut_78 rfl (lv_at hl 0 rfl) ?_
    refine lv_iconst (v := 2) hx hb dD_carryOut_79 (by decide) ?_
    refine lv_iload_n hx hb dD_carryOut_80 rfl (lv_at hl 2 rfl) ?_
    obtain ⟨_, hq21⟩ := hR.dc hj
    refine x_callv (va_runV (As := [.int 2, .int t]) (rest := []) ⟨hx, hb, hml, hown, hB⟩ (c_D_become hR hj 2 t) (cwV 2 hB (gV ml_D_37 im_D_become sl_D_become ini_D kc_D_become) rfl rfl rfl (by decide +kernel) ⟨Nat.le_of_ble_eq_true rfl, Nat.le_of_ble_eq_true rfl⟩) (x_preV hP hK hD hq21 rfl) rfl rfl hl.1 rfl (lv_room (Nat.le_of_ble_eq_true rfl)) dD_carryOut_81 ⟨Nat.le_of_ble_eq_true rfl, Nat.le_of_ble_eq_true rfl⟩) hD hS hA (fun w H locs hw hP hD hS => ?_)
    have hR := hw
    refine lv_goto (tgt := 161) hx hb dD_carryOut_84 (by decide) ?_
    refine lv_aload_n hx hb dD_carryOut_161 rfl (lv_at hl 0 rfl) ?_
    refine lv_iload_n hx hb dD_carryOut_162 rfl (lv_at hl 2 rfl) ?_
    obtain ⟨_, hq24⟩ := hR.dc hj
    refine x_callv (va_runV (As := [.int t]) (rest := []) ⟨hx, hb, hml, hown, hB⟩ (c_D_releaseIfNothingHolds hR hj t) (cwV 1 hB (gV ml_D_41 im_D_releaseIfNothingHolds sl_D_releaseIfNothingHolds ini_D kc_D_releaseIfNothingHolds) rfl rfl rfl (by decide +kernel) ⟨Nat.le_of_ble_eq_true rfl, Nat.le_of_ble_eq_true rfl⟩) (x_preV hP hK hD hq24 rfl) rfl rfl hl.1 rfl (lv_room (Nat.le_of_ble_eq_true rfl)) dD_carryOut_163 ⟨Nat.le_of_ble_eq_true rfl, Nat.le_of_ble_eq_true rfl⟩) hD hS hA (fun w H locs hw hP hD hS => ?_)
    have hR := hw
    exact x_vret hx hb hr hlocks (by first | (simpa [fCarry, fAct, upf_eq, upf_upf, upf_self, h3] using hR) | (have hR9 := hR; simp_all [fCarry, fAct, upf_eq, upf_upf, upf_self])) hP hK hD hS dD_carryOut_166
  · refine lv_tableIn (tgt := 87) hx hb dD_carryOut_1 (by rw [h4]; decide) (by rw [h4]; decide) (by rw [h4]; rfl) (by decide) ?_
    refine lv_aload_n hx hb dD_carryOut_87 rfl (lv_at hl 0 rfl) ?_
    refine lv_iconst (v := 3) hx hb dD_carryOut_88 (by decide) ?_
    refine lv_iload_n hx hb dD_carryOut_89 rfl (lv_at hl 2 rfl) ?_
    obtain ⟨_, hq27⟩ := hR.dc hj
    refine x_callv (va_runV (As := [.int 3, .int t]) (rest := []) ⟨hx, hb, hml, hown, hB⟩ (c_D_become hR hj 3 t) (cwV 2 hB (gV ml_D_37 im_D_become sl_D_become ini_D kc_D_become) rfl rfl rfl (by decide +kernel) ⟨Nat.le_of_ble_eq_true rfl, Nat.le_of_ble_eq_true rfl⟩) (x_preV hP hK hD hq27 rfl) rfl rfl hl.1 rfl (lv_room (Nat.le_of_ble_eq_true rfl)) dD_carryOut_90 ⟨Nat.le_of_ble_eq_true rfl, Nat.le_of_ble_eq_true rfl⟩) hD hS hA (fun w H locs hw hP hD hS => ?_)
    have hR := hw
    refine lv_goto (tgt := 161) hx hb dD_carryOut_93 (by decide) ?_
    refine lv_aload_n hx hb dD_carryOut_161 rfl (lv_at hl 0 rfl) ?_
    refine lv_iload_n hx hb dD_carryOut_162 rfl (lv_at hl 2 rfl) ?_
    obtain ⟨_, hq30⟩ := hR.dc hj
    refine x_callv (va_runV (As := [.int t]) (rest := []) ⟨hx, hb, hml, hown, hB⟩ (c_D_releaseIfNothingHolds hR hj t) (cwV 1 hB (gV ml_D_41 im_D_releaseIfNothingHolds sl_D_releaseIfNothingHolds ini_D kc_D_releaseIfNothingHolds) rfl rfl rfl (by decide +kernel) ⟨Nat.le_of_ble_eq_true rfl, Nat.le_of_ble_eq_true rfl⟩) (x_preV hP hK hD hq30 rfl) rfl rfl hl.1 rfl (lv_room (Nat.le_of_ble_eq_true rfl)) dD_carryOut_163 ⟨Nat.le_of_ble_eq_true rfl, Nat.le_of_ble_eq_true rfl⟩) hD hS hA (fun w H locs hw hP hD hS => ?_)
    have hR := hw
    exact x_vret hx hb hr hlocks (by first | (simpa [fCarry, fAct, upf_eq, upf_upf, upf_self, h4] using hR) | (have hR9 := hR; simp_all [fCarry, fAct, upf_eq, upf_upf, upf_self])) hP hK hD hS dD_carryOut_166
  · refine lv_tableIn (tgt := 78) hx hb dD_carryOut_1 (by rw [h5]; decide) (by rw [h5]; decide) (by rw [h5]; rfl) (by decide) ?_
    refine lv_aload_n hx hb dD_carryOut_78 rfl (lv_at hl 0 rfl) ?_
    refine lv_iconst (v := 2) hx hb dD_carryOut_79 (by decide) ?_
    refine lv_iload_n hx hb dD_carryOut_80 rfl (lv_at hl 2 rfl) ?_
    obtain ⟨_, hq33⟩ := hR.dc hj
    refine x_callv (va_runV (As := [.int 2, .int t]) (rest := []) ⟨hx, hb, hml, hown, hB⟩ (c_D_become hR hj 2 t) (cwV 2 hB (gV ml_D_37 im_D_become sl_D_become ini_D kc_D_become) rfl rfl rfl (by decide +kernel) ⟨Nat.le_of_ble_eq_true rfl, Nat.le_of_ble_eq_true rfl⟩) (x_preV hP hK hD hq33 rfl) rfl rfl hl.1 rfl (lv_room (Nat.le_of_ble_eq_true rfl)) dD_carryOut_81 ⟨Nat.le_of_ble_eq_true rfl, Nat.le_of_ble_eq_true rfl⟩) hD hS hA (fun w H locs hw hP hD hS => ?_)
    have hR := hw
    refine lv_goto (tgt := 161) hx hb dD_carryOut_84 (by decide) ?_
    refine lv_aload_n hx hb dD_carryOut_161 rfl (lv_at hl 0 rfl) ?_
    refine lv_iload_n hx hb dD_carryOut_162 rfl (lv_at hl 2 rfl) ?_
    obtain ⟨_, hq36⟩ := hR.dc hj
    refine x_callv (va_runV (As := [.int t]) (rest := []) ⟨hx, hb, hml, hown, hB⟩ (c_D_releaseIfNothingHolds hR hj t) (cwV 1 hB (gV ml_D_41 im_D_releaseIfNothingHolds sl_D_releaseIfNothingHolds ini_D kc_D_releaseIfNothingHolds) rfl rfl rfl (by decide +kernel) ⟨Nat.le_of_ble_eq_true rfl, Nat.le_of_ble_eq_true rfl⟩) (x_preV hP hK hD hq36 rfl) rfl rfl hl.1 rfl (lv_room (Nat.le_of_ble_eq_true rfl)) dD_carryOut_163 ⟨Nat.le_of_ble_eq_true rfl, Nat.le_of_ble_eq_true rfl⟩) hD hS hA (fun w H locs hw hP hD hS => ?_)
    have hR := hw
    exact x_vret hx hb hr hlocks (by first | (simpa [fCarry, fAct, upf_eq, upf_upf, upf_self, h5] using hR) | (have hR9 := hR; simp_all [fCarry, fAct, upf_eq, upf_upf, upf_self])) hP hK hD hS dD_carryOut_166
  · refine lv_tableIn (tgt := 96) hx hb dD_carryOut_1 (by rw [h6]; decide) (by rw [h6]; decide) (by rw [h6]; rfl) (by decide) ?_
    refine lv_aload_n hx hb dD_carryOut_96 rfl (lv_at hl 0 rfl) ?_
    refine lv_dup hx hb dD_carryOut_97 rfl ?_
    refine x_getD 4 hj hx hb hB inBD hown hK hP hR (by decide) (hB _ fl_D_27) rfl dD_carryOut_98 ?_
    refine lv_iconst (v := 4) hx hb dD_carryOut_101 (by decide) ?_
    refine lv_ior hx hb dD_carryOut_102 ?_
    refine x_putD 4 ((d j 4) ||| 4) hj hx hb hB inBD hown hK hP hD hS hR (by decide) (hB _ fl_D_27) rfl rfl (by decide +kernel) dD_carryOut_103 (fun w H locs hR hP hD hS => ?_)
    refine lv_aload_n hx hb dD_carryOut_106 rfl (lv_at hl 0 rfl) ?_
    refine lv_iconst (v := 2) hx hb dD_carryOut_107 (by decide) ?_
    refine lv_iload_n hx hb dD_carryOut_108 rfl (lv_at hl 2 rfl) ?_
    obtain ⟨_, hq39⟩ := hR.dc hj
    refine x_callv (va_runV (As := [.int 2, .int t]) (rest := []) ⟨hx, hb, hml, hown, hB⟩ (c_D_become hR hj 2 t) (cwV 2 hB (gV ml_D_37 im_D_become sl_D_become ini_D kc_D_become) rfl rfl rfl (by decide +kernel) ⟨Nat.le_of_ble_eq_true rfl, Nat.le_of_ble_eq_true rfl⟩) (x_preV hP hK hD hq39 rfl) rfl rfl hl.1 rfl (lv_room (Nat.le_of_ble_eq_true rfl)) dD_carryOut_109 ⟨Nat.le_of_ble_eq_true rfl, Nat.le_of_ble_eq_true rfl⟩) hD hS hA (fun w H locs hw hP hD hS => ?_)
    have hR := hw
    refine lv_goto (tgt := 161) hx hb dD_carryOut_112 (by decide) ?_
    refine lv_aload_n hx hb dD_carryOut_161 rfl (lv_at hl 0 rfl) ?_
    refine lv_iload_n hx hb dD_carryOut_162 rfl (lv_at hl 2 rfl) ?_
    obtain ⟨_, hq42⟩ := hR.dc hj
    refine x_callv (va_runV (As := [.int t]) (rest := []) ⟨hx, hb, hml, hown, hB⟩ (c_D_releaseIfNothingHolds hR hj t) (cwV 1 hB (gV ml_D_41 im_D_releaseIfNothingHolds sl_D_releaseIfNothingHolds ini_D kc_D_releaseIfNothingHolds) rfl rfl rfl (by decide +kernel) ⟨Nat.le_of_ble_eq_true rfl, Nat.le_of_ble_eq_true rfl⟩) (x_preV hP hK hD hq42 rfl) rfl rfl hl.1 rfl (lv_room (Nat.le_of_ble_eq_true rfl)) dD_carryOut_163 ⟨Nat.le_of_ble_eq_true rfl, Nat.le_of_ble_eq_true rfl⟩) hD hS hA (fun w H locs hw hP hD hS => ?_)
    have hR := hw
    exact x_vret hx hb hr hlocks (by first | (simpa [fCarry, fAct, upf_eq, upf_upf, upf_self, h6] using hR) | (have hR9 := hR; simp_all [fCarry, fAct, upf_eq, upf_upf, upf_self])) hP hK hD hS dD_carryOut_166
  · refine lv_tableIn (tgt := 115) hx hb dD_carryOut_1 (by rw [h7]; decide) (by rw [h7]; decide) (by rw [h7]; rfl) (by decide) ?_
    refine lv_aload_n hx hb dD_carryOut_115 rfl (lv_at hl 0 rfl) ?_
    refine lv_dup hx hb dD_carryOut_116 rfl ?_
    refine x_getD 4 hj hx hb hB inBD hown hK hP hR (by decide) (hB _ fl_D_27) rfl dD_carryOut_117 ?_
    refine lv_iconst (v := 2) hx hb dD_carryOut_120 (by decide) ?_
    refine lv_ior hx hb dD_carryOut_121 ?_
    refine x_putD 4 ((d j 4) ||| 2) hj hx hb hB inBD hown hK hP hD hS hR (by decide) (hB _ fl_D_27) rfl rfl (by decide +kernel) dD_carryOut_122 (fun w H locs hR hP hD hS => ?_)
    refine lv_goto (tgt := 161) hx hb dD_carryOut_125 (by decide) ?_
    refine lv_aload_n hx hb dD_carryOut_161 rfl (lv_at hl 0 rfl) ?_
    refine lv_iload_n hx hb dD_carryOut_162 rfl (lv_at hl 2 rfl) ?_
    obtain ⟨_, hq45⟩ := hR.dc hj
    refine x_callv (va_runV (As := [.int t]) (rest := []) ⟨hx, hb, hml, hown, hB⟩ (c_D_releaseIfNothingHolds hR hj t) (cwV 1 hB (gV ml_D_41 im_D_releaseIfNothingHolds sl_D_releaseIfNothingHolds ini_D kc_D_releaseIfNothingHolds) rfl rfl rfl (by decide +kernel) ⟨Nat.le_of_ble_eq_true rfl, Nat.le_of_ble_eq_true rfl⟩) (x_preV hP hK hD hq45 rfl) rfl rfl hl.1 rfl (lv_room (Nat.le_of_ble_eq_true rfl)) dD_carryOut_163 ⟨Nat.le_of_ble_eq_true rfl, Nat.le_of_ble_eq_true rfl⟩) hD hS hA (fun w H locs hw hP hD hS => ?_)
    have hR := hw
    exact x_vret hx hb hr hlocks (by first | (simpa [fCarry, fAct, upf_eq, upf_upf, upf_self, h7] using hR) | (have hR9 := hR; simp_all [fCarry, fAct, upf_eq, upf_upf, upf_self])) hP hK hD hS dD_carryOut_166
  · refine lv_tableIn (tgt := 128) hx hb dD_carryOut_1 (by rw [h8]; decide) (by rw [h8]; decide) (by rw [h8]; rfl) (by decide) ?_
    refine lv_aload_n hx hb dD_carryOut_128 rfl (lv_at hl 0 rfl) ?_
    refine lv_iconst (v := 5) hx hb dD_carryOut_129 (by decide) ?_
    refine lv_iload_n hx hb dD_carryOut_130 rfl (lv_at hl 2 rfl) ?_
    obtain ⟨_, hq48⟩ := hR.dc hj
    refine x_callv (va_runV (As := [.int 5, .int t]) (rest := []) ⟨hx, hb, hml, hown, hB⟩ (c_D_become hR hj 5 t) (cwV 2 hB (gV ml_D_37 im_D_become sl_D_become ini_D kc_D_become) rfl rfl rfl (by decide +kernel) ⟨Nat.le_of_ble_eq_true rfl, Nat.le_of_ble_eq_true rfl⟩) (x_preV hP hK hD hq48 rfl) rfl rfl hl.1 rfl (lv_room (Nat.le_of_ble_eq_true rfl)) dD_carryOut_131 ⟨Nat.le_of_ble_eq_true rfl, Nat.le_of_ble_eq_true rfl⟩) hD hS hA (fun w H locs hw hP hD hS => ?_)
    have hR := hw
    refine lv_goto (tgt := 161) hx hb dD_carryOut_134 (by decide) ?_
    refine lv_aload_n hx hb dD_carryOut_161 rfl (lv_at hl 0 rfl) ?_
    refine lv_iload_n hx hb dD_carryOut_162 rfl (lv_at hl 2 rfl) ?_
    obtain ⟨_, hq51⟩ := hR.dc hj
    refine x_callv (va_runV (As := [.int t]) (rest := []) ⟨hx, hb, hml, hown, hB⟩ (c_D_releaseIfNothingHolds hR hj t) (cwV 1 hB (gV ml_D_41 im_D_releaseIfNothingHolds sl_D_releaseIfNothingHolds ini_D kc_D_releaseIfNothingHolds) rfl rfl rfl (by decide +kernel) ⟨Nat.le_of_ble_eq_true rfl, Nat.le_of_ble_eq_true rfl⟩) (x_preV hP hK hD hq51 rfl) rfl rfl hl.1 rfl (lv_room (Nat.le_of_ble_eq_true rfl)) dD_carryOut_163 ⟨Nat.le_of_ble_eq_true rfl, Nat.le_of_ble_eq_true rfl⟩) hD hS hA (fun w H locs hw hP hD hS => ?_)
    have hR := hw
    exact x_vret hx hb hr hlocks (by first | (simpa [fCarry, fAct, upf_eq, upf_upf, upf_self, h8] using hR) | (have hR9 := hR; simp_all [fCarry, fAct, upf_eq, upf_upf, upf_self])) hP hK hD hS dD_carryOut_166
  · refine lv_tableIn (tgt := 137) hx hb dD_carryOut_1 (by rw [h9]; decide) (by rw [h9]; decide) (by rw [h9]; rfl) (by decide) ?_
    refine lv_aload_n hx hb dD_carryOut_137 rfl (lv_at hl 0 rfl) ?_
    refine lv_bipush (v := 7) hx hb dD_carryOut_138 (by decide) ?_
    refine lv_iload_n hx hb dD_carryOut_140 rfl (lv_at hl 2 rfl) ?_
    obtain ⟨_, hq54⟩ := hR.dc hj
    refine x_callv (va_runV (As := [.int 7, .int t]) (rest := []) ⟨hx, hb, hml, hown, hB⟩ (c_D_become hR hj 7 t) (cwV 2 hB (gV ml_D_37 im_D_become sl_D_become ini_D kc_D_become) rfl rfl rfl (by decide +kernel) ⟨Nat.le_of_ble_eq_true rfl, Nat.le_of_ble_eq_true rfl⟩) (x_preV hP hK hD hq54 rfl) rfl rfl hl.1 rfl (lv_room (Nat.le_of_ble_eq_true rfl)) dD_carryOut_141 ⟨Nat.le_of_ble_eq_true rfl, Nat.le_of_ble_eq_true rfl⟩) hD hS hA (fun w H locs hw hP hD hS => ?_)
    have hR := hw
    refine lv_goto (tgt := 161) hx hb dD_carryOut_144 (by decide) ?_
    refine lv_aload_n hx hb dD_carryOut_161 rfl (lv_at hl 0 rfl) ?_
    refine lv_iload_n hx hb dD_carryOut_162 rfl (lv_at hl 2 rfl) ?_
    obtain ⟨_, hq57⟩ := hR.dc hj
    refine x_callv (va_runV (As := [.int t]) (rest := []) ⟨hx, hb, hml, hown, hB⟩ (c_D_releaseIfNothingHolds hR hj t) (cwV 1 hB (gV ml_D_41 im_D_releaseIfNothingHolds sl_D_releaseIfNothingHolds ini_D kc_D_releaseIfNothingHolds) rfl rfl rfl (by decide +kernel) ⟨Nat.le_of_ble_eq_true rfl, Nat.le_of_ble_eq_true rfl⟩) (x_preV hP hK hD hq57 rfl) rfl rfl hl.1 rfl (lv_room (Nat.le_of_ble_eq_true rfl)) dD_carryOut_163 ⟨Nat.le_of_ble_eq_true rfl, Nat.le_of_ble_eq_true rfl⟩) hD hS hA (fun w H locs hw hP hD hS => ?_)
    have hR := hw
    exact x_vret hx hb hr hlocks (by first | (simpa [fCarry, fAct, upf_eq, upf_upf, upf_self, h9] using hR) | (have hR9 := hR; simp_all [fCarry, fAct, upf_eq, upf_upf, upf_self])) hP hK hD hS dD_carryOut_166
  · refine lv_tableIn (tgt := 147) hx hb dD_carryOut_1 (by rw [h10]; decide) (by rw [h10]; decide) (by rw [h10]; rfl) (by decide) ?_
    refine lv_aload_n hx hb dD_carryOut_147 rfl (lv_at hl 0 rfl) ?_
    refine lv_dup hx hb dD_carryOut_148 rfl ?_
    refine x_getD 4 hj hx hb hB inBD hown hK hP hR (by decide) (hB _ fl_D_27) rfl dD_carryOut_149 ?_
    refine lv_bipush (v := (-5)) hx hb dD_carryOut_152 (by decide) ?_
    refine lv_iand hx hb dD_carryOut_154 ?_
    refine x_putD 4 ((d j 4) &&& (-5)) hj hx hb hB inBD hown hK hP hD hS hR (by decide) (hB _ fl_D_27) rfl rfl (by decide +kernel) dD_carryOut_155 (fun w H locs hR hP hD hS => ?_)
    refine lv_goto (tgt := 161) hx hb dD_carryOut_158 (by decide) ?_
    refine lv_aload_n hx hb dD_carryOut_161 rfl (lv_at hl 0 rfl) ?_
    refine lv_iload_n hx hb dD_carryOut_162 rfl (lv_at hl 2 rfl) ?_
    obtain ⟨_, hq60⟩ := hR.dc hj
    refine x_callv (va_runV (As := [.int t]) (rest := []) ⟨hx, hb, hml, hown, hB⟩ (c_D_releaseIfNothingHolds hR hj t) (cwV 1 hB (gV ml_D_41 im_D_releaseIfNothingHolds sl_D_releaseIfNothingHolds ini_D kc_D_releaseIfNothingHolds) rfl rfl rfl (by decide +kernel) ⟨Nat.le_of_ble_eq_true rfl, Nat.le_of_ble_eq_true rfl⟩) (x_preV hP hK hD hq60 rfl) rfl rfl hl.1 rfl (lv_room (Nat.le_of_ble_eq_true rfl)) dD_carryOut_163 ⟨Nat.le_of_ble_eq_true rfl, Nat.le_of_ble_eq_true rfl⟩) hD hS hA (fun w H locs hw hP hD hS => ?_)
    have hR := hw
    exact x_vret hx hb hr hlocks (by first | (simpa [fCarry, fAct, upf_eq, upf_upf, upf_self, h10] using hR) | (have hR9 := hR; simp_all [fCarry, fAct, upf_eq, upf_upf, upf_self])) hP hK hD hS dD_carryOut_166
  · refine lv_tableOut (tgt := 161) hx hb dD_carryOut_1 h11.1 (by decide) ?_
    refine lv_aload_n hx hb dD_carryOut_161 rfl (lv_at hl 0 rfl) ?_
    refine lv_iload_n hx hb dD_carryOut_162 rfl (lv_at hl 2 rfl) ?_
    obtain ⟨_, hq63⟩ := hR.dc hj
    refine x_callv (va_runV (As := [.int t]) (rest := []) ⟨hx, hb, hml, hown, hB⟩ (c_D_releaseIfNothingHolds hR hj t) (cwV 1 hB (gV ml_D_41 im_D_releaseIfNothingHolds sl_D_releaseIfNothingHolds ini_D kc_D_releaseIfNothingHolds) rfl rfl rfl (by decide +kernel) ⟨Nat.le_of_ble_eq_true rfl, Nat.le_of_ble_eq_true rfl⟩) (x_preV hP hK hD hq63 rfl) rfl rfl hl.1 rfl (lv_room (Nat.le_of_ble_eq_true rfl)) dD_carryOut_163 ⟨Nat.le_of_ble_eq_true rfl, Nat.le_of_ble_eq_true rfl⟩) hD hS hA (fun w H locs hw hP hD hS => ?_)
    have hR := hw
    exact x_vret hx hb hr hlocks (by first | (simpa [fCarry, fAct, upf_eq, upf_upf, upf_self, h11.2] using hR) | (have hR9 := hR; simp_all [fCarry, fAct, upf_eq, upf_upf, upf_self])) hP hK hD hS dD_carryOut_166
