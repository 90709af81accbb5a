set_option maxHeartbeats 4000000 in
set_option maxRecDepth 100000 in
theorem c_D_write {l : Launch} {G : va_G} {cI cD cE : ClassId} {aX aR aD aE : Nat} {dA eA : Nat → Nat} {g ro : Nat → Int32} {fst : Option Nat} {nD nE : Nat} {d : Nat → Nat → Int32} {fw lw : Nat → Option Nat} {ed : Nat → Nat} {ev : Nat → Nat → Int32} {nx : Nat → Option Nat} {w : va_W} {sz : Nat} (hR : RX cI cD cE aX aR aD aE dA eA g ro fst nD nE d fw lw ed ev nx w) {j k : Nat} (hj : j < nD) (hk : k < nE) : xMv l yD_write wsD_write ({ frames := 0, cells := 0, slots := 0, locals := 0 }) [.ref (dA j), .ref (eA k)] G (xTys cI cD cE) w sz (fun w' => RX cI cD cE aX aR aD aE dA eA g ro fst nD nE (upf d j (fWrote (d j))) (wFw fw (lw j) j k) (upo lw j (some k)) ed ev (wNx nx (lw j) k) w') 0 0 := by
  refine x_ofW (fun A => va_Qv (fun w' => RX cI cD cE aX aR aD aE dA eA g ro fst nD nE (upf d j (fWrote (d j))) (wFw fw (lw j) j k) (upo lw j (some k)) ed ev (wNx nx (lw j) k) w') (xEnd G (xTys cI cD cE) A) A) cD_write 2 none (by decide) rfl (Nat.le_of_ble_eq_true rfl) ?_
  intro p e s m below meth c A ls hx hb hr hlocks hml hnm hown hB hA hP hK hD hS hl
  have hl : lv_has ls 2 [(0, .ref (dA j)), (1, .ref (eA k))] := hl
  have hown : s.vm.findClass NmD = some m.cls := hown
  refine lv_aload_n hx hb dD_write_0 rfl (lv_at hl 1 rfl) ?_
  refine lv_null hx hb dD_write_1 ?_
  refine x_putE5 none okP_none hk hx hb hB inBE hown hK hP hD hS hR (hB _ fl_D_59) dD_write_2 (fun w H locs hR hP hD hS => ?_)
  refine lv_aload_n hx hb dD_write_5 rfl (lv_at hl 0 rfl) ?_
  refine x_getD11 hj hx hb hB inBD hown hK hP hR (hB _ fl_D_65) dD_write_6 ?_
  rcases Option.eq_none_or_eq_some (lw j) with o1 | ⟨k2, o1⟩
  · refine x_st (st' := [.null]) (by rw [o1]; rfl) ?_
    refine lv_ifnonnullN hx hb dD_write_9 ?_
    refine lv_aload_n hx hb dD_write_12 rfl (lv_at hl 0 rfl) ?_
    refine lv_aload_n hx hb dD_write_13 rfl (lv_at hl 1 rfl) ?_
    refine x_putD10 (some k) (okP_some hk) hj hx hb hB inBD hown hK hP hD hS hR (hB _ fl_D_68) dD_write_14 (fun w H locs hR hP hD hS => ?_)
    refine lv_goto (tgt := 28) hx hb dD_write_17 (by decide) ?_
    refine lv_aload_n hx hb dD_write_28 rfl (lv_at hl 0 rfl) ?_
    refine lv_aload_n hx hb dD_write_29 rfl (lv_at hl 1 rfl) ?_
    refine x_putD11 (some k) (okP_some hk) hj hx hb hB inBD hown hK hP hD hS hR (hB _ fl_D_65) dD_write_30 (fun w H locs hR hP hD hS => ?_)
    refine lv_aload_n hx hb dD_write_33 rfl (lv_at hl 0 rfl) ?_
    refine lv_dup hx hb dD_write_34 rfl ?_
    refine x_getD 9 hj hx hb hB inBD hown hK hP hR (by decide) (hB _ fl_D_71) rfl dD_write_35 ?_
    refine lv_iconst (v := 1) hx hb dD_write_38 (by decide) ?_
    refine lv_iadd hx hb dD_write_39 ?_
    refine x_putD 9 ((d j 9) + 1) hj hx hb hB inBD hown hK hP hD hS hR (by decide) (hB _ fl_D_71) rfl rfl (by decide +kernel) dD_write_40 (fun w H locs hR hP hD hS => ?_)
    exact x_vret hx hb hr hlocks (by first | (simpa [wNx, wFw, fWrote, upf_eq, upf_upf, upf_self, o1] using hR) | (have hR9 := hR; simp_all [wNx, wFw, fWrote, upf_eq, upf_upf, upf_self])) hP hK hD hS dD_write_43
  · have hk2 : k2 < nE := (hR.ok.2.1 _ hj).2 _ o1
    refine x_st (st' := [.ref (eA k2)]) (by rw [o1]; rfl) ?_
    refine lv_ifnonnull (tgt := 20) hx hb dD_write_9 (by decide) ?_
    refine lv_aload_n hx hb dD_write_20 rfl (lv_at hl 0 rfl) ?_
    refine x_getD11 hj hx hb hB inBD hown hK hP hR (hB _ fl_D_65) dD_write_21 ?_
    refine x_st (st' := [.ref (eA k2)]) (by rw [o1]; rfl) ?_
    refine lv_aload_n hx hb dD_write_24 rfl (lv_at hl 1 rfl) ?_
    refine x_putE5 (some k) (okP_some hk) hk2 hx hb hB inBE hown hK hP hD hS hR (hB _ fl_D_59) dD_write_25 (fun w H locs hR hP hD hS => ?_)
    refine lv_aload_n hx hb dD_write_28 rfl (lv_at hl 0 rfl) ?_
    refine lv_aload_n hx hb dD_write_29 rfl (lv_at hl 1 rfl) ?_
    refine x_putD11 (some k) (okP_some hk) hj hx hb hB inBD hown hK hP hD hS hR (hB _ fl_D_65) dD_write_30 (fun w H locs hR hP hD hS => ?_)
    refine lv_aload_n hx hb dD_write_33 rfl (lv_at hl 0 rfl) ?_
    refine lv_dup hx hb dD_write_34 rfl ?_
    refine x_getD 9 hj hx hb hB inBD hown hK hP hR (by decide) (hB _ fl_D_71) rfl dD_write_35 ?_
    refine lv_iconst (v := 1) hx hb dD_write_38 (by decide) ?_
    refine lv_iadd hx hb dD_write_39 ?_
    refine x_putD 9 ((d j 9) + 1) hj hx hb hB inBD hown hK hP hD hS hR (by decide) (hB _ fl_D_71) rfl rfl (by decide +kernel) dD_write_40 (fun w H locs hR hP hD hS => ?_)
    exact x_vret hx hb hr hlocks (by first | (simpa [wNx, wFw, fWrote, upf_eq, upf_upf, upf_self, o1] using hR) | (have hR9 := hR; simp_all [wNx, wFw, fWrote, upf_eq, upf_upf, upf_self])) hP hK hD hS dD_write_43
set_option maxHeartbeats 4000000 in
set_option maxRecDepth 100000 in
theorem c_X_settle {l : Launch} {G : va_G} {cI cD cE : ClassId} {aX aR aD aE : Nat} {dA eA : Nat → Nat} {g ro : Nat → Int32} {fst : Option Nat} {nD nE : Nat} {d : Nat → Nat → Int32} {fw lw : Nat → Option Nat} {ed : Nat → Nat} {ev : Nat → Nat → Int32} {nx : Nat → Option Nat} {w : va_W} {sz : Nat} (hR : RX cI cD cE aX aR aD aE dA eA g ro fst nD nE d fw lw ed ev nx w) {k : Nat} (hk : k < nE) : xMv l yX_settle wsX_settle ({ frames := 4, cells := 0, slots := 0, locals := 85 }) [.ref aX, .ref (eA k)] G (xTys cI cD cE) w sz (fun w' => RX cI cD cE aX aR aD aE dA eA (fSetG g ro (d (ed k)) (ev k)) ro fst nD nE (upf d (ed k) (fSetF g ro (d (ed k)) (ev k))) (wFw fw (lw (ed k)) (ed k) k) (upo lw (ed k) (some k)) ed (up2 ev k 4 (fSetR g ro (d (ed k)) (ev k))) (wNx nx (lw (ed k)) k) w') 0 0 := by
  refine x_ofW (fun A => va_Qv (fun w' => RX cI cD cE aX aR aD aE dA eA (fSetG g ro (d (ed k)) (ev k)) ro fst nD nE (upf d (ed k) (fSetF g ro (d (ed k)) (ev k))) (wFw fw (lw (ed k)) (ed k) k) (upo lw (ed k) (some k)) ed (up2 ev k 4 (fSetR g ro (d (ed k)) (ev k))) (wNx nx (lw (ed k)) k) w') (xEnd G (xTys cI cD cE) A) A) cX_settle 4 none (by decide) rfl (Nat.le_of_ble_eq_true rfl) ?_
  intro p e s m below meth c A ls hx hb hr hlocks hml hnm hown hB hA hP hK hD hS hl
  have hl : lv_has ls 4 [(0, .ref aX), (1, .ref (eA k))] := hl
  have hown : s.vm.findClass NmX = some m.cls := hown
  refine lv_aload_n hx hb dX_settle_0 rfl (lv_at hl 1 rfl) ?_
  refine x_getE0 hk hx hb hB inBE hown hK hP hR (hB _ fl_X_190) dX_settle_1 ?_
  refine lv_astore_n (lv' := [(2, .ref (dA (ed k))), (0, .ref aX), (1, .ref (eA k))]) hx hb dX_settle_4 rfl hl (by decide) rfl (fun ls hl => ?_)
  refine lv_aload_n hx hb dX_settle_5 rfl (lv_at hl 1 rfl) ?_
  refine lv_aload_n hx hb dX_settle_6 rfl (lv_at hl 2 rfl) ?_
  refine x_calli (va_runV (As := [.ref (eA k)]) (rest := []) ⟨hx, hb, hml, hown, hB⟩ (c_X_refusalOf hR hk) (cwV 1 hB (gV ml_X_210 im_X_refusalOf sl_X_refusalOf ini_X kc_X_refusalOf) rfl rfl rfl (by decide +kernel) ⟨Nat.le_of_ble_eq_true rfl, Nat.le_of_ble_eq_true rfl⟩) (x_preV hP hK hD hR.x rfl) rfl rfl hl.1 rfl (lv_room (Nat.le_of_ble_eq_true rfl)) dX_settle_7 ⟨Nat.le_of_ble_eq_true rfl, Nat.le_of_ble_eq_true rfl⟩) hD hS hA (fun r1 w H locs hw hP hD hS => ?_)
  obtain ⟨e2, rfl⟩ := hw
  refine lv_istore_n (lv' := [(3, .int r1), (2, .ref (dA (ed k))), (0, .ref aX), (1, .ref (eA k))]) hx hb dX_settle_10 rfl hl (by decide) rfl (fun ls hl => ?_)
  refine lv_iload_n hx hb dX_settle_11 rfl (lv_at hl 0 rfl) ?_
  refine lv_if_ne (tgt := 38) hx hb dX_settle_12 (by decide) (fun c3 => ?_) (fun c3 => ?_)
  · refine lv_aload_n hx hb dX_settle_38 rfl (lv_at hl 3 rfl) ?_
    refine lv_iconst (v := (-1)) hx hb dX_settle_39 (by decide) ?_
    refine lv_iload_n hx hb dX_settle_40 rfl (lv_at hl 0 rfl) ?_
    refine lv_isub hx hb dX_settle_41 ?_
    refine x_putE4 ((-1) - r1) hk hx hb hB inBE hown hK hP hD hS hR (hB _ fl_X_181) dX_settle_42 (fun w H locs hR hP hD hS => ?_)
    refine lv_iload_n hx hb dX_settle_45 rfl (lv_at hl 0 rfl) ?_
    refine lv_iconst (v := 1) hx hb dX_settle_46 (by decide) ?_
    refine lv_icmp_ne (tgt := 67) hx hb dX_settle_47 (by decide) (fun c4 => ?_) (fun c4 => ?_)
    · refine lv_aload_n hx hb dX_settle_67 rfl (lv_at hl 1 rfl) ?_
      refine lv_aload_n hx hb dX_settle_68 rfl (lv_at hl 3 rfl) ?_
      obtain ⟨_, hq5⟩ := hR.dc (hR.ok.2.2 _ hk).1
      refine x_callv (va_runV (As := [.ref (eA k)]) (rest := []) ⟨hx, hb, hml, hown, hB⟩ (c_D_write hR (hR.ok.2.2 _ hk).1 hk) (cwV 1 hB (gV ml_X_218 im_D_write sl_D_write ini_D kc_D_write) rfl rfl rfl (by decide +kernel) ⟨Nat.le_of_ble_eq_true rfl, Nat.le_of_ble_eq_true rfl⟩) (x_preV hP hK hD hq5 rfl) rfl rfl hl.1 rfl (lv_room (Nat.le_of_ble_eq_true rfl)) dX_settle_69 ⟨Nat.le_of_ble_eq_true rfl, Nat.le_of_ble_eq_true rfl⟩) hD hS hA (fun w H locs hw hP hD hS => ?_)
      have hR := hw
      exact x_vret hx hb hr hlocks (by subst e2; first | (simpa [fSetG, fSetF, fSetR, upf_eq, upf_upf, up2_k1, up2_k3, c3, c4] using hR) | (have hR9 := hR; simp_all [fSetG, fSetF, fSetR, upf_eq, upf_upf, up2_k1, up2_k3]; done)) hP hK hD hS dX_settle_72
    · refine lv_aload_n hx hb dX_settle_50 rfl (lv_at hl 2 rfl) ?_
      refine lv_dup hx hb dX_settle_51 rfl ?_
      refine x_getX 11 hx hb hB inBX hown hK hP hR rfl (hB _ fl_X_116) rfl dX_settle_52 ?_
      refine lv_iconst (v := 1) hx hb dX_settle_55 (by decide) ?_
      refine lv_aload_n hx hb dX_settle_56 rfl (lv_at hl 3 rfl) ?_
      refine x_getE 1 hk hx hb hB inBE hown hK hP hR (by decide) (by decide) (hB _ fl_X_184) rfl dX_settle_57 ?_
      refine lv_ishl hx hb dX_settle_60 ?_
      refine lv_iconst (v := (-1)) hx hb dX_settle_61 (by decide) ?_
      refine lv_ixor hx hb dX_settle_62 ?_
      refine lv_iand hx hb dX_settle_63 ?_
      refine x_putX 11 ((g 11) &&& ((1 <<< (((up2 ev k 4 ((-1) - r1)) k 1) &&& 31)) ^^^ (-1))) hx hb hB inBX hown hK hP hD hS hR rfl (hB _ fl_X_116) rfl rfl (by decide +kernel) dX_settle_64 (fun w H locs hR hP hD hS => ?_)
      refine lv_aload_n hx hb dX_settle_67 rfl (lv_at hl 1 rfl) ?_
      refine lv_aload_n hx hb dX_settle_68 rfl (lv_at hl 3 rfl) ?_
      obtain ⟨_, hq8⟩ := hR.dc (hR.ok.2.2 _ hk).1
      refine x_callv (va_runV (As := [.ref (eA k)]) (rest := []) ⟨hx, hb, hml, hown, hB⟩ (c_D_write hR (hR.ok.2.2 _ hk).1 hk) (cwV 1 hB (gV ml_X_218 im_D_write sl_D_write ini_D kc_D_write) rfl rfl rfl (by decide +kernel) ⟨Nat.le_of_ble_eq_true rfl, Nat.le_of_ble_eq_true rfl⟩) (x_preV hP hK hD hq8 rfl) rfl rfl hl.1 rfl (lv_room (Nat.le_of_ble_eq_true rfl)) dX_settle_69 ⟨Nat.le_of_ble_eq_true rfl, Nat.le_of_ble_eq_true rfl⟩) hD hS hA (fun w H locs hw hP hD hS => ?_)
      have hR := hw
      exact x_vret hx hb hr hlocks (by subst e2; first | (simpa [fSetG, fSetF, fSetR, upf_eq, upf_upf, up2_k1, up2_k3, c3, c4] using hR) | (have hR9 := hR; simp_all [fSetG, fSetF, fSetR, upf_eq, upf_upf, up2_k1, up2_k3]; done)) hP hK hD hS dX_settle_72
  · refine lv_aload_n hx hb dX_settle_15 rfl (lv_at hl 1 rfl) ?_
    refine lv_aload_n hx hb dX_settle_16 rfl (lv_at hl 3 rfl) ?_
    refine x_getE 1 hk hx hb hB inBE hown hK hP hR (by decide) (by decide) (hB _ fl_X_184) rfl dX_settle_17 ?_
    refine lv_aload_n hx hb dX_settle_20 rfl (lv_at hl 3 rfl) ?_
    refine x_getE 3 hk hx hb hB inBE hown hK hP hR (by decide) (by decide) (hB _ fl_X_104) rfl dX_settle_21 ?_
    obtain ⟨_, hq11⟩ := hR.dc (hR.ok.2.2 _ hk).1
    refine x_callv (va_runV (As := [.int (ev k 1), .int (ev k 3)]) (rest := []) ⟨hx, hb, hml, hown, hB⟩ (c_D_carryOut hR (hR.ok.2.2 _ hk).1 (ev k 1) (ev k 3)) (cwV 2 hB (gV ml_X_214 im_D_carryOut sl_D_carryOut ini_D kc_D_carryOut) rfl rfl rfl (by decide +kernel) ⟨Nat.le_of_ble_eq_true rfl, Nat.le_of_ble_eq_true rfl⟩) (x_preV hP hK hD hq11 rfl) rfl rfl hl.1 rfl (lv_room (Nat.le_of_ble_eq_true rfl)) dX_settle_24 ⟨Nat.le_of_ble_eq_true rfl, Nat.le_of_ble_eq_true rfl⟩) hD hS hA (fun w H locs hw hP hD hS => ?_)
    have hR := hw
    refine lv_aload_n hx hb dX_settle_27 rfl (lv_at hl 3 rfl) ?_
    refine lv_aload_n hx hb dX_settle_28 rfl (lv_at hl 1 rfl) ?_
    refine x_getD 3 (hR.ok.2.2 _ hk).1 hx hb hB inBD hown hK hP hR (by decide) (hB _ fl_X_151) rfl dX_settle_29 ?_
    refine x_putE4 ((upf d (ed k) (fCarry (d (ed k)) (ev k 1) (ev k 3))) (ed k) 3) hk hx hb hB inBE hown hK hP hD hS hR (hB _ fl_X_181) dX_settle_32 (fun w H locs hR hP hD hS => ?_)
    refine lv_goto (tgt := 45) hx hb dX_settle_35 (by decide) ?_
    refine lv_iload_n hx hb dX_settle_45 rfl (lv_at hl 0 rfl) ?_
    refine lv_iconst (v := 1) hx hb dX_settle_46 (by decide) ?_
    refine lv_icmp_ne (tgt := 67) hx hb dX_settle_47 (by decide) (fun c14 => ?_) (fun c14 => ?_)
    · refine lv_aload_n hx hb dX_settle_67 rfl (lv_at hl 1 rfl) ?_
      refine lv_aload_n hx hb dX_settle_68 rfl (lv_at hl 3 rfl) ?_
      obtain ⟨_, hq15⟩ := hR.dc (hR.ok.2.2 _ hk).1
      refine x_callv (va_runV (As := [.ref (eA k)]) (rest := []) ⟨hx, hb, hml, hown, hB⟩ (c_D_write hR (hR.ok.2.2 _ hk).1 hk) (cwV 1 hB (gV ml_X_218 im_D_write sl_D_write ini_D kc_D_write) rfl rfl rfl (by decide +kernel) ⟨Nat.le_of_ble_eq_true rfl, Nat.le_of_ble_eq_true rfl⟩) (x_preV hP hK hD hq15 rfl) rfl rfl hl.1 rfl (lv_room (Nat.le_of_ble_eq_true rfl)) dX_settle_69 ⟨Nat.le_of_ble_eq_true rfl, Nat.le_of_ble_eq_true rfl⟩) hD hS hA (fun w H locs hw hP hD hS => ?_)
      have hR := hw
      exact x_vret hx hb hr hlocks (by subst e2; first | (simpa [fSetG, fSetF, fSetR, upf_eq, upf_upf, up2_k1, up2_k3, c3, c14] using hR) | (have hR9 := hR; simp_all [fSetG, fSetF, fSetR, upf_eq, upf_upf, up2_k1, up2_k3]; done)) hP hK hD hS dX_settle_72
    · refine lv_aload_n hx hb dX_settle_50 rfl (lv_at hl 2 rfl) ?_
      refine lv_dup hx hb dX_settle_51 rfl ?_
      refine x_getX 11 hx hb hB inBX hown hK hP hR rfl (hB _ fl_X_116) rfl dX_settle_52 ?_
      refine lv_iconst (v := 1) hx hb dX_settle_55 (by decide) ?_
      refine lv_aload_n hx hb dX_settle_56 rfl (lv_at hl 3 rfl) ?_
      refine x_getE 1 hk hx hb hB inBE hown hK hP hR (by decide) (by decide) (hB _ fl_X_184) rfl dX_settle_57 ?_
      refine lv_ishl hx hb dX_settle_60 ?_
      refine lv_iconst (v := (-1)) hx hb dX_settle_61 (by decide) ?_
      refine lv_ixor hx hb dX_settle_62 ?_
      refine lv_iand hx hb dX_settle_63 ?_
      refine x_putX 11 ((g 11) &&& ((1 <<< (((up2 ev k 4 ((upf d (ed k) (fCarry (d (ed k)) (ev k 1) (ev k 3))) (ed k) 3)) k 1) &&& 31)) ^^^ (-1))) hx hb hB inBX hown hK hP hD hS hR rfl (hB _ fl_X_116) rfl rfl (by decide +kernel) dX_settle_64 (fun w H locs hR hP hD hS => ?_)
      refine lv_aload_n hx hb dX_settle_67 rfl (lv_at hl 1 rfl) ?_
      refine lv_aload_n hx hb dX_settle_68 rfl (lv_at hl 3 rfl) ?_
      obtain ⟨_, hq18⟩ := hR.dc (hR.ok.2.2 _ hk).1
      refine x_callv (va_runV (As := [.ref (eA k)]) (rest := []) ⟨hx, hb, hml, hown, hB⟩ (c_D_write hR (hR.ok.2.2 _ hk).1 hk) (cwV 1 hB (gV ml_X_218 im_D_write sl_D_write ini_D kc_D_write) rfl rfl rfl (by decide +kernel) ⟨Nat.le_of_ble_eq_true rfl, Nat.le_of_ble_eq_true rfl⟩) (x_preV hP hK hD hq18 rfl) rfl rfl hl.1 rfl (lv_room (Nat.le_of_ble_eq_true rfl)) dX_settle_69 ⟨Nat.le_of_ble_eq_true rfl, Nat.le_of_ble_eq_true rfl⟩) hD hS hA (fun w H locs hw hP hD hS => ?_)
      have hR := hw
      exact x_vret hx hb hr hlocks (by subst e2; first | (simpa [fSetG, fSetF, fSetR, upf_eq, upf_upf, up2_k1, up2_k3, c3, c14] using hR) | (have hR9 := hR; simp_all [fSetG, fSetF, fSetR, upf_eq, upf_upf, up2_k1, up2_k3]; done)) hP hK hD hS dX_settle_72
