set_option maxHeartbeats 4000000 in
set_option maxRecDepth 100000 in
theorem c_D_writtenAt {l : Launch} {G : va_G} {cI cD cE : ClassId} {aX aR aD aE : Nat} {dA eA : Nat → Nat} {g ro : Nat → Int32} {fst : Option Nat} {nD nE : Nat} {d : Nat → Nat → Int32} {fw lw : Nat → Option Nat} {ed : Nat → Nat} {ev : Nat → Nat → Int32} {nx : Nat → Option Nat} {w : va_W} {sz : Nat} (hR : RX cI cD cE aX aR aD aE dA eA g ro fst nD nE d fw lw ed ev nx w) {j : Nat} (hj : j < nD) {wr : List Nat} (hc : Chain nx wr (fw j)) (hw9 : d j 9 = nI wr.length) (hwr : wr.length < 2 ^ 30) (v : Int32) : xMq l yD_writtenAt wsD_writtenAt ({ frames := 0, cells := 0, slots := 0, locals := 0 }) [.ref (dA j), .int v] G (xTys cI cD cE) w sz (fun r w' => r = (fWrittenAt (d j) wr v).map eA ∧ w = w') 0 0 := by
  refine x_ofW (fun A => va_Qq (fun r w' => r = (fWrittenAt (d j) wr v).map eA ∧ w = w') (xEnd G (xTys cI cD cE) A) A) cD_writtenAt 4 (some (.object NmE)) (by decide) rfl (Nat.le_of_ble_eq_true rfl) ?_
  intro p e s m below meth c A ls hx hb hr hlocks hml hnm hown hB hA hP hK hD hS hl
  have hl : lv_has ls 4 [(0, .ref (dA j)), (1, .int v)] := hl
  have hown : s.vm.findClass NmD = some m.cls := hown
  have loop21 : ∀ (L9 : List Nat) (o : Option Nat) (i pl : Nat) (x3 : Int32), Chain nx L9 o → okP nE o → x3 = nI i → i ≤ pl → pl < i + L9.length → fWrittenAt (d j) wr v = L9[pl - i]? → v = nI pl → pl < 2 ^ 31 → ∀ (ls : Array Slot) (H : Heap) (locs : List Loc), lv_has ls 4 [(0, .ref (dA j)), (1, .int v), (2, va_rf (Option.map eA o)), (3, .int x3)] → va_P G vwCl w H → va_D A w → va_S A s.heap H locs → W p l e ({ frames := 0, cells := 0, slots := 0, locals := 0 }) s m [.ref (dA j), .int v].toArray below meth c H locs 0 0 (MQ below (va_Qq (fun r w' => r = (fWrittenAt (d j) wr v).map eA ∧ w = w') (xEnd G (xTys cI cD cE) A) A) [.ref (dA j), .int v].toArray s 0 0 A) (F0 m 21 ls []) := by
    intro L9
    induction L9 with
    | nil =>
      intro o i pl x3 hc ho ex3 hi hl2 hq hv hpl ls H locs hl hP hD hS
      simp at hl2; omega
    | cons k L9 ih =>
      intro o i pl x3 hc ho ex3 hi hl2 hq hv hpl ls H locs hl hP hD hS
      obtain ⟨rfl, hc⟩ := hc
      have hk : k < nE := ho _ rfl
      have hl : lv_has ls 4 [(0, .ref (dA j)), (1, .int v), (2, .ref (eA k)), (3, .int x3)] := hl
      refine lv_iload_n hx hb dD_writtenAt_21 rfl (lv_at hl 3 rfl) ?_
      refine lv_iload_n hx hb dD_writtenAt_22 rfl (lv_at hl 1 rfl) ?_
      refine lv_icmp_ge (tgt := 41) hx hb dD_writtenAt_23 (by decide) (fun c1 => ?_) (fun c1 => ?_)
      · refine lv_aload_n hx hb dD_writtenAt_41 rfl (lv_at hl 2 rfl) ?_
        exact x_qret (r := some (eA k)) hx hb hr hlocks ⟨by have h9 := x_geq ex3 hv c1 hi (by omega); subst h9; rw [hq]; simp, rfl⟩ hP hK hD hS dD_writtenAt_42
      · refine lv_aload_n hx hb dD_writtenAt_26 rfl (lv_at hl 2 rfl) ?_
        refine lv_ifnull hx hb dD_writtenAt_27 ?_
        refine lv_aload_n hx hb dD_writtenAt_30 rfl (lv_at hl 2 rfl) ?_
        refine x_getE5 hk hx hb hB inBE hown hK hP hR (hB _ fl_D_59) dD_writtenAt_31 ?_
        refine x_astore_n (lv' := [(2, va_rf (Option.map eA (nx k))), (0, .ref (dA j)), (1, .int v), (3, .int x3)]) hx hb dD_writtenAt_34 rfl hl (by decide) rfl (fun ls hl => ?_)
        refine lv_iinc (v := x3 + 1) (lv' := [(3, .int (x3 + 1)), (2, va_rf (Option.map eA (nx k))), (0, .ref (dA j)), (1, .int v)]) hx hb dD_writtenAt_35 hl (k := 3) rfl rfl (by decide) (by simp [va_rf_cat]) (fun ls hl => ?_)
        refine lv_goto (tgt := 21) hx hb dD_writtenAt_38 (by decide) ?_
        exact ih (nx k) (i + 1) pl _ hc (hR.ok.2.2 _ hk).2 (by rw [ex3]; exact nI_1 i) (x_ltn' ex3 hv c1 (by omega) (by omega)) (by simp at hl2 ⊢; omega) (by have h9 := x_ltn' ex3 hv c1 (by omega) (by omega); rw [hq, show pl - i = (pl - (i + 1)) + 1 by omega]; rfl) hv hpl _ _ _ (lv_sub hl [2, 3, 1, 0] rfl) hP hD hS
  refine lv_iload_n hx hb dD_writtenAt_0 rfl (lv_at hl 1 rfl) ?_
  refine lv_if_lt (tgt := 12) hx hb dD_writtenAt_1 (by decide) (fun c2 => ?_) (fun c2 => ?_)
  · refine lv_null hx hb dD_writtenAt_12 ?_
    exact x_qret (r := none) hx hb hr hlocks ⟨by simp [fWrittenAt, c2], rfl⟩ hP hK hD hS dD_writtenAt_13
  · refine lv_iload_n hx hb dD_writtenAt_4 rfl (lv_at hl 1 rfl) ?_
    refine lv_aload_n hx hb dD_writtenAt_5 rfl (lv_at hl 0 rfl) ?_
    refine x_getD 9 hj hx hb hB inBD hown hK hP hR (by decide) (hB _ fl_D_71) rfl dD_writtenAt_6 ?_
    refine lv_icmp_lt (tgt := 14) hx hb dD_writtenAt_9 (by decide) (fun c3 => ?_) (fun c3 => ?_)
    · refine lv_aload_n hx hb dD_writtenAt_14 rfl (lv_at hl 0 rfl) ?_
      refine x_getD10 hj hx hb hB inBD hown hK hP hR (hB _ fl_D_68) dD_writtenAt_15 ?_
      refine x_astore_n (lv' := [(2, va_rf (Option.map eA (fw j))), (0, .ref (dA j)), (1, .int v)]) hx hb dD_writtenAt_18 rfl hl (by decide) rfl (fun ls hl => ?_)
      refine lv_iconst (v := 0) hx hb dD_writtenAt_19 (by decide) ?_
      refine lv_istore_n (i := 3) (lv' := [(3, .int 0), (2, va_rf (Option.map eA (fw j))), (0, .ref (dA j)), (1, .int v)]) hx hb dD_writtenAt_20 rfl hl (by decide) (by simp [va_rf_cat]) (fun ls hl => ?_)
      exact loop21 wr (fw j) 0 v.toNatClampNeg _ hc (hR.ok.2.1 _ hj).1 nI_0.symm (Nat.zero_le _) (x_lt9 c2 c3 hw9 (by omega)) (by simp [fWrittenAt, c2, c3]) (x_nI c2) (x_nb c2) _ _ _ (lv_sub hl [2, 3, 1, 0] rfl) hP hD hS
    · refine lv_null hx hb dD_writtenAt_12 ?_
      exact x_qret (r := none) hx hb hr hlocks ⟨by simp [fWrittenAt, c2, c3], rfl⟩ hP hK hD hS dD_writtenAt_13
set_option maxHeartbeats 4000000 in
set_option maxRecDepth 100000 in
theorem c_X_putInWaitingOrder {l : Launch} {G : va_G} {cI cD cE : ClassId} {aX aR aD aE : Nat} {dA eA : Nat → Nat} {g ro : Nat → Int32} {fst : Option Nat} {nD nE : Nat} {d : Nat → Nat → Int32} {fw lw : Nat → Option Nat} {ed : Nat → Nat} {ev : Nat → Nat → Int32} {nx : Nat → Option Nat} {w : va_W} {sz : Nat} (hR : RX cI cD cE aX aR aD aE dA eA g ro fst nD nE d fw lw ed ev nx w) {k : Nat} (hk : k < nE) {wl : List Nat} (hc : Chain nx wl fst) : xMv l yX_putInWaitingOrder wsX_putInWaitingOrder ({ frames := 1, cells := 0, slots := 0, locals := 21 }) [.ref aX, .ref (eA k)] G (xTys cI cD cE) w sz (fun w' => RX cI cD cE aX aR aD aE dA eA (upd g 7 (g 7 + 1)) ro (iFs fst k (insAt ev (ev k) none wl)) nD nE d fw lw ed ev (iNx nx k (insAt ev (ev k) none wl)) w') 0 0 := by
  refine x_ofW (fun A => va_Qv (fun w' => RX cI cD cE aX aR aD aE dA eA (upd g 7 (g 7 + 1)) ro (iFs fst k (insAt ev (ev k) none wl)) nD nE d fw lw ed ev (iNx nx k (insAt ev (ev k) none wl)) w') (xEnd G (xTys cI cD cE) A) A) cX_putInWaitingOrder 4 none (by decide) rfl (Nat.le_of_ble_eq_true rfl) ?_
  intro p e s m below meth c A ls hx hb hr hlocks hml hnm hown hB hA hP hK hD hS hl
  have hl : lv_has ls 4 [(0, .ref aX), (1, .ref (eA k))] := hl
  have hown : s.vm.findClass NmX = some m.cls := hown
  have loop7 : ∀ (L9 : List Nat) (o2 o3 : Option Nat), Chain nx L9 o3 → okP nE o2 → okP nE o3 → insAt ev (ev k) o2 L9 = insAt ev (ev k) none wl → ∀ (ls : Array Slot) (H : Heap) (locs : List Loc), lv_has ls 4 [(0, .ref aX), (1, .ref (eA k)), (2, va_rf (Option.map eA o2)), (3, va_rf (Option.map eA o3))] → va_P G vwCl w H → va_D A w → va_S A s.heap H locs → W p l e ({ frames := 1, cells := 0, slots := 0, locals := 21 }) s m [.ref aX, .ref (eA k)].toArray below meth c H locs 0 0 (MQ below (va_Qv (fun w' => RX cI cD cE aX aR aD aE dA eA (upd g 7 (g 7 + 1)) ro (iFs fst k (insAt ev (ev k) none wl)) nD nE d fw lw ed ev (iNx nx k (insAt ev (ev k) none wl)) w') (xEnd G (xTys cI cD cE) A) A) [.ref aX, .ref (eA k)].toArray s 0 0 A) (F0 m 7 ls []) := by
    intro L9
    induction L9 with
    | nil =>
      intro o2 o3 hc h2 h3 hq ls H locs hl hP hD hS
      obtain rfl : o3 = none := hc
      have hl : lv_has ls 4 [(0, .ref aX), (1, .ref (eA k)), (2, va_rf (Option.map eA o2)), (3, .null)] := hl
      refine lv_aload_nN hx hb dX_putInWaitingOrder_7 rfl (lv_at hl 3 rfl) ?_
      refine lv_ifnullN (tgt := 29) hx hb dX_putInWaitingOrder_8 (by decide) ?_
      cases o2 with
      | none =>
        have hl : lv_has ls 4 [(0, .ref aX), (1, .ref (eA k)), (2, .null), (3, .null)] := hl
        refine lv_aload_n hx hb dX_putInWaitingOrder_29 rfl (lv_at hl 1 rfl) ?_
        refine lv_aload_nN hx hb dX_putInWaitingOrder_30 rfl (lv_at hl 3 rfl) ?_
        refine x_putE5 none okP_none hk hx hb hB inBE hown hK hP hD hS hR (hB _ fl_X_107) dX_putInWaitingOrder_31 (fun w H locs hR hP hD hS => ?_)
        refine lv_aload_nN hx hb dX_putInWaitingOrder_34 rfl (lv_at hl 2 rfl) ?_
        refine lv_ifnonnullN hx hb dX_putInWaitingOrder_35 ?_
        refine lv_aload_n hx hb dX_putInWaitingOrder_38 rfl (lv_at hl 0 rfl) ?_
        refine lv_aload_n hx hb dX_putInWaitingOrder_39 rfl (lv_at hl 1 rfl) ?_
        refine x_putF (some k) (okP_some hk) hx hb hB inBX hown hK hP hD hS hR (hB _ fl_X_100) dX_putInWaitingOrder_40 (fun w H locs hR hP hD hS => ?_)
        refine lv_goto (tgt := 51) hx hb dX_putInWaitingOrder_43 (by decide) ?_
        refine lv_aload_n hx hb dX_putInWaitingOrder_51 rfl (lv_at hl 0 rfl) ?_
        refine lv_dup hx hb dX_putInWaitingOrder_52 rfl ?_
        refine x_getX 7 hx hb hB inBX hown hK hP hR rfl (hB _ fl_X_86) rfl dX_putInWaitingOrder_53 ?_
        refine lv_iconst (v := 1) hx hb dX_putInWaitingOrder_56 (by decide) ?_
        refine lv_iadd hx hb dX_putInWaitingOrder_57 ?_
        refine x_putX 7 ((g 7) + 1) hx hb hB inBX hown hK hP hD hS hR rfl (hB _ fl_X_86) rfl rfl (by decide +kernel) dX_putInWaitingOrder_58 (fun w H locs hR hP hD hS => ?_)
        exact x_vret hx hb hr hlocks (by (have hq2 := hq.symm); simp [insAt, ] at hq2; simpa [hq2, iFs, iNx] using hR) hP hK hD hS dX_putInWaitingOrder_61
      | some a =>
        have ha9 : a < nE := h2 _ rfl
        have hl : lv_has ls 4 [(0, .ref aX), (1, .ref (eA k)), (2, .ref (eA a)), (3, .null)] := hl
        refine lv_aload_n hx hb dX_putInWaitingOrder_29 rfl (lv_at hl 1 rfl) ?_
        refine lv_aload_nN hx hb dX_putInWaitingOrder_30 rfl (lv_at hl 3 rfl) ?_
        refine x_putE5 none okP_none hk hx hb hB inBE hown hK hP hD hS hR (hB _ fl_X_107) dX_putInWaitingOrder_31 (fun w H locs hR hP hD hS => ?_)
        refine lv_aload_n hx hb dX_putInWaitingOrder_34 rfl (lv_at hl 2 rfl) ?_
        refine lv_ifnonnull (tgt := 46) hx hb dX_putInWaitingOrder_35 (by decide) ?_
        refine lv_aload_n hx hb dX_putInWaitingOrder_46 rfl (lv_at hl 2 rfl) ?_
        refine lv_aload_n hx hb dX_putInWaitingOrder_47 rfl (lv_at hl 1 rfl) ?_
        refine x_putE5 (some k) (okP_some hk) ha9 hx hb hB inBE hown hK hP hD hS hR (hB _ fl_X_107) dX_putInWaitingOrder_48 (fun w H locs hR hP hD hS => ?_)
        refine lv_aload_n hx hb dX_putInWaitingOrder_51 rfl (lv_at hl 0 rfl) ?_
        refine lv_dup hx hb dX_putInWaitingOrder_52 rfl ?_
        refine x_getX 7 hx hb hB inBX hown hK hP hR rfl (hB _ fl_X_86) rfl dX_putInWaitingOrder_53 ?_
        refine lv_iconst (v := 1) hx hb dX_putInWaitingOrder_56 (by decide) ?_
        refine lv_iadd hx hb dX_putInWaitingOrder_57 ?_
        refine x_putX 7 ((g 7) + 1) hx hb hB inBX hown hK hP hD hS hR rfl (hB _ fl_X_86) rfl rfl (by decide +kernel) dX_putInWaitingOrder_58 (fun w H locs hR hP hD hS => ?_)
        exact x_vret hx hb hr hlocks (by (have hq2 := hq.symm); simp [insAt, ] at hq2; simpa [hq2, iFs, iNx] using hR) hP hK hD hS dX_putInWaitingOrder_61
    | cons b L9 ih =>
      intro o2 o3 hc h2 h3 hq ls H locs hl hP hD hS
      obtain ⟨rfl, hc⟩ := hc
      have hb9 : b < nE := h3 _ rfl
      have hl : lv_has ls 4 [(0, .ref aX), (1, .ref (eA k)), (2, va_rf (Option.map eA o2)), (3, .ref (eA b))] := hl
      refine lv_aload_n hx hb dX_putInWaitingOrder_7 rfl (lv_at hl 3 rfl) ?_
      refine lv_ifnull hx hb dX_putInWaitingOrder_8 ?_
      refine lv_aload_n hx hb dX_putInWaitingOrder_11 rfl (lv_at hl 1 rfl) ?_
      refine lv_aload_n hx hb dX_putInWaitingOrder_12 rfl (lv_at hl 3 rfl) ?_
      obtain ⟨_, hq1⟩ := hR.ec hk
      refine x_calli (va_runV (As := [.ref (eA b)]) (rest := []) ⟨hx, hb, hml, hown, hB⟩ (c_E_goesAheadOf hR hk hb9) (cwV 1 hB (gV ml_X_206 im_E_goesAheadOf sl_E_goesAheadOf ini_E kc_E_goesAheadOf) rfl rfl rfl (by decide +kernel) ⟨Nat.le_of_ble_eq_true rfl, Nat.le_of_ble_eq_true rfl⟩) (x_preV hP hK hD hq1 rfl) rfl rfl hl.1 rfl (lv_room (Nat.le_of_ble_eq_true rfl)) dX_putInWaitingOrder_13 ⟨Nat.le_of_ble_eq_true rfl, Nat.le_of_ble_eq_true rfl⟩) hD hS hA (fun r2 w H locs hw hP hD hS => ?_)
      obtain ⟨e3, rfl⟩ := hw
      refine lv_if_ne (tgt := 29) hx hb dX_putInWaitingOrder_16 (by decide) (fun c4 => ?_) (fun c4 => ?_)
      · cases o2 with
        | none =>
          have hl : lv_has ls 4 [(0, .ref aX), (1, .ref (eA k)), (2, .null), (3, .ref (eA b))] := hl
          refine lv_aload_n hx hb dX_putInWaitingOrder_29 rfl (lv_at hl 1 rfl) ?_
          refine lv_aload_n hx hb dX_putInWaitingOrder_30 rfl (lv_at hl 3 rfl) ?_
          refine x_putE5 (some b) (okP_some hb9) hk hx hb hB inBE hown hK hP hD hS hR (hB _ fl_X_107) dX_putInWaitingOrder_31 (fun w H locs hR hP hD hS => ?_)
          refine lv_aload_nN hx hb dX_putInWaitingOrder_34 rfl (lv_at hl 2 rfl) ?_
          refine lv_ifnonnullN hx hb dX_putInWaitingOrder_35 ?_
          refine lv_aload_n hx hb dX_putInWaitingOrder_38 rfl (lv_at hl 0 rfl) ?_
          refine lv_aload_n hx hb dX_putInWaitingOrder_39 rfl (lv_at hl 1 rfl) ?_
          refine x_putF (some k) (okP_some hk) hx hb hB inBX hown hK hP hD hS hR (hB _ fl_X_100) dX_putInWaitingOrder_40 (fun w H locs hR hP hD hS => ?_)
          refine lv_goto (tgt := 51) hx hb dX_putInWaitingOrder_43 (by decide) ?_
          refine lv_aload_n hx hb dX_putInWaitingOrder_51 rfl (lv_at hl 0 rfl) ?_
          refine lv_dup hx hb dX_putInWaitingOrder_52 rfl ?_
          refine x_getX 7 hx hb hB inBX hown hK hP hR rfl (hB _ fl_X_86) rfl dX_putInWaitingOrder_53 ?_
          refine lv_iconst (v := 1) hx hb dX_putInWaitingOrder_56 (by decide) ?_
          refine lv_iadd hx hb dX_putInWaitingOrder_57 ?_
          refine x_putX 7 ((g 7) + 1) hx hb hB inBX hown hK hP hD hS hR rfl (hB _ fl_X_86) rfl rfl (by decide +kernel) dX_putInWaitingOrder_58 (fun w H locs hR hP hD hS => ?_)
          exact x_vret hx hb hr hlocks (by subst e3; (have hq2 := hq.symm); simp [insAt, c4] at hq2; simpa [hq2, iFs, iNx] using hR) hP hK hD hS dX_putInWaitingOrder_61
        | some a =>
          have ha9 : a < nE := h2 _ rfl
          have hl : lv_has ls 4 [(0, .ref aX), (1, .ref (eA k)), (2, .ref (eA a)), (3, .ref (eA b))] := hl
          refine lv_aload_n hx hb dX_putInWaitingOrder_29 rfl (lv_at hl 1 rfl) ?_
          refine lv_aload_n hx hb dX_putInWaitingOrder_30 rfl (lv_at hl 3 rfl) ?_
          refine x_putE5 (some b) (okP_some hb9) hk hx hb hB inBE hown hK hP hD hS hR (hB _ fl_X_107) dX_putInWaitingOrder_31 (fun w H locs hR hP hD hS => ?_)
          refine lv_aload_n hx hb dX_putInWaitingOrder_34 rfl (lv_at hl 2 rfl) ?_
          refine lv_ifnonnull (tgt := 46) hx hb dX_putInWaitingOrder_35 (by decide) ?_
          refine lv_aload_n hx hb dX_putInWaitingOrder_46 rfl (lv_at hl 2 rfl) ?_
          refine lv_aload_n hx hb dX_putInWaitingOrder_47 rfl (lv_at hl 1 rfl) ?_
          refine x_putE5 (some k) (okP_some hk) ha9 hx hb hB inBE hown hK hP hD hS hR (hB _ fl_X_107) dX_putInWaitingOrder_48 (fun w H locs hR hP hD hS => ?_)
          refine lv_aload_n hx hb dX_putInWaitingOrder_51 rfl (lv_at hl 0 rfl) ?_
          refine lv_dup hx hb dX_putInWaitingOrder_52 rfl ?_
          refine x_getX 7 hx hb hB inBX hown hK hP hR rfl (hB _ fl_X_86) rfl dX_putInWaitingOrder_53 ?_
          refine lv_iconst (v := 1) hx hb dX_putInWaitingOrder_56 (by decide) ?_
          refine lv_iadd hx hb dX_putInWaitingOrder_57 ?_
          refine x_putX 7 ((g 7) + 1) hx hb hB inBX hown hK hP hD hS hR rfl (hB _ fl_X_86) rfl rfl (by decide +kernel) dX_putInWaitingOrder_58 (fun w H locs hR hP hD hS => ?_)
          exact x_vret hx hb hr hlocks (by subst e3; (have hq2 := hq.symm); simp [insAt, c4] at hq2; simpa [hq2, iFs, iNx] using hR) hP hK hD hS dX_putInWaitingOrder_61
      · refine lv_aload_n hx hb dX_putInWaitingOrder_19 rfl (lv_at hl 3 rfl) ?_
        refine lv_astore_n (lv' := [(2, .ref (eA b)), (0, .ref aX), (1, .ref (eA k)), (3, .ref (eA b))]) hx hb dX_putInWaitingOrder_20 rfl hl (by decide) rfl (fun ls hl => ?_)
        refine lv_aload_n hx hb dX_putInWaitingOrder_21 rfl (lv_at hl 3 rfl) ?_
        refine x_getE5 hb9 hx hb hB inBE hown hK hP hR (hB _ fl_X_107) dX_putInWaitingOrder_22 ?_
        refine x_astore_n (lv' := [(3, va_rf (Option.map eA (nx b))), (2, .ref (eA b)), (0, .ref aX), (1, .ref (eA k))]) hx hb dX_putInWaitingOrder_25 rfl hl (by decide) rfl (fun ls hl => ?_)
        refine lv_goto (tgt := 7) hx hb dX_putInWaitingOrder_26 (by decide) ?_
        exact ih (some b) (nx b) hc (okP_some hb9) (hR.ok.2.2 _ hb9).2 (by rw [← hq]; subst e3; simp [insAt, c4]) _ _ _ (lv_sub hl [2, 3, 1, 0] rfl) hP hD hS
  refine lv_null hx hb dX_putInWaitingOrder_0 ?_
  refine lv_astore_nN (lv' := [(2, .null), (0, .ref aX), (1, .ref (eA k))]) hx hb dX_putInWaitingOrder_1 rfl hl (by decide) rfl (fun ls hl => ?_)
  refine lv_aload_n hx hb dX_putInWaitingOrder_2 rfl (lv_at hl 1 rfl) ?_
  refine x_getF hx hb hB inBX hown hK hP hR (hB _ fl_X_100) dX_putInWaitingOrder_3 ?_
  refine x_astore_n (lv' := [(3, va_rf (Option.map eA (fst))), (2, .null), (0, .ref aX), (1, .ref (eA k))]) hx hb dX_putInWaitingOrder_6 rfl hl (by decide) rfl (fun ls hl => ?_)
  exact loop7 wl none fst hc okP_none hR.ok.1 rfl _ _ _ (lv_sub hl [2, 3, 1, 0] rfl) hP hD hS
