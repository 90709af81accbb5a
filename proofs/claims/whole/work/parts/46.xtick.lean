set_option maxHeartbeats 4000000 in
set_option maxRecDepth 100000 in
theorem c_X_tick {l : Launch} {G : va_G} {cI cD cE : ClassId} {aX aR aD aE : Nat} {dA eA : Nat → Nat} {g ro : Nat → Int32} {fst : Option Nat} {nD nE : Nat} {d : Nat → Nat → Int32} {fw lw : Nat → Option Nat} {ed : Nat → Nat} {ev : Nat → Nat → Int32} {nx : Nat → Option Nat} {w : va_W} {sz : Nat} (hl9 : l.stackTraces = false) (hR : RX cI cD cE aX aR aD aE dA eA g ro fst nD nE d fw lw ed ev nx w) (t9 : Int32) {wl : List Nat} {J : List Nat → TS → Prop} (hJ : J wl (g, fst, d, fw, lw, ev, nx)) (hJ1 : ∀ L (q : TS), J L q → Chain q.2.2.2.2.2.2 L q.2.1) (hJ2 : ∀ k L (q : TS), J (k :: L) q → J L (tStep ro ed k q)) : xXi l yX_tick wsX_tick ({ frames := 6, cells := 1, slots := 6, locals := 108 }) [.ref aX, .int t9] G (xTys cI cD cE) w sz (fun r w' => fTickC g t9 = 0 ∧ r = nI (tRun t9 ro ed wl (g, fst, d, fw, lw, ev, nx) 0).2 ∧ RX cI cD cE aX aR aD aE dA eA (upd (tRun t9 ro ed wl (g, fst, d, fw, lw, ev, nx) 0).1.1 8 t9) ro ((tRun t9 ro ed wl (g, fst, d, fw, lw, ev, nx) 0).1.2.1) nD nE ((tRun t9 ro ed wl (g, fst, d, fw, lw, ev, nx) 0).1.2.2.1) ((tRun t9 ro ed wl (g, fst, d, fw, lw, ev, nx) 0).1.2.2.2.1) ((tRun t9 ro ed wl (g, fst, d, fw, lw, ev, nx) 0).1.2.2.2.2.1) ed ((tRun t9 ro ed wl (g, fst, d, fw, lw, ev, nx) 0).1.2.2.2.2.2.1) ((tRun t9 ro ed wl (g, fst, d, fw, lw, ev, nx) 0).1.2.2.2.2.2.2) w') (fun E => (E = eIAE ∧ (fTickC g t9) = 1) ∨ (E = eISE ∧ (fTickC g t9) = 2)) 1 6 := by
  refine x_ofX (fun A => va_Qi (fun r w' => fTickC g t9 = 0 ∧ r = nI (tRun t9 ro ed wl (g, fst, d, fw, lw, ev, nx) 0).2 ∧ RX cI cD cE aX aR aD aE dA eA (upd (tRun t9 ro ed wl (g, fst, d, fw, lw, ev, nx) 0).1.1 8 t9) ro ((tRun t9 ro ed wl (g, fst, d, fw, lw, ev, nx) 0).1.2.1) nD nE ((tRun t9 ro ed wl (g, fst, d, fw, lw, ev, nx) 0).1.2.2.1) ((tRun t9 ro ed wl (g, fst, d, fw, lw, ev, nx) 0).1.2.2.2.1) ((tRun t9 ro ed wl (g, fst, d, fw, lw, ev, nx) 0).1.2.2.2.2.1) ed ((tRun t9 ro ed wl (g, fst, d, fw, lw, ev, nx) 0).1.2.2.2.2.2.1) ((tRun t9 ro ed wl (g, fst, d, fw, lw, ev, nx) 0).1.2.2.2.2.2.2) w') (xEnd G (xTys cI cD cE) A) A) (fun E => (E = eIAE ∧ (fTickC g t9) = 1) ∨ (E = eISE ∧ (fTickC g t9) = 2)) cX_tick 4 (some .int) (by decide) rfl (Nat.le_of_ble_eq_true rfl) ?_
  intro p e s m below meth c A ls hx hb hr hlocks hml hnm hown hB hA ht hthr hP hK hD hS hl
  have hl : lv_has ls 4 [(0, .ref aX), (1, .int t9)] := hl
  have hown : s.vm.findClass NmX = some m.cls := hown
  have loop31 : ∀ (L9 : List Nat) (g2 : Nat → Int32) (f2 : Option Nat) (d2 : Nat → Nat → Int32) (fw2 lw2 : Nat → Option Nat) (ev2 : Nat → Nat → Int32) (nx2 : Nat → Option Nat) (n : Nat) (x2 : Int32), J L9 (g2, f2, d2, fw2, lw2, ev2, nx2) → x2 = nI n → n ≤ 20 → tRun t9 ro ed L9 (g2, f2, d2, fw2, lw2, ev2, nx2) n = tRun t9 ro ed wl (g, fst, d, fw, lw, ev, nx) 0 → fTickC g t9 = 0 → ∀ (wv : va_W) (ls : Array Slot) (H : Heap) (locs : List Loc), lv_has ls 4 [(0, .ref aX), (1, .int t9), (2, .int x2), (3, va_rf (Option.map eA f2))] → RX cI cD cE aX aR aD aE dA eA g2 ro f2 nD nE d2 fw2 lw2 ed ev2 nx2 wv → va_P G vwCl wv H → va_D A wv → va_S A s.heap H locs → W p l e ({ frames := 6, cells := 1, slots := 6, locals := 108 }) s m [.ref aX, .int t9].toArray below meth c H locs 0 0 (vx_MQ below (va_Qi (fun r w' => fTickC g t9 = 0 ∧ r = nI (tRun t9 ro ed wl (g, fst, d, fw, lw, ev, nx) 0).2 ∧ RX cI cD cE aX aR aD aE dA eA (upd (tRun t9 ro ed wl (g, fst, d, fw, lw, ev, nx) 0).1.1 8 t9) ro ((tRun t9 ro ed wl (g, fst, d, fw, lw, ev, nx) 0).1.2.1) nD nE ((tRun t9 ro ed wl (g, fst, d, fw, lw, ev, nx) 0).1.2.2.1) ((tRun t9 ro ed wl (g, fst, d, fw, lw, ev, nx) 0).1.2.2.2.1) ((tRun t9 ro ed wl (g, fst, d, fw, lw, ev, nx) 0).1.2.2.2.2.1) ed ((tRun t9 ro ed wl (g, fst, d, fw, lw, ev, nx) 0).1.2.2.2.2.2.1) ((tRun t9 ro ed wl (g, fst, d, fw, lw, ev, nx) 0).1.2.2.2.2.2.2) w') (xEnd G (xTys cI cD cE) A) A) (xXC G (xTys cI cD cE) w (fun E => (E = eIAE ∧ (fTickC g t9) = 1) ∨ (E = eISE ∧ (fTickC g t9) = 2)) A) [.ref aX, .int t9].toArray s 1 6 A) (F0 m 31 ls []) := by
    intro L9
    induction L9 with
    | nil =>
      intro g2 f2 d2 fw2 lw2 ev2 nx2 n x2 hJ ex2 hn20 hrun hC w ls H locs hl hR hP hD hS
      obtain rfl : f2 = none := hJ1 _ _ hJ
      have hl : lv_has ls 4 [(0, .ref aX), (1, .int t9), (2, .int x2), (3, .null)] := hl
      refine lv_aload_nN hx hb dX_tick_31 rfl (lv_at hl 3 rfl) ?_
      refine lv_ifnullN (tgt := 83) hx hb dX_tick_32 (by decide) ?_
      refine lv_aload_n hx hb dX_tick_83 rfl (lv_at hl 0 rfl) ?_
      refine lv_iload_n hx hb dX_tick_84 rfl (lv_at hl 1 rfl) ?_
      refine x_putX 8 t9 hx hb hB inBX hown hK hP hD hS hR rfl (hB _ fl_X_77) rfl rfl (by decide +kernel) dX_tick_85 (fun w H locs hR hP hD hS => ?_)
      refine lv_iload_n hx hb dX_tick_88 rfl (lv_at hl 2 rfl) ?_
      exact x_reti (v := x2) hx hb hr hlocks (Nat.le_of_ble_eq_true rfl) (Nat.le_of_ble_eq_true rfl) ⟨hC, (by have e9 : (((g2, none, d2, fw2, lw2, ev2, nx2) : TS), n) = tRun t9 ro ed wl (g, fst, d, fw, lw, ev, nx) 0 := (by rw [← hrun]; simp [tRun]); rw [← e9]; exact ex2), (by have e9 : (((g2, none, d2, fw2, lw2, ev2, nx2) : TS), n) = tRun t9 ro ed wl (g, fst, d, fw, lw, ev, nx) 0 := (by rw [← hrun]; simp [tRun]); rw [← e9]; exact hR)⟩ hP hK hD hS dX_tick_89
    | cons k L9 ih =>
      intro g2 f2 d2 fw2 lw2 ev2 nx2 n x2 hJ ex2 hn20 hrun hC w ls H locs hl hR hP hD hS
      obtain ⟨rfl, hch⟩ : f2 = some k ∧ Chain nx2 L9 (nx2 k) := hJ1 _ _ hJ
      have hk : k < nE := hR.ok.1 _ rfl
      have hl : lv_has ls 4 [(0, .ref aX), (1, .int t9), (2, .int x2), (3, .ref (eA k))] := hl
      refine lv_aload_n hx hb dX_tick_31 rfl (lv_at hl 3 rfl) ?_
      refine lv_ifnull hx hb dX_tick_32 ?_
      refine lv_aload_n hx hb dX_tick_35 rfl (lv_at hl 3 rfl) ?_
      refine x_getE 3 hk hx hb hB inBE hown hK hP hR (by decide) (by decide) (hB _ fl_X_104) rfl dX_tick_36 ?_
      refine lv_iload_n hx hb dX_tick_39 rfl (lv_at hl 1 rfl) ?_
      refine lv_icmp_gt (tgt := 83) hx hb dX_tick_40 (by decide) (fun c1 => ?_) (fun c1 => ?_)
      · refine lv_aload_n hx hb dX_tick_83 rfl (lv_at hl 0 rfl) ?_
        refine lv_iload_n hx hb dX_tick_84 rfl (lv_at hl 1 rfl) ?_
        refine x_putX 8 t9 hx hb hB inBX hown hK hP hD hS hR rfl (hB _ fl_X_77) rfl rfl (by decide +kernel) dX_tick_85 (fun w H locs hR hP hD hS => ?_)
        refine lv_iload_n hx hb dX_tick_88 rfl (lv_at hl 2 rfl) ?_
        exact x_reti (v := x2) hx hb hr hlocks (Nat.le_of_ble_eq_true rfl) (Nat.le_of_ble_eq_true rfl) ⟨hC, (by have e9 : (((g2, some k, d2, fw2, lw2, ev2, nx2) : TS), n) = tRun t9 ro ed wl (g, fst, d, fw, lw, ev, nx) 0 := (by rw [← hrun]; simp [tRun, c1]); rw [← e9]; exact ex2), (by have e9 : (((g2, some k, d2, fw2, lw2, ev2, nx2) : TS), n) = tRun t9 ro ed wl (g, fst, d, fw, lw, ev, nx) 0 := (by rw [← hrun]; simp [tRun, c1]); rw [← e9]; exact hR)⟩ hP hK hD hS dX_tick_89
      · refine lv_iload_n hx hb dX_tick_43 rfl (lv_at hl 2 rfl) ?_
        refine lv_bipush (v := 20) hx hb dX_tick_44 (by decide) ?_
        refine lv_icmp_ge (tgt := 83) hx hb dX_tick_46 (by decide) (fun c2 => ?_) (fun c2 => ?_)
        · refine lv_aload_n hx hb dX_tick_83 rfl (lv_at hl 0 rfl) ?_
          refine lv_iload_n hx hb dX_tick_84 rfl (lv_at hl 1 rfl) ?_
          refine x_putX 8 t9 hx hb hB inBX hown hK hP hD hS hR rfl (hB _ fl_X_77) rfl rfl (by decide +kernel) dX_tick_85 (fun w H locs hR hP hD hS => ?_)
          refine lv_iload_n hx hb dX_tick_88 rfl (lv_at hl 2 rfl) ?_
          exact x_reti (v := x2) hx hb hr hlocks (Nat.le_of_ble_eq_true rfl) (Nat.le_of_ble_eq_true rfl) ⟨hC, (by have e9 : (((g2, some k, d2, fw2, lw2, ev2, nx2) : TS), n) = tRun t9 ro ed wl (g, fst, d, fw, lw, ev, nx) 0 := (by rw [← hrun]; have z1 := c2; rw [ex2] at z1; simp [tRun, c1, z1]); rw [← e9]; exact ex2), (by have e9 : (((g2, some k, d2, fw2, lw2, ev2, nx2) : TS), n) = tRun t9 ro ed wl (g, fst, d, fw, lw, ev, nx) 0 := (by rw [← hrun]; have z1 := c2; rw [ex2] at z1; simp [tRun, c1, z1]); rw [← e9]; exact hR)⟩ hP hK hD hS dX_tick_89
        · refine lv_aload_n hx hb dX_tick_49 rfl (lv_at hl 0 rfl) ?_
          refine lv_aload_n hx hb dX_tick_50 rfl (lv_at hl 3 rfl) ?_
          refine x_getE5 hk hx hb hB inBE hown hK hP hR (hB _ fl_X_107) dX_tick_51 ?_
          refine x_putF (nx2 k) ((hR.ok.2.2 _ hk).2) hx hb hB inBX hown hK hP hD hS hR (hB _ fl_X_100) dX_tick_54 (fun w H locs hR hP hD hS => ?_)
          refine lv_aload_n hx hb dX_tick_57 rfl (lv_at hl 0 rfl) ?_
          refine lv_dup hx hb dX_tick_58 rfl ?_
          refine x_getX 7 hx hb hB inBX hown hK hP hR rfl (hB _ fl_X_86) rfl dX_tick_59 ?_
          refine lv_iconst (v := 1) hx hb dX_tick_62 (by decide) ?_
          refine lv_isub hx hb dX_tick_63 ?_
          refine x_putX 7 ((g2 7) - 1) hx hb hB inBX hown hK hP hD hS hR rfl (hB _ fl_X_86) rfl rfl (by decide +kernel) dX_tick_64 (fun w H locs hR hP hD hS => ?_)
          refine lv_aload_n hx hb dX_tick_67 rfl (lv_at hl 0 rfl) ?_
          refine lv_aload_n hx hb dX_tick_68 rfl (lv_at hl 3 rfl) ?_
          refine x_callv (va_runV (As := [.ref (eA k)]) (rest := []) ⟨hx, hb, hml, hown, hB⟩ (c_X_settle hR hk) (cwV 1 hB (gV ml_X_110 im_X_settle sl_X_settle ini_X kc_X_settle) rfl rfl rfl (by decide +kernel) ⟨Nat.le_of_ble_eq_true rfl, Nat.le_of_ble_eq_true rfl⟩) (x_preV hP hK hD hR.x rfl) rfl rfl hl.1 rfl (lv_room (Nat.le_of_ble_eq_true rfl)) dX_tick_69 ⟨Nat.le_of_ble_eq_true rfl, Nat.le_of_ble_eq_true rfl⟩) hD hS hA (fun w H locs hw hP hD hS => ?_)
          have hR := hw
          refine lv_iinc (v := x2 + 1) (lv' := [(2, .int (x2 + 1)), (0, .ref aX), (1, .int t9), (3, .ref (eA k))]) hx hb dX_tick_72 hl (k := 2) rfl rfl (by decide) rfl (fun ls hl => ?_)
          refine lv_aload_n hx hb dX_tick_75 rfl (lv_at hl 1 rfl) ?_
          refine x_getF hx hb hB inBX hown hK hP hR (hB _ fl_X_100) dX_tick_76 ?_
          refine x_astore_n (lv' := [(3, va_rf (Option.map eA ((nx2 k)))), (2, .int (x2 + 1)), (0, .ref aX), (1, .int t9)]) hx hb dX_tick_79 rfl hl (by decide) rfl (fun ls hl => ?_)
          refine lv_goto (tgt := 31) hx hb dX_tick_80 (by decide) ?_
          exact ih _ _ _ _ _ _ _ (n + 1) _ (hJ2 _ _ _ hJ) (by rw [ex2]; exact nI_1 n) (x_ltn ex2 (show (20 : Int32) = nI 20 from rfl) c2 (by omega) (by omega)) (by rw [← hrun]; have z1 := c2; rw [ex2] at z1; simp [tRun, tStep, c1, z1]) hC _ _ _ _ (lv_sub hl [2, 3, 1, 0] rfl) hR hP hD hS
  refine lv_iload_n hx hb dX_tick_0 rfl (lv_at hl 1 rfl) ?_
  refine lv_aload_n hx hb dX_tick_1 rfl (lv_at hl 0 rfl) ?_
  refine x_getX 8 hx hb hB inBX hown hK hP hR rfl (hB _ fl_X_77) rfl dX_tick_2 ?_
  refine lv_icmp_lt (tgt := 14) hx hb dX_tick_5 (by decide) (fun c5 => ?_) (fun c5 => ?_)
  · exact x_throw (E := eIAE) (text := "the time is ahead of now, or too late") (ik := 36) (is := 98) (ic := 40) hx hb hl9 hown (by decide +kernel) hB cl_X_36 ini_java_lang_IllegalArgumentException th_in40 th_bad40 th_ot40 hthr (by decide +kernel) (Or.inl ⟨rfl, (by first | (simp [fTickC, c5]; done) | (simp [fTickC, c5]; done) | (simp_all [fTickC]; done))⟩) hP hK hD hS (by rw [hml]; exact hl.1) ht hlocks dX_tick_14 dX_tick_17 dX_tick_18 dX_tick_20 dX_tick_23 (Nat.le_of_ble_eq_true rfl) (Nat.le_of_ble_eq_true rfl) (Nat.le_of_ble_eq_true rfl) (Nat.le_of_ble_eq_true rfl) (Nat.le_of_ble_eq_true rfl) (Nat.le_of_ble_eq_true rfl)
  · refine lv_iload_n hx hb dX_tick_8 rfl (lv_at hl 1 rfl) ?_
    refine lv_ldc (v := 100000) hx hb hown (hB _ kn_X_80) dX_tick_9 ?_
    refine lv_icmp_le (tgt := 24) hx hb dX_tick_11 (by decide) (fun c6 => ?_) (fun c6 => ?_)
    · refine lv_iconst (v := 0) hx hb dX_tick_24 (by decide) ?_
      refine lv_istore_n (lv' := [(2, .int 0), (0, .ref aX), (1, .int t9)]) hx hb dX_tick_25 rfl hl (by decide) rfl (fun ls hl => ?_)
      refine lv_aload_n hx hb dX_tick_26 rfl (lv_at hl 1 rfl) ?_
      refine x_getF hx hb hB inBX hown hK hP hR (hB _ fl_X_100) dX_tick_27 ?_
      refine x_astore_n (lv' := [(3, va_rf (Option.map eA (fst))), (2, .int 0), (0, .ref aX), (1, .int t9)]) hx hb dX_tick_30 rfl hl (by decide) rfl (fun ls hl => ?_)
      exact loop31 wl g fst d fw lw ev nx 0 _ hJ nI_0.symm (by omega) rfl (by simp [fTickC, c5, c6]) _ _ _ _ (lv_sub hl [2, 3, 1, 0] rfl) hR hP hD hS
    · exact x_throw (E := eIAE) (text := "the time is ahead of now, or too late") (ik := 36) (is := 98) (ic := 40) hx hb hl9 hown (by decide +kernel) hB cl_X_36 ini_java_lang_IllegalArgumentException th_in40 th_bad40 th_ot40 hthr (by decide +kernel) (Or.inl ⟨rfl, (by first | (simp [fTickC, c5, c6]; done) | (simp [fTickC, c5, c6]; done) | (simp_all [fTickC]; done))⟩) hP hK hD hS (by rw [hml]; exact hl.1) ht hlocks dX_tick_14 dX_tick_17 dX_tick_18 dX_tick_20 dX_tick_23 (Nat.le_of_ble_eq_true rfl) (Nat.le_of_ble_eq_true rfl) (Nat.le_of_ble_eq_true rfl) (Nat.le_of_ble_eq_true rfl) (Nat.le_of_ble_eq_true rfl) (Nat.le_of_ble_eq_true rfl)
