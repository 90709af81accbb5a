set_option maxHeartbeats 4000000 in
set_option maxRecDepth 100000 in
theorem c_X_countOfState {l : Launch} {G : va_G} {cI cD cE : ClassId} {aX aR aD aE : Nat} {dA eA : Nat → Nat} {g ro : Nat → Int32} {fst : Option Nat} {nD nE : Nat} {d : Nat → Nat → Int32} {fw lw : Nat → Option Nat} {ed : Nat → Nat} {ev : Nat → Nat → Int32} {nx : Nat → Option Nat} {w : va_W} {sz : Nat} (hR : RX cI cD cE aX aR aD aE dA eA g ro fst nD nE d fw lw ed ev nx w) (hg3 : g 3 = nI nD) (hnD : nD ≤ 20) (what : Int32) : xMi l yX_countOfState wsX_countOfState ({ frames := 1, cells := 0, slots := 0, locals := 22 }) [.ref aX, .int what] G (xTys cI cD cE) w sz (fun r w' => r = fCount d nD what ∧ w = w') 0 0 := by
  refine x_ofW (fun A => va_Qi (fun r w' => r = fCount d nD what ∧ w = w') (xEnd G (xTys cI cD cE) A) A) cX_countOfState 5 (some .int) (by decide) rfl (Nat.le_of_ble_eq_true rfl) ?_
  intro p e s m below meth c A ls hx hb hr hlocks hml hnm hown hB hA hP hK hD hS hl
  have hl : lv_has ls 5 [(0, .ref aX), (1, .int what)] := hl
  have hown : s.vm.findClass NmX = some m.cls := hown
  have loop18 : ∀ (n : Nat) (i : Nat) (x2 x3 : Int32), i ≤ nD → nD + 1 ≤ i + n → x3 = nI i → x2 = cntSt d (what - 10) i → ¬ what < 10 → what ≤ 17 → ∀ (ls : Array Slot) (H : Heap) (locs : List Loc), lv_has ls 5 [(0, .ref aX), (1, .int what), (2, .int x2), (3, .int x3)] → va_P G vwCl w H → va_D A w → va_S A s.heap H locs → W p l e ({ frames := 1, cells := 0, slots := 0, locals := 22 }) s m [.ref aX, .int what].toArray below meth c H locs 0 0 (MQ below (va_Qi (fun r w' => r = fCount d nD what ∧ w = w') (xEnd G (xTys cI cD cE) A) A) [.ref aX, .int what].toArray s 0 0 A) (F0 m 18 ls []) := by
    intro n
    induction n with
    | zero => intro i x2 x3 hi hn ex3 ex2 hw1 hw2; exact absurd hn (by omega)
    | succ n ih =>
      intro i x2 x3 hi hn ex3 ex2 hw1 hw2 ls H locs hl hP hD hS
      refine lv_iload_n hx hb dX_countOfState_18 rfl (lv_at hl 3 rfl) ?_
      refine lv_aload_n hx hb dX_countOfState_19 rfl (lv_at hl 0 rfl) ?_
      refine x_getX 3 hx hb hB inBX hown hK hP hR rfl (hB _ fl_X_59) rfl dX_countOfState_20 ?_
      refine lv_icmp_ge (tgt := 59) hx hb dX_countOfState_23 (by decide) (fun c1 => ?_) (fun c1 => ?_)
      · refine lv_iload_n hx hb dX_countOfState_59 rfl (lv_at hl 2 rfl) ?_
        exact x_iret (v := x2) hx hb hr hlocks ⟨(by have h9 := x_gen ex3 hg3 c1 hi (by omega); subst h9; subst ex2; simp [fCount, hw1, hw2]), rfl⟩ hP hK hD hS dX_countOfState_60
      · refine lv_aload_n hx hb dX_countOfState_26 rfl (lv_at hl 0 rfl) ?_
        refine lv_iload_n hx hb dX_countOfState_27 rfl (lv_at hl 3 rfl) ?_
        refine x_callq (va_runV (As := [.int x3]) (rest := []) ⟨hx, hb, hml, hown, hB⟩ (c_X_declarationAt hR hg3 hnD x3) (cwV 1 hB (gV ml_X_67 im_X_declarationAt sl_X_declarationAt ini_X kc_X_declarationAt) rfl rfl rfl (by decide +kernel) ⟨Nat.le_of_ble_eq_true rfl, Nat.le_of_ble_eq_true rfl⟩) (x_preV hP hK hD hR.x rfl) rfl rfl hl.1 rfl (lv_room (Nat.le_of_ble_eq_true rfl)) dX_countOfState_28 ⟨Nat.le_of_ble_eq_true rfl, Nat.le_of_ble_eq_true rfl⟩) hD hS hA (fun r2 w H locs hw hP hD hS => ?_)
        obtain ⟨e3, rfl⟩ := hw
        rcases Option.eq_none_or_eq_some (fDeclAt g x3) with o4 | ⟨j5, o4⟩
        · refine x_st (st' := [.null]) (by rw [e3, o4]; rfl) ?_
          refine lv_astoreN (lv' := [(4, .null), (0, .ref aX), (1, .int what), (2, .int x2), (3, .int x3)]) hx hb dX_countOfState_31 hl (by decide) rfl (fun ls hl => ?_)
          refine lv_aloadN hx hb dX_countOfState_33 (lv_at hl 0 rfl) ?_
          refine lv_ifnullN (tgt := 53) hx hb dX_countOfState_35 (by decide) ?_
          refine lv_iinc (v := x3 + 1) (lv' := [(3, .int (x3 + 1)), (4, .null), (0, .ref aX), (1, .int what), (2, .int x2)]) hx hb dX_countOfState_53 hl (k := 4) rfl rfl (by decide) rfl (fun ls hl => ?_)
          refine lv_goto (tgt := 18) hx hb dX_countOfState_56 (by decide) ?_
          exact ih (i + 1) _ _ (x_ltn ex3 hg3 c1 (by omega) (by omega)) (by omega) (by rw [ex3]; exact nI_1 i) (by exfalso; exact fDeclAt_none hg3 hnD ex3 (x_ltn ex3 hg3 c1 (by omega) (by omega)) o4) hw1 hw2 _ _ _ (lv_sub hl [2, 3, 4, 0] rfl) hP hD hS
        · have hj5 := fDeclAt_lt hg3 hnD o4
          refine x_st (st' := [.ref (dA j5)]) (by rw [e3, o4]; rfl) ?_
          refine lv_astore (lv' := [(4, .ref (dA j5)), (0, .ref aX), (1, .int what), (2, .int x2), (3, .int x3)]) hx hb dX_countOfState_31 hl (by decide) rfl (fun ls hl => ?_)
          refine lv_aload hx hb dX_countOfState_33 (lv_at hl 0 rfl) ?_
          refine lv_ifnull hx hb dX_countOfState_35 ?_
          refine lv_aload hx hb dX_countOfState_38 (lv_at hl 0 rfl) ?_
          refine x_getD 3 hj5 hx hb hB inBD hown hK hP hR (by decide) (hB _ fl_X_151) rfl dX_countOfState_40 ?_
          refine lv_iload_n hx hb dX_countOfState_43 rfl (lv_at hl 2 rfl) ?_
          refine lv_bipush (v := 10) hx hb dX_countOfState_44 (by decide) ?_
          refine lv_isub hx hb dX_countOfState_46 ?_
          refine lv_icmp_ne (tgt := 53) hx hb dX_countOfState_47 (by decide) (fun c6 => ?_) (fun c6 => ?_)
          · refine lv_iinc (v := x3 + 1) (lv' := [(3, .int (x3 + 1)), (4, .ref (dA j5)), (0, .ref aX), (1, .int what), (2, .int x2)]) hx hb dX_countOfState_53 hl (k := 4) rfl rfl (by decide) rfl (fun ls hl => ?_)
            refine lv_goto (tgt := 18) hx hb dX_countOfState_56 (by decide) ?_
            exact ih (i + 1) _ _ (x_ltn ex3 hg3 c1 (by omega) (by omega)) (by omega) (by rw [ex3]; exact nI_1 i) (by have h9 := fDeclAt_some hg3 hnD ex3 (x_ltn ex3 hg3 c1 (by omega) (by omega)) o4; subst h9; subst ex2; simp [cntSt, c6]) hw1 hw2 _ _ _ (lv_sub hl [2, 3, 4, 0] rfl) hP hD hS
          · refine lv_iinc (v := x2 + 1) (lv' := [(2, .int (x2 + 1)), (4, .ref (dA j5)), (0, .ref aX), (1, .int what), (3, .int x3)]) hx hb dX_countOfState_50 hl (k := 3) rfl rfl (by decide) rfl (fun ls hl => ?_)
            refine lv_iinc (v := x3 + 1) (lv' := [(3, .int (x3 + 1)), (2, .int (x2 + 1)), (4, .ref (dA j5)), (0, .ref aX), (1, .int what)]) hx hb dX_countOfState_53 hl (k := 4) rfl rfl (by decide) rfl (fun ls hl => ?_)
            refine lv_goto (tgt := 18) hx hb dX_countOfState_56 (by decide) ?_
            exact ih (i + 1) _ _ (x_ltn ex3 hg3 c1 (by omega) (by omega)) (by omega) (by rw [ex3]; exact nI_1 i) (by have h9 := fDeclAt_some hg3 hnD ex3 (x_ltn ex3 hg3 c1 (by omega) (by omega)) o4; subst h9; subst ex2; simp [cntSt, c6]) hw1 hw2 _ _ _ (lv_sub hl [3, 4, 1, 0] rfl) hP hD hS
  refine lv_iload_n hx hb dX_countOfState_0 rfl (lv_at hl 1 rfl) ?_
  refine lv_bipush (v := 10) hx hb dX_countOfState_1 (by decide) ?_
  refine lv_icmp_lt (tgt := 12) hx hb dX_countOfState_3 (by decide) (fun c7 => ?_) (fun c7 => ?_)
  · refine lv_iconst (v := (-1)) hx hb dX_countOfState_12 (by decide) ?_
    exact x_iret (v := (-1)) hx hb hr hlocks ⟨(by simp [fCount, c7]), rfl⟩ hP hK hD hS dX_countOfState_13
  · refine lv_iload_n hx hb dX_countOfState_6 rfl (lv_at hl 1 rfl) ?_
    refine lv_bipush (v := 17) hx hb dX_countOfState_7 (by decide) ?_
    refine lv_icmp_le (tgt := 14) hx hb dX_countOfState_9 (by decide) (fun c8 => ?_) (fun c8 => ?_)
    · refine lv_iconst (v := 0) hx hb dX_countOfState_14 (by decide) ?_
      refine lv_istore_n (lv' := [(2, .int 0), (0, .ref aX), (1, .int what)]) hx hb dX_countOfState_15 rfl hl (by decide) rfl (fun ls hl => ?_)
      refine lv_iconst (v := 0) hx hb dX_countOfState_16 (by decide) ?_
      refine lv_istore_n (lv' := [(3, .int 0), (2, .int 0), (0, .ref aX), (1, .int what)]) hx hb dX_countOfState_17 rfl hl (by decide) rfl (fun ls hl => ?_)
      exact loop18 (nD + 1) 0 _ _ (Nat.zero_le _) (by omega) nI_0.symm rfl c7 c8 _ _ _ (lv_sub hl [2, 3, 1, 0] rfl) hP hD hS
    · refine lv_iconst (v := (-1)) hx hb dX_countOfState_12 (by decide) ?_
      exact x_iret (v := (-1)) hx hb hr hlocks ⟨(by simp [fCount, c7, c8]), rfl⟩ hP hK hD hS dX_countOfState_13
