set_option maxHeartbeats 4000000 in
set_option maxRecDepth 100000 in
theorem c_M_written {l : Launch} {G : va_G} {ca : Nat → ClassId} {aM : Nat} {am : Nat → Nat} {h : Nat → Int32} {ar : Nat → Nat → Int32} {w : va_W} {sz : Nat} (hR : RM ca aM am h ar w) (d9 : Int32) (i9 : Int32) {nD : Nat} (hd4 : h 4 = nI nD) (hnD : nD ≤ 20) {nE : Nat} (he13 : h 13 = nI nE) (hnE : nE ≤ 120) : xMi l yM_written wsM_written ({ frames := 1, cells := 0, slots := 0, locals := 21 }) [.ref aM, .int d9, .int i9] G (mTys ca) w sz (fun r w' => r = mWrittenR h ar nE d9 i9 ∧ RM ca aM am (if mOne h d9 = 0 then upd h 0 1 else upd h 0 0) ar w') 0 0 := by
  refine x_ofW (fun A => va_Qi (fun r w' => r = mWrittenR h ar nE d9 i9 ∧ RM ca aM am (if mOne h d9 = 0 then upd h 0 1 else upd h 0 0) ar w') (xEnd G (mTys ca) A) A) cM_written 6 (some .int) (by decide) rfl (Nat.le_of_ble_eq_true rfl) ?_
  intro p e s m below meth c A ls hx hb hr hlocks hml hnm hown hB hA hP hK hD hS hl
  have hl : lv_has ls 6 [(0, .ref aM), (1, .int d9), (2, .int i9)] := hl
  have hown : s.vm.findClass NmM = some m.cls := hown
  have loop21 : ∀ (n : Nat) (i : Nat) (xi : Int32), i ≤ nE → nE + 1 ≤ i + n → xi = nI i → mWr ar d9 i9 nE nE 0 = mWr ar d9 i9 nE (nE - i) i → ¬ mOne h d9 = 0 → ∀ (w : va_W) (ls : Array Slot) (H : Heap) (locs : List Loc), lv_has ls 6 [(0, .ref aM), (1, .int d9), (2, .int i9), (3, .int xi)] → RM ca aM am (upd h 0 0) ar w → va_P G vwCl w H → va_D A w → va_S A s.heap H locs → W p l e ({ frames := 1, cells := 0, slots := 0, locals := 21 }) s m [.ref aM, .int d9, .int i9].toArray below meth c H locs 0 0 (MQ below (va_Qi (fun r w' => r = mWrittenR h ar nE d9 i9 ∧ RM ca aM am (if mOne h d9 = 0 then upd h 0 1 else upd h 0 0) ar w') (xEnd G (mTys ca) A) A) [.ref aM, .int d9, .int i9].toArray s 0 0 A) (F0 m 21 ls []) := by
    intro n
    induction n with
    | zero => intro i xi hi hn exi hq hO; exact absurd hn (by omega)
    | succ n ih21 =>
      intro i xi hi hn exi hq hO w ls H locs hl hR hP hD hS
      have hcl : xi.toNatClampNeg = i := by rw [exi]; exact nI_clamp (by omega)
      have loop35 : ∀ (n : Nat) (j : Nat) (xa xk : Int32), j ≤ nE → nE + 1 ≤ j + n → xk = nI j → xa = mAhead ar d9 i j → vp_in xi 120 → i < nE → ∀ (w : va_W) (ls : Array Slot) (H : Heap) (locs : List Loc), lv_has ls 6 [(0, .ref aM), (1, .int d9), (2, .int i9), (3, .int xi), (4, .int xa), (5, .int xk)] → RM ca aM am (upd h 0 0) ar w → va_P G vwCl w H → va_D A w → va_S A s.heap H locs → W p l e ({ frames := 1, cells := 0, slots := 0, locals := 21 }) s m [.ref aM, .int d9, .int i9].toArray below meth c H locs 0 0 (MQ below (va_Qi (fun r w' => r = mWrittenR h ar nE d9 i9 ∧ RM ca aM am (if mOne h d9 = 0 then upd h 0 1 else upd h 0 0) ar w') (xEnd G (mTys ca) A) A) [.ref aM, .int d9, .int i9].toArray s 0 0 A) (F0 m 35 ls []) := by
        intro n
        induction n with
        | zero => intro j xa xk hi2 hn2 exk exa hxi hlt; exact absurd hn2 (by omega)
        | succ n ih35 =>
          intro j xa xk hi2 hn2 exk exa hxi hlt w ls H locs hl hR hP hD hS
          have hck : xk.toNatClampNeg = j := by rw [exk]; exact nI_clamp (by omega)
          refine lv_iload hx hb dM_written_35 (lv_at hl 5 rfl) ?_
          refine lv_aload_n hx hb dM_written_37 rfl (lv_at hl 0 rfl) ?_
          refine m_get 13 hx hb hB inBM hown hK hP hR rfl (hB _ fl_M_90) rfl dM_written_38 ?_
          refine lv_icmp_ge (tgt := 97) hx hb dM_written_41 (by decide) (fun c1 => ?_) (fun c1 => ?_)
          · refine lv_aload_n hx hb dM_written_97 rfl (lv_at hl 0 rfl) ?_
            refine m_arr 14 hx hb hB inBM hown hK hP hR rfl (hB _ fl_M_37) rfl dM_written_98 ?_
            refine lv_iload_n hx hb dM_written_101 rfl (lv_at hl 3 rfl) ?_
            refine m_ld 14 (i := xi) hxi hx hb hK hP hR rfl dM_written_102 ?_
            refine lv_iload_n hx hb dM_written_103 rfl (lv_at hl 1 rfl) ?_
            refine lv_icmp_ne (tgt := 142) hx hb dM_written_104 (by decide) (fun c2 => ?_) (fun c2 => ?_)
            · refine lv_iinc (v := xi + 1) (lv' := [(3, .int (xi + 1)), (0, .ref aM), (1, .int d9), (2, .int i9), (4, .int xa), (5, .int xk)]) hx hb dM_written_142 hl (k := 3) rfl rfl (by decide) rfl (fun ls hl => ?_)
              refine lv_goto (tgt := 21) hx hb dM_written_145 (by decide) ?_
              exact ih21 (i + 1) _ (by omega) (by omega) (by rw [exi]; exact nI_1 i) (by have hj9 := x_gen exk he13 c1 hi2 (by omega); subst hj9; subst exa; have z1 := c2; rw [hcl] at z1; rw [hq, mWr_at hlt]; simp [z1]) hO _ _ _ _ (lv_sub hl [1, 2, 3, 0] rfl) hR hP hD hS
            · refine lv_aload_n hx hb dM_written_107 rfl (lv_at hl 0 rfl) ?_
              refine m_arr 18 hx hb hB inBM hown hK hP hR rfl (hB _ fl_M_49) rfl dM_written_108 ?_
              refine lv_iload_n hx hb dM_written_111 rfl (lv_at hl 3 rfl) ?_
              refine m_ldz 18 (i := xi) hxi hx hb hK hP hR rfl dM_written_112 ?_
              refine lv_if_ne (tgt := 142) hx hb dM_written_113 (by decide) (fun c3 => ?_) (fun c3 => ?_)
              · refine lv_iinc (v := xi + 1) (lv' := [(3, .int (xi + 1)), (0, .ref aM), (1, .int d9), (2, .int i9), (4, .int xa), (5, .int xk)]) hx hb dM_written_142 hl (k := 3) rfl rfl (by decide) rfl (fun ls hl => ?_)
                refine lv_goto (tgt := 21) hx hb dM_written_145 (by decide) ?_
                exact ih21 (i + 1) _ (by omega) (by omega) (by rw [exi]; exact nI_1 i) (by have hj9 := x_gen exk he13 c1 hi2 (by omega); subst hj9; subst exa; have z1 := c2; rw [hcl] at z1; have z2 := c3; rw [hcl] at z2; rw [hq, mWr_at hlt]; simp [eq_true z1, z2]) hO _ _ _ _ (lv_sub hl [1, 2, 3, 0] rfl) hR hP hD hS
              · refine lv_iload hx hb dM_written_116 (lv_at hl 4 rfl) ?_
                refine lv_iload_n hx hb dM_written_118 rfl (lv_at hl 2 rfl) ?_
                refine lv_icmp_ne (tgt := 142) hx hb dM_written_119 (by decide) (fun c4 => ?_) (fun c4 => ?_)
                · refine lv_iinc (v := xi + 1) (lv' := [(3, .int (xi + 1)), (0, .ref aM), (1, .int d9), (2, .int i9), (4, .int xa), (5, .int xk)]) hx hb dM_written_142 hl (k := 3) rfl rfl (by decide) rfl (fun ls hl => ?_)
                  refine lv_goto (tgt := 21) hx hb dM_written_145 (by decide) ?_
                  exact ih21 (i + 1) _ (by omega) (by omega) (by rw [exi]; exact nI_1 i) (by have hj9 := x_gen exk he13 c1 hi2 (by omega); subst hj9; subst exa; have z1 := c2; rw [hcl] at z1; have z2 := c3; rw [hcl] at z2; have z3 := c4; rw [hq, mWr_at hlt]; simp [eq_true z1, eq_true z2, z3]) hO _ _ _ _ (lv_sub hl [1, 2, 3, 0] rfl) hR hP hD hS
                · refine lv_bipush (v := 16) hx hb dM_written_122 (by decide) ?_
                  refine lv_aload_n hx hb dM_written_124 rfl (lv_at hl 0 rfl) ?_
                  refine m_arr 19 hx hb hB inBM hown hK hP hR rfl (hB _ fl_M_53) rfl dM_written_125 ?_
                  refine lv_iload_n hx hb dM_written_128 rfl (lv_at hl 3 rfl) ?_
                  refine m_ld 19 (i := xi) hxi hx hb hK hP hR rfl dM_written_129 ?_
                  refine lv_bipush (v := 8) hx hb dM_written_130 (by decide) ?_
                  refine lv_iadd hx hb dM_written_132 ?_
                  refine lv_imul hx hb dM_written_133 ?_
                  refine lv_aload_n hx hb dM_written_134 rfl (lv_at hl 0 rfl) ?_
                  refine m_arr 15 hx hb hB inBM hown hK hP hR rfl (hB _ fl_M_40) rfl dM_written_135 ?_
                  refine lv_iload_n hx hb dM_written_138 rfl (lv_at hl 3 rfl) ?_
                  refine m_ld 15 (i := xi) hxi hx hb hK hP hR rfl dM_written_139 ?_
                  refine lv_iadd hx hb dM_written_140 ?_
                  exact x_iret (v := (16 * ((ar 19 xi.toNatClampNeg) + 8)) + (ar 15 xi.toNatClampNeg)) hx hb hr hlocks ⟨(by have hj9 := x_gen exk he13 c1 hi2 (by omega); subst hj9; subst exa; have z1 := c2; rw [hcl] at z1; have z2 := c3; rw [hcl] at z2; have z3 := c4; rw [mWrittenR, if_neg hO, hq, mWr_at hlt, hcl]; simp [eq_true z1, eq_true z2, eq_true z3]), (by rw [if_neg hO]; exact hR)⟩ hP hK hD hS dM_written_141
          · refine lv_iload hx hb dM_written_44 (lv_at hl 4 rfl) ?_
            refine lv_aload_n hx hb dM_written_46 rfl (lv_at hl 0 rfl) ?_
            refine m_arr 14 hx hb hB inBM hown hK hP hR rfl (hB _ fl_M_37) rfl dM_written_47 ?_
            refine lv_iload hx hb dM_written_50 (lv_at hl 5 rfl) ?_
            refine m_ld 14 (i := xk) (m_inB exk he13 c1 (by omega) hnE (by decide)) hx hb hK hP hR rfl dM_written_52 ?_
            refine lv_iload_n hx hb dM_written_53 rfl (lv_at hl 1 rfl) ?_
            refine lv_icmp_ne (tgt := 87) hx hb dM_written_54 (by decide) (fun c5 => ?_) (fun c5 => ?_)
            · refine lv_iconst (v := 0) hx hb dM_written_87 (by decide) ?_
              refine lv_iadd hx hb dM_written_88 ?_
              refine lv_istore (lv' := [(4, .int (xa + 0)), (0, .ref aM), (1, .int d9), (2, .int i9), (3, .int xi), (5, .int xk)]) hx hb dM_written_89 hl (by decide) rfl (fun ls hl => ?_)
              refine lv_iinc (v := xk + 1) (lv' := [(5, .int (xk + 1)), (4, .int (xa + 0)), (0, .ref aM), (1, .int d9), (2, .int i9), (3, .int xi)]) hx hb dM_written_91 hl (k := 5) rfl rfl (by decide) rfl (fun ls hl => ?_)
              refine lv_goto (tgt := 35) hx hb dM_written_94 (by decide) ?_
              exact ih35 (j + 1) _ _ (x_ltn exk he13 c1 (by omega) (by omega)) (by omega) (by rw [exk]; exact nI_1 j) (by have z1 := c5; rw [hck] at z1; rw [exa]; simp [mAhead, z1]) hxi hlt _ _ _ _ (lv_sub hl [2, 3, 4, 5, 1, 0] rfl) hR hP hD hS
            · refine lv_aload_n hx hb dM_written_57 rfl (lv_at hl 0 rfl) ?_
              refine m_arr 18 hx hb hB inBM hown hK hP hR rfl (hB _ fl_M_49) rfl dM_written_58 ?_
              refine lv_iload hx hb dM_written_61 (lv_at hl 5 rfl) ?_
              refine m_ldz 18 (i := xk) (m_inB exk he13 c1 (by omega) hnE (by decide)) hx hb hK hP hR rfl dM_written_63 ?_
              refine lv_if_ne (tgt := 87) hx hb dM_written_64 (by decide) (fun c6 => ?_) (fun c6 => ?_)
              · refine lv_iconst (v := 0) hx hb dM_written_87 (by decide) ?_
                refine lv_iadd hx hb dM_written_88 ?_
                refine lv_istore (lv' := [(4, .int (xa + 0)), (0, .ref aM), (1, .int d9), (2, .int i9), (3, .int xi), (5, .int xk)]) hx hb dM_written_89 hl (by decide) rfl (fun ls hl => ?_)
                refine lv_iinc (v := xk + 1) (lv' := [(5, .int (xk + 1)), (4, .int (xa + 0)), (0, .ref aM), (1, .int d9), (2, .int i9), (3, .int xi)]) hx hb dM_written_91 hl (k := 5) rfl rfl (by decide) rfl (fun ls hl => ?_)
                refine lv_goto (tgt := 35) hx hb dM_written_94 (by decide) ?_
                exact ih35 (j + 1) _ _ (x_ltn exk he13 c1 (by omega) (by omega)) (by omega) (by rw [exk]; exact nI_1 j) (by have z1 := c5; rw [hck] at z1; have z2 := c6; rw [hck] at z2; rw [exa]; simp [mAhead, eq_true z1, z2]) hxi hlt _ _ _ _ (lv_sub hl [2, 3, 4, 5, 1, 0] rfl) hR hP hD hS
              · refine lv_aload_n hx hb dM_written_67 rfl (lv_at hl 0 rfl) ?_
                refine m_arr 20 hx hb hB inBM hown hK hP hR rfl (hB _ fl_M_56) rfl dM_written_68 ?_
                refine lv_iload hx hb dM_written_71 (lv_at hl 5 rfl) ?_
                refine m_ld 20 (i := xk) (m_inB exk he13 c1 (by omega) hnE (by decide)) hx hb hK hP hR rfl dM_written_73 ?_
                refine lv_aload_n hx hb dM_written_74 rfl (lv_at hl 0 rfl) ?_
                refine m_arr 20 hx hb hB inBM hown hK hP hR rfl (hB _ fl_M_56) rfl dM_written_75 ?_
                refine lv_iload_n hx hb dM_written_78 rfl (lv_at hl 3 rfl) ?_
                refine m_ld 20 (i := xi) hxi hx hb hK hP hR rfl dM_written_79 ?_
                refine lv_icmp_ge (tgt := 87) hx hb dM_written_80 (by decide) (fun c7 => ?_) (fun c7 => ?_)
                · refine lv_iconst (v := 0) hx hb dM_written_87 (by decide) ?_
                  refine lv_iadd hx hb dM_written_88 ?_
                  refine lv_istore (lv' := [(4, .int (xa + 0)), (0, .ref aM), (1, .int d9), (2, .int i9), (3, .int xi), (5, .int xk)]) hx hb dM_written_89 hl (by decide) rfl (fun ls hl => ?_)
                  refine lv_iinc (v := xk + 1) (lv' := [(5, .int (xk + 1)), (4, .int (xa + 0)), (0, .ref aM), (1, .int d9), (2, .int i9), (3, .int xi)]) hx hb dM_written_91 hl (k := 5) rfl rfl (by decide) rfl (fun ls hl => ?_)
                  refine lv_goto (tgt := 35) hx hb dM_written_94 (by decide) ?_
                  exact ih35 (j + 1) _ _ (x_ltn exk he13 c1 (by omega) (by omega)) (by omega) (by rw [exk]; exact nI_1 j) (by have z1 := c5; rw [hck] at z1; have z2 := c6; rw [hck] at z2; have z3 := c7; rw [hcl, hck] at z3; rw [exa]; simp [mAhead, eq_true z1, eq_true z2, z3]) hxi hlt _ _ _ _ (lv_sub hl [2, 3, 4, 5, 1, 0] rfl) hR hP hD hS
                · refine lv_iconst (v := 1) hx hb dM_written_83 (by decide) ?_
                  refine lv_goto (tgt := 88) hx hb dM_written_84 (by decide) ?_
                  refine lv_iadd hx hb dM_written_88 ?_
                  refine lv_istore (lv' := [(4, .int (xa + 1)), (0, .ref aM), (1, .int d9), (2, .int i9), (3, .int xi), (5, .int xk)]) hx hb dM_written_89 hl (by decide) rfl (fun ls hl => ?_)
                  refine lv_iinc (v := xk + 1) (lv' := [(5, .int (xk + 1)), (4, .int (xa + 1)), (0, .ref aM), (1, .int d9), (2, .int i9), (3, .int xi)]) hx hb dM_written_91 hl (k := 5) rfl rfl (by decide) rfl (fun ls hl => ?_)
                  refine lv_goto (tgt := 35) hx hb dM_written_94 (by decide) ?_
                  exact ih35 (j + 1) _ _ (x_ltn exk he13 c1 (by omega) (by omega)) (by omega) (by rw [exk]; exact nI_1 j) (by have z1 := c5; rw [hck] at z1; have z2 := c6; rw [hck] at z2; have z3 := c7; rw [hcl, hck] at z3; rw [exa]; simp [mAhead, eq_true z1, eq_true z2, z3]) hxi hlt _ _ _ _ (lv_sub hl [2, 3, 4, 5, 1, 0] rfl) hR hP hD hS
      refine lv_iload_n hx hb dM_written_21 rfl (lv_at hl 3 rfl) ?_
      refine lv_aload_n hx hb dM_written_22 rfl (lv_at hl 0 rfl) ?_
      refine m_get 13 hx hb hB inBM hown hK hP hR rfl (hB _ fl_M_90) rfl dM_written_23 ?_
      refine lv_icmp_ge (tgt := 148) hx hb dM_written_26 (by decide) (fun c8 => ?_) (fun c8 => ?_)
      · refine lv_iconst (v := (-1)) hx hb dM_written_148 (by decide) ?_
        exact x_iret (v := (-1)) hx hb hr hlocks ⟨(by have hj9 := x_gen exi he13 c8 hi (by omega); rw [mWrittenR, if_neg hO, hq, hj9, Nat.sub_self]; rfl), (by rw [if_neg hO]; exact hR)⟩ hP hK hD hS dM_written_149
      · refine lv_iconst (v := 0) hx hb dM_written_29 (by decide) ?_
        refine lv_istore (lv' := [(4, .int 0), (0, .ref aM), (1, .int d9), (2, .int i9), (3, .int xi)]) hx hb dM_written_30 hl (by decide) rfl (fun ls hl => ?_)
        refine lv_iconst (v := 0) hx hb dM_written_32 (by decide) ?_
        refine lv_istore (lv' := [(5, .int 0), (4, .int 0), (0, .ref aM), (1, .int d9), (2, .int i9), (3, .int xi)]) hx hb dM_written_33 hl (by decide) rfl (fun ls hl => ?_)
        exact loop35 (nE + 1) 0 _ _ (Nat.zero_le _) (by omega) nI_0.symm rfl (m_inB exi he13 c8 (by omega) hnE (by decide)) (x_ltn exi he13 c8 (by omega) (by omega)) _ _ _ _ (lv_sub hl [2, 3, 4, 5, 1, 0] rfl) hR hP hD hS
  refine lv_aload_n hx hb dM_written_0 rfl (lv_at hl 0 rfl) ?_
  refine lv_iload_n hx hb dM_written_1 rfl (lv_at hl 1 rfl) ?_
  refine x_calli (va_runV (As := [.int d9]) (rest := []) ⟨hx, hb, hml, hown, hB⟩ (c_M_isOne hR d9 ) (cwV 1 hB (gV ml_M_93 im_M_isOne sl_M_isOne ini_M kc_M_isOne) rfl rfl rfl (by decide +kernel) ⟨Nat.le_of_ble_eq_true rfl, Nat.le_of_ble_eq_true rfl⟩) (x_preV hP hK hD hR.1 rfl) rfl rfl hl.1 rfl (lv_room (Nat.le_of_ble_eq_true rfl)) dM_written_2 ⟨Nat.le_of_ble_eq_true rfl, Nat.le_of_ble_eq_true rfl⟩) hD hS hA (fun r9 w H locs hw hP hD hS => ?_)
  obtain ⟨ee10, rfl⟩ := hw
  refine lv_if_ne (tgt := 14) hx hb dM_written_5 (by decide) (fun c11 => ?_) (fun c11 => ?_)
  · refine lv_aload_n hx hb dM_written_14 rfl (lv_at hl 0 rfl) ?_
    refine lv_iconst (v := 0) hx hb dM_written_15 (by decide) ?_
    refine m_put 0 0 hx hb hB inBM hown hK hP hD hS hR rfl (hB _ fl_M_69) rfl rfl (by decide +kernel) dM_written_16 (fun w H locs hR hP hD hS => ?_)
    refine lv_iconst (v := 0) hx hb dM_written_19 (by decide) ?_
    refine lv_istore_n (lv' := [(3, .int 0), (0, .ref aM), (1, .int d9), (2, .int i9)]) hx hb dM_written_20 rfl hl (by decide) rfl (fun ls hl => ?_)
    exact loop21 (nE + 1) 0 _ (Nat.zero_le _) (by omega) nI_0.symm rfl (by rw [← ee10]; exact c11) _ _ _ _ (lv_sub hl [1, 2, 3, 0] rfl) hR hP hD hS
  · refine lv_aload_n hx hb dM_written_8 rfl (lv_at hl 0 rfl) ?_
    refine lv_iconst (v := 1) hx hb dM_written_9 (by decide) ?_
    refine x_calli (va_runV (As := [.int 1]) (rest := []) ⟨hx, hb, hml, hown, hB⟩ (c_M_refuse hR 1 ) (cwV 1 hB (gV ml_M_82 im_M_refuse sl_M_refuse ini_M kc_M_refuse) rfl rfl rfl (by decide +kernel) ⟨Nat.le_of_ble_eq_true rfl, Nat.le_of_ble_eq_true rfl⟩) (x_preV hP hK hD hR.1 rfl) rfl rfl hl.1 rfl (lv_room (Nat.le_of_ble_eq_true rfl)) dM_written_10 ⟨Nat.le_of_ble_eq_true rfl, Nat.le_of_ble_eq_true rfl⟩) hD hS hA (fun r12 w H locs hw hP hD hS => ?_)
    obtain ⟨ee13, hR⟩ := hw
    exact x_iret (v := r12) hx hb hr hlocks ⟨(by subst ee10 ee13; first | (simp [mWrittenR, c11]; done) | (have q1 : ¬ r9 = 1 := fun z => absurd ((c11).symm.trans z) (by decide); have p1 : ¬ 1 = r9 := fun z => absurd ((c11).symm.trans z.symm) (by decide); have q2 : ¬ r9 = 2 := fun z => absurd ((c11).symm.trans z) (by decide); have p2 : ¬ 2 = r9 := fun z => absurd ((c11).symm.trans z.symm) (by decide); have q3 : ¬ r9 = 3 := fun z => absurd ((c11).symm.trans z) (by decide); have p3 : ¬ 3 = r9 := fun z => absurd ((c11).symm.trans z.symm) (by decide); have q4 : ¬ r9 = 4 := fun z => absurd ((c11).symm.trans z) (by decide); have p4 : ¬ 4 = r9 := fun z => absurd ((c11).symm.trans z.symm) (by decide); have q5 : ¬ r9 = 5 := fun z => absurd ((c11).symm.trans z) (by decide); have p5 : ¬ 5 = r9 := fun z => absurd ((c11).symm.trans z.symm) (by decide); have q6 : ¬ r9 = 6 := fun z => absurd ((c11).symm.trans z) (by decide); have p6 : ¬ 6 = r9 := fun z => absurd ((c11).symm.trans z.symm) (by decide); have q7 : ¬ r9 = 7 := fun z => absurd ((c11).symm.trans z) (by decide); have p7 : ¬ 7 = r9 := fun z => absurd ((c11).symm.trans z.symm) (by decide); have q8 : ¬ r9 = 8 := fun z => absurd ((c11).symm.trans z) (by decide); have p8 : ¬ 8 = r9 := fun z => absurd ((c11).symm.trans z.symm) (by decide); have q9 : ¬ r9 = 9 := fun z => absurd ((c11).symm.trans z) (by decide); have p9 : ¬ 9 = r9 := fun z => absurd ((c11).symm.trans z.symm) (by decide); have q10 : ¬ r9 = (-1) := fun z => absurd ((c11).symm.trans z) (by decide); have p10 : ¬ (-1) = r9 := fun z => absurd ((c11).symm.trans z.symm) (by decide); simp [mWrittenR, eq_true c11, eq_true c11.symm, q1, p1, q2, p2, q3, p3, q4, p4, q5, p5, q6, p6, q7, p7, q8, p8, q9, p9, q10, p10]; done) | (simp_all [mWrittenR]; done)), (by subst ee10 ee13; first | (simpa [mWrittenR, c11] using hR) | (have q1 : ¬ r9 = 1 := fun z => absurd ((c11).symm.trans z) (by decide); have p1 : ¬ 1 = r9 := fun z => absurd ((c11).symm.trans z.symm) (by decide); have q2 : ¬ r9 = 2 := fun z => absurd ((c11).symm.trans z) (by decide); have p2 : ¬ 2 = r9 := fun z => absurd ((c11).symm.trans z.symm) (by decide); have q3 : ¬ r9 = 3 := fun z => absurd ((c11).symm.trans z) (by decide); have p3 : ¬ 3 = r9 := fun z => absurd ((c11).symm.trans z.symm) (by decide); have q4 : ¬ r9 = 4 := fun z => absurd ((c11).symm.trans z) (by decide); have p4 : ¬ 4 = r9 := fun z => absurd ((c11).symm.trans z.symm) (by decide); have q5 : ¬ r9 = 5 := fun z => absurd ((c11).symm.trans z) (by decide); have p5 : ¬ 5 = r9 := fun z => absurd ((c11).symm.trans z.symm) (by decide); have q6 : ¬ r9 = 6 := fun z => absurd ((c11).symm.trans z) (by decide); have p6 : ¬ 6 = r9 := fun z => absurd ((c11).symm.trans z.symm) (by decide); have q7 : ¬ r9 = 7 := fun z => absurd ((c11).symm.trans z) (by decide); have p7 : ¬ 7 = r9 := fun z => absurd ((c11).symm.trans z.symm) (by decide); have q8 : ¬ r9 = 8 := fun z => absurd ((c11).symm.trans z) (by decide); have p8 : ¬ 8 = r9 := fun z => absurd ((c11).symm.trans z.symm) (by decide); have q9 : ¬ r9 = 9 := fun z => absurd ((c11).symm.trans z) (by decide); have p9 : ¬ 9 = r9 := fun z => absurd ((c11).symm.trans z.symm) (by decide); have q10 : ¬ r9 = (-1) := fun z => absurd ((c11).symm.trans z) (by decide); have p10 : ¬ (-1) = r9 := fun z => absurd ((c11).symm.trans z.symm) (by decide); simpa [mWrittenR, eq_true c11, eq_true c11.symm, q1, p1, q2, p2, q3, p3, q4, p4, q5, p5, q6, p6, q7, p7, q8, p8, q9, p9, q10, p10] using hR) | (have hR9 := hR; simp_all [mWrittenR]; done))⟩ hP hK hD hS dM_written_13
