set_option maxHeartbeats 4000000 in
set_option maxRecDepth 100000 in
theorem c_M_first {l : Launch} {G : va_G} {ca : Nat → ClassId} {aM : Nat} {am : Nat → Nat} {h : Nat → Int32} {ar : Nat → Nat → Int32} {w : va_W} {sz : Nat} (hR : RM ca aM am h ar w) (t9 : Int32) {nE : Nat} (he13 : h 13 = nI nE) (hnE : nE ≤ 120) : xMi l yM_first wsM_first ({ frames := 0, cells := 0, slots := 0, locals := 0 }) [.ref aM, .int t9] G (mTys ca) w sz (fun r w' => r = mFirst ar t9 nE ∧ w = w') 0 0 := by
  refine x_ofW (fun A => va_Qi (fun r w' => r = mFirst ar t9 nE ∧ w = w') (xEnd G (mTys ca) A) A) cM_first 6 (some .int) (by decide) rfl (Nat.le_of_ble_eq_true rfl) ?_
  intro p e s m below meth c A ls hx hb hr hlocks hml hnm hown hB hA hP hK hD hS hl
  have hl : lv_has ls 6 [(0, .ref aM), (1, .int t9)] := hl
  have hown : s.vm.findClass NmM = some m.cls := hown
  have loop4 : ∀ (n : Nat) (i : Nat) (xf xi : Int32), i ≤ nE → nE + 1 ≤ i + n → xi = nI i → xf = mFirst ar t9 i → (0 ≤ xf → vp_in xf 120) → ∀ (ls : Array Slot) (H : Heap) (locs : List Loc), lv_has ls 6 [(0, .ref aM), (1, .int t9), (2, .int xf), (3, .int xi)] → va_P G vwCl w H → va_D A w → va_S A s.heap H locs → W p l e ({ frames := 0, cells := 0, slots := 0, locals := 0 }) s m [.ref aM, .int t9].toArray below meth c H locs 0 0 (MQ below (va_Qi (fun r w' => r = mFirst ar t9 nE ∧ w = w') (xEnd G (mTys ca) A) A) [.ref aM, .int t9].toArray s 0 0 A) (F0 m 4 ls []) := by
    intro n
    induction n with
    | zero => intro i xf xi hi hn exi exf hfi; exact absurd hn (by omega)
    | succ n ih4 =>
      intro i xf xi hi hn exi exf hfi ls H locs hl hP hD hS
      have hcl : xi.toNatClampNeg = i := by rw [exi]; exact nI_clamp (by omega)
      refine lv_iload_n hx hb dM_first_4 rfl (lv_at hl 3 rfl) ?_
      refine lv_aload_n hx hb dM_first_5 rfl (lv_at hl 0 rfl) ?_
      refine m_get 13 hx hb hB inBM hown hK hP hR rfl (hB _ fl_M_90) rfl dM_first_6 ?_
      refine lv_icmp_ge (tgt := 118) hx hb dM_first_9 (by decide) (fun c1 => ?_) (fun c1 => ?_)
      · refine lv_iload_n hx hb dM_first_118 rfl (lv_at hl 2 rfl) ?_
        exact x_iret (v := xf) hx hb hr hlocks ⟨(by rw [exf, x_gen exi he13 c1 hi (by omega)]), rfl⟩ hP hK hD hS dM_first_119
      · refine lv_iload_n hx hb dM_first_12 rfl (lv_at hl 2 rfl) ?_
        refine lv_if_ge (tgt := 20) hx hb dM_first_13 (by decide) (fun c2 => ?_) (fun c2 => ?_)
        · refine lv_iload_n hx hb dM_first_20 rfl (lv_at hl 2 rfl) ?_
          refine lv_istore (lv' := [(4, .int xf), (0, .ref aM), (1, .int t9), (2, .int xf), (3, .int xi)]) hx hb dM_first_21 hl (by decide) rfl (fun ls hl => ?_)
          refine lv_iload_n hx hb dM_first_23 rfl (lv_at hl 3 rfl) ?_
          refine lv_if_lt (tgt := 75) hx hb dM_first_24 (by decide) (fun c3 => absurd c3 (Int32.not_lt.mpr c2)) (fun _ => ?_)
          refine lv_aload_n hx hb dM_first_27 rfl (lv_at hl 1 rfl) ?_
          refine m_arr 17 hx hb hB inBM hown hK hP hR rfl (hB _ fl_M_46) rfl dM_first_28 ?_
          refine lv_iload_n hx hb dM_first_31 rfl (lv_at hl 4 rfl) ?_
          refine m_ld 17 (i := xi) (m_inB exi he13 c1 (by omega) hnE (by decide)) hx hb hK hP hR rfl dM_first_32 ?_
          refine lv_aload_n hx hb dM_first_33 rfl (lv_at hl 1 rfl) ?_
          refine m_arr 17 hx hb hB inBM hown hK hP hR rfl (hB _ fl_M_46) rfl dM_first_34 ?_
          refine lv_iload hx hb dM_first_37 (lv_at hl 0 rfl) ?_
          refine m_ld 17 (i := xf) (hfi c2) hx hb hK hP hR rfl dM_first_39 ?_
          refine lv_icmp_lt (tgt := 75) hx hb dM_first_40 (by decide) (fun c4 => ?_) (fun c4 => ?_)
          · refine lv_iconst (v := 1) hx hb dM_first_75 (by decide) ?_
            refine lv_goto (tgt := 80) hx hb dM_first_76 (by decide) ?_
            refine lv_istore (lv' := [(5, .int 1), (4, .int xf), (0, .ref aM), (1, .int t9), (2, .int xf), (3, .int xi)]) hx hb dM_first_80 hl (by decide) rfl (fun ls hl => ?_)
            refine lv_aload_n hx hb dM_first_82 rfl (lv_at hl 2 rfl) ?_
            refine m_arr 18 hx hb hB inBM hown hK hP hR rfl (hB _ fl_M_49) rfl dM_first_83 ?_
            refine lv_iload_n hx hb dM_first_86 rfl (lv_at hl 5 rfl) ?_
            refine m_ldz 18 (i := xi) (m_inB exi he13 c1 (by omega) hnE (by decide)) hx hb hK hP hR rfl dM_first_87 ?_
            refine lv_if_eq (tgt := 110) hx hb dM_first_88 (by decide) (fun c5 => ?_) (fun c5 => ?_)
            · refine lv_iload_n hx hb dM_first_110 rfl (lv_at hl 4 rfl) ?_
              refine lv_istore_n (lv' := [(2, .int xf), (5, .int 1), (4, .int xf), (0, .ref aM), (1, .int t9), (3, .int xi)]) hx hb dM_first_111 rfl hl (by decide) rfl (fun ls hl => ?_)
              refine lv_iinc (v := xi + 1) (lv' := [(3, .int (xi + 1)), (2, .int xf), (5, .int 1), (4, .int xf), (0, .ref aM), (1, .int t9)]) hx hb dM_first_112 hl (k := 5) rfl rfl (by decide) rfl (fun ls hl => ?_)
              refine lv_goto (tgt := 4) hx hb dM_first_115 (by decide) ?_
              exact ih4 (i + 1) _ _ (x_ltn exi he13 c1 (by omega) (by omega)) (by omega) (by rw [exi]; exact nI_1 i) (by have z2 := c4; rw [hcl] at z2; have z3 := c5; rw [hcl] at z3; rw [show mFirst ar t9 (i + 1) = mPick ar t9 i (mFirst ar t9 i) from rfl, ← exf]; first | (simp [mPick, c2, z2, eq_true z3]; done) | (simp [mPick, c2, z2, eq_true z3]; exact exi) | (simp_all [mPick]; done)) hfi _ _ _ (lv_sub hl [4, 5, 1, 0] rfl) hP hD hS
            · refine lv_aload_n hx hb dM_first_91 rfl (lv_at hl 2 rfl) ?_
              refine m_arr 17 hx hb hB inBM hown hK hP hR rfl (hB _ fl_M_46) rfl dM_first_92 ?_
              refine lv_iload_n hx hb dM_first_95 rfl (lv_at hl 5 rfl) ?_
              refine m_ld 17 (i := xi) (m_inB exi he13 c1 (by omega) hnE (by decide)) hx hb hK hP hR rfl dM_first_96 ?_
              refine lv_iload_n hx hb dM_first_97 rfl (lv_at hl 3 rfl) ?_
              refine lv_icmp_gt (tgt := 110) hx hb dM_first_98 (by decide) (fun c6 => ?_) (fun c6 => ?_)
              · refine lv_iload_n hx hb dM_first_110 rfl (lv_at hl 4 rfl) ?_
                refine lv_istore_n (lv' := [(2, .int xf), (5, .int 1), (4, .int xf), (0, .ref aM), (1, .int t9), (3, .int xi)]) hx hb dM_first_111 rfl hl (by decide) rfl (fun ls hl => ?_)
                refine lv_iinc (v := xi + 1) (lv' := [(3, .int (xi + 1)), (2, .int xf), (5, .int 1), (4, .int xf), (0, .ref aM), (1, .int t9)]) hx hb dM_first_112 hl (k := 5) rfl rfl (by decide) rfl (fun ls hl => ?_)
                refine lv_goto (tgt := 4) hx hb dM_first_115 (by decide) ?_
                exact ih4 (i + 1) _ _ (x_ltn exi he13 c1 (by omega) (by omega)) (by omega) (by rw [exi]; exact nI_1 i) (by have z2 := c4; rw [hcl] at z2; have z3 := c5; rw [hcl] at z3; have z4 := c6; rw [hcl] at z4; rw [show mFirst ar t9 (i + 1) = mPick ar t9 i (mFirst ar t9 i) from rfl, ← exf]; first | (simp [mPick, c2, z2, z3, z4]; done) | (simp [mPick, c2, z2, z3, z4]; exact exi) | (simp_all [mPick]; done)) hfi _ _ _ (lv_sub hl [4, 5, 1, 0] rfl) hP hD hS
              · refine lv_iload hx hb dM_first_101 (lv_at hl 0 rfl) ?_
                refine lv_if_eq (tgt := 110) hx hb dM_first_103 (by decide) (fun c7 => absurd c7 (by decide)) (fun _ => ?_)
                refine lv_iload_n hx hb dM_first_106 rfl (lv_at hl 5 rfl) ?_
                refine lv_goto (tgt := 111) hx hb dM_first_107 (by decide) ?_
                refine lv_istore_n (lv' := [(2, .int xi), (5, .int 1), (4, .int xf), (0, .ref aM), (1, .int t9), (3, .int xi)]) hx hb dM_first_111 rfl hl (by decide) rfl (fun ls hl => ?_)
                refine lv_iinc (v := xi + 1) (lv' := [(3, .int (xi + 1)), (2, .int xi), (5, .int 1), (4, .int xf), (0, .ref aM), (1, .int t9)]) hx hb dM_first_112 hl (k := 5) rfl rfl (by decide) rfl (fun ls hl => ?_)
                refine lv_goto (tgt := 4) hx hb dM_first_115 (by decide) ?_
                exact ih4 (i + 1) _ _ (x_ltn exi he13 c1 (by omega) (by omega)) (by omega) (by rw [exi]; exact nI_1 i) (by have z2 := c4; rw [hcl] at z2; have z3 := c5; rw [hcl] at z3; have z4 := c6; rw [hcl] at z4; rw [show mFirst ar t9 (i + 1) = mPick ar t9 i (mFirst ar t9 i) from rfl, ← exf]; first | (simp [mPick, c2, z2, z3, z4]; done) | (simp [mPick, c2, z2, z3, z4]; exact exi) | (simp_all [mPick]; done)) (fun _ => m_inB exi he13 c1 (by omega) hnE (by decide)) _ _ _ (lv_sub hl [4, 5, 1, 0] rfl) hP hD hS
          · refine lv_aload_n hx hb dM_first_43 rfl (lv_at hl 1 rfl) ?_
            refine m_arr 17 hx hb hB inBM hown hK hP hR rfl (hB _ fl_M_46) rfl dM_first_44 ?_
            refine lv_iload_n hx hb dM_first_47 rfl (lv_at hl 4 rfl) ?_
            refine m_ld 17 (i := xi) (m_inB exi he13 c1 (by omega) hnE (by decide)) hx hb hK hP hR rfl dM_first_48 ?_
            refine lv_aload_n hx hb dM_first_49 rfl (lv_at hl 1 rfl) ?_
            refine m_arr 17 hx hb hB inBM hown hK hP hR rfl (hB _ fl_M_46) rfl dM_first_50 ?_
            refine lv_iload hx hb dM_first_53 (lv_at hl 0 rfl) ?_
            refine m_ld 17 (i := xf) (hfi c2) hx hb hK hP hR rfl dM_first_55 ?_
            refine lv_icmp_ne (tgt := 79) hx hb dM_first_56 (by decide) (fun c8 => ?_) (fun c8 => ?_)
            · refine lv_iconst (v := 0) hx hb dM_first_79 (by decide) ?_
              refine lv_istore (lv' := [(5, .int 0), (4, .int xf), (0, .ref aM), (1, .int t9), (2, .int xf), (3, .int xi)]) hx hb dM_first_80 hl (by decide) rfl (fun ls hl => ?_)
              refine lv_aload_n hx hb dM_first_82 rfl (lv_at hl 2 rfl) ?_
              refine m_arr 18 hx hb hB inBM hown hK hP hR rfl (hB _ fl_M_49) rfl dM_first_83 ?_
              refine lv_iload_n hx hb dM_first_86 rfl (lv_at hl 5 rfl) ?_
              refine m_ldz 18 (i := xi) (m_inB exi he13 c1 (by omega) hnE (by decide)) hx hb hK hP hR rfl dM_first_87 ?_
              refine lv_if_eq (tgt := 110) hx hb dM_first_88 (by decide) (fun c9 => ?_) (fun c9 => ?_)
              · refine lv_iload_n hx hb dM_first_110 rfl (lv_at hl 4 rfl) ?_
                refine lv_istore_n (lv' := [(2, .int xf), (5, .int 0), (4, .int xf), (0, .ref aM), (1, .int t9), (3, .int xi)]) hx hb dM_first_111 rfl hl (by decide) rfl (fun ls hl => ?_)
                refine lv_iinc (v := xi + 1) (lv' := [(3, .int (xi + 1)), (2, .int xf), (5, .int 0), (4, .int xf), (0, .ref aM), (1, .int t9)]) hx hb dM_first_112 hl (k := 5) rfl rfl (by decide) rfl (fun ls hl => ?_)
                refine lv_goto (tgt := 4) hx hb dM_first_115 (by decide) ?_
                exact ih4 (i + 1) _ _ (x_ltn exi he13 c1 (by omega) (by omega)) (by omega) (by rw [exi]; exact nI_1 i) (by have z2 := c4; rw [hcl] at z2; have z3 := c8; rw [hcl] at z3; have z4 := c9; rw [hcl] at z4; rw [show mFirst ar t9 (i + 1) = mPick ar t9 i (mFirst ar t9 i) from rfl, ← exf]; first | (simp [mPick, c2, z2, z3, eq_true z4]; done) | (simp [mPick, c2, z2, z3, eq_true z4]; exact exi) | (simp_all [mPick]; done)) hfi _ _ _ (lv_sub hl [4, 5, 1, 0] rfl) hP hD hS
              · refine lv_aload_n hx hb dM_first_91 rfl (lv_at hl 2 rfl) ?_
                refine m_arr 17 hx hb hB inBM hown hK hP hR rfl (hB _ fl_M_46) rfl dM_first_92 ?_
                refine lv_iload_n hx hb dM_first_95 rfl (lv_at hl 5 rfl) ?_
                refine m_ld 17 (i := xi) (m_inB exi he13 c1 (by omega) hnE (by decide)) hx hb hK hP hR rfl dM_first_96 ?_
                refine lv_iload_n hx hb dM_first_97 rfl (lv_at hl 3 rfl) ?_
                refine lv_icmp_gt (tgt := 110) hx hb dM_first_98 (by decide) (fun c10 => ?_) (fun c10 => ?_)
                · refine lv_iload_n hx hb dM_first_110 rfl (lv_at hl 4 rfl) ?_
                  refine lv_istore_n (lv' := [(2, .int xf), (5, .int 0), (4, .int xf), (0, .ref aM), (1, .int t9), (3, .int xi)]) hx hb dM_first_111 rfl hl (by decide) rfl (fun ls hl => ?_)
                  refine lv_iinc (v := xi + 1) (lv' := [(3, .int (xi + 1)), (2, .int xf), (5, .int 0), (4, .int xf), (0, .ref aM), (1, .int t9)]) hx hb dM_first_112 hl (k := 5) rfl rfl (by decide) rfl (fun ls hl => ?_)
                  refine lv_goto (tgt := 4) hx hb dM_first_115 (by decide) ?_
                  exact ih4 (i + 1) _ _ (x_ltn exi he13 c1 (by omega) (by omega)) (by omega) (by rw [exi]; exact nI_1 i) (by have z2 := c4; rw [hcl] at z2; have z3 := c8; rw [hcl] at z3; have z4 := c9; rw [hcl] at z4; have z5 := c10; rw [hcl] at z5; rw [show mFirst ar t9 (i + 1) = mPick ar t9 i (mFirst ar t9 i) from rfl, ← exf]; first | (simp [mPick, c2, z2, z3, z4, z5]; done) | (simp [mPick, c2, z2, z3, z4, z5]; exact exi) | (simp_all [mPick]; done)) hfi _ _ _ (lv_sub hl [4, 5, 1, 0] rfl) hP hD hS
                · refine lv_iload hx hb dM_first_101 (lv_at hl 0 rfl) ?_
                  refine lv_if_eq (tgt := 110) hx hb dM_first_103 (by decide) (fun _ => ?_) (fun c11 => absurd c11 (by decide))
                  refine lv_iload_n hx hb dM_first_110 rfl (lv_at hl 4 rfl) ?_
                  refine lv_istore_n (lv' := [(2, .int xf), (5, .int 0), (4, .int xf), (0, .ref aM), (1, .int t9), (3, .int xi)]) hx hb dM_first_111 rfl hl (by decide) rfl (fun ls hl => ?_)
                  refine lv_iinc (v := xi + 1) (lv' := [(3, .int (xi + 1)), (2, .int xf), (5, .int 0), (4, .int xf), (0, .ref aM), (1, .int t9)]) hx hb dM_first_112 hl (k := 5) rfl rfl (by decide) rfl (fun ls hl => ?_)
                  refine lv_goto (tgt := 4) hx hb dM_first_115 (by decide) ?_
                  exact ih4 (i + 1) _ _ (x_ltn exi he13 c1 (by omega) (by omega)) (by omega) (by rw [exi]; exact nI_1 i) (by have z2 := c4; rw [hcl] at z2; have z3 := c8; rw [hcl] at z3; have z4 := c9; rw [hcl] at z4; have z5 := c10; rw [hcl] at z5; rw [show mFirst ar t9 (i + 1) = mPick ar t9 i (mFirst ar t9 i) from rfl, ← exf]; first | (simp [mPick, c2, z2, z3, z4, z5]; done) | (simp [mPick, c2, z2, z3, z4, z5]; exact exi) | (simp_all [mPick]; done)) hfi _ _ _ (lv_sub hl [4, 5, 1, 0] rfl) hP hD hS
            · refine lv_aload_n hx hb dM_first_59 rfl (lv_at hl 1 rfl) ?_
              refine m_arr 15 hx hb hB inBM hown hK hP hR rfl (hB _ fl_M_40) rfl dM_first_60 ?_
              refine lv_iload_n hx hb dM_first_63 rfl (lv_at hl 4 rfl) ?_
              refine m_ld 15 (i := xi) (m_inB exi he13 c1 (by omega) hnE (by decide)) hx hb hK hP hR rfl dM_first_64 ?_
              refine lv_aload_n hx hb dM_first_65 rfl (lv_at hl 1 rfl) ?_
              refine m_arr 15 hx hb hB inBM hown hK hP hR rfl (hB _ fl_M_40) rfl dM_first_66 ?_
              refine lv_iload hx hb dM_first_69 (lv_at hl 0 rfl) ?_
              refine m_ld 15 (i := xf) (hfi c2) hx hb hK hP hR rfl dM_first_71 ?_
              refine lv_icmp_ge (tgt := 79) hx hb dM_first_72 (by decide) (fun c12 => ?_) (fun c12 => ?_)
              · refine lv_iconst (v := 0) hx hb dM_first_79 (by decide) ?_
                refine lv_istore (lv' := [(5, .int 0), (4, .int xf), (0, .ref aM), (1, .int t9), (2, .int xf), (3, .int xi)]) hx hb dM_first_80 hl (by decide) rfl (fun ls hl => ?_)
                refine lv_aload_n hx hb dM_first_82 rfl (lv_at hl 2 rfl) ?_
                refine m_arr 18 hx hb hB inBM hown hK hP hR rfl (hB _ fl_M_49) rfl dM_first_83 ?_
                refine lv_iload_n hx hb dM_first_86 rfl (lv_at hl 5 rfl) ?_
                refine m_ldz 18 (i := xi) (m_inB exi he13 c1 (by omega) hnE (by decide)) hx hb hK hP hR rfl dM_first_87 ?_
                refine lv_if_eq (tgt := 110) hx hb dM_first_88 (by decide) (fun c13 => ?_) (fun c13 => ?_)
                · refine lv_iload_n hx hb dM_first_110 rfl (lv_at hl 4 rfl) ?_
                  refine lv_istore_n (lv' := [(2, .int xf), (5, .int 0), (4, .int xf), (0, .ref aM), (1, .int t9), (3, .int xi)]) hx hb dM_first_111 rfl hl (by decide) rfl (fun ls hl => ?_)
                  refine lv_iinc (v := xi + 1) (lv' := [(3, .int (xi + 1)), (2, .int xf), (5, .int 0), (4, .int xf), (0, .ref aM), (1, .int t9)]) hx hb dM_first_112 hl (k := 5) rfl rfl (by decide) rfl (fun ls hl => ?_)
                  refine lv_goto (tgt := 4) hx hb dM_first_115 (by decide) ?_
                  exact ih4 (i + 1) _ _ (x_ltn exi he13 c1 (by omega) (by omega)) (by omega) (by rw [exi]; exact nI_1 i) (by have z2 := c4; rw [hcl] at z2; have z3 := c8; rw [hcl] at z3; have z4 := c12; rw [hcl] at z4; have z5 := c13; rw [hcl] at z5; rw [show mFirst ar t9 (i + 1) = mPick ar t9 i (mFirst ar t9 i) from rfl, ← exf]; first | (simp [mPick, c2, z2, eq_true z3, z4, eq_true z5]; done) | (simp [mPick, c2, z2, eq_true z3, z4, eq_true z5]; exact exi) | (simp_all [mPick]; done)) hfi _ _ _ (lv_sub hl [4, 5, 1, 0] rfl) hP hD hS
                · refine lv_aload_n hx hb dM_first_91 rfl (lv_at hl 2 rfl) ?_
                  refine m_arr 17 hx hb hB inBM hown hK hP hR rfl (hB _ fl_M_46) rfl dM_first_92 ?_
                  refine lv_iload_n hx hb dM_first_95 rfl (lv_at hl 5 rfl) ?_
                  refine m_ld 17 (i := xi) (m_inB exi he13 c1 (by omega) hnE (by decide)) hx hb hK hP hR rfl dM_first_96 ?_
                  refine lv_iload_n hx hb dM_first_97 rfl (lv_at hl 3 rfl) ?_
                  refine lv_icmp_gt (tgt := 110) hx hb dM_first_98 (by decide) (fun c14 => ?_) (fun c14 => ?_)
                  · refine lv_iload_n hx hb dM_first_110 rfl (lv_at hl 4 rfl) ?_
                    refine lv_istore_n (lv' := [(2, .int xf), (5, .int 0), (4, .int xf), (0, .ref aM), (1, .int t9), (3, .int xi)]) hx hb dM_first_111 rfl hl (by decide) rfl (fun ls hl => ?_)
                    refine lv_iinc (v := xi + 1) (lv' := [(3, .int (xi + 1)), (2, .int xf), (5, .int 0), (4, .int xf), (0, .ref aM), (1, .int t9)]) hx hb dM_first_112 hl (k := 5) rfl rfl (by decide) rfl (fun ls hl => ?_)
                    refine lv_goto (tgt := 4) hx hb dM_first_115 (by decide) ?_
                    exact ih4 (i + 1) _ _ (x_ltn exi he13 c1 (by omega) (by omega)) (by omega) (by rw [exi]; exact nI_1 i) (by have z2 := c4; rw [hcl] at z2; have z3 := c8; rw [hcl] at z3; have z4 := c12; rw [hcl] at z4; have z5 := c13; rw [hcl] at z5; have z6 := c14; rw [hcl] at z6; rw [show mFirst ar t9 (i + 1) = mPick ar t9 i (mFirst ar t9 i) from rfl, ← exf]; first | (simp [mPick, c2, z2, eq_true z3, z4, z5, z6]; done) | (simp [mPick, c2, z2, eq_true z3, z4, z5, z6]; exact exi) | (simp_all [mPick]; done)) hfi _ _ _ (lv_sub hl [4, 5, 1, 0] rfl) hP hD hS
                  · refine lv_iload hx hb dM_first_101 (lv_at hl 0 rfl) ?_
                    refine lv_if_eq (tgt := 110) hx hb dM_first_103 (by decide) (fun _ => ?_) (fun c15 => absurd c15 (by decide))
                    refine lv_iload_n hx hb dM_first_110 rfl (lv_at hl 4 rfl) ?_
                    refine lv_istore_n (lv' := [(2, .int xf), (5, .int 0), (4, .int xf), (0, .ref aM), (1, .int t9), (3, .int xi)]) hx hb dM_first_111 rfl hl (by decide) rfl (fun ls hl => ?_)
                    refine lv_iinc (v := xi + 1) (lv' := [(3, .int (xi + 1)), (2, .int xf), (5, .int 0), (4, .int xf), (0, .ref aM), (1, .int t9)]) hx hb dM_first_112 hl (k := 5) rfl rfl (by decide) rfl (fun ls hl => ?_)
                    refine lv_goto (tgt := 4) hx hb dM_first_115 (by decide) ?_
                    exact ih4 (i + 1) _ _ (x_ltn exi he13 c1 (by omega) (by omega)) (by omega) (by rw [exi]; exact nI_1 i) (by have z2 := c4; rw [hcl] at z2; have z3 := c8; rw [hcl] at z3; have z4 := c12; rw [hcl] at z4; have z5 := c13; rw [hcl] at z5; have z6 := c14; rw [hcl] at z6; rw [show mFirst ar t9 (i + 1) = mPick ar t9 i (mFirst ar t9 i) from rfl, ← exf]; first | (simp [mPick, c2, z2, eq_true z3, z4, z5, z6]; done) | (simp [mPick, c2, z2, eq_true z3, z4, z5, z6]; exact exi) | (simp_all [mPick]; done)) hfi _ _ _ (lv_sub hl [4, 5, 1, 0] rfl) hP hD hS
              · refine lv_iconst (v := 1) hx hb dM_first_75 (by decide) ?_
                refine lv_goto (tgt := 80) hx hb dM_first_76 (by decide) ?_
                refine lv_istore (lv' := [(5, .int 1), (4, .int xf), (0, .ref aM), (1, .int t9), (2, .int xf), (3, .int xi)]) hx hb dM_first_80 hl (by decide) rfl (fun ls hl => ?_)
                refine lv_aload_n hx hb dM_first_82 rfl (lv_at hl 2 rfl) ?_
                refine m_arr 18 hx hb hB inBM hown hK hP hR rfl (hB _ fl_M_49) rfl dM_first_83 ?_
                refine lv_iload_n hx hb dM_first_86 rfl (lv_at hl 5 rfl) ?_
                refine m_ldz 18 (i := xi) (m_inB exi he13 c1 (by omega) hnE (by decide)) hx hb hK hP hR rfl dM_first_87 ?_
                refine lv_if_eq (tgt := 110) hx hb dM_first_88 (by decide) (fun c16 => ?_) (fun c16 => ?_)
                · refine lv_iload_n hx hb dM_first_110 rfl (lv_at hl 4 rfl) ?_
                  refine lv_istore_n (lv' := [(2, .int xf), (5, .int 1), (4, .int xf), (0, .ref aM), (1, .int t9), (3, .int xi)]) hx hb dM_first_111 rfl hl (by decide) rfl (fun ls hl => ?_)
                  refine lv_iinc (v := xi + 1) (lv' := [(3, .int (xi + 1)), (2, .int xf), (5, .int 1), (4, .int xf), (0, .ref aM), (1, .int t9)]) hx hb dM_first_112 hl (k := 5) rfl rfl (by decide) rfl (fun ls hl => ?_)
                  refine lv_goto (tgt := 4) hx hb dM_first_115 (by decide) ?_
                  exact ih4 (i + 1) _ _ (x_ltn exi he13 c1 (by omega) (by omega)) (by omega) (by rw [exi]; exact nI_1 i) (by have z2 := c4; rw [hcl] at z2; have z3 := c8; rw [hcl] at z3; have z4 := c12; rw [hcl] at z4; have z5 := c16; rw [hcl] at z5; rw [show mFirst ar t9 (i + 1) = mPick ar t9 i (mFirst ar t9 i) from rfl, ← exf]; first | (simp [mPick, c2, z2, eq_true z3, z4, eq_true z5]; done) | (simp [mPick, c2, z2, eq_true z3, z4, eq_true z5]; exact exi) | (simp_all [mPick]; done)) hfi _ _ _ (lv_sub hl [4, 5, 1, 0] rfl) hP hD hS
                · refine lv_aload_n hx hb dM_first_91 rfl (lv_at hl 2 rfl) ?_
                  refine m_arr 17 hx hb hB inBM hown hK hP hR rfl (hB _ fl_M_46) rfl dM_first_92 ?_
                  refine lv_iload_n hx hb dM_first_95 rfl (lv_at hl 5 rfl) ?_
                  refine m_ld 17 (i := xi) (m_inB exi he13 c1 (by omega) hnE (by decide)) hx hb hK hP hR rfl dM_first_96 ?_
                  refine lv_iload_n hx hb dM_first_97 rfl (lv_at hl 3 rfl) ?_
                  refine lv_icmp_gt (tgt := 110) hx hb dM_first_98 (by decide) (fun c17 => ?_) (fun c17 => ?_)
                  · refine lv_iload_n hx hb dM_first_110 rfl (lv_at hl 4 rfl) ?_
                    refine lv_istore_n (lv' := [(2, .int xf), (5, .int 1), (4, .int xf), (0, .ref aM), (1, .int t9), (3, .int xi)]) hx hb dM_first_111 rfl hl (by decide) rfl (fun ls hl => ?_)
                    refine lv_iinc (v := xi + 1) (lv' := [(3, .int (xi + 1)), (2, .int xf), (5, .int 1), (4, .int xf), (0, .ref aM), (1, .int t9)]) hx hb dM_first_112 hl (k := 5) rfl rfl (by decide) rfl (fun ls hl => ?_)
                    refine lv_goto (tgt := 4) hx hb dM_first_115 (by decide) ?_
                    exact ih4 (i + 1) _ _ (x_ltn exi he13 c1 (by omega) (by omega)) (by omega) (by rw [exi]; exact nI_1 i) (by have z2 := c4; rw [hcl] at z2; have z3 := c8; rw [hcl] at z3; have z4 := c12; rw [hcl] at z4; have z5 := c16; rw [hcl] at z5; have z6 := c17; rw [hcl] at z6; rw [show mFirst ar t9 (i + 1) = mPick ar t9 i (mFirst ar t9 i) from rfl, ← exf]; first | (simp [mPick, c2, z2, eq_true z3, z4, z5, z6]; done) | (simp [mPick, c2, z2, eq_true z3, z4, z5, z6]; exact exi) | (simp_all [mPick]; done)) hfi _ _ _ (lv_sub hl [4, 5, 1, 0] rfl) hP hD hS
                  · refine lv_iload hx hb dM_first_101 (lv_at hl 0 rfl) ?_
                    refine lv_if_eq (tgt := 110) hx hb dM_first_103 (by decide) (fun c18 => absurd c18 (by decide)) (fun _ => ?_)
                    refine lv_iload_n hx hb dM_first_106 rfl (lv_at hl 5 rfl) ?_
                    refine lv_goto (tgt := 111) hx hb dM_first_107 (by decide) ?_
                    refine lv_istore_n (lv' := [(2, .int xi), (5, .int 1), (4, .int xf), (0, .ref aM), (1, .int t9), (3, .int xi)]) hx hb dM_first_111 rfl hl (by decide) rfl (fun ls hl => ?_)
                    refine lv_iinc (v := xi + 1) (lv' := [(3, .int (xi + 1)), (2, .int xi), (5, .int 1), (4, .int xf), (0, .ref aM), (1, .int t9)]) hx hb dM_first_112 hl (k := 5) rfl rfl (by decide) rfl (fun ls hl => ?_)
                    refine lv_goto (tgt := 4) hx hb dM_first_115 (by decide) ?_
                    exact ih4 (i + 1) _ _ (x_ltn exi he13 c1 (by omega) (by omega)) (by omega) (by rw [exi]; exact nI_1 i) (by have z2 := c4; rw [hcl] at z2; have z3 := c8; rw [hcl] at z3; have z4 := c12; rw [hcl] at z4; have z5 := c16; rw [hcl] at z5; have z6 := c17; rw [hcl] at z6; rw [show mFirst ar t9 (i + 1) = mPick ar t9 i (mFirst ar t9 i) from rfl, ← exf]; first | (simp [mPick, c2, z2, eq_true z3, z4, z5, z6]; done) | (simp [mPick, c2, z2, eq_true z3, z4, z5, z6]; exact exi) | (simp_all [mPick]; done)) (fun _ => m_inB exi he13 c1 (by omega) hnE (by decide)) _ _ _ (lv_sub hl [4, 5, 1, 0] rfl) hP hD hS
        · refine lv_iload_n hx hb dM_first_16 rfl (lv_at hl 3 rfl) ?_
          refine lv_goto (tgt := 21) hx hb dM_first_17 (by decide) ?_
          refine lv_istore (lv' := [(4, .int xi), (0, .ref aM), (1, .int t9), (2, .int xf), (3, .int xi)]) hx hb dM_first_21 hl (by decide) rfl (fun ls hl => ?_)
          refine lv_iload_n hx hb dM_first_23 rfl (lv_at hl 3 rfl) ?_
          refine lv_if_lt (tgt := 75) hx hb dM_first_24 (by decide) (fun _ => ?_) (fun c19 => absurd (Int32.not_lt.mp c19) c2)
          refine lv_iconst (v := 1) hx hb dM_first_75 (by decide) ?_
          refine lv_goto (tgt := 80) hx hb dM_first_76 (by decide) ?_
          refine lv_istore (lv' := [(5, .int 1), (4, .int xi), (0, .ref aM), (1, .int t9), (2, .int xf), (3, .int xi)]) hx hb dM_first_80 hl (by decide) rfl (fun ls hl => ?_)
          refine lv_aload_n hx hb dM_first_82 rfl (lv_at hl 2 rfl) ?_
          refine m_arr 18 hx hb hB inBM hown hK hP hR rfl (hB _ fl_M_49) rfl dM_first_83 ?_
          refine lv_iload_n hx hb dM_first_86 rfl (lv_at hl 5 rfl) ?_
          refine m_ldz 18 (i := xi) (m_inB exi he13 c1 (by omega) hnE (by decide)) hx hb hK hP hR rfl dM_first_87 ?_
          refine lv_if_eq (tgt := 110) hx hb dM_first_88 (by decide) (fun c20 => ?_) (fun c20 => ?_)
          · refine lv_iload_n hx hb dM_first_110 rfl (lv_at hl 4 rfl) ?_
            refine lv_istore_n (lv' := [(2, .int xf), (5, .int 1), (4, .int xi), (0, .ref aM), (1, .int t9), (3, .int xi)]) hx hb dM_first_111 rfl hl (by decide) rfl (fun ls hl => ?_)
            refine lv_iinc (v := xi + 1) (lv' := [(3, .int (xi + 1)), (2, .int xf), (5, .int 1), (4, .int xi), (0, .ref aM), (1, .int t9)]) hx hb dM_first_112 hl (k := 5) rfl rfl (by decide) rfl (fun ls hl => ?_)
            refine lv_goto (tgt := 4) hx hb dM_first_115 (by decide) ?_
            exact ih4 (i + 1) _ _ (x_ltn exi he13 c1 (by omega) (by omega)) (by omega) (by rw [exi]; exact nI_1 i) (by have z2 := c20; rw [hcl] at z2; rw [show mFirst ar t9 (i + 1) = mPick ar t9 i (mFirst ar t9 i) from rfl, ← exf]; first | (simp [mPick, c2, eq_true z2]; done) | (simp [mPick, c2, eq_true z2]; exact exi) | (simp_all [mPick]; done)) hfi _ _ _ (lv_sub hl [4, 5, 1, 0] rfl) hP hD hS
          · refine lv_aload_n hx hb dM_first_91 rfl (lv_at hl 2 rfl) ?_
            refine m_arr 17 hx hb hB inBM hown hK hP hR rfl (hB _ fl_M_46) rfl dM_first_92 ?_
            refine lv_iload_n hx hb dM_first_95 rfl (lv_at hl 5 rfl) ?_
            refine m_ld 17 (i := xi) (m_inB exi he13 c1 (by omega) hnE (by decide)) hx hb hK hP hR rfl dM_first_96 ?_
            refine lv_iload_n hx hb dM_first_97 rfl (lv_at hl 3 rfl) ?_
            refine lv_icmp_gt (tgt := 110) hx hb dM_first_98 (by decide) (fun c21 => ?_) (fun c21 => ?_)
            · refine lv_iload_n hx hb dM_first_110 rfl (lv_at hl 4 rfl) ?_
              refine lv_istore_n (lv' := [(2, .int xf), (5, .int 1), (4, .int xi), (0, .ref aM), (1, .int t9), (3, .int xi)]) hx hb dM_first_111 rfl hl (by decide) rfl (fun ls hl => ?_)
              refine lv_iinc (v := xi + 1) (lv' := [(3, .int (xi + 1)), (2, .int xf), (5, .int 1), (4, .int xi), (0, .ref aM), (1, .int t9)]) hx hb dM_first_112 hl (k := 5) rfl rfl (by decide) rfl (fun ls hl => ?_)
              refine lv_goto (tgt := 4) hx hb dM_first_115 (by decide) ?_
              exact ih4 (i + 1) _ _ (x_ltn exi he13 c1 (by omega) (by omega)) (by omega) (by rw [exi]; exact nI_1 i) (by have z2 := c20; rw [hcl] at z2; have z3 := c21; rw [hcl] at z3; rw [show mFirst ar t9 (i + 1) = mPick ar t9 i (mFirst ar t9 i) from rfl, ← exf]; first | (simp [mPick, c2, z2, z3]; done) | (simp [mPick, c2, z2, z3]; exact exi) | (simp_all [mPick]; done)) hfi _ _ _ (lv_sub hl [4, 5, 1, 0] rfl) hP hD hS
            · refine lv_iload hx hb dM_first_101 (lv_at hl 0 rfl) ?_
              refine lv_if_eq (tgt := 110) hx hb dM_first_103 (by decide) (fun c22 => absurd c22 (by decide)) (fun _ => ?_)
              refine lv_iload_n hx hb dM_first_106 rfl (lv_at hl 5 rfl) ?_
              refine lv_goto (tgt := 111) hx hb dM_first_107 (by decide) ?_
              refine lv_istore_n (lv' := [(2, .int xi), (5, .int 1), (4, .int xi), (0, .ref aM), (1, .int t9), (3, .int xi)]) hx hb dM_first_111 rfl hl (by decide) rfl (fun ls hl => ?_)
              refine lv_iinc (v := xi + 1) (lv' := [(3, .int (xi + 1)), (2, .int xi), (5, .int 1), (4, .int xi), (0, .ref aM), (1, .int t9)]) hx hb dM_first_112 hl (k := 5) rfl rfl (by decide) rfl (fun ls hl => ?_)
              refine lv_goto (tgt := 4) hx hb dM_first_115 (by decide) ?_
              exact ih4 (i + 1) _ _ (x_ltn exi he13 c1 (by omega) (by omega)) (by omega) (by rw [exi]; exact nI_1 i) (by have z2 := c20; rw [hcl] at z2; have z3 := c21; rw [hcl] at z3; rw [show mFirst ar t9 (i + 1) = mPick ar t9 i (mFirst ar t9 i) from rfl, ← exf]; first | (simp [mPick, c2, z2, z3]; done) | (simp [mPick, c2, z2, z3]; exact exi) | (simp_all [mPick]; done)) (fun _ => m_inB exi he13 c1 (by omega) hnE (by decide)) _ _ _ (lv_sub hl [4, 5, 1, 0] rfl) hP hD hS
  refine lv_iconst (v := (-1)) hx hb dM_first_0 (by decide) ?_
  refine lv_istore_n (lv' := [(2, .int (-1)), (0, .ref aM), (1, .int t9)]) hx hb dM_first_1 rfl hl (by decide) rfl (fun ls hl => ?_)
  refine lv_iconst (v := 0) hx hb dM_first_2 (by decide) ?_
  refine lv_istore_n (lv' := [(3, .int 0), (2, .int (-1)), (0, .ref aM), (1, .int t9)]) hx hb dM_first_3 rfl hl (by decide) rfl (fun ls hl => ?_)
  exact loop4 (nE + 1) 0 _ _ (Nat.zero_le _) (by omega) nI_0.symm rfl (fun z => absurd z (show ¬ (0 : Int32) ≤ -1 by decide)) _ _ _ (lv_sub hl [2, 3, 1, 0] rfl) hP hD hS
set_option maxHeartbeats 4000000 in
set_option maxRecDepth 100000 in
theorem c_M_tick {l : Launch} {G : va_G} {ca : Nat → ClassId} {aM : Nat} {am : Nat → Nat} {h : Nat → Int32} {ar : Nat → Nat → Int32} {w : va_W} {sz : Nat} (hR : RM ca aM am h ar w) (t9 : Int32) {nE : Nat} (he13 : h 13 = nI nE) (hnE : nE ≤ 120) {N : Nat} (hdn : mDone t9 nE N (upd h 0 0) ar) (hok : mOk ar nE) : xMi l yM_tick wsM_tick ({ frames := 3, cells := 0, slots := 0, locals := 70 }) [.ref aM, .int t9] G (mTys ca) w sz (fun r w' => r = (mTickF h ar N nE t9).2.2 ∧ RM ca aM am ((mTickF h ar N nE t9).1) ((mTickF h ar N nE t9).2.1) w') 0 0 := by
  refine x_ofW (fun A => va_Qi (fun r w' => r = (mTickF h ar N nE t9).2.2 ∧ RM ca aM am ((mTickF h ar N nE t9).1) ((mTickF h ar N nE t9).2.1) w') (xEnd G (mTys ca) A) A) cM_tick 5 (some .int) (by decide) rfl (Nat.le_of_ble_eq_true rfl) ?_
  intro p e s m below meth c A ls hx hb hr hlocks hml hnm hown hB hA hP hK hD hS hl
  have hl : lv_has ls 5 [(0, .ref aM), (1, .int t9)] := hl
  have hown : s.vm.findClass NmM = some m.cls := hown
  have loop32 : ∀ (n : Nat) (hh : Nat → Int32) (aa : Nat → Nat → Int32) (x2 x3 : Int32), mDone t9 nE n hh aa → mRun t9 nE n hh aa x2 = mRun t9 nE N (upd h 0 0) ar 0 → x3 = mFirst aa t9 nE → mOk aa nE → hh 13 = nI nE → mTickC h t9 = 0 → ∀ (w : va_W) (ls : Array Slot) (H : Heap) (locs : List Loc), lv_has ls 5 [(0, .ref aM), (1, .int t9), (2, .int x2), (3, .int x3)] → RM ca aM am hh aa w → va_P G vwCl w H → va_D A w → va_S A s.heap H locs → W p l e ({ frames := 3, cells := 0, slots := 0, locals := 70 }) s m [.ref aM, .int t9].toArray below meth c H locs 0 0 (MQ below (va_Qi (fun r w' => r = (mTickF h ar N nE t9).2.2 ∧ RM ca aM am ((mTickF h ar N nE t9).1) ((mTickF h ar N nE t9).2.1) w') (xEnd G (mTys ca) A) A) [.ref aM, .int t9].toArray s 0 0 A) (F0 m 32 ls []) := by
    intro n
    induction n with
    | zero => intro hh aa x2 x3 hdn hrn ex3 hok he hC; exact hdn.elim
    | succ n ih32 =>
      intro hh aa x2 x3 hdn hrn ex3 hok he hC w ls H locs hl hR hP hD hS
      refine lv_iload_n hx hb dM_tick_32 rfl (lv_at hl 3 rfl) ?_
      refine lv_if_lt (tgt := 138) hx hb dM_tick_33 (by decide) (fun c1 => ?_) (fun c1 => ?_)
      · refine lv_aload_n hx hb dM_tick_138 rfl (lv_at hl 0 rfl) ?_
        refine lv_iload_n hx hb dM_tick_139 rfl (lv_at hl 1 rfl) ?_
        refine m_put 1 t9 hx hb hB inBM hown hK hP hD hS hR rfl (hB _ fl_M_96) rfl rfl (by decide +kernel) dM_tick_140 (fun w H locs hR hP hD hS => ?_)
        refine lv_iload_n hx hb dM_tick_143 rfl (lv_at hl 2 rfl) ?_
        exact x_iret (v := x2) hx hb hr hlocks ⟨(by have e9 : (hh, aa, x2) = mRun t9 nE N (upd h 0 0) ar 0 := (by rw [← hrn, mRun, if_pos (ex3 ▸ c1)]); rw [mTickF, if_pos hC, ← e9]), (by have e9 : (hh, aa, x2) = mRun t9 nE N (upd h 0 0) ar 0 := (by rw [← hrn, mRun, if_pos (ex3 ▸ c1)]); rw [mTickF, if_pos hC, ← e9]; exact hR)⟩ hP hK hD hS dM_tick_144
      · refine lv_aload_n hx hb dM_tick_36 rfl (lv_at hl 0 rfl) ?_
        refine lv_iload_n hx hb dM_tick_37 rfl (lv_at hl 3 rfl) ?_
        refine x_calli (va_runV (As := [.int x3]) (rest := []) ⟨hx, hb, hml, hown, hB⟩ (c_M_why hR x3 (m_fin ex3 c1 hnE) (hok _ (m_flt ex3 c1 hnE)).1 (hok _ (m_flt ex3 c1 hnE)).2.1 (hok _ (m_flt ex3 c1 hnE)).2.2) (cwV 1 hB (gV ml_M_131 im_M_why sl_M_why ini_M kc_M_why) rfl rfl rfl (by decide +kernel) ⟨Nat.le_of_ble_eq_true rfl, Nat.le_of_ble_eq_true rfl⟩) (x_preV hP hK hD hR.1 rfl) rfl rfl hl.1 rfl (lv_room (Nat.le_of_ble_eq_true rfl)) dM_tick_38 ⟨Nat.le_of_ble_eq_true rfl, Nat.le_of_ble_eq_true rfl⟩) hD hS hA (fun r2 w H locs hw hP hD hS => ?_)
        obtain ⟨ee3, hR⟩ := hw
        refine lv_istore (lv' := [(4, .int r2), (0, .ref aM), (1, .int t9), (2, .int x2), (3, .int x3)]) hx hb dM_tick_41 hl (by decide) rfl (fun ls hl => ?_)
        refine lv_iload hx hb dM_tick_43 (lv_at hl 0 rfl) ?_
        refine lv_if_ne (tgt := 70) hx hb dM_tick_45 (by decide) (fun c4 => ?_) (fun c4 => ?_)
        · refine lv_aload_n hx hb dM_tick_70 rfl (lv_at hl 1 rfl) ?_
          refine m_arr 18 hx hb hB inBM hown hK hP hR rfl (hB _ fl_M_49) rfl dM_tick_71 ?_
          refine lv_iload_n hx hb dM_tick_74 rfl (lv_at hl 4 rfl) ?_
          refine lv_iconst (v := 0) hx hb dM_tick_75 (by decide) ?_
          refine m_stz 18 (i := x3) (x := 0) rfl (m_fin ex3 c1 hnE) hx hb hK hP hD hS hR rfl dM_tick_76 (fun w H locs hR hP hD hS => ?_)
          refine lv_aload_n hx hb dM_tick_77 rfl (lv_at hl 1 rfl) ?_
          refine m_arr 19 hx hb hB inBM hown hK hP hR rfl (hB _ fl_M_53) rfl dM_tick_78 ?_
          refine lv_iload_n hx hb dM_tick_81 rfl (lv_at hl 4 rfl) ?_
          refine lv_iload hx hb dM_tick_82 (lv_at hl 0 rfl) ?_
          refine lv_if_le (tgt := 94) hx hb dM_tick_84 (by decide) (fun c5 => ?_) (fun c5 => ?_)
          · refine lv_aload_n hx hb dM_tick_94 rfl (lv_at hl 1 rfl) ?_
            refine m_arr 7 hx hb hB inBM hown hK hP hR rfl (hB _ fl_M_19) rfl dM_tick_95 ?_
            refine lv_aload_n hx hb dM_tick_98 rfl (lv_at hl 1 rfl) ?_
            refine m_arr 14 hx hb hB inBM hown hK hP hR rfl (hB _ fl_M_37) rfl dM_tick_99 ?_
            refine lv_iload_n hx hb dM_tick_102 rfl (lv_at hl 4 rfl) ?_
            refine m_ld 14 (i := x3) (m_fin ex3 c1 hnE) hx hb hK hP hR rfl dM_tick_103 ?_
            refine m_ld 7 (i := (mSt (mWhyA aa x3.toNatClampNeg) 18 x3.toNatClampNeg 0) 14 x3.toNatClampNeg) (by simp only [mSt_ne, mHap_ne, mWhyA_ne, ne_eq, Nat.reduceEqDiff, not_false_eq_true]; exact (hok _ (m_flt ex3 c1 hnE)).2.1) hx hb hK hP hR rfl dM_tick_104 ?_
            refine m_st 19 (i := x3) (x := (mSt (mWhyA aa x3.toNatClampNeg) 18 x3.toNatClampNeg 0) 7 ((mSt (mWhyA aa x3.toNatClampNeg) 18 x3.toNatClampNeg 0) 14 x3.toNatClampNeg).toNatClampNeg) (m_fin ex3 c1 hnE) hx hb hK hP hD hS hR rfl dM_tick_105 (fun w H locs hR hP hD hS => ?_)
            refine lv_aload_n hx hb dM_tick_106 rfl (lv_at hl 1 rfl) ?_
            refine m_arr 20 hx hb hB inBM hown hK hP hR rfl (hB _ fl_M_56) rfl dM_tick_107 ?_
            refine lv_iload_n hx hb dM_tick_110 rfl (lv_at hl 4 rfl) ?_
            refine lv_aload_n hx hb dM_tick_111 rfl (lv_at hl 1 rfl) ?_
            refine m_get 21 hx hb hB inBM hown hK hP hR rfl (hB _ fl_M_137) rfl dM_tick_112 ?_
            refine m_st 20 (i := x3) (x := hh 21) (m_fin ex3 c1 hnE) hx hb hK hP hD hS hR rfl dM_tick_115 (fun w H locs hR hP hD hS => ?_)
            refine lv_aload_n hx hb dM_tick_116 rfl (lv_at hl 1 rfl) ?_
            refine lv_dup hx hb dM_tick_117 rfl ?_
            refine m_get 21 hx hb hB inBM hown hK hP hR rfl (hB _ fl_M_137) rfl dM_tick_118 ?_
            refine lv_iconst (v := 1) hx hb dM_tick_121 (by decide) ?_
            refine lv_iadd hx hb dM_tick_122 ?_
            refine m_put 21 ((hh 21) + 1) hx hb hB inBM hown hK hP hD hS hR rfl (hB _ fl_M_137) rfl rfl (by decide +kernel) dM_tick_123 (fun w H locs hR hP hD hS => ?_)
            refine lv_iinc (v := x2 + 1) (lv' := [(2, .int (x2 + 1)), (4, .int r2), (0, .ref aM), (1, .int t9), (3, .int x3)]) hx hb dM_tick_126 hl (k := 3) rfl rfl (by decide) rfl (fun ls hl => ?_)
            refine lv_aload_n hx hb dM_tick_129 rfl (lv_at hl 2 rfl) ?_
            refine lv_iload_n hx hb dM_tick_130 rfl (lv_at hl 3 rfl) ?_
            refine x_calli (va_runV (As := [.int t9]) (rest := []) ⟨hx, hb, hml, hown, hB⟩ (c_M_first hR t9 he hnE) (cwV 1 hB (gV ml_M_128 im_M_first sl_M_first ini_M kc_M_first) rfl rfl rfl (by decide +kernel) ⟨Nat.le_of_ble_eq_true rfl, Nat.le_of_ble_eq_true rfl⟩) (x_preV hP hK hD hR.1 rfl) rfl rfl hl.1 rfl (lv_room (Nat.le_of_ble_eq_true rfl)) dM_tick_131 ⟨Nat.le_of_ble_eq_true rfl, Nat.le_of_ble_eq_true rfl⟩) hD hS hA (fun r6 w H locs hw hP hD hS => ?_)
            obtain ⟨ee7, rfl⟩ := hw
            refine lv_istore_n (lv' := [(3, .int r6), (2, .int (x2 + 1)), (4, .int r2), (0, .ref aM), (1, .int t9)]) hx hb dM_tick_134 rfl hl (by decide) rfl (fun ls hl => ?_)
            refine lv_goto (tgt := 32) hx hb dM_tick_135 (by decide) ?_
            subst ee3
            have hR : RM ca aM am (mStepH hh) (mStepA hh aa x3.toNatClampNeg) w := by simpa [mStepH, mStepA, mStB, mSt_ne, mHap_ne, mWhyA_ne, c4, c5] using hR
            exact ih32 (mStepH hh) (mStepA hh aa x3.toNatClampNeg) _ _ (by rcases hdn with z | z; exact absurd (ex3 ▸ z) c1; rw [ex3]; exact z.2) (by rw [← hrn, mRun, if_neg (ex3 ▸ c1), ex3]) (by rw [ee7]; simp [mStepA, mStB, mSt_ne, mHap_ne, mWhyA_ne, c4, c5]) (mOk_step hok) he hC _ _ _ _ (lv_sub hl [3, 4, 1, 0] rfl) hR hP hD hS
          · refine lv_iconst (v := (-1)) hx hb dM_tick_87 (by decide) ?_
            refine lv_iload hx hb dM_tick_88 (lv_at hl 0 rfl) ?_
            refine lv_isub hx hb dM_tick_90 ?_
            refine lv_goto (tgt := 105) hx hb dM_tick_91 (by decide) ?_
            refine m_st 19 (i := x3) (x := (-1) - r2) (m_fin ex3 c1 hnE) hx hb hK hP hD hS hR rfl dM_tick_105 (fun w H locs hR hP hD hS => ?_)
            refine lv_aload_n hx hb dM_tick_106 rfl (lv_at hl 1 rfl) ?_
            refine m_arr 20 hx hb hB inBM hown hK hP hR rfl (hB _ fl_M_56) rfl dM_tick_107 ?_
            refine lv_iload_n hx hb dM_tick_110 rfl (lv_at hl 4 rfl) ?_
            refine lv_aload_n hx hb dM_tick_111 rfl (lv_at hl 1 rfl) ?_
            refine m_get 21 hx hb hB inBM hown hK hP hR rfl (hB _ fl_M_137) rfl dM_tick_112 ?_
            refine m_st 20 (i := x3) (x := hh 21) (m_fin ex3 c1 hnE) hx hb hK hP hD hS hR rfl dM_tick_115 (fun w H locs hR hP hD hS => ?_)
            refine lv_aload_n hx hb dM_tick_116 rfl (lv_at hl 1 rfl) ?_
            refine lv_dup hx hb dM_tick_117 rfl ?_
            refine m_get 21 hx hb hB inBM hown hK hP hR rfl (hB _ fl_M_137) rfl dM_tick_118 ?_
            refine lv_iconst (v := 1) hx hb dM_tick_121 (by decide) ?_
            refine lv_iadd hx hb dM_tick_122 ?_
            refine m_put 21 ((hh 21) + 1) hx hb hB inBM hown hK hP hD hS hR rfl (hB _ fl_M_137) rfl rfl (by decide +kernel) dM_tick_123 (fun w H locs hR hP hD hS => ?_)
            refine lv_iinc (v := x2 + 1) (lv' := [(2, .int (x2 + 1)), (4, .int r2), (0, .ref aM), (1, .int t9), (3, .int x3)]) hx hb dM_tick_126 hl (k := 3) rfl rfl (by decide) rfl (fun ls hl => ?_)
            refine lv_aload_n hx hb dM_tick_129 rfl (lv_at hl 2 rfl) ?_
            refine lv_iload_n hx hb dM_tick_130 rfl (lv_at hl 3 rfl) ?_
            refine x_calli (va_runV (As := [.int t9]) (rest := []) ⟨hx, hb, hml, hown, hB⟩ (c_M_first hR t9 he hnE) (cwV 1 hB (gV ml_M_128 im_M_first sl_M_first ini_M kc_M_first) rfl rfl rfl (by decide +kernel) ⟨Nat.le_of_ble_eq_true rfl, Nat.le_of_ble_eq_true rfl⟩) (x_preV hP hK hD hR.1 rfl) rfl rfl hl.1 rfl (lv_room (Nat.le_of_ble_eq_true rfl)) dM_tick_131 ⟨Nat.le_of_ble_eq_true rfl, Nat.le_of_ble_eq_true rfl⟩) hD hS hA (fun r8 w H locs hw hP hD hS => ?_)
            obtain ⟨ee9, rfl⟩ := hw
            refine lv_istore_n (lv' := [(3, .int r8), (2, .int (x2 + 1)), (4, .int r2), (0, .ref aM), (1, .int t9)]) hx hb dM_tick_134 rfl hl (by decide) rfl (fun ls hl => ?_)
            refine lv_goto (tgt := 32) hx hb dM_tick_135 (by decide) ?_
            subst ee3
            have hR : RM ca aM am (mStepH hh) (mStepA hh aa x3.toNatClampNeg) w := by simpa [mStepH, mStepA, mStB, mSt_ne, mHap_ne, mWhyA_ne, c4, c5] using hR
            exact ih32 (mStepH hh) (mStepA hh aa x3.toNatClampNeg) _ _ (by rcases hdn with z | z; exact absurd (ex3 ▸ z) c1; rw [ex3]; exact z.2) (by rw [← hrn, mRun, if_neg (ex3 ▸ c1), ex3]) (by rw [ee9]; simp [mStepA, mStB, mSt_ne, mHap_ne, mWhyA_ne, c4, c5]) (mOk_step hok) he hC _ _ _ _ (lv_sub hl [3, 4, 1, 0] rfl) hR hP hD hS
        · refine lv_aload_n hx hb dM_tick_48 rfl (lv_at hl 1 rfl) ?_
          refine lv_aload_n hx hb dM_tick_49 rfl (lv_at hl 1 rfl) ?_
          refine m_arr 14 hx hb hB inBM hown hK hP hR rfl (hB _ fl_M_37) rfl dM_tick_50 ?_
          refine lv_iload_n hx hb dM_tick_53 rfl (lv_at hl 4 rfl) ?_
          refine m_ld 14 (i := x3) (m_fin ex3 c1 hnE) hx hb hK hP hR rfl dM_tick_54 ?_
          refine lv_aload_n hx hb dM_tick_55 rfl (lv_at hl 1 rfl) ?_
          refine m_arr 15 hx hb hB inBM hown hK hP hR rfl (hB _ fl_M_40) rfl dM_tick_56 ?_
          refine lv_iload_n hx hb dM_tick_59 rfl (lv_at hl 4 rfl) ?_
          refine m_ld 15 (i := x3) (m_fin ex3 c1 hnE) hx hb hK hP hR rfl dM_tick_60 ?_
          refine lv_aload_n hx hb dM_tick_61 rfl (lv_at hl 1 rfl) ?_
          refine m_arr 17 hx hb hB inBM hown hK hP hR rfl (hB _ fl_M_46) rfl dM_tick_62 ?_
          refine lv_iload_n hx hb dM_tick_65 rfl (lv_at hl 4 rfl) ?_
          refine m_ld 17 (i := x3) (m_fin ex3 c1 hnE) hx hb hK hP hR rfl dM_tick_66 ?_
          refine x_callv (va_runV (As := [.int ((mWhyA aa x3.toNatClampNeg) 14 x3.toNatClampNeg), .int ((mWhyA aa x3.toNatClampNeg) 15 x3.toNatClampNeg), .int ((mWhyA aa x3.toNatClampNeg) 17 x3.toNatClampNeg)]) (rest := []) ⟨hx, hb, hml, hown, hB⟩ (c_M_happens hR ((mWhyA aa x3.toNatClampNeg) 14 x3.toNatClampNeg) ((mWhyA aa x3.toNatClampNeg) 15 x3.toNatClampNeg) ((mWhyA aa x3.toNatClampNeg) 17 x3.toNatClampNeg) (by simp only [mSt_ne, mHap_ne, mWhyA_ne, ne_eq, Nat.reduceEqDiff, not_false_eq_true]; exact (hok _ (m_flt ex3 c1 hnE)).2.1)) (cwV 3 hB (gV ml_M_134 im_M_happens sl_M_happens ini_M kc_M_happens) rfl rfl rfl (by decide +kernel) ⟨Nat.le_of_ble_eq_true rfl, Nat.le_of_ble_eq_true rfl⟩) (x_preV hP hK hD hR.1 rfl) rfl rfl hl.1 rfl (lv_room (Nat.le_of_ble_eq_true rfl)) dM_tick_67 ⟨Nat.le_of_ble_eq_true rfl, Nat.le_of_ble_eq_true rfl⟩) hD hS hA (fun w H locs hw hP hD hS => ?_)
          have hR := hw
          refine lv_aload_n hx hb dM_tick_70 rfl (lv_at hl 1 rfl) ?_
          refine m_arr 18 hx hb hB inBM hown hK hP hR rfl (hB _ fl_M_49) rfl dM_tick_71 ?_
          refine lv_iload_n hx hb dM_tick_74 rfl (lv_at hl 4 rfl) ?_
          refine lv_iconst (v := 0) hx hb dM_tick_75 (by decide) ?_
          refine m_stz 18 (i := x3) (x := 0) rfl (m_fin ex3 c1 hnE) hx hb hK hP hD hS hR rfl dM_tick_76 (fun w H locs hR hP hD hS => ?_)
          refine lv_aload_n hx hb dM_tick_77 rfl (lv_at hl 1 rfl) ?_
          refine m_arr 19 hx hb hB inBM hown hK hP hR rfl (hB _ fl_M_53) rfl dM_tick_78 ?_
          refine lv_iload_n hx hb dM_tick_81 rfl (lv_at hl 4 rfl) ?_
          refine lv_iload hx hb dM_tick_82 (lv_at hl 0 rfl) ?_
          refine lv_if_le (tgt := 94) hx hb dM_tick_84 (by decide) (fun _ => ?_) (fun c12 => absurd (show r2 ≤ 0 by rw [c4]; decide) c12)
          refine lv_aload_n hx hb dM_tick_94 rfl (lv_at hl 1 rfl) ?_
          refine m_arr 7 hx hb hB inBM hown hK hP hR rfl (hB _ fl_M_19) rfl dM_tick_95 ?_
          refine lv_aload_n hx hb dM_tick_98 rfl (lv_at hl 1 rfl) ?_
          refine m_arr 14 hx hb hB inBM hown hK hP hR rfl (hB _ fl_M_37) rfl dM_tick_99 ?_
          refine lv_iload_n hx hb dM_tick_102 rfl (lv_at hl 4 rfl) ?_
          refine m_ld 14 (i := x3) (m_fin ex3 c1 hnE) hx hb hK hP hR rfl dM_tick_103 ?_
          refine m_ld 7 (i := (mSt (mHap (mWhyA aa x3.toNatClampNeg) ((mWhyA aa x3.toNatClampNeg) 14 x3.toNatClampNeg).toNatClampNeg ((mWhyA aa x3.toNatClampNeg) 15 x3.toNatClampNeg) ((mWhyA aa x3.toNatClampNeg) 17 x3.toNatClampNeg)) 18 x3.toNatClampNeg 0) 14 x3.toNatClampNeg) (by simp only [mSt_ne, mHap_ne, mWhyA_ne, ne_eq, Nat.reduceEqDiff, not_false_eq_true]; exact (hok _ (m_flt ex3 c1 hnE)).2.1) hx hb hK hP hR rfl dM_tick_104 ?_
          refine m_st 19 (i := x3) (x := (mSt (mHap (mWhyA aa x3.toNatClampNeg) ((mWhyA aa x3.toNatClampNeg) 14 x3.toNatClampNeg).toNatClampNeg ((mWhyA aa x3.toNatClampNeg) 15 x3.toNatClampNeg) ((mWhyA aa x3.toNatClampNeg) 17 x3.toNatClampNeg)) 18 x3.toNatClampNeg 0) 7 ((mSt (mHap (mWhyA aa x3.toNatClampNeg) ((mWhyA aa x3.toNatClampNeg) 14 x3.toNatClampNeg).toNatClampNeg ((mWhyA aa x3.toNatClampNeg) 15 x3.toNatClampNeg) ((mWhyA aa x3.toNatClampNeg) 17 x3.toNatClampNeg)) 18 x3.toNatClampNeg 0) 14 x3.toNatClampNeg).toNatClampNeg) (m_fin ex3 c1 hnE) hx hb hK hP hD hS hR rfl dM_tick_105 (fun w H locs hR hP hD hS => ?_)
          refine lv_aload_n hx hb dM_tick_106 rfl (lv_at hl 1 rfl) ?_
          refine m_arr 20 hx hb hB inBM hown hK hP hR rfl (hB _ fl_M_56) rfl dM_tick_107 ?_
          refine lv_iload_n hx hb dM_tick_110 rfl (lv_at hl 4 rfl) ?_
          refine lv_aload_n hx hb dM_tick_111 rfl (lv_at hl 1 rfl) ?_
          refine m_get 21 hx hb hB inBM hown hK hP hR rfl (hB _ fl_M_137) rfl dM_tick_112 ?_
          refine m_st 20 (i := x3) (x := hh 21) (m_fin ex3 c1 hnE) hx hb hK hP hD hS hR rfl dM_tick_115 (fun w H locs hR hP hD hS => ?_)
          refine lv_aload_n hx hb dM_tick_116 rfl (lv_at hl 1 rfl) ?_
          refine lv_dup hx hb dM_tick_117 rfl ?_
          refine m_get 21 hx hb hB inBM hown hK hP hR rfl (hB _ fl_M_137) rfl dM_tick_118 ?_
          refine lv_iconst (v := 1) hx hb dM_tick_121 (by decide) ?_
          refine lv_iadd hx hb dM_tick_122 ?_
          refine m_put 21 ((hh 21) + 1) hx hb hB inBM hown hK hP hD hS hR rfl (hB _ fl_M_137) rfl rfl (by decide +kernel) dM_tick_123 (fun w H locs hR hP hD hS => ?_)
          refine lv_iinc (v := x2 + 1) (lv' := [(2, .int (x2 + 1)), (4, .int r2), (0, .ref aM), (1, .int t9), (3, .int x3)]) hx hb dM_tick_126 hl (k := 3) rfl rfl (by decide) rfl (fun ls hl => ?_)
          refine lv_aload_n hx hb dM_tick_129 rfl (lv_at hl 2 rfl) ?_
          refine lv_iload_n hx hb dM_tick_130 rfl (lv_at hl 3 rfl) ?_
          refine x_calli (va_runV (As := [.int t9]) (rest := []) ⟨hx, hb, hml, hown, hB⟩ (c_M_first hR t9 he hnE) (cwV 1 hB (gV ml_M_128 im_M_first sl_M_first ini_M kc_M_first) rfl rfl rfl (by decide +kernel) ⟨Nat.le_of_ble_eq_true rfl, Nat.le_of_ble_eq_true rfl⟩) (x_preV hP hK hD hR.1 rfl) rfl rfl hl.1 rfl (lv_room (Nat.le_of_ble_eq_true rfl)) dM_tick_131 ⟨Nat.le_of_ble_eq_true rfl, Nat.le_of_ble_eq_true rfl⟩) hD hS hA (fun r13 w H locs hw hP hD hS => ?_)
          obtain ⟨ee14, rfl⟩ := hw
          refine lv_istore_n (lv' := [(3, .int r13), (2, .int (x2 + 1)), (4, .int r2), (0, .ref aM), (1, .int t9)]) hx hb dM_tick_134 rfl hl (by decide) rfl (fun ls hl => ?_)
          refine lv_goto (tgt := 32) hx hb dM_tick_135 (by decide) ?_
          subst ee3
          have hR : RM ca aM am (mStepH hh) (mStepA hh aa x3.toNatClampNeg) w := by simpa [mStepH, mStepA, mStB, mSt_ne, mHap_ne, mWhyA_ne, c4] using hR
          exact ih32 (mStepH hh) (mStepA hh aa x3.toNatClampNeg) _ _ (by rcases hdn with z | z; exact absurd (ex3 ▸ z) c1; rw [ex3]; exact z.2) (by rw [← hrn, mRun, if_neg (ex3 ▸ c1), ex3]) (by rw [ee14]; simp [mStepA, mStB, mSt_ne, mHap_ne, mWhyA_ne, c4]) (mOk_step hok) he hC _ _ _ _ (lv_sub hl [3, 4, 1, 0] rfl) hR hP hD hS
  refine lv_iload_n hx hb dM_tick_0 rfl (lv_at hl 1 rfl) ?_
  refine lv_aload_n hx hb dM_tick_1 rfl (lv_at hl 0 rfl) ?_
  refine m_get 1 hx hb hB inBM hown hK hP hR rfl (hB _ fl_M_96) rfl dM_tick_2 ?_
  refine lv_ldc (v := 100000) hx hb hown (hB _ kn_M_99) dM_tick_5 ?_
  refine x_calli (va_runS (As := [.int t9, .int (h 1), .int 100000]) (rest := []) ⟨hx, hb, hml, hown, hB⟩ (c_M_in hR t9 (h 1) 100000 ) (va_cwS 3 hB (gS ml_M_78 sm_M_in ini_M kc_M_in) rfl rfl rfl (by decide +kernel) ⟨Nat.le_of_ble_eq_true rfl, Nat.le_of_ble_eq_true rfl⟩) (x_preS hP hK hD) rfl rfl hl.1 rfl (lv_room (Nat.le_of_ble_eq_true rfl)) dM_tick_7 ⟨Nat.le_of_ble_eq_true rfl, Nat.le_of_ble_eq_true rfl⟩) hD hS hA (fun r15 w H locs hw hP hD hS => ?_)
  obtain ⟨ee16, rfl⟩ := hw
  refine lv_if_ne (tgt := 19) hx hb dM_tick_10 (by decide) (fun c17 => ?_) (fun c17 => ?_)
  · refine lv_aload_n hx hb dM_tick_19 rfl (lv_at hl 0 rfl) ?_
    refine lv_iconst (v := 0) hx hb dM_tick_20 (by decide) ?_
    refine m_put 0 0 hx hb hB inBM hown hK hP hD hS hR rfl (hB _ fl_M_69) rfl rfl (by decide +kernel) dM_tick_21 (fun w H locs hR hP hD hS => ?_)
    refine lv_iconst (v := 0) hx hb dM_tick_24 (by decide) ?_
    refine lv_istore_n (lv' := [(2, .int 0), (0, .ref aM), (1, .int t9)]) hx hb dM_tick_25 rfl hl (by decide) rfl (fun ls hl => ?_)
    refine lv_aload_n hx hb dM_tick_26 rfl (lv_at hl 1 rfl) ?_
    refine lv_iload_n hx hb dM_tick_27 rfl (lv_at hl 2 rfl) ?_
    refine x_calli (va_runV (As := [.int t9]) (rest := []) ⟨hx, hb, hml, hown, hB⟩ (c_M_first hR t9 he13 hnE) (cwV 1 hB (gV ml_M_128 im_M_first sl_M_first ini_M kc_M_first) rfl rfl rfl (by decide +kernel) ⟨Nat.le_of_ble_eq_true rfl, Nat.le_of_ble_eq_true rfl⟩) (x_preV hP hK hD hR.1 rfl) rfl rfl hl.1 rfl (lv_room (Nat.le_of_ble_eq_true rfl)) dM_tick_28 ⟨Nat.le_of_ble_eq_true rfl, Nat.le_of_ble_eq_true rfl⟩) hD hS hA (fun r18 w H locs hw hP hD hS => ?_)
    obtain ⟨ee19, rfl⟩ := hw
    refine lv_istore_n (lv' := [(3, .int r18), (2, .int 0), (0, .ref aM), (1, .int t9)]) hx hb dM_tick_31 rfl hl (by decide) rfl (fun ls hl => ?_)
    exact loop32 N (upd h 0 0) ar _ _ hdn rfl ee19 hok he13 (by rw [mTickC, ← ee16, if_neg c17]) _ _ _ _ (lv_sub hl [2, 3, 1, 0] rfl) hR hP hD hS
  · refine lv_aload_n hx hb dM_tick_13 rfl (lv_at hl 0 rfl) ?_
    refine lv_iconst (v := 1) hx hb dM_tick_14 (by decide) ?_
    refine x_calli (va_runV (As := [.int 1]) (rest := []) ⟨hx, hb, hml, hown, hB⟩ (c_M_refuse hR 1 ) (cwV 1 hB (gV ml_M_82 im_M_refuse sl_M_refuse ini_M kc_M_refuse) rfl rfl rfl (by decide +kernel) ⟨Nat.le_of_ble_eq_true rfl, Nat.le_of_ble_eq_true rfl⟩) (x_preV hP hK hD hR.1 rfl) rfl rfl hl.1 rfl (lv_room (Nat.le_of_ble_eq_true rfl)) dM_tick_15 ⟨Nat.le_of_ble_eq_true rfl, Nat.le_of_ble_eq_true rfl⟩) hD hS hA (fun r20 w H locs hw hP hD hS => ?_)
    obtain ⟨ee21, hR⟩ := hw
    exact x_iret (v := r20) hx hb hr hlocks ⟨(by subst ee16 ee21; first | (simp [mTickF, mTickC, c17]; done) | (have q1 : ¬ r15 = 1 := fun z => absurd ((c17).symm.trans z) (by decide); have p1 : ¬ 1 = r15 := fun z => absurd ((c17).symm.trans z.symm) (by decide); have q2 : ¬ r15 = 2 := fun z => absurd ((c17).symm.trans z) (by decide); have p2 : ¬ 2 = r15 := fun z => absurd ((c17).symm.trans z.symm) (by decide); have q3 : ¬ r15 = 3 := fun z => absurd ((c17).symm.trans z) (by decide); have p3 : ¬ 3 = r15 := fun z => absurd ((c17).symm.trans z.symm) (by decide); have q4 : ¬ r15 = 4 := fun z => absurd ((c17).symm.trans z) (by decide); have p4 : ¬ 4 = r15 := fun z => absurd ((c17).symm.trans z.symm) (by decide); have q5 : ¬ r15 = 5 := fun z => absurd ((c17).symm.trans z) (by decide); have p5 : ¬ 5 = r15 := fun z => absurd ((c17).symm.trans z.symm) (by decide); have q6 : ¬ r15 = 6 := fun z => absurd ((c17).symm.trans z) (by decide); have p6 : ¬ 6 = r15 := fun z => absurd ((c17).symm.trans z.symm) (by decide); have q7 : ¬ r15 = 7 := fun z => absurd ((c17).symm.trans z) (by decide); have p7 : ¬ 7 = r15 := fun z => absurd ((c17).symm.trans z.symm) (by decide); have q8 : ¬ r15 = 8 := fun z => absurd ((c17).symm.trans z) (by decide); have p8 : ¬ 8 = r15 := fun z => absurd ((c17).symm.trans z.symm) (by decide); have q9 : ¬ r15 = 9 := fun z => absurd ((c17).symm.trans z) (by decide); have p9 : ¬ 9 = r15 := fun z => absurd ((c17).symm.trans z.symm) (by decide); have q10 : ¬ r15 = (-1) := fun z => absurd ((c17).symm.trans z) (by decide); have p10 : ¬ (-1) = r15 := fun z => absurd ((c17).symm.trans z.symm) (by decide); simp [mTickF, mTickC, eq_true c17, eq_true c17.symm, q1, p1, q2, p2, q3, p3, q4, p4, q5, p5, q6, p6, q7, p7, q8, p8, q9, p9, q10, p10]; done) | (simp_all [mTickF, mTickC]; done)), (by subst ee16 ee21; first | (simpa [mTickF, mTickC, c17] using hR) | (have q1 : ¬ r15 = 1 := fun z => absurd ((c17).symm.trans z) (by decide); have p1 : ¬ 1 = r15 := fun z => absurd ((c17).symm.trans z.symm) (by decide); have q2 : ¬ r15 = 2 := fun z => absurd ((c17).symm.trans z) (by decide); have p2 : ¬ 2 = r15 := fun z => absurd ((c17).symm.trans z.symm) (by decide); have q3 : ¬ r15 = 3 := fun z => absurd ((c17).symm.trans z) (by decide); have p3 : ¬ 3 = r15 := fun z => absurd ((c17).symm.trans z.symm) (by decide); have q4 : ¬ r15 = 4 := fun z => absurd ((c17).symm.trans z) (by decide); have p4 : ¬ 4 = r15 := fun z => absurd ((c17).symm.trans z.symm) (by decide); have q5 : ¬ r15 = 5 := fun z => absurd ((c17).symm.trans z) (by decide); have p5 : ¬ 5 = r15 := fun z => absurd ((c17).symm.trans z.symm) (by decide); have q6 : ¬ r15 = 6 := fun z => absurd ((c17).symm.trans z) (by decide); have p6 : ¬ 6 = r15 := fun z => absurd ((c17).symm.trans z.symm) (by decide); have q7 : ¬ r15 = 7 := fun z => absurd ((c17).symm.trans z) (by decide); have p7 : ¬ 7 = r15 := fun z => absurd ((c17).symm.trans z.symm) (by decide); have q8 : ¬ r15 = 8 := fun z => absurd ((c17).symm.trans z) (by decide); have p8 : ¬ 8 = r15 := fun z => absurd ((c17).symm.trans z.symm) (by decide); have q9 : ¬ r15 = 9 := fun z => absurd ((c17).symm.trans z) (by decide); have p9 : ¬ 9 = r15 := fun z => absurd ((c17).symm.trans z.symm) (by decide); have q10 : ¬ r15 = (-1) := fun z => absurd ((c17).symm.trans z) (by decide); have p10 : ¬ (-1) = r15 := fun z => absurd ((c17).symm.trans z.symm) (by decide); simpa [mTickF, mTickC, eq_true c17, eq_true c17.symm, q1, p1, q2, p2, q3, p3, q4, p4, q5, p5, q6, p6, q7, p7, q8, p8, q9, p9, q10, p10] using hR) | (have hR9 := hR; simp_all [mTickF, mTickC]; done))⟩ hP hK hD hS dM_tick_18
