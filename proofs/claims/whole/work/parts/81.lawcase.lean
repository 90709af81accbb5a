theorem on01 (x : Int32) : (if x = 0 then (0 : Int32) else 1) = 0 ∨ (if x = 0 then (0 : Int32) else 1) = 1 := by split <;> simp
theorem onz (x : Int32) : vp_nar .boolean (if x = 0 then (0 : Int32) else 1) = (if x = 0 then (0 : Int32) else 1) := by split <;> rfl
theorem px1 {c : Int32} (h : ((eIAE = eIAE ∧ c = 1) ∨ (eIAE = eISE ∧ c = 2)) ∨ ((eIOB = eIAE ∧ c = 1) ∨ (eIOB = eISE ∧ c = 2))) : c = 1 := by
  rcases h with (h | h) | (h | h)
  · exact h.2
  · exact absurd h.1 (by decide)
  · exact absurd h.1 (by decide)
  · exact absurd h.1 (by decide)
theorem px2 {c : Int32} (h : (eISE = eIAE ∧ c = 1) ∨ (eISE = eISE ∧ c = 2)) : c = 2 := by
  rcases h with h | h
  · exact absurd h.1 (by decide)
  · exact h.2
theorem pxb1 {c : Int32} (h : (eIAE = eIOB ∧ c = 1) ∨ (eIOB = eIOB ∧ c = 1)) : c = 1 := h.elim (·.2) (·.2)
theorem pxb2 {c : Int32} (h : eISE = eIOB ∧ c = 1) : c = 2 := absurd h.1 (by decide)
/-- what a small method of the law says -/
theorem lPost_cases {post : Int32 → va_W → Prop} {pX : String → Prop} {w w1 : va_W} {fo fo1 : Nat → Int64} {k c : Int32} (hw : lPost post pX w fo k (w1, fo1)) (h0 : ∀ v w', post v w' → c = 0) (h1 : pX eIAE ∨ pX eIOB → c = 1) (h2 : pX eISE → c = 2) : k = c ∧ ((c = 0 ∧ ∃ v, post v w1 ∧ fo1 0 = v.toInt64) ∨ (¬ c = 0 ∧ w1 = w ∧ fo1 = fo)) := by
  rcases hw with ⟨e1, v, e2, e3⟩ | ⟨e1, e2, e3⟩ | ⟨e1, e2, e3⟩
  · have := h0 v _ e2
    exact ⟨e1.trans this.symm, Or.inl ⟨this, v, e2, by rw [show fo1 = _ from e3]; rfl⟩⟩
  · have := h1 e2
    cases e3
    exact ⟨e1.trans this.symm, Or.inr ⟨by rw [this]; decide, rfl, rfl⟩⟩
  · have := h2 e2
    cases e3
    exact ⟨e1.trans this.symm, Or.inr ⟨by rw [this]; decide, rfl, rfl⟩⟩
section LAWC
variable {p : Program} {l : Launch} {e : Env} {s : State} {m : MethodId} {below : List Frame} {meth : Method} {c : Code} {H : Heap} {locs : List Loc} {cells slots : Nat} {Q : State → Prop}
variable {b L : Nat} {xs : Nat → Int32} {G : va_G} {cI cD cE cO : ClassId} {ca : Nat → ClassId} {aX aM aO : Nat} {am : Nat → Nat} {wX wM : va_W} {fo : Nat → Int64} {ls : Array Slot} {i4 : Int32}
set_option maxHeartbeats 4000000 in
set_option maxRecDepth 100000 in
theorem L_person (C : LC p l s m c b L xs G cI cD cE cO ca) (hst : LST cI cD cE ca aX aM am wX wM) (hW : LWO G s cO aO wX wM fo H locs) (hl : lv_has ls 7 [(0, .ref b), (1, .ref aX), (2, .ref aM), (3, .ref aO), (4, .int i4)]) (s1 : vp_in (i4 + 1) L) (s2 : vp_in (i4 + 2) L) (s3 : vp_in (i4 + 3) L) (s4 : vp_in (i4 + 4) L) (hcells : cells + 1 ≤ 601024) (hslots : slots + 12 ≤ 7293034)
    (kk : ∀ (wX wM : va_W) (fo : Nat → Int64) (ls : Array Slot) (H : Heap) (locs : List Loc), LST cI cD cE ca aX aM am wX wM → LWO G s cO aO wX wM fo H locs → lv_has ls 7 [(0, .ref b), (1, .ref aX), (2, .ref aM), (3, .ref aO), (4, .int i4)] → W p l e room_1 s m #[Value.ref b] below meth c H locs (cells + 1) (slots + 12) Q (F0 m 867 ls [])) : W p l e room_1 s m #[Value.ref b] below meth c H locs cells slots Q (F0 m 100 ls []) := by
  have C0 := C
  obtain ⟨hx, hb, hml, hown, hB, hX, hbl, hthr, hN, hKL, hKM, hl9⟩ := C
  obtain ⟨hP, hD, hS⟩ := hW
  have hA : ∀ q : Nat, s.heap.size ≤ q → (fun q : Nat => s.heap.size ≤ q) q := fun _ h => h
  have hbA : ¬ (fun q : Nat => s.heap.size ≤ q) b := Nat.not_le.mpr hbl
  obtain ⟨aR, aD, aE, dA, eA, g, ro, fst, nD, nE, d, fw, lw, ed, ev, nx, h, ar, nP, wl, wr, hR, hM, I⟩ := hst
  have hg1 := I.1.1
  have hp2 := I.1.2.1
  have hnP := I.1.2.2.1
  have hg3 := I.1.2.2.2.1
  have hd4 := I.1.2.2.2.2.1
  have hnD := I.1.2.2.2.2.2.1
  have hg5 := I.1.2.2.2.2.2.2.1
  have he13 := I.1.2.2.2.2.2.2.2.1
  have hnE := I.1.2.2.2.2.2.2.2.2.1
  obtain ⟨a1, a2, a3⟩ := P_person I (xs (i4 + 1).toNatClampNeg)
  refine lv_aload_n hx hb dL_law_100 rfl (lv_at hl 1 rfl) ?_
  refine lv_aload_n hx hb dL_law_101 rfl (lv_at hl 0 rfl) ?_
  refine lv_iload hx hb dL_law_102 (lv_at hl 4 rfl) ?_
  refine lv_iconst (v := 1) hx hb dL_law_104 (by decide) ?_
  refine lv_iadd hx hb dL_law_105 ?_
  refine va_sld hx hb hX hbl hbA hS s1 dL_law_106 ?_
  refine lv_aload_n hx hb dL_law_107 rfl (lv_at hl 3 rfl) ?_
  refine x_callL (w := wX ++ [(aO, oL cO fo)]) (r := wM) (vx_runSW (As := [.ref aX, .int (xs (i4 + 1).toNatClampNeg), .ref aO]) (rest := []) ⟨hx, hb, hml, hown, hB⟩ (c_L_person (xs (i4 + 1).toNatClampNeg) hR.x (fun E h => h.elim (fun h => Or.inl h.1) (fun h => Or.inr h.1)) (fun sz => c_X_person hl9 hR hg1 hnP (xs (i4 + 1).toNatClampNeg))) (vx_cwSW 3 hB (gS ml_L_51 sm_L_person ini_L kc_L_person) rfl rfl rfl (by decide +kernel) ⟨Nat.le_of_ble_eq_true rfl, Nat.le_of_ble_eq_true rfl⟩) (x_preL (x_app_P hP).1 hKL (x_app_D hD).1 hS hA hthr hN) rfl rfl hl.1 rfl (lv_room (Nat.le_of_ble_eq_true rfl)) dL_law_108 ⟨by show cells + 1 ≤ 601024; omega, by show slots + 6 ≤ 7293034; omega⟩) hP hD hS hA (fun k w1 fo1 H locs hw hP hD hS => ?_)
  obtain ⟨hk, hcase⟩ := lPost_cases (c := fPersonC g (xs (i4 + 1).toNatClampNeg)) hw (fun v w' h => h.1) px1 px2
  refine W.widen (k := cells + 1) (n := slots + 12) (by omega) (by omega) ?_
  refine lv_istore (lv' := [(5, .int k), (0, .ref b), (1, .ref aX), (2, .ref aM), (3, .ref aO), (4, .int i4)]) hx hb dL_law_111 hl (by decide) rfl (fun ls hl => ?_)
  refine lv_aload_n hx hb dL_law_113 rfl (lv_at hl 3 rfl) ?_
  refine lv_aload_n hx hb dL_law_114 rfl (lv_at hl 1 rfl) ?_
  refine lv_iload hx hb dL_law_115 (lv_at hl 5 rfl) ?_
  refine lv_iconst (v := 1) hx hb dL_law_117 (by decide) ?_
  refine lv_iadd hx hb dL_law_118 ?_
  refine va_sld hx hb hX hbl hbA hS s1 dL_law_119 ?_
  refine x_callR (r := w1 ++ [(aO, oL cO fo1)]) (w := wM) (va_runV (As := [.int (xs (i4 + 1).toNatClampNeg)]) (rest := []) ⟨hx, hb, hml, hown, hB⟩ (c_M_person hM (xs (i4 + 1).toNatClampNeg) hp2 hnP) (cwV 1 hB (gV ml_L_56 im_M_person sl_M_person ini_M kc_M_person) rfl rfl rfl (by decide +kernel) ⟨Nat.le_of_ble_eq_true rfl, Nat.le_of_ble_eq_true rfl⟩) (x_preV (x_app_P hP).2 hKM (x_app_D hD).2.1 hM.1 rfl) rfl rfl hl.1 rfl (lv_room (Nat.le_of_ble_eq_true rfl)) dL_law_120 ⟨by show cells + 1 + 0 ≤ 601024; omega, by show slots + 12 + 0 ≤ 7293034; omega⟩) hP hD hS hA (fun r2 w2 H locs hw2 hP hD hS => ?_)
  obtain ⟨hr2, hM2⟩ := hw2
  refine L_tail C0 hM2 (a1.trans hk.symm) (fun hk0 => ?_) 123 dL_law_123 dL_law_125 dL_law_126 dL_law_129 dL_law_131 dL_law_136 dL_law_138 dL_law_141 dL_law_142 dL_law_143 dL_law_144 dL_law_146 dL_law_147 dL_law_148 dL_law_153 (by decide) ⟨hP, hD, hS⟩ hl (by omega) (by omega) (fun ls H locs hW hl => kk w1 w2 fo1 ls H locs ?_ hW hl)
  · rcases hcase with ⟨c0, v, h1, h2⟩ | ⟨c0, -, -⟩
    · rw [h2, show v = r2 from (h1.2.1.trans (a2 c0).1).trans hr2.symm]
    · exact absurd (hk.symm.trans hk0) c0
  · rcases hcase with ⟨c0, v, h1, h2⟩ | ⟨c0, rfl, rfl⟩
    · obtain ⟨nP', I'⟩ := (a2 c0).2
      exact ⟨_, _, _, _, _, _, _, _, _, _, _, _, _, _, _, _, _, _, _, _, _, h1.2.2, hM2, I'⟩
    · exact ⟨_, _, _, _, _, _, _, _, _, _, _, _, _, _, _, _, _, _, _, _, _, hR, hM2, a3 c0⟩
set_option maxHeartbeats 4000000 in
set_option maxRecDepth 100000 in
theorem L_declaration (C : LC p l s m c b L xs G cI cD cE cO ca) (hst : LST cI cD cE ca aX aM am wX wM) (hW : LWO G s cO aO wX wM fo H locs) (hl : lv_has ls 7 [(0, .ref b), (1, .ref aX), (2, .ref aM), (3, .ref aO), (4, .int i4)]) (s1 : vp_in (i4 + 1) L) (s2 : vp_in (i4 + 2) L) (s3 : vp_in (i4 + 3) L) (s4 : vp_in (i4 + 4) L) (hcells : cells + 1 ≤ 601024) (hslots : slots + 12 ≤ 7293034)
    (kk : ∀ (wX wM : va_W) (fo : Nat → Int64) (ls : Array Slot) (H : Heap) (locs : List Loc), LST cI cD cE ca aX aM am wX wM → LWO G s cO aO wX wM fo H locs → lv_has ls 7 [(0, .ref b), (1, .ref aX), (2, .ref aM), (3, .ref aO), (4, .int i4)] → W p l e room_1 s m #[Value.ref b] below meth c H locs (cells + 1) (slots + 12) Q (F0 m 867 ls [])) : W p l e room_1 s m #[Value.ref b] below meth c H locs cells slots Q (F0 m 156 ls []) := by
  have C0 := C
  obtain ⟨hx, hb, hml, hown, hB, hX, hbl, hthr, hN, hKL, hKM, hl9⟩ := C
  obtain ⟨hP, hD, hS⟩ := hW
  have hA : ∀ q : Nat, s.heap.size ≤ q → (fun q : Nat => s.heap.size ≤ q) q := fun _ h => h
  have hbA : ¬ (fun q : Nat => s.heap.size ≤ q) b := Nat.not_le.mpr hbl
  obtain ⟨aR, aD, aE, dA, eA, g, ro, fst, nD, nE, d, fw, lw, ed, ev, nx, h, ar, nP, wl, wr, hR, hM, I⟩ := hst
  have hg1 := I.1.1
  have hp2 := I.1.2.1
  have hnP := I.1.2.2.1
  have hg3 := I.1.2.2.2.1
  have hd4 := I.1.2.2.2.2.1
  have hnD := I.1.2.2.2.2.2.1
  have hg5 := I.1.2.2.2.2.2.2.1
  have he13 := I.1.2.2.2.2.2.2.2.1
  have hnE := I.1.2.2.2.2.2.2.2.2.1
  obtain ⟨a1, a2, a3⟩ := P_declaration I (xs (i4 + 1).toNatClampNeg) (xs (i4 + 2).toNatClampNeg)
  refine lv_aload_n hx hb dL_law_156 rfl (lv_at hl 1 rfl) ?_
  refine lv_aload_n hx hb dL_law_157 rfl (lv_at hl 0 rfl) ?_
  refine lv_iload hx hb dL_law_158 (lv_at hl 4 rfl) ?_
  refine lv_iconst (v := 1) hx hb dL_law_160 (by decide) ?_
  refine lv_iadd hx hb dL_law_161 ?_
  refine va_sld hx hb hX hbl hbA hS s1 dL_law_162 ?_
  refine lv_aload_n hx hb dL_law_163 rfl (lv_at hl 0 rfl) ?_
  refine lv_iload hx hb dL_law_164 (lv_at hl 4 rfl) ?_
  refine lv_iconst (v := 2) hx hb dL_law_166 (by decide) ?_
  refine lv_iadd hx hb dL_law_167 ?_
  refine va_sld hx hb hX hbl hbA hS s2 dL_law_168 ?_
  refine lv_aload_n hx hb dL_law_169 rfl (lv_at hl 3 rfl) ?_
  refine x_callL (w := wX ++ [(aO, oL cO fo)]) (r := wM) (vx_runSW (As := [.ref aX, .int (xs (i4 + 1).toNatClampNeg), .int (xs (i4 + 2).toNatClampNeg), .ref aO]) (rest := []) ⟨hx, hb, hml, hown, hB⟩ (c_L_declaration (xs (i4 + 1).toNatClampNeg) (xs (i4 + 2).toNatClampNeg) hR.x (fun E h => h.elim (fun h => Or.inl h.1) (fun h => Or.inr h.1)) (fun sz => c_X_declaration hl9 hR hg3 hnD (xs (i4 + 1).toNatClampNeg) (xs (i4 + 2).toNatClampNeg))) (vx_cwSW 4 hB (gS ml_L_61 sm_L_declaration ini_L kc_L_declaration) rfl rfl rfl (by decide +kernel) ⟨Nat.le_of_ble_eq_true rfl, Nat.le_of_ble_eq_true rfl⟩) (x_preL (x_app_P hP).1 hKL (x_app_D hD).1 hS hA hthr hN) rfl rfl hl.1 rfl (lv_room (Nat.le_of_ble_eq_true rfl)) dL_law_170 ⟨by show cells + 1 ≤ 601024; omega, by show slots + 12 ≤ 7293034; omega⟩) hP hD hS hA (fun k w1 fo1 H locs hw hP hD hS => ?_)
  obtain ⟨hk, hcase⟩ := lPost_cases (c := fDeclC g ro (xs (i4 + 1).toNatClampNeg) (xs (i4 + 2).toNatClampNeg)) hw (fun v w' h => h.1) px1 px2
  refine W.widen (k := cells + 1) (n := slots + 12) (by omega) (by omega) ?_
  refine lv_istore (lv' := [(5, .int k), (0, .ref b), (1, .ref aX), (2, .ref aM), (3, .ref aO), (4, .int i4)]) hx hb dL_law_173 hl (by decide) rfl (fun ls hl => ?_)
  refine lv_aload_n hx hb dL_law_175 rfl (lv_at hl 3 rfl) ?_
  refine lv_aload_n hx hb dL_law_176 rfl (lv_at hl 1 rfl) ?_
  refine lv_iload hx hb dL_law_177 (lv_at hl 5 rfl) ?_
  refine lv_iconst (v := 1) hx hb dL_law_179 (by decide) ?_
  refine lv_iadd hx hb dL_law_180 ?_
  refine va_sld hx hb hX hbl hbA hS s1 dL_law_181 ?_
  refine lv_aload_n hx hb dL_law_182 rfl (lv_at hl 1 rfl) ?_
  refine lv_iload hx hb dL_law_183 (lv_at hl 5 rfl) ?_
  refine lv_iconst (v := 2) hx hb dL_law_185 (by decide) ?_
  refine lv_iadd hx hb dL_law_186 ?_
  refine va_sld hx hb hX hbl hbA hS s2 dL_law_187 ?_
  refine x_callR (r := w1 ++ [(aO, oL cO fo1)]) (w := wM) (va_runV (As := [.int (xs (i4 + 1).toNatClampNeg), .int (xs (i4 + 2).toNatClampNeg)]) (rest := []) ⟨hx, hb, hml, hown, hB⟩ (c_M_declaration hM (xs (i4 + 1).toNatClampNeg) (xs (i4 + 2).toNatClampNeg) hp2 hnP hd4 hnD) (cwV 2 hB (gV ml_L_64 im_M_declaration sl_M_declaration ini_M kc_M_declaration) rfl rfl rfl (by decide +kernel) ⟨Nat.le_of_ble_eq_true rfl, Nat.le_of_ble_eq_true rfl⟩) (x_preV (x_app_P hP).2 hKM (x_app_D hD).2.1 hM.1 rfl) rfl rfl hl.1 rfl (lv_room (Nat.le_of_ble_eq_true rfl)) dL_law_188 ⟨by show cells + 1 + 0 ≤ 601024; omega, by show slots + 12 + 0 ≤ 7293034; omega⟩) hP hD hS hA (fun r2 w2 H locs hw2 hP hD hS => ?_)
  obtain ⟨hr2, hM2⟩ := hw2
  refine L_tail C0 hM2 (a1.trans hk.symm) (fun hk0 => ?_) 191 dL_law_191 dL_law_193 dL_law_194 dL_law_197 dL_law_199 dL_law_204 dL_law_206 dL_law_209 dL_law_210 dL_law_211 dL_law_212 dL_law_214 dL_law_215 dL_law_216 dL_law_221 (by decide) ⟨hP, hD, hS⟩ hl (by omega) (by omega) (fun ls H locs hW hl => kk w1 w2 fo1 ls H locs ?_ hW hl)
  · rcases hcase with ⟨c0, v, h1, h2⟩ | ⟨c0, -, -⟩
    · rw [h2, show v = r2 from (h1.2.1.trans (a2 c0).1).trans hr2.symm]
    · exact absurd (hk.symm.trans hk0) c0
  · rcases hcase with ⟨c0, v, h1, h2⟩ | ⟨c0, rfl, rfl⟩
    · obtain ⟨q, hq⟩ := h1.2.2
      exact ⟨_, _, _, _, _, _, _, _, _, _, _, _, _, _, _, _, _, _, _, _, _, hq, hM2, (a2 c0).2⟩
    · exact ⟨_, _, _, _, _, _, _, _, _, _, _, _, _, _, _, _, _, _, _, _, _, hR, hM2, a3 c0⟩
set_option maxHeartbeats 4000000 in
set_option maxRecDepth 100000 in
theorem L_event (C : LC p l s m c b L xs G cI cD cE cO ca) (hst : LST cI cD cE ca aX aM am wX wM) (hW : LWO G s cO aO wX wM fo H locs) (hl : lv_has ls 7 [(0, .ref b), (1, .ref aX), (2, .ref aM), (3, .ref aO), (4, .int i4)]) (s1 : vp_in (i4 + 1) L) (s2 : vp_in (i4 + 2) L) (s3 : vp_in (i4 + 3) L) (s4 : vp_in (i4 + 4) L) (hcells : cells + 1 ≤ 601024) (hslots : slots + 12 ≤ 7293034)
    (kk : ∀ (wX wM : va_W) (fo : Nat → Int64) (ls : Array Slot) (H : Heap) (locs : List Loc), LST cI cD cE ca aX aM am wX wM → LWO G s cO aO wX wM fo H locs → lv_has ls 7 [(0, .ref b), (1, .ref aX), (2, .ref aM), (3, .ref aO), (4, .int i4)] → W p l e room_1 s m #[Value.ref b] below meth c H locs (cells + 1) (slots + 12) Q (F0 m 867 ls [])) : W p l e room_1 s m #[Value.ref b] below meth c H locs cells slots Q (F0 m 224 ls []) := by
  have C0 := C
  obtain ⟨hx, hb, hml, hown, hB, hX, hbl, hthr, hN, hKL, hKM, hl9⟩ := C
  obtain ⟨hP, hD, hS⟩ := hW
  have hA : ∀ q : Nat, s.heap.size ≤ q → (fun q : Nat => s.heap.size ≤ q) q := fun _ h => h
  have hbA : ¬ (fun q : Nat => s.heap.size ≤ q) b := Nat.not_le.mpr hbl
  obtain ⟨aR, aD, aE, dA, eA, g, ro, fst, nD, nE, d, fw, lw, ed, ev, nx, h, ar, nP, wl, wr, hR, hM, I⟩ := hst
  have hg1 := I.1.1
  have hp2 := I.1.2.1
  have hnP := I.1.2.2.1
  have hg3 := I.1.2.2.2.1
  have hd4 := I.1.2.2.2.2.1
  have hnD := I.1.2.2.2.2.2.1
  have hg5 := I.1.2.2.2.2.2.2.1
  have he13 := I.1.2.2.2.2.2.2.2.1
  have hnE := I.1.2.2.2.2.2.2.2.2.1
  obtain ⟨a1, a2, a3⟩ := P_event I (xs (i4 + 1).toNatClampNeg) (xs (i4 + 2).toNatClampNeg) (xs (i4 + 3).toNatClampNeg) (xs (i4 + 4).toNatClampNeg)
  refine lv_aload_n hx hb dL_law_224 rfl (lv_at hl 1 rfl) ?_
  refine lv_aload_n hx hb dL_law_225 rfl (lv_at hl 0 rfl) ?_
  refine lv_iload hx hb dL_law_226 (lv_at hl 4 rfl) ?_
  refine lv_iconst (v := 1) hx hb dL_law_228 (by decide) ?_
  refine lv_iadd hx hb dL_law_229 ?_
  refine va_sld hx hb hX hbl hbA hS s1 dL_law_230 ?_
  refine lv_aload_n hx hb dL_law_231 rfl (lv_at hl 0 rfl) ?_
  refine lv_iload hx hb dL_law_232 (lv_at hl 4 rfl) ?_
  refine lv_iconst (v := 2) hx hb dL_law_234 (by decide) ?_
  refine lv_iadd hx hb dL_law_235 ?_
  refine va_sld hx hb hX hbl hbA hS s2 dL_law_236 ?_
  refine lv_aload_n hx hb dL_law_237 rfl (lv_at hl 0 rfl) ?_
  refine lv_iload hx hb dL_law_238 (lv_at hl 4 rfl) ?_
  refine lv_iconst (v := 3) hx hb dL_law_240 (by decide) ?_
  refine lv_iadd hx hb dL_law_241 ?_
  refine va_sld hx hb hX hbl hbA hS s3 dL_law_242 ?_
  refine lv_aload_n hx hb dL_law_243 rfl (lv_at hl 0 rfl) ?_
  refine lv_iload hx hb dL_law_244 (lv_at hl 4 rfl) ?_
  refine lv_iconst (v := 4) hx hb dL_law_246 (by decide) ?_
  refine lv_iadd hx hb dL_law_247 ?_
  refine va_sld hx hb hX hbl hbA hS s4 dL_law_248 ?_
  refine lv_aload_n hx hb dL_law_249 rfl (lv_at hl 3 rfl) ?_
  refine x_callL (w := wX ++ [(aO, oL cO fo)]) (r := wM) (vx_runSW (As := [.ref aX, .int (xs (i4 + 1).toNatClampNeg), .int (xs (i4 + 2).toNatClampNeg), .int (xs (i4 + 3).toNatClampNeg), .int (xs (i4 + 4).toNatClampNeg), .ref aO]) (rest := []) ⟨hx, hb, hml, hown, hB⟩ (c_L_event (xs (i4 + 1).toNatClampNeg) (xs (i4 + 2).toNatClampNeg) (xs (i4 + 3).toNatClampNeg) (xs (i4 + 4).toNatClampNeg) hR.x (fun E h => h.elim (fun h => Or.inl h.1) (fun h => Or.inr h.1)) (fun sz => c_X_event hl9 hR hg3 hnD hg5 hnE (INV_hch I) (xs (i4 + 1).toNatClampNeg) (xs (i4 + 2).toNatClampNeg) (xs (i4 + 3).toNatClampNeg) (xs (i4 + 4).toNatClampNeg))) (vx_cwSW 6 hB (gS ml_L_65 sm_L_event ini_L kc_L_event) rfl rfl rfl (by decide +kernel) ⟨Nat.le_of_ble_eq_true rfl, Nat.le_of_ble_eq_true rfl⟩) (x_preL (x_app_P hP).1 hKL (x_app_D hD).1 hS hA hthr hN) rfl rfl hl.1 rfl (lv_room (Nat.le_of_ble_eq_true rfl)) dL_law_250 ⟨by show cells + 1 ≤ 601024; omega, by show slots + 6 ≤ 7293034; omega⟩) hP hD hS hA (fun k w1 fo1 H locs hw hP hD hS => ?_)
  obtain ⟨hk, hcase⟩ := lPost_cases (c := fEvC g (xs (i4 + 1).toNatClampNeg) (xs (i4 + 2).toNatClampNeg) (xs (i4 + 3).toNatClampNeg) (xs (i4 + 4).toNatClampNeg)) hw (fun v w' h => h.1) px1 px2
  refine W.widen (k := cells + 1) (n := slots + 12) (by omega) (by omega) ?_
  refine lv_istore (lv' := [(5, .int k), (0, .ref b), (1, .ref aX), (2, .ref aM), (3, .ref aO), (4, .int i4)]) hx hb dL_law_253 hl (by decide) rfl (fun ls hl => ?_)
  refine lv_aload_n hx hb dL_law_255 rfl (lv_at hl 3 rfl) ?_
  refine lv_aload_n hx hb dL_law_256 rfl (lv_at hl 1 rfl) ?_
  refine lv_iload hx hb dL_law_257 (lv_at hl 5 rfl) ?_
  refine lv_iconst (v := 1) hx hb dL_law_259 (by decide) ?_
  refine lv_iadd hx hb dL_law_260 ?_
  refine va_sld hx hb hX hbl hbA hS s1 dL_law_261 ?_
  refine lv_aload_n hx hb dL_law_262 rfl (lv_at hl 1 rfl) ?_
  refine lv_iload hx hb dL_law_263 (lv_at hl 5 rfl) ?_
  refine lv_iconst (v := 2) hx hb dL_law_265 (by decide) ?_
  refine lv_iadd hx hb dL_law_266 ?_
  refine va_sld hx hb hX hbl hbA hS s2 dL_law_267 ?_
  refine lv_aload_n hx hb dL_law_268 rfl (lv_at hl 1 rfl) ?_
  refine lv_iload hx hb dL_law_269 (lv_at hl 5 rfl) ?_
  refine lv_iconst (v := 3) hx hb dL_law_271 (by decide) ?_
  refine lv_iadd hx hb dL_law_272 ?_
  refine va_sld hx hb hX hbl hbA hS s3 dL_law_273 ?_
  refine lv_aload_n hx hb dL_law_274 rfl (lv_at hl 1 rfl) ?_
  refine lv_iload hx hb dL_law_275 (lv_at hl 5 rfl) ?_
  refine lv_iconst (v := 4) hx hb dL_law_277 (by decide) ?_
  refine lv_iadd hx hb dL_law_278 ?_
  refine va_sld hx hb hX hbl hbA hS s4 dL_law_279 ?_
  refine x_callR (r := w1 ++ [(aO, oL cO fo1)]) (w := wM) (va_runV (As := [.int (xs (i4 + 1).toNatClampNeg), .int (xs (i4 + 2).toNatClampNeg), .int (xs (i4 + 3).toNatClampNeg), .int (xs (i4 + 4).toNatClampNeg)]) (rest := []) ⟨hx, hb, hml, hown, hB⟩ (c_M_event hM (xs (i4 + 1).toNatClampNeg) (xs (i4 + 2).toNatClampNeg) (xs (i4 + 3).toNatClampNeg) (xs (i4 + 4).toNatClampNeg) hp2 hnP hd4 hnD he13 hnE) (cwV 4 hB (gV ml_L_68 im_M_event sl_M_event ini_M kc_M_event) rfl rfl rfl (by decide +kernel) ⟨Nat.le_of_ble_eq_true rfl, Nat.le_of_ble_eq_true rfl⟩) (x_preV (x_app_P hP).2 hKM (x_app_D hD).2.1 hM.1 rfl) rfl rfl hl.1 rfl (lv_room (Nat.le_of_ble_eq_true rfl)) dL_law_280 ⟨by show cells + 1 + 0 ≤ 601024; omega, by show slots + 12 + 0 ≤ 7293034; omega⟩) hP hD hS hA (fun r2 w2 H locs hw2 hP hD hS => ?_)
  obtain ⟨hr2, hM2⟩ := hw2
  refine L_tail C0 hM2 (a1.trans hk.symm) (fun hk0 => ?_) 283 dL_law_283 dL_law_285 dL_law_286 dL_law_289 dL_law_291 dL_law_296 dL_law_298 dL_law_301 dL_law_302 dL_law_303 dL_law_304 dL_law_306 dL_law_307 dL_law_308 dL_law_313 (by decide) ⟨hP, hD, hS⟩ hl (by omega) (by omega) (fun ls H locs hW hl => kk w1 w2 fo1 ls H locs ?_ hW hl)
  · rcases hcase with ⟨c0, v, h1, h2⟩ | ⟨c0, -, -⟩
    · rw [h2, show v = r2 from (h1.2.1.trans (a2 c0).1).trans hr2.symm]
    · exact absurd (hk.symm.trans hk0) c0
  · rcases hcase with ⟨c0, v, h1, h2⟩ | ⟨c0, rfl, rfl⟩
    · obtain ⟨q, j, hj, hq⟩ := h1.2.2
      obtain ⟨wl', I'⟩ := (a2 c0).2 j hj
      exact ⟨_, _, _, _, _, _, _, _, _, _, _, _, _, _, _, _, _, _, _, _, _, hq, hM2, I'⟩
    · exact ⟨_, _, _, _, _, _, _, _, _, _, _, _, _, _, _, _, _, _, _, _, _, hR, hM2, a3 c0⟩
set_option maxHeartbeats 4000000 in
set_option maxRecDepth 100000 in
theorem L_tick (C : LC p l s m c b L xs G cI cD cE cO ca) (hst : LST cI cD cE ca aX aM am wX wM) (hW : LWO G s cO aO wX wM fo H locs) (hl : lv_has ls 7 [(0, .ref b), (1, .ref aX), (2, .ref aM), (3, .ref aO), (4, .int i4)]) (s1 : vp_in (i4 + 1) L) (s2 : vp_in (i4 + 2) L) (s3 : vp_in (i4 + 3) L) (s4 : vp_in (i4 + 4) L) (hcells : cells + 1 ≤ 601024) (hslots : slots + 12 ≤ 7293034)
    (kk : ∀ (wX wM : va_W) (fo : Nat → Int64) (ls : Array Slot) (H : Heap) (locs : List Loc), LST cI cD cE ca aX aM am wX wM → LWO G s cO aO wX wM fo H locs → lv_has ls 7 [(0, .ref b), (1, .ref aX), (2, .ref aM), (3, .ref aO), (4, .int i4)] → W p l e room_1 s m #[Value.ref b] below meth c H locs (cells + 1) (slots + 12) Q (F0 m 867 ls [])) : W p l e room_1 s m #[Value.ref b] below meth c H locs cells slots Q (F0 m 316 ls []) := by
  have C0 := C
  obtain ⟨hx, hb, hml, hown, hB, hX, hbl, hthr, hN, hKL, hKM, hl9⟩ := C
  obtain ⟨hP, hD, hS⟩ := hW
  have hA : ∀ q : Nat, s.heap.size ≤ q → (fun q : Nat => s.heap.size ≤ q) q := fun _ h => h
  have hbA : ¬ (fun q : Nat => s.heap.size ≤ q) b := Nat.not_le.mpr hbl
  obtain ⟨aR, aD, aE, dA, eA, g, ro, fst, nD, nE, d, fw, lw, ed, ev, nx, h, ar, nP, wl, wr, hR, hM, I⟩ := hst
  have hg1 := I.1.1
  have hp2 := I.1.2.1
  have hnP := I.1.2.2.1
  have hg3 := I.1.2.2.2.1
  have hd4 := I.1.2.2.2.2.1
  have hnD := I.1.2.2.2.2.2.1
  have hg5 := I.1.2.2.2.2.2.2.1
  have he13 := I.1.2.2.2.2.2.2.2.1
  have hnE := I.1.2.2.2.2.2.2.2.2.1
  have hC2 : ¬ fTickC g (xs (i4 + 1).toNatClampNeg) = 2 := by
    unfold fTickC
    repeat' split
    all_goals decide
  obtain ⟨a1, a2, a3⟩ := (P_tick I (xs (i4 + 1).toNatClampNeg)).2
  refine lv_aload_n hx hb dL_law_316 rfl (lv_at hl 1 rfl) ?_
  refine lv_aload_n hx hb dL_law_317 rfl (lv_at hl 0 rfl) ?_
  refine lv_iload hx hb dL_law_318 (lv_at hl 4 rfl) ?_
  refine lv_iconst (v := 1) hx hb dL_law_320 (by decide) ?_
  refine lv_iadd hx hb dL_law_321 ?_
  refine va_sld hx hb hX hbl hbA hS s1 dL_law_322 ?_
  refine lv_aload_n hx hb dL_law_323 rfl (lv_at hl 3 rfl) ?_
  refine x_callL (w := wX ++ [(aO, oL cO fo)]) (r := wM) (vx_runSW (As := [.ref aX, .int (xs (i4 + 1).toNatClampNeg), .ref aO]) (rest := []) ⟨hx, hb, hml, hown, hB⟩ (c_L_tick (xs (i4 + 1).toNatClampNeg) hR.x (fun E h => h.elim (fun h => h.1) (fun h => absurd h.2 hC2)) (fun sz => c_X_tick hl9 hR (xs (i4 + 1).toNatClampNeg) (wl := wl) (J := fun L q => ∃ h ar wr, INV q.1 ro q.2.1 nD nE q.2.2.1 q.2.2.2.1 q.2.2.2.2.1 ed q.2.2.2.2.2.1 q.2.2.2.2.2.2 h ar nP L wr) ⟨h, ar, wr, I⟩ (fun L q hJ => by obtain ⟨_, _, _, I⟩ := hJ; exact I.2.2.2.2.2.1.1) (fun k L q hJ => P_tickJ hJ))) (vx_cwSW 3 hB (gS ml_L_69 sm_L_tick ini_L kc_L_tick) rfl rfl rfl (by decide +kernel) ⟨Nat.le_of_ble_eq_true rfl, Nat.le_of_ble_eq_true rfl⟩) (x_preL (x_app_P hP).1 hKL (x_app_D hD).1 hS hA hthr hN) rfl rfl hl.1 rfl (lv_room (Nat.le_of_ble_eq_true rfl)) dL_law_324 ⟨by show cells + 1 ≤ 601024; omega, by show slots + 6 ≤ 7293034; omega⟩) hP hD hS hA (fun k w1 fo1 H locs hw hP hD hS => ?_)
  obtain ⟨hk, hcase⟩ := lPost_cases (c := fTickC g (xs (i4 + 1).toNatClampNeg)) hw (fun v w' h => h.1) px1 px2
  refine W.widen (k := cells + 1) (n := slots + 12) (by omega) (by omega) ?_
  refine lv_istore (lv' := [(5, .int k), (0, .ref b), (1, .ref aX), (2, .ref aM), (3, .ref aO), (4, .int i4)]) hx hb dL_law_327 hl (by decide) rfl (fun ls hl => ?_)
  refine lv_aload_n hx hb dL_law_329 rfl (lv_at hl 3 rfl) ?_
  refine lv_aload_n hx hb dL_law_330 rfl (lv_at hl 1 rfl) ?_
  refine lv_iload hx hb dL_law_331 (lv_at hl 5 rfl) ?_
  refine lv_iconst (v := 1) hx hb dL_law_333 (by decide) ?_
  refine lv_iadd hx hb dL_law_334 ?_
  refine va_sld hx hb hX hbl hbA hS s1 dL_law_335 ?_
  refine x_callR (r := w1 ++ [(aO, oL cO fo1)]) (w := wM) (va_runV (As := [.int (xs (i4 + 1).toNatClampNeg)]) (rest := []) ⟨hx, hb, hml, hown, hB⟩ (c_M_tick hM (xs (i4 + 1).toNatClampNeg) he13 hnE (N := wl.length + 1) (P_tick I (xs (i4 + 1).toNatClampNeg)).1 (P_tickOk I)) (cwV 1 hB (gV ml_L_71 im_M_tick sl_M_tick ini_M kc_M_tick) rfl rfl rfl (by decide +kernel) ⟨Nat.le_of_ble_eq_true rfl, Nat.le_of_ble_eq_true rfl⟩) (x_preV (x_app_P hP).2 hKM (x_app_D hD).2.1 hM.1 rfl) rfl rfl hl.1 rfl (lv_room (Nat.le_of_ble_eq_true rfl)) dL_law_336 ⟨by show cells + 1 + 0 ≤ 601024; omega, by show slots + 12 + 0 ≤ 7293034; omega⟩) hP hD hS hA (fun r2 w2 H locs hw2 hP hD hS => ?_)
  obtain ⟨hr2, hM2⟩ := hw2
  refine L_tail C0 hM2 (a1.trans hk.symm) (fun hk0 => ?_) 339 dL_law_339 dL_law_341 dL_law_342 dL_law_345 dL_law_347 dL_law_352 dL_law_354 dL_law_357 dL_law_358 dL_law_359 dL_law_360 dL_law_362 dL_law_363 dL_law_364 dL_law_369 (by decide) ⟨hP, hD, hS⟩ hl (by omega) (by omega) (fun ls H locs hW hl => kk w1 w2 fo1 ls H locs ?_ hW hl)
  · rcases hcase with ⟨c0, v, h1, h2⟩ | ⟨c0, -, -⟩
    · rw [h2, show v = r2 from (h1.2.1.trans (a2 c0).1).trans hr2.symm]
    · exact absurd (hk.symm.trans hk0) c0
  · rcases hcase with ⟨c0, v, h1, h2⟩ | ⟨c0, rfl, rfl⟩
    · obtain ⟨wl', wr', I'⟩ := (a2 c0).2
      exact ⟨_, _, _, _, _, _, _, _, _, _, _, _, _, _, _, _, _, _, _, _, _, h1.2.2, hM2, I'⟩
    · exact ⟨_, _, _, _, _, _, _, _, _, _, _, _, _, _, _, _, _, _, _, _, _, hR, hM2, a3 c0⟩
set_option maxHeartbeats 4000000 in
set_option maxRecDepth 100000 in
theorem L_bar (C : LC p l s m c b L xs G cI cD cE cO ca) (hst : LST cI cD cE ca aX aM am wX wM) (hW : LWO G s cO aO wX wM fo H locs) (hl : lv_has ls 7 [(0, .ref b), (1, .ref aX), (2, .ref aM), (3, .ref aO), (4, .int i4)]) (s1 : vp_in (i4 + 1) L) (s2 : vp_in (i4 + 2) L) (s3 : vp_in (i4 + 3) L) (s4 : vp_in (i4 + 4) L) (hcells : cells + 1 ≤ 601024) (hslots : slots + 12 ≤ 7293034)
    (kk : ∀ (wX wM : va_W) (fo : Nat → Int64) (ls : Array Slot) (H : Heap) (locs : List Loc), LST cI cD cE ca aX aM am wX wM → LWO G s cO aO wX wM fo H locs → lv_has ls 7 [(0, .ref b), (1, .ref aX), (2, .ref aM), (3, .ref aO), (4, .int i4)] → W p l e room_1 s m #[Value.ref b] below meth c H locs (cells + 1) (slots + 12) Q (F0 m 867 ls [])) : W p l e room_1 s m #[Value.ref b] below meth c H locs cells slots Q (F0 m 462 ls []) := by
  have C0 := C
  obtain ⟨hx, hb, hml, hown, hB, hX, hbl, hthr, hN, hKL, hKM, hl9⟩ := C
  obtain ⟨hP, hD, hS⟩ := hW
  have hA : ∀ q : Nat, s.heap.size ≤ q → (fun q : Nat => s.heap.size ≤ q) q := fun _ h => h
  have hbA : ¬ (fun q : Nat => s.heap.size ≤ q) b := Nat.not_le.mpr hbl
  obtain ⟨aR, aD, aE, dA, eA, g, ro, fst, nD, nE, d, fw, lw, ed, ev, nx, h, ar, nP, wl, wr, hR, hM, I⟩ := hst
  have hg1 := I.1.1
  have hp2 := I.1.2.1
  have hnP := I.1.2.2.1
  have hg3 := I.1.2.2.2.1
  have hd4 := I.1.2.2.2.2.1
  have hnD := I.1.2.2.2.2.2.1
  have hg5 := I.1.2.2.2.2.2.2.1
  have he13 := I.1.2.2.2.2.2.2.2.1
  have hnE := I.1.2.2.2.2.2.2.2.2.1
  have hC2 : ¬ fBarC g (xs (i4 + 1).toNatClampNeg) (xs (i4 + 2).toNatClampNeg) = 2 := by
    unfold fBarC
    repeat' split
    all_goals decide
  obtain ⟨a1, a2, a3⟩ := P_bar I (xs (i4 + 1).toNatClampNeg) (xs (i4 + 2).toNatClampNeg) (if xs (i4 + 3).toNatClampNeg = 0 then (0 : Int32) else 1) (on01 _)
  refine lv_aload_n hx hb dL_law_462 rfl (lv_at hl 1 rfl) ?_
  refine lv_aload_n hx hb dL_law_463 rfl (lv_at hl 0 rfl) ?_
  refine lv_iload hx hb dL_law_464 (lv_at hl 4 rfl) ?_
  refine lv_iconst (v := 1) hx hb dL_law_466 (by decide) ?_
  refine lv_iadd hx hb dL_law_467 ?_
  refine va_sld hx hb hX hbl hbA hS s1 dL_law_468 ?_
  refine lv_aload_n hx hb dL_law_469 rfl (lv_at hl 0 rfl) ?_
  refine lv_iload hx hb dL_law_470 (lv_at hl 4 rfl) ?_
  refine lv_iconst (v := 2) hx hb dL_law_472 (by decide) ?_
  refine lv_iadd hx hb dL_law_473 ?_
  refine va_sld hx hb hX hbl hbA hS s2 dL_law_474 ?_
  refine lv_aload_n hx hb dL_law_475 rfl (lv_at hl 0 rfl) ?_
  refine lv_iload hx hb dL_law_476 (lv_at hl 4 rfl) ?_
  refine lv_iconst (v := 3) hx hb dL_law_478 (by decide) ?_
  refine lv_iadd hx hb dL_law_479 ?_
  refine va_sld hx hb hX hbl hbA hS s3 dL_law_480 ?_
  refine L_bool hx hb 481 dL_law_481 dL_law_484 dL_law_485 dL_law_488 ?_
  refine lv_aload_n hx hb dL_law_489 rfl (lv_at hl 3 rfl) ?_
  refine x_callL (w := wX ++ [(aO, oL cO fo)]) (r := wM) (vx_runSW (As := [.ref aX, .int (xs (i4 + 1).toNatClampNeg), .int (xs (i4 + 2).toNatClampNeg), .int (if xs (i4 + 3).toNatClampNeg = 0 then (0 : Int32) else 1), .ref aO]) (rest := []) ⟨hx, hb, hml, hown, hB⟩ (c_L_bar (xs (i4 + 1).toNatClampNeg) (xs (i4 + 2).toNatClampNeg) (if xs (i4 + 3).toNatClampNeg = 0 then (0 : Int32) else 1) hR.x (fun E h => h.elim (fun h => h.1) (fun h => absurd h.2 hC2)) (fun sz => c_X_bar hl9 hR hg3 hnD (xs (i4 + 1).toNatClampNeg) (xs (i4 + 2).toNatClampNeg) (if xs (i4 + 3).toNatClampNeg = 0 then (0 : Int32) else 1))) (vx_cwSW 5 hB (gS ml_L_82 sm_L_bar ini_L kc_L_bar) rfl rfl rfl (by decide +kernel) ⟨Nat.le_of_ble_eq_true rfl, Nat.le_of_ble_eq_true rfl⟩) (x_preL (x_app_P hP).1 hKL (x_app_D hD).1 hS hA hthr hN) rfl rfl hl.1 rfl (lv_room (Nat.le_of_ble_eq_true rfl)) dL_law_490 ⟨by show cells + 1 ≤ 601024; omega, by show slots + 6 ≤ 7293034; omega⟩) hP hD hS hA (fun k w1 fo1 H locs hw hP hD hS => ?_)
  obtain ⟨hk, hcase⟩ := lPost_cases (c := fBarC g (xs (i4 + 1).toNatClampNeg) (xs (i4 + 2).toNatClampNeg)) hw (fun v w' h => h.1) px1 px2
  refine W.widen (k := cells + 1) (n := slots + 12) (by omega) (by omega) ?_
  refine lv_istore (lv' := [(5, .int k), (0, .ref b), (1, .ref aX), (2, .ref aM), (3, .ref aO), (4, .int i4)]) hx hb dL_law_493 hl (by decide) rfl (fun ls hl => ?_)
  refine lv_aload_n hx hb dL_law_495 rfl (lv_at hl 3 rfl) ?_
  refine lv_aload_n hx hb dL_law_496 rfl (lv_at hl 1 rfl) ?_
  refine lv_iload hx hb dL_law_497 (lv_at hl 5 rfl) ?_
  refine lv_iconst (v := 1) hx hb dL_law_499 (by decide) ?_
  refine lv_iadd hx hb dL_law_500 ?_
  refine va_sld hx hb hX hbl hbA hS s1 dL_law_501 ?_
  refine lv_aload_n hx hb dL_law_502 rfl (lv_at hl 1 rfl) ?_
  refine lv_iload hx hb dL_law_503 (lv_at hl 5 rfl) ?_
  refine lv_iconst (v := 2) hx hb dL_law_505 (by decide) ?_
  refine lv_iadd hx hb dL_law_506 ?_
  refine va_sld hx hb hX hbl hbA hS s2 dL_law_507 ?_
  refine lv_aload_n hx hb dL_law_508 rfl (lv_at hl 1 rfl) ?_
  refine lv_iload hx hb dL_law_509 (lv_at hl 5 rfl) ?_
  refine lv_iconst (v := 3) hx hb dL_law_511 (by decide) ?_
  refine lv_iadd hx hb dL_law_512 ?_
  refine va_sld hx hb hX hbl hbA hS s3 dL_law_513 ?_
  refine L_bool hx hb 514 dL_law_514 dL_law_517 dL_law_518 dL_law_521 ?_
  refine x_callR (r := w1 ++ [(aO, oL cO fo1)]) (w := wM) (va_runV (As := [.int (xs (i4 + 1).toNatClampNeg), .int (xs (i4 + 2).toNatClampNeg), .int (if xs (i4 + 3).toNatClampNeg = 0 then (0 : Int32) else 1)]) (rest := []) ⟨hx, hb, hml, hown, hB⟩ (c_M_bar hM (xs (i4 + 1).toNatClampNeg) (xs (i4 + 2).toNatClampNeg) (if xs (i4 + 3).toNatClampNeg = 0 then (0 : Int32) else 1) hd4 hnD) (cwV 3 hB (gV ml_L_85 im_M_bar sl_M_bar ini_M kc_M_bar) rfl rfl rfl (by decide +kernel) ⟨Nat.le_of_ble_eq_true rfl, Nat.le_of_ble_eq_true rfl⟩) (x_preV (x_app_P hP).2 hKM (x_app_D hD).2.1 hM.1 rfl) rfl rfl hl.1 rfl (lv_room (Nat.le_of_ble_eq_true rfl)) dL_law_522 ⟨by show cells + 1 + 0 ≤ 601024; omega, by show slots + 12 + 0 ≤ 7293034; omega⟩) hP hD hS hA (fun r2 w2 H locs hw2 hP hD hS => ?_)
  obtain ⟨hr2, hM2⟩ := hw2
  refine L_tail C0 hM2 (a1.trans hk.symm) (fun hk0 => ?_) 525 dL_law_525 dL_law_527 dL_law_528 dL_law_531 dL_law_533 dL_law_538 dL_law_540 dL_law_543 dL_law_544 dL_law_545 dL_law_546 dL_law_548 dL_law_549 dL_law_550 dL_law_555 (by decide) ⟨hP, hD, hS⟩ hl (by omega) (by omega) (fun ls H locs hW hl => kk w1 w2 fo1 ls H locs ?_ hW hl)
  · rcases hcase with ⟨c0, v, h1, h2⟩ | ⟨c0, -, -⟩
    · rw [h2, show v = r2 from (h1.2.1.trans (a2 c0).1).trans hr2.symm]
    · exact absurd (hk.symm.trans hk0) c0
  · rcases hcase with ⟨c0, v, h1, h2⟩ | ⟨c0, rfl, rfl⟩
    · exact ⟨_, _, _, _, _, _, _, _, _, _, _, _, _, _, _, _, _, _, _, _, _, h1.2.2, hM2, (a2 c0).2⟩
    · exact ⟨_, _, _, _, _, _, _, _, _, _, _, _, _, _, _, _, _, _, _, _, _, hR, hM2, a3 c0⟩
set_option maxHeartbeats 4000000 in
set_option maxRecDepth 100000 in
theorem L_invalidate (C : LC p l s m c b L xs G cI cD cE cO ca) (hst : LST cI cD cE ca aX aM am wX wM) (hW : LWO G s cO aO wX wM fo H locs) (hl : lv_has ls 7 [(0, .ref b), (1, .ref aX), (2, .ref aM), (3, .ref aO), (4, .int i4)]) (s1 : vp_in (i4 + 1) L) (s2 : vp_in (i4 + 2) L) (s3 : vp_in (i4 + 3) L) (s4 : vp_in (i4 + 4) L) (hcells : cells + 1 ≤ 601024) (hslots : slots + 12 ≤ 7293034)
    (kk : ∀ (wX wM : va_W) (fo : Nat → Int64) (ls : Array Slot) (H : Heap) (locs : List Loc), LST cI cD cE ca aX aM am wX wM → LWO G s cO aO wX wM fo H locs → lv_has ls 7 [(0, .ref b), (1, .ref aX), (2, .ref aM), (3, .ref aO), (4, .int i4)] → W p l e room_1 s m #[Value.ref b] below meth c H locs (cells + 1) (slots + 12) Q (F0 m 867 ls [])) : W p l e room_1 s m #[Value.ref b] below meth c H locs cells slots Q (F0 m 558 ls []) := by
  have C0 := C
  obtain ⟨hx, hb, hml, hown, hB, hX, hbl, hthr, hN, hKL, hKM, hl9⟩ := C
  obtain ⟨hP, hD, hS⟩ := hW
  have hA : ∀ q : Nat, s.heap.size ≤ q → (fun q : Nat => s.heap.size ≤ q) q := fun _ h => h
  have hbA : ¬ (fun q : Nat => s.heap.size ≤ q) b := Nat.not_le.mpr hbl
  obtain ⟨aR, aD, aE, dA, eA, g, ro, fst, nD, nE, d, fw, lw, ed, ev, nx, h, ar, nP, wl, wr, hR, hM, I⟩ := hst
  have hg1 := I.1.1
  have hp2 := I.1.2.1
  have hnP := I.1.2.2.1
  have hg3 := I.1.2.2.2.1
  have hd4 := I.1.2.2.2.2.1
  have hnD := I.1.2.2.2.2.2.1
  have hg5 := I.1.2.2.2.2.2.2.1
  have he13 := I.1.2.2.2.2.2.2.2.1
  have hnE := I.1.2.2.2.2.2.2.2.2.1
  have hC2 : ¬ fInvC g (xs (i4 + 1).toNatClampNeg) (xs (i4 + 2).toNatClampNeg) (xs (i4 + 3).toNatClampNeg) = 2 := by
    unfold fInvC
    repeat' split
    all_goals decide
  obtain ⟨a1, a2, a3⟩ := P_invalidate I (xs (i4 + 1).toNatClampNeg) (xs (i4 + 2).toNatClampNeg) (xs (i4 + 3).toNatClampNeg)
  refine lv_aload_n hx hb dL_law_558 rfl (lv_at hl 1 rfl) ?_
  refine lv_aload_n hx hb dL_law_559 rfl (lv_at hl 0 rfl) ?_
  refine lv_iload hx hb dL_law_560 (lv_at hl 4 rfl) ?_
  refine lv_iconst (v := 1) hx hb dL_law_562 (by decide) ?_
  refine lv_iadd hx hb dL_law_563 ?_
  refine va_sld hx hb hX hbl hbA hS s1 dL_law_564 ?_
  refine lv_aload_n hx hb dL_law_565 rfl (lv_at hl 0 rfl) ?_
  refine lv_iload hx hb dL_law_566 (lv_at hl 4 rfl) ?_
  refine lv_iconst (v := 2) hx hb dL_law_568 (by decide) ?_
  refine lv_iadd hx hb dL_law_569 ?_
  refine va_sld hx hb hX hbl hbA hS s2 dL_law_570 ?_
  refine lv_aload_n hx hb dL_law_571 rfl (lv_at hl 0 rfl) ?_
  refine lv_iload hx hb dL_law_572 (lv_at hl 4 rfl) ?_
  refine lv_iconst (v := 3) hx hb dL_law_574 (by decide) ?_
  refine lv_iadd hx hb dL_law_575 ?_
  refine va_sld hx hb hX hbl hbA hS s3 dL_law_576 ?_
  refine lv_aload_n hx hb dL_law_577 rfl (lv_at hl 3 rfl) ?_
  refine x_callL (w := wX ++ [(aO, oL cO fo)]) (r := wM) (vx_runSW (As := [.ref aX, .int (xs (i4 + 1).toNatClampNeg), .int (xs (i4 + 2).toNatClampNeg), .int (xs (i4 + 3).toNatClampNeg), .ref aO]) (rest := []) ⟨hx, hb, hml, hown, hB⟩ (c_L_invalidate (xs (i4 + 1).toNatClampNeg) (xs (i4 + 2).toNatClampNeg) (xs (i4 + 3).toNatClampNeg) hR.x (fun E h => h.elim (fun h => h.1) (fun h => absurd h.2 hC2)) (fun sz => c_X_invalidate hl9 hR hg3 hnD (xs (i4 + 1).toNatClampNeg) (xs (i4 + 2).toNatClampNeg) (xs (i4 + 3).toNatClampNeg))) (vx_cwSW 5 hB (gS ml_L_86 sm_L_invalidate ini_L kc_L_invalidate) rfl rfl rfl (by decide +kernel) ⟨Nat.le_of_ble_eq_true rfl, Nat.le_of_ble_eq_true rfl⟩) (x_preL (x_app_P hP).1 hKL (x_app_D hD).1 hS hA hthr hN) rfl rfl hl.1 rfl (lv_room (Nat.le_of_ble_eq_true rfl)) dL_law_578 ⟨by show cells + 1 ≤ 601024; omega, by show slots + 6 ≤ 7293034; omega⟩) hP hD hS hA (fun k w1 fo1 H locs hw hP hD hS => ?_)
  obtain ⟨hk, hcase⟩ := lPost_cases (c := fInvC g (xs (i4 + 1).toNatClampNeg) (xs (i4 + 2).toNatClampNeg) (xs (i4 + 3).toNatClampNeg)) hw (fun v w' h => h.1) px1 px2
  refine W.widen (k := cells + 1) (n := slots + 12) (by omega) (by omega) ?_
  refine lv_istore (lv' := [(5, .int k), (0, .ref b), (1, .ref aX), (2, .ref aM), (3, .ref aO), (4, .int i4)]) hx hb dL_law_581 hl (by decide) rfl (fun ls hl => ?_)
  refine lv_aload_n hx hb dL_law_583 rfl (lv_at hl 3 rfl) ?_
  refine lv_aload_n hx hb dL_law_584 rfl (lv_at hl 1 rfl) ?_
  refine lv_iload hx hb dL_law_585 (lv_at hl 5 rfl) ?_
  refine lv_iconst (v := 1) hx hb dL_law_587 (by decide) ?_
  refine lv_iadd hx hb dL_law_588 ?_
  refine va_sld hx hb hX hbl hbA hS s1 dL_law_589 ?_
  refine lv_aload_n hx hb dL_law_590 rfl (lv_at hl 1 rfl) ?_
  refine lv_iload hx hb dL_law_591 (lv_at hl 5 rfl) ?_
  refine lv_iconst (v := 2) hx hb dL_law_593 (by decide) ?_
  refine lv_iadd hx hb dL_law_594 ?_
  refine va_sld hx hb hX hbl hbA hS s2 dL_law_595 ?_
  refine lv_aload_n hx hb dL_law_596 rfl (lv_at hl 1 rfl) ?_
  refine lv_iload hx hb dL_law_597 (lv_at hl 5 rfl) ?_
  refine lv_iconst (v := 3) hx hb dL_law_599 (by decide) ?_
  refine lv_iadd hx hb dL_law_600 ?_
  refine va_sld hx hb hX hbl hbA hS s3 dL_law_601 ?_
  refine x_callR (r := w1 ++ [(aO, oL cO fo1)]) (w := wM) (va_runV (As := [.int (xs (i4 + 1).toNatClampNeg), .int (xs (i4 + 2).toNatClampNeg), .int (xs (i4 + 3).toNatClampNeg)]) (rest := []) ⟨hx, hb, hml, hown, hB⟩ (c_M_invalidate hM (xs (i4 + 1).toNatClampNeg) (xs (i4 + 2).toNatClampNeg) (xs (i4 + 3).toNatClampNeg) hp2 hnP hd4 hnD) (cwV 3 hB (gV ml_L_89 im_M_invalidate sl_M_invalidate ini_M kc_M_invalidate) rfl rfl rfl (by decide +kernel) ⟨Nat.le_of_ble_eq_true rfl, Nat.le_of_ble_eq_true rfl⟩) (x_preV (x_app_P hP).2 hKM (x_app_D hD).2.1 hM.1 rfl) rfl rfl hl.1 rfl (lv_room (Nat.le_of_ble_eq_true rfl)) dL_law_602 ⟨by show cells + 1 + 0 ≤ 601024; omega, by show slots + 12 + 0 ≤ 7293034; omega⟩) hP hD hS hA (fun r2 w2 H locs hw2 hP hD hS => ?_)
  obtain ⟨hr2, hM2⟩ := hw2
  refine L_tail C0 hM2 (a1.trans hk.symm) (fun hk0 => ?_) 605 dL_law_605 dL_law_607 dL_law_608 dL_law_611 dL_law_613 dL_law_618 dL_law_620 dL_law_623 dL_law_624 dL_law_625 dL_law_626 dL_law_628 dL_law_629 dL_law_630 dL_law_635 (by decide) ⟨hP, hD, hS⟩ hl (by omega) (by omega) (fun ls H locs hW hl => kk w1 w2 fo1 ls H locs ?_ hW hl)
  · rcases hcase with ⟨c0, v, h1, h2⟩ | ⟨c0, -, -⟩
    · rw [h2, show v = r2 from (h1.2.1.trans (a2 c0).1).trans hr2.symm]
    · exact absurd (hk.symm.trans hk0) c0
  · rcases hcase with ⟨c0, v, h1, h2⟩ | ⟨c0, rfl, rfl⟩
    · exact ⟨_, _, _, _, _, _, _, _, _, _, _, _, _, _, _, _, _, _, _, _, _, h1.2.2, hM2, (a2 c0).2⟩
    · exact ⟨_, _, _, _, _, _, _, _, _, _, _, _, _, _, _, _, _, _, _, _, _, hR, hM2, a3 c0⟩
set_option maxHeartbeats 4000000 in
set_option maxRecDepth 100000 in
theorem L_look (C : LC p l s m c b L xs G cI cD cE cO ca) (hst : LST cI cD cE ca aX aM am wX wM) (hW : LWO G s cO aO wX wM fo H locs) (hl : lv_has ls 7 [(0, .ref b), (1, .ref aX), (2, .ref aM), (3, .ref aO), (4, .int i4)]) (s1 : vp_in (i4 + 1) L) (s2 : vp_in (i4 + 2) L) (s3 : vp_in (i4 + 3) L) (s4 : vp_in (i4 + 4) L) (hcells : cells + 1 ≤ 601024) (hslots : slots + 12 ≤ 7293034)
    (kk : ∀ (wX wM : va_W) (fo : Nat → Int64) (ls : Array Slot) (H : Heap) (locs : List Loc), LST cI cD cE ca aX aM am wX wM → LWO G s cO aO wX wM fo H locs → lv_has ls 7 [(0, .ref b), (1, .ref aX), (2, .ref aM), (3, .ref aO), (4, .int i4)] → W p l e room_1 s m #[Value.ref b] below meth c H locs (cells + 1) (slots + 12) Q (F0 m 867 ls [])) : W p l e room_1 s m #[Value.ref b] below meth c H locs cells slots Q (F0 m 638 ls []) := by
  have C0 := C
  obtain ⟨hx, hb, hml, hown, hB, hX, hbl, hthr, hN, hKL, hKM, hl9⟩ := C
  obtain ⟨hP, hD, hS⟩ := hW
  have hA : ∀ q : Nat, s.heap.size ≤ q → (fun q : Nat => s.heap.size ≤ q) q := fun _ h => h
  have hbA : ¬ (fun q : Nat => s.heap.size ≤ q) b := Nat.not_le.mpr hbl
  obtain ⟨aR, aD, aE, dA, eA, g, ro, fst, nD, nE, d, fw, lw, ed, ev, nx, h, ar, nP, wl, wr, hR, hM, I⟩ := hst
  have hg1 := I.1.1
  have hp2 := I.1.2.1
  have hnP := I.1.2.2.1
  have hg3 := I.1.2.2.2.1
  have hd4 := I.1.2.2.2.2.1
  have hnD := I.1.2.2.2.2.2.1
  have hg5 := I.1.2.2.2.2.2.2.1
  have he13 := I.1.2.2.2.2.2.2.2.1
  have hnE := I.1.2.2.2.2.2.2.2.2.1
  obtain ⟨a1, a2, a3⟩ := P_look I (xs (i4 + 1).toNatClampNeg) (xs (i4 + 2).toNatClampNeg)
  refine lv_aload_n hx hb dL_law_638 rfl (lv_at hl 1 rfl) ?_
  refine lv_aload_n hx hb dL_law_639 rfl (lv_at hl 0 rfl) ?_
  refine lv_iload hx hb dL_law_640 (lv_at hl 4 rfl) ?_
  refine lv_iconst (v := 1) hx hb dL_law_642 (by decide) ?_
  refine lv_iadd hx hb dL_law_643 ?_
  refine va_sld hx hb hX hbl hbA hS s1 dL_law_644 ?_
  refine lv_aload_n hx hb dL_law_645 rfl (lv_at hl 0 rfl) ?_
  refine lv_iload hx hb dL_law_646 (lv_at hl 4 rfl) ?_
  refine lv_iconst (v := 2) hx hb dL_law_648 (by decide) ?_
  refine lv_iadd hx hb dL_law_649 ?_
  refine va_sld hx hb hX hbl hbA hS s2 dL_law_650 ?_
  refine lv_aload_n hx hb dL_law_651 rfl (lv_at hl 3 rfl) ?_
  refine x_callL (w := wX ++ [(aO, oL cO fo)]) (r := wM) (vx_runSW (As := [.ref aX, .int (xs (i4 + 1).toNatClampNeg), .int (xs (i4 + 2).toNatClampNeg), .ref aO]) (rest := []) ⟨hx, hb, hml, hown, hB⟩ (c_L_look (xs (i4 + 1).toNatClampNeg) (xs (i4 + 2).toNatClampNeg) hR.x (fun E h => h.1) (fun sz => c_X_look hl9 hR hg3 hnD (xs (i4 + 1).toNatClampNeg) (xs (i4 + 2).toNatClampNeg))) (vx_cwSW 4 hB (gS ml_L_90 sm_L_look ini_L kc_L_look) rfl rfl rfl (by decide +kernel) ⟨Nat.le_of_ble_eq_true rfl, Nat.le_of_ble_eq_true rfl⟩) (x_preL (x_app_P hP).1 hKL (x_app_D hD).1 hS hA hthr hN) rfl rfl hl.1 rfl (lv_room (Nat.le_of_ble_eq_true rfl)) dL_law_652 ⟨by show cells + 1 ≤ 601024; omega, by show slots + 6 ≤ 7293034; omega⟩) hP hD hS hA (fun k w1 fo1 H locs hw hP hD hS => ?_)
  obtain ⟨hk, hcase⟩ := lPost_cases (c := fLookC g (xs (i4 + 1).toNatClampNeg) (xs (i4 + 2).toNatClampNeg)) hw (fun v w' h => h.1) pxb1 pxb2
  refine W.widen (k := cells + 1) (n := slots + 12) (by omega) (by omega) ?_
  refine lv_istore (lv' := [(5, .int k), (0, .ref b), (1, .ref aX), (2, .ref aM), (3, .ref aO), (4, .int i4)]) hx hb dL_law_655 hl (by decide) rfl (fun ls hl => ?_)
  refine lv_aload_n hx hb dL_law_657 rfl (lv_at hl 3 rfl) ?_
  refine lv_aload_n hx hb dL_law_658 rfl (lv_at hl 1 rfl) ?_
  refine lv_iload hx hb dL_law_659 (lv_at hl 5 rfl) ?_
  refine lv_iconst (v := 1) hx hb dL_law_661 (by decide) ?_
  refine lv_iadd hx hb dL_law_662 ?_
  refine va_sld hx hb hX hbl hbA hS s1 dL_law_663 ?_
  refine lv_aload_n hx hb dL_law_664 rfl (lv_at hl 1 rfl) ?_
  refine lv_iload hx hb dL_law_665 (lv_at hl 5 rfl) ?_
  refine lv_iconst (v := 2) hx hb dL_law_667 (by decide) ?_
  refine lv_iadd hx hb dL_law_668 ?_
  refine va_sld hx hb hX hbl hbA hS s2 dL_law_669 ?_
  refine x_callR (r := w1 ++ [(aO, oL cO fo1)]) (w := wM) (va_runV (As := [.int (xs (i4 + 1).toNatClampNeg), .int (xs (i4 + 2).toNatClampNeg)]) (rest := []) ⟨hx, hb, hml, hown, hB⟩ (c_M_look hM (xs (i4 + 1).toNatClampNeg) (xs (i4 + 2).toNatClampNeg) hd4 hnD he13 hnE) (cwV 2 hB (gV ml_L_92 im_M_look sl_M_look ini_M kc_M_look) rfl rfl rfl (by decide +kernel) ⟨Nat.le_of_ble_eq_true rfl, Nat.le_of_ble_eq_true rfl⟩) (x_preV (x_app_P hP).2 hKM (x_app_D hD).2.1 hM.1 rfl) rfl rfl hl.1 rfl (lv_room (Nat.le_of_ble_eq_true rfl)) dL_law_670 ⟨by show cells + 1 + 0 ≤ 601024; omega, by show slots + 12 + 0 ≤ 7293034; omega⟩) hP hD hS hA (fun r2 w2 H locs hw2 hP hD hS => ?_)
  obtain ⟨hr2, hM2⟩ := hw2
  refine L_tail C0 hM2 (a1.trans hk.symm) (fun hk0 => ?_) 673 dL_law_673 dL_law_675 dL_law_676 dL_law_679 dL_law_681 dL_law_686 dL_law_688 dL_law_691 dL_law_692 dL_law_693 dL_law_694 dL_law_696 dL_law_697 dL_law_698 dL_law_703 (by decide) ⟨hP, hD, hS⟩ hl (by omega) (by omega) (fun ls H locs hW hl => kk w1 w2 fo1 ls H locs ?_ hW hl)
  · rcases hcase with ⟨c0, v, h1, h2⟩ | ⟨c0, -, -⟩
    · rw [h2, show v = r2 from (h1.2.1.trans (a2 c0)).trans hr2.symm]
    · exact absurd (hk.symm.trans hk0) c0
  · rcases hcase with ⟨c0, v, h1, h2⟩ | ⟨c0, rfl, rfl⟩
    · exact ⟨_, _, _, _, _, _, _, _, _, _, _, _, _, _, _, _, _, _, _, _, _, h1.2.2, hM2, a3⟩
    · exact ⟨_, _, _, _, _, _, _, _, _, _, _, _, _, _, _, _, _, _, _, _, _, hR, hM2, a3⟩
set_option maxHeartbeats 4000000 in
set_option maxRecDepth 100000 in
theorem L_written (C : LC p l s m c b L xs G cI cD cE cO ca) (hst : LST cI cD cE ca aX aM am wX wM) (hW : LWO G s cO aO wX wM fo H locs) (hl : lv_has ls 7 [(0, .ref b), (1, .ref aX), (2, .ref aM), (3, .ref aO), (4, .int i4)]) (s1 : vp_in (i4 + 1) L) (s2 : vp_in (i4 + 2) L) (s3 : vp_in (i4 + 3) L) (s4 : vp_in (i4 + 4) L) (hcells : cells + 1 ≤ 601024) (hslots : slots + 12 ≤ 7293034)
    (kk : ∀ (wX wM : va_W) (fo : Nat → Int64) (ls : Array Slot) (H : Heap) (locs : List Loc), LST cI cD cE ca aX aM am wX wM → LWO G s cO aO wX wM fo H locs → lv_has ls 7 [(0, .ref b), (1, .ref aX), (2, .ref aM), (3, .ref aO), (4, .int i4)] → W p l e room_1 s m #[Value.ref b] below meth c H locs (cells + 1) (slots + 12) Q (F0 m 867 ls [])) : W p l e room_1 s m #[Value.ref b] below meth c H locs cells slots Q (F0 m 706 ls []) := by
  have C0 := C
  obtain ⟨hx, hb, hml, hown, hB, hX, hbl, hthr, hN, hKL, hKM, hl9⟩ := C
  obtain ⟨hP, hD, hS⟩ := hW
  have hA : ∀ q : Nat, s.heap.size ≤ q → (fun q : Nat => s.heap.size ≤ q) q := fun _ h => h
  have hbA : ¬ (fun q : Nat => s.heap.size ≤ q) b := Nat.not_le.mpr hbl
  obtain ⟨aR, aD, aE, dA, eA, g, ro, fst, nD, nE, d, fw, lw, ed, ev, nx, h, ar, nP, wl, wr, hR, hM, I⟩ := hst
  have hg1 := I.1.1
  have hp2 := I.1.2.1
  have hnP := I.1.2.2.1
  have hg3 := I.1.2.2.2.1
  have hd4 := I.1.2.2.2.2.1
  have hnD := I.1.2.2.2.2.2.1
  have hg5 := I.1.2.2.2.2.2.2.1
  have he13 := I.1.2.2.2.2.2.2.2.1
  have hnE := I.1.2.2.2.2.2.2.2.2.1
  have hC2 : ¬ fWritC g (xs (i4 + 1).toNatClampNeg) = 2 := by
    unfold fWritC
    repeat' split
    all_goals decide
  obtain ⟨a1, a2, a3⟩ := P_written I (xs (i4 + 1).toNatClampNeg) (xs (i4 + 2).toNatClampNeg)
  refine lv_aload_n hx hb dL_law_706 rfl (lv_at hl 1 rfl) ?_
  refine lv_aload_n hx hb dL_law_707 rfl (lv_at hl 0 rfl) ?_
  refine lv_iload hx hb dL_law_708 (lv_at hl 4 rfl) ?_
  refine lv_iconst (v := 1) hx hb dL_law_710 (by decide) ?_
  refine lv_iadd hx hb dL_law_711 ?_
  refine va_sld hx hb hX hbl hbA hS s1 dL_law_712 ?_
  refine lv_aload_n hx hb dL_law_713 rfl (lv_at hl 0 rfl) ?_
  refine lv_iload hx hb dL_law_714 (lv_at hl 4 rfl) ?_
  refine lv_iconst (v := 2) hx hb dL_law_716 (by decide) ?_
  refine lv_iadd hx hb dL_law_717 ?_
  refine va_sld hx hb hX hbl hbA hS s2 dL_law_718 ?_
  refine lv_aload_n hx hb dL_law_719 rfl (lv_at hl 3 rfl) ?_
  refine x_callL (w := wX ++ [(aO, oL cO fo)]) (r := wM) (vx_runSW (As := [.ref aX, .int (xs (i4 + 1).toNatClampNeg), .int (xs (i4 + 2).toNatClampNeg), .ref aO]) (rest := []) ⟨hx, hb, hml, hown, hB⟩ (c_L_written (xs (i4 + 1).toNatClampNeg) (xs (i4 + 2).toNatClampNeg) hR.x (fun E h => h.elim (fun h => h.1) (fun h => absurd h.2 hC2)) (fun sz => c_X_written hl9 hR hg3 hnD (fun j hj => ⟨(I.2.2.2.2.2.2.1 j hj).1, (I.2.2.2.2.2.2.1 j hj).2.2.1, by have := len_wr I hj; omega, fun k hk => (((I.2.2.2.2.2.2.1 j hj).2.2.2.2 k).mp hk).1⟩) (xs (i4 + 1).toNatClampNeg) (xs (i4 + 2).toNatClampNeg))) (vx_cwSW 4 hB (gS ml_L_93 sm_L_written ini_L kc_L_written) rfl rfl rfl (by decide +kernel) ⟨Nat.le_of_ble_eq_true rfl, Nat.le_of_ble_eq_true rfl⟩) (x_preL (x_app_P hP).1 hKL (x_app_D hD).1 hS hA hthr hN) rfl rfl hl.1 rfl (lv_room (Nat.le_of_ble_eq_true rfl)) dL_law_720 ⟨by show cells + 1 ≤ 601024; omega, by show slots + 6 ≤ 7293034; omega⟩) hP hD hS hA (fun k w1 fo1 H locs hw hP hD hS => ?_)
  obtain ⟨hk, hcase⟩ := lPost_cases (c := fWritC g (xs (i4 + 1).toNatClampNeg)) hw (fun v w' h => h.1) px1 px2
  refine W.widen (k := cells + 1) (n := slots + 12) (by omega) (by omega) ?_
  refine lv_istore (lv' := [(5, .int k), (0, .ref b), (1, .ref aX), (2, .ref aM), (3, .ref aO), (4, .int i4)]) hx hb dL_law_723 hl (by decide) rfl (fun ls hl => ?_)
  refine lv_aload_n hx hb dL_law_725 rfl (lv_at hl 3 rfl) ?_
  refine lv_aload_n hx hb dL_law_726 rfl (lv_at hl 1 rfl) ?_
  refine lv_iload hx hb dL_law_727 (lv_at hl 5 rfl) ?_
  refine lv_iconst (v := 1) hx hb dL_law_729 (by decide) ?_
  refine lv_iadd hx hb dL_law_730 ?_
  refine va_sld hx hb hX hbl hbA hS s1 dL_law_731 ?_
  refine lv_aload_n hx hb dL_law_732 rfl (lv_at hl 1 rfl) ?_
  refine lv_iload hx hb dL_law_733 (lv_at hl 5 rfl) ?_
  refine lv_iconst (v := 2) hx hb dL_law_735 (by decide) ?_
  refine lv_iadd hx hb dL_law_736 ?_
  refine va_sld hx hb hX hbl hbA hS s2 dL_law_737 ?_
  refine x_callR (r := w1 ++ [(aO, oL cO fo1)]) (w := wM) (va_runV (As := [.int (xs (i4 + 1).toNatClampNeg), .int (xs (i4 + 2).toNatClampNeg)]) (rest := []) ⟨hx, hb, hml, hown, hB⟩ (c_M_written hM (xs (i4 + 1).toNatClampNeg) (xs (i4 + 2).toNatClampNeg) hd4 hnD he13 hnE) (cwV 2 hB (gV ml_L_95 im_M_written sl_M_written ini_M kc_M_written) rfl rfl rfl (by decide +kernel) ⟨Nat.le_of_ble_eq_true rfl, Nat.le_of_ble_eq_true rfl⟩) (x_preV (x_app_P hP).2 hKM (x_app_D hD).2.1 hM.1 rfl) rfl rfl hl.1 rfl (lv_room (Nat.le_of_ble_eq_true rfl)) dL_law_738 ⟨by show cells + 1 + 0 ≤ 601024; omega, by show slots + 12 + 0 ≤ 7293034; omega⟩) hP hD hS hA (fun r2 w2 H locs hw2 hP hD hS => ?_)
  obtain ⟨hr2, hM2⟩ := hw2
  refine L_tail C0 hM2 (a1.trans hk.symm) (fun hk0 => ?_) 741 dL_law_741 dL_law_743 dL_law_744 dL_law_747 dL_law_749 dL_law_754 dL_law_756 dL_law_759 dL_law_760 dL_law_761 dL_law_762 dL_law_764 dL_law_765 dL_law_766 dL_law_771 (by decide) ⟨hP, hD, hS⟩ hl (by omega) (by omega) (fun ls H locs hW hl => kk w1 w2 fo1 ls H locs ?_ hW hl)
  · rcases hcase with ⟨c0, v, h1, h2⟩ | ⟨c0, -, -⟩
    · rw [h2, show v = r2 from (h1.2.1.trans (a2 c0)).trans hr2.symm]
    · exact absurd (hk.symm.trans hk0) c0
  · rcases hcase with ⟨c0, v, h1, h2⟩ | ⟨c0, rfl, rfl⟩
    · exact ⟨_, _, _, _, _, _, _, _, _, _, _, _, _, _, _, _, _, _, _, _, _, h1.2.2, hM2, a3⟩
    · exact ⟨_, _, _, _, _, _, _, _, _, _, _, _, _, _, _, _, _, _, _, _, _, hR, hM2, a3⟩
set_option maxHeartbeats 4000000 in
set_option maxRecDepth 100000 in
theorem L_of (C : LC p l s m c b L xs G cI cD cE cO ca) (hst : LST cI cD cE ca aX aM am wX wM) (hW : LWO G s cO aO wX wM fo H locs) (hl : lv_has ls 7 [(0, .ref b), (1, .ref aX), (2, .ref aM), (3, .ref aO), (4, .int i4)]) (s1 : vp_in (i4 + 1) L) (s2 : vp_in (i4 + 2) L) (s3 : vp_in (i4 + 3) L) (s4 : vp_in (i4 + 4) L) (hcells : cells + 1 ≤ 601024) (hslots : slots + 12 ≤ 7293034)
    (kk : ∀ (wX wM : va_W) (fo : Nat → Int64) (ls : Array Slot) (H : Heap) (locs : List Loc), LST cI cD cE ca aX aM am wX wM → LWO G s cO aO wX wM fo H locs → lv_has ls 7 [(0, .ref b), (1, .ref aX), (2, .ref aM), (3, .ref aO), (4, .int i4)] → W p l e room_1 s m #[Value.ref b] below meth c H locs (cells + 1) (slots + 12) Q (F0 m 867 ls [])) : W p l e room_1 s m #[Value.ref b] below meth c H locs cells slots Q (F0 m 774 ls []) := by
  have C0 := C
  obtain ⟨hx, hb, hml, hown, hB, hX, hbl, hthr, hN, hKL, hKM, hl9⟩ := C
  obtain ⟨hP, hD, hS⟩ := hW
  have hA : ∀ q : Nat, s.heap.size ≤ q → (fun q : Nat => s.heap.size ≤ q) q := fun _ h => h
  have hbA : ¬ (fun q : Nat => s.heap.size ≤ q) b := Nat.not_le.mpr hbl
  obtain ⟨aR, aD, aE, dA, eA, g, ro, fst, nD, nE, d, fw, lw, ed, ev, nx, h, ar, nP, wl, wr, hR, hM, I⟩ := hst
  have hg1 := I.1.1
  have hp2 := I.1.2.1
  have hnP := I.1.2.2.1
  have hg3 := I.1.2.2.2.1
  have hd4 := I.1.2.2.2.2.1
  have hnD := I.1.2.2.2.2.2.1
  have hg5 := I.1.2.2.2.2.2.2.1
  have he13 := I.1.2.2.2.2.2.2.2.1
  have hnE := I.1.2.2.2.2.2.2.2.2.1
  obtain ⟨a1, a2, a3⟩ := P_of I (xs (i4 + 1).toNatClampNeg) (xs (i4 + 2).toNatClampNeg)
  refine lv_aload_n hx hb dL_law_774 rfl (lv_at hl 1 rfl) ?_
  refine lv_aload_n hx hb dL_law_775 rfl (lv_at hl 0 rfl) ?_
  refine lv_iload hx hb dL_law_776 (lv_at hl 4 rfl) ?_
  refine lv_iconst (v := 1) hx hb dL_law_778 (by decide) ?_
  refine lv_iadd hx hb dL_law_779 ?_
  refine va_sld hx hb hX hbl hbA hS s1 dL_law_780 ?_
  refine lv_aload_n hx hb dL_law_781 rfl (lv_at hl 0 rfl) ?_
  refine lv_iload hx hb dL_law_782 (lv_at hl 4 rfl) ?_
  refine lv_iconst (v := 2) hx hb dL_law_784 (by decide) ?_
  refine lv_iadd hx hb dL_law_785 ?_
  refine va_sld hx hb hX hbl hbA hS s2 dL_law_786 ?_
  refine lv_aload_n hx hb dL_law_787 rfl (lv_at hl 3 rfl) ?_
  refine x_callL (w := wX ++ [(aO, oL cO fo)]) (r := wM) (vx_runSW (As := [.ref aX, .int (xs (i4 + 1).toNatClampNeg), .int (xs (i4 + 2).toNatClampNeg), .ref aO]) (rest := []) ⟨hx, hb, hml, hown, hB⟩ (c_L_of (xs (i4 + 1).toNatClampNeg) (xs (i4 + 2).toNatClampNeg) hR.x (fun E h => h.1) (fun sz => c_X_of hl9 hR hg5 hnE (xs (i4 + 1).toNatClampNeg) (xs (i4 + 2).toNatClampNeg))) (vx_cwSW 4 hB (gS ml_L_96 sm_L_of ini_L kc_L_of) rfl rfl rfl (by decide +kernel) ⟨Nat.le_of_ble_eq_true rfl, Nat.le_of_ble_eq_true rfl⟩) (x_preL (x_app_P hP).1 hKL (x_app_D hD).1 hS hA hthr hN) rfl rfl hl.1 rfl (lv_room (Nat.le_of_ble_eq_true rfl)) dL_law_788 ⟨by show cells + 1 ≤ 601024; omega, by show slots + 6 ≤ 7293034; omega⟩) hP hD hS hA (fun k w1 fo1 H locs hw hP hD hS => ?_)
  obtain ⟨hk, hcase⟩ := lPost_cases (c := fOfC g (xs (i4 + 1).toNatClampNeg) (xs (i4 + 2).toNatClampNeg)) hw (fun v w' h => h.1) pxb1 pxb2
  refine W.widen (k := cells + 1) (n := slots + 12) (by omega) (by omega) ?_
  refine lv_istore (lv' := [(5, .int k), (0, .ref b), (1, .ref aX), (2, .ref aM), (3, .ref aO), (4, .int i4)]) hx hb dL_law_791 hl (by decide) rfl (fun ls hl => ?_)
  refine lv_aload_n hx hb dL_law_793 rfl (lv_at hl 3 rfl) ?_
  refine lv_aload_n hx hb dL_law_794 rfl (lv_at hl 1 rfl) ?_
  refine lv_iload hx hb dL_law_795 (lv_at hl 5 rfl) ?_
  refine lv_iconst (v := 1) hx hb dL_law_797 (by decide) ?_
  refine lv_iadd hx hb dL_law_798 ?_
  refine va_sld hx hb hX hbl hbA hS s1 dL_law_799 ?_
  refine lv_aload_n hx hb dL_law_800 rfl (lv_at hl 1 rfl) ?_
  refine lv_iload hx hb dL_law_801 (lv_at hl 5 rfl) ?_
  refine lv_iconst (v := 2) hx hb dL_law_803 (by decide) ?_
  refine lv_iadd hx hb dL_law_804 ?_
  refine va_sld hx hb hX hbl hbA hS s2 dL_law_805 ?_
  refine x_callR (r := w1 ++ [(aO, oL cO fo1)]) (w := wM) (va_runV (As := [.int (xs (i4 + 1).toNatClampNeg), .int (xs (i4 + 2).toNatClampNeg)]) (rest := []) ⟨hx, hb, hml, hown, hB⟩ (c_M_of hM (xs (i4 + 1).toNatClampNeg) (xs (i4 + 2).toNatClampNeg) he13 hnE) (cwV 2 hB (gV ml_L_98 im_M_of sl_M_of ini_M kc_M_of) rfl rfl rfl (by decide +kernel) ⟨Nat.le_of_ble_eq_true rfl, Nat.le_of_ble_eq_true rfl⟩) (x_preV (x_app_P hP).2 hKM (x_app_D hD).2.1 hM.1 rfl) rfl rfl hl.1 rfl (lv_room (Nat.le_of_ble_eq_true rfl)) dL_law_806 ⟨by show cells + 1 + 0 ≤ 601024; omega, by show slots + 12 + 0 ≤ 7293034; omega⟩) hP hD hS hA (fun r2 w2 H locs hw2 hP hD hS => ?_)
  obtain ⟨hr2, hM2⟩ := hw2
  refine L_tail C0 hM2 (a1.trans hk.symm) (fun hk0 => ?_) 809 dL_law_809 dL_law_811 dL_law_812 dL_law_815 dL_law_817 dL_law_822 dL_law_824 dL_law_827 dL_law_828 dL_law_829 dL_law_830 dL_law_832 dL_law_833 dL_law_834 dL_law_839 (by decide) ⟨hP, hD, hS⟩ hl (by omega) (by omega) (fun ls H locs hW hl => kk w1 w2 fo1 ls H locs ?_ hW hl)
  · rcases hcase with ⟨c0, v, h1, h2⟩ | ⟨c0, -, -⟩
    · rw [h2, show v = r2 from (h1.2.1.trans (a2 c0)).trans hr2.symm]
    · exact absurd (hk.symm.trans hk0) c0
  · rcases hcase with ⟨c0, v, h1, h2⟩ | ⟨c0, rfl, rfl⟩
    · exact ⟨_, _, _, _, _, _, _, _, _, _, _, _, _, _, _, _, _, _, _, _, _, h1.2.2, hM2, a3⟩
    · exact ⟨_, _, _, _, _, _, _, _, _, _, _, _, _, _, _, _, _, _, _, _, _, hR, hM2, a3⟩
set_option maxHeartbeats 4000000 in
set_option maxRecDepth 100000 in
theorem L_hours (C : LC p l s m c b L xs G cI cD cE cO ca) (hst : LST cI cD cE ca aX aM am wX wM) (hW : LWO G s cO aO wX wM fo H locs) (hl : lv_has ls 7 [(0, .ref b), (1, .ref aX), (2, .ref aM), (3, .ref aO), (4, .int i4)]) (s1 : vp_in (i4 + 1) L) (s2 : vp_in (i4 + 2) L) (s3 : vp_in (i4 + 3) L) (s4 : vp_in (i4 + 4) L) (hcells : cells + 1 ≤ 601024) (hslots : slots + 12 ≤ 7293034)
    (kk : ∀ (wX wM : va_W) (fo : Nat → Int64) (ls : Array Slot) (H : Heap) (locs : List Loc), LST cI cD cE ca aX aM am wX wM → LWO G s cO aO wX wM fo H locs → lv_has ls 7 [(0, .ref b), (1, .ref aX), (2, .ref aM), (3, .ref aO), (4, .int i4)] → W p l e room_1 s m #[Value.ref b] below meth c H locs (cells + 1) (slots + 12) Q (F0 m 867 ls [])) : W p l e room_1 s m #[Value.ref b] below meth c H locs cells slots Q (F0 m 372 ls []) := by
  have C0 := C
  obtain ⟨hx, hb, hml, hown, hB, hX, hbl, hthr, hN, hKL, hKM, hl9⟩ := C
  obtain ⟨hP, hD, hS⟩ := hW
  have hA : ∀ q : Nat, s.heap.size ≤ q → (fun q : Nat => s.heap.size ≤ q) q := fun _ h => h
  have hbA : ¬ (fun q : Nat => s.heap.size ≤ q) b := Nat.not_le.mpr hbl
  obtain ⟨aR, aD, aE, dA, eA, g, ro, fst, nD, nE, d, fw, lw, ed, ev, nx, h, ar, nP, wl, wr, hR, hM, I⟩ := hst
  have hg1 := I.1.1
  have hp2 := I.1.2.1
  have hnP := I.1.2.2.1
  have hg3 := I.1.2.2.2.1
  have hd4 := I.1.2.2.2.2.1
  have hnD := I.1.2.2.2.2.2.1
  have hg5 := I.1.2.2.2.2.2.2.1
  have he13 := I.1.2.2.2.2.2.2.2.1
  have hnE := I.1.2.2.2.2.2.2.2.2.1
  obtain ⟨a1, a2⟩ := P_hours I (xs (i4 + 1).toNatClampNeg) (xs (i4 + 2).toNatClampNeg)
  rw [List.append_assoc] at hP hD
  refine lv_aload_n hx hb dL_law_372 rfl (lv_at hl 1 rfl) ?_
  refine lv_aload_n hx hb dL_law_373 rfl (lv_at hl 0 rfl) ?_
  refine lv_iload hx hb dL_law_374 (lv_at hl 4 rfl) ?_
  refine lv_iconst (v := 1) hx hb dL_law_376 (by decide) ?_
  refine lv_iadd hx hb dL_law_377 ?_
  refine va_sld hx hb hX hbl hbA hS s1 dL_law_378 ?_
  refine lv_aload_n hx hb dL_law_379 rfl (lv_at hl 0 rfl) ?_
  refine lv_iload hx hb dL_law_380 (lv_at hl 4 rfl) ?_
  refine lv_iconst (v := 2) hx hb dL_law_382 (by decide) ?_
  refine lv_iadd hx hb dL_law_383 ?_
  refine va_sld hx hb hX hbl hbA hS s2 dL_law_384 ?_
  refine x_callP (w := wX) (r := [(aO, oL cO fo)] ++ wM) (va_runV (As := [.int (xs (i4 + 1).toNatClampNeg), .int (xs (i4 + 2).toNatClampNeg)]) (rest := []) ⟨hx, hb, hml, hown, hB⟩ (c_X_hours hR (xs (i4 + 1).toNatClampNeg) (xs (i4 + 2).toNatClampNeg)) (cwV 2 hB (gV ml_L_72 im_X_hours sl_X_hours ini_X kc_X_hours) rfl rfl rfl (by decide +kernel) ⟨Nat.le_of_ble_eq_true rfl, Nat.le_of_ble_eq_true rfl⟩) (x_preV (x_app_P hP).1 (hKL.sub (tys' := xTys cI cD cE) [0, 1, 2] rfl) (x_app_D hD).1 hR.x rfl) rfl rfl hl.1 rfl (lv_room (Nat.le_of_ble_eq_true rfl)) dL_law_385 ⟨by show cells + 0 ≤ 601024; omega, by show slots + 0 ≤ 7293034; omega⟩) hP hD hS hA (fun r1 w1 H locs hw hP hD hS => ?_)
  obtain ⟨hr1, hR1⟩ := hw
  rw [← List.append_assoc] at hP hD
  refine lv_aload_n hx hb dL_law_388 rfl (lv_at hl 2 rfl) ?_
  refine lv_aload_n hx hb dL_law_389 rfl (lv_at hl 0 rfl) ?_
  refine lv_iload hx hb dL_law_390 (lv_at hl 4 rfl) ?_
  refine lv_iconst (v := 1) hx hb dL_law_392 (by decide) ?_
  refine lv_iadd hx hb dL_law_393 ?_
  refine va_sld hx hb hX hbl hbA hS s1 dL_law_394 ?_
  refine lv_aload_n hx hb dL_law_395 rfl (lv_at hl 0 rfl) ?_
  refine lv_iload hx hb dL_law_396 (lv_at hl 4 rfl) ?_
  refine lv_iconst (v := 2) hx hb dL_law_398 (by decide) ?_
  refine lv_iadd hx hb dL_law_399 ?_
  refine va_sld hx hb hX hbl hbA hS s2 dL_law_400 ?_
  refine x_callR (r := w1 ++ [(aO, oL cO fo)]) (w := wM) (va_runV (As := [.int (xs (i4 + 1).toNatClampNeg), .int (xs (i4 + 2).toNatClampNeg)]) (rest := [.int r1]) ⟨hx, hb, hml, hown, hB⟩ (c_M_hours hM (xs (i4 + 1).toNatClampNeg) (xs (i4 + 2).toNatClampNeg)) (cwV 2 hB (gV ml_L_76 im_M_hours sl_M_hours ini_M kc_M_hours) rfl rfl rfl (by decide +kernel) ⟨Nat.le_of_ble_eq_true rfl, Nat.le_of_ble_eq_true rfl⟩) (x_preV (x_app_P hP).2 hKM (x_app_D hD).2.1 hM.1 rfl) rfl rfl hl.1 rfl (lv_room (Nat.le_of_ble_eq_true rfl)) dL_law_401 ⟨by show cells + 0 + 0 ≤ 601024; omega, by show slots + 0 + 0 ≤ 7293034; omega⟩) hP hD hS hA (fun r2 w2 H locs hw2 hP hD hS => ?_)
  obtain ⟨hr2, hM2⟩ := hw2
  refine W.widen (k := cells + 1) (n := slots + 12) (by omega) (by omega) ?_
  refine lv_icmp_eq (tgt := 867) hx hb dL_law_404 (by decide) (fun _ => ?_) (fun c1 => absurd ((hr1.trans a1).trans hr2.symm) c1)
  exact kk w1 w2 fo ls H locs ⟨_, _, _, _, _, _, _, _, _, _, _, _, _, _, _, _, _, _, _, _, _, hR1, hM2, a2⟩ ⟨hP, hD, hS⟩ hl
set_option maxHeartbeats 4000000 in
set_option maxRecDepth 100000 in
theorem L_fails (C : LC p l s m c b L xs G cI cD cE cO ca) (hst : LST cI cD cE ca aX aM am wX wM) (hW : LWO G s cO aO wX wM fo H locs) (hl : lv_has ls 7 [(0, .ref b), (1, .ref aX), (2, .ref aM), (3, .ref aO), (4, .int i4)]) (s1 : vp_in (i4 + 1) L) (s2 : vp_in (i4 + 2) L) (s3 : vp_in (i4 + 3) L) (s4 : vp_in (i4 + 4) L) (hcells : cells + 1 ≤ 601024) (hslots : slots + 12 ≤ 7293034)
    (kk : ∀ (wX wM : va_W) (fo : Nat → Int64) (ls : Array Slot) (H : Heap) (locs : List Loc), LST cI cD cE ca aX aM am wX wM → LWO G s cO aO wX wM fo H locs → lv_has ls 7 [(0, .ref b), (1, .ref aX), (2, .ref aM), (3, .ref aO), (4, .int i4)] → W p l e room_1 s m #[Value.ref b] below meth c H locs (cells + 1) (slots + 12) Q (F0 m 867 ls [])) : W p l e room_1 s m #[Value.ref b] below meth c H locs cells slots Q (F0 m 409 ls []) := by
  have C0 := C
  obtain ⟨hx, hb, hml, hown, hB, hX, hbl, hthr, hN, hKL, hKM, hl9⟩ := C
  obtain ⟨hP, hD, hS⟩ := hW
  have hA : ∀ q : Nat, s.heap.size ≤ q → (fun q : Nat => s.heap.size ≤ q) q := fun _ h => h
  have hbA : ¬ (fun q : Nat => s.heap.size ≤ q) b := Nat.not_le.mpr hbl
  obtain ⟨aR, aD, aE, dA, eA, g, ro, fst, nD, nE, d, fw, lw, ed, ev, nx, h, ar, nP, wl, wr, hR, hM, I⟩ := hst
  have hg1 := I.1.1
  have hp2 := I.1.2.1
  have hnP := I.1.2.2.1
  have hg3 := I.1.2.2.2.1
  have hd4 := I.1.2.2.2.2.1
  have hnD := I.1.2.2.2.2.2.1
  have hg5 := I.1.2.2.2.2.2.2.1
  have he13 := I.1.2.2.2.2.2.2.2.1
  have hnE := I.1.2.2.2.2.2.2.2.2.1
  obtain ⟨a1, a2⟩ := P_fails I (xs (i4 + 1).toNatClampNeg) (if xs (i4 + 2).toNatClampNeg = 0 then (0 : Int32) else 1) (on01 _)
  rw [List.append_assoc] at hP hD
  refine lv_aload_n hx hb dL_law_409 rfl (lv_at hl 1 rfl) ?_
  refine lv_aload_n hx hb dL_law_410 rfl (lv_at hl 0 rfl) ?_
  refine lv_iload hx hb dL_law_411 (lv_at hl 4 rfl) ?_
  refine lv_iconst (v := 1) hx hb dL_law_413 (by decide) ?_
  refine lv_iadd hx hb dL_law_414 ?_
  refine va_sld hx hb hX hbl hbA hS s1 dL_law_415 ?_
  refine lv_aload_n hx hb dL_law_416 rfl (lv_at hl 0 rfl) ?_
  refine lv_iload hx hb dL_law_417 (lv_at hl 4 rfl) ?_
  refine lv_iconst (v := 2) hx hb dL_law_419 (by decide) ?_
  refine lv_iadd hx hb dL_law_420 ?_
  refine va_sld hx hb hX hbl hbA hS s2 dL_law_421 ?_
  refine L_bool hx hb 422 dL_law_422 dL_law_425 dL_law_426 dL_law_429 ?_
  refine x_callP (w := wX) (r := [(aO, oL cO fo)] ++ wM) (va_runV (As := [.int (xs (i4 + 1).toNatClampNeg), .int (if xs (i4 + 2).toNatClampNeg = 0 then (0 : Int32) else 1)]) (rest := []) ⟨hx, hb, hml, hown, hB⟩ (c_X_fails hR (xs (i4 + 1).toNatClampNeg) (if xs (i4 + 2).toNatClampNeg = 0 then (0 : Int32) else 1)) (cwV 2 hB (gV ml_L_77 im_X_fails sl_X_fails ini_X kc_X_fails) rfl rfl rfl (by decide +kernel) ⟨Nat.le_of_ble_eq_true rfl, Nat.le_of_ble_eq_true rfl⟩) (x_preV (x_app_P hP).1 (hKL.sub (tys' := xTys cI cD cE) [0, 1, 2] rfl) (x_app_D hD).1 hR.x rfl) rfl rfl hl.1 rfl (lv_room (Nat.le_of_ble_eq_true rfl)) dL_law_430 ⟨by show cells + 0 ≤ 601024; omega, by show slots + 0 ≤ 7293034; omega⟩) hP hD hS hA (fun r1 w1 H locs hw hP hD hS => ?_)
  obtain ⟨hr1, hR1⟩ := hw
  rw [← List.append_assoc] at hP hD
  refine lv_aload_n hx hb dL_law_433 rfl (lv_at hl 2 rfl) ?_
  refine lv_aload_n hx hb dL_law_434 rfl (lv_at hl 0 rfl) ?_
  refine lv_iload hx hb dL_law_435 (lv_at hl 4 rfl) ?_
  refine lv_iconst (v := 1) hx hb dL_law_437 (by decide) ?_
  refine lv_iadd hx hb dL_law_438 ?_
  refine va_sld hx hb hX hbl hbA hS s1 dL_law_439 ?_
  refine lv_aload_n hx hb dL_law_440 rfl (lv_at hl 0 rfl) ?_
  refine lv_iload hx hb dL_law_441 (lv_at hl 4 rfl) ?_
  refine lv_iconst (v := 2) hx hb dL_law_443 (by decide) ?_
  refine lv_iadd hx hb dL_law_444 ?_
  refine va_sld hx hb hX hbl hbA hS s2 dL_law_445 ?_
  refine L_bool hx hb 446 dL_law_446 dL_law_449 dL_law_450 dL_law_453 ?_
  refine x_callR (r := w1 ++ [(aO, oL cO fo)]) (w := wM) (va_runV (As := [.int (xs (i4 + 1).toNatClampNeg), .int (if xs (i4 + 2).toNatClampNeg = 0 then (0 : Int32) else 1)]) (rest := [.int r1]) ⟨hx, hb, hml, hown, hB⟩ (c_M_fails hM (xs (i4 + 1).toNatClampNeg) (if xs (i4 + 2).toNatClampNeg = 0 then (0 : Int32) else 1) (onz _)) (cwV 2 hB (gV ml_L_81 im_M_fails sl_M_fails ini_M kc_M_fails) rfl rfl rfl (by decide +kernel) ⟨Nat.le_of_ble_eq_true rfl, Nat.le_of_ble_eq_true rfl⟩) (x_preV (x_app_P hP).2 hKM (x_app_D hD).2.1 hM.1 rfl) rfl rfl hl.1 rfl (lv_room (Nat.le_of_ble_eq_true rfl)) dL_law_454 ⟨by show cells + 0 + 0 ≤ 601024; omega, by show slots + 0 + 0 ≤ 7293034; omega⟩) hP hD hS hA (fun r2 w2 H locs hw2 hP hD hS => ?_)
  obtain ⟨hr2, hM2⟩ := hw2
  refine W.widen (k := cells + 1) (n := slots + 12) (by omega) (by omega) ?_
  refine lv_icmp_eq (tgt := 867) hx hb dL_law_457 (by decide) (fun _ => ?_) (fun c1 => absurd ((hr1.trans a1).trans hr2.symm) c1)
  exact kk w1 w2 fo ls H locs ⟨_, _, _, _, _, _, _, _, _, _, _, _, _, _, _, _, _, _, _, _, _, hR1, hM2, a2⟩ ⟨hP, hD, hS⟩ hl
set_option maxHeartbeats 4000000 in
set_option maxRecDepth 100000 in
theorem L_count (C : LC p l s m c b L xs G cI cD cE cO ca) (hst : LST cI cD cE ca aX aM am wX wM) (hW : LWO G s cO aO wX wM fo H locs) (hl : lv_has ls 7 [(0, .ref b), (1, .ref aX), (2, .ref aM), (3, .ref aO), (4, .int i4)]) (s1 : vp_in (i4 + 1) L) (s2 : vp_in (i4 + 2) L) (s3 : vp_in (i4 + 3) L) (s4 : vp_in (i4 + 4) L) (hcells : cells + 1 ≤ 601024) (hslots : slots + 12 ≤ 7293034)
    (kk : ∀ (wX wM : va_W) (fo : Nat → Int64) (ls : Array Slot) (H : Heap) (locs : List Loc), LST cI cD cE ca aX aM am wX wM → LWO G s cO aO wX wM fo H locs → lv_has ls 7 [(0, .ref b), (1, .ref aX), (2, .ref aM), (3, .ref aO), (4, .int i4)] → W p l e room_1 s m #[Value.ref b] below meth c H locs (cells + 1) (slots + 12) Q (F0 m 867 ls [])) : W p l e room_1 s m #[Value.ref b] below meth c H locs cells slots Q (F0 m 842 ls []) := by
  have C0 := C
  obtain ⟨hx, hb, hml, hown, hB, hX, hbl, hthr, hN, hKL, hKM, hl9⟩ := C
  obtain ⟨hP, hD, hS⟩ := hW
  have hA : ∀ q : Nat, s.heap.size ≤ q → (fun q : Nat => s.heap.size ≤ q) q := fun _ h => h
  have hbA : ¬ (fun q : Nat => s.heap.size ≤ q) b := Nat.not_le.mpr hbl
  obtain ⟨aR, aD, aE, dA, eA, g, ro, fst, nD, nE, d, fw, lw, ed, ev, nx, h, ar, nP, wl, wr, hR, hM, I⟩ := hst
  have hg1 := I.1.1
  have hp2 := I.1.2.1
  have hnP := I.1.2.2.1
  have hg3 := I.1.2.2.2.1
  have hd4 := I.1.2.2.2.2.1
  have hnD := I.1.2.2.2.2.2.1
  have hg5 := I.1.2.2.2.2.2.2.1
  have he13 := I.1.2.2.2.2.2.2.2.1
  have hnE := I.1.2.2.2.2.2.2.2.2.1
  have a1 := P_count I (xs (i4 + 1).toNatClampNeg)
  rw [List.append_assoc] at hP hD
  refine lv_aload_n hx hb dL_law_842 rfl (lv_at hl 1 rfl) ?_
  refine lv_aload_n hx hb dL_law_843 rfl (lv_at hl 0 rfl) ?_
  refine lv_iload hx hb dL_law_844 (lv_at hl 4 rfl) ?_
  refine lv_iconst (v := 1) hx hb dL_law_846 (by decide) ?_
  refine lv_iadd hx hb dL_law_847 ?_
  refine va_sld hx hb hX hbl hbA hS s1 dL_law_848 ?_
  refine x_callP (w := wX) (r := [(aO, oL cO fo)] ++ wM) (va_runV (As := [.int (xs (i4 + 1).toNatClampNeg)]) (rest := []) ⟨hx, hb, hml, hown, hB⟩ (c_X_count hR hg3 hnD (xs (i4 + 1).toNatClampNeg)) (cwV 1 hB (gV ml_L_99 im_X_count sl_X_count ini_X kc_X_count) rfl rfl rfl (by decide +kernel) ⟨Nat.le_of_ble_eq_true rfl, Nat.le_of_ble_eq_true rfl⟩) (x_preV (x_app_P hP).1 (hKL.sub (tys' := xTys cI cD cE) [0, 1, 2] rfl) (x_app_D hD).1 hR.x rfl) rfl rfl hl.1 rfl (lv_room (Nat.le_of_ble_eq_true rfl)) dL_law_849 ⟨by show cells + 0 ≤ 601024; omega, by show slots + 0 ≤ 7293034; omega⟩) hP hD hS hA (fun r1 w1 H locs hw hP hD hS => ?_)
  obtain ⟨hr1, rfl⟩ := hw
  rw [← List.append_assoc] at hP hD
  refine lv_aload_n hx hb dL_law_852 rfl (lv_at hl 2 rfl) ?_
  refine lv_aload_n hx hb dL_law_853 rfl (lv_at hl 0 rfl) ?_
  refine lv_iload hx hb dL_law_854 (lv_at hl 4 rfl) ?_
  refine lv_iconst (v := 1) hx hb dL_law_856 (by decide) ?_
  refine lv_iadd hx hb dL_law_857 ?_
  refine va_sld hx hb hX hbl hbA hS s1 dL_law_858 ?_
  refine x_callR (r := wX ++ [(aO, oL cO fo)]) (w := wM) (va_runV (As := [.int (xs (i4 + 1).toNatClampNeg)]) (rest := [.int r1]) ⟨hx, hb, hml, hown, hB⟩ (c_M_count hM (xs (i4 + 1).toNatClampNeg) hd4 hnD he13 hnE) (cwV 1 hB (gV ml_L_102 im_M_count sl_M_count ini_M kc_M_count) rfl rfl rfl (by decide +kernel) ⟨Nat.le_of_ble_eq_true rfl, Nat.le_of_ble_eq_true rfl⟩) (x_preV (x_app_P hP).2 hKM (x_app_D hD).2.1 hM.1 rfl) rfl rfl hl.1 rfl (lv_room (Nat.le_of_ble_eq_true rfl)) dL_law_859 ⟨by show cells + 0 + 0 ≤ 601024; omega, by show slots + 0 + 0 ≤ 7293034; omega⟩) hP hD hS hA (fun r2 w2 H locs hw2 hP hD hS => ?_)
  obtain ⟨hr2, hM2⟩ := hw2
  refine W.widen (k := cells + 1) (n := slots + 12) (by omega) (by omega) ?_
  refine lv_icmp_eq (tgt := 867) hx hb dL_law_862 (by decide) (fun _ => ?_) (fun c1 => absurd ((hr1.trans a1).trans hr2.symm) c1)
  exact kk wX w2 fo ls H locs ⟨_, _, _, _, _, _, _, _, _, _, _, _, _, _, _, _, _, _, _, _, _, hR, hM2, INV_h0 0 I⟩ ⟨hP, hD, hS⟩ hl
end LAWC
