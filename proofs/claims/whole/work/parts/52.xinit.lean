def gNew : Nat → Int32
  | 9 => 8 | 10 => 16 | _ => 0
abbrev xB : List Value := [.null, .int 0, .null, .int 0, .null, .int 0, .null, .int 0, .int 0, .int 0, .int 0, .int 0]
def xNew (G : va_G) (A : Nat → Prop) (aX : Nat) (u : va_W × List (ClassId × FieldType)) (t : State) : Prop := xEnd G u.2 A u.1 t
def xNewP (aX : Nat) (u : va_W × List (ClassId × FieldType)) : Prop := ∃ (aR aD aE : Nat) (cI cD cE : ClassId), u.2 = xTys cI cD cE ∧ RX cI cD cE aX aR aD aE (fun _ => 0) (fun _ => 0) gNew (fun _ => 0) none 0 0 (fun _ _ => 0) (fun _ => none) (fun _ => none) (fun _ => 0) (fun _ _ => 0) (fun _ => none) u.1
set_option maxHeartbeats 4000000 in
set_option maxRecDepth 100000 in
theorem c_X_init {l : Launch} {G : va_G} {sz aX : Nat} : Met l yX_init wsX_init ({ frames := 1, cells := 3, slots := 152, locals := 12 }) (va_Pc [.ref aX] (fun U => xPre G [] [(aX, .inr (ciX, xB))] sz U ∧ va_AO NmD U ∧ va_AO NmE U)) (va_Qv (xNewP aX) (xNew G (va_A [(aX, .inr (ciX, xB))] sz) aX) (va_A [(aX, .inr (ciX, xB))] sz)) 3 152 (va_A [(aX, .inr (ciX, xB))] sz) := by
  refine Met.ofW (cc := cX_init) (maxL := 1) (ret := none) (by decide) rfl ?_
  intro p e s m args below meth c s₁ B hml hv
  obtain ⟨rfl, ⟨hsz, hP, hK, hD0⟩, hoD, hoE⟩ := hv
  subst hsz
  have hx := B.exec
  have hb := B.bytes
  have hr := B.returns
  have hlocks := B.notSynchronized
  have hin : meth.name = "<init>" := (name_of_methodNamed B.named B.method).1
  have hown : s.vm.findClass NmX = some m.cls := findClass_of_methodNamed B.named
  have hB : ∀ w ∈ BIG, w.before [Value.ref aX].toArray s = true := fun w h => atoms_spec (ws := wsX_init) B.pre w (List.mem_cons_of_mem _ h)
  have hD := hD0.self (sz := s.heap.size)
  generalize hAe : va_A [(aX, .inr (ciX, xB))] s.heap.size = A at hD ⊢
  have hA : ∀ q : Nat, s.heap.size ≤ q → A q := fun q h => by rw [← hAe]; exact Or.inr h
  have hS : va_S A s.heap s.heap [] := va_S.rf
  have hl := lv_entry [Value.ref aX] (n := 1) (Nat.le_of_ble_eq_true rfl)
  rw [lg_entry_eq]
  generalize (lg_sl [Value.ref aX] ++ List.replicate (1 - (lg_sl [Value.ref aX]).length) Slot.unset).toArray = ls at hl ⊢
  have hl : lv_has ls 1 [(0, .ref aX)] := hl
  refine lv_aload_n hx hb dX_init_0 rfl (lv_at hl 0 rfl) ?_
  refine W.objInit hx hb hown (hB _ ml_X_1) (hB _ oi_im) (hB _ oi_code) rfl (by rw [hml]; exact hl.1) rfl dX_init_1 (Nat.le_of_ble_eq_true rfl) (Nat.le_of_ble_eq_true rfl) ?_
  refine W.eq (g2 := F0 m 4 ls []) rfl ?_
  refine lv_aload_n hx hb dX_init_4 rfl (lv_at hl 0 rfl) ?_
  refine lv_bipush (v := 12) hx hb dX_init_5 (by decide) ?_
  refine va_newa (atype := .int) (ty := .int) (N' := 12) (a0 := (12, .inl (fun _ => 0))) hx hb (hB _ ac_int) rfl hK hP hD hS hA (fun _ => rfl) (by decide) rfl (by decide) (Nat.le_of_ble_eq_true rfl) (Nat.le_of_ble_eq_true rfl) dX_init_7 (fun aR cI H hK hP hD hS => ?_)
  refine va_putF (D := G) (ci := ciX) (v := .ref aR) (ty := .array .int) (C := NmX) (T := TmX) (N := 12) hx hb hB inBX tyX tyX_ok nmX hown hK hP hD hS 0 rfl rfl 0 (by decide) (hB _ fl_X_9) (fun _ h9 => h9) rfl hin rfl (by decide +kernel) rfl rfl (Nat.le_of_ble_eq_true rfl) dX_init_9 (fun H locs hP hD hS => ?_)
  refine lv_aload_n hx hb dX_init_12 rfl (lv_at hl 0 rfl) ?_
  refine lv_bipush (v := 20) hx hb dX_init_13 (by decide) ?_
  refine va_newq (own := NmX) (C := NmD) (N' := 20) hx hb hown (hB _ cl_X_13) hoD hK hP hD hS hA (by decide) rfl (by decide) (Nat.le_of_ble_eq_true rfl) (Nat.le_of_ble_eq_true rfl) dX_init_15 (fun aD cD H hK hP hD hS => ?_)
  refine va_putF (D := G) (ci := ciX) (v := .ref aD) (ty := .array (.object NmD)) (C := NmX) (T := TmX) (N := 12) hx hb hB inBX tyX tyX_ok nmX hown hK hP hD hS 0 rfl rfl 2 (by decide) (hB _ fl_X_15) (fun _ h9 => h9) rfl hin rfl (by decide +kernel) rfl rfl (Nat.le_of_ble_eq_true rfl) dX_init_18 (fun H locs hP hD hS => ?_)
  refine lv_aload_n hx hb dX_init_21 rfl (lv_at hl 0 rfl) ?_
  refine lv_bipush (v := 120) hx hb dX_init_22 (by decide) ?_
  refine va_newq (own := NmX) (C := NmE) (N' := 120) hx hb hown (hB _ cl_X_19) hoE hK hP hD hS hA (by decide) rfl (by decide) (Nat.le_of_ble_eq_true rfl) (Nat.le_of_ble_eq_true rfl) dX_init_24 (fun aE cE H hK hP hD hS => ?_)
  refine va_putF (D := G) (ci := ciX) (v := .ref aE) (ty := .array (.object NmE)) (C := NmX) (T := TmX) (N := 12) hx hb hB inBX tyX tyX_ok nmX hown hK hP hD hS 0 rfl rfl 4 (by decide) (hB _ fl_X_21) (fun _ h9 => h9) rfl hin rfl (by decide +kernel) rfl rfl (Nat.le_of_ble_eq_true rfl) dX_init_27 (fun H locs hP hD hS => ?_)
  refine lv_aload_n hx hb dX_init_30 rfl (lv_at hl 0 rfl) ?_
  refine lv_bipush (v := 8) hx hb dX_init_31 (by decide) ?_
  refine va_put (D := G) (ci := ciX) (v := .int 8) (ty := .int) (C := NmX) (T := TmX) (N := 12) hx hb hB inBX tyX tyX_ok nmX hown hK hP hD hS 0 rfl rfl 9 (by decide) (hB _ fl_X_25) (fun _ h9 => h9) rfl (by decide +kernel) rfl rfl (Nat.le_of_ble_eq_true rfl) dX_init_33 (fun H locs hP hD hS => ?_)
  refine lv_aload_n hx hb dX_init_36 rfl (lv_at hl 0 rfl) ?_
  refine lv_bipush (v := 16) hx hb dX_init_37 (by decide) ?_
  refine va_put (D := G) (ci := ciX) (v := .int 16) (ty := .int) (C := NmX) (T := TmX) (N := 12) hx hb hB inBX tyX tyX_ok nmX hown hK hP hD hS 0 rfl rfl 10 (by decide) (hB _ fl_X_29) (fun _ h9 => h9) rfl (by decide +kernel) rfl rfl (Nat.le_of_ble_eq_true rfl) dX_init_39 (fun H locs hP hD hS => ?_)
  have hw9 : RX cI cD cE aX aR aD aE (fun _ => 0) (fun _ => 0) gNew (fun _ => 0) none 0 0 (fun _ _ => 0) (fun _ => none) (fun _ => none) (fun _ => 0) (fun _ _ => 0) (fun _ => none) [(aX, .inr (ciX, [.ref aR, .int 0, .ref aD, .int 0, .ref aE, .int 0, .null, .int 0, .int 0, .int 8, .int 16, .int 0])), (aR, arI cI 12 (fun _ => 0)), (aD, arR cD 20 (fun _ => none)), (aE, arR cE 120 (fun _ => none))] := by
    refine ⟨⟨fun _ => 0, fun _ => 0, ⟨rfl, rfl, ?_, ?_, fun j hj => absurd hj (by omega), fun k hk => absurd hk (by omega)⟩, fun i j hi => absurd hi (by omega), fun i j hi => absurd hi (by omega)⟩, okP_none, fun j hj => absurd hj (by omega), fun k hk => absurd hk (by omega)⟩
    · show some _ = some _; rw [show (rA (fun _ => 0) 0) = fun _ => none by funext k; rfl]
    · show some _ = some _; rw [show (rA (fun _ => 0) 0) = fun _ => none by funext k; rfl]
  refine W.widen (k := 3) (n := 152) (Nat.le_of_ble_eq_true rfl) (Nat.le_of_ble_eq_true rfl) ?_
  exact W.vret hx hb hr (fun t ht hW => ⟨⟨(_, xTys cI cD cE), rfl, ⟨aR, aD, aE, cI, cD, cE, rfl, hw9⟩, by show va_P G vwCl _ t.heap; rw [ht]; exact hP, va_K.moved hW.alike hK, hD⟩, hS.F ht⟩) hS.2.2 dX_init_42
