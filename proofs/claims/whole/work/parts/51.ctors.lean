set_option maxHeartbeats 4000000 in
set_option maxRecDepth 100000 in
theorem c_D_init {l : Launch} {G : va_G} {tys : List (ClassId × FieldType)} {w0 : va_W} {sz q : Nat} (a9 b9 c9 : Int32) {eA : Nat → Nat} : xMv l yD_init wsD_init ({ frames := 1, cells := 0, slots := 0, locals := 12 }) [.ref q, .int a9, .int b9, .int c9] G tys (w0 ++ ([(q, .inr (ciD, dB))] : va_W)) sz (fun w' => w' = (w0 ++ ([(q, .inr (ciD, dFs eA (fNewD a9 b9 c9) none none))] : va_W))) 0 0 := by
  refine x_ofW (y := yD_init) (ws := wsD_init) (av := [.ref q, .int a9, .int b9, .int c9]) (w := (w0 ++ ([(q, .inr (ciD, dB))] : va_W))) (fun A => va_Qv (fun w' => w' = (w0 ++ ([(q, .inr (ciD, dFs eA (fNewD a9 b9 c9) none none))] : va_W))) (xEnd G tys A) A) cD_init 4 none (by decide) rfl (Nat.le_of_ble_eq_true rfl) ?_
  intro p e s m below meth c A ls hx hb hr hlocks hml hnm hown hB hA hP hK hD hS hl
  have hl : lv_has ls 4 [(0, .ref q), (1, .int a9), (2, .int b9), (3, .int c9)] := hl
  have hown : s.vm.findClass NmD = some m.cls := hown
  refine lv_aload_n hx hb dD_init_0 rfl (lv_at hl 0 rfl) ?_
  refine W.objInit hx hb hown (hB _ ml_D_3) (hB _ oi_im) (hB _ oi_code) rfl (by rw [hml]; exact hl.1) rfl dD_init_1 (Nat.le_of_ble_eq_true rfl) (Nat.le_of_ble_eq_true rfl) ?_
  refine W.eq (g2 := F0 m 4 ls []) rfl ?_
  refine lv_aload_n hx hb dD_init_4 rfl (lv_at hl 0 rfl) ?_
  refine lv_iload_n hx hb dD_init_5 rfl (lv_at hl 1 rfl) ?_
  refine va_putF (D := G) (ci := ciD) (v := .int a9) (ty := .int) (C := NmD) (T := TmD) (N := 12) hx hb hB inBD tyD tyD_ok nmD hown hK hP hD hS w0.length x_app_get rfl 0 (by decide) (hB _ fl_D_9) (fun _ h9 => h9) rfl hnm rfl (by decide +kernel) rfl rfl (Nat.le_of_ble_eq_true rfl) dD_init_6 (fun H locs hP hD hS => ?_)
  rw [x_app_set] at hP hD
  refine lv_aload_n hx hb dD_init_9 rfl (lv_at hl 0 rfl) ?_
  refine lv_iload_n hx hb dD_init_10 rfl (lv_at hl 2 rfl) ?_
  refine va_putF (D := G) (ci := ciD) (v := .int b9) (ty := .int) (C := NmD) (T := TmD) (N := 12) hx hb hB inBD tyD tyD_ok nmD hown hK hP hD hS w0.length x_app_get rfl 1 (by decide) (hB _ fl_D_15) (fun _ h9 => h9) rfl hnm rfl (by decide +kernel) rfl rfl (Nat.le_of_ble_eq_true rfl) dD_init_11 (fun H locs hP hD hS => ?_)
  rw [x_app_set] at hP hD
  refine lv_aload_n hx hb dD_init_14 rfl (lv_at hl 0 rfl) ?_
  refine lv_iload_n hx hb dD_init_15 rfl (lv_at hl 3 rfl) ?_
  refine va_putF (D := G) (ci := ciD) (v := .int c9) (ty := .int) (C := NmD) (T := TmD) (N := 12) hx hb hB inBD tyD tyD_ok nmD hown hK hP hD hS w0.length x_app_get rfl 2 (by decide) (hB _ fl_D_18) (fun _ h9 => h9) rfl hnm rfl (by decide +kernel) rfl rfl (Nat.le_of_ble_eq_true rfl) dD_init_16 (fun H locs hP hD hS => ?_)
  rw [x_app_set] at hP hD
  refine lv_aload_n hx hb dD_init_19 rfl (lv_at hl 0 rfl) ?_
  refine lv_iconst (v := 0) hx hb dD_init_20 (by decide) ?_
  refine va_put (D := G) (ci := ciD) (v := .int 0) (ty := .int) (C := NmD) (T := TmD) (N := 12) hx hb hB inBD tyD tyD_ok nmD hown hK hP hD hS w0.length x_app_get rfl 3 (by decide) (hB _ fl_D_21) (fun _ h9 => h9) rfl (by decide +kernel) rfl rfl (Nat.le_of_ble_eq_true rfl) dD_init_21 (fun H locs hP hD hS => ?_)
  rw [x_app_set] at hP hD
  refine lv_aload_n hx hb dD_init_24 rfl (lv_at hl 0 rfl) ?_
  refine lv_iconst (v := (-1)) hx hb dD_init_25 (by decide) ?_
  refine va_put (D := G) (ci := ciD) (v := .int (-1)) (ty := .int) (C := NmD) (T := TmD) (N := 12) hx hb hB inBD tyD tyD_ok nmD hown hK hP hD hS w0.length x_app_get rfl 7 (by decide) (hB _ fl_D_24) (fun _ h9 => h9) rfl (by decide +kernel) rfl rfl (Nat.le_of_ble_eq_true rfl) dD_init_26 (fun H locs hP hD hS => ?_)
  rw [x_app_set] at hP hD
  exact x_vret hx hb hr hlocks rfl hP hK hD hS dD_init_29
set_option maxHeartbeats 4000000 in
set_option maxRecDepth 100000 in
theorem c_E_init {l : Launch} {G : va_G} {tys : List (ClassId × FieldType)} {w0 : va_W} {sz q : Nat} (x9 : Nat) (k9 w9 t9 : Int32) {dA eA : Nat → Nat} {j : Nat} (hx9 : x9 = dA j) : xMv l yE_init wsE_init ({ frames := 1, cells := 0, slots := 0, locals := 12 }) [.ref q, .ref x9, .int k9, .int w9, .int t9] G tys (w0 ++ ([(q, .inr (ciE, eB))] : va_W)) sz (fun w' => w' = (w0 ++ ([(q, .inr (ciE, eFs dA eA j (fNewE k9 w9 t9) none))] : va_W))) 0 0 := by
  subst hx9
  refine x_ofW (y := yE_init) (ws := wsE_init) (av := [.ref q, .ref (dA j), .int k9, .int w9, .int t9]) (w := (w0 ++ ([(q, .inr (ciE, eB))] : va_W))) (fun A => va_Qv (fun w' => w' = (w0 ++ ([(q, .inr (ciE, eFs dA eA j (fNewE k9 w9 t9) none))] : va_W))) (xEnd G tys A) A) cE_init 5 none (by decide) rfl (Nat.le_of_ble_eq_true rfl) ?_
  intro p e s m below meth c A ls hx hb hr hlocks hml hnm hown hB hA hP hK hD hS hl
  have hl : lv_has ls 5 [(0, .ref q), (1, .ref (dA j)), (2, .int k9), (3, .int w9), (4, .int t9)] := hl
  have hown : s.vm.findClass NmE = some m.cls := hown
  refine lv_aload_n hx hb dE_init_0 rfl (lv_at hl 0 rfl) ?_
  refine W.objInit hx hb hown (hB _ ml_E_3) (hB _ oi_im) (hB _ oi_code) rfl (by rw [hml]; exact hl.1) rfl dE_init_1 (Nat.le_of_ble_eq_true rfl) (Nat.le_of_ble_eq_true rfl) ?_
  refine W.eq (g2 := F0 m 4 ls []) rfl ?_
  refine lv_aload_n hx hb dE_init_4 rfl (lv_at hl 0 rfl) ?_
  refine lv_aload_n hx hb dE_init_5 rfl (lv_at hl 1 rfl) ?_
  refine va_putF (D := G) (ci := ciE) (v := .ref (dA j)) (ty := .object NmD) (C := NmE) (T := TmE) (N := 6) hx hb hB inBE tyE tyE_ok nmE hown hK hP hD hS w0.length x_app_get rfl 0 (by decide) (hB _ fl_E_9) (fun _ h9 => h9) rfl hnm rfl (by decide +kernel) rfl rfl (Nat.le_of_ble_eq_true rfl) dE_init_6 (fun H locs hP hD hS => ?_)
  rw [x_app_set] at hP hD
  refine lv_aload_n hx hb dE_init_9 rfl (lv_at hl 0 rfl) ?_
  refine lv_iload_n hx hb dE_init_10 rfl (lv_at hl 2 rfl) ?_
  refine va_putF (D := G) (ci := ciE) (v := .int k9) (ty := .int) (C := NmE) (T := TmE) (N := 6) hx hb hB inBE tyE tyE_ok nmE hown hK hP hD hS w0.length x_app_get rfl 1 (by decide) (hB _ fl_E_15) (fun _ h9 => h9) rfl hnm rfl (by decide +kernel) rfl rfl (Nat.le_of_ble_eq_true rfl) dE_init_11 (fun H locs hP hD hS => ?_)
  rw [x_app_set] at hP hD
  refine lv_aload_n hx hb dE_init_14 rfl (lv_at hl 0 rfl) ?_
  refine lv_iload_n hx hb dE_init_15 rfl (lv_at hl 3 rfl) ?_
  refine va_putF (D := G) (ci := ciE) (v := .int w9) (ty := .int) (C := NmE) (T := TmE) (N := 6) hx hb hB inBE tyE tyE_ok nmE hown hK hP hD hS w0.length x_app_get rfl 2 (by decide) (hB _ fl_E_19) (fun _ h9 => h9) rfl hnm rfl (by decide +kernel) rfl rfl (Nat.le_of_ble_eq_true rfl) dE_init_16 (fun H locs hP hD hS => ?_)
  rw [x_app_set] at hP hD
  refine lv_aload_n hx hb dE_init_19 rfl (lv_at hl 0 rfl) ?_
  refine lv_iload hx hb dE_init_20 (lv_at hl 4 rfl) ?_
  refine va_putF (D := G) (ci := ciE) (v := .int t9) (ty := .int) (C := NmE) (T := TmE) (N := 6) hx hb hB inBE tyE tyE_ok nmE hown hK hP hD hS w0.length x_app_get rfl 3 (by decide) (hB _ fl_E_22) (fun _ h9 => h9) rfl hnm rfl (by decide +kernel) rfl rfl (Nat.le_of_ble_eq_true rfl) dE_init_22 (fun H locs hP hD hS => ?_)
  rw [x_app_set] at hP hD
  refine lv_aload_n hx hb dE_init_25 rfl (lv_at hl 0 rfl) ?_
  refine lv_iconst (v := (-1)) hx hb dE_init_26 (by decide) ?_
  refine va_put (D := G) (ci := ciE) (v := .int (-1)) (ty := .int) (C := NmE) (T := TmE) (N := 6) hx hb hB inBE tyE tyE_ok nmE hown hK hP hD hS w0.length x_app_get rfl 4 (by decide) (hB _ fl_E_25) (fun _ h9 => h9) rfl (by decide +kernel) rfl rfl (Nat.le_of_ble_eq_true rfl) dE_init_27 (fun H locs hP hD hS => ?_)
  rw [x_app_set] at hP hD
  exact x_vret hx hb hr hlocks rfl hP hK hD hS dE_init_30
