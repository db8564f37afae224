set_option maxRecDepth 20000 in
theorem wi_X0_init_m3 : Cond.methodLink RX0 3 objectInit ∈ wsX0_init := by decide +kernel
set_option maxRecDepth 20000 in
theorem wi_X0_init_io : Cond.instanceMethod objectInit ∈ wsX0_init := by decide +kernel
set_option maxRecDepth 20000 in
theorem wi_X0_init_co : Cond.code objectInit ⟨#[0xb1]⟩ 1 none ∈ wsX0_init := by decide +kernel
set_option maxRecDepth 20000 in
theorem wi_X0_init_aint : Cond.arrayClass .int ∈ wsX0_init := by decide +kernel
set_option maxRecDepth 20000 in
theorem ni_X0_init_X0 : ∀ w ∈ wsX00, w ∈ wsX0_init := by decide +kernel
set_option maxRecDepth 20000 in
theorem wi_X0_init_f9 : Cond.fieldLink RX0 9 "LayerStacks$Board" "kinds" "[I" ∈ wsX0_init := by decide +kernel
set_option maxRecDepth 20000 in
theorem wi_X0_init_along : Cond.arrayClass .long ∈ wsX0_init := by decide +kernel
set_option maxRecDepth 20000 in
theorem wi_X0_init_f15 : Cond.fieldLink RX0 15 "LayerStacks$Board" "names" "[J" ∈ wsX0_init := by decide +kernel
set_option maxRecDepth 20000 in
theorem wi_X0_init_f19 : Cond.fieldLink RX0 19 "LayerStacks$Board" "thicknesses" "[I" ∈ wsX0_init := by decide +kernel
set_option maxRecDepth 20000 in
theorem wi_X0_init_f22 : Cond.fieldLink RX0 22 "LayerStacks$Board" "spreads" "[I" ∈ wsX0_init := by decide +kernel
set_option maxRecDepth 20000 in
theorem wi_X0_init_f25 : Cond.fieldLink RX0 25 "LayerStacks$Board" "shares" "[I" ∈ wsX0_init := by decide +kernel
set_option maxRecDepth 20000 in
theorem wi_X0_init_f28 : Cond.fieldLink RX0 28 "LayerStacks$Board" "copperNumbers" "[I" ∈ wsX0_init := by decide +kernel
set_option maxRecDepth 20000 in
theorem wi_X0_init_f31 : Cond.fieldLink RX0 31 "LayerStacks$Board" "copperLayers" "[I" ∈ wsX0_init := by decide +kernel
set_option maxRecDepth 20000 in
theorem ni_X0_init_X2 : ∀ w ∈ wsX20, w ∈ wsX0_init := by decide +kernel
set_option maxRecDepth 20000 in
theorem wi_X0_init_l34 : Cond.classLink RX0 34 RX2 ∈ wsX0_init := by decide +kernel
set_option maxRecDepth 20000 in
theorem wi_X0_init_inX2 : Cond.instantiable RX2 2 ∈ wsX0_init := by decide +kernel
set_option maxRecDepth 20000 in
theorem wi_X0_init_iX2 : Cond.initialized RX2 ∈ wsX0_init := by decide +kernel
set_option maxRecDepth 20000 in
theorem wi_X0_init_imX2 : Cond.instanceMethod yX2_init ∈ wsX0_init := by decide +kernel
set_option maxRecDepth 20000 in
theorem wi_X0_init_f37 : Cond.fieldLink RX0 37 "LayerStacks$Board" "pressings" "LLayerStacks$Pressings;" ∈ wsX0_init := by decide +kernel
set_option maxRecDepth 20000 in
theorem ni_X0_init_X3 : ∀ w ∈ wsX30, w ∈ wsX0_init := by decide +kernel
set_option maxRecDepth 20000 in
theorem wi_X0_init_l41 : Cond.classLink RX0 41 RX3 ∈ wsX0_init := by decide +kernel
set_option maxRecDepth 20000 in
theorem wi_X0_init_inX3 : Cond.instantiable RX3 3 ∈ wsX0_init := by decide +kernel
set_option maxRecDepth 20000 in
theorem wi_X0_init_iX3 : Cond.initialized RX3 ∈ wsX0_init := by decide +kernel
set_option maxRecDepth 20000 in
theorem wi_X0_init_mi43 : Cond.methodLink RX0 43 yX3_init ∈ wsX0_init := by decide +kernel
set_option maxRecDepth 20000 in
theorem wi_X0_init_imX3 : Cond.instanceMethod yX3_init ∈ wsX0_init := by decide +kernel
set_option maxRecDepth 20000 in
theorem wi_X0_init_f46 : Cond.fieldLink RX0 46 "LayerStacks$Board" "vias" "LLayerStacks$Spans;" ∈ wsX0_init := by decide +kernel
set_option maxHeartbeats 4000000 in
set_option maxRecDepth 100000 in
theorem c_X0_init (l : Launch) (D : va_G) (y : Nat → ClassId) (h0 : Nat) (sz : Nat) : Met l yX0_init wsX0_init ({ frames := 3, cells := 14, slots := 642, locals := 63 } : Room) (va_Pc [.ref h0] (cPN D y ([(h0, .inr (0, [.null, .null, .null, .null, .null, .null, .null, .null, .null, .int 0, .int 0, .int 0]))] : va_W) sz)) (QN D y (va_A ([(h0, .inr (0, [.null, .null, .null, .null, .null, .null, .null, .null, .null, .int 0, .int 0, .int 0]))] : va_W) sz) h0 (fun q => wdX0 q y (fun _ => 0) (fun _ => 0) (fun _ => 0) (fun _ => 0) (fun _ => 0) (fun _ => 0) (fun _ => 0) (fun _ => 0) (fun _ => 0) 0 0 (fun _ => 0) (fun _ => 0) 0 0 0 0)) 14 642 (va_A ([(h0, .inr (0, [.null, .null, .null, .null, .null, .null, .null, .null, .null, .int 0, .int 0, .int 0]))] : va_W) sz) := by
  refine met_ofN (own := RX0) (cc := cX0_init) (maxL := 1) (ret := none) (by decide) rfl rfl rfl (Nat.le_of_ble_eq_true rfl) ?_
  intro p e s m below meth c ls C hin hsz hK hP hD hA hS hJ hl
  obtain ⟨⟨hx, hb, hml, hown, hts⟩, hr, hlocks⟩ := id C
  have hl : lv_has ls 1 [(0, .ref h0)] := hl
  generalize (va_A ([(h0, .inr (0, [.null, .null, .null, .null, .null, .null, .null, .null, .null, .int 0, .int 0, .int 0]))] : va_W) sz) = A at hD hA hS ⊢
  generalize ([.ref h0] : List Value).toArray = args at C hts ⊢
  refine lv_aload_n hx hb dX0_init_0 rfl (lv_at hl 0 rfl) ?_
  refine W.objInit hx hb hown (hts _ wi_X0_init_m3) (hts _ wi_X0_init_io) (hts _ wi_X0_init_co) rfl (by rw [hml]; exact hl.1) rfl dX0_init_1 (Nat.le_of_ble_eq_true rfl) (Nat.le_of_ble_eq_true rfl) ?_
  refine W.eq (g2 := F0 m 4 ls []) rfl ?_
  refine lv_aload_n hx hb dX0_init_4 rfl (lv_at hl 0 rfl) ?_
  refine lv_bipush (v := (80 : Int32)) hx hb dX0_init_5 (by decide) ?_
  refine newa_i hx hb (hts _ wi_X0_init_aint) hK hP hD hS hA 80 (by decide +kernel) (by decide +kernel) (by decide +kernel) (Nat.le_of_ble_eq_true rfl) (Nat.le_of_ble_eq_true rfl) dX0_init_7 (fun a1 H hP hD hS => ?_)
  have hP : va_P D vwCl ([(h0, .inr (0, [.null, .null, .null, .null, .null, .null, .null, .null, .null, .int 0, .int 0, .int 0])), (a1, .inl (y 0, 80, .inl (fun _ => 0)))] : va_W) H := hP
  have hD : va_D A ([(h0, .inr (0, [.null, .null, .null, .null, .null, .null, .null, .null, .null, .int 0, .int 0, .int 0])), (a1, .inl (y 0, 80, .inl (fun _ => 0)))] : va_W) := hD
  refine va_putF (D := D) (ci := 0) (v := .ref a1) (ty := (.array .int)) (C := RX0) (T := TX0) (N := 12) hx hb hts ni_X0_init_X0 tyX0 tyX0_ok nmX0 hown hK hP hD hS 0 rfl rfl 0 (by decide) (hts _ wi_X0_init_f9) (fun _ h9 => h9) rfl hin rfl (by decide +kernel) rfl rfl (Nat.le_of_ble_eq_true rfl) dX0_init_9 (fun H locs hP hD hS => ?_)
  have hP : va_P D vwCl ([(h0, .inr (0, [.ref a1, .null, .null, .null, .null, .null, .null, .null, .null, .int 0, .int 0, .int 0])), (a1, .inl (y 0, 80, .inl (fun _ => 0)))] : va_W) H := hP
  have hD : va_D A ([(h0, .inr (0, [.ref a1, .null, .null, .null, .null, .null, .null, .null, .null, .int 0, .int 0, .int 0])), (a1, .inl (y 0, 80, .inl (fun _ => 0)))] : va_W) := hD
  refine lv_aload_n hx hb dX0_init_12 rfl (lv_at hl 0 rfl) ?_
  refine lv_bipush (v := (80 : Int32)) hx hb dX0_init_13 (by decide) ?_
  refine newa_l hx hb (hts _ wi_X0_init_along) hK hP hD hS hA 80 (by decide +kernel) (by decide +kernel) (by decide +kernel) (Nat.le_of_ble_eq_true rfl) (Nat.le_of_ble_eq_true rfl) dX0_init_15 (fun a2 H hP hD hS => ?_)
  have hP : va_P D vwCl ([(h0, .inr (0, [.ref a1, .null, .null, .null, .null, .null, .null, .null, .null, .int 0, .int 0, .int 0])), (a1, .inl (y 0, 80, .inl (fun _ => 0))), (a2, .inl (y 1, 80, .inr (.inl (fun _ => 0))))] : va_W) H := hP
  have hD : va_D A ([(h0, .inr (0, [.ref a1, .null, .null, .null, .null, .null, .null, .null, .null, .int 0, .int 0, .int 0])), (a1, .inl (y 0, 80, .inl (fun _ => 0))), (a2, .inl (y 1, 80, .inr (.inl (fun _ => 0))))] : va_W) := hD
  refine va_putF (D := D) (ci := 0) (v := .ref a2) (ty := (.array .long)) (C := RX0) (T := TX0) (N := 12) hx hb hts ni_X0_init_X0 tyX0 tyX0_ok nmX0 hown hK hP hD hS 0 rfl rfl 1 (by decide) (hts _ wi_X0_init_f15) (fun _ h9 => h9) rfl hin rfl (by decide +kernel) rfl rfl (Nat.le_of_ble_eq_true rfl) dX0_init_17 (fun H locs hP hD hS => ?_)
  have hP : va_P D vwCl ([(h0, .inr (0, [.ref a1, .ref a2, .null, .null, .null, .null, .null, .null, .null, .int 0, .int 0, .int 0])), (a1, .inl (y 0, 80, .inl (fun _ => 0))), (a2, .inl (y 1, 80, .inr (.inl (fun _ => 0))))] : va_W) H := hP
  have hD : va_D A ([(h0, .inr (0, [.ref a1, .ref a2, .null, .null, .null, .null, .null, .null, .null, .int 0, .int 0, .int 0])), (a1, .inl (y 0, 80, .inl (fun _ => 0))), (a2, .inl (y 1, 80, .inr (.inl (fun _ => 0))))] : va_W) := hD
  refine lv_aload_n hx hb dX0_init_20 rfl (lv_at hl 0 rfl) ?_
  refine lv_bipush (v := (80 : Int32)) hx hb dX0_init_21 (by decide) ?_
  refine newa_i hx hb (hts _ wi_X0_init_aint) hK hP hD hS hA 80 (by decide +kernel) (by decide +kernel) (by decide +kernel) (Nat.le_of_ble_eq_true rfl) (Nat.le_of_ble_eq_true rfl) dX0_init_23 (fun a3 H hP hD hS => ?_)
  have hP : va_P D vwCl ([(h0, .inr (0, [.ref a1, .ref a2, .null, .null, .null, .null, .null, .null, .null, .int 0, .int 0, .int 0])), (a1, .inl (y 0, 80, .inl (fun _ => 0))), (a2, .inl (y 1, 80, .inr (.inl (fun _ => 0)))), (a3, .inl (y 0, 80, .inl (fun _ => 0)))] : va_W) H := hP
  have hD : va_D A ([(h0, .inr (0, [.ref a1, .ref a2, .null, .null, .null, .null, .null, .null, .null, .int 0, .int 0, .int 0])), (a1, .inl (y 0, 80, .inl (fun _ => 0))), (a2, .inl (y 1, 80, .inr (.inl (fun _ => 0)))), (a3, .inl (y 0, 80, .inl (fun _ => 0)))] : va_W) := hD
  refine va_putF (D := D) (ci := 0) (v := .ref a3) (ty := (.array .int)) (C := RX0) (T := TX0) (N := 12) hx hb hts ni_X0_init_X0 tyX0 tyX0_ok nmX0 hown hK hP hD hS 0 rfl rfl 2 (by decide) (hts _ wi_X0_init_f19) (fun _ h9 => h9) rfl hin rfl (by decide +kernel) rfl rfl (Nat.le_of_ble_eq_true rfl) dX0_init_25 (fun H locs hP hD hS => ?_)
  have hP : va_P D vwCl ([(h0, .inr (0, [.ref a1, .ref a2, .ref a3, .null, .null, .null, .null, .null, .null, .int 0, .int 0, .int 0])), (a1, .inl (y 0, 80, .inl (fun _ => 0))), (a2, .inl (y 1, 80, .inr (.inl (fun _ => 0)))), (a3, .inl (y 0, 80, .inl (fun _ => 0)))] : va_W) H := hP
  have hD : va_D A ([(h0, .inr (0, [.ref a1, .ref a2, .ref a3, .null, .null, .null, .null, .null, .null, .int 0, .int 0, .int 0])), (a1, .inl (y 0, 80, .inl (fun _ => 0))), (a2, .inl (y 1, 80, .inr (.inl (fun _ => 0)))), (a3, .inl (y 0, 80, .inl (fun _ => 0)))] : va_W) := hD
  refine lv_aload_n hx hb dX0_init_28 rfl (lv_at hl 0 rfl) ?_
  refine lv_bipush (v := (80 : Int32)) hx hb dX0_init_29 (by decide) ?_
  refine newa_i hx hb (hts _ wi_X0_init_aint) hK hP hD hS hA 80 (by decide +kernel) (by decide +kernel) (by decide +kernel) (Nat.le_of_ble_eq_true rfl) (Nat.le_of_ble_eq_true rfl) dX0_init_31 (fun a4 H hP hD hS => ?_)
  have hP : va_P D vwCl ([(h0, .inr (0, [.ref a1, .ref a2, .ref a3, .null, .null, .null, .null, .null, .null, .int 0, .int 0, .int 0])), (a1, .inl (y 0, 80, .inl (fun _ => 0))), (a2, .inl (y 1, 80, .inr (.inl (fun _ => 0)))), (a3, .inl (y 0, 80, .inl (fun _ => 0))), (a4, .inl (y 0, 80, .inl (fun _ => 0)))] : va_W) H := hP
  have hD : va_D A ([(h0, .inr (0, [.ref a1, .ref a2, .ref a3, .null, .null, .null, .null, .null, .null, .int 0, .int 0, .int 0])), (a1, .inl (y 0, 80, .inl (fun _ => 0))), (a2, .inl (y 1, 80, .inr (.inl (fun _ => 0)))), (a3, .inl (y 0, 80, .inl (fun _ => 0))), (a4, .inl (y 0, 80, .inl (fun _ => 0)))] : va_W) := hD
  refine va_putF (D := D) (ci := 0) (v := .ref a4) (ty := (.array .int)) (C := RX0) (T := TX0) (N := 12) hx hb hts ni_X0_init_X0 tyX0 tyX0_ok nmX0 hown hK hP hD hS 0 rfl rfl 3 (by decide) (hts _ wi_X0_init_f22) (fun _ h9 => h9) rfl hin rfl (by decide +kernel) rfl rfl (Nat.le_of_ble_eq_true rfl) dX0_init_33 (fun H locs hP hD hS => ?_)
  have hP : va_P D vwCl ([(h0, .inr (0, [.ref a1, .ref a2, .ref a3, .ref a4, .null, .null, .null, .null, .null, .int 0, .int 0, .int 0])), (a1, .inl (y 0, 80, .inl (fun _ => 0))), (a2, .inl (y 1, 80, .inr (.inl (fun _ => 0)))), (a3, .inl (y 0, 80, .inl (fun _ => 0))), (a4, .inl (y 0, 80, .inl (fun _ => 0)))] : va_W) H := hP
  have hD : va_D A ([(h0, .inr (0, [.ref a1, .ref a2, .ref a3, .ref a4, .null, .null, .null, .null, .null, .int 0, .int 0, .int 0])), (a1, .inl (y 0, 80, .inl (fun _ => 0))), (a2, .inl (y 1, 80, .inr (.inl (fun _ => 0)))), (a3, .inl (y 0, 80, .inl (fun _ => 0))), (a4, .inl (y 0, 80, .inl (fun _ => 0)))] : va_W) := hD
  refine lv_aload_n hx hb dX0_init_36 rfl (lv_at hl 0 rfl) ?_
  refine lv_bipush (v := (80 : Int32)) hx hb dX0_init_37 (by decide) ?_
  refine newa_i hx hb (hts _ wi_X0_init_aint) hK hP hD hS hA 80 (by decide +kernel) (by decide +kernel) (by decide +kernel) (Nat.le_of_ble_eq_true rfl) (Nat.le_of_ble_eq_true rfl) dX0_init_39 (fun a5 H hP hD hS => ?_)
  have hP : va_P D vwCl ([(h0, .inr (0, [.ref a1, .ref a2, .ref a3, .ref a4, .null, .null, .null, .null, .null, .int 0, .int 0, .int 0])), (a1, .inl (y 0, 80, .inl (fun _ => 0))), (a2, .inl (y 1, 80, .inr (.inl (fun _ => 0)))), (a3, .inl (y 0, 80, .inl (fun _ => 0))), (a4, .inl (y 0, 80, .inl (fun _ => 0))), (a5, .inl (y 0, 80, .inl (fun _ => 0)))] : va_W) H := hP
  have hD : va_D A ([(h0, .inr (0, [.ref a1, .ref a2, .ref a3, .ref a4, .null, .null, .null, .null, .null, .int 0, .int 0, .int 0])), (a1, .inl (y 0, 80, .inl (fun _ => 0))), (a2, .inl (y 1, 80, .inr (.inl (fun _ => 0)))), (a3, .inl (y 0, 80, .inl (fun _ => 0))), (a4, .inl (y 0, 80, .inl (fun _ => 0))), (a5, .inl (y 0, 80, .inl (fun _ => 0)))] : va_W) := hD
  refine va_putF (D := D) (ci := 0) (v := .ref a5) (ty := (.array .int)) (C := RX0) (T := TX0) (N := 12) hx hb hts ni_X0_init_X0 tyX0 tyX0_ok nmX0 hown hK hP hD hS 0 rfl rfl 4 (by decide) (hts _ wi_X0_init_f25) (fun _ h9 => h9) rfl hin rfl (by decide +kernel) rfl rfl (Nat.le_of_ble_eq_true rfl) dX0_init_41 (fun H locs hP hD hS => ?_)
  have hP : va_P D vwCl ([(h0, .inr (0, [.ref a1, .ref a2, .ref a3, .ref a4, .ref a5, .null, .null, .null, .null, .int 0, .int 0, .int 0])), (a1, .inl (y 0, 80, .inl (fun _ => 0))), (a2, .inl (y 1, 80, .inr (.inl (fun _ => 0)))), (a3, .inl (y 0, 80, .inl (fun _ => 0))), (a4, .inl (y 0, 80, .inl (fun _ => 0))), (a5, .inl (y 0, 80, .inl (fun _ => 0)))] : va_W) H := hP
  have hD : va_D A ([(h0, .inr (0, [.ref a1, .ref a2, .ref a3, .ref a4, .ref a5, .null, .null, .null, .null, .int 0, .int 0, .int 0])), (a1, .inl (y 0, 80, .inl (fun _ => 0))), (a2, .inl (y 1, 80, .inr (.inl (fun _ => 0)))), (a3, .inl (y 0, 80, .inl (fun _ => 0))), (a4, .inl (y 0, 80, .inl (fun _ => 0))), (a5, .inl (y 0, 80, .inl (fun _ => 0)))] : va_W) := hD
  refine lv_aload_n hx hb dX0_init_44 rfl (lv_at hl 0 rfl) ?_
  refine lv_bipush (v := (80 : Int32)) hx hb dX0_init_45 (by decide) ?_
  refine newa_i hx hb (hts _ wi_X0_init_aint) hK hP hD hS hA 80 (by decide +kernel) (by decide +kernel) (by decide +kernel) (Nat.le_of_ble_eq_true rfl) (Nat.le_of_ble_eq_true rfl) dX0_init_47 (fun a6 H hP hD hS => ?_)
  have hP : va_P D vwCl ([(h0, .inr (0, [.ref a1, .ref a2, .ref a3, .ref a4, .ref a5, .null, .null, .null, .null, .int 0, .int 0, .int 0])), (a1, .inl (y 0, 80, .inl (fun _ => 0))), (a2, .inl (y 1, 80, .inr (.inl (fun _ => 0)))), (a3, .inl (y 0, 80, .inl (fun _ => 0))), (a4, .inl (y 0, 80, .inl (fun _ => 0))), (a5, .inl (y 0, 80, .inl (fun _ => 0))), (a6, .inl (y 0, 80, .inl (fun _ => 0)))] : va_W) H := hP
  have hD : va_D A ([(h0, .inr (0, [.ref a1, .ref a2, .ref a3, .ref a4, .ref a5, .null, .null, .null, .null, .int 0, .int 0, .int 0])), (a1, .inl (y 0, 80, .inl (fun _ => 0))), (a2, .inl (y 1, 80, .inr (.inl (fun _ => 0)))), (a3, .inl (y 0, 80, .inl (fun _ => 0))), (a4, .inl (y 0, 80, .inl (fun _ => 0))), (a5, .inl (y 0, 80, .inl (fun _ => 0))), (a6, .inl (y 0, 80, .inl (fun _ => 0)))] : va_W) := hD
  refine va_putF (D := D) (ci := 0) (v := .ref a6) (ty := (.array .int)) (C := RX0) (T := TX0) (N := 12) hx hb hts ni_X0_init_X0 tyX0 tyX0_ok nmX0 hown hK hP hD hS 0 rfl rfl 5 (by decide) (hts _ wi_X0_init_f28) (fun _ h9 => h9) rfl hin rfl (by decide +kernel) rfl rfl (Nat.le_of_ble_eq_true rfl) dX0_init_49 (fun H locs hP hD hS => ?_)
  have hP : va_P D vwCl ([(h0, .inr (0, [.ref a1, .ref a2, .ref a3, .ref a4, .ref a5, .ref a6, .null, .null, .null, .int 0, .int 0, .int 0])), (a1, .inl (y 0, 80, .inl (fun _ => 0))), (a2, .inl (y 1, 80, .inr (.inl (fun _ => 0)))), (a3, .inl (y 0, 80, .inl (fun _ => 0))), (a4, .inl (y 0, 80, .inl (fun _ => 0))), (a5, .inl (y 0, 80, .inl (fun _ => 0))), (a6, .inl (y 0, 80, .inl (fun _ => 0)))] : va_W) H := hP
  have hD : va_D A ([(h0, .inr (0, [.ref a1, .ref a2, .ref a3, .ref a4, .ref a5, .ref a6, .null, .null, .null, .int 0, .int 0, .int 0])), (a1, .inl (y 0, 80, .inl (fun _ => 0))), (a2, .inl (y 1, 80, .inr (.inl (fun _ => 0)))), (a3, .inl (y 0, 80, .inl (fun _ => 0))), (a4, .inl (y 0, 80, .inl (fun _ => 0))), (a5, .inl (y 0, 80, .inl (fun _ => 0))), (a6, .inl (y 0, 80, .inl (fun _ => 0)))] : va_W) := hD
  refine lv_aload_n hx hb dX0_init_52 rfl (lv_at hl 0 rfl) ?_
  refine lv_bipush (v := (32 : Int32)) hx hb dX0_init_53 (by decide) ?_
  refine newa_i hx hb (hts _ wi_X0_init_aint) hK hP hD hS hA 32 (by decide +kernel) (by decide +kernel) (by decide +kernel) (Nat.le_of_ble_eq_true rfl) (Nat.le_of_ble_eq_true rfl) dX0_init_55 (fun a7 H hP hD hS => ?_)
  have hP : va_P D vwCl ([(h0, .inr (0, [.ref a1, .ref a2, .ref a3, .ref a4, .ref a5, .ref a6, .null, .null, .null, .int 0, .int 0, .int 0])), (a1, .inl (y 0, 80, .inl (fun _ => 0))), (a2, .inl (y 1, 80, .inr (.inl (fun _ => 0)))), (a3, .inl (y 0, 80, .inl (fun _ => 0))), (a4, .inl (y 0, 80, .inl (fun _ => 0))), (a5, .inl (y 0, 80, .inl (fun _ => 0))), (a6, .inl (y 0, 80, .inl (fun _ => 0))), (a7, .inl (y 0, 32, .inl (fun _ => 0)))] : va_W) H := hP
  have hD : va_D A ([(h0, .inr (0, [.ref a1, .ref a2, .ref a3, .ref a4, .ref a5, .ref a6, .null, .null, .null, .int 0, .int 0, .int 0])), (a1, .inl (y 0, 80, .inl (fun _ => 0))), (a2, .inl (y 1, 80, .inr (.inl (fun _ => 0)))), (a3, .inl (y 0, 80, .inl (fun _ => 0))), (a4, .inl (y 0, 80, .inl (fun _ => 0))), (a5, .inl (y 0, 80, .inl (fun _ => 0))), (a6, .inl (y 0, 80, .inl (fun _ => 0))), (a7, .inl (y 0, 32, .inl (fun _ => 0)))] : va_W) := hD
  refine va_putF (D := D) (ci := 0) (v := .ref a7) (ty := (.array .int)) (C := RX0) (T := TX0) (N := 12) hx hb hts ni_X0_init_X0 tyX0 tyX0_ok nmX0 hown hK hP hD hS 0 rfl rfl 6 (by decide) (hts _ wi_X0_init_f31) (fun _ h9 => h9) rfl hin rfl (by decide +kernel) rfl rfl (Nat.le_of_ble_eq_true rfl) dX0_init_57 (fun H locs hP hD hS => ?_)
  have hP : va_P D vwCl ([(h0, .inr (0, [.ref a1, .ref a2, .ref a3, .ref a4, .ref a5, .ref a6, .ref a7, .null, .null, .int 0, .int 0, .int 0])), (a1, .inl (y 0, 80, .inl (fun _ => 0))), (a2, .inl (y 1, 80, .inr (.inl (fun _ => 0)))), (a3, .inl (y 0, 80, .inl (fun _ => 0))), (a4, .inl (y 0, 80, .inl (fun _ => 0))), (a5, .inl (y 0, 80, .inl (fun _ => 0))), (a6, .inl (y 0, 80, .inl (fun _ => 0))), (a7, .inl (y 0, 32, .inl (fun _ => 0)))] : va_W) H := hP
  have hD : va_D A ([(h0, .inr (0, [.ref a1, .ref a2, .ref a3, .ref a4, .ref a5, .ref a6, .ref a7, .null, .null, .int 0, .int 0, .int 0])), (a1, .inl (y 0, 80, .inl (fun _ => 0))), (a2, .inl (y 1, 80, .inr (.inl (fun _ => 0)))), (a3, .inl (y 0, 80, .inl (fun _ => 0))), (a4, .inl (y 0, 80, .inl (fun _ => 0))), (a5, .inl (y 0, 80, .inl (fun _ => 0))), (a6, .inl (y 0, 80, .inl (fun _ => 0))), (a7, .inl (y 0, 32, .inl (fun _ => 0)))] : va_W) := hD
  refine lv_aload_n hx hb dX0_init_60 rfl (lv_at hl 0 rfl) ?_
  refine va_new (ci := 2) (fs := [.null, .int 0]) (C := RX2) (T := TX2) (N := 2) hx hb hts ni_X0_init_X2 tyX2 tyX2_ok hown (hts _ wi_X0_init_l34) (hts _ wi_X0_init_inX2) (hts _ wi_X0_init_iX2) hK hP hD hS hA rfl dfX2 (Nat.le_of_ble_eq_true rfl) (Nat.le_of_ble_eq_true rfl) dX0_init_61 (fun o8 H hP hD hS => ?_)
  have hP : va_P D vwCl ([(h0, .inr (0, [.ref a1, .ref a2, .ref a3, .ref a4, .ref a5, .ref a6, .ref a7, .null, .null, .int 0, .int 0, .int 0])), (a1, .inl (y 0, 80, .inl (fun _ => 0))), (a2, .inl (y 1, 80, .inr (.inl (fun _ => 0)))), (a3, .inl (y 0, 80, .inl (fun _ => 0))), (a4, .inl (y 0, 80, .inl (fun _ => 0))), (a5, .inl (y 0, 80, .inl (fun _ => 0))), (a6, .inl (y 0, 80, .inl (fun _ => 0))), (a7, .inl (y 0, 32, .inl (fun _ => 0))), (o8, .inr (2, [.null, .int 0]))] : va_W) H := hP
  have hD : va_D A ([(h0, .inr (0, [.ref a1, .ref a2, .ref a3, .ref a4, .ref a5, .ref a6, .ref a7, .null, .null, .int 0, .int 0, .int 0])), (a1, .inl (y 0, 80, .inl (fun _ => 0))), (a2, .inl (y 1, 80, .inr (.inl (fun _ => 0)))), (a3, .inl (y 0, 80, .inl (fun _ => 0))), (a4, .inl (y 0, 80, .inl (fun _ => 0))), (a5, .inl (y 0, 80, .inl (fun _ => 0))), (a6, .inl (y 0, 80, .inl (fun _ => 0))), (a7, .inl (y 0, 32, .inl (fun _ => 0))), (o8, .inr (2, [.null, .int 0]))] : va_W) := hD
  refine lv_dup hx hb dX0_init_64 rfl ?_
  refine call_IN (wf := fun q => wdX2 q y (fun _ => 0) (fun _ => 0) 0 0) (wc := [(o8, .inr (2, [.null, .int 0]))]) (wr := ([(h0, .inr (0, [.ref a1, .ref a2, .ref a3, .ref a4, .ref a5, .ref a6, .ref a7, .null, .null, .int 0, .int 0, .int 0])), (a1, .inl (y 0, 80, .inl (fun _ => 0))), (a2, .inl (y 1, 80, .inr (.inl (fun _ => 0)))), (a3, .inl (y 0, 80, .inl (fun _ => 0))), (a4, .inl (y 0, 80, .inl (fun _ => 0))), (a5, .inl (y 0, 80, .inl (fun _ => 0))), (a6, .inl (y 0, 80, .inl (fun _ => 0))), (a7, .inl (y 0, 32, .inl (fun _ => 0)))] : va_W)) (As := []) (rest := [.ref o8, .ref h0]) C (c_X2_init l D y o8 _) ⟨va_cnB 0 hts ggX0_init_X2_init rfl rfl rfl (hJ.1 (RX0, 36, yX2_init) (by decide +kernel)) (hts _ wi_X0_init_iX2) (by decide +kernel) ⟨(Nat.le_of_ble_eq_true rfl), (Nat.le_of_ble_eq_true rfl)⟩, rfl, (hts _ wi_X0_init_imX2)⟩ hJ hK hP hD hS hA [8] [0, 1, 2, 3, 4, 5, 6, 7] rfl rfl rfl rfl rfl (by decide) rfl hl.1 (Nat.le_of_ble_eq_true rfl) dX0_init_65 ⟨(Nat.le_of_ble_eq_true rfl), (Nat.le_of_ble_eq_true rfl)⟩ (fun q8 H locs hq hP2 hD2 hS => ?_)
  clear hP hD
  subst hq
  have hP := hP2
  have hD := hD2
  have hP : va_P D vwCl ([(h0, .inr (0, [.ref a1, .ref a2, .ref a3, .ref a4, .ref a5, .ref a6, .ref a7, .null, .null, .int 0, .int 0, .int 0])), (a1, .inl (y 0, 80, .inl (fun _ => 0))), (a2, .inl (y 1, 80, .inr (.inl (fun _ => 0)))), (a3, .inl (y 0, 80, .inl (fun _ => 0))), (a4, .inl (y 0, 80, .inl (fun _ => 0))), (a5, .inl (y 0, 80, .inl (fun _ => 0))), (a6, .inl (y 0, 80, .inl (fun _ => 0))), (a7, .inl (y 0, 32, .inl (fun _ => 0)))] ++ (wdX2 q8 y (fun _ => 0) (fun _ => 0) 0 0) : va_W) H := hP
  have hD : va_D A ([(h0, .inr (0, [.ref a1, .ref a2, .ref a3, .ref a4, .ref a5, .ref a6, .ref a7, .null, .null, .int 0, .int 0, .int 0])), (a1, .inl (y 0, 80, .inl (fun _ => 0))), (a2, .inl (y 1, 80, .inr (.inl (fun _ => 0)))), (a3, .inl (y 0, 80, .inl (fun _ => 0))), (a4, .inl (y 0, 80, .inl (fun _ => 0))), (a5, .inl (y 0, 80, .inl (fun _ => 0))), (a6, .inl (y 0, 80, .inl (fun _ => 0))), (a7, .inl (y 0, 32, .inl (fun _ => 0)))] ++ (wdX2 q8 y (fun _ => 0) (fun _ => 0) 0 0) : va_W) := hD
  refine va_putF (D := D) (ci := 0) (v := .ref (q8 0)) (ty := (.object "LayerStacks$Pressings")) (C := RX0) (T := TX0) (N := 12) hx hb hts ni_X0_init_X0 tyX0 tyX0_ok nmX0 hown hK hP hD hS 0 rfl rfl 7 (by decide) (hts _ wi_X0_init_f37) (fun _ h9 => h9) rfl hin rfl (by decide +kernel) rfl rfl (Nat.le_of_ble_eq_true rfl) dX0_init_68 (fun H locs hP hD hS => ?_)
  have hP : va_P D vwCl ([(h0, .inr (0, [.ref a1, .ref a2, .ref a3, .ref a4, .ref a5, .ref a6, .ref a7, .ref (q8 0), .null, .int 0, .int 0, .int 0])), (a1, .inl (y 0, 80, .inl (fun _ => 0))), (a2, .inl (y 1, 80, .inr (.inl (fun _ => 0)))), (a3, .inl (y 0, 80, .inl (fun _ => 0))), (a4, .inl (y 0, 80, .inl (fun _ => 0))), (a5, .inl (y 0, 80, .inl (fun _ => 0))), (a6, .inl (y 0, 80, .inl (fun _ => 0))), (a7, .inl (y 0, 32, .inl (fun _ => 0)))] ++ (wdX2 q8 y (fun _ => 0) (fun _ => 0) 0 0) : va_W) H := hP
  have hD : va_D A ([(h0, .inr (0, [.ref a1, .ref a2, .ref a3, .ref a4, .ref a5, .ref a6, .ref a7, .ref (q8 0), .null, .int 0, .int 0, .int 0])), (a1, .inl (y 0, 80, .inl (fun _ => 0))), (a2, .inl (y 1, 80, .inr (.inl (fun _ => 0)))), (a3, .inl (y 0, 80, .inl (fun _ => 0))), (a4, .inl (y 0, 80, .inl (fun _ => 0))), (a5, .inl (y 0, 80, .inl (fun _ => 0))), (a6, .inl (y 0, 80, .inl (fun _ => 0))), (a7, .inl (y 0, 32, .inl (fun _ => 0)))] ++ (wdX2 q8 y (fun _ => 0) (fun _ => 0) 0 0) : va_W) := hD
  refine lv_aload_n hx hb dX0_init_71 rfl (lv_at hl 0 rfl) ?_
  refine va_new (ci := 3) (fs := [.null, .null, .int 0]) (C := RX3) (T := TX3) (N := 3) hx hb hts ni_X0_init_X3 tyX3 tyX3_ok hown (hts _ wi_X0_init_l41) (hts _ wi_X0_init_inX3) (hts _ wi_X0_init_iX3) hK hP hD hS hA rfl dfX3 (Nat.le_of_ble_eq_true rfl) (Nat.le_of_ble_eq_true rfl) dX0_init_72 (fun o9 H hP hD hS => ?_)
  have hP : va_P D vwCl ([(h0, .inr (0, [.ref a1, .ref a2, .ref a3, .ref a4, .ref a5, .ref a6, .ref a7, .ref (q8 0), .null, .int 0, .int 0, .int 0])), (a1, .inl (y 0, 80, .inl (fun _ => 0))), (a2, .inl (y 1, 80, .inr (.inl (fun _ => 0)))), (a3, .inl (y 0, 80, .inl (fun _ => 0))), (a4, .inl (y 0, 80, .inl (fun _ => 0))), (a5, .inl (y 0, 80, .inl (fun _ => 0))), (a6, .inl (y 0, 80, .inl (fun _ => 0))), (a7, .inl (y 0, 32, .inl (fun _ => 0)))] ++ (wdX2 q8 y (fun _ => 0) (fun _ => 0) 0 0) ++ [(o9, .inr (3, [.null, .null, .int 0]))] : va_W) H := hP
  have hD : va_D A ([(h0, .inr (0, [.ref a1, .ref a2, .ref a3, .ref a4, .ref a5, .ref a6, .ref a7, .ref (q8 0), .null, .int 0, .int 0, .int 0])), (a1, .inl (y 0, 80, .inl (fun _ => 0))), (a2, .inl (y 1, 80, .inr (.inl (fun _ => 0)))), (a3, .inl (y 0, 80, .inl (fun _ => 0))), (a4, .inl (y 0, 80, .inl (fun _ => 0))), (a5, .inl (y 0, 80, .inl (fun _ => 0))), (a6, .inl (y 0, 80, .inl (fun _ => 0))), (a7, .inl (y 0, 32, .inl (fun _ => 0)))] ++ (wdX2 q8 y (fun _ => 0) (fun _ => 0) 0 0) ++ [(o9, .inr (3, [.null, .null, .int 0]))] : va_W) := hD
  refine lv_dup hx hb dX0_init_75 rfl ?_
  refine lv_bipush (v := (40 : Int32)) hx hb dX0_init_76 (by decide) ?_
  refine call_I (wf := fun q => wdX3 q y 40 40 (fun _ => 0) (fun _ => 0) 0) (wc := [(o9, .inr (3, [.null, .null, .int 0]))]) (wr := ([(h0, .inr (0, [.ref a1, .ref a2, .ref a3, .ref a4, .ref a5, .ref a6, .ref a7, .ref (q8 0), .null, .int 0, .int 0, .int 0])), (a1, .inl (y 0, 80, .inl (fun _ => 0))), (a2, .inl (y 1, 80, .inr (.inl (fun _ => 0)))), (a3, .inl (y 0, 80, .inl (fun _ => 0))), (a4, .inl (y 0, 80, .inl (fun _ => 0))), (a5, .inl (y 0, 80, .inl (fun _ => 0))), (a6, .inl (y 0, 80, .inl (fun _ => 0))), (a7, .inl (y 0, 32, .inl (fun _ => 0)))] ++ (wdX2 q8 y (fun _ => 0) (fun _ => 0) 0 0) : va_W)) (As := [.int (40 : Int32)]) (rest := [.ref o9, .ref h0]) C (c_X3_init40 l D y o9 _) (cwI 1 hts ggX0_init_X3_init rfl rfl rfl (hts _ wi_X0_init_iX3) (hts _ wi_X0_init_mi43) (hts _ wi_X0_init_imX3) rfl (by decide +kernel) ⟨(Nat.le_of_ble_eq_true rfl), (Nat.le_of_ble_eq_true rfl)⟩) hJ hK hP hD hS hA [12] [0, 1, 2, 3, 4, 5, 6, 7, 8, 9, 10, 11] rfl rfl rfl rfl rfl (by decide) rfl hl.1 (Nat.le_of_ble_eq_true rfl) dX0_init_78 ⟨(Nat.le_of_ble_eq_true rfl), (Nat.le_of_ble_eq_true rfl)⟩ (fun q9 H locs hq hP2 hD2 hS => ?_)
  clear hP hD
  subst hq
  have hP := hP2
  have hD := hD2
  have hP : va_P D vwCl ([(h0, .inr (0, [.ref a1, .ref a2, .ref a3, .ref a4, .ref a5, .ref a6, .ref a7, .ref (q8 0), .null, .int 0, .int 0, .int 0])), (a1, .inl (y 0, 80, .inl (fun _ => 0))), (a2, .inl (y 1, 80, .inr (.inl (fun _ => 0)))), (a3, .inl (y 0, 80, .inl (fun _ => 0))), (a4, .inl (y 0, 80, .inl (fun _ => 0))), (a5, .inl (y 0, 80, .inl (fun _ => 0))), (a6, .inl (y 0, 80, .inl (fun _ => 0))), (a7, .inl (y 0, 32, .inl (fun _ => 0)))] ++ (wdX2 q8 y (fun _ => 0) (fun _ => 0) 0 0) ++ (wdX3 q9 y 40 40 (fun _ => 0) (fun _ => 0) 0) : va_W) H := hP
  have hD : va_D A ([(h0, .inr (0, [.ref a1, .ref a2, .ref a3, .ref a4, .ref a5, .ref a6, .ref a7, .ref (q8 0), .null, .int 0, .int 0, .int 0])), (a1, .inl (y 0, 80, .inl (fun _ => 0))), (a2, .inl (y 1, 80, .inr (.inl (fun _ => 0)))), (a3, .inl (y 0, 80, .inl (fun _ => 0))), (a4, .inl (y 0, 80, .inl (fun _ => 0))), (a5, .inl (y 0, 80, .inl (fun _ => 0))), (a6, .inl (y 0, 80, .inl (fun _ => 0))), (a7, .inl (y 0, 32, .inl (fun _ => 0)))] ++ (wdX2 q8 y (fun _ => 0) (fun _ => 0) 0 0) ++ (wdX3 q9 y 40 40 (fun _ => 0) (fun _ => 0) 0) : va_W) := hD
  refine va_putF (D := D) (ci := 0) (v := .ref (q9 0)) (ty := (.object "LayerStacks$Spans")) (C := RX0) (T := TX0) (N := 12) hx hb hts ni_X0_init_X0 tyX0 tyX0_ok nmX0 hown hK hP hD hS 0 rfl rfl 8 (by decide) (hts _ wi_X0_init_f46) (fun _ h9 => h9) rfl hin rfl (by decide +kernel) rfl rfl (Nat.le_of_ble_eq_true rfl) dX0_init_81 (fun H locs hP hD hS => ?_)
  have hP : va_P D vwCl ([(h0, .inr (0, [.ref a1, .ref a2, .ref a3, .ref a4, .ref a5, .ref a6, .ref a7, .ref (q8 0), .ref (q9 0), .int 0, .int 0, .int 0])), (a1, .inl (y 0, 80, .inl (fun _ => 0))), (a2, .inl (y 1, 80, .inr (.inl (fun _ => 0)))), (a3, .inl (y 0, 80, .inl (fun _ => 0))), (a4, .inl (y 0, 80, .inl (fun _ => 0))), (a5, .inl (y 0, 80, .inl (fun _ => 0))), (a6, .inl (y 0, 80, .inl (fun _ => 0))), (a7, .inl (y 0, 32, .inl (fun _ => 0)))] ++ (wdX2 q8 y (fun _ => 0) (fun _ => 0) 0 0) ++ (wdX3 q9 y 40 40 (fun _ => 0) (fun _ => 0) 0) : va_W) H := hP
  have hD : va_D A ([(h0, .inr (0, [.ref a1, .ref a2, .ref a3, .ref a4, .ref a5, .ref a6, .ref a7, .ref (q8 0), .ref (q9 0), .int 0, .int 0, .int 0])), (a1, .inl (y 0, 80, .inl (fun _ => 0))), (a2, .inl (y 1, 80, .inr (.inl (fun _ => 0)))), (a3, .inl (y 0, 80, .inl (fun _ => 0))), (a4, .inl (y 0, 80, .inl (fun _ => 0))), (a5, .inl (y 0, 80, .inl (fun _ => 0))), (a6, .inl (y 0, 80, .inl (fun _ => 0))), (a7, .inl (y 0, 32, .inl (fun _ => 0)))] ++ (wdX2 q8 y (fun _ => 0) (fun _ => 0) 0 0) ++ (wdX3 q9 y 40 40 (fun _ => 0) (fun _ => 0) 0) : va_W) := hD
  have hP : va_P D vwCl (wdX0 (qat [h0, a1, a2, a3, a4, a5, a6, a7] (qcat 4 q8 (qcat 3 q9 (fun _ => 0)))) y (fun _ => 0) (fun _ => 0) (fun _ => 0) (fun _ => 0) (fun _ => 0) (fun _ => 0) (fun _ => 0) (fun _ => 0) (fun _ => 0) 0 0 (fun _ => 0) (fun _ => 0) 0 0 0 0) H := hP
  have hD : va_D A (wdX0 (qat [h0, a1, a2, a3, a4, a5, a6, a7] (qcat 4 q8 (qcat 3 q9 (fun _ => 0)))) y (fun _ => 0) (fun _ => 0) (fun _ => 0) (fun _ => 0) (fun _ => 0) (fun _ => 0) (fun _ => 0) (fun _ => 0) (fun _ => 0) 0 0 (fun _ => 0) (fun _ => 0) 0 0 0 0) := hD
  exact endN (wf := fun q => wdX0 q y (fun _ => 0) (fun _ => 0) (fun _ => 0) (fun _ => 0) (fun _ => 0) (fun _ => 0) (fun _ => 0) (fun _ => 0) (fun _ => 0) 0 0 (fun _ => 0) (fun _ => 0) 0 0 0 0) C hK (qat [h0, a1, a2, a3, a4, a5, a6, a7] (qcat 4 q8 (qcat 3 q9 (fun _ => 0)))) rfl hP hD hS (Nat.le_of_ble_eq_true rfl) (Nat.le_of_ble_eq_true rfl) dX0_init_84
