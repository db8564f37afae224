set_option maxRecDepth 20000 in
theorem wi_X4_init_m3 : Cond.methodLink RX4 3 objectInit ∈ wsX4_init := by decide +kernel
set_option maxRecDepth 20000 in
theorem wi_X4_init_io : Cond.instanceMethod objectInit ∈ wsX4_init := by decide +kernel
set_option maxRecDepth 20000 in
theorem wi_X4_init_co : Cond.code objectInit ⟨#[0xb1]⟩ 1 none ∈ wsX4_init := by decide +kernel
set_option maxRecDepth 20000 in
theorem wi_X4_init_achar : Cond.arrayClass .char ∈ wsX4_init := by decide +kernel
set_option maxRecDepth 20000 in
theorem ni_X4_init_X4 : ∀ w ∈ wsX40, w ∈ wsX4_init := by decide +kernel
set_option maxRecDepth 20000 in
theorem wi_X4_init_f9 : Cond.fieldLink RX4 9 "LayerStacks$TextReader" "characters" "[C" ∈ wsX4_init := by decide +kernel
set_option maxHeartbeats 4000000 in
set_option maxRecDepth 100000 in
theorem c_X4_init (l : Launch) (D : va_G) (y : Nat → ClassId) (h0 : Nat) (sz : Nat) : Met l yX4_init wsX4_init ({ frames := 1, cells := 1, slots := 3000, locals := 12 } : Room) (va_Pc [.ref h0] (cPN D y ([(h0, .inr (4, [.null, .int 0, .int 0, .int 0, .int 0]))] : va_W) sz)) (QN D y (va_A ([(h0, .inr (4, [.null, .int 0, .int 0, .int 0, .int 0]))] : va_W) sz) h0 (fun q => wdX4 q y (fun _ => 0) 0 0 0 0)) 1 3000 (va_A ([(h0, .inr (4, [.null, .int 0, .int 0, .int 0, .int 0]))] : va_W) sz) := by
  refine met_ofN (own := RX4) (cc := cX4_init) (maxL := 1) (ret := none) (by decide) rfl rfl rfl (Nat.le_of_ble_eq_true rfl) ?_
  intro p e s m below meth c ls C hin hsz hK hP hD hA hS hJ hl
  obtain ⟨⟨hx, hb, hml, hown, hts⟩, hr, hlocks⟩ := id C
  have hl : lv_has ls 1 [(0, .ref h0)] := hl
  generalize (va_A ([(h0, .inr (4, [.null, .int 0, .int 0, .int 0, .int 0]))] : va_W) sz) = A at hD hA hS ⊢
  generalize ([.ref h0] : List Value).toArray = args at C hts ⊢
  refine lv_aload_n hx hb dX4_init_0 rfl (lv_at hl 0 rfl) ?_
  refine W.objInit hx hb hown (hts _ wi_X4_init_m3) (hts _ wi_X4_init_io) (hts _ wi_X4_init_co) rfl (by rw [hml]; exact hl.1) rfl dX4_init_1 (Nat.le_of_ble_eq_true rfl) (Nat.le_of_ble_eq_true rfl) ?_
  refine W.eq (g2 := F0 m 4 ls []) rfl ?_
  refine lv_aload_n hx hb dX4_init_4 rfl (lv_at hl 0 rfl) ?_
  refine lv_sipush (v := (3000 : Int32)) hx hb dX4_init_5 (by decide) ?_
  refine newa_c hx hb (hts _ wi_X4_init_achar) hK hP hD hS hA 3000 (by decide +kernel) (by decide +kernel) (by decide +kernel) (Nat.le_of_ble_eq_true rfl) (Nat.le_of_ble_eq_true rfl) dX4_init_8 (fun a1 H hP hD hS => ?_)
  have hP : va_P D vwCl ([(h0, .inr (4, [.null, .int 0, .int 0, .int 0, .int 0])), (a1, .inl (y 2, 3000, .inl (fun _ => 0)))] : va_W) H := hP
  have hD : va_D A ([(h0, .inr (4, [.null, .int 0, .int 0, .int 0, .int 0])), (a1, .inl (y 2, 3000, .inl (fun _ => 0)))] : va_W) := hD
  refine va_putF (D := D) (ci := 4) (v := .ref a1) (ty := (.array .char)) (C := RX4) (T := TX4) (N := 5) hx hb hts ni_X4_init_X4 tyX4 tyX4_ok nmX4 hown hK hP hD hS 0 rfl rfl 0 (by decide) (hts _ wi_X4_init_f9) (fun _ h9 => h9) rfl hin rfl (by decide +kernel) rfl rfl (Nat.le_of_ble_eq_true rfl) dX4_init_10 (fun H locs hP hD hS => ?_)
  have hP : va_P D vwCl ([(h0, .inr (4, [.ref a1, .int 0, .int 0, .int 0, .int 0])), (a1, .inl (y 2, 3000, .inl (fun _ => 0)))] : va_W) H := hP
  have hD : va_D A ([(h0, .inr (4, [.ref a1, .int 0, .int 0, .int 0, .int 0])), (a1, .inl (y 2, 3000, .inl (fun _ => 0)))] : va_W) := hD
  have hP : va_P D vwCl (wdX4 (qat [h0, a1] (fun _ => 0)) y (fun _ => 0) 0 0 0 0) H := hP
  have hD : va_D A (wdX4 (qat [h0, a1] (fun _ => 0)) y (fun _ => 0) 0 0 0 0) := hD
  exact endN (wf := fun q => wdX4 q y (fun _ => 0) 0 0 0 0) C hK (qat [h0, a1] (fun _ => 0)) rfl hP hD hS (Nat.le_of_ble_eq_true rfl) (Nat.le_of_ble_eq_true rfl) dX4_init_13
set_option maxRecDepth 20000 in
theorem wi_X5_init_m3 : Cond.methodLink RX5 3 objectInit ∈ wsX5_init := by decide +kernel
set_option maxRecDepth 20000 in
theorem wi_X5_init_io : Cond.instanceMethod objectInit ∈ wsX5_init := by decide +kernel
set_option maxRecDepth 20000 in
theorem wi_X5_init_co : Cond.code objectInit ⟨#[0xb1]⟩ 1 none ∈ wsX5_init := by decide +kernel
set_option maxRecDepth 20000 in
theorem wi_X5_init_achar : Cond.arrayClass .char ∈ wsX5_init := by decide +kernel
set_option maxRecDepth 20000 in
theorem ni_X5_init_X5 : ∀ w ∈ wsX50, w ∈ wsX5_init := by decide +kernel
set_option maxRecDepth 20000 in
theorem wi_X5_init_f9 : Cond.fieldLink RX5 9 "LayerStacks$Writing" "characters" "[C" ∈ wsX5_init := by decide +kernel
set_option maxRecDepth 20000 in
theorem wi_X5_init_f15 : Cond.fieldLink RX5 15 "LayerStacks$Writing" "digits" "[C" ∈ wsX5_init := by decide +kernel
set_option maxHeartbeats 4000000 in
set_option maxRecDepth 100000 in
theorem c_X5_init (l : Launch) (D : va_G) (y : Nat → ClassId) (h0 : Nat) (sz : Nat) : Met l yX5_init wsX5_init ({ frames := 1, cells := 2, slots := 3008, locals := 12 } : Room) (va_Pc [.ref h0] (cPN D y ([(h0, .inr (5, [.null, .null, .int 0]))] : va_W) sz)) (QN D y (va_A ([(h0, .inr (5, [.null, .null, .int 0]))] : va_W) sz) h0 (fun q => wdX5 q y (fun _ => 0) (fun _ => 0) 0)) 2 3008 (va_A ([(h0, .inr (5, [.null, .null, .int 0]))] : va_W) sz) := by
  refine met_ofN (own := RX5) (cc := cX5_init) (maxL := 1) (ret := none) (by decide) rfl rfl rfl (Nat.le_of_ble_eq_true rfl) ?_
  intro p e s m below meth c ls C hin hsz hK hP hD hA hS hJ hl
  obtain ⟨⟨hx, hb, hml, hown, hts⟩, hr, hlocks⟩ := id C
  have hl : lv_has ls 1 [(0, .ref h0)] := hl
  generalize (va_A ([(h0, .inr (5, [.null, .null, .int 0]))] : va_W) sz) = A at hD hA hS ⊢
  generalize ([.ref h0] : List Value).toArray = args at C hts ⊢
  refine lv_aload_n hx hb dX5_init_0 rfl (lv_at hl 0 rfl) ?_
  refine W.objInit hx hb hown (hts _ wi_X5_init_m3) (hts _ wi_X5_init_io) (hts _ wi_X5_init_co) rfl (by rw [hml]; exact hl.1) rfl dX5_init_1 (Nat.le_of_ble_eq_true rfl) (Nat.le_of_ble_eq_true rfl) ?_
  refine W.eq (g2 := F0 m 4 ls []) rfl ?_
  refine lv_aload_n hx hb dX5_init_4 rfl (lv_at hl 0 rfl) ?_
  refine lv_sipush (v := (3000 : Int32)) hx hb dX5_init_5 (by decide) ?_
  refine newa_c hx hb (hts _ wi_X5_init_achar) hK hP hD hS hA 3000 (by decide +kernel) (by decide +kernel) (by decide +kernel) (Nat.le_of_ble_eq_true rfl) (Nat.le_of_ble_eq_true rfl) dX5_init_8 (fun a1 H hP hD hS => ?_)
  have hP : va_P D vwCl ([(h0, .inr (5, [.null, .null, .int 0])), (a1, .inl (y 2, 3000, .inl (fun _ => 0)))] : va_W) H := hP
  have hD : va_D A ([(h0, .inr (5, [.null, .null, .int 0])), (a1, .inl (y 2, 3000, .inl (fun _ => 0)))] : va_W) := hD
  refine va_putF (D := D) (ci := 5) (v := .ref a1) (ty := (.array .char)) (C := RX5) (T := TX5) (N := 3) hx hb hts ni_X5_init_X5 tyX5 tyX5_ok nmX5 hown hK hP hD hS 0 rfl rfl 0 (by decide) (hts _ wi_X5_init_f9) (fun _ h9 => h9) rfl hin rfl (by decide +kernel) rfl rfl (Nat.le_of_ble_eq_true rfl) dX5_init_10 (fun H locs hP hD hS => ?_)
  have hP : va_P D vwCl ([(h0, .inr (5, [.ref a1, .null, .int 0])), (a1, .inl (y 2, 3000, .inl (fun _ => 0)))] : va_W) H := hP
  have hD : va_D A ([(h0, .inr (5, [.ref a1, .null, .int 0])), (a1, .inl (y 2, 3000, .inl (fun _ => 0)))] : va_W) := hD
  refine lv_aload_n hx hb dX5_init_13 rfl (lv_at hl 0 rfl) ?_
  refine lv_bipush (v := (8 : Int32)) hx hb dX5_init_14 (by decide) ?_
  refine newa_c hx hb (hts _ wi_X5_init_achar) hK hP hD hS hA 8 (by decide +kernel) (by decide +kernel) (by decide +kernel) (Nat.le_of_ble_eq_true rfl) (Nat.le_of_ble_eq_true rfl) dX5_init_16 (fun a2 H hP hD hS => ?_)
  have hP : va_P D vwCl ([(h0, .inr (5, [.ref a1, .null, .int 0])), (a1, .inl (y 2, 3000, .inl (fun _ => 0))), (a2, .inl (y 2, 8, .inl (fun _ => 0)))] : va_W) H := hP
  have hD : va_D A ([(h0, .inr (5, [.ref a1, .null, .int 0])), (a1, .inl (y 2, 3000, .inl (fun _ => 0))), (a2, .inl (y 2, 8, .inl (fun _ => 0)))] : va_W) := hD
  refine va_putF (D := D) (ci := 5) (v := .ref a2) (ty := (.array .char)) (C := RX5) (T := TX5) (N := 3) hx hb hts ni_X5_init_X5 tyX5 tyX5_ok nmX5 hown hK hP hD hS 0 rfl rfl 1 (by decide) (hts _ wi_X5_init_f15) (fun _ h9 => h9) rfl hin rfl (by decide +kernel) rfl rfl (Nat.le_of_ble_eq_true rfl) dX5_init_18 (fun H locs hP hD hS => ?_)
  have hP : va_P D vwCl ([(h0, .inr (5, [.ref a1, .ref a2, .int 0])), (a1, .inl (y 2, 3000, .inl (fun _ => 0))), (a2, .inl (y 2, 8, .inl (fun _ => 0)))] : va_W) H := hP
  have hD : va_D A ([(h0, .inr (5, [.ref a1, .ref a2, .int 0])), (a1, .inl (y 2, 3000, .inl (fun _ => 0))), (a2, .inl (y 2, 8, .inl (fun _ => 0)))] : va_W) := hD
  have hP : va_P D vwCl (wdX5 (qat [h0, a1, a2] (fun _ => 0)) y (fun _ => 0) (fun _ => 0) 0) H := hP
  have hD : va_D A (wdX5 (qat [h0, a1, a2] (fun _ => 0)) y (fun _ => 0) (fun _ => 0) 0) := hD
  exact endN (wf := fun q => wdX5 q y (fun _ => 0) (fun _ => 0) 0) C hK (qat [h0, a1, a2] (fun _ => 0)) rfl hP hD hS (Nat.le_of_ble_eq_true rfl) (Nat.le_of_ble_eq_true rfl) dX5_init_21
