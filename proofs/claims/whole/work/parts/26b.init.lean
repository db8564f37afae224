set_option maxRecDepth 20000 in
theorem wi_X3_init_m3 : Cond.methodLink RX3 3 objectInit ∈ wsX3_init := by decide +kernel
set_option maxRecDepth 20000 in
theorem wi_X3_init_io : Cond.instanceMethod objectInit ∈ wsX3_init := by decide +kernel
set_option maxRecDepth 20000 in
theorem wi_X3_init_co : Cond.code objectInit ⟨#[0xb1]⟩ 1 none ∈ wsX3_init := by decide +kernel
set_option maxRecDepth 20000 in
theorem wi_X3_init_m9 : Cond.methodLink RX3 9 Lib.Math.max.name ∈ wsX3_init := by decide +kernel
set_option maxRecDepth 20000 in
theorem wi_X3_init_sM : Cond.static Lib.Math.max.name ∈ wsX3_init := by decide +kernel
set_option maxRecDepth 20000 in
theorem wi_X3_init_iM : Cond.initialized "java/lang/Math" ∈ wsX3_init := by decide +kernel
set_option maxRecDepth 20000 in
theorem wi_X3_init_cM : Cond.code Lib.Math.max.name Lib.Math.max.code 2 (some .int) ∈ wsX3_init := by decide +kernel
set_option maxRecDepth 20000 in
theorem wi_X3_init_aint : Cond.arrayClass .int ∈ wsX3_init := by decide +kernel
set_option maxRecDepth 20000 in
theorem ni_X3_init_X3 : ∀ w ∈ wsX30, w ∈ wsX3_init := by decide +kernel
set_option maxRecDepth 20000 in
theorem wi_X3_init_f15 : Cond.fieldLink RX3 15 "LayerStacks$Spans" "firsts" "[I" ∈ wsX3_init := by decide +kernel
set_option maxRecDepth 20000 in
theorem wi_X3_init_f21 : Cond.fieldLink RX3 21 "LayerStacks$Spans" "lasts" "[I" ∈ wsX3_init := by decide +kernel
set_option maxHeartbeats 4000000 in
set_option maxRecDepth 100000 in
theorem c_X3_init21 (l : Launch) (D : va_G) (y : Nat → ClassId) (h0 : Nat) (sz : Nat) : Met l yX3_init wsX3_init ({ frames := 1, cells := 2, slots := 42, locals := 21 } : Room) (va_Pc [.ref h0, .int (21 : Int32)] (cPN D y ([(h0, .inr (3, [.null, .null, .int 0]))] : va_W) sz)) (QN D y (va_A ([(h0, .inr (3, [.null, .null, .int 0]))] : va_W) sz) h0 (fun q => wdX3 q y 21 21 (fun _ => 0) (fun _ => 0) 0)) 2 42 (va_A ([(h0, .inr (3, [.null, .null, .int 0]))] : va_W) sz) := by
  refine met_ofN (own := RX3) (cc := cX3_init) (maxL := 3) (ret := none) (by decide) rfl rfl rfl (Nat.le_of_ble_eq_true rfl) ?_
  intro p e s m below meth c ls C hin hsz hK hP hD hA hS hJ hl
  obtain ⟨⟨hx, hb, hml, hown, hts⟩, hr, hlocks⟩ := id C
  have hl : lv_has ls 3 [(0, .ref h0), (1, .int (21 : Int32))] := hl
  generalize (va_A ([(h0, .inr (3, [.null, .null, .int 0]))] : va_W) sz) = A at hD hA hS ⊢
  generalize ([.ref h0, .int (21 : Int32)] : List Value).toArray = args at C hts ⊢
  refine lv_aload_n hx hb dX3_init_0 rfl (lv_at hl 0 rfl) ?_
  refine W.objInit hx hb hown (hts _ wi_X3_init_m3) (hts _ wi_X3_init_io) (hts _ wi_X3_init_co) rfl (by rw [hml]; exact hl.1) rfl dX3_init_1 (Nat.le_of_ble_eq_true rfl) (Nat.le_of_ble_eq_true rfl) ?_
  refine W.eq (g2 := F0 m 4 ls []) rfl ?_
  refine lv_iload_n hx hb dX3_init_4 rfl (lv_at hl 1 rfl) ?_
  refine lv_iconst (v := (1 : Int32)) hx hb dX3_init_5 (by decide) ?_
  refine va_mmax hx hb (hml.trans hl.1.symm) hown (hts _ wi_X3_init_m9) (hts _ wi_X3_init_sM) (hts _ wi_X3_init_iM) (hts _ wi_X3_init_cM) (Nat.le_of_ble_eq_true rfl) (Nat.le_of_ble_eq_true rfl) (Nat.zero_le _) (Nat.zero_le _) dX3_init_6 ?_
  refine lv_istore_n (lv' := [(2, .int (if (21 : Int32) < (1 : Int32) then (1 : Int32) else (21 : Int32))), (0, .ref h0), (1, .int (21 : Int32))]) hx hb dX3_init_9 rfl hl (by decide) rfl (fun ls hl => ?_)
  refine lv_aload_n hx hb dX3_init_10 rfl (lv_at hl 1 rfl) ?_
  refine lv_iload_n hx hb dX3_init_11 rfl (lv_at hl 0 rfl) ?_
  refine newa_i hx hb (hts _ wi_X3_init_aint) hK hP hD hS hA 21 (by decide +kernel) (by decide +kernel) (by decide +kernel) (Nat.le_of_ble_eq_true rfl) (Nat.le_of_ble_eq_true rfl) dX3_init_12 (fun a1 H hP hD hS => ?_)
  have hP : va_P D vwCl ([(h0, .inr (3, [.null, .null, .int 0])), (a1, .inl (y 0, 21, .inl (fun _ => 0)))] : va_W) H := hP
  have hD : va_D A ([(h0, .inr (3, [.null, .null, .int 0])), (a1, .inl (y 0, 21, .inl (fun _ => 0)))] : va_W) := hD
  refine va_putF (D := D) (ci := 3) (v := .ref a1) (ty := (.array .int)) (C := RX3) (T := TX3) (N := 3) hx hb hts ni_X3_init_X3 tyX3 tyX3_ok nmX3 hown hK hP hD hS 0 rfl rfl 0 (by decide) (hts _ wi_X3_init_f15) (fun _ h9 => h9) rfl hin rfl (by decide +kernel) rfl rfl (Nat.le_of_ble_eq_true rfl) dX3_init_14 (fun H locs hP hD hS => ?_)
  have hP : va_P D vwCl ([(h0, .inr (3, [.ref a1, .null, .int 0])), (a1, .inl (y 0, 21, .inl (fun _ => 0)))] : va_W) H := hP
  have hD : va_D A ([(h0, .inr (3, [.ref a1, .null, .int 0])), (a1, .inl (y 0, 21, .inl (fun _ => 0)))] : va_W) := hD
  refine lv_aload_n hx hb dX3_init_17 rfl (lv_at hl 1 rfl) ?_
  refine lv_iload_n hx hb dX3_init_18 rfl (lv_at hl 0 rfl) ?_
  refine newa_i hx hb (hts _ wi_X3_init_aint) hK hP hD hS hA 21 (by decide +kernel) (by decide +kernel) (by decide +kernel) (Nat.le_of_ble_eq_true rfl) (Nat.le_of_ble_eq_true rfl) dX3_init_19 (fun a2 H hP hD hS => ?_)
  have hP : va_P D vwCl ([(h0, .inr (3, [.ref a1, .null, .int 0])), (a1, .inl (y 0, 21, .inl (fun _ => 0))), (a2, .inl (y 0, 21, .inl (fun _ => 0)))] : va_W) H := hP
  have hD : va_D A ([(h0, .inr (3, [.ref a1, .null, .int 0])), (a1, .inl (y 0, 21, .inl (fun _ => 0))), (a2, .inl (y 0, 21, .inl (fun _ => 0)))] : va_W) := hD
  refine va_putF (D := D) (ci := 3) (v := .ref a2) (ty := (.array .int)) (C := RX3) (T := TX3) (N := 3) hx hb hts ni_X3_init_X3 tyX3 tyX3_ok nmX3 hown hK hP hD hS 0 rfl rfl 1 (by decide) (hts _ wi_X3_init_f21) (fun _ h9 => h9) rfl hin rfl (by decide +kernel) rfl rfl (Nat.le_of_ble_eq_true rfl) dX3_init_21 (fun H locs hP hD hS => ?_)
  have hP : va_P D vwCl ([(h0, .inr (3, [.ref a1, .ref a2, .int 0])), (a1, .inl (y 0, 21, .inl (fun _ => 0))), (a2, .inl (y 0, 21, .inl (fun _ => 0)))] : va_W) H := hP
  have hD : va_D A ([(h0, .inr (3, [.ref a1, .ref a2, .int 0])), (a1, .inl (y 0, 21, .inl (fun _ => 0))), (a2, .inl (y 0, 21, .inl (fun _ => 0)))] : va_W) := hD
  have hP : va_P D vwCl (wdX3 (qat [h0, a1, a2] (fun _ => 0)) y 21 21 (fun _ => 0) (fun _ => 0) 0) H := hP
  have hD : va_D A (wdX3 (qat [h0, a1, a2] (fun _ => 0)) y 21 21 (fun _ => 0) (fun _ => 0) 0) := hD
  exact endN (wf := fun q => wdX3 q y 21 21 (fun _ => 0) (fun _ => 0) 0) C hK (qat [h0, a1, a2] (fun _ => 0)) rfl hP hD hS (Nat.le_of_ble_eq_true rfl) (Nat.le_of_ble_eq_true rfl) dX3_init_24
set_option maxHeartbeats 4000000 in
set_option maxRecDepth 100000 in
theorem c_X3_init40 (l : Launch) (D : va_G) (y : Nat → ClassId) (h0 : Nat) (sz : Nat) : Met l yX3_init wsX3_init ({ frames := 1, cells := 2, slots := 80, locals := 21 } : Room) (va_Pc [.ref h0, .int (40 : Int32)] (cPN D y ([(h0, .inr (3, [.null, .null, .int 0]))] : va_W) sz)) (QN D y (va_A ([(h0, .inr (3, [.null, .null, .int 0]))] : va_W) sz) h0 (fun q => wdX3 q y 40 40 (fun _ => 0) (fun _ => 0) 0)) 2 80 (va_A ([(h0, .inr (3, [.null, .null, .int 0]))] : va_W) sz) := by
  refine met_ofN (own := RX3) (cc := cX3_init) (maxL := 3) (ret := none) (by decide) rfl rfl rfl (Nat.le_of_ble_eq_true rfl) ?_
  intro p e s m below meth c ls C hin hsz hK hP hD hA hS hJ hl
  obtain ⟨⟨hx, hb, hml, hown, hts⟩, hr, hlocks⟩ := id C
  have hl : lv_has ls 3 [(0, .ref h0), (1, .int (40 : Int32))] := hl
  generalize (va_A ([(h0, .inr (3, [.null, .null, .int 0]))] : va_W) sz) = A at hD hA hS ⊢
  generalize ([.ref h0, .int (40 : Int32)] : List Value).toArray = args at C hts ⊢
  refine lv_aload_n hx hb dX3_init_0 rfl (lv_at hl 0 rfl) ?_
  refine W.objInit hx hb hown (hts _ wi_X3_init_m3) (hts _ wi_X3_init_io) (hts _ wi_X3_init_co) rfl (by rw [hml]; exact hl.1) rfl dX3_init_1 (Nat.le_of_ble_eq_true rfl) (Nat.le_of_ble_eq_true rfl) ?_
  refine W.eq (g2 := F0 m 4 ls []) rfl ?_
  refine lv_iload_n hx hb dX3_init_4 rfl (lv_at hl 1 rfl) ?_
  refine lv_iconst (v := (1 : Int32)) hx hb dX3_init_5 (by decide) ?_
  refine va_mmax hx hb (hml.trans hl.1.symm) hown (hts _ wi_X3_init_m9) (hts _ wi_X3_init_sM) (hts _ wi_X3_init_iM) (hts _ wi_X3_init_cM) (Nat.le_of_ble_eq_true rfl) (Nat.le_of_ble_eq_true rfl) (Nat.zero_le _) (Nat.zero_le _) dX3_init_6 ?_
  refine lv_istore_n (lv' := [(2, .int (if (40 : Int32) < (1 : Int32) then (1 : Int32) else (40 : Int32))), (0, .ref h0), (1, .int (40 : Int32))]) hx hb dX3_init_9 rfl hl (by decide) rfl (fun ls hl => ?_)
  refine lv_aload_n hx hb dX3_init_10 rfl (lv_at hl 1 rfl) ?_
  refine lv_iload_n hx hb dX3_init_11 rfl (lv_at hl 0 rfl) ?_
  refine newa_i hx hb (hts _ wi_X3_init_aint) hK hP hD hS hA 40 (by decide +kernel) (by decide +kernel) (by decide +kernel) (Nat.le_of_ble_eq_true rfl) (Nat.le_of_ble_eq_true rfl) dX3_init_12 (fun a1 H hP hD hS => ?_)
  have hP : va_P D vwCl ([(h0, .inr (3, [.null, .null, .int 0])), (a1, .inl (y 0, 40, .inl (fun _ => 0)))] : va_W) H := hP
  have hD : va_D A ([(h0, .inr (3, [.null, .null, .int 0])), (a1, .inl (y 0, 40, .inl (fun _ => 0)))] : va_W) := hD
  refine va_putF (D := D) (ci := 3) (v := .ref a1) (ty := (.array .int)) (C := RX3) (T := TX3) (N := 3) hx hb hts ni_X3_init_X3 tyX3 tyX3_ok nmX3 hown hK hP hD hS 0 rfl rfl 0 (by decide) (hts _ wi_X3_init_f15) (fun _ h9 => h9) rfl hin rfl (by decide +kernel) rfl rfl (Nat.le_of_ble_eq_true rfl) dX3_init_14 (fun H locs hP hD hS => ?_)
  have hP : va_P D vwCl ([(h0, .inr (3, [.ref a1, .null, .int 0])), (a1, .inl (y 0, 40, .inl (fun _ => 0)))] : va_W) H := hP
  have hD : va_D A ([(h0, .inr (3, [.ref a1, .null, .int 0])), (a1, .inl (y 0, 40, .inl (fun _ => 0)))] : va_W) := hD
  refine lv_aload_n hx hb dX3_init_17 rfl (lv_at hl 1 rfl) ?_
  refine lv_iload_n hx hb dX3_init_18 rfl (lv_at hl 0 rfl) ?_
  refine newa_i hx hb (hts _ wi_X3_init_aint) hK hP hD hS hA 40 (by decide +kernel) (by decide +kernel) (by decide +kernel) (Nat.le_of_ble_eq_true rfl) (Nat.le_of_ble_eq_true rfl) dX3_init_19 (fun a2 H hP hD hS => ?_)
  have hP : va_P D vwCl ([(h0, .inr (3, [.ref a1, .null, .int 0])), (a1, .inl (y 0, 40, .inl (fun _ => 0))), (a2, .inl (y 0, 40, .inl (fun _ => 0)))] : va_W) H := hP
  have hD : va_D A ([(h0, .inr (3, [.ref a1, .null, .int 0])), (a1, .inl (y 0, 40, .inl (fun _ => 0))), (a2, .inl (y 0, 40, .inl (fun _ => 0)))] : va_W) := hD
  refine va_putF (D := D) (ci := 3) (v := .ref a2) (ty := (.array .int)) (C := RX3) (T := TX3) (N := 3) hx hb hts ni_X3_init_X3 tyX3 tyX3_ok nmX3 hown hK hP hD hS 0 rfl rfl 1 (by decide) (hts _ wi_X3_init_f21) (fun _ h9 => h9) rfl hin rfl (by decide +kernel) rfl rfl (Nat.le_of_ble_eq_true rfl) dX3_init_21 (fun H locs hP hD hS => ?_)
  have hP : va_P D vwCl ([(h0, .inr (3, [.ref a1, .ref a2, .int 0])), (a1, .inl (y 0, 40, .inl (fun _ => 0))), (a2, .inl (y 0, 40, .inl (fun _ => 0)))] : va_W) H := hP
  have hD : va_D A ([(h0, .inr (3, [.ref a1, .ref a2, .int 0])), (a1, .inl (y 0, 40, .inl (fun _ => 0))), (a2, .inl (y 0, 40, .inl (fun _ => 0)))] : va_W) := hD
  have hP : va_P D vwCl (wdX3 (qat [h0, a1, a2] (fun _ => 0)) y 40 40 (fun _ => 0) (fun _ => 0) 0) H := hP
  have hD : va_D A (wdX3 (qat [h0, a1, a2] (fun _ => 0)) y 40 40 (fun _ => 0) (fun _ => 0) 0) := hD
  exact endN (wf := fun q => wdX3 q y 40 40 (fun _ => 0) (fun _ => 0) 0) C hK (qat [h0, a1, a2] (fun _ => 0)) rfl hP hD hS (Nat.le_of_ble_eq_true rfl) (Nat.le_of_ble_eq_true rfl) dX3_init_24
set_option maxRecDepth 20000 in
theorem wi_X2_init_m3 : Cond.methodLink RX2 3 objectInit ∈ wsX2_init := by decide +kernel
set_option maxRecDepth 20000 in
theorem wi_X2_init_io : Cond.instanceMethod objectInit ∈ wsX2_init := by decide +kernel
set_option maxRecDepth 20000 in
theorem wi_X2_init_co : Cond.code objectInit ⟨#[0xb1]⟩ 1 none ∈ wsX2_init := by decide +kernel
set_option maxRecDepth 20000 in
theorem ni_X2_init_X3 : ∀ w ∈ wsX30, w ∈ wsX2_init := by decide +kernel
set_option maxRecDepth 20000 in
theorem wi_X2_init_l9 : Cond.classLink RX2 9 RX3 ∈ wsX2_init := by decide +kernel
set_option maxRecDepth 20000 in
theorem wi_X2_init_inX3 : Cond.instantiable RX3 3 ∈ wsX2_init := by decide +kernel
set_option maxRecDepth 20000 in
theorem wi_X2_init_iX3 : Cond.initialized RX3 ∈ wsX2_init := by decide +kernel
set_option maxRecDepth 20000 in
theorem wi_X2_init_mi11 : Cond.methodLink RX2 11 yX3_init ∈ wsX2_init := by decide +kernel
set_option maxRecDepth 20000 in
theorem wi_X2_init_imX3 : Cond.instanceMethod yX3_init ∈ wsX2_init := by decide +kernel
set_option maxRecDepth 20000 in
theorem ni_X2_init_X2 : ∀ w ∈ wsX20, w ∈ wsX2_init := by decide +kernel
set_option maxRecDepth 20000 in
theorem wi_X2_init_f14 : Cond.fieldLink RX2 14 "LayerStacks$Pressings" "spans" "LLayerStacks$Spans;" ∈ wsX2_init := by decide +kernel
set_option maxHeartbeats 4000000 in
set_option maxRecDepth 100000 in
theorem c_X2_init (l : Launch) (D : va_G) (y : Nat → ClassId) (h0 : Nat) (sz : Nat) : Met l yX2_init wsX2_init ({ frames := 2, cells := 3, slots := 45, locals := 43 } : Room) (va_Pc [.ref h0] (cPN D y ([(h0, .inr (2, [.null, .int 0]))] : va_W) sz)) (QN D y (va_A ([(h0, .inr (2, [.null, .int 0]))] : va_W) sz) h0 (fun q => wdX2 q y (fun _ => 0) (fun _ => 0) 0 0)) 3 45 (va_A ([(h0, .inr (2, [.null, .int 0]))] : va_W) sz) := by
  refine met_ofN (own := RX2) (cc := cX2_init) (maxL := 1) (ret := none) (by decide) rfl rfl rfl (Nat.le_of_ble_eq_true rfl) ?_
  intro p e s m below meth c ls C hin hsz hK hP hD hA hS hJ hl
  obtain ⟨⟨hx, hb, hml, hown, hts⟩, hr, hlocks⟩ := id C
  have hl : lv_has ls 1 [(0, .ref h0)] := hl
  generalize (va_A ([(h0, .inr (2, [.null, .int 0]))] : va_W) sz) = A at hD hA hS ⊢
  generalize ([.ref h0] : List Value).toArray = args at C hts ⊢
  refine lv_aload_n hx hb dX2_init_0 rfl (lv_at hl 0 rfl) ?_
  refine W.objInit hx hb hown (hts _ wi_X2_init_m3) (hts _ wi_X2_init_io) (hts _ wi_X2_init_co) rfl (by rw [hml]; exact hl.1) rfl dX2_init_1 (Nat.le_of_ble_eq_true rfl) (Nat.le_of_ble_eq_true rfl) ?_
  refine W.eq (g2 := F0 m 4 ls []) rfl ?_
  refine lv_aload_n hx hb dX2_init_4 rfl (lv_at hl 0 rfl) ?_
  refine va_new (ci := 3) (fs := [.null, .null, .int 0]) (C := RX3) (T := TX3) (N := 3) hx hb hts ni_X2_init_X3 tyX3 tyX3_ok hown (hts _ wi_X2_init_l9) (hts _ wi_X2_init_inX3) (hts _ wi_X2_init_iX3) hK hP hD hS hA rfl dfX3 (Nat.le_of_ble_eq_true rfl) (Nat.le_of_ble_eq_true rfl) dX2_init_5 (fun o1 H hP hD hS => ?_)
  have hP : va_P D vwCl ([(h0, .inr (2, [.null, .int 0])), (o1, .inr (3, [.null, .null, .int 0]))] : va_W) H := hP
  have hD : va_D A ([(h0, .inr (2, [.null, .int 0])), (o1, .inr (3, [.null, .null, .int 0]))] : va_W) := hD
  refine lv_dup hx hb dX2_init_8 rfl ?_
  refine lv_bipush (v := (21 : Int32)) hx hb dX2_init_9 (by decide) ?_
  refine call_I (wf := fun q => wdX3 q y 21 21 (fun _ => 0) (fun _ => 0) 0) (wc := [(o1, .inr (3, [.null, .null, .int 0]))]) (wr := ([(h0, .inr (2, [.null, .int 0]))] : va_W)) (As := [.int (21 : Int32)]) (rest := [.ref o1, .ref h0]) C (c_X3_init21 l D y o1 _) (cwI 1 hts ggX2_init_X3_init rfl rfl rfl (hts _ wi_X2_init_iX3) (hts _ wi_X2_init_mi11) (hts _ wi_X2_init_imX3) rfl (by decide +kernel) ⟨(Nat.le_of_ble_eq_true rfl), (Nat.le_of_ble_eq_true rfl)⟩) hJ hK hP hD hS hA [1] [0] rfl rfl rfl rfl rfl (by decide) rfl hl.1 (Nat.le_of_ble_eq_true rfl) dX2_init_11 ⟨(Nat.le_of_ble_eq_true rfl), (Nat.le_of_ble_eq_true rfl)⟩ (fun q1 H locs hq hP2 hD2 hS => ?_)
  clear hP hD
  subst hq
  have hP := hP2
  have hD := hD2
  have hP : va_P D vwCl ([(h0, .inr (2, [.null, .int 0]))] ++ (wdX3 q1 y 21 21 (fun _ => 0) (fun _ => 0) 0) : va_W) H := hP
  have hD : va_D A ([(h0, .inr (2, [.null, .int 0]))] ++ (wdX3 q1 y 21 21 (fun _ => 0) (fun _ => 0) 0) : va_W) := hD
  refine va_putF (D := D) (ci := 2) (v := .ref (q1 0)) (ty := (.object "LayerStacks$Spans")) (C := RX2) (T := TX2) (N := 2) hx hb hts ni_X2_init_X2 tyX2 tyX2_ok nmX2 hown hK hP hD hS 0 rfl rfl 0 (by decide) (hts _ wi_X2_init_f14) (fun _ h9 => h9) rfl hin rfl (by decide +kernel) rfl rfl (Nat.le_of_ble_eq_true rfl) dX2_init_14 (fun H locs hP hD hS => ?_)
  have hP : va_P D vwCl ([(h0, .inr (2, [.ref (q1 0), .int 0]))] ++ (wdX3 q1 y 21 21 (fun _ => 0) (fun _ => 0) 0) : va_W) H := hP
  have hD : va_D A ([(h0, .inr (2, [.ref (q1 0), .int 0]))] ++ (wdX3 q1 y 21 21 (fun _ => 0) (fun _ => 0) 0) : va_W) := hD
  have hP : va_P D vwCl (wdX2 (qat [h0] (qcat 3 q1 (fun _ => 0))) y (fun _ => 0) (fun _ => 0) 0 0) H := hP
  have hD : va_D A (wdX2 (qat [h0] (qcat 3 q1 (fun _ => 0))) y (fun _ => 0) (fun _ => 0) 0 0) := hD
  exact endN (wf := fun q => wdX2 q y (fun _ => 0) (fun _ => 0) 0 0) C hK (qat [h0] (qcat 3 q1 (fun _ => 0))) rfl hP hD hS (Nat.le_of_ble_eq_true rfl) (Nat.le_of_ble_eq_true rfl) dX2_init_17
