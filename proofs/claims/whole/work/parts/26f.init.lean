set_option maxRecDepth 20000 in
theorem wi_X6_init_m1 : Cond.methodLink RX6 1 objectInit ∈ wsX6_init := by decide +kernel
set_option maxRecDepth 20000 in
theorem wi_X6_init_io : Cond.instanceMethod objectInit ∈ wsX6_init := by decide +kernel
set_option maxRecDepth 20000 in
theorem wi_X6_init_co : Cond.code objectInit ⟨#[0xb1]⟩ 1 none ∈ wsX6_init := by decide +kernel
set_option maxRecDepth 20000 in
theorem ni_X6_init_X4 : ∀ w ∈ wsX40, w ∈ wsX6_init := by decide +kernel
set_option maxRecDepth 20000 in
theorem wi_X6_init_l7 : Cond.classLink RX6 7 RX4 ∈ wsX6_init := by decide +kernel
set_option maxRecDepth 20000 in
theorem wi_X6_init_inX4 : Cond.instantiable RX4 5 ∈ wsX6_init := by decide +kernel
set_option maxRecDepth 20000 in
theorem wi_X6_init_iX4 : Cond.initialized RX4 ∈ wsX6_init := by decide +kernel
set_option maxRecDepth 20000 in
theorem wi_X6_init_imX4 : Cond.instanceMethod yX4_init ∈ wsX6_init := by decide +kernel
set_option maxRecDepth 20000 in
theorem ni_X6_init_X6 : ∀ w ∈ wsX60, w ∈ wsX6_init := by decide +kernel
set_option maxRecDepth 20000 in
theorem wi_X6_init_f10 : Cond.fieldLink RX6 10 "LayerStacks" "reader" "LLayerStacks$TextReader;" ∈ wsX6_init := by decide +kernel
set_option maxRecDepth 20000 in
theorem ni_X6_init_X5 : ∀ w ∈ wsX50, w ∈ wsX6_init := by decide +kernel
set_option maxRecDepth 20000 in
theorem wi_X6_init_l16 : Cond.classLink RX6 16 RX5 ∈ wsX6_init := by decide +kernel
set_option maxRecDepth 20000 in
theorem wi_X6_init_inX5 : Cond.instantiable RX5 3 ∈ wsX6_init := by decide +kernel
set_option maxRecDepth 20000 in
theorem wi_X6_init_iX5 : Cond.initialized RX5 ∈ wsX6_init := by decide +kernel
set_option maxRecDepth 20000 in
theorem wi_X6_init_imX5 : Cond.instanceMethod yX5_init ∈ wsX6_init := by decide +kernel
set_option maxRecDepth 20000 in
theorem wi_X6_init_f19 : Cond.fieldLink RX6 19 "LayerStacks" "writing" "LLayerStacks$Writing;" ∈ wsX6_init := by decide +kernel
set_option maxRecDepth 20000 in
theorem ni_X6_init_X1 : ∀ w ∈ wsX10, w ∈ wsX6_init := by decide +kernel
set_option maxRecDepth 20000 in
theorem wi_X6_init_l23 : Cond.classLink RX6 23 RX1 ∈ wsX6_init := by decide +kernel
set_option maxRecDepth 20000 in
theorem wi_X6_init_inX1 : Cond.instantiable RX1 3 ∈ wsX6_init := by decide +kernel
set_option maxRecDepth 20000 in
theorem wi_X6_init_iX1 : Cond.initialized RX1 ∈ wsX6_init := by decide +kernel
set_option maxRecDepth 20000 in
theorem wi_X6_init_imX1 : Cond.instanceMethod yX1_init ∈ wsX6_init := by decide +kernel
set_option maxRecDepth 20000 in
theorem wi_X6_init_f26 : Cond.fieldLink RX6 26 "LayerStacks" "makers" "LLayerStacks$MakerLists;" ∈ wsX6_init := by decide +kernel
set_option maxRecDepth 20000 in
theorem ni_X6_init_X0 : ∀ w ∈ wsX00, w ∈ wsX6_init := by decide +kernel
set_option maxRecDepth 20000 in
theorem wi_X6_init_l30 : Cond.classLink RX6 30 RX0 ∈ wsX6_init := by decide +kernel
set_option maxRecDepth 20000 in
theorem wi_X6_init_inX0 : Cond.instantiable RX0 12 ∈ wsX6_init := by decide +kernel
set_option maxRecDepth 20000 in
theorem wi_X6_init_iX0 : Cond.initialized RX0 ∈ wsX6_init := by decide +kernel
set_option maxRecDepth 20000 in
theorem wi_X6_init_imX0 : Cond.instanceMethod yX0_init ∈ wsX6_init := by decide +kernel
set_option maxRecDepth 20000 in
theorem wi_X6_init_f33 : Cond.fieldLink RX6 33 "LayerStacks" "board" "LLayerStacks$Board;" ∈ wsX6_init := by decide +kernel
set_option maxRecDepth 20000 in
theorem wi_X6_init_f37 : Cond.fieldLink RX6 37 "LayerStacks" "draft" "LLayerStacks$Board;" ∈ wsX6_init := by decide +kernel
set_option maxHeartbeats 4000000 in
set_option maxRecDepth 100000 in
theorem c_X6_init (l : Launch) (D : va_G) (y : Nat → ClassId) (h0 : Nat) (sz : Nat) : Met l yX6_init wsX6_init ({ frames := 4, cells := 54, slots := 8623, locals := 83 } : Room) (va_Pc [.ref h0] (cPN D y ([(h0, .inr (6, [.null, .null, .null, .null, .null]))] : va_W) sz)) (QN D y (va_A ([(h0, .inr (6, [.null, .null, .null, .null, .null]))] : va_W) sz) h0 (fun q => wdX6 q (q 25) (q 40) y (fun _ => 0) 0 0 0 0 (fun _ => 0) (fun _ => 0) 0 (fun _ _ => 0) (fun _ _ => 0) 0 (fun _ => 0) (fun _ => 0) (fun _ => 0) (fun _ => 0) (fun _ => 0) (fun _ => 0) (fun _ => 0) (fun _ => 0) (fun _ => 0) 0 0 (fun _ => 0) (fun _ => 0) 0 0 0 0 (fun _ => 0) (fun _ => 0) (fun _ => 0) (fun _ => 0) (fun _ => 0) (fun _ => 0) (fun _ => 0) (fun _ => 0) (fun _ => 0) 0 0 (fun _ => 0) (fun _ => 0) 0 0 0 0)) 54 8623 (va_A ([(h0, .inr (6, [.null, .null, .null, .null, .null]))] : va_W) sz) := by
  refine met_ofN (own := RX6) (cc := cX6_init) (maxL := 1) (ret := none) (by decide) rfl rfl rfl (Nat.le_of_ble_eq_true rfl) ?_
  intro p e s m below meth c ls C hin hsz hK hP hD hA hS hJ hl
  obtain ⟨⟨hx, hb, hml, hown, hts⟩, hr, hlocks⟩ := id C
  have hl : lv_has ls 1 [(0, .ref h0)] := hl
  generalize (va_A ([(h0, .inr (6, [.null, .null, .null, .null, .null]))] : va_W) sz) = A at hD hA hS ⊢
  generalize ([.ref h0] : List Value).toArray = args at C hts ⊢
  refine lv_aload_n hx hb dX6_init_0 rfl (lv_at hl 0 rfl) ?_
  refine W.objInit hx hb hown (hts _ wi_X6_init_m1) (hts _ wi_X6_init_io) (hts _ wi_X6_init_co) rfl (by rw [hml]; exact hl.1) rfl dX6_init_1 (Nat.le_of_ble_eq_true rfl) (Nat.le_of_ble_eq_true rfl) ?_
  refine W.eq (g2 := F0 m 4 ls []) rfl ?_
  refine lv_aload_n hx hb dX6_init_4 rfl (lv_at hl 0 rfl) ?_
  refine va_new (ci := 4) (fs := [.null, .int 0, .int 0, .int 0, .int 0]) (C := RX4) (T := TX4) (N := 5) hx hb hts ni_X6_init_X4 tyX4 tyX4_ok hown (hts _ wi_X6_init_l7) (hts _ wi_X6_init_inX4) (hts _ wi_X6_init_iX4) hK hP hD hS hA rfl dfX4 (Nat.le_of_ble_eq_true rfl) (Nat.le_of_ble_eq_true rfl) dX6_init_5 (fun o1 H hP hD hS => ?_)
  have hP : va_P D vwCl ([(h0, .inr (6, [.null, .null, .null, .null, .null])), (o1, .inr (4, [.null, .int 0, .int 0, .int 0, .int 0]))] : va_W) H := hP
  have hD : va_D A ([(h0, .inr (6, [.null, .null, .null, .null, .null])), (o1, .inr (4, [.null, .int 0, .int 0, .int 0, .int 0]))] : va_W) := hD
  refine lv_dup hx hb dX6_init_8 rfl ?_
  refine call_IN (wf := fun q => wdX4 q y (fun _ => 0) 0 0 0 0) (wc := [(o1, .inr (4, [.null, .int 0, .int 0, .int 0, .int 0]))]) (wr := ([(h0, .inr (6, [.null, .null, .null, .null, .null]))] : va_W)) (As := []) (rest := [.ref o1, .ref h0]) C (c_X4_init l D y o1 _) ⟨va_cnB 0 hts ggX6_init_X4_init rfl rfl rfl (hJ.1 (RX6, 9, yX4_init) (by decide +kernel)) (hts _ wi_X6_init_iX4) (by decide +kernel) ⟨(Nat.le_of_ble_eq_true rfl), (Nat.le_of_ble_eq_true rfl)⟩, rfl, (hts _ wi_X6_init_imX4)⟩ hJ hK hP hD hS hA [1] [0] rfl rfl rfl rfl rfl (by decide) rfl hl.1 (Nat.le_of_ble_eq_true rfl) dX6_init_9 ⟨(Nat.le_of_ble_eq_true rfl), (Nat.le_of_ble_eq_true rfl)⟩ (fun q1 H locs hq hP2 hD2 hS => ?_)
  clear hP hD
  subst hq
  have hP := hP2
  have hD := hD2
  have hP : va_P D vwCl ([(h0, .inr (6, [.null, .null, .null, .null, .null]))] ++ (wdX4 q1 y (fun _ => 0) 0 0 0 0) : va_W) H := hP
  have hD : va_D A ([(h0, .inr (6, [.null, .null, .null, .null, .null]))] ++ (wdX4 q1 y (fun _ => 0) 0 0 0 0) : va_W) := hD
  refine va_putF (D := D) (ci := 6) (v := .ref (q1 0)) (ty := (.object "LayerStacks$TextReader")) (C := RX6) (T := TX6) (N := 5) hx hb hts ni_X6_init_X6 tyX6 tyX6_ok nmX6 hown hK hP hD hS 0 rfl rfl 0 (by decide) (hts _ wi_X6_init_f10) (fun _ h9 => h9) rfl hin rfl (by decide +kernel) rfl rfl (Nat.le_of_ble_eq_true rfl) dX6_init_12 (fun H locs hP hD hS => ?_)
  have hP : va_P D vwCl ([(h0, .inr (6, [.ref (q1 0), .null, .null, .null, .null]))] ++ (wdX4 q1 y (fun _ => 0) 0 0 0 0) : va_W) H := hP
  have hD : va_D A ([(h0, .inr (6, [.ref (q1 0), .null, .null, .null, .null]))] ++ (wdX4 q1 y (fun _ => 0) 0 0 0 0) : va_W) := hD
  refine lv_aload_n hx hb dX6_init_15 rfl (lv_at hl 0 rfl) ?_
  refine va_new (ci := 5) (fs := [.null, .null, .int 0]) (C := RX5) (T := TX5) (N := 3) hx hb hts ni_X6_init_X5 tyX5 tyX5_ok hown (hts _ wi_X6_init_l16) (hts _ wi_X6_init_inX5) (hts _ wi_X6_init_iX5) hK hP hD hS hA rfl dfX5 (Nat.le_of_ble_eq_true rfl) (Nat.le_of_ble_eq_true rfl) dX6_init_16 (fun o2 H hP hD hS => ?_)
  have hP : va_P D vwCl ([(h0, .inr (6, [.ref (q1 0), .null, .null, .null, .null]))] ++ (wdX4 q1 y (fun _ => 0) 0 0 0 0) ++ [(o2, .inr (5, [.null, .null, .int 0]))] : va_W) H := hP
  have hD : va_D A ([(h0, .inr (6, [.ref (q1 0), .null, .null, .null, .null]))] ++ (wdX4 q1 y (fun _ => 0) 0 0 0 0) ++ [(o2, .inr (5, [.null, .null, .int 0]))] : va_W) := hD
  refine lv_dup hx hb dX6_init_19 rfl ?_
  refine call_IN (wf := fun q => wdX5 q y (fun _ => 0) (fun _ => 0) 0) (wc := [(o2, .inr (5, [.null, .null, .int 0]))]) (wr := ([(h0, .inr (6, [.ref (q1 0), .null, .null, .null, .null]))] ++ (wdX4 q1 y (fun _ => 0) 0 0 0 0) : va_W)) (As := []) (rest := [.ref o2, .ref h0]) C (c_X5_init l D y o2 _) ⟨va_cnB 0 hts ggX6_init_X5_init rfl rfl rfl (hJ.1 (RX6, 18, yX5_init) (by decide +kernel)) (hts _ wi_X6_init_iX5) (by decide +kernel) ⟨(Nat.le_of_ble_eq_true rfl), (Nat.le_of_ble_eq_true rfl)⟩, rfl, (hts _ wi_X6_init_imX5)⟩ hJ hK hP hD hS hA [3] [0, 1, 2] rfl rfl rfl rfl rfl (by decide) rfl hl.1 (Nat.le_of_ble_eq_true rfl) dX6_init_20 ⟨(Nat.le_of_ble_eq_true rfl), (Nat.le_of_ble_eq_true rfl)⟩ (fun q2 H locs hq hP2 hD2 hS => ?_)
  clear hP hD
  subst hq
  have hP := hP2
  have hD := hD2
  have hP : va_P D vwCl ([(h0, .inr (6, [.ref (q1 0), .null, .null, .null, .null]))] ++ (wdX4 q1 y (fun _ => 0) 0 0 0 0) ++ (wdX5 q2 y (fun _ => 0) (fun _ => 0) 0) : va_W) H := hP
  have hD : va_D A ([(h0, .inr (6, [.ref (q1 0), .null, .null, .null, .null]))] ++ (wdX4 q1 y (fun _ => 0) 0 0 0 0) ++ (wdX5 q2 y (fun _ => 0) (fun _ => 0) 0) : va_W) := hD
  refine va_putF (D := D) (ci := 6) (v := .ref (q2 0)) (ty := (.object "LayerStacks$Writing")) (C := RX6) (T := TX6) (N := 5) hx hb hts ni_X6_init_X6 tyX6 tyX6_ok nmX6 hown hK hP hD hS 0 rfl rfl 1 (by decide) (hts _ wi_X6_init_f19) (fun _ h9 => h9) rfl hin rfl (by decide +kernel) rfl rfl (Nat.le_of_ble_eq_true rfl) dX6_init_23 (fun H locs hP hD hS => ?_)
  have hP : va_P D vwCl ([(h0, .inr (6, [.ref (q1 0), .ref (q2 0), .null, .null, .null]))] ++ (wdX4 q1 y (fun _ => 0) 0 0 0 0) ++ (wdX5 q2 y (fun _ => 0) (fun _ => 0) 0) : va_W) H := hP
  have hD : va_D A ([(h0, .inr (6, [.ref (q1 0), .ref (q2 0), .null, .null, .null]))] ++ (wdX4 q1 y (fun _ => 0) 0 0 0 0) ++ (wdX5 q2 y (fun _ => 0) (fun _ => 0) 0) : va_W) := hD
  refine lv_aload_n hx hb dX6_init_26 rfl (lv_at hl 0 rfl) ?_
  refine va_new (ci := 1) (fs := [.null, .null, .int 0]) (C := RX1) (T := TX1) (N := 3) hx hb hts ni_X6_init_X1 tyX1 tyX1_ok hown (hts _ wi_X6_init_l23) (hts _ wi_X6_init_inX1) (hts _ wi_X6_init_iX1) hK hP hD hS hA rfl dfX1 (Nat.le_of_ble_eq_true rfl) (Nat.le_of_ble_eq_true rfl) dX6_init_27 (fun o3 H hP hD hS => ?_)
  have hP : va_P D vwCl ([(h0, .inr (6, [.ref (q1 0), .ref (q2 0), .null, .null, .null]))] ++ (wdX4 q1 y (fun _ => 0) 0 0 0 0) ++ (wdX5 q2 y (fun _ => 0) (fun _ => 0) 0) ++ [(o3, .inr (1, [.null, .null, .int 0]))] : va_W) H := hP
  have hD : va_D A ([(h0, .inr (6, [.ref (q1 0), .ref (q2 0), .null, .null, .null]))] ++ (wdX4 q1 y (fun _ => 0) 0 0 0 0) ++ (wdX5 q2 y (fun _ => 0) (fun _ => 0) 0) ++ [(o3, .inr (1, [.null, .null, .int 0]))] : va_W) := hD
  refine lv_dup hx hb dX6_init_30 rfl ?_
  refine call_IN (wf := fun q => wdX1 q y (fun _ _ => 0) (fun _ _ => 0) 0) (wc := [(o3, .inr (1, [.null, .null, .int 0]))]) (wr := ([(h0, .inr (6, [.ref (q1 0), .ref (q2 0), .null, .null, .null]))] ++ (wdX4 q1 y (fun _ => 0) 0 0 0 0) ++ (wdX5 q2 y (fun _ => 0) (fun _ => 0) 0) : va_W)) (As := []) (rest := [.ref o3, .ref h0]) C (c_X1_init l D y o3 _) ⟨va_cnB 0 hts ggX6_init_X1_init rfl rfl rfl (hJ.1 (RX6, 25, yX1_init) (by decide +kernel)) (hts _ wi_X6_init_iX1) (by decide +kernel) ⟨(Nat.le_of_ble_eq_true rfl), (Nat.le_of_ble_eq_true rfl)⟩, rfl, (hts _ wi_X6_init_imX1)⟩ hJ hK hP hD hS hA [6] [0, 1, 2, 3, 4, 5] rfl rfl rfl rfl rfl (by decide) rfl hl.1 (Nat.le_of_ble_eq_true rfl) dX6_init_31 ⟨(Nat.le_of_ble_eq_true rfl), (Nat.le_of_ble_eq_true rfl)⟩ (fun q3 H locs hq hP2 hD2 hS => ?_)
  clear hP hD
  subst hq
  have hP := hP2
  have hD := hD2
  have hP : va_P D vwCl ([(h0, .inr (6, [.ref (q1 0), .ref (q2 0), .null, .null, .null]))] ++ (wdX4 q1 y (fun _ => 0) 0 0 0 0) ++ (wdX5 q2 y (fun _ => 0) (fun _ => 0) 0) ++ (wdX1 q3 y (fun _ _ => 0) (fun _ _ => 0) 0) : va_W) H := hP
  have hD : va_D A ([(h0, .inr (6, [.ref (q1 0), .ref (q2 0), .null, .null, .null]))] ++ (wdX4 q1 y (fun _ => 0) 0 0 0 0) ++ (wdX5 q2 y (fun _ => 0) (fun _ => 0) 0) ++ (wdX1 q3 y (fun _ _ => 0) (fun _ _ => 0) 0) : va_W) := hD
  refine va_putF (D := D) (ci := 6) (v := .ref (q3 0)) (ty := (.object "LayerStacks$MakerLists")) (C := RX6) (T := TX6) (N := 5) hx hb hts ni_X6_init_X6 tyX6 tyX6_ok nmX6 hown hK hP hD hS 0 rfl rfl 2 (by decide) (hts _ wi_X6_init_f26) (fun _ h9 => h9) rfl hin rfl (by decide +kernel) rfl rfl (Nat.le_of_ble_eq_true rfl) dX6_init_34 (fun H locs hP hD hS => ?_)
  have hP : va_P D vwCl ([(h0, .inr (6, [.ref (q1 0), .ref (q2 0), .ref (q3 0), .null, .null]))] ++ (wdX4 q1 y (fun _ => 0) 0 0 0 0) ++ (wdX5 q2 y (fun _ => 0) (fun _ => 0) 0) ++ (wdX1 q3 y (fun _ _ => 0) (fun _ _ => 0) 0) : va_W) H := hP
  have hD : va_D A ([(h0, .inr (6, [.ref (q1 0), .ref (q2 0), .ref (q3 0), .null, .null]))] ++ (wdX4 q1 y (fun _ => 0) 0 0 0 0) ++ (wdX5 q2 y (fun _ => 0) (fun _ => 0) 0) ++ (wdX1 q3 y (fun _ _ => 0) (fun _ _ => 0) 0) : va_W) := hD
  refine lv_aload_n hx hb dX6_init_37 rfl (lv_at hl 0 rfl) ?_
  refine va_new (ci := 0) (fs := [.null, .null, .null, .null, .null, .null, .null, .null, .null, .int 0, .int 0, .int 0]) (C := RX0) (T := TX0) (N := 12) hx hb hts ni_X6_init_X0 tyX0 tyX0_ok hown (hts _ wi_X6_init_l30) (hts _ wi_X6_init_inX0) (hts _ wi_X6_init_iX0) hK hP hD hS hA rfl dfX0 (Nat.le_of_ble_eq_true rfl) (Nat.le_of_ble_eq_true rfl) dX6_init_38 (fun o4 H hP hD hS => ?_)
  have hP : va_P D vwCl ([(h0, .inr (6, [.ref (q1 0), .ref (q2 0), .ref (q3 0), .null, .null]))] ++ (wdX4 q1 y (fun _ => 0) 0 0 0 0) ++ (wdX5 q2 y (fun _ => 0) (fun _ => 0) 0) ++ (wdX1 q3 y (fun _ _ => 0) (fun _ _ => 0) 0) ++ [(o4, .inr (0, [.null, .null, .null, .null, .null, .null, .null, .null, .null, .int 0, .int 0, .int 0]))] : va_W) H := hP
  have hD : va_D A ([(h0, .inr (6, [.ref (q1 0), .ref (q2 0), .ref (q3 0), .null, .null]))] ++ (wdX4 q1 y (fun _ => 0) 0 0 0 0) ++ (wdX5 q2 y (fun _ => 0) (fun _ => 0) 0) ++ (wdX1 q3 y (fun _ _ => 0) (fun _ _ => 0) 0) ++ [(o4, .inr (0, [.null, .null, .null, .null, .null, .null, .null, .null, .null, .int 0, .int 0, .int 0]))] : va_W) := hD
  refine lv_dup hx hb dX6_init_41 rfl ?_
  refine call_IN (wf := fun q => wdX0 q y (fun _ => 0) (fun _ => 0) (fun _ => 0) (fun _ => 0) (fun _ => 0) (fun _ => 0) (fun _ => 0) (fun _ => 0) (fun _ => 0) 0 0 (fun _ => 0) (fun _ => 0) 0 0 0 0) (wc := [(o4, .inr (0, [.null, .null, .null, .null, .null, .null, .null, .null, .null, .int 0, .int 0, .int 0]))]) (wr := ([(h0, .inr (6, [.ref (q1 0), .ref (q2 0), .ref (q3 0), .null, .null]))] ++ (wdX4 q1 y (fun _ => 0) 0 0 0 0) ++ (wdX5 q2 y (fun _ => 0) (fun _ => 0) 0) ++ (wdX1 q3 y (fun _ _ => 0) (fun _ _ => 0) 0) : va_W)) (As := []) (rest := [.ref o4, .ref h0]) C (c_X0_init l D y o4 _) ⟨va_cnB 0 hts ggX6_init_X0_init rfl rfl rfl (hJ.1 (RX6, 32, yX0_init) (by decide +kernel)) (hts _ wi_X6_init_iX0) (by decide +kernel) ⟨(Nat.le_of_ble_eq_true rfl), (Nat.le_of_ble_eq_true rfl)⟩, rfl, (hts _ wi_X6_init_imX0)⟩ hJ hK hP hD hS hA [25] [0, 1, 2, 3, 4, 5, 6, 7, 8, 9, 10, 11, 12, 13, 14, 15, 16, 17, 18, 19, 20, 21, 22, 23, 24] rfl rfl rfl rfl rfl (by decide) rfl hl.1 (Nat.le_of_ble_eq_true rfl) dX6_init_42 ⟨(Nat.le_of_ble_eq_true rfl), (Nat.le_of_ble_eq_true rfl)⟩ (fun q4 H locs hq hP2 hD2 hS => ?_)
  clear hP hD
  subst hq
  have hP := hP2
  have hD := hD2
  have hP : va_P D vwCl ([(h0, .inr (6, [.ref (q1 0), .ref (q2 0), .ref (q3 0), .null, .null]))] ++ (wdX4 q1 y (fun _ => 0) 0 0 0 0) ++ (wdX5 q2 y (fun _ => 0) (fun _ => 0) 0) ++ (wdX1 q3 y (fun _ _ => 0) (fun _ _ => 0) 0) ++ (wdX0 q4 y (fun _ => 0) (fun _ => 0) (fun _ => 0) (fun _ => 0) (fun _ => 0) (fun _ => 0) (fun _ => 0) (fun _ => 0) (fun _ => 0) 0 0 (fun _ => 0) (fun _ => 0) 0 0 0 0) : va_W) H := hP
  have hD : va_D A ([(h0, .inr (6, [.ref (q1 0), .ref (q2 0), .ref (q3 0), .null, .null]))] ++ (wdX4 q1 y (fun _ => 0) 0 0 0 0) ++ (wdX5 q2 y (fun _ => 0) (fun _ => 0) 0) ++ (wdX1 q3 y (fun _ _ => 0) (fun _ _ => 0) 0) ++ (wdX0 q4 y (fun _ => 0) (fun _ => 0) (fun _ => 0) (fun _ => 0) (fun _ => 0) (fun _ => 0) (fun _ => 0) (fun _ => 0) (fun _ => 0) 0 0 (fun _ => 0) (fun _ => 0) 0 0 0 0) : va_W) := hD
  refine va_put (D := D) (ci := 6) (v := .ref (q4 0)) (ty := (.object "LayerStacks$Board")) (C := RX6) (T := TX6) (N := 5) hx hb hts ni_X6_init_X6 tyX6 tyX6_ok nmX6 hown hK hP hD hS 0 rfl rfl 3 (by decide) (hts _ wi_X6_init_f33) (fun _ h9 => h9) rfl (by decide +kernel) rfl rfl (Nat.le_of_ble_eq_true rfl) dX6_init_45 (fun H locs hP hD hS => ?_)
  have hP : va_P D vwCl ([(h0, .inr (6, [.ref (q1 0), .ref (q2 0), .ref (q3 0), .ref (q4 0), .null]))] ++ (wdX4 q1 y (fun _ => 0) 0 0 0 0) ++ (wdX5 q2 y (fun _ => 0) (fun _ => 0) 0) ++ (wdX1 q3 y (fun _ _ => 0) (fun _ _ => 0) 0) ++ (wdX0 q4 y (fun _ => 0) (fun _ => 0) (fun _ => 0) (fun _ => 0) (fun _ => 0) (fun _ => 0) (fun _ => 0) (fun _ => 0) (fun _ => 0) 0 0 (fun _ => 0) (fun _ => 0) 0 0 0 0) : va_W) H := hP
  have hD : va_D A ([(h0, .inr (6, [.ref (q1 0), .ref (q2 0), .ref (q3 0), .ref (q4 0), .null]))] ++ (wdX4 q1 y (fun _ => 0) 0 0 0 0) ++ (wdX5 q2 y (fun _ => 0) (fun _ => 0) 0) ++ (wdX1 q3 y (fun _ _ => 0) (fun _ _ => 0) 0) ++ (wdX0 q4 y (fun _ => 0) (fun _ => 0) (fun _ => 0) (fun _ => 0) (fun _ => 0) (fun _ => 0) (fun _ => 0) (fun _ => 0) (fun _ => 0) 0 0 (fun _ => 0) (fun _ => 0) 0 0 0 0) : va_W) := hD
  refine lv_aload_n hx hb dX6_init_48 rfl (lv_at hl 0 rfl) ?_
  refine va_new (ci := 0) (fs := [.null, .null, .null, .null, .null, .null, .null, .null, .null, .int 0, .int 0, .int 0]) (C := RX0) (T := TX0) (N := 12) hx hb hts ni_X6_init_X0 tyX0 tyX0_ok hown (hts _ wi_X6_init_l30) (hts _ wi_X6_init_inX0) (hts _ wi_X6_init_iX0) hK hP hD hS hA rfl dfX0 (Nat.le_of_ble_eq_true rfl) (Nat.le_of_ble_eq_true rfl) dX6_init_49 (fun o5 H hP hD hS => ?_)
  have hP : va_P D vwCl ([(h0, .inr (6, [.ref (q1 0), .ref (q2 0), .ref (q3 0), .ref (q4 0), .null]))] ++ (wdX4 q1 y (fun _ => 0) 0 0 0 0) ++ (wdX5 q2 y (fun _ => 0) (fun _ => 0) 0) ++ (wdX1 q3 y (fun _ _ => 0) (fun _ _ => 0) 0) ++ (wdX0 q4 y (fun _ => 0) (fun _ => 0) (fun _ => 0) (fun _ => 0) (fun _ => 0) (fun _ => 0) (fun _ => 0) (fun _ => 0) (fun _ => 0) 0 0 (fun _ => 0) (fun _ => 0) 0 0 0 0) ++ [(o5, .inr (0, [.null, .null, .null, .null, .null, .null, .null, .null, .null, .int 0, .int 0, .int 0]))] : va_W) H := hP
  have hD : va_D A ([(h0, .inr (6, [.ref (q1 0), .ref (q2 0), .ref (q3 0), .ref (q4 0), .null]))] ++ (wdX4 q1 y (fun _ => 0) 0 0 0 0) ++ (wdX5 q2 y (fun _ => 0) (fun _ => 0) 0) ++ (wdX1 q3 y (fun _ _ => 0) (fun _ _ => 0) 0) ++ (wdX0 q4 y (fun _ => 0) (fun _ => 0) (fun _ => 0) (fun _ => 0) (fun _ => 0) (fun _ => 0) (fun _ => 0) (fun _ => 0) (fun _ => 0) 0 0 (fun _ => 0) (fun _ => 0) 0 0 0 0) ++ [(o5, .inr (0, [.null, .null, .null, .null, .null, .null, .null, .null, .null, .int 0, .int 0, .int 0]))] : va_W) := hD
  refine lv_dup hx hb dX6_init_52 rfl ?_
  refine call_IN (wf := fun q => wdX0 q y (fun _ => 0) (fun _ => 0) (fun _ => 0) (fun _ => 0) (fun _ => 0) (fun _ => 0) (fun _ => 0) (fun _ => 0) (fun _ => 0) 0 0 (fun _ => 0) (fun _ => 0) 0 0 0 0) (wc := [(o5, .inr (0, [.null, .null, .null, .null, .null, .null, .null, .null, .null, .int 0, .int 0, .int 0]))]) (wr := ([(h0, .inr (6, [.ref (q1 0), .ref (q2 0), .ref (q3 0), .ref (q4 0), .null]))] ++ (wdX4 q1 y (fun _ => 0) 0 0 0 0) ++ (wdX5 q2 y (fun _ => 0) (fun _ => 0) 0) ++ (wdX1 q3 y (fun _ _ => 0) (fun _ _ => 0) 0) ++ (wdX0 q4 y (fun _ => 0) (fun _ => 0) (fun _ => 0) (fun _ => 0) (fun _ => 0) (fun _ => 0) (fun _ => 0) (fun _ => 0) (fun _ => 0) 0 0 (fun _ => 0) (fun _ => 0) 0 0 0 0) : va_W)) (As := []) (rest := [.ref o5, .ref h0]) C (c_X0_init l D y o5 _) ⟨va_cnB 0 hts ggX6_init_X0_init rfl rfl rfl (hJ.1 (RX6, 32, yX0_init) (by decide +kernel)) (hts _ wi_X6_init_iX0) (by decide +kernel) ⟨(Nat.le_of_ble_eq_true rfl), (Nat.le_of_ble_eq_true rfl)⟩, rfl, (hts _ wi_X6_init_imX0)⟩ hJ hK hP hD hS hA [40] [0, 1, 2, 3, 4, 5, 6, 7, 8, 9, 10, 11, 12, 13, 14, 15, 16, 17, 18, 19, 20, 21, 22, 23, 24, 25, 26, 27, 28, 29, 30, 31, 32, 33, 34, 35, 36, 37, 38, 39] rfl rfl rfl rfl rfl (by decide) rfl hl.1 (Nat.le_of_ble_eq_true rfl) dX6_init_53 ⟨(Nat.le_of_ble_eq_true rfl), (Nat.le_of_ble_eq_true rfl)⟩ (fun q5 H locs hq hP2 hD2 hS => ?_)
  clear hP hD
  subst hq
  have hP := hP2
  have hD := hD2
  have hP : va_P D vwCl ([(h0, .inr (6, [.ref (q1 0), .ref (q2 0), .ref (q3 0), .ref (q4 0), .null]))] ++ (wdX4 q1 y (fun _ => 0) 0 0 0 0) ++ (wdX5 q2 y (fun _ => 0) (fun _ => 0) 0) ++ (wdX1 q3 y (fun _ _ => 0) (fun _ _ => 0) 0) ++ (wdX0 q4 y (fun _ => 0) (fun _ => 0) (fun _ => 0) (fun _ => 0) (fun _ => 0) (fun _ => 0) (fun _ => 0) (fun _ => 0) (fun _ => 0) 0 0 (fun _ => 0) (fun _ => 0) 0 0 0 0) ++ (wdX0 q5 y (fun _ => 0) (fun _ => 0) (fun _ => 0) (fun _ => 0) (fun _ => 0) (fun _ => 0) (fun _ => 0) (fun _ => 0) (fun _ => 0) 0 0 (fun _ => 0) (fun _ => 0) 0 0 0 0) : va_W) H := hP
  have hD : va_D A ([(h0, .inr (6, [.ref (q1 0), .ref (q2 0), .ref (q3 0), .ref (q4 0), .null]))] ++ (wdX4 q1 y (fun _ => 0) 0 0 0 0) ++ (wdX5 q2 y (fun _ => 0) (fun _ => 0) 0) ++ (wdX1 q3 y (fun _ _ => 0) (fun _ _ => 0) 0) ++ (wdX0 q4 y (fun _ => 0) (fun _ => 0) (fun _ => 0) (fun _ => 0) (fun _ => 0) (fun _ => 0) (fun _ => 0) (fun _ => 0) (fun _ => 0) 0 0 (fun _ => 0) (fun _ => 0) 0 0 0 0) ++ (wdX0 q5 y (fun _ => 0) (fun _ => 0) (fun _ => 0) (fun _ => 0) (fun _ => 0) (fun _ => 0) (fun _ => 0) (fun _ => 0) (fun _ => 0) 0 0 (fun _ => 0) (fun _ => 0) 0 0 0 0) : va_W) := hD
  refine va_put (D := D) (ci := 6) (v := .ref (q5 0)) (ty := (.object "LayerStacks$Board")) (C := RX6) (T := TX6) (N := 5) hx hb hts ni_X6_init_X6 tyX6 tyX6_ok nmX6 hown hK hP hD hS 0 rfl rfl 4 (by decide) (hts _ wi_X6_init_f37) (fun _ h9 => h9) rfl (by decide +kernel) rfl rfl (Nat.le_of_ble_eq_true rfl) dX6_init_56 (fun H locs hP hD hS => ?_)
  have hP : va_P D vwCl ([(h0, .inr (6, [.ref (q1 0), .ref (q2 0), .ref (q3 0), .ref (q4 0), .ref (q5 0)]))] ++ (wdX4 q1 y (fun _ => 0) 0 0 0 0) ++ (wdX5 q2 y (fun _ => 0) (fun _ => 0) 0) ++ (wdX1 q3 y (fun _ _ => 0) (fun _ _ => 0) 0) ++ (wdX0 q4 y (fun _ => 0) (fun _ => 0) (fun _ => 0) (fun _ => 0) (fun _ => 0) (fun _ => 0) (fun _ => 0) (fun _ => 0) (fun _ => 0) 0 0 (fun _ => 0) (fun _ => 0) 0 0 0 0) ++ (wdX0 q5 y (fun _ => 0) (fun _ => 0) (fun _ => 0) (fun _ => 0) (fun _ => 0) (fun _ => 0) (fun _ => 0) (fun _ => 0) (fun _ => 0) 0 0 (fun _ => 0) (fun _ => 0) 0 0 0 0) : va_W) H := hP
  have hD : va_D A ([(h0, .inr (6, [.ref (q1 0), .ref (q2 0), .ref (q3 0), .ref (q4 0), .ref (q5 0)]))] ++ (wdX4 q1 y (fun _ => 0) 0 0 0 0) ++ (wdX5 q2 y (fun _ => 0) (fun _ => 0) 0) ++ (wdX1 q3 y (fun _ _ => 0) (fun _ _ => 0) 0) ++ (wdX0 q4 y (fun _ => 0) (fun _ => 0) (fun _ => 0) (fun _ => 0) (fun _ => 0) (fun _ => 0) (fun _ => 0) (fun _ => 0) (fun _ => 0) 0 0 (fun _ => 0) (fun _ => 0) 0 0 0 0) ++ (wdX0 q5 y (fun _ => 0) (fun _ => 0) (fun _ => 0) (fun _ => 0) (fun _ => 0) (fun _ => 0) (fun _ => 0) (fun _ => 0) (fun _ => 0) 0 0 (fun _ => 0) (fun _ => 0) 0 0 0 0) : va_W) := hD
  have eg8 : (fun i => if i < 8 then some (q3 (i + 2)) else none) = (fun i => if i < 8 then some ((qat [h0] (qcat 2 q1 (qcat 3 q2 (qcat 19 q3 (qcat 15 q4 (qcat 15 q5 (fun _ => 0))))))) (i + 8)) else none) := by
    funext i
    by_cases h : i < 8
    · rw [if_pos h, if_pos h]
      congr 1
      simp only [qat, qcat, List.length_cons, List.length_nil]
      rw [if_neg (by omega), if_neg (by omega), if_neg (by omega), if_pos (by omega)]
      congr 1
    · rw [if_neg h, if_neg h]
  have eg17 : (fun i => if i < 8 then some (q3 (i + 11)) else none) = (fun i => if i < 8 then some ((qat [h0] (qcat 2 q1 (qcat 3 q2 (qcat 19 q3 (qcat 15 q4 (qcat 15 q5 (fun _ => 0))))))) (i + 17)) else none) := by
    funext i
    by_cases h : i < 8
    · rw [if_pos h, if_pos h]
      congr 1
      simp only [qat, qcat, List.length_cons, List.length_nil]
      rw [if_neg (by omega), if_neg (by omega), if_neg (by omega), if_pos (by omega)]
      congr 1
    · rw [if_neg h, if_neg h]
  unfold wdX1 at hP hD
  rw [eg8, eg17] at hP hD
  have hP : va_P D vwCl (wdX6 (qat [h0] (qcat 2 q1 (qcat 3 q2 (qcat 19 q3 (qcat 15 q4 (qcat 15 q5 (fun _ => 0))))))) ((qat [h0] (qcat 2 q1 (qcat 3 q2 (qcat 19 q3 (qcat 15 q4 (qcat 15 q5 (fun _ => 0))))))) 25) ((qat [h0] (qcat 2 q1 (qcat 3 q2 (qcat 19 q3 (qcat 15 q4 (qcat 15 q5 (fun _ => 0))))))) 40) y (fun _ => 0) 0 0 0 0 (fun _ => 0) (fun _ => 0) 0 (fun _ _ => 0) (fun _ _ => 0) 0 (fun _ => 0) (fun _ => 0) (fun _ => 0) (fun _ => 0) (fun _ => 0) (fun _ => 0) (fun _ => 0) (fun _ => 0) (fun _ => 0) 0 0 (fun _ => 0) (fun _ => 0) 0 0 0 0 (fun _ => 0) (fun _ => 0) (fun _ => 0) (fun _ => 0) (fun _ => 0) (fun _ => 0) (fun _ => 0) (fun _ => 0) (fun _ => 0) 0 0 (fun _ => 0) (fun _ => 0) 0 0 0 0) H := hP
  have hD : va_D A (wdX6 (qat [h0] (qcat 2 q1 (qcat 3 q2 (qcat 19 q3 (qcat 15 q4 (qcat 15 q5 (fun _ => 0))))))) ((qat [h0] (qcat 2 q1 (qcat 3 q2 (qcat 19 q3 (qcat 15 q4 (qcat 15 q5 (fun _ => 0))))))) 25) ((qat [h0] (qcat 2 q1 (qcat 3 q2 (qcat 19 q3 (qcat 15 q4 (qcat 15 q5 (fun _ => 0))))))) 40) y (fun _ => 0) 0 0 0 0 (fun _ => 0) (fun _ => 0) 0 (fun _ _ => 0) (fun _ _ => 0) 0 (fun _ => 0) (fun _ => 0) (fun _ => 0) (fun _ => 0) (fun _ => 0) (fun _ => 0) (fun _ => 0) (fun _ => 0) (fun _ => 0) 0 0 (fun _ => 0) (fun _ => 0) 0 0 0 0 (fun _ => 0) (fun _ => 0) (fun _ => 0) (fun _ => 0) (fun _ => 0) (fun _ => 0) (fun _ => 0) (fun _ => 0) (fun _ => 0) 0 0 (fun _ => 0) (fun _ => 0) 0 0 0 0) := hD
  exact endN (wf := fun q => wdX6 q (q 25) (q 40) y (fun _ => 0) 0 0 0 0 (fun _ => 0) (fun _ => 0) 0 (fun _ _ => 0) (fun _ _ => 0) 0 (fun _ => 0) (fun _ => 0) (fun _ => 0) (fun _ => 0) (fun _ => 0) (fun _ => 0) (fun _ => 0) (fun _ => 0) (fun _ => 0) 0 0 (fun _ => 0) (fun _ => 0) 0 0 0 0 (fun _ => 0) (fun _ => 0) (fun _ => 0) (fun _ => 0) (fun _ => 0) (fun _ => 0) (fun _ => 0) (fun _ => 0) (fun _ => 0) 0 0 (fun _ => 0) (fun _ => 0) 0 0 0 0) C hK (qat [h0] (qcat 2 q1 (qcat 3 q2 (qcat 19 q3 (qcat 15 q4 (qcat 15 q5 (fun _ => 0))))))) rfl hP hD hS (Nat.le_of_ble_eq_true rfl) (Nat.le_of_ble_eq_true rfl) dX6_init_59
