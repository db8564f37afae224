def f_X0_clear (F : Nat) (b_p_s_c : Int32) (b_p_t : Int32) (b_v_c : Int32) (b_L : Int32) (b_C : Int32) (b_I : Int32) : Option (Int32 × Int32 × Int32 × Int32 × Int32 × Int32) := mb2 (f_X2_clear F b_p_s_c b_p_t) (fun b_p_s_c_1 b_p_t_2 => some (b_p_s_c_1, b_p_t_2, (0 : Int32), (0 : Int32), (0 : Int32), (0 : Int32)))
set_option maxRecDepth 20000 in
theorem n_X0_clear_X0 : ∀ w ∈ wsX00, w ∈ wsX0_clear := by decide +kernel
set_option maxRecDepth 20000 in
theorem w_X0_clear_f50 : Cond.fieldLink RX0 50 "LayerStacks$Board" "layers" "I" ∈ wsX0_clear := by decide +kernel
set_option maxRecDepth 20000 in
theorem w_X0_clear_f54 : Cond.fieldLink RX0 54 "LayerStacks$Board" "coppers" "I" ∈ wsX0_clear := by decide +kernel
set_option maxRecDepth 20000 in
theorem w_X0_clear_f57 : Cond.fieldLink RX0 57 "LayerStacks$Board" "isInsulated" "Z" ∈ wsX0_clear := by decide +kernel
set_option maxRecDepth 20000 in
theorem w_X0_clear_f37 : Cond.fieldLink RX0 37 "LayerStacks$Board" "pressings" "LLayerStacks$Pressings;" ∈ wsX0_clear := by decide +kernel
set_option maxRecDepth 20000 in
theorem w_X0_clear_f46 : Cond.fieldLink RX0 46 "LayerStacks$Board" "vias" "LLayerStacks$Spans;" ∈ wsX0_clear := by decide +kernel
set_option maxRecDepth 20000 in
theorem n_X0_clear_X3 : ∀ w ∈ wsX30, w ∈ wsX0_clear := by decide +kernel
set_option maxRecDepth 20000 in
theorem w_X0_clear_f64 : Cond.fieldLink RX0 64 "LayerStacks$Spans" "count" "I" ∈ wsX0_clear := by decide +kernel
set_option maxHeartbeats 4000000 in
set_option maxRecDepth 100000 in
theorem c_X0_clear (l : Launch) (D : va_G) (y : Nat → ClassId) (q : Nat → Nat) (sz : Nat) (F : Nat) {b_k : Nat → Int32} {b_n : Nat → Int64} {b_h : Nat → Int32} {b_d : Nat → Int32} {b_r : Nat → Int32} {b_u : Nat → Int32} {b_y : Nat → Int32} {b_p_s_f : Nat → Int32} {b_p_s_l : Nat → Int32} {b_p_s_c : Int32} {b_p_t : Int32} {b_v_f : Nat → Int32} {b_v_l : Nat → Int32} {b_v_c : Int32} {b_L : Int32} {b_C : Int32} {b_I : Int32} {z : Int32 × Int32 × Int32 × Int32 × Int32 × Int32} (hm : f_X0_clear F b_p_s_c b_p_t b_v_c b_L b_C b_I = some z) : Met l yX0_clear wsX0_clear ({ frames := 1, cells := 0, slots := 0, locals := 20 } : Room) (va_Pc [.ref (q 0)] (cP D y (wdX0 q y b_k b_n b_h b_d b_r b_u b_y b_p_s_f b_p_s_l b_p_s_c b_p_t b_v_f b_v_l b_v_c b_L b_C b_I) sz)) (QV D y (va_A (wdX0 q y b_k b_n b_h b_d b_r b_u b_y b_p_s_f b_p_s_l b_p_s_c b_p_t b_v_f b_v_l b_v_c b_L b_C b_I) sz) (wdX0 q y b_k b_n b_h b_d b_r b_u b_y b_p_s_f b_p_s_l (z.1) (z.2.1) b_v_f b_v_l (z.2.2.1) (z.2.2.2.1) (z.2.2.2.2.1) (z.2.2.2.2.2))) 0 0 (va_A (wdX0 q y b_k b_n b_h b_d b_r b_u b_y b_p_s_f b_p_s_l b_p_s_c b_p_t b_v_f b_v_l b_v_c b_L b_C b_I) sz) := by
  refine met_of (own := RX0) (cc := cX0_clear) (maxL := 1) (ret := none) (by decide) rfl rfl (Nat.le_of_ble_eq_true rfl) ?_
  intro p e s m below meth c ls C hsz hK hP hD hA hS hl
  obtain ⟨⟨hx, hb, hml, hown, hts⟩, hr, hlocks⟩ := id C
  have hl : lv_has ls 1 [(0, .ref (q 0))] := hl
  generalize va_A (wdX0 q y b_k b_n b_h b_d b_r b_u b_y b_p_s_f b_p_s_l b_p_s_c b_p_t b_v_f b_v_l b_v_c b_L b_C b_I) sz = A at hD hA hS ⊢
  generalize ([.ref (q 0)] : List Value).toArray = args at C hts ⊢
  unfold f_X0_clear at hm
  refine lv_aload_n hx hb dX0_clear_0 rfl (lv_at hl 0 rfl) ?_
  refine lv_iconst (v := (0 : Int32)) hx hb dX0_clear_1 (by decide) ?_
  refine va_put (D := D) (ci := 0) (v := .int (0 : Int32)) (ty := .int) (C := RX0) (T := TX0) (N := 12) hx hb hts n_X0_clear_X0 tyX0 tyX0_ok nmX0 hown hK hP hD hS 0 rfl rfl 9 (by decide) (hts _ w_X0_clear_f50) (fun _ h9 => h9) rfl (by decide +kernel) rfl rfl (Nat.le_of_ble_eq_true rfl) dX0_clear_2 (fun H locs hP hD hS => ?_)
  have hP : va_P D vwCl (wdX0 q y b_k b_n b_h b_d b_r b_u b_y b_p_s_f b_p_s_l b_p_s_c b_p_t b_v_f b_v_l b_v_c (0 : Int32) b_C b_I) H := hP
  have hD : va_D A (wdX0 q y b_k b_n b_h b_d b_r b_u b_y b_p_s_f b_p_s_l b_p_s_c b_p_t b_v_f b_v_l b_v_c (0 : Int32) b_C b_I) := hD
  refine lv_aload_n hx hb dX0_clear_5 rfl (lv_at hl 0 rfl) ?_
  refine lv_iconst (v := (0 : Int32)) hx hb dX0_clear_6 (by decide) ?_
  refine va_put (D := D) (ci := 0) (v := .int (0 : Int32)) (ty := .int) (C := RX0) (T := TX0) (N := 12) hx hb hts n_X0_clear_X0 tyX0 tyX0_ok nmX0 hown hK hP hD hS 0 rfl rfl 10 (by decide) (hts _ w_X0_clear_f54) (fun _ h9 => h9) rfl (by decide +kernel) rfl rfl (Nat.le_of_ble_eq_true rfl) dX0_clear_7 (fun H locs hP hD hS => ?_)
  have hP : va_P D vwCl (wdX0 q y b_k b_n b_h b_d b_r b_u b_y b_p_s_f b_p_s_l b_p_s_c b_p_t b_v_f b_v_l b_v_c (0 : Int32) (0 : Int32) b_I) H := hP
  have hD : va_D A (wdX0 q y b_k b_n b_h b_d b_r b_u b_y b_p_s_f b_p_s_l b_p_s_c b_p_t b_v_f b_v_l b_v_c (0 : Int32) (0 : Int32) b_I) := hD
  refine lv_aload_n hx hb dX0_clear_10 rfl (lv_at hl 0 rfl) ?_
  refine lv_iconst (v := (0 : Int32)) hx hb dX0_clear_11 (by decide) ?_
  refine va_put (D := D) (ci := 0) (v := .int (0 : Int32)) (ty := .boolean) (C := RX0) (T := TX0) (N := 12) hx hb hts n_X0_clear_X0 tyX0 tyX0_ok nmX0 hown hK hP hD hS 0 rfl rfl 11 (by decide) (hts _ w_X0_clear_f57) (fun _ h9 => h9) rfl (by decide +kernel) rfl rfl (Nat.le_of_ble_eq_true rfl) dX0_clear_12 (fun H locs hP hD hS => ?_)
  have hP : va_P D vwCl (wdX0 q y b_k b_n b_h b_d b_r b_u b_y b_p_s_f b_p_s_l b_p_s_c b_p_t b_v_f b_v_l b_v_c (0 : Int32) (0 : Int32) (0 : Int32)) H := hP
  have hD : va_D A (wdX0 q y b_k b_n b_h b_d b_r b_u b_y b_p_s_f b_p_s_l b_p_s_c b_p_t b_v_f b_v_l b_v_c (0 : Int32) (0 : Int32) (0 : Int32)) := hD
  refine lv_aload_n hx hb dX0_clear_15 rfl (lv_at hl 0 rfl) ?_
  refine va_get (D := D) (ci := 0) (v := .ref (q 8)) (C := RX0) (T := TX0) (N := 12) hx hb hts n_X0_clear_X0 hown hK hP 0 rfl rfl 7 (by decide) (hts _ w_X0_clear_f37) (fun _ h9 => h9) rfl dX0_clear_16 ?_
  obtain ⟨b_p_s_c_1, b_p_t_2, hc_3, hm⟩ := mb2_of hm
  refine call_vv (wc := (wdX2 (fun i => q (i + 8)) y b_p_s_f b_p_s_l b_p_s_c b_p_t)) (wr := [(q 0, .inr (0, [.ref (q 1), .ref (q 2), .ref (q 3), .ref (q 4), .ref (q 5), .ref (q 6), .ref (q 7), .ref (q 8), .ref (q 12), .int (0 : Int32), .int (0 : Int32), .int (0 : Int32)])), (q 1, .inl (y 0, 80, .inl b_k)), (q 2, .inl (y 1, 80, .inr (.inl b_n))), (q 3, .inl (y 0, 80, .inl b_h)), (q 4, .inl (y 0, 80, .inl b_d)), (q 5, .inl (y 0, 80, .inl b_r)), (q 6, .inl (y 0, 80, .inl b_u)), (q 7, .inl (y 0, 32, .inl b_y)), (q 12, .inr (3, [.ref (q 13), .ref (q 14), .int b_v_c])), (q 13, .inl (y 0, 40, .inl b_v_f)), (q 14, .inl (y 0, 40, .inl b_v_l))]) (As := []) (rest := []) C (c_X2_clear l D y (fun i => q (i + 8)) _ F hc_3) (cwV 0 hts gX0_clear_X2_clear rfl rfl rfl (by decide +kernel) ⟨Nat.le_of_ble_eq_true rfl, Nat.le_of_ble_eq_true rfl⟩) hK hP hD hS hA [8, 9, 10, 11] [0, 1, 2, 3, 4, 5, 6, 7, 12, 13, 14] rfl rfl rfl rfl rfl (by decide) rfl rfl rfl rfl hl.1 (Nat.le_of_ble_eq_true rfl) dX0_clear_19 (fun H locs hP hD hS => ?_)
  have hP : va_P D vwCl (wdX0 q y b_k b_n b_h b_d b_r b_u b_y b_p_s_f b_p_s_l b_p_s_c_1 b_p_t_2 b_v_f b_v_l b_v_c (0 : Int32) (0 : Int32) (0 : Int32)) H := hP.sub [0, 1, 2, 3, 4, 5, 6, 7, 11, 12, 13, 14, 8, 9, 10] rfl
  have hD : va_D A (wdX0 q y b_k b_n b_h b_d b_r b_u b_y b_p_s_f b_p_s_l b_p_s_c_1 b_p_t_2 b_v_f b_v_l b_v_c (0 : Int32) (0 : Int32) (0 : Int32)) := hD.sub [0, 1, 2, 3, 4, 5, 6, 7, 11, 12, 13, 14, 8, 9, 10] (by decide) rfl
  refine lv_aload_n hx hb dX0_clear_22 rfl (lv_at hl 0 rfl) ?_
  refine va_get (D := D) (ci := 0) (v := .ref (q 12)) (C := RX0) (T := TX0) (N := 12) hx hb hts n_X0_clear_X0 hown hK hP 0 rfl rfl 8 (by decide) (hts _ w_X0_clear_f46) (fun _ h9 => h9) rfl dX0_clear_23 ?_
  refine lv_iconst (v := (0 : Int32)) hx hb dX0_clear_26 (by decide) ?_
  refine va_put (D := D) (ci := 3) (v := .int (0 : Int32)) (ty := .int) (C := RX3) (T := TX3) (N := 3) hx hb hts n_X0_clear_X3 tyX3 tyX3_ok nmX3 hown hK hP hD hS 12 rfl rfl 2 (by decide) (hts _ w_X0_clear_f64) (fun _ h9 => h9) rfl (by decide +kernel) rfl rfl (Nat.le_of_ble_eq_true rfl) dX0_clear_27 (fun H locs hP hD hS => ?_)
  have hP : va_P D vwCl (wdX0 q y b_k b_n b_h b_d b_r b_u b_y b_p_s_f b_p_s_l b_p_s_c_1 b_p_t_2 b_v_f b_v_l (0 : Int32) (0 : Int32) (0 : Int32) (0 : Int32)) H := hP
  have hD : va_D A (wdX0 q y b_k b_n b_h b_d b_r b_u b_y b_p_s_f b_p_s_l b_p_s_c_1 b_p_t_2 b_v_f b_v_l (0 : Int32) (0 : Int32) (0 : Int32) (0 : Int32)) := hD
  have hz := Option.some.inj hm
  subst hz
  exact end_v C hK hP hD hS dX0_clear_30
def f_X0_canTake (F : Nat) (v1 : Int32) (b_k : Nat → Int32) (b_p_s_c : Int32) (b_p_t : Int32) (b_v_c : Int32) (b_L : Int32) (b_C : Int32) (b_I : Int32) : Option (Int32) := (if (80 : Int32) ≤ b_L then some (0 : Int32) else mb1 (f_X2_countTold F b_p_s_c b_p_t) (fun r_2 => (if 0 < r_2 then some (0 : Int32) else (if b_v_c ≤ 0 then (if b_L = 0 then (if v1 = (3 : Int32) then some (1 : Int32) else (if v1 = 0 then some (1 : Int32) else some (0 : Int32))) else mg (inb (b_L - (1 : Int32)) 80) (mn (b_k ((b_L - (1 : Int32))).toNatClampNeg) (fun v2_8 => (if v2_8 = (3 : Int32) then (if b_L = (1 : Int32) then (if v1 = 0 then some (1 : Int32) else some (0 : Int32)) else some (0 : Int32)) else (if v1 = (3 : Int32) then (if v2_8 = 0 then some (1 : Int32) else some (0 : Int32)) else (if v1 = 0 then (if b_I = 0 then some (0 : Int32) else (if (32 : Int32) ≤ b_C then some (0 : Int32) else some (1 : Int32))) else some (1 : Int32))))))) else some (0 : Int32)))))
set_option maxRecDepth 20000 in
theorem n_X0_canTake_X0 : ∀ w ∈ wsX00, w ∈ wsX0_canTake := by decide +kernel
set_option maxRecDepth 20000 in
theorem w_X0_canTake_f50 : Cond.fieldLink RX0 50 "LayerStacks$Board" "layers" "I" ∈ wsX0_canTake := by decide +kernel
set_option maxRecDepth 20000 in
theorem w_X0_canTake_f37 : Cond.fieldLink RX0 37 "LayerStacks$Board" "pressings" "LLayerStacks$Pressings;" ∈ wsX0_canTake := by decide +kernel
set_option maxRecDepth 20000 in
theorem w_X0_canTake_f46 : Cond.fieldLink RX0 46 "LayerStacks$Board" "vias" "LLayerStacks$Spans;" ∈ wsX0_canTake := by decide +kernel
set_option maxRecDepth 20000 in
theorem n_X0_canTake_X3 : ∀ w ∈ wsX30, w ∈ wsX0_canTake := by decide +kernel
set_option maxRecDepth 20000 in
theorem w_X0_canTake_f64 : Cond.fieldLink RX0 64 "LayerStacks$Spans" "count" "I" ∈ wsX0_canTake := by decide +kernel
set_option maxRecDepth 20000 in
theorem w_X0_canTake_f9 : Cond.fieldLink RX0 9 "LayerStacks$Board" "kinds" "[I" ∈ wsX0_canTake := by decide +kernel
set_option maxRecDepth 20000 in
theorem w_X0_canTake_f57 : Cond.fieldLink RX0 57 "LayerStacks$Board" "isInsulated" "Z" ∈ wsX0_canTake := by decide +kernel
set_option maxRecDepth 20000 in
theorem w_X0_canTake_f54 : Cond.fieldLink RX0 54 "LayerStacks$Board" "coppers" "I" ∈ wsX0_canTake := by decide +kernel
set_option maxHeartbeats 4000000 in
set_option maxRecDepth 100000 in
theorem c_X0_canTake (l : Launch) (D : va_G) (y : Nat → ClassId) (q : Nat → Nat) (sz : Nat) (F : Nat) {v1 : Int32} {b_k : Nat → Int32} {b_n : Nat → Int64} {b_h : Nat → Int32} {b_d : Nat → Int32} {b_r : Nat → Int32} {b_u : Nat → Int32} {b_y : Nat → Int32} {b_p_s_f : Nat → Int32} {b_p_s_l : Nat → Int32} {b_p_s_c : Int32} {b_p_t : Int32} {b_v_f : Nat → Int32} {b_v_l : Nat → Int32} {b_v_c : Int32} {b_L : Int32} {b_C : Int32} {b_I : Int32} {z : Int32} (hm : f_X0_canTake F v1 b_k b_p_s_c b_p_t b_v_c b_L b_C b_I = some z) : Met l yX0_canTake wsX0_canTake ({ frames := 2, cells := 0, slots := 0, locals := 41 } : Room) (va_Pc [.ref (q 0), .int v1] (cP D y (wdX0 q y b_k b_n b_h b_d b_r b_u b_y b_p_s_f b_p_s_l b_p_s_c b_p_t b_v_f b_v_l b_v_c b_L b_C b_I) sz)) (QI D y (va_A (wdX0 q y b_k b_n b_h b_d b_r b_u b_y b_p_s_f b_p_s_l b_p_s_c b_p_t b_v_f b_v_l b_v_c b_L b_C b_I) sz) (z) (wdX0 q y b_k b_n b_h b_d b_r b_u b_y b_p_s_f b_p_s_l b_p_s_c b_p_t b_v_f b_v_l b_v_c b_L b_C b_I)) 0 0 (va_A (wdX0 q y b_k b_n b_h b_d b_r b_u b_y b_p_s_f b_p_s_l b_p_s_c b_p_t b_v_f b_v_l b_v_c b_L b_C b_I) sz) := by
  refine met_of (own := RX0) (cc := cX0_canTake) (maxL := 3) (ret := (some .boolean)) (by decide) rfl rfl (Nat.le_of_ble_eq_true rfl) ?_
  intro p e s m below meth c ls C hsz hK hP hD hA hS hl
  obtain ⟨⟨hx, hb, hml, hown, hts⟩, hr, hlocks⟩ := id C
  have hl : lv_has ls 3 [(0, .ref (q 0)), (1, .int v1)] := hl
  generalize va_A (wdX0 q y b_k b_n b_h b_d b_r b_u b_y b_p_s_f b_p_s_l b_p_s_c b_p_t b_v_f b_v_l b_v_c b_L b_C b_I) sz = A at hD hA hS ⊢
  generalize ([.ref (q 0), .int v1] : List Value).toArray = args at C hts ⊢
  unfold f_X0_canTake at hm
  refine lv_aload_n hx hb dX0_canTake_0 rfl (lv_at hl 0 rfl) ?_
  refine va_get (D := D) (ci := 0) (v := .int b_L) (C := RX0) (T := TX0) (N := 12) hx hb hts n_X0_canTake_X0 hown hK hP 0 rfl rfl 9 (by decide) (hts _ w_X0_canTake_f50) (fun _ h9 => h9) rfl dX0_canTake_1 ?_
  refine lv_bipush (v := (80 : Int32)) hx hb dX0_canTake_4 (by decide) ?_
  refine lv_icmp_ge (tgt := 29) hx hb dX0_canTake_6 (by decide) (fun h_1 => ?_) (fun h_1 => ?_)
  · have hm := it_of hm h_1
    refine lv_iconst (v := (0 : Int32)) hx hb dX0_canTake_29 (by decide) ?_
    have hz := Option.some.inj hm
    subst hz
    exact end_z C hK hP hD hS (show vp_nar .boolean (0 : Int32) = (0 : Int32) from by decide) dX0_canTake_30
  · have hm := ie_of hm h_1
    refine lv_aload_n hx hb dX0_canTake_9 rfl (lv_at hl 0 rfl) ?_
    refine va_get (D := D) (ci := 0) (v := .ref (q 8)) (C := RX0) (T := TX0) (N := 12) hx hb hts n_X0_canTake_X0 hown hK hP 0 rfl rfl 7 (by decide) (hts _ w_X0_canTake_f37) (fun _ h9 => h9) rfl dX0_canTake_10 ?_
    obtain ⟨r_2, hc_3, hm⟩ := mb1_of hm
    refine call_vi (wc := (wdX2 (fun i => q (i + 8)) y b_p_s_f b_p_s_l b_p_s_c b_p_t)) (wr := [(q 0, .inr (0, [.ref (q 1), .ref (q 2), .ref (q 3), .ref (q 4), .ref (q 5), .ref (q 6), .ref (q 7), .ref (q 8), .ref (q 12), .int b_L, .int b_C, .int b_I])), (q 1, .inl (y 0, 80, .inl b_k)), (q 2, .inl (y 1, 80, .inr (.inl b_n))), (q 3, .inl (y 0, 80, .inl b_h)), (q 4, .inl (y 0, 80, .inl b_d)), (q 5, .inl (y 0, 80, .inl b_r)), (q 6, .inl (y 0, 80, .inl b_u)), (q 7, .inl (y 0, 32, .inl b_y)), (q 12, .inr (3, [.ref (q 13), .ref (q 14), .int b_v_c])), (q 13, .inl (y 0, 40, .inl b_v_f)), (q 14, .inl (y 0, 40, .inl b_v_l))]) (As := []) (rest := []) C (c_X2_countTold l D y (fun i => q (i + 8)) _ F hc_3) (cwV 0 hts gX0_canTake_X2_countTold rfl rfl rfl (by decide +kernel) ⟨Nat.le_of_ble_eq_true rfl, Nat.le_of_ble_eq_true rfl⟩) hK hP hD hS hA [8, 9, 10, 11] [0, 1, 2, 3, 4, 5, 6, 7, 12, 13, 14] rfl rfl rfl rfl rfl (by decide) rfl rfl rfl rfl hl.1 (Nat.le_of_ble_eq_true rfl) dX0_canTake_13 (fun H locs hP hD hS => ?_)
    have hP : va_P D vwCl (wdX0 q y b_k b_n b_h b_d b_r b_u b_y b_p_s_f b_p_s_l b_p_s_c b_p_t b_v_f b_v_l b_v_c b_L b_C b_I) H := hP.sub [0, 1, 2, 3, 4, 5, 6, 7, 11, 12, 13, 14, 8, 9, 10] rfl
    have hD : va_D A (wdX0 q y b_k b_n b_h b_d b_r b_u b_y b_p_s_f b_p_s_l b_p_s_c b_p_t b_v_f b_v_l b_v_c b_L b_C b_I) := hD.sub [0, 1, 2, 3, 4, 5, 6, 7, 11, 12, 13, 14, 8, 9, 10] (by decide) rfl
    refine lv_if_gt (tgt := 29) hx hb dX0_canTake_16 (by decide) (fun h_4 => ?_) (fun h_4 => ?_)
    · have hm := it_of hm h_4
      refine lv_iconst (v := (0 : Int32)) hx hb dX0_canTake_29 (by decide) ?_
      have hz := Option.some.inj hm
      subst hz
      exact end_z C hK hP hD hS (show vp_nar .boolean (0 : Int32) = (0 : Int32) from by decide) dX0_canTake_30
    · have hm := ie_of hm h_4
      refine lv_aload_n hx hb dX0_canTake_19 rfl (lv_at hl 0 rfl) ?_
      refine va_get (D := D) (ci := 0) (v := .ref (q 12)) (C := RX0) (T := TX0) (N := 12) hx hb hts n_X0_canTake_X0 hown hK hP 0 rfl rfl 8 (by decide) (hts _ w_X0_canTake_f46) (fun _ h9 => h9) rfl dX0_canTake_20 ?_
      refine va_get (D := D) (ci := 3) (v := .int b_v_c) (C := RX3) (T := TX3) (N := 3) hx hb hts n_X0_canTake_X3 hown hK hP 12 rfl rfl 2 (by decide) (hts _ w_X0_canTake_f64) (fun _ h9 => h9) rfl dX0_canTake_23 ?_
      refine lv_if_le (tgt := 31) hx hb dX0_canTake_26 (by decide) (fun h_5 => ?_) (fun h_5 => ?_)
      · have hm := it_of hm h_5
        refine lv_aload_n hx hb dX0_canTake_31 rfl (lv_at hl 0 rfl) ?_
        refine va_get (D := D) (ci := 0) (v := .int b_L) (C := RX0) (T := TX0) (N := 12) hx hb hts n_X0_canTake_X0 hown hK hP 0 rfl rfl 9 (by decide) (hts _ w_X0_canTake_f50) (fun _ h9 => h9) rfl dX0_canTake_32 ?_
        refine lv_if_ne (tgt := 53) hx hb dX0_canTake_35 (by decide) (fun h_6 => ?_) (fun h_6 => ?_)
        · have hm := ie_of hm h_6
          refine lv_aload_n hx hb dX0_canTake_53 rfl (lv_at hl 0 rfl) ?_
          refine va_get (D := D) (ci := 0) (v := .ref (q 1)) (C := RX0) (T := TX0) (N := 12) hx hb hts n_X0_canTake_X0 hown hK hP 0 rfl rfl 0 (by decide) (hts _ w_X0_canTake_f9) (fun _ h9 => h9) rfl dX0_canTake_54 ?_
          refine lv_aload_n hx hb dX0_canTake_57 rfl (lv_at hl 0 rfl) ?_
          refine va_get (D := D) (ci := 0) (v := .int b_L) (C := RX0) (T := TX0) (N := 12) hx hb hts n_X0_canTake_X0 hown hK hP 0 rfl rfl 9 (by decide) (hts _ w_X0_canTake_f50) (fun _ h9 => h9) rfl dX0_canTake_58 ?_
          refine lv_iconst (v := (1 : Int32)) hx hb dX0_canTake_61 (by decide) ?_
          refine lv_isub hx hb dX0_canTake_62 ?_
          obtain ⟨hg_7, hm⟩ := mg_of hm
          refine va_iald hx hb hK hP 1 0 rfl rfl hg_7 dX0_canTake_63 ?_
          refine lv_topi (fun v2_8 ev2_8 => ?_)
          have hm := mn_of ev2_8 hm
          refine lv_istore_n (lv' := [(2, .int v2_8), (0, .ref (q 0)), (1, .int v1)]) hx hb dX0_canTake_64 rfl hl (by decide) rfl (fun ls hl => ?_)
          refine lv_iload_n hx hb dX0_canTake_65 rfl (lv_at hl 0 rfl) ?_
          refine lv_iconst (v := (3 : Int32)) hx hb dX0_canTake_66 (by decide) ?_
          refine lv_icmp_ne (tgt := 88) hx hb dX0_canTake_67 (by decide) (fun h_9 => ?_) (fun h_9 => ?_)
          · have hm := ie_of hm h_9
            refine lv_iload_n hx hb dX0_canTake_88 rfl (lv_at hl 2 rfl) ?_
            refine lv_iconst (v := (3 : Int32)) hx hb dX0_canTake_89 (by decide) ?_
            refine lv_icmp_ne (tgt := 103) hx hb dX0_canTake_90 (by decide) (fun h_10 => ?_) (fun h_10 => ?_)
            · have hm := ie_of hm h_10
              refine lv_iload_n hx hb dX0_canTake_103 rfl (lv_at hl 2 rfl) ?_
              refine lv_if_ne (tgt := 123) hx hb dX0_canTake_104 (by decide) (fun h_11 => ?_) (fun h_11 => ?_)
              · have hm := ie_of hm h_11
                refine lv_iconst (v := (1 : Int32)) hx hb dX0_canTake_123 (by decide) ?_
                refine lv_goto (tgt := 128) hx hb dX0_canTake_124 (by decide) ?_
                have hz := Option.some.inj hm
                subst hz
                exact end_z C hK hP hD hS (show vp_nar .boolean (1 : Int32) = (1 : Int32) from by decide) dX0_canTake_128
              · have hm := it_of hm h_11
                refine lv_aload_n hx hb dX0_canTake_107 rfl (lv_at hl 1 rfl) ?_
                refine va_get (D := D) (ci := 0) (v := .int b_I) (C := RX0) (T := TX0) (N := 12) hx hb hts n_X0_canTake_X0 hown hK hP 0 rfl rfl 11 (by decide) (hts _ w_X0_canTake_f57) (fun _ h9 => h9) rfl dX0_canTake_108 ?_
                refine lv_if_eq (tgt := 127) hx hb dX0_canTake_111 (by decide) (fun h_12 => ?_) (fun h_12 => ?_)
                · have hm := it_of hm h_12
                  refine lv_iconst (v := (0 : Int32)) hx hb dX0_canTake_127 (by decide) ?_
                  have hz := Option.some.inj hm
                  subst hz
                  exact end_z C hK hP hD hS (show vp_nar .boolean (0 : Int32) = (0 : Int32) from by decide) dX0_canTake_128
                · have hm := ie_of hm h_12
                  refine lv_aload_n hx hb dX0_canTake_114 rfl (lv_at hl 1 rfl) ?_
                  refine va_get (D := D) (ci := 0) (v := .int b_C) (C := RX0) (T := TX0) (N := 12) hx hb hts n_X0_canTake_X0 hown hK hP 0 rfl rfl 10 (by decide) (hts _ w_X0_canTake_f54) (fun _ h9 => h9) rfl dX0_canTake_115 ?_
                  refine lv_bipush (v := (32 : Int32)) hx hb dX0_canTake_118 (by decide) ?_
                  refine lv_icmp_ge (tgt := 127) hx hb dX0_canTake_120 (by decide) (fun h_13 => ?_) (fun h_13 => ?_)
                  · have hm := it_of hm h_13
                    refine lv_iconst (v := (0 : Int32)) hx hb dX0_canTake_127 (by decide) ?_
                    have hz := Option.some.inj hm
                    subst hz
                    exact end_z C hK hP hD hS (show vp_nar .boolean (0 : Int32) = (0 : Int32) from by decide) dX0_canTake_128
                  · have hm := ie_of hm h_13
                    refine lv_iconst (v := (1 : Int32)) hx hb dX0_canTake_123 (by decide) ?_
                    refine lv_goto (tgt := 128) hx hb dX0_canTake_124 (by decide) ?_
                    have hz := Option.some.inj hm
                    subst hz
                    exact end_z C hK hP hD hS (show vp_nar .boolean (1 : Int32) = (1 : Int32) from by decide) dX0_canTake_128
            · have hm := it_of hm h_10
              refine lv_iload_n hx hb dX0_canTake_93 rfl (lv_at hl 0 rfl) ?_
              refine lv_if_ne (tgt := 101) hx hb dX0_canTake_94 (by decide) (fun h_14 => ?_) (fun h_14 => ?_)
              · have hm := ie_of hm h_14
                refine lv_iconst (v := (0 : Int32)) hx hb dX0_canTake_101 (by decide) ?_
                have hz := Option.some.inj hm
                subst hz
                exact end_z C hK hP hD hS (show vp_nar .boolean (0 : Int32) = (0 : Int32) from by decide) dX0_canTake_102
              · have hm := it_of hm h_14
                refine lv_iconst (v := (1 : Int32)) hx hb dX0_canTake_97 (by decide) ?_
                refine lv_goto (tgt := 102) hx hb dX0_canTake_98 (by decide) ?_
                have hz := Option.some.inj hm
                subst hz
                exact end_z C hK hP hD hS (show vp_nar .boolean (1 : Int32) = (1 : Int32) from by decide) dX0_canTake_102
          · have hm := it_of hm h_9
            refine lv_aload_n hx hb dX0_canTake_70 rfl (lv_at hl 1 rfl) ?_
            refine va_get (D := D) (ci := 0) (v := .int b_L) (C := RX0) (T := TX0) (N := 12) hx hb hts n_X0_canTake_X0 hown hK hP 0 rfl rfl 9 (by decide) (hts _ w_X0_canTake_f50) (fun _ h9 => h9) rfl dX0_canTake_71 ?_
            refine lv_iconst (v := (1 : Int32)) hx hb dX0_canTake_74 (by decide) ?_
            refine lv_icmp_ne (tgt := 86) hx hb dX0_canTake_75 (by decide) (fun h_15 => ?_) (fun h_15 => ?_)
            · have hm := ie_of hm h_15
              refine lv_iconst (v := (0 : Int32)) hx hb dX0_canTake_86 (by decide) ?_
              have hz := Option.some.inj hm
              subst hz
              exact end_z C hK hP hD hS (show vp_nar .boolean (0 : Int32) = (0 : Int32) from by decide) dX0_canTake_87
            · have hm := it_of hm h_15
              refine lv_iload_n hx hb dX0_canTake_78 rfl (lv_at hl 2 rfl) ?_
              refine lv_if_ne (tgt := 86) hx hb dX0_canTake_79 (by decide) (fun h_16 => ?_) (fun h_16 => ?_)
              · have hm := ie_of hm h_16
                refine lv_iconst (v := (0 : Int32)) hx hb dX0_canTake_86 (by decide) ?_
                have hz := Option.some.inj hm
                subst hz
                exact end_z C hK hP hD hS (show vp_nar .boolean (0 : Int32) = (0 : Int32) from by decide) dX0_canTake_87
              · have hm := it_of hm h_16
                refine lv_iconst (v := (1 : Int32)) hx hb dX0_canTake_82 (by decide) ?_
                refine lv_goto (tgt := 87) hx hb dX0_canTake_83 (by decide) ?_
                have hz := Option.some.inj hm
                subst hz
                exact end_z C hK hP hD hS (show vp_nar .boolean (1 : Int32) = (1 : Int32) from by decide) dX0_canTake_87
        · have hm := it_of hm h_6
          refine lv_iload_n hx hb dX0_canTake_38 rfl (lv_at hl 1 rfl) ?_
          refine lv_iconst (v := (3 : Int32)) hx hb dX0_canTake_39 (by decide) ?_
          refine lv_icmp_eq (tgt := 47) hx hb dX0_canTake_40 (by decide) (fun h_17 => ?_) (fun h_17 => ?_)
          · have hm := it_of hm h_17
            refine lv_iconst (v := (1 : Int32)) hx hb dX0_canTake_47 (by decide) ?_
            refine lv_goto (tgt := 52) hx hb dX0_canTake_48 (by decide) ?_
            have hz := Option.some.inj hm
            subst hz
            exact end_z C hK hP hD hS (show vp_nar .boolean (1 : Int32) = (1 : Int32) from by decide) dX0_canTake_52
          · have hm := ie_of hm h_17
            refine lv_iload_n hx hb dX0_canTake_43 rfl (lv_at hl 1 rfl) ?_
            refine lv_if_ne (tgt := 51) hx hb dX0_canTake_44 (by decide) (fun h_18 => ?_) (fun h_18 => ?_)
            · have hm := ie_of hm h_18
              refine lv_iconst (v := (0 : Int32)) hx hb dX0_canTake_51 (by decide) ?_
              have hz := Option.some.inj hm
              subst hz
              exact end_z C hK hP hD hS (show vp_nar .boolean (0 : Int32) = (0 : Int32) from by decide) dX0_canTake_52
            · have hm := it_of hm h_18
              refine lv_iconst (v := (1 : Int32)) hx hb dX0_canTake_47 (by decide) ?_
              refine lv_goto (tgt := 52) hx hb dX0_canTake_48 (by decide) ?_
              have hz := Option.some.inj hm
              subst hz
              exact end_z C hK hP hD hS (show vp_nar .boolean (1 : Int32) = (1 : Int32) from by decide) dX0_canTake_52
      · have hm := ie_of hm h_5
        refine lv_iconst (v := (0 : Int32)) hx hb dX0_canTake_29 (by decide) ?_
        have hz := Option.some.inj hm
        subst hz
        exact end_z C hK hP hD hS (show vp_nar .boolean (0 : Int32) = (0 : Int32) from by decide) dX0_canTake_30
def g_X0_addLayer_23 (F : Nat) (v1 : Int32) (v2 : Int64) (v4 : Int32) (v5 : Int32) (b_k : Nat → Int32) (b_n : Nat → Int64) (b_h : Nat → Int32) (b_d : Nat → Int32) (b_r : Nat → Int32) (b_u : Nat → Int32) (b_y : Nat → Int32) (b_L : Int32) (b_C : Int32) (b_I : Int32) : Option ((Nat → Int32) × (Nat → Int64) × (Nat → Int32) × (Nat → Int32) × (Nat → Int32) × (Nat → Int32) × (Nat → Int32) × Int32 × Int32 × Int32) := mg (inb b_L 80) (mg (inb b_L 80) (mg (inb b_L 80) (mg (inb b_L 80) (mg (inb b_L 80) (mg (inb b_L 80) ((if v1 = 0 then mg (inb b_L 80) (mg (inb b_C 32) (some ((upd b_k (b_L).toNatClampNeg v1), (vp_updL b_n (b_L).toNatClampNeg v2), (upd b_h (b_L).toNatClampNeg v4), (upd b_d (b_L).toNatClampNeg v5), (upd b_r (b_L).toNatClampNeg (1000 : Int32)), (upd (upd b_u (b_L).toNatClampNeg (-1 : Int32)) (b_L).toNatClampNeg b_C), (upd b_y (b_C).toNatClampNeg b_L), (b_L + (1 : Int32)), (b_C + (1 : Int32)), (0 : Int32)))) else (if v1 = (1 : Int32) then some ((upd b_k (b_L).toNatClampNeg v1), (vp_updL b_n (b_L).toNatClampNeg v2), (upd b_h (b_L).toNatClampNeg v4), (upd b_d (b_L).toNatClampNeg v5), (upd b_r (b_L).toNatClampNeg (1000 : Int32)), (upd b_u (b_L).toNatClampNeg (-1 : Int32)), b_y, (b_L + (1 : Int32)), b_C, (1 : Int32)) else (if v1 = (2 : Int32) then some ((upd b_k (b_L).toNatClampNeg v1), (vp_updL b_n (b_L).toNatClampNeg v2), (upd b_h (b_L).toNatClampNeg v4), (upd b_d (b_L).toNatClampNeg v5), (upd b_r (b_L).toNatClampNeg (1000 : Int32)), (upd b_u (b_L).toNatClampNeg (-1 : Int32)), b_y, (b_L + (1 : Int32)), b_C, (1 : Int32)) else some ((upd b_k (b_L).toNatClampNeg v1), (vp_updL b_n (b_L).toNatClampNeg v2), (upd b_h (b_L).toNatClampNeg v4), (upd b_d (b_L).toNatClampNeg v5), (upd b_r (b_L).toNatClampNeg (1000 : Int32)), (upd b_u (b_L).toNatClampNeg (-1 : Int32)), b_y, (b_L + (1 : Int32)), b_C, b_I))))))))))
def f_X0_addLayer (F : Nat) (v1 : Int32) (v2 : Int64) (v4 : Int32) (v5 : Int32) (b_k : Nat → Int32) (b_n : Nat → Int64) (b_h : Nat → Int32) (b_d : Nat → Int32) (b_r : Nat → Int32) (b_u : Nat → Int32) (b_y : Nat → Int32) (b_L : Int32) (b_C : Int32) (b_I : Int32) : Option ((Nat → Int32) × (Nat → Int64) × (Nat → Int32) × (Nat → Int32) × (Nat → Int32) × (Nat → Int32) × (Nat → Int32) × Int32 × Int32 × Int32) := (if (80 : Int32) ≤ b_L then some (b_k, b_n, b_h, b_d, b_r, b_u, b_y, b_L, b_C, b_I) else (if b_C < (32 : Int32) then g_X0_addLayer_23 F v1 v2 v4 v5 b_k b_n b_h b_d b_r b_u b_y b_L b_C b_I else (if v1 = 0 then some (b_k, b_n, b_h, b_d, b_r, b_u, b_y, b_L, b_C, b_I) else g_X0_addLayer_23 F v1 v2 v4 v5 b_k b_n b_h b_d b_r b_u b_y b_L b_C b_I)))
set_option maxRecDepth 20000 in
theorem n_X0_addLayer_X0 : ∀ w ∈ wsX00, w ∈ wsX0_addLayer := by decide +kernel
set_option maxRecDepth 20000 in
theorem w_X0_addLayer_f9 : Cond.fieldLink RX0 9 "LayerStacks$Board" "kinds" "[I" ∈ wsX0_addLayer := by decide +kernel
set_option maxRecDepth 20000 in
theorem w_X0_addLayer_f50 : Cond.fieldLink RX0 50 "LayerStacks$Board" "layers" "I" ∈ wsX0_addLayer := by decide +kernel
set_option maxRecDepth 20000 in
theorem w_X0_addLayer_f15 : Cond.fieldLink RX0 15 "LayerStacks$Board" "names" "[J" ∈ wsX0_addLayer := by decide +kernel
set_option maxRecDepth 20000 in
theorem w_X0_addLayer_f19 : Cond.fieldLink RX0 19 "LayerStacks$Board" "thicknesses" "[I" ∈ wsX0_addLayer := by decide +kernel
set_option maxRecDepth 20000 in
theorem w_X0_addLayer_f22 : Cond.fieldLink RX0 22 "LayerStacks$Board" "spreads" "[I" ∈ wsX0_addLayer := by decide +kernel
set_option maxRecDepth 20000 in
theorem w_X0_addLayer_f25 : Cond.fieldLink RX0 25 "LayerStacks$Board" "shares" "[I" ∈ wsX0_addLayer := by decide +kernel
set_option maxRecDepth 20000 in
theorem w_X0_addLayer_f28 : Cond.fieldLink RX0 28 "LayerStacks$Board" "copperNumbers" "[I" ∈ wsX0_addLayer := by decide +kernel
set_option maxRecDepth 20000 in
theorem w_X0_addLayer_f57 : Cond.fieldLink RX0 57 "LayerStacks$Board" "isInsulated" "Z" ∈ wsX0_addLayer := by decide +kernel
set_option maxRecDepth 20000 in
theorem w_X0_addLayer_f54 : Cond.fieldLink RX0 54 "LayerStacks$Board" "coppers" "I" ∈ wsX0_addLayer := by decide +kernel
set_option maxRecDepth 20000 in
theorem w_X0_addLayer_f31 : Cond.fieldLink RX0 31 "LayerStacks$Board" "copperLayers" "[I" ∈ wsX0_addLayer := by decide +kernel
set_option maxHeartbeats 4000000 in
set_option maxRecDepth 100000 in
theorem k_X0_addLayer_23 {p : Program} {l : Launch} {e : Env} {s : State} {m : MethodId} {args : Array Value} {below : List Frame} {meth : Method} {c : Code} {D : va_G} {y : Nat → ClassId} {A : Nat → Prop} {q : Nat → Nat} {b_p_s_f : Nat → Int32} {b_p_s_l : Nat → Int32} {b_p_s_c : Int32} {b_p_t : Int32} {b_v_f : Nat → Int32} {b_v_l : Nat → Int32} {b_v_c : Int32} {z : (Nat → Int32) × (Nat → Int64) × (Nat → Int32) × (Nat → Int32) × (Nat → Int32) × (Nat → Int32) × (Nat → Int32) × Int32 × Int32 × Int32} (C : CX p s m args meth c wsX0_addLayer RX0 cX0_addLayer 6 none) (hA : ∀ q : Nat, s.heap.size ≤ q → A q) (hK : va_K D vwCl (tyl y) s) (F : Nat) :
    ∀ (v1 : Int32) (v2 : Int64) (v4 : Int32) (v5 : Int32) (b_k : Nat → Int32) (b_n : Nat → Int64) (b_h : Nat → Int32) (b_d : Nat → Int32) (b_r : Nat → Int32) (b_u : Nat → Int32) (b_y : Nat → Int32) (b_L : Int32) (b_C : Int32) (b_I : Int32) (H : Heap) (locs : List Loc) (ls : Array Slot), g_X0_addLayer_23 F v1 v2 v4 v5 b_k b_n b_h b_d b_r b_u b_y b_L b_C b_I = some z → va_P D vwCl (wdX0 q y b_k b_n b_h b_d b_r b_u b_y b_p_s_f b_p_s_l b_p_s_c b_p_t b_v_f b_v_l b_v_c b_L b_C b_I) H → va_D A (wdX0 q y b_k b_n b_h b_d b_r b_u b_y b_p_s_f b_p_s_l b_p_s_c b_p_t b_v_f b_v_l b_v_c b_L b_C b_I) → va_S A s.heap H locs → lv_has ls 6 [(0, .ref (q 0)), (1, .int v1), (2, .long v2), (4, .int v4), (5, .int v5)] → W p l e ({ frames := 0, cells := 0, slots := 0, locals := 0 } : Room) s m args below meth c H locs 0 0 (MQ below (QV D y A (wdX0 q y (z.1) (z.2.1) (z.2.2.1) (z.2.2.2.1) (z.2.2.2.2.1) (z.2.2.2.2.2.1) (z.2.2.2.2.2.2.1) b_p_s_f b_p_s_l b_p_s_c b_p_t b_v_f b_v_l b_v_c (z.2.2.2.2.2.2.2.1) (z.2.2.2.2.2.2.2.2.1) (z.2.2.2.2.2.2.2.2.2))) args s 0 0 A) (F0 m 23 ls []) := by
  obtain ⟨⟨hx, hb, hml, hown, hts⟩, hr, hlocks⟩ := id C
  intro v1 v2 v4 v5 b_k b_n b_h b_d b_r b_u b_y b_L b_C b_I H locs ls hm hP hD hS hl
  unfold g_X0_addLayer_23 at hm
  refine lv_aload_n hx hb dX0_addLayer_23 rfl (lv_at hl 0 rfl) ?_
  refine va_get (D := D) (ci := 0) (v := .ref (q 1)) (C := RX0) (T := TX0) (N := 12) hx hb hts n_X0_addLayer_X0 hown hK hP 0 rfl rfl 0 (by decide) (hts _ w_X0_addLayer_f9) (fun _ h9 => h9) rfl dX0_addLayer_24 ?_
  refine lv_aload_n hx hb dX0_addLayer_27 rfl (lv_at hl 0 rfl) ?_
  refine va_get (D := D) (ci := 0) (v := .int b_L) (C := RX0) (T := TX0) (N := 12) hx hb hts n_X0_addLayer_X0 hown hK hP 0 rfl rfl 9 (by decide) (hts _ w_X0_addLayer_f50) (fun _ h9 => h9) rfl dX0_addLayer_28 ?_
  refine lv_iload_n hx hb dX0_addLayer_31 rfl (lv_at hl 1 rfl) ?_
  obtain ⟨hg_1, hm⟩ := mg_of hm
  refine va_iast hx hb hK hP hD hS 1 0 rfl rfl hg_1 dX0_addLayer_32 (fun H locs hP hD hS => ?_)
  have hP : va_P D vwCl (wdX0 q y (upd b_k (b_L).toNatClampNeg v1) b_n b_h b_d b_r b_u b_y b_p_s_f b_p_s_l b_p_s_c b_p_t b_v_f b_v_l b_v_c b_L b_C b_I) H := hP
  have hD : va_D A (wdX0 q y (upd b_k (b_L).toNatClampNeg v1) b_n b_h b_d b_r b_u b_y b_p_s_f b_p_s_l b_p_s_c b_p_t b_v_f b_v_l b_v_c b_L b_C b_I) := hD
  refine lv_aload_n hx hb dX0_addLayer_33 rfl (lv_at hl 0 rfl) ?_
  refine va_get (D := D) (ci := 0) (v := .ref (q 2)) (C := RX0) (T := TX0) (N := 12) hx hb hts n_X0_addLayer_X0 hown hK hP 0 rfl rfl 1 (by decide) (hts _ w_X0_addLayer_f15) (fun _ h9 => h9) rfl dX0_addLayer_34 ?_
  refine lv_aload_n hx hb dX0_addLayer_37 rfl (lv_at hl 0 rfl) ?_
  refine va_get (D := D) (ci := 0) (v := .int b_L) (C := RX0) (T := TX0) (N := 12) hx hb hts n_X0_addLayer_X0 hown hK hP 0 rfl rfl 9 (by decide) (hts _ w_X0_addLayer_f50) (fun _ h9 => h9) rfl dX0_addLayer_38 ?_
  refine lv_lload_n hx hb dX0_addLayer_41 rfl (lv_at hl 2 rfl) ?_
  obtain ⟨hg_2, hm⟩ := mg_of hm
  refine va_last hx hb hK hP hD hS 2 1 rfl rfl hg_2 dX0_addLayer_42 (fun H locs hP hD hS => ?_)
  have hP : va_P D vwCl (wdX0 q y (upd b_k (b_L).toNatClampNeg v1) (vp_updL b_n (b_L).toNatClampNeg v2) b_h b_d b_r b_u b_y b_p_s_f b_p_s_l b_p_s_c b_p_t b_v_f b_v_l b_v_c b_L b_C b_I) H := hP
  have hD : va_D A (wdX0 q y (upd b_k (b_L).toNatClampNeg v1) (vp_updL b_n (b_L).toNatClampNeg v2) b_h b_d b_r b_u b_y b_p_s_f b_p_s_l b_p_s_c b_p_t b_v_f b_v_l b_v_c b_L b_C b_I) := hD
  refine lv_aload_n hx hb dX0_addLayer_43 rfl (lv_at hl 0 rfl) ?_
  refine va_get (D := D) (ci := 0) (v := .ref (q 3)) (C := RX0) (T := TX0) (N := 12) hx hb hts n_X0_addLayer_X0 hown hK hP 0 rfl rfl 2 (by decide) (hts _ w_X0_addLayer_f19) (fun _ h9 => h9) rfl dX0_addLayer_44 ?_
  refine lv_aload_n hx hb dX0_addLayer_47 rfl (lv_at hl 0 rfl) ?_
  refine va_get (D := D) (ci := 0) (v := .int b_L) (C := RX0) (T := TX0) (N := 12) hx hb hts n_X0_addLayer_X0 hown hK hP 0 rfl rfl 9 (by decide) (hts _ w_X0_addLayer_f50) (fun _ h9 => h9) rfl dX0_addLayer_48 ?_
  refine lv_iload hx hb dX0_addLayer_51 (lv_at hl 3 rfl) ?_
  obtain ⟨hg_3, hm⟩ := mg_of hm
  refine va_iast hx hb hK hP hD hS 3 0 rfl rfl hg_3 dX0_addLayer_53 (fun H locs hP hD hS => ?_)
  have hP : va_P D vwCl (wdX0 q y (upd b_k (b_L).toNatClampNeg v1) (vp_updL b_n (b_L).toNatClampNeg v2) (upd b_h (b_L).toNatClampNeg v4) b_d b_r b_u b_y b_p_s_f b_p_s_l b_p_s_c b_p_t b_v_f b_v_l b_v_c b_L b_C b_I) H := hP
  have hD : va_D A (wdX0 q y (upd b_k (b_L).toNatClampNeg v1) (vp_updL b_n (b_L).toNatClampNeg v2) (upd b_h (b_L).toNatClampNeg v4) b_d b_r b_u b_y b_p_s_f b_p_s_l b_p_s_c b_p_t b_v_f b_v_l b_v_c b_L b_C b_I) := hD
  refine lv_aload_n hx hb dX0_addLayer_54 rfl (lv_at hl 0 rfl) ?_
  refine va_get (D := D) (ci := 0) (v := .ref (q 4)) (C := RX0) (T := TX0) (N := 12) hx hb hts n_X0_addLayer_X0 hown hK hP 0 rfl rfl 3 (by decide) (hts _ w_X0_addLayer_f22) (fun _ h9 => h9) rfl dX0_addLayer_55 ?_
  refine lv_aload_n hx hb dX0_addLayer_58 rfl (lv_at hl 0 rfl) ?_
  refine va_get (D := D) (ci := 0) (v := .int b_L) (C := RX0) (T := TX0) (N := 12) hx hb hts n_X0_addLayer_X0 hown hK hP 0 rfl rfl 9 (by decide) (hts _ w_X0_addLayer_f50) (fun _ h9 => h9) rfl dX0_addLayer_59 ?_
  refine lv_iload hx hb dX0_addLayer_62 (lv_at hl 4 rfl) ?_
  obtain ⟨hg_4, hm⟩ := mg_of hm
  refine va_iast hx hb hK hP hD hS 4 0 rfl rfl hg_4 dX0_addLayer_64 (fun H locs hP hD hS => ?_)
  have hP : va_P D vwCl (wdX0 q y (upd b_k (b_L).toNatClampNeg v1) (vp_updL b_n (b_L).toNatClampNeg v2) (upd b_h (b_L).toNatClampNeg v4) (upd b_d (b_L).toNatClampNeg v5) b_r b_u b_y b_p_s_f b_p_s_l b_p_s_c b_p_t b_v_f b_v_l b_v_c b_L b_C b_I) H := hP
  have hD : va_D A (wdX0 q y (upd b_k (b_L).toNatClampNeg v1) (vp_updL b_n (b_L).toNatClampNeg v2) (upd b_h (b_L).toNatClampNeg v4) (upd b_d (b_L).toNatClampNeg v5) b_r b_u b_y b_p_s_f b_p_s_l b_p_s_c b_p_t b_v_f b_v_l b_v_c b_L b_C b_I) := hD
  refine lv_aload_n hx hb dX0_addLayer_65 rfl (lv_at hl 0 rfl) ?_
  refine va_get (D := D) (ci := 0) (v := .ref (q 5)) (C := RX0) (T := TX0) (N := 12) hx hb hts n_X0_addLayer_X0 hown hK hP 0 rfl rfl 4 (by decide) (hts _ w_X0_addLayer_f25) (fun _ h9 => h9) rfl dX0_addLayer_66 ?_
  refine lv_aload_n hx hb dX0_addLayer_69 rfl (lv_at hl 0 rfl) ?_
  refine va_get (D := D) (ci := 0) (v := .int b_L) (C := RX0) (T := TX0) (N := 12) hx hb hts n_X0_addLayer_X0 hown hK hP 0 rfl rfl 9 (by decide) (hts _ w_X0_addLayer_f50) (fun _ h9 => h9) rfl dX0_addLayer_70 ?_
  refine lv_sipush (v := (1000 : Int32)) hx hb dX0_addLayer_73 (by decide) ?_
  obtain ⟨hg_5, hm⟩ := mg_of hm
  refine va_iast hx hb hK hP hD hS 5 0 rfl rfl hg_5 dX0_addLayer_76 (fun H locs hP hD hS => ?_)
  have hP : va_P D vwCl (wdX0 q y (upd b_k (b_L).toNatClampNeg v1) (vp_updL b_n (b_L).toNatClampNeg v2) (upd b_h (b_L).toNatClampNeg v4) (upd b_d (b_L).toNatClampNeg v5) (upd b_r (b_L).toNatClampNeg (1000 : Int32)) b_u b_y b_p_s_f b_p_s_l b_p_s_c b_p_t b_v_f b_v_l b_v_c b_L b_C b_I) H := hP
  have hD : va_D A (wdX0 q y (upd b_k (b_L).toNatClampNeg v1) (vp_updL b_n (b_L).toNatClampNeg v2) (upd b_h (b_L).toNatClampNeg v4) (upd b_d (b_L).toNatClampNeg v5) (upd b_r (b_L).toNatClampNeg (1000 : Int32)) b_u b_y b_p_s_f b_p_s_l b_p_s_c b_p_t b_v_f b_v_l b_v_c b_L b_C b_I) := hD
  refine lv_aload_n hx hb dX0_addLayer_77 rfl (lv_at hl 0 rfl) ?_
  refine va_get (D := D) (ci := 0) (v := .ref (q 6)) (C := RX0) (T := TX0) (N := 12) hx hb hts n_X0_addLayer_X0 hown hK hP 0 rfl rfl 5 (by decide) (hts _ w_X0_addLayer_f28) (fun _ h9 => h9) rfl dX0_addLayer_78 ?_
  refine lv_aload_n hx hb dX0_addLayer_81 rfl (lv_at hl 0 rfl) ?_
  refine va_get (D := D) (ci := 0) (v := .int b_L) (C := RX0) (T := TX0) (N := 12) hx hb hts n_X0_addLayer_X0 hown hK hP 0 rfl rfl 9 (by decide) (hts _ w_X0_addLayer_f50) (fun _ h9 => h9) rfl dX0_addLayer_82 ?_
  refine lv_iconst (v := (-1 : Int32)) hx hb dX0_addLayer_85 (by decide) ?_
  obtain ⟨hg_6, hm⟩ := mg_of hm
  refine va_iast hx hb hK hP hD hS 6 0 rfl rfl hg_6 dX0_addLayer_86 (fun H locs hP hD hS => ?_)
  have hP : va_P D vwCl (wdX0 q y (upd b_k (b_L).toNatClampNeg v1) (vp_updL b_n (b_L).toNatClampNeg v2) (upd b_h (b_L).toNatClampNeg v4) (upd b_d (b_L).toNatClampNeg v5) (upd b_r (b_L).toNatClampNeg (1000 : Int32)) (upd b_u (b_L).toNatClampNeg (-1 : Int32)) b_y b_p_s_f b_p_s_l b_p_s_c b_p_t b_v_f b_v_l b_v_c b_L b_C b_I) H := hP
  have hD : va_D A (wdX0 q y (upd b_k (b_L).toNatClampNeg v1) (vp_updL b_n (b_L).toNatClampNeg v2) (upd b_h (b_L).toNatClampNeg v4) (upd b_d (b_L).toNatClampNeg v5) (upd b_r (b_L).toNatClampNeg (1000 : Int32)) (upd b_u (b_L).toNatClampNeg (-1 : Int32)) b_y b_p_s_f b_p_s_l b_p_s_c b_p_t b_v_f b_v_l b_v_c b_L b_C b_I) := hD
  refine lv_iload_n hx hb dX0_addLayer_87 rfl (lv_at hl 1 rfl) ?_
  refine lv_if_ne (tgt := 135) hx hb dX0_addLayer_88 (by decide) (fun h_7 => ?_) (fun h_7 => ?_)
  · have hm := ie_of hm h_7
    refine lv_iload_n hx hb dX0_addLayer_135 rfl (lv_at hl 1 rfl) ?_
    refine lv_iconst (v := (1 : Int32)) hx hb dX0_addLayer_136 (by decide) ?_
    refine lv_icmp_eq (tgt := 145) hx hb dX0_addLayer_137 (by decide) (fun h_8 => ?_) (fun h_8 => ?_)
    · have hm := it_of hm h_8
      refine lv_aload_n hx hb dX0_addLayer_145 rfl (lv_at hl 0 rfl) ?_
      refine lv_iconst (v := (1 : Int32)) hx hb dX0_addLayer_146 (by decide) ?_
      refine va_put (D := D) (ci := 0) (v := .int (1 : Int32)) (ty := .boolean) (C := RX0) (T := TX0) (N := 12) hx hb hts n_X0_addLayer_X0 tyX0 tyX0_ok nmX0 hown hK hP hD hS 0 rfl rfl 11 (by decide) (hts _ w_X0_addLayer_f57) (fun _ h9 => h9) rfl (by decide +kernel) rfl rfl (Nat.le_of_ble_eq_true rfl) dX0_addLayer_147 (fun H locs hP hD hS => ?_)
      have hP : va_P D vwCl (wdX0 q y (upd b_k (b_L).toNatClampNeg v1) (vp_updL b_n (b_L).toNatClampNeg v2) (upd b_h (b_L).toNatClampNeg v4) (upd b_d (b_L).toNatClampNeg v5) (upd b_r (b_L).toNatClampNeg (1000 : Int32)) (upd b_u (b_L).toNatClampNeg (-1 : Int32)) b_y b_p_s_f b_p_s_l b_p_s_c b_p_t b_v_f b_v_l b_v_c b_L b_C (1 : Int32)) H := hP
      have hD : va_D A (wdX0 q y (upd b_k (b_L).toNatClampNeg v1) (vp_updL b_n (b_L).toNatClampNeg v2) (upd b_h (b_L).toNatClampNeg v4) (upd b_d (b_L).toNatClampNeg v5) (upd b_r (b_L).toNatClampNeg (1000 : Int32)) (upd b_u (b_L).toNatClampNeg (-1 : Int32)) b_y b_p_s_f b_p_s_l b_p_s_c b_p_t b_v_f b_v_l b_v_c b_L b_C (1 : Int32)) := hD
      refine lv_aload_n hx hb dX0_addLayer_150 rfl (lv_at hl 0 rfl) ?_
      refine lv_dup hx hb dX0_addLayer_151 rfl ?_
      refine va_get (D := D) (ci := 0) (v := .int b_L) (C := RX0) (T := TX0) (N := 12) hx hb hts n_X0_addLayer_X0 hown hK hP 0 rfl rfl 9 (by decide) (hts _ w_X0_addLayer_f50) (fun _ h9 => h9) rfl dX0_addLayer_152 ?_
      refine lv_iconst (v := (1 : Int32)) hx hb dX0_addLayer_155 (by decide) ?_
      refine lv_iadd hx hb dX0_addLayer_156 ?_
      refine va_put (D := D) (ci := 0) (v := .int (b_L + (1 : Int32))) (ty := .int) (C := RX0) (T := TX0) (N := 12) hx hb hts n_X0_addLayer_X0 tyX0 tyX0_ok nmX0 hown hK hP hD hS 0 rfl rfl 9 (by decide) (hts _ w_X0_addLayer_f50) (fun _ h9 => h9) rfl (by decide +kernel) rfl rfl (Nat.le_of_ble_eq_true rfl) dX0_addLayer_157 (fun H locs hP hD hS => ?_)
      have hP : va_P D vwCl (wdX0 q y (upd b_k (b_L).toNatClampNeg v1) (vp_updL b_n (b_L).toNatClampNeg v2) (upd b_h (b_L).toNatClampNeg v4) (upd b_d (b_L).toNatClampNeg v5) (upd b_r (b_L).toNatClampNeg (1000 : Int32)) (upd b_u (b_L).toNatClampNeg (-1 : Int32)) b_y b_p_s_f b_p_s_l b_p_s_c b_p_t b_v_f b_v_l b_v_c (b_L + (1 : Int32)) b_C (1 : Int32)) H := hP
      have hD : va_D A (wdX0 q y (upd b_k (b_L).toNatClampNeg v1) (vp_updL b_n (b_L).toNatClampNeg v2) (upd b_h (b_L).toNatClampNeg v4) (upd b_d (b_L).toNatClampNeg v5) (upd b_r (b_L).toNatClampNeg (1000 : Int32)) (upd b_u (b_L).toNatClampNeg (-1 : Int32)) b_y b_p_s_f b_p_s_l b_p_s_c b_p_t b_v_f b_v_l b_v_c (b_L + (1 : Int32)) b_C (1 : Int32)) := hD
      have hz := Option.some.inj hm
      subst hz
      exact end_v C hK hP hD hS dX0_addLayer_160
    · have hm := ie_of hm h_8
      refine lv_iload_n hx hb dX0_addLayer_140 rfl (lv_at hl 1 rfl) ?_
      refine lv_iconst (v := (2 : Int32)) hx hb dX0_addLayer_141 (by decide) ?_
      refine lv_icmp_ne (tgt := 150) hx hb dX0_addLayer_142 (by decide) (fun h_9 => ?_) (fun h_9 => ?_)
      · have hm := ie_of hm h_9
        refine lv_aload_n hx hb dX0_addLayer_150 rfl (lv_at hl 0 rfl) ?_
        refine lv_dup hx hb dX0_addLayer_151 rfl ?_
        refine va_get (D := D) (ci := 0) (v := .int b_L) (C := RX0) (T := TX0) (N := 12) hx hb hts n_X0_addLayer_X0 hown hK hP 0 rfl rfl 9 (by decide) (hts _ w_X0_addLayer_f50) (fun _ h9 => h9) rfl dX0_addLayer_152 ?_
        refine lv_iconst (v := (1 : Int32)) hx hb dX0_addLayer_155 (by decide) ?_
        refine lv_iadd hx hb dX0_addLayer_156 ?_
        refine va_put (D := D) (ci := 0) (v := .int (b_L + (1 : Int32))) (ty := .int) (C := RX0) (T := TX0) (N := 12) hx hb hts n_X0_addLayer_X0 tyX0 tyX0_ok nmX0 hown hK hP hD hS 0 rfl rfl 9 (by decide) (hts _ w_X0_addLayer_f50) (fun _ h9 => h9) rfl (by decide +kernel) rfl rfl (Nat.le_of_ble_eq_true rfl) dX0_addLayer_157 (fun H locs hP hD hS => ?_)
        have hP : va_P D vwCl (wdX0 q y (upd b_k (b_L).toNatClampNeg v1) (vp_updL b_n (b_L).toNatClampNeg v2) (upd b_h (b_L).toNatClampNeg v4) (upd b_d (b_L).toNatClampNeg v5) (upd b_r (b_L).toNatClampNeg (1000 : Int32)) (upd b_u (b_L).toNatClampNeg (-1 : Int32)) b_y b_p_s_f b_p_s_l b_p_s_c b_p_t b_v_f b_v_l b_v_c (b_L + (1 : Int32)) b_C b_I) H := hP
        have hD : va_D A (wdX0 q y (upd b_k (b_L).toNatClampNeg v1) (vp_updL b_n (b_L).toNatClampNeg v2) (upd b_h (b_L).toNatClampNeg v4) (upd b_d (b_L).toNatClampNeg v5) (upd b_r (b_L).toNatClampNeg (1000 : Int32)) (upd b_u (b_L).toNatClampNeg (-1 : Int32)) b_y b_p_s_f b_p_s_l b_p_s_c b_p_t b_v_f b_v_l b_v_c (b_L + (1 : Int32)) b_C b_I) := hD
        have hz := Option.some.inj hm
        subst hz
        exact end_v C hK hP hD hS dX0_addLayer_160
      · have hm := it_of hm h_9
        refine lv_aload_n hx hb dX0_addLayer_145 rfl (lv_at hl 0 rfl) ?_
        refine lv_iconst (v := (1 : Int32)) hx hb dX0_addLayer_146 (by decide) ?_
        refine va_put (D := D) (ci := 0) (v := .int (1 : Int32)) (ty := .boolean) (C := RX0) (T := TX0) (N := 12) hx hb hts n_X0_addLayer_X0 tyX0 tyX0_ok nmX0 hown hK hP hD hS 0 rfl rfl 11 (by decide) (hts _ w_X0_addLayer_f57) (fun _ h9 => h9) rfl (by decide +kernel) rfl rfl (Nat.le_of_ble_eq_true rfl) dX0_addLayer_147 (fun H locs hP hD hS => ?_)
        have hP : va_P D vwCl (wdX0 q y (upd b_k (b_L).toNatClampNeg v1) (vp_updL b_n (b_L).toNatClampNeg v2) (upd b_h (b_L).toNatClampNeg v4) (upd b_d (b_L).toNatClampNeg v5) (upd b_r (b_L).toNatClampNeg (1000 : Int32)) (upd b_u (b_L).toNatClampNeg (-1 : Int32)) b_y b_p_s_f b_p_s_l b_p_s_c b_p_t b_v_f b_v_l b_v_c b_L b_C (1 : Int32)) H := hP
        have hD : va_D A (wdX0 q y (upd b_k (b_L).toNatClampNeg v1) (vp_updL b_n (b_L).toNatClampNeg v2) (upd b_h (b_L).toNatClampNeg v4) (upd b_d (b_L).toNatClampNeg v5) (upd b_r (b_L).toNatClampNeg (1000 : Int32)) (upd b_u (b_L).toNatClampNeg (-1 : Int32)) b_y b_p_s_f b_p_s_l b_p_s_c b_p_t b_v_f b_v_l b_v_c b_L b_C (1 : Int32)) := hD
        refine lv_aload_n hx hb dX0_addLayer_150 rfl (lv_at hl 0 rfl) ?_
        refine lv_dup hx hb dX0_addLayer_151 rfl ?_
        refine va_get (D := D) (ci := 0) (v := .int b_L) (C := RX0) (T := TX0) (N := 12) hx hb hts n_X0_addLayer_X0 hown hK hP 0 rfl rfl 9 (by decide) (hts _ w_X0_addLayer_f50) (fun _ h9 => h9) rfl dX0_addLayer_152 ?_
        refine lv_iconst (v := (1 : Int32)) hx hb dX0_addLayer_155 (by decide) ?_
        refine lv_iadd hx hb dX0_addLayer_156 ?_
        refine va_put (D := D) (ci := 0) (v := .int (b_L + (1 : Int32))) (ty := .int) (C := RX0) (T := TX0) (N := 12) hx hb hts n_X0_addLayer_X0 tyX0 tyX0_ok nmX0 hown hK hP hD hS 0 rfl rfl 9 (by decide) (hts _ w_X0_addLayer_f50) (fun _ h9 => h9) rfl (by decide +kernel) rfl rfl (Nat.le_of_ble_eq_true rfl) dX0_addLayer_157 (fun H locs hP hD hS => ?_)
        have hP : va_P D vwCl (wdX0 q y (upd b_k (b_L).toNatClampNeg v1) (vp_updL b_n (b_L).toNatClampNeg v2) (upd b_h (b_L).toNatClampNeg v4) (upd b_d (b_L).toNatClampNeg v5) (upd b_r (b_L).toNatClampNeg (1000 : Int32)) (upd b_u (b_L).toNatClampNeg (-1 : Int32)) b_y b_p_s_f b_p_s_l b_p_s_c b_p_t b_v_f b_v_l b_v_c (b_L + (1 : Int32)) b_C (1 : Int32)) H := hP
        have hD : va_D A (wdX0 q y (upd b_k (b_L).toNatClampNeg v1) (vp_updL b_n (b_L).toNatClampNeg v2) (upd b_h (b_L).toNatClampNeg v4) (upd b_d (b_L).toNatClampNeg v5) (upd b_r (b_L).toNatClampNeg (1000 : Int32)) (upd b_u (b_L).toNatClampNeg (-1 : Int32)) b_y b_p_s_f b_p_s_l b_p_s_c b_p_t b_v_f b_v_l b_v_c (b_L + (1 : Int32)) b_C (1 : Int32)) := hD
        have hz := Option.some.inj hm
        subst hz
        exact end_v C hK hP hD hS dX0_addLayer_160
  · have hm := it_of hm h_7
    refine lv_aload_n hx hb dX0_addLayer_91 rfl (lv_at hl 0 rfl) ?_
    refine va_get (D := D) (ci := 0) (v := .ref (q 6)) (C := RX0) (T := TX0) (N := 12) hx hb hts n_X0_addLayer_X0 hown hK hP 0 rfl rfl 5 (by decide) (hts _ w_X0_addLayer_f28) (fun _ h9 => h9) rfl dX0_addLayer_92 ?_
    refine lv_aload_n hx hb dX0_addLayer_95 rfl (lv_at hl 0 rfl) ?_
    refine va_get (D := D) (ci := 0) (v := .int b_L) (C := RX0) (T := TX0) (N := 12) hx hb hts n_X0_addLayer_X0 hown hK hP 0 rfl rfl 9 (by decide) (hts _ w_X0_addLayer_f50) (fun _ h9 => h9) rfl dX0_addLayer_96 ?_
    refine lv_aload_n hx hb dX0_addLayer_99 rfl (lv_at hl 0 rfl) ?_
    refine va_get (D := D) (ci := 0) (v := .int b_C) (C := RX0) (T := TX0) (N := 12) hx hb hts n_X0_addLayer_X0 hown hK hP 0 rfl rfl 10 (by decide) (hts _ w_X0_addLayer_f54) (fun _ h9 => h9) rfl dX0_addLayer_100 ?_
    obtain ⟨hg_10, hm⟩ := mg_of hm
    refine va_iast hx hb hK hP hD hS 6 0 rfl rfl hg_10 dX0_addLayer_103 (fun H locs hP hD hS => ?_)
    have hP : va_P D vwCl (wdX0 q y (upd b_k (b_L).toNatClampNeg v1) (vp_updL b_n (b_L).toNatClampNeg v2) (upd b_h (b_L).toNatClampNeg v4) (upd b_d (b_L).toNatClampNeg v5) (upd b_r (b_L).toNatClampNeg (1000 : Int32)) (upd (upd b_u (b_L).toNatClampNeg (-1 : Int32)) (b_L).toNatClampNeg b_C) b_y b_p_s_f b_p_s_l b_p_s_c b_p_t b_v_f b_v_l b_v_c b_L b_C b_I) H := hP
    have hD : va_D A (wdX0 q y (upd b_k (b_L).toNatClampNeg v1) (vp_updL b_n (b_L).toNatClampNeg v2) (upd b_h (b_L).toNatClampNeg v4) (upd b_d (b_L).toNatClampNeg v5) (upd b_r (b_L).toNatClampNeg (1000 : Int32)) (upd (upd b_u (b_L).toNatClampNeg (-1 : Int32)) (b_L).toNatClampNeg b_C) b_y b_p_s_f b_p_s_l b_p_s_c b_p_t b_v_f b_v_l b_v_c b_L b_C b_I) := hD
    refine lv_aload_n hx hb dX0_addLayer_104 rfl (lv_at hl 0 rfl) ?_
    refine va_get (D := D) (ci := 0) (v := .ref (q 7)) (C := RX0) (T := TX0) (N := 12) hx hb hts n_X0_addLayer_X0 hown hK hP 0 rfl rfl 6 (by decide) (hts _ w_X0_addLayer_f31) (fun _ h9 => h9) rfl dX0_addLayer_105 ?_
    refine lv_aload_n hx hb dX0_addLayer_108 rfl (lv_at hl 0 rfl) ?_
    refine va_get (D := D) (ci := 0) (v := .int b_C) (C := RX0) (T := TX0) (N := 12) hx hb hts n_X0_addLayer_X0 hown hK hP 0 rfl rfl 10 (by decide) (hts _ w_X0_addLayer_f54) (fun _ h9 => h9) rfl dX0_addLayer_109 ?_
    refine lv_aload_n hx hb dX0_addLayer_112 rfl (lv_at hl 0 rfl) ?_
    refine va_get (D := D) (ci := 0) (v := .int b_L) (C := RX0) (T := TX0) (N := 12) hx hb hts n_X0_addLayer_X0 hown hK hP 0 rfl rfl 9 (by decide) (hts _ w_X0_addLayer_f50) (fun _ h9 => h9) rfl dX0_addLayer_113 ?_
    obtain ⟨hg_11, hm⟩ := mg_of hm
    refine va_iast hx hb hK hP hD hS 7 0 rfl rfl hg_11 dX0_addLayer_116 (fun H locs hP hD hS => ?_)
    have hP : va_P D vwCl (wdX0 q y (upd b_k (b_L).toNatClampNeg v1) (vp_updL b_n (b_L).toNatClampNeg v2) (upd b_h (b_L).toNatClampNeg v4) (upd b_d (b_L).toNatClampNeg v5) (upd b_r (b_L).toNatClampNeg (1000 : Int32)) (upd (upd b_u (b_L).toNatClampNeg (-1 : Int32)) (b_L).toNatClampNeg b_C) (upd b_y (b_C).toNatClampNeg b_L) b_p_s_f b_p_s_l b_p_s_c b_p_t b_v_f b_v_l b_v_c b_L b_C b_I) H := hP
    have hD : va_D A (wdX0 q y (upd b_k (b_L).toNatClampNeg v1) (vp_updL b_n (b_L).toNatClampNeg v2) (upd b_h (b_L).toNatClampNeg v4) (upd b_d (b_L).toNatClampNeg v5) (upd b_r (b_L).toNatClampNeg (1000 : Int32)) (upd (upd b_u (b_L).toNatClampNeg (-1 : Int32)) (b_L).toNatClampNeg b_C) (upd b_y (b_C).toNatClampNeg b_L) b_p_s_f b_p_s_l b_p_s_c b_p_t b_v_f b_v_l b_v_c b_L b_C b_I) := hD
    refine lv_aload_n hx hb dX0_addLayer_117 rfl (lv_at hl 0 rfl) ?_
    refine lv_dup hx hb dX0_addLayer_118 rfl ?_
    refine va_get (D := D) (ci := 0) (v := .int b_C) (C := RX0) (T := TX0) (N := 12) hx hb hts n_X0_addLayer_X0 hown hK hP 0 rfl rfl 10 (by decide) (hts _ w_X0_addLayer_f54) (fun _ h9 => h9) rfl dX0_addLayer_119 ?_
    refine lv_iconst (v := (1 : Int32)) hx hb dX0_addLayer_122 (by decide) ?_
    refine lv_iadd hx hb dX0_addLayer_123 ?_
    refine va_put (D := D) (ci := 0) (v := .int (b_C + (1 : Int32))) (ty := .int) (C := RX0) (T := TX0) (N := 12) hx hb hts n_X0_addLayer_X0 tyX0 tyX0_ok nmX0 hown hK hP hD hS 0 rfl rfl 10 (by decide) (hts _ w_X0_addLayer_f54) (fun _ h9 => h9) rfl (by decide +kernel) rfl rfl (Nat.le_of_ble_eq_true rfl) dX0_addLayer_124 (fun H locs hP hD hS => ?_)
    have hP : va_P D vwCl (wdX0 q y (upd b_k (b_L).toNatClampNeg v1) (vp_updL b_n (b_L).toNatClampNeg v2) (upd b_h (b_L).toNatClampNeg v4) (upd b_d (b_L).toNatClampNeg v5) (upd b_r (b_L).toNatClampNeg (1000 : Int32)) (upd (upd b_u (b_L).toNatClampNeg (-1 : Int32)) (b_L).toNatClampNeg b_C) (upd b_y (b_C).toNatClampNeg b_L) b_p_s_f b_p_s_l b_p_s_c b_p_t b_v_f b_v_l b_v_c b_L (b_C + (1 : Int32)) b_I) H := hP
    have hD : va_D A (wdX0 q y (upd b_k (b_L).toNatClampNeg v1) (vp_updL b_n (b_L).toNatClampNeg v2) (upd b_h (b_L).toNatClampNeg v4) (upd b_d (b_L).toNatClampNeg v5) (upd b_r (b_L).toNatClampNeg (1000 : Int32)) (upd (upd b_u (b_L).toNatClampNeg (-1 : Int32)) (b_L).toNatClampNeg b_C) (upd b_y (b_C).toNatClampNeg b_L) b_p_s_f b_p_s_l b_p_s_c b_p_t b_v_f b_v_l b_v_c b_L (b_C + (1 : Int32)) b_I) := hD
    refine lv_aload_n hx hb dX0_addLayer_127 rfl (lv_at hl 0 rfl) ?_
    refine lv_iconst (v := (0 : Int32)) hx hb dX0_addLayer_128 (by decide) ?_
    refine va_put (D := D) (ci := 0) (v := .int (0 : Int32)) (ty := .boolean) (C := RX0) (T := TX0) (N := 12) hx hb hts n_X0_addLayer_X0 tyX0 tyX0_ok nmX0 hown hK hP hD hS 0 rfl rfl 11 (by decide) (hts _ w_X0_addLayer_f57) (fun _ h9 => h9) rfl (by decide +kernel) rfl rfl (Nat.le_of_ble_eq_true rfl) dX0_addLayer_129 (fun H locs hP hD hS => ?_)
    have hP : va_P D vwCl (wdX0 q y (upd b_k (b_L).toNatClampNeg v1) (vp_updL b_n (b_L).toNatClampNeg v2) (upd b_h (b_L).toNatClampNeg v4) (upd b_d (b_L).toNatClampNeg v5) (upd b_r (b_L).toNatClampNeg (1000 : Int32)) (upd (upd b_u (b_L).toNatClampNeg (-1 : Int32)) (b_L).toNatClampNeg b_C) (upd b_y (b_C).toNatClampNeg b_L) b_p_s_f b_p_s_l b_p_s_c b_p_t b_v_f b_v_l b_v_c b_L (b_C + (1 : Int32)) (0 : Int32)) H := hP
    have hD : va_D A (wdX0 q y (upd b_k (b_L).toNatClampNeg v1) (vp_updL b_n (b_L).toNatClampNeg v2) (upd b_h (b_L).toNatClampNeg v4) (upd b_d (b_L).toNatClampNeg v5) (upd b_r (b_L).toNatClampNeg (1000 : Int32)) (upd (upd b_u (b_L).toNatClampNeg (-1 : Int32)) (b_L).toNatClampNeg b_C) (upd b_y (b_C).toNatClampNeg b_L) b_p_s_f b_p_s_l b_p_s_c b_p_t b_v_f b_v_l b_v_c b_L (b_C + (1 : Int32)) (0 : Int32)) := hD
    refine lv_goto (tgt := 150) hx hb dX0_addLayer_132 (by decide) ?_
    refine lv_aload_n hx hb dX0_addLayer_150 rfl (lv_at hl 0 rfl) ?_
    refine lv_dup hx hb dX0_addLayer_151 rfl ?_
    refine va_get (D := D) (ci := 0) (v := .int b_L) (C := RX0) (T := TX0) (N := 12) hx hb hts n_X0_addLayer_X0 hown hK hP 0 rfl rfl 9 (by decide) (hts _ w_X0_addLayer_f50) (fun _ h9 => h9) rfl dX0_addLayer_152 ?_
    refine lv_iconst (v := (1 : Int32)) hx hb dX0_addLayer_155 (by decide) ?_
    refine lv_iadd hx hb dX0_addLayer_156 ?_
    refine va_put (D := D) (ci := 0) (v := .int (b_L + (1 : Int32))) (ty := .int) (C := RX0) (T := TX0) (N := 12) hx hb hts n_X0_addLayer_X0 tyX0 tyX0_ok nmX0 hown hK hP hD hS 0 rfl rfl 9 (by decide) (hts _ w_X0_addLayer_f50) (fun _ h9 => h9) rfl (by decide +kernel) rfl rfl (Nat.le_of_ble_eq_true rfl) dX0_addLayer_157 (fun H locs hP hD hS => ?_)
    have hP : va_P D vwCl (wdX0 q y (upd b_k (b_L).toNatClampNeg v1) (vp_updL b_n (b_L).toNatClampNeg v2) (upd b_h (b_L).toNatClampNeg v4) (upd b_d (b_L).toNatClampNeg v5) (upd b_r (b_L).toNatClampNeg (1000 : Int32)) (upd (upd b_u (b_L).toNatClampNeg (-1 : Int32)) (b_L).toNatClampNeg b_C) (upd b_y (b_C).toNatClampNeg b_L) b_p_s_f b_p_s_l b_p_s_c b_p_t b_v_f b_v_l b_v_c (b_L + (1 : Int32)) (b_C + (1 : Int32)) (0 : Int32)) H := hP
    have hD : va_D A (wdX0 q y (upd b_k (b_L).toNatClampNeg v1) (vp_updL b_n (b_L).toNatClampNeg v2) (upd b_h (b_L).toNatClampNeg v4) (upd b_d (b_L).toNatClampNeg v5) (upd b_r (b_L).toNatClampNeg (1000 : Int32)) (upd (upd b_u (b_L).toNatClampNeg (-1 : Int32)) (b_L).toNatClampNeg b_C) (upd b_y (b_C).toNatClampNeg b_L) b_p_s_f b_p_s_l b_p_s_c b_p_t b_v_f b_v_l b_v_c (b_L + (1 : Int32)) (b_C + (1 : Int32)) (0 : Int32)) := hD
    have hz := Option.some.inj hm
    subst hz
    exact end_v C hK hP hD hS dX0_addLayer_160
set_option maxHeartbeats 4000000 in
set_option maxRecDepth 100000 in
theorem c_X0_addLayer (l : Launch) (D : va_G) (y : Nat → ClassId) (q : Nat → Nat) (sz : Nat) (F : Nat) {v1 : Int32} {v2 : Int64} {v4 : Int32} {v5 : Int32} {b_k : Nat → Int32} {b_n : Nat → Int64} {b_h : Nat → Int32} {b_d : Nat → Int32} {b_r : Nat → Int32} {b_u : Nat → Int32} {b_y : Nat → Int32} {b_p_s_f : Nat → Int32} {b_p_s_l : Nat → Int32} {b_p_s_c : Int32} {b_p_t : Int32} {b_v_f : Nat → Int32} {b_v_l : Nat → Int32} {b_v_c : Int32} {b_L : Int32} {b_C : Int32} {b_I : Int32} {z : (Nat → Int32) × (Nat → Int64) × (Nat → Int32) × (Nat → Int32) × (Nat → Int32) × (Nat → Int32) × (Nat → Int32) × Int32 × Int32 × Int32} (hm : f_X0_addLayer F v1 v2 v4 v5 b_k b_n b_h b_d b_r b_u b_y b_L b_C b_I = some z) : Met l yX0_addLayer wsX0_addLayer ({ frames := 0, cells := 0, slots := 0, locals := 0 } : Room) (va_Pc [.ref (q 0), .int v1, .long v2, .int v4, .int v5] (cP D y (wdX0 q y b_k b_n b_h b_d b_r b_u b_y b_p_s_f b_p_s_l b_p_s_c b_p_t b_v_f b_v_l b_v_c b_L b_C b_I) sz)) (QV D y (va_A (wdX0 q y b_k b_n b_h b_d b_r b_u b_y b_p_s_f b_p_s_l b_p_s_c b_p_t b_v_f b_v_l b_v_c b_L b_C b_I) sz) (wdX0 q y (z.1) (z.2.1) (z.2.2.1) (z.2.2.2.1) (z.2.2.2.2.1) (z.2.2.2.2.2.1) (z.2.2.2.2.2.2.1) b_p_s_f b_p_s_l b_p_s_c b_p_t b_v_f b_v_l b_v_c (z.2.2.2.2.2.2.2.1) (z.2.2.2.2.2.2.2.2.1) (z.2.2.2.2.2.2.2.2.2))) 0 0 (va_A (wdX0 q y b_k b_n b_h b_d b_r b_u b_y b_p_s_f b_p_s_l b_p_s_c b_p_t b_v_f b_v_l b_v_c b_L b_C b_I) sz) := by
  refine met_of (own := RX0) (cc := cX0_addLayer) (maxL := 6) (ret := none) (by decide) rfl rfl (Nat.le_of_ble_eq_true rfl) ?_
  intro p e s m below meth c ls C hsz hK hP hD hA hS hl
  obtain ⟨⟨hx, hb, hml, hown, hts⟩, hr, hlocks⟩ := id C
  have hl : lv_has ls 6 [(0, .ref (q 0)), (1, .int v1), (2, .long v2), (4, .int v4), (5, .int v5)] := hl
  generalize va_A (wdX0 q y b_k b_n b_h b_d b_r b_u b_y b_p_s_f b_p_s_l b_p_s_c b_p_t b_v_f b_v_l b_v_c b_L b_C b_I) sz = A at hD hA hS ⊢
  generalize ([.ref (q 0), .int v1, .long v2, .int v4, .int v5] : List Value).toArray = args at C hts ⊢
  unfold f_X0_addLayer at hm
  refine lv_aload_n hx hb dX0_addLayer_0 rfl (lv_at hl 0 rfl) ?_
  refine va_get (D := D) (ci := 0) (v := .int b_L) (C := RX0) (T := TX0) (N := 12) hx hb hts n_X0_addLayer_X0 hown hK hP 0 rfl rfl 9 (by decide) (hts _ w_X0_addLayer_f50) (fun _ h9 => h9) rfl dX0_addLayer_1 ?_
  refine lv_bipush (v := (80 : Int32)) hx hb dX0_addLayer_4 (by decide) ?_
  refine lv_icmp_ge (tgt := 22) hx hb dX0_addLayer_6 (by decide) (fun h_1 => ?_) (fun h_1 => ?_)
  · have hm := it_of hm h_1
    have hz := Option.some.inj hm
    subst hz
    exact end_v C hK hP hD hS dX0_addLayer_22
  · have hm := ie_of hm h_1
    refine lv_aload_n hx hb dX0_addLayer_9 rfl (lv_at hl 0 rfl) ?_
    refine va_get (D := D) (ci := 0) (v := .int b_C) (C := RX0) (T := TX0) (N := 12) hx hb hts n_X0_addLayer_X0 hown hK hP 0 rfl rfl 10 (by decide) (hts _ w_X0_addLayer_f54) (fun _ h9 => h9) rfl dX0_addLayer_10 ?_
    refine lv_bipush (v := (32 : Int32)) hx hb dX0_addLayer_13 (by decide) ?_
    refine lv_icmp_lt (tgt := 23) hx hb dX0_addLayer_15 (by decide) (fun h_2 => ?_) (fun h_2 => ?_)
    · have hm := it_of hm h_2
      exact k_X0_addLayer_23 C hA hK F v1 v2 v4 v5 b_k b_n b_h b_d b_r b_u b_y b_L b_C b_I _ _ _ hm hP hD hS (lv_sub hl [0, 1, 2, 3, 4] rfl)
    · have hm := ie_of hm h_2
      refine lv_iload_n hx hb dX0_addLayer_18 rfl (lv_at hl 1 rfl) ?_
      refine lv_if_ne (tgt := 23) hx hb dX0_addLayer_19 (by decide) (fun h_3 => ?_) (fun h_3 => ?_)
      · have hm := ie_of hm h_3
        exact k_X0_addLayer_23 C hA hK F v1 v2 v4 v5 b_k b_n b_h b_d b_r b_u b_y b_L b_C b_I _ _ _ hm hP hD hS (lv_sub hl [0, 1, 2, 3, 4] rfl)
      · have hm := it_of hm h_3
        have hz := Option.some.inj hm
        subst hz
        exact end_v C hK hP hD hS dX0_addLayer_22
def g_X0_endLayers_40 (F : Nat) (b_p_s_f : Nat → Int32) (b_p_s_l : Nat → Int32) (b_p_s_c : Int32) (b_C : Int32) : Option (Int32 × (Nat → Int32) × (Nat → Int32) × Int32) := (if b_p_s_c = 0 then mb3 (f_X2_addLast F (b_C - (1 : Int32)) b_p_s_f b_p_s_l b_p_s_c) (fun b_p_s_f_2 b_p_s_l_3 b_p_s_c_4 => some ((1 : Int32), b_p_s_f_2, b_p_s_l_3, b_p_s_c_4)) else some ((1 : Int32), b_p_s_f, b_p_s_l, b_p_s_c))
def f_X0_endLayers (F : Nat) (b_k : Nat → Int32) (b_p_s_f : Nat → Int32) (b_p_s_l : Nat → Int32) (b_p_s_c : Int32) (b_L : Int32) (b_C : Int32) : Option (Int32 × (Nat → Int32) × (Nat → Int32) × Int32) := (if b_C < (2 : Int32) then some ((0 : Int32), b_p_s_f, b_p_s_l, b_p_s_c) else (if b_L = 0 then some ((0 : Int32), b_p_s_f, b_p_s_l, b_p_s_c) else mg (inb (b_L - (1 : Int32)) 80) (mn (b_k ((b_L - (1 : Int32))).toNatClampNeg) (fun v1_4 => (if v1_4 = 0 then g_X0_endLayers_40 F b_p_s_f b_p_s_l b_p_s_c b_C else (if v1_4 = (3 : Int32) then g_X0_endLayers_40 F b_p_s_f b_p_s_l b_p_s_c b_C else some ((0 : Int32), b_p_s_f, b_p_s_l, b_p_s_c)))))))
set_option maxRecDepth 20000 in
theorem n_X0_endLayers_X0 : ∀ w ∈ wsX00, w ∈ wsX0_endLayers := by decide +kernel
set_option maxRecDepth 20000 in
theorem w_X0_endLayers_f37 : Cond.fieldLink RX0 37 "LayerStacks$Board" "pressings" "LLayerStacks$Pressings;" ∈ wsX0_endLayers := by decide +kernel
set_option maxRecDepth 20000 in
theorem n_X0_endLayers_X2 : ∀ w ∈ wsX20, w ∈ wsX0_endLayers := by decide +kernel
set_option maxRecDepth 20000 in
theorem w_X0_endLayers_f71 : Cond.fieldLink RX0 71 "LayerStacks$Pressings" "spans" "LLayerStacks$Spans;" ∈ wsX0_endLayers := by decide +kernel
set_option maxRecDepth 20000 in
theorem n_X0_endLayers_X3 : ∀ w ∈ wsX30, w ∈ wsX0_endLayers := by decide +kernel
set_option maxRecDepth 20000 in
theorem w_X0_endLayers_f64 : Cond.fieldLink RX0 64 "LayerStacks$Spans" "count" "I" ∈ wsX0_endLayers := by decide +kernel
set_option maxRecDepth 20000 in
theorem w_X0_endLayers_f54 : Cond.fieldLink RX0 54 "LayerStacks$Board" "coppers" "I" ∈ wsX0_endLayers := by decide +kernel
set_option maxRecDepth 20000 in
theorem w_X0_endLayers_f50 : Cond.fieldLink RX0 50 "LayerStacks$Board" "layers" "I" ∈ wsX0_endLayers := by decide +kernel
set_option maxRecDepth 20000 in
theorem w_X0_endLayers_f9 : Cond.fieldLink RX0 9 "LayerStacks$Board" "kinds" "[I" ∈ wsX0_endLayers := by decide +kernel
set_option maxHeartbeats 4000000 in
set_option maxRecDepth 100000 in
theorem k_X0_endLayers_40 {p : Program} {l : Launch} {e : Env} {s : State} {m : MethodId} {args : Array Value} {below : List Frame} {meth : Method} {c : Code} {D : va_G} {y : Nat → ClassId} {A : Nat → Prop} {q : Nat → Nat} {b_k : Nat → Int32} {b_n : Nat → Int64} {b_h : Nat → Int32} {b_d : Nat → Int32} {b_r : Nat → Int32} {b_u : Nat → Int32} {b_y : Nat → Int32} {b_p_t : Int32} {b_v_f : Nat → Int32} {b_v_l : Nat → Int32} {b_v_c : Int32} {b_L : Int32} {b_I : Int32} {z : Int32 × (Nat → Int32) × (Nat → Int32) × Int32} (C : CX p s m args meth c wsX0_endLayers RX0 cX0_endLayers 2 (some .boolean)) (hA : ∀ q : Nat, s.heap.size ≤ q → A q) (hK : va_K D vwCl (tyl y) s) (F : Nat) :
    ∀ (b_p_s_f : Nat → Int32) (b_p_s_l : Nat → Int32) (b_p_s_c : Int32) (b_C : Int32) (H : Heap) (locs : List Loc) (ls : Array Slot), g_X0_endLayers_40 F b_p_s_f b_p_s_l b_p_s_c b_C = some z → va_P D vwCl (wdX0 q y b_k b_n b_h b_d b_r b_u b_y b_p_s_f b_p_s_l b_p_s_c b_p_t b_v_f b_v_l b_v_c b_L b_C b_I) H → va_D A (wdX0 q y b_k b_n b_h b_d b_r b_u b_y b_p_s_f b_p_s_l b_p_s_c b_p_t b_v_f b_v_l b_v_c b_L b_C b_I) → va_S A s.heap H locs → lv_has ls 2 [(0, .ref (q 0))] → W p l e ({ frames := 2, cells := 0, slots := 0, locals := 45 } : Room) s m args below meth c H locs 0 0 (MQ below (QI D y A (z.1) (wdX0 q y b_k b_n b_h b_d b_r b_u b_y (z.2.1) (z.2.2.1) (z.2.2.2) b_p_t b_v_f b_v_l b_v_c b_L b_C b_I)) args s 0 0 A) (F0 m 40 ls []) := by
  obtain ⟨⟨hx, hb, hml, hown, hts⟩, hr, hlocks⟩ := id C
  intro b_p_s_f b_p_s_l b_p_s_c b_C H locs ls hm hP hD hS hl
  unfold g_X0_endLayers_40 at hm
  refine lv_aload_n hx hb dX0_endLayers_40 rfl (lv_at hl 0 rfl) ?_
  refine va_get (D := D) (ci := 0) (v := .ref (q 8)) (C := RX0) (T := TX0) (N := 12) hx hb hts n_X0_endLayers_X0 hown hK hP 0 rfl rfl 7 (by decide) (hts _ w_X0_endLayers_f37) (fun _ h9 => h9) rfl dX0_endLayers_41 ?_
  refine va_get (D := D) (ci := 2) (v := .ref (q 9)) (C := RX2) (T := TX2) (N := 2) hx hb hts n_X0_endLayers_X2 hown hK hP 8 rfl rfl 0 (by decide) (hts _ w_X0_endLayers_f71) (fun _ h9 => h9) rfl dX0_endLayers_44 ?_
  refine va_get (D := D) (ci := 3) (v := .int b_p_s_c) (C := RX3) (T := TX3) (N := 3) hx hb hts n_X0_endLayers_X3 hown hK hP 9 rfl rfl 2 (by decide) (hts _ w_X0_endLayers_f64) (fun _ h9 => h9) rfl dX0_endLayers_47 ?_
  refine lv_if_ne (tgt := 66) hx hb dX0_endLayers_50 (by decide) (fun h_1 => ?_) (fun h_1 => ?_)
  · have hm := ie_of hm h_1
    refine lv_iconst (v := (1 : Int32)) hx hb dX0_endLayers_66 (by decide) ?_
    have hz := Option.some.inj hm
    subst hz
    exact end_z C hK hP hD hS (show vp_nar .boolean (1 : Int32) = (1 : Int32) from by decide) dX0_endLayers_67
  · have hm := it_of hm h_1
    refine lv_aload_n hx hb dX0_endLayers_53 rfl (lv_at hl 0 rfl) ?_
    refine va_get (D := D) (ci := 0) (v := .ref (q 8)) (C := RX0) (T := TX0) (N := 12) hx hb hts n_X0_endLayers_X0 hown hK hP 0 rfl rfl 7 (by decide) (hts _ w_X0_endLayers_f37) (fun _ h9 => h9) rfl dX0_endLayers_54 ?_
    refine lv_aload_n hx hb dX0_endLayers_57 rfl (lv_at hl 0 rfl) ?_
    refine va_get (D := D) (ci := 0) (v := .int b_C) (C := RX0) (T := TX0) (N := 12) hx hb hts n_X0_endLayers_X0 hown hK hP 0 rfl rfl 10 (by decide) (hts _ w_X0_endLayers_f54) (fun _ h9 => h9) rfl dX0_endLayers_58 ?_
    refine lv_iconst (v := (1 : Int32)) hx hb dX0_endLayers_61 (by decide) ?_
    refine lv_isub hx hb dX0_endLayers_62 ?_
    obtain ⟨b_p_s_f_2, b_p_s_l_3, b_p_s_c_4, hc_5, hm⟩ := mb3_of hm
    refine call_vv (wc := (wdX2 (fun i => q (i + 8)) y b_p_s_f b_p_s_l b_p_s_c b_p_t)) (wr := [(q 0, .inr (0, [.ref (q 1), .ref (q 2), .ref (q 3), .ref (q 4), .ref (q 5), .ref (q 6), .ref (q 7), .ref (q 8), .ref (q 12), .int b_L, .int b_C, .int b_I])), (q 1, .inl (y 0, 80, .inl b_k)), (q 2, .inl (y 1, 80, .inr (.inl b_n))), (q 3, .inl (y 0, 80, .inl b_h)), (q 4, .inl (y 0, 80, .inl b_d)), (q 5, .inl (y 0, 80, .inl b_r)), (q 6, .inl (y 0, 80, .inl b_u)), (q 7, .inl (y 0, 32, .inl b_y)), (q 12, .inr (3, [.ref (q 13), .ref (q 14), .int b_v_c])), (q 13, .inl (y 0, 40, .inl b_v_f)), (q 14, .inl (y 0, 40, .inl b_v_l))]) (As := [.int (b_C - (1 : Int32))]) (rest := []) C (c_X2_addLast l D y (fun i => q (i + 8)) _ F hc_5) (cwV 1 hts gX0_endLayers_X2_addLast rfl rfl rfl (by decide +kernel) ⟨Nat.le_of_ble_eq_true rfl, Nat.le_of_ble_eq_true rfl⟩) hK hP hD hS hA [8, 9, 10, 11] [0, 1, 2, 3, 4, 5, 6, 7, 12, 13, 14] rfl rfl rfl rfl rfl (by decide) rfl rfl rfl rfl hl.1 (Nat.le_of_ble_eq_true rfl) dX0_endLayers_63 (fun H locs hP hD hS => ?_)
    have hP : va_P D vwCl (wdX0 q y b_k b_n b_h b_d b_r b_u b_y b_p_s_f_2 b_p_s_l_3 b_p_s_c_4 b_p_t b_v_f b_v_l b_v_c b_L b_C b_I) H := hP.sub [0, 1, 2, 3, 4, 5, 6, 7, 11, 12, 13, 14, 8, 9, 10] rfl
    have hD : va_D A (wdX0 q y b_k b_n b_h b_d b_r b_u b_y b_p_s_f_2 b_p_s_l_3 b_p_s_c_4 b_p_t b_v_f b_v_l b_v_c b_L b_C b_I) := hD.sub [0, 1, 2, 3, 4, 5, 6, 7, 11, 12, 13, 14, 8, 9, 10] (by decide) rfl
    refine lv_iconst (v := (1 : Int32)) hx hb dX0_endLayers_66 (by decide) ?_
    have hz := Option.some.inj hm
    subst hz
    exact end_z C hK hP hD hS (show vp_nar .boolean (1 : Int32) = (1 : Int32) from by decide) dX0_endLayers_67
set_option maxHeartbeats 4000000 in
set_option maxRecDepth 100000 in
theorem c_X0_endLayers (l : Launch) (D : va_G) (y : Nat → ClassId) (q : Nat → Nat) (sz : Nat) (F : Nat) {b_k : Nat → Int32} {b_n : Nat → Int64} {b_h : Nat → Int32} {b_d : Nat → Int32} {b_r : Nat → Int32} {b_u : Nat → Int32} {b_y : Nat → Int32} {b_p_s_f : Nat → Int32} {b_p_s_l : Nat → Int32} {b_p_s_c : Int32} {b_p_t : Int32} {b_v_f : Nat → Int32} {b_v_l : Nat → Int32} {b_v_c : Int32} {b_L : Int32} {b_C : Int32} {b_I : Int32} {z : Int32 × (Nat → Int32) × (Nat → Int32) × Int32} (hm : f_X0_endLayers F b_k b_p_s_f b_p_s_l b_p_s_c b_L b_C = some z) : Met l yX0_endLayers wsX0_endLayers ({ frames := 2, cells := 0, slots := 0, locals := 45 } : Room) (va_Pc [.ref (q 0)] (cP D y (wdX0 q y b_k b_n b_h b_d b_r b_u b_y b_p_s_f b_p_s_l b_p_s_c b_p_t b_v_f b_v_l b_v_c b_L b_C b_I) sz)) (QI D y (va_A (wdX0 q y b_k b_n b_h b_d b_r b_u b_y b_p_s_f b_p_s_l b_p_s_c b_p_t b_v_f b_v_l b_v_c b_L b_C b_I) sz) (z.1) (wdX0 q y b_k b_n b_h b_d b_r b_u b_y (z.2.1) (z.2.2.1) (z.2.2.2) b_p_t b_v_f b_v_l b_v_c b_L b_C b_I)) 0 0 (va_A (wdX0 q y b_k b_n b_h b_d b_r b_u b_y b_p_s_f b_p_s_l b_p_s_c b_p_t b_v_f b_v_l b_v_c b_L b_C b_I) sz) := by
  refine met_of (own := RX0) (cc := cX0_endLayers) (maxL := 2) (ret := (some .boolean)) (by decide) rfl rfl (Nat.le_of_ble_eq_true rfl) ?_
  intro p e s m below meth c ls C hsz hK hP hD hA hS hl
  obtain ⟨⟨hx, hb, hml, hown, hts⟩, hr, hlocks⟩ := id C
  have hl : lv_has ls 2 [(0, .ref (q 0))] := hl
  generalize va_A (wdX0 q y b_k b_n b_h b_d b_r b_u b_y b_p_s_f b_p_s_l b_p_s_c b_p_t b_v_f b_v_l b_v_c b_L b_C b_I) sz = A at hD hA hS ⊢
  generalize ([.ref (q 0)] : List Value).toArray = args at C hts ⊢
  unfold f_X0_endLayers at hm
  refine lv_aload_n hx hb dX0_endLayers_0 rfl (lv_at hl 0 rfl) ?_
  refine va_get (D := D) (ci := 0) (v := .int b_C) (C := RX0) (T := TX0) (N := 12) hx hb hts n_X0_endLayers_X0 hown hK hP 0 rfl rfl 10 (by decide) (hts _ w_X0_endLayers_f54) (fun _ h9 => h9) rfl dX0_endLayers_1 ?_
  refine lv_iconst (v := (2 : Int32)) hx hb dX0_endLayers_4 (by decide) ?_
  refine lv_icmp_lt (tgt := 15) hx hb dX0_endLayers_5 (by decide) (fun h_1 => ?_) (fun h_1 => ?_)
  · have hm := it_of hm h_1
    refine lv_iconst (v := (0 : Int32)) hx hb dX0_endLayers_15 (by decide) ?_
    have hz := Option.some.inj hm
    subst hz
    exact end_z C hK hP hD hS (show vp_nar .boolean (0 : Int32) = (0 : Int32) from by decide) dX0_endLayers_16
  · have hm := ie_of hm h_1
    refine lv_aload_n hx hb dX0_endLayers_8 rfl (lv_at hl 0 rfl) ?_
    refine va_get (D := D) (ci := 0) (v := .int b_L) (C := RX0) (T := TX0) (N := 12) hx hb hts n_X0_endLayers_X0 hown hK hP 0 rfl rfl 9 (by decide) (hts _ w_X0_endLayers_f50) (fun _ h9 => h9) rfl dX0_endLayers_9 ?_
    refine lv_if_ne (tgt := 17) hx hb dX0_endLayers_12 (by decide) (fun h_2 => ?_) (fun h_2 => ?_)
    · have hm := ie_of hm h_2
      refine lv_aload_n hx hb dX0_endLayers_17 rfl (lv_at hl 0 rfl) ?_
      refine va_get (D := D) (ci := 0) (v := .ref (q 1)) (C := RX0) (T := TX0) (N := 12) hx hb hts n_X0_endLayers_X0 hown hK hP 0 rfl rfl 0 (by decide) (hts _ w_X0_endLayers_f9) (fun _ h9 => h9) rfl dX0_endLayers_18 ?_
      refine lv_aload_n hx hb dX0_endLayers_21 rfl (lv_at hl 0 rfl) ?_
      refine va_get (D := D) (ci := 0) (v := .int b_L) (C := RX0) (T := TX0) (N := 12) hx hb hts n_X0_endLayers_X0 hown hK hP 0 rfl rfl 9 (by decide) (hts _ w_X0_endLayers_f50) (fun _ h9 => h9) rfl dX0_endLayers_22 ?_
      refine lv_iconst (v := (1 : Int32)) hx hb dX0_endLayers_25 (by decide) ?_
      refine lv_isub hx hb dX0_endLayers_26 ?_
      obtain ⟨hg_3, hm⟩ := mg_of hm
      refine va_iald hx hb hK hP 1 0 rfl rfl hg_3 dX0_endLayers_27 ?_
      refine lv_topi (fun v1_4 ev1_4 => ?_)
      have hm := mn_of ev1_4 hm
      refine lv_istore_n (lv' := [(1, .int v1_4), (0, .ref (q 0))]) hx hb dX0_endLayers_28 rfl hl (by decide) rfl (fun ls hl => ?_)
      refine lv_iload_n hx hb dX0_endLayers_29 rfl (lv_at hl 0 rfl) ?_
      refine lv_if_eq (tgt := 40) hx hb dX0_endLayers_30 (by decide) (fun h_5 => ?_) (fun h_5 => ?_)
      · have hm := it_of hm h_5
        exact k_X0_endLayers_40 C hA hK F b_p_s_f b_p_s_l b_p_s_c b_C _ _ _ hm hP hD hS (lv_sub hl [1] rfl)
      · have hm := ie_of hm h_5
        refine lv_iload_n hx hb dX0_endLayers_33 rfl (lv_at hl 0 rfl) ?_
        refine lv_iconst (v := (3 : Int32)) hx hb dX0_endLayers_34 (by decide) ?_
        refine lv_icmp_eq (tgt := 40) hx hb dX0_endLayers_35 (by decide) (fun h_6 => ?_) (fun h_6 => ?_)
        · have hm := it_of hm h_6
          exact k_X0_endLayers_40 C hA hK F b_p_s_f b_p_s_l b_p_s_c b_C _ _ _ hm hP hD hS (lv_sub hl [1] rfl)
        · have hm := ie_of hm h_6
          refine lv_iconst (v := (0 : Int32)) hx hb dX0_endLayers_38 (by decide) ?_
          have hz := Option.some.inj hm
          subst hz
          exact end_z C hK hP hD hS (show vp_nar .boolean (0 : Int32) = (0 : Int32) from by decide) dX0_endLayers_39
    · have hm := it_of hm h_2
      refine lv_iconst (v := (0 : Int32)) hx hb dX0_endLayers_15 (by decide) ?_
      have hz := Option.some.inj hm
      subst hz
      exact end_z C hK hP hD hS (show vp_nar .boolean (0 : Int32) = (0 : Int32) from by decide) dX0_endLayers_16
def f_X0_canTell (F : Nat) (v1 : Int32) (b_p_s_c : Int32) (b_p_t : Int32) (b_v_c : Int32) : Option (Int32) := (if v1 = (5 : Int32) then (if b_v_c = 0 then mb1 (f_X2_countTold F b_p_s_c b_p_t) (fun r_4 => (if (20 : Int32) ≤ r_4 then some (0 : Int32) else some (1 : Int32))) else some (0 : Int32)) else (if (40 : Int32) ≤ b_v_c then some (0 : Int32) else some (1 : Int32)))
set_option maxRecDepth 20000 in
theorem n_X0_canTell_X0 : ∀ w ∈ wsX00, w ∈ wsX0_canTell := by decide +kernel
set_option maxRecDepth 20000 in
theorem w_X0_canTell_f46 : Cond.fieldLink RX0 46 "LayerStacks$Board" "vias" "LLayerStacks$Spans;" ∈ wsX0_canTell := by decide +kernel
set_option maxRecDepth 20000 in
theorem n_X0_canTell_X3 : ∀ w ∈ wsX30, w ∈ wsX0_canTell := by decide +kernel
set_option maxRecDepth 20000 in
theorem w_X0_canTell_f64 : Cond.fieldLink RX0 64 "LayerStacks$Spans" "count" "I" ∈ wsX0_canTell := by decide +kernel
set_option maxRecDepth 20000 in
theorem w_X0_canTell_f37 : Cond.fieldLink RX0 37 "LayerStacks$Board" "pressings" "LLayerStacks$Pressings;" ∈ wsX0_canTell := by decide +kernel
set_option maxHeartbeats 4000000 in
set_option maxRecDepth 100000 in
theorem c_X0_canTell (l : Launch) (D : va_G) (y : Nat → ClassId) (q : Nat → Nat) (sz : Nat) (F : Nat) {v1 : Int32} {b_k : Nat → Int32} {b_n : Nat → Int64} {b_h : Nat → Int32} {b_d : Nat → Int32} {b_r : Nat → Int32} {b_u : Nat → Int32} {b_y : Nat → Int32} {b_p_s_f : Nat → Int32} {b_p_s_l : Nat → Int32} {b_p_s_c : Int32} {b_p_t : Int32} {b_v_f : Nat → Int32} {b_v_l : Nat → Int32} {b_v_c : Int32} {b_L : Int32} {b_C : Int32} {b_I : Int32} {z : Int32} (hm : f_X0_canTell F v1 b_p_s_c b_p_t b_v_c = some z) : Met l yX0_canTell wsX0_canTell ({ frames := 2, cells := 0, slots := 0, locals := 41 } : Room) (va_Pc [.ref (q 0), .int v1] (cP D y (wdX0 q y b_k b_n b_h b_d b_r b_u b_y b_p_s_f b_p_s_l b_p_s_c b_p_t b_v_f b_v_l b_v_c b_L b_C b_I) sz)) (QI D y (va_A (wdX0 q y b_k b_n b_h b_d b_r b_u b_y b_p_s_f b_p_s_l b_p_s_c b_p_t b_v_f b_v_l b_v_c b_L b_C b_I) sz) (z) (wdX0 q y b_k b_n b_h b_d b_r b_u b_y b_p_s_f b_p_s_l b_p_s_c b_p_t b_v_f b_v_l b_v_c b_L b_C b_I)) 0 0 (va_A (wdX0 q y b_k b_n b_h b_d b_r b_u b_y b_p_s_f b_p_s_l b_p_s_c b_p_t b_v_f b_v_l b_v_c b_L b_C b_I) sz) := by
  refine met_of (own := RX0) (cc := cX0_canTell) (maxL := 2) (ret := (some .boolean)) (by decide) rfl rfl (Nat.le_of_ble_eq_true rfl) ?_
  intro p e s m below meth c ls C hsz hK hP hD hA hS hl
  obtain ⟨⟨hx, hb, hml, hown, hts⟩, hr, hlocks⟩ := id C
  have hl : lv_has ls 2 [(0, .ref (q 0)), (1, .int v1)] := hl
  generalize va_A (wdX0 q y b_k b_n b_h b_d b_r b_u b_y b_p_s_f b_p_s_l b_p_s_c b_p_t b_v_f b_v_l b_v_c b_L b_C b_I) sz = A at hD hA hS ⊢
  generalize ([.ref (q 0), .int v1] : List Value).toArray = args at C hts ⊢
  unfold f_X0_canTell at hm
  refine lv_iload_n hx hb dX0_canTell_0 rfl (lv_at hl 1 rfl) ?_
  refine lv_iconst (v := (5 : Int32)) hx hb dX0_canTell_1 (by decide) ?_
  refine lv_icmp_ne (tgt := 33) hx hb dX0_canTell_2 (by decide) (fun h_1 => ?_) (fun h_1 => ?_)
  · have hm := ie_of hm h_1
    refine lv_aload_n hx hb dX0_canTell_33 rfl (lv_at hl 0 rfl) ?_
    refine va_get (D := D) (ci := 0) (v := .ref (q 12)) (C := RX0) (T := TX0) (N := 12) hx hb hts n_X0_canTell_X0 hown hK hP 0 rfl rfl 8 (by decide) (hts _ w_X0_canTell_f46) (fun _ h9 => h9) rfl dX0_canTell_34 ?_
    refine va_get (D := D) (ci := 3) (v := .int b_v_c) (C := RX3) (T := TX3) (N := 3) hx hb hts n_X0_canTell_X3 hown hK hP 12 rfl rfl 2 (by decide) (hts _ w_X0_canTell_f64) (fun _ h9 => h9) rfl dX0_canTell_37 ?_
    refine lv_bipush (v := (40 : Int32)) hx hb dX0_canTell_40 (by decide) ?_
    refine lv_icmp_ge (tgt := 49) hx hb dX0_canTell_42 (by decide) (fun h_2 => ?_) (fun h_2 => ?_)
    · have hm := it_of hm h_2
      refine lv_iconst (v := (0 : Int32)) hx hb dX0_canTell_49 (by decide) ?_
      have hz := Option.some.inj hm
      subst hz
      exact end_z C hK hP hD hS (show vp_nar .boolean (0 : Int32) = (0 : Int32) from by decide) dX0_canTell_50
    · have hm := ie_of hm h_2
      refine lv_iconst (v := (1 : Int32)) hx hb dX0_canTell_45 (by decide) ?_
      refine lv_goto (tgt := 50) hx hb dX0_canTell_46 (by decide) ?_
      have hz := Option.some.inj hm
      subst hz
      exact end_z C hK hP hD hS (show vp_nar .boolean (1 : Int32) = (1 : Int32) from by decide) dX0_canTell_50
  · have hm := it_of hm h_1
    refine lv_aload_n hx hb dX0_canTell_5 rfl (lv_at hl 0 rfl) ?_
    refine va_get (D := D) (ci := 0) (v := .ref (q 12)) (C := RX0) (T := TX0) (N := 12) hx hb hts n_X0_canTell_X0 hown hK hP 0 rfl rfl 8 (by decide) (hts _ w_X0_canTell_f46) (fun _ h9 => h9) rfl dX0_canTell_6 ?_
    refine va_get (D := D) (ci := 3) (v := .int b_v_c) (C := RX3) (T := TX3) (N := 3) hx hb hts n_X0_canTell_X3 hown hK hP 12 rfl rfl 2 (by decide) (hts _ w_X0_canTell_f64) (fun _ h9 => h9) rfl dX0_canTell_9 ?_
    refine lv_if_ne (tgt := 31) hx hb dX0_canTell_12 (by decide) (fun h_3 => ?_) (fun h_3 => ?_)
    · have hm := ie_of hm h_3
      refine lv_iconst (v := (0 : Int32)) hx hb dX0_canTell_31 (by decide) ?_
      have hz := Option.some.inj hm
      subst hz
      exact end_z C hK hP hD hS (show vp_nar .boolean (0 : Int32) = (0 : Int32) from by decide) dX0_canTell_32
    · have hm := it_of hm h_3
      refine lv_aload_n hx hb dX0_canTell_15 rfl (lv_at hl 0 rfl) ?_
      refine va_get (D := D) (ci := 0) (v := .ref (q 8)) (C := RX0) (T := TX0) (N := 12) hx hb hts n_X0_canTell_X0 hown hK hP 0 rfl rfl 7 (by decide) (hts _ w_X0_canTell_f37) (fun _ h9 => h9) rfl dX0_canTell_16 ?_
      obtain ⟨r_4, hc_5, hm⟩ := mb1_of hm
      refine call_vi (wc := (wdX2 (fun i => q (i + 8)) y b_p_s_f b_p_s_l b_p_s_c b_p_t)) (wr := [(q 0, .inr (0, [.ref (q 1), .ref (q 2), .ref (q 3), .ref (q 4), .ref (q 5), .ref (q 6), .ref (q 7), .ref (q 8), .ref (q 12), .int b_L, .int b_C, .int b_I])), (q 1, .inl (y 0, 80, .inl b_k)), (q 2, .inl (y 1, 80, .inr (.inl b_n))), (q 3, .inl (y 0, 80, .inl b_h)), (q 4, .inl (y 0, 80, .inl b_d)), (q 5, .inl (y 0, 80, .inl b_r)), (q 6, .inl (y 0, 80, .inl b_u)), (q 7, .inl (y 0, 32, .inl b_y)), (q 12, .inr (3, [.ref (q 13), .ref (q 14), .int b_v_c])), (q 13, .inl (y 0, 40, .inl b_v_f)), (q 14, .inl (y 0, 40, .inl b_v_l))]) (As := []) (rest := []) C (c_X2_countTold l D y (fun i => q (i + 8)) _ F hc_5) (cwV 0 hts gX0_canTell_X2_countTold rfl rfl rfl (by decide +kernel) ⟨Nat.le_of_ble_eq_true rfl, Nat.le_of_ble_eq_true rfl⟩) hK hP hD hS hA [8, 9, 10, 11] [0, 1, 2, 3, 4, 5, 6, 7, 12, 13, 14] rfl rfl rfl rfl rfl (by decide) rfl rfl rfl rfl hl.1 (Nat.le_of_ble_eq_true rfl) dX0_canTell_19 (fun H locs hP hD hS => ?_)
      have hP : va_P D vwCl (wdX0 q y b_k b_n b_h b_d b_r b_u b_y b_p_s_f b_p_s_l b_p_s_c b_p_t b_v_f b_v_l b_v_c b_L b_C b_I) H := hP.sub [0, 1, 2, 3, 4, 5, 6, 7, 11, 12, 13, 14, 8, 9, 10] rfl
      have hD : va_D A (wdX0 q y b_k b_n b_h b_d b_r b_u b_y b_p_s_f b_p_s_l b_p_s_c b_p_t b_v_f b_v_l b_v_c b_L b_C b_I) := hD.sub [0, 1, 2, 3, 4, 5, 6, 7, 11, 12, 13, 14, 8, 9, 10] (by decide) rfl
      refine lv_bipush (v := (20 : Int32)) hx hb dX0_canTell_22 (by decide) ?_
      refine lv_icmp_ge (tgt := 31) hx hb dX0_canTell_24 (by decide) (fun h_6 => ?_) (fun h_6 => ?_)
      · have hm := it_of hm h_6
        refine lv_iconst (v := (0 : Int32)) hx hb dX0_canTell_31 (by decide) ?_
        have hz := Option.some.inj hm
        subst hz
        exact end_z C hK hP hD hS (show vp_nar .boolean (0 : Int32) = (0 : Int32) from by decide) dX0_canTell_32
      · have hm := ie_of hm h_6
        refine lv_iconst (v := (1 : Int32)) hx hb dX0_canTell_27 (by decide) ?_
        refine lv_goto (tgt := 32) hx hb dX0_canTell_28 (by decide) ?_
        have hz := Option.some.inj hm
        subst hz
        exact end_z C hK hP hD hS (show vp_nar .boolean (1 : Int32) = (1 : Int32) from by decide) dX0_canTell_32
def g_X0_tell_36 (F : Nat) (v2 : Int32) (v3 : Int32) (st0 : Int32) (b_p_s_f : Nat → Int32) (b_p_s_l : Nat → Int32) (b_p_s_c : Int32) (b_p_t : Int32) (b_v_f : Nat → Int32) (b_v_l : Nat → Int32) (b_v_c : Int32) : Option (Int32 × (Nat → Int32) × (Nat → Int32) × Int32 × Int32 × (Nat → Int32) × (Nat → Int32) × Int32) := (if st0 = 0 then some ((0 : Int32), b_p_s_f, b_p_s_l, b_p_s_c, b_p_t, b_v_f, b_v_l, b_v_c) else mb1 (f_X3_find F 40 40 v2 v3 b_v_f b_v_l b_v_c) (fun r_2 => (if r_2 = (-1 : Int32) then mb4 (f_X3_insert F 40 40 b_v_c v2 v3 b_v_f b_v_l b_v_c) (fun r_5 b_v_f_6 b_v_l_7 b_v_c_8 => (if r_5 = 0 then some ((0 : Int32), b_p_s_f, b_p_s_l, b_p_s_c, b_p_t, b_v_f_6, b_v_l_7, b_v_c_8) else some ((1 : Int32), b_p_s_f, b_p_s_l, b_p_s_c, b_p_t, b_v_f_6, b_v_l_7, b_v_c_8))) else some ((0 : Int32), b_p_s_f, b_p_s_l, b_p_s_c, b_p_t, b_v_f, b_v_l, b_v_c))))
def f_X0_tell (F : Nat) (v1 : Int32) (v2 : Int32) (v3 : Int32) (b_p_s_f : Nat → Int32) (b_p_s_l : Nat → Int32) (b_p_s_c : Int32) (b_p_t : Int32) (b_v_f : Nat → Int32) (b_v_l : Nat → Int32) (b_v_c : Int32) : Option (Int32 × (Nat → Int32) × (Nat → Int32) × Int32 × Int32 × (Nat → Int32) × (Nat → Int32) × Int32) := (if v1 = (5 : Int32) then mb5 (f_X2_tell F v2 v3 b_p_s_f b_p_s_l b_p_s_c b_p_t) (fun r_5 b_p_s_f_6 b_p_s_l_7 b_p_s_c_8 b_p_t_9 => mg (vp_nar .boolean r_5 = r_5) (some (r_5, b_p_s_f_6, b_p_s_l_7, b_p_s_c_8, b_p_t_9, b_v_f, b_v_l, b_v_c))) else mb1 (f_X3_find F 21 21 v2 v3 b_p_s_f b_p_s_l b_p_s_c) (fun r_2 => (if r_2 = (-1 : Int32) then g_X0_tell_36 F v2 v3 (0 : Int32) b_p_s_f b_p_s_l b_p_s_c b_p_t b_v_f b_v_l b_v_c else g_X0_tell_36 F v2 v3 (1 : Int32) b_p_s_f b_p_s_l b_p_s_c b_p_t b_v_f b_v_l b_v_c)))
set_option maxRecDepth 20000 in
theorem n_X0_tell_X0 : ∀ w ∈ wsX00, w ∈ wsX0_tell := by decide +kernel
set_option maxRecDepth 20000 in
theorem w_X0_tell_f46 : Cond.fieldLink RX0 46 "LayerStacks$Board" "vias" "LLayerStacks$Spans;" ∈ wsX0_tell := by decide +kernel
set_option maxRecDepth 20000 in
theorem n_X0_tell_X3 : ∀ w ∈ wsX30, w ∈ wsX0_tell := by decide +kernel
set_option maxRecDepth 20000 in
theorem w_X0_tell_f64 : Cond.fieldLink RX0 64 "LayerStacks$Spans" "count" "I" ∈ wsX0_tell := by decide +kernel
set_option maxRecDepth 20000 in
theorem w_X0_tell_f37 : Cond.fieldLink RX0 37 "LayerStacks$Board" "pressings" "LLayerStacks$Pressings;" ∈ wsX0_tell := by decide +kernel
set_option maxRecDepth 20000 in
theorem n_X0_tell_X2 : ∀ w ∈ wsX20, w ∈ wsX0_tell := by decide +kernel
set_option maxRecDepth 20000 in
theorem w_X0_tell_f71 : Cond.fieldLink RX0 71 "LayerStacks$Pressings" "spans" "LLayerStacks$Spans;" ∈ wsX0_tell := by decide +kernel
set_option maxHeartbeats 4000000 in
set_option maxRecDepth 100000 in
theorem k_X0_tell_36 {p : Program} {l : Launch} {e : Env} {s : State} {m : MethodId} {args : Array Value} {below : List Frame} {meth : Method} {c : Code} {D : va_G} {y : Nat → ClassId} {A : Nat → Prop} {q : Nat → Nat} {b_k : Nat → Int32} {b_n : Nat → Int64} {b_h : Nat → Int32} {b_d : Nat → Int32} {b_r : Nat → Int32} {b_u : Nat → Int32} {b_y : Nat → Int32} {b_L : Int32} {b_C : Int32} {b_I : Int32} {z : Int32 × (Nat → Int32) × (Nat → Int32) × Int32 × Int32 × (Nat → Int32) × (Nat → Int32) × Int32} (C : CX p s m args meth c wsX0_tell RX0 cX0_tell 5 (some .boolean)) (hA : ∀ q : Nat, s.heap.size ≤ q → A q) (hK : va_K D vwCl (tyl y) s) (F : Nat) :
    ∀ (v2 : Int32) (v3 : Int32) (st0 : Int32) (b_p_s_f : Nat → Int32) (b_p_s_l : Nat → Int32) (b_p_s_c : Int32) (b_p_t : Int32) (b_v_f : Nat → Int32) (b_v_l : Nat → Int32) (b_v_c : Int32) (H : Heap) (locs : List Loc) (ls : Array Slot), g_X0_tell_36 F v2 v3 st0 b_p_s_f b_p_s_l b_p_s_c b_p_t b_v_f b_v_l b_v_c = some z → va_P D vwCl (wdX0 q y b_k b_n b_h b_d b_r b_u b_y b_p_s_f b_p_s_l b_p_s_c b_p_t b_v_f b_v_l b_v_c b_L b_C b_I) H → va_D A (wdX0 q y b_k b_n b_h b_d b_r b_u b_y b_p_s_f b_p_s_l b_p_s_c b_p_t b_v_f b_v_l b_v_c b_L b_C b_I) → va_S A s.heap H locs → lv_has ls 5 [(0, .ref (q 0)), (2, .int v2), (3, .int v3)] → W p l e ({ frames := 3, cells := 0, slots := 0, locals := 71 } : Room) s m args below meth c H locs 0 0 (MQ below (QI D y A (z.1) (wdX0 q y b_k b_n b_h b_d b_r b_u b_y (z.2.1) (z.2.2.1) (z.2.2.2.1) (z.2.2.2.2.1) (z.2.2.2.2.2.1) (z.2.2.2.2.2.2.1) (z.2.2.2.2.2.2.2) b_L b_C b_I)) args s 0 0 A) (F0 m 36 ls [.int st0]) := by
  obtain ⟨⟨hx, hb, hml, hown, hts⟩, hr, hlocks⟩ := id C
  intro v2 v3 st0 b_p_s_f b_p_s_l b_p_s_c b_p_t b_v_f b_v_l b_v_c H locs ls hm hP hD hS hl
  unfold g_X0_tell_36 at hm
  refine lv_istore (lv' := [(4, .int st0), (0, .ref (q 0)), (2, .int v2), (3, .int v3)]) hx hb dX0_tell_36 hl (by decide) rfl (fun ls hl => ?_)
  refine lv_iload hx hb dX0_tell_38 (lv_at hl 0 rfl) ?_
  refine lv_if_eq (tgt := 79) hx hb dX0_tell_40 (by decide) (fun h_1 => ?_) (fun h_1 => ?_)
  · have hm := it_of hm h_1
    refine lv_iconst (v := (0 : Int32)) hx hb dX0_tell_79 (by decide) ?_
    have hz := Option.some.inj hm
    subst hz
    exact end_z C hK hP hD hS (show vp_nar .boolean (0 : Int32) = (0 : Int32) from by decide) dX0_tell_80
  · have hm := ie_of hm h_1
    refine lv_aload_n hx hb dX0_tell_43 rfl (lv_at hl 1 rfl) ?_
    refine va_get (D := D) (ci := 0) (v := .ref (q 12)) (C := RX0) (T := TX0) (N := 12) hx hb hts n_X0_tell_X0 hown hK hP 0 rfl rfl 8 (by decide) (hts _ w_X0_tell_f46) (fun _ h9 => h9) rfl dX0_tell_44 ?_
    refine lv_iload_n hx hb dX0_tell_47 rfl (lv_at hl 2 rfl) ?_
    refine lv_iload_n hx hb dX0_tell_48 rfl (lv_at hl 3 rfl) ?_
    obtain ⟨r_2, hc_3, hm⟩ := mb1_of hm
    refine call_vi (wc := (wdX3 (fun i => q (i + 12)) y 40 40 b_v_f b_v_l b_v_c)) (wr := [(q 0, .inr (0, [.ref (q 1), .ref (q 2), .ref (q 3), .ref (q 4), .ref (q 5), .ref (q 6), .ref (q 7), .ref (q 8), .ref (q 12), .int b_L, .int b_C, .int b_I])), (q 1, .inl (y 0, 80, .inl b_k)), (q 2, .inl (y 1, 80, .inr (.inl b_n))), (q 3, .inl (y 0, 80, .inl b_h)), (q 4, .inl (y 0, 80, .inl b_d)), (q 5, .inl (y 0, 80, .inl b_r)), (q 6, .inl (y 0, 80, .inl b_u)), (q 7, .inl (y 0, 32, .inl b_y)), (q 8, .inr (2, [.ref (q 9), .int b_p_t])), (q 9, .inr (3, [.ref (q 10), .ref (q 11), .int b_p_s_c])), (q 10, .inl (y 0, 21, .inl b_p_s_f)), (q 11, .inl (y 0, 21, .inl b_p_s_l))]) (As := [.int v2, .int v3]) (rest := []) C (c_X3_find l D y (fun i => q (i + 12)) _ F hc_3) (cwV 2 hts gX0_tell_X3_find rfl rfl rfl (by decide +kernel) ⟨Nat.le_of_ble_eq_true rfl, Nat.le_of_ble_eq_true rfl⟩) hK hP hD hS hA [12, 13, 14] [0, 1, 2, 3, 4, 5, 6, 7, 8, 9, 10, 11] rfl rfl rfl rfl rfl (by decide) rfl rfl rfl rfl hl.1 (Nat.le_of_ble_eq_true rfl) dX0_tell_49 (fun H locs hP hD hS => ?_)
    have hP : va_P D vwCl (wdX0 q y b_k b_n b_h b_d b_r b_u b_y b_p_s_f b_p_s_l b_p_s_c b_p_t b_v_f b_v_l b_v_c b_L b_C b_I) H := hP
    have hD : va_D A (wdX0 q y b_k b_n b_h b_d b_r b_u b_y b_p_s_f b_p_s_l b_p_s_c b_p_t b_v_f b_v_l b_v_c b_L b_C b_I) := hD
    refine lv_iconst (v := (-1 : Int32)) hx hb dX0_tell_52 (by decide) ?_
    refine lv_icmp_ne (tgt := 79) hx hb dX0_tell_53 (by decide) (fun h_4 => ?_) (fun h_4 => ?_)
    · have hm := ie_of hm h_4
      refine lv_iconst (v := (0 : Int32)) hx hb dX0_tell_79 (by decide) ?_
      have hz := Option.some.inj hm
      subst hz
      exact end_z C hK hP hD hS (show vp_nar .boolean (0 : Int32) = (0 : Int32) from by decide) dX0_tell_80
    · have hm := it_of hm h_4
      refine lv_aload_n hx hb dX0_tell_56 rfl (lv_at hl 1 rfl) ?_
      refine va_get (D := D) (ci := 0) (v := .ref (q 12)) (C := RX0) (T := TX0) (N := 12) hx hb hts n_X0_tell_X0 hown hK hP 0 rfl rfl 8 (by decide) (hts _ w_X0_tell_f46) (fun _ h9 => h9) rfl dX0_tell_57 ?_
      refine lv_aload_n hx hb dX0_tell_60 rfl (lv_at hl 1 rfl) ?_
      refine va_get (D := D) (ci := 0) (v := .ref (q 12)) (C := RX0) (T := TX0) (N := 12) hx hb hts n_X0_tell_X0 hown hK hP 0 rfl rfl 8 (by decide) (hts _ w_X0_tell_f46) (fun _ h9 => h9) rfl dX0_tell_61 ?_
      refine va_get (D := D) (ci := 3) (v := .int b_v_c) (C := RX3) (T := TX3) (N := 3) hx hb hts n_X0_tell_X3 hown hK hP 12 rfl rfl 2 (by decide) (hts _ w_X0_tell_f64) (fun _ h9 => h9) rfl dX0_tell_64 ?_
      refine lv_iload_n hx hb dX0_tell_67 rfl (lv_at hl 2 rfl) ?_
      refine lv_iload_n hx hb dX0_tell_68 rfl (lv_at hl 3 rfl) ?_
      obtain ⟨r_5, b_v_f_6, b_v_l_7, b_v_c_8, hc_9, hm⟩ := mb4_of hm
      refine call_vi (wc := (wdX3 (fun i => q (i + 12)) y 40 40 b_v_f b_v_l b_v_c)) (wr := [(q 0, .inr (0, [.ref (q 1), .ref (q 2), .ref (q 3), .ref (q 4), .ref (q 5), .ref (q 6), .ref (q 7), .ref (q 8), .ref (q 12), .int b_L, .int b_C, .int b_I])), (q 1, .inl (y 0, 80, .inl b_k)), (q 2, .inl (y 1, 80, .inr (.inl b_n))), (q 3, .inl (y 0, 80, .inl b_h)), (q 4, .inl (y 0, 80, .inl b_d)), (q 5, .inl (y 0, 80, .inl b_r)), (q 6, .inl (y 0, 80, .inl b_u)), (q 7, .inl (y 0, 32, .inl b_y)), (q 8, .inr (2, [.ref (q 9), .int b_p_t])), (q 9, .inr (3, [.ref (q 10), .ref (q 11), .int b_p_s_c])), (q 10, .inl (y 0, 21, .inl b_p_s_f)), (q 11, .inl (y 0, 21, .inl b_p_s_l))]) (As := [.int b_v_c, .int v2, .int v3]) (rest := []) C (c_X3_insert l D y (fun i => q (i + 12)) _ F hc_9) (cwV 3 hts gX0_tell_X3_insert rfl rfl rfl (by decide +kernel) ⟨Nat.le_of_ble_eq_true rfl, Nat.le_of_ble_eq_true rfl⟩) hK hP hD hS hA [12, 13, 14] [0, 1, 2, 3, 4, 5, 6, 7, 8, 9, 10, 11] rfl rfl rfl rfl rfl (by decide) rfl rfl rfl rfl hl.1 (Nat.le_of_ble_eq_true rfl) dX0_tell_69 (fun H locs hP hD hS => ?_)
      have hP : va_P D vwCl (wdX0 q y b_k b_n b_h b_d b_r b_u b_y b_p_s_f b_p_s_l b_p_s_c b_p_t b_v_f_6 b_v_l_7 b_v_c_8 b_L b_C b_I) H := hP
      have hD : va_D A (wdX0 q y b_k b_n b_h b_d b_r b_u b_y b_p_s_f b_p_s_l b_p_s_c b_p_t b_v_f_6 b_v_l_7 b_v_c_8 b_L b_C b_I) := hD
      refine lv_if_eq (tgt := 79) hx hb dX0_tell_72 (by decide) (fun h_10 => ?_) (fun h_10 => ?_)
      · have hm := it_of hm h_10
        refine lv_iconst (v := (0 : Int32)) hx hb dX0_tell_79 (by decide) ?_
        have hz := Option.some.inj hm
        subst hz
        exact end_z C hK hP hD hS (show vp_nar .boolean (0 : Int32) = (0 : Int32) from by decide) dX0_tell_80
      · have hm := ie_of hm h_10
        refine lv_iconst (v := (1 : Int32)) hx hb dX0_tell_75 (by decide) ?_
        refine lv_goto (tgt := 80) hx hb dX0_tell_76 (by decide) ?_
        have hz := Option.some.inj hm
        subst hz
        exact end_z C hK hP hD hS (show vp_nar .boolean (1 : Int32) = (1 : Int32) from by decide) dX0_tell_80
set_option maxHeartbeats 4000000 in
set_option maxRecDepth 100000 in
theorem c_X0_tell (l : Launch) (D : va_G) (y : Nat → ClassId) (q : Nat → Nat) (sz : Nat) (F : Nat) {v1 : Int32} {v2 : Int32} {v3 : Int32} {b_k : Nat → Int32} {b_n : Nat → Int64} {b_h : Nat → Int32} {b_d : Nat → Int32} {b_r : Nat → Int32} {b_u : Nat → Int32} {b_y : Nat → Int32} {b_p_s_f : Nat → Int32} {b_p_s_l : Nat → Int32} {b_p_s_c : Int32} {b_p_t : Int32} {b_v_f : Nat → Int32} {b_v_l : Nat → Int32} {b_v_c : Int32} {b_L : Int32} {b_C : Int32} {b_I : Int32} {z : Int32 × (Nat → Int32) × (Nat → Int32) × Int32 × Int32 × (Nat → Int32) × (Nat → Int32) × Int32} (hm : f_X0_tell F v1 v2 v3 b_p_s_f b_p_s_l b_p_s_c b_p_t b_v_f b_v_l b_v_c = some z) : Met l yX0_tell wsX0_tell ({ frames := 3, cells := 0, slots := 0, locals := 71 } : Room) (va_Pc [.ref (q 0), .int v1, .int v2, .int v3] (cP D y (wdX0 q y b_k b_n b_h b_d b_r b_u b_y b_p_s_f b_p_s_l b_p_s_c b_p_t b_v_f b_v_l b_v_c b_L b_C b_I) sz)) (QI D y (va_A (wdX0 q y b_k b_n b_h b_d b_r b_u b_y b_p_s_f b_p_s_l b_p_s_c b_p_t b_v_f b_v_l b_v_c b_L b_C b_I) sz) (z.1) (wdX0 q y b_k b_n b_h b_d b_r b_u b_y (z.2.1) (z.2.2.1) (z.2.2.2.1) (z.2.2.2.2.1) (z.2.2.2.2.2.1) (z.2.2.2.2.2.2.1) (z.2.2.2.2.2.2.2) b_L b_C b_I)) 0 0 (va_A (wdX0 q y b_k b_n b_h b_d b_r b_u b_y b_p_s_f b_p_s_l b_p_s_c b_p_t b_v_f b_v_l b_v_c b_L b_C b_I) sz) := by
  refine met_of (own := RX0) (cc := cX0_tell) (maxL := 5) (ret := (some .boolean)) (by decide) rfl rfl (Nat.le_of_ble_eq_true rfl) ?_
  intro p e s m below meth c ls C hsz hK hP hD hA hS hl
  obtain ⟨⟨hx, hb, hml, hown, hts⟩, hr, hlocks⟩ := id C
  have hl : lv_has ls 5 [(0, .ref (q 0)), (1, .int v1), (2, .int v2), (3, .int v3)] := hl
  generalize va_A (wdX0 q y b_k b_n b_h b_d b_r b_u b_y b_p_s_f b_p_s_l b_p_s_c b_p_t b_v_f b_v_l b_v_c b_L b_C b_I) sz = A at hD hA hS ⊢
  generalize ([.ref (q 0), .int v1, .int v2, .int v3] : List Value).toArray = args at C hts ⊢
  unfold f_X0_tell at hm
  refine lv_iload_n hx hb dX0_tell_0 rfl (lv_at hl 1 rfl) ?_
  refine lv_iconst (v := (5 : Int32)) hx hb dX0_tell_1 (by decide) ?_
  refine lv_icmp_ne (tgt := 15) hx hb dX0_tell_2 (by decide) (fun h_1 => ?_) (fun h_1 => ?_)
  · have hm := ie_of hm h_1
    refine lv_aload_n hx hb dX0_tell_15 rfl (lv_at hl 0 rfl) ?_
    refine va_get (D := D) (ci := 0) (v := .ref (q 8)) (C := RX0) (T := TX0) (N := 12) hx hb hts n_X0_tell_X0 hown hK hP 0 rfl rfl 7 (by decide) (hts _ w_X0_tell_f37) (fun _ h9 => h9) rfl dX0_tell_16 ?_
    refine va_get (D := D) (ci := 2) (v := .ref (q 9)) (C := RX2) (T := TX2) (N := 2) hx hb hts n_X0_tell_X2 hown hK hP 8 rfl rfl 0 (by decide) (hts _ w_X0_tell_f71) (fun _ h9 => h9) rfl dX0_tell_19 ?_
    refine lv_iload_n hx hb dX0_tell_22 rfl (lv_at hl 2 rfl) ?_
    refine lv_iload_n hx hb dX0_tell_23 rfl (lv_at hl 3 rfl) ?_
    obtain ⟨r_2, hc_3, hm⟩ := mb1_of hm
    refine call_vi (wc := (wdX3 (fun i => q (i + 9)) y 21 21 b_p_s_f b_p_s_l b_p_s_c)) (wr := [(q 0, .inr (0, [.ref (q 1), .ref (q 2), .ref (q 3), .ref (q 4), .ref (q 5), .ref (q 6), .ref (q 7), .ref (q 8), .ref (q 12), .int b_L, .int b_C, .int b_I])), (q 1, .inl (y 0, 80, .inl b_k)), (q 2, .inl (y 1, 80, .inr (.inl b_n))), (q 3, .inl (y 0, 80, .inl b_h)), (q 4, .inl (y 0, 80, .inl b_d)), (q 5, .inl (y 0, 80, .inl b_r)), (q 6, .inl (y 0, 80, .inl b_u)), (q 7, .inl (y 0, 32, .inl b_y)), (q 8, .inr (2, [.ref (q 9), .int b_p_t])), (q 12, .inr (3, [.ref (q 13), .ref (q 14), .int b_v_c])), (q 13, .inl (y 0, 40, .inl b_v_f)), (q 14, .inl (y 0, 40, .inl b_v_l))]) (As := [.int v2, .int v3]) (rest := []) C (c_X3_find l D y (fun i => q (i + 9)) _ F hc_3) (cwV 2 hts gX0_tell_X3_find rfl rfl rfl (by decide +kernel) ⟨Nat.le_of_ble_eq_true rfl, Nat.le_of_ble_eq_true rfl⟩) hK hP hD hS hA [9, 10, 11] [0, 1, 2, 3, 4, 5, 6, 7, 8, 12, 13, 14] rfl rfl rfl rfl rfl (by decide) rfl rfl rfl rfl hl.1 (Nat.le_of_ble_eq_true rfl) dX0_tell_24 (fun H locs hP hD hS => ?_)
    have hP : va_P D vwCl (wdX0 q y b_k b_n b_h b_d b_r b_u b_y b_p_s_f b_p_s_l b_p_s_c b_p_t b_v_f b_v_l b_v_c b_L b_C b_I) H := hP.sub [0, 1, 2, 3, 4, 5, 6, 7, 8, 12, 13, 14, 9, 10, 11] rfl
    have hD : va_D A (wdX0 q y b_k b_n b_h b_d b_r b_u b_y b_p_s_f b_p_s_l b_p_s_c b_p_t b_v_f b_v_l b_v_c b_L b_C b_I) := hD.sub [0, 1, 2, 3, 4, 5, 6, 7, 8, 12, 13, 14, 9, 10, 11] (by decide) rfl
    refine lv_iconst (v := (-1 : Int32)) hx hb dX0_tell_27 (by decide) ?_
    refine lv_icmp_eq (tgt := 35) hx hb dX0_tell_28 (by decide) (fun h_4 => ?_) (fun h_4 => ?_)
    · have hm := it_of hm h_4
      refine lv_iconst (v := (0 : Int32)) hx hb dX0_tell_35 (by decide) ?_
      exact k_X0_tell_36 C hA hK F v2 v3 (0 : Int32) b_p_s_f b_p_s_l b_p_s_c b_p_t b_v_f b_v_l b_v_c _ _ _ hm hP hD hS (lv_sub hl [0, 2, 3] rfl)
    · have hm := ie_of hm h_4
      refine lv_iconst (v := (1 : Int32)) hx hb dX0_tell_31 (by decide) ?_
      refine lv_goto (tgt := 36) hx hb dX0_tell_32 (by decide) ?_
      exact k_X0_tell_36 C hA hK F v2 v3 (1 : Int32) b_p_s_f b_p_s_l b_p_s_c b_p_t b_v_f b_v_l b_v_c _ _ _ hm hP hD hS (lv_sub hl [0, 2, 3] rfl)
  · have hm := it_of hm h_1
    refine lv_aload_n hx hb dX0_tell_5 rfl (lv_at hl 0 rfl) ?_
    refine va_get (D := D) (ci := 0) (v := .ref (q 8)) (C := RX0) (T := TX0) (N := 12) hx hb hts n_X0_tell_X0 hown hK hP 0 rfl rfl 7 (by decide) (hts _ w_X0_tell_f37) (fun _ h9 => h9) rfl dX0_tell_6 ?_
    refine lv_iload_n hx hb dX0_tell_9 rfl (lv_at hl 2 rfl) ?_
    refine lv_iload_n hx hb dX0_tell_10 rfl (lv_at hl 3 rfl) ?_
    obtain ⟨r_5, b_p_s_f_6, b_p_s_l_7, b_p_s_c_8, b_p_t_9, hc_10, hm⟩ := mb5_of hm
    refine call_vi (wc := (wdX2 (fun i => q (i + 8)) y b_p_s_f b_p_s_l b_p_s_c b_p_t)) (wr := [(q 0, .inr (0, [.ref (q 1), .ref (q 2), .ref (q 3), .ref (q 4), .ref (q 5), .ref (q 6), .ref (q 7), .ref (q 8), .ref (q 12), .int b_L, .int b_C, .int b_I])), (q 1, .inl (y 0, 80, .inl b_k)), (q 2, .inl (y 1, 80, .inr (.inl b_n))), (q 3, .inl (y 0, 80, .inl b_h)), (q 4, .inl (y 0, 80, .inl b_d)), (q 5, .inl (y 0, 80, .inl b_r)), (q 6, .inl (y 0, 80, .inl b_u)), (q 7, .inl (y 0, 32, .inl b_y)), (q 12, .inr (3, [.ref (q 13), .ref (q 14), .int b_v_c])), (q 13, .inl (y 0, 40, .inl b_v_f)), (q 14, .inl (y 0, 40, .inl b_v_l))]) (As := [.int v2, .int v3]) (rest := []) C (c_X2_tell l D y (fun i => q (i + 8)) _ F hc_10) (cwV 2 hts gX0_tell_X2_tell rfl rfl rfl (by decide +kernel) ⟨Nat.le_of_ble_eq_true rfl, Nat.le_of_ble_eq_true rfl⟩) hK hP hD hS hA [8, 9, 10, 11] [0, 1, 2, 3, 4, 5, 6, 7, 12, 13, 14] rfl rfl rfl rfl rfl (by decide) rfl rfl rfl rfl hl.1 (Nat.le_of_ble_eq_true rfl) dX0_tell_11 (fun H locs hP hD hS => ?_)
    have hP : va_P D vwCl (wdX0 q y b_k b_n b_h b_d b_r b_u b_y b_p_s_f_6 b_p_s_l_7 b_p_s_c_8 b_p_t_9 b_v_f b_v_l b_v_c b_L b_C b_I) H := hP.sub [0, 1, 2, 3, 4, 5, 6, 7, 11, 12, 13, 14, 8, 9, 10] rfl
    have hD : va_D A (wdX0 q y b_k b_n b_h b_d b_r b_u b_y b_p_s_f_6 b_p_s_l_7 b_p_s_c_8 b_p_t_9 b_v_f b_v_l b_v_c b_L b_C b_I) := hD.sub [0, 1, 2, 3, 4, 5, 6, 7, 11, 12, 13, 14, 8, 9, 10] (by decide) rfl
    obtain ⟨hg_11, hm⟩ := mg_of hm
    have hz := Option.some.inj hm
    subst hz
    exact end_z C hK hP hD hS hg_11 dX0_tell_14
def g_X0_findCopper_2 (F : Nat) : Nat → Int64 → Int32 → (Nat → Int64) → (Nat → Int32) → Int32 → Option (Int32)
  | 0, _, _, _, _, _ => none
  | n + 1, v1, v3, b_n, b_y, b_C => (if b_C ≤ v3 then some (-1 : Int32) else mg (inb v3 32) (mg (inb (b_y (v3).toNatClampNeg) 80) ((if (lg_cmp (b_n ((b_y (v3).toNatClampNeg)).toNatClampNeg) v1) = 0 then some v3 else mn (v3 + (1 : Int32)) (fun v3_5 => g_X0_findCopper_2 F n v1 v3_5 b_n b_y b_C)))))
theorem g_X0_findCopper_2_z (F : Nat) (v1 : Int64) (v3 : Int32) (b_n : Nat → Int64) (b_y : Nat → Int32) (b_C : Int32) : g_X0_findCopper_2 F 0 v1 v3 b_n b_y b_C = none := rfl
theorem g_X0_findCopper_2_s (F : Nat) (n : Nat) (v1 : Int64) (v3 : Int32) (b_n : Nat → Int64) (b_y : Nat → Int32) (b_C : Int32) : g_X0_findCopper_2 F (n + 1) v1 v3 b_n b_y b_C = (if b_C ≤ v3 then some (-1 : Int32) else mg (inb v3 32) (mg (inb (b_y (v3).toNatClampNeg) 80) ((if (lg_cmp (b_n ((b_y (v3).toNatClampNeg)).toNatClampNeg) v1) = 0 then some v3 else mn (v3 + (1 : Int32)) (fun v3_5 => g_X0_findCopper_2 F n v1 v3_5 b_n b_y b_C))))) := rfl
def f_X0_findCopper (F : Nat) (v1 : Int64) (b_n : Nat → Int64) (b_y : Nat → Int32) (b_C : Int32) : Option (Int32) := g_X0_findCopper_2 F F v1 (0 : Int32) b_n b_y b_C
set_option maxRecDepth 20000 in
theorem n_X0_findCopper_X0 : ∀ w ∈ wsX00, w ∈ wsX0_findCopper := by decide +kernel
set_option maxRecDepth 20000 in
theorem w_X0_findCopper_f54 : Cond.fieldLink RX0 54 "LayerStacks$Board" "coppers" "I" ∈ wsX0_findCopper := by decide +kernel
set_option maxRecDepth 20000 in
theorem w_X0_findCopper_f15 : Cond.fieldLink RX0 15 "LayerStacks$Board" "names" "[J" ∈ wsX0_findCopper := by decide +kernel
set_option maxRecDepth 20000 in
theorem w_X0_findCopper_f31 : Cond.fieldLink RX0 31 "LayerStacks$Board" "copperLayers" "[I" ∈ wsX0_findCopper := by decide +kernel
set_option maxHeartbeats 4000000 in
set_option maxRecDepth 100000 in
theorem k_X0_findCopper_2 {p : Program} {l : Launch} {e : Env} {s : State} {m : MethodId} {args : Array Value} {below : List Frame} {meth : Method} {c : Code} {D : va_G} {y : Nat → ClassId} {A : Nat → Prop} {q : Nat → Nat} {b_k : Nat → Int32} {b_h : Nat → Int32} {b_d : Nat → Int32} {b_r : Nat → Int32} {b_u : Nat → Int32} {b_p_s_f : Nat → Int32} {b_p_s_l : Nat → Int32} {b_p_s_c : Int32} {b_p_t : Int32} {b_v_f : Nat → Int32} {b_v_l : Nat → Int32} {b_v_c : Int32} {b_L : Int32} {b_I : Int32} {z : Int32} (C : CX p s m args meth c wsX0_findCopper RX0 cX0_findCopper 4 (some .int)) (hA : ∀ q : Nat, s.heap.size ≤ q → A q) (hK : va_K D vwCl (tyl y) s) (F : Nat) :
    ∀ (n : Nat), ∀ (v1 : Int64) (v3 : Int32) (b_n : Nat → Int64) (b_y : Nat → Int32) (b_C : Int32) (H : Heap) (locs : List Loc) (ls : Array Slot), g_X0_findCopper_2 F n v1 v3 b_n b_y b_C = some z → va_P D vwCl (wdX0 q y b_k b_n b_h b_d b_r b_u b_y b_p_s_f b_p_s_l b_p_s_c b_p_t b_v_f b_v_l b_v_c b_L b_C b_I) H → va_D A (wdX0 q y b_k b_n b_h b_d b_r b_u b_y b_p_s_f b_p_s_l b_p_s_c b_p_t b_v_f b_v_l b_v_c b_L b_C b_I) → va_S A s.heap H locs → lv_has ls 4 [(0, .ref (q 0)), (1, .long v1), (3, .int v3)] → W p l e ({ frames := 0, cells := 0, slots := 0, locals := 0 } : Room) s m args below meth c H locs 0 0 (MQ below (QI D y A (z) (wdX0 q y b_k b_n b_h b_d b_r b_u b_y b_p_s_f b_p_s_l b_p_s_c b_p_t b_v_f b_v_l b_v_c b_L b_C b_I)) args s 0 0 A) (F0 m 2 ls []) := by
  obtain ⟨⟨hx, hb, hml, hown, hts⟩, hr, hlocks⟩ := id C
  intro n
  induction n with
  | zero =>
    intro v1 v3 b_n b_y b_C H locs ls hm
    rw [g_X0_findCopper_2_z] at hm
    cases hm
  | succ n ih =>
    intro v1 v3 b_n b_y b_C H locs ls hm hP hD hS hl
    rw [g_X0_findCopper_2_s] at hm
    refine lv_iload_n hx hb dX0_findCopper_2 rfl (lv_at hl 2 rfl) ?_
    refine lv_aload_n hx hb dX0_findCopper_3 rfl (lv_at hl 0 rfl) ?_
    refine va_get (D := D) (ci := 0) (v := .int b_C) (C := RX0) (T := TX0) (N := 12) hx hb hts n_X0_findCopper_X0 hown hK hP 0 rfl rfl 10 (by decide) (hts _ w_X0_findCopper_f54) (fun _ h9 => h9) rfl dX0_findCopper_4 ?_
    refine lv_icmp_ge (tgt := 34) hx hb dX0_findCopper_7 (by decide) (fun h_1 => ?_) (fun h_1 => ?_)
    · have hm := it_of hm h_1
      refine lv_iconst (v := (-1 : Int32)) hx hb dX0_findCopper_34 (by decide) ?_
      have hz := Option.some.inj hm
      subst hz
      exact end_i C hK hP hD hS dX0_findCopper_35
    · have hm := ie_of hm h_1
      refine lv_aload_n hx hb dX0_findCopper_10 rfl (lv_at hl 0 rfl) ?_
      refine va_get (D := D) (ci := 0) (v := .ref (q 2)) (C := RX0) (T := TX0) (N := 12) hx hb hts n_X0_findCopper_X0 hown hK hP 0 rfl rfl 1 (by decide) (hts _ w_X0_findCopper_f15) (fun _ h9 => h9) rfl dX0_findCopper_11 ?_
      refine lv_aload_n hx hb dX0_findCopper_14 rfl (lv_at hl 0 rfl) ?_
      refine va_get (D := D) (ci := 0) (v := .ref (q 7)) (C := RX0) (T := TX0) (N := 12) hx hb hts n_X0_findCopper_X0 hown hK hP 0 rfl rfl 6 (by decide) (hts _ w_X0_findCopper_f31) (fun _ h9 => h9) rfl dX0_findCopper_15 ?_
      refine lv_iload_n hx hb dX0_findCopper_18 rfl (lv_at hl 2 rfl) ?_
      obtain ⟨hg_2, hm⟩ := mg_of hm
      refine va_iald hx hb hK hP 7 0 rfl rfl hg_2 dX0_findCopper_19 ?_
      obtain ⟨hg_3, hm⟩ := mg_of hm
      refine va_lald hx hb hK hP 2 1 rfl rfl hg_3 dX0_findCopper_20 ?_
      refine lv_lload_n hx hb dX0_findCopper_21 rfl (lv_at hl 1 rfl) ?_
      refine W.lcmp hx hb dX0_findCopper_22 ?_
      refine lv_if_ne (tgt := 28) hx hb dX0_findCopper_23 (by decide) (fun h_4 => ?_) (fun h_4 => ?_)
      · have hm := ie_of hm h_4
        obtain ⟨v3_5, ev3_5⟩ : ∃ y9 : Int32, y9 = (v3 + (1 : Int32)) := ⟨_, rfl⟩
        have hm := mn_of ev3_5 hm
        refine lv_iinc (v := v3_5) (lv' := [(3, .int v3_5), (0, .ref (q 0)), (1, .long v1)]) hx hb dX0_findCopper_28 hl (k := 2) rfl (by rw [ev3_5]; rfl) (by decide) rfl (fun ls hl => ?_)
        refine lv_goto (tgt := 2) hx hb dX0_findCopper_31 (by decide) ?_
        exact ih v1 v3_5 b_n b_y b_C _ _ _ hm hP hD hS (lv_sub hl [1, 2, 0] rfl)
      · have hm := it_of hm h_4
        refine lv_iload_n hx hb dX0_findCopper_26 rfl (lv_at hl 2 rfl) ?_
        have hz := Option.some.inj hm
        subst hz
        exact end_i C hK hP hD hS dX0_findCopper_27
set_option maxHeartbeats 4000000 in
set_option maxRecDepth 100000 in
theorem c_X0_findCopper (l : Launch) (D : va_G) (y : Nat → ClassId) (q : Nat → Nat) (sz : Nat) (F : Nat) {v1 : Int64} {b_k : Nat → Int32} {b_n : Nat → Int64} {b_h : Nat → Int32} {b_d : Nat → Int32} {b_r : Nat → Int32} {b_u : Nat → Int32} {b_y : Nat → Int32} {b_p_s_f : Nat → Int32} {b_p_s_l : Nat → Int32} {b_p_s_c : Int32} {b_p_t : Int32} {b_v_f : Nat → Int32} {b_v_l : Nat → Int32} {b_v_c : Int32} {b_L : Int32} {b_C : Int32} {b_I : Int32} {z : Int32} (hm : f_X0_findCopper F v1 b_n b_y b_C = some z) : Met l yX0_findCopper wsX0_findCopper ({ frames := 0, cells := 0, slots := 0, locals := 0 } : Room) (va_Pc [.ref (q 0), .long v1] (cP D y (wdX0 q y b_k b_n b_h b_d b_r b_u b_y b_p_s_f b_p_s_l b_p_s_c b_p_t b_v_f b_v_l b_v_c b_L b_C b_I) sz)) (QI D y (va_A (wdX0 q y b_k b_n b_h b_d b_r b_u b_y b_p_s_f b_p_s_l b_p_s_c b_p_t b_v_f b_v_l b_v_c b_L b_C b_I) sz) (z) (wdX0 q y b_k b_n b_h b_d b_r b_u b_y b_p_s_f b_p_s_l b_p_s_c b_p_t b_v_f b_v_l b_v_c b_L b_C b_I)) 0 0 (va_A (wdX0 q y b_k b_n b_h b_d b_r b_u b_y b_p_s_f b_p_s_l b_p_s_c b_p_t b_v_f b_v_l b_v_c b_L b_C b_I) sz) := by
  refine met_of (own := RX0) (cc := cX0_findCopper) (maxL := 4) (ret := (some .int)) (by decide) rfl rfl (Nat.le_of_ble_eq_true rfl) ?_
  intro p e s m below meth c ls C hsz hK hP hD hA hS hl
  obtain ⟨⟨hx, hb, hml, hown, hts⟩, hr, hlocks⟩ := id C
  have hl : lv_has ls 4 [(0, .ref (q 0)), (1, .long v1)] := hl
  generalize va_A (wdX0 q y b_k b_n b_h b_d b_r b_u b_y b_p_s_f b_p_s_l b_p_s_c b_p_t b_v_f b_v_l b_v_c b_L b_C b_I) sz = A at hD hA hS ⊢
  generalize ([.ref (q 0), .long v1] : List Value).toArray = args at C hts ⊢
  unfold f_X0_findCopper at hm
  refine lv_iconst (v := (0 : Int32)) hx hb dX0_findCopper_0 (by decide) ?_
  refine lv_istore_n (lv' := [(3, .int (0 : Int32)), (0, .ref (q 0)), (1, .long v1)]) hx hb dX0_findCopper_1 rfl hl (by decide) rfl (fun ls hl => ?_)
  exact k_X0_findCopper_2 C hA hK F F v1 (0 : Int32) b_n b_y b_C _ _ _ hm hP hD hS (lv_sub hl [1, 2, 0] rfl)
def f_X0_changeShare (F : Nat) (v1 : Int32) (v2 : Int32) (b_r : Nat → Int32) (b_y : Nat → Int32) : Option (Int32 × (Nat → Int32)) := mg (inb v1 32) (mn (b_y (v1).toNatClampNeg) (fun v3_2 => mg (inb v3_2 80) ((if (b_r (v3_2).toNatClampNeg) = v2 then mg (inb v3_2 80) (some ((0 : Int32), (upd b_r (v3_2).toNatClampNeg v2))) else mg (inb v3_2 80) (some ((1 : Int32), (upd b_r (v3_2).toNatClampNeg v2)))))))
set_option maxRecDepth 20000 in
theorem n_X0_changeShare_X0 : ∀ w ∈ wsX00, w ∈ wsX0_changeShare := by decide +kernel
set_option maxRecDepth 20000 in
theorem w_X0_changeShare_f31 : Cond.fieldLink RX0 31 "LayerStacks$Board" "copperLayers" "[I" ∈ wsX0_changeShare := by decide +kernel
set_option maxRecDepth 20000 in
theorem w_X0_changeShare_f25 : Cond.fieldLink RX0 25 "LayerStacks$Board" "shares" "[I" ∈ wsX0_changeShare := by decide +kernel
set_option maxHeartbeats 4000000 in
set_option maxRecDepth 100000 in
theorem c_X0_changeShare (l : Launch) (D : va_G) (y : Nat → ClassId) (q : Nat → Nat) (sz : Nat) (F : Nat) {v1 : Int32} {v2 : Int32} {b_k : Nat → Int32} {b_n : Nat → Int64} {b_h : Nat → Int32} {b_d : Nat → Int32} {b_r : Nat → Int32} {b_u : Nat → Int32} {b_y : Nat → Int32} {b_p_s_f : Nat → Int32} {b_p_s_l : Nat → Int32} {b_p_s_c : Int32} {b_p_t : Int32} {b_v_f : Nat → Int32} {b_v_l : Nat → Int32} {b_v_c : Int32} {b_L : Int32} {b_C : Int32} {b_I : Int32} {z : Int32 × (Nat → Int32)} (hm : f_X0_changeShare F v1 v2 b_r b_y = some z) : Met l yX0_changeShare wsX0_changeShare ({ frames := 0, cells := 0, slots := 0, locals := 0 } : Room) (va_Pc [.ref (q 0), .int v1, .int v2] (cP D y (wdX0 q y b_k b_n b_h b_d b_r b_u b_y b_p_s_f b_p_s_l b_p_s_c b_p_t b_v_f b_v_l b_v_c b_L b_C b_I) sz)) (QI D y (va_A (wdX0 q y b_k b_n b_h b_d b_r b_u b_y b_p_s_f b_p_s_l b_p_s_c b_p_t b_v_f b_v_l b_v_c b_L b_C b_I) sz) (z.1) (wdX0 q y b_k b_n b_h b_d (z.2) b_u b_y b_p_s_f b_p_s_l b_p_s_c b_p_t b_v_f b_v_l b_v_c b_L b_C b_I)) 0 0 (va_A (wdX0 q y b_k b_n b_h b_d b_r b_u b_y b_p_s_f b_p_s_l b_p_s_c b_p_t b_v_f b_v_l b_v_c b_L b_C b_I) sz) := by
  refine met_of (own := RX0) (cc := cX0_changeShare) (maxL := 5) (ret := (some .boolean)) (by decide) rfl rfl (Nat.le_of_ble_eq_true rfl) ?_
  intro p e s m below meth c ls C hsz hK hP hD hA hS hl
  obtain ⟨⟨hx, hb, hml, hown, hts⟩, hr, hlocks⟩ := id C
  have hl : lv_has ls 5 [(0, .ref (q 0)), (1, .int v1), (2, .int v2)] := hl
  generalize va_A (wdX0 q y b_k b_n b_h b_d b_r b_u b_y b_p_s_f b_p_s_l b_p_s_c b_p_t b_v_f b_v_l b_v_c b_L b_C b_I) sz = A at hD hA hS ⊢
  generalize ([.ref (q 0), .int v1, .int v2] : List Value).toArray = args at C hts ⊢
  unfold f_X0_changeShare at hm
  refine lv_aload_n hx hb dX0_changeShare_0 rfl (lv_at hl 0 rfl) ?_
  refine va_get (D := D) (ci := 0) (v := .ref (q 7)) (C := RX0) (T := TX0) (N := 12) hx hb hts n_X0_changeShare_X0 hown hK hP 0 rfl rfl 6 (by decide) (hts _ w_X0_changeShare_f31) (fun _ h9 => h9) rfl dX0_changeShare_1 ?_
  refine lv_iload_n hx hb dX0_changeShare_4 rfl (lv_at hl 1 rfl) ?_
  obtain ⟨hg_1, hm⟩ := mg_of hm
  refine va_iald hx hb hK hP 7 0 rfl rfl hg_1 dX0_changeShare_5 ?_
  refine lv_topi (fun v3_2 ev3_2 => ?_)
  have hm := mn_of ev3_2 hm
  refine lv_istore_n (lv' := [(3, .int v3_2), (0, .ref (q 0)), (1, .int v1), (2, .int v2)]) hx hb dX0_changeShare_6 rfl hl (by decide) rfl (fun ls hl => ?_)
  refine lv_aload_n hx hb dX0_changeShare_7 rfl (lv_at hl 1 rfl) ?_
  refine va_get (D := D) (ci := 0) (v := .ref (q 5)) (C := RX0) (T := TX0) (N := 12) hx hb hts n_X0_changeShare_X0 hown hK hP 0 rfl rfl 4 (by decide) (hts _ w_X0_changeShare_f25) (fun _ h9 => h9) rfl dX0_changeShare_8 ?_
  refine lv_iload_n hx hb dX0_changeShare_11 rfl (lv_at hl 0 rfl) ?_
  obtain ⟨hg_3, hm⟩ := mg_of hm
  refine va_iald hx hb hK hP 5 0 rfl rfl hg_3 dX0_changeShare_12 ?_
  refine lv_iload_n hx hb dX0_changeShare_13 rfl (lv_at hl 3 rfl) ?_
  refine lv_icmp_eq (tgt := 21) hx hb dX0_changeShare_14 (by decide) (fun h_4 => ?_) (fun h_4 => ?_)
  · have hm := it_of hm h_4
    refine lv_iconst (v := (0 : Int32)) hx hb dX0_changeShare_21 (by decide) ?_
    refine lv_istore (lv' := [(4, .int (0 : Int32)), (3, .int v3_2), (0, .ref (q 0)), (1, .int v1), (2, .int v2)]) hx hb dX0_changeShare_22 hl (by decide) rfl (fun ls hl => ?_)
    refine lv_aload_n hx hb dX0_changeShare_24 rfl (lv_at hl 2 rfl) ?_
    refine va_get (D := D) (ci := 0) (v := .ref (q 5)) (C := RX0) (T := TX0) (N := 12) hx hb hts n_X0_changeShare_X0 hown hK hP 0 rfl rfl 4 (by decide) (hts _ w_X0_changeShare_f25) (fun _ h9 => h9) rfl dX0_changeShare_25 ?_
    refine lv_iload_n hx hb dX0_changeShare_28 rfl (lv_at hl 1 rfl) ?_
    refine lv_iload_n hx hb dX0_changeShare_29 rfl (lv_at hl 4 rfl) ?_
    obtain ⟨hg_5, hm⟩ := mg_of hm
    refine va_iast hx hb hK hP hD hS 5 0 rfl rfl hg_5 dX0_changeShare_30 (fun H locs hP hD hS => ?_)
    have hP : va_P D vwCl (wdX0 q y b_k b_n b_h b_d (upd b_r (v3_2).toNatClampNeg v2) b_u b_y b_p_s_f b_p_s_l b_p_s_c b_p_t b_v_f b_v_l b_v_c b_L b_C b_I) H := hP
    have hD : va_D A (wdX0 q y b_k b_n b_h b_d (upd b_r (v3_2).toNatClampNeg v2) b_u b_y b_p_s_f b_p_s_l b_p_s_c b_p_t b_v_f b_v_l b_v_c b_L b_C b_I) := hD
    refine lv_iload hx hb dX0_changeShare_31 (lv_at hl 0 rfl) ?_
    have hz := Option.some.inj hm
    subst hz
    exact end_z C hK hP hD hS (show vp_nar .boolean (0 : Int32) = (0 : Int32) from by decide) dX0_changeShare_33
  · have hm := ie_of hm h_4
    refine lv_iconst (v := (1 : Int32)) hx hb dX0_changeShare_17 (by decide) ?_
    refine lv_goto (tgt := 22) hx hb dX0_changeShare_18 (by decide) ?_
    refine lv_istore (lv' := [(4, .int (1 : Int32)), (3, .int v3_2), (0, .ref (q 0)), (1, .int v1), (2, .int v2)]) hx hb dX0_changeShare_22 hl (by decide) rfl (fun ls hl => ?_)
    refine lv_aload_n hx hb dX0_changeShare_24 rfl (lv_at hl 2 rfl) ?_
    refine va_get (D := D) (ci := 0) (v := .ref (q 5)) (C := RX0) (T := TX0) (N := 12) hx hb hts n_X0_changeShare_X0 hown hK hP 0 rfl rfl 4 (by decide) (hts _ w_X0_changeShare_f25) (fun _ h9 => h9) rfl dX0_changeShare_25 ?_
    refine lv_iload_n hx hb dX0_changeShare_28 rfl (lv_at hl 1 rfl) ?_
    refine lv_iload_n hx hb dX0_changeShare_29 rfl (lv_at hl 4 rfl) ?_
    obtain ⟨hg_6, hm⟩ := mg_of hm
    refine va_iast hx hb hK hP hD hS 5 0 rfl rfl hg_6 dX0_changeShare_30 (fun H locs hP hD hS => ?_)
    have hP : va_P D vwCl (wdX0 q y b_k b_n b_h b_d (upd b_r (v3_2).toNatClampNeg v2) b_u b_y b_p_s_f b_p_s_l b_p_s_c b_p_t b_v_f b_v_l b_v_c b_L b_C b_I) H := hP
    have hD : va_D A (wdX0 q y b_k b_n b_h b_d (upd b_r (v3_2).toNatClampNeg v2) b_u b_y b_p_s_f b_p_s_l b_p_s_c b_p_t b_v_f b_v_l b_v_c b_L b_C b_I) := hD
    refine lv_iload hx hb dX0_changeShare_31 (lv_at hl 0 rfl) ?_
    have hz := Option.some.inj hm
    subst hz
    exact end_z C hK hP hD hS (show vp_nar .boolean (1 : Int32) = (1 : Int32) from by decide) dX0_changeShare_33
def f_X0_endInThousandths (F : Nat) (v1 : Int32) (v2 : Int32) (b_h : Nat → Int32) (b_d : Nat → Int32) : Option (Int64) := (if v2 = 0 then mg (inb v1 80) (mn ((1000 : Int32) - (b_d (v1).toNatClampNeg)) (fun v3_6 => mg (inb v1 80) (some ((((b_h (v1).toNatClampNeg)).toInt64) * ((v3_6).toInt64))))) else mg (inb v1 80) (mn ((1000 : Int32) + (b_d (v1).toNatClampNeg)) (fun v3_3 => mg (inb v1 80) (some ((((b_h (v1).toNatClampNeg)).toInt64) * ((v3_3).toInt64))))))
set_option maxRecDepth 20000 in
theorem n_X0_endInThousandths_X0 : ∀ w ∈ wsX00, w ∈ wsX0_endInThousandths := by decide +kernel
set_option maxRecDepth 20000 in
theorem w_X0_endInThousandths_f22 : Cond.fieldLink RX0 22 "LayerStacks$Board" "spreads" "[I" ∈ wsX0_endInThousandths := by decide +kernel
set_option maxRecDepth 20000 in
theorem w_X0_endInThousandths_f19 : Cond.fieldLink RX0 19 "LayerStacks$Board" "thicknesses" "[I" ∈ wsX0_endInThousandths := by decide +kernel
set_option maxHeartbeats 4000000 in
set_option maxRecDepth 100000 in
theorem c_X0_endInThousandths (l : Launch) (D : va_G) (y : Nat → ClassId) (q : Nat → Nat) (sz : Nat) (F : Nat) {v1 : Int32} {v2 : Int32} {b_k : Nat → Int32} {b_n : Nat → Int64} {b_h : Nat → Int32} {b_d : Nat → Int32} {b_r : Nat → Int32} {b_u : Nat → Int32} {b_y : Nat → Int32} {b_p_s_f : Nat → Int32} {b_p_s_l : Nat → Int32} {b_p_s_c : Int32} {b_p_t : Int32} {b_v_f : Nat → Int32} {b_v_l : Nat → Int32} {b_v_c : Int32} {b_L : Int32} {b_C : Int32} {b_I : Int32} {z : Int64} (hm : f_X0_endInThousandths F v1 v2 b_h b_d = some z) : Met l yX0_endInThousandths wsX0_endInThousandths ({ frames := 0, cells := 0, slots := 0, locals := 0 } : Room) (va_Pc [.ref (q 0), .int v1, .int v2] (cP D y (wdX0 q y b_k b_n b_h b_d b_r b_u b_y b_p_s_f b_p_s_l b_p_s_c b_p_t b_v_f b_v_l b_v_c b_L b_C b_I) sz)) (QL D y (va_A (wdX0 q y b_k b_n b_h b_d b_r b_u b_y b_p_s_f b_p_s_l b_p_s_c b_p_t b_v_f b_v_l b_v_c b_L b_C b_I) sz) (z) (wdX0 q y b_k b_n b_h b_d b_r b_u b_y b_p_s_f b_p_s_l b_p_s_c b_p_t b_v_f b_v_l b_v_c b_L b_C b_I)) 0 0 (va_A (wdX0 q y b_k b_n b_h b_d b_r b_u b_y b_p_s_f b_p_s_l b_p_s_c b_p_t b_v_f b_v_l b_v_c b_L b_C b_I) sz) := by
  refine met_of (own := RX0) (cc := cX0_endInThousandths) (maxL := 4) (ret := (some .long)) (by decide) rfl rfl (Nat.le_of_ble_eq_true rfl) ?_
  intro p e s m below meth c ls C hsz hK hP hD hA hS hl
  obtain ⟨⟨hx, hb, hml, hown, hts⟩, hr, hlocks⟩ := id C
  have hl : lv_has ls 4 [(0, .ref (q 0)), (1, .int v1), (2, .int v2)] := hl
  generalize va_A (wdX0 q y b_k b_n b_h b_d b_r b_u b_y b_p_s_f b_p_s_l b_p_s_c b_p_t b_v_f b_v_l b_v_c b_L b_C b_I) sz = A at hD hA hS ⊢
  generalize ([.ref (q 0), .int v1, .int v2] : List Value).toArray = args at C hts ⊢
  unfold f_X0_endInThousandths at hm
  refine lv_iload_n hx hb dX0_endInThousandths_0 rfl (lv_at hl 2 rfl) ?_
  refine lv_if_ne (tgt := 17) hx hb dX0_endInThousandths_1 (by decide) (fun h_1 => ?_) (fun h_1 => ?_)
  · have hm := ie_of hm h_1
    refine lv_sipush (v := (1000 : Int32)) hx hb dX0_endInThousandths_17 (by decide) ?_
    refine lv_aload_n hx hb dX0_endInThousandths_20 rfl (lv_at hl 0 rfl) ?_
    refine va_get (D := D) (ci := 0) (v := .ref (q 4)) (C := RX0) (T := TX0) (N := 12) hx hb hts n_X0_endInThousandths_X0 hown hK hP 0 rfl rfl 3 (by decide) (hts _ w_X0_endInThousandths_f22) (fun _ h9 => h9) rfl dX0_endInThousandths_21 ?_
    refine lv_iload_n hx hb dX0_endInThousandths_24 rfl (lv_at hl 1 rfl) ?_
    obtain ⟨hg_2, hm⟩ := mg_of hm
    refine va_iald hx hb hK hP 4 0 rfl rfl hg_2 dX0_endInThousandths_25 ?_
    refine lv_iadd hx hb dX0_endInThousandths_26 ?_
    refine lv_topi (fun v3_3 ev3_3 => ?_)
    have hm := mn_of ev3_3 hm
    refine lv_istore_n (lv' := [(3, .int v3_3), (0, .ref (q 0)), (1, .int v1), (2, .int v2)]) hx hb dX0_endInThousandths_27 rfl hl (by decide) rfl (fun ls hl => ?_)
    refine lv_aload_n hx hb dX0_endInThousandths_28 rfl (lv_at hl 1 rfl) ?_
    refine va_get (D := D) (ci := 0) (v := .ref (q 3)) (C := RX0) (T := TX0) (N := 12) hx hb hts n_X0_endInThousandths_X0 hown hK hP 0 rfl rfl 2 (by decide) (hts _ w_X0_endInThousandths_f19) (fun _ h9 => h9) rfl dX0_endInThousandths_29 ?_
    refine lv_iload_n hx hb dX0_endInThousandths_32 rfl (lv_at hl 2 rfl) ?_
    obtain ⟨hg_4, hm⟩ := mg_of hm
    refine va_iald hx hb hK hP 3 0 rfl rfl hg_4 dX0_endInThousandths_33 ?_
    refine lv_i2l (v := ((b_h (v1).toNatClampNeg)).toInt64) hx hb dX0_endInThousandths_34 rfl ?_
    refine lv_iload_n hx hb dX0_endInThousandths_35 rfl (lv_at hl 0 rfl) ?_
    refine lv_i2l (v := (v3_3).toInt64) hx hb dX0_endInThousandths_36 rfl ?_
    refine lv_lmul hx hb dX0_endInThousandths_37 ?_
    have hz := Option.some.inj hm
    subst hz
    exact end_l C hK hP hD hS dX0_endInThousandths_38
  · have hm := it_of hm h_1
    refine lv_sipush (v := (1000 : Int32)) hx hb dX0_endInThousandths_4 (by decide) ?_
    refine lv_aload_n hx hb dX0_endInThousandths_7 rfl (lv_at hl 0 rfl) ?_
    refine va_get (D := D) (ci := 0) (v := .ref (q 4)) (C := RX0) (T := TX0) (N := 12) hx hb hts n_X0_endInThousandths_X0 hown hK hP 0 rfl rfl 3 (by decide) (hts _ w_X0_endInThousandths_f22) (fun _ h9 => h9) rfl dX0_endInThousandths_8 ?_
    refine lv_iload_n hx hb dX0_endInThousandths_11 rfl (lv_at hl 1 rfl) ?_
    obtain ⟨hg_5, hm⟩ := mg_of hm
    refine va_iald hx hb hK hP 4 0 rfl rfl hg_5 dX0_endInThousandths_12 ?_
    refine lv_isub hx hb dX0_endInThousandths_13 ?_
    refine lv_goto (tgt := 27) hx hb dX0_endInThousandths_14 (by decide) ?_
    refine lv_topi (fun v3_6 ev3_6 => ?_)
    have hm := mn_of ev3_6 hm
    refine lv_istore_n (lv' := [(3, .int v3_6), (0, .ref (q 0)), (1, .int v1), (2, .int v2)]) hx hb dX0_endInThousandths_27 rfl hl (by decide) rfl (fun ls hl => ?_)
    refine lv_aload_n hx hb dX0_endInThousandths_28 rfl (lv_at hl 1 rfl) ?_
    refine va_get (D := D) (ci := 0) (v := .ref (q 3)) (C := RX0) (T := TX0) (N := 12) hx hb hts n_X0_endInThousandths_X0 hown hK hP 0 rfl rfl 2 (by decide) (hts _ w_X0_endInThousandths_f19) (fun _ h9 => h9) rfl dX0_endInThousandths_29 ?_
    refine lv_iload_n hx hb dX0_endInThousandths_32 rfl (lv_at hl 2 rfl) ?_
    obtain ⟨hg_7, hm⟩ := mg_of hm
    refine va_iald hx hb hK hP 3 0 rfl rfl hg_7 dX0_endInThousandths_33 ?_
    refine lv_i2l (v := ((b_h (v1).toNatClampNeg)).toInt64) hx hb dX0_endInThousandths_34 rfl ?_
    refine lv_iload_n hx hb dX0_endInThousandths_35 rfl (lv_at hl 0 rfl) ?_
    refine lv_i2l (v := (v3_6).toInt64) hx hb dX0_endInThousandths_36 rfl ?_
    refine lv_lmul hx hb dX0_endInThousandths_37 ?_
    have hz := Option.some.inj hm
    subst hz
    exact end_l C hK hP hD hS dX0_endInThousandths_38
def g_X0_sumInMillionths_5 (F : Nat) : Nat → Int32 → Int64 → Int32 → (Nat → Int32) → (Nat → Int32) → (Nat → Int32) → Int32 → Option (Int64)
  | 0, _, _, _, _, _, _, _ => none
  | n + 1, v1, v2, v4, b_h, b_d, b_r, b_L => (if b_L ≤ v4 then some v2 else mb1 (f_X0_endInThousandths F v4 v1 b_h b_d) (fun r_2 => mg (inb v4 80) (mn (v2 + (r_2 * (((b_r (v4).toNatClampNeg)).toInt64))) (fun v2_5 => mn (v4 + (1 : Int32)) (fun v4_6 => g_X0_sumInMillionths_5 F n v1 v2_5 v4_6 b_h b_d b_r b_L)))))
theorem g_X0_sumInMillionths_5_z (F : Nat) (v1 : Int32) (v2 : Int64) (v4 : Int32) (b_h : Nat → Int32) (b_d : Nat → Int32) (b_r : Nat → Int32) (b_L : Int32) : g_X0_sumInMillionths_5 F 0 v1 v2 v4 b_h b_d b_r b_L = none := rfl
theorem g_X0_sumInMillionths_5_s (F : Nat) (n : Nat) (v1 : Int32) (v2 : Int64) (v4 : Int32) (b_h : Nat → Int32) (b_d : Nat → Int32) (b_r : Nat → Int32) (b_L : Int32) : g_X0_sumInMillionths_5 F (n + 1) v1 v2 v4 b_h b_d b_r b_L = (if b_L ≤ v4 then some v2 else mb1 (f_X0_endInThousandths F v4 v1 b_h b_d) (fun r_2 => mg (inb v4 80) (mn (v2 + (r_2 * (((b_r (v4).toNatClampNeg)).toInt64))) (fun v2_5 => mn (v4 + (1 : Int32)) (fun v4_6 => g_X0_sumInMillionths_5 F n v1 v2_5 v4_6 b_h b_d b_r b_L))))) := rfl
def f_X0_sumInMillionths (F : Nat) (v1 : Int32) (b_h : Nat → Int32) (b_d : Nat → Int32) (b_r : Nat → Int32) (b_L : Int32) : Option (Int64) := g_X0_sumInMillionths_5 F F v1 (0 : Int64) (0 : Int32) b_h b_d b_r b_L
set_option maxRecDepth 20000 in
theorem n_X0_sumInMillionths_X0 : ∀ w ∈ wsX00, w ∈ wsX0_sumInMillionths := by decide +kernel
set_option maxRecDepth 20000 in
theorem w_X0_sumInMillionths_f50 : Cond.fieldLink RX0 50 "LayerStacks$Board" "layers" "I" ∈ wsX0_sumInMillionths := by decide +kernel
set_option maxRecDepth 20000 in
theorem w_X0_sumInMillionths_f25 : Cond.fieldLink RX0 25 "LayerStacks$Board" "shares" "[I" ∈ wsX0_sumInMillionths := by decide +kernel
set_option maxHeartbeats 4000000 in
set_option maxRecDepth 100000 in
theorem k_X0_sumInMillionths_5 {p : Program} {l : Launch} {e : Env} {s : State} {m : MethodId} {args : Array Value} {below : List Frame} {meth : Method} {c : Code} {D : va_G} {y : Nat → ClassId} {A : Nat → Prop} {q : Nat → Nat} {b_k : Nat → Int32} {b_n : Nat → Int64} {b_u : Nat → Int32} {b_y : Nat → Int32} {b_p_s_f : Nat → Int32} {b_p_s_l : Nat → Int32} {b_p_s_c : Int32} {b_p_t : Int32} {b_v_f : Nat → Int32} {b_v_l : Nat → Int32} {b_v_c : Int32} {b_C : Int32} {b_I : Int32} {z : Int64} (C : CX p s m args meth c wsX0_sumInMillionths RX0 cX0_sumInMillionths 5 (some .long)) (hA : ∀ q : Nat, s.heap.size ≤ q → A q) (hK : va_K D vwCl (tyl y) s) (F : Nat) :
    ∀ (n : Nat), ∀ (v1 : Int32) (v2 : Int64) (v4 : Int32) (b_h : Nat → Int32) (b_d : Nat → Int32) (b_r : Nat → Int32) (b_L : Int32) (H : Heap) (locs : List Loc) (ls : Array Slot), g_X0_sumInMillionths_5 F n v1 v2 v4 b_h b_d b_r b_L = some z → va_P D vwCl (wdX0 q y b_k b_n b_h b_d b_r b_u b_y b_p_s_f b_p_s_l b_p_s_c b_p_t b_v_f b_v_l b_v_c b_L b_C b_I) H → va_D A (wdX0 q y b_k b_n b_h b_d b_r b_u b_y b_p_s_f b_p_s_l b_p_s_c b_p_t b_v_f b_v_l b_v_c b_L b_C b_I) → va_S A s.heap H locs → lv_has ls 5 [(0, .ref (q 0)), (1, .int v1), (2, .long v2), (4, .int v4)] → W p l e ({ frames := 1, cells := 0, slots := 0, locals := 23 } : Room) s m args below meth c H locs 0 0 (MQ below (QL D y A (z) (wdX0 q y b_k b_n b_h b_d b_r b_u b_y b_p_s_f b_p_s_l b_p_s_c b_p_t b_v_f b_v_l b_v_c b_L b_C b_I)) args s 0 0 A) (F0 m 5 ls []) := by
  obtain ⟨⟨hx, hb, hml, hown, hts⟩, hr, hlocks⟩ := id C
  intro n
  induction n with
  | zero =>
    intro v1 v2 v4 b_h b_d b_r b_L H locs ls hm
    rw [g_X0_sumInMillionths_5_z] at hm
    cases hm
  | succ n ih =>
    intro v1 v2 v4 b_h b_d b_r b_L H locs ls hm hP hD hS hl
    rw [g_X0_sumInMillionths_5_s] at hm
    refine lv_iload hx hb dX0_sumInMillionths_5 (lv_at hl 3 rfl) ?_
    refine lv_aload_n hx hb dX0_sumInMillionths_7 rfl (lv_at hl 0 rfl) ?_
    refine va_get (D := D) (ci := 0) (v := .int b_L) (C := RX0) (T := TX0) (N := 12) hx hb hts n_X0_sumInMillionths_X0 hown hK hP 0 rfl rfl 9 (by decide) (hts _ w_X0_sumInMillionths_f50) (fun _ h9 => h9) rfl dX0_sumInMillionths_8 ?_
    refine lv_icmp_ge (tgt := 39) hx hb dX0_sumInMillionths_11 (by decide) (fun h_1 => ?_) (fun h_1 => ?_)
    · have hm := it_of hm h_1
      refine lv_lload_n hx hb dX0_sumInMillionths_39 rfl (lv_at hl 2 rfl) ?_
      have hz := Option.some.inj hm
      subst hz
      exact end_l C hK hP hD hS dX0_sumInMillionths_40
    · have hm := ie_of hm h_1
      refine lv_lload_n hx hb dX0_sumInMillionths_14 rfl (lv_at hl 2 rfl) ?_
      refine lv_aload_n hx hb dX0_sumInMillionths_15 rfl (lv_at hl 0 rfl) ?_
      refine lv_iload hx hb dX0_sumInMillionths_16 (lv_at hl 3 rfl) ?_
      refine lv_iload_n hx hb dX0_sumInMillionths_18 rfl (lv_at hl 1 rfl) ?_
      obtain ⟨r_2, hc_3, hm⟩ := mb1_of hm
      refine call_vl (wc := (wdX0 q y b_k b_n b_h b_d b_r b_u b_y b_p_s_f b_p_s_l b_p_s_c b_p_t b_v_f b_v_l b_v_c b_L b_C b_I)) (wr := []) (As := [.int v4, .int v1]) (rest := [.long v2]) C (c_X0_endInThousandths l D y q _ F hc_3) (cwV 2 hts gX0_sumInMillionths_X0_endInThousandths rfl rfl rfl (by decide +kernel) ⟨Nat.le_of_ble_eq_true rfl, Nat.le_of_ble_eq_true rfl⟩) hK hP hD hS hA [0, 1, 2, 3, 4, 5, 6, 7, 8, 9, 10, 11, 12, 13, 14] [] rfl rfl rfl rfl rfl (by decide) rfl rfl rfl rfl hl.1 (Nat.le_of_ble_eq_true rfl) dX0_sumInMillionths_19 (fun H locs hP hD hS => ?_)
      have hP : va_P D vwCl (wdX0 q y b_k b_n b_h b_d b_r b_u b_y b_p_s_f b_p_s_l b_p_s_c b_p_t b_v_f b_v_l b_v_c b_L b_C b_I) H := hP
      have hD : va_D A (wdX0 q y b_k b_n b_h b_d b_r b_u b_y b_p_s_f b_p_s_l b_p_s_c b_p_t b_v_f b_v_l b_v_c b_L b_C b_I) := hD
      refine lv_aload_n hx hb dX0_sumInMillionths_22 rfl (lv_at hl 0 rfl) ?_
      refine va_get (D := D) (ci := 0) (v := .ref (q 5)) (C := RX0) (T := TX0) (N := 12) hx hb hts n_X0_sumInMillionths_X0 hown hK hP 0 rfl rfl 4 (by decide) (hts _ w_X0_sumInMillionths_f25) (fun _ h9 => h9) rfl dX0_sumInMillionths_23 ?_
      refine lv_iload hx hb dX0_sumInMillionths_26 (lv_at hl 3 rfl) ?_
      obtain ⟨hg_4, hm⟩ := mg_of hm
      refine va_iald hx hb hK hP 5 0 rfl rfl hg_4 dX0_sumInMillionths_28 ?_
      refine lv_i2l (v := ((b_r (v4).toNatClampNeg)).toInt64) hx hb dX0_sumInMillionths_29 rfl ?_
      refine lv_lmul hx hb dX0_sumInMillionths_30 ?_
      refine lv_ladd hx hb dX0_sumInMillionths_31 ?_
      refine lv_topl (fun v2_5 ev2_5 => ?_)
      have hm := mn_of ev2_5 hm
      refine lv_lstore_n (lv' := [(2, .long v2_5), (0, .ref (q 0)), (1, .int v1), (4, .int v4)]) hx hb dX0_sumInMillionths_32 rfl hl (by decide) rfl (fun ls hl => ?_)
      obtain ⟨v4_6, ev4_6⟩ : ∃ y9 : Int32, y9 = (v4 + (1 : Int32)) := ⟨_, rfl⟩
      have hm := mn_of ev4_6 hm
      refine lv_iinc (v := v4_6) (lv' := [(4, .int v4_6), (2, .long v2_5), (0, .ref (q 0)), (1, .int v1)]) hx hb dX0_sumInMillionths_33 hl (k := 3) rfl (by rw [ev4_6]; rfl) (by decide) rfl (fun ls hl => ?_)
      refine lv_goto (tgt := 5) hx hb dX0_sumInMillionths_36 (by decide) ?_
      exact ih v1 v2_5 v4_6 b_h b_d b_r b_L _ _ _ hm hP hD hS (lv_sub hl [2, 3, 1, 0] rfl)
set_option maxHeartbeats 4000000 in
set_option maxRecDepth 100000 in
theorem c_X0_sumInMillionths (l : Launch) (D : va_G) (y : Nat → ClassId) (q : Nat → Nat) (sz : Nat) (F : Nat) {v1 : Int32} {b_k : Nat → Int32} {b_n : Nat → Int64} {b_h : Nat → Int32} {b_d : Nat → Int32} {b_r : Nat → Int32} {b_u : Nat → Int32} {b_y : Nat → Int32} {b_p_s_f : Nat → Int32} {b_p_s_l : Nat → Int32} {b_p_s_c : Int32} {b_p_t : Int32} {b_v_f : Nat → Int32} {b_v_l : Nat → Int32} {b_v_c : Int32} {b_L : Int32} {b_C : Int32} {b_I : Int32} {z : Int64} (hm : f_X0_sumInMillionths F v1 b_h b_d b_r b_L = some z) : Met l yX0_sumInMillionths wsX0_sumInMillionths ({ frames := 1, cells := 0, slots := 0, locals := 23 } : Room) (va_Pc [.ref (q 0), .int v1] (cP D y (wdX0 q y b_k b_n b_h b_d b_r b_u b_y b_p_s_f b_p_s_l b_p_s_c b_p_t b_v_f b_v_l b_v_c b_L b_C b_I) sz)) (QL D y (va_A (wdX0 q y b_k b_n b_h b_d b_r b_u b_y b_p_s_f b_p_s_l b_p_s_c b_p_t b_v_f b_v_l b_v_c b_L b_C b_I) sz) (z) (wdX0 q y b_k b_n b_h b_d b_r b_u b_y b_p_s_f b_p_s_l b_p_s_c b_p_t b_v_f b_v_l b_v_c b_L b_C b_I)) 0 0 (va_A (wdX0 q y b_k b_n b_h b_d b_r b_u b_y b_p_s_f b_p_s_l b_p_s_c b_p_t b_v_f b_v_l b_v_c b_L b_C b_I) sz) := by
  refine met_of (own := RX0) (cc := cX0_sumInMillionths) (maxL := 5) (ret := (some .long)) (by decide) rfl rfl (Nat.le_of_ble_eq_true rfl) ?_
  intro p e s m below meth c ls C hsz hK hP hD hA hS hl
  obtain ⟨⟨hx, hb, hml, hown, hts⟩, hr, hlocks⟩ := id C
  have hl : lv_has ls 5 [(0, .ref (q 0)), (1, .int v1)] := hl
  generalize va_A (wdX0 q y b_k b_n b_h b_d b_r b_u b_y b_p_s_f b_p_s_l b_p_s_c b_p_t b_v_f b_v_l b_v_c b_L b_C b_I) sz = A at hD hA hS ⊢
  generalize ([.ref (q 0), .int v1] : List Value).toArray = args at C hts ⊢
  unfold f_X0_sumInMillionths at hm
  refine lv_lconst (v := (0 : Int64)) hx hb dX0_sumInMillionths_0 (by decide) ?_
  refine lv_lstore_n (lv' := [(2, .long (0 : Int64)), (0, .ref (q 0)), (1, .int v1)]) hx hb dX0_sumInMillionths_1 rfl hl (by decide) rfl (fun ls hl => ?_)
  refine lv_iconst (v := (0 : Int32)) hx hb dX0_sumInMillionths_2 (by decide) ?_
  refine lv_istore (lv' := [(4, .int (0 : Int32)), (2, .long (0 : Int64)), (0, .ref (q 0)), (1, .int v1)]) hx hb dX0_sumInMillionths_3 hl (by decide) rfl (fun ls hl => ?_)
  exact k_X0_sumInMillionths_5 C hA hK F F v1 (0 : Int64) (0 : Int32) b_h b_d b_r b_L _ _ _ hm hP hD hS (lv_sub hl [2, 3, 1, 0] rfl)
def g_X0_differ_40 (F : Nat) (v1 : Int32) (v2 : Int32) (b_h : Nat → Int32) (b_d : Nat → Int32) (b_r : Nat → Int32) : Option (Int32) := mg (inb v1 80) (mg (inb v2 80) ((if (b_h (v1).toNatClampNeg) = (b_h (v2).toNatClampNeg) then mg (inb v1 80) (mg (inb v2 80) ((if (b_d (v1).toNatClampNeg) = (b_d (v2).toNatClampNeg) then mg (inb v1 80) (mg (inb v2 80) ((if (b_r (v1).toNatClampNeg) = (b_r (v2).toNatClampNeg) then some (0 : Int32) else some (1 : Int32)))) else some (1 : Int32)))) else some (1 : Int32))))
def f_X0_differ (F : Nat) (v1 : Int32) (v2 : Int32) (b_k : Nat → Int32) (b_n : Nat → Int64) (b_h : Nat → Int32) (b_d : Nat → Int32) (b_r : Nat → Int32) : Option (Int32) := mg (inb v1 80) (mg (inb v2 80) ((if (b_k (v1).toNatClampNeg) = (b_k (v2).toNatClampNeg) then mg (inb v1 80) ((if (b_k (v1).toNatClampNeg) = 0 then g_X0_differ_40 F v1 v2 b_h b_d b_r else mg (inb v1 80) (mg (inb v2 80) ((if (lg_cmp (b_n (v1).toNatClampNeg) (b_n (v2).toNatClampNeg)) = 0 then g_X0_differ_40 F v1 v2 b_h b_d b_r else some (1 : Int32)))))) else some (1 : Int32))))
set_option maxRecDepth 20000 in
theorem n_X0_differ_X0 : ∀ w ∈ wsX00, w ∈ wsX0_differ := by decide +kernel
set_option maxRecDepth 20000 in
theorem w_X0_differ_f19 : Cond.fieldLink RX0 19 "LayerStacks$Board" "thicknesses" "[I" ∈ wsX0_differ := by decide +kernel
set_option maxRecDepth 20000 in
theorem w_X0_differ_f22 : Cond.fieldLink RX0 22 "LayerStacks$Board" "spreads" "[I" ∈ wsX0_differ := by decide +kernel
set_option maxRecDepth 20000 in
theorem w_X0_differ_f25 : Cond.fieldLink RX0 25 "LayerStacks$Board" "shares" "[I" ∈ wsX0_differ := by decide +kernel
set_option maxRecDepth 20000 in
theorem w_X0_differ_f9 : Cond.fieldLink RX0 9 "LayerStacks$Board" "kinds" "[I" ∈ wsX0_differ := by decide +kernel
set_option maxRecDepth 20000 in
theorem w_X0_differ_f15 : Cond.fieldLink RX0 15 "LayerStacks$Board" "names" "[J" ∈ wsX0_differ := by decide +kernel
set_option maxHeartbeats 4000000 in
set_option maxRecDepth 100000 in
theorem k_X0_differ_40 {p : Program} {l : Launch} {e : Env} {s : State} {m : MethodId} {args : Array Value} {below : List Frame} {meth : Method} {c : Code} {D : va_G} {y : Nat → ClassId} {A : Nat → Prop} {q : Nat → Nat} {b_k : Nat → Int32} {b_n : Nat → Int64} {b_u : Nat → Int32} {b_y : Nat → Int32} {b_p_s_f : Nat → Int32} {b_p_s_l : Nat → Int32} {b_p_s_c : Int32} {b_p_t : Int32} {b_v_f : Nat → Int32} {b_v_l : Nat → Int32} {b_v_c : Int32} {b_L : Int32} {b_C : Int32} {b_I : Int32} {z : Int32} (C : CX p s m args meth c wsX0_differ RX0 cX0_differ 3 (some .boolean)) (hA : ∀ q : Nat, s.heap.size ≤ q → A q) (hK : va_K D vwCl (tyl y) s) (F : Nat) :
    ∀ (v1 : Int32) (v2 : Int32) (b_h : Nat → Int32) (b_d : Nat → Int32) (b_r : Nat → Int32) (H : Heap) (locs : List Loc) (ls : Array Slot), g_X0_differ_40 F v1 v2 b_h b_d b_r = some z → va_P D vwCl (wdX0 q y b_k b_n b_h b_d b_r b_u b_y b_p_s_f b_p_s_l b_p_s_c b_p_t b_v_f b_v_l b_v_c b_L b_C b_I) H → va_D A (wdX0 q y b_k b_n b_h b_d b_r b_u b_y b_p_s_f b_p_s_l b_p_s_c b_p_t b_v_f b_v_l b_v_c b_L b_C b_I) → va_S A s.heap H locs → lv_has ls 3 [(0, .ref (q 0)), (1, .int v1), (2, .int v2)] → W p l e ({ frames := 0, cells := 0, slots := 0, locals := 0 } : Room) s m args below meth c H locs 0 0 (MQ below (QI D y A (z) (wdX0 q y b_k b_n b_h b_d b_r b_u b_y b_p_s_f b_p_s_l b_p_s_c b_p_t b_v_f b_v_l b_v_c b_L b_C b_I)) args s 0 0 A) (F0 m 40 ls []) := by
  obtain ⟨⟨hx, hb, hml, hown, hts⟩, hr, hlocks⟩ := id C
  intro v1 v2 b_h b_d b_r H locs ls hm hP hD hS hl
  unfold g_X0_differ_40 at hm
  refine lv_aload_n hx hb dX0_differ_40 rfl (lv_at hl 0 rfl) ?_
  refine va_get (D := D) (ci := 0) (v := .ref (q 3)) (C := RX0) (T := TX0) (N := 12) hx hb hts n_X0_differ_X0 hown hK hP 0 rfl rfl 2 (by decide) (hts _ w_X0_differ_f19) (fun _ h9 => h9) rfl dX0_differ_41 ?_
  refine lv_iload_n hx hb dX0_differ_44 rfl (lv_at hl 1 rfl) ?_
  obtain ⟨hg_1, hm⟩ := mg_of hm
  refine va_iald hx hb hK hP 3 0 rfl rfl hg_1 dX0_differ_45 ?_
  refine lv_aload_n hx hb dX0_differ_46 rfl (lv_at hl 0 rfl) ?_
  refine va_get (D := D) (ci := 0) (v := .ref (q 3)) (C := RX0) (T := TX0) (N := 12) hx hb hts n_X0_differ_X0 hown hK hP 0 rfl rfl 2 (by decide) (hts _ w_X0_differ_f19) (fun _ h9 => h9) rfl dX0_differ_47 ?_
  refine lv_iload_n hx hb dX0_differ_50 rfl (lv_at hl 2 rfl) ?_
  obtain ⟨hg_2, hm⟩ := mg_of hm
  refine va_iald hx hb hK hP 3 0 rfl rfl hg_2 dX0_differ_51 ?_
  refine lv_icmp_ne (tgt := 85) hx hb dX0_differ_52 (by decide) (fun h_3 => ?_) (fun h_3 => ?_)
  · have hm := ie_of hm h_3
    refine lv_iconst (v := (1 : Int32)) hx hb dX0_differ_85 (by decide) ?_
    refine lv_goto (tgt := 90) hx hb dX0_differ_86 (by decide) ?_
    have hz := Option.some.inj hm
    subst hz
    exact end_z C hK hP hD hS (show vp_nar .boolean (1 : Int32) = (1 : Int32) from by decide) dX0_differ_90
  · have hm := it_of hm h_3
    refine lv_aload_n hx hb dX0_differ_55 rfl (lv_at hl 0 rfl) ?_
    refine va_get (D := D) (ci := 0) (v := .ref (q 4)) (C := RX0) (T := TX0) (N := 12) hx hb hts n_X0_differ_X0 hown hK hP 0 rfl rfl 3 (by decide) (hts _ w_X0_differ_f22) (fun _ h9 => h9) rfl dX0_differ_56 ?_
    refine lv_iload_n hx hb dX0_differ_59 rfl (lv_at hl 1 rfl) ?_
    obtain ⟨hg_4, hm⟩ := mg_of hm
    refine va_iald hx hb hK hP 4 0 rfl rfl hg_4 dX0_differ_60 ?_
    refine lv_aload_n hx hb dX0_differ_61 rfl (lv_at hl 0 rfl) ?_
    refine va_get (D := D) (ci := 0) (v := .ref (q 4)) (C := RX0) (T := TX0) (N := 12) hx hb hts n_X0_differ_X0 hown hK hP 0 rfl rfl 3 (by decide) (hts _ w_X0_differ_f22) (fun _ h9 => h9) rfl dX0_differ_62 ?_
    refine lv_iload_n hx hb dX0_differ_65 rfl (lv_at hl 2 rfl) ?_
    obtain ⟨hg_5, hm⟩ := mg_of hm
    refine va_iald hx hb hK hP 4 0 rfl rfl hg_5 dX0_differ_66 ?_
    refine lv_icmp_ne (tgt := 85) hx hb dX0_differ_67 (by decide) (fun h_6 => ?_) (fun h_6 => ?_)
    · have hm := ie_of hm h_6
      refine lv_iconst (v := (1 : Int32)) hx hb dX0_differ_85 (by decide) ?_
      refine lv_goto (tgt := 90) hx hb dX0_differ_86 (by decide) ?_
      have hz := Option.some.inj hm
      subst hz
      exact end_z C hK hP hD hS (show vp_nar .boolean (1 : Int32) = (1 : Int32) from by decide) dX0_differ_90
    · have hm := it_of hm h_6
      refine lv_aload_n hx hb dX0_differ_70 rfl (lv_at hl 0 rfl) ?_
      refine va_get (D := D) (ci := 0) (v := .ref (q 5)) (C := RX0) (T := TX0) (N := 12) hx hb hts n_X0_differ_X0 hown hK hP 0 rfl rfl 4 (by decide) (hts _ w_X0_differ_f25) (fun _ h9 => h9) rfl dX0_differ_71 ?_
      refine lv_iload_n hx hb dX0_differ_74 rfl (lv_at hl 1 rfl) ?_
      obtain ⟨hg_7, hm⟩ := mg_of hm
      refine va_iald hx hb hK hP 5 0 rfl rfl hg_7 dX0_differ_75 ?_
      refine lv_aload_n hx hb dX0_differ_76 rfl (lv_at hl 0 rfl) ?_
      refine va_get (D := D) (ci := 0) (v := .ref (q 5)) (C := RX0) (T := TX0) (N := 12) hx hb hts n_X0_differ_X0 hown hK hP 0 rfl rfl 4 (by decide) (hts _ w_X0_differ_f25) (fun _ h9 => h9) rfl dX0_differ_77 ?_
      refine lv_iload_n hx hb dX0_differ_80 rfl (lv_at hl 2 rfl) ?_
      obtain ⟨hg_8, hm⟩ := mg_of hm
      refine va_iald hx hb hK hP 5 0 rfl rfl hg_8 dX0_differ_81 ?_
      refine lv_icmp_eq (tgt := 89) hx hb dX0_differ_82 (by decide) (fun h_9 => ?_) (fun h_9 => ?_)
      · have hm := it_of hm h_9
        refine lv_iconst (v := (0 : Int32)) hx hb dX0_differ_89 (by decide) ?_
        have hz := Option.some.inj hm
        subst hz
        exact end_z C hK hP hD hS (show vp_nar .boolean (0 : Int32) = (0 : Int32) from by decide) dX0_differ_90
      · have hm := ie_of hm h_9
        refine lv_iconst (v := (1 : Int32)) hx hb dX0_differ_85 (by decide) ?_
        refine lv_goto (tgt := 90) hx hb dX0_differ_86 (by decide) ?_
        have hz := Option.some.inj hm
        subst hz
        exact end_z C hK hP hD hS (show vp_nar .boolean (1 : Int32) = (1 : Int32) from by decide) dX0_differ_90
set_option maxHeartbeats 4000000 in
set_option maxRecDepth 100000 in
theorem c_X0_differ (l : Launch) (D : va_G) (y : Nat → ClassId) (q : Nat → Nat) (sz : Nat) (F : Nat) {v1 : Int32} {v2 : Int32} {b_k : Nat → Int32} {b_n : Nat → Int64} {b_h : Nat → Int32} {b_d : Nat → Int32} {b_r : Nat → Int32} {b_u : Nat → Int32} {b_y : Nat → Int32} {b_p_s_f : Nat → Int32} {b_p_s_l : Nat → Int32} {b_p_s_c : Int32} {b_p_t : Int32} {b_v_f : Nat → Int32} {b_v_l : Nat → Int32} {b_v_c : Int32} {b_L : Int32} {b_C : Int32} {b_I : Int32} {z : Int32} (hm : f_X0_differ F v1 v2 b_k b_n b_h b_d b_r = some z) : Met l yX0_differ wsX0_differ ({ frames := 0, cells := 0, slots := 0, locals := 0 } : Room) (va_Pc [.ref (q 0), .int v1, .int v2] (cP D y (wdX0 q y b_k b_n b_h b_d b_r b_u b_y b_p_s_f b_p_s_l b_p_s_c b_p_t b_v_f b_v_l b_v_c b_L b_C b_I) sz)) (QI D y (va_A (wdX0 q y b_k b_n b_h b_d b_r b_u b_y b_p_s_f b_p_s_l b_p_s_c b_p_t b_v_f b_v_l b_v_c b_L b_C b_I) sz) (z) (wdX0 q y b_k b_n b_h b_d b_r b_u b_y b_p_s_f b_p_s_l b_p_s_c b_p_t b_v_f b_v_l b_v_c b_L b_C b_I)) 0 0 (va_A (wdX0 q y b_k b_n b_h b_d b_r b_u b_y b_p_s_f b_p_s_l b_p_s_c b_p_t b_v_f b_v_l b_v_c b_L b_C b_I) sz) := by
  refine met_of (own := RX0) (cc := cX0_differ) (maxL := 3) (ret := (some .boolean)) (by decide) rfl rfl (Nat.le_of_ble_eq_true rfl) ?_
  intro p e s m below meth c ls C hsz hK hP hD hA hS hl
  obtain ⟨⟨hx, hb, hml, hown, hts⟩, hr, hlocks⟩ := id C
  have hl : lv_has ls 3 [(0, .ref (q 0)), (1, .int v1), (2, .int v2)] := hl
  generalize va_A (wdX0 q y b_k b_n b_h b_d b_r b_u b_y b_p_s_f b_p_s_l b_p_s_c b_p_t b_v_f b_v_l b_v_c b_L b_C b_I) sz = A at hD hA hS ⊢
  generalize ([.ref (q 0), .int v1, .int v2] : List Value).toArray = args at C hts ⊢
  unfold f_X0_differ at hm
  refine lv_aload_n hx hb dX0_differ_0 rfl (lv_at hl 0 rfl) ?_
  refine va_get (D := D) (ci := 0) (v := .ref (q 1)) (C := RX0) (T := TX0) (N := 12) hx hb hts n_X0_differ_X0 hown hK hP 0 rfl rfl 0 (by decide) (hts _ w_X0_differ_f9) (fun _ h9 => h9) rfl dX0_differ_1 ?_
  refine lv_iload_n hx hb dX0_differ_4 rfl (lv_at hl 1 rfl) ?_
  obtain ⟨hg_1, hm⟩ := mg_of hm
  refine va_iald hx hb hK hP 1 0 rfl rfl hg_1 dX0_differ_5 ?_
  refine lv_aload_n hx hb dX0_differ_6 rfl (lv_at hl 0 rfl) ?_
  refine va_get (D := D) (ci := 0) (v := .ref (q 1)) (C := RX0) (T := TX0) (N := 12) hx hb hts n_X0_differ_X0 hown hK hP 0 rfl rfl 0 (by decide) (hts _ w_X0_differ_f9) (fun _ h9 => h9) rfl dX0_differ_7 ?_
  refine lv_iload_n hx hb dX0_differ_10 rfl (lv_at hl 2 rfl) ?_
  obtain ⟨hg_2, hm⟩ := mg_of hm
  refine va_iald hx hb hK hP 1 0 rfl rfl hg_2 dX0_differ_11 ?_
  refine lv_icmp_ne (tgt := 85) hx hb dX0_differ_12 (by decide) (fun h_3 => ?_) (fun h_3 => ?_)
  · have hm := ie_of hm h_3
    refine lv_iconst (v := (1 : Int32)) hx hb dX0_differ_85 (by decide) ?_
    refine lv_goto (tgt := 90) hx hb dX0_differ_86 (by decide) ?_
    have hz := Option.some.inj hm
    subst hz
    exact end_z C hK hP hD hS (show vp_nar .boolean (1 : Int32) = (1 : Int32) from by decide) dX0_differ_90
  · have hm := it_of hm h_3
    refine lv_aload_n hx hb dX0_differ_15 rfl (lv_at hl 0 rfl) ?_
    refine va_get (D := D) (ci := 0) (v := .ref (q 1)) (C := RX0) (T := TX0) (N := 12) hx hb hts n_X0_differ_X0 hown hK hP 0 rfl rfl 0 (by decide) (hts _ w_X0_differ_f9) (fun _ h9 => h9) rfl dX0_differ_16 ?_
    refine lv_iload_n hx hb dX0_differ_19 rfl (lv_at hl 1 rfl) ?_
    obtain ⟨hg_4, hm⟩ := mg_of hm
    refine va_iald hx hb hK hP 1 0 rfl rfl hg_4 dX0_differ_20 ?_
    refine lv_if_eq (tgt := 40) hx hb dX0_differ_21 (by decide) (fun h_5 => ?_) (fun h_5 => ?_)
    · have hm := it_of hm h_5
      exact k_X0_differ_40 C hA hK F v1 v2 b_h b_d b_r _ _ _ hm hP hD hS (lv_sub hl [0, 1, 2] rfl)
    · have hm := ie_of hm h_5
      refine lv_aload_n hx hb dX0_differ_24 rfl (lv_at hl 0 rfl) ?_
      refine va_get (D := D) (ci := 0) (v := .ref (q 2)) (C := RX0) (T := TX0) (N := 12) hx hb hts n_X0_differ_X0 hown hK hP 0 rfl rfl 1 (by decide) (hts _ w_X0_differ_f15) (fun _ h9 => h9) rfl dX0_differ_25 ?_
      refine lv_iload_n hx hb dX0_differ_28 rfl (lv_at hl 1 rfl) ?_
      obtain ⟨hg_6, hm⟩ := mg_of hm
      refine va_lald hx hb hK hP 2 1 rfl rfl hg_6 dX0_differ_29 ?_
      refine lv_aload_n hx hb dX0_differ_30 rfl (lv_at hl 0 rfl) ?_
      refine va_get (D := D) (ci := 0) (v := .ref (q 2)) (C := RX0) (T := TX0) (N := 12) hx hb hts n_X0_differ_X0 hown hK hP 0 rfl rfl 1 (by decide) (hts _ w_X0_differ_f15) (fun _ h9 => h9) rfl dX0_differ_31 ?_
      refine lv_iload_n hx hb dX0_differ_34 rfl (lv_at hl 2 rfl) ?_
      obtain ⟨hg_7, hm⟩ := mg_of hm
      refine va_lald hx hb hK hP 2 1 rfl rfl hg_7 dX0_differ_35 ?_
      refine W.lcmp hx hb dX0_differ_36 ?_
      refine lv_if_ne (tgt := 85) hx hb dX0_differ_37 (by decide) (fun h_8 => ?_) (fun h_8 => ?_)
      · have hm := ie_of hm h_8
        refine lv_iconst (v := (1 : Int32)) hx hb dX0_differ_85 (by decide) ?_
        refine lv_goto (tgt := 90) hx hb dX0_differ_86 (by decide) ?_
        have hz := Option.some.inj hm
        subst hz
        exact end_z C hK hP hD hS (show vp_nar .boolean (1 : Int32) = (1 : Int32) from by decide) dX0_differ_90
      · have hm := it_of hm h_8
        exact k_X0_differ_40 C hA hK F v1 v2 b_h b_d b_r _ _ _ hm hP hD hS (lv_sub hl [0, 1, 2] rfl)
def g_X0_findSkew_4 (F : Nat) : Nat → Int32 → Int32 → Int32 → (Nat → Int32) → (Nat → Int64) → (Nat → Int32) → (Nat → Int32) → (Nat → Int32) → Int32 → Option (Int32)
  | 0, _, _, _, _, _, _, _, _, _ => none
  | n + 1, v1, v2, v3, b_k, b_n, b_h, b_d, b_r, b_L => (if b_L ≤ v3 then some (-1 : Int32) else mb1 (f_X0_differ F v3 ((b_L - (1 : Int32)) - v3) b_k b_n b_h b_d b_r) (fun r_2 => (if r_2 = 0 then mn (v3 + (1 : Int32)) (fun v3_5 => g_X0_findSkew_4 F n v1 v2 v3_5 b_k b_n b_h b_d b_r b_L) else (if v2 = v1 then some v3 else mn (v2 + (1 : Int32)) (fun v2_7 => mn (v3 + (1 : Int32)) (fun v3_8 => g_X0_findSkew_4 F n v1 v2_7 v3_8 b_k b_n b_h b_d b_r b_L))))))
theorem g_X0_findSkew_4_z (F : Nat) (v1 : Int32) (v2 : Int32) (v3 : Int32) (b_k : Nat → Int32) (b_n : Nat → Int64) (b_h : Nat → Int32) (b_d : Nat → Int32) (b_r : Nat → Int32) (b_L : Int32) : g_X0_findSkew_4 F 0 v1 v2 v3 b_k b_n b_h b_d b_r b_L = none := rfl
theorem g_X0_findSkew_4_s (F : Nat) (n : Nat) (v1 : Int32) (v2 : Int32) (v3 : Int32) (b_k : Nat → Int32) (b_n : Nat → Int64) (b_h : Nat → Int32) (b_d : Nat → Int32) (b_r : Nat → Int32) (b_L : Int32) : g_X0_findSkew_4 F (n + 1) v1 v2 v3 b_k b_n b_h b_d b_r b_L = (if b_L ≤ v3 then some (-1 : Int32) else mb1 (f_X0_differ F v3 ((b_L - (1 : Int32)) - v3) b_k b_n b_h b_d b_r) (fun r_2 => (if r_2 = 0 then mn (v3 + (1 : Int32)) (fun v3_5 => g_X0_findSkew_4 F n v1 v2 v3_5 b_k b_n b_h b_d b_r b_L) else (if v2 = v1 then some v3 else mn (v2 + (1 : Int32)) (fun v2_7 => mn (v3 + (1 : Int32)) (fun v3_8 => g_X0_findSkew_4 F n v1 v2_7 v3_8 b_k b_n b_h b_d b_r b_L)))))) := rfl
def f_X0_findSkew (F : Nat) (v1 : Int32) (b_k : Nat → Int32) (b_n : Nat → Int64) (b_h : Nat → Int32) (b_d : Nat → Int32) (b_r : Nat → Int32) (b_L : Int32) : Option (Int32) := g_X0_findSkew_4 F F v1 (0 : Int32) (0 : Int32) b_k b_n b_h b_d b_r b_L
set_option maxRecDepth 20000 in
theorem n_X0_findSkew_X0 : ∀ w ∈ wsX00, w ∈ wsX0_findSkew := by decide +kernel
set_option maxRecDepth 20000 in
theorem w_X0_findSkew_f50 : Cond.fieldLink RX0 50 "LayerStacks$Board" "layers" "I" ∈ wsX0_findSkew := by decide +kernel
set_option maxHeartbeats 4000000 in
set_option maxRecDepth 100000 in
theorem k_X0_findSkew_4 {p : Program} {l : Launch} {e : Env} {s : State} {m : MethodId} {args : Array Value} {below : List Frame} {meth : Method} {c : Code} {D : va_G} {y : Nat → ClassId} {A : Nat → Prop} {q : Nat → Nat} {b_u : Nat → Int32} {b_y : Nat → Int32} {b_p_s_f : Nat → Int32} {b_p_s_l : Nat → Int32} {b_p_s_c : Int32} {b_p_t : Int32} {b_v_f : Nat → Int32} {b_v_l : Nat → Int32} {b_v_c : Int32} {b_C : Int32} {b_I : Int32} {z : Int32} (C : CX p s m args meth c wsX0_findSkew RX0 cX0_findSkew 4 (some .int)) (hA : ∀ q : Nat, s.heap.size ≤ q → A q) (hK : va_K D vwCl (tyl y) s) (F : Nat) :
    ∀ (n : Nat), ∀ (v1 : Int32) (v2 : Int32) (v3 : Int32) (b_k : Nat → Int32) (b_n : Nat → Int64) (b_h : Nat → Int32) (b_d : Nat → Int32) (b_r : Nat → Int32) (b_L : Int32) (H : Heap) (locs : List Loc) (ls : Array Slot), g_X0_findSkew_4 F n v1 v2 v3 b_k b_n b_h b_d b_r b_L = some z → va_P D vwCl (wdX0 q y b_k b_n b_h b_d b_r b_u b_y b_p_s_f b_p_s_l b_p_s_c b_p_t b_v_f b_v_l b_v_c b_L b_C b_I) H → va_D A (wdX0 q y b_k b_n b_h b_d b_r b_u b_y b_p_s_f b_p_s_l b_p_s_c b_p_t b_v_f b_v_l b_v_c b_L b_C b_I) → va_S A s.heap H locs → lv_has ls 4 [(0, .ref (q 0)), (1, .int v1), (2, .int v2), (3, .int v3)] → W p l e ({ frames := 1, cells := 0, slots := 0, locals := 22 } : Room) s m args below meth c H locs 0 0 (MQ below (QI D y A (z) (wdX0 q y b_k b_n b_h b_d b_r b_u b_y b_p_s_f b_p_s_l b_p_s_c b_p_t b_v_f b_v_l b_v_c b_L b_C b_I)) args s 0 0 A) (F0 m 4 ls []) := by
  obtain ⟨⟨hx, hb, hml, hown, hts⟩, hr, hlocks⟩ := id C
  intro n
  induction n with
  | zero =>
    intro v1 v2 v3 b_k b_n b_h b_d b_r b_L H locs ls hm
    rw [g_X0_findSkew_4_z] at hm
    cases hm
  | succ n ih =>
    intro v1 v2 v3 b_k b_n b_h b_d b_r b_L H locs ls hm hP hD hS hl
    rw [g_X0_findSkew_4_s] at hm
    refine lv_iload_n hx hb dX0_findSkew_4 rfl (lv_at hl 3 rfl) ?_
    refine lv_aload_n hx hb dX0_findSkew_5 rfl (lv_at hl 0 rfl) ?_
    refine va_get (D := D) (ci := 0) (v := .int b_L) (C := RX0) (T := TX0) (N := 12) hx hb hts n_X0_findSkew_X0 hown hK hP 0 rfl rfl 9 (by decide) (hts _ w_X0_findSkew_f50) (fun _ h9 => h9) rfl dX0_findSkew_6 ?_
    refine lv_icmp_ge (tgt := 44) hx hb dX0_findSkew_9 (by decide) (fun h_1 => ?_) (fun h_1 => ?_)
    · have hm := it_of hm h_1
      refine lv_iconst (v := (-1 : Int32)) hx hb dX0_findSkew_44 (by decide) ?_
      have hz := Option.some.inj hm
      subst hz
      exact end_i C hK hP hD hS dX0_findSkew_45
    · have hm := ie_of hm h_1
      refine lv_aload_n hx hb dX0_findSkew_12 rfl (lv_at hl 0 rfl) ?_
      refine lv_iload_n hx hb dX0_findSkew_13 rfl (lv_at hl 3 rfl) ?_
      refine lv_aload_n hx hb dX0_findSkew_14 rfl (lv_at hl 0 rfl) ?_
      refine va_get (D := D) (ci := 0) (v := .int b_L) (C := RX0) (T := TX0) (N := 12) hx hb hts n_X0_findSkew_X0 hown hK hP 0 rfl rfl 9 (by decide) (hts _ w_X0_findSkew_f50) (fun _ h9 => h9) rfl dX0_findSkew_15 ?_
      refine lv_iconst (v := (1 : Int32)) hx hb dX0_findSkew_18 (by decide) ?_
      refine lv_isub hx hb dX0_findSkew_19 ?_
      refine lv_iload_n hx hb dX0_findSkew_20 rfl (lv_at hl 3 rfl) ?_
      refine lv_isub hx hb dX0_findSkew_21 ?_
      obtain ⟨r_2, hc_3, hm⟩ := mb1_of hm
      refine call_vi (wc := (wdX0 q y b_k b_n b_h b_d b_r b_u b_y b_p_s_f b_p_s_l b_p_s_c b_p_t b_v_f b_v_l b_v_c b_L b_C b_I)) (wr := []) (As := [.int v3, .int ((b_L - (1 : Int32)) - v3)]) (rest := []) C (c_X0_differ l D y q _ F hc_3) (cwV 2 hts gX0_findSkew_X0_differ rfl rfl rfl (by decide +kernel) ⟨Nat.le_of_ble_eq_true rfl, Nat.le_of_ble_eq_true rfl⟩) hK hP hD hS hA [0, 1, 2, 3, 4, 5, 6, 7, 8, 9, 10, 11, 12, 13, 14] [] rfl rfl rfl rfl rfl (by decide) rfl rfl rfl rfl hl.1 (Nat.le_of_ble_eq_true rfl) dX0_findSkew_22 (fun H locs hP hD hS => ?_)
      have hP : va_P D vwCl (wdX0 q y b_k b_n b_h b_d b_r b_u b_y b_p_s_f b_p_s_l b_p_s_c b_p_t b_v_f b_v_l b_v_c b_L b_C b_I) H := hP
      have hD : va_D A (wdX0 q y b_k b_n b_h b_d b_r b_u b_y b_p_s_f b_p_s_l b_p_s_c b_p_t b_v_f b_v_l b_v_c b_L b_C b_I) := hD
      refine lv_if_eq (tgt := 38) hx hb dX0_findSkew_25 (by decide) (fun h_4 => ?_) (fun h_4 => ?_)
      · have hm := it_of hm h_4
        obtain ⟨v3_5, ev3_5⟩ : ∃ y9 : Int32, y9 = (v3 + (1 : Int32)) := ⟨_, rfl⟩
        have hm := mn_of ev3_5 hm
        refine lv_iinc (v := v3_5) (lv' := [(3, .int v3_5), (0, .ref (q 0)), (1, .int v1), (2, .int v2)]) hx hb dX0_findSkew_38 hl (k := 3) rfl (by rw [ev3_5]; rfl) (by decide) rfl (fun ls hl => ?_)
        refine lv_goto (tgt := 4) hx hb dX0_findSkew_41 (by decide) ?_
        exact ih v1 v2 v3_5 b_k b_n b_h b_d b_r b_L _ _ _ hm hP hD hS (lv_sub hl [1, 2, 3, 0] rfl)
      · have hm := ie_of hm h_4
        refine lv_iload_n hx hb dX0_findSkew_28 rfl (lv_at hl 2 rfl) ?_
        refine lv_iload_n hx hb dX0_findSkew_29 rfl (lv_at hl 1 rfl) ?_
        refine lv_icmp_ne (tgt := 35) hx hb dX0_findSkew_30 (by decide) (fun h_6 => ?_) (fun h_6 => ?_)
        · have hm := ie_of hm h_6
          obtain ⟨v2_7, ev2_7⟩ : ∃ y9 : Int32, y9 = (v2 + (1 : Int32)) := ⟨_, rfl⟩
          have hm := mn_of ev2_7 hm
          refine lv_iinc (v := v2_7) (lv' := [(2, .int v2_7), (0, .ref (q 0)), (1, .int v1), (3, .int v3)]) hx hb dX0_findSkew_35 hl (k := 2) rfl (by rw [ev2_7]; rfl) (by decide) rfl (fun ls hl => ?_)
          obtain ⟨v3_8, ev3_8⟩ : ∃ y9 : Int32, y9 = (v3 + (1 : Int32)) := ⟨_, rfl⟩
          have hm := mn_of ev3_8 hm
          refine lv_iinc (v := v3_8) (lv' := [(3, .int v3_8), (2, .int v2_7), (0, .ref (q 0)), (1, .int v1)]) hx hb dX0_findSkew_38 hl (k := 3) rfl (by rw [ev3_8]; rfl) (by decide) rfl (fun ls hl => ?_)
          refine lv_goto (tgt := 4) hx hb dX0_findSkew_41 (by decide) ?_
          exact ih v1 v2_7 v3_8 b_k b_n b_h b_d b_r b_L _ _ _ hm hP hD hS (lv_sub hl [2, 3, 1, 0] rfl)
        · have hm := it_of hm h_6
          refine lv_iload_n hx hb dX0_findSkew_33 rfl (lv_at hl 3 rfl) ?_
          have hz := Option.some.inj hm
          subst hz
          exact end_i C hK hP hD hS dX0_findSkew_34
set_option maxHeartbeats 4000000 in
set_option maxRecDepth 100000 in
theorem c_X0_findSkew (l : Launch) (D : va_G) (y : Nat → ClassId) (q : Nat → Nat) (sz : Nat) (F : Nat) {v1 : Int32} {b_k : Nat → Int32} {b_n : Nat → Int64} {b_h : Nat → Int32} {b_d : Nat → Int32} {b_r : Nat → Int32} {b_u : Nat → Int32} {b_y : Nat → Int32} {b_p_s_f : Nat → Int32} {b_p_s_l : Nat → Int32} {b_p_s_c : Int32} {b_p_t : Int32} {b_v_f : Nat → Int32} {b_v_l : Nat → Int32} {b_v_c : Int32} {b_L : Int32} {b_C : Int32} {b_I : Int32} {z : Int32} (hm : f_X0_findSkew F v1 b_k b_n b_h b_d b_r b_L = some z) : Met l yX0_findSkew wsX0_findSkew ({ frames := 1, cells := 0, slots := 0, locals := 22 } : Room) (va_Pc [.ref (q 0), .int v1] (cP D y (wdX0 q y b_k b_n b_h b_d b_r b_u b_y b_p_s_f b_p_s_l b_p_s_c b_p_t b_v_f b_v_l b_v_c b_L b_C b_I) sz)) (QI D y (va_A (wdX0 q y b_k b_n b_h b_d b_r b_u b_y b_p_s_f b_p_s_l b_p_s_c b_p_t b_v_f b_v_l b_v_c b_L b_C b_I) sz) (z) (wdX0 q y b_k b_n b_h b_d b_r b_u b_y b_p_s_f b_p_s_l b_p_s_c b_p_t b_v_f b_v_l b_v_c b_L b_C b_I)) 0 0 (va_A (wdX0 q y b_k b_n b_h b_d b_r b_u b_y b_p_s_f b_p_s_l b_p_s_c b_p_t b_v_f b_v_l b_v_c b_L b_C b_I) sz) := by
  refine met_of (own := RX0) (cc := cX0_findSkew) (maxL := 4) (ret := (some .int)) (by decide) rfl rfl (Nat.le_of_ble_eq_true rfl) ?_
  intro p e s m below meth c ls C hsz hK hP hD hA hS hl
  obtain ⟨⟨hx, hb, hml, hown, hts⟩, hr, hlocks⟩ := id C
  have hl : lv_has ls 4 [(0, .ref (q 0)), (1, .int v1)] := hl
  generalize va_A (wdX0 q y b_k b_n b_h b_d b_r b_u b_y b_p_s_f b_p_s_l b_p_s_c b_p_t b_v_f b_v_l b_v_c b_L b_C b_I) sz = A at hD hA hS ⊢
  generalize ([.ref (q 0), .int v1] : List Value).toArray = args at C hts ⊢
  unfold f_X0_findSkew at hm
  refine lv_iconst (v := (0 : Int32)) hx hb dX0_findSkew_0 (by decide) ?_
  refine lv_istore_n (lv' := [(2, .int (0 : Int32)), (0, .ref (q 0)), (1, .int v1)]) hx hb dX0_findSkew_1 rfl hl (by decide) rfl (fun ls hl => ?_)
  refine lv_iconst (v := (0 : Int32)) hx hb dX0_findSkew_2 (by decide) ?_
  refine lv_istore_n (lv' := [(3, .int (0 : Int32)), (2, .int (0 : Int32)), (0, .ref (q 0)), (1, .int v1)]) hx hb dX0_findSkew_3 rfl hl (by decide) rfl (fun ls hl => ?_)
  exact k_X0_findSkew_4 C hA hK F F v1 (0 : Int32) (0 : Int32) b_k b_n b_h b_d b_r b_L _ _ _ hm hP hD hS (lv_sub hl [2, 3, 1, 0] rfl)
