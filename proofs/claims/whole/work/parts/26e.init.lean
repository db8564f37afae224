set_option maxRecDepth 20000 in
theorem wi_X1_init_m3 : Cond.methodLink RX1 3 objectInit ∈ wsX1_init := by decide +kernel
set_option maxRecDepth 20000 in
theorem wi_X1_init_io : Cond.instanceMethod objectInit ∈ wsX1_init := by decide +kernel
set_option maxRecDepth 20000 in
theorem wi_X1_init_co : Cond.code objectInit ⟨#[0xb1]⟩ 1 none ∈ wsX1_init := by decide +kernel
set_option maxRecDepth 20000 in
theorem wi_X1_init_lA : Cond.classLink RX1 9 "[[J" ∈ wsX1_init := by decide +kernel
set_option maxRecDepth 20000 in
theorem wi_X1_init_along : Cond.arrayClass .long ∈ wsX1_init := by decide +kernel
set_option maxRecDepth 20000 in
theorem ni_X1_init_X1 : ∀ w ∈ wsX10, w ∈ wsX1_init := by decide +kernel
set_option maxRecDepth 20000 in
theorem wi_X1_init_f11 : Cond.fieldLink RX1 11 "LayerStacks$MakerLists" "lows" "[[J" ∈ wsX1_init := by decide +kernel
set_option maxRecDepth 20000 in
theorem wi_X1_init_f16 : Cond.fieldLink RX1 16 "LayerStacks$MakerLists" "highs" "[[J" ∈ wsX1_init := by decide +kernel
set_option maxHeartbeats 4000000 in
set_option maxRecDepth 100000 in
theorem c_X1_init (l : Launch) (D : va_G) (y : Nat → ClassId) (h0 : Nat) (sz : Nat) : Met l yX1_init wsX1_init ({ frames := 1, cells := 18, slots := 1296, locals := 12 } : Room) (va_Pc [.ref h0] (cPN D y ([(h0, .inr (1, [.null, .null, .int 0]))] : va_W) sz)) (QN D y (va_A ([(h0, .inr (1, [.null, .null, .int 0]))] : va_W) sz) h0 (fun q => wdX1 q y (fun _ _ => 0) (fun _ _ => 0) 0)) 18 1296 (va_A ([(h0, .inr (1, [.null, .null, .int 0]))] : va_W) sz) := by
  refine met_ofN (own := RX1) (cc := cX1_init) (maxL := 1) (ret := none) (by decide) rfl rfl rfl (Nat.le_of_ble_eq_true rfl) ?_
  intro p e s m below meth c ls C hin hsz hK hP hD hA hS hJ hl
  obtain ⟨⟨hx, hb, hml, hown, hts⟩, hr, hlocks⟩ := id C
  have hl : lv_has ls 1 [(0, .ref h0)] := hl
  generalize (va_A ([(h0, .inr (1, [.null, .null, .int 0]))] : va_W) sz) = A at hD hA hS ⊢
  generalize ([.ref h0] : List Value).toArray = args at C hts ⊢
  refine lv_aload_n hx hb dX1_init_0 rfl (lv_at hl 0 rfl) ?_
  refine W.objInit hx hb hown (hts _ wi_X1_init_m3) (hts _ wi_X1_init_io) (hts _ wi_X1_init_co) rfl (by rw [hml]; exact hl.1) rfl dX1_init_1 (Nat.le_of_ble_eq_true rfl) (Nat.le_of_ble_eq_true rfl) ?_
  refine W.eq (g2 := F0 m 4 ls []) rfl ?_
  refine lv_aload_n hx hb dX1_init_4 rfl (lv_at hl 0 rfl) ?_
  refine lv_bipush (v := (8 : Int32)) hx hb dX1_init_5 (by decide) ?_
  refine lv_bipush (v := (80 : Int32)) hx hb dX1_init_7 (by decide) ?_
  have hP0 := pl0 hP
  have hD0 := pl0D hD
  refine va_mna (N' := 8) (K' := 80) (z := (80, .inr (.inl (fun _ => 0)))) (ty := .long) (cy := y 1) hx hb hown (hts _ wi_X1_init_lA) hJ.2 (hts _ wi_X1_init_along) (hK.2 1 (y 1, .long) rfl).2 hK hP0 hD0 hS hA (by decide) (by decide) (by decide) (by decide) (by decide) (by decide) (by decide) (by decide) (by decide) (Nat.le_of_ble_eq_true rfl) (Nat.le_of_ble_eq_true rfl) (fun _ => rfl) dX1_init_9 (fun a1 r1 cA H _ _ hK4 hP hD hS => ?_)
  rw [vr_all] at hP hD
  have e4 : cA = y 4 := Option.some.inj ((hK4.2 5 (cA, .array .long) rfl).2.symm.trans (hK.2 4 (y 4, .array .long) rfl).2)
  rw [e4] at hP hD
  clear hP0 hD0
  have hP : va_P D vwCl ([(h0, .inr (1, [.null, .null, .int 0])), (a1, .inl (y 4, 8, .inr (.inr (.inr (.inr (fun i => if i < 8 then some (r1 i) else none)))))), (r1 0, .inl (y 1, 80, .inr (.inl (fun _ => 0)))), (r1 1, .inl (y 1, 80, .inr (.inl (fun _ => 0)))), (r1 2, .inl (y 1, 80, .inr (.inl (fun _ => 0)))), (r1 3, .inl (y 1, 80, .inr (.inl (fun _ => 0)))), (r1 4, .inl (y 1, 80, .inr (.inl (fun _ => 0)))), (r1 5, .inl (y 1, 80, .inr (.inl (fun _ => 0)))), (r1 6, .inl (y 1, 80, .inr (.inl (fun _ => 0)))), (r1 7, .inl (y 1, 80, .inr (.inl (fun _ => 0))))] : va_W) H := hP
  have hD : va_D A ([(h0, .inr (1, [.null, .null, .int 0])), (a1, .inl (y 4, 8, .inr (.inr (.inr (.inr (fun i => if i < 8 then some (r1 i) else none)))))), (r1 0, .inl (y 1, 80, .inr (.inl (fun _ => 0)))), (r1 1, .inl (y 1, 80, .inr (.inl (fun _ => 0)))), (r1 2, .inl (y 1, 80, .inr (.inl (fun _ => 0)))), (r1 3, .inl (y 1, 80, .inr (.inl (fun _ => 0)))), (r1 4, .inl (y 1, 80, .inr (.inl (fun _ => 0)))), (r1 5, .inl (y 1, 80, .inr (.inl (fun _ => 0)))), (r1 6, .inl (y 1, 80, .inr (.inl (fun _ => 0)))), (r1 7, .inl (y 1, 80, .inr (.inl (fun _ => 0))))] : va_W) := hD
  refine va_putF (D := D) (ci := 1) (v := .ref a1) (ty := (.array (.array .long))) (C := RX1) (T := TX1) (N := 3) hx hb hts ni_X1_init_X1 tyX1 tyX1_ok nmX1 hown hK hP hD hS 0 rfl rfl 0 (by decide) (hts _ wi_X1_init_f11) (fun _ h9 => h9) rfl hin rfl (by decide +kernel) rfl rfl (Nat.le_of_ble_eq_true rfl) dX1_init_13 (fun H locs hP hD hS => ?_)
  have hP : va_P D vwCl ([(h0, .inr (1, [.ref a1, .null, .int 0])), (a1, .inl (y 4, 8, .inr (.inr (.inr (.inr (fun i => if i < 8 then some (r1 i) else none)))))), (r1 0, .inl (y 1, 80, .inr (.inl (fun _ => 0)))), (r1 1, .inl (y 1, 80, .inr (.inl (fun _ => 0)))), (r1 2, .inl (y 1, 80, .inr (.inl (fun _ => 0)))), (r1 3, .inl (y 1, 80, .inr (.inl (fun _ => 0)))), (r1 4, .inl (y 1, 80, .inr (.inl (fun _ => 0)))), (r1 5, .inl (y 1, 80, .inr (.inl (fun _ => 0)))), (r1 6, .inl (y 1, 80, .inr (.inl (fun _ => 0)))), (r1 7, .inl (y 1, 80, .inr (.inl (fun _ => 0))))] : va_W) H := hP
  have hD : va_D A ([(h0, .inr (1, [.ref a1, .null, .int 0])), (a1, .inl (y 4, 8, .inr (.inr (.inr (.inr (fun i => if i < 8 then some (r1 i) else none)))))), (r1 0, .inl (y 1, 80, .inr (.inl (fun _ => 0)))), (r1 1, .inl (y 1, 80, .inr (.inl (fun _ => 0)))), (r1 2, .inl (y 1, 80, .inr (.inl (fun _ => 0)))), (r1 3, .inl (y 1, 80, .inr (.inl (fun _ => 0)))), (r1 4, .inl (y 1, 80, .inr (.inl (fun _ => 0)))), (r1 5, .inl (y 1, 80, .inr (.inl (fun _ => 0)))), (r1 6, .inl (y 1, 80, .inr (.inl (fun _ => 0)))), (r1 7, .inl (y 1, 80, .inr (.inl (fun _ => 0))))] : va_W) := hD
  refine lv_aload_n hx hb dX1_init_16 rfl (lv_at hl 0 rfl) ?_
  refine lv_bipush (v := (8 : Int32)) hx hb dX1_init_17 (by decide) ?_
  refine lv_bipush (v := (80 : Int32)) hx hb dX1_init_19 (by decide) ?_
  have hP0 := pl0 hP
  have hD0 := pl0D hD
  refine va_mna (N' := 8) (K' := 80) (z := (80, .inr (.inl (fun _ => 0)))) (ty := .long) (cy := y 1) hx hb hown (hts _ wi_X1_init_lA) hJ.2 (hts _ wi_X1_init_along) (hK.2 1 (y 1, .long) rfl).2 hK hP0 hD0 hS hA (by decide) (by decide) (by decide) (by decide) (by decide) (by decide) (by decide) (by decide) (by decide) (Nat.le_of_ble_eq_true rfl) (Nat.le_of_ble_eq_true rfl) (fun _ => rfl) dX1_init_21 (fun a2 r2 cA H _ _ hK4 hP hD hS => ?_)
  rw [vr_all] at hP hD
  have e4 : cA = y 4 := Option.some.inj ((hK4.2 5 (cA, .array .long) rfl).2.symm.trans (hK.2 4 (y 4, .array .long) rfl).2)
  rw [e4] at hP hD
  clear hP0 hD0
  have hP : va_P D vwCl ([(h0, .inr (1, [.ref a1, .null, .int 0])), (a1, .inl (y 4, 8, .inr (.inr (.inr (.inr (fun i => if i < 8 then some (r1 i) else none)))))), (r1 0, .inl (y 1, 80, .inr (.inl (fun _ => 0)))), (r1 1, .inl (y 1, 80, .inr (.inl (fun _ => 0)))), (r1 2, .inl (y 1, 80, .inr (.inl (fun _ => 0)))), (r1 3, .inl (y 1, 80, .inr (.inl (fun _ => 0)))), (r1 4, .inl (y 1, 80, .inr (.inl (fun _ => 0)))), (r1 5, .inl (y 1, 80, .inr (.inl (fun _ => 0)))), (r1 6, .inl (y 1, 80, .inr (.inl (fun _ => 0)))), (r1 7, .inl (y 1, 80, .inr (.inl (fun _ => 0)))), (a2, .inl (y 4, 8, .inr (.inr (.inr (.inr (fun i => if i < 8 then some (r2 i) else none)))))), (r2 0, .inl (y 1, 80, .inr (.inl (fun _ => 0)))), (r2 1, .inl (y 1, 80, .inr (.inl (fun _ => 0)))), (r2 2, .inl (y 1, 80, .inr (.inl (fun _ => 0)))), (r2 3, .inl (y 1, 80, .inr (.inl (fun _ => 0)))), (r2 4, .inl (y 1, 80, .inr (.inl (fun _ => 0)))), (r2 5, .inl (y 1, 80, .inr (.inl (fun _ => 0)))), (r2 6, .inl (y 1, 80, .inr (.inl (fun _ => 0)))), (r2 7, .inl (y 1, 80, .inr (.inl (fun _ => 0))))] : va_W) H := hP
  have hD : va_D A ([(h0, .inr (1, [.ref a1, .null, .int 0])), (a1, .inl (y 4, 8, .inr (.inr (.inr (.inr (fun i => if i < 8 then some (r1 i) else none)))))), (r1 0, .inl (y 1, 80, .inr (.inl (fun _ => 0)))), (r1 1, .inl (y 1, 80, .inr (.inl (fun _ => 0)))), (r1 2, .inl (y 1, 80, .inr (.inl (fun _ => 0)))), (r1 3, .inl (y 1, 80, .inr (.inl (fun _ => 0)))), (r1 4, .inl (y 1, 80, .inr (.inl (fun _ => 0)))), (r1 5, .inl (y 1, 80, .inr (.inl (fun _ => 0)))), (r1 6, .inl (y 1, 80, .inr (.inl (fun _ => 0)))), (r1 7, .inl (y 1, 80, .inr (.inl (fun _ => 0)))), (a2, .inl (y 4, 8, .inr (.inr (.inr (.inr (fun i => if i < 8 then some (r2 i) else none)))))), (r2 0, .inl (y 1, 80, .inr (.inl (fun _ => 0)))), (r2 1, .inl (y 1, 80, .inr (.inl (fun _ => 0)))), (r2 2, .inl (y 1, 80, .inr (.inl (fun _ => 0)))), (r2 3, .inl (y 1, 80, .inr (.inl (fun _ => 0)))), (r2 4, .inl (y 1, 80, .inr (.inl (fun _ => 0)))), (r2 5, .inl (y 1, 80, .inr (.inl (fun _ => 0)))), (r2 6, .inl (y 1, 80, .inr (.inl (fun _ => 0)))), (r2 7, .inl (y 1, 80, .inr (.inl (fun _ => 0))))] : va_W) := hD
  refine va_putF (D := D) (ci := 1) (v := .ref a2) (ty := (.array (.array .long))) (C := RX1) (T := TX1) (N := 3) hx hb hts ni_X1_init_X1 tyX1 tyX1_ok nmX1 hown hK hP hD hS 0 rfl rfl 1 (by decide) (hts _ wi_X1_init_f16) (fun _ h9 => h9) rfl hin rfl (by decide +kernel) rfl rfl (Nat.le_of_ble_eq_true rfl) dX1_init_25 (fun H locs hP hD hS => ?_)
  have hP : va_P D vwCl ([(h0, .inr (1, [.ref a1, .ref a2, .int 0])), (a1, .inl (y 4, 8, .inr (.inr (.inr (.inr (fun i => if i < 8 then some (r1 i) else none)))))), (r1 0, .inl (y 1, 80, .inr (.inl (fun _ => 0)))), (r1 1, .inl (y 1, 80, .inr (.inl (fun _ => 0)))), (r1 2, .inl (y 1, 80, .inr (.inl (fun _ => 0)))), (r1 3, .inl (y 1, 80, .inr (.inl (fun _ => 0)))), (r1 4, .inl (y 1, 80, .inr (.inl (fun _ => 0)))), (r1 5, .inl (y 1, 80, .inr (.inl (fun _ => 0)))), (r1 6, .inl (y 1, 80, .inr (.inl (fun _ => 0)))), (r1 7, .inl (y 1, 80, .inr (.inl (fun _ => 0)))), (a2, .inl (y 4, 8, .inr (.inr (.inr (.inr (fun i => if i < 8 then some (r2 i) else none)))))), (r2 0, .inl (y 1, 80, .inr (.inl (fun _ => 0)))), (r2 1, .inl (y 1, 80, .inr (.inl (fun _ => 0)))), (r2 2, .inl (y 1, 80, .inr (.inl (fun _ => 0)))), (r2 3, .inl (y 1, 80, .inr (.inl (fun _ => 0)))), (r2 4, .inl (y 1, 80, .inr (.inl (fun _ => 0)))), (r2 5, .inl (y 1, 80, .inr (.inl (fun _ => 0)))), (r2 6, .inl (y 1, 80, .inr (.inl (fun _ => 0)))), (r2 7, .inl (y 1, 80, .inr (.inl (fun _ => 0))))] : va_W) H := hP
  have hD : va_D A ([(h0, .inr (1, [.ref a1, .ref a2, .int 0])), (a1, .inl (y 4, 8, .inr (.inr (.inr (.inr (fun i => if i < 8 then some (r1 i) else none)))))), (r1 0, .inl (y 1, 80, .inr (.inl (fun _ => 0)))), (r1 1, .inl (y 1, 80, .inr (.inl (fun _ => 0)))), (r1 2, .inl (y 1, 80, .inr (.inl (fun _ => 0)))), (r1 3, .inl (y 1, 80, .inr (.inl (fun _ => 0)))), (r1 4, .inl (y 1, 80, .inr (.inl (fun _ => 0)))), (r1 5, .inl (y 1, 80, .inr (.inl (fun _ => 0)))), (r1 6, .inl (y 1, 80, .inr (.inl (fun _ => 0)))), (r1 7, .inl (y 1, 80, .inr (.inl (fun _ => 0)))), (a2, .inl (y 4, 8, .inr (.inr (.inr (.inr (fun i => if i < 8 then some (r2 i) else none)))))), (r2 0, .inl (y 1, 80, .inr (.inl (fun _ => 0)))), (r2 1, .inl (y 1, 80, .inr (.inl (fun _ => 0)))), (r2 2, .inl (y 1, 80, .inr (.inl (fun _ => 0)))), (r2 3, .inl (y 1, 80, .inr (.inl (fun _ => 0)))), (r2 4, .inl (y 1, 80, .inr (.inl (fun _ => 0)))), (r2 5, .inl (y 1, 80, .inr (.inl (fun _ => 0)))), (r2 6, .inl (y 1, 80, .inr (.inl (fun _ => 0)))), (r2 7, .inl (y 1, 80, .inr (.inl (fun _ => 0))))] : va_W) := hD
  have eg2 : (fun i => if i < 8 then some (r1 i) else none) = (fun i => if i < 8 then some ((qat [h0, a1] (qcat 8 r1 (qat [a2] (qcat 8 r2 (fun _ => 0))))) (i + 2)) else none) := by
    funext i
    by_cases h : i < 8
    · rw [if_pos h, if_pos h]
      congr 1
      simp only [qat, qcat, List.length_cons, List.length_nil]
      rw [if_neg (by omega), if_pos (by omega)]
      congr 1
    · rw [if_neg h, if_neg h]
  have eg11 : (fun i => if i < 8 then some (r2 i) else none) = (fun i => if i < 8 then some ((qat [h0, a1] (qcat 8 r1 (qat [a2] (qcat 8 r2 (fun _ => 0))))) (i + 11)) else none) := by
    funext i
    by_cases h : i < 8
    · rw [if_pos h, if_pos h]
      congr 1
      simp only [qat, qcat, List.length_cons, List.length_nil]
      rw [if_neg (by omega), if_neg (by omega), if_neg (by omega), if_pos (by omega)]
      congr 1
    · rw [if_neg h, if_neg h]
  rw [eg2, eg11] at hP hD
  have hP : va_P D vwCl (wdX1 (qat [h0, a1] (qcat 8 r1 (qat [a2] (qcat 8 r2 (fun _ => 0))))) y (fun _ _ => 0) (fun _ _ => 0) 0) H := hP
  have hD : va_D A (wdX1 (qat [h0, a1] (qcat 8 r1 (qat [a2] (qcat 8 r2 (fun _ => 0))))) y (fun _ _ => 0) (fun _ _ => 0) 0) := hD
  exact endN (wf := fun q => wdX1 q y (fun _ _ => 0) (fun _ _ => 0) 0) C hK (qat [h0, a1] (qcat 8 r1 (qat [a2] (qcat 8 r2 (fun _ => 0))))) rfl hP hD hS (Nat.le_of_ble_eq_true rfl) (Nat.le_of_ble_eq_true rfl) dX1_init_28
