def f_X7_line (F : Nat) (M_text : Nat → Int32) (M_size : Int32) (M_layers : Nat → Int32) (M_kinds : Nat → Int32) (M_names : Nat → Int64) (M_nameSizes : Nat → Int32) (M_thicknesses : Nat → Int64) (M_spreads : Nat → Int32) (M_coppers : Nat → Int32) (M_copperAt : Nat → Int32) (M_presses : Nat → Int32) (M_pressFrom : Nat → Int32) (M_pressTo : Nat → Int32) (M_vias : Nat → Int32) (M_viaFrom : Nat → Int32) (M_viaTo : Nat → Int32) (M_p : Int32) (M_s : Int32) (M_fault : Int32) (M_word : Int64) (M_wordSize : Int32) (M_secondOne : Int32) : Option ((Nat → Int32) × (Nat → Int32) × (Nat → Int64) × (Nat → Int32) × (Nat → Int64) × (Nat → Int32) × (Nat → Int32) × (Nat → Int32) × (Nat → Int32) × (Nat → Int32) × (Nat → Int32) × (Nat → Int32) × (Nat → Int32) × (Nat → Int32) × Int32 × Int32 × Int64 × Int32 × Int32) := mb3 (f_X7_firstWord F M_text M_size M_p M_fault) (fun r_1 M_p_2 M_fault_3 => mb1 (f_X7_good F M_fault_3) (fun r_5 => (if r_5 = 0 then some (M_layers, M_kinds, M_names, M_nameSizes, M_thicknesses, M_spreads, M_coppers, M_copperAt, M_presses, M_pressFrom, M_pressTo, M_vias, M_viaFrom, M_viaTo, M_p_2, M_fault_3, M_word, M_wordSize, M_secondOne) else (if (5 : Int32) ≤ r_1 then mb1 (f_X7_isWhole F M_layers M_kinds M_coppers M_s) (fun r_9 => (if r_9 = 0 then mb1 (f_X7_fail F M_p M_fault_3) (fun M_fault_31 => some (M_layers, M_kinds, M_names, M_nameSizes, M_thicknesses, M_spreads, M_coppers, M_copperAt, M_presses, M_pressFrom, M_pressTo, M_vias, M_viaFrom, M_viaTo, M_p_2, M_fault_31, M_word, M_wordSize, M_secondOne)) else (if r_1 = (5 : Int32) then mb8 (f_X7_pressLine F M_p M_text M_size M_names M_nameSizes M_coppers M_copperAt M_presses M_pressFrom M_pressTo M_vias M_p_2 M_s M_fault_3 M_word M_wordSize M_secondOne) (fun M_presses_22 M_pressFrom_23 M_pressTo_24 M_p_25 M_fault_26 M_word_27 M_wordSize_28 M_secondOne_29 => some (M_layers, M_kinds, M_names, M_nameSizes, M_thicknesses, M_spreads, M_coppers, M_copperAt, M_presses_22, M_pressFrom_23, M_pressTo_24, M_vias, M_viaFrom, M_viaTo, M_p_25, M_fault_26, M_word_27, M_wordSize_28, M_secondOne_29)) else mb8 (f_X7_viaLine F M_p M_text M_size M_names M_nameSizes M_coppers M_copperAt M_presses M_pressFrom M_pressTo M_vias M_viaFrom M_viaTo M_p_2 M_s M_fault_3 M_word M_wordSize M_secondOne) (fun M_vias_13 M_viaFrom_14 M_viaTo_15 M_p_16 M_fault_17 M_word_18 M_wordSize_19 M_secondOne_20 => some (M_layers, M_kinds, M_names, M_nameSizes, M_thicknesses, M_spreads, M_coppers, M_copperAt, M_presses, M_pressFrom, M_pressTo, M_vias_13, M_viaFrom_14, M_viaTo_15, M_p_16, M_fault_17, M_word_18, M_wordSize_19, M_secondOne_20))))) else mb12 (f_X7_layerLine F r_1 M_p M_text M_size M_layers M_kinds M_names M_nameSizes M_thicknesses M_spreads M_coppers M_copperAt M_presses M_vias M_p_2 M_s M_fault_3 M_word M_wordSize) (fun M_layers_33 M_kinds_34 M_names_35 M_nameSizes_36 M_thicknesses_37 M_spreads_38 M_coppers_39 M_copperAt_40 M_p_41 M_fault_42 M_word_43 M_wordSize_44 => some (M_layers_33, M_kinds_34, M_names_35, M_nameSizes_36, M_thicknesses_37, M_spreads_38, M_coppers_39, M_copperAt_40, M_presses, M_pressFrom, M_pressTo, M_vias, M_viaFrom, M_viaTo, M_p_41, M_fault_42, M_word_43, M_wordSize_44, M_secondOne))))))
set_option maxRecDepth 20000 in
theorem n_X7_line_X7 : ∀ w ∈ wsX70, w ∈ wsX7_line := by decide +kernel
set_option maxRecDepth 20000 in
theorem w_X7_line_f79 : Cond.fieldLink RX7 79 "LayerStacksModel" "p" "I" ∈ wsX7_line := by decide +kernel
set_option maxHeartbeats 4000000 in
set_option maxRecDepth 100000 in
theorem c_X7_line (l : Launch) (D : va_G) (y : Nat → ClassId) (q : Nat → Nat) (sz : Nat) (F : Nat) {M_thrown : Int32} {M_text : Nat → Int32} {M_size : Int32} {M_has : Int32} {M_hand : Int32} {M_layers : Nat → Int32} {M_kinds : Nat → Int32} {M_names : Nat → Int64} {M_nameSizes : Nat → Int32} {M_thicknesses : Nat → Int64} {M_spreads : Nat → Int32} {M_coppers : Nat → Int32} {M_copperAt : Nat → Int32} {M_presses : Nat → Int32} {M_pressFrom : Nat → Int32} {M_pressTo : Nat → Int32} {M_vias : Nat → Int32} {M_viaFrom : Nat → Int32} {M_viaTo : Nat → Int32} {M_shares : Nat → Int32} {M_lists : Int32} {M_hasRow : Nat → Int32} {M_rowLow : Nat → Int64} {M_rowHigh : Nat → Int64} {M_p : Int32} {M_s : Int32} {M_fault : Int32} {M_lines : Int32} {M_word : Int64} {M_wordSize : Int32} {M_out : Nat → Int32} {M_written : Int32} {M_secondOne : Int32} {z : (Nat → Int32) × (Nat → Int32) × (Nat → Int64) × (Nat → Int32) × (Nat → Int64) × (Nat → Int32) × (Nat → Int32) × (Nat → Int32) × (Nat → Int32) × (Nat → Int32) × (Nat → Int32) × (Nat → Int32) × (Nat → Int32) × (Nat → Int32) × Int32 × Int32 × Int64 × Int32 × Int32} (hm : f_X7_line F M_text M_size M_layers M_kinds M_names M_nameSizes M_thicknesses M_spreads M_coppers M_copperAt M_presses M_pressFrom M_pressTo M_vias M_viaFrom M_viaTo M_p M_s M_fault M_word M_wordSize M_secondOne = some z) : Met l yX7_line wsX7_line ({ frames := 4, cells := 0, slots := 0, locals := 101 } : Room) (va_Pc [.ref (q 0)] (cP D y (wdX7 q y M_thrown M_text M_size M_has M_hand M_layers M_kinds M_names M_nameSizes M_thicknesses M_spreads M_coppers M_copperAt M_presses M_pressFrom M_pressTo M_vias M_viaFrom M_viaTo M_shares M_lists M_hasRow M_rowLow M_rowHigh M_p M_s M_fault M_lines M_word M_wordSize M_out M_written M_secondOne) sz)) (QV D y (va_A (wdX7 q y M_thrown M_text M_size M_has M_hand M_layers M_kinds M_names M_nameSizes M_thicknesses M_spreads M_coppers M_copperAt M_presses M_pressFrom M_pressTo M_vias M_viaFrom M_viaTo M_shares M_lists M_hasRow M_rowLow M_rowHigh M_p M_s M_fault M_lines M_word M_wordSize M_out M_written M_secondOne) sz) (wdX7 q y M_thrown M_text M_size M_has M_hand (z.1) (z.2.1) (z.2.2.1) (z.2.2.2.1) (z.2.2.2.2.1) (z.2.2.2.2.2.1) (z.2.2.2.2.2.2.1) (z.2.2.2.2.2.2.2.1) (z.2.2.2.2.2.2.2.2.1) (z.2.2.2.2.2.2.2.2.2.1) (z.2.2.2.2.2.2.2.2.2.2.1) (z.2.2.2.2.2.2.2.2.2.2.2.1) (z.2.2.2.2.2.2.2.2.2.2.2.2.1) (z.2.2.2.2.2.2.2.2.2.2.2.2.2.1) M_shares M_lists M_hasRow M_rowLow M_rowHigh (z.2.2.2.2.2.2.2.2.2.2.2.2.2.2.1) M_s (z.2.2.2.2.2.2.2.2.2.2.2.2.2.2.2.1) M_lines (z.2.2.2.2.2.2.2.2.2.2.2.2.2.2.2.2.1) (z.2.2.2.2.2.2.2.2.2.2.2.2.2.2.2.2.2.1) M_out M_written (z.2.2.2.2.2.2.2.2.2.2.2.2.2.2.2.2.2.2))) 0 0 (va_A (wdX7 q y M_thrown M_text M_size M_has M_hand M_layers M_kinds M_names M_nameSizes M_thicknesses M_spreads M_coppers M_copperAt M_presses M_pressFrom M_pressTo M_vias M_viaFrom M_viaTo M_shares M_lists M_hasRow M_rowLow M_rowHigh M_p M_s M_fault M_lines M_word M_wordSize M_out M_written M_secondOne) sz) := by
  refine met_of (own := RX7) (cc := cX7_line) (maxL := 3) (ret := none) (by decide) rfl rfl (Nat.le_of_ble_eq_true rfl) ?_
  intro p e s m below meth c ls C hsz hK hP hD hA hS hl
  obtain ⟨⟨hx, hb, hml, hown, hts⟩, hr, hlocks⟩ := id C
  have hl : lv_has ls 3 [(0, .ref (q 0))] := hl
  generalize va_A (wdX7 q y M_thrown M_text M_size M_has M_hand M_layers M_kinds M_names M_nameSizes M_thicknesses M_spreads M_coppers M_copperAt M_presses M_pressFrom M_pressTo M_vias M_viaFrom M_viaTo M_shares M_lists M_hasRow M_rowLow M_rowHigh M_p M_s M_fault M_lines M_word M_wordSize M_out M_written M_secondOne) sz = A at hD hA hS ⊢
  generalize ([.ref (q 0)] : List Value).toArray = args at C hts ⊢
  unfold f_X7_line at hm
  refine lv_aload_n hx hb dX7_line_0 rfl (lv_at hl 0 rfl) ?_
  refine va_get (D := D) (ci := 7) (v := .int M_p) (C := RX7) (T := TX7) (N := 33) hx hb hts n_X7_line_X7 hown hK hP 0 rfl rfl 24 (by decide) (hts _ w_X7_line_f79) (fun _ h9 => h9) rfl dX7_line_1 ?_
  refine lv_istore_n (lv' := [(1, .int M_p), (0, .ref (q 0))]) hx hb dX7_line_4 rfl hl (by decide) rfl (fun ls hl => ?_)
  refine lv_aload_n hx hb dX7_line_5 rfl (lv_at hl 1 rfl) ?_
  obtain ⟨r_1, M_p_2, M_fault_3, hc_4, hm⟩ := mb3_of hm
  refine call_vi (wc := (wdX7 q y M_thrown M_text M_size M_has M_hand M_layers M_kinds M_names M_nameSizes M_thicknesses M_spreads M_coppers M_copperAt M_presses M_pressFrom M_pressTo M_vias M_viaFrom M_viaTo M_shares M_lists M_hasRow M_rowLow M_rowHigh M_p M_s M_fault M_lines M_word M_wordSize M_out M_written M_secondOne)) (wr := []) (As := []) (rest := []) C (c_X7_firstWord l D y q _ F hc_4) (cwV 0 hts gX7_line_X7_firstWord rfl rfl rfl (by decide +kernel) ⟨Nat.le_of_ble_eq_true rfl, Nat.le_of_ble_eq_true rfl⟩) hK hP hD hS hA [0, 1, 2, 3, 4, 5, 6, 7, 8, 9, 10, 11, 12, 13, 14, 15, 16, 17, 18, 19, 20] [] rfl rfl rfl rfl rfl (by decide) rfl rfl rfl rfl hl.1 (Nat.le_of_ble_eq_true rfl) dX7_line_6 (fun H locs hP hD hS => ?_)
  have hP : va_P D vwCl (wdX7 q y M_thrown M_text M_size M_has M_hand M_layers M_kinds M_names M_nameSizes M_thicknesses M_spreads M_coppers M_copperAt M_presses M_pressFrom M_pressTo M_vias M_viaFrom M_viaTo M_shares M_lists M_hasRow M_rowLow M_rowHigh M_p_2 M_s M_fault_3 M_lines M_word M_wordSize M_out M_written M_secondOne) H := hP
  have hD : va_D A (wdX7 q y M_thrown M_text M_size M_has M_hand M_layers M_kinds M_names M_nameSizes M_thicknesses M_spreads M_coppers M_copperAt M_presses M_pressFrom M_pressTo M_vias M_viaFrom M_viaTo M_shares M_lists M_hasRow M_rowLow M_rowHigh M_p_2 M_s M_fault_3 M_lines M_word M_wordSize M_out M_written M_secondOne) := hD
  refine lv_istore_n (lv' := [(2, .int r_1), (1, .int M_p), (0, .ref (q 0))]) hx hb dX7_line_9 rfl hl (by decide) rfl (fun ls hl => ?_)
  refine lv_aload_n hx hb dX7_line_10 rfl (lv_at hl 2 rfl) ?_
  obtain ⟨r_5, hc_6, hm⟩ := mb1_of hm
  refine call_vi (wc := (wdX7 q y M_thrown M_text M_size M_has M_hand M_layers M_kinds M_names M_nameSizes M_thicknesses M_spreads M_coppers M_copperAt M_presses M_pressFrom M_pressTo M_vias M_viaFrom M_viaTo M_shares M_lists M_hasRow M_rowLow M_rowHigh M_p_2 M_s M_fault_3 M_lines M_word M_wordSize M_out M_written M_secondOne)) (wr := []) (As := []) (rest := []) C (c_X7_good l D y q _ F hc_6) (cwV 0 hts gX7_line_X7_good rfl rfl rfl (by decide +kernel) ⟨Nat.le_of_ble_eq_true rfl, Nat.le_of_ble_eq_true rfl⟩) hK hP hD hS hA [0, 1, 2, 3, 4, 5, 6, 7, 8, 9, 10, 11, 12, 13, 14, 15, 16, 17, 18, 19, 20] [] rfl rfl rfl rfl rfl (by decide) rfl rfl rfl rfl hl.1 (Nat.le_of_ble_eq_true rfl) dX7_line_11 (fun H locs hP hD hS => ?_)
  have hP : va_P D vwCl (wdX7 q y M_thrown M_text M_size M_has M_hand M_layers M_kinds M_names M_nameSizes M_thicknesses M_spreads M_coppers M_copperAt M_presses M_pressFrom M_pressTo M_vias M_viaFrom M_viaTo M_shares M_lists M_hasRow M_rowLow M_rowHigh M_p_2 M_s M_fault_3 M_lines M_word M_wordSize M_out M_written M_secondOne) H := hP
  have hD : va_D A (wdX7 q y M_thrown M_text M_size M_has M_hand M_layers M_kinds M_names M_nameSizes M_thicknesses M_spreads M_coppers M_copperAt M_presses M_pressFrom M_pressTo M_vias M_viaFrom M_viaTo M_shares M_lists M_hasRow M_rowLow M_rowHigh M_p_2 M_s M_fault_3 M_lines M_word M_wordSize M_out M_written M_secondOne) := hD
  refine lv_if_ne (tgt := 18) hx hb dX7_line_14 (by decide) (fun h_7 => ?_) (fun h_7 => ?_)
  · have hm := ie_of hm h_7
    refine lv_iload_n hx hb dX7_line_18 rfl (lv_at hl 0 rfl) ?_
    refine lv_iconst (v := (5 : Int32)) hx hb dX7_line_19 (by decide) ?_
    refine lv_icmp_ge (tgt := 32) hx hb dX7_line_20 (by decide) (fun h_8 => ?_) (fun h_8 => ?_)
    · have hm := it_of hm h_8
      refine lv_aload_n hx hb dX7_line_32 rfl (lv_at hl 2 rfl) ?_
      obtain ⟨r_9, hc_10, hm⟩ := mb1_of hm
      refine call_vi (wc := (wdX7 q y M_thrown M_text M_size M_has M_hand M_layers M_kinds M_names M_nameSizes M_thicknesses M_spreads M_coppers M_copperAt M_presses M_pressFrom M_pressTo M_vias M_viaFrom M_viaTo M_shares M_lists M_hasRow M_rowLow M_rowHigh M_p_2 M_s M_fault_3 M_lines M_word M_wordSize M_out M_written M_secondOne)) (wr := []) (As := []) (rest := []) C (c_X7_isWhole l D y q _ F hc_10) (cwV 0 hts gX7_line_X7_isWhole rfl rfl rfl (by decide +kernel) ⟨Nat.le_of_ble_eq_true rfl, Nat.le_of_ble_eq_true rfl⟩) hK hP hD hS hA [0, 1, 2, 3, 4, 5, 6, 7, 8, 9, 10, 11, 12, 13, 14, 15, 16, 17, 18, 19, 20] [] rfl rfl rfl rfl rfl (by decide) rfl rfl rfl rfl hl.1 (Nat.le_of_ble_eq_true rfl) dX7_line_33 (fun H locs hP hD hS => ?_)
      have hP : va_P D vwCl (wdX7 q y M_thrown M_text M_size M_has M_hand M_layers M_kinds M_names M_nameSizes M_thicknesses M_spreads M_coppers M_copperAt M_presses M_pressFrom M_pressTo M_vias M_viaFrom M_viaTo M_shares M_lists M_hasRow M_rowLow M_rowHigh M_p_2 M_s M_fault_3 M_lines M_word M_wordSize M_out M_written M_secondOne) H := hP
      have hD : va_D A (wdX7 q y M_thrown M_text M_size M_has M_hand M_layers M_kinds M_names M_nameSizes M_thicknesses M_spreads M_coppers M_copperAt M_presses M_pressFrom M_pressTo M_vias M_viaFrom M_viaTo M_shares M_lists M_hasRow M_rowLow M_rowHigh M_p_2 M_s M_fault_3 M_lines M_word M_wordSize M_out M_written M_secondOne) := hD
      refine lv_if_ne (tgt := 47) hx hb dX7_line_36 (by decide) (fun h_11 => ?_) (fun h_11 => ?_)
      · have hm := ie_of hm h_11
        refine lv_iload_n hx hb dX7_line_47 rfl (lv_at hl 0 rfl) ?_
        refine lv_iconst (v := (5 : Int32)) hx hb dX7_line_48 (by decide) ?_
        refine lv_icmp_ne (tgt := 60) hx hb dX7_line_49 (by decide) (fun h_12 => ?_) (fun h_12 => ?_)
        · have hm := ie_of hm h_12
          refine lv_aload_n hx hb dX7_line_60 rfl (lv_at hl 2 rfl) ?_
          refine lv_iload_n hx hb dX7_line_61 rfl (lv_at hl 1 rfl) ?_
          obtain ⟨M_vias_13, M_viaFrom_14, M_viaTo_15, M_p_16, M_fault_17, M_word_18, M_wordSize_19, M_secondOne_20, hc_21, hm⟩ := mb8_of hm
          refine call_vv (wc := (wdX7 q y M_thrown M_text M_size M_has M_hand M_layers M_kinds M_names M_nameSizes M_thicknesses M_spreads M_coppers M_copperAt M_presses M_pressFrom M_pressTo M_vias M_viaFrom M_viaTo M_shares M_lists M_hasRow M_rowLow M_rowHigh M_p_2 M_s M_fault_3 M_lines M_word M_wordSize M_out M_written M_secondOne)) (wr := []) (As := [.int M_p]) (rest := []) C (c_X7_viaLine l D y q _ F hc_21) (cwV 1 hts gX7_line_X7_viaLine rfl rfl rfl (by decide +kernel) ⟨Nat.le_of_ble_eq_true rfl, Nat.le_of_ble_eq_true rfl⟩) hK hP hD hS hA [0, 1, 2, 3, 4, 5, 6, 7, 8, 9, 10, 11, 12, 13, 14, 15, 16, 17, 18, 19, 20] [] rfl rfl rfl rfl rfl (by decide) rfl rfl rfl rfl hl.1 (Nat.le_of_ble_eq_true rfl) dX7_line_62 (fun H locs hP hD hS => ?_)
          have hP : va_P D vwCl (wdX7 q y M_thrown M_text M_size M_has M_hand M_layers M_kinds M_names M_nameSizes M_thicknesses M_spreads M_coppers M_copperAt M_presses M_pressFrom M_pressTo M_vias_13 M_viaFrom_14 M_viaTo_15 M_shares M_lists M_hasRow M_rowLow M_rowHigh M_p_16 M_s M_fault_17 M_lines M_word_18 M_wordSize_19 M_out M_written M_secondOne_20) H := hP
          have hD : va_D A (wdX7 q y M_thrown M_text M_size M_has M_hand M_layers M_kinds M_names M_nameSizes M_thicknesses M_spreads M_coppers M_copperAt M_presses M_pressFrom M_pressTo M_vias_13 M_viaFrom_14 M_viaTo_15 M_shares M_lists M_hasRow M_rowLow M_rowHigh M_p_16 M_s M_fault_17 M_lines M_word_18 M_wordSize_19 M_out M_written M_secondOne_20) := hD
          have hz := Option.some.inj hm
          subst hz
          exact end_v C hK hP hD hS dX7_line_65
        · have hm := it_of hm h_12
          refine lv_aload_n hx hb dX7_line_52 rfl (lv_at hl 2 rfl) ?_
          refine lv_iload_n hx hb dX7_line_53 rfl (lv_at hl 1 rfl) ?_
          obtain ⟨M_presses_22, M_pressFrom_23, M_pressTo_24, M_p_25, M_fault_26, M_word_27, M_wordSize_28, M_secondOne_29, hc_30, hm⟩ := mb8_of hm
          refine call_vv (wc := (wdX7 q y M_thrown M_text M_size M_has M_hand M_layers M_kinds M_names M_nameSizes M_thicknesses M_spreads M_coppers M_copperAt M_presses M_pressFrom M_pressTo M_vias M_viaFrom M_viaTo M_shares M_lists M_hasRow M_rowLow M_rowHigh M_p_2 M_s M_fault_3 M_lines M_word M_wordSize M_out M_written M_secondOne)) (wr := []) (As := [.int M_p]) (rest := []) C (c_X7_pressLine l D y q _ F hc_30) (cwV 1 hts gX7_line_X7_pressLine rfl rfl rfl (by decide +kernel) ⟨Nat.le_of_ble_eq_true rfl, Nat.le_of_ble_eq_true rfl⟩) hK hP hD hS hA [0, 1, 2, 3, 4, 5, 6, 7, 8, 9, 10, 11, 12, 13, 14, 15, 16, 17, 18, 19, 20] [] rfl rfl rfl rfl rfl (by decide) rfl rfl rfl rfl hl.1 (Nat.le_of_ble_eq_true rfl) dX7_line_54 (fun H locs hP hD hS => ?_)
          have hP : va_P D vwCl (wdX7 q y M_thrown M_text M_size M_has M_hand M_layers M_kinds M_names M_nameSizes M_thicknesses M_spreads M_coppers M_copperAt M_presses_22 M_pressFrom_23 M_pressTo_24 M_vias M_viaFrom M_viaTo M_shares M_lists M_hasRow M_rowLow M_rowHigh M_p_25 M_s M_fault_26 M_lines M_word_27 M_wordSize_28 M_out M_written M_secondOne_29) H := hP
          have hD : va_D A (wdX7 q y M_thrown M_text M_size M_has M_hand M_layers M_kinds M_names M_nameSizes M_thicknesses M_spreads M_coppers M_copperAt M_presses_22 M_pressFrom_23 M_pressTo_24 M_vias M_viaFrom M_viaTo M_shares M_lists M_hasRow M_rowLow M_rowHigh M_p_25 M_s M_fault_26 M_lines M_word_27 M_wordSize_28 M_out M_written M_secondOne_29) := hD
          refine lv_goto (tgt := 65) hx hb dX7_line_57 (by decide) ?_
          have hz := Option.some.inj hm
          subst hz
          exact end_v C hK hP hD hS dX7_line_65
      · have hm := it_of hm h_11
        refine lv_aload_n hx hb dX7_line_39 rfl (lv_at hl 2 rfl) ?_
        refine lv_iload_n hx hb dX7_line_40 rfl (lv_at hl 1 rfl) ?_
        obtain ⟨M_fault_31, hc_32, hm⟩ := mb1_of hm
        refine call_vv (wc := (wdX7 q y M_thrown M_text M_size M_has M_hand M_layers M_kinds M_names M_nameSizes M_thicknesses M_spreads M_coppers M_copperAt M_presses M_pressFrom M_pressTo M_vias M_viaFrom M_viaTo M_shares M_lists M_hasRow M_rowLow M_rowHigh M_p_2 M_s M_fault_3 M_lines M_word M_wordSize M_out M_written M_secondOne)) (wr := []) (As := [.int M_p]) (rest := []) C (c_X7_fail l D y q _ F hc_32) (cwV 1 hts gX7_line_X7_fail rfl rfl rfl (by decide +kernel) ⟨Nat.le_of_ble_eq_true rfl, Nat.le_of_ble_eq_true rfl⟩) hK hP hD hS hA [0, 1, 2, 3, 4, 5, 6, 7, 8, 9, 10, 11, 12, 13, 14, 15, 16, 17, 18, 19, 20] [] rfl rfl rfl rfl rfl (by decide) rfl rfl rfl rfl hl.1 (Nat.le_of_ble_eq_true rfl) dX7_line_41 (fun H locs hP hD hS => ?_)
        have hP : va_P D vwCl (wdX7 q y M_thrown M_text M_size M_has M_hand M_layers M_kinds M_names M_nameSizes M_thicknesses M_spreads M_coppers M_copperAt M_presses M_pressFrom M_pressTo M_vias M_viaFrom M_viaTo M_shares M_lists M_hasRow M_rowLow M_rowHigh M_p_2 M_s M_fault_31 M_lines M_word M_wordSize M_out M_written M_secondOne) H := hP
        have hD : va_D A (wdX7 q y M_thrown M_text M_size M_has M_hand M_layers M_kinds M_names M_nameSizes M_thicknesses M_spreads M_coppers M_copperAt M_presses M_pressFrom M_pressTo M_vias M_viaFrom M_viaTo M_shares M_lists M_hasRow M_rowLow M_rowHigh M_p_2 M_s M_fault_31 M_lines M_word M_wordSize M_out M_written M_secondOne) := hD
        refine lv_goto (tgt := 65) hx hb dX7_line_44 (by decide) ?_
        have hz := Option.some.inj hm
        subst hz
        exact end_v C hK hP hD hS dX7_line_65
    · have hm := ie_of hm h_8
      refine lv_aload_n hx hb dX7_line_23 rfl (lv_at hl 2 rfl) ?_
      refine lv_iload_n hx hb dX7_line_24 rfl (lv_at hl 0 rfl) ?_
      refine lv_iload_n hx hb dX7_line_25 rfl (lv_at hl 1 rfl) ?_
      obtain ⟨M_layers_33, M_kinds_34, M_names_35, M_nameSizes_36, M_thicknesses_37, M_spreads_38, M_coppers_39, M_copperAt_40, M_p_41, M_fault_42, M_word_43, M_wordSize_44, hc_45, hm⟩ := mb12_of hm
      refine call_vv (wc := (wdX7 q y M_thrown M_text M_size M_has M_hand M_layers M_kinds M_names M_nameSizes M_thicknesses M_spreads M_coppers M_copperAt M_presses M_pressFrom M_pressTo M_vias M_viaFrom M_viaTo M_shares M_lists M_hasRow M_rowLow M_rowHigh M_p_2 M_s M_fault_3 M_lines M_word M_wordSize M_out M_written M_secondOne)) (wr := []) (As := [.int r_1, .int M_p]) (rest := []) C (c_X7_layerLine l D y q _ F hc_45) (cwV 2 hts gX7_line_X7_layerLine rfl rfl rfl (by decide +kernel) ⟨Nat.le_of_ble_eq_true rfl, Nat.le_of_ble_eq_true rfl⟩) hK hP hD hS hA [0, 1, 2, 3, 4, 5, 6, 7, 8, 9, 10, 11, 12, 13, 14, 15, 16, 17, 18, 19, 20] [] rfl rfl rfl rfl rfl (by decide) rfl rfl rfl rfl hl.1 (Nat.le_of_ble_eq_true rfl) dX7_line_26 (fun H locs hP hD hS => ?_)
      have hP : va_P D vwCl (wdX7 q y M_thrown M_text M_size M_has M_hand M_layers_33 M_kinds_34 M_names_35 M_nameSizes_36 M_thicknesses_37 M_spreads_38 M_coppers_39 M_copperAt_40 M_presses M_pressFrom M_pressTo M_vias M_viaFrom M_viaTo M_shares M_lists M_hasRow M_rowLow M_rowHigh M_p_41 M_s M_fault_42 M_lines M_word_43 M_wordSize_44 M_out M_written M_secondOne) H := hP
      have hD : va_D A (wdX7 q y M_thrown M_text M_size M_has M_hand M_layers_33 M_kinds_34 M_names_35 M_nameSizes_36 M_thicknesses_37 M_spreads_38 M_coppers_39 M_copperAt_40 M_presses M_pressFrom M_pressTo M_vias M_viaFrom M_viaTo M_shares M_lists M_hasRow M_rowLow M_rowHigh M_p_41 M_s M_fault_42 M_lines M_word_43 M_wordSize_44 M_out M_written M_secondOne) := hD
      refine lv_goto (tgt := 65) hx hb dX7_line_29 (by decide) ?_
      have hz := Option.some.inj hm
      subst hz
      exact end_v C hK hP hD hS dX7_line_65
  · have hm := it_of hm h_7
    have hz := Option.some.inj hm
    subst hz
    exact end_v C hK hP hD hS dX7_line_17
def g_X7_read_245 (F : Nat) : Nat → Int32 → Int32 → Int32 → Int32 → Int32 → (Nat → Int32) → (Nat → Int32) → (Nat → Int64) → (Nat → Int32) → (Nat → Int64) → (Nat → Int32) → (Nat → Int32) → (Nat → Int32) → (Nat → Int32) → (Nat → Int32) → (Nat → Int32) → (Nat → Int32) → (Nat → Int32) → (Nat → Int32) → (Nat → Int32) → Int32 → Int32 → Int32 → Int32 → Int64 → Int32 → Int32 → Option (Int32 × Int32 × Int32 × Int32 × Int32 × (Nat → Int32) × (Nat → Int32) × (Nat → Int64) × (Nat → Int32) × (Nat → Int64) × (Nat → Int32) × (Nat → Int32) × (Nat → Int32) × (Nat → Int32) × (Nat → Int32) × (Nat → Int32) × (Nat → Int32) × (Nat → Int32) × (Nat → Int32) × (Nat → Int32) × Int32 × Int32 × Int32 × Int32 × Int64 × Int32 × Int32)
  | 0, _, _, _, _, _, _, _, _, _, _, _, _, _, _, _, _, _, _, _, _, _, _, _, _, _, _, _ => none
  | n + 1, v2, M_thrown, M_size, M_has, M_hand, M_layers, M_kinds, M_names, M_nameSizes, M_thicknesses, M_spreads, M_coppers, M_copperAt, M_presses, M_pressFrom, M_pressTo, M_vias, M_viaFrom, M_viaTo, M_shares, M_lists, M_p, M_s, M_fault, M_word, M_wordSize, M_secondOne => (if (32 : Int32) ≤ v2 then mg (inb M_s 2) (some ((M_layers (M_s).toNatClampNeg), M_thrown, M_size, M_has, M_hand, M_layers, M_kinds, M_names, M_nameSizes, M_thicknesses, M_spreads, M_coppers, M_copperAt, M_presses, M_pressFrom, M_pressTo, M_vias, M_viaFrom, M_viaTo, M_shares, M_lists, M_p, M_s, M_fault, M_word, M_wordSize, M_secondOne)) else mg (inb v2 32) (mn (v2 + (1 : Int32)) (fun v2_4 => g_X7_read_245 F n v2_4 M_thrown M_size M_has M_hand M_layers M_kinds M_names M_nameSizes M_thicknesses M_spreads M_coppers M_copperAt M_presses M_pressFrom M_pressTo M_vias M_viaFrom M_viaTo (upd M_shares (v2).toNatClampNeg (1000 : Int32)) M_lists M_p M_s M_fault M_word M_wordSize M_secondOne)))
theorem g_X7_read_245_z (F : Nat) (v2 : Int32) (M_thrown : Int32) (M_size : Int32) (M_has : Int32) (M_hand : Int32) (M_layers : Nat → Int32) (M_kinds : Nat → Int32) (M_names : Nat → Int64) (M_nameSizes : Nat → Int32) (M_thicknesses : Nat → Int64) (M_spreads : Nat → Int32) (M_coppers : Nat → Int32) (M_copperAt : Nat → Int32) (M_presses : Nat → Int32) (M_pressFrom : Nat → Int32) (M_pressTo : Nat → Int32) (M_vias : Nat → Int32) (M_viaFrom : Nat → Int32) (M_viaTo : Nat → Int32) (M_shares : Nat → Int32) (M_lists : Int32) (M_p : Int32) (M_s : Int32) (M_fault : Int32) (M_word : Int64) (M_wordSize : Int32) (M_secondOne : Int32) : g_X7_read_245 F 0 v2 M_thrown M_size M_has M_hand M_layers M_kinds M_names M_nameSizes M_thicknesses M_spreads M_coppers M_copperAt M_presses M_pressFrom M_pressTo M_vias M_viaFrom M_viaTo M_shares M_lists M_p M_s M_fault M_word M_wordSize M_secondOne = none := rfl
theorem g_X7_read_245_s (F : Nat) (n : Nat) (v2 : Int32) (M_thrown : Int32) (M_size : Int32) (M_has : Int32) (M_hand : Int32) (M_layers : Nat → Int32) (M_kinds : Nat → Int32) (M_names : Nat → Int64) (M_nameSizes : Nat → Int32) (M_thicknesses : Nat → Int64) (M_spreads : Nat → Int32) (M_coppers : Nat → Int32) (M_copperAt : Nat → Int32) (M_presses : Nat → Int32) (M_pressFrom : Nat → Int32) (M_pressTo : Nat → Int32) (M_vias : Nat → Int32) (M_viaFrom : Nat → Int32) (M_viaTo : Nat → Int32) (M_shares : Nat → Int32) (M_lists : Int32) (M_p : Int32) (M_s : Int32) (M_fault : Int32) (M_word : Int64) (M_wordSize : Int32) (M_secondOne : Int32) : g_X7_read_245 F (n + 1) v2 M_thrown M_size M_has M_hand M_layers M_kinds M_names M_nameSizes M_thicknesses M_spreads M_coppers M_copperAt M_presses M_pressFrom M_pressTo M_vias M_viaFrom M_viaTo M_shares M_lists M_p M_s M_fault M_word M_wordSize M_secondOne = (if (32 : Int32) ≤ v2 then mg (inb M_s 2) (some ((M_layers (M_s).toNatClampNeg), M_thrown, M_size, M_has, M_hand, M_layers, M_kinds, M_names, M_nameSizes, M_thicknesses, M_spreads, M_coppers, M_copperAt, M_presses, M_pressFrom, M_pressTo, M_vias, M_viaFrom, M_viaTo, M_shares, M_lists, M_p, M_s, M_fault, M_word, M_wordSize, M_secondOne)) else mg (inb v2 32) (mn (v2 + (1 : Int32)) (fun v2_4 => g_X7_read_245 F n v2_4 M_thrown M_size M_has M_hand M_layers M_kinds M_names M_nameSizes M_thicknesses M_spreads M_coppers M_copperAt M_presses M_pressFrom M_pressTo M_vias M_viaFrom M_viaTo (upd M_shares (v2).toNatClampNeg (1000 : Int32)) M_lists M_p M_s M_fault M_word M_wordSize M_secondOne))) := rfl
def g_X7_read_220 (F : Nat) (M_thrown : Int32) (M_size : Int32) (M_has : Int32) (M_hand : Int32) (M_layers : Nat → Int32) (M_kinds : Nat → Int32) (M_names : Nat → Int64) (M_nameSizes : Nat → Int32) (M_thicknesses : Nat → Int64) (M_spreads : Nat → Int32) (M_coppers : Nat → Int32) (M_copperAt : Nat → Int32) (M_presses : Nat → Int32) (M_pressFrom : Nat → Int32) (M_pressTo : Nat → Int32) (M_vias : Nat → Int32) (M_viaFrom : Nat → Int32) (M_viaTo : Nat → Int32) (M_shares : Nat → Int32) (M_lists : Int32) (M_p : Int32) (M_s : Int32) (M_fault : Int32) (M_word : Int64) (M_wordSize : Int32) (M_secondOne : Int32) : Option (Int32 × Int32 × Int32 × Int32 × Int32 × (Nat → Int32) × (Nat → Int32) × (Nat → Int64) × (Nat → Int32) × (Nat → Int64) × (Nat → Int32) × (Nat → Int32) × (Nat → Int32) × (Nat → Int32) × (Nat → Int32) × (Nat → Int32) × (Nat → Int32) × (Nat → Int32) × (Nat → Int32) × (Nat → Int32) × Int32 × Int32 × Int32 × Int32 × Int64 × Int32 × Int32) := g_X7_read_245 F F (0 : Int32) M_thrown (0 : Int32) (1 : Int32) M_s M_layers M_kinds M_names M_nameSizes M_thicknesses M_spreads M_coppers M_copperAt M_presses M_pressFrom M_pressTo M_vias M_viaFrom M_viaTo M_shares (0 : Int32) M_p M_s M_fault M_word M_wordSize M_secondOne
def g_X7_read_136 (F : Nat) : Nat → Int32 → Int32 → Int32 → Int32 → Int32 → Int32 → (Nat → Int32) → (Nat → Int32) → (Nat → Int64) → (Nat → Int32) → (Nat → Int64) → (Nat → Int32) → (Nat → Int32) → (Nat → Int32) → (Nat → Int32) → (Nat → Int32) → (Nat → Int32) → (Nat → Int32) → (Nat → Int32) → (Nat → Int32) → (Nat → Int32) → Int32 → Int32 → Int32 → Int32 → Int64 → Int32 → Int32 → Option (Int32 × Int32 × Int32 × Int32 × Int32 × (Nat → Int32) × (Nat → Int32) × (Nat → Int64) × (Nat → Int32) × (Nat → Int64) × (Nat → Int32) × (Nat → Int32) × (Nat → Int32) × (Nat → Int32) × (Nat → Int32) × (Nat → Int32) × (Nat → Int32) × (Nat → Int32) × (Nat → Int32) × (Nat → Int32) × Int32 × Int32 × Int32 × Int32 × Int64 × Int32 × Int32)
  | 0, _, _, _, _, _, _, _, _, _, _, _, _, _, _, _, _, _, _, _, _, _, _, _, _, _, _, _, _ => none
  | n + 1, v1, v2, M_thrown, M_size, M_has, M_hand, M_layers, M_kinds, M_names, M_nameSizes, M_thicknesses, M_spreads, M_coppers, M_copperAt, M_presses, M_pressFrom, M_pressTo, M_vias, M_viaFrom, M_viaTo, M_shares, M_lists, M_p, M_s, M_fault, M_word, M_wordSize, M_secondOne => mg (inb M_s 2) ((if (((22 : Int32) * M_s) + (M_presses (M_s).toNatClampNeg)) ≤ v2 then (if v1 = 0 then mg (inb M_s 2) (mb3 (f_X7_keepPress F (0 : Int32) ((M_coppers (M_s).toNatClampNeg) - (1 : Int32)) M_presses M_pressFrom M_pressTo M_s) (fun M_presses_5 M_pressFrom_6 M_pressTo_7 => g_X7_read_220 F M_thrown M_size M_has M_hand M_layers M_kinds M_names M_nameSizes M_thicknesses M_spreads M_coppers M_copperAt M_presses_5 M_pressFrom_6 M_pressTo_7 M_vias M_viaFrom M_viaTo M_shares M_lists M_p M_s M_fault M_word M_wordSize M_secondOne)) else g_X7_read_220 F M_thrown M_size M_has M_hand M_layers M_kinds M_names M_nameSizes M_thicknesses M_spreads M_coppers M_copperAt M_presses M_pressFrom M_pressTo M_vias M_viaFrom M_viaTo M_shares M_lists M_p M_s M_fault M_word M_wordSize M_secondOne) else (if v1 = 0 then mg (inb v2 44) (mg (inb v2 44) (mg (inb M_s 2) ((if ((M_pressTo (v2).toNatClampNeg) - (M_pressFrom (v2).toNatClampNeg)) = ((M_coppers (M_s).toNatClampNeg) - (1 : Int32)) then mn (v2 + (1 : Int32)) (fun v2_16 => g_X7_read_136 F n (1 : Int32) v2_16 M_thrown M_size M_has M_hand M_layers M_kinds M_names M_nameSizes M_thicknesses M_spreads M_coppers M_copperAt M_presses M_pressFrom M_pressTo M_vias M_viaFrom M_viaTo M_shares M_lists M_p M_s M_fault M_word M_wordSize M_secondOne) else mn (v2 + (1 : Int32)) (fun v2_15 => g_X7_read_136 F n (0 : Int32) v2_15 M_thrown M_size M_has M_hand M_layers M_kinds M_names M_nameSizes M_thicknesses M_spreads M_coppers M_copperAt M_presses M_pressFrom M_pressTo M_vias M_viaFrom M_viaTo M_shares M_lists M_p M_s M_fault M_word M_wordSize M_secondOne))))) else mn (v2 + (1 : Int32)) (fun v2_10 => g_X7_read_136 F n (1 : Int32) v2_10 M_thrown M_size M_has M_hand M_layers M_kinds M_names M_nameSizes M_thicknesses M_spreads M_coppers M_copperAt M_presses M_pressFrom M_pressTo M_vias M_viaFrom M_viaTo M_shares M_lists M_p M_s M_fault M_word M_wordSize M_secondOne))))
theorem g_X7_read_136_z (F : Nat) (v1 : Int32) (v2 : Int32) (M_thrown : Int32) (M_size : Int32) (M_has : Int32) (M_hand : Int32) (M_layers : Nat → Int32) (M_kinds : Nat → Int32) (M_names : Nat → Int64) (M_nameSizes : Nat → Int32) (M_thicknesses : Nat → Int64) (M_spreads : Nat → Int32) (M_coppers : Nat → Int32) (M_copperAt : Nat → Int32) (M_presses : Nat → Int32) (M_pressFrom : Nat → Int32) (M_pressTo : Nat → Int32) (M_vias : Nat → Int32) (M_viaFrom : Nat → Int32) (M_viaTo : Nat → Int32) (M_shares : Nat → Int32) (M_lists : Int32) (M_p : Int32) (M_s : Int32) (M_fault : Int32) (M_word : Int64) (M_wordSize : Int32) (M_secondOne : Int32) : g_X7_read_136 F 0 v1 v2 M_thrown M_size M_has M_hand M_layers M_kinds M_names M_nameSizes M_thicknesses M_spreads M_coppers M_copperAt M_presses M_pressFrom M_pressTo M_vias M_viaFrom M_viaTo M_shares M_lists M_p M_s M_fault M_word M_wordSize M_secondOne = none := rfl
theorem g_X7_read_136_s (F : Nat) (n : Nat) (v1 : Int32) (v2 : Int32) (M_thrown : Int32) (M_size : Int32) (M_has : Int32) (M_hand : Int32) (M_layers : Nat → Int32) (M_kinds : Nat → Int32) (M_names : Nat → Int64) (M_nameSizes : Nat → Int32) (M_thicknesses : Nat → Int64) (M_spreads : Nat → Int32) (M_coppers : Nat → Int32) (M_copperAt : Nat → Int32) (M_presses : Nat → Int32) (M_pressFrom : Nat → Int32) (M_pressTo : Nat → Int32) (M_vias : Nat → Int32) (M_viaFrom : Nat → Int32) (M_viaTo : Nat → Int32) (M_shares : Nat → Int32) (M_lists : Int32) (M_p : Int32) (M_s : Int32) (M_fault : Int32) (M_word : Int64) (M_wordSize : Int32) (M_secondOne : Int32) : g_X7_read_136 F (n + 1) v1 v2 M_thrown M_size M_has M_hand M_layers M_kinds M_names M_nameSizes M_thicknesses M_spreads M_coppers M_copperAt M_presses M_pressFrom M_pressTo M_vias M_viaFrom M_viaTo M_shares M_lists M_p M_s M_fault M_word M_wordSize M_secondOne = mg (inb M_s 2) ((if (((22 : Int32) * M_s) + (M_presses (M_s).toNatClampNeg)) ≤ v2 then (if v1 = 0 then mg (inb M_s 2) (mb3 (f_X7_keepPress F (0 : Int32) ((M_coppers (M_s).toNatClampNeg) - (1 : Int32)) M_presses M_pressFrom M_pressTo M_s) (fun M_presses_5 M_pressFrom_6 M_pressTo_7 => g_X7_read_220 F M_thrown M_size M_has M_hand M_layers M_kinds M_names M_nameSizes M_thicknesses M_spreads M_coppers M_copperAt M_presses_5 M_pressFrom_6 M_pressTo_7 M_vias M_viaFrom M_viaTo M_shares M_lists M_p M_s M_fault M_word M_wordSize M_secondOne)) else g_X7_read_220 F M_thrown M_size M_has M_hand M_layers M_kinds M_names M_nameSizes M_thicknesses M_spreads M_coppers M_copperAt M_presses M_pressFrom M_pressTo M_vias M_viaFrom M_viaTo M_shares M_lists M_p M_s M_fault M_word M_wordSize M_secondOne) else (if v1 = 0 then mg (inb v2 44) (mg (inb v2 44) (mg (inb M_s 2) ((if ((M_pressTo (v2).toNatClampNeg) - (M_pressFrom (v2).toNatClampNeg)) = ((M_coppers (M_s).toNatClampNeg) - (1 : Int32)) then mn (v2 + (1 : Int32)) (fun v2_16 => g_X7_read_136 F n (1 : Int32) v2_16 M_thrown M_size M_has M_hand M_layers M_kinds M_names M_nameSizes M_thicknesses M_spreads M_coppers M_copperAt M_presses M_pressFrom M_pressTo M_vias M_viaFrom M_viaTo M_shares M_lists M_p M_s M_fault M_word M_wordSize M_secondOne) else mn (v2 + (1 : Int32)) (fun v2_15 => g_X7_read_136 F n (0 : Int32) v2_15 M_thrown M_size M_has M_hand M_layers M_kinds M_names M_nameSizes M_thicknesses M_spreads M_coppers M_copperAt M_presses M_pressFrom M_pressTo M_vias M_viaFrom M_viaTo M_shares M_lists M_p M_s M_fault M_word M_wordSize M_secondOne))))) else mn (v2 + (1 : Int32)) (fun v2_10 => g_X7_read_136 F n (1 : Int32) v2_10 M_thrown M_size M_has M_hand M_layers M_kinds M_names M_nameSizes M_thicknesses M_spreads M_coppers M_copperAt M_presses M_pressFrom M_pressTo M_vias M_viaFrom M_viaTo M_shares M_lists M_p M_s M_fault M_word M_wordSize M_secondOne)))) := rfl
def g_X7_read_112 (F : Nat) (M_thrown : Int32) (M_size : Int32) (M_has : Int32) (M_hand : Int32) (M_layers : Nat → Int32) (M_kinds : Nat → Int32) (M_names : Nat → Int64) (M_nameSizes : Nat → Int32) (M_thicknesses : Nat → Int64) (M_spreads : Nat → Int32) (M_coppers : Nat → Int32) (M_copperAt : Nat → Int32) (M_presses : Nat → Int32) (M_pressFrom : Nat → Int32) (M_pressTo : Nat → Int32) (M_vias : Nat → Int32) (M_viaFrom : Nat → Int32) (M_viaTo : Nat → Int32) (M_shares : Nat → Int32) (M_lists : Int32) (M_p : Int32) (M_s : Int32) (M_fault : Int32) (M_word : Int64) (M_wordSize : Int32) (M_secondOne : Int32) : Option (Int32 × Int32 × Int32 × Int32 × Int32 × (Nat → Int32) × (Nat → Int32) × (Nat → Int64) × (Nat → Int32) × (Nat → Int64) × (Nat → Int32) × (Nat → Int32) × (Nat → Int32) × (Nat → Int32) × (Nat → Int32) × (Nat → Int32) × (Nat → Int32) × (Nat → Int32) × (Nat → Int32) × (Nat → Int32) × Int32 × Int32 × Int32 × Int32 × Int64 × Int32 × Int32) := mb1 (f_X7_good F M_fault) (fun r_1 => (if r_1 = 0 then some (((-1 : Int32) - M_fault), M_thrown, M_size, M_has, M_hand, M_layers, M_kinds, M_names, M_nameSizes, M_thicknesses, M_spreads, M_coppers, M_copperAt, M_presses, M_pressFrom, M_pressTo, M_vias, M_viaFrom, M_viaTo, M_shares, M_lists, M_p, M_s, M_fault, M_word, M_wordSize, M_secondOne) else mn ((22 : Int32) * M_s) (fun v2_4 => g_X7_read_136 F F (0 : Int32) v2_4 M_thrown M_size M_has M_hand M_layers M_kinds M_names M_nameSizes M_thicknesses M_spreads M_coppers M_copperAt M_presses M_pressFrom M_pressTo M_vias M_viaFrom M_viaTo M_shares M_lists M_p M_s M_fault M_word M_wordSize M_secondOne)))
def g_X7_read_90 (F : Nat) (M_thrown : Int32) (M_size : Int32) (M_has : Int32) (M_hand : Int32) (M_layers : Nat → Int32) (M_kinds : Nat → Int32) (M_names : Nat → Int64) (M_nameSizes : Nat → Int32) (M_thicknesses : Nat → Int64) (M_spreads : Nat → Int32) (M_coppers : Nat → Int32) (M_copperAt : Nat → Int32) (M_presses : Nat → Int32) (M_pressFrom : Nat → Int32) (M_pressTo : Nat → Int32) (M_vias : Nat → Int32) (M_viaFrom : Nat → Int32) (M_viaTo : Nat → Int32) (M_shares : Nat → Int32) (M_lists : Int32) (M_p : Int32) (M_s : Int32) (M_fault : Int32) (M_word : Int64) (M_wordSize : Int32) (M_secondOne : Int32) : Option (Int32 × Int32 × Int32 × Int32 × Int32 × (Nat → Int32) × (Nat → Int32) × (Nat → Int64) × (Nat → Int32) × (Nat → Int64) × (Nat → Int32) × (Nat → Int32) × (Nat → Int32) × (Nat → Int32) × (Nat → Int32) × (Nat → Int32) × (Nat → Int32) × (Nat → Int32) × (Nat → Int32) × (Nat → Int32) × Int32 × Int32 × Int32 × Int32 × Int64 × Int32 × Int32) := mb1 (f_X7_good F M_fault) (fun r_1 => (if r_1 = 0 then g_X7_read_112 F M_thrown M_size M_has M_hand M_layers M_kinds M_names M_nameSizes M_thicknesses M_spreads M_coppers M_copperAt M_presses M_pressFrom M_pressTo M_vias M_viaFrom M_viaTo M_shares M_lists M_p M_s M_fault M_word M_wordSize M_secondOne else mb1 (f_X7_isWhole F M_layers M_kinds M_coppers M_s) (fun r_4 => (if r_4 = 0 then mb1 (f_X7_fail F M_size M_fault) (fun M_fault_7 => g_X7_read_112 F M_thrown M_size M_has M_hand M_layers M_kinds M_names M_nameSizes M_thicknesses M_spreads M_coppers M_copperAt M_presses M_pressFrom M_pressTo M_vias M_viaFrom M_viaTo M_shares M_lists M_p M_s M_fault_7 M_word M_wordSize M_secondOne) else g_X7_read_112 F M_thrown M_size M_has M_hand M_layers M_kinds M_names M_nameSizes M_thicknesses M_spreads M_coppers M_copperAt M_presses M_pressFrom M_pressTo M_vias M_viaFrom M_viaTo M_shares M_lists M_p M_s M_fault M_word M_wordSize M_secondOne))))
def g_X7_read_65 (F : Nat) : Nat → Int32 → (Nat → Int32) → Int32 → Int32 → Int32 → (Nat → Int32) → (Nat → Int32) → (Nat → Int64) → (Nat → Int32) → (Nat → Int64) → (Nat → Int32) → (Nat → Int32) → (Nat → Int32) → (Nat → Int32) → (Nat → Int32) → (Nat → Int32) → (Nat → Int32) → (Nat → Int32) → (Nat → Int32) → (Nat → Int32) → Int32 → Int32 → Int32 → Int32 → Int64 → Int32 → Int32 → Option (Int32 × Int32 × Int32 × Int32 × Int32 × (Nat → Int32) × (Nat → Int32) × (Nat → Int64) × (Nat → Int32) × (Nat → Int64) × (Nat → Int32) × (Nat → Int32) × (Nat → Int32) × (Nat → Int32) × (Nat → Int32) × (Nat → Int32) × (Nat → Int32) × (Nat → Int32) × (Nat → Int32) × (Nat → Int32) × Int32 × Int32 × Int32 × Int32 × Int64 × Int32 × Int32)
  | 0, _, _, _, _, _, _, _, _, _, _, _, _, _, _, _, _, _, _, _, _, _, _, _, _, _, _, _ => none
  | n + 1, M_thrown, M_text, M_size, M_has, M_hand, M_layers, M_kinds, M_names, M_nameSizes, M_thicknesses, M_spreads, M_coppers, M_copperAt, M_presses, M_pressFrom, M_pressTo, M_vias, M_viaFrom, M_viaTo, M_shares, M_lists, M_p, M_s, M_fault, M_word, M_wordSize, M_secondOne => mb1 (f_X7_good F M_fault) (fun r_1 => (if r_1 = 0 then g_X7_read_90 F M_thrown M_size M_has M_hand M_layers M_kinds M_names M_nameSizes M_thicknesses M_spreads M_coppers M_copperAt M_presses M_pressFrom M_pressTo M_vias M_viaFrom M_viaTo M_shares M_lists M_p M_s M_fault M_word M_wordSize M_secondOne else (if M_size ≤ M_p then g_X7_read_90 F M_thrown M_size M_has M_hand M_layers M_kinds M_names M_nameSizes M_thicknesses M_spreads M_coppers M_copperAt M_presses M_pressFrom M_pressTo M_vias M_viaFrom M_viaTo M_shares M_lists M_p M_s M_fault M_word M_wordSize M_secondOne else mb19 (f_X7_line F M_text M_size M_layers M_kinds M_names M_nameSizes M_thicknesses M_spreads M_coppers M_copperAt M_presses M_pressFrom M_pressTo M_vias M_viaFrom M_viaTo M_p M_s M_fault M_word M_wordSize M_secondOne) (fun M_layers_5 M_kinds_6 M_names_7 M_nameSizes_8 M_thicknesses_9 M_spreads_10 M_coppers_11 M_copperAt_12 M_presses_13 M_pressFrom_14 M_pressTo_15 M_vias_16 M_viaFrom_17 M_viaTo_18 M_p_19 M_fault_20 M_word_21 M_wordSize_22 M_secondOne_23 => g_X7_read_65 F n M_thrown M_text M_size M_has M_hand M_layers_5 M_kinds_6 M_names_7 M_nameSizes_8 M_thicknesses_9 M_spreads_10 M_coppers_11 M_copperAt_12 M_presses_13 M_pressFrom_14 M_pressTo_15 M_vias_16 M_viaFrom_17 M_viaTo_18 M_shares M_lists M_p_19 M_s M_fault_20 M_word_21 M_wordSize_22 M_secondOne_23))))
theorem g_X7_read_65_z (F : Nat) (M_thrown : Int32) (M_text : Nat → Int32) (M_size : Int32) (M_has : Int32) (M_hand : Int32) (M_layers : Nat → Int32) (M_kinds : Nat → Int32) (M_names : Nat → Int64) (M_nameSizes : Nat → Int32) (M_thicknesses : Nat → Int64) (M_spreads : Nat → Int32) (M_coppers : Nat → Int32) (M_copperAt : Nat → Int32) (M_presses : Nat → Int32) (M_pressFrom : Nat → Int32) (M_pressTo : Nat → Int32) (M_vias : Nat → Int32) (M_viaFrom : Nat → Int32) (M_viaTo : Nat → Int32) (M_shares : Nat → Int32) (M_lists : Int32) (M_p : Int32) (M_s : Int32) (M_fault : Int32) (M_word : Int64) (M_wordSize : Int32) (M_secondOne : Int32) : g_X7_read_65 F 0 M_thrown M_text M_size M_has M_hand M_layers M_kinds M_names M_nameSizes M_thicknesses M_spreads M_coppers M_copperAt M_presses M_pressFrom M_pressTo M_vias M_viaFrom M_viaTo M_shares M_lists M_p M_s M_fault M_word M_wordSize M_secondOne = none := rfl
theorem g_X7_read_65_s (F : Nat) (n : Nat) (M_thrown : Int32) (M_text : Nat → Int32) (M_size : Int32) (M_has : Int32) (M_hand : Int32) (M_layers : Nat → Int32) (M_kinds : Nat → Int32) (M_names : Nat → Int64) (M_nameSizes : Nat → Int32) (M_thicknesses : Nat → Int64) (M_spreads : Nat → Int32) (M_coppers : Nat → Int32) (M_copperAt : Nat → Int32) (M_presses : Nat → Int32) (M_pressFrom : Nat → Int32) (M_pressTo : Nat → Int32) (M_vias : Nat → Int32) (M_viaFrom : Nat → Int32) (M_viaTo : Nat → Int32) (M_shares : Nat → Int32) (M_lists : Int32) (M_p : Int32) (M_s : Int32) (M_fault : Int32) (M_word : Int64) (M_wordSize : Int32) (M_secondOne : Int32) : g_X7_read_65 F (n + 1) M_thrown M_text M_size M_has M_hand M_layers M_kinds M_names M_nameSizes M_thicknesses M_spreads M_coppers M_copperAt M_presses M_pressFrom M_pressTo M_vias M_viaFrom M_viaTo M_shares M_lists M_p M_s M_fault M_word M_wordSize M_secondOne = mb1 (f_X7_good F M_fault) (fun r_1 => (if r_1 = 0 then g_X7_read_90 F M_thrown M_size M_has M_hand M_layers M_kinds M_names M_nameSizes M_thicknesses M_spreads M_coppers M_copperAt M_presses M_pressFrom M_pressTo M_vias M_viaFrom M_viaTo M_shares M_lists M_p M_s M_fault M_word M_wordSize M_secondOne else (if M_size ≤ M_p then g_X7_read_90 F M_thrown M_size M_has M_hand M_layers M_kinds M_names M_nameSizes M_thicknesses M_spreads M_coppers M_copperAt M_presses M_pressFrom M_pressTo M_vias M_viaFrom M_viaTo M_shares M_lists M_p M_s M_fault M_word M_wordSize M_secondOne else mb19 (f_X7_line F M_text M_size M_layers M_kinds M_names M_nameSizes M_thicknesses M_spreads M_coppers M_copperAt M_presses M_pressFrom M_pressTo M_vias M_viaFrom M_viaTo M_p M_s M_fault M_word M_wordSize M_secondOne) (fun M_layers_5 M_kinds_6 M_names_7 M_nameSizes_8 M_thicknesses_9 M_spreads_10 M_coppers_11 M_copperAt_12 M_presses_13 M_pressFrom_14 M_pressTo_15 M_vias_16 M_viaFrom_17 M_viaTo_18 M_p_19 M_fault_20 M_word_21 M_wordSize_22 M_secondOne_23 => g_X7_read_65 F n M_thrown M_text M_size M_has M_hand M_layers_5 M_kinds_6 M_names_7 M_nameSizes_8 M_thicknesses_9 M_spreads_10 M_coppers_11 M_copperAt_12 M_presses_13 M_pressFrom_14 M_pressTo_15 M_vias_16 M_viaFrom_17 M_viaTo_18 M_shares M_lists M_p_19 M_s M_fault_20 M_word_21 M_wordSize_22 M_secondOne_23)))) := rfl
def f_X7_read (F : Nat) (M_thrown : Int32) (M_text : Nat → Int32) (M_size : Int32) (M_has : Int32) (M_hand : Int32) (M_layers : Nat → Int32) (M_kinds : Nat → Int32) (M_names : Nat → Int64) (M_nameSizes : Nat → Int32) (M_thicknesses : Nat → Int64) (M_spreads : Nat → Int32) (M_coppers : Nat → Int32) (M_copperAt : Nat → Int32) (M_presses : Nat → Int32) (M_pressFrom : Nat → Int32) (M_pressTo : Nat → Int32) (M_vias : Nat → Int32) (M_viaFrom : Nat → Int32) (M_viaTo : Nat → Int32) (M_shares : Nat → Int32) (M_lists : Int32) (M_p : Int32) (M_s : Int32) (M_fault : Int32) (M_word : Int64) (M_wordSize : Int32) (M_secondOne : Int32) : Option (Int32 × Int32 × Int32 × Int32 × Int32 × (Nat → Int32) × (Nat → Int32) × (Nat → Int64) × (Nat → Int32) × (Nat → Int64) × (Nat → Int32) × (Nat → Int32) × (Nat → Int32) × (Nat → Int32) × (Nat → Int32) × (Nat → Int32) × (Nat → Int32) × (Nat → Int32) × (Nat → Int32) × (Nat → Int32) × Int32 × Int32 × Int32 × Int32 × Int64 × Int32 × Int32) := mg (inb ((1 : Int32) - M_hand) 2) (mg (inb ((1 : Int32) - M_hand) 2) (mg (inb ((1 : Int32) - M_hand) 2) (mg (inb ((1 : Int32) - M_hand) 2) (g_X7_read_65 F F (0 : Int32) M_text M_size M_has M_hand (upd M_layers (((1 : Int32) - M_hand)).toNatClampNeg (0 : Int32)) M_kinds M_names M_nameSizes M_thicknesses M_spreads (upd M_coppers (((1 : Int32) - M_hand)).toNatClampNeg (0 : Int32)) M_copperAt (upd M_presses (((1 : Int32) - M_hand)).toNatClampNeg (0 : Int32)) M_pressFrom M_pressTo (upd M_vias (((1 : Int32) - M_hand)).toNatClampNeg (0 : Int32)) M_viaFrom M_viaTo M_shares M_lists (0 : Int32) ((1 : Int32) - M_hand) (-1 : Int32) M_word M_wordSize M_secondOne))))
set_option maxRecDepth 20000 in
theorem n_X7_read_X7 : ∀ w ∈ wsX70, w ∈ wsX7_read := by decide +kernel
set_option maxRecDepth 20000 in
theorem w_X7_read_f79 : Cond.fieldLink RX7 79 "LayerStacksModel" "p" "I" ∈ wsX7_read := by decide +kernel
set_option maxRecDepth 20000 in
theorem w_X7_read_f76 : Cond.fieldLink RX7 76 "LayerStacksModel" "size" "I" ∈ wsX7_read := by decide +kernel
set_option maxRecDepth 20000 in
theorem w_X7_read_f134 : Cond.fieldLink RX7 134 "LayerStacksModel" "s" "I" ∈ wsX7_read := by decide +kernel
set_option maxRecDepth 20000 in
theorem w_X7_read_f82 : Cond.fieldLink RX7 82 "LayerStacksModel" "fault" "I" ∈ wsX7_read := by decide +kernel
set_option maxRecDepth 20000 in
theorem w_X7_read_f38 : Cond.fieldLink RX7 38 "LayerStacksModel" "presses" "[I" ∈ wsX7_read := by decide +kernel
set_option maxRecDepth 20000 in
theorem w_X7_read_f32 : Cond.fieldLink RX7 32 "LayerStacksModel" "coppers" "[I" ∈ wsX7_read := by decide +kernel
set_option maxRecDepth 20000 in
theorem w_X7_read_f44 : Cond.fieldLink RX7 44 "LayerStacksModel" "pressTo" "[I" ∈ wsX7_read := by decide +kernel
set_option maxRecDepth 20000 in
theorem w_X7_read_f41 : Cond.fieldLink RX7 41 "LayerStacksModel" "pressFrom" "[I" ∈ wsX7_read := by decide +kernel
set_option maxRecDepth 20000 in
theorem w_X7_read_f195 : Cond.fieldLink RX7 195 "LayerStacksModel" "hand" "I" ∈ wsX7_read := by decide +kernel
set_option maxRecDepth 20000 in
theorem w_X7_read_f201 : Cond.fieldLink RX7 201 "LayerStacksModel" "has" "Z" ∈ wsX7_read := by decide +kernel
set_option maxRecDepth 20000 in
theorem w_X7_read_f205 : Cond.fieldLink RX7 205 "LayerStacksModel" "lists" "I" ∈ wsX7_read := by decide +kernel
set_option maxRecDepth 20000 in
theorem w_X7_read_f13 : Cond.fieldLink RX7 13 "LayerStacksModel" "layers" "[I" ∈ wsX7_read := by decide +kernel
set_option maxRecDepth 20000 in
theorem w_X7_read_f56 : Cond.fieldLink RX7 56 "LayerStacksModel" "shares" "[I" ∈ wsX7_read := by decide +kernel
set_option maxRecDepth 20000 in
theorem w_X7_read_f72 : Cond.fieldLink RX7 72 "LayerStacksModel" "thrown" "I" ∈ wsX7_read := by decide +kernel
set_option maxRecDepth 20000 in
theorem w_X7_read_f47 : Cond.fieldLink RX7 47 "LayerStacksModel" "vias" "[I" ∈ wsX7_read := by decide +kernel
set_option maxHeartbeats 4000000 in
set_option maxRecDepth 100000 in
theorem k_X7_read_245 {p : Program} {l : Launch} {e : Env} {s : State} {m : MethodId} {args : Array Value} {below : List Frame} {meth : Method} {c : Code} {D : va_G} {y : Nat → ClassId} {A : Nat → Prop} {q : Nat → Nat} {M_text : Nat → Int32} {M_hasRow : Nat → Int32} {M_rowLow : Nat → Int64} {M_rowHigh : Nat → Int64} {M_lines : Int32} {M_out : Nat → Int32} {M_written : Int32} {z : Int32 × Int32 × Int32 × Int32 × Int32 × (Nat → Int32) × (Nat → Int32) × (Nat → Int64) × (Nat → Int32) × (Nat → Int64) × (Nat → Int32) × (Nat → Int32) × (Nat → Int32) × (Nat → Int32) × (Nat → Int32) × (Nat → Int32) × (Nat → Int32) × (Nat → Int32) × (Nat → Int32) × (Nat → Int32) × Int32 × Int32 × Int32 × Int32 × Int64 × Int32 × Int32} (C : CX p s m args meth c wsX7_read RX7 cX7_read 3 (some .int)) (hA : ∀ q : Nat, s.heap.size ≤ q → A q) (hK : va_K D vwCl (tyl y) s) (F : Nat) :
    ∀ (n : Nat), ∀ (v2 : Int32) (M_thrown : Int32) (M_size : Int32) (M_has : Int32) (M_hand : Int32) (M_layers : Nat → Int32) (M_kinds : Nat → Int32) (M_names : Nat → Int64) (M_nameSizes : Nat → Int32) (M_thicknesses : Nat → Int64) (M_spreads : Nat → Int32) (M_coppers : Nat → Int32) (M_copperAt : Nat → Int32) (M_presses : Nat → Int32) (M_pressFrom : Nat → Int32) (M_pressTo : Nat → Int32) (M_vias : Nat → Int32) (M_viaFrom : Nat → Int32) (M_viaTo : Nat → Int32) (M_shares : Nat → Int32) (M_lists : Int32) (M_p : Int32) (M_s : Int32) (M_fault : Int32) (M_word : Int64) (M_wordSize : Int32) (M_secondOne : Int32) (H : Heap) (locs : List Loc) (ls : Array Slot), g_X7_read_245 F n v2 M_thrown M_size M_has M_hand M_layers M_kinds M_names M_nameSizes M_thicknesses M_spreads M_coppers M_copperAt M_presses M_pressFrom M_pressTo M_vias M_viaFrom M_viaTo M_shares M_lists M_p M_s M_fault M_word M_wordSize M_secondOne = some z → va_P D vwCl (wdX7 q y M_thrown M_text M_size M_has M_hand M_layers M_kinds M_names M_nameSizes M_thicknesses M_spreads M_coppers M_copperAt M_presses M_pressFrom M_pressTo M_vias M_viaFrom M_viaTo M_shares M_lists M_hasRow M_rowLow M_rowHigh M_p M_s M_fault M_lines M_word M_wordSize M_out M_written M_secondOne) H → va_D A (wdX7 q y M_thrown M_text M_size M_has M_hand M_layers M_kinds M_names M_nameSizes M_thicknesses M_spreads M_coppers M_copperAt M_presses M_pressFrom M_pressTo M_vias M_viaFrom M_viaTo M_shares M_lists M_hasRow M_rowLow M_rowHigh M_p M_s M_fault M_lines M_word M_wordSize M_out M_written M_secondOne) → va_S A s.heap H locs → lv_has ls 3 [(0, .ref (q 0)), (2, .int v2)] → W p l e ({ frames := 5, cells := 0, slots := 0, locals := 123 } : Room) s m args below meth c H locs 0 0 (MQ below (QI D y A (z.1) (wdX7 q y (z.2.1) M_text (z.2.2.1) (z.2.2.2.1) (z.2.2.2.2.1) (z.2.2.2.2.2.1) (z.2.2.2.2.2.2.1) (z.2.2.2.2.2.2.2.1) (z.2.2.2.2.2.2.2.2.1) (z.2.2.2.2.2.2.2.2.2.1) (z.2.2.2.2.2.2.2.2.2.2.1) (z.2.2.2.2.2.2.2.2.2.2.2.1) (z.2.2.2.2.2.2.2.2.2.2.2.2.1) (z.2.2.2.2.2.2.2.2.2.2.2.2.2.1) (z.2.2.2.2.2.2.2.2.2.2.2.2.2.2.1) (z.2.2.2.2.2.2.2.2.2.2.2.2.2.2.2.1) (z.2.2.2.2.2.2.2.2.2.2.2.2.2.2.2.2.1) (z.2.2.2.2.2.2.2.2.2.2.2.2.2.2.2.2.2.1) (z.2.2.2.2.2.2.2.2.2.2.2.2.2.2.2.2.2.2.1) (z.2.2.2.2.2.2.2.2.2.2.2.2.2.2.2.2.2.2.2.1) (z.2.2.2.2.2.2.2.2.2.2.2.2.2.2.2.2.2.2.2.2.1) M_hasRow M_rowLow M_rowHigh (z.2.2.2.2.2.2.2.2.2.2.2.2.2.2.2.2.2.2.2.2.2.1) (z.2.2.2.2.2.2.2.2.2.2.2.2.2.2.2.2.2.2.2.2.2.2.1) (z.2.2.2.2.2.2.2.2.2.2.2.2.2.2.2.2.2.2.2.2.2.2.2.1) M_lines (z.2.2.2.2.2.2.2.2.2.2.2.2.2.2.2.2.2.2.2.2.2.2.2.2.1) (z.2.2.2.2.2.2.2.2.2.2.2.2.2.2.2.2.2.2.2.2.2.2.2.2.2.1) M_out M_written (z.2.2.2.2.2.2.2.2.2.2.2.2.2.2.2.2.2.2.2.2.2.2.2.2.2.2))) args s 0 0 A) (F0 m 245 ls []) := by
  obtain ⟨⟨hx, hb, hml, hown, hts⟩, hr, hlocks⟩ := id C
  intro n
  induction n with
  | zero =>
    intro v2 M_thrown M_size M_has M_hand M_layers M_kinds M_names M_nameSizes M_thicknesses M_spreads M_coppers M_copperAt M_presses M_pressFrom M_pressTo M_vias M_viaFrom M_viaTo M_shares M_lists M_p M_s M_fault M_word M_wordSize M_secondOne H locs ls hm
    rw [g_X7_read_245_z] at hm
    cases hm
  | succ n ih =>
    intro v2 M_thrown M_size M_has M_hand M_layers M_kinds M_names M_nameSizes M_thicknesses M_spreads M_coppers M_copperAt M_presses M_pressFrom M_pressTo M_vias M_viaFrom M_viaTo M_shares M_lists M_p M_s M_fault M_word M_wordSize M_secondOne H locs ls hm hP hD hS hl
    rw [g_X7_read_245_s] at hm
    refine lv_iload_n hx hb dX7_read_245 rfl (lv_at hl 1 rfl) ?_
    refine lv_bipush (v := (32 : Int32)) hx hb dX7_read_246 (by decide) ?_
    refine lv_icmp_ge (tgt := 266) hx hb dX7_read_248 (by decide) (fun h_1 => ?_) (fun h_1 => ?_)
    · have hm := it_of hm h_1
      refine lv_aload_n hx hb dX7_read_266 rfl (lv_at hl 0 rfl) ?_
      refine va_get (D := D) (ci := 7) (v := .ref (q 2)) (C := RX7) (T := TX7) (N := 33) hx hb hts n_X7_read_X7 hown hK hP 0 rfl rfl 5 (by decide) (hts _ w_X7_read_f13) (fun _ h9 => h9) rfl dX7_read_267 ?_
      refine lv_aload_n hx hb dX7_read_270 rfl (lv_at hl 0 rfl) ?_
      refine va_get (D := D) (ci := 7) (v := .int M_s) (C := RX7) (T := TX7) (N := 33) hx hb hts n_X7_read_X7 hown hK hP 0 rfl rfl 25 (by decide) (hts _ w_X7_read_f134) (fun _ h9 => h9) rfl dX7_read_271 ?_
      obtain ⟨hg_2, hm⟩ := mg_of hm
      refine va_iald hx hb hK hP 2 0 rfl rfl hg_2 dX7_read_274 ?_
      have hz := Option.some.inj hm
      subst hz
      exact end_i C hK hP hD hS dX7_read_275
    · have hm := ie_of hm h_1
      refine lv_aload_n hx hb dX7_read_251 rfl (lv_at hl 0 rfl) ?_
      refine va_get (D := D) (ci := 7) (v := .ref (q 16)) (C := RX7) (T := TX7) (N := 33) hx hb hts n_X7_read_X7 hown hK hP 0 rfl rfl 19 (by decide) (hts _ w_X7_read_f56) (fun _ h9 => h9) rfl dX7_read_252 ?_
      refine lv_iload_n hx hb dX7_read_255 rfl (lv_at hl 1 rfl) ?_
      refine lv_sipush (v := (1000 : Int32)) hx hb dX7_read_256 (by decide) ?_
      obtain ⟨hg_3, hm⟩ := mg_of hm
      refine va_iast hx hb hK hP hD hS 16 0 rfl rfl hg_3 dX7_read_259 (fun H locs hP hD hS => ?_)
      have hP : va_P D vwCl (wdX7 q y M_thrown M_text M_size M_has M_hand M_layers M_kinds M_names M_nameSizes M_thicknesses M_spreads M_coppers M_copperAt M_presses M_pressFrom M_pressTo M_vias M_viaFrom M_viaTo (upd M_shares (v2).toNatClampNeg (1000 : Int32)) M_lists M_hasRow M_rowLow M_rowHigh M_p M_s M_fault M_lines M_word M_wordSize M_out M_written M_secondOne) H := hP
      have hD : va_D A (wdX7 q y M_thrown M_text M_size M_has M_hand M_layers M_kinds M_names M_nameSizes M_thicknesses M_spreads M_coppers M_copperAt M_presses M_pressFrom M_pressTo M_vias M_viaFrom M_viaTo (upd M_shares (v2).toNatClampNeg (1000 : Int32)) M_lists M_hasRow M_rowLow M_rowHigh M_p M_s M_fault M_lines M_word M_wordSize M_out M_written M_secondOne) := hD
      obtain ⟨v2_4, ev2_4⟩ : ∃ y9 : Int32, y9 = (v2 + (1 : Int32)) := ⟨_, rfl⟩
      have hm := mn_of ev2_4 hm
      refine lv_iinc (v := v2_4) (lv' := [(2, .int v2_4), (0, .ref (q 0))]) hx hb dX7_read_260 hl (k := 1) rfl (by rw [ev2_4]; rfl) (by decide) rfl (fun ls hl => ?_)
      refine lv_goto (tgt := 245) hx hb dX7_read_263 (by decide) ?_
      exact ih v2_4 M_thrown M_size M_has M_hand M_layers M_kinds M_names M_nameSizes M_thicknesses M_spreads M_coppers M_copperAt M_presses M_pressFrom M_pressTo M_vias M_viaFrom M_viaTo (upd M_shares (v2).toNatClampNeg (1000 : Int32)) M_lists M_p M_s M_fault M_word M_wordSize M_secondOne _ _ _ hm hP hD hS (lv_sub hl [1, 0] rfl)
set_option maxHeartbeats 4000000 in
set_option maxRecDepth 100000 in
theorem k_X7_read_220 {p : Program} {l : Launch} {e : Env} {s : State} {m : MethodId} {args : Array Value} {below : List Frame} {meth : Method} {c : Code} {D : va_G} {y : Nat → ClassId} {A : Nat → Prop} {q : Nat → Nat} {M_text : Nat → Int32} {M_hasRow : Nat → Int32} {M_rowLow : Nat → Int64} {M_rowHigh : Nat → Int64} {M_lines : Int32} {M_out : Nat → Int32} {M_written : Int32} {z : Int32 × Int32 × Int32 × Int32 × Int32 × (Nat → Int32) × (Nat → Int32) × (Nat → Int64) × (Nat → Int32) × (Nat → Int64) × (Nat → Int32) × (Nat → Int32) × (Nat → Int32) × (Nat → Int32) × (Nat → Int32) × (Nat → Int32) × (Nat → Int32) × (Nat → Int32) × (Nat → Int32) × (Nat → Int32) × Int32 × Int32 × Int32 × Int32 × Int64 × Int32 × Int32} (C : CX p s m args meth c wsX7_read RX7 cX7_read 3 (some .int)) (hA : ∀ q : Nat, s.heap.size ≤ q → A q) (hK : va_K D vwCl (tyl y) s) (F : Nat) :
    ∀ (M_thrown : Int32) (M_size : Int32) (M_has : Int32) (M_hand : Int32) (M_layers : Nat → Int32) (M_kinds : Nat → Int32) (M_names : Nat → Int64) (M_nameSizes : Nat → Int32) (M_thicknesses : Nat → Int64) (M_spreads : Nat → Int32) (M_coppers : Nat → Int32) (M_copperAt : Nat → Int32) (M_presses : Nat → Int32) (M_pressFrom : Nat → Int32) (M_pressTo : Nat → Int32) (M_vias : Nat → Int32) (M_viaFrom : Nat → Int32) (M_viaTo : Nat → Int32) (M_shares : Nat → Int32) (M_lists : Int32) (M_p : Int32) (M_s : Int32) (M_fault : Int32) (M_word : Int64) (M_wordSize : Int32) (M_secondOne : Int32) (H : Heap) (locs : List Loc) (ls : Array Slot), g_X7_read_220 F M_thrown M_size M_has M_hand M_layers M_kinds M_names M_nameSizes M_thicknesses M_spreads M_coppers M_copperAt M_presses M_pressFrom M_pressTo M_vias M_viaFrom M_viaTo M_shares M_lists M_p M_s M_fault M_word M_wordSize M_secondOne = some z → va_P D vwCl (wdX7 q y M_thrown M_text M_size M_has M_hand M_layers M_kinds M_names M_nameSizes M_thicknesses M_spreads M_coppers M_copperAt M_presses M_pressFrom M_pressTo M_vias M_viaFrom M_viaTo M_shares M_lists M_hasRow M_rowLow M_rowHigh M_p M_s M_fault M_lines M_word M_wordSize M_out M_written M_secondOne) H → va_D A (wdX7 q y M_thrown M_text M_size M_has M_hand M_layers M_kinds M_names M_nameSizes M_thicknesses M_spreads M_coppers M_copperAt M_presses M_pressFrom M_pressTo M_vias M_viaFrom M_viaTo M_shares M_lists M_hasRow M_rowLow M_rowHigh M_p M_s M_fault M_lines M_word M_wordSize M_out M_written M_secondOne) → va_S A s.heap H locs → lv_has ls 3 [(0, .ref (q 0))] → W p l e ({ frames := 5, cells := 0, slots := 0, locals := 123 } : Room) s m args below meth c H locs 0 0 (MQ below (QI D y A (z.1) (wdX7 q y (z.2.1) M_text (z.2.2.1) (z.2.2.2.1) (z.2.2.2.2.1) (z.2.2.2.2.2.1) (z.2.2.2.2.2.2.1) (z.2.2.2.2.2.2.2.1) (z.2.2.2.2.2.2.2.2.1) (z.2.2.2.2.2.2.2.2.2.1) (z.2.2.2.2.2.2.2.2.2.2.1) (z.2.2.2.2.2.2.2.2.2.2.2.1) (z.2.2.2.2.2.2.2.2.2.2.2.2.1) (z.2.2.2.2.2.2.2.2.2.2.2.2.2.1) (z.2.2.2.2.2.2.2.2.2.2.2.2.2.2.1) (z.2.2.2.2.2.2.2.2.2.2.2.2.2.2.2.1) (z.2.2.2.2.2.2.2.2.2.2.2.2.2.2.2.2.1) (z.2.2.2.2.2.2.2.2.2.2.2.2.2.2.2.2.2.1) (z.2.2.2.2.2.2.2.2.2.2.2.2.2.2.2.2.2.2.1) (z.2.2.2.2.2.2.2.2.2.2.2.2.2.2.2.2.2.2.2.1) (z.2.2.2.2.2.2.2.2.2.2.2.2.2.2.2.2.2.2.2.2.1) M_hasRow M_rowLow M_rowHigh (z.2.2.2.2.2.2.2.2.2.2.2.2.2.2.2.2.2.2.2.2.2.1) (z.2.2.2.2.2.2.2.2.2.2.2.2.2.2.2.2.2.2.2.2.2.2.1) (z.2.2.2.2.2.2.2.2.2.2.2.2.2.2.2.2.2.2.2.2.2.2.2.1) M_lines (z.2.2.2.2.2.2.2.2.2.2.2.2.2.2.2.2.2.2.2.2.2.2.2.2.1) (z.2.2.2.2.2.2.2.2.2.2.2.2.2.2.2.2.2.2.2.2.2.2.2.2.2.1) M_out M_written (z.2.2.2.2.2.2.2.2.2.2.2.2.2.2.2.2.2.2.2.2.2.2.2.2.2.2))) args s 0 0 A) (F0 m 220 ls []) := by
  obtain ⟨⟨hx, hb, hml, hown, hts⟩, hr, hlocks⟩ := id C
  intro M_thrown M_size M_has M_hand M_layers M_kinds M_names M_nameSizes M_thicknesses M_spreads M_coppers M_copperAt M_presses M_pressFrom M_pressTo M_vias M_viaFrom M_viaTo M_shares M_lists M_p M_s M_fault M_word M_wordSize M_secondOne H locs ls hm hP hD hS hl
  unfold g_X7_read_220 at hm
  refine lv_aload_n hx hb dX7_read_220 rfl (lv_at hl 0 rfl) ?_
  refine lv_aload_n hx hb dX7_read_221 rfl (lv_at hl 0 rfl) ?_
  refine va_get (D := D) (ci := 7) (v := .int M_s) (C := RX7) (T := TX7) (N := 33) hx hb hts n_X7_read_X7 hown hK hP 0 rfl rfl 25 (by decide) (hts _ w_X7_read_f134) (fun _ h9 => h9) rfl dX7_read_222 ?_
  refine va_put (D := D) (ci := 7) (v := .int M_s) (ty := .int) (C := RX7) (T := TX7) (N := 33) hx hb hts n_X7_read_X7 tyX7 tyX7_ok nmX7 hown hK hP hD hS 0 rfl rfl 4 (by decide) (hts _ w_X7_read_f195) (fun _ h9 => h9) rfl (by decide +kernel) rfl rfl (Nat.le_of_ble_eq_true rfl) dX7_read_225 (fun H locs hP hD hS => ?_)
  have hP : va_P D vwCl (wdX7 q y M_thrown M_text M_size M_has M_s M_layers M_kinds M_names M_nameSizes M_thicknesses M_spreads M_coppers M_copperAt M_presses M_pressFrom M_pressTo M_vias M_viaFrom M_viaTo M_shares M_lists M_hasRow M_rowLow M_rowHigh M_p M_s M_fault M_lines M_word M_wordSize M_out M_written M_secondOne) H := hP
  have hD : va_D A (wdX7 q y M_thrown M_text M_size M_has M_s M_layers M_kinds M_names M_nameSizes M_thicknesses M_spreads M_coppers M_copperAt M_presses M_pressFrom M_pressTo M_vias M_viaFrom M_viaTo M_shares M_lists M_hasRow M_rowLow M_rowHigh M_p M_s M_fault M_lines M_word M_wordSize M_out M_written M_secondOne) := hD
  refine lv_aload_n hx hb dX7_read_228 rfl (lv_at hl 0 rfl) ?_
  refine lv_iconst (v := (1 : Int32)) hx hb dX7_read_229 (by decide) ?_
  refine va_put (D := D) (ci := 7) (v := .int (1 : Int32)) (ty := .boolean) (C := RX7) (T := TX7) (N := 33) hx hb hts n_X7_read_X7 tyX7 tyX7_ok nmX7 hown hK hP hD hS 0 rfl rfl 3 (by decide) (hts _ w_X7_read_f201) (fun _ h9 => h9) rfl (by decide +kernel) rfl rfl (Nat.le_of_ble_eq_true rfl) dX7_read_230 (fun H locs hP hD hS => ?_)
  have hP : va_P D vwCl (wdX7 q y M_thrown M_text M_size (1 : Int32) M_s M_layers M_kinds M_names M_nameSizes M_thicknesses M_spreads M_coppers M_copperAt M_presses M_pressFrom M_pressTo M_vias M_viaFrom M_viaTo M_shares M_lists M_hasRow M_rowLow M_rowHigh M_p M_s M_fault M_lines M_word M_wordSize M_out M_written M_secondOne) H := hP
  have hD : va_D A (wdX7 q y M_thrown M_text M_size (1 : Int32) M_s M_layers M_kinds M_names M_nameSizes M_thicknesses M_spreads M_coppers M_copperAt M_presses M_pressFrom M_pressTo M_vias M_viaFrom M_viaTo M_shares M_lists M_hasRow M_rowLow M_rowHigh M_p M_s M_fault M_lines M_word M_wordSize M_out M_written M_secondOne) := hD
  refine lv_aload_n hx hb dX7_read_233 rfl (lv_at hl 0 rfl) ?_
  refine lv_iconst (v := (0 : Int32)) hx hb dX7_read_234 (by decide) ?_
  refine va_put (D := D) (ci := 7) (v := .int (0 : Int32)) (ty := .int) (C := RX7) (T := TX7) (N := 33) hx hb hts n_X7_read_X7 tyX7 tyX7_ok nmX7 hown hK hP hD hS 0 rfl rfl 2 (by decide) (hts _ w_X7_read_f76) (fun _ h9 => h9) rfl (by decide +kernel) rfl rfl (Nat.le_of_ble_eq_true rfl) dX7_read_235 (fun H locs hP hD hS => ?_)
  have hP : va_P D vwCl (wdX7 q y M_thrown M_text (0 : Int32) (1 : Int32) M_s M_layers M_kinds M_names M_nameSizes M_thicknesses M_spreads M_coppers M_copperAt M_presses M_pressFrom M_pressTo M_vias M_viaFrom M_viaTo M_shares M_lists M_hasRow M_rowLow M_rowHigh M_p M_s M_fault M_lines M_word M_wordSize M_out M_written M_secondOne) H := hP
  have hD : va_D A (wdX7 q y M_thrown M_text (0 : Int32) (1 : Int32) M_s M_layers M_kinds M_names M_nameSizes M_thicknesses M_spreads M_coppers M_copperAt M_presses M_pressFrom M_pressTo M_vias M_viaFrom M_viaTo M_shares M_lists M_hasRow M_rowLow M_rowHigh M_p M_s M_fault M_lines M_word M_wordSize M_out M_written M_secondOne) := hD
  refine lv_aload_n hx hb dX7_read_238 rfl (lv_at hl 0 rfl) ?_
  refine lv_iconst (v := (0 : Int32)) hx hb dX7_read_239 (by decide) ?_
  refine va_put (D := D) (ci := 7) (v := .int (0 : Int32)) (ty := .int) (C := RX7) (T := TX7) (N := 33) hx hb hts n_X7_read_X7 tyX7 tyX7_ok nmX7 hown hK hP hD hS 0 rfl rfl 20 (by decide) (hts _ w_X7_read_f205) (fun _ h9 => h9) rfl (by decide +kernel) rfl rfl (Nat.le_of_ble_eq_true rfl) dX7_read_240 (fun H locs hP hD hS => ?_)
  have hP : va_P D vwCl (wdX7 q y M_thrown M_text (0 : Int32) (1 : Int32) M_s M_layers M_kinds M_names M_nameSizes M_thicknesses M_spreads M_coppers M_copperAt M_presses M_pressFrom M_pressTo M_vias M_viaFrom M_viaTo M_shares (0 : Int32) M_hasRow M_rowLow M_rowHigh M_p M_s M_fault M_lines M_word M_wordSize M_out M_written M_secondOne) H := hP
  have hD : va_D A (wdX7 q y M_thrown M_text (0 : Int32) (1 : Int32) M_s M_layers M_kinds M_names M_nameSizes M_thicknesses M_spreads M_coppers M_copperAt M_presses M_pressFrom M_pressTo M_vias M_viaFrom M_viaTo M_shares (0 : Int32) M_hasRow M_rowLow M_rowHigh M_p M_s M_fault M_lines M_word M_wordSize M_out M_written M_secondOne) := hD
  refine lv_iconst (v := (0 : Int32)) hx hb dX7_read_243 (by decide) ?_
  refine lv_istore_n (lv' := [(2, .int (0 : Int32)), (0, .ref (q 0))]) hx hb dX7_read_244 rfl hl (by decide) rfl (fun ls hl => ?_)
  exact k_X7_read_245 C hA hK F F (0 : Int32) M_thrown (0 : Int32) (1 : Int32) M_s M_layers M_kinds M_names M_nameSizes M_thicknesses M_spreads M_coppers M_copperAt M_presses M_pressFrom M_pressTo M_vias M_viaFrom M_viaTo M_shares (0 : Int32) M_p M_s M_fault M_word M_wordSize M_secondOne _ _ _ hm hP hD hS (lv_sub hl [1, 0] rfl)
set_option maxHeartbeats 4000000 in
set_option maxRecDepth 100000 in
theorem k_X7_read_136 {p : Program} {l : Launch} {e : Env} {s : State} {m : MethodId} {args : Array Value} {below : List Frame} {meth : Method} {c : Code} {D : va_G} {y : Nat → ClassId} {A : Nat → Prop} {q : Nat → Nat} {M_text : Nat → Int32} {M_hasRow : Nat → Int32} {M_rowLow : Nat → Int64} {M_rowHigh : Nat → Int64} {M_lines : Int32} {M_out : Nat → Int32} {M_written : Int32} {z : Int32 × Int32 × Int32 × Int32 × Int32 × (Nat → Int32) × (Nat → Int32) × (Nat → Int64) × (Nat → Int32) × (Nat → Int64) × (Nat → Int32) × (Nat → Int32) × (Nat → Int32) × (Nat → Int32) × (Nat → Int32) × (Nat → Int32) × (Nat → Int32) × (Nat → Int32) × (Nat → Int32) × (Nat → Int32) × Int32 × Int32 × Int32 × Int32 × Int64 × Int32 × Int32} (C : CX p s m args meth c wsX7_read RX7 cX7_read 3 (some .int)) (hA : ∀ q : Nat, s.heap.size ≤ q → A q) (hK : va_K D vwCl (tyl y) s) (F : Nat) :
    ∀ (n : Nat), ∀ (v1 : Int32) (v2 : Int32) (M_thrown : Int32) (M_size : Int32) (M_has : Int32) (M_hand : Int32) (M_layers : Nat → Int32) (M_kinds : Nat → Int32) (M_names : Nat → Int64) (M_nameSizes : Nat → Int32) (M_thicknesses : Nat → Int64) (M_spreads : Nat → Int32) (M_coppers : Nat → Int32) (M_copperAt : Nat → Int32) (M_presses : Nat → Int32) (M_pressFrom : Nat → Int32) (M_pressTo : Nat → Int32) (M_vias : Nat → Int32) (M_viaFrom : Nat → Int32) (M_viaTo : Nat → Int32) (M_shares : Nat → Int32) (M_lists : Int32) (M_p : Int32) (M_s : Int32) (M_fault : Int32) (M_word : Int64) (M_wordSize : Int32) (M_secondOne : Int32) (H : Heap) (locs : List Loc) (ls : Array Slot), g_X7_read_136 F n v1 v2 M_thrown M_size M_has M_hand M_layers M_kinds M_names M_nameSizes M_thicknesses M_spreads M_coppers M_copperAt M_presses M_pressFrom M_pressTo M_vias M_viaFrom M_viaTo M_shares M_lists M_p M_s M_fault M_word M_wordSize M_secondOne = some z → va_P D vwCl (wdX7 q y M_thrown M_text M_size M_has M_hand M_layers M_kinds M_names M_nameSizes M_thicknesses M_spreads M_coppers M_copperAt M_presses M_pressFrom M_pressTo M_vias M_viaFrom M_viaTo M_shares M_lists M_hasRow M_rowLow M_rowHigh M_p M_s M_fault M_lines M_word M_wordSize M_out M_written M_secondOne) H → va_D A (wdX7 q y M_thrown M_text M_size M_has M_hand M_layers M_kinds M_names M_nameSizes M_thicknesses M_spreads M_coppers M_copperAt M_presses M_pressFrom M_pressTo M_vias M_viaFrom M_viaTo M_shares M_lists M_hasRow M_rowLow M_rowHigh M_p M_s M_fault M_lines M_word M_wordSize M_out M_written M_secondOne) → va_S A s.heap H locs → lv_has ls 3 [(0, .ref (q 0)), (1, .int v1), (2, .int v2)] → W p l e ({ frames := 5, cells := 0, slots := 0, locals := 123 } : Room) s m args below meth c H locs 0 0 (MQ below (QI D y A (z.1) (wdX7 q y (z.2.1) M_text (z.2.2.1) (z.2.2.2.1) (z.2.2.2.2.1) (z.2.2.2.2.2.1) (z.2.2.2.2.2.2.1) (z.2.2.2.2.2.2.2.1) (z.2.2.2.2.2.2.2.2.1) (z.2.2.2.2.2.2.2.2.2.1) (z.2.2.2.2.2.2.2.2.2.2.1) (z.2.2.2.2.2.2.2.2.2.2.2.1) (z.2.2.2.2.2.2.2.2.2.2.2.2.1) (z.2.2.2.2.2.2.2.2.2.2.2.2.2.1) (z.2.2.2.2.2.2.2.2.2.2.2.2.2.2.1) (z.2.2.2.2.2.2.2.2.2.2.2.2.2.2.2.1) (z.2.2.2.2.2.2.2.2.2.2.2.2.2.2.2.2.1) (z.2.2.2.2.2.2.2.2.2.2.2.2.2.2.2.2.2.1) (z.2.2.2.2.2.2.2.2.2.2.2.2.2.2.2.2.2.2.1) (z.2.2.2.2.2.2.2.2.2.2.2.2.2.2.2.2.2.2.2.1) (z.2.2.2.2.2.2.2.2.2.2.2.2.2.2.2.2.2.2.2.2.1) M_hasRow M_rowLow M_rowHigh (z.2.2.2.2.2.2.2.2.2.2.2.2.2.2.2.2.2.2.2.2.2.1) (z.2.2.2.2.2.2.2.2.2.2.2.2.2.2.2.2.2.2.2.2.2.2.1) (z.2.2.2.2.2.2.2.2.2.2.2.2.2.2.2.2.2.2.2.2.2.2.2.1) M_lines (z.2.2.2.2.2.2.2.2.2.2.2.2.2.2.2.2.2.2.2.2.2.2.2.2.1) (z.2.2.2.2.2.2.2.2.2.2.2.2.2.2.2.2.2.2.2.2.2.2.2.2.2.1) M_out M_written (z.2.2.2.2.2.2.2.2.2.2.2.2.2.2.2.2.2.2.2.2.2.2.2.2.2.2))) args s 0 0 A) (F0 m 136 ls []) := by
  obtain ⟨⟨hx, hb, hml, hown, hts⟩, hr, hlocks⟩ := id C
  intro n
  induction n with
  | zero =>
    intro v1 v2 M_thrown M_size M_has M_hand M_layers M_kinds M_names M_nameSizes M_thicknesses M_spreads M_coppers M_copperAt M_presses M_pressFrom M_pressTo M_vias M_viaFrom M_viaTo M_shares M_lists M_p M_s M_fault M_word M_wordSize M_secondOne H locs ls hm
    rw [g_X7_read_136_z] at hm
    cases hm
  | succ n ih =>
    intro v1 v2 M_thrown M_size M_has M_hand M_layers M_kinds M_names M_nameSizes M_thicknesses M_spreads M_coppers M_copperAt M_presses M_pressFrom M_pressTo M_vias M_viaFrom M_viaTo M_shares M_lists M_p M_s M_fault M_word M_wordSize M_secondOne H locs ls hm hP hD hS hl
    rw [g_X7_read_136_s] at hm
    refine lv_iload_n hx hb dX7_read_136 rfl (lv_at hl 2 rfl) ?_
    refine lv_bipush (v := (22 : Int32)) hx hb dX7_read_137 (by decide) ?_
    refine lv_aload_n hx hb dX7_read_139 rfl (lv_at hl 0 rfl) ?_
    refine va_get (D := D) (ci := 7) (v := .int M_s) (C := RX7) (T := TX7) (N := 33) hx hb hts n_X7_read_X7 hown hK hP 0 rfl rfl 25 (by decide) (hts _ w_X7_read_f134) (fun _ h9 => h9) rfl dX7_read_140 ?_
    refine lv_imul hx hb dX7_read_143 ?_
    refine lv_aload_n hx hb dX7_read_144 rfl (lv_at hl 0 rfl) ?_
    refine va_get (D := D) (ci := 7) (v := .ref (q 10)) (C := RX7) (T := TX7) (N := 33) hx hb hts n_X7_read_X7 hown hK hP 0 rfl rfl 13 (by decide) (hts _ w_X7_read_f38) (fun _ h9 => h9) rfl dX7_read_145 ?_
    refine lv_aload_n hx hb dX7_read_148 rfl (lv_at hl 0 rfl) ?_
    refine va_get (D := D) (ci := 7) (v := .int M_s) (C := RX7) (T := TX7) (N := 33) hx hb hts n_X7_read_X7 hown hK hP 0 rfl rfl 25 (by decide) (hts _ w_X7_read_f134) (fun _ h9 => h9) rfl dX7_read_149 ?_
    obtain ⟨hg_1, hm⟩ := mg_of hm
    refine va_iald hx hb hK hP 10 0 rfl rfl hg_1 dX7_read_152 ?_
    refine lv_iadd hx hb dX7_read_153 ?_
    refine lv_icmp_ge (tgt := 200) hx hb dX7_read_154 (by decide) (fun h_2 => ?_) (fun h_2 => ?_)
    · have hm := it_of hm h_2
      refine lv_iload_n hx hb dX7_read_200 rfl (lv_at hl 1 rfl) ?_
      refine lv_if_ne (tgt := 220) hx hb dX7_read_201 (by decide) (fun h_3 => ?_) (fun h_3 => ?_)
      · have hm := ie_of hm h_3
        exact k_X7_read_220 C hA hK F M_thrown M_size M_has M_hand M_layers M_kinds M_names M_nameSizes M_thicknesses M_spreads M_coppers M_copperAt M_presses M_pressFrom M_pressTo M_vias M_viaFrom M_viaTo M_shares M_lists M_p M_s M_fault M_word M_wordSize M_secondOne _ _ _ hm hP hD hS (lv_sub hl [0] rfl)
      · have hm := it_of hm h_3
        refine lv_aload_n hx hb dX7_read_204 rfl (lv_at hl 0 rfl) ?_
        refine lv_iconst (v := (0 : Int32)) hx hb dX7_read_205 (by decide) ?_
        refine lv_aload_n hx hb dX7_read_206 rfl (lv_at hl 0 rfl) ?_
        refine va_get (D := D) (ci := 7) (v := .ref (q 8)) (C := RX7) (T := TX7) (N := 33) hx hb hts n_X7_read_X7 hown hK hP 0 rfl rfl 11 (by decide) (hts _ w_X7_read_f32) (fun _ h9 => h9) rfl dX7_read_207 ?_
        refine lv_aload_n hx hb dX7_read_210 rfl (lv_at hl 0 rfl) ?_
        refine va_get (D := D) (ci := 7) (v := .int M_s) (C := RX7) (T := TX7) (N := 33) hx hb hts n_X7_read_X7 hown hK hP 0 rfl rfl 25 (by decide) (hts _ w_X7_read_f134) (fun _ h9 => h9) rfl dX7_read_211 ?_
        obtain ⟨hg_4, hm⟩ := mg_of hm
        refine va_iald hx hb hK hP 8 0 rfl rfl hg_4 dX7_read_214 ?_
        refine lv_iconst (v := (1 : Int32)) hx hb dX7_read_215 (by decide) ?_
        refine lv_isub hx hb dX7_read_216 ?_
        obtain ⟨M_presses_5, M_pressFrom_6, M_pressTo_7, hc_8, hm⟩ := mb3_of hm
        refine call_vv (wc := (wdX7 q y M_thrown M_text M_size M_has M_hand M_layers M_kinds M_names M_nameSizes M_thicknesses M_spreads M_coppers M_copperAt M_presses M_pressFrom M_pressTo M_vias M_viaFrom M_viaTo M_shares M_lists M_hasRow M_rowLow M_rowHigh M_p M_s M_fault M_lines M_word M_wordSize M_out M_written M_secondOne)) (wr := []) (As := [.int (0 : Int32), .int ((M_coppers (M_s).toNatClampNeg) - (1 : Int32))]) (rest := []) C (c_X7_keepPress l D y q _ F hc_8) (cwV 2 hts gX7_read_X7_keepPress rfl rfl rfl (by decide +kernel) ⟨Nat.le_of_ble_eq_true rfl, Nat.le_of_ble_eq_true rfl⟩) hK hP hD hS hA [0, 1, 2, 3, 4, 5, 6, 7, 8, 9, 10, 11, 12, 13, 14, 15, 16, 17, 18, 19, 20] [] rfl rfl rfl rfl rfl (by decide) rfl rfl rfl rfl hl.1 (Nat.le_of_ble_eq_true rfl) dX7_read_217 (fun H locs hP hD hS => ?_)
        have hP : va_P D vwCl (wdX7 q y M_thrown M_text M_size M_has M_hand M_layers M_kinds M_names M_nameSizes M_thicknesses M_spreads M_coppers M_copperAt M_presses_5 M_pressFrom_6 M_pressTo_7 M_vias M_viaFrom M_viaTo M_shares M_lists M_hasRow M_rowLow M_rowHigh M_p M_s M_fault M_lines M_word M_wordSize M_out M_written M_secondOne) H := hP
        have hD : va_D A (wdX7 q y M_thrown M_text M_size M_has M_hand M_layers M_kinds M_names M_nameSizes M_thicknesses M_spreads M_coppers M_copperAt M_presses_5 M_pressFrom_6 M_pressTo_7 M_vias M_viaFrom M_viaTo M_shares M_lists M_hasRow M_rowLow M_rowHigh M_p M_s M_fault M_lines M_word M_wordSize M_out M_written M_secondOne) := hD
        exact k_X7_read_220 C hA hK F M_thrown M_size M_has M_hand M_layers M_kinds M_names M_nameSizes M_thicknesses M_spreads M_coppers M_copperAt M_presses_5 M_pressFrom_6 M_pressTo_7 M_vias M_viaFrom M_viaTo M_shares M_lists M_p M_s M_fault M_word M_wordSize M_secondOne _ _ _ hm hP hD hS (lv_sub hl [0] rfl)
    · have hm := ie_of hm h_2
      refine lv_iload_n hx hb dX7_read_157 rfl (lv_at hl 1 rfl) ?_
      refine lv_if_ne (tgt := 188) hx hb dX7_read_158 (by decide) (fun h_9 => ?_) (fun h_9 => ?_)
      · have hm := ie_of hm h_9
        refine lv_iconst (v := (1 : Int32)) hx hb dX7_read_188 (by decide) ?_
        refine lv_goto (tgt := 193) hx hb dX7_read_189 (by decide) ?_
        refine lv_istore_n (lv' := [(1, .int (1 : Int32)), (0, .ref (q 0)), (2, .int v2)]) hx hb dX7_read_193 rfl hl (by decide) rfl (fun ls hl => ?_)
        obtain ⟨v2_10, ev2_10⟩ : ∃ y9 : Int32, y9 = (v2 + (1 : Int32)) := ⟨_, rfl⟩
        have hm := mn_of ev2_10 hm
        refine lv_iinc (v := v2_10) (lv' := [(2, .int v2_10), (1, .int (1 : Int32)), (0, .ref (q 0))]) hx hb dX7_read_194 hl (k := 2) rfl (by rw [ev2_10]; rfl) (by decide) rfl (fun ls hl => ?_)
        refine lv_goto (tgt := 136) hx hb dX7_read_197 (by decide) ?_
        exact ih (1 : Int32) v2_10 M_thrown M_size M_has M_hand M_layers M_kinds M_names M_nameSizes M_thicknesses M_spreads M_coppers M_copperAt M_presses M_pressFrom M_pressTo M_vias M_viaFrom M_viaTo M_shares M_lists M_p M_s M_fault M_word M_wordSize M_secondOne _ _ _ hm hP hD hS (lv_sub hl [2, 1, 0] rfl)
      · have hm := it_of hm h_9
        refine lv_aload_n hx hb dX7_read_161 rfl (lv_at hl 0 rfl) ?_
        refine va_get (D := D) (ci := 7) (v := .ref (q 12)) (C := RX7) (T := TX7) (N := 33) hx hb hts n_X7_read_X7 hown hK hP 0 rfl rfl 15 (by decide) (hts _ w_X7_read_f44) (fun _ h9 => h9) rfl dX7_read_162 ?_
        refine lv_iload_n hx hb dX7_read_165 rfl (lv_at hl 2 rfl) ?_
        obtain ⟨hg_11, hm⟩ := mg_of hm
        refine va_iald hx hb hK hP 12 0 rfl rfl hg_11 dX7_read_166 ?_
        refine lv_aload_n hx hb dX7_read_167 rfl (lv_at hl 0 rfl) ?_
        refine va_get (D := D) (ci := 7) (v := .ref (q 11)) (C := RX7) (T := TX7) (N := 33) hx hb hts n_X7_read_X7 hown hK hP 0 rfl rfl 14 (by decide) (hts _ w_X7_read_f41) (fun _ h9 => h9) rfl dX7_read_168 ?_
        refine lv_iload_n hx hb dX7_read_171 rfl (lv_at hl 2 rfl) ?_
        obtain ⟨hg_12, hm⟩ := mg_of hm
        refine va_iald hx hb hK hP 11 0 rfl rfl hg_12 dX7_read_172 ?_
        refine lv_isub hx hb dX7_read_173 ?_
        refine lv_aload_n hx hb dX7_read_174 rfl (lv_at hl 0 rfl) ?_
        refine va_get (D := D) (ci := 7) (v := .ref (q 8)) (C := RX7) (T := TX7) (N := 33) hx hb hts n_X7_read_X7 hown hK hP 0 rfl rfl 11 (by decide) (hts _ w_X7_read_f32) (fun _ h9 => h9) rfl dX7_read_175 ?_
        refine lv_aload_n hx hb dX7_read_178 rfl (lv_at hl 0 rfl) ?_
        refine va_get (D := D) (ci := 7) (v := .int M_s) (C := RX7) (T := TX7) (N := 33) hx hb hts n_X7_read_X7 hown hK hP 0 rfl rfl 25 (by decide) (hts _ w_X7_read_f134) (fun _ h9 => h9) rfl dX7_read_179 ?_
        obtain ⟨hg_13, hm⟩ := mg_of hm
        refine va_iald hx hb hK hP 8 0 rfl rfl hg_13 dX7_read_182 ?_
        refine lv_iconst (v := (1 : Int32)) hx hb dX7_read_183 (by decide) ?_
        refine lv_isub hx hb dX7_read_184 ?_
        refine lv_icmp_ne (tgt := 192) hx hb dX7_read_185 (by decide) (fun h_14 => ?_) (fun h_14 => ?_)
        · have hm := ie_of hm h_14
          refine lv_iconst (v := (0 : Int32)) hx hb dX7_read_192 (by decide) ?_
          refine lv_istore_n (lv' := [(1, .int (0 : Int32)), (0, .ref (q 0)), (2, .int v2)]) hx hb dX7_read_193 rfl hl (by decide) rfl (fun ls hl => ?_)
          obtain ⟨v2_15, ev2_15⟩ : ∃ y9 : Int32, y9 = (v2 + (1 : Int32)) := ⟨_, rfl⟩
          have hm := mn_of ev2_15 hm
          refine lv_iinc (v := v2_15) (lv' := [(2, .int v2_15), (1, .int (0 : Int32)), (0, .ref (q 0))]) hx hb dX7_read_194 hl (k := 2) rfl (by rw [ev2_15]; rfl) (by decide) rfl (fun ls hl => ?_)
          refine lv_goto (tgt := 136) hx hb dX7_read_197 (by decide) ?_
          exact ih (0 : Int32) v2_15 M_thrown M_size M_has M_hand M_layers M_kinds M_names M_nameSizes M_thicknesses M_spreads M_coppers M_copperAt M_presses M_pressFrom M_pressTo M_vias M_viaFrom M_viaTo M_shares M_lists M_p M_s M_fault M_word M_wordSize M_secondOne _ _ _ hm hP hD hS (lv_sub hl [2, 1, 0] rfl)
        · have hm := it_of hm h_14
          refine lv_iconst (v := (1 : Int32)) hx hb dX7_read_188 (by decide) ?_
          refine lv_goto (tgt := 193) hx hb dX7_read_189 (by decide) ?_
          refine lv_istore_n (lv' := [(1, .int (1 : Int32)), (0, .ref (q 0)), (2, .int v2)]) hx hb dX7_read_193 rfl hl (by decide) rfl (fun ls hl => ?_)
          obtain ⟨v2_16, ev2_16⟩ : ∃ y9 : Int32, y9 = (v2 + (1 : Int32)) := ⟨_, rfl⟩
          have hm := mn_of ev2_16 hm
          refine lv_iinc (v := v2_16) (lv' := [(2, .int v2_16), (1, .int (1 : Int32)), (0, .ref (q 0))]) hx hb dX7_read_194 hl (k := 2) rfl (by rw [ev2_16]; rfl) (by decide) rfl (fun ls hl => ?_)
          refine lv_goto (tgt := 136) hx hb dX7_read_197 (by decide) ?_
          exact ih (1 : Int32) v2_16 M_thrown M_size M_has M_hand M_layers M_kinds M_names M_nameSizes M_thicknesses M_spreads M_coppers M_copperAt M_presses M_pressFrom M_pressTo M_vias M_viaFrom M_viaTo M_shares M_lists M_p M_s M_fault M_word M_wordSize M_secondOne _ _ _ hm hP hD hS (lv_sub hl [2, 1, 0] rfl)
set_option maxHeartbeats 4000000 in
set_option maxRecDepth 100000 in
theorem k_X7_read_112 {p : Program} {l : Launch} {e : Env} {s : State} {m : MethodId} {args : Array Value} {below : List Frame} {meth : Method} {c : Code} {D : va_G} {y : Nat → ClassId} {A : Nat → Prop} {q : Nat → Nat} {M_text : Nat → Int32} {M_hasRow : Nat → Int32} {M_rowLow : Nat → Int64} {M_rowHigh : Nat → Int64} {M_lines : Int32} {M_out : Nat → Int32} {M_written : Int32} {z : Int32 × Int32 × Int32 × Int32 × Int32 × (Nat → Int32) × (Nat → Int32) × (Nat → Int64) × (Nat → Int32) × (Nat → Int64) × (Nat → Int32) × (Nat → Int32) × (Nat → Int32) × (Nat → Int32) × (Nat → Int32) × (Nat → Int32) × (Nat → Int32) × (Nat → Int32) × (Nat → Int32) × (Nat → Int32) × Int32 × Int32 × Int32 × Int32 × Int64 × Int32 × Int32} (C : CX p s m args meth c wsX7_read RX7 cX7_read 3 (some .int)) (hA : ∀ q : Nat, s.heap.size ≤ q → A q) (hK : va_K D vwCl (tyl y) s) (F : Nat) :
    ∀ (M_thrown : Int32) (M_size : Int32) (M_has : Int32) (M_hand : Int32) (M_layers : Nat → Int32) (M_kinds : Nat → Int32) (M_names : Nat → Int64) (M_nameSizes : Nat → Int32) (M_thicknesses : Nat → Int64) (M_spreads : Nat → Int32) (M_coppers : Nat → Int32) (M_copperAt : Nat → Int32) (M_presses : Nat → Int32) (M_pressFrom : Nat → Int32) (M_pressTo : Nat → Int32) (M_vias : Nat → Int32) (M_viaFrom : Nat → Int32) (M_viaTo : Nat → Int32) (M_shares : Nat → Int32) (M_lists : Int32) (M_p : Int32) (M_s : Int32) (M_fault : Int32) (M_word : Int64) (M_wordSize : Int32) (M_secondOne : Int32) (H : Heap) (locs : List Loc) (ls : Array Slot), g_X7_read_112 F M_thrown M_size M_has M_hand M_layers M_kinds M_names M_nameSizes M_thicknesses M_spreads M_coppers M_copperAt M_presses M_pressFrom M_pressTo M_vias M_viaFrom M_viaTo M_shares M_lists M_p M_s M_fault M_word M_wordSize M_secondOne = some z → va_P D vwCl (wdX7 q y M_thrown M_text M_size M_has M_hand M_layers M_kinds M_names M_nameSizes M_thicknesses M_spreads M_coppers M_copperAt M_presses M_pressFrom M_pressTo M_vias M_viaFrom M_viaTo M_shares M_lists M_hasRow M_rowLow M_rowHigh M_p M_s M_fault M_lines M_word M_wordSize M_out M_written M_secondOne) H → va_D A (wdX7 q y M_thrown M_text M_size M_has M_hand M_layers M_kinds M_names M_nameSizes M_thicknesses M_spreads M_coppers M_copperAt M_presses M_pressFrom M_pressTo M_vias M_viaFrom M_viaTo M_shares M_lists M_hasRow M_rowLow M_rowHigh M_p M_s M_fault M_lines M_word M_wordSize M_out M_written M_secondOne) → va_S A s.heap H locs → lv_has ls 3 [(0, .ref (q 0))] → W p l e ({ frames := 5, cells := 0, slots := 0, locals := 123 } : Room) s m args below meth c H locs 0 0 (MQ below (QI D y A (z.1) (wdX7 q y (z.2.1) M_text (z.2.2.1) (z.2.2.2.1) (z.2.2.2.2.1) (z.2.2.2.2.2.1) (z.2.2.2.2.2.2.1) (z.2.2.2.2.2.2.2.1) (z.2.2.2.2.2.2.2.2.1) (z.2.2.2.2.2.2.2.2.2.1) (z.2.2.2.2.2.2.2.2.2.2.1) (z.2.2.2.2.2.2.2.2.2.2.2.1) (z.2.2.2.2.2.2.2.2.2.2.2.2.1) (z.2.2.2.2.2.2.2.2.2.2.2.2.2.1) (z.2.2.2.2.2.2.2.2.2.2.2.2.2.2.1) (z.2.2.2.2.2.2.2.2.2.2.2.2.2.2.2.1) (z.2.2.2.2.2.2.2.2.2.2.2.2.2.2.2.2.1) (z.2.2.2.2.2.2.2.2.2.2.2.2.2.2.2.2.2.1) (z.2.2.2.2.2.2.2.2.2.2.2.2.2.2.2.2.2.2.1) (z.2.2.2.2.2.2.2.2.2.2.2.2.2.2.2.2.2.2.2.1) (z.2.2.2.2.2.2.2.2.2.2.2.2.2.2.2.2.2.2.2.2.1) M_hasRow M_rowLow M_rowHigh (z.2.2.2.2.2.2.2.2.2.2.2.2.2.2.2.2.2.2.2.2.2.1) (z.2.2.2.2.2.2.2.2.2.2.2.2.2.2.2.2.2.2.2.2.2.2.1) (z.2.2.2.2.2.2.2.2.2.2.2.2.2.2.2.2.2.2.2.2.2.2.2.1) M_lines (z.2.2.2.2.2.2.2.2.2.2.2.2.2.2.2.2.2.2.2.2.2.2.2.2.1) (z.2.2.2.2.2.2.2.2.2.2.2.2.2.2.2.2.2.2.2.2.2.2.2.2.2.1) M_out M_written (z.2.2.2.2.2.2.2.2.2.2.2.2.2.2.2.2.2.2.2.2.2.2.2.2.2.2))) args s 0 0 A) (F0 m 112 ls []) := by
  obtain ⟨⟨hx, hb, hml, hown, hts⟩, hr, hlocks⟩ := id C
  intro M_thrown M_size M_has M_hand M_layers M_kinds M_names M_nameSizes M_thicknesses M_spreads M_coppers M_copperAt M_presses M_pressFrom M_pressTo M_vias M_viaFrom M_viaTo M_shares M_lists M_p M_s M_fault M_word M_wordSize M_secondOne H locs ls hm hP hD hS hl
  unfold g_X7_read_112 at hm
  refine lv_aload_n hx hb dX7_read_112 rfl (lv_at hl 0 rfl) ?_
  obtain ⟨r_1, hc_2, hm⟩ := mb1_of hm
  refine call_vi (wc := (wdX7 q y M_thrown M_text M_size M_has M_hand M_layers M_kinds M_names M_nameSizes M_thicknesses M_spreads M_coppers M_copperAt M_presses M_pressFrom M_pressTo M_vias M_viaFrom M_viaTo M_shares M_lists M_hasRow M_rowLow M_rowHigh M_p M_s M_fault M_lines M_word M_wordSize M_out M_written M_secondOne)) (wr := []) (As := []) (rest := []) C (c_X7_good l D y q _ F hc_2) (cwV 0 hts gX7_read_X7_good rfl rfl rfl (by decide +kernel) ⟨Nat.le_of_ble_eq_true rfl, Nat.le_of_ble_eq_true rfl⟩) hK hP hD hS hA [0, 1, 2, 3, 4, 5, 6, 7, 8, 9, 10, 11, 12, 13, 14, 15, 16, 17, 18, 19, 20] [] rfl rfl rfl rfl rfl (by decide) rfl rfl rfl rfl hl.1 (Nat.le_of_ble_eq_true rfl) dX7_read_113 (fun H locs hP hD hS => ?_)
  have hP : va_P D vwCl (wdX7 q y M_thrown M_text M_size M_has M_hand M_layers M_kinds M_names M_nameSizes M_thicknesses M_spreads M_coppers M_copperAt M_presses M_pressFrom M_pressTo M_vias M_viaFrom M_viaTo M_shares M_lists M_hasRow M_rowLow M_rowHigh M_p M_s M_fault M_lines M_word M_wordSize M_out M_written M_secondOne) H := hP
  have hD : va_D A (wdX7 q y M_thrown M_text M_size M_has M_hand M_layers M_kinds M_names M_nameSizes M_thicknesses M_spreads M_coppers M_copperAt M_presses M_pressFrom M_pressTo M_vias M_viaFrom M_viaTo M_shares M_lists M_hasRow M_rowLow M_rowHigh M_p M_s M_fault M_lines M_word M_wordSize M_out M_written M_secondOne) := hD
  refine lv_if_ne (tgt := 126) hx hb dX7_read_116 (by decide) (fun h_3 => ?_) (fun h_3 => ?_)
  · have hm := ie_of hm h_3
    refine lv_iconst (v := (0 : Int32)) hx hb dX7_read_126 (by decide) ?_
    refine lv_istore_n (lv' := [(1, .int (0 : Int32)), (0, .ref (q 0))]) hx hb dX7_read_127 rfl hl (by decide) rfl (fun ls hl => ?_)
    refine lv_bipush (v := (22 : Int32)) hx hb dX7_read_128 (by decide) ?_
    refine lv_aload_n hx hb dX7_read_130 rfl (lv_at hl 1 rfl) ?_
    refine va_get (D := D) (ci := 7) (v := .int M_s) (C := RX7) (T := TX7) (N := 33) hx hb hts n_X7_read_X7 hown hK hP 0 rfl rfl 25 (by decide) (hts _ w_X7_read_f134) (fun _ h9 => h9) rfl dX7_read_131 ?_
    refine lv_imul hx hb dX7_read_134 ?_
    refine lv_topi (fun v2_4 ev2_4 => ?_)
    have hm := mn_of ev2_4 hm
    refine lv_istore_n (lv' := [(2, .int v2_4), (1, .int (0 : Int32)), (0, .ref (q 0))]) hx hb dX7_read_135 rfl hl (by decide) rfl (fun ls hl => ?_)
    exact k_X7_read_136 C hA hK F F (0 : Int32) v2_4 M_thrown M_size M_has M_hand M_layers M_kinds M_names M_nameSizes M_thicknesses M_spreads M_coppers M_copperAt M_presses M_pressFrom M_pressTo M_vias M_viaFrom M_viaTo M_shares M_lists M_p M_s M_fault M_word M_wordSize M_secondOne _ _ _ hm hP hD hS (lv_sub hl [2, 1, 0] rfl)
  · have hm := it_of hm h_3
    refine lv_iconst (v := (-1 : Int32)) hx hb dX7_read_119 (by decide) ?_
    refine lv_aload_n hx hb dX7_read_120 rfl (lv_at hl 0 rfl) ?_
    refine va_get (D := D) (ci := 7) (v := .int M_fault) (C := RX7) (T := TX7) (N := 33) hx hb hts n_X7_read_X7 hown hK hP 0 rfl rfl 26 (by decide) (hts _ w_X7_read_f82) (fun _ h9 => h9) rfl dX7_read_121 ?_
    refine lv_isub hx hb dX7_read_124 ?_
    have hz := Option.some.inj hm
    subst hz
    exact end_i C hK hP hD hS dX7_read_125
set_option maxHeartbeats 4000000 in
set_option maxRecDepth 100000 in
theorem k_X7_read_90 {p : Program} {l : Launch} {e : Env} {s : State} {m : MethodId} {args : Array Value} {below : List Frame} {meth : Method} {c : Code} {D : va_G} {y : Nat → ClassId} {A : Nat → Prop} {q : Nat → Nat} {M_text : Nat → Int32} {M_hasRow : Nat → Int32} {M_rowLow : Nat → Int64} {M_rowHigh : Nat → Int64} {M_lines : Int32} {M_out : Nat → Int32} {M_written : Int32} {z : Int32 × Int32 × Int32 × Int32 × Int32 × (Nat → Int32) × (Nat → Int32) × (Nat → Int64) × (Nat → Int32) × (Nat → Int64) × (Nat → Int32) × (Nat → Int32) × (Nat → Int32) × (Nat → Int32) × (Nat → Int32) × (Nat → Int32) × (Nat → Int32) × (Nat → Int32) × (Nat → Int32) × (Nat → Int32) × Int32 × Int32 × Int32 × Int32 × Int64 × Int32 × Int32} (C : CX p s m args meth c wsX7_read RX7 cX7_read 3 (some .int)) (hA : ∀ q : Nat, s.heap.size ≤ q → A q) (hK : va_K D vwCl (tyl y) s) (F : Nat) :
    ∀ (M_thrown : Int32) (M_size : Int32) (M_has : Int32) (M_hand : Int32) (M_layers : Nat → Int32) (M_kinds : Nat → Int32) (M_names : Nat → Int64) (M_nameSizes : Nat → Int32) (M_thicknesses : Nat → Int64) (M_spreads : Nat → Int32) (M_coppers : Nat → Int32) (M_copperAt : Nat → Int32) (M_presses : Nat → Int32) (M_pressFrom : Nat → Int32) (M_pressTo : Nat → Int32) (M_vias : Nat → Int32) (M_viaFrom : Nat → Int32) (M_viaTo : Nat → Int32) (M_shares : Nat → Int32) (M_lists : Int32) (M_p : Int32) (M_s : Int32) (M_fault : Int32) (M_word : Int64) (M_wordSize : Int32) (M_secondOne : Int32) (H : Heap) (locs : List Loc) (ls : Array Slot), g_X7_read_90 F M_thrown M_size M_has M_hand M_layers M_kinds M_names M_nameSizes M_thicknesses M_spreads M_coppers M_copperAt M_presses M_pressFrom M_pressTo M_vias M_viaFrom M_viaTo M_shares M_lists M_p M_s M_fault M_word M_wordSize M_secondOne = some z → va_P D vwCl (wdX7 q y M_thrown M_text M_size M_has M_hand M_layers M_kinds M_names M_nameSizes M_thicknesses M_spreads M_coppers M_copperAt M_presses M_pressFrom M_pressTo M_vias M_viaFrom M_viaTo M_shares M_lists M_hasRow M_rowLow M_rowHigh M_p M_s M_fault M_lines M_word M_wordSize M_out M_written M_secondOne) H → va_D A (wdX7 q y M_thrown M_text M_size M_has M_hand M_layers M_kinds M_names M_nameSizes M_thicknesses M_spreads M_coppers M_copperAt M_presses M_pressFrom M_pressTo M_vias M_viaFrom M_viaTo M_shares M_lists M_hasRow M_rowLow M_rowHigh M_p M_s M_fault M_lines M_word M_wordSize M_out M_written M_secondOne) → va_S A s.heap H locs → lv_has ls 3 [(0, .ref (q 0))] → W p l e ({ frames := 5, cells := 0, slots := 0, locals := 123 } : Room) s m args below meth c H locs 0 0 (MQ below (QI D y A (z.1) (wdX7 q y (z.2.1) M_text (z.2.2.1) (z.2.2.2.1) (z.2.2.2.2.1) (z.2.2.2.2.2.1) (z.2.2.2.2.2.2.1) (z.2.2.2.2.2.2.2.1) (z.2.2.2.2.2.2.2.2.1) (z.2.2.2.2.2.2.2.2.2.1) (z.2.2.2.2.2.2.2.2.2.2.1) (z.2.2.2.2.2.2.2.2.2.2.2.1) (z.2.2.2.2.2.2.2.2.2.2.2.2.1) (z.2.2.2.2.2.2.2.2.2.2.2.2.2.1) (z.2.2.2.2.2.2.2.2.2.2.2.2.2.2.1) (z.2.2.2.2.2.2.2.2.2.2.2.2.2.2.2.1) (z.2.2.2.2.2.2.2.2.2.2.2.2.2.2.2.2.1) (z.2.2.2.2.2.2.2.2.2.2.2.2.2.2.2.2.2.1) (z.2.2.2.2.2.2.2.2.2.2.2.2.2.2.2.2.2.2.1) (z.2.2.2.2.2.2.2.2.2.2.2.2.2.2.2.2.2.2.2.1) (z.2.2.2.2.2.2.2.2.2.2.2.2.2.2.2.2.2.2.2.2.1) M_hasRow M_rowLow M_rowHigh (z.2.2.2.2.2.2.2.2.2.2.2.2.2.2.2.2.2.2.2.2.2.1) (z.2.2.2.2.2.2.2.2.2.2.2.2.2.2.2.2.2.2.2.2.2.2.1) (z.2.2.2.2.2.2.2.2.2.2.2.2.2.2.2.2.2.2.2.2.2.2.2.1) M_lines (z.2.2.2.2.2.2.2.2.2.2.2.2.2.2.2.2.2.2.2.2.2.2.2.2.1) (z.2.2.2.2.2.2.2.2.2.2.2.2.2.2.2.2.2.2.2.2.2.2.2.2.2.1) M_out M_written (z.2.2.2.2.2.2.2.2.2.2.2.2.2.2.2.2.2.2.2.2.2.2.2.2.2.2))) args s 0 0 A) (F0 m 90 ls []) := by
  obtain ⟨⟨hx, hb, hml, hown, hts⟩, hr, hlocks⟩ := id C
  intro M_thrown M_size M_has M_hand M_layers M_kinds M_names M_nameSizes M_thicknesses M_spreads M_coppers M_copperAt M_presses M_pressFrom M_pressTo M_vias M_viaFrom M_viaTo M_shares M_lists M_p M_s M_fault M_word M_wordSize M_secondOne H locs ls hm hP hD hS hl
  unfold g_X7_read_90 at hm
  refine lv_aload_n hx hb dX7_read_90 rfl (lv_at hl 0 rfl) ?_
  obtain ⟨r_1, hc_2, hm⟩ := mb1_of hm
  refine call_vi (wc := (wdX7 q y M_thrown M_text M_size M_has M_hand M_layers M_kinds M_names M_nameSizes M_thicknesses M_spreads M_coppers M_copperAt M_presses M_pressFrom M_pressTo M_vias M_viaFrom M_viaTo M_shares M_lists M_hasRow M_rowLow M_rowHigh M_p M_s M_fault M_lines M_word M_wordSize M_out M_written M_secondOne)) (wr := []) (As := []) (rest := []) C (c_X7_good l D y q _ F hc_2) (cwV 0 hts gX7_read_X7_good rfl rfl rfl (by decide +kernel) ⟨Nat.le_of_ble_eq_true rfl, Nat.le_of_ble_eq_true rfl⟩) hK hP hD hS hA [0, 1, 2, 3, 4, 5, 6, 7, 8, 9, 10, 11, 12, 13, 14, 15, 16, 17, 18, 19, 20] [] rfl rfl rfl rfl rfl (by decide) rfl rfl rfl rfl hl.1 (Nat.le_of_ble_eq_true rfl) dX7_read_91 (fun H locs hP hD hS => ?_)
  have hP : va_P D vwCl (wdX7 q y M_thrown M_text M_size M_has M_hand M_layers M_kinds M_names M_nameSizes M_thicknesses M_spreads M_coppers M_copperAt M_presses M_pressFrom M_pressTo M_vias M_viaFrom M_viaTo M_shares M_lists M_hasRow M_rowLow M_rowHigh M_p M_s M_fault M_lines M_word M_wordSize M_out M_written M_secondOne) H := hP
  have hD : va_D A (wdX7 q y M_thrown M_text M_size M_has M_hand M_layers M_kinds M_names M_nameSizes M_thicknesses M_spreads M_coppers M_copperAt M_presses M_pressFrom M_pressTo M_vias M_viaFrom M_viaTo M_shares M_lists M_hasRow M_rowLow M_rowHigh M_p M_s M_fault M_lines M_word M_wordSize M_out M_written M_secondOne) := hD
  refine lv_if_eq (tgt := 112) hx hb dX7_read_94 (by decide) (fun h_3 => ?_) (fun h_3 => ?_)
  · have hm := it_of hm h_3
    exact k_X7_read_112 C hA hK F M_thrown M_size M_has M_hand M_layers M_kinds M_names M_nameSizes M_thicknesses M_spreads M_coppers M_copperAt M_presses M_pressFrom M_pressTo M_vias M_viaFrom M_viaTo M_shares M_lists M_p M_s M_fault M_word M_wordSize M_secondOne _ _ _ hm hP hD hS (lv_sub hl [0] rfl)
  · have hm := ie_of hm h_3
    refine lv_aload_n hx hb dX7_read_97 rfl (lv_at hl 0 rfl) ?_
    obtain ⟨r_4, hc_5, hm⟩ := mb1_of hm
    refine call_vi (wc := (wdX7 q y M_thrown M_text M_size M_has M_hand M_layers M_kinds M_names M_nameSizes M_thicknesses M_spreads M_coppers M_copperAt M_presses M_pressFrom M_pressTo M_vias M_viaFrom M_viaTo M_shares M_lists M_hasRow M_rowLow M_rowHigh M_p M_s M_fault M_lines M_word M_wordSize M_out M_written M_secondOne)) (wr := []) (As := []) (rest := []) C (c_X7_isWhole l D y q _ F hc_5) (cwV 0 hts gX7_read_X7_isWhole rfl rfl rfl (by decide +kernel) ⟨Nat.le_of_ble_eq_true rfl, Nat.le_of_ble_eq_true rfl⟩) hK hP hD hS hA [0, 1, 2, 3, 4, 5, 6, 7, 8, 9, 10, 11, 12, 13, 14, 15, 16, 17, 18, 19, 20] [] rfl rfl rfl rfl rfl (by decide) rfl rfl rfl rfl hl.1 (Nat.le_of_ble_eq_true rfl) dX7_read_98 (fun H locs hP hD hS => ?_)
    have hP : va_P D vwCl (wdX7 q y M_thrown M_text M_size M_has M_hand M_layers M_kinds M_names M_nameSizes M_thicknesses M_spreads M_coppers M_copperAt M_presses M_pressFrom M_pressTo M_vias M_viaFrom M_viaTo M_shares M_lists M_hasRow M_rowLow M_rowHigh M_p M_s M_fault M_lines M_word M_wordSize M_out M_written M_secondOne) H := hP
    have hD : va_D A (wdX7 q y M_thrown M_text M_size M_has M_hand M_layers M_kinds M_names M_nameSizes M_thicknesses M_spreads M_coppers M_copperAt M_presses M_pressFrom M_pressTo M_vias M_viaFrom M_viaTo M_shares M_lists M_hasRow M_rowLow M_rowHigh M_p M_s M_fault M_lines M_word M_wordSize M_out M_written M_secondOne) := hD
    refine lv_if_ne (tgt := 112) hx hb dX7_read_101 (by decide) (fun h_6 => ?_) (fun h_6 => ?_)
    · have hm := ie_of hm h_6
      exact k_X7_read_112 C hA hK F M_thrown M_size M_has M_hand M_layers M_kinds M_names M_nameSizes M_thicknesses M_spreads M_coppers M_copperAt M_presses M_pressFrom M_pressTo M_vias M_viaFrom M_viaTo M_shares M_lists M_p M_s M_fault M_word M_wordSize M_secondOne _ _ _ hm hP hD hS (lv_sub hl [0] rfl)
    · have hm := it_of hm h_6
      refine lv_aload_n hx hb dX7_read_104 rfl (lv_at hl 0 rfl) ?_
      refine lv_aload_n hx hb dX7_read_105 rfl (lv_at hl 0 rfl) ?_
      refine va_get (D := D) (ci := 7) (v := .int M_size) (C := RX7) (T := TX7) (N := 33) hx hb hts n_X7_read_X7 hown hK hP 0 rfl rfl 2 (by decide) (hts _ w_X7_read_f76) (fun _ h9 => h9) rfl dX7_read_106 ?_
      obtain ⟨M_fault_7, hc_8, hm⟩ := mb1_of hm
      refine call_vv (wc := (wdX7 q y M_thrown M_text M_size M_has M_hand M_layers M_kinds M_names M_nameSizes M_thicknesses M_spreads M_coppers M_copperAt M_presses M_pressFrom M_pressTo M_vias M_viaFrom M_viaTo M_shares M_lists M_hasRow M_rowLow M_rowHigh M_p M_s M_fault M_lines M_word M_wordSize M_out M_written M_secondOne)) (wr := []) (As := [.int M_size]) (rest := []) C (c_X7_fail l D y q _ F hc_8) (cwV 1 hts gX7_read_X7_fail rfl rfl rfl (by decide +kernel) ⟨Nat.le_of_ble_eq_true rfl, Nat.le_of_ble_eq_true rfl⟩) hK hP hD hS hA [0, 1, 2, 3, 4, 5, 6, 7, 8, 9, 10, 11, 12, 13, 14, 15, 16, 17, 18, 19, 20] [] rfl rfl rfl rfl rfl (by decide) rfl rfl rfl rfl hl.1 (Nat.le_of_ble_eq_true rfl) dX7_read_109 (fun H locs hP hD hS => ?_)
      have hP : va_P D vwCl (wdX7 q y M_thrown M_text M_size M_has M_hand M_layers M_kinds M_names M_nameSizes M_thicknesses M_spreads M_coppers M_copperAt M_presses M_pressFrom M_pressTo M_vias M_viaFrom M_viaTo M_shares M_lists M_hasRow M_rowLow M_rowHigh M_p M_s M_fault_7 M_lines M_word M_wordSize M_out M_written M_secondOne) H := hP
      have hD : va_D A (wdX7 q y M_thrown M_text M_size M_has M_hand M_layers M_kinds M_names M_nameSizes M_thicknesses M_spreads M_coppers M_copperAt M_presses M_pressFrom M_pressTo M_vias M_viaFrom M_viaTo M_shares M_lists M_hasRow M_rowLow M_rowHigh M_p M_s M_fault_7 M_lines M_word M_wordSize M_out M_written M_secondOne) := hD
      exact k_X7_read_112 C hA hK F M_thrown M_size M_has M_hand M_layers M_kinds M_names M_nameSizes M_thicknesses M_spreads M_coppers M_copperAt M_presses M_pressFrom M_pressTo M_vias M_viaFrom M_viaTo M_shares M_lists M_p M_s M_fault_7 M_word M_wordSize M_secondOne _ _ _ hm hP hD hS (lv_sub hl [0] rfl)
set_option maxHeartbeats 4000000 in
set_option maxRecDepth 100000 in
theorem k_X7_read_65 {p : Program} {l : Launch} {e : Env} {s : State} {m : MethodId} {args : Array Value} {below : List Frame} {meth : Method} {c : Code} {D : va_G} {y : Nat → ClassId} {A : Nat → Prop} {q : Nat → Nat} {M_hasRow : Nat → Int32} {M_rowLow : Nat → Int64} {M_rowHigh : Nat → Int64} {M_lines : Int32} {M_out : Nat → Int32} {M_written : Int32} {z : Int32 × Int32 × Int32 × Int32 × Int32 × (Nat → Int32) × (Nat → Int32) × (Nat → Int64) × (Nat → Int32) × (Nat → Int64) × (Nat → Int32) × (Nat → Int32) × (Nat → Int32) × (Nat → Int32) × (Nat → Int32) × (Nat → Int32) × (Nat → Int32) × (Nat → Int32) × (Nat → Int32) × (Nat → Int32) × Int32 × Int32 × Int32 × Int32 × Int64 × Int32 × Int32} (C : CX p s m args meth c wsX7_read RX7 cX7_read 3 (some .int)) (hA : ∀ q : Nat, s.heap.size ≤ q → A q) (hK : va_K D vwCl (tyl y) s) (F : Nat) :
    ∀ (n : Nat), ∀ (M_thrown : Int32) (M_text : Nat → Int32) (M_size : Int32) (M_has : Int32) (M_hand : Int32) (M_layers : Nat → Int32) (M_kinds : Nat → Int32) (M_names : Nat → Int64) (M_nameSizes : Nat → Int32) (M_thicknesses : Nat → Int64) (M_spreads : Nat → Int32) (M_coppers : Nat → Int32) (M_copperAt : Nat → Int32) (M_presses : Nat → Int32) (M_pressFrom : Nat → Int32) (M_pressTo : Nat → Int32) (M_vias : Nat → Int32) (M_viaFrom : Nat → Int32) (M_viaTo : Nat → Int32) (M_shares : Nat → Int32) (M_lists : Int32) (M_p : Int32) (M_s : Int32) (M_fault : Int32) (M_word : Int64) (M_wordSize : Int32) (M_secondOne : Int32) (H : Heap) (locs : List Loc) (ls : Array Slot), g_X7_read_65 F n M_thrown M_text M_size M_has M_hand M_layers M_kinds M_names M_nameSizes M_thicknesses M_spreads M_coppers M_copperAt M_presses M_pressFrom M_pressTo M_vias M_viaFrom M_viaTo M_shares M_lists M_p M_s M_fault M_word M_wordSize M_secondOne = some z → va_P D vwCl (wdX7 q y M_thrown M_text M_size M_has M_hand M_layers M_kinds M_names M_nameSizes M_thicknesses M_spreads M_coppers M_copperAt M_presses M_pressFrom M_pressTo M_vias M_viaFrom M_viaTo M_shares M_lists M_hasRow M_rowLow M_rowHigh M_p M_s M_fault M_lines M_word M_wordSize M_out M_written M_secondOne) H → va_D A (wdX7 q y M_thrown M_text M_size M_has M_hand M_layers M_kinds M_names M_nameSizes M_thicknesses M_spreads M_coppers M_copperAt M_presses M_pressFrom M_pressTo M_vias M_viaFrom M_viaTo M_shares M_lists M_hasRow M_rowLow M_rowHigh M_p M_s M_fault M_lines M_word M_wordSize M_out M_written M_secondOne) → va_S A s.heap H locs → lv_has ls 3 [(0, .ref (q 0))] → W p l e ({ frames := 5, cells := 0, slots := 0, locals := 123 } : Room) s m args below meth c H locs 0 0 (MQ below (QI D y A (z.1) (wdX7 q y (z.2.1) M_text (z.2.2.1) (z.2.2.2.1) (z.2.2.2.2.1) (z.2.2.2.2.2.1) (z.2.2.2.2.2.2.1) (z.2.2.2.2.2.2.2.1) (z.2.2.2.2.2.2.2.2.1) (z.2.2.2.2.2.2.2.2.2.1) (z.2.2.2.2.2.2.2.2.2.2.1) (z.2.2.2.2.2.2.2.2.2.2.2.1) (z.2.2.2.2.2.2.2.2.2.2.2.2.1) (z.2.2.2.2.2.2.2.2.2.2.2.2.2.1) (z.2.2.2.2.2.2.2.2.2.2.2.2.2.2.1) (z.2.2.2.2.2.2.2.2.2.2.2.2.2.2.2.1) (z.2.2.2.2.2.2.2.2.2.2.2.2.2.2.2.2.1) (z.2.2.2.2.2.2.2.2.2.2.2.2.2.2.2.2.2.1) (z.2.2.2.2.2.2.2.2.2.2.2.2.2.2.2.2.2.2.1) (z.2.2.2.2.2.2.2.2.2.2.2.2.2.2.2.2.2.2.2.1) (z.2.2.2.2.2.2.2.2.2.2.2.2.2.2.2.2.2.2.2.2.1) M_hasRow M_rowLow M_rowHigh (z.2.2.2.2.2.2.2.2.2.2.2.2.2.2.2.2.2.2.2.2.2.1) (z.2.2.2.2.2.2.2.2.2.2.2.2.2.2.2.2.2.2.2.2.2.2.1) (z.2.2.2.2.2.2.2.2.2.2.2.2.2.2.2.2.2.2.2.2.2.2.2.1) M_lines (z.2.2.2.2.2.2.2.2.2.2.2.2.2.2.2.2.2.2.2.2.2.2.2.2.1) (z.2.2.2.2.2.2.2.2.2.2.2.2.2.2.2.2.2.2.2.2.2.2.2.2.2.1) M_out M_written (z.2.2.2.2.2.2.2.2.2.2.2.2.2.2.2.2.2.2.2.2.2.2.2.2.2.2))) args s 0 0 A) (F0 m 65 ls []) := by
  obtain ⟨⟨hx, hb, hml, hown, hts⟩, hr, hlocks⟩ := id C
  intro n
  induction n with
  | zero =>
    intro M_thrown M_text M_size M_has M_hand M_layers M_kinds M_names M_nameSizes M_thicknesses M_spreads M_coppers M_copperAt M_presses M_pressFrom M_pressTo M_vias M_viaFrom M_viaTo M_shares M_lists M_p M_s M_fault M_word M_wordSize M_secondOne H locs ls hm
    rw [g_X7_read_65_z] at hm
    cases hm
  | succ n ih =>
    intro M_thrown M_text M_size M_has M_hand M_layers M_kinds M_names M_nameSizes M_thicknesses M_spreads M_coppers M_copperAt M_presses M_pressFrom M_pressTo M_vias M_viaFrom M_viaTo M_shares M_lists M_p M_s M_fault M_word M_wordSize M_secondOne H locs ls hm hP hD hS hl
    rw [g_X7_read_65_s] at hm
    refine lv_aload_n hx hb dX7_read_65 rfl (lv_at hl 0 rfl) ?_
    obtain ⟨r_1, hc_2, hm⟩ := mb1_of hm
    refine call_vi (wc := (wdX7 q y M_thrown M_text M_size M_has M_hand M_layers M_kinds M_names M_nameSizes M_thicknesses M_spreads M_coppers M_copperAt M_presses M_pressFrom M_pressTo M_vias M_viaFrom M_viaTo M_shares M_lists M_hasRow M_rowLow M_rowHigh M_p M_s M_fault M_lines M_word M_wordSize M_out M_written M_secondOne)) (wr := []) (As := []) (rest := []) C (c_X7_good l D y q _ F hc_2) (cwV 0 hts gX7_read_X7_good rfl rfl rfl (by decide +kernel) ⟨Nat.le_of_ble_eq_true rfl, Nat.le_of_ble_eq_true rfl⟩) hK hP hD hS hA [0, 1, 2, 3, 4, 5, 6, 7, 8, 9, 10, 11, 12, 13, 14, 15, 16, 17, 18, 19, 20] [] rfl rfl rfl rfl rfl (by decide) rfl rfl rfl rfl hl.1 (Nat.le_of_ble_eq_true rfl) dX7_read_66 (fun H locs hP hD hS => ?_)
    have hP : va_P D vwCl (wdX7 q y M_thrown M_text M_size M_has M_hand M_layers M_kinds M_names M_nameSizes M_thicknesses M_spreads M_coppers M_copperAt M_presses M_pressFrom M_pressTo M_vias M_viaFrom M_viaTo M_shares M_lists M_hasRow M_rowLow M_rowHigh M_p M_s M_fault M_lines M_word M_wordSize M_out M_written M_secondOne) H := hP
    have hD : va_D A (wdX7 q y M_thrown M_text M_size M_has M_hand M_layers M_kinds M_names M_nameSizes M_thicknesses M_spreads M_coppers M_copperAt M_presses M_pressFrom M_pressTo M_vias M_viaFrom M_viaTo M_shares M_lists M_hasRow M_rowLow M_rowHigh M_p M_s M_fault M_lines M_word M_wordSize M_out M_written M_secondOne) := hD
    refine lv_if_eq (tgt := 90) hx hb dX7_read_69 (by decide) (fun h_3 => ?_) (fun h_3 => ?_)
    · have hm := it_of hm h_3
      exact k_X7_read_90 C hA hK F M_thrown M_size M_has M_hand M_layers M_kinds M_names M_nameSizes M_thicknesses M_spreads M_coppers M_copperAt M_presses M_pressFrom M_pressTo M_vias M_viaFrom M_viaTo M_shares M_lists M_p M_s M_fault M_word M_wordSize M_secondOne _ _ _ hm hP hD hS (lv_sub hl [0] rfl)
    · have hm := ie_of hm h_3
      refine lv_aload_n hx hb dX7_read_72 rfl (lv_at hl 0 rfl) ?_
      refine va_get (D := D) (ci := 7) (v := .int M_p) (C := RX7) (T := TX7) (N := 33) hx hb hts n_X7_read_X7 hown hK hP 0 rfl rfl 24 (by decide) (hts _ w_X7_read_f79) (fun _ h9 => h9) rfl dX7_read_73 ?_
      refine lv_aload_n hx hb dX7_read_76 rfl (lv_at hl 0 rfl) ?_
      refine va_get (D := D) (ci := 7) (v := .int M_size) (C := RX7) (T := TX7) (N := 33) hx hb hts n_X7_read_X7 hown hK hP 0 rfl rfl 2 (by decide) (hts _ w_X7_read_f76) (fun _ h9 => h9) rfl dX7_read_77 ?_
      refine lv_icmp_ge (tgt := 90) hx hb dX7_read_80 (by decide) (fun h_4 => ?_) (fun h_4 => ?_)
      · have hm := it_of hm h_4
        exact k_X7_read_90 C hA hK F M_thrown M_size M_has M_hand M_layers M_kinds M_names M_nameSizes M_thicknesses M_spreads M_coppers M_copperAt M_presses M_pressFrom M_pressTo M_vias M_viaFrom M_viaTo M_shares M_lists M_p M_s M_fault M_word M_wordSize M_secondOne _ _ _ hm hP hD hS (lv_sub hl [0] rfl)
      · have hm := ie_of hm h_4
        refine lv_aload_n hx hb dX7_read_83 rfl (lv_at hl 0 rfl) ?_
        obtain ⟨M_layers_5, M_kinds_6, M_names_7, M_nameSizes_8, M_thicknesses_9, M_spreads_10, M_coppers_11, M_copperAt_12, M_presses_13, M_pressFrom_14, M_pressTo_15, M_vias_16, M_viaFrom_17, M_viaTo_18, M_p_19, M_fault_20, M_word_21, M_wordSize_22, M_secondOne_23, hc_24, hm⟩ := mb19_of hm
        refine call_vv (wc := (wdX7 q y M_thrown M_text M_size M_has M_hand M_layers M_kinds M_names M_nameSizes M_thicknesses M_spreads M_coppers M_copperAt M_presses M_pressFrom M_pressTo M_vias M_viaFrom M_viaTo M_shares M_lists M_hasRow M_rowLow M_rowHigh M_p M_s M_fault M_lines M_word M_wordSize M_out M_written M_secondOne)) (wr := []) (As := []) (rest := []) C (c_X7_line l D y q _ F hc_24) (cwV 0 hts gX7_read_X7_line rfl rfl rfl (by decide +kernel) ⟨Nat.le_of_ble_eq_true rfl, Nat.le_of_ble_eq_true rfl⟩) hK hP hD hS hA [0, 1, 2, 3, 4, 5, 6, 7, 8, 9, 10, 11, 12, 13, 14, 15, 16, 17, 18, 19, 20] [] rfl rfl rfl rfl rfl (by decide) rfl rfl rfl rfl hl.1 (Nat.le_of_ble_eq_true rfl) dX7_read_84 (fun H locs hP hD hS => ?_)
        have hP : va_P D vwCl (wdX7 q y M_thrown M_text M_size M_has M_hand M_layers_5 M_kinds_6 M_names_7 M_nameSizes_8 M_thicknesses_9 M_spreads_10 M_coppers_11 M_copperAt_12 M_presses_13 M_pressFrom_14 M_pressTo_15 M_vias_16 M_viaFrom_17 M_viaTo_18 M_shares M_lists M_hasRow M_rowLow M_rowHigh M_p_19 M_s M_fault_20 M_lines M_word_21 M_wordSize_22 M_out M_written M_secondOne_23) H := hP
        have hD : va_D A (wdX7 q y M_thrown M_text M_size M_has M_hand M_layers_5 M_kinds_6 M_names_7 M_nameSizes_8 M_thicknesses_9 M_spreads_10 M_coppers_11 M_copperAt_12 M_presses_13 M_pressFrom_14 M_pressTo_15 M_vias_16 M_viaFrom_17 M_viaTo_18 M_shares M_lists M_hasRow M_rowLow M_rowHigh M_p_19 M_s M_fault_20 M_lines M_word_21 M_wordSize_22 M_out M_written M_secondOne_23) := hD
        refine lv_goto (tgt := 65) hx hb dX7_read_87 (by decide) ?_
        exact ih M_thrown M_text M_size M_has M_hand M_layers_5 M_kinds_6 M_names_7 M_nameSizes_8 M_thicknesses_9 M_spreads_10 M_coppers_11 M_copperAt_12 M_presses_13 M_pressFrom_14 M_pressTo_15 M_vias_16 M_viaFrom_17 M_viaTo_18 M_shares M_lists M_p_19 M_s M_fault_20 M_word_21 M_wordSize_22 M_secondOne_23 _ _ _ hm hP hD hS (lv_sub hl [0] rfl)
set_option maxHeartbeats 4000000 in
set_option maxRecDepth 100000 in
theorem c_X7_read (l : Launch) (D : va_G) (y : Nat → ClassId) (q : Nat → Nat) (sz : Nat) (F : Nat) {M_thrown : Int32} {M_text : Nat → Int32} {M_size : Int32} {M_has : Int32} {M_hand : Int32} {M_layers : Nat → Int32} {M_kinds : Nat → Int32} {M_names : Nat → Int64} {M_nameSizes : Nat → Int32} {M_thicknesses : Nat → Int64} {M_spreads : Nat → Int32} {M_coppers : Nat → Int32} {M_copperAt : Nat → Int32} {M_presses : Nat → Int32} {M_pressFrom : Nat → Int32} {M_pressTo : Nat → Int32} {M_vias : Nat → Int32} {M_viaFrom : Nat → Int32} {M_viaTo : Nat → Int32} {M_shares : Nat → Int32} {M_lists : Int32} {M_hasRow : Nat → Int32} {M_rowLow : Nat → Int64} {M_rowHigh : Nat → Int64} {M_p : Int32} {M_s : Int32} {M_fault : Int32} {M_lines : Int32} {M_word : Int64} {M_wordSize : Int32} {M_out : Nat → Int32} {M_written : Int32} {M_secondOne : Int32} {z : Int32 × Int32 × Int32 × Int32 × Int32 × (Nat → Int32) × (Nat → Int32) × (Nat → Int64) × (Nat → Int32) × (Nat → Int64) × (Nat → Int32) × (Nat → Int32) × (Nat → Int32) × (Nat → Int32) × (Nat → Int32) × (Nat → Int32) × (Nat → Int32) × (Nat → Int32) × (Nat → Int32) × (Nat → Int32) × Int32 × Int32 × Int32 × Int32 × Int64 × Int32 × Int32} (hm : f_X7_read F M_thrown M_text M_size M_has M_hand M_layers M_kinds M_names M_nameSizes M_thicknesses M_spreads M_coppers M_copperAt M_presses M_pressFrom M_pressTo M_vias M_viaFrom M_viaTo M_shares M_lists M_p M_s M_fault M_word M_wordSize M_secondOne = some z) : Met l yX7_read wsX7_read ({ frames := 5, cells := 0, slots := 0, locals := 123 } : Room) (va_Pc [.ref (q 0)] (cP D y (wdX7 q y M_thrown M_text M_size M_has M_hand M_layers M_kinds M_names M_nameSizes M_thicknesses M_spreads M_coppers M_copperAt M_presses M_pressFrom M_pressTo M_vias M_viaFrom M_viaTo M_shares M_lists M_hasRow M_rowLow M_rowHigh M_p M_s M_fault M_lines M_word M_wordSize M_out M_written M_secondOne) sz)) (QI D y (va_A (wdX7 q y M_thrown M_text M_size M_has M_hand M_layers M_kinds M_names M_nameSizes M_thicknesses M_spreads M_coppers M_copperAt M_presses M_pressFrom M_pressTo M_vias M_viaFrom M_viaTo M_shares M_lists M_hasRow M_rowLow M_rowHigh M_p M_s M_fault M_lines M_word M_wordSize M_out M_written M_secondOne) sz) (z.1) (wdX7 q y (z.2.1) M_text (z.2.2.1) (z.2.2.2.1) (z.2.2.2.2.1) (z.2.2.2.2.2.1) (z.2.2.2.2.2.2.1) (z.2.2.2.2.2.2.2.1) (z.2.2.2.2.2.2.2.2.1) (z.2.2.2.2.2.2.2.2.2.1) (z.2.2.2.2.2.2.2.2.2.2.1) (z.2.2.2.2.2.2.2.2.2.2.2.1) (z.2.2.2.2.2.2.2.2.2.2.2.2.1) (z.2.2.2.2.2.2.2.2.2.2.2.2.2.1) (z.2.2.2.2.2.2.2.2.2.2.2.2.2.2.1) (z.2.2.2.2.2.2.2.2.2.2.2.2.2.2.2.1) (z.2.2.2.2.2.2.2.2.2.2.2.2.2.2.2.2.1) (z.2.2.2.2.2.2.2.2.2.2.2.2.2.2.2.2.2.1) (z.2.2.2.2.2.2.2.2.2.2.2.2.2.2.2.2.2.2.1) (z.2.2.2.2.2.2.2.2.2.2.2.2.2.2.2.2.2.2.2.1) (z.2.2.2.2.2.2.2.2.2.2.2.2.2.2.2.2.2.2.2.2.1) M_hasRow M_rowLow M_rowHigh (z.2.2.2.2.2.2.2.2.2.2.2.2.2.2.2.2.2.2.2.2.2.1) (z.2.2.2.2.2.2.2.2.2.2.2.2.2.2.2.2.2.2.2.2.2.2.1) (z.2.2.2.2.2.2.2.2.2.2.2.2.2.2.2.2.2.2.2.2.2.2.2.1) M_lines (z.2.2.2.2.2.2.2.2.2.2.2.2.2.2.2.2.2.2.2.2.2.2.2.2.1) (z.2.2.2.2.2.2.2.2.2.2.2.2.2.2.2.2.2.2.2.2.2.2.2.2.2.1) M_out M_written (z.2.2.2.2.2.2.2.2.2.2.2.2.2.2.2.2.2.2.2.2.2.2.2.2.2.2))) 0 0 (va_A (wdX7 q y M_thrown M_text M_size M_has M_hand M_layers M_kinds M_names M_nameSizes M_thicknesses M_spreads M_coppers M_copperAt M_presses M_pressFrom M_pressTo M_vias M_viaFrom M_viaTo M_shares M_lists M_hasRow M_rowLow M_rowHigh M_p M_s M_fault M_lines M_word M_wordSize M_out M_written M_secondOne) sz) := by
  refine met_of (own := RX7) (cc := cX7_read) (maxL := 3) (ret := (some .int)) (by decide) rfl rfl (Nat.le_of_ble_eq_true rfl) ?_
  intro p e s m below meth c ls C hsz hK hP hD hA hS hl
  obtain ⟨⟨hx, hb, hml, hown, hts⟩, hr, hlocks⟩ := id C
  have hl : lv_has ls 3 [(0, .ref (q 0))] := hl
  generalize va_A (wdX7 q y M_thrown M_text M_size M_has M_hand M_layers M_kinds M_names M_nameSizes M_thicknesses M_spreads M_coppers M_copperAt M_presses M_pressFrom M_pressTo M_vias M_viaFrom M_viaTo M_shares M_lists M_hasRow M_rowLow M_rowHigh M_p M_s M_fault M_lines M_word M_wordSize M_out M_written M_secondOne) sz = A at hD hA hS ⊢
  generalize ([.ref (q 0)] : List Value).toArray = args at C hts ⊢
  unfold f_X7_read at hm
  refine lv_aload_n hx hb dX7_read_0 rfl (lv_at hl 0 rfl) ?_
  refine lv_iconst (v := (0 : Int32)) hx hb dX7_read_1 (by decide) ?_
  refine va_put (D := D) (ci := 7) (v := .int (0 : Int32)) (ty := .int) (C := RX7) (T := TX7) (N := 33) hx hb hts n_X7_read_X7 tyX7 tyX7_ok nmX7 hown hK hP hD hS 0 rfl rfl 0 (by decide) (hts _ w_X7_read_f72) (fun _ h9 => h9) rfl (by decide +kernel) rfl rfl (Nat.le_of_ble_eq_true rfl) dX7_read_2 (fun H locs hP hD hS => ?_)
  have hP : va_P D vwCl (wdX7 q y (0 : Int32) M_text M_size M_has M_hand M_layers M_kinds M_names M_nameSizes M_thicknesses M_spreads M_coppers M_copperAt M_presses M_pressFrom M_pressTo M_vias M_viaFrom M_viaTo M_shares M_lists M_hasRow M_rowLow M_rowHigh M_p M_s M_fault M_lines M_word M_wordSize M_out M_written M_secondOne) H := hP
  have hD : va_D A (wdX7 q y (0 : Int32) M_text M_size M_has M_hand M_layers M_kinds M_names M_nameSizes M_thicknesses M_spreads M_coppers M_copperAt M_presses M_pressFrom M_pressTo M_vias M_viaFrom M_viaTo M_shares M_lists M_hasRow M_rowLow M_rowHigh M_p M_s M_fault M_lines M_word M_wordSize M_out M_written M_secondOne) := hD
  refine lv_aload_n hx hb dX7_read_5 rfl (lv_at hl 0 rfl) ?_
  refine lv_iconst (v := (1 : Int32)) hx hb dX7_read_6 (by decide) ?_
  refine lv_aload_n hx hb dX7_read_7 rfl (lv_at hl 0 rfl) ?_
  refine va_get (D := D) (ci := 7) (v := .int M_hand) (C := RX7) (T := TX7) (N := 33) hx hb hts n_X7_read_X7 hown hK hP 0 rfl rfl 4 (by decide) (hts _ w_X7_read_f195) (fun _ h9 => h9) rfl dX7_read_8 ?_
  refine lv_isub hx hb dX7_read_11 ?_
  refine va_put (D := D) (ci := 7) (v := .int ((1 : Int32) - M_hand)) (ty := .int) (C := RX7) (T := TX7) (N := 33) hx hb hts n_X7_read_X7 tyX7 tyX7_ok nmX7 hown hK hP hD hS 0 rfl rfl 25 (by decide) (hts _ w_X7_read_f134) (fun _ h9 => h9) rfl (by decide +kernel) rfl rfl (Nat.le_of_ble_eq_true rfl) dX7_read_12 (fun H locs hP hD hS => ?_)
  have hP : va_P D vwCl (wdX7 q y (0 : Int32) M_text M_size M_has M_hand M_layers M_kinds M_names M_nameSizes M_thicknesses M_spreads M_coppers M_copperAt M_presses M_pressFrom M_pressTo M_vias M_viaFrom M_viaTo M_shares M_lists M_hasRow M_rowLow M_rowHigh M_p ((1 : Int32) - M_hand) M_fault M_lines M_word M_wordSize M_out M_written M_secondOne) H := hP
  have hD : va_D A (wdX7 q y (0 : Int32) M_text M_size M_has M_hand M_layers M_kinds M_names M_nameSizes M_thicknesses M_spreads M_coppers M_copperAt M_presses M_pressFrom M_pressTo M_vias M_viaFrom M_viaTo M_shares M_lists M_hasRow M_rowLow M_rowHigh M_p ((1 : Int32) - M_hand) M_fault M_lines M_word M_wordSize M_out M_written M_secondOne) := hD
  refine lv_aload_n hx hb dX7_read_15 rfl (lv_at hl 0 rfl) ?_
  refine lv_iconst (v := (0 : Int32)) hx hb dX7_read_16 (by decide) ?_
  refine va_put (D := D) (ci := 7) (v := .int (0 : Int32)) (ty := .int) (C := RX7) (T := TX7) (N := 33) hx hb hts n_X7_read_X7 tyX7 tyX7_ok nmX7 hown hK hP hD hS 0 rfl rfl 24 (by decide) (hts _ w_X7_read_f79) (fun _ h9 => h9) rfl (by decide +kernel) rfl rfl (Nat.le_of_ble_eq_true rfl) dX7_read_17 (fun H locs hP hD hS => ?_)
  have hP : va_P D vwCl (wdX7 q y (0 : Int32) M_text M_size M_has M_hand M_layers M_kinds M_names M_nameSizes M_thicknesses M_spreads M_coppers M_copperAt M_presses M_pressFrom M_pressTo M_vias M_viaFrom M_viaTo M_shares M_lists M_hasRow M_rowLow M_rowHigh (0 : Int32) ((1 : Int32) - M_hand) M_fault M_lines M_word M_wordSize M_out M_written M_secondOne) H := hP
  have hD : va_D A (wdX7 q y (0 : Int32) M_text M_size M_has M_hand M_layers M_kinds M_names M_nameSizes M_thicknesses M_spreads M_coppers M_copperAt M_presses M_pressFrom M_pressTo M_vias M_viaFrom M_viaTo M_shares M_lists M_hasRow M_rowLow M_rowHigh (0 : Int32) ((1 : Int32) - M_hand) M_fault M_lines M_word M_wordSize M_out M_written M_secondOne) := hD
  refine lv_aload_n hx hb dX7_read_20 rfl (lv_at hl 0 rfl) ?_
  refine lv_iconst (v := (-1 : Int32)) hx hb dX7_read_21 (by decide) ?_
  refine va_put (D := D) (ci := 7) (v := .int (-1 : Int32)) (ty := .int) (C := RX7) (T := TX7) (N := 33) hx hb hts n_X7_read_X7 tyX7 tyX7_ok nmX7 hown hK hP hD hS 0 rfl rfl 26 (by decide) (hts _ w_X7_read_f82) (fun _ h9 => h9) rfl (by decide +kernel) rfl rfl (Nat.le_of_ble_eq_true rfl) dX7_read_22 (fun H locs hP hD hS => ?_)
  have hP : va_P D vwCl (wdX7 q y (0 : Int32) M_text M_size M_has M_hand M_layers M_kinds M_names M_nameSizes M_thicknesses M_spreads M_coppers M_copperAt M_presses M_pressFrom M_pressTo M_vias M_viaFrom M_viaTo M_shares M_lists M_hasRow M_rowLow M_rowHigh (0 : Int32) ((1 : Int32) - M_hand) (-1 : Int32) M_lines M_word M_wordSize M_out M_written M_secondOne) H := hP
  have hD : va_D A (wdX7 q y (0 : Int32) M_text M_size M_has M_hand M_layers M_kinds M_names M_nameSizes M_thicknesses M_spreads M_coppers M_copperAt M_presses M_pressFrom M_pressTo M_vias M_viaFrom M_viaTo M_shares M_lists M_hasRow M_rowLow M_rowHigh (0 : Int32) ((1 : Int32) - M_hand) (-1 : Int32) M_lines M_word M_wordSize M_out M_written M_secondOne) := hD
  refine lv_aload_n hx hb dX7_read_25 rfl (lv_at hl 0 rfl) ?_
  refine va_get (D := D) (ci := 7) (v := .ref (q 2)) (C := RX7) (T := TX7) (N := 33) hx hb hts n_X7_read_X7 hown hK hP 0 rfl rfl 5 (by decide) (hts _ w_X7_read_f13) (fun _ h9 => h9) rfl dX7_read_26 ?_
  refine lv_aload_n hx hb dX7_read_29 rfl (lv_at hl 0 rfl) ?_
  refine va_get (D := D) (ci := 7) (v := .int ((1 : Int32) - M_hand)) (C := RX7) (T := TX7) (N := 33) hx hb hts n_X7_read_X7 hown hK hP 0 rfl rfl 25 (by decide) (hts _ w_X7_read_f134) (fun _ h9 => h9) rfl dX7_read_30 ?_
  refine lv_iconst (v := (0 : Int32)) hx hb dX7_read_33 (by decide) ?_
  obtain ⟨hg_1, hm⟩ := mg_of hm
  refine va_iast hx hb hK hP hD hS 2 0 rfl rfl hg_1 dX7_read_34 (fun H locs hP hD hS => ?_)
  have hP : va_P D vwCl (wdX7 q y (0 : Int32) M_text M_size M_has M_hand (upd M_layers (((1 : Int32) - M_hand)).toNatClampNeg (0 : Int32)) M_kinds M_names M_nameSizes M_thicknesses M_spreads M_coppers M_copperAt M_presses M_pressFrom M_pressTo M_vias M_viaFrom M_viaTo M_shares M_lists M_hasRow M_rowLow M_rowHigh (0 : Int32) ((1 : Int32) - M_hand) (-1 : Int32) M_lines M_word M_wordSize M_out M_written M_secondOne) H := hP
  have hD : va_D A (wdX7 q y (0 : Int32) M_text M_size M_has M_hand (upd M_layers (((1 : Int32) - M_hand)).toNatClampNeg (0 : Int32)) M_kinds M_names M_nameSizes M_thicknesses M_spreads M_coppers M_copperAt M_presses M_pressFrom M_pressTo M_vias M_viaFrom M_viaTo M_shares M_lists M_hasRow M_rowLow M_rowHigh (0 : Int32) ((1 : Int32) - M_hand) (-1 : Int32) M_lines M_word M_wordSize M_out M_written M_secondOne) := hD
  refine lv_aload_n hx hb dX7_read_35 rfl (lv_at hl 0 rfl) ?_
  refine va_get (D := D) (ci := 7) (v := .ref (q 8)) (C := RX7) (T := TX7) (N := 33) hx hb hts n_X7_read_X7 hown hK hP 0 rfl rfl 11 (by decide) (hts _ w_X7_read_f32) (fun _ h9 => h9) rfl dX7_read_36 ?_
  refine lv_aload_n hx hb dX7_read_39 rfl (lv_at hl 0 rfl) ?_
  refine va_get (D := D) (ci := 7) (v := .int ((1 : Int32) - M_hand)) (C := RX7) (T := TX7) (N := 33) hx hb hts n_X7_read_X7 hown hK hP 0 rfl rfl 25 (by decide) (hts _ w_X7_read_f134) (fun _ h9 => h9) rfl dX7_read_40 ?_
  refine lv_iconst (v := (0 : Int32)) hx hb dX7_read_43 (by decide) ?_
  obtain ⟨hg_2, hm⟩ := mg_of hm
  refine va_iast hx hb hK hP hD hS 8 0 rfl rfl hg_2 dX7_read_44 (fun H locs hP hD hS => ?_)
  have hP : va_P D vwCl (wdX7 q y (0 : Int32) M_text M_size M_has M_hand (upd M_layers (((1 : Int32) - M_hand)).toNatClampNeg (0 : Int32)) M_kinds M_names M_nameSizes M_thicknesses M_spreads (upd M_coppers (((1 : Int32) - M_hand)).toNatClampNeg (0 : Int32)) M_copperAt M_presses M_pressFrom M_pressTo M_vias M_viaFrom M_viaTo M_shares M_lists M_hasRow M_rowLow M_rowHigh (0 : Int32) ((1 : Int32) - M_hand) (-1 : Int32) M_lines M_word M_wordSize M_out M_written M_secondOne) H := hP
  have hD : va_D A (wdX7 q y (0 : Int32) M_text M_size M_has M_hand (upd M_layers (((1 : Int32) - M_hand)).toNatClampNeg (0 : Int32)) M_kinds M_names M_nameSizes M_thicknesses M_spreads (upd M_coppers (((1 : Int32) - M_hand)).toNatClampNeg (0 : Int32)) M_copperAt M_presses M_pressFrom M_pressTo M_vias M_viaFrom M_viaTo M_shares M_lists M_hasRow M_rowLow M_rowHigh (0 : Int32) ((1 : Int32) - M_hand) (-1 : Int32) M_lines M_word M_wordSize M_out M_written M_secondOne) := hD
  refine lv_aload_n hx hb dX7_read_45 rfl (lv_at hl 0 rfl) ?_
  refine va_get (D := D) (ci := 7) (v := .ref (q 10)) (C := RX7) (T := TX7) (N := 33) hx hb hts n_X7_read_X7 hown hK hP 0 rfl rfl 13 (by decide) (hts _ w_X7_read_f38) (fun _ h9 => h9) rfl dX7_read_46 ?_
  refine lv_aload_n hx hb dX7_read_49 rfl (lv_at hl 0 rfl) ?_
  refine va_get (D := D) (ci := 7) (v := .int ((1 : Int32) - M_hand)) (C := RX7) (T := TX7) (N := 33) hx hb hts n_X7_read_X7 hown hK hP 0 rfl rfl 25 (by decide) (hts _ w_X7_read_f134) (fun _ h9 => h9) rfl dX7_read_50 ?_
  refine lv_iconst (v := (0 : Int32)) hx hb dX7_read_53 (by decide) ?_
  obtain ⟨hg_3, hm⟩ := mg_of hm
  refine va_iast hx hb hK hP hD hS 10 0 rfl rfl hg_3 dX7_read_54 (fun H locs hP hD hS => ?_)
  have hP : va_P D vwCl (wdX7 q y (0 : Int32) M_text M_size M_has M_hand (upd M_layers (((1 : Int32) - M_hand)).toNatClampNeg (0 : Int32)) M_kinds M_names M_nameSizes M_thicknesses M_spreads (upd M_coppers (((1 : Int32) - M_hand)).toNatClampNeg (0 : Int32)) M_copperAt (upd M_presses (((1 : Int32) - M_hand)).toNatClampNeg (0 : Int32)) M_pressFrom M_pressTo M_vias M_viaFrom M_viaTo M_shares M_lists M_hasRow M_rowLow M_rowHigh (0 : Int32) ((1 : Int32) - M_hand) (-1 : Int32) M_lines M_word M_wordSize M_out M_written M_secondOne) H := hP
  have hD : va_D A (wdX7 q y (0 : Int32) M_text M_size M_has M_hand (upd M_layers (((1 : Int32) - M_hand)).toNatClampNeg (0 : Int32)) M_kinds M_names M_nameSizes M_thicknesses M_spreads (upd M_coppers (((1 : Int32) - M_hand)).toNatClampNeg (0 : Int32)) M_copperAt (upd M_presses (((1 : Int32) - M_hand)).toNatClampNeg (0 : Int32)) M_pressFrom M_pressTo M_vias M_viaFrom M_viaTo M_shares M_lists M_hasRow M_rowLow M_rowHigh (0 : Int32) ((1 : Int32) - M_hand) (-1 : Int32) M_lines M_word M_wordSize M_out M_written M_secondOne) := hD
  refine lv_aload_n hx hb dX7_read_55 rfl (lv_at hl 0 rfl) ?_
  refine va_get (D := D) (ci := 7) (v := .ref (q 13)) (C := RX7) (T := TX7) (N := 33) hx hb hts n_X7_read_X7 hown hK hP 0 rfl rfl 16 (by decide) (hts _ w_X7_read_f47) (fun _ h9 => h9) rfl dX7_read_56 ?_
  refine lv_aload_n hx hb dX7_read_59 rfl (lv_at hl 0 rfl) ?_
  refine va_get (D := D) (ci := 7) (v := .int ((1 : Int32) - M_hand)) (C := RX7) (T := TX7) (N := 33) hx hb hts n_X7_read_X7 hown hK hP 0 rfl rfl 25 (by decide) (hts _ w_X7_read_f134) (fun _ h9 => h9) rfl dX7_read_60 ?_
  refine lv_iconst (v := (0 : Int32)) hx hb dX7_read_63 (by decide) ?_
  obtain ⟨hg_4, hm⟩ := mg_of hm
  refine va_iast hx hb hK hP hD hS 13 0 rfl rfl hg_4 dX7_read_64 (fun H locs hP hD hS => ?_)
  have hP : va_P D vwCl (wdX7 q y (0 : Int32) M_text M_size M_has M_hand (upd M_layers (((1 : Int32) - M_hand)).toNatClampNeg (0 : Int32)) M_kinds M_names M_nameSizes M_thicknesses M_spreads (upd M_coppers (((1 : Int32) - M_hand)).toNatClampNeg (0 : Int32)) M_copperAt (upd M_presses (((1 : Int32) - M_hand)).toNatClampNeg (0 : Int32)) M_pressFrom M_pressTo (upd M_vias (((1 : Int32) - M_hand)).toNatClampNeg (0 : Int32)) M_viaFrom M_viaTo M_shares M_lists M_hasRow M_rowLow M_rowHigh (0 : Int32) ((1 : Int32) - M_hand) (-1 : Int32) M_lines M_word M_wordSize M_out M_written M_secondOne) H := hP
  have hD : va_D A (wdX7 q y (0 : Int32) M_text M_size M_has M_hand (upd M_layers (((1 : Int32) - M_hand)).toNatClampNeg (0 : Int32)) M_kinds M_names M_nameSizes M_thicknesses M_spreads (upd M_coppers (((1 : Int32) - M_hand)).toNatClampNeg (0 : Int32)) M_copperAt (upd M_presses (((1 : Int32) - M_hand)).toNatClampNeg (0 : Int32)) M_pressFrom M_pressTo (upd M_vias (((1 : Int32) - M_hand)).toNatClampNeg (0 : Int32)) M_viaFrom M_viaTo M_shares M_lists M_hasRow M_rowLow M_rowHigh (0 : Int32) ((1 : Int32) - M_hand) (-1 : Int32) M_lines M_word M_wordSize M_out M_written M_secondOne) := hD
  exact k_X7_read_65 C hA hK F F (0 : Int32) M_text M_size M_has M_hand (upd M_layers (((1 : Int32) - M_hand)).toNatClampNeg (0 : Int32)) M_kinds M_names M_nameSizes M_thicknesses M_spreads (upd M_coppers (((1 : Int32) - M_hand)).toNatClampNeg (0 : Int32)) M_copperAt (upd M_presses (((1 : Int32) - M_hand)).toNatClampNeg (0 : Int32)) M_pressFrom M_pressTo (upd M_vias (((1 : Int32) - M_hand)).toNatClampNeg (0 : Int32)) M_viaFrom M_viaTo M_shares M_lists (0 : Int32) ((1 : Int32) - M_hand) (-1 : Int32) M_word M_wordSize M_secondOne _ _ _ hm hP hD hS (lv_sub hl [0] rfl)
def f_X7_isLayer (F : Nat) (v1 : Int32) (M_has : Int32) (M_hand : Int32) (M_layers : Nat → Int32) : Option (Int32) := (if M_has = 0 then some (0 : Int32) else (if v1 < 0 then some (0 : Int32) else mg (inb M_hand 2) ((if (M_layers (M_hand).toNatClampNeg) ≤ v1 then some (0 : Int32) else some (1 : Int32)))))
set_option maxRecDepth 20000 in
theorem n_X7_isLayer_X7 : ∀ w ∈ wsX70, w ∈ wsX7_isLayer := by decide +kernel
set_option maxRecDepth 20000 in
theorem w_X7_isLayer_f201 : Cond.fieldLink RX7 201 "LayerStacksModel" "has" "Z" ∈ wsX7_isLayer := by decide +kernel
set_option maxRecDepth 20000 in
theorem w_X7_isLayer_f13 : Cond.fieldLink RX7 13 "LayerStacksModel" "layers" "[I" ∈ wsX7_isLayer := by decide +kernel
set_option maxRecDepth 20000 in
theorem w_X7_isLayer_f195 : Cond.fieldLink RX7 195 "LayerStacksModel" "hand" "I" ∈ wsX7_isLayer := by decide +kernel
set_option maxHeartbeats 4000000 in
set_option maxRecDepth 100000 in
theorem c_X7_isLayer (l : Launch) (D : va_G) (y : Nat → ClassId) (q : Nat → Nat) (sz : Nat) (F : Nat) {v1 : Int32} {M_thrown : Int32} {M_text : Nat → Int32} {M_size : Int32} {M_has : Int32} {M_hand : Int32} {M_layers : Nat → Int32} {M_kinds : Nat → Int32} {M_names : Nat → Int64} {M_nameSizes : Nat → Int32} {M_thicknesses : Nat → Int64} {M_spreads : Nat → Int32} {M_coppers : Nat → Int32} {M_copperAt : Nat → Int32} {M_presses : Nat → Int32} {M_pressFrom : Nat → Int32} {M_pressTo : Nat → Int32} {M_vias : Nat → Int32} {M_viaFrom : Nat → Int32} {M_viaTo : Nat → Int32} {M_shares : Nat → Int32} {M_lists : Int32} {M_hasRow : Nat → Int32} {M_rowLow : Nat → Int64} {M_rowHigh : Nat → Int64} {M_p : Int32} {M_s : Int32} {M_fault : Int32} {M_lines : Int32} {M_word : Int64} {M_wordSize : Int32} {M_out : Nat → Int32} {M_written : Int32} {M_secondOne : Int32} {z : Int32} (hm : f_X7_isLayer F v1 M_has M_hand M_layers = some z) : Met l yX7_isLayer wsX7_isLayer ({ frames := 0, cells := 0, slots := 0, locals := 0 } : Room) (va_Pc [.ref (q 0), .int v1] (cP D y (wdX7 q y M_thrown M_text M_size M_has M_hand M_layers M_kinds M_names M_nameSizes M_thicknesses M_spreads M_coppers M_copperAt M_presses M_pressFrom M_pressTo M_vias M_viaFrom M_viaTo M_shares M_lists M_hasRow M_rowLow M_rowHigh M_p M_s M_fault M_lines M_word M_wordSize M_out M_written M_secondOne) sz)) (QI D y (va_A (wdX7 q y M_thrown M_text M_size M_has M_hand M_layers M_kinds M_names M_nameSizes M_thicknesses M_spreads M_coppers M_copperAt M_presses M_pressFrom M_pressTo M_vias M_viaFrom M_viaTo M_shares M_lists M_hasRow M_rowLow M_rowHigh M_p M_s M_fault M_lines M_word M_wordSize M_out M_written M_secondOne) sz) (z) (wdX7 q y M_thrown M_text M_size M_has M_hand M_layers M_kinds M_names M_nameSizes M_thicknesses M_spreads M_coppers M_copperAt M_presses M_pressFrom M_pressTo M_vias M_viaFrom M_viaTo M_shares M_lists M_hasRow M_rowLow M_rowHigh M_p M_s M_fault M_lines M_word M_wordSize M_out M_written M_secondOne)) 0 0 (va_A (wdX7 q y M_thrown M_text M_size M_has M_hand M_layers M_kinds M_names M_nameSizes M_thicknesses M_spreads M_coppers M_copperAt M_presses M_pressFrom M_pressTo M_vias M_viaFrom M_viaTo M_shares M_lists M_hasRow M_rowLow M_rowHigh M_p M_s M_fault M_lines M_word M_wordSize M_out M_written M_secondOne) sz) := by
  refine met_of (own := RX7) (cc := cX7_isLayer) (maxL := 2) (ret := (some .boolean)) (by decide) rfl rfl (Nat.le_of_ble_eq_true rfl) ?_
  intro p e s m below meth c ls C hsz hK hP hD hA hS hl
  obtain ⟨⟨hx, hb, hml, hown, hts⟩, hr, hlocks⟩ := id C
  have hl : lv_has ls 2 [(0, .ref (q 0)), (1, .int v1)] := hl
  generalize va_A (wdX7 q y M_thrown M_text M_size M_has M_hand M_layers M_kinds M_names M_nameSizes M_thicknesses M_spreads M_coppers M_copperAt M_presses M_pressFrom M_pressTo M_vias M_viaFrom M_viaTo M_shares M_lists M_hasRow M_rowLow M_rowHigh M_p M_s M_fault M_lines M_word M_wordSize M_out M_written M_secondOne) sz = A at hD hA hS ⊢
  generalize ([.ref (q 0), .int v1] : List Value).toArray = args at C hts ⊢
  unfold f_X7_isLayer at hm
  refine lv_aload_n hx hb dX7_isLayer_0 rfl (lv_at hl 0 rfl) ?_
  refine va_get (D := D) (ci := 7) (v := .int M_has) (C := RX7) (T := TX7) (N := 33) hx hb hts n_X7_isLayer_X7 hown hK hP 0 rfl rfl 3 (by decide) (hts _ w_X7_isLayer_f201) (fun _ h9 => h9) rfl dX7_isLayer_1 ?_
  refine lv_if_eq (tgt := 28) hx hb dX7_isLayer_4 (by decide) (fun h_1 => ?_) (fun h_1 => ?_)
  · have hm := it_of hm h_1
    refine lv_iconst (v := (0 : Int32)) hx hb dX7_isLayer_28 (by decide) ?_
    have hz := Option.some.inj hm
    subst hz
    exact end_z C hK hP hD hS (show vp_nar .boolean (0 : Int32) = (0 : Int32) from by decide) dX7_isLayer_29
  · have hm := ie_of hm h_1
    refine lv_iload_n hx hb dX7_isLayer_7 rfl (lv_at hl 1 rfl) ?_
    refine lv_if_lt (tgt := 28) hx hb dX7_isLayer_8 (by decide) (fun h_2 => ?_) (fun h_2 => ?_)
    · have hm := it_of hm h_2
      refine lv_iconst (v := (0 : Int32)) hx hb dX7_isLayer_28 (by decide) ?_
      have hz := Option.some.inj hm
      subst hz
      exact end_z C hK hP hD hS (show vp_nar .boolean (0 : Int32) = (0 : Int32) from by decide) dX7_isLayer_29
    · have hm := ie_of hm h_2
      refine lv_iload_n hx hb dX7_isLayer_11 rfl (lv_at hl 1 rfl) ?_
      refine lv_aload_n hx hb dX7_isLayer_12 rfl (lv_at hl 0 rfl) ?_
      refine va_get (D := D) (ci := 7) (v := .ref (q 2)) (C := RX7) (T := TX7) (N := 33) hx hb hts n_X7_isLayer_X7 hown hK hP 0 rfl rfl 5 (by decide) (hts _ w_X7_isLayer_f13) (fun _ h9 => h9) rfl dX7_isLayer_13 ?_
      refine lv_aload_n hx hb dX7_isLayer_16 rfl (lv_at hl 0 rfl) ?_
      refine va_get (D := D) (ci := 7) (v := .int M_hand) (C := RX7) (T := TX7) (N := 33) hx hb hts n_X7_isLayer_X7 hown hK hP 0 rfl rfl 4 (by decide) (hts _ w_X7_isLayer_f195) (fun _ h9 => h9) rfl dX7_isLayer_17 ?_
      obtain ⟨hg_3, hm⟩ := mg_of hm
      refine va_iald hx hb hK hP 2 0 rfl rfl hg_3 dX7_isLayer_20 ?_
      refine lv_icmp_ge (tgt := 28) hx hb dX7_isLayer_21 (by decide) (fun h_4 => ?_) (fun h_4 => ?_)
      · have hm := it_of hm h_4
        refine lv_iconst (v := (0 : Int32)) hx hb dX7_isLayer_28 (by decide) ?_
        have hz := Option.some.inj hm
        subst hz
        exact end_z C hK hP hD hS (show vp_nar .boolean (0 : Int32) = (0 : Int32) from by decide) dX7_isLayer_29
      · have hm := ie_of hm h_4
        refine lv_iconst (v := (1 : Int32)) hx hb dX7_isLayer_24 (by decide) ?_
        refine lv_goto (tgt := 29) hx hb dX7_isLayer_25 (by decide) ?_
        have hz := Option.some.inj hm
        subst hz
        exact end_z C hK hP hD hS (show vp_nar .boolean (1 : Int32) = (1 : Int32) from by decide) dX7_isLayer_29
def f_X7_isCopper (F : Nat) (v1 : Int32) (M_has : Int32) (M_hand : Int32) (M_coppers : Nat → Int32) : Option (Int32) := (if M_has = 0 then some (0 : Int32) else (if v1 < 0 then some (0 : Int32) else mg (inb M_hand 2) ((if (M_coppers (M_hand).toNatClampNeg) ≤ v1 then some (0 : Int32) else some (1 : Int32)))))
set_option maxRecDepth 20000 in
theorem n_X7_isCopper_X7 : ∀ w ∈ wsX70, w ∈ wsX7_isCopper := by decide +kernel
set_option maxRecDepth 20000 in
theorem w_X7_isCopper_f201 : Cond.fieldLink RX7 201 "LayerStacksModel" "has" "Z" ∈ wsX7_isCopper := by decide +kernel
set_option maxRecDepth 20000 in
theorem w_X7_isCopper_f32 : Cond.fieldLink RX7 32 "LayerStacksModel" "coppers" "[I" ∈ wsX7_isCopper := by decide +kernel
set_option maxRecDepth 20000 in
theorem w_X7_isCopper_f195 : Cond.fieldLink RX7 195 "LayerStacksModel" "hand" "I" ∈ wsX7_isCopper := by decide +kernel
set_option maxHeartbeats 4000000 in
set_option maxRecDepth 100000 in
theorem c_X7_isCopper (l : Launch) (D : va_G) (y : Nat → ClassId) (q : Nat → Nat) (sz : Nat) (F : Nat) {v1 : Int32} {M_thrown : Int32} {M_text : Nat → Int32} {M_size : Int32} {M_has : Int32} {M_hand : Int32} {M_layers : Nat → Int32} {M_kinds : Nat → Int32} {M_names : Nat → Int64} {M_nameSizes : Nat → Int32} {M_thicknesses : Nat → Int64} {M_spreads : Nat → Int32} {M_coppers : Nat → Int32} {M_copperAt : Nat → Int32} {M_presses : Nat → Int32} {M_pressFrom : Nat → Int32} {M_pressTo : Nat → Int32} {M_vias : Nat → Int32} {M_viaFrom : Nat → Int32} {M_viaTo : Nat → Int32} {M_shares : Nat → Int32} {M_lists : Int32} {M_hasRow : Nat → Int32} {M_rowLow : Nat → Int64} {M_rowHigh : Nat → Int64} {M_p : Int32} {M_s : Int32} {M_fault : Int32} {M_lines : Int32} {M_word : Int64} {M_wordSize : Int32} {M_out : Nat → Int32} {M_written : Int32} {M_secondOne : Int32} {z : Int32} (hm : f_X7_isCopper F v1 M_has M_hand M_coppers = some z) : Met l yX7_isCopper wsX7_isCopper ({ frames := 0, cells := 0, slots := 0, locals := 0 } : Room) (va_Pc [.ref (q 0), .int v1] (cP D y (wdX7 q y M_thrown M_text M_size M_has M_hand M_layers M_kinds M_names M_nameSizes M_thicknesses M_spreads M_coppers M_copperAt M_presses M_pressFrom M_pressTo M_vias M_viaFrom M_viaTo M_shares M_lists M_hasRow M_rowLow M_rowHigh M_p M_s M_fault M_lines M_word M_wordSize M_out M_written M_secondOne) sz)) (QI D y (va_A (wdX7 q y M_thrown M_text M_size M_has M_hand M_layers M_kinds M_names M_nameSizes M_thicknesses M_spreads M_coppers M_copperAt M_presses M_pressFrom M_pressTo M_vias M_viaFrom M_viaTo M_shares M_lists M_hasRow M_rowLow M_rowHigh M_p M_s M_fault M_lines M_word M_wordSize M_out M_written M_secondOne) sz) (z) (wdX7 q y M_thrown M_text M_size M_has M_hand M_layers M_kinds M_names M_nameSizes M_thicknesses M_spreads M_coppers M_copperAt M_presses M_pressFrom M_pressTo M_vias M_viaFrom M_viaTo M_shares M_lists M_hasRow M_rowLow M_rowHigh M_p M_s M_fault M_lines M_word M_wordSize M_out M_written M_secondOne)) 0 0 (va_A (wdX7 q y M_thrown M_text M_size M_has M_hand M_layers M_kinds M_names M_nameSizes M_thicknesses M_spreads M_coppers M_copperAt M_presses M_pressFrom M_pressTo M_vias M_viaFrom M_viaTo M_shares M_lists M_hasRow M_rowLow M_rowHigh M_p M_s M_fault M_lines M_word M_wordSize M_out M_written M_secondOne) sz) := by
  refine met_of (own := RX7) (cc := cX7_isCopper) (maxL := 2) (ret := (some .boolean)) (by decide) rfl rfl (Nat.le_of_ble_eq_true rfl) ?_
  intro p e s m below meth c ls C hsz hK hP hD hA hS hl
  obtain ⟨⟨hx, hb, hml, hown, hts⟩, hr, hlocks⟩ := id C
  have hl : lv_has ls 2 [(0, .ref (q 0)), (1, .int v1)] := hl
  generalize va_A (wdX7 q y M_thrown M_text M_size M_has M_hand M_layers M_kinds M_names M_nameSizes M_thicknesses M_spreads M_coppers M_copperAt M_presses M_pressFrom M_pressTo M_vias M_viaFrom M_viaTo M_shares M_lists M_hasRow M_rowLow M_rowHigh M_p M_s M_fault M_lines M_word M_wordSize M_out M_written M_secondOne) sz = A at hD hA hS ⊢
  generalize ([.ref (q 0), .int v1] : List Value).toArray = args at C hts ⊢
  unfold f_X7_isCopper at hm
  refine lv_aload_n hx hb dX7_isCopper_0 rfl (lv_at hl 0 rfl) ?_
  refine va_get (D := D) (ci := 7) (v := .int M_has) (C := RX7) (T := TX7) (N := 33) hx hb hts n_X7_isCopper_X7 hown hK hP 0 rfl rfl 3 (by decide) (hts _ w_X7_isCopper_f201) (fun _ h9 => h9) rfl dX7_isCopper_1 ?_
  refine lv_if_eq (tgt := 28) hx hb dX7_isCopper_4 (by decide) (fun h_1 => ?_) (fun h_1 => ?_)
  · have hm := it_of hm h_1
    refine lv_iconst (v := (0 : Int32)) hx hb dX7_isCopper_28 (by decide) ?_
    have hz := Option.some.inj hm
    subst hz
    exact end_z C hK hP hD hS (show vp_nar .boolean (0 : Int32) = (0 : Int32) from by decide) dX7_isCopper_29
  · have hm := ie_of hm h_1
    refine lv_iload_n hx hb dX7_isCopper_7 rfl (lv_at hl 1 rfl) ?_
    refine lv_if_lt (tgt := 28) hx hb dX7_isCopper_8 (by decide) (fun h_2 => ?_) (fun h_2 => ?_)
    · have hm := it_of hm h_2
      refine lv_iconst (v := (0 : Int32)) hx hb dX7_isCopper_28 (by decide) ?_
      have hz := Option.some.inj hm
      subst hz
      exact end_z C hK hP hD hS (show vp_nar .boolean (0 : Int32) = (0 : Int32) from by decide) dX7_isCopper_29
    · have hm := ie_of hm h_2
      refine lv_iload_n hx hb dX7_isCopper_11 rfl (lv_at hl 1 rfl) ?_
      refine lv_aload_n hx hb dX7_isCopper_12 rfl (lv_at hl 0 rfl) ?_
      refine va_get (D := D) (ci := 7) (v := .ref (q 8)) (C := RX7) (T := TX7) (N := 33) hx hb hts n_X7_isCopper_X7 hown hK hP 0 rfl rfl 11 (by decide) (hts _ w_X7_isCopper_f32) (fun _ h9 => h9) rfl dX7_isCopper_13 ?_
      refine lv_aload_n hx hb dX7_isCopper_16 rfl (lv_at hl 0 rfl) ?_
      refine va_get (D := D) (ci := 7) (v := .int M_hand) (C := RX7) (T := TX7) (N := 33) hx hb hts n_X7_isCopper_X7 hown hK hP 0 rfl rfl 4 (by decide) (hts _ w_X7_isCopper_f195) (fun _ h9 => h9) rfl dX7_isCopper_17 ?_
      obtain ⟨hg_3, hm⟩ := mg_of hm
      refine va_iald hx hb hK hP 8 0 rfl rfl hg_3 dX7_isCopper_20 ?_
      refine lv_icmp_ge (tgt := 28) hx hb dX7_isCopper_21 (by decide) (fun h_4 => ?_) (fun h_4 => ?_)
      · have hm := it_of hm h_4
        refine lv_iconst (v := (0 : Int32)) hx hb dX7_isCopper_28 (by decide) ?_
        have hz := Option.some.inj hm
        subst hz
        exact end_z C hK hP hD hS (show vp_nar .boolean (0 : Int32) = (0 : Int32) from by decide) dX7_isCopper_29
      · have hm := ie_of hm h_4
        refine lv_iconst (v := (1 : Int32)) hx hb dX7_isCopper_24 (by decide) ?_
        refine lv_goto (tgt := 29) hx hb dX7_isCopper_25 (by decide) ?_
        have hz := Option.some.inj hm
        subst hz
        exact end_z C hK hP hD hS (show vp_nar .boolean (1 : Int32) = (1 : Int32) from by decide) dX7_isCopper_29
def g_X7_common_6 (F : Nat) : Nat → Int64 → Int64 → Option (Int64)
  | 0, _, _ => none
  | n + 1, v4, v6 => (if (lg_cmp v6 (0 : Int64)) = 0 then some v4 else mg (¬ v6 = 0) (mn (v4 - v4 / v6 * v6) (fun v8_3 => g_X7_common_6 F n v6 v8_3)))
theorem g_X7_common_6_z (F : Nat) (v4 : Int64) (v6 : Int64) : g_X7_common_6 F 0 v4 v6 = none := rfl
theorem g_X7_common_6_s (F : Nat) (n : Nat) (v4 : Int64) (v6 : Int64) : g_X7_common_6 F (n + 1) v4 v6 = (if (lg_cmp v6 (0 : Int64)) = 0 then some v4 else mg (¬ v6 = 0) (mn (v4 - v4 / v6 * v6) (fun v8_3 => g_X7_common_6 F n v6 v8_3))) := rfl
def f_X7_common (F : Nat) (v0 : Int64) (v2 : Int64) : Option (Int64) := g_X7_common_6 F F v0 v2
set_option maxHeartbeats 4000000 in
set_option maxRecDepth 100000 in
theorem k_X7_common_6 {p : Program} {l : Launch} {e : Env} {s : State} {m : MethodId} {args : Array Value} {below : List Frame} {meth : Method} {c : Code} {D : va_G} {y : Nat → ClassId} {A : Nat → Prop} {z : Int64} (C : CX p s m args meth c wsX7_common RX7 cX7_common 10 (some .long)) (hA : ∀ q : Nat, s.heap.size ≤ q → A q) (hK : va_K D vwCl (tyl y) s) (F : Nat) :
    ∀ (n : Nat), ∀ (v4 : Int64) (v6 : Int64) (H : Heap) (locs : List Loc) (ls : Array Slot), g_X7_common_6 F n v4 v6 = some z → va_P D vwCl ([] : va_W) H → va_D A ([] : va_W) → va_S A s.heap H locs → lv_has ls 10 [(4, .long v4), (6, .long v6)] → W p l e ({ frames := 0, cells := 0, slots := 0, locals := 0 } : Room) s m args below meth c H locs 0 0 (MQ below (QL D y A (z) ([] : va_W)) args s 0 0 A) (F0 m 6 ls []) := by
  obtain ⟨⟨hx, hb, hml, hown, hts⟩, hr, hlocks⟩ := id C
  intro n
  induction n with
  | zero =>
    intro v4 v6 H locs ls hm
    rw [g_X7_common_6_z] at hm
    cases hm
  | succ n ih =>
    intro v4 v6 H locs ls hm hP hD hS hl
    rw [g_X7_common_6_s] at hm
    refine lv_lload hx hb dX7_common_6 (lv_at hl 1 rfl) ?_
    refine lv_lconst (v := (0 : Int64)) hx hb dX7_common_8 (by decide) ?_
    refine W.lcmp hx hb dX7_common_9 ?_
    refine lv_if_eq (tgt := 31) hx hb dX7_common_10 (by decide) (fun h_1 => ?_) (fun h_1 => ?_)
    · have hm := it_of hm h_1
      refine lv_lload hx hb dX7_common_31 (lv_at hl 0 rfl) ?_
      have hz := Option.some.inj hm
      subst hz
      exact end_l C hK hP hD hS dX7_common_33
    · have hm := ie_of hm h_1
      refine lv_lload hx hb dX7_common_13 (lv_at hl 0 rfl) ?_
      refine lv_lload hx hb dX7_common_15 (lv_at hl 1 rfl) ?_
      obtain ⟨hg_2, hm⟩ := mg_of hm
      refine lv_lrem hx hb dX7_common_17 hg_2 ?_
      refine lv_topl (fun v8_3 ev8_3 => ?_)
      have hm := mn_of ev8_3 hm
      refine lv_lstore (lv' := [(8, .long v8_3), (4, .long v4), (6, .long v6)]) hx hb dX7_common_18 hl (by decide) rfl (fun ls hl => ?_)
      refine lv_lload hx hb dX7_common_20 (lv_at hl 2 rfl) ?_
      refine lv_lstore (lv' := [(4, .long v6), (8, .long v8_3), (6, .long v6)]) hx hb dX7_common_22 hl (by decide) rfl (fun ls hl => ?_)
      refine lv_lload hx hb dX7_common_24 (lv_at hl 1 rfl) ?_
      refine lv_lstore (lv' := [(6, .long v8_3), (4, .long v6), (8, .long v8_3)]) hx hb dX7_common_26 hl (by decide) rfl (fun ls hl => ?_)
      refine lv_goto (tgt := 6) hx hb dX7_common_28 (by decide) ?_
      exact ih v6 v8_3 _ _ _ hm hP hD hS (lv_sub hl [1, 0] rfl)
set_option maxHeartbeats 4000000 in
set_option maxRecDepth 100000 in
theorem c_X7_common (l : Launch) (D : va_G) (y : Nat → ClassId) (sz : Nat) (F : Nat) {v0 : Int64} {v2 : Int64} {z : Int64} (hm : f_X7_common F v0 v2 = some z) : Met l yX7_common wsX7_common ({ frames := 0, cells := 0, slots := 0, locals := 0 } : Room) (va_Pc [.long v0, .long v2] (cP D y ([] : va_W) sz)) (QL D y (va_A ([] : va_W) sz) (z) ([] : va_W)) 0 0 (va_A ([] : va_W) sz) := by
  refine met_of (own := RX7) (cc := cX7_common) (maxL := 10) (ret := (some .long)) (by decide) rfl rfl (Nat.le_of_ble_eq_true rfl) ?_
  intro p e s m below meth c ls C hsz hK hP hD hA hS hl
  obtain ⟨⟨hx, hb, hml, hown, hts⟩, hr, hlocks⟩ := id C
  have hl : lv_has ls 10 [(0, .long v0), (2, .long v2)] := hl
  generalize va_A ([] : va_W) sz = A at hD hA hS ⊢
  generalize ([.long v0, .long v2] : List Value).toArray = args at C hts ⊢
  unfold f_X7_common at hm
  refine lv_lload_n hx hb dX7_common_0 rfl (lv_at hl 0 rfl) ?_
  refine lv_lstore (lv' := [(4, .long v0), (0, .long v0), (2, .long v2)]) hx hb dX7_common_1 hl (by decide) rfl (fun ls hl => ?_)
  refine lv_lload_n hx hb dX7_common_3 rfl (lv_at hl 2 rfl) ?_
  refine lv_lstore (lv' := [(6, .long v2), (4, .long v0), (0, .long v0), (2, .long v2)]) hx hb dX7_common_4 hl (by decide) rfl (fun ls hl => ?_)
  exact k_X7_common_6 C hA hK F F v0 v2 _ _ _ hm hP hD hS (lv_sub hl [1, 0] rfl)
def f_X7_partOf (F : Nat) (v0 : Int64) (v2 : Int64) (v4 : Int32) : Option (Int64) := mb1 (f_X7_common F v0 v2) (fun r_1 => (if v4 = 0 then mg (¬ r_1 = 0) (some (v0 / r_1)) else mg (¬ r_1 = 0) (some (v2 / r_1))))
set_option maxHeartbeats 4000000 in
set_option maxRecDepth 100000 in
theorem c_X7_partOf (l : Launch) (D : va_G) (y : Nat → ClassId) (sz : Nat) (F : Nat) {v0 : Int64} {v2 : Int64} {v4 : Int32} {z : Int64} (hm : f_X7_partOf F v0 v2 v4 = some z) : Met l yX7_partOf wsX7_partOf ({ frames := 1, cells := 0, slots := 0, locals := 29 } : Room) (va_Pc [.long v0, .long v2, .int v4] (cP D y ([] : va_W) sz)) (QL D y (va_A ([] : va_W) sz) (z) ([] : va_W)) 0 0 (va_A ([] : va_W) sz) := by
  refine met_of (own := RX7) (cc := cX7_partOf) (maxL := 7) (ret := (some .long)) (by decide) rfl rfl (Nat.le_of_ble_eq_true rfl) ?_
  intro p e s m below meth c ls C hsz hK hP hD hA hS hl
  obtain ⟨⟨hx, hb, hml, hown, hts⟩, hr, hlocks⟩ := id C
  have hl : lv_has ls 7 [(0, .long v0), (2, .long v2), (4, .int v4)] := hl
  generalize va_A ([] : va_W) sz = A at hD hA hS ⊢
  generalize ([.long v0, .long v2, .int v4] : List Value).toArray = args at C hts ⊢
  unfold f_X7_partOf at hm
  refine lv_lload_n hx hb dX7_partOf_0 rfl (lv_at hl 0 rfl) ?_
  refine lv_lload_n hx hb dX7_partOf_1 rfl (lv_at hl 1 rfl) ?_
  obtain ⟨r_1, hc_2, hm⟩ := mb1_of hm
  refine call_sl (wc := ([] : va_W)) (wr := []) (As := [.long v0, .long v2]) (rest := []) C (c_X7_common l D y _ F hc_2) (va_cwS 2 hts gX7_partOf_X7_common rfl rfl rfl (by decide +kernel) ⟨Nat.le_of_ble_eq_true rfl, Nat.le_of_ble_eq_true rfl⟩) hK hP hD hS hA [] [] rfl rfl rfl rfl rfl (by decide) rfl hl.1 (Nat.le_of_ble_eq_true rfl) dX7_partOf_2 (fun H locs hP hD hS => ?_)
  have hP : va_P D vwCl ([] : va_W) H := hP
  have hD : va_D A ([] : va_W) := hD
  refine lv_lstore (lv' := [(5, .long r_1), (0, .long v0), (2, .long v2), (4, .int v4)]) hx hb dX7_partOf_5 hl (by decide) rfl (fun ls hl => ?_)
  refine lv_iload hx hb dX7_partOf_7 (lv_at hl 3 rfl) ?_
  refine lv_if_ne (tgt := 19) hx hb dX7_partOf_9 (by decide) (fun h_3 => ?_) (fun h_3 => ?_)
  · have hm := ie_of hm h_3
    refine lv_lload_n hx hb dX7_partOf_19 rfl (lv_at hl 2 rfl) ?_
    refine lv_lload hx hb dX7_partOf_20 (lv_at hl 0 rfl) ?_
    obtain ⟨hg_4, hm⟩ := mg_of hm
    refine lv_ldiv hx hb dX7_partOf_22 hg_4 ?_
    have hz := Option.some.inj hm
    subst hz
    exact end_l C hK hP hD hS dX7_partOf_23
  · have hm := it_of hm h_3
    refine lv_lload_n hx hb dX7_partOf_12 rfl (lv_at hl 1 rfl) ?_
    refine lv_lload hx hb dX7_partOf_13 (lv_at hl 0 rfl) ?_
    obtain ⟨hg_5, hm⟩ := mg_of hm
    refine lv_ldiv hx hb dX7_partOf_15 hg_5 ?_
    refine lv_goto (tgt := 23) hx hb dX7_partOf_16 (by decide) ?_
    have hz := Option.some.inj hm
    subst hz
    exact end_l C hK hP hD hS dX7_partOf_23
def f_X7_endOf (F : Nat) (v1 : Int32) (v2 : Int32) (M_hand : Int32) (M_thicknesses : Nat → Int64) (M_spreads : Nat → Int32) : Option (Int64) := mn (((80 : Int32) * M_hand) + v1) (fun v3_1 => mg (inb v3_1 160) ((if v2 = 0 then mg (inb v3_1 160) (some ((M_thicknesses (v3_1).toNatClampNeg) * ((1000 : Int64) - (((M_spreads (v3_1).toNatClampNeg)).toInt64)))) else mg (inb v3_1 160) (some ((M_thicknesses (v3_1).toNatClampNeg) * ((1000 : Int64) + (((M_spreads (v3_1).toNatClampNeg)).toInt64)))))))
set_option maxRecDepth 20000 in
theorem n_X7_endOf_X7 : ∀ w ∈ wsX70, w ∈ wsX7_endOf := by decide +kernel
set_option maxRecDepth 20000 in
theorem w_X7_endOf_f195 : Cond.fieldLink RX7 195 "LayerStacksModel" "hand" "I" ∈ wsX7_endOf := by decide +kernel
set_option maxRecDepth 20000 in
theorem w_X7_endOf_f26 : Cond.fieldLink RX7 26 "LayerStacksModel" "thicknesses" "[J" ∈ wsX7_endOf := by decide +kernel
set_option maxRecDepth 20000 in
theorem w_X7_endOf_k212 : Cond.constantLong RX7 212 (1000) ∈ wsX7_endOf := by decide +kernel
set_option maxRecDepth 20000 in
theorem w_X7_endOf_f29 : Cond.fieldLink RX7 29 "LayerStacksModel" "spreads" "[I" ∈ wsX7_endOf := by decide +kernel
set_option maxHeartbeats 4000000 in
set_option maxRecDepth 100000 in
theorem c_X7_endOf (l : Launch) (D : va_G) (y : Nat → ClassId) (q : Nat → Nat) (sz : Nat) (F : Nat) {v1 : Int32} {v2 : Int32} {M_thrown : Int32} {M_text : Nat → Int32} {M_size : Int32} {M_has : Int32} {M_hand : Int32} {M_layers : Nat → Int32} {M_kinds : Nat → Int32} {M_names : Nat → Int64} {M_nameSizes : Nat → Int32} {M_thicknesses : Nat → Int64} {M_spreads : Nat → Int32} {M_coppers : Nat → Int32} {M_copperAt : Nat → Int32} {M_presses : Nat → Int32} {M_pressFrom : Nat → Int32} {M_pressTo : Nat → Int32} {M_vias : Nat → Int32} {M_viaFrom : Nat → Int32} {M_viaTo : Nat → Int32} {M_shares : Nat → Int32} {M_lists : Int32} {M_hasRow : Nat → Int32} {M_rowLow : Nat → Int64} {M_rowHigh : Nat → Int64} {M_p : Int32} {M_s : Int32} {M_fault : Int32} {M_lines : Int32} {M_word : Int64} {M_wordSize : Int32} {M_out : Nat → Int32} {M_written : Int32} {M_secondOne : Int32} {z : Int64} (hm : f_X7_endOf F v1 v2 M_hand M_thicknesses M_spreads = some z) : Met l yX7_endOf wsX7_endOf ({ frames := 0, cells := 0, slots := 0, locals := 0 } : Room) (va_Pc [.ref (q 0), .int v1, .int v2] (cP D y (wdX7 q y M_thrown M_text M_size M_has M_hand M_layers M_kinds M_names M_nameSizes M_thicknesses M_spreads M_coppers M_copperAt M_presses M_pressFrom M_pressTo M_vias M_viaFrom M_viaTo M_shares M_lists M_hasRow M_rowLow M_rowHigh M_p M_s M_fault M_lines M_word M_wordSize M_out M_written M_secondOne) sz)) (QL D y (va_A (wdX7 q y M_thrown M_text M_size M_has M_hand M_layers M_kinds M_names M_nameSizes M_thicknesses M_spreads M_coppers M_copperAt M_presses M_pressFrom M_pressTo M_vias M_viaFrom M_viaTo M_shares M_lists M_hasRow M_rowLow M_rowHigh M_p M_s M_fault M_lines M_word M_wordSize M_out M_written M_secondOne) sz) (z) (wdX7 q y M_thrown M_text M_size M_has M_hand M_layers M_kinds M_names M_nameSizes M_thicknesses M_spreads M_coppers M_copperAt M_presses M_pressFrom M_pressTo M_vias M_viaFrom M_viaTo M_shares M_lists M_hasRow M_rowLow M_rowHigh M_p M_s M_fault M_lines M_word M_wordSize M_out M_written M_secondOne)) 0 0 (va_A (wdX7 q y M_thrown M_text M_size M_has M_hand M_layers M_kinds M_names M_nameSizes M_thicknesses M_spreads M_coppers M_copperAt M_presses M_pressFrom M_pressTo M_vias M_viaFrom M_viaTo M_shares M_lists M_hasRow M_rowLow M_rowHigh M_p M_s M_fault M_lines M_word M_wordSize M_out M_written M_secondOne) sz) := by
  refine met_of (own := RX7) (cc := cX7_endOf) (maxL := 4) (ret := (some .long)) (by decide) rfl rfl (Nat.le_of_ble_eq_true rfl) ?_
  intro p e s m below meth c ls C hsz hK hP hD hA hS hl
  obtain ⟨⟨hx, hb, hml, hown, hts⟩, hr, hlocks⟩ := id C
  have hl : lv_has ls 4 [(0, .ref (q 0)), (1, .int v1), (2, .int v2)] := hl
  generalize va_A (wdX7 q y M_thrown M_text M_size M_has M_hand M_layers M_kinds M_names M_nameSizes M_thicknesses M_spreads M_coppers M_copperAt M_presses M_pressFrom M_pressTo M_vias M_viaFrom M_viaTo M_shares M_lists M_hasRow M_rowLow M_rowHigh M_p M_s M_fault M_lines M_word M_wordSize M_out M_written M_secondOne) sz = A at hD hA hS ⊢
  generalize ([.ref (q 0), .int v1, .int v2] : List Value).toArray = args at C hts ⊢
  unfold f_X7_endOf at hm
  refine lv_bipush (v := (80 : Int32)) hx hb dX7_endOf_0 (by decide) ?_
  refine lv_aload_n hx hb dX7_endOf_2 rfl (lv_at hl 0 rfl) ?_
  refine va_get (D := D) (ci := 7) (v := .int M_hand) (C := RX7) (T := TX7) (N := 33) hx hb hts n_X7_endOf_X7 hown hK hP 0 rfl rfl 4 (by decide) (hts _ w_X7_endOf_f195) (fun _ h9 => h9) rfl dX7_endOf_3 ?_
  refine lv_imul hx hb dX7_endOf_6 ?_
  refine lv_iload_n hx hb dX7_endOf_7 rfl (lv_at hl 1 rfl) ?_
  refine lv_iadd hx hb dX7_endOf_8 ?_
  refine lv_topi (fun v3_1 ev3_1 => ?_)
  have hm := mn_of ev3_1 hm
  refine lv_istore_n (lv' := [(3, .int v3_1), (0, .ref (q 0)), (1, .int v1), (2, .int v2)]) hx hb dX7_endOf_9 rfl hl (by decide) rfl (fun ls hl => ?_)
  refine lv_aload_n hx hb dX7_endOf_10 rfl (lv_at hl 1 rfl) ?_
  refine va_get (D := D) (ci := 7) (v := .ref (q 6)) (C := RX7) (T := TX7) (N := 33) hx hb hts n_X7_endOf_X7 hown hK hP 0 rfl rfl 9 (by decide) (hts _ w_X7_endOf_f26) (fun _ h9 => h9) rfl dX7_endOf_11 ?_
  refine lv_iload_n hx hb dX7_endOf_14 rfl (lv_at hl 0 rfl) ?_
  obtain ⟨hg_2, hm⟩ := mg_of hm
  refine va_lald hx hb hK hP 6 1 rfl rfl hg_2 dX7_endOf_15 ?_
  refine lv_iload_n hx hb dX7_endOf_16 rfl (lv_at hl 3 rfl) ?_
  refine lv_if_ne (tgt := 34) hx hb dX7_endOf_17 (by decide) (fun h_3 => ?_) (fun h_3 => ?_)
  · have hm := ie_of hm h_3
    refine lv_ldc2 (v := (1000 : Int64)) hx hb hown (hts _ w_X7_endOf_k212) dX7_endOf_34 ?_
    refine lv_aload_n hx hb dX7_endOf_37 rfl (lv_at hl 1 rfl) ?_
    refine va_get (D := D) (ci := 7) (v := .ref (q 7)) (C := RX7) (T := TX7) (N := 33) hx hb hts n_X7_endOf_X7 hown hK hP 0 rfl rfl 10 (by decide) (hts _ w_X7_endOf_f29) (fun _ h9 => h9) rfl dX7_endOf_38 ?_
    refine lv_iload_n hx hb dX7_endOf_41 rfl (lv_at hl 0 rfl) ?_
    obtain ⟨hg_4, hm⟩ := mg_of hm
    refine va_iald hx hb hK hP 7 0 rfl rfl hg_4 dX7_endOf_42 ?_
    refine lv_i2l (v := ((M_spreads (v3_1).toNatClampNeg)).toInt64) hx hb dX7_endOf_43 rfl ?_
    refine lv_ladd hx hb dX7_endOf_44 ?_
    refine lv_lmul hx hb dX7_endOf_45 ?_
    have hz := Option.some.inj hm
    subst hz
    exact end_l C hK hP hD hS dX7_endOf_46
  · have hm := it_of hm h_3
    refine lv_ldc2 (v := (1000 : Int64)) hx hb hown (hts _ w_X7_endOf_k212) dX7_endOf_20 ?_
    refine lv_aload_n hx hb dX7_endOf_23 rfl (lv_at hl 1 rfl) ?_
    refine va_get (D := D) (ci := 7) (v := .ref (q 7)) (C := RX7) (T := TX7) (N := 33) hx hb hts n_X7_endOf_X7 hown hK hP 0 rfl rfl 10 (by decide) (hts _ w_X7_endOf_f29) (fun _ h9 => h9) rfl dX7_endOf_24 ?_
    refine lv_iload_n hx hb dX7_endOf_27 rfl (lv_at hl 0 rfl) ?_
    obtain ⟨hg_5, hm⟩ := mg_of hm
    refine va_iald hx hb hK hP 7 0 rfl rfl hg_5 dX7_endOf_28 ?_
    refine lv_i2l (v := ((M_spreads (v3_1).toNatClampNeg)).toInt64) hx hb dX7_endOf_29 rfl ?_
    refine lv_lsub hx hb dX7_endOf_30 ?_
    refine lv_goto (tgt := 45) hx hb dX7_endOf_31 (by decide) ?_
    refine lv_lmul hx hb dX7_endOf_45 ?_
    have hz := Option.some.inj hm
    subst hz
    exact end_l C hK hP hD hS dX7_endOf_46
def f_X7_isBit (F : Nat) (v0 : Int32) : Option (Int32) := (if v0 = 0 then some (1 : Int32) else (if v0 = (1 : Int32) then some (1 : Int32) else some (0 : Int32)))
set_option maxHeartbeats 4000000 in
set_option maxRecDepth 100000 in
theorem c_X7_isBit (l : Launch) (D : va_G) (y : Nat → ClassId) (sz : Nat) (F : Nat) {v0 : Int32} {z : Int32} (hm : f_X7_isBit F v0 = some z) : Met l yX7_isBit wsX7_isBit ({ frames := 0, cells := 0, slots := 0, locals := 0 } : Room) (va_Pc [.int v0] (cP D y ([] : va_W) sz)) (QI D y (va_A ([] : va_W) sz) (z) ([] : va_W)) 0 0 (va_A ([] : va_W) sz) := by
  refine met_of (own := RX7) (cc := cX7_isBit) (maxL := 1) (ret := (some .boolean)) (by decide) rfl rfl (Nat.le_of_ble_eq_true rfl) ?_
  intro p e s m below meth c ls C hsz hK hP hD hA hS hl
  obtain ⟨⟨hx, hb, hml, hown, hts⟩, hr, hlocks⟩ := id C
  have hl : lv_has ls 1 [(0, .int v0)] := hl
  generalize va_A ([] : va_W) sz = A at hD hA hS ⊢
  generalize ([.int v0] : List Value).toArray = args at C hts ⊢
  unfold f_X7_isBit at hm
  refine lv_iload_n hx hb dX7_isBit_0 rfl (lv_at hl 0 rfl) ?_
  refine lv_if_eq (tgt := 9) hx hb dX7_isBit_1 (by decide) (fun h_1 => ?_) (fun h_1 => ?_)
  · have hm := it_of hm h_1
    refine lv_iconst (v := (1 : Int32)) hx hb dX7_isBit_9 (by decide) ?_
    refine lv_goto (tgt := 14) hx hb dX7_isBit_10 (by decide) ?_
    have hz := Option.some.inj hm
    subst hz
    exact end_z C hK hP hD hS (show vp_nar .boolean (1 : Int32) = (1 : Int32) from by decide) dX7_isBit_14
  · have hm := ie_of hm h_1
    refine lv_iload_n hx hb dX7_isBit_4 rfl (lv_at hl 0 rfl) ?_
    refine lv_iconst (v := (1 : Int32)) hx hb dX7_isBit_5 (by decide) ?_
    refine lv_icmp_ne (tgt := 13) hx hb dX7_isBit_6 (by decide) (fun h_2 => ?_) (fun h_2 => ?_)
    · have hm := ie_of hm h_2
      refine lv_iconst (v := (0 : Int32)) hx hb dX7_isBit_13 (by decide) ?_
      have hz := Option.some.inj hm
      subst hz
      exact end_z C hK hP hD hS (show vp_nar .boolean (0 : Int32) = (0 : Int32) from by decide) dX7_isBit_14
    · have hm := it_of hm h_2
      refine lv_iconst (v := (1 : Int32)) hx hb dX7_isBit_9 (by decide) ?_
      refine lv_goto (tgt := 14) hx hb dX7_isBit_10 (by decide) ?_
      have hz := Option.some.inj hm
      subst hz
      exact end_z C hK hP hD hS (show vp_nar .boolean (1 : Int32) = (1 : Int32) from by decide) dX7_isBit_14
def g_X7_thick_50 (F : Nat) (v1 : Int32) (v2 : Int32) (v3 : Int32) (st1 : Int32) (M_thrown : Int32) (M_hand : Int32) (M_thicknesses : Nat → Int64) (M_spreads : Nat → Int32) : Option (Int64 × Int32) := (if st1 = 0 then mb1 (f_X7_endOf F v1 v2 M_hand M_thicknesses M_spreads) (fun r_2 => mb1 (f_X7_partOf F r_2 (1000 : Int64) v3) (fun r_4 => some (r_4, st1))) else some ((0 : Int64), st1))
def f_X7_thick (F : Nat) (v1 : Int32) (v2 : Int32) (v3 : Int32) (M_thrown : Int32) (M_has : Int32) (M_hand : Int32) (M_layers : Nat → Int32) (M_kinds : Nat → Int32) (M_thicknesses : Nat → Int64) (M_spreads : Nat → Int32) : Option (Int64 × Int32) := mb1 (f_X7_isLayer F v1 M_has M_hand M_layers) (fun r_1 => (if r_1 = 0 then g_X7_thick_50 F v1 v2 v3 (1 : Int32) M_thrown M_hand M_thicknesses M_spreads else mb1 (f_X7_isBit F v2) (fun r_4 => (if r_4 = 0 then g_X7_thick_50 F v1 v2 v3 (1 : Int32) M_thrown M_hand M_thicknesses M_spreads else mb1 (f_X7_isBit F v3) (fun r_7 => (if r_7 = 0 then g_X7_thick_50 F v1 v2 v3 (1 : Int32) M_thrown M_hand M_thicknesses M_spreads else mg (inb (((80 : Int32) * M_hand) + v1) 160) ((if (M_kinds ((((80 : Int32) * M_hand) + v1)).toNatClampNeg) = (4 : Int32) then g_X7_thick_50 F v1 v2 v3 (2 : Int32) M_thrown M_hand M_thicknesses M_spreads else g_X7_thick_50 F v1 v2 v3 (0 : Int32) M_thrown M_hand M_thicknesses M_spreads))))))))
set_option maxRecDepth 20000 in
theorem n_X7_thick_X7 : ∀ w ∈ wsX70, w ∈ wsX7_thick := by decide +kernel
set_option maxRecDepth 20000 in
theorem w_X7_thick_f72 : Cond.fieldLink RX7 72 "LayerStacksModel" "thrown" "I" ∈ wsX7_thick := by decide +kernel
set_option maxRecDepth 20000 in
theorem w_X7_thick_k212 : Cond.constantLong RX7 212 (1000) ∈ wsX7_thick := by decide +kernel
set_option maxRecDepth 20000 in
theorem w_X7_thick_f16 : Cond.fieldLink RX7 16 "LayerStacksModel" "kinds" "[I" ∈ wsX7_thick := by decide +kernel
set_option maxRecDepth 20000 in
theorem w_X7_thick_f195 : Cond.fieldLink RX7 195 "LayerStacksModel" "hand" "I" ∈ wsX7_thick := by decide +kernel
set_option maxHeartbeats 4000000 in
set_option maxRecDepth 100000 in
theorem k_X7_thick_50 {p : Program} {l : Launch} {e : Env} {s : State} {m : MethodId} {args : Array Value} {below : List Frame} {meth : Method} {c : Code} {D : va_G} {y : Nat → ClassId} {A : Nat → Prop} {q : Nat → Nat} {M_text : Nat → Int32} {M_size : Int32} {M_has : Int32} {M_layers : Nat → Int32} {M_kinds : Nat → Int32} {M_names : Nat → Int64} {M_nameSizes : Nat → Int32} {M_coppers : Nat → Int32} {M_copperAt : Nat → Int32} {M_presses : Nat → Int32} {M_pressFrom : Nat → Int32} {M_pressTo : Nat → Int32} {M_vias : Nat → Int32} {M_viaFrom : Nat → Int32} {M_viaTo : Nat → Int32} {M_shares : Nat → Int32} {M_lists : Int32} {M_hasRow : Nat → Int32} {M_rowLow : Nat → Int64} {M_rowHigh : Nat → Int64} {M_p : Int32} {M_s : Int32} {M_fault : Int32} {M_lines : Int32} {M_word : Int64} {M_wordSize : Int32} {M_out : Nat → Int32} {M_written : Int32} {M_secondOne : Int32} {z : Int64 × Int32} (C : CX p s m args meth c wsX7_thick RX7 cX7_thick 4 (some .long)) (hA : ∀ q : Nat, s.heap.size ≤ q → A q) (hK : va_K D vwCl (tyl y) s) (F : Nat) :
    ∀ (v1 : Int32) (v2 : Int32) (v3 : Int32) (st1 : Int32) (M_thrown : Int32) (M_hand : Int32) (M_thicknesses : Nat → Int64) (M_spreads : Nat → Int32) (H : Heap) (locs : List Loc) (ls : Array Slot), g_X7_thick_50 F v1 v2 v3 st1 M_thrown M_hand M_thicknesses M_spreads = some z → va_P D vwCl (wdX7 q y M_thrown M_text M_size M_has M_hand M_layers M_kinds M_names M_nameSizes M_thicknesses M_spreads M_coppers M_copperAt M_presses M_pressFrom M_pressTo M_vias M_viaFrom M_viaTo M_shares M_lists M_hasRow M_rowLow M_rowHigh M_p M_s M_fault M_lines M_word M_wordSize M_out M_written M_secondOne) H → va_D A (wdX7 q y M_thrown M_text M_size M_has M_hand M_layers M_kinds M_names M_nameSizes M_thicknesses M_spreads M_coppers M_copperAt M_presses M_pressFrom M_pressTo M_vias M_viaFrom M_viaTo M_shares M_lists M_hasRow M_rowLow M_rowHigh M_p M_s M_fault M_lines M_word M_wordSize M_out M_written M_secondOne) → va_S A s.heap H locs → lv_has ls 4 [(0, .ref (q 0)), (1, .int v1), (2, .int v2), (3, .int v3)] → W p l e ({ frames := 2, cells := 0, slots := 0, locals := 55 } : Room) s m args below meth c H locs 0 0 (MQ below (QL D y A (z.1) (wdX7 q y (z.2) M_text M_size M_has M_hand M_layers M_kinds M_names M_nameSizes M_thicknesses M_spreads M_coppers M_copperAt M_presses M_pressFrom M_pressTo M_vias M_viaFrom M_viaTo M_shares M_lists M_hasRow M_rowLow M_rowHigh M_p M_s M_fault M_lines M_word M_wordSize M_out M_written M_secondOne)) args s 0 0 A) (F0 m 50 ls [.int st1, .ref (q 0)]) := by
  obtain ⟨⟨hx, hb, hml, hown, hts⟩, hr, hlocks⟩ := id C
  intro v1 v2 v3 st1 M_thrown M_hand M_thicknesses M_spreads H locs ls hm hP hD hS hl
  unfold g_X7_thick_50 at hm
  refine va_put (D := D) (ci := 7) (v := .int st1) (ty := .int) (C := RX7) (T := TX7) (N := 33) hx hb hts n_X7_thick_X7 tyX7 tyX7_ok nmX7 hown hK hP hD hS 0 rfl rfl 0 (by decide) (hts _ w_X7_thick_f72) (fun _ h9 => h9) rfl (by decide +kernel) rfl rfl (Nat.le_of_ble_eq_true rfl) dX7_thick_50 (fun H locs hP hD hS => ?_)
  have hP : va_P D vwCl (wdX7 q y st1 M_text M_size M_has M_hand M_layers M_kinds M_names M_nameSizes M_thicknesses M_spreads M_coppers M_copperAt M_presses M_pressFrom M_pressTo M_vias M_viaFrom M_viaTo M_shares M_lists M_hasRow M_rowLow M_rowHigh M_p M_s M_fault M_lines M_word M_wordSize M_out M_written M_secondOne) H := hP
  have hD : va_D A (wdX7 q y st1 M_text M_size M_has M_hand M_layers M_kinds M_names M_nameSizes M_thicknesses M_spreads M_coppers M_copperAt M_presses M_pressFrom M_pressTo M_vias M_viaFrom M_viaTo M_shares M_lists M_hasRow M_rowLow M_rowHigh M_p M_s M_fault M_lines M_word M_wordSize M_out M_written M_secondOne) := hD
  refine lv_aload_n hx hb dX7_thick_53 rfl (lv_at hl 0 rfl) ?_
  refine va_get (D := D) (ci := 7) (v := .int st1) (C := RX7) (T := TX7) (N := 33) hx hb hts n_X7_thick_X7 hown hK hP 0 rfl rfl 0 (by decide) (hts _ w_X7_thick_f72) (fun _ h9 => h9) rfl dX7_thick_54 ?_
  refine lv_if_ne (tgt := 76) hx hb dX7_thick_57 (by decide) (fun h_1 => ?_) (fun h_1 => ?_)
  · have hm := ie_of hm h_1
    refine lv_lconst (v := (0 : Int64)) hx hb dX7_thick_76 (by decide) ?_
    have hz := Option.some.inj hm
    subst hz
    exact end_l C hK hP hD hS dX7_thick_77
  · have hm := it_of hm h_1
    refine lv_aload_n hx hb dX7_thick_60 rfl (lv_at hl 0 rfl) ?_
    refine lv_iload_n hx hb dX7_thick_61 rfl (lv_at hl 1 rfl) ?_
    refine lv_iload_n hx hb dX7_thick_62 rfl (lv_at hl 2 rfl) ?_
    obtain ⟨r_2, hc_3, hm⟩ := mb1_of hm
    refine call_vl (wc := (wdX7 q y st1 M_text M_size M_has M_hand M_layers M_kinds M_names M_nameSizes M_thicknesses M_spreads M_coppers M_copperAt M_presses M_pressFrom M_pressTo M_vias M_viaFrom M_viaTo M_shares M_lists M_hasRow M_rowLow M_rowHigh M_p M_s M_fault M_lines M_word M_wordSize M_out M_written M_secondOne)) (wr := []) (As := [.int v1, .int v2]) (rest := []) C (c_X7_endOf l D y q _ F hc_3) (cwV 2 hts gX7_thick_X7_endOf rfl rfl rfl (by decide +kernel) ⟨Nat.le_of_ble_eq_true rfl, Nat.le_of_ble_eq_true rfl⟩) hK hP hD hS hA [0, 1, 2, 3, 4, 5, 6, 7, 8, 9, 10, 11, 12, 13, 14, 15, 16, 17, 18, 19, 20] [] rfl rfl rfl rfl rfl (by decide) rfl rfl rfl rfl hl.1 (Nat.le_of_ble_eq_true rfl) dX7_thick_63 (fun H locs hP hD hS => ?_)
    have hP : va_P D vwCl (wdX7 q y st1 M_text M_size M_has M_hand M_layers M_kinds M_names M_nameSizes M_thicknesses M_spreads M_coppers M_copperAt M_presses M_pressFrom M_pressTo M_vias M_viaFrom M_viaTo M_shares M_lists M_hasRow M_rowLow M_rowHigh M_p M_s M_fault M_lines M_word M_wordSize M_out M_written M_secondOne) H := hP
    have hD : va_D A (wdX7 q y st1 M_text M_size M_has M_hand M_layers M_kinds M_names M_nameSizes M_thicknesses M_spreads M_coppers M_copperAt M_presses M_pressFrom M_pressTo M_vias M_viaFrom M_viaTo M_shares M_lists M_hasRow M_rowLow M_rowHigh M_p M_s M_fault M_lines M_word M_wordSize M_out M_written M_secondOne) := hD
    refine lv_ldc2 (v := (1000 : Int64)) hx hb hown (hts _ w_X7_thick_k212) dX7_thick_66 ?_
    refine lv_iload_n hx hb dX7_thick_69 rfl (lv_at hl 3 rfl) ?_
    obtain ⟨r_4, hc_5, hm⟩ := mb1_of hm
    refine call_sl (wc := ([] : va_W)) (wr := [(q 0, .inr (7, [.int st1, .ref (q 1), .int M_size, .int M_has, .int M_hand, .ref (q 2), .ref (q 3), .ref (q 4), .ref (q 5), .ref (q 6), .ref (q 7), .ref (q 8), .ref (q 9), .ref (q 10), .ref (q 11), .ref (q 12), .ref (q 13), .ref (q 14), .ref (q 15), .ref (q 16), .int M_lists, .ref (q 17), .ref (q 18), .ref (q 19), .int M_p, .int M_s, .int M_fault, .int M_lines, .long M_word, .int M_wordSize, .ref (q 20), .int M_written, .int M_secondOne])), (q 1, .inl (y 0, 3000, .inl M_text)), (q 2, .inl (y 0, 2, .inl M_layers)), (q 3, .inl (y 0, 160, .inl M_kinds)), (q 4, .inl (y 1, 160, .inr (.inl M_names))), (q 5, .inl (y 0, 160, .inl M_nameSizes)), (q 6, .inl (y 1, 160, .inr (.inl M_thicknesses))), (q 7, .inl (y 0, 160, .inl M_spreads)), (q 8, .inl (y 0, 2, .inl M_coppers)), (q 9, .inl (y 0, 64, .inl M_copperAt)), (q 10, .inl (y 0, 2, .inl M_presses)), (q 11, .inl (y 0, 44, .inl M_pressFrom)), (q 12, .inl (y 0, 44, .inl M_pressTo)), (q 13, .inl (y 0, 2, .inl M_vias)), (q 14, .inl (y 0, 80, .inl M_viaFrom)), (q 15, .inl (y 0, 80, .inl M_viaTo)), (q 16, .inl (y 0, 32, .inl M_shares)), (q 17, .inl (y 3, 640, .inl M_hasRow)), (q 18, .inl (y 1, 640, .inr (.inl M_rowLow))), (q 19, .inl (y 1, 640, .inr (.inl M_rowHigh))), (q 20, .inl (y 0, 6000, .inl M_out))]) (As := [.long r_2, .long (1000 : Int64), .int v3]) (rest := []) C (c_X7_partOf l D y _ F hc_5) (va_cwS 3 hts gX7_thick_X7_partOf rfl rfl rfl (by decide +kernel) ⟨Nat.le_of_ble_eq_true rfl, Nat.le_of_ble_eq_true rfl⟩) hK hP hD hS hA [] [0, 1, 2, 3, 4, 5, 6, 7, 8, 9, 10, 11, 12, 13, 14, 15, 16, 17, 18, 19, 20] rfl rfl rfl rfl rfl (by decide) rfl hl.1 (Nat.le_of_ble_eq_true rfl) dX7_thick_70 (fun H locs hP hD hS => ?_)
    have hP : va_P D vwCl (wdX7 q y st1 M_text M_size M_has M_hand M_layers M_kinds M_names M_nameSizes M_thicknesses M_spreads M_coppers M_copperAt M_presses M_pressFrom M_pressTo M_vias M_viaFrom M_viaTo M_shares M_lists M_hasRow M_rowLow M_rowHigh M_p M_s M_fault M_lines M_word M_wordSize M_out M_written M_secondOne) H := hP
    have hD : va_D A (wdX7 q y st1 M_text M_size M_has M_hand M_layers M_kinds M_names M_nameSizes M_thicknesses M_spreads M_coppers M_copperAt M_presses M_pressFrom M_pressTo M_vias M_viaFrom M_viaTo M_shares M_lists M_hasRow M_rowLow M_rowHigh M_p M_s M_fault M_lines M_word M_wordSize M_out M_written M_secondOne) := hD
    refine lv_goto (tgt := 77) hx hb dX7_thick_73 (by decide) ?_
    have hz := Option.some.inj hm
    subst hz
    exact end_l C hK hP hD hS dX7_thick_77
set_option maxHeartbeats 4000000 in
set_option maxRecDepth 100000 in
theorem c_X7_thick (l : Launch) (D : va_G) (y : Nat → ClassId) (q : Nat → Nat) (sz : Nat) (F : Nat) {v1 : Int32} {v2 : Int32} {v3 : Int32} {M_thrown : Int32} {M_text : Nat → Int32} {M_size : Int32} {M_has : Int32} {M_hand : Int32} {M_layers : Nat → Int32} {M_kinds : Nat → Int32} {M_names : Nat → Int64} {M_nameSizes : Nat → Int32} {M_thicknesses : Nat → Int64} {M_spreads : Nat → Int32} {M_coppers : Nat → Int32} {M_copperAt : Nat → Int32} {M_presses : Nat → Int32} {M_pressFrom : Nat → Int32} {M_pressTo : Nat → Int32} {M_vias : Nat → Int32} {M_viaFrom : Nat → Int32} {M_viaTo : Nat → Int32} {M_shares : Nat → Int32} {M_lists : Int32} {M_hasRow : Nat → Int32} {M_rowLow : Nat → Int64} {M_rowHigh : Nat → Int64} {M_p : Int32} {M_s : Int32} {M_fault : Int32} {M_lines : Int32} {M_word : Int64} {M_wordSize : Int32} {M_out : Nat → Int32} {M_written : Int32} {M_secondOne : Int32} {z : Int64 × Int32} (hm : f_X7_thick F v1 v2 v3 M_thrown M_has M_hand M_layers M_kinds M_thicknesses M_spreads = some z) : Met l yX7_thick wsX7_thick ({ frames := 2, cells := 0, slots := 0, locals := 55 } : Room) (va_Pc [.ref (q 0), .int v1, .int v2, .int v3] (cP D y (wdX7 q y M_thrown M_text M_size M_has M_hand M_layers M_kinds M_names M_nameSizes M_thicknesses M_spreads M_coppers M_copperAt M_presses M_pressFrom M_pressTo M_vias M_viaFrom M_viaTo M_shares M_lists M_hasRow M_rowLow M_rowHigh M_p M_s M_fault M_lines M_word M_wordSize M_out M_written M_secondOne) sz)) (QL D y (va_A (wdX7 q y M_thrown M_text M_size M_has M_hand M_layers M_kinds M_names M_nameSizes M_thicknesses M_spreads M_coppers M_copperAt M_presses M_pressFrom M_pressTo M_vias M_viaFrom M_viaTo M_shares M_lists M_hasRow M_rowLow M_rowHigh M_p M_s M_fault M_lines M_word M_wordSize M_out M_written M_secondOne) sz) (z.1) (wdX7 q y (z.2) M_text M_size M_has M_hand M_layers M_kinds M_names M_nameSizes M_thicknesses M_spreads M_coppers M_copperAt M_presses M_pressFrom M_pressTo M_vias M_viaFrom M_viaTo M_shares M_lists M_hasRow M_rowLow M_rowHigh M_p M_s M_fault M_lines M_word M_wordSize M_out M_written M_secondOne)) 0 0 (va_A (wdX7 q y M_thrown M_text M_size M_has M_hand M_layers M_kinds M_names M_nameSizes M_thicknesses M_spreads M_coppers M_copperAt M_presses M_pressFrom M_pressTo M_vias M_viaFrom M_viaTo M_shares M_lists M_hasRow M_rowLow M_rowHigh M_p M_s M_fault M_lines M_word M_wordSize M_out M_written M_secondOne) sz) := by
  refine met_of (own := RX7) (cc := cX7_thick) (maxL := 4) (ret := (some .long)) (by decide) rfl rfl (Nat.le_of_ble_eq_true rfl) ?_
  intro p e s m below meth c ls C hsz hK hP hD hA hS hl
  obtain ⟨⟨hx, hb, hml, hown, hts⟩, hr, hlocks⟩ := id C
  have hl : lv_has ls 4 [(0, .ref (q 0)), (1, .int v1), (2, .int v2), (3, .int v3)] := hl
  generalize va_A (wdX7 q y M_thrown M_text M_size M_has M_hand M_layers M_kinds M_names M_nameSizes M_thicknesses M_spreads M_coppers M_copperAt M_presses M_pressFrom M_pressTo M_vias M_viaFrom M_viaTo M_shares M_lists M_hasRow M_rowLow M_rowHigh M_p M_s M_fault M_lines M_word M_wordSize M_out M_written M_secondOne) sz = A at hD hA hS ⊢
  generalize ([.ref (q 0), .int v1, .int v2, .int v3] : List Value).toArray = args at C hts ⊢
  unfold f_X7_thick at hm
  refine lv_aload_n hx hb dX7_thick_0 rfl (lv_at hl 0 rfl) ?_
  refine lv_aload_n hx hb dX7_thick_1 rfl (lv_at hl 0 rfl) ?_
  refine lv_iload_n hx hb dX7_thick_2 rfl (lv_at hl 1 rfl) ?_
  obtain ⟨r_1, hc_2, hm⟩ := mb1_of hm
  refine call_vi (wc := (wdX7 q y M_thrown M_text M_size M_has M_hand M_layers M_kinds M_names M_nameSizes M_thicknesses M_spreads M_coppers M_copperAt M_presses M_pressFrom M_pressTo M_vias M_viaFrom M_viaTo M_shares M_lists M_hasRow M_rowLow M_rowHigh M_p M_s M_fault M_lines M_word M_wordSize M_out M_written M_secondOne)) (wr := []) (As := [.int v1]) (rest := [.ref (q 0)]) C (c_X7_isLayer l D y q _ F hc_2) (cwV 1 hts gX7_thick_X7_isLayer rfl rfl rfl (by decide +kernel) ⟨Nat.le_of_ble_eq_true rfl, Nat.le_of_ble_eq_true rfl⟩) hK hP hD hS hA [0, 1, 2, 3, 4, 5, 6, 7, 8, 9, 10, 11, 12, 13, 14, 15, 16, 17, 18, 19, 20] [] rfl rfl rfl rfl rfl (by decide) rfl rfl rfl rfl hl.1 (Nat.le_of_ble_eq_true rfl) dX7_thick_3 (fun H locs hP hD hS => ?_)
  have hP : va_P D vwCl (wdX7 q y M_thrown M_text M_size M_has M_hand M_layers M_kinds M_names M_nameSizes M_thicknesses M_spreads M_coppers M_copperAt M_presses M_pressFrom M_pressTo M_vias M_viaFrom M_viaTo M_shares M_lists M_hasRow M_rowLow M_rowHigh M_p M_s M_fault M_lines M_word M_wordSize M_out M_written M_secondOne) H := hP
  have hD : va_D A (wdX7 q y M_thrown M_text M_size M_has M_hand M_layers M_kinds M_names M_nameSizes M_thicknesses M_spreads M_coppers M_copperAt M_presses M_pressFrom M_pressTo M_vias M_viaFrom M_viaTo M_shares M_lists M_hasRow M_rowLow M_rowHigh M_p M_s M_fault M_lines M_word M_wordSize M_out M_written M_secondOne) := hD
  refine lv_if_eq (tgt := 23) hx hb dX7_thick_6 (by decide) (fun h_3 => ?_) (fun h_3 => ?_)
  · have hm := it_of hm h_3
    refine lv_iconst (v := (1 : Int32)) hx hb dX7_thick_23 (by decide) ?_
    refine lv_goto (tgt := 50) hx hb dX7_thick_24 (by decide) ?_
    exact k_X7_thick_50 C hA hK F v1 v2 v3 (1 : Int32) M_thrown M_hand M_thicknesses M_spreads _ _ _ hm hP hD hS (lv_sub hl [0, 1, 2, 3] rfl)
  · have hm := ie_of hm h_3
    refine lv_iload_n hx hb dX7_thick_9 rfl (lv_at hl 2 rfl) ?_
    obtain ⟨r_4, hc_5, hm⟩ := mb1_of hm
    refine call_si (wc := ([] : va_W)) (wr := [(q 0, .inr (7, [.int M_thrown, .ref (q 1), .int M_size, .int M_has, .int M_hand, .ref (q 2), .ref (q 3), .ref (q 4), .ref (q 5), .ref (q 6), .ref (q 7), .ref (q 8), .ref (q 9), .ref (q 10), .ref (q 11), .ref (q 12), .ref (q 13), .ref (q 14), .ref (q 15), .ref (q 16), .int M_lists, .ref (q 17), .ref (q 18), .ref (q 19), .int M_p, .int M_s, .int M_fault, .int M_lines, .long M_word, .int M_wordSize, .ref (q 20), .int M_written, .int M_secondOne])), (q 1, .inl (y 0, 3000, .inl M_text)), (q 2, .inl (y 0, 2, .inl M_layers)), (q 3, .inl (y 0, 160, .inl M_kinds)), (q 4, .inl (y 1, 160, .inr (.inl M_names))), (q 5, .inl (y 0, 160, .inl M_nameSizes)), (q 6, .inl (y 1, 160, .inr (.inl M_thicknesses))), (q 7, .inl (y 0, 160, .inl M_spreads)), (q 8, .inl (y 0, 2, .inl M_coppers)), (q 9, .inl (y 0, 64, .inl M_copperAt)), (q 10, .inl (y 0, 2, .inl M_presses)), (q 11, .inl (y 0, 44, .inl M_pressFrom)), (q 12, .inl (y 0, 44, .inl M_pressTo)), (q 13, .inl (y 0, 2, .inl M_vias)), (q 14, .inl (y 0, 80, .inl M_viaFrom)), (q 15, .inl (y 0, 80, .inl M_viaTo)), (q 16, .inl (y 0, 32, .inl M_shares)), (q 17, .inl (y 3, 640, .inl M_hasRow)), (q 18, .inl (y 1, 640, .inr (.inl M_rowLow))), (q 19, .inl (y 1, 640, .inr (.inl M_rowHigh))), (q 20, .inl (y 0, 6000, .inl M_out))]) (As := [.int v2]) (rest := [.ref (q 0)]) C (c_X7_isBit l D y _ F hc_5) (va_cwS 1 hts gX7_thick_X7_isBit rfl rfl rfl (by decide +kernel) ⟨Nat.le_of_ble_eq_true rfl, Nat.le_of_ble_eq_true rfl⟩) hK hP hD hS hA [] [0, 1, 2, 3, 4, 5, 6, 7, 8, 9, 10, 11, 12, 13, 14, 15, 16, 17, 18, 19, 20] rfl rfl rfl rfl rfl (by decide) rfl hl.1 (Nat.le_of_ble_eq_true rfl) dX7_thick_10 (fun H locs hP hD hS => ?_)
    have hP : va_P D vwCl (wdX7 q y M_thrown M_text M_size M_has M_hand M_layers M_kinds M_names M_nameSizes M_thicknesses M_spreads M_coppers M_copperAt M_presses M_pressFrom M_pressTo M_vias M_viaFrom M_viaTo M_shares M_lists M_hasRow M_rowLow M_rowHigh M_p M_s M_fault M_lines M_word M_wordSize M_out M_written M_secondOne) H := hP
    have hD : va_D A (wdX7 q y M_thrown M_text M_size M_has M_hand M_layers M_kinds M_names M_nameSizes M_thicknesses M_spreads M_coppers M_copperAt M_presses M_pressFrom M_pressTo M_vias M_viaFrom M_viaTo M_shares M_lists M_hasRow M_rowLow M_rowHigh M_p M_s M_fault M_lines M_word M_wordSize M_out M_written M_secondOne) := hD
    refine lv_if_eq (tgt := 23) hx hb dX7_thick_13 (by decide) (fun h_6 => ?_) (fun h_6 => ?_)
    · have hm := it_of hm h_6
      refine lv_iconst (v := (1 : Int32)) hx hb dX7_thick_23 (by decide) ?_
      refine lv_goto (tgt := 50) hx hb dX7_thick_24 (by decide) ?_
      exact k_X7_thick_50 C hA hK F v1 v2 v3 (1 : Int32) M_thrown M_hand M_thicknesses M_spreads _ _ _ hm hP hD hS (lv_sub hl [0, 1, 2, 3] rfl)
    · have hm := ie_of hm h_6
      refine lv_iload_n hx hb dX7_thick_16 rfl (lv_at hl 3 rfl) ?_
      obtain ⟨r_7, hc_8, hm⟩ := mb1_of hm
      refine call_si (wc := ([] : va_W)) (wr := [(q 0, .inr (7, [.int M_thrown, .ref (q 1), .int M_size, .int M_has, .int M_hand, .ref (q 2), .ref (q 3), .ref (q 4), .ref (q 5), .ref (q 6), .ref (q 7), .ref (q 8), .ref (q 9), .ref (q 10), .ref (q 11), .ref (q 12), .ref (q 13), .ref (q 14), .ref (q 15), .ref (q 16), .int M_lists, .ref (q 17), .ref (q 18), .ref (q 19), .int M_p, .int M_s, .int M_fault, .int M_lines, .long M_word, .int M_wordSize, .ref (q 20), .int M_written, .int M_secondOne])), (q 1, .inl (y 0, 3000, .inl M_text)), (q 2, .inl (y 0, 2, .inl M_layers)), (q 3, .inl (y 0, 160, .inl M_kinds)), (q 4, .inl (y 1, 160, .inr (.inl M_names))), (q 5, .inl (y 0, 160, .inl M_nameSizes)), (q 6, .inl (y 1, 160, .inr (.inl M_thicknesses))), (q 7, .inl (y 0, 160, .inl M_spreads)), (q 8, .inl (y 0, 2, .inl M_coppers)), (q 9, .inl (y 0, 64, .inl M_copperAt)), (q 10, .inl (y 0, 2, .inl M_presses)), (q 11, .inl (y 0, 44, .inl M_pressFrom)), (q 12, .inl (y 0, 44, .inl M_pressTo)), (q 13, .inl (y 0, 2, .inl M_vias)), (q 14, .inl (y 0, 80, .inl M_viaFrom)), (q 15, .inl (y 0, 80, .inl M_viaTo)), (q 16, .inl (y 0, 32, .inl M_shares)), (q 17, .inl (y 3, 640, .inl M_hasRow)), (q 18, .inl (y 1, 640, .inr (.inl M_rowLow))), (q 19, .inl (y 1, 640, .inr (.inl M_rowHigh))), (q 20, .inl (y 0, 6000, .inl M_out))]) (As := [.int v3]) (rest := [.ref (q 0)]) C (c_X7_isBit l D y _ F hc_8) (va_cwS 1 hts gX7_thick_X7_isBit rfl rfl rfl (by decide +kernel) ⟨Nat.le_of_ble_eq_true rfl, Nat.le_of_ble_eq_true rfl⟩) hK hP hD hS hA [] [0, 1, 2, 3, 4, 5, 6, 7, 8, 9, 10, 11, 12, 13, 14, 15, 16, 17, 18, 19, 20] rfl rfl rfl rfl rfl (by decide) rfl hl.1 (Nat.le_of_ble_eq_true rfl) dX7_thick_17 (fun H locs hP hD hS => ?_)
      have hP : va_P D vwCl (wdX7 q y M_thrown M_text M_size M_has M_hand M_layers M_kinds M_names M_nameSizes M_thicknesses M_spreads M_coppers M_copperAt M_presses M_pressFrom M_pressTo M_vias M_viaFrom M_viaTo M_shares M_lists M_hasRow M_rowLow M_rowHigh M_p M_s M_fault M_lines M_word M_wordSize M_out M_written M_secondOne) H := hP
      have hD : va_D A (wdX7 q y M_thrown M_text M_size M_has M_hand M_layers M_kinds M_names M_nameSizes M_thicknesses M_spreads M_coppers M_copperAt M_presses M_pressFrom M_pressTo M_vias M_viaFrom M_viaTo M_shares M_lists M_hasRow M_rowLow M_rowHigh M_p M_s M_fault M_lines M_word M_wordSize M_out M_written M_secondOne) := hD
      refine lv_if_ne (tgt := 27) hx hb dX7_thick_20 (by decide) (fun h_9 => ?_) (fun h_9 => ?_)
      · have hm := ie_of hm h_9
        refine lv_aload_n hx hb dX7_thick_27 rfl (lv_at hl 0 rfl) ?_
        refine va_get (D := D) (ci := 7) (v := .ref (q 3)) (C := RX7) (T := TX7) (N := 33) hx hb hts n_X7_thick_X7 hown hK hP 0 rfl rfl 6 (by decide) (hts _ w_X7_thick_f16) (fun _ h9 => h9) rfl dX7_thick_28 ?_
        refine lv_bipush (v := (80 : Int32)) hx hb dX7_thick_31 (by decide) ?_
        refine lv_aload_n hx hb dX7_thick_33 rfl (lv_at hl 0 rfl) ?_
        refine va_get (D := D) (ci := 7) (v := .int M_hand) (C := RX7) (T := TX7) (N := 33) hx hb hts n_X7_thick_X7 hown hK hP 0 rfl rfl 4 (by decide) (hts _ w_X7_thick_f195) (fun _ h9 => h9) rfl dX7_thick_34 ?_
        refine lv_imul hx hb dX7_thick_37 ?_
        refine lv_iload_n hx hb dX7_thick_38 rfl (lv_at hl 1 rfl) ?_
        refine lv_iadd hx hb dX7_thick_39 ?_
        obtain ⟨hg_10, hm⟩ := mg_of hm
        refine va_iald hx hb hK hP 3 0 rfl rfl hg_10 dX7_thick_40 ?_
        refine lv_iconst (v := (4 : Int32)) hx hb dX7_thick_41 (by decide) ?_
        refine lv_icmp_ne (tgt := 49) hx hb dX7_thick_42 (by decide) (fun h_11 => ?_) (fun h_11 => ?_)
        · have hm := ie_of hm h_11
          refine lv_iconst (v := (0 : Int32)) hx hb dX7_thick_49 (by decide) ?_
          exact k_X7_thick_50 C hA hK F v1 v2 v3 (0 : Int32) M_thrown M_hand M_thicknesses M_spreads _ _ _ hm hP hD hS (lv_sub hl [0, 1, 2, 3] rfl)
        · have hm := it_of hm h_11
          refine lv_iconst (v := (2 : Int32)) hx hb dX7_thick_45 (by decide) ?_
          refine lv_goto (tgt := 50) hx hb dX7_thick_46 (by decide) ?_
          exact k_X7_thick_50 C hA hK F v1 v2 v3 (2 : Int32) M_thrown M_hand M_thicknesses M_spreads _ _ _ hm hP hD hS (lv_sub hl [0, 1, 2, 3] rfl)
      · have hm := it_of hm h_9
        refine lv_iconst (v := (1 : Int32)) hx hb dX7_thick_23 (by decide) ?_
        refine lv_goto (tgt := 50) hx hb dX7_thick_24 (by decide) ?_
        exact k_X7_thick_50 C hA hK F v1 v2 v3 (1 : Int32) M_thrown M_hand M_thicknesses M_spreads _ _ _ hm hP hD hS (lv_sub hl [0, 1, 2, 3] rfl)
def g_X7_kind_14 (F : Nat) (v1 : Int32) (st1 : Int32) (M_thrown : Int32) (M_hand : Int32) (M_kinds : Nat → Int32) : Option (Int32 × Int32) := (if st1 = 0 then mg (inb (((80 : Int32) * M_hand) + v1) 160) (some ((M_kinds ((((80 : Int32) * M_hand) + v1)).toNatClampNeg), st1)) else some ((0 : Int32), st1))
def f_X7_kind (F : Nat) (v1 : Int32) (M_thrown : Int32) (M_has : Int32) (M_hand : Int32) (M_layers : Nat → Int32) (M_kinds : Nat → Int32) : Option (Int32 × Int32) := mb1 (f_X7_isLayer F v1 M_has M_hand M_layers) (fun r_1 => (if r_1 = 0 then g_X7_kind_14 F v1 (1 : Int32) M_thrown M_hand M_kinds else g_X7_kind_14 F v1 (0 : Int32) M_thrown M_hand M_kinds))
set_option maxRecDepth 20000 in
theorem n_X7_kind_X7 : ∀ w ∈ wsX70, w ∈ wsX7_kind := by decide +kernel
set_option maxRecDepth 20000 in
theorem w_X7_kind_f72 : Cond.fieldLink RX7 72 "LayerStacksModel" "thrown" "I" ∈ wsX7_kind := by decide +kernel
set_option maxRecDepth 20000 in
theorem w_X7_kind_f16 : Cond.fieldLink RX7 16 "LayerStacksModel" "kinds" "[I" ∈ wsX7_kind := by decide +kernel
set_option maxRecDepth 20000 in
theorem w_X7_kind_f195 : Cond.fieldLink RX7 195 "LayerStacksModel" "hand" "I" ∈ wsX7_kind := by decide +kernel
set_option maxHeartbeats 4000000 in
set_option maxRecDepth 100000 in
theorem k_X7_kind_14 {p : Program} {l : Launch} {e : Env} {s : State} {m : MethodId} {args : Array Value} {below : List Frame} {meth : Method} {c : Code} {D : va_G} {y : Nat → ClassId} {A : Nat → Prop} {q : Nat → Nat} {M_text : Nat → Int32} {M_size : Int32} {M_has : Int32} {M_layers : Nat → Int32} {M_names : Nat → Int64} {M_nameSizes : Nat → Int32} {M_thicknesses : Nat → Int64} {M_spreads : Nat → Int32} {M_coppers : Nat → Int32} {M_copperAt : Nat → Int32} {M_presses : Nat → Int32} {M_pressFrom : Nat → Int32} {M_pressTo : Nat → Int32} {M_vias : Nat → Int32} {M_viaFrom : Nat → Int32} {M_viaTo : Nat → Int32} {M_shares : Nat → Int32} {M_lists : Int32} {M_hasRow : Nat → Int32} {M_rowLow : Nat → Int64} {M_rowHigh : Nat → Int64} {M_p : Int32} {M_s : Int32} {M_fault : Int32} {M_lines : Int32} {M_word : Int64} {M_wordSize : Int32} {M_out : Nat → Int32} {M_written : Int32} {M_secondOne : Int32} {z : Int32 × Int32} (C : CX p s m args meth c wsX7_kind RX7 cX7_kind 2 (some .int)) (hA : ∀ q : Nat, s.heap.size ≤ q → A q) (hK : va_K D vwCl (tyl y) s) (F : Nat) :
    ∀ (v1 : Int32) (st1 : Int32) (M_thrown : Int32) (M_hand : Int32) (M_kinds : Nat → Int32) (H : Heap) (locs : List Loc) (ls : Array Slot), g_X7_kind_14 F v1 st1 M_thrown M_hand M_kinds = some z → va_P D vwCl (wdX7 q y M_thrown M_text M_size M_has M_hand M_layers M_kinds M_names M_nameSizes M_thicknesses M_spreads M_coppers M_copperAt M_presses M_pressFrom M_pressTo M_vias M_viaFrom M_viaTo M_shares M_lists M_hasRow M_rowLow M_rowHigh M_p M_s M_fault M_lines M_word M_wordSize M_out M_written M_secondOne) H → va_D A (wdX7 q y M_thrown M_text M_size M_has M_hand M_layers M_kinds M_names M_nameSizes M_thicknesses M_spreads M_coppers M_copperAt M_presses M_pressFrom M_pressTo M_vias M_viaFrom M_viaTo M_shares M_lists M_hasRow M_rowLow M_rowHigh M_p M_s M_fault M_lines M_word M_wordSize M_out M_written M_secondOne) → va_S A s.heap H locs → lv_has ls 2 [(0, .ref (q 0)), (1, .int v1)] → W p l e ({ frames := 1, cells := 0, slots := 0, locals := 21 } : Room) s m args below meth c H locs 0 0 (MQ below (QI D y A (z.1) (wdX7 q y (z.2) M_text M_size M_has M_hand M_layers M_kinds M_names M_nameSizes M_thicknesses M_spreads M_coppers M_copperAt M_presses M_pressFrom M_pressTo M_vias M_viaFrom M_viaTo M_shares M_lists M_hasRow M_rowLow M_rowHigh M_p M_s M_fault M_lines M_word M_wordSize M_out M_written M_secondOne)) args s 0 0 A) (F0 m 14 ls [.int st1, .ref (q 0)]) := by
  obtain ⟨⟨hx, hb, hml, hown, hts⟩, hr, hlocks⟩ := id C
  intro v1 st1 M_thrown M_hand M_kinds H locs ls hm hP hD hS hl
  unfold g_X7_kind_14 at hm
  refine va_put (D := D) (ci := 7) (v := .int st1) (ty := .int) (C := RX7) (T := TX7) (N := 33) hx hb hts n_X7_kind_X7 tyX7 tyX7_ok nmX7 hown hK hP hD hS 0 rfl rfl 0 (by decide) (hts _ w_X7_kind_f72) (fun _ h9 => h9) rfl (by decide +kernel) rfl rfl (Nat.le_of_ble_eq_true rfl) dX7_kind_14 (fun H locs hP hD hS => ?_)
  have hP : va_P D vwCl (wdX7 q y st1 M_text M_size M_has M_hand M_layers M_kinds M_names M_nameSizes M_thicknesses M_spreads M_coppers M_copperAt M_presses M_pressFrom M_pressTo M_vias M_viaFrom M_viaTo M_shares M_lists M_hasRow M_rowLow M_rowHigh M_p M_s M_fault M_lines M_word M_wordSize M_out M_written M_secondOne) H := hP
  have hD : va_D A (wdX7 q y st1 M_text M_size M_has M_hand M_layers M_kinds M_names M_nameSizes M_thicknesses M_spreads M_coppers M_copperAt M_presses M_pressFrom M_pressTo M_vias M_viaFrom M_viaTo M_shares M_lists M_hasRow M_rowLow M_rowHigh M_p M_s M_fault M_lines M_word M_wordSize M_out M_written M_secondOne) := hD
  refine lv_aload_n hx hb dX7_kind_17 rfl (lv_at hl 0 rfl) ?_
  refine va_get (D := D) (ci := 7) (v := .int st1) (C := RX7) (T := TX7) (N := 33) hx hb hts n_X7_kind_X7 hown hK hP 0 rfl rfl 0 (by decide) (hts _ w_X7_kind_f72) (fun _ h9 => h9) rfl dX7_kind_18 ?_
  refine lv_if_ne (tgt := 41) hx hb dX7_kind_21 (by decide) (fun h_1 => ?_) (fun h_1 => ?_)
  · have hm := ie_of hm h_1
    refine lv_iconst (v := (0 : Int32)) hx hb dX7_kind_41 (by decide) ?_
    have hz := Option.some.inj hm
    subst hz
    exact end_i C hK hP hD hS dX7_kind_42
  · have hm := it_of hm h_1
    refine lv_aload_n hx hb dX7_kind_24 rfl (lv_at hl 0 rfl) ?_
    refine va_get (D := D) (ci := 7) (v := .ref (q 3)) (C := RX7) (T := TX7) (N := 33) hx hb hts n_X7_kind_X7 hown hK hP 0 rfl rfl 6 (by decide) (hts _ w_X7_kind_f16) (fun _ h9 => h9) rfl dX7_kind_25 ?_
    refine lv_bipush (v := (80 : Int32)) hx hb dX7_kind_28 (by decide) ?_
    refine lv_aload_n hx hb dX7_kind_30 rfl (lv_at hl 0 rfl) ?_
    refine va_get (D := D) (ci := 7) (v := .int M_hand) (C := RX7) (T := TX7) (N := 33) hx hb hts n_X7_kind_X7 hown hK hP 0 rfl rfl 4 (by decide) (hts _ w_X7_kind_f195) (fun _ h9 => h9) rfl dX7_kind_31 ?_
    refine lv_imul hx hb dX7_kind_34 ?_
    refine lv_iload_n hx hb dX7_kind_35 rfl (lv_at hl 1 rfl) ?_
    refine lv_iadd hx hb dX7_kind_36 ?_
    obtain ⟨hg_2, hm⟩ := mg_of hm
    refine va_iald hx hb hK hP 3 0 rfl rfl hg_2 dX7_kind_37 ?_
    refine lv_goto (tgt := 42) hx hb dX7_kind_38 (by decide) ?_
    have hz := Option.some.inj hm
    subst hz
    exact end_i C hK hP hD hS dX7_kind_42
set_option maxHeartbeats 4000000 in
set_option maxRecDepth 100000 in
theorem c_X7_kind (l : Launch) (D : va_G) (y : Nat → ClassId) (q : Nat → Nat) (sz : Nat) (F : Nat) {v1 : Int32} {M_thrown : Int32} {M_text : Nat → Int32} {M_size : Int32} {M_has : Int32} {M_hand : Int32} {M_layers : Nat → Int32} {M_kinds : Nat → Int32} {M_names : Nat → Int64} {M_nameSizes : Nat → Int32} {M_thicknesses : Nat → Int64} {M_spreads : Nat → Int32} {M_coppers : Nat → Int32} {M_copperAt : Nat → Int32} {M_presses : Nat → Int32} {M_pressFrom : Nat → Int32} {M_pressTo : Nat → Int32} {M_vias : Nat → Int32} {M_viaFrom : Nat → Int32} {M_viaTo : Nat → Int32} {M_shares : Nat → Int32} {M_lists : Int32} {M_hasRow : Nat → Int32} {M_rowLow : Nat → Int64} {M_rowHigh : Nat → Int64} {M_p : Int32} {M_s : Int32} {M_fault : Int32} {M_lines : Int32} {M_word : Int64} {M_wordSize : Int32} {M_out : Nat → Int32} {M_written : Int32} {M_secondOne : Int32} {z : Int32 × Int32} (hm : f_X7_kind F v1 M_thrown M_has M_hand M_layers M_kinds = some z) : Met l yX7_kind wsX7_kind ({ frames := 1, cells := 0, slots := 0, locals := 21 } : Room) (va_Pc [.ref (q 0), .int v1] (cP D y (wdX7 q y M_thrown M_text M_size M_has M_hand M_layers M_kinds M_names M_nameSizes M_thicknesses M_spreads M_coppers M_copperAt M_presses M_pressFrom M_pressTo M_vias M_viaFrom M_viaTo M_shares M_lists M_hasRow M_rowLow M_rowHigh M_p M_s M_fault M_lines M_word M_wordSize M_out M_written M_secondOne) sz)) (QI D y (va_A (wdX7 q y M_thrown M_text M_size M_has M_hand M_layers M_kinds M_names M_nameSizes M_thicknesses M_spreads M_coppers M_copperAt M_presses M_pressFrom M_pressTo M_vias M_viaFrom M_viaTo M_shares M_lists M_hasRow M_rowLow M_rowHigh M_p M_s M_fault M_lines M_word M_wordSize M_out M_written M_secondOne) sz) (z.1) (wdX7 q y (z.2) M_text M_size M_has M_hand M_layers M_kinds M_names M_nameSizes M_thicknesses M_spreads M_coppers M_copperAt M_presses M_pressFrom M_pressTo M_vias M_viaFrom M_viaTo M_shares M_lists M_hasRow M_rowLow M_rowHigh M_p M_s M_fault M_lines M_word M_wordSize M_out M_written M_secondOne)) 0 0 (va_A (wdX7 q y M_thrown M_text M_size M_has M_hand M_layers M_kinds M_names M_nameSizes M_thicknesses M_spreads M_coppers M_copperAt M_presses M_pressFrom M_pressTo M_vias M_viaFrom M_viaTo M_shares M_lists M_hasRow M_rowLow M_rowHigh M_p M_s M_fault M_lines M_word M_wordSize M_out M_written M_secondOne) sz) := by
  refine met_of (own := RX7) (cc := cX7_kind) (maxL := 2) (ret := (some .int)) (by decide) rfl rfl (Nat.le_of_ble_eq_true rfl) ?_
  intro p e s m below meth c ls C hsz hK hP hD hA hS hl
  obtain ⟨⟨hx, hb, hml, hown, hts⟩, hr, hlocks⟩ := id C
  have hl : lv_has ls 2 [(0, .ref (q 0)), (1, .int v1)] := hl
  generalize va_A (wdX7 q y M_thrown M_text M_size M_has M_hand M_layers M_kinds M_names M_nameSizes M_thicknesses M_spreads M_coppers M_copperAt M_presses M_pressFrom M_pressTo M_vias M_viaFrom M_viaTo M_shares M_lists M_hasRow M_rowLow M_rowHigh M_p M_s M_fault M_lines M_word M_wordSize M_out M_written M_secondOne) sz = A at hD hA hS ⊢
  generalize ([.ref (q 0), .int v1] : List Value).toArray = args at C hts ⊢
  unfold f_X7_kind at hm
  refine lv_aload_n hx hb dX7_kind_0 rfl (lv_at hl 0 rfl) ?_
  refine lv_aload_n hx hb dX7_kind_1 rfl (lv_at hl 0 rfl) ?_
  refine lv_iload_n hx hb dX7_kind_2 rfl (lv_at hl 1 rfl) ?_
  obtain ⟨r_1, hc_2, hm⟩ := mb1_of hm
  refine call_vi (wc := (wdX7 q y M_thrown M_text M_size M_has M_hand M_layers M_kinds M_names M_nameSizes M_thicknesses M_spreads M_coppers M_copperAt M_presses M_pressFrom M_pressTo M_vias M_viaFrom M_viaTo M_shares M_lists M_hasRow M_rowLow M_rowHigh M_p M_s M_fault M_lines M_word M_wordSize M_out M_written M_secondOne)) (wr := []) (As := [.int v1]) (rest := [.ref (q 0)]) C (c_X7_isLayer l D y q _ F hc_2) (cwV 1 hts gX7_kind_X7_isLayer rfl rfl rfl (by decide +kernel) ⟨Nat.le_of_ble_eq_true rfl, Nat.le_of_ble_eq_true rfl⟩) hK hP hD hS hA [0, 1, 2, 3, 4, 5, 6, 7, 8, 9, 10, 11, 12, 13, 14, 15, 16, 17, 18, 19, 20] [] rfl rfl rfl rfl rfl (by decide) rfl rfl rfl rfl hl.1 (Nat.le_of_ble_eq_true rfl) dX7_kind_3 (fun H locs hP hD hS => ?_)
  have hP : va_P D vwCl (wdX7 q y M_thrown M_text M_size M_has M_hand M_layers M_kinds M_names M_nameSizes M_thicknesses M_spreads M_coppers M_copperAt M_presses M_pressFrom M_pressTo M_vias M_viaFrom M_viaTo M_shares M_lists M_hasRow M_rowLow M_rowHigh M_p M_s M_fault M_lines M_word M_wordSize M_out M_written M_secondOne) H := hP
  have hD : va_D A (wdX7 q y M_thrown M_text M_size M_has M_hand M_layers M_kinds M_names M_nameSizes M_thicknesses M_spreads M_coppers M_copperAt M_presses M_pressFrom M_pressTo M_vias M_viaFrom M_viaTo M_shares M_lists M_hasRow M_rowLow M_rowHigh M_p M_s M_fault M_lines M_word M_wordSize M_out M_written M_secondOne) := hD
  refine lv_if_eq (tgt := 13) hx hb dX7_kind_6 (by decide) (fun h_3 => ?_) (fun h_3 => ?_)
  · have hm := it_of hm h_3
    refine lv_iconst (v := (1 : Int32)) hx hb dX7_kind_13 (by decide) ?_
    exact k_X7_kind_14 C hA hK F v1 (1 : Int32) M_thrown M_hand M_kinds _ _ _ hm hP hD hS (lv_sub hl [0, 1] rfl)
  · have hm := ie_of hm h_3
    refine lv_iconst (v := (0 : Int32)) hx hb dX7_kind_9 (by decide) ?_
    refine lv_goto (tgt := 14) hx hb dX7_kind_10 (by decide) ?_
    exact k_X7_kind_14 C hA hK F v1 (0 : Int32) M_thrown M_hand M_kinds _ _ _ hm hP hD hS (lv_sub hl [0, 1] rfl)
def g_X7_via_22 (F : Nat) (v1 : Int32) (v2 : Int32) (st1 : Int32) (M_thrown : Int32) (M_hand : Int32) (M_vias : Nat → Int32) (M_viaFrom : Nat → Int32) (M_viaTo : Nat → Int32) (M_s : Int32) : Option (Int32 × Int32 × Int32) := (if st1 = 0 then (if v2 ≤ v1 then (if v2 ≤ v1 then mb1 (f_X7_isVia F v2 v1 M_vias M_viaFrom M_viaTo M_hand) (fun r_4 => mg (vp_nar .boolean r_4 = r_4) (some (r_4, st1, M_hand))) else mb1 (f_X7_isVia F v2 v2 M_vias M_viaFrom M_viaTo M_hand) (fun r_7 => mg (vp_nar .boolean r_7 = r_7) (some (r_7, st1, M_hand)))) else (if v2 ≤ v1 then mb1 (f_X7_isVia F v1 v1 M_vias M_viaFrom M_viaTo M_hand) (fun r_11 => mg (vp_nar .boolean r_11 = r_11) (some (r_11, st1, M_hand))) else mb1 (f_X7_isVia F v1 v2 M_vias M_viaFrom M_viaTo M_hand) (fun r_14 => mg (vp_nar .boolean r_14 = r_14) (some (r_14, st1, M_hand))))) else some ((0 : Int32), st1, M_s))
def f_X7_via (F : Nat) (v1 : Int32) (v2 : Int32) (M_thrown : Int32) (M_has : Int32) (M_hand : Int32) (M_coppers : Nat → Int32) (M_vias : Nat → Int32) (M_viaFrom : Nat → Int32) (M_viaTo : Nat → Int32) (M_s : Int32) : Option (Int32 × Int32 × Int32) := mb1 (f_X7_isCopper F v1 M_has M_hand M_coppers) (fun r_1 => (if r_1 = 0 then g_X7_via_22 F v1 v2 (1 : Int32) M_thrown M_hand M_vias M_viaFrom M_viaTo M_s else mb1 (f_X7_isCopper F v2 M_has M_hand M_coppers) (fun r_4 => (if r_4 = 0 then g_X7_via_22 F v1 v2 (1 : Int32) M_thrown M_hand M_vias M_viaFrom M_viaTo M_s else g_X7_via_22 F v1 v2 (0 : Int32) M_thrown M_hand M_vias M_viaFrom M_viaTo M_s))))
set_option maxRecDepth 20000 in
theorem n_X7_via_X7 : ∀ w ∈ wsX70, w ∈ wsX7_via := by decide +kernel
set_option maxRecDepth 20000 in
theorem w_X7_via_f72 : Cond.fieldLink RX7 72 "LayerStacksModel" "thrown" "I" ∈ wsX7_via := by decide +kernel
set_option maxRecDepth 20000 in
theorem w_X7_via_f195 : Cond.fieldLink RX7 195 "LayerStacksModel" "hand" "I" ∈ wsX7_via := by decide +kernel
set_option maxRecDepth 20000 in
theorem w_X7_via_f134 : Cond.fieldLink RX7 134 "LayerStacksModel" "s" "I" ∈ wsX7_via := by decide +kernel
set_option maxHeartbeats 4000000 in
set_option maxRecDepth 100000 in
theorem k_X7_via_22 {p : Program} {l : Launch} {e : Env} {s : State} {m : MethodId} {args : Array Value} {below : List Frame} {meth : Method} {c : Code} {D : va_G} {y : Nat → ClassId} {A : Nat → Prop} {q : Nat → Nat} {M_text : Nat → Int32} {M_size : Int32} {M_has : Int32} {M_layers : Nat → Int32} {M_kinds : Nat → Int32} {M_names : Nat → Int64} {M_nameSizes : Nat → Int32} {M_thicknesses : Nat → Int64} {M_spreads : Nat → Int32} {M_coppers : Nat → Int32} {M_copperAt : Nat → Int32} {M_presses : Nat → Int32} {M_pressFrom : Nat → Int32} {M_pressTo : Nat → Int32} {M_shares : Nat → Int32} {M_lists : Int32} {M_hasRow : Nat → Int32} {M_rowLow : Nat → Int64} {M_rowHigh : Nat → Int64} {M_p : Int32} {M_fault : Int32} {M_lines : Int32} {M_word : Int64} {M_wordSize : Int32} {M_out : Nat → Int32} {M_written : Int32} {M_secondOne : Int32} {z : Int32 × Int32 × Int32} (C : CX p s m args meth c wsX7_via RX7 cX7_via 3 (some .boolean)) (hA : ∀ q : Nat, s.heap.size ≤ q → A q) (hK : va_K D vwCl (tyl y) s) (F : Nat) :
    ∀ (v1 : Int32) (v2 : Int32) (st1 : Int32) (M_thrown : Int32) (M_hand : Int32) (M_vias : Nat → Int32) (M_viaFrom : Nat → Int32) (M_viaTo : Nat → Int32) (M_s : Int32) (H : Heap) (locs : List Loc) (ls : Array Slot), g_X7_via_22 F v1 v2 st1 M_thrown M_hand M_vias M_viaFrom M_viaTo M_s = some z → va_P D vwCl (wdX7 q y M_thrown M_text M_size M_has M_hand M_layers M_kinds M_names M_nameSizes M_thicknesses M_spreads M_coppers M_copperAt M_presses M_pressFrom M_pressTo M_vias M_viaFrom M_viaTo M_shares M_lists M_hasRow M_rowLow M_rowHigh M_p M_s M_fault M_lines M_word M_wordSize M_out M_written M_secondOne) H → va_D A (wdX7 q y M_thrown M_text M_size M_has M_hand M_layers M_kinds M_names M_nameSizes M_thicknesses M_spreads M_coppers M_copperAt M_presses M_pressFrom M_pressTo M_vias M_viaFrom M_viaTo M_shares M_lists M_hasRow M_rowLow M_rowHigh M_p M_s M_fault M_lines M_word M_wordSize M_out M_written M_secondOne) → va_S A s.heap H locs → lv_has ls 3 [(0, .ref (q 0)), (1, .int v1), (2, .int v2)] → W p l e ({ frames := 1, cells := 0, slots := 0, locals := 24 } : Room) s m args below meth c H locs 0 0 (MQ below (QI D y A (z.1) (wdX7 q y (z.2.1) M_text M_size M_has M_hand M_layers M_kinds M_names M_nameSizes M_thicknesses M_spreads M_coppers M_copperAt M_presses M_pressFrom M_pressTo M_vias M_viaFrom M_viaTo M_shares M_lists M_hasRow M_rowLow M_rowHigh M_p (z.2.2) M_fault M_lines M_word M_wordSize M_out M_written M_secondOne)) args s 0 0 A) (F0 m 22 ls [.int st1, .ref (q 0)]) := by
  obtain ⟨⟨hx, hb, hml, hown, hts⟩, hr, hlocks⟩ := id C
  intro v1 v2 st1 M_thrown M_hand M_vias M_viaFrom M_viaTo M_s H locs ls hm hP hD hS hl
  unfold g_X7_via_22 at hm
  refine va_put (D := D) (ci := 7) (v := .int st1) (ty := .int) (C := RX7) (T := TX7) (N := 33) hx hb hts n_X7_via_X7 tyX7 tyX7_ok nmX7 hown hK hP hD hS 0 rfl rfl 0 (by decide) (hts _ w_X7_via_f72) (fun _ h9 => h9) rfl (by decide +kernel) rfl rfl (Nat.le_of_ble_eq_true rfl) dX7_via_22 (fun H locs hP hD hS => ?_)
  have hP : va_P D vwCl (wdX7 q y st1 M_text M_size M_has M_hand M_layers M_kinds M_names M_nameSizes M_thicknesses M_spreads M_coppers M_copperAt M_presses M_pressFrom M_pressTo M_vias M_viaFrom M_viaTo M_shares M_lists M_hasRow M_rowLow M_rowHigh M_p M_s M_fault M_lines M_word M_wordSize M_out M_written M_secondOne) H := hP
  have hD : va_D A (wdX7 q y st1 M_text M_size M_has M_hand M_layers M_kinds M_names M_nameSizes M_thicknesses M_spreads M_coppers M_copperAt M_presses M_pressFrom M_pressTo M_vias M_viaFrom M_viaTo M_shares M_lists M_hasRow M_rowLow M_rowHigh M_p M_s M_fault M_lines M_word M_wordSize M_out M_written M_secondOne) := hD
  refine lv_aload_n hx hb dX7_via_25 rfl (lv_at hl 0 rfl) ?_
  refine va_get (D := D) (ci := 7) (v := .int st1) (C := RX7) (T := TX7) (N := 33) hx hb hts n_X7_via_X7 hown hK hP 0 rfl rfl 0 (by decide) (hts _ w_X7_via_f72) (fun _ h9 => h9) rfl dX7_via_26 ?_
  refine lv_if_eq (tgt := 34) hx hb dX7_via_29 (by decide) (fun h_1 => ?_) (fun h_1 => ?_)
  · have hm := it_of hm h_1
    refine lv_aload_n hx hb dX7_via_34 rfl (lv_at hl 0 rfl) ?_
    refine lv_aload_n hx hb dX7_via_35 rfl (lv_at hl 0 rfl) ?_
    refine va_get (D := D) (ci := 7) (v := .int M_hand) (C := RX7) (T := TX7) (N := 33) hx hb hts n_X7_via_X7 hown hK hP 0 rfl rfl 4 (by decide) (hts _ w_X7_via_f195) (fun _ h9 => h9) rfl dX7_via_36 ?_
    refine va_put (D := D) (ci := 7) (v := .int M_hand) (ty := .int) (C := RX7) (T := TX7) (N := 33) hx hb hts n_X7_via_X7 tyX7 tyX7_ok nmX7 hown hK hP hD hS 0 rfl rfl 25 (by decide) (hts _ w_X7_via_f134) (fun _ h9 => h9) rfl (by decide +kernel) rfl rfl (Nat.le_of_ble_eq_true rfl) dX7_via_39 (fun H locs hP hD hS => ?_)
    have hP : va_P D vwCl (wdX7 q y st1 M_text M_size M_has M_hand M_layers M_kinds M_names M_nameSizes M_thicknesses M_spreads M_coppers M_copperAt M_presses M_pressFrom M_pressTo M_vias M_viaFrom M_viaTo M_shares M_lists M_hasRow M_rowLow M_rowHigh M_p M_hand M_fault M_lines M_word M_wordSize M_out M_written M_secondOne) H := hP
    have hD : va_D A (wdX7 q y st1 M_text M_size M_has M_hand M_layers M_kinds M_names M_nameSizes M_thicknesses M_spreads M_coppers M_copperAt M_presses M_pressFrom M_pressTo M_vias M_viaFrom M_viaTo M_shares M_lists M_hasRow M_rowLow M_rowHigh M_p M_hand M_fault M_lines M_word M_wordSize M_out M_written M_secondOne) := hD
    refine lv_aload_n hx hb dX7_via_42 rfl (lv_at hl 0 rfl) ?_
    refine lv_iload_n hx hb dX7_via_43 rfl (lv_at hl 1 rfl) ?_
    refine lv_iload_n hx hb dX7_via_44 rfl (lv_at hl 2 rfl) ?_
    refine lv_icmp_ge (tgt := 52) hx hb dX7_via_45 (by decide) (fun h_2 => ?_) (fun h_2 => ?_)
    · have hm := it_of hm h_2
      refine lv_iload_n hx hb dX7_via_52 rfl (lv_at hl 2 rfl) ?_
      refine lv_iload_n hx hb dX7_via_53 rfl (lv_at hl 1 rfl) ?_
      refine lv_iload_n hx hb dX7_via_54 rfl (lv_at hl 2 rfl) ?_
      refine lv_icmp_ge (tgt := 62) hx hb dX7_via_55 (by decide) (fun h_3 => ?_) (fun h_3 => ?_)
      · have hm := it_of hm h_3
        refine lv_iload_n hx hb dX7_via_62 rfl (lv_at hl 1 rfl) ?_
        obtain ⟨r_4, hc_5, hm⟩ := mb1_of hm
        refine call_vi (wc := (wdX7 q y st1 M_text M_size M_has M_hand M_layers M_kinds M_names M_nameSizes M_thicknesses M_spreads M_coppers M_copperAt M_presses M_pressFrom M_pressTo M_vias M_viaFrom M_viaTo M_shares M_lists M_hasRow M_rowLow M_rowHigh M_p M_hand M_fault M_lines M_word M_wordSize M_out M_written M_secondOne)) (wr := []) (As := [.int v2, .int v1]) (rest := []) C (c_X7_isVia l D y q _ F hc_5) (cwV 2 hts gX7_via_X7_isVia rfl rfl rfl (by decide +kernel) ⟨Nat.le_of_ble_eq_true rfl, Nat.le_of_ble_eq_true rfl⟩) hK hP hD hS hA [0, 1, 2, 3, 4, 5, 6, 7, 8, 9, 10, 11, 12, 13, 14, 15, 16, 17, 18, 19, 20] [] rfl rfl rfl rfl rfl (by decide) rfl rfl rfl rfl hl.1 (Nat.le_of_ble_eq_true rfl) dX7_via_63 (fun H locs hP hD hS => ?_)
        have hP : va_P D vwCl (wdX7 q y st1 M_text M_size M_has M_hand M_layers M_kinds M_names M_nameSizes M_thicknesses M_spreads M_coppers M_copperAt M_presses M_pressFrom M_pressTo M_vias M_viaFrom M_viaTo M_shares M_lists M_hasRow M_rowLow M_rowHigh M_p M_hand M_fault M_lines M_word M_wordSize M_out M_written M_secondOne) H := hP
        have hD : va_D A (wdX7 q y st1 M_text M_size M_has M_hand M_layers M_kinds M_names M_nameSizes M_thicknesses M_spreads M_coppers M_copperAt M_presses M_pressFrom M_pressTo M_vias M_viaFrom M_viaTo M_shares M_lists M_hasRow M_rowLow M_rowHigh M_p M_hand M_fault M_lines M_word M_wordSize M_out M_written M_secondOne) := hD
        obtain ⟨hg_6, hm⟩ := mg_of hm
        have hz := Option.some.inj hm
        subst hz
        exact end_z C hK hP hD hS hg_6 dX7_via_66
      · have hm := ie_of hm h_3
        refine lv_iload_n hx hb dX7_via_58 rfl (lv_at hl 2 rfl) ?_
        refine lv_goto (tgt := 63) hx hb dX7_via_59 (by decide) ?_
        obtain ⟨r_7, hc_8, hm⟩ := mb1_of hm
        refine call_vi (wc := (wdX7 q y st1 M_text M_size M_has M_hand M_layers M_kinds M_names M_nameSizes M_thicknesses M_spreads M_coppers M_copperAt M_presses M_pressFrom M_pressTo M_vias M_viaFrom M_viaTo M_shares M_lists M_hasRow M_rowLow M_rowHigh M_p M_hand M_fault M_lines M_word M_wordSize M_out M_written M_secondOne)) (wr := []) (As := [.int v2, .int v2]) (rest := []) C (c_X7_isVia l D y q _ F hc_8) (cwV 2 hts gX7_via_X7_isVia rfl rfl rfl (by decide +kernel) ⟨Nat.le_of_ble_eq_true rfl, Nat.le_of_ble_eq_true rfl⟩) hK hP hD hS hA [0, 1, 2, 3, 4, 5, 6, 7, 8, 9, 10, 11, 12, 13, 14, 15, 16, 17, 18, 19, 20] [] rfl rfl rfl rfl rfl (by decide) rfl rfl rfl rfl hl.1 (Nat.le_of_ble_eq_true rfl) dX7_via_63 (fun H locs hP hD hS => ?_)
        have hP : va_P D vwCl (wdX7 q y st1 M_text M_size M_has M_hand M_layers M_kinds M_names M_nameSizes M_thicknesses M_spreads M_coppers M_copperAt M_presses M_pressFrom M_pressTo M_vias M_viaFrom M_viaTo M_shares M_lists M_hasRow M_rowLow M_rowHigh M_p M_hand M_fault M_lines M_word M_wordSize M_out M_written M_secondOne) H := hP
        have hD : va_D A (wdX7 q y st1 M_text M_size M_has M_hand M_layers M_kinds M_names M_nameSizes M_thicknesses M_spreads M_coppers M_copperAt M_presses M_pressFrom M_pressTo M_vias M_viaFrom M_viaTo M_shares M_lists M_hasRow M_rowLow M_rowHigh M_p M_hand M_fault M_lines M_word M_wordSize M_out M_written M_secondOne) := hD
        obtain ⟨hg_9, hm⟩ := mg_of hm
        have hz := Option.some.inj hm
        subst hz
        exact end_z C hK hP hD hS hg_9 dX7_via_66
    · have hm := ie_of hm h_2
      refine lv_iload_n hx hb dX7_via_48 rfl (lv_at hl 1 rfl) ?_
      refine lv_goto (tgt := 53) hx hb dX7_via_49 (by decide) ?_
      refine lv_iload_n hx hb dX7_via_53 rfl (lv_at hl 1 rfl) ?_
      refine lv_iload_n hx hb dX7_via_54 rfl (lv_at hl 2 rfl) ?_
      refine lv_icmp_ge (tgt := 62) hx hb dX7_via_55 (by decide) (fun h_10 => ?_) (fun h_10 => ?_)
      · have hm := it_of hm h_10
        refine lv_iload_n hx hb dX7_via_62 rfl (lv_at hl 1 rfl) ?_
        obtain ⟨r_11, hc_12, hm⟩ := mb1_of hm
        refine call_vi (wc := (wdX7 q y st1 M_text M_size M_has M_hand M_layers M_kinds M_names M_nameSizes M_thicknesses M_spreads M_coppers M_copperAt M_presses M_pressFrom M_pressTo M_vias M_viaFrom M_viaTo M_shares M_lists M_hasRow M_rowLow M_rowHigh M_p M_hand M_fault M_lines M_word M_wordSize M_out M_written M_secondOne)) (wr := []) (As := [.int v1, .int v1]) (rest := []) C (c_X7_isVia l D y q _ F hc_12) (cwV 2 hts gX7_via_X7_isVia rfl rfl rfl (by decide +kernel) ⟨Nat.le_of_ble_eq_true rfl, Nat.le_of_ble_eq_true rfl⟩) hK hP hD hS hA [0, 1, 2, 3, 4, 5, 6, 7, 8, 9, 10, 11, 12, 13, 14, 15, 16, 17, 18, 19, 20] [] rfl rfl rfl rfl rfl (by decide) rfl rfl rfl rfl hl.1 (Nat.le_of_ble_eq_true rfl) dX7_via_63 (fun H locs hP hD hS => ?_)
        have hP : va_P D vwCl (wdX7 q y st1 M_text M_size M_has M_hand M_layers M_kinds M_names M_nameSizes M_thicknesses M_spreads M_coppers M_copperAt M_presses M_pressFrom M_pressTo M_vias M_viaFrom M_viaTo M_shares M_lists M_hasRow M_rowLow M_rowHigh M_p M_hand M_fault M_lines M_word M_wordSize M_out M_written M_secondOne) H := hP
        have hD : va_D A (wdX7 q y st1 M_text M_size M_has M_hand M_layers M_kinds M_names M_nameSizes M_thicknesses M_spreads M_coppers M_copperAt M_presses M_pressFrom M_pressTo M_vias M_viaFrom M_viaTo M_shares M_lists M_hasRow M_rowLow M_rowHigh M_p M_hand M_fault M_lines M_word M_wordSize M_out M_written M_secondOne) := hD
        obtain ⟨hg_13, hm⟩ := mg_of hm
        have hz := Option.some.inj hm
        subst hz
        exact end_z C hK hP hD hS hg_13 dX7_via_66
      · have hm := ie_of hm h_10
        refine lv_iload_n hx hb dX7_via_58 rfl (lv_at hl 2 rfl) ?_
        refine lv_goto (tgt := 63) hx hb dX7_via_59 (by decide) ?_
        obtain ⟨r_14, hc_15, hm⟩ := mb1_of hm
        refine call_vi (wc := (wdX7 q y st1 M_text M_size M_has M_hand M_layers M_kinds M_names M_nameSizes M_thicknesses M_spreads M_coppers M_copperAt M_presses M_pressFrom M_pressTo M_vias M_viaFrom M_viaTo M_shares M_lists M_hasRow M_rowLow M_rowHigh M_p M_hand M_fault M_lines M_word M_wordSize M_out M_written M_secondOne)) (wr := []) (As := [.int v1, .int v2]) (rest := []) C (c_X7_isVia l D y q _ F hc_15) (cwV 2 hts gX7_via_X7_isVia rfl rfl rfl (by decide +kernel) ⟨Nat.le_of_ble_eq_true rfl, Nat.le_of_ble_eq_true rfl⟩) hK hP hD hS hA [0, 1, 2, 3, 4, 5, 6, 7, 8, 9, 10, 11, 12, 13, 14, 15, 16, 17, 18, 19, 20] [] rfl rfl rfl rfl rfl (by decide) rfl rfl rfl rfl hl.1 (Nat.le_of_ble_eq_true rfl) dX7_via_63 (fun H locs hP hD hS => ?_)
        have hP : va_P D vwCl (wdX7 q y st1 M_text M_size M_has M_hand M_layers M_kinds M_names M_nameSizes M_thicknesses M_spreads M_coppers M_copperAt M_presses M_pressFrom M_pressTo M_vias M_viaFrom M_viaTo M_shares M_lists M_hasRow M_rowLow M_rowHigh M_p M_hand M_fault M_lines M_word M_wordSize M_out M_written M_secondOne) H := hP
        have hD : va_D A (wdX7 q y st1 M_text M_size M_has M_hand M_layers M_kinds M_names M_nameSizes M_thicknesses M_spreads M_coppers M_copperAt M_presses M_pressFrom M_pressTo M_vias M_viaFrom M_viaTo M_shares M_lists M_hasRow M_rowLow M_rowHigh M_p M_hand M_fault M_lines M_word M_wordSize M_out M_written M_secondOne) := hD
        obtain ⟨hg_16, hm⟩ := mg_of hm
        have hz := Option.some.inj hm
        subst hz
        exact end_z C hK hP hD hS hg_16 dX7_via_66
  · have hm := ie_of hm h_1
    refine lv_iconst (v := (0 : Int32)) hx hb dX7_via_32 (by decide) ?_
    have hz := Option.some.inj hm
    subst hz
    exact end_z C hK hP hD hS (show vp_nar .boolean (0 : Int32) = (0 : Int32) from by decide) dX7_via_33
set_option maxHeartbeats 4000000 in
set_option maxRecDepth 100000 in
theorem c_X7_via (l : Launch) (D : va_G) (y : Nat → ClassId) (q : Nat → Nat) (sz : Nat) (F : Nat) {v1 : Int32} {v2 : Int32} {M_thrown : Int32} {M_text : Nat → Int32} {M_size : Int32} {M_has : Int32} {M_hand : Int32} {M_layers : Nat → Int32} {M_kinds : Nat → Int32} {M_names : Nat → Int64} {M_nameSizes : Nat → Int32} {M_thicknesses : Nat → Int64} {M_spreads : Nat → Int32} {M_coppers : Nat → Int32} {M_copperAt : Nat → Int32} {M_presses : Nat → Int32} {M_pressFrom : Nat → Int32} {M_pressTo : Nat → Int32} {M_vias : Nat → Int32} {M_viaFrom : Nat → Int32} {M_viaTo : Nat → Int32} {M_shares : Nat → Int32} {M_lists : Int32} {M_hasRow : Nat → Int32} {M_rowLow : Nat → Int64} {M_rowHigh : Nat → Int64} {M_p : Int32} {M_s : Int32} {M_fault : Int32} {M_lines : Int32} {M_word : Int64} {M_wordSize : Int32} {M_out : Nat → Int32} {M_written : Int32} {M_secondOne : Int32} {z : Int32 × Int32 × Int32} (hm : f_X7_via F v1 v2 M_thrown M_has M_hand M_coppers M_vias M_viaFrom M_viaTo M_s = some z) : Met l yX7_via wsX7_via ({ frames := 1, cells := 0, slots := 0, locals := 24 } : Room) (va_Pc [.ref (q 0), .int v1, .int v2] (cP D y (wdX7 q y M_thrown M_text M_size M_has M_hand M_layers M_kinds M_names M_nameSizes M_thicknesses M_spreads M_coppers M_copperAt M_presses M_pressFrom M_pressTo M_vias M_viaFrom M_viaTo M_shares M_lists M_hasRow M_rowLow M_rowHigh M_p M_s M_fault M_lines M_word M_wordSize M_out M_written M_secondOne) sz)) (QI D y (va_A (wdX7 q y M_thrown M_text M_size M_has M_hand M_layers M_kinds M_names M_nameSizes M_thicknesses M_spreads M_coppers M_copperAt M_presses M_pressFrom M_pressTo M_vias M_viaFrom M_viaTo M_shares M_lists M_hasRow M_rowLow M_rowHigh M_p M_s M_fault M_lines M_word M_wordSize M_out M_written M_secondOne) sz) (z.1) (wdX7 q y (z.2.1) M_text M_size M_has M_hand M_layers M_kinds M_names M_nameSizes M_thicknesses M_spreads M_coppers M_copperAt M_presses M_pressFrom M_pressTo M_vias M_viaFrom M_viaTo M_shares M_lists M_hasRow M_rowLow M_rowHigh M_p (z.2.2) M_fault M_lines M_word M_wordSize M_out M_written M_secondOne)) 0 0 (va_A (wdX7 q y M_thrown M_text M_size M_has M_hand M_layers M_kinds M_names M_nameSizes M_thicknesses M_spreads M_coppers M_copperAt M_presses M_pressFrom M_pressTo M_vias M_viaFrom M_viaTo M_shares M_lists M_hasRow M_rowLow M_rowHigh M_p M_s M_fault M_lines M_word M_wordSize M_out M_written M_secondOne) sz) := by
  refine met_of (own := RX7) (cc := cX7_via) (maxL := 3) (ret := (some .boolean)) (by decide) rfl rfl (Nat.le_of_ble_eq_true rfl) ?_
  intro p e s m below meth c ls C hsz hK hP hD hA hS hl
  obtain ⟨⟨hx, hb, hml, hown, hts⟩, hr, hlocks⟩ := id C
  have hl : lv_has ls 3 [(0, .ref (q 0)), (1, .int v1), (2, .int v2)] := hl
  generalize va_A (wdX7 q y M_thrown M_text M_size M_has M_hand M_layers M_kinds M_names M_nameSizes M_thicknesses M_spreads M_coppers M_copperAt M_presses M_pressFrom M_pressTo M_vias M_viaFrom M_viaTo M_shares M_lists M_hasRow M_rowLow M_rowHigh M_p M_s M_fault M_lines M_word M_wordSize M_out M_written M_secondOne) sz = A at hD hA hS ⊢
  generalize ([.ref (q 0), .int v1, .int v2] : List Value).toArray = args at C hts ⊢
  unfold f_X7_via at hm
  refine lv_aload_n hx hb dX7_via_0 rfl (lv_at hl 0 rfl) ?_
  refine lv_aload_n hx hb dX7_via_1 rfl (lv_at hl 0 rfl) ?_
  refine lv_iload_n hx hb dX7_via_2 rfl (lv_at hl 1 rfl) ?_
  obtain ⟨r_1, hc_2, hm⟩ := mb1_of hm
  refine call_vi (wc := (wdX7 q y M_thrown M_text M_size M_has M_hand M_layers M_kinds M_names M_nameSizes M_thicknesses M_spreads M_coppers M_copperAt M_presses M_pressFrom M_pressTo M_vias M_viaFrom M_viaTo M_shares M_lists M_hasRow M_rowLow M_rowHigh M_p M_s M_fault M_lines M_word M_wordSize M_out M_written M_secondOne)) (wr := []) (As := [.int v1]) (rest := [.ref (q 0)]) C (c_X7_isCopper l D y q _ F hc_2) (cwV 1 hts gX7_via_X7_isCopper rfl rfl rfl (by decide +kernel) ⟨Nat.le_of_ble_eq_true rfl, Nat.le_of_ble_eq_true rfl⟩) hK hP hD hS hA [0, 1, 2, 3, 4, 5, 6, 7, 8, 9, 10, 11, 12, 13, 14, 15, 16, 17, 18, 19, 20] [] rfl rfl rfl rfl rfl (by decide) rfl rfl rfl rfl hl.1 (Nat.le_of_ble_eq_true rfl) dX7_via_3 (fun H locs hP hD hS => ?_)
  have hP : va_P D vwCl (wdX7 q y M_thrown M_text M_size M_has M_hand M_layers M_kinds M_names M_nameSizes M_thicknesses M_spreads M_coppers M_copperAt M_presses M_pressFrom M_pressTo M_vias M_viaFrom M_viaTo M_shares M_lists M_hasRow M_rowLow M_rowHigh M_p M_s M_fault M_lines M_word M_wordSize M_out M_written M_secondOne) H := hP
  have hD : va_D A (wdX7 q y M_thrown M_text M_size M_has M_hand M_layers M_kinds M_names M_nameSizes M_thicknesses M_spreads M_coppers M_copperAt M_presses M_pressFrom M_pressTo M_vias M_viaFrom M_viaTo M_shares M_lists M_hasRow M_rowLow M_rowHigh M_p M_s M_fault M_lines M_word M_wordSize M_out M_written M_secondOne) := hD
  refine lv_if_eq (tgt := 21) hx hb dX7_via_6 (by decide) (fun h_3 => ?_) (fun h_3 => ?_)
  · have hm := it_of hm h_3
    refine lv_iconst (v := (1 : Int32)) hx hb dX7_via_21 (by decide) ?_
    exact k_X7_via_22 C hA hK F v1 v2 (1 : Int32) M_thrown M_hand M_vias M_viaFrom M_viaTo M_s _ _ _ hm hP hD hS (lv_sub hl [0, 1, 2] rfl)
  · have hm := ie_of hm h_3
    refine lv_aload_n hx hb dX7_via_9 rfl (lv_at hl 0 rfl) ?_
    refine lv_iload_n hx hb dX7_via_10 rfl (lv_at hl 2 rfl) ?_
    obtain ⟨r_4, hc_5, hm⟩ := mb1_of hm
    refine call_vi (wc := (wdX7 q y M_thrown M_text M_size M_has M_hand M_layers M_kinds M_names M_nameSizes M_thicknesses M_spreads M_coppers M_copperAt M_presses M_pressFrom M_pressTo M_vias M_viaFrom M_viaTo M_shares M_lists M_hasRow M_rowLow M_rowHigh M_p M_s M_fault M_lines M_word M_wordSize M_out M_written M_secondOne)) (wr := []) (As := [.int v2]) (rest := [.ref (q 0)]) C (c_X7_isCopper l D y q _ F hc_5) (cwV 1 hts gX7_via_X7_isCopper rfl rfl rfl (by decide +kernel) ⟨Nat.le_of_ble_eq_true rfl, Nat.le_of_ble_eq_true rfl⟩) hK hP hD hS hA [0, 1, 2, 3, 4, 5, 6, 7, 8, 9, 10, 11, 12, 13, 14, 15, 16, 17, 18, 19, 20] [] rfl rfl rfl rfl rfl (by decide) rfl rfl rfl rfl hl.1 (Nat.le_of_ble_eq_true rfl) dX7_via_11 (fun H locs hP hD hS => ?_)
    have hP : va_P D vwCl (wdX7 q y M_thrown M_text M_size M_has M_hand M_layers M_kinds M_names M_nameSizes M_thicknesses M_spreads M_coppers M_copperAt M_presses M_pressFrom M_pressTo M_vias M_viaFrom M_viaTo M_shares M_lists M_hasRow M_rowLow M_rowHigh M_p M_s M_fault M_lines M_word M_wordSize M_out M_written M_secondOne) H := hP
    have hD : va_D A (wdX7 q y M_thrown M_text M_size M_has M_hand M_layers M_kinds M_names M_nameSizes M_thicknesses M_spreads M_coppers M_copperAt M_presses M_pressFrom M_pressTo M_vias M_viaFrom M_viaTo M_shares M_lists M_hasRow M_rowLow M_rowHigh M_p M_s M_fault M_lines M_word M_wordSize M_out M_written M_secondOne) := hD
    refine lv_if_eq (tgt := 21) hx hb dX7_via_14 (by decide) (fun h_6 => ?_) (fun h_6 => ?_)
    · have hm := it_of hm h_6
      refine lv_iconst (v := (1 : Int32)) hx hb dX7_via_21 (by decide) ?_
      exact k_X7_via_22 C hA hK F v1 v2 (1 : Int32) M_thrown M_hand M_vias M_viaFrom M_viaTo M_s _ _ _ hm hP hD hS (lv_sub hl [0, 1, 2] rfl)
    · have hm := ie_of hm h_6
      refine lv_iconst (v := (0 : Int32)) hx hb dX7_via_17 (by decide) ?_
      refine lv_goto (tgt := 22) hx hb dX7_via_18 (by decide) ?_
      exact k_X7_via_22 C hA hK F v1 v2 (0 : Int32) M_thrown M_hand M_vias M_viaFrom M_viaTo M_s _ _ _ hm hP hD hS (lv_sub hl [0, 1, 2] rfl)
