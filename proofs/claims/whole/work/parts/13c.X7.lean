def g_X7_layerLine_206 (F : Nat) (v1 : Int32) (M_text : Nat → Int32) (M_size : Int32) (M_layers : Nat → Int32) (M_kinds : Nat → Int32) (M_names : Nat → Int64) (M_nameSizes : Nat → Int32) (M_thicknesses : Nat → Int64) (M_spreads : Nat → Int32) (M_coppers : Nat → Int32) (M_copperAt : Nat → Int32) (M_p : Int32) (M_s : Int32) (M_fault : Int32) (M_word : Int64) (M_wordSize : Int32) : Option ((Nat → Int32) × (Nat → Int32) × (Nat → Int64) × (Nat → Int32) × (Nat → Int64) × (Nat → Int32) × (Nat → Int32) × (Nat → Int32) × Int32 × Int32 × Int64 × Int32) := mb2 (f_X7_expect F (10 : Int32) M_text M_size M_p M_fault) (fun M_p_1 M_fault_2 => mb1 (f_X7_good F M_fault_2) (fun r_4 => (if r_4 = 0 then some (M_layers, M_kinds, M_names, M_nameSizes, M_thicknesses, M_spreads, M_coppers, M_copperAt, M_p_1, M_fault_2, M_word, M_wordSize) else (if v1 = 0 then mg (inb M_s 2) (mg (inb M_s 2) (mg (inb (((32 : Int32) * M_s) + (M_coppers (M_s).toNatClampNeg)) 64) (mg (inb M_s 2) (mg (inb M_s 2) (mg (inb M_s 2) (mg (inb M_s 2) (some ((upd M_layers (M_s).toNatClampNeg ((M_layers (M_s).toNatClampNeg) + (1 : Int32))), M_kinds, M_names, M_nameSizes, M_thicknesses, M_spreads, (upd M_coppers (M_s).toNatClampNeg ((M_coppers (M_s).toNatClampNeg) + (1 : Int32))), (upd M_copperAt ((((32 : Int32) * M_s) + (M_coppers (M_s).toNatClampNeg))).toNatClampNeg (M_layers (M_s).toNatClampNeg)), M_p_1, M_fault_2, M_word, M_wordSize)))))))) else mg (inb M_s 2) (mg (inb M_s 2) (some ((upd M_layers (M_s).toNatClampNeg ((M_layers (M_s).toNatClampNeg) + (1 : Int32))), M_kinds, M_names, M_nameSizes, M_thicknesses, M_spreads, M_coppers, M_copperAt, M_p_1, M_fault_2, M_word, M_wordSize)))))))
def g_X7_layerLine_180 (F : Nat) (v1 : Int32) (v4 : Int32) (v5 : Int64) (v7 : Int64) (M_text : Nat → Int32) (M_size : Int32) (M_layers : Nat → Int32) (M_kinds : Nat → Int32) (M_names : Nat → Int64) (M_nameSizes : Nat → Int32) (M_thicknesses : Nat → Int64) (M_spreads : Nat → Int32) (M_coppers : Nat → Int32) (M_copperAt : Nat → Int32) (M_p : Int32) (M_s : Int32) (M_fault : Int32) (M_word : Int64) (M_wordSize : Int32) : Option ((Nat → Int32) × (Nat → Int32) × (Nat → Int64) × (Nat → Int32) × (Nat → Int64) × (Nat → Int32) × (Nat → Int32) × (Nat → Int32) × Int32 × Int32 × Int64 × Int32) := mb1 (f_X7_good F M_fault) (fun r_1 => (if r_1 = 0 then g_X7_layerLine_206 F v1 M_text M_size M_layers M_kinds M_names M_nameSizes M_thicknesses M_spreads M_coppers M_copperAt M_p M_s M_fault M_word M_wordSize else mg (inb v4 160) (mg (inb v4 160) (g_X7_layerLine_206 F v1 M_text M_size M_layers M_kinds M_names M_nameSizes (vp_updL M_thicknesses (v4).toNatClampNeg v5) (upd M_spreads (v4).toNatClampNeg ((v7).toInt32)) M_coppers M_copperAt M_p M_s M_fault M_word M_wordSize))))
def g_X7_layerLine_121 (F : Nat) (v1 : Int32) (v4 : Int32) (M_text : Nat → Int32) (M_size : Int32) (M_layers : Nat → Int32) (M_kinds : Nat → Int32) (M_names : Nat → Int64) (M_nameSizes : Nat → Int32) (M_thicknesses : Nat → Int64) (M_spreads : Nat → Int32) (M_coppers : Nat → Int32) (M_copperAt : Nat → Int32) (M_p : Int32) (M_s : Int32) (M_fault : Int32) (M_word : Int64) (M_wordSize : Int32) : Option ((Nat → Int32) × (Nat → Int32) × (Nat → Int64) × (Nat → Int32) × (Nat → Int64) × (Nat → Int32) × (Nat → Int32) × (Nat → Int32) × Int32 × Int32 × Int64 × Int32) := (if v1 = (4 : Int32) then g_X7_layerLine_206 F v1 M_text M_size M_layers M_kinds M_names M_nameSizes M_thicknesses M_spreads M_coppers M_copperAt M_p M_s M_fault M_word M_wordSize else mb2 (f_X7_expect F (32 : Int32) M_text M_size M_p M_fault) (fun M_p_2 M_fault_3 => mb3 (f_X7_number F (4 : Int32) (3 : Int32) M_text M_size M_p_2 M_fault_3) (fun r_5 M_p_6 M_fault_7 => mb2 (f_X7_expect F (32 : Int32) M_text M_size M_p_6 M_fault_7) (fun M_p_9 M_fault_10 => mb3 (f_X7_number F (2 : Int32) (1 : Int32) M_text M_size M_p_9 M_fault_10) (fun r_12 M_p_13 M_fault_14 => mb1 (f_X7_good F M_fault_14) (fun r_16 => (if r_16 = 0 then g_X7_layerLine_180 F v1 v4 r_5 r_12 M_text M_size M_layers M_kinds M_names M_nameSizes M_thicknesses M_spreads M_coppers M_copperAt M_p_13 M_s M_fault_14 M_word M_wordSize else (if (lg_cmp r_12 (500 : Int64)) ≤ 0 then g_X7_layerLine_180 F v1 v4 r_5 r_12 M_text M_size M_layers M_kinds M_names M_nameSizes M_thicknesses M_spreads M_coppers M_copperAt M_p_13 M_s M_fault_14 M_word M_wordSize else mb1 (f_X7_fail F M_p_9 M_fault_14) (fun M_fault_20 => g_X7_layerLine_180 F v1 v4 r_5 r_12 M_text M_size M_layers M_kinds M_names M_nameSizes M_thicknesses M_spreads M_coppers M_copperAt M_p_13 M_s M_fault_20 M_word M_wordSize)))))))))
def g_X7_layerLine_53 (F : Nat) (v1 : Int32) (M_text : Nat → Int32) (M_size : Int32) (M_layers : Nat → Int32) (M_kinds : Nat → Int32) (M_names : Nat → Int64) (M_nameSizes : Nat → Int32) (M_thicknesses : Nat → Int64) (M_spreads : Nat → Int32) (M_coppers : Nat → Int32) (M_copperAt : Nat → Int32) (M_p : Int32) (M_s : Int32) (M_fault : Int32) (M_word : Int64) (M_wordSize : Int32) : Option ((Nat → Int32) × (Nat → Int32) × (Nat → Int64) × (Nat → Int32) × (Nat → Int64) × (Nat → Int32) × (Nat → Int32) × (Nat → Int32) × Int32 × Int32 × Int64 × Int32) := mg (inb M_s 2) (mb1 (f_X7_layerAt F (M_layers (M_s).toNatClampNeg) M_s) (fun r_2 => mb1 (f_X7_good F M_fault) (fun r_4 => (if r_4 = 0 then g_X7_layerLine_121 F v1 r_2 M_text M_size M_layers M_kinds M_names M_nameSizes M_thicknesses M_spreads M_coppers M_copperAt M_p M_s M_fault M_word M_wordSize else mg (inb r_2 160) (mg (inb r_2 160) (mg (inb r_2 160) (mg (inb r_2 160) (mg (inb r_2 160) (g_X7_layerLine_121 F v1 r_2 M_text M_size M_layers (upd M_kinds (r_2).toNatClampNeg v1) (vp_updL M_names (r_2).toNatClampNeg M_word) (upd M_nameSizes (r_2).toNatClampNeg M_wordSize) (vp_updL M_thicknesses (r_2).toNatClampNeg (0 : Int64)) (upd M_spreads (r_2).toNatClampNeg (0 : Int32)) M_coppers M_copperAt M_p M_s M_fault M_word M_wordSize)))))))))
def f_X7_layerLine (F : Nat) (v1 : Int32) (v2 : Int32) (M_text : Nat → Int32) (M_size : Int32) (M_layers : Nat → Int32) (M_kinds : Nat → Int32) (M_names : Nat → Int64) (M_nameSizes : Nat → Int32) (M_thicknesses : Nat → Int64) (M_spreads : Nat → Int32) (M_coppers : Nat → Int32) (M_copperAt : Nat → Int32) (M_presses : Nat → Int32) (M_vias : Nat → Int32) (M_p : Int32) (M_s : Int32) (M_fault : Int32) (M_word : Int64) (M_wordSize : Int32) : Option ((Nat → Int32) × (Nat → Int32) × (Nat → Int64) × (Nat → Int32) × (Nat → Int64) × (Nat → Int32) × (Nat → Int32) × (Nat → Int32) × Int32 × Int32 × Int64 × Int32) := mb1 (f_X7_mayStand F v1 M_layers M_kinds M_coppers M_presses M_vias M_s) (fun r_1 => (if r_1 = 0 then mb1 (f_X7_fail F v2 M_fault) (fun M_fault_21 => some (M_layers, M_kinds, M_names, M_nameSizes, M_thicknesses, M_spreads, M_coppers, M_copperAt, M_p, M_fault_21, M_word, M_wordSize)) else mb2 (f_X7_expect F (32 : Int32) M_text M_size M_p M_fault) (fun M_p_4 M_fault_5 => mb4 (f_X7_name F M_text M_size M_p_4 M_fault_5 M_word M_wordSize) (fun M_p_7 M_fault_8 M_word_9 M_wordSize_10 => mb1 (f_X7_good F M_fault_8) (fun r_12 => (if r_12 = 0 then g_X7_layerLine_53 F v1 M_text M_size M_layers M_kinds M_names M_nameSizes M_thicknesses M_spreads M_coppers M_copperAt M_p_7 M_s M_fault_8 M_word_9 M_wordSize_10 else (if v1 = 0 then mb1 (f_X7_copperNamed F M_names M_nameSizes M_coppers M_copperAt M_s M_word_9 M_wordSize_10) (fun r_16 => (if r_16 = (-1 : Int32) then g_X7_layerLine_53 F v1 M_text M_size M_layers M_kinds M_names M_nameSizes M_thicknesses M_spreads M_coppers M_copperAt M_p_7 M_s M_fault_8 M_word_9 M_wordSize_10 else mb1 (f_X7_fail F M_p_4 M_fault_8) (fun M_fault_19 => g_X7_layerLine_53 F v1 M_text M_size M_layers M_kinds M_names M_nameSizes M_thicknesses M_spreads M_coppers M_copperAt M_p_7 M_s M_fault_19 M_word_9 M_wordSize_10))) else g_X7_layerLine_53 F v1 M_text M_size M_layers M_kinds M_names M_nameSizes M_thicknesses M_spreads M_coppers M_copperAt M_p_7 M_s M_fault_8 M_word_9 M_wordSize_10)))))))
set_option maxRecDepth 20000 in
theorem n_X7_layerLine_X7 : ∀ w ∈ wsX70, w ∈ wsX7_layerLine := by decide +kernel
set_option maxRecDepth 20000 in
theorem w_X7_layerLine_f13 : Cond.fieldLink RX7 13 "LayerStacksModel" "layers" "[I" ∈ wsX7_layerLine := by decide +kernel
set_option maxRecDepth 20000 in
theorem w_X7_layerLine_f134 : Cond.fieldLink RX7 134 "LayerStacksModel" "s" "I" ∈ wsX7_layerLine := by decide +kernel
set_option maxRecDepth 20000 in
theorem w_X7_layerLine_f16 : Cond.fieldLink RX7 16 "LayerStacksModel" "kinds" "[I" ∈ wsX7_layerLine := by decide +kernel
set_option maxRecDepth 20000 in
theorem w_X7_layerLine_f19 : Cond.fieldLink RX7 19 "LayerStacksModel" "names" "[J" ∈ wsX7_layerLine := by decide +kernel
set_option maxRecDepth 20000 in
theorem w_X7_layerLine_f113 : Cond.fieldLink RX7 113 "LayerStacksModel" "word" "J" ∈ wsX7_layerLine := by decide +kernel
set_option maxRecDepth 20000 in
theorem w_X7_layerLine_f23 : Cond.fieldLink RX7 23 "LayerStacksModel" "nameSizes" "[I" ∈ wsX7_layerLine := by decide +kernel
set_option maxRecDepth 20000 in
theorem w_X7_layerLine_f117 : Cond.fieldLink RX7 117 "LayerStacksModel" "wordSize" "I" ∈ wsX7_layerLine := by decide +kernel
set_option maxRecDepth 20000 in
theorem w_X7_layerLine_f26 : Cond.fieldLink RX7 26 "LayerStacksModel" "thicknesses" "[J" ∈ wsX7_layerLine := by decide +kernel
set_option maxRecDepth 20000 in
theorem w_X7_layerLine_f29 : Cond.fieldLink RX7 29 "LayerStacksModel" "spreads" "[I" ∈ wsX7_layerLine := by decide +kernel
set_option maxRecDepth 20000 in
theorem w_X7_layerLine_f79 : Cond.fieldLink RX7 79 "LayerStacksModel" "p" "I" ∈ wsX7_layerLine := by decide +kernel
set_option maxRecDepth 20000 in
theorem w_X7_layerLine_k157 : Cond.constantLong RX7 157 (500) ∈ wsX7_layerLine := by decide +kernel
set_option maxRecDepth 20000 in
theorem w_X7_layerLine_f35 : Cond.fieldLink RX7 35 "LayerStacksModel" "copperAt" "[I" ∈ wsX7_layerLine := by decide +kernel
set_option maxRecDepth 20000 in
theorem w_X7_layerLine_f32 : Cond.fieldLink RX7 32 "LayerStacksModel" "coppers" "[I" ∈ wsX7_layerLine := by decide +kernel
set_option maxHeartbeats 4000000 in
set_option maxRecDepth 100000 in
theorem k_X7_layerLine_206 {p : Program} {l : Launch} {e : Env} {s : State} {m : MethodId} {args : Array Value} {below : List Frame} {meth : Method} {c : Code} {D : va_G} {y : Nat → ClassId} {A : Nat → Prop} {q : Nat → Nat} {M_thrown : Int32} {M_has : Int32} {M_hand : Int32} {M_presses : Nat → Int32} {M_pressFrom : Nat → Int32} {M_pressTo : Nat → Int32} {M_vias : Nat → Int32} {M_viaFrom : Nat → Int32} {M_viaTo : Nat → Int32} {M_shares : Nat → Int32} {M_lists : Int32} {M_hasRow : Nat → Int32} {M_rowLow : Nat → Int64} {M_rowHigh : Nat → Int64} {M_lines : Int32} {M_out : Nat → Int32} {M_written : Int32} {M_secondOne : Int32} {z : (Nat → Int32) × (Nat → Int32) × (Nat → Int64) × (Nat → Int32) × (Nat → Int64) × (Nat → Int32) × (Nat → Int32) × (Nat → Int32) × Int32 × Int32 × Int64 × Int32} (C : CX p s m args meth c wsX7_layerLine RX7 cX7_layerLine 9 none) (hA : ∀ q : Nat, s.heap.size ≤ q → A q) (hK : va_K D vwCl (tyl y) s) (F : Nat) :
    ∀ (v1 : Int32) (M_text : Nat → Int32) (M_size : Int32) (M_layers : Nat → Int32) (M_kinds : Nat → Int32) (M_names : Nat → Int64) (M_nameSizes : Nat → Int32) (M_thicknesses : Nat → Int64) (M_spreads : Nat → Int32) (M_coppers : Nat → Int32) (M_copperAt : Nat → Int32) (M_p : Int32) (M_s : Int32) (M_fault : Int32) (M_word : Int64) (M_wordSize : Int32) (H : Heap) (locs : List Loc) (ls : Array Slot), g_X7_layerLine_206 F v1 M_text M_size M_layers M_kinds M_names M_nameSizes M_thicknesses M_spreads M_coppers M_copperAt M_p M_s M_fault M_word M_wordSize = some z → va_P D vwCl (wdX7 q y M_thrown M_text M_size M_has M_hand M_layers M_kinds M_names M_nameSizes M_thicknesses M_spreads M_coppers M_copperAt M_presses M_pressFrom M_pressTo M_vias M_viaFrom M_viaTo M_shares M_lists M_hasRow M_rowLow M_rowHigh M_p M_s M_fault M_lines M_word M_wordSize M_out M_written M_secondOne) H → va_D A (wdX7 q y M_thrown M_text M_size M_has M_hand M_layers M_kinds M_names M_nameSizes M_thicknesses M_spreads M_coppers M_copperAt M_presses M_pressFrom M_pressTo M_vias M_viaFrom M_viaTo M_shares M_lists M_hasRow M_rowLow M_rowHigh M_p M_s M_fault M_lines M_word M_wordSize M_out M_written M_secondOne) → va_S A s.heap H locs → lv_has ls 9 [(0, .ref (q 0)), (1, .int v1)] → W p l e ({ frames := 3, cells := 0, slots := 0, locals := 73 } : Room) s m args below meth c H locs 0 0 (MQ below (QV D y A (wdX7 q y M_thrown M_text M_size M_has M_hand (z.1) (z.2.1) (z.2.2.1) (z.2.2.2.1) (z.2.2.2.2.1) (z.2.2.2.2.2.1) (z.2.2.2.2.2.2.1) (z.2.2.2.2.2.2.2.1) M_presses M_pressFrom M_pressTo M_vias M_viaFrom M_viaTo M_shares M_lists M_hasRow M_rowLow M_rowHigh (z.2.2.2.2.2.2.2.2.1) M_s (z.2.2.2.2.2.2.2.2.2.1) M_lines (z.2.2.2.2.2.2.2.2.2.2.1) (z.2.2.2.2.2.2.2.2.2.2.2) M_out M_written M_secondOne)) args s 0 0 A) (F0 m 206 ls []) := by
  obtain ⟨⟨hx, hb, hml, hown, hts⟩, hr, hlocks⟩ := id C
  intro v1 M_text M_size M_layers M_kinds M_names M_nameSizes M_thicknesses M_spreads M_coppers M_copperAt M_p M_s M_fault M_word M_wordSize H locs ls hm hP hD hS hl
  unfold g_X7_layerLine_206 at hm
  refine lv_aload_n hx hb dX7_layerLine_206 rfl (lv_at hl 0 rfl) ?_
  refine lv_bipush (v := (10 : Int32)) hx hb dX7_layerLine_207 (by decide) ?_
  obtain ⟨M_p_1, M_fault_2, hc_3, hm⟩ := mb2_of hm
  refine call_vv (wc := (wdX7 q y M_thrown M_text M_size M_has M_hand M_layers M_kinds M_names M_nameSizes M_thicknesses M_spreads M_coppers M_copperAt M_presses M_pressFrom M_pressTo M_vias M_viaFrom M_viaTo M_shares M_lists M_hasRow M_rowLow M_rowHigh M_p M_s M_fault M_lines M_word M_wordSize M_out M_written M_secondOne)) (wr := []) (As := [.int (10 : Int32)]) (rest := []) C (c_X7_expect l D y q _ F hc_3) (cwV 1 hts gX7_layerLine_X7_expect rfl rfl rfl (by decide +kernel) ⟨Nat.le_of_ble_eq_true rfl, Nat.le_of_ble_eq_true rfl⟩) hK hP hD hS hA [0, 1, 2, 3, 4, 5, 6, 7, 8, 9, 10, 11, 12, 13, 14, 15, 16, 17, 18, 19, 20] [] rfl rfl rfl rfl rfl (by decide) rfl rfl rfl rfl hl.1 (Nat.le_of_ble_eq_true rfl) dX7_layerLine_209 (fun H locs hP hD hS => ?_)
  have hP : va_P D vwCl (wdX7 q y M_thrown M_text M_size M_has M_hand M_layers M_kinds M_names M_nameSizes M_thicknesses M_spreads M_coppers M_copperAt M_presses M_pressFrom M_pressTo M_vias M_viaFrom M_viaTo M_shares M_lists M_hasRow M_rowLow M_rowHigh M_p_1 M_s M_fault_2 M_lines M_word M_wordSize M_out M_written M_secondOne) H := hP
  have hD : va_D A (wdX7 q y M_thrown M_text M_size M_has M_hand M_layers M_kinds M_names M_nameSizes M_thicknesses M_spreads M_coppers M_copperAt M_presses M_pressFrom M_pressTo M_vias M_viaFrom M_viaTo M_shares M_lists M_hasRow M_rowLow M_rowHigh M_p_1 M_s M_fault_2 M_lines M_word M_wordSize M_out M_written M_secondOne) := hD
  refine lv_aload_n hx hb dX7_layerLine_212 rfl (lv_at hl 0 rfl) ?_
  obtain ⟨r_4, hc_5, hm⟩ := mb1_of hm
  refine call_vi (wc := (wdX7 q y M_thrown M_text M_size M_has M_hand M_layers M_kinds M_names M_nameSizes M_thicknesses M_spreads M_coppers M_copperAt M_presses M_pressFrom M_pressTo M_vias M_viaFrom M_viaTo M_shares M_lists M_hasRow M_rowLow M_rowHigh M_p_1 M_s M_fault_2 M_lines M_word M_wordSize M_out M_written M_secondOne)) (wr := []) (As := []) (rest := []) C (c_X7_good l D y q _ F hc_5) (cwV 0 hts gX7_layerLine_X7_good rfl rfl rfl (by decide +kernel) ⟨Nat.le_of_ble_eq_true rfl, Nat.le_of_ble_eq_true rfl⟩) hK hP hD hS hA [0, 1, 2, 3, 4, 5, 6, 7, 8, 9, 10, 11, 12, 13, 14, 15, 16, 17, 18, 19, 20] [] rfl rfl rfl rfl rfl (by decide) rfl rfl rfl rfl hl.1 (Nat.le_of_ble_eq_true rfl) dX7_layerLine_213 (fun H locs hP hD hS => ?_)
  have hP : va_P D vwCl (wdX7 q y M_thrown M_text M_size M_has M_hand M_layers M_kinds M_names M_nameSizes M_thicknesses M_spreads M_coppers M_copperAt M_presses M_pressFrom M_pressTo M_vias M_viaFrom M_viaTo M_shares M_lists M_hasRow M_rowLow M_rowHigh M_p_1 M_s M_fault_2 M_lines M_word M_wordSize M_out M_written M_secondOne) H := hP
  have hD : va_D A (wdX7 q y M_thrown M_text M_size M_has M_hand M_layers M_kinds M_names M_nameSizes M_thicknesses M_spreads M_coppers M_copperAt M_presses M_pressFrom M_pressTo M_vias M_viaFrom M_viaTo M_shares M_lists M_hasRow M_rowLow M_rowHigh M_p_1 M_s M_fault_2 M_lines M_word M_wordSize M_out M_written M_secondOne) := hD
  refine lv_if_ne (tgt := 220) hx hb dX7_layerLine_216 (by decide) (fun h_6 => ?_) (fun h_6 => ?_)
  · have hm := ie_of hm h_6
    refine lv_iload_n hx hb dX7_layerLine_220 rfl (lv_at hl 1 rfl) ?_
    refine lv_if_ne (tgt := 268) hx hb dX7_layerLine_221 (by decide) (fun h_7 => ?_) (fun h_7 => ?_)
    · have hm := ie_of hm h_7
      refine lv_aload_n hx hb dX7_layerLine_268 rfl (lv_at hl 0 rfl) ?_
      refine va_get (D := D) (ci := 7) (v := .ref (q 2)) (C := RX7) (T := TX7) (N := 33) hx hb hts n_X7_layerLine_X7 hown hK hP 0 rfl rfl 5 (by decide) (hts _ w_X7_layerLine_f13) (fun _ h9 => h9) rfl dX7_layerLine_269 ?_
      refine lv_aload_n hx hb dX7_layerLine_272 rfl (lv_at hl 0 rfl) ?_
      refine va_get (D := D) (ci := 7) (v := .int M_s) (C := RX7) (T := TX7) (N := 33) hx hb hts n_X7_layerLine_X7 hown hK hP 0 rfl rfl 25 (by decide) (hts _ w_X7_layerLine_f134) (fun _ h9 => h9) rfl dX7_layerLine_273 ?_
      refine lv_dup2_11 hx hb dX7_layerLine_276 rfl rfl ?_
      obtain ⟨hg_8, hm⟩ := mg_of hm
      refine va_iald hx hb hK hP 2 0 rfl rfl hg_8 dX7_layerLine_277 ?_
      refine lv_iconst (v := (1 : Int32)) hx hb dX7_layerLine_278 (by decide) ?_
      refine lv_iadd hx hb dX7_layerLine_279 ?_
      obtain ⟨hg_9, hm⟩ := mg_of hm
      refine va_iast hx hb hK hP hD hS 2 0 rfl rfl hg_9 dX7_layerLine_280 (fun H locs hP hD hS => ?_)
      have hP : va_P D vwCl (wdX7 q y M_thrown M_text M_size M_has M_hand (upd M_layers (M_s).toNatClampNeg ((M_layers (M_s).toNatClampNeg) + (1 : Int32))) M_kinds M_names M_nameSizes M_thicknesses M_spreads M_coppers M_copperAt M_presses M_pressFrom M_pressTo M_vias M_viaFrom M_viaTo M_shares M_lists M_hasRow M_rowLow M_rowHigh M_p_1 M_s M_fault_2 M_lines M_word M_wordSize M_out M_written M_secondOne) H := hP
      have hD : va_D A (wdX7 q y M_thrown M_text M_size M_has M_hand (upd M_layers (M_s).toNatClampNeg ((M_layers (M_s).toNatClampNeg) + (1 : Int32))) M_kinds M_names M_nameSizes M_thicknesses M_spreads M_coppers M_copperAt M_presses M_pressFrom M_pressTo M_vias M_viaFrom M_viaTo M_shares M_lists M_hasRow M_rowLow M_rowHigh M_p_1 M_s M_fault_2 M_lines M_word M_wordSize M_out M_written M_secondOne) := hD
      have hz := Option.some.inj hm
      subst hz
      exact end_v C hK hP hD hS dX7_layerLine_281
    · have hm := it_of hm h_7
      refine lv_aload_n hx hb dX7_layerLine_224 rfl (lv_at hl 0 rfl) ?_
      refine va_get (D := D) (ci := 7) (v := .ref (q 9)) (C := RX7) (T := TX7) (N := 33) hx hb hts n_X7_layerLine_X7 hown hK hP 0 rfl rfl 12 (by decide) (hts _ w_X7_layerLine_f35) (fun _ h9 => h9) rfl dX7_layerLine_225 ?_
      refine lv_bipush (v := (32 : Int32)) hx hb dX7_layerLine_228 (by decide) ?_
      refine lv_aload_n hx hb dX7_layerLine_230 rfl (lv_at hl 0 rfl) ?_
      refine va_get (D := D) (ci := 7) (v := .int M_s) (C := RX7) (T := TX7) (N := 33) hx hb hts n_X7_layerLine_X7 hown hK hP 0 rfl rfl 25 (by decide) (hts _ w_X7_layerLine_f134) (fun _ h9 => h9) rfl dX7_layerLine_231 ?_
      refine lv_imul hx hb dX7_layerLine_234 ?_
      refine lv_aload_n hx hb dX7_layerLine_235 rfl (lv_at hl 0 rfl) ?_
      refine va_get (D := D) (ci := 7) (v := .ref (q 8)) (C := RX7) (T := TX7) (N := 33) hx hb hts n_X7_layerLine_X7 hown hK hP 0 rfl rfl 11 (by decide) (hts _ w_X7_layerLine_f32) (fun _ h9 => h9) rfl dX7_layerLine_236 ?_
      refine lv_aload_n hx hb dX7_layerLine_239 rfl (lv_at hl 0 rfl) ?_
      refine va_get (D := D) (ci := 7) (v := .int M_s) (C := RX7) (T := TX7) (N := 33) hx hb hts n_X7_layerLine_X7 hown hK hP 0 rfl rfl 25 (by decide) (hts _ w_X7_layerLine_f134) (fun _ h9 => h9) rfl dX7_layerLine_240 ?_
      obtain ⟨hg_10, hm⟩ := mg_of hm
      refine va_iald hx hb hK hP 8 0 rfl rfl hg_10 dX7_layerLine_243 ?_
      refine lv_iadd hx hb dX7_layerLine_244 ?_
      refine lv_aload_n hx hb dX7_layerLine_245 rfl (lv_at hl 0 rfl) ?_
      refine va_get (D := D) (ci := 7) (v := .ref (q 2)) (C := RX7) (T := TX7) (N := 33) hx hb hts n_X7_layerLine_X7 hown hK hP 0 rfl rfl 5 (by decide) (hts _ w_X7_layerLine_f13) (fun _ h9 => h9) rfl dX7_layerLine_246 ?_
      refine lv_aload_n hx hb dX7_layerLine_249 rfl (lv_at hl 0 rfl) ?_
      refine va_get (D := D) (ci := 7) (v := .int M_s) (C := RX7) (T := TX7) (N := 33) hx hb hts n_X7_layerLine_X7 hown hK hP 0 rfl rfl 25 (by decide) (hts _ w_X7_layerLine_f134) (fun _ h9 => h9) rfl dX7_layerLine_250 ?_
      obtain ⟨hg_11, hm⟩ := mg_of hm
      refine va_iald hx hb hK hP 2 0 rfl rfl hg_11 dX7_layerLine_253 ?_
      obtain ⟨hg_12, hm⟩ := mg_of hm
      refine va_iast hx hb hK hP hD hS 9 0 rfl rfl hg_12 dX7_layerLine_254 (fun H locs hP hD hS => ?_)
      have hP : va_P D vwCl (wdX7 q y M_thrown M_text M_size M_has M_hand M_layers M_kinds M_names M_nameSizes M_thicknesses M_spreads M_coppers (upd M_copperAt ((((32 : Int32) * M_s) + (M_coppers (M_s).toNatClampNeg))).toNatClampNeg (M_layers (M_s).toNatClampNeg)) M_presses M_pressFrom M_pressTo M_vias M_viaFrom M_viaTo M_shares M_lists M_hasRow M_rowLow M_rowHigh M_p_1 M_s M_fault_2 M_lines M_word M_wordSize M_out M_written M_secondOne) H := hP
      have hD : va_D A (wdX7 q y M_thrown M_text M_size M_has M_hand M_layers M_kinds M_names M_nameSizes M_thicknesses M_spreads M_coppers (upd M_copperAt ((((32 : Int32) * M_s) + (M_coppers (M_s).toNatClampNeg))).toNatClampNeg (M_layers (M_s).toNatClampNeg)) M_presses M_pressFrom M_pressTo M_vias M_viaFrom M_viaTo M_shares M_lists M_hasRow M_rowLow M_rowHigh M_p_1 M_s M_fault_2 M_lines M_word M_wordSize M_out M_written M_secondOne) := hD
      refine lv_aload_n hx hb dX7_layerLine_255 rfl (lv_at hl 0 rfl) ?_
      refine va_get (D := D) (ci := 7) (v := .ref (q 8)) (C := RX7) (T := TX7) (N := 33) hx hb hts n_X7_layerLine_X7 hown hK hP 0 rfl rfl 11 (by decide) (hts _ w_X7_layerLine_f32) (fun _ h9 => h9) rfl dX7_layerLine_256 ?_
      refine lv_aload_n hx hb dX7_layerLine_259 rfl (lv_at hl 0 rfl) ?_
      refine va_get (D := D) (ci := 7) (v := .int M_s) (C := RX7) (T := TX7) (N := 33) hx hb hts n_X7_layerLine_X7 hown hK hP 0 rfl rfl 25 (by decide) (hts _ w_X7_layerLine_f134) (fun _ h9 => h9) rfl dX7_layerLine_260 ?_
      refine lv_dup2_11 hx hb dX7_layerLine_263 rfl rfl ?_
      obtain ⟨hg_13, hm⟩ := mg_of hm
      refine va_iald hx hb hK hP 8 0 rfl rfl hg_13 dX7_layerLine_264 ?_
      refine lv_iconst (v := (1 : Int32)) hx hb dX7_layerLine_265 (by decide) ?_
      refine lv_iadd hx hb dX7_layerLine_266 ?_
      obtain ⟨hg_14, hm⟩ := mg_of hm
      refine va_iast hx hb hK hP hD hS 8 0 rfl rfl hg_14 dX7_layerLine_267 (fun H locs hP hD hS => ?_)
      have hP : va_P D vwCl (wdX7 q y M_thrown M_text M_size M_has M_hand M_layers M_kinds M_names M_nameSizes M_thicknesses M_spreads (upd M_coppers (M_s).toNatClampNeg ((M_coppers (M_s).toNatClampNeg) + (1 : Int32))) (upd M_copperAt ((((32 : Int32) * M_s) + (M_coppers (M_s).toNatClampNeg))).toNatClampNeg (M_layers (M_s).toNatClampNeg)) M_presses M_pressFrom M_pressTo M_vias M_viaFrom M_viaTo M_shares M_lists M_hasRow M_rowLow M_rowHigh M_p_1 M_s M_fault_2 M_lines M_word M_wordSize M_out M_written M_secondOne) H := hP
      have hD : va_D A (wdX7 q y M_thrown M_text M_size M_has M_hand M_layers M_kinds M_names M_nameSizes M_thicknesses M_spreads (upd M_coppers (M_s).toNatClampNeg ((M_coppers (M_s).toNatClampNeg) + (1 : Int32))) (upd M_copperAt ((((32 : Int32) * M_s) + (M_coppers (M_s).toNatClampNeg))).toNatClampNeg (M_layers (M_s).toNatClampNeg)) M_presses M_pressFrom M_pressTo M_vias M_viaFrom M_viaTo M_shares M_lists M_hasRow M_rowLow M_rowHigh M_p_1 M_s M_fault_2 M_lines M_word M_wordSize M_out M_written M_secondOne) := hD
      refine lv_aload_n hx hb dX7_layerLine_268 rfl (lv_at hl 0 rfl) ?_
      refine va_get (D := D) (ci := 7) (v := .ref (q 2)) (C := RX7) (T := TX7) (N := 33) hx hb hts n_X7_layerLine_X7 hown hK hP 0 rfl rfl 5 (by decide) (hts _ w_X7_layerLine_f13) (fun _ h9 => h9) rfl dX7_layerLine_269 ?_
      refine lv_aload_n hx hb dX7_layerLine_272 rfl (lv_at hl 0 rfl) ?_
      refine va_get (D := D) (ci := 7) (v := .int M_s) (C := RX7) (T := TX7) (N := 33) hx hb hts n_X7_layerLine_X7 hown hK hP 0 rfl rfl 25 (by decide) (hts _ w_X7_layerLine_f134) (fun _ h9 => h9) rfl dX7_layerLine_273 ?_
      refine lv_dup2_11 hx hb dX7_layerLine_276 rfl rfl ?_
      obtain ⟨hg_15, hm⟩ := mg_of hm
      refine va_iald hx hb hK hP 2 0 rfl rfl hg_15 dX7_layerLine_277 ?_
      refine lv_iconst (v := (1 : Int32)) hx hb dX7_layerLine_278 (by decide) ?_
      refine lv_iadd hx hb dX7_layerLine_279 ?_
      obtain ⟨hg_16, hm⟩ := mg_of hm
      refine va_iast hx hb hK hP hD hS 2 0 rfl rfl hg_16 dX7_layerLine_280 (fun H locs hP hD hS => ?_)
      have hP : va_P D vwCl (wdX7 q y M_thrown M_text M_size M_has M_hand (upd M_layers (M_s).toNatClampNeg ((M_layers (M_s).toNatClampNeg) + (1 : Int32))) M_kinds M_names M_nameSizes M_thicknesses M_spreads (upd M_coppers (M_s).toNatClampNeg ((M_coppers (M_s).toNatClampNeg) + (1 : Int32))) (upd M_copperAt ((((32 : Int32) * M_s) + (M_coppers (M_s).toNatClampNeg))).toNatClampNeg (M_layers (M_s).toNatClampNeg)) M_presses M_pressFrom M_pressTo M_vias M_viaFrom M_viaTo M_shares M_lists M_hasRow M_rowLow M_rowHigh M_p_1 M_s M_fault_2 M_lines M_word M_wordSize M_out M_written M_secondOne) H := hP
      have hD : va_D A (wdX7 q y M_thrown M_text M_size M_has M_hand (upd M_layers (M_s).toNatClampNeg ((M_layers (M_s).toNatClampNeg) + (1 : Int32))) M_kinds M_names M_nameSizes M_thicknesses M_spreads (upd M_coppers (M_s).toNatClampNeg ((M_coppers (M_s).toNatClampNeg) + (1 : Int32))) (upd M_copperAt ((((32 : Int32) * M_s) + (M_coppers (M_s).toNatClampNeg))).toNatClampNeg (M_layers (M_s).toNatClampNeg)) M_presses M_pressFrom M_pressTo M_vias M_viaFrom M_viaTo M_shares M_lists M_hasRow M_rowLow M_rowHigh M_p_1 M_s M_fault_2 M_lines M_word M_wordSize M_out M_written M_secondOne) := hD
      have hz := Option.some.inj hm
      subst hz
      exact end_v C hK hP hD hS dX7_layerLine_281
  · have hm := it_of hm h_6
    have hz := Option.some.inj hm
    subst hz
    exact end_v C hK hP hD hS dX7_layerLine_219
set_option maxHeartbeats 4000000 in
set_option maxRecDepth 100000 in
theorem k_X7_layerLine_180 {p : Program} {l : Launch} {e : Env} {s : State} {m : MethodId} {args : Array Value} {below : List Frame} {meth : Method} {c : Code} {D : va_G} {y : Nat → ClassId} {A : Nat → Prop} {q : Nat → Nat} {M_thrown : Int32} {M_has : Int32} {M_hand : Int32} {M_presses : Nat → Int32} {M_pressFrom : Nat → Int32} {M_pressTo : Nat → Int32} {M_vias : Nat → Int32} {M_viaFrom : Nat → Int32} {M_viaTo : Nat → Int32} {M_shares : Nat → Int32} {M_lists : Int32} {M_hasRow : Nat → Int32} {M_rowLow : Nat → Int64} {M_rowHigh : Nat → Int64} {M_lines : Int32} {M_out : Nat → Int32} {M_written : Int32} {M_secondOne : Int32} {z : (Nat → Int32) × (Nat → Int32) × (Nat → Int64) × (Nat → Int32) × (Nat → Int64) × (Nat → Int32) × (Nat → Int32) × (Nat → Int32) × Int32 × Int32 × Int64 × Int32} (C : CX p s m args meth c wsX7_layerLine RX7 cX7_layerLine 9 none) (hA : ∀ q : Nat, s.heap.size ≤ q → A q) (hK : va_K D vwCl (tyl y) s) (F : Nat) :
    ∀ (v1 : Int32) (v4 : Int32) (v5 : Int64) (v7 : Int64) (M_text : Nat → Int32) (M_size : Int32) (M_layers : Nat → Int32) (M_kinds : Nat → Int32) (M_names : Nat → Int64) (M_nameSizes : Nat → Int32) (M_thicknesses : Nat → Int64) (M_spreads : Nat → Int32) (M_coppers : Nat → Int32) (M_copperAt : Nat → Int32) (M_p : Int32) (M_s : Int32) (M_fault : Int32) (M_word : Int64) (M_wordSize : Int32) (H : Heap) (locs : List Loc) (ls : Array Slot), g_X7_layerLine_180 F v1 v4 v5 v7 M_text M_size M_layers M_kinds M_names M_nameSizes M_thicknesses M_spreads M_coppers M_copperAt M_p M_s M_fault M_word M_wordSize = some z → va_P D vwCl (wdX7 q y M_thrown M_text M_size M_has M_hand M_layers M_kinds M_names M_nameSizes M_thicknesses M_spreads M_coppers M_copperAt M_presses M_pressFrom M_pressTo M_vias M_viaFrom M_viaTo M_shares M_lists M_hasRow M_rowLow M_rowHigh M_p M_s M_fault M_lines M_word M_wordSize M_out M_written M_secondOne) H → va_D A (wdX7 q y M_thrown M_text M_size M_has M_hand M_layers M_kinds M_names M_nameSizes M_thicknesses M_spreads M_coppers M_copperAt M_presses M_pressFrom M_pressTo M_vias M_viaFrom M_viaTo M_shares M_lists M_hasRow M_rowLow M_rowHigh M_p M_s M_fault M_lines M_word M_wordSize M_out M_written M_secondOne) → va_S A s.heap H locs → lv_has ls 9 [(0, .ref (q 0)), (1, .int v1), (4, .int v4), (5, .long v5), (7, .long v7)] → W p l e ({ frames := 3, cells := 0, slots := 0, locals := 73 } : Room) s m args below meth c H locs 0 0 (MQ below (QV D y A (wdX7 q y M_thrown M_text M_size M_has M_hand (z.1) (z.2.1) (z.2.2.1) (z.2.2.2.1) (z.2.2.2.2.1) (z.2.2.2.2.2.1) (z.2.2.2.2.2.2.1) (z.2.2.2.2.2.2.2.1) M_presses M_pressFrom M_pressTo M_vias M_viaFrom M_viaTo M_shares M_lists M_hasRow M_rowLow M_rowHigh (z.2.2.2.2.2.2.2.2.1) M_s (z.2.2.2.2.2.2.2.2.2.1) M_lines (z.2.2.2.2.2.2.2.2.2.2.1) (z.2.2.2.2.2.2.2.2.2.2.2) M_out M_written M_secondOne)) args s 0 0 A) (F0 m 180 ls []) := by
  obtain ⟨⟨hx, hb, hml, hown, hts⟩, hr, hlocks⟩ := id C
  intro v1 v4 v5 v7 M_text M_size M_layers M_kinds M_names M_nameSizes M_thicknesses M_spreads M_coppers M_copperAt M_p M_s M_fault M_word M_wordSize H locs ls hm hP hD hS hl
  unfold g_X7_layerLine_180 at hm
  refine lv_aload_n hx hb dX7_layerLine_180 rfl (lv_at hl 0 rfl) ?_
  obtain ⟨r_1, hc_2, hm⟩ := mb1_of hm
  refine call_vi (wc := (wdX7 q y M_thrown M_text M_size M_has M_hand M_layers M_kinds M_names M_nameSizes M_thicknesses M_spreads M_coppers M_copperAt M_presses M_pressFrom M_pressTo M_vias M_viaFrom M_viaTo M_shares M_lists M_hasRow M_rowLow M_rowHigh M_p M_s M_fault M_lines M_word M_wordSize M_out M_written M_secondOne)) (wr := []) (As := []) (rest := []) C (c_X7_good l D y q _ F hc_2) (cwV 0 hts gX7_layerLine_X7_good rfl rfl rfl (by decide +kernel) ⟨Nat.le_of_ble_eq_true rfl, Nat.le_of_ble_eq_true rfl⟩) hK hP hD hS hA [0, 1, 2, 3, 4, 5, 6, 7, 8, 9, 10, 11, 12, 13, 14, 15, 16, 17, 18, 19, 20] [] rfl rfl rfl rfl rfl (by decide) rfl rfl rfl rfl hl.1 (Nat.le_of_ble_eq_true rfl) dX7_layerLine_181 (fun H locs hP hD hS => ?_)
  have hP : va_P D vwCl (wdX7 q y M_thrown M_text M_size M_has M_hand M_layers M_kinds M_names M_nameSizes M_thicknesses M_spreads M_coppers M_copperAt M_presses M_pressFrom M_pressTo M_vias M_viaFrom M_viaTo M_shares M_lists M_hasRow M_rowLow M_rowHigh M_p M_s M_fault M_lines M_word M_wordSize M_out M_written M_secondOne) H := hP
  have hD : va_D A (wdX7 q y M_thrown M_text M_size M_has M_hand M_layers M_kinds M_names M_nameSizes M_thicknesses M_spreads M_coppers M_copperAt M_presses M_pressFrom M_pressTo M_vias M_viaFrom M_viaTo M_shares M_lists M_hasRow M_rowLow M_rowHigh M_p M_s M_fault M_lines M_word M_wordSize M_out M_written M_secondOne) := hD
  refine lv_if_eq (tgt := 206) hx hb dX7_layerLine_184 (by decide) (fun h_3 => ?_) (fun h_3 => ?_)
  · have hm := it_of hm h_3
    exact k_X7_layerLine_206 C hA hK F v1 M_text M_size M_layers M_kinds M_names M_nameSizes M_thicknesses M_spreads M_coppers M_copperAt M_p M_s M_fault M_word M_wordSize _ _ _ hm hP hD hS (lv_sub hl [0, 1] rfl)
  · have hm := ie_of hm h_3
    refine lv_aload_n hx hb dX7_layerLine_187 rfl (lv_at hl 0 rfl) ?_
    refine va_get (D := D) (ci := 7) (v := .ref (q 6)) (C := RX7) (T := TX7) (N := 33) hx hb hts n_X7_layerLine_X7 hown hK hP 0 rfl rfl 9 (by decide) (hts _ w_X7_layerLine_f26) (fun _ h9 => h9) rfl dX7_layerLine_188 ?_
    refine lv_iload hx hb dX7_layerLine_191 (lv_at hl 2 rfl) ?_
    refine lv_lload hx hb dX7_layerLine_193 (lv_at hl 3 rfl) ?_
    obtain ⟨hg_4, hm⟩ := mg_of hm
    refine va_last hx hb hK hP hD hS 6 1 rfl rfl hg_4 dX7_layerLine_195 (fun H locs hP hD hS => ?_)
    have hP : va_P D vwCl (wdX7 q y M_thrown M_text M_size M_has M_hand M_layers M_kinds M_names M_nameSizes (vp_updL M_thicknesses (v4).toNatClampNeg v5) M_spreads M_coppers M_copperAt M_presses M_pressFrom M_pressTo M_vias M_viaFrom M_viaTo M_shares M_lists M_hasRow M_rowLow M_rowHigh M_p M_s M_fault M_lines M_word M_wordSize M_out M_written M_secondOne) H := hP
    have hD : va_D A (wdX7 q y M_thrown M_text M_size M_has M_hand M_layers M_kinds M_names M_nameSizes (vp_updL M_thicknesses (v4).toNatClampNeg v5) M_spreads M_coppers M_copperAt M_presses M_pressFrom M_pressTo M_vias M_viaFrom M_viaTo M_shares M_lists M_hasRow M_rowLow M_rowHigh M_p M_s M_fault M_lines M_word M_wordSize M_out M_written M_secondOne) := hD
    refine lv_aload_n hx hb dX7_layerLine_196 rfl (lv_at hl 0 rfl) ?_
    refine va_get (D := D) (ci := 7) (v := .ref (q 7)) (C := RX7) (T := TX7) (N := 33) hx hb hts n_X7_layerLine_X7 hown hK hP 0 rfl rfl 10 (by decide) (hts _ w_X7_layerLine_f29) (fun _ h9 => h9) rfl dX7_layerLine_197 ?_
    refine lv_iload hx hb dX7_layerLine_200 (lv_at hl 2 rfl) ?_
    refine lv_lload hx hb dX7_layerLine_202 (lv_at hl 4 rfl) ?_
    refine lv_l2i (v := (v7).toInt32) hx hb dX7_layerLine_204 rfl ?_
    obtain ⟨hg_5, hm⟩ := mg_of hm
    refine va_iast hx hb hK hP hD hS 7 0 rfl rfl hg_5 dX7_layerLine_205 (fun H locs hP hD hS => ?_)
    have hP : va_P D vwCl (wdX7 q y M_thrown M_text M_size M_has M_hand M_layers M_kinds M_names M_nameSizes (vp_updL M_thicknesses (v4).toNatClampNeg v5) (upd M_spreads (v4).toNatClampNeg ((v7).toInt32)) M_coppers M_copperAt M_presses M_pressFrom M_pressTo M_vias M_viaFrom M_viaTo M_shares M_lists M_hasRow M_rowLow M_rowHigh M_p M_s M_fault M_lines M_word M_wordSize M_out M_written M_secondOne) H := hP
    have hD : va_D A (wdX7 q y M_thrown M_text M_size M_has M_hand M_layers M_kinds M_names M_nameSizes (vp_updL M_thicknesses (v4).toNatClampNeg v5) (upd M_spreads (v4).toNatClampNeg ((v7).toInt32)) M_coppers M_copperAt M_presses M_pressFrom M_pressTo M_vias M_viaFrom M_viaTo M_shares M_lists M_hasRow M_rowLow M_rowHigh M_p M_s M_fault M_lines M_word M_wordSize M_out M_written M_secondOne) := hD
    exact k_X7_layerLine_206 C hA hK F v1 M_text M_size M_layers M_kinds M_names M_nameSizes (vp_updL M_thicknesses (v4).toNatClampNeg v5) (upd M_spreads (v4).toNatClampNeg ((v7).toInt32)) M_coppers M_copperAt M_p M_s M_fault M_word M_wordSize _ _ _ hm hP hD hS (lv_sub hl [0, 1] rfl)
set_option maxHeartbeats 4000000 in
set_option maxRecDepth 100000 in
theorem k_X7_layerLine_121 {p : Program} {l : Launch} {e : Env} {s : State} {m : MethodId} {args : Array Value} {below : List Frame} {meth : Method} {c : Code} {D : va_G} {y : Nat → ClassId} {A : Nat → Prop} {q : Nat → Nat} {M_thrown : Int32} {M_has : Int32} {M_hand : Int32} {M_presses : Nat → Int32} {M_pressFrom : Nat → Int32} {M_pressTo : Nat → Int32} {M_vias : Nat → Int32} {M_viaFrom : Nat → Int32} {M_viaTo : Nat → Int32} {M_shares : Nat → Int32} {M_lists : Int32} {M_hasRow : Nat → Int32} {M_rowLow : Nat → Int64} {M_rowHigh : Nat → Int64} {M_lines : Int32} {M_out : Nat → Int32} {M_written : Int32} {M_secondOne : Int32} {z : (Nat → Int32) × (Nat → Int32) × (Nat → Int64) × (Nat → Int32) × (Nat → Int64) × (Nat → Int32) × (Nat → Int32) × (Nat → Int32) × Int32 × Int32 × Int64 × Int32} (C : CX p s m args meth c wsX7_layerLine RX7 cX7_layerLine 9 none) (hA : ∀ q : Nat, s.heap.size ≤ q → A q) (hK : va_K D vwCl (tyl y) s) (F : Nat) :
    ∀ (v1 : Int32) (v4 : Int32) (M_text : Nat → Int32) (M_size : Int32) (M_layers : Nat → Int32) (M_kinds : Nat → Int32) (M_names : Nat → Int64) (M_nameSizes : Nat → Int32) (M_thicknesses : Nat → Int64) (M_spreads : Nat → Int32) (M_coppers : Nat → Int32) (M_copperAt : Nat → Int32) (M_p : Int32) (M_s : Int32) (M_fault : Int32) (M_word : Int64) (M_wordSize : Int32) (H : Heap) (locs : List Loc) (ls : Array Slot), g_X7_layerLine_121 F v1 v4 M_text M_size M_layers M_kinds M_names M_nameSizes M_thicknesses M_spreads M_coppers M_copperAt M_p M_s M_fault M_word M_wordSize = some z → va_P D vwCl (wdX7 q y M_thrown M_text M_size M_has M_hand M_layers M_kinds M_names M_nameSizes M_thicknesses M_spreads M_coppers M_copperAt M_presses M_pressFrom M_pressTo M_vias M_viaFrom M_viaTo M_shares M_lists M_hasRow M_rowLow M_rowHigh M_p M_s M_fault M_lines M_word M_wordSize M_out M_written M_secondOne) H → va_D A (wdX7 q y M_thrown M_text M_size M_has M_hand M_layers M_kinds M_names M_nameSizes M_thicknesses M_spreads M_coppers M_copperAt M_presses M_pressFrom M_pressTo M_vias M_viaFrom M_viaTo M_shares M_lists M_hasRow M_rowLow M_rowHigh M_p M_s M_fault M_lines M_word M_wordSize M_out M_written M_secondOne) → va_S A s.heap H locs → lv_has ls 9 [(0, .ref (q 0)), (1, .int v1), (4, .int v4)] → W p l e ({ frames := 3, cells := 0, slots := 0, locals := 73 } : Room) s m args below meth c H locs 0 0 (MQ below (QV D y A (wdX7 q y M_thrown M_text M_size M_has M_hand (z.1) (z.2.1) (z.2.2.1) (z.2.2.2.1) (z.2.2.2.2.1) (z.2.2.2.2.2.1) (z.2.2.2.2.2.2.1) (z.2.2.2.2.2.2.2.1) M_presses M_pressFrom M_pressTo M_vias M_viaFrom M_viaTo M_shares M_lists M_hasRow M_rowLow M_rowHigh (z.2.2.2.2.2.2.2.2.1) M_s (z.2.2.2.2.2.2.2.2.2.1) M_lines (z.2.2.2.2.2.2.2.2.2.2.1) (z.2.2.2.2.2.2.2.2.2.2.2) M_out M_written M_secondOne)) args s 0 0 A) (F0 m 121 ls []) := by
  obtain ⟨⟨hx, hb, hml, hown, hts⟩, hr, hlocks⟩ := id C
  intro v1 v4 M_text M_size M_layers M_kinds M_names M_nameSizes M_thicknesses M_spreads M_coppers M_copperAt M_p M_s M_fault M_word M_wordSize H locs ls hm hP hD hS hl
  unfold g_X7_layerLine_121 at hm
  refine lv_iload_n hx hb dX7_layerLine_121 rfl (lv_at hl 1 rfl) ?_
  refine lv_iconst (v := (4 : Int32)) hx hb dX7_layerLine_122 (by decide) ?_
  refine lv_icmp_eq (tgt := 206) hx hb dX7_layerLine_123 (by decide) (fun h_1 => ?_) (fun h_1 => ?_)
  · have hm := it_of hm h_1
    exact k_X7_layerLine_206 C hA hK F v1 M_text M_size M_layers M_kinds M_names M_nameSizes M_thicknesses M_spreads M_coppers M_copperAt M_p M_s M_fault M_word M_wordSize _ _ _ hm hP hD hS (lv_sub hl [0, 1] rfl)
  · have hm := ie_of hm h_1
    refine lv_aload_n hx hb dX7_layerLine_126 rfl (lv_at hl 0 rfl) ?_
    refine lv_bipush (v := (32 : Int32)) hx hb dX7_layerLine_127 (by decide) ?_
    obtain ⟨M_p_2, M_fault_3, hc_4, hm⟩ := mb2_of hm
    refine call_vv (wc := (wdX7 q y M_thrown M_text M_size M_has M_hand M_layers M_kinds M_names M_nameSizes M_thicknesses M_spreads M_coppers M_copperAt M_presses M_pressFrom M_pressTo M_vias M_viaFrom M_viaTo M_shares M_lists M_hasRow M_rowLow M_rowHigh M_p M_s M_fault M_lines M_word M_wordSize M_out M_written M_secondOne)) (wr := []) (As := [.int (32 : Int32)]) (rest := []) C (c_X7_expect l D y q _ F hc_4) (cwV 1 hts gX7_layerLine_X7_expect rfl rfl rfl (by decide +kernel) ⟨Nat.le_of_ble_eq_true rfl, Nat.le_of_ble_eq_true rfl⟩) hK hP hD hS hA [0, 1, 2, 3, 4, 5, 6, 7, 8, 9, 10, 11, 12, 13, 14, 15, 16, 17, 18, 19, 20] [] rfl rfl rfl rfl rfl (by decide) rfl rfl rfl rfl hl.1 (Nat.le_of_ble_eq_true rfl) dX7_layerLine_129 (fun H locs hP hD hS => ?_)
    have hP : va_P D vwCl (wdX7 q y M_thrown M_text M_size M_has M_hand M_layers M_kinds M_names M_nameSizes M_thicknesses M_spreads M_coppers M_copperAt M_presses M_pressFrom M_pressTo M_vias M_viaFrom M_viaTo M_shares M_lists M_hasRow M_rowLow M_rowHigh M_p_2 M_s M_fault_3 M_lines M_word M_wordSize M_out M_written M_secondOne) H := hP
    have hD : va_D A (wdX7 q y M_thrown M_text M_size M_has M_hand M_layers M_kinds M_names M_nameSizes M_thicknesses M_spreads M_coppers M_copperAt M_presses M_pressFrom M_pressTo M_vias M_viaFrom M_viaTo M_shares M_lists M_hasRow M_rowLow M_rowHigh M_p_2 M_s M_fault_3 M_lines M_word M_wordSize M_out M_written M_secondOne) := hD
    refine lv_aload_n hx hb dX7_layerLine_132 rfl (lv_at hl 0 rfl) ?_
    refine lv_iconst (v := (4 : Int32)) hx hb dX7_layerLine_133 (by decide) ?_
    refine lv_iconst (v := (3 : Int32)) hx hb dX7_layerLine_134 (by decide) ?_
    obtain ⟨r_5, M_p_6, M_fault_7, hc_8, hm⟩ := mb3_of hm
    refine call_vl (wc := (wdX7 q y M_thrown M_text M_size M_has M_hand M_layers M_kinds M_names M_nameSizes M_thicknesses M_spreads M_coppers M_copperAt M_presses M_pressFrom M_pressTo M_vias M_viaFrom M_viaTo M_shares M_lists M_hasRow M_rowLow M_rowHigh M_p_2 M_s M_fault_3 M_lines M_word M_wordSize M_out M_written M_secondOne)) (wr := []) (As := [.int (4 : Int32), .int (3 : Int32)]) (rest := []) C (c_X7_number l D y q _ F hc_8) (cwV 2 hts gX7_layerLine_X7_number rfl rfl rfl (by decide +kernel) ⟨Nat.le_of_ble_eq_true rfl, Nat.le_of_ble_eq_true rfl⟩) hK hP hD hS hA [0, 1, 2, 3, 4, 5, 6, 7, 8, 9, 10, 11, 12, 13, 14, 15, 16, 17, 18, 19, 20] [] rfl rfl rfl rfl rfl (by decide) rfl rfl rfl rfl hl.1 (Nat.le_of_ble_eq_true rfl) dX7_layerLine_135 (fun H locs hP hD hS => ?_)
    have hP : va_P D vwCl (wdX7 q y M_thrown M_text M_size M_has M_hand M_layers M_kinds M_names M_nameSizes M_thicknesses M_spreads M_coppers M_copperAt M_presses M_pressFrom M_pressTo M_vias M_viaFrom M_viaTo M_shares M_lists M_hasRow M_rowLow M_rowHigh M_p_6 M_s M_fault_7 M_lines M_word M_wordSize M_out M_written M_secondOne) H := hP
    have hD : va_D A (wdX7 q y M_thrown M_text M_size M_has M_hand M_layers M_kinds M_names M_nameSizes M_thicknesses M_spreads M_coppers M_copperAt M_presses M_pressFrom M_pressTo M_vias M_viaFrom M_viaTo M_shares M_lists M_hasRow M_rowLow M_rowHigh M_p_6 M_s M_fault_7 M_lines M_word M_wordSize M_out M_written M_secondOne) := hD
    refine lv_lstore (lv' := [(5, .long r_5), (0, .ref (q 0)), (1, .int v1), (4, .int v4)]) hx hb dX7_layerLine_138 hl (by decide) rfl (fun ls hl => ?_)
    refine lv_aload_n hx hb dX7_layerLine_140 rfl (lv_at hl 1 rfl) ?_
    refine lv_bipush (v := (32 : Int32)) hx hb dX7_layerLine_141 (by decide) ?_
    obtain ⟨M_p_9, M_fault_10, hc_11, hm⟩ := mb2_of hm
    refine call_vv (wc := (wdX7 q y M_thrown M_text M_size M_has M_hand M_layers M_kinds M_names M_nameSizes M_thicknesses M_spreads M_coppers M_copperAt M_presses M_pressFrom M_pressTo M_vias M_viaFrom M_viaTo M_shares M_lists M_hasRow M_rowLow M_rowHigh M_p_6 M_s M_fault_7 M_lines M_word M_wordSize M_out M_written M_secondOne)) (wr := []) (As := [.int (32 : Int32)]) (rest := []) C (c_X7_expect l D y q _ F hc_11) (cwV 1 hts gX7_layerLine_X7_expect rfl rfl rfl (by decide +kernel) ⟨Nat.le_of_ble_eq_true rfl, Nat.le_of_ble_eq_true rfl⟩) hK hP hD hS hA [0, 1, 2, 3, 4, 5, 6, 7, 8, 9, 10, 11, 12, 13, 14, 15, 16, 17, 18, 19, 20] [] rfl rfl rfl rfl rfl (by decide) rfl rfl rfl rfl hl.1 (Nat.le_of_ble_eq_true rfl) dX7_layerLine_143 (fun H locs hP hD hS => ?_)
    have hP : va_P D vwCl (wdX7 q y M_thrown M_text M_size M_has M_hand M_layers M_kinds M_names M_nameSizes M_thicknesses M_spreads M_coppers M_copperAt M_presses M_pressFrom M_pressTo M_vias M_viaFrom M_viaTo M_shares M_lists M_hasRow M_rowLow M_rowHigh M_p_9 M_s M_fault_10 M_lines M_word M_wordSize M_out M_written M_secondOne) H := hP
    have hD : va_D A (wdX7 q y M_thrown M_text M_size M_has M_hand M_layers M_kinds M_names M_nameSizes M_thicknesses M_spreads M_coppers M_copperAt M_presses M_pressFrom M_pressTo M_vias M_viaFrom M_viaTo M_shares M_lists M_hasRow M_rowLow M_rowHigh M_p_9 M_s M_fault_10 M_lines M_word M_wordSize M_out M_written M_secondOne) := hD
    refine lv_aload_n hx hb dX7_layerLine_146 rfl (lv_at hl 1 rfl) ?_
    refine va_get (D := D) (ci := 7) (v := .int M_p_9) (C := RX7) (T := TX7) (N := 33) hx hb hts n_X7_layerLine_X7 hown hK hP 0 rfl rfl 24 (by decide) (hts _ w_X7_layerLine_f79) (fun _ h9 => h9) rfl dX7_layerLine_147 ?_
    refine lv_istore_n (lv' := [(3, .int M_p_9), (5, .long r_5), (0, .ref (q 0)), (1, .int v1), (4, .int v4)]) hx hb dX7_layerLine_150 rfl hl (by decide) rfl (fun ls hl => ?_)
    refine lv_aload_n hx hb dX7_layerLine_151 rfl (lv_at hl 2 rfl) ?_
    refine lv_iconst (v := (2 : Int32)) hx hb dX7_layerLine_152 (by decide) ?_
    refine lv_iconst (v := (1 : Int32)) hx hb dX7_layerLine_153 (by decide) ?_
    obtain ⟨r_12, M_p_13, M_fault_14, hc_15, hm⟩ := mb3_of hm
    refine call_vl (wc := (wdX7 q y M_thrown M_text M_size M_has M_hand M_layers M_kinds M_names M_nameSizes M_thicknesses M_spreads M_coppers M_copperAt M_presses M_pressFrom M_pressTo M_vias M_viaFrom M_viaTo M_shares M_lists M_hasRow M_rowLow M_rowHigh M_p_9 M_s M_fault_10 M_lines M_word M_wordSize M_out M_written M_secondOne)) (wr := []) (As := [.int (2 : Int32), .int (1 : Int32)]) (rest := []) C (c_X7_number l D y q _ F hc_15) (cwV 2 hts gX7_layerLine_X7_number rfl rfl rfl (by decide +kernel) ⟨Nat.le_of_ble_eq_true rfl, Nat.le_of_ble_eq_true rfl⟩) hK hP hD hS hA [0, 1, 2, 3, 4, 5, 6, 7, 8, 9, 10, 11, 12, 13, 14, 15, 16, 17, 18, 19, 20] [] rfl rfl rfl rfl rfl (by decide) rfl rfl rfl rfl hl.1 (Nat.le_of_ble_eq_true rfl) dX7_layerLine_154 (fun H locs hP hD hS => ?_)
    have hP : va_P D vwCl (wdX7 q y M_thrown M_text M_size M_has M_hand M_layers M_kinds M_names M_nameSizes M_thicknesses M_spreads M_coppers M_copperAt M_presses M_pressFrom M_pressTo M_vias M_viaFrom M_viaTo M_shares M_lists M_hasRow M_rowLow M_rowHigh M_p_13 M_s M_fault_14 M_lines M_word M_wordSize M_out M_written M_secondOne) H := hP
    have hD : va_D A (wdX7 q y M_thrown M_text M_size M_has M_hand M_layers M_kinds M_names M_nameSizes M_thicknesses M_spreads M_coppers M_copperAt M_presses M_pressFrom M_pressTo M_vias M_viaFrom M_viaTo M_shares M_lists M_hasRow M_rowLow M_rowHigh M_p_13 M_s M_fault_14 M_lines M_word M_wordSize M_out M_written M_secondOne) := hD
    refine lv_lstore (lv' := [(7, .long r_12), (3, .int M_p_9), (5, .long r_5), (0, .ref (q 0)), (1, .int v1), (4, .int v4)]) hx hb dX7_layerLine_157 hl (by decide) rfl (fun ls hl => ?_)
    refine lv_aload_n hx hb dX7_layerLine_159 rfl (lv_at hl 3 rfl) ?_
    obtain ⟨r_16, hc_17, hm⟩ := mb1_of hm
    refine call_vi (wc := (wdX7 q y M_thrown M_text M_size M_has M_hand M_layers M_kinds M_names M_nameSizes M_thicknesses M_spreads M_coppers M_copperAt M_presses M_pressFrom M_pressTo M_vias M_viaFrom M_viaTo M_shares M_lists M_hasRow M_rowLow M_rowHigh M_p_13 M_s M_fault_14 M_lines M_word M_wordSize M_out M_written M_secondOne)) (wr := []) (As := []) (rest := []) C (c_X7_good l D y q _ F hc_17) (cwV 0 hts gX7_layerLine_X7_good rfl rfl rfl (by decide +kernel) ⟨Nat.le_of_ble_eq_true rfl, Nat.le_of_ble_eq_true rfl⟩) hK hP hD hS hA [0, 1, 2, 3, 4, 5, 6, 7, 8, 9, 10, 11, 12, 13, 14, 15, 16, 17, 18, 19, 20] [] rfl rfl rfl rfl rfl (by decide) rfl rfl rfl rfl hl.1 (Nat.le_of_ble_eq_true rfl) dX7_layerLine_160 (fun H locs hP hD hS => ?_)
    have hP : va_P D vwCl (wdX7 q y M_thrown M_text M_size M_has M_hand M_layers M_kinds M_names M_nameSizes M_thicknesses M_spreads M_coppers M_copperAt M_presses M_pressFrom M_pressTo M_vias M_viaFrom M_viaTo M_shares M_lists M_hasRow M_rowLow M_rowHigh M_p_13 M_s M_fault_14 M_lines M_word M_wordSize M_out M_written M_secondOne) H := hP
    have hD : va_D A (wdX7 q y M_thrown M_text M_size M_has M_hand M_layers M_kinds M_names M_nameSizes M_thicknesses M_spreads M_coppers M_copperAt M_presses M_pressFrom M_pressTo M_vias M_viaFrom M_viaTo M_shares M_lists M_hasRow M_rowLow M_rowHigh M_p_13 M_s M_fault_14 M_lines M_word M_wordSize M_out M_written M_secondOne) := hD
    refine lv_if_eq (tgt := 180) hx hb dX7_layerLine_163 (by decide) (fun h_18 => ?_) (fun h_18 => ?_)
    · have hm := it_of hm h_18
      exact k_X7_layerLine_180 C hA hK F v1 v4 r_5 r_12 M_text M_size M_layers M_kinds M_names M_nameSizes M_thicknesses M_spreads M_coppers M_copperAt M_p_13 M_s M_fault_14 M_word M_wordSize _ _ _ hm hP hD hS (lv_sub hl [3, 4, 5, 2, 0] rfl)
    · have hm := ie_of hm h_18
      refine lv_lload hx hb dX7_layerLine_166 (lv_at hl 0 rfl) ?_
      refine lv_ldc2 (v := (500 : Int64)) hx hb hown (hts _ w_X7_layerLine_k157) dX7_layerLine_168 ?_
      refine W.lcmp hx hb dX7_layerLine_171 ?_
      refine lv_if_le (tgt := 180) hx hb dX7_layerLine_172 (by decide) (fun h_19 => ?_) (fun h_19 => ?_)
      · have hm := it_of hm h_19
        exact k_X7_layerLine_180 C hA hK F v1 v4 r_5 r_12 M_text M_size M_layers M_kinds M_names M_nameSizes M_thicknesses M_spreads M_coppers M_copperAt M_p_13 M_s M_fault_14 M_word M_wordSize _ _ _ hm hP hD hS (lv_sub hl [3, 4, 5, 2, 0] rfl)
      · have hm := ie_of hm h_19
        refine lv_aload_n hx hb dX7_layerLine_175 rfl (lv_at hl 3 rfl) ?_
        refine lv_iload_n hx hb dX7_layerLine_176 rfl (lv_at hl 1 rfl) ?_
        obtain ⟨M_fault_20, hc_21, hm⟩ := mb1_of hm
        refine call_vv (wc := (wdX7 q y M_thrown M_text M_size M_has M_hand M_layers M_kinds M_names M_nameSizes M_thicknesses M_spreads M_coppers M_copperAt M_presses M_pressFrom M_pressTo M_vias M_viaFrom M_viaTo M_shares M_lists M_hasRow M_rowLow M_rowHigh M_p_13 M_s M_fault_14 M_lines M_word M_wordSize M_out M_written M_secondOne)) (wr := []) (As := [.int M_p_9]) (rest := []) C (c_X7_fail l D y q _ F hc_21) (cwV 1 hts gX7_layerLine_X7_fail rfl rfl rfl (by decide +kernel) ⟨Nat.le_of_ble_eq_true rfl, Nat.le_of_ble_eq_true rfl⟩) hK hP hD hS hA [0, 1, 2, 3, 4, 5, 6, 7, 8, 9, 10, 11, 12, 13, 14, 15, 16, 17, 18, 19, 20] [] rfl rfl rfl rfl rfl (by decide) rfl rfl rfl rfl hl.1 (Nat.le_of_ble_eq_true rfl) dX7_layerLine_177 (fun H locs hP hD hS => ?_)
        have hP : va_P D vwCl (wdX7 q y M_thrown M_text M_size M_has M_hand M_layers M_kinds M_names M_nameSizes M_thicknesses M_spreads M_coppers M_copperAt M_presses M_pressFrom M_pressTo M_vias M_viaFrom M_viaTo M_shares M_lists M_hasRow M_rowLow M_rowHigh M_p_13 M_s M_fault_20 M_lines M_word M_wordSize M_out M_written M_secondOne) H := hP
        have hD : va_D A (wdX7 q y M_thrown M_text M_size M_has M_hand M_layers M_kinds M_names M_nameSizes M_thicknesses M_spreads M_coppers M_copperAt M_presses M_pressFrom M_pressTo M_vias M_viaFrom M_viaTo M_shares M_lists M_hasRow M_rowLow M_rowHigh M_p_13 M_s M_fault_20 M_lines M_word M_wordSize M_out M_written M_secondOne) := hD
        exact k_X7_layerLine_180 C hA hK F v1 v4 r_5 r_12 M_text M_size M_layers M_kinds M_names M_nameSizes M_thicknesses M_spreads M_coppers M_copperAt M_p_13 M_s M_fault_20 M_word M_wordSize _ _ _ hm hP hD hS (lv_sub hl [3, 4, 5, 2, 0] rfl)
set_option maxHeartbeats 4000000 in
set_option maxRecDepth 100000 in
theorem k_X7_layerLine_53 {p : Program} {l : Launch} {e : Env} {s : State} {m : MethodId} {args : Array Value} {below : List Frame} {meth : Method} {c : Code} {D : va_G} {y : Nat → ClassId} {A : Nat → Prop} {q : Nat → Nat} {M_thrown : Int32} {M_has : Int32} {M_hand : Int32} {M_presses : Nat → Int32} {M_pressFrom : Nat → Int32} {M_pressTo : Nat → Int32} {M_vias : Nat → Int32} {M_viaFrom : Nat → Int32} {M_viaTo : Nat → Int32} {M_shares : Nat → Int32} {M_lists : Int32} {M_hasRow : Nat → Int32} {M_rowLow : Nat → Int64} {M_rowHigh : Nat → Int64} {M_lines : Int32} {M_out : Nat → Int32} {M_written : Int32} {M_secondOne : Int32} {z : (Nat → Int32) × (Nat → Int32) × (Nat → Int64) × (Nat → Int32) × (Nat → Int64) × (Nat → Int32) × (Nat → Int32) × (Nat → Int32) × Int32 × Int32 × Int64 × Int32} (C : CX p s m args meth c wsX7_layerLine RX7 cX7_layerLine 9 none) (hA : ∀ q : Nat, s.heap.size ≤ q → A q) (hK : va_K D vwCl (tyl y) s) (F : Nat) :
    ∀ (v1 : Int32) (M_text : Nat → Int32) (M_size : Int32) (M_layers : Nat → Int32) (M_kinds : Nat → Int32) (M_names : Nat → Int64) (M_nameSizes : Nat → Int32) (M_thicknesses : Nat → Int64) (M_spreads : Nat → Int32) (M_coppers : Nat → Int32) (M_copperAt : Nat → Int32) (M_p : Int32) (M_s : Int32) (M_fault : Int32) (M_word : Int64) (M_wordSize : Int32) (H : Heap) (locs : List Loc) (ls : Array Slot), g_X7_layerLine_53 F v1 M_text M_size M_layers M_kinds M_names M_nameSizes M_thicknesses M_spreads M_coppers M_copperAt M_p M_s M_fault M_word M_wordSize = some z → va_P D vwCl (wdX7 q y M_thrown M_text M_size M_has M_hand M_layers M_kinds M_names M_nameSizes M_thicknesses M_spreads M_coppers M_copperAt M_presses M_pressFrom M_pressTo M_vias M_viaFrom M_viaTo M_shares M_lists M_hasRow M_rowLow M_rowHigh M_p M_s M_fault M_lines M_word M_wordSize M_out M_written M_secondOne) H → va_D A (wdX7 q y M_thrown M_text M_size M_has M_hand M_layers M_kinds M_names M_nameSizes M_thicknesses M_spreads M_coppers M_copperAt M_presses M_pressFrom M_pressTo M_vias M_viaFrom M_viaTo M_shares M_lists M_hasRow M_rowLow M_rowHigh M_p M_s M_fault M_lines M_word M_wordSize M_out M_written M_secondOne) → va_S A s.heap H locs → lv_has ls 9 [(0, .ref (q 0)), (1, .int v1)] → W p l e ({ frames := 3, cells := 0, slots := 0, locals := 73 } : Room) s m args below meth c H locs 0 0 (MQ below (QV D y A (wdX7 q y M_thrown M_text M_size M_has M_hand (z.1) (z.2.1) (z.2.2.1) (z.2.2.2.1) (z.2.2.2.2.1) (z.2.2.2.2.2.1) (z.2.2.2.2.2.2.1) (z.2.2.2.2.2.2.2.1) M_presses M_pressFrom M_pressTo M_vias M_viaFrom M_viaTo M_shares M_lists M_hasRow M_rowLow M_rowHigh (z.2.2.2.2.2.2.2.2.1) M_s (z.2.2.2.2.2.2.2.2.2.1) M_lines (z.2.2.2.2.2.2.2.2.2.2.1) (z.2.2.2.2.2.2.2.2.2.2.2) M_out M_written M_secondOne)) args s 0 0 A) (F0 m 53 ls []) := by
  obtain ⟨⟨hx, hb, hml, hown, hts⟩, hr, hlocks⟩ := id C
  intro v1 M_text M_size M_layers M_kinds M_names M_nameSizes M_thicknesses M_spreads M_coppers M_copperAt M_p M_s M_fault M_word M_wordSize H locs ls hm hP hD hS hl
  unfold g_X7_layerLine_53 at hm
  refine lv_aload_n hx hb dX7_layerLine_53 rfl (lv_at hl 0 rfl) ?_
  refine lv_aload_n hx hb dX7_layerLine_54 rfl (lv_at hl 0 rfl) ?_
  refine va_get (D := D) (ci := 7) (v := .ref (q 2)) (C := RX7) (T := TX7) (N := 33) hx hb hts n_X7_layerLine_X7 hown hK hP 0 rfl rfl 5 (by decide) (hts _ w_X7_layerLine_f13) (fun _ h9 => h9) rfl dX7_layerLine_55 ?_
  refine lv_aload_n hx hb dX7_layerLine_58 rfl (lv_at hl 0 rfl) ?_
  refine va_get (D := D) (ci := 7) (v := .int M_s) (C := RX7) (T := TX7) (N := 33) hx hb hts n_X7_layerLine_X7 hown hK hP 0 rfl rfl 25 (by decide) (hts _ w_X7_layerLine_f134) (fun _ h9 => h9) rfl dX7_layerLine_59 ?_
  obtain ⟨hg_1, hm⟩ := mg_of hm
  refine va_iald hx hb hK hP 2 0 rfl rfl hg_1 dX7_layerLine_62 ?_
  obtain ⟨r_2, hc_3, hm⟩ := mb1_of hm
  refine call_vi (wc := (wdX7 q y M_thrown M_text M_size M_has M_hand M_layers M_kinds M_names M_nameSizes M_thicknesses M_spreads M_coppers M_copperAt M_presses M_pressFrom M_pressTo M_vias M_viaFrom M_viaTo M_shares M_lists M_hasRow M_rowLow M_rowHigh M_p M_s M_fault M_lines M_word M_wordSize M_out M_written M_secondOne)) (wr := []) (As := [.int (M_layers (M_s).toNatClampNeg)]) (rest := []) C (c_X7_layerAt l D y q _ F hc_3) (cwV 1 hts gX7_layerLine_X7_layerAt rfl rfl rfl (by decide +kernel) ⟨Nat.le_of_ble_eq_true rfl, Nat.le_of_ble_eq_true rfl⟩) hK hP hD hS hA [0, 1, 2, 3, 4, 5, 6, 7, 8, 9, 10, 11, 12, 13, 14, 15, 16, 17, 18, 19, 20] [] rfl rfl rfl rfl rfl (by decide) rfl rfl rfl rfl hl.1 (Nat.le_of_ble_eq_true rfl) dX7_layerLine_63 (fun H locs hP hD hS => ?_)
  have hP : va_P D vwCl (wdX7 q y M_thrown M_text M_size M_has M_hand M_layers M_kinds M_names M_nameSizes M_thicknesses M_spreads M_coppers M_copperAt M_presses M_pressFrom M_pressTo M_vias M_viaFrom M_viaTo M_shares M_lists M_hasRow M_rowLow M_rowHigh M_p M_s M_fault M_lines M_word M_wordSize M_out M_written M_secondOne) H := hP
  have hD : va_D A (wdX7 q y M_thrown M_text M_size M_has M_hand M_layers M_kinds M_names M_nameSizes M_thicknesses M_spreads M_coppers M_copperAt M_presses M_pressFrom M_pressTo M_vias M_viaFrom M_viaTo M_shares M_lists M_hasRow M_rowLow M_rowHigh M_p M_s M_fault M_lines M_word M_wordSize M_out M_written M_secondOne) := hD
  refine lv_istore (lv' := [(4, .int r_2), (0, .ref (q 0)), (1, .int v1)]) hx hb dX7_layerLine_66 hl (by decide) rfl (fun ls hl => ?_)
  refine lv_aload_n hx hb dX7_layerLine_68 rfl (lv_at hl 1 rfl) ?_
  obtain ⟨r_4, hc_5, hm⟩ := mb1_of hm
  refine call_vi (wc := (wdX7 q y M_thrown M_text M_size M_has M_hand M_layers M_kinds M_names M_nameSizes M_thicknesses M_spreads M_coppers M_copperAt M_presses M_pressFrom M_pressTo M_vias M_viaFrom M_viaTo M_shares M_lists M_hasRow M_rowLow M_rowHigh M_p M_s M_fault M_lines M_word M_wordSize M_out M_written M_secondOne)) (wr := []) (As := []) (rest := []) C (c_X7_good l D y q _ F hc_5) (cwV 0 hts gX7_layerLine_X7_good rfl rfl rfl (by decide +kernel) ⟨Nat.le_of_ble_eq_true rfl, Nat.le_of_ble_eq_true rfl⟩) hK hP hD hS hA [0, 1, 2, 3, 4, 5, 6, 7, 8, 9, 10, 11, 12, 13, 14, 15, 16, 17, 18, 19, 20] [] rfl rfl rfl rfl rfl (by decide) rfl rfl rfl rfl hl.1 (Nat.le_of_ble_eq_true rfl) dX7_layerLine_69 (fun H locs hP hD hS => ?_)
  have hP : va_P D vwCl (wdX7 q y M_thrown M_text M_size M_has M_hand M_layers M_kinds M_names M_nameSizes M_thicknesses M_spreads M_coppers M_copperAt M_presses M_pressFrom M_pressTo M_vias M_viaFrom M_viaTo M_shares M_lists M_hasRow M_rowLow M_rowHigh M_p M_s M_fault M_lines M_word M_wordSize M_out M_written M_secondOne) H := hP
  have hD : va_D A (wdX7 q y M_thrown M_text M_size M_has M_hand M_layers M_kinds M_names M_nameSizes M_thicknesses M_spreads M_coppers M_copperAt M_presses M_pressFrom M_pressTo M_vias M_viaFrom M_viaTo M_shares M_lists M_hasRow M_rowLow M_rowHigh M_p M_s M_fault M_lines M_word M_wordSize M_out M_written M_secondOne) := hD
  refine lv_if_eq (tgt := 121) hx hb dX7_layerLine_72 (by decide) (fun h_6 => ?_) (fun h_6 => ?_)
  · have hm := it_of hm h_6
    exact k_X7_layerLine_121 C hA hK F v1 r_2 M_text M_size M_layers M_kinds M_names M_nameSizes M_thicknesses M_spreads M_coppers M_copperAt M_p M_s M_fault M_word M_wordSize _ _ _ hm hP hD hS (lv_sub hl [1, 2, 0] rfl)
  · have hm := ie_of hm h_6
    refine lv_aload_n hx hb dX7_layerLine_75 rfl (lv_at hl 1 rfl) ?_
    refine va_get (D := D) (ci := 7) (v := .ref (q 3)) (C := RX7) (T := TX7) (N := 33) hx hb hts n_X7_layerLine_X7 hown hK hP 0 rfl rfl 6 (by decide) (hts _ w_X7_layerLine_f16) (fun _ h9 => h9) rfl dX7_layerLine_76 ?_
    refine lv_iload hx hb dX7_layerLine_79 (lv_at hl 0 rfl) ?_
    refine lv_iload_n hx hb dX7_layerLine_81 rfl (lv_at hl 2 rfl) ?_
    obtain ⟨hg_7, hm⟩ := mg_of hm
    refine va_iast hx hb hK hP hD hS 3 0 rfl rfl hg_7 dX7_layerLine_82 (fun H locs hP hD hS => ?_)
    have hP : va_P D vwCl (wdX7 q y M_thrown M_text M_size M_has M_hand M_layers (upd M_kinds (r_2).toNatClampNeg v1) M_names M_nameSizes M_thicknesses M_spreads M_coppers M_copperAt M_presses M_pressFrom M_pressTo M_vias M_viaFrom M_viaTo M_shares M_lists M_hasRow M_rowLow M_rowHigh M_p M_s M_fault M_lines M_word M_wordSize M_out M_written M_secondOne) H := hP
    have hD : va_D A (wdX7 q y M_thrown M_text M_size M_has M_hand M_layers (upd M_kinds (r_2).toNatClampNeg v1) M_names M_nameSizes M_thicknesses M_spreads M_coppers M_copperAt M_presses M_pressFrom M_pressTo M_vias M_viaFrom M_viaTo M_shares M_lists M_hasRow M_rowLow M_rowHigh M_p M_s M_fault M_lines M_word M_wordSize M_out M_written M_secondOne) := hD
    refine lv_aload_n hx hb dX7_layerLine_83 rfl (lv_at hl 1 rfl) ?_
    refine va_get (D := D) (ci := 7) (v := .ref (q 4)) (C := RX7) (T := TX7) (N := 33) hx hb hts n_X7_layerLine_X7 hown hK hP 0 rfl rfl 7 (by decide) (hts _ w_X7_layerLine_f19) (fun _ h9 => h9) rfl dX7_layerLine_84 ?_
    refine lv_iload hx hb dX7_layerLine_87 (lv_at hl 0 rfl) ?_
    refine lv_aload_n hx hb dX7_layerLine_89 rfl (lv_at hl 1 rfl) ?_
    refine va_get (D := D) (ci := 7) (v := .long M_word) (C := RX7) (T := TX7) (N := 33) hx hb hts n_X7_layerLine_X7 hown hK hP 0 rfl rfl 28 (by decide) (hts _ w_X7_layerLine_f113) (fun _ h9 => h9) rfl dX7_layerLine_90 ?_
    obtain ⟨hg_8, hm⟩ := mg_of hm
    refine va_last hx hb hK hP hD hS 4 1 rfl rfl hg_8 dX7_layerLine_93 (fun H locs hP hD hS => ?_)
    have hP : va_P D vwCl (wdX7 q y M_thrown M_text M_size M_has M_hand M_layers (upd M_kinds (r_2).toNatClampNeg v1) (vp_updL M_names (r_2).toNatClampNeg M_word) M_nameSizes M_thicknesses M_spreads M_coppers M_copperAt M_presses M_pressFrom M_pressTo M_vias M_viaFrom M_viaTo M_shares M_lists M_hasRow M_rowLow M_rowHigh M_p M_s M_fault M_lines M_word M_wordSize M_out M_written M_secondOne) H := hP
    have hD : va_D A (wdX7 q y M_thrown M_text M_size M_has M_hand M_layers (upd M_kinds (r_2).toNatClampNeg v1) (vp_updL M_names (r_2).toNatClampNeg M_word) M_nameSizes M_thicknesses M_spreads M_coppers M_copperAt M_presses M_pressFrom M_pressTo M_vias M_viaFrom M_viaTo M_shares M_lists M_hasRow M_rowLow M_rowHigh M_p M_s M_fault M_lines M_word M_wordSize M_out M_written M_secondOne) := hD
    refine lv_aload_n hx hb dX7_layerLine_94 rfl (lv_at hl 1 rfl) ?_
    refine va_get (D := D) (ci := 7) (v := .ref (q 5)) (C := RX7) (T := TX7) (N := 33) hx hb hts n_X7_layerLine_X7 hown hK hP 0 rfl rfl 8 (by decide) (hts _ w_X7_layerLine_f23) (fun _ h9 => h9) rfl dX7_layerLine_95 ?_
    refine lv_iload hx hb dX7_layerLine_98 (lv_at hl 0 rfl) ?_
    refine lv_aload_n hx hb dX7_layerLine_100 rfl (lv_at hl 1 rfl) ?_
    refine va_get (D := D) (ci := 7) (v := .int M_wordSize) (C := RX7) (T := TX7) (N := 33) hx hb hts n_X7_layerLine_X7 hown hK hP 0 rfl rfl 29 (by decide) (hts _ w_X7_layerLine_f117) (fun _ h9 => h9) rfl dX7_layerLine_101 ?_
    obtain ⟨hg_9, hm⟩ := mg_of hm
    refine va_iast hx hb hK hP hD hS 5 0 rfl rfl hg_9 dX7_layerLine_104 (fun H locs hP hD hS => ?_)
    have hP : va_P D vwCl (wdX7 q y M_thrown M_text M_size M_has M_hand M_layers (upd M_kinds (r_2).toNatClampNeg v1) (vp_updL M_names (r_2).toNatClampNeg M_word) (upd M_nameSizes (r_2).toNatClampNeg M_wordSize) M_thicknesses M_spreads M_coppers M_copperAt M_presses M_pressFrom M_pressTo M_vias M_viaFrom M_viaTo M_shares M_lists M_hasRow M_rowLow M_rowHigh M_p M_s M_fault M_lines M_word M_wordSize M_out M_written M_secondOne) H := hP
    have hD : va_D A (wdX7 q y M_thrown M_text M_size M_has M_hand M_layers (upd M_kinds (r_2).toNatClampNeg v1) (vp_updL M_names (r_2).toNatClampNeg M_word) (upd M_nameSizes (r_2).toNatClampNeg M_wordSize) M_thicknesses M_spreads M_coppers M_copperAt M_presses M_pressFrom M_pressTo M_vias M_viaFrom M_viaTo M_shares M_lists M_hasRow M_rowLow M_rowHigh M_p M_s M_fault M_lines M_word M_wordSize M_out M_written M_secondOne) := hD
    refine lv_aload_n hx hb dX7_layerLine_105 rfl (lv_at hl 1 rfl) ?_
    refine va_get (D := D) (ci := 7) (v := .ref (q 6)) (C := RX7) (T := TX7) (N := 33) hx hb hts n_X7_layerLine_X7 hown hK hP 0 rfl rfl 9 (by decide) (hts _ w_X7_layerLine_f26) (fun _ h9 => h9) rfl dX7_layerLine_106 ?_
    refine lv_iload hx hb dX7_layerLine_109 (lv_at hl 0 rfl) ?_
    refine lv_lconst (v := (0 : Int64)) hx hb dX7_layerLine_111 (by decide) ?_
    obtain ⟨hg_10, hm⟩ := mg_of hm
    refine va_last hx hb hK hP hD hS 6 1 rfl rfl hg_10 dX7_layerLine_112 (fun H locs hP hD hS => ?_)
    have hP : va_P D vwCl (wdX7 q y M_thrown M_text M_size M_has M_hand M_layers (upd M_kinds (r_2).toNatClampNeg v1) (vp_updL M_names (r_2).toNatClampNeg M_word) (upd M_nameSizes (r_2).toNatClampNeg M_wordSize) (vp_updL M_thicknesses (r_2).toNatClampNeg (0 : Int64)) M_spreads M_coppers M_copperAt M_presses M_pressFrom M_pressTo M_vias M_viaFrom M_viaTo M_shares M_lists M_hasRow M_rowLow M_rowHigh M_p M_s M_fault M_lines M_word M_wordSize M_out M_written M_secondOne) H := hP
    have hD : va_D A (wdX7 q y M_thrown M_text M_size M_has M_hand M_layers (upd M_kinds (r_2).toNatClampNeg v1) (vp_updL M_names (r_2).toNatClampNeg M_word) (upd M_nameSizes (r_2).toNatClampNeg M_wordSize) (vp_updL M_thicknesses (r_2).toNatClampNeg (0 : Int64)) M_spreads M_coppers M_copperAt M_presses M_pressFrom M_pressTo M_vias M_viaFrom M_viaTo M_shares M_lists M_hasRow M_rowLow M_rowHigh M_p M_s M_fault M_lines M_word M_wordSize M_out M_written M_secondOne) := hD
    refine lv_aload_n hx hb dX7_layerLine_113 rfl (lv_at hl 1 rfl) ?_
    refine va_get (D := D) (ci := 7) (v := .ref (q 7)) (C := RX7) (T := TX7) (N := 33) hx hb hts n_X7_layerLine_X7 hown hK hP 0 rfl rfl 10 (by decide) (hts _ w_X7_layerLine_f29) (fun _ h9 => h9) rfl dX7_layerLine_114 ?_
    refine lv_iload hx hb dX7_layerLine_117 (lv_at hl 0 rfl) ?_
    refine lv_iconst (v := (0 : Int32)) hx hb dX7_layerLine_119 (by decide) ?_
    obtain ⟨hg_11, hm⟩ := mg_of hm
    refine va_iast hx hb hK hP hD hS 7 0 rfl rfl hg_11 dX7_layerLine_120 (fun H locs hP hD hS => ?_)
    have hP : va_P D vwCl (wdX7 q y M_thrown M_text M_size M_has M_hand M_layers (upd M_kinds (r_2).toNatClampNeg v1) (vp_updL M_names (r_2).toNatClampNeg M_word) (upd M_nameSizes (r_2).toNatClampNeg M_wordSize) (vp_updL M_thicknesses (r_2).toNatClampNeg (0 : Int64)) (upd M_spreads (r_2).toNatClampNeg (0 : Int32)) M_coppers M_copperAt M_presses M_pressFrom M_pressTo M_vias M_viaFrom M_viaTo M_shares M_lists M_hasRow M_rowLow M_rowHigh M_p M_s M_fault M_lines M_word M_wordSize M_out M_written M_secondOne) H := hP
    have hD : va_D A (wdX7 q y M_thrown M_text M_size M_has M_hand M_layers (upd M_kinds (r_2).toNatClampNeg v1) (vp_updL M_names (r_2).toNatClampNeg M_word) (upd M_nameSizes (r_2).toNatClampNeg M_wordSize) (vp_updL M_thicknesses (r_2).toNatClampNeg (0 : Int64)) (upd M_spreads (r_2).toNatClampNeg (0 : Int32)) M_coppers M_copperAt M_presses M_pressFrom M_pressTo M_vias M_viaFrom M_viaTo M_shares M_lists M_hasRow M_rowLow M_rowHigh M_p M_s M_fault M_lines M_word M_wordSize M_out M_written M_secondOne) := hD
    exact k_X7_layerLine_121 C hA hK F v1 r_2 M_text M_size M_layers (upd M_kinds (r_2).toNatClampNeg v1) (vp_updL M_names (r_2).toNatClampNeg M_word) (upd M_nameSizes (r_2).toNatClampNeg M_wordSize) (vp_updL M_thicknesses (r_2).toNatClampNeg (0 : Int64)) (upd M_spreads (r_2).toNatClampNeg (0 : Int32)) M_coppers M_copperAt M_p M_s M_fault M_word M_wordSize _ _ _ hm hP hD hS (lv_sub hl [1, 2, 0] rfl)
set_option maxHeartbeats 4000000 in
set_option maxRecDepth 100000 in
theorem c_X7_layerLine (l : Launch) (D : va_G) (y : Nat → ClassId) (q : Nat → Nat) (sz : Nat) (F : Nat) {v1 : Int32} {v2 : Int32} {M_thrown : Int32} {M_text : Nat → Int32} {M_size : Int32} {M_has : Int32} {M_hand : Int32} {M_layers : Nat → Int32} {M_kinds : Nat → Int32} {M_names : Nat → Int64} {M_nameSizes : Nat → Int32} {M_thicknesses : Nat → Int64} {M_spreads : Nat → Int32} {M_coppers : Nat → Int32} {M_copperAt : Nat → Int32} {M_presses : Nat → Int32} {M_pressFrom : Nat → Int32} {M_pressTo : Nat → Int32} {M_vias : Nat → Int32} {M_viaFrom : Nat → Int32} {M_viaTo : Nat → Int32} {M_shares : Nat → Int32} {M_lists : Int32} {M_hasRow : Nat → Int32} {M_rowLow : Nat → Int64} {M_rowHigh : Nat → Int64} {M_p : Int32} {M_s : Int32} {M_fault : Int32} {M_lines : Int32} {M_word : Int64} {M_wordSize : Int32} {M_out : Nat → Int32} {M_written : Int32} {M_secondOne : Int32} {z : (Nat → Int32) × (Nat → Int32) × (Nat → Int64) × (Nat → Int32) × (Nat → Int64) × (Nat → Int32) × (Nat → Int32) × (Nat → Int32) × Int32 × Int32 × Int64 × Int32} (hm : f_X7_layerLine F v1 v2 M_text M_size M_layers M_kinds M_names M_nameSizes M_thicknesses M_spreads M_coppers M_copperAt M_presses M_vias M_p M_s M_fault M_word M_wordSize = some z) : Met l yX7_layerLine wsX7_layerLine ({ frames := 3, cells := 0, slots := 0, locals := 73 } : Room) (va_Pc [.ref (q 0), .int v1, .int v2] (cP D y (wdX7 q y M_thrown M_text M_size M_has M_hand M_layers M_kinds M_names M_nameSizes M_thicknesses M_spreads M_coppers M_copperAt M_presses M_pressFrom M_pressTo M_vias M_viaFrom M_viaTo M_shares M_lists M_hasRow M_rowLow M_rowHigh M_p M_s M_fault M_lines M_word M_wordSize M_out M_written M_secondOne) sz)) (QV D y (va_A (wdX7 q y M_thrown M_text M_size M_has M_hand M_layers M_kinds M_names M_nameSizes M_thicknesses M_spreads M_coppers M_copperAt M_presses M_pressFrom M_pressTo M_vias M_viaFrom M_viaTo M_shares M_lists M_hasRow M_rowLow M_rowHigh M_p M_s M_fault M_lines M_word M_wordSize M_out M_written M_secondOne) sz) (wdX7 q y M_thrown M_text M_size M_has M_hand (z.1) (z.2.1) (z.2.2.1) (z.2.2.2.1) (z.2.2.2.2.1) (z.2.2.2.2.2.1) (z.2.2.2.2.2.2.1) (z.2.2.2.2.2.2.2.1) M_presses M_pressFrom M_pressTo M_vias M_viaFrom M_viaTo M_shares M_lists M_hasRow M_rowLow M_rowHigh (z.2.2.2.2.2.2.2.2.1) M_s (z.2.2.2.2.2.2.2.2.2.1) M_lines (z.2.2.2.2.2.2.2.2.2.2.1) (z.2.2.2.2.2.2.2.2.2.2.2) M_out M_written M_secondOne)) 0 0 (va_A (wdX7 q y M_thrown M_text M_size M_has M_hand M_layers M_kinds M_names M_nameSizes M_thicknesses M_spreads M_coppers M_copperAt M_presses M_pressFrom M_pressTo M_vias M_viaFrom M_viaTo M_shares M_lists M_hasRow M_rowLow M_rowHigh M_p M_s M_fault M_lines M_word M_wordSize M_out M_written M_secondOne) sz) := by
  refine met_of (own := RX7) (cc := cX7_layerLine) (maxL := 9) (ret := none) (by decide) rfl rfl (Nat.le_of_ble_eq_true rfl) ?_
  intro p e s m below meth c ls C hsz hK hP hD hA hS hl
  obtain ⟨⟨hx, hb, hml, hown, hts⟩, hr, hlocks⟩ := id C
  have hl : lv_has ls 9 [(0, .ref (q 0)), (1, .int v1), (2, .int v2)] := hl
  generalize va_A (wdX7 q y M_thrown M_text M_size M_has M_hand M_layers M_kinds M_names M_nameSizes M_thicknesses M_spreads M_coppers M_copperAt M_presses M_pressFrom M_pressTo M_vias M_viaFrom M_viaTo M_shares M_lists M_hasRow M_rowLow M_rowHigh M_p M_s M_fault M_lines M_word M_wordSize M_out M_written M_secondOne) sz = A at hD hA hS ⊢
  generalize ([.ref (q 0), .int v1, .int v2] : List Value).toArray = args at C hts ⊢
  unfold f_X7_layerLine at hm
  refine lv_aload_n hx hb dX7_layerLine_0 rfl (lv_at hl 0 rfl) ?_
  refine lv_iload_n hx hb dX7_layerLine_1 rfl (lv_at hl 1 rfl) ?_
  obtain ⟨r_1, hc_2, hm⟩ := mb1_of hm
  refine call_vi (wc := (wdX7 q y M_thrown M_text M_size M_has M_hand M_layers M_kinds M_names M_nameSizes M_thicknesses M_spreads M_coppers M_copperAt M_presses M_pressFrom M_pressTo M_vias M_viaFrom M_viaTo M_shares M_lists M_hasRow M_rowLow M_rowHigh M_p M_s M_fault M_lines M_word M_wordSize M_out M_written M_secondOne)) (wr := []) (As := [.int v1]) (rest := []) C (c_X7_mayStand l D y q _ F hc_2) (cwV 1 hts gX7_layerLine_X7_mayStand rfl rfl rfl (by decide +kernel) ⟨Nat.le_of_ble_eq_true rfl, Nat.le_of_ble_eq_true rfl⟩) hK hP hD hS hA [0, 1, 2, 3, 4, 5, 6, 7, 8, 9, 10, 11, 12, 13, 14, 15, 16, 17, 18, 19, 20] [] rfl rfl rfl rfl rfl (by decide) rfl rfl rfl rfl hl.1 (Nat.le_of_ble_eq_true rfl) dX7_layerLine_2 (fun H locs hP hD hS => ?_)
  have hP : va_P D vwCl (wdX7 q y M_thrown M_text M_size M_has M_hand M_layers M_kinds M_names M_nameSizes M_thicknesses M_spreads M_coppers M_copperAt M_presses M_pressFrom M_pressTo M_vias M_viaFrom M_viaTo M_shares M_lists M_hasRow M_rowLow M_rowHigh M_p M_s M_fault M_lines M_word M_wordSize M_out M_written M_secondOne) H := hP
  have hD : va_D A (wdX7 q y M_thrown M_text M_size M_has M_hand M_layers M_kinds M_names M_nameSizes M_thicknesses M_spreads M_coppers M_copperAt M_presses M_pressFrom M_pressTo M_vias M_viaFrom M_viaTo M_shares M_lists M_hasRow M_rowLow M_rowHigh M_p M_s M_fault M_lines M_word M_wordSize M_out M_written M_secondOne) := hD
  refine lv_if_ne (tgt := 14) hx hb dX7_layerLine_5 (by decide) (fun h_3 => ?_) (fun h_3 => ?_)
  · have hm := ie_of hm h_3
    refine lv_aload_n hx hb dX7_layerLine_14 rfl (lv_at hl 0 rfl) ?_
    refine lv_bipush (v := (32 : Int32)) hx hb dX7_layerLine_15 (by decide) ?_
    obtain ⟨M_p_4, M_fault_5, hc_6, hm⟩ := mb2_of hm
    refine call_vv (wc := (wdX7 q y M_thrown M_text M_size M_has M_hand M_layers M_kinds M_names M_nameSizes M_thicknesses M_spreads M_coppers M_copperAt M_presses M_pressFrom M_pressTo M_vias M_viaFrom M_viaTo M_shares M_lists M_hasRow M_rowLow M_rowHigh M_p M_s M_fault M_lines M_word M_wordSize M_out M_written M_secondOne)) (wr := []) (As := [.int (32 : Int32)]) (rest := []) C (c_X7_expect l D y q _ F hc_6) (cwV 1 hts gX7_layerLine_X7_expect rfl rfl rfl (by decide +kernel) ⟨Nat.le_of_ble_eq_true rfl, Nat.le_of_ble_eq_true rfl⟩) hK hP hD hS hA [0, 1, 2, 3, 4, 5, 6, 7, 8, 9, 10, 11, 12, 13, 14, 15, 16, 17, 18, 19, 20] [] rfl rfl rfl rfl rfl (by decide) rfl rfl rfl rfl hl.1 (Nat.le_of_ble_eq_true rfl) dX7_layerLine_17 (fun H locs hP hD hS => ?_)
    have hP : va_P D vwCl (wdX7 q y M_thrown M_text M_size M_has M_hand M_layers M_kinds M_names M_nameSizes M_thicknesses M_spreads M_coppers M_copperAt M_presses M_pressFrom M_pressTo M_vias M_viaFrom M_viaTo M_shares M_lists M_hasRow M_rowLow M_rowHigh M_p_4 M_s M_fault_5 M_lines M_word M_wordSize M_out M_written M_secondOne) H := hP
    have hD : va_D A (wdX7 q y M_thrown M_text M_size M_has M_hand M_layers M_kinds M_names M_nameSizes M_thicknesses M_spreads M_coppers M_copperAt M_presses M_pressFrom M_pressTo M_vias M_viaFrom M_viaTo M_shares M_lists M_hasRow M_rowLow M_rowHigh M_p_4 M_s M_fault_5 M_lines M_word M_wordSize M_out M_written M_secondOne) := hD
    refine lv_aload_n hx hb dX7_layerLine_20 rfl (lv_at hl 0 rfl) ?_
    refine va_get (D := D) (ci := 7) (v := .int M_p_4) (C := RX7) (T := TX7) (N := 33) hx hb hts n_X7_layerLine_X7 hown hK hP 0 rfl rfl 24 (by decide) (hts _ w_X7_layerLine_f79) (fun _ h9 => h9) rfl dX7_layerLine_21 ?_
    refine lv_istore_n (lv' := [(3, .int M_p_4), (0, .ref (q 0)), (1, .int v1), (2, .int v2)]) hx hb dX7_layerLine_24 rfl hl (by decide) rfl (fun ls hl => ?_)
    refine lv_aload_n hx hb dX7_layerLine_25 rfl (lv_at hl 1 rfl) ?_
    obtain ⟨M_p_7, M_fault_8, M_word_9, M_wordSize_10, hc_11, hm⟩ := mb4_of hm
    refine call_vv (wc := (wdX7 q y M_thrown M_text M_size M_has M_hand M_layers M_kinds M_names M_nameSizes M_thicknesses M_spreads M_coppers M_copperAt M_presses M_pressFrom M_pressTo M_vias M_viaFrom M_viaTo M_shares M_lists M_hasRow M_rowLow M_rowHigh M_p_4 M_s M_fault_5 M_lines M_word M_wordSize M_out M_written M_secondOne)) (wr := []) (As := []) (rest := []) C (c_X7_name l D y q _ F hc_11) (cwV 0 hts gX7_layerLine_X7_name rfl rfl rfl (by decide +kernel) ⟨Nat.le_of_ble_eq_true rfl, Nat.le_of_ble_eq_true rfl⟩) hK hP hD hS hA [0, 1, 2, 3, 4, 5, 6, 7, 8, 9, 10, 11, 12, 13, 14, 15, 16, 17, 18, 19, 20] [] rfl rfl rfl rfl rfl (by decide) rfl rfl rfl rfl hl.1 (Nat.le_of_ble_eq_true rfl) dX7_layerLine_26 (fun H locs hP hD hS => ?_)
    have hP : va_P D vwCl (wdX7 q y M_thrown M_text M_size M_has M_hand M_layers M_kinds M_names M_nameSizes M_thicknesses M_spreads M_coppers M_copperAt M_presses M_pressFrom M_pressTo M_vias M_viaFrom M_viaTo M_shares M_lists M_hasRow M_rowLow M_rowHigh M_p_7 M_s M_fault_8 M_lines M_word_9 M_wordSize_10 M_out M_written M_secondOne) H := hP
    have hD : va_D A (wdX7 q y M_thrown M_text M_size M_has M_hand M_layers M_kinds M_names M_nameSizes M_thicknesses M_spreads M_coppers M_copperAt M_presses M_pressFrom M_pressTo M_vias M_viaFrom M_viaTo M_shares M_lists M_hasRow M_rowLow M_rowHigh M_p_7 M_s M_fault_8 M_lines M_word_9 M_wordSize_10 M_out M_written M_secondOne) := hD
    refine lv_aload_n hx hb dX7_layerLine_29 rfl (lv_at hl 1 rfl) ?_
    obtain ⟨r_12, hc_13, hm⟩ := mb1_of hm
    refine call_vi (wc := (wdX7 q y M_thrown M_text M_size M_has M_hand M_layers M_kinds M_names M_nameSizes M_thicknesses M_spreads M_coppers M_copperAt M_presses M_pressFrom M_pressTo M_vias M_viaFrom M_viaTo M_shares M_lists M_hasRow M_rowLow M_rowHigh M_p_7 M_s M_fault_8 M_lines M_word_9 M_wordSize_10 M_out M_written M_secondOne)) (wr := []) (As := []) (rest := []) C (c_X7_good l D y q _ F hc_13) (cwV 0 hts gX7_layerLine_X7_good rfl rfl rfl (by decide +kernel) ⟨Nat.le_of_ble_eq_true rfl, Nat.le_of_ble_eq_true rfl⟩) hK hP hD hS hA [0, 1, 2, 3, 4, 5, 6, 7, 8, 9, 10, 11, 12, 13, 14, 15, 16, 17, 18, 19, 20] [] rfl rfl rfl rfl rfl (by decide) rfl rfl rfl rfl hl.1 (Nat.le_of_ble_eq_true rfl) dX7_layerLine_30 (fun H locs hP hD hS => ?_)
    have hP : va_P D vwCl (wdX7 q y M_thrown M_text M_size M_has M_hand M_layers M_kinds M_names M_nameSizes M_thicknesses M_spreads M_coppers M_copperAt M_presses M_pressFrom M_pressTo M_vias M_viaFrom M_viaTo M_shares M_lists M_hasRow M_rowLow M_rowHigh M_p_7 M_s M_fault_8 M_lines M_word_9 M_wordSize_10 M_out M_written M_secondOne) H := hP
    have hD : va_D A (wdX7 q y M_thrown M_text M_size M_has M_hand M_layers M_kinds M_names M_nameSizes M_thicknesses M_spreads M_coppers M_copperAt M_presses M_pressFrom M_pressTo M_vias M_viaFrom M_viaTo M_shares M_lists M_hasRow M_rowLow M_rowHigh M_p_7 M_s M_fault_8 M_lines M_word_9 M_wordSize_10 M_out M_written M_secondOne) := hD
    refine lv_if_eq (tgt := 53) hx hb dX7_layerLine_33 (by decide) (fun h_14 => ?_) (fun h_14 => ?_)
    · have hm := it_of hm h_14
      exact k_X7_layerLine_53 C hA hK F v1 M_text M_size M_layers M_kinds M_names M_nameSizes M_thicknesses M_spreads M_coppers M_copperAt M_p_7 M_s M_fault_8 M_word_9 M_wordSize_10 _ _ _ hm hP hD hS (lv_sub hl [1, 2] rfl)
    · have hm := ie_of hm h_14
      refine lv_iload_n hx hb dX7_layerLine_36 rfl (lv_at hl 2 rfl) ?_
      refine lv_if_ne (tgt := 53) hx hb dX7_layerLine_37 (by decide) (fun h_15 => ?_) (fun h_15 => ?_)
      · have hm := ie_of hm h_15
        exact k_X7_layerLine_53 C hA hK F v1 M_text M_size M_layers M_kinds M_names M_nameSizes M_thicknesses M_spreads M_coppers M_copperAt M_p_7 M_s M_fault_8 M_word_9 M_wordSize_10 _ _ _ hm hP hD hS (lv_sub hl [1, 2] rfl)
      · have hm := it_of hm h_15
        refine lv_aload_n hx hb dX7_layerLine_40 rfl (lv_at hl 1 rfl) ?_
        obtain ⟨r_16, hc_17, hm⟩ := mb1_of hm
        refine call_vi (wc := (wdX7 q y M_thrown M_text M_size M_has M_hand M_layers M_kinds M_names M_nameSizes M_thicknesses M_spreads M_coppers M_copperAt M_presses M_pressFrom M_pressTo M_vias M_viaFrom M_viaTo M_shares M_lists M_hasRow M_rowLow M_rowHigh M_p_7 M_s M_fault_8 M_lines M_word_9 M_wordSize_10 M_out M_written M_secondOne)) (wr := []) (As := []) (rest := []) C (c_X7_copperNamed l D y q _ F hc_17) (cwV 0 hts gX7_layerLine_X7_copperNamed rfl rfl rfl (by decide +kernel) ⟨Nat.le_of_ble_eq_true rfl, Nat.le_of_ble_eq_true rfl⟩) hK hP hD hS hA [0, 1, 2, 3, 4, 5, 6, 7, 8, 9, 10, 11, 12, 13, 14, 15, 16, 17, 18, 19, 20] [] rfl rfl rfl rfl rfl (by decide) rfl rfl rfl rfl hl.1 (Nat.le_of_ble_eq_true rfl) dX7_layerLine_41 (fun H locs hP hD hS => ?_)
        have hP : va_P D vwCl (wdX7 q y M_thrown M_text M_size M_has M_hand M_layers M_kinds M_names M_nameSizes M_thicknesses M_spreads M_coppers M_copperAt M_presses M_pressFrom M_pressTo M_vias M_viaFrom M_viaTo M_shares M_lists M_hasRow M_rowLow M_rowHigh M_p_7 M_s M_fault_8 M_lines M_word_9 M_wordSize_10 M_out M_written M_secondOne) H := hP
        have hD : va_D A (wdX7 q y M_thrown M_text M_size M_has M_hand M_layers M_kinds M_names M_nameSizes M_thicknesses M_spreads M_coppers M_copperAt M_presses M_pressFrom M_pressTo M_vias M_viaFrom M_viaTo M_shares M_lists M_hasRow M_rowLow M_rowHigh M_p_7 M_s M_fault_8 M_lines M_word_9 M_wordSize_10 M_out M_written M_secondOne) := hD
        refine lv_iconst (v := (-1 : Int32)) hx hb dX7_layerLine_44 (by decide) ?_
        refine lv_icmp_eq (tgt := 53) hx hb dX7_layerLine_45 (by decide) (fun h_18 => ?_) (fun h_18 => ?_)
        · have hm := it_of hm h_18
          exact k_X7_layerLine_53 C hA hK F v1 M_text M_size M_layers M_kinds M_names M_nameSizes M_thicknesses M_spreads M_coppers M_copperAt M_p_7 M_s M_fault_8 M_word_9 M_wordSize_10 _ _ _ hm hP hD hS (lv_sub hl [1, 2] rfl)
        · have hm := ie_of hm h_18
          refine lv_aload_n hx hb dX7_layerLine_48 rfl (lv_at hl 1 rfl) ?_
          refine lv_iload_n hx hb dX7_layerLine_49 rfl (lv_at hl 0 rfl) ?_
          obtain ⟨M_fault_19, hc_20, hm⟩ := mb1_of hm
          refine call_vv (wc := (wdX7 q y M_thrown M_text M_size M_has M_hand M_layers M_kinds M_names M_nameSizes M_thicknesses M_spreads M_coppers M_copperAt M_presses M_pressFrom M_pressTo M_vias M_viaFrom M_viaTo M_shares M_lists M_hasRow M_rowLow M_rowHigh M_p_7 M_s M_fault_8 M_lines M_word_9 M_wordSize_10 M_out M_written M_secondOne)) (wr := []) (As := [.int M_p_4]) (rest := []) C (c_X7_fail l D y q _ F hc_20) (cwV 1 hts gX7_layerLine_X7_fail rfl rfl rfl (by decide +kernel) ⟨Nat.le_of_ble_eq_true rfl, Nat.le_of_ble_eq_true rfl⟩) hK hP hD hS hA [0, 1, 2, 3, 4, 5, 6, 7, 8, 9, 10, 11, 12, 13, 14, 15, 16, 17, 18, 19, 20] [] rfl rfl rfl rfl rfl (by decide) rfl rfl rfl rfl hl.1 (Nat.le_of_ble_eq_true rfl) dX7_layerLine_50 (fun H locs hP hD hS => ?_)
          have hP : va_P D vwCl (wdX7 q y M_thrown M_text M_size M_has M_hand M_layers M_kinds M_names M_nameSizes M_thicknesses M_spreads M_coppers M_copperAt M_presses M_pressFrom M_pressTo M_vias M_viaFrom M_viaTo M_shares M_lists M_hasRow M_rowLow M_rowHigh M_p_7 M_s M_fault_19 M_lines M_word_9 M_wordSize_10 M_out M_written M_secondOne) H := hP
          have hD : va_D A (wdX7 q y M_thrown M_text M_size M_has M_hand M_layers M_kinds M_names M_nameSizes M_thicknesses M_spreads M_coppers M_copperAt M_presses M_pressFrom M_pressTo M_vias M_viaFrom M_viaTo M_shares M_lists M_hasRow M_rowLow M_rowHigh M_p_7 M_s M_fault_19 M_lines M_word_9 M_wordSize_10 M_out M_written M_secondOne) := hD
          exact k_X7_layerLine_53 C hA hK F v1 M_text M_size M_layers M_kinds M_names M_nameSizes M_thicknesses M_spreads M_coppers M_copperAt M_p_7 M_s M_fault_19 M_word_9 M_wordSize_10 _ _ _ hm hP hD hS (lv_sub hl [1, 2] rfl)
  · have hm := it_of hm h_3
    refine lv_aload_n hx hb dX7_layerLine_8 rfl (lv_at hl 0 rfl) ?_
    refine lv_iload_n hx hb dX7_layerLine_9 rfl (lv_at hl 2 rfl) ?_
    obtain ⟨M_fault_21, hc_22, hm⟩ := mb1_of hm
    refine call_vv (wc := (wdX7 q y M_thrown M_text M_size M_has M_hand M_layers M_kinds M_names M_nameSizes M_thicknesses M_spreads M_coppers M_copperAt M_presses M_pressFrom M_pressTo M_vias M_viaFrom M_viaTo M_shares M_lists M_hasRow M_rowLow M_rowHigh M_p M_s M_fault M_lines M_word M_wordSize M_out M_written M_secondOne)) (wr := []) (As := [.int v2]) (rest := []) C (c_X7_fail l D y q _ F hc_22) (cwV 1 hts gX7_layerLine_X7_fail rfl rfl rfl (by decide +kernel) ⟨Nat.le_of_ble_eq_true rfl, Nat.le_of_ble_eq_true rfl⟩) hK hP hD hS hA [0, 1, 2, 3, 4, 5, 6, 7, 8, 9, 10, 11, 12, 13, 14, 15, 16, 17, 18, 19, 20] [] rfl rfl rfl rfl rfl (by decide) rfl rfl rfl rfl hl.1 (Nat.le_of_ble_eq_true rfl) dX7_layerLine_10 (fun H locs hP hD hS => ?_)
    have hP : va_P D vwCl (wdX7 q y M_thrown M_text M_size M_has M_hand M_layers M_kinds M_names M_nameSizes M_thicknesses M_spreads M_coppers M_copperAt M_presses M_pressFrom M_pressTo M_vias M_viaFrom M_viaTo M_shares M_lists M_hasRow M_rowLow M_rowHigh M_p M_s M_fault_21 M_lines M_word M_wordSize M_out M_written M_secondOne) H := hP
    have hD : va_D A (wdX7 q y M_thrown M_text M_size M_has M_hand M_layers M_kinds M_names M_nameSizes M_thicknesses M_spreads M_coppers M_copperAt M_presses M_pressFrom M_pressTo M_vias M_viaFrom M_viaTo M_shares M_lists M_hasRow M_rowLow M_rowHigh M_p M_s M_fault_21 M_lines M_word M_wordSize M_out M_written M_secondOne) := hD
    have hz := Option.some.inj hm
    subst hz
    exact end_v C hK hP hD hS dX7_layerLine_13
def g_X7_isWhole_36 (F : Nat) (st0 : Int32) (M_coppers : Nat → Int32) (M_s : Int32) : Option (Int32) := mg (inb M_s 2) ((if (M_coppers (M_s).toNatClampNeg) ≤ (1 : Int32) then some (0 : Int32) else (if st0 = 0 then some (1 : Int32) else (if st0 = (3 : Int32) then some (1 : Int32) else some (0 : Int32)))))
def f_X7_isWhole (F : Nat) (M_layers : Nat → Int32) (M_kinds : Nat → Int32) (M_coppers : Nat → Int32) (M_s : Int32) : Option (Int32) := mg (inb M_s 2) ((if (M_layers (M_s).toNatClampNeg) = 0 then g_X7_isWhole_36 F (-1 : Int32) M_coppers M_s else mg (inb M_s 2) (mb1 (f_X7_layerAt F ((M_layers (M_s).toNatClampNeg) - (1 : Int32)) M_s) (fun r_4 => mg (inb r_4 160) (g_X7_isWhole_36 F (M_kinds (r_4).toNatClampNeg) M_coppers M_s)))))
set_option maxRecDepth 20000 in
theorem n_X7_isWhole_X7 : ∀ w ∈ wsX70, w ∈ wsX7_isWhole := by decide +kernel
set_option maxRecDepth 20000 in
theorem w_X7_isWhole_f32 : Cond.fieldLink RX7 32 "LayerStacksModel" "coppers" "[I" ∈ wsX7_isWhole := by decide +kernel
set_option maxRecDepth 20000 in
theorem w_X7_isWhole_f134 : Cond.fieldLink RX7 134 "LayerStacksModel" "s" "I" ∈ wsX7_isWhole := by decide +kernel
set_option maxRecDepth 20000 in
theorem w_X7_isWhole_f13 : Cond.fieldLink RX7 13 "LayerStacksModel" "layers" "[I" ∈ wsX7_isWhole := by decide +kernel
set_option maxRecDepth 20000 in
theorem w_X7_isWhole_f16 : Cond.fieldLink RX7 16 "LayerStacksModel" "kinds" "[I" ∈ wsX7_isWhole := by decide +kernel
set_option maxHeartbeats 4000000 in
set_option maxRecDepth 100000 in
theorem k_X7_isWhole_36 {p : Program} {l : Launch} {e : Env} {s : State} {m : MethodId} {args : Array Value} {below : List Frame} {meth : Method} {c : Code} {D : va_G} {y : Nat → ClassId} {A : Nat → Prop} {q : Nat → Nat} {M_thrown : Int32} {M_text : Nat → Int32} {M_size : Int32} {M_has : Int32} {M_hand : Int32} {M_layers : Nat → Int32} {M_kinds : Nat → Int32} {M_names : Nat → Int64} {M_nameSizes : Nat → Int32} {M_thicknesses : Nat → Int64} {M_spreads : Nat → Int32} {M_copperAt : Nat → Int32} {M_presses : Nat → Int32} {M_pressFrom : Nat → Int32} {M_pressTo : Nat → Int32} {M_vias : Nat → Int32} {M_viaFrom : Nat → Int32} {M_viaTo : Nat → Int32} {M_shares : Nat → Int32} {M_lists : Int32} {M_hasRow : Nat → Int32} {M_rowLow : Nat → Int64} {M_rowHigh : Nat → Int64} {M_p : Int32} {M_fault : Int32} {M_lines : Int32} {M_word : Int64} {M_wordSize : Int32} {M_out : Nat → Int32} {M_written : Int32} {M_secondOne : Int32} {z : Int32} (C : CX p s m args meth c wsX7_isWhole RX7 cX7_isWhole 2 (some .boolean)) (hA : ∀ q : Nat, s.heap.size ≤ q → A q) (hK : va_K D vwCl (tyl y) s) (F : Nat) :
    ∀ (st0 : Int32) (M_coppers : Nat → Int32) (M_s : Int32) (H : Heap) (locs : List Loc) (ls : Array Slot), g_X7_isWhole_36 F st0 M_coppers M_s = some z → va_P D vwCl (wdX7 q y M_thrown M_text M_size M_has M_hand M_layers M_kinds M_names M_nameSizes M_thicknesses M_spreads M_coppers M_copperAt M_presses M_pressFrom M_pressTo M_vias M_viaFrom M_viaTo M_shares M_lists M_hasRow M_rowLow M_rowHigh M_p M_s M_fault M_lines M_word M_wordSize M_out M_written M_secondOne) H → va_D A (wdX7 q y M_thrown M_text M_size M_has M_hand M_layers M_kinds M_names M_nameSizes M_thicknesses M_spreads M_coppers M_copperAt M_presses M_pressFrom M_pressTo M_vias M_viaFrom M_viaTo M_shares M_lists M_hasRow M_rowLow M_rowHigh M_p M_s M_fault M_lines M_word M_wordSize M_out M_written M_secondOne) → va_S A s.heap H locs → lv_has ls 2 [(0, .ref (q 0))] → W p l e ({ frames := 1, cells := 0, slots := 0, locals := 21 } : Room) s m args below meth c H locs 0 0 (MQ below (QI D y A (z) (wdX7 q y M_thrown M_text M_size M_has M_hand M_layers M_kinds M_names M_nameSizes M_thicknesses M_spreads M_coppers M_copperAt M_presses M_pressFrom M_pressTo M_vias M_viaFrom M_viaTo M_shares M_lists M_hasRow M_rowLow M_rowHigh M_p M_s M_fault M_lines M_word M_wordSize M_out M_written M_secondOne)) args s 0 0 A) (F0 m 36 ls [.int st0]) := by
  obtain ⟨⟨hx, hb, hml, hown, hts⟩, hr, hlocks⟩ := id C
  intro st0 M_coppers M_s H locs ls hm hP hD hS hl
  unfold g_X7_isWhole_36 at hm
  refine lv_istore_n (lv' := [(1, .int st0), (0, .ref (q 0))]) hx hb dX7_isWhole_36 rfl hl (by decide) rfl (fun ls hl => ?_)
  refine lv_aload_n hx hb dX7_isWhole_37 rfl (lv_at hl 1 rfl) ?_
  refine va_get (D := D) (ci := 7) (v := .ref (q 8)) (C := RX7) (T := TX7) (N := 33) hx hb hts n_X7_isWhole_X7 hown hK hP 0 rfl rfl 11 (by decide) (hts _ w_X7_isWhole_f32) (fun _ h9 => h9) rfl dX7_isWhole_38 ?_
  refine lv_aload_n hx hb dX7_isWhole_41 rfl (lv_at hl 1 rfl) ?_
  refine va_get (D := D) (ci := 7) (v := .int M_s) (C := RX7) (T := TX7) (N := 33) hx hb hts n_X7_isWhole_X7 hown hK hP 0 rfl rfl 25 (by decide) (hts _ w_X7_isWhole_f134) (fun _ h9 => h9) rfl dX7_isWhole_42 ?_
  obtain ⟨hg_1, hm⟩ := mg_of hm
  refine va_iald hx hb hK hP 8 0 rfl rfl hg_1 dX7_isWhole_45 ?_
  refine lv_iconst (v := (1 : Int32)) hx hb dX7_isWhole_46 (by decide) ?_
  refine lv_icmp_le (tgt := 63) hx hb dX7_isWhole_47 (by decide) (fun h_2 => ?_) (fun h_2 => ?_)
  · have hm := it_of hm h_2
    refine lv_iconst (v := (0 : Int32)) hx hb dX7_isWhole_63 (by decide) ?_
    have hz := Option.some.inj hm
    subst hz
    exact end_z C hK hP hD hS (show vp_nar .boolean (0 : Int32) = (0 : Int32) from by decide) dX7_isWhole_64
  · have hm := ie_of hm h_2
    refine lv_iload_n hx hb dX7_isWhole_50 rfl (lv_at hl 0 rfl) ?_
    refine lv_if_eq (tgt := 59) hx hb dX7_isWhole_51 (by decide) (fun h_3 => ?_) (fun h_3 => ?_)
    · have hm := it_of hm h_3
      refine lv_iconst (v := (1 : Int32)) hx hb dX7_isWhole_59 (by decide) ?_
      refine lv_goto (tgt := 64) hx hb dX7_isWhole_60 (by decide) ?_
      have hz := Option.some.inj hm
      subst hz
      exact end_z C hK hP hD hS (show vp_nar .boolean (1 : Int32) = (1 : Int32) from by decide) dX7_isWhole_64
    · have hm := ie_of hm h_3
      refine lv_iload_n hx hb dX7_isWhole_54 rfl (lv_at hl 0 rfl) ?_
      refine lv_iconst (v := (3 : Int32)) hx hb dX7_isWhole_55 (by decide) ?_
      refine lv_icmp_ne (tgt := 63) hx hb dX7_isWhole_56 (by decide) (fun h_4 => ?_) (fun h_4 => ?_)
      · have hm := ie_of hm h_4
        refine lv_iconst (v := (0 : Int32)) hx hb dX7_isWhole_63 (by decide) ?_
        have hz := Option.some.inj hm
        subst hz
        exact end_z C hK hP hD hS (show vp_nar .boolean (0 : Int32) = (0 : Int32) from by decide) dX7_isWhole_64
      · have hm := it_of hm h_4
        refine lv_iconst (v := (1 : Int32)) hx hb dX7_isWhole_59 (by decide) ?_
        refine lv_goto (tgt := 64) hx hb dX7_isWhole_60 (by decide) ?_
        have hz := Option.some.inj hm
        subst hz
        exact end_z C hK hP hD hS (show vp_nar .boolean (1 : Int32) = (1 : Int32) from by decide) dX7_isWhole_64
set_option maxHeartbeats 4000000 in
set_option maxRecDepth 100000 in
theorem c_X7_isWhole (l : Launch) (D : va_G) (y : Nat → ClassId) (q : Nat → Nat) (sz : Nat) (F : Nat) {M_thrown : Int32} {M_text : Nat → Int32} {M_size : Int32} {M_has : Int32} {M_hand : Int32} {M_layers : Nat → Int32} {M_kinds : Nat → Int32} {M_names : Nat → Int64} {M_nameSizes : Nat → Int32} {M_thicknesses : Nat → Int64} {M_spreads : Nat → Int32} {M_coppers : Nat → Int32} {M_copperAt : Nat → Int32} {M_presses : Nat → Int32} {M_pressFrom : Nat → Int32} {M_pressTo : Nat → Int32} {M_vias : Nat → Int32} {M_viaFrom : Nat → Int32} {M_viaTo : Nat → Int32} {M_shares : Nat → Int32} {M_lists : Int32} {M_hasRow : Nat → Int32} {M_rowLow : Nat → Int64} {M_rowHigh : Nat → Int64} {M_p : Int32} {M_s : Int32} {M_fault : Int32} {M_lines : Int32} {M_word : Int64} {M_wordSize : Int32} {M_out : Nat → Int32} {M_written : Int32} {M_secondOne : Int32} {z : Int32} (hm : f_X7_isWhole F M_layers M_kinds M_coppers M_s = some z) : Met l yX7_isWhole wsX7_isWhole ({ frames := 1, cells := 0, slots := 0, locals := 21 } : Room) (va_Pc [.ref (q 0)] (cP D y (wdX7 q y M_thrown M_text M_size M_has M_hand M_layers M_kinds M_names M_nameSizes M_thicknesses M_spreads M_coppers M_copperAt M_presses M_pressFrom M_pressTo M_vias M_viaFrom M_viaTo M_shares M_lists M_hasRow M_rowLow M_rowHigh M_p M_s M_fault M_lines M_word M_wordSize M_out M_written M_secondOne) sz)) (QI D y (va_A (wdX7 q y M_thrown M_text M_size M_has M_hand M_layers M_kinds M_names M_nameSizes M_thicknesses M_spreads M_coppers M_copperAt M_presses M_pressFrom M_pressTo M_vias M_viaFrom M_viaTo M_shares M_lists M_hasRow M_rowLow M_rowHigh M_p M_s M_fault M_lines M_word M_wordSize M_out M_written M_secondOne) sz) (z) (wdX7 q y M_thrown M_text M_size M_has M_hand M_layers M_kinds M_names M_nameSizes M_thicknesses M_spreads M_coppers M_copperAt M_presses M_pressFrom M_pressTo M_vias M_viaFrom M_viaTo M_shares M_lists M_hasRow M_rowLow M_rowHigh M_p M_s M_fault M_lines M_word M_wordSize M_out M_written M_secondOne)) 0 0 (va_A (wdX7 q y M_thrown M_text M_size M_has M_hand M_layers M_kinds M_names M_nameSizes M_thicknesses M_spreads M_coppers M_copperAt M_presses M_pressFrom M_pressTo M_vias M_viaFrom M_viaTo M_shares M_lists M_hasRow M_rowLow M_rowHigh M_p M_s M_fault M_lines M_word M_wordSize M_out M_written M_secondOne) sz) := by
  refine met_of (own := RX7) (cc := cX7_isWhole) (maxL := 2) (ret := (some .boolean)) (by decide) rfl rfl (Nat.le_of_ble_eq_true rfl) ?_
  intro p e s m below meth c ls C hsz hK hP hD hA hS hl
  obtain ⟨⟨hx, hb, hml, hown, hts⟩, hr, hlocks⟩ := id C
  have hl : lv_has ls 2 [(0, .ref (q 0))] := hl
  generalize va_A (wdX7 q y M_thrown M_text M_size M_has M_hand M_layers M_kinds M_names M_nameSizes M_thicknesses M_spreads M_coppers M_copperAt M_presses M_pressFrom M_pressTo M_vias M_viaFrom M_viaTo M_shares M_lists M_hasRow M_rowLow M_rowHigh M_p M_s M_fault M_lines M_word M_wordSize M_out M_written M_secondOne) sz = A at hD hA hS ⊢
  generalize ([.ref (q 0)] : List Value).toArray = args at C hts ⊢
  unfold f_X7_isWhole at hm
  refine lv_aload_n hx hb dX7_isWhole_0 rfl (lv_at hl 0 rfl) ?_
  refine va_get (D := D) (ci := 7) (v := .ref (q 2)) (C := RX7) (T := TX7) (N := 33) hx hb hts n_X7_isWhole_X7 hown hK hP 0 rfl rfl 5 (by decide) (hts _ w_X7_isWhole_f13) (fun _ h9 => h9) rfl dX7_isWhole_1 ?_
  refine lv_aload_n hx hb dX7_isWhole_4 rfl (lv_at hl 0 rfl) ?_
  refine va_get (D := D) (ci := 7) (v := .int M_s) (C := RX7) (T := TX7) (N := 33) hx hb hts n_X7_isWhole_X7 hown hK hP 0 rfl rfl 25 (by decide) (hts _ w_X7_isWhole_f134) (fun _ h9 => h9) rfl dX7_isWhole_5 ?_
  obtain ⟨hg_1, hm⟩ := mg_of hm
  refine va_iald hx hb hK hP 2 0 rfl rfl hg_1 dX7_isWhole_8 ?_
  refine lv_if_ne (tgt := 16) hx hb dX7_isWhole_9 (by decide) (fun h_2 => ?_) (fun h_2 => ?_)
  · have hm := ie_of hm h_2
    refine lv_aload_n hx hb dX7_isWhole_16 rfl (lv_at hl 0 rfl) ?_
    refine va_get (D := D) (ci := 7) (v := .ref (q 3)) (C := RX7) (T := TX7) (N := 33) hx hb hts n_X7_isWhole_X7 hown hK hP 0 rfl rfl 6 (by decide) (hts _ w_X7_isWhole_f16) (fun _ h9 => h9) rfl dX7_isWhole_17 ?_
    refine lv_aload_n hx hb dX7_isWhole_20 rfl (lv_at hl 0 rfl) ?_
    refine lv_aload_n hx hb dX7_isWhole_21 rfl (lv_at hl 0 rfl) ?_
    refine va_get (D := D) (ci := 7) (v := .ref (q 2)) (C := RX7) (T := TX7) (N := 33) hx hb hts n_X7_isWhole_X7 hown hK hP 0 rfl rfl 5 (by decide) (hts _ w_X7_isWhole_f13) (fun _ h9 => h9) rfl dX7_isWhole_22 ?_
    refine lv_aload_n hx hb dX7_isWhole_25 rfl (lv_at hl 0 rfl) ?_
    refine va_get (D := D) (ci := 7) (v := .int M_s) (C := RX7) (T := TX7) (N := 33) hx hb hts n_X7_isWhole_X7 hown hK hP 0 rfl rfl 25 (by decide) (hts _ w_X7_isWhole_f134) (fun _ h9 => h9) rfl dX7_isWhole_26 ?_
    obtain ⟨hg_3, hm⟩ := mg_of hm
    refine va_iald hx hb hK hP 2 0 rfl rfl hg_3 dX7_isWhole_29 ?_
    refine lv_iconst (v := (1 : Int32)) hx hb dX7_isWhole_30 (by decide) ?_
    refine lv_isub hx hb dX7_isWhole_31 ?_
    obtain ⟨r_4, hc_5, hm⟩ := mb1_of hm
    refine call_vi (wc := (wdX7 q y M_thrown M_text M_size M_has M_hand M_layers M_kinds M_names M_nameSizes M_thicknesses M_spreads M_coppers M_copperAt M_presses M_pressFrom M_pressTo M_vias M_viaFrom M_viaTo M_shares M_lists M_hasRow M_rowLow M_rowHigh M_p M_s M_fault M_lines M_word M_wordSize M_out M_written M_secondOne)) (wr := []) (As := [.int ((M_layers (M_s).toNatClampNeg) - (1 : Int32))]) (rest := [.ref (q 3)]) C (c_X7_layerAt l D y q _ F hc_5) (cwV 1 hts gX7_isWhole_X7_layerAt rfl rfl rfl (by decide +kernel) ⟨Nat.le_of_ble_eq_true rfl, Nat.le_of_ble_eq_true rfl⟩) hK hP hD hS hA [0, 1, 2, 3, 4, 5, 6, 7, 8, 9, 10, 11, 12, 13, 14, 15, 16, 17, 18, 19, 20] [] rfl rfl rfl rfl rfl (by decide) rfl rfl rfl rfl hl.1 (Nat.le_of_ble_eq_true rfl) dX7_isWhole_32 (fun H locs hP hD hS => ?_)
    have hP : va_P D vwCl (wdX7 q y M_thrown M_text M_size M_has M_hand M_layers M_kinds M_names M_nameSizes M_thicknesses M_spreads M_coppers M_copperAt M_presses M_pressFrom M_pressTo M_vias M_viaFrom M_viaTo M_shares M_lists M_hasRow M_rowLow M_rowHigh M_p M_s M_fault M_lines M_word M_wordSize M_out M_written M_secondOne) H := hP
    have hD : va_D A (wdX7 q y M_thrown M_text M_size M_has M_hand M_layers M_kinds M_names M_nameSizes M_thicknesses M_spreads M_coppers M_copperAt M_presses M_pressFrom M_pressTo M_vias M_viaFrom M_viaTo M_shares M_lists M_hasRow M_rowLow M_rowHigh M_p M_s M_fault M_lines M_word M_wordSize M_out M_written M_secondOne) := hD
    obtain ⟨hg_6, hm⟩ := mg_of hm
    refine va_iald hx hb hK hP 3 0 rfl rfl hg_6 dX7_isWhole_35 ?_
    exact k_X7_isWhole_36 C hA hK F (M_kinds (r_4).toNatClampNeg) M_coppers M_s _ _ _ hm hP hD hS (lv_sub hl [0] rfl)
  · have hm := it_of hm h_2
    refine lv_iconst (v := (-1 : Int32)) hx hb dX7_isWhole_12 (by decide) ?_
    refine lv_goto (tgt := 36) hx hb dX7_isWhole_13 (by decide) ?_
    exact k_X7_isWhole_36 C hA hK F (-1 : Int32) M_coppers M_s _ _ _ hm hP hD hS (lv_sub hl [0] rfl)
def g_X7_twoNames_72 (F : Nat) (v1 : Int32) (v2 : Int32) (st1 : Int32) (M_p : Int32) (M_fault : Int32) (M_word : Int64) (M_wordSize : Int32) (M_secondOne : Int32) : Option (Int32 × Int32 × Int32 × Int64 × Int32 × Int32) := mb1 (f_X7_good F M_fault) (fun r_1 => (if r_1 = 0 then some (v2, M_p, M_fault, M_word, M_wordSize, st1) else (if st1 = (-1 : Int32) then mb1 (f_X7_fail F v1 M_fault) (fun M_fault_5 => some (v2, M_p, M_fault_5, M_word, M_wordSize, st1)) else (if v2 < st1 then some (v2, M_p, M_fault, M_word, M_wordSize, st1) else mb1 (f_X7_fail F v1 M_fault) (fun M_fault_8 => some (v2, M_p, M_fault_8, M_word, M_wordSize, st1))))))
def g_X7_twoNames_41 (F : Nat) (v2 : Int32) (M_text : Nat → Int32) (M_size : Int32) (M_names : Nat → Int64) (M_nameSizes : Nat → Int32) (M_coppers : Nat → Int32) (M_copperAt : Nat → Int32) (M_p : Int32) (M_s : Int32) (M_fault : Int32) (M_word : Int64) (M_wordSize : Int32) (M_secondOne : Int32) : Option (Int32 × Int32 × Int32 × Int64 × Int32 × Int32) := mb2 (f_X7_expect F (32 : Int32) M_text M_size M_p M_fault) (fun M_p_1 M_fault_2 => mb4 (f_X7_name F M_text M_size M_p_1 M_fault_2 M_word M_wordSize) (fun M_p_4 M_fault_5 M_word_6 M_wordSize_7 => mb1 (f_X7_good F M_fault_5) (fun r_9 => (if r_9 = 0 then g_X7_twoNames_72 F M_p_1 v2 (0 : Int32) M_p_4 M_fault_5 M_word_6 M_wordSize_7 M_secondOne else mb1 (f_X7_copperNamed F M_names M_nameSizes M_coppers M_copperAt M_s M_word_6 M_wordSize_7) (fun r_12 => g_X7_twoNames_72 F M_p_1 v2 r_12 M_p_4 M_fault_5 M_word_6 M_wordSize_7 M_secondOne)))))
def f_X7_twoNames (F : Nat) (M_text : Nat → Int32) (M_size : Int32) (M_names : Nat → Int64) (M_nameSizes : Nat → Int32) (M_coppers : Nat → Int32) (M_copperAt : Nat → Int32) (M_p : Int32) (M_s : Int32) (M_fault : Int32) (M_word : Int64) (M_wordSize : Int32) (M_secondOne : Int32) : Option (Int32 × Int32 × Int32 × Int64 × Int32 × Int32) := mb2 (f_X7_expect F (32 : Int32) M_text M_size M_p M_fault) (fun M_p_1 M_fault_2 => mb4 (f_X7_name F M_text M_size M_p_1 M_fault_2 M_word M_wordSize) (fun M_p_4 M_fault_5 M_word_6 M_wordSize_7 => mb1 (f_X7_good F M_fault_5) (fun r_9 => (if r_9 = 0 then g_X7_twoNames_41 F (0 : Int32) M_text M_size M_names M_nameSizes M_coppers M_copperAt M_p_4 M_s M_fault_5 M_word_6 M_wordSize_7 M_secondOne else mb1 (f_X7_copperNamed F M_names M_nameSizes M_coppers M_copperAt M_s M_word_6 M_wordSize_7) (fun r_12 => (if r_12 = (-1 : Int32) then mb1 (f_X7_fail F M_p_1 M_fault_5) (fun M_fault_15 => g_X7_twoNames_41 F r_12 M_text M_size M_names M_nameSizes M_coppers M_copperAt M_p_4 M_s M_fault_15 M_word_6 M_wordSize_7 M_secondOne) else g_X7_twoNames_41 F r_12 M_text M_size M_names M_nameSizes M_coppers M_copperAt M_p_4 M_s M_fault_5 M_word_6 M_wordSize_7 M_secondOne))))))
set_option maxRecDepth 20000 in
theorem n_X7_twoNames_X7 : ∀ w ∈ wsX70, w ∈ wsX7_twoNames := by decide +kernel
set_option maxRecDepth 20000 in
theorem w_X7_twoNames_f79 : Cond.fieldLink RX7 79 "LayerStacksModel" "p" "I" ∈ wsX7_twoNames := by decide +kernel
set_option maxRecDepth 20000 in
theorem w_X7_twoNames_f159 : Cond.fieldLink RX7 159 "LayerStacksModel" "secondOne" "I" ∈ wsX7_twoNames := by decide +kernel
set_option maxHeartbeats 4000000 in
set_option maxRecDepth 100000 in
theorem k_X7_twoNames_72 {p : Program} {l : Launch} {e : Env} {s : State} {m : MethodId} {args : Array Value} {below : List Frame} {meth : Method} {c : Code} {D : va_G} {y : Nat → ClassId} {A : Nat → Prop} {q : Nat → Nat} {M_thrown : Int32} {M_text : Nat → Int32} {M_size : Int32} {M_has : Int32} {M_hand : Int32} {M_layers : Nat → Int32} {M_kinds : Nat → Int32} {M_names : Nat → Int64} {M_nameSizes : Nat → Int32} {M_thicknesses : Nat → Int64} {M_spreads : Nat → Int32} {M_coppers : Nat → Int32} {M_copperAt : Nat → Int32} {M_presses : Nat → Int32} {M_pressFrom : Nat → Int32} {M_pressTo : Nat → Int32} {M_vias : Nat → Int32} {M_viaFrom : Nat → Int32} {M_viaTo : Nat → Int32} {M_shares : Nat → Int32} {M_lists : Int32} {M_hasRow : Nat → Int32} {M_rowLow : Nat → Int64} {M_rowHigh : Nat → Int64} {M_s : Int32} {M_lines : Int32} {M_out : Nat → Int32} {M_written : Int32} {z : Int32 × Int32 × Int32 × Int64 × Int32 × Int32} (C : CX p s m args meth c wsX7_twoNames RX7 cX7_twoNames 3 (some .int)) (hA : ∀ q : Nat, s.heap.size ≤ q → A q) (hK : va_K D vwCl (tyl y) s) (F : Nat) :
    ∀ (v1 : Int32) (v2 : Int32) (st1 : Int32) (M_p : Int32) (M_fault : Int32) (M_word : Int64) (M_wordSize : Int32) (M_secondOne : Int32) (H : Heap) (locs : List Loc) (ls : Array Slot), g_X7_twoNames_72 F v1 v2 st1 M_p M_fault M_word M_wordSize M_secondOne = some z → va_P D vwCl (wdX7 q y M_thrown M_text M_size M_has M_hand M_layers M_kinds M_names M_nameSizes M_thicknesses M_spreads M_coppers M_copperAt M_presses M_pressFrom M_pressTo M_vias M_viaFrom M_viaTo M_shares M_lists M_hasRow M_rowLow M_rowHigh M_p M_s M_fault M_lines M_word M_wordSize M_out M_written M_secondOne) H → va_D A (wdX7 q y M_thrown M_text M_size M_has M_hand M_layers M_kinds M_names M_nameSizes M_thicknesses M_spreads M_coppers M_copperAt M_presses M_pressFrom M_pressTo M_vias M_viaFrom M_viaTo M_shares M_lists M_hasRow M_rowLow M_rowHigh M_p M_s M_fault M_lines M_word M_wordSize M_out M_written M_secondOne) → va_S A s.heap H locs → lv_has ls 3 [(0, .ref (q 0)), (1, .int v1), (2, .int v2)] → W p l e ({ frames := 2, cells := 0, slots := 0, locals := 43 } : Room) s m args below meth c H locs 0 0 (MQ below (QI D y A (z.1) (wdX7 q y M_thrown M_text M_size M_has M_hand M_layers M_kinds M_names M_nameSizes M_thicknesses M_spreads M_coppers M_copperAt M_presses M_pressFrom M_pressTo M_vias M_viaFrom M_viaTo M_shares M_lists M_hasRow M_rowLow M_rowHigh (z.2.1) M_s (z.2.2.1) M_lines (z.2.2.2.1) (z.2.2.2.2.1) M_out M_written (z.2.2.2.2.2))) args s 0 0 A) (F0 m 72 ls [.int st1, .ref (q 0)]) := by
  obtain ⟨⟨hx, hb, hml, hown, hts⟩, hr, hlocks⟩ := id C
  intro v1 v2 st1 M_p M_fault M_word M_wordSize M_secondOne H locs ls hm hP hD hS hl
  unfold g_X7_twoNames_72 at hm
  refine va_put (D := D) (ci := 7) (v := .int st1) (ty := .int) (C := RX7) (T := TX7) (N := 33) hx hb hts n_X7_twoNames_X7 tyX7 tyX7_ok nmX7 hown hK hP hD hS 0 rfl rfl 32 (by decide) (hts _ w_X7_twoNames_f159) (fun _ h9 => h9) rfl (by decide +kernel) rfl rfl (Nat.le_of_ble_eq_true rfl) dX7_twoNames_72 (fun H locs hP hD hS => ?_)
  have hP : va_P D vwCl (wdX7 q y M_thrown M_text M_size M_has M_hand M_layers M_kinds M_names M_nameSizes M_thicknesses M_spreads M_coppers M_copperAt M_presses M_pressFrom M_pressTo M_vias M_viaFrom M_viaTo M_shares M_lists M_hasRow M_rowLow M_rowHigh M_p M_s M_fault M_lines M_word M_wordSize M_out M_written st1) H := hP
  have hD : va_D A (wdX7 q y M_thrown M_text M_size M_has M_hand M_layers M_kinds M_names M_nameSizes M_thicknesses M_spreads M_coppers M_copperAt M_presses M_pressFrom M_pressTo M_vias M_viaFrom M_viaTo M_shares M_lists M_hasRow M_rowLow M_rowHigh M_p M_s M_fault M_lines M_word M_wordSize M_out M_written st1) := hD
  refine lv_aload_n hx hb dX7_twoNames_75 rfl (lv_at hl 0 rfl) ?_
  obtain ⟨r_1, hc_2, hm⟩ := mb1_of hm
  refine call_vi (wc := (wdX7 q y M_thrown M_text M_size M_has M_hand M_layers M_kinds M_names M_nameSizes M_thicknesses M_spreads M_coppers M_copperAt M_presses M_pressFrom M_pressTo M_vias M_viaFrom M_viaTo M_shares M_lists M_hasRow M_rowLow M_rowHigh M_p M_s M_fault M_lines M_word M_wordSize M_out M_written st1)) (wr := []) (As := []) (rest := []) C (c_X7_good l D y q _ F hc_2) (cwV 0 hts gX7_twoNames_X7_good rfl rfl rfl (by decide +kernel) ⟨Nat.le_of_ble_eq_true rfl, Nat.le_of_ble_eq_true rfl⟩) hK hP hD hS hA [0, 1, 2, 3, 4, 5, 6, 7, 8, 9, 10, 11, 12, 13, 14, 15, 16, 17, 18, 19, 20] [] rfl rfl rfl rfl rfl (by decide) rfl rfl rfl rfl hl.1 (Nat.le_of_ble_eq_true rfl) dX7_twoNames_76 (fun H locs hP hD hS => ?_)
  have hP : va_P D vwCl (wdX7 q y M_thrown M_text M_size M_has M_hand M_layers M_kinds M_names M_nameSizes M_thicknesses M_spreads M_coppers M_copperAt M_presses M_pressFrom M_pressTo M_vias M_viaFrom M_viaTo M_shares M_lists M_hasRow M_rowLow M_rowHigh M_p M_s M_fault M_lines M_word M_wordSize M_out M_written st1) H := hP
  have hD : va_D A (wdX7 q y M_thrown M_text M_size M_has M_hand M_layers M_kinds M_names M_nameSizes M_thicknesses M_spreads M_coppers M_copperAt M_presses M_pressFrom M_pressTo M_vias M_viaFrom M_viaTo M_shares M_lists M_hasRow M_rowLow M_rowHigh M_p M_s M_fault M_lines M_word M_wordSize M_out M_written st1) := hD
  refine lv_if_eq (tgt := 103) hx hb dX7_twoNames_79 (by decide) (fun h_3 => ?_) (fun h_3 => ?_)
  · have hm := it_of hm h_3
    refine lv_iload_n hx hb dX7_twoNames_103 rfl (lv_at hl 2 rfl) ?_
    have hz := Option.some.inj hm
    subst hz
    exact end_i C hK hP hD hS dX7_twoNames_104
  · have hm := ie_of hm h_3
    refine lv_aload_n hx hb dX7_twoNames_82 rfl (lv_at hl 0 rfl) ?_
    refine va_get (D := D) (ci := 7) (v := .int st1) (C := RX7) (T := TX7) (N := 33) hx hb hts n_X7_twoNames_X7 hown hK hP 0 rfl rfl 32 (by decide) (hts _ w_X7_twoNames_f159) (fun _ h9 => h9) rfl dX7_twoNames_83 ?_
    refine lv_iconst (v := (-1 : Int32)) hx hb dX7_twoNames_86 (by decide) ?_
    refine lv_icmp_eq (tgt := 98) hx hb dX7_twoNames_87 (by decide) (fun h_4 => ?_) (fun h_4 => ?_)
    · have hm := it_of hm h_4
      refine lv_aload_n hx hb dX7_twoNames_98 rfl (lv_at hl 0 rfl) ?_
      refine lv_iload_n hx hb dX7_twoNames_99 rfl (lv_at hl 1 rfl) ?_
      obtain ⟨M_fault_5, hc_6, hm⟩ := mb1_of hm
      refine call_vv (wc := (wdX7 q y M_thrown M_text M_size M_has M_hand M_layers M_kinds M_names M_nameSizes M_thicknesses M_spreads M_coppers M_copperAt M_presses M_pressFrom M_pressTo M_vias M_viaFrom M_viaTo M_shares M_lists M_hasRow M_rowLow M_rowHigh M_p M_s M_fault M_lines M_word M_wordSize M_out M_written st1)) (wr := []) (As := [.int v1]) (rest := []) C (c_X7_fail l D y q _ F hc_6) (cwV 1 hts gX7_twoNames_X7_fail rfl rfl rfl (by decide +kernel) ⟨Nat.le_of_ble_eq_true rfl, Nat.le_of_ble_eq_true rfl⟩) hK hP hD hS hA [0, 1, 2, 3, 4, 5, 6, 7, 8, 9, 10, 11, 12, 13, 14, 15, 16, 17, 18, 19, 20] [] rfl rfl rfl rfl rfl (by decide) rfl rfl rfl rfl hl.1 (Nat.le_of_ble_eq_true rfl) dX7_twoNames_100 (fun H locs hP hD hS => ?_)
      have hP : va_P D vwCl (wdX7 q y M_thrown M_text M_size M_has M_hand M_layers M_kinds M_names M_nameSizes M_thicknesses M_spreads M_coppers M_copperAt M_presses M_pressFrom M_pressTo M_vias M_viaFrom M_viaTo M_shares M_lists M_hasRow M_rowLow M_rowHigh M_p M_s M_fault_5 M_lines M_word M_wordSize M_out M_written st1) H := hP
      have hD : va_D A (wdX7 q y M_thrown M_text M_size M_has M_hand M_layers M_kinds M_names M_nameSizes M_thicknesses M_spreads M_coppers M_copperAt M_presses M_pressFrom M_pressTo M_vias M_viaFrom M_viaTo M_shares M_lists M_hasRow M_rowLow M_rowHigh M_p M_s M_fault_5 M_lines M_word M_wordSize M_out M_written st1) := hD
      refine lv_iload_n hx hb dX7_twoNames_103 rfl (lv_at hl 2 rfl) ?_
      have hz := Option.some.inj hm
      subst hz
      exact end_i C hK hP hD hS dX7_twoNames_104
    · have hm := ie_of hm h_4
      refine lv_aload_n hx hb dX7_twoNames_90 rfl (lv_at hl 0 rfl) ?_
      refine va_get (D := D) (ci := 7) (v := .int st1) (C := RX7) (T := TX7) (N := 33) hx hb hts n_X7_twoNames_X7 hown hK hP 0 rfl rfl 32 (by decide) (hts _ w_X7_twoNames_f159) (fun _ h9 => h9) rfl dX7_twoNames_91 ?_
      refine lv_iload_n hx hb dX7_twoNames_94 rfl (lv_at hl 2 rfl) ?_
      refine lv_icmp_gt (tgt := 103) hx hb dX7_twoNames_95 (by decide) (fun h_7 => ?_) (fun h_7 => ?_)
      · have hm := it_of hm h_7
        refine lv_iload_n hx hb dX7_twoNames_103 rfl (lv_at hl 2 rfl) ?_
        have hz := Option.some.inj hm
        subst hz
        exact end_i C hK hP hD hS dX7_twoNames_104
      · have hm := ie_of hm h_7
        refine lv_aload_n hx hb dX7_twoNames_98 rfl (lv_at hl 0 rfl) ?_
        refine lv_iload_n hx hb dX7_twoNames_99 rfl (lv_at hl 1 rfl) ?_
        obtain ⟨M_fault_8, hc_9, hm⟩ := mb1_of hm
        refine call_vv (wc := (wdX7 q y M_thrown M_text M_size M_has M_hand M_layers M_kinds M_names M_nameSizes M_thicknesses M_spreads M_coppers M_copperAt M_presses M_pressFrom M_pressTo M_vias M_viaFrom M_viaTo M_shares M_lists M_hasRow M_rowLow M_rowHigh M_p M_s M_fault M_lines M_word M_wordSize M_out M_written st1)) (wr := []) (As := [.int v1]) (rest := []) C (c_X7_fail l D y q _ F hc_9) (cwV 1 hts gX7_twoNames_X7_fail rfl rfl rfl (by decide +kernel) ⟨Nat.le_of_ble_eq_true rfl, Nat.le_of_ble_eq_true rfl⟩) hK hP hD hS hA [0, 1, 2, 3, 4, 5, 6, 7, 8, 9, 10, 11, 12, 13, 14, 15, 16, 17, 18, 19, 20] [] rfl rfl rfl rfl rfl (by decide) rfl rfl rfl rfl hl.1 (Nat.le_of_ble_eq_true rfl) dX7_twoNames_100 (fun H locs hP hD hS => ?_)
        have hP : va_P D vwCl (wdX7 q y M_thrown M_text M_size M_has M_hand M_layers M_kinds M_names M_nameSizes M_thicknesses M_spreads M_coppers M_copperAt M_presses M_pressFrom M_pressTo M_vias M_viaFrom M_viaTo M_shares M_lists M_hasRow M_rowLow M_rowHigh M_p M_s M_fault_8 M_lines M_word M_wordSize M_out M_written st1) H := hP
        have hD : va_D A (wdX7 q y M_thrown M_text M_size M_has M_hand M_layers M_kinds M_names M_nameSizes M_thicknesses M_spreads M_coppers M_copperAt M_presses M_pressFrom M_pressTo M_vias M_viaFrom M_viaTo M_shares M_lists M_hasRow M_rowLow M_rowHigh M_p M_s M_fault_8 M_lines M_word M_wordSize M_out M_written st1) := hD
        refine lv_iload_n hx hb dX7_twoNames_103 rfl (lv_at hl 2 rfl) ?_
        have hz := Option.some.inj hm
        subst hz
        exact end_i C hK hP hD hS dX7_twoNames_104
set_option maxHeartbeats 4000000 in
set_option maxRecDepth 100000 in
theorem k_X7_twoNames_41 {p : Program} {l : Launch} {e : Env} {s : State} {m : MethodId} {args : Array Value} {below : List Frame} {meth : Method} {c : Code} {D : va_G} {y : Nat → ClassId} {A : Nat → Prop} {q : Nat → Nat} {M_thrown : Int32} {M_has : Int32} {M_hand : Int32} {M_layers : Nat → Int32} {M_kinds : Nat → Int32} {M_thicknesses : Nat → Int64} {M_spreads : Nat → Int32} {M_presses : Nat → Int32} {M_pressFrom : Nat → Int32} {M_pressTo : Nat → Int32} {M_vias : Nat → Int32} {M_viaFrom : Nat → Int32} {M_viaTo : Nat → Int32} {M_shares : Nat → Int32} {M_lists : Int32} {M_hasRow : Nat → Int32} {M_rowLow : Nat → Int64} {M_rowHigh : Nat → Int64} {M_lines : Int32} {M_out : Nat → Int32} {M_written : Int32} {z : Int32 × Int32 × Int32 × Int64 × Int32 × Int32} (C : CX p s m args meth c wsX7_twoNames RX7 cX7_twoNames 3 (some .int)) (hA : ∀ q : Nat, s.heap.size ≤ q → A q) (hK : va_K D vwCl (tyl y) s) (F : Nat) :
    ∀ (v2 : Int32) (M_text : Nat → Int32) (M_size : Int32) (M_names : Nat → Int64) (M_nameSizes : Nat → Int32) (M_coppers : Nat → Int32) (M_copperAt : Nat → Int32) (M_p : Int32) (M_s : Int32) (M_fault : Int32) (M_word : Int64) (M_wordSize : Int32) (M_secondOne : Int32) (H : Heap) (locs : List Loc) (ls : Array Slot), g_X7_twoNames_41 F v2 M_text M_size M_names M_nameSizes M_coppers M_copperAt M_p M_s M_fault M_word M_wordSize M_secondOne = some z → va_P D vwCl (wdX7 q y M_thrown M_text M_size M_has M_hand M_layers M_kinds M_names M_nameSizes M_thicknesses M_spreads M_coppers M_copperAt M_presses M_pressFrom M_pressTo M_vias M_viaFrom M_viaTo M_shares M_lists M_hasRow M_rowLow M_rowHigh M_p M_s M_fault M_lines M_word M_wordSize M_out M_written M_secondOne) H → va_D A (wdX7 q y M_thrown M_text M_size M_has M_hand M_layers M_kinds M_names M_nameSizes M_thicknesses M_spreads M_coppers M_copperAt M_presses M_pressFrom M_pressTo M_vias M_viaFrom M_viaTo M_shares M_lists M_hasRow M_rowLow M_rowHigh M_p M_s M_fault M_lines M_word M_wordSize M_out M_written M_secondOne) → va_S A s.heap H locs → lv_has ls 3 [(0, .ref (q 0)), (2, .int v2)] → W p l e ({ frames := 2, cells := 0, slots := 0, locals := 43 } : Room) s m args below meth c H locs 0 0 (MQ below (QI D y A (z.1) (wdX7 q y M_thrown M_text M_size M_has M_hand M_layers M_kinds M_names M_nameSizes M_thicknesses M_spreads M_coppers M_copperAt M_presses M_pressFrom M_pressTo M_vias M_viaFrom M_viaTo M_shares M_lists M_hasRow M_rowLow M_rowHigh (z.2.1) M_s (z.2.2.1) M_lines (z.2.2.2.1) (z.2.2.2.2.1) M_out M_written (z.2.2.2.2.2))) args s 0 0 A) (F0 m 41 ls []) := by
  obtain ⟨⟨hx, hb, hml, hown, hts⟩, hr, hlocks⟩ := id C
  intro v2 M_text M_size M_names M_nameSizes M_coppers M_copperAt M_p M_s M_fault M_word M_wordSize M_secondOne H locs ls hm hP hD hS hl
  unfold g_X7_twoNames_41 at hm
  refine lv_aload_n hx hb dX7_twoNames_41 rfl (lv_at hl 0 rfl) ?_
  refine lv_bipush (v := (32 : Int32)) hx hb dX7_twoNames_42 (by decide) ?_
  obtain ⟨M_p_1, M_fault_2, hc_3, hm⟩ := mb2_of hm
  refine call_vv (wc := (wdX7 q y M_thrown M_text M_size M_has M_hand M_layers M_kinds M_names M_nameSizes M_thicknesses M_spreads M_coppers M_copperAt M_presses M_pressFrom M_pressTo M_vias M_viaFrom M_viaTo M_shares M_lists M_hasRow M_rowLow M_rowHigh M_p M_s M_fault M_lines M_word M_wordSize M_out M_written M_secondOne)) (wr := []) (As := [.int (32 : Int32)]) (rest := []) C (c_X7_expect l D y q _ F hc_3) (cwV 1 hts gX7_twoNames_X7_expect rfl rfl rfl (by decide +kernel) ⟨Nat.le_of_ble_eq_true rfl, Nat.le_of_ble_eq_true rfl⟩) hK hP hD hS hA [0, 1, 2, 3, 4, 5, 6, 7, 8, 9, 10, 11, 12, 13, 14, 15, 16, 17, 18, 19, 20] [] rfl rfl rfl rfl rfl (by decide) rfl rfl rfl rfl hl.1 (Nat.le_of_ble_eq_true rfl) dX7_twoNames_44 (fun H locs hP hD hS => ?_)
  have hP : va_P D vwCl (wdX7 q y M_thrown M_text M_size M_has M_hand M_layers M_kinds M_names M_nameSizes M_thicknesses M_spreads M_coppers M_copperAt M_presses M_pressFrom M_pressTo M_vias M_viaFrom M_viaTo M_shares M_lists M_hasRow M_rowLow M_rowHigh M_p_1 M_s M_fault_2 M_lines M_word M_wordSize M_out M_written M_secondOne) H := hP
  have hD : va_D A (wdX7 q y M_thrown M_text M_size M_has M_hand M_layers M_kinds M_names M_nameSizes M_thicknesses M_spreads M_coppers M_copperAt M_presses M_pressFrom M_pressTo M_vias M_viaFrom M_viaTo M_shares M_lists M_hasRow M_rowLow M_rowHigh M_p_1 M_s M_fault_2 M_lines M_word M_wordSize M_out M_written M_secondOne) := hD
  refine lv_aload_n hx hb dX7_twoNames_47 rfl (lv_at hl 0 rfl) ?_
  refine va_get (D := D) (ci := 7) (v := .int M_p_1) (C := RX7) (T := TX7) (N := 33) hx hb hts n_X7_twoNames_X7 hown hK hP 0 rfl rfl 24 (by decide) (hts _ w_X7_twoNames_f79) (fun _ h9 => h9) rfl dX7_twoNames_48 ?_
  refine lv_istore_n (lv' := [(1, .int M_p_1), (0, .ref (q 0)), (2, .int v2)]) hx hb dX7_twoNames_51 rfl hl (by decide) rfl (fun ls hl => ?_)
  refine lv_aload_n hx hb dX7_twoNames_52 rfl (lv_at hl 1 rfl) ?_
  obtain ⟨M_p_4, M_fault_5, M_word_6, M_wordSize_7, hc_8, hm⟩ := mb4_of hm
  refine call_vv (wc := (wdX7 q y M_thrown M_text M_size M_has M_hand M_layers M_kinds M_names M_nameSizes M_thicknesses M_spreads M_coppers M_copperAt M_presses M_pressFrom M_pressTo M_vias M_viaFrom M_viaTo M_shares M_lists M_hasRow M_rowLow M_rowHigh M_p_1 M_s M_fault_2 M_lines M_word M_wordSize M_out M_written M_secondOne)) (wr := []) (As := []) (rest := []) C (c_X7_name l D y q _ F hc_8) (cwV 0 hts gX7_twoNames_X7_name rfl rfl rfl (by decide +kernel) ⟨Nat.le_of_ble_eq_true rfl, Nat.le_of_ble_eq_true rfl⟩) hK hP hD hS hA [0, 1, 2, 3, 4, 5, 6, 7, 8, 9, 10, 11, 12, 13, 14, 15, 16, 17, 18, 19, 20] [] rfl rfl rfl rfl rfl (by decide) rfl rfl rfl rfl hl.1 (Nat.le_of_ble_eq_true rfl) dX7_twoNames_53 (fun H locs hP hD hS => ?_)
  have hP : va_P D vwCl (wdX7 q y M_thrown M_text M_size M_has M_hand M_layers M_kinds M_names M_nameSizes M_thicknesses M_spreads M_coppers M_copperAt M_presses M_pressFrom M_pressTo M_vias M_viaFrom M_viaTo M_shares M_lists M_hasRow M_rowLow M_rowHigh M_p_4 M_s M_fault_5 M_lines M_word_6 M_wordSize_7 M_out M_written M_secondOne) H := hP
  have hD : va_D A (wdX7 q y M_thrown M_text M_size M_has M_hand M_layers M_kinds M_names M_nameSizes M_thicknesses M_spreads M_coppers M_copperAt M_presses M_pressFrom M_pressTo M_vias M_viaFrom M_viaTo M_shares M_lists M_hasRow M_rowLow M_rowHigh M_p_4 M_s M_fault_5 M_lines M_word_6 M_wordSize_7 M_out M_written M_secondOne) := hD
  refine lv_aload_n hx hb dX7_twoNames_56 rfl (lv_at hl 1 rfl) ?_
  refine lv_aload_n hx hb dX7_twoNames_57 rfl (lv_at hl 1 rfl) ?_
  obtain ⟨r_9, hc_10, hm⟩ := mb1_of hm
  refine call_vi (wc := (wdX7 q y M_thrown M_text M_size M_has M_hand M_layers M_kinds M_names M_nameSizes M_thicknesses M_spreads M_coppers M_copperAt M_presses M_pressFrom M_pressTo M_vias M_viaFrom M_viaTo M_shares M_lists M_hasRow M_rowLow M_rowHigh M_p_4 M_s M_fault_5 M_lines M_word_6 M_wordSize_7 M_out M_written M_secondOne)) (wr := []) (As := []) (rest := [.ref (q 0)]) C (c_X7_good l D y q _ F hc_10) (cwV 0 hts gX7_twoNames_X7_good rfl rfl rfl (by decide +kernel) ⟨Nat.le_of_ble_eq_true rfl, Nat.le_of_ble_eq_true rfl⟩) hK hP hD hS hA [0, 1, 2, 3, 4, 5, 6, 7, 8, 9, 10, 11, 12, 13, 14, 15, 16, 17, 18, 19, 20] [] rfl rfl rfl rfl rfl (by decide) rfl rfl rfl rfl hl.1 (Nat.le_of_ble_eq_true rfl) dX7_twoNames_58 (fun H locs hP hD hS => ?_)
  have hP : va_P D vwCl (wdX7 q y M_thrown M_text M_size M_has M_hand M_layers M_kinds M_names M_nameSizes M_thicknesses M_spreads M_coppers M_copperAt M_presses M_pressFrom M_pressTo M_vias M_viaFrom M_viaTo M_shares M_lists M_hasRow M_rowLow M_rowHigh M_p_4 M_s M_fault_5 M_lines M_word_6 M_wordSize_7 M_out M_written M_secondOne) H := hP
  have hD : va_D A (wdX7 q y M_thrown M_text M_size M_has M_hand M_layers M_kinds M_names M_nameSizes M_thicknesses M_spreads M_coppers M_copperAt M_presses M_pressFrom M_pressTo M_vias M_viaFrom M_viaTo M_shares M_lists M_hasRow M_rowLow M_rowHigh M_p_4 M_s M_fault_5 M_lines M_word_6 M_wordSize_7 M_out M_written M_secondOne) := hD
  refine lv_if_eq (tgt := 71) hx hb dX7_twoNames_61 (by decide) (fun h_11 => ?_) (fun h_11 => ?_)
  · have hm := it_of hm h_11
    refine lv_iconst (v := (0 : Int32)) hx hb dX7_twoNames_71 (by decide) ?_
    exact k_X7_twoNames_72 C hA hK F M_p_1 v2 (0 : Int32) M_p_4 M_fault_5 M_word_6 M_wordSize_7 M_secondOne _ _ _ hm hP hD hS (lv_sub hl [1, 0, 2] rfl)
  · have hm := ie_of hm h_11
    refine lv_aload_n hx hb dX7_twoNames_64 rfl (lv_at hl 1 rfl) ?_
    obtain ⟨r_12, hc_13, hm⟩ := mb1_of hm
    refine call_vi (wc := (wdX7 q y M_thrown M_text M_size M_has M_hand M_layers M_kinds M_names M_nameSizes M_thicknesses M_spreads M_coppers M_copperAt M_presses M_pressFrom M_pressTo M_vias M_viaFrom M_viaTo M_shares M_lists M_hasRow M_rowLow M_rowHigh M_p_4 M_s M_fault_5 M_lines M_word_6 M_wordSize_7 M_out M_written M_secondOne)) (wr := []) (As := []) (rest := [.ref (q 0)]) C (c_X7_copperNamed l D y q _ F hc_13) (cwV 0 hts gX7_twoNames_X7_copperNamed rfl rfl rfl (by decide +kernel) ⟨Nat.le_of_ble_eq_true rfl, Nat.le_of_ble_eq_true rfl⟩) hK hP hD hS hA [0, 1, 2, 3, 4, 5, 6, 7, 8, 9, 10, 11, 12, 13, 14, 15, 16, 17, 18, 19, 20] [] rfl rfl rfl rfl rfl (by decide) rfl rfl rfl rfl hl.1 (Nat.le_of_ble_eq_true rfl) dX7_twoNames_65 (fun H locs hP hD hS => ?_)
    have hP : va_P D vwCl (wdX7 q y M_thrown M_text M_size M_has M_hand M_layers M_kinds M_names M_nameSizes M_thicknesses M_spreads M_coppers M_copperAt M_presses M_pressFrom M_pressTo M_vias M_viaFrom M_viaTo M_shares M_lists M_hasRow M_rowLow M_rowHigh M_p_4 M_s M_fault_5 M_lines M_word_6 M_wordSize_7 M_out M_written M_secondOne) H := hP
    have hD : va_D A (wdX7 q y M_thrown M_text M_size M_has M_hand M_layers M_kinds M_names M_nameSizes M_thicknesses M_spreads M_coppers M_copperAt M_presses M_pressFrom M_pressTo M_vias M_viaFrom M_viaTo M_shares M_lists M_hasRow M_rowLow M_rowHigh M_p_4 M_s M_fault_5 M_lines M_word_6 M_wordSize_7 M_out M_written M_secondOne) := hD
    refine lv_goto (tgt := 72) hx hb dX7_twoNames_68 (by decide) ?_
    exact k_X7_twoNames_72 C hA hK F M_p_1 v2 r_12 M_p_4 M_fault_5 M_word_6 M_wordSize_7 M_secondOne _ _ _ hm hP hD hS (lv_sub hl [1, 0, 2] rfl)
set_option maxHeartbeats 4000000 in
set_option maxRecDepth 100000 in
theorem c_X7_twoNames (l : Launch) (D : va_G) (y : Nat → ClassId) (q : Nat → Nat) (sz : Nat) (F : Nat) {M_thrown : Int32} {M_text : Nat → Int32} {M_size : Int32} {M_has : Int32} {M_hand : Int32} {M_layers : Nat → Int32} {M_kinds : Nat → Int32} {M_names : Nat → Int64} {M_nameSizes : Nat → Int32} {M_thicknesses : Nat → Int64} {M_spreads : Nat → Int32} {M_coppers : Nat → Int32} {M_copperAt : Nat → Int32} {M_presses : Nat → Int32} {M_pressFrom : Nat → Int32} {M_pressTo : Nat → Int32} {M_vias : Nat → Int32} {M_viaFrom : Nat → Int32} {M_viaTo : Nat → Int32} {M_shares : Nat → Int32} {M_lists : Int32} {M_hasRow : Nat → Int32} {M_rowLow : Nat → Int64} {M_rowHigh : Nat → Int64} {M_p : Int32} {M_s : Int32} {M_fault : Int32} {M_lines : Int32} {M_word : Int64} {M_wordSize : Int32} {M_out : Nat → Int32} {M_written : Int32} {M_secondOne : Int32} {z : Int32 × Int32 × Int32 × Int64 × Int32 × Int32} (hm : f_X7_twoNames F M_text M_size M_names M_nameSizes M_coppers M_copperAt M_p M_s M_fault M_word M_wordSize M_secondOne = some z) : Met l yX7_twoNames wsX7_twoNames ({ frames := 2, cells := 0, slots := 0, locals := 43 } : Room) (va_Pc [.ref (q 0)] (cP D y (wdX7 q y M_thrown M_text M_size M_has M_hand M_layers M_kinds M_names M_nameSizes M_thicknesses M_spreads M_coppers M_copperAt M_presses M_pressFrom M_pressTo M_vias M_viaFrom M_viaTo M_shares M_lists M_hasRow M_rowLow M_rowHigh M_p M_s M_fault M_lines M_word M_wordSize M_out M_written M_secondOne) sz)) (QI D y (va_A (wdX7 q y M_thrown M_text M_size M_has M_hand M_layers M_kinds M_names M_nameSizes M_thicknesses M_spreads M_coppers M_copperAt M_presses M_pressFrom M_pressTo M_vias M_viaFrom M_viaTo M_shares M_lists M_hasRow M_rowLow M_rowHigh M_p M_s M_fault M_lines M_word M_wordSize M_out M_written M_secondOne) sz) (z.1) (wdX7 q y M_thrown M_text M_size M_has M_hand M_layers M_kinds M_names M_nameSizes M_thicknesses M_spreads M_coppers M_copperAt M_presses M_pressFrom M_pressTo M_vias M_viaFrom M_viaTo M_shares M_lists M_hasRow M_rowLow M_rowHigh (z.2.1) M_s (z.2.2.1) M_lines (z.2.2.2.1) (z.2.2.2.2.1) M_out M_written (z.2.2.2.2.2))) 0 0 (va_A (wdX7 q y M_thrown M_text M_size M_has M_hand M_layers M_kinds M_names M_nameSizes M_thicknesses M_spreads M_coppers M_copperAt M_presses M_pressFrom M_pressTo M_vias M_viaFrom M_viaTo M_shares M_lists M_hasRow M_rowLow M_rowHigh M_p M_s M_fault M_lines M_word M_wordSize M_out M_written M_secondOne) sz) := by
  refine met_of (own := RX7) (cc := cX7_twoNames) (maxL := 3) (ret := (some .int)) (by decide) rfl rfl (Nat.le_of_ble_eq_true rfl) ?_
  intro p e s m below meth c ls C hsz hK hP hD hA hS hl
  obtain ⟨⟨hx, hb, hml, hown, hts⟩, hr, hlocks⟩ := id C
  have hl : lv_has ls 3 [(0, .ref (q 0))] := hl
  generalize va_A (wdX7 q y M_thrown M_text M_size M_has M_hand M_layers M_kinds M_names M_nameSizes M_thicknesses M_spreads M_coppers M_copperAt M_presses M_pressFrom M_pressTo M_vias M_viaFrom M_viaTo M_shares M_lists M_hasRow M_rowLow M_rowHigh M_p M_s M_fault M_lines M_word M_wordSize M_out M_written M_secondOne) sz = A at hD hA hS ⊢
  generalize ([.ref (q 0)] : List Value).toArray = args at C hts ⊢
  unfold f_X7_twoNames at hm
  refine lv_aload_n hx hb dX7_twoNames_0 rfl (lv_at hl 0 rfl) ?_
  refine lv_bipush (v := (32 : Int32)) hx hb dX7_twoNames_1 (by decide) ?_
  obtain ⟨M_p_1, M_fault_2, hc_3, hm⟩ := mb2_of hm
  refine call_vv (wc := (wdX7 q y M_thrown M_text M_size M_has M_hand M_layers M_kinds M_names M_nameSizes M_thicknesses M_spreads M_coppers M_copperAt M_presses M_pressFrom M_pressTo M_vias M_viaFrom M_viaTo M_shares M_lists M_hasRow M_rowLow M_rowHigh M_p M_s M_fault M_lines M_word M_wordSize M_out M_written M_secondOne)) (wr := []) (As := [.int (32 : Int32)]) (rest := []) C (c_X7_expect l D y q _ F hc_3) (cwV 1 hts gX7_twoNames_X7_expect rfl rfl rfl (by decide +kernel) ⟨Nat.le_of_ble_eq_true rfl, Nat.le_of_ble_eq_true rfl⟩) hK hP hD hS hA [0, 1, 2, 3, 4, 5, 6, 7, 8, 9, 10, 11, 12, 13, 14, 15, 16, 17, 18, 19, 20] [] rfl rfl rfl rfl rfl (by decide) rfl rfl rfl rfl hl.1 (Nat.le_of_ble_eq_true rfl) dX7_twoNames_3 (fun H locs hP hD hS => ?_)
  have hP : va_P D vwCl (wdX7 q y M_thrown M_text M_size M_has M_hand M_layers M_kinds M_names M_nameSizes M_thicknesses M_spreads M_coppers M_copperAt M_presses M_pressFrom M_pressTo M_vias M_viaFrom M_viaTo M_shares M_lists M_hasRow M_rowLow M_rowHigh M_p_1 M_s M_fault_2 M_lines M_word M_wordSize M_out M_written M_secondOne) H := hP
  have hD : va_D A (wdX7 q y M_thrown M_text M_size M_has M_hand M_layers M_kinds M_names M_nameSizes M_thicknesses M_spreads M_coppers M_copperAt M_presses M_pressFrom M_pressTo M_vias M_viaFrom M_viaTo M_shares M_lists M_hasRow M_rowLow M_rowHigh M_p_1 M_s M_fault_2 M_lines M_word M_wordSize M_out M_written M_secondOne) := hD
  refine lv_aload_n hx hb dX7_twoNames_6 rfl (lv_at hl 0 rfl) ?_
  refine va_get (D := D) (ci := 7) (v := .int M_p_1) (C := RX7) (T := TX7) (N := 33) hx hb hts n_X7_twoNames_X7 hown hK hP 0 rfl rfl 24 (by decide) (hts _ w_X7_twoNames_f79) (fun _ h9 => h9) rfl dX7_twoNames_7 ?_
  refine lv_istore_n (lv' := [(1, .int M_p_1), (0, .ref (q 0))]) hx hb dX7_twoNames_10 rfl hl (by decide) rfl (fun ls hl => ?_)
  refine lv_aload_n hx hb dX7_twoNames_11 rfl (lv_at hl 1 rfl) ?_
  obtain ⟨M_p_4, M_fault_5, M_word_6, M_wordSize_7, hc_8, hm⟩ := mb4_of hm
  refine call_vv (wc := (wdX7 q y M_thrown M_text M_size M_has M_hand M_layers M_kinds M_names M_nameSizes M_thicknesses M_spreads M_coppers M_copperAt M_presses M_pressFrom M_pressTo M_vias M_viaFrom M_viaTo M_shares M_lists M_hasRow M_rowLow M_rowHigh M_p_1 M_s M_fault_2 M_lines M_word M_wordSize M_out M_written M_secondOne)) (wr := []) (As := []) (rest := []) C (c_X7_name l D y q _ F hc_8) (cwV 0 hts gX7_twoNames_X7_name rfl rfl rfl (by decide +kernel) ⟨Nat.le_of_ble_eq_true rfl, Nat.le_of_ble_eq_true rfl⟩) hK hP hD hS hA [0, 1, 2, 3, 4, 5, 6, 7, 8, 9, 10, 11, 12, 13, 14, 15, 16, 17, 18, 19, 20] [] rfl rfl rfl rfl rfl (by decide) rfl rfl rfl rfl hl.1 (Nat.le_of_ble_eq_true rfl) dX7_twoNames_12 (fun H locs hP hD hS => ?_)
  have hP : va_P D vwCl (wdX7 q y M_thrown M_text M_size M_has M_hand M_layers M_kinds M_names M_nameSizes M_thicknesses M_spreads M_coppers M_copperAt M_presses M_pressFrom M_pressTo M_vias M_viaFrom M_viaTo M_shares M_lists M_hasRow M_rowLow M_rowHigh M_p_4 M_s M_fault_5 M_lines M_word_6 M_wordSize_7 M_out M_written M_secondOne) H := hP
  have hD : va_D A (wdX7 q y M_thrown M_text M_size M_has M_hand M_layers M_kinds M_names M_nameSizes M_thicknesses M_spreads M_coppers M_copperAt M_presses M_pressFrom M_pressTo M_vias M_viaFrom M_viaTo M_shares M_lists M_hasRow M_rowLow M_rowHigh M_p_4 M_s M_fault_5 M_lines M_word_6 M_wordSize_7 M_out M_written M_secondOne) := hD
  refine lv_aload_n hx hb dX7_twoNames_15 rfl (lv_at hl 1 rfl) ?_
  obtain ⟨r_9, hc_10, hm⟩ := mb1_of hm
  refine call_vi (wc := (wdX7 q y M_thrown M_text M_size M_has M_hand M_layers M_kinds M_names M_nameSizes M_thicknesses M_spreads M_coppers M_copperAt M_presses M_pressFrom M_pressTo M_vias M_viaFrom M_viaTo M_shares M_lists M_hasRow M_rowLow M_rowHigh M_p_4 M_s M_fault_5 M_lines M_word_6 M_wordSize_7 M_out M_written M_secondOne)) (wr := []) (As := []) (rest := []) C (c_X7_good l D y q _ F hc_10) (cwV 0 hts gX7_twoNames_X7_good rfl rfl rfl (by decide +kernel) ⟨Nat.le_of_ble_eq_true rfl, Nat.le_of_ble_eq_true rfl⟩) hK hP hD hS hA [0, 1, 2, 3, 4, 5, 6, 7, 8, 9, 10, 11, 12, 13, 14, 15, 16, 17, 18, 19, 20] [] rfl rfl rfl rfl rfl (by decide) rfl rfl rfl rfl hl.1 (Nat.le_of_ble_eq_true rfl) dX7_twoNames_16 (fun H locs hP hD hS => ?_)
  have hP : va_P D vwCl (wdX7 q y M_thrown M_text M_size M_has M_hand M_layers M_kinds M_names M_nameSizes M_thicknesses M_spreads M_coppers M_copperAt M_presses M_pressFrom M_pressTo M_vias M_viaFrom M_viaTo M_shares M_lists M_hasRow M_rowLow M_rowHigh M_p_4 M_s M_fault_5 M_lines M_word_6 M_wordSize_7 M_out M_written M_secondOne) H := hP
  have hD : va_D A (wdX7 q y M_thrown M_text M_size M_has M_hand M_layers M_kinds M_names M_nameSizes M_thicknesses M_spreads M_coppers M_copperAt M_presses M_pressFrom M_pressTo M_vias M_viaFrom M_viaTo M_shares M_lists M_hasRow M_rowLow M_rowHigh M_p_4 M_s M_fault_5 M_lines M_word_6 M_wordSize_7 M_out M_written M_secondOne) := hD
  refine lv_if_eq (tgt := 29) hx hb dX7_twoNames_19 (by decide) (fun h_11 => ?_) (fun h_11 => ?_)
  · have hm := it_of hm h_11
    refine lv_iconst (v := (0 : Int32)) hx hb dX7_twoNames_29 (by decide) ?_
    refine lv_istore_n (lv' := [(2, .int (0 : Int32)), (1, .int M_p_1), (0, .ref (q 0))]) hx hb dX7_twoNames_30 rfl hl (by decide) rfl (fun ls hl => ?_)
    refine lv_iload_n hx hb dX7_twoNames_31 rfl (lv_at hl 0 rfl) ?_
    refine lv_iconst (v := (-1 : Int32)) hx hb dX7_twoNames_32 (by decide) ?_
    refine lv_icmp_ne (tgt := 41) hx hb dX7_twoNames_33 (by decide) (fun _ => ?_) (fun h => absurd h (by decide))
    exact k_X7_twoNames_41 C hA hK F (0 : Int32) M_text M_size M_names M_nameSizes M_coppers M_copperAt M_p_4 M_s M_fault_5 M_word_6 M_wordSize_7 M_secondOne _ _ _ hm hP hD hS (lv_sub hl [2, 0] rfl)
  · have hm := ie_of hm h_11
    refine lv_aload_n hx hb dX7_twoNames_22 rfl (lv_at hl 1 rfl) ?_
    obtain ⟨r_12, hc_13, hm⟩ := mb1_of hm
    refine call_vi (wc := (wdX7 q y M_thrown M_text M_size M_has M_hand M_layers M_kinds M_names M_nameSizes M_thicknesses M_spreads M_coppers M_copperAt M_presses M_pressFrom M_pressTo M_vias M_viaFrom M_viaTo M_shares M_lists M_hasRow M_rowLow M_rowHigh M_p_4 M_s M_fault_5 M_lines M_word_6 M_wordSize_7 M_out M_written M_secondOne)) (wr := []) (As := []) (rest := []) C (c_X7_copperNamed l D y q _ F hc_13) (cwV 0 hts gX7_twoNames_X7_copperNamed rfl rfl rfl (by decide +kernel) ⟨Nat.le_of_ble_eq_true rfl, Nat.le_of_ble_eq_true rfl⟩) hK hP hD hS hA [0, 1, 2, 3, 4, 5, 6, 7, 8, 9, 10, 11, 12, 13, 14, 15, 16, 17, 18, 19, 20] [] rfl rfl rfl rfl rfl (by decide) rfl rfl rfl rfl hl.1 (Nat.le_of_ble_eq_true rfl) dX7_twoNames_23 (fun H locs hP hD hS => ?_)
    have hP : va_P D vwCl (wdX7 q y M_thrown M_text M_size M_has M_hand M_layers M_kinds M_names M_nameSizes M_thicknesses M_spreads M_coppers M_copperAt M_presses M_pressFrom M_pressTo M_vias M_viaFrom M_viaTo M_shares M_lists M_hasRow M_rowLow M_rowHigh M_p_4 M_s M_fault_5 M_lines M_word_6 M_wordSize_7 M_out M_written M_secondOne) H := hP
    have hD : va_D A (wdX7 q y M_thrown M_text M_size M_has M_hand M_layers M_kinds M_names M_nameSizes M_thicknesses M_spreads M_coppers M_copperAt M_presses M_pressFrom M_pressTo M_vias M_viaFrom M_viaTo M_shares M_lists M_hasRow M_rowLow M_rowHigh M_p_4 M_s M_fault_5 M_lines M_word_6 M_wordSize_7 M_out M_written M_secondOne) := hD
    refine lv_goto (tgt := 30) hx hb dX7_twoNames_26 (by decide) ?_
    refine lv_istore_n (lv' := [(2, .int r_12), (1, .int M_p_1), (0, .ref (q 0))]) hx hb dX7_twoNames_30 rfl hl (by decide) rfl (fun ls hl => ?_)
    refine lv_iload_n hx hb dX7_twoNames_31 rfl (lv_at hl 0 rfl) ?_
    refine lv_iconst (v := (-1 : Int32)) hx hb dX7_twoNames_32 (by decide) ?_
    refine lv_icmp_ne (tgt := 41) hx hb dX7_twoNames_33 (by decide) (fun h_14 => ?_) (fun h_14 => ?_)
    · have hm := ie_of hm h_14
      exact k_X7_twoNames_41 C hA hK F r_12 M_text M_size M_names M_nameSizes M_coppers M_copperAt M_p_4 M_s M_fault_5 M_word_6 M_wordSize_7 M_secondOne _ _ _ hm hP hD hS (lv_sub hl [2, 0] rfl)
    · have hm := it_of hm h_14
      refine lv_aload_n hx hb dX7_twoNames_36 rfl (lv_at hl 2 rfl) ?_
      refine lv_iload_n hx hb dX7_twoNames_37 rfl (lv_at hl 1 rfl) ?_
      obtain ⟨M_fault_15, hc_16, hm⟩ := mb1_of hm
      refine call_vv (wc := (wdX7 q y M_thrown M_text M_size M_has M_hand M_layers M_kinds M_names M_nameSizes M_thicknesses M_spreads M_coppers M_copperAt M_presses M_pressFrom M_pressTo M_vias M_viaFrom M_viaTo M_shares M_lists M_hasRow M_rowLow M_rowHigh M_p_4 M_s M_fault_5 M_lines M_word_6 M_wordSize_7 M_out M_written M_secondOne)) (wr := []) (As := [.int M_p_1]) (rest := []) C (c_X7_fail l D y q _ F hc_16) (cwV 1 hts gX7_twoNames_X7_fail rfl rfl rfl (by decide +kernel) ⟨Nat.le_of_ble_eq_true rfl, Nat.le_of_ble_eq_true rfl⟩) hK hP hD hS hA [0, 1, 2, 3, 4, 5, 6, 7, 8, 9, 10, 11, 12, 13, 14, 15, 16, 17, 18, 19, 20] [] rfl rfl rfl rfl rfl (by decide) rfl rfl rfl rfl hl.1 (Nat.le_of_ble_eq_true rfl) dX7_twoNames_38 (fun H locs hP hD hS => ?_)
      have hP : va_P D vwCl (wdX7 q y M_thrown M_text M_size M_has M_hand M_layers M_kinds M_names M_nameSizes M_thicknesses M_spreads M_coppers M_copperAt M_presses M_pressFrom M_pressTo M_vias M_viaFrom M_viaTo M_shares M_lists M_hasRow M_rowLow M_rowHigh M_p_4 M_s M_fault_15 M_lines M_word_6 M_wordSize_7 M_out M_written M_secondOne) H := hP
      have hD : va_D A (wdX7 q y M_thrown M_text M_size M_has M_hand M_layers M_kinds M_names M_nameSizes M_thicknesses M_spreads M_coppers M_copperAt M_presses M_pressFrom M_pressTo M_vias M_viaFrom M_viaTo M_shares M_lists M_hasRow M_rowLow M_rowHigh M_p_4 M_s M_fault_15 M_lines M_word_6 M_wordSize_7 M_out M_written M_secondOne) := hD
      exact k_X7_twoNames_41 C hA hK F r_12 M_text M_size M_names M_nameSizes M_coppers M_copperAt M_p_4 M_s M_fault_15 M_word_6 M_wordSize_7 M_secondOne _ _ _ hm hP hD hS (lv_sub hl [2, 0] rfl)
def f_X7_isBehind (F : Nat) (v1 : Int32) (v2 : Int32) (v3 : Int32) (M_pressFrom : Nat → Int32) (M_pressTo : Nat → Int32) : Option (Int32) := mg (inb v1 44) (mg (inb v1 44) (mn ((M_pressTo (v1).toNatClampNeg) - (M_pressFrom (v1).toNatClampNeg)) (fun v4_3 => (if v4_3 = (v3 - v2) then mg (inb v1 44) ((if (M_pressFrom (v1).toNatClampNeg) ≤ v2 then some (0 : Int32) else some (1 : Int32))) else (if v4_3 ≤ (v3 - v2) then some (0 : Int32) else some (1 : Int32))))))
set_option maxRecDepth 20000 in
theorem n_X7_isBehind_X7 : ∀ w ∈ wsX70, w ∈ wsX7_isBehind := by decide +kernel
set_option maxRecDepth 20000 in
theorem w_X7_isBehind_f44 : Cond.fieldLink RX7 44 "LayerStacksModel" "pressTo" "[I" ∈ wsX7_isBehind := by decide +kernel
set_option maxRecDepth 20000 in
theorem w_X7_isBehind_f41 : Cond.fieldLink RX7 41 "LayerStacksModel" "pressFrom" "[I" ∈ wsX7_isBehind := by decide +kernel
set_option maxHeartbeats 4000000 in
set_option maxRecDepth 100000 in
theorem c_X7_isBehind (l : Launch) (D : va_G) (y : Nat → ClassId) (q : Nat → Nat) (sz : Nat) (F : Nat) {v1 : Int32} {v2 : Int32} {v3 : Int32} {M_thrown : Int32} {M_text : Nat → Int32} {M_size : Int32} {M_has : Int32} {M_hand : Int32} {M_layers : Nat → Int32} {M_kinds : Nat → Int32} {M_names : Nat → Int64} {M_nameSizes : Nat → Int32} {M_thicknesses : Nat → Int64} {M_spreads : Nat → Int32} {M_coppers : Nat → Int32} {M_copperAt : Nat → Int32} {M_presses : Nat → Int32} {M_pressFrom : Nat → Int32} {M_pressTo : Nat → Int32} {M_vias : Nat → Int32} {M_viaFrom : Nat → Int32} {M_viaTo : Nat → Int32} {M_shares : Nat → Int32} {M_lists : Int32} {M_hasRow : Nat → Int32} {M_rowLow : Nat → Int64} {M_rowHigh : Nat → Int64} {M_p : Int32} {M_s : Int32} {M_fault : Int32} {M_lines : Int32} {M_word : Int64} {M_wordSize : Int32} {M_out : Nat → Int32} {M_written : Int32} {M_secondOne : Int32} {z : Int32} (hm : f_X7_isBehind F v1 v2 v3 M_pressFrom M_pressTo = some z) : Met l yX7_isBehind wsX7_isBehind ({ frames := 0, cells := 0, slots := 0, locals := 0 } : Room) (va_Pc [.ref (q 0), .int v1, .int v2, .int v3] (cP D y (wdX7 q y M_thrown M_text M_size M_has M_hand M_layers M_kinds M_names M_nameSizes M_thicknesses M_spreads M_coppers M_copperAt M_presses M_pressFrom M_pressTo M_vias M_viaFrom M_viaTo M_shares M_lists M_hasRow M_rowLow M_rowHigh M_p M_s M_fault M_lines M_word M_wordSize M_out M_written M_secondOne) sz)) (QI D y (va_A (wdX7 q y M_thrown M_text M_size M_has M_hand M_layers M_kinds M_names M_nameSizes M_thicknesses M_spreads M_coppers M_copperAt M_presses M_pressFrom M_pressTo M_vias M_viaFrom M_viaTo M_shares M_lists M_hasRow M_rowLow M_rowHigh M_p M_s M_fault M_lines M_word M_wordSize M_out M_written M_secondOne) sz) (z) (wdX7 q y M_thrown M_text M_size M_has M_hand M_layers M_kinds M_names M_nameSizes M_thicknesses M_spreads M_coppers M_copperAt M_presses M_pressFrom M_pressTo M_vias M_viaFrom M_viaTo M_shares M_lists M_hasRow M_rowLow M_rowHigh M_p M_s M_fault M_lines M_word M_wordSize M_out M_written M_secondOne)) 0 0 (va_A (wdX7 q y M_thrown M_text M_size M_has M_hand M_layers M_kinds M_names M_nameSizes M_thicknesses M_spreads M_coppers M_copperAt M_presses M_pressFrom M_pressTo M_vias M_viaFrom M_viaTo M_shares M_lists M_hasRow M_rowLow M_rowHigh M_p M_s M_fault M_lines M_word M_wordSize M_out M_written M_secondOne) sz) := by
  refine met_of (own := RX7) (cc := cX7_isBehind) (maxL := 5) (ret := (some .boolean)) (by decide) rfl rfl (Nat.le_of_ble_eq_true rfl) ?_
  intro p e s m below meth c ls C hsz hK hP hD hA hS hl
  obtain ⟨⟨hx, hb, hml, hown, hts⟩, hr, hlocks⟩ := id C
  have hl : lv_has ls 5 [(0, .ref (q 0)), (1, .int v1), (2, .int v2), (3, .int v3)] := hl
  generalize va_A (wdX7 q y M_thrown M_text M_size M_has M_hand M_layers M_kinds M_names M_nameSizes M_thicknesses M_spreads M_coppers M_copperAt M_presses M_pressFrom M_pressTo M_vias M_viaFrom M_viaTo M_shares M_lists M_hasRow M_rowLow M_rowHigh M_p M_s M_fault M_lines M_word M_wordSize M_out M_written M_secondOne) sz = A at hD hA hS ⊢
  generalize ([.ref (q 0), .int v1, .int v2, .int v3] : List Value).toArray = args at C hts ⊢
  unfold f_X7_isBehind at hm
  refine lv_aload_n hx hb dX7_isBehind_0 rfl (lv_at hl 0 rfl) ?_
  refine va_get (D := D) (ci := 7) (v := .ref (q 12)) (C := RX7) (T := TX7) (N := 33) hx hb hts n_X7_isBehind_X7 hown hK hP 0 rfl rfl 15 (by decide) (hts _ w_X7_isBehind_f44) (fun _ h9 => h9) rfl dX7_isBehind_1 ?_
  refine lv_iload_n hx hb dX7_isBehind_4 rfl (lv_at hl 1 rfl) ?_
  obtain ⟨hg_1, hm⟩ := mg_of hm
  refine va_iald hx hb hK hP 12 0 rfl rfl hg_1 dX7_isBehind_5 ?_
  refine lv_aload_n hx hb dX7_isBehind_6 rfl (lv_at hl 0 rfl) ?_
  refine va_get (D := D) (ci := 7) (v := .ref (q 11)) (C := RX7) (T := TX7) (N := 33) hx hb hts n_X7_isBehind_X7 hown hK hP 0 rfl rfl 14 (by decide) (hts _ w_X7_isBehind_f41) (fun _ h9 => h9) rfl dX7_isBehind_7 ?_
  refine lv_iload_n hx hb dX7_isBehind_10 rfl (lv_at hl 1 rfl) ?_
  obtain ⟨hg_2, hm⟩ := mg_of hm
  refine va_iald hx hb hK hP 11 0 rfl rfl hg_2 dX7_isBehind_11 ?_
  refine lv_isub hx hb dX7_isBehind_12 ?_
  refine lv_topi (fun v4_3 ev4_3 => ?_)
  have hm := mn_of ev4_3 hm
  refine lv_istore (lv' := [(4, .int v4_3), (0, .ref (q 0)), (1, .int v1), (2, .int v2), (3, .int v3)]) hx hb dX7_isBehind_13 hl (by decide) rfl (fun ls hl => ?_)
  refine lv_iload hx hb dX7_isBehind_15 (lv_at hl 0 rfl) ?_
  refine lv_iload_n hx hb dX7_isBehind_17 rfl (lv_at hl 4 rfl) ?_
  refine lv_iload_n hx hb dX7_isBehind_18 rfl (lv_at hl 3 rfl) ?_
  refine lv_isub hx hb dX7_isBehind_19 ?_
  refine lv_icmp_eq (tgt := 39) hx hb dX7_isBehind_20 (by decide) (fun h_4 => ?_) (fun h_4 => ?_)
  · have hm := it_of hm h_4
    refine lv_aload_n hx hb dX7_isBehind_39 rfl (lv_at hl 1 rfl) ?_
    refine va_get (D := D) (ci := 7) (v := .ref (q 11)) (C := RX7) (T := TX7) (N := 33) hx hb hts n_X7_isBehind_X7 hown hK hP 0 rfl rfl 14 (by decide) (hts _ w_X7_isBehind_f41) (fun _ h9 => h9) rfl dX7_isBehind_40 ?_
    refine lv_iload_n hx hb dX7_isBehind_43 rfl (lv_at hl 2 rfl) ?_
    obtain ⟨hg_5, hm⟩ := mg_of hm
    refine va_iald hx hb hK hP 11 0 rfl rfl hg_5 dX7_isBehind_44 ?_
    refine lv_iload_n hx hb dX7_isBehind_45 rfl (lv_at hl 3 rfl) ?_
    refine lv_icmp_le (tgt := 53) hx hb dX7_isBehind_46 (by decide) (fun h_6 => ?_) (fun h_6 => ?_)
    · have hm := it_of hm h_6
      refine lv_iconst (v := (0 : Int32)) hx hb dX7_isBehind_53 (by decide) ?_
      have hz := Option.some.inj hm
      subst hz
      exact end_z C hK hP hD hS (show vp_nar .boolean (0 : Int32) = (0 : Int32) from by decide) dX7_isBehind_54
    · have hm := ie_of hm h_6
      refine lv_iconst (v := (1 : Int32)) hx hb dX7_isBehind_49 (by decide) ?_
      refine lv_goto (tgt := 54) hx hb dX7_isBehind_50 (by decide) ?_
      have hz := Option.some.inj hm
      subst hz
      exact end_z C hK hP hD hS (show vp_nar .boolean (1 : Int32) = (1 : Int32) from by decide) dX7_isBehind_54
  · have hm := ie_of hm h_4
    refine lv_iload hx hb dX7_isBehind_23 (lv_at hl 0 rfl) ?_
    refine lv_iload_n hx hb dX7_isBehind_25 rfl (lv_at hl 4 rfl) ?_
    refine lv_iload_n hx hb dX7_isBehind_26 rfl (lv_at hl 3 rfl) ?_
    refine lv_isub hx hb dX7_isBehind_27 ?_
    refine lv_icmp_le (tgt := 35) hx hb dX7_isBehind_28 (by decide) (fun h_7 => ?_) (fun h_7 => ?_)
    · have hm := it_of hm h_7
      refine lv_iconst (v := (0 : Int32)) hx hb dX7_isBehind_35 (by decide) ?_
      refine lv_goto (tgt := 54) hx hb dX7_isBehind_36 (by decide) ?_
      have hz := Option.some.inj hm
      subst hz
      exact end_z C hK hP hD hS (show vp_nar .boolean (0 : Int32) = (0 : Int32) from by decide) dX7_isBehind_54
    · have hm := ie_of hm h_7
      refine lv_iconst (v := (1 : Int32)) hx hb dX7_isBehind_31 (by decide) ?_
      refine lv_goto (tgt := 54) hx hb dX7_isBehind_32 (by decide) ?_
      have hz := Option.some.inj hm
      subst hz
      exact end_z C hK hP hD hS (show vp_nar .boolean (1 : Int32) = (1 : Int32) from by decide) dX7_isBehind_54
def g_X7_keepPress_75 (F : Nat) (v1 : Int32) (v2 : Int32) (v3 : Int32) (M_presses : Nat → Int32) (M_pressFrom : Nat → Int32) (M_pressTo : Nat → Int32) (M_s : Int32) : Option ((Nat → Int32) × (Nat → Int32) × (Nat → Int32)) := mg (inb v3 44) (mg (inb v3 44) (mg (inb M_s 2) (mg (inb M_s 2) (some ((upd M_presses (M_s).toNatClampNeg ((M_presses (M_s).toNatClampNeg) + (1 : Int32))), (upd M_pressFrom (v3).toNatClampNeg v1), (upd M_pressTo (v3).toNatClampNeg v2))))))
def g_X7_keepPress_18 (F : Nat) : Nat → Int32 → Int32 → Int32 → (Nat → Int32) → (Nat → Int32) → (Nat → Int32) → Int32 → Option ((Nat → Int32) × (Nat → Int32) × (Nat → Int32))
  | 0, _, _, _, _, _, _, _ => none
  | n + 1, v1, v2, v3, M_presses, M_pressFrom, M_pressTo, M_s => (if v3 ≤ ((22 : Int32) * M_s) then g_X7_keepPress_75 F v1 v2 v3 M_presses M_pressFrom M_pressTo M_s else mb1 (f_X7_isBehind F (v3 - (1 : Int32)) v1 v2 M_pressFrom M_pressTo) (fun r_2 => (if r_2 = 0 then g_X7_keepPress_75 F v1 v2 v3 M_presses M_pressFrom M_pressTo M_s else mg (inb (v3 - (1 : Int32)) 44) (mg (inb v3 44) (mg (inb (v3 - (1 : Int32)) 44) (mg (inb v3 44) (mn (v3 + (-1 : Int32)) (fun v3_9 => g_X7_keepPress_18 F n v1 v2 v3_9 M_presses (upd M_pressFrom (v3).toNatClampNeg (M_pressFrom ((v3 - (1 : Int32))).toNatClampNeg)) (upd M_pressTo (v3).toNatClampNeg (M_pressTo ((v3 - (1 : Int32))).toNatClampNeg)) M_s))))))))
theorem g_X7_keepPress_18_z (F : Nat) (v1 : Int32) (v2 : Int32) (v3 : Int32) (M_presses : Nat → Int32) (M_pressFrom : Nat → Int32) (M_pressTo : Nat → Int32) (M_s : Int32) : g_X7_keepPress_18 F 0 v1 v2 v3 M_presses M_pressFrom M_pressTo M_s = none := rfl
theorem g_X7_keepPress_18_s (F : Nat) (n : Nat) (v1 : Int32) (v2 : Int32) (v3 : Int32) (M_presses : Nat → Int32) (M_pressFrom : Nat → Int32) (M_pressTo : Nat → Int32) (M_s : Int32) : g_X7_keepPress_18 F (n + 1) v1 v2 v3 M_presses M_pressFrom M_pressTo M_s = (if v3 ≤ ((22 : Int32) * M_s) then g_X7_keepPress_75 F v1 v2 v3 M_presses M_pressFrom M_pressTo M_s else mb1 (f_X7_isBehind F (v3 - (1 : Int32)) v1 v2 M_pressFrom M_pressTo) (fun r_2 => (if r_2 = 0 then g_X7_keepPress_75 F v1 v2 v3 M_presses M_pressFrom M_pressTo M_s else mg (inb (v3 - (1 : Int32)) 44) (mg (inb v3 44) (mg (inb (v3 - (1 : Int32)) 44) (mg (inb v3 44) (mn (v3 + (-1 : Int32)) (fun v3_9 => g_X7_keepPress_18 F n v1 v2 v3_9 M_presses (upd M_pressFrom (v3).toNatClampNeg (M_pressFrom ((v3 - (1 : Int32))).toNatClampNeg)) (upd M_pressTo (v3).toNatClampNeg (M_pressTo ((v3 - (1 : Int32))).toNatClampNeg)) M_s)))))))) := rfl
def f_X7_keepPress (F : Nat) (v1 : Int32) (v2 : Int32) (M_presses : Nat → Int32) (M_pressFrom : Nat → Int32) (M_pressTo : Nat → Int32) (M_s : Int32) : Option ((Nat → Int32) × (Nat → Int32) × (Nat → Int32)) := mg (inb M_s 2) (mn (((22 : Int32) * M_s) + (M_presses (M_s).toNatClampNeg)) (fun v3_2 => g_X7_keepPress_18 F F v1 v2 v3_2 M_presses M_pressFrom M_pressTo M_s))
set_option maxRecDepth 20000 in
theorem n_X7_keepPress_X7 : ∀ w ∈ wsX70, w ∈ wsX7_keepPress := by decide +kernel
set_option maxRecDepth 20000 in
theorem w_X7_keepPress_f134 : Cond.fieldLink RX7 134 "LayerStacksModel" "s" "I" ∈ wsX7_keepPress := by decide +kernel
set_option maxRecDepth 20000 in
theorem w_X7_keepPress_f41 : Cond.fieldLink RX7 41 "LayerStacksModel" "pressFrom" "[I" ∈ wsX7_keepPress := by decide +kernel
set_option maxRecDepth 20000 in
theorem w_X7_keepPress_f44 : Cond.fieldLink RX7 44 "LayerStacksModel" "pressTo" "[I" ∈ wsX7_keepPress := by decide +kernel
set_option maxRecDepth 20000 in
theorem w_X7_keepPress_f38 : Cond.fieldLink RX7 38 "LayerStacksModel" "presses" "[I" ∈ wsX7_keepPress := by decide +kernel
set_option maxHeartbeats 4000000 in
set_option maxRecDepth 100000 in
theorem k_X7_keepPress_75 {p : Program} {l : Launch} {e : Env} {s : State} {m : MethodId} {args : Array Value} {below : List Frame} {meth : Method} {c : Code} {D : va_G} {y : Nat → ClassId} {A : Nat → Prop} {q : Nat → Nat} {M_thrown : Int32} {M_text : Nat → Int32} {M_size : Int32} {M_has : Int32} {M_hand : Int32} {M_layers : Nat → Int32} {M_kinds : Nat → Int32} {M_names : Nat → Int64} {M_nameSizes : Nat → Int32} {M_thicknesses : Nat → Int64} {M_spreads : Nat → Int32} {M_coppers : Nat → Int32} {M_copperAt : Nat → Int32} {M_vias : Nat → Int32} {M_viaFrom : Nat → Int32} {M_viaTo : Nat → Int32} {M_shares : Nat → Int32} {M_lists : Int32} {M_hasRow : Nat → Int32} {M_rowLow : Nat → Int64} {M_rowHigh : Nat → Int64} {M_p : Int32} {M_fault : Int32} {M_lines : Int32} {M_word : Int64} {M_wordSize : Int32} {M_out : Nat → Int32} {M_written : Int32} {M_secondOne : Int32} {z : (Nat → Int32) × (Nat → Int32) × (Nat → Int32)} (C : CX p s m args meth c wsX7_keepPress RX7 cX7_keepPress 4 none) (hA : ∀ q : Nat, s.heap.size ≤ q → A q) (hK : va_K D vwCl (tyl y) s) (F : Nat) :
    ∀ (v1 : Int32) (v2 : Int32) (v3 : Int32) (M_presses : Nat → Int32) (M_pressFrom : Nat → Int32) (M_pressTo : Nat → Int32) (M_s : Int32) (H : Heap) (locs : List Loc) (ls : Array Slot), g_X7_keepPress_75 F v1 v2 v3 M_presses M_pressFrom M_pressTo M_s = some z → va_P D vwCl (wdX7 q y M_thrown M_text M_size M_has M_hand M_layers M_kinds M_names M_nameSizes M_thicknesses M_spreads M_coppers M_copperAt M_presses M_pressFrom M_pressTo M_vias M_viaFrom M_viaTo M_shares M_lists M_hasRow M_rowLow M_rowHigh M_p M_s M_fault M_lines M_word M_wordSize M_out M_written M_secondOne) H → va_D A (wdX7 q y M_thrown M_text M_size M_has M_hand M_layers M_kinds M_names M_nameSizes M_thicknesses M_spreads M_coppers M_copperAt M_presses M_pressFrom M_pressTo M_vias M_viaFrom M_viaTo M_shares M_lists M_hasRow M_rowLow M_rowHigh M_p M_s M_fault M_lines M_word M_wordSize M_out M_written M_secondOne) → va_S A s.heap H locs → lv_has ls 4 [(0, .ref (q 0)), (1, .int v1), (2, .int v2), (3, .int v3)] → W p l e ({ frames := 1, cells := 0, slots := 0, locals := 24 } : Room) s m args below meth c H locs 0 0 (MQ below (QV D y A (wdX7 q y M_thrown M_text M_size M_has M_hand M_layers M_kinds M_names M_nameSizes M_thicknesses M_spreads M_coppers M_copperAt (z.1) (z.2.1) (z.2.2) M_vias M_viaFrom M_viaTo M_shares M_lists M_hasRow M_rowLow M_rowHigh M_p M_s M_fault M_lines M_word M_wordSize M_out M_written M_secondOne)) args s 0 0 A) (F0 m 75 ls []) := by
  obtain ⟨⟨hx, hb, hml, hown, hts⟩, hr, hlocks⟩ := id C
  intro v1 v2 v3 M_presses M_pressFrom M_pressTo M_s H locs ls hm hP hD hS hl
  unfold g_X7_keepPress_75 at hm
  refine lv_aload_n hx hb dX7_keepPress_75 rfl (lv_at hl 0 rfl) ?_
  refine va_get (D := D) (ci := 7) (v := .ref (q 11)) (C := RX7) (T := TX7) (N := 33) hx hb hts n_X7_keepPress_X7 hown hK hP 0 rfl rfl 14 (by decide) (hts _ w_X7_keepPress_f41) (fun _ h9 => h9) rfl dX7_keepPress_76 ?_
  refine lv_iload_n hx hb dX7_keepPress_79 rfl (lv_at hl 3 rfl) ?_
  refine lv_iload_n hx hb dX7_keepPress_80 rfl (lv_at hl 1 rfl) ?_
  obtain ⟨hg_1, hm⟩ := mg_of hm
  refine va_iast hx hb hK hP hD hS 11 0 rfl rfl hg_1 dX7_keepPress_81 (fun H locs hP hD hS => ?_)
  have hP : va_P D vwCl (wdX7 q y M_thrown M_text M_size M_has M_hand M_layers M_kinds M_names M_nameSizes M_thicknesses M_spreads M_coppers M_copperAt M_presses (upd M_pressFrom (v3).toNatClampNeg v1) M_pressTo M_vias M_viaFrom M_viaTo M_shares M_lists M_hasRow M_rowLow M_rowHigh M_p M_s M_fault M_lines M_word M_wordSize M_out M_written M_secondOne) H := hP
  have hD : va_D A (wdX7 q y M_thrown M_text M_size M_has M_hand M_layers M_kinds M_names M_nameSizes M_thicknesses M_spreads M_coppers M_copperAt M_presses (upd M_pressFrom (v3).toNatClampNeg v1) M_pressTo M_vias M_viaFrom M_viaTo M_shares M_lists M_hasRow M_rowLow M_rowHigh M_p M_s M_fault M_lines M_word M_wordSize M_out M_written M_secondOne) := hD
  refine lv_aload_n hx hb dX7_keepPress_82 rfl (lv_at hl 0 rfl) ?_
  refine va_get (D := D) (ci := 7) (v := .ref (q 12)) (C := RX7) (T := TX7) (N := 33) hx hb hts n_X7_keepPress_X7 hown hK hP 0 rfl rfl 15 (by decide) (hts _ w_X7_keepPress_f44) (fun _ h9 => h9) rfl dX7_keepPress_83 ?_
  refine lv_iload_n hx hb dX7_keepPress_86 rfl (lv_at hl 3 rfl) ?_
  refine lv_iload_n hx hb dX7_keepPress_87 rfl (lv_at hl 2 rfl) ?_
  obtain ⟨hg_2, hm⟩ := mg_of hm
  refine va_iast hx hb hK hP hD hS 12 0 rfl rfl hg_2 dX7_keepPress_88 (fun H locs hP hD hS => ?_)
  have hP : va_P D vwCl (wdX7 q y M_thrown M_text M_size M_has M_hand M_layers M_kinds M_names M_nameSizes M_thicknesses M_spreads M_coppers M_copperAt M_presses (upd M_pressFrom (v3).toNatClampNeg v1) (upd M_pressTo (v3).toNatClampNeg v2) M_vias M_viaFrom M_viaTo M_shares M_lists M_hasRow M_rowLow M_rowHigh M_p M_s M_fault M_lines M_word M_wordSize M_out M_written M_secondOne) H := hP
  have hD : va_D A (wdX7 q y M_thrown M_text M_size M_has M_hand M_layers M_kinds M_names M_nameSizes M_thicknesses M_spreads M_coppers M_copperAt M_presses (upd M_pressFrom (v3).toNatClampNeg v1) (upd M_pressTo (v3).toNatClampNeg v2) M_vias M_viaFrom M_viaTo M_shares M_lists M_hasRow M_rowLow M_rowHigh M_p M_s M_fault M_lines M_word M_wordSize M_out M_written M_secondOne) := hD
  refine lv_aload_n hx hb dX7_keepPress_89 rfl (lv_at hl 0 rfl) ?_
  refine va_get (D := D) (ci := 7) (v := .ref (q 10)) (C := RX7) (T := TX7) (N := 33) hx hb hts n_X7_keepPress_X7 hown hK hP 0 rfl rfl 13 (by decide) (hts _ w_X7_keepPress_f38) (fun _ h9 => h9) rfl dX7_keepPress_90 ?_
  refine lv_aload_n hx hb dX7_keepPress_93 rfl (lv_at hl 0 rfl) ?_
  refine va_get (D := D) (ci := 7) (v := .int M_s) (C := RX7) (T := TX7) (N := 33) hx hb hts n_X7_keepPress_X7 hown hK hP 0 rfl rfl 25 (by decide) (hts _ w_X7_keepPress_f134) (fun _ h9 => h9) rfl dX7_keepPress_94 ?_
  refine lv_dup2_11 hx hb dX7_keepPress_97 rfl rfl ?_
  obtain ⟨hg_3, hm⟩ := mg_of hm
  refine va_iald hx hb hK hP 10 0 rfl rfl hg_3 dX7_keepPress_98 ?_
  refine lv_iconst (v := (1 : Int32)) hx hb dX7_keepPress_99 (by decide) ?_
  refine lv_iadd hx hb dX7_keepPress_100 ?_
  obtain ⟨hg_4, hm⟩ := mg_of hm
  refine va_iast hx hb hK hP hD hS 10 0 rfl rfl hg_4 dX7_keepPress_101 (fun H locs hP hD hS => ?_)
  have hP : va_P D vwCl (wdX7 q y M_thrown M_text M_size M_has M_hand M_layers M_kinds M_names M_nameSizes M_thicknesses M_spreads M_coppers M_copperAt (upd M_presses (M_s).toNatClampNeg ((M_presses (M_s).toNatClampNeg) + (1 : Int32))) (upd M_pressFrom (v3).toNatClampNeg v1) (upd M_pressTo (v3).toNatClampNeg v2) M_vias M_viaFrom M_viaTo M_shares M_lists M_hasRow M_rowLow M_rowHigh M_p M_s M_fault M_lines M_word M_wordSize M_out M_written M_secondOne) H := hP
  have hD : va_D A (wdX7 q y M_thrown M_text M_size M_has M_hand M_layers M_kinds M_names M_nameSizes M_thicknesses M_spreads M_coppers M_copperAt (upd M_presses (M_s).toNatClampNeg ((M_presses (M_s).toNatClampNeg) + (1 : Int32))) (upd M_pressFrom (v3).toNatClampNeg v1) (upd M_pressTo (v3).toNatClampNeg v2) M_vias M_viaFrom M_viaTo M_shares M_lists M_hasRow M_rowLow M_rowHigh M_p M_s M_fault M_lines M_word M_wordSize M_out M_written M_secondOne) := hD
  have hz := Option.some.inj hm
  subst hz
  exact end_v C hK hP hD hS dX7_keepPress_102
set_option maxHeartbeats 4000000 in
set_option maxRecDepth 100000 in
theorem k_X7_keepPress_18 {p : Program} {l : Launch} {e : Env} {s : State} {m : MethodId} {args : Array Value} {below : List Frame} {meth : Method} {c : Code} {D : va_G} {y : Nat → ClassId} {A : Nat → Prop} {q : Nat → Nat} {M_thrown : Int32} {M_text : Nat → Int32} {M_size : Int32} {M_has : Int32} {M_hand : Int32} {M_layers : Nat → Int32} {M_kinds : Nat → Int32} {M_names : Nat → Int64} {M_nameSizes : Nat → Int32} {M_thicknesses : Nat → Int64} {M_spreads : Nat → Int32} {M_coppers : Nat → Int32} {M_copperAt : Nat → Int32} {M_vias : Nat → Int32} {M_viaFrom : Nat → Int32} {M_viaTo : Nat → Int32} {M_shares : Nat → Int32} {M_lists : Int32} {M_hasRow : Nat → Int32} {M_rowLow : Nat → Int64} {M_rowHigh : Nat → Int64} {M_p : Int32} {M_fault : Int32} {M_lines : Int32} {M_word : Int64} {M_wordSize : Int32} {M_out : Nat → Int32} {M_written : Int32} {M_secondOne : Int32} {z : (Nat → Int32) × (Nat → Int32) × (Nat → Int32)} (C : CX p s m args meth c wsX7_keepPress RX7 cX7_keepPress 4 none) (hA : ∀ q : Nat, s.heap.size ≤ q → A q) (hK : va_K D vwCl (tyl y) s) (F : Nat) :
    ∀ (n : Nat), ∀ (v1 : Int32) (v2 : Int32) (v3 : Int32) (M_presses : Nat → Int32) (M_pressFrom : Nat → Int32) (M_pressTo : Nat → Int32) (M_s : Int32) (H : Heap) (locs : List Loc) (ls : Array Slot), g_X7_keepPress_18 F n v1 v2 v3 M_presses M_pressFrom M_pressTo M_s = some z → va_P D vwCl (wdX7 q y M_thrown M_text M_size M_has M_hand M_layers M_kinds M_names M_nameSizes M_thicknesses M_spreads M_coppers M_copperAt M_presses M_pressFrom M_pressTo M_vias M_viaFrom M_viaTo M_shares M_lists M_hasRow M_rowLow M_rowHigh M_p M_s M_fault M_lines M_word M_wordSize M_out M_written M_secondOne) H → va_D A (wdX7 q y M_thrown M_text M_size M_has M_hand M_layers M_kinds M_names M_nameSizes M_thicknesses M_spreads M_coppers M_copperAt M_presses M_pressFrom M_pressTo M_vias M_viaFrom M_viaTo M_shares M_lists M_hasRow M_rowLow M_rowHigh M_p M_s M_fault M_lines M_word M_wordSize M_out M_written M_secondOne) → va_S A s.heap H locs → lv_has ls 4 [(0, .ref (q 0)), (1, .int v1), (2, .int v2), (3, .int v3)] → W p l e ({ frames := 1, cells := 0, slots := 0, locals := 24 } : Room) s m args below meth c H locs 0 0 (MQ below (QV D y A (wdX7 q y M_thrown M_text M_size M_has M_hand M_layers M_kinds M_names M_nameSizes M_thicknesses M_spreads M_coppers M_copperAt (z.1) (z.2.1) (z.2.2) M_vias M_viaFrom M_viaTo M_shares M_lists M_hasRow M_rowLow M_rowHigh M_p M_s M_fault M_lines M_word M_wordSize M_out M_written M_secondOne)) args s 0 0 A) (F0 m 18 ls []) := by
  obtain ⟨⟨hx, hb, hml, hown, hts⟩, hr, hlocks⟩ := id C
  intro n
  induction n with
  | zero =>
    intro v1 v2 v3 M_presses M_pressFrom M_pressTo M_s H locs ls hm
    rw [g_X7_keepPress_18_z] at hm
    cases hm
  | succ n ih =>
    intro v1 v2 v3 M_presses M_pressFrom M_pressTo M_s H locs ls hm hP hD hS hl
    rw [g_X7_keepPress_18_s] at hm
    refine lv_iload_n hx hb dX7_keepPress_18 rfl (lv_at hl 3 rfl) ?_
    refine lv_bipush (v := (22 : Int32)) hx hb dX7_keepPress_19 (by decide) ?_
    refine lv_aload_n hx hb dX7_keepPress_21 rfl (lv_at hl 0 rfl) ?_
    refine va_get (D := D) (ci := 7) (v := .int M_s) (C := RX7) (T := TX7) (N := 33) hx hb hts n_X7_keepPress_X7 hown hK hP 0 rfl rfl 25 (by decide) (hts _ w_X7_keepPress_f134) (fun _ h9 => h9) rfl dX7_keepPress_22 ?_
    refine lv_imul hx hb dX7_keepPress_25 ?_
    refine lv_icmp_le (tgt := 75) hx hb dX7_keepPress_26 (by decide) (fun h_1 => ?_) (fun h_1 => ?_)
    · have hm := it_of hm h_1
      exact k_X7_keepPress_75 C hA hK F v1 v2 v3 M_presses M_pressFrom M_pressTo M_s _ _ _ hm hP hD hS (lv_sub hl [0, 1, 2, 3] rfl)
    · have hm := ie_of hm h_1
      refine lv_aload_n hx hb dX7_keepPress_29 rfl (lv_at hl 0 rfl) ?_
      refine lv_iload_n hx hb dX7_keepPress_30 rfl (lv_at hl 3 rfl) ?_
      refine lv_iconst (v := (1 : Int32)) hx hb dX7_keepPress_31 (by decide) ?_
      refine lv_isub hx hb dX7_keepPress_32 ?_
      refine lv_iload_n hx hb dX7_keepPress_33 rfl (lv_at hl 1 rfl) ?_
      refine lv_iload_n hx hb dX7_keepPress_34 rfl (lv_at hl 2 rfl) ?_
      obtain ⟨r_2, hc_3, hm⟩ := mb1_of hm
      refine call_vi (wc := (wdX7 q y M_thrown M_text M_size M_has M_hand M_layers M_kinds M_names M_nameSizes M_thicknesses M_spreads M_coppers M_copperAt M_presses M_pressFrom M_pressTo M_vias M_viaFrom M_viaTo M_shares M_lists M_hasRow M_rowLow M_rowHigh M_p M_s M_fault M_lines M_word M_wordSize M_out M_written M_secondOne)) (wr := []) (As := [.int (v3 - (1 : Int32)), .int v1, .int v2]) (rest := []) C (c_X7_isBehind l D y q _ F hc_3) (cwV 3 hts gX7_keepPress_X7_isBehind rfl rfl rfl (by decide +kernel) ⟨Nat.le_of_ble_eq_true rfl, Nat.le_of_ble_eq_true rfl⟩) hK hP hD hS hA [0, 1, 2, 3, 4, 5, 6, 7, 8, 9, 10, 11, 12, 13, 14, 15, 16, 17, 18, 19, 20] [] rfl rfl rfl rfl rfl (by decide) rfl rfl rfl rfl hl.1 (Nat.le_of_ble_eq_true rfl) dX7_keepPress_35 (fun H locs hP hD hS => ?_)
      have hP : va_P D vwCl (wdX7 q y M_thrown M_text M_size M_has M_hand M_layers M_kinds M_names M_nameSizes M_thicknesses M_spreads M_coppers M_copperAt M_presses M_pressFrom M_pressTo M_vias M_viaFrom M_viaTo M_shares M_lists M_hasRow M_rowLow M_rowHigh M_p M_s M_fault M_lines M_word M_wordSize M_out M_written M_secondOne) H := hP
      have hD : va_D A (wdX7 q y M_thrown M_text M_size M_has M_hand M_layers M_kinds M_names M_nameSizes M_thicknesses M_spreads M_coppers M_copperAt M_presses M_pressFrom M_pressTo M_vias M_viaFrom M_viaTo M_shares M_lists M_hasRow M_rowLow M_rowHigh M_p M_s M_fault M_lines M_word M_wordSize M_out M_written M_secondOne) := hD
      refine lv_if_eq (tgt := 75) hx hb dX7_keepPress_38 (by decide) (fun h_4 => ?_) (fun h_4 => ?_)
      · have hm := it_of hm h_4
        exact k_X7_keepPress_75 C hA hK F v1 v2 v3 M_presses M_pressFrom M_pressTo M_s _ _ _ hm hP hD hS (lv_sub hl [0, 1, 2, 3] rfl)
      · have hm := ie_of hm h_4
        refine lv_aload_n hx hb dX7_keepPress_41 rfl (lv_at hl 0 rfl) ?_
        refine va_get (D := D) (ci := 7) (v := .ref (q 11)) (C := RX7) (T := TX7) (N := 33) hx hb hts n_X7_keepPress_X7 hown hK hP 0 rfl rfl 14 (by decide) (hts _ w_X7_keepPress_f41) (fun _ h9 => h9) rfl dX7_keepPress_42 ?_
        refine lv_iload_n hx hb dX7_keepPress_45 rfl (lv_at hl 3 rfl) ?_
        refine lv_aload_n hx hb dX7_keepPress_46 rfl (lv_at hl 0 rfl) ?_
        refine va_get (D := D) (ci := 7) (v := .ref (q 11)) (C := RX7) (T := TX7) (N := 33) hx hb hts n_X7_keepPress_X7 hown hK hP 0 rfl rfl 14 (by decide) (hts _ w_X7_keepPress_f41) (fun _ h9 => h9) rfl dX7_keepPress_47 ?_
        refine lv_iload_n hx hb dX7_keepPress_50 rfl (lv_at hl 3 rfl) ?_
        refine lv_iconst (v := (1 : Int32)) hx hb dX7_keepPress_51 (by decide) ?_
        refine lv_isub hx hb dX7_keepPress_52 ?_
        obtain ⟨hg_5, hm⟩ := mg_of hm
        refine va_iald hx hb hK hP 11 0 rfl rfl hg_5 dX7_keepPress_53 ?_
        obtain ⟨hg_6, hm⟩ := mg_of hm
        refine va_iast hx hb hK hP hD hS 11 0 rfl rfl hg_6 dX7_keepPress_54 (fun H locs hP hD hS => ?_)
        have hP : va_P D vwCl (wdX7 q y M_thrown M_text M_size M_has M_hand M_layers M_kinds M_names M_nameSizes M_thicknesses M_spreads M_coppers M_copperAt M_presses (upd M_pressFrom (v3).toNatClampNeg (M_pressFrom ((v3 - (1 : Int32))).toNatClampNeg)) M_pressTo M_vias M_viaFrom M_viaTo M_shares M_lists M_hasRow M_rowLow M_rowHigh M_p M_s M_fault M_lines M_word M_wordSize M_out M_written M_secondOne) H := hP
        have hD : va_D A (wdX7 q y M_thrown M_text M_size M_has M_hand M_layers M_kinds M_names M_nameSizes M_thicknesses M_spreads M_coppers M_copperAt M_presses (upd M_pressFrom (v3).toNatClampNeg (M_pressFrom ((v3 - (1 : Int32))).toNatClampNeg)) M_pressTo M_vias M_viaFrom M_viaTo M_shares M_lists M_hasRow M_rowLow M_rowHigh M_p M_s M_fault M_lines M_word M_wordSize M_out M_written M_secondOne) := hD
        refine lv_aload_n hx hb dX7_keepPress_55 rfl (lv_at hl 0 rfl) ?_
        refine va_get (D := D) (ci := 7) (v := .ref (q 12)) (C := RX7) (T := TX7) (N := 33) hx hb hts n_X7_keepPress_X7 hown hK hP 0 rfl rfl 15 (by decide) (hts _ w_X7_keepPress_f44) (fun _ h9 => h9) rfl dX7_keepPress_56 ?_
        refine lv_iload_n hx hb dX7_keepPress_59 rfl (lv_at hl 3 rfl) ?_
        refine lv_aload_n hx hb dX7_keepPress_60 rfl (lv_at hl 0 rfl) ?_
        refine va_get (D := D) (ci := 7) (v := .ref (q 12)) (C := RX7) (T := TX7) (N := 33) hx hb hts n_X7_keepPress_X7 hown hK hP 0 rfl rfl 15 (by decide) (hts _ w_X7_keepPress_f44) (fun _ h9 => h9) rfl dX7_keepPress_61 ?_
        refine lv_iload_n hx hb dX7_keepPress_64 rfl (lv_at hl 3 rfl) ?_
        refine lv_iconst (v := (1 : Int32)) hx hb dX7_keepPress_65 (by decide) ?_
        refine lv_isub hx hb dX7_keepPress_66 ?_
        obtain ⟨hg_7, hm⟩ := mg_of hm
        refine va_iald hx hb hK hP 12 0 rfl rfl hg_7 dX7_keepPress_67 ?_
        obtain ⟨hg_8, hm⟩ := mg_of hm
        refine va_iast hx hb hK hP hD hS 12 0 rfl rfl hg_8 dX7_keepPress_68 (fun H locs hP hD hS => ?_)
        have hP : va_P D vwCl (wdX7 q y M_thrown M_text M_size M_has M_hand M_layers M_kinds M_names M_nameSizes M_thicknesses M_spreads M_coppers M_copperAt M_presses (upd M_pressFrom (v3).toNatClampNeg (M_pressFrom ((v3 - (1 : Int32))).toNatClampNeg)) (upd M_pressTo (v3).toNatClampNeg (M_pressTo ((v3 - (1 : Int32))).toNatClampNeg)) M_vias M_viaFrom M_viaTo M_shares M_lists M_hasRow M_rowLow M_rowHigh M_p M_s M_fault M_lines M_word M_wordSize M_out M_written M_secondOne) H := hP
        have hD : va_D A (wdX7 q y M_thrown M_text M_size M_has M_hand M_layers M_kinds M_names M_nameSizes M_thicknesses M_spreads M_coppers M_copperAt M_presses (upd M_pressFrom (v3).toNatClampNeg (M_pressFrom ((v3 - (1 : Int32))).toNatClampNeg)) (upd M_pressTo (v3).toNatClampNeg (M_pressTo ((v3 - (1 : Int32))).toNatClampNeg)) M_vias M_viaFrom M_viaTo M_shares M_lists M_hasRow M_rowLow M_rowHigh M_p M_s M_fault M_lines M_word M_wordSize M_out M_written M_secondOne) := hD
        obtain ⟨v3_9, ev3_9⟩ : ∃ y9 : Int32, y9 = (v3 + (-1 : Int32)) := ⟨_, rfl⟩
        have hm := mn_of ev3_9 hm
        refine lv_iinc (v := v3_9) (lv' := [(3, .int v3_9), (0, .ref (q 0)), (1, .int v1), (2, .int v2)]) hx hb dX7_keepPress_69 hl (k := 3) rfl (by rw [ev3_9]; rfl) (by decide) rfl (fun ls hl => ?_)
        refine lv_goto (tgt := 18) hx hb dX7_keepPress_72 (by decide) ?_
        exact ih v1 v2 v3_9 M_presses (upd M_pressFrom (v3).toNatClampNeg (M_pressFrom ((v3 - (1 : Int32))).toNatClampNeg)) (upd M_pressTo (v3).toNatClampNeg (M_pressTo ((v3 - (1 : Int32))).toNatClampNeg)) M_s _ _ _ hm hP hD hS (lv_sub hl [1, 2, 3, 0] rfl)
set_option maxHeartbeats 4000000 in
set_option maxRecDepth 100000 in
theorem c_X7_keepPress (l : Launch) (D : va_G) (y : Nat → ClassId) (q : Nat → Nat) (sz : Nat) (F : Nat) {v1 : Int32} {v2 : Int32} {M_thrown : Int32} {M_text : Nat → Int32} {M_size : Int32} {M_has : Int32} {M_hand : Int32} {M_layers : Nat → Int32} {M_kinds : Nat → Int32} {M_names : Nat → Int64} {M_nameSizes : Nat → Int32} {M_thicknesses : Nat → Int64} {M_spreads : Nat → Int32} {M_coppers : Nat → Int32} {M_copperAt : Nat → Int32} {M_presses : Nat → Int32} {M_pressFrom : Nat → Int32} {M_pressTo : Nat → Int32} {M_vias : Nat → Int32} {M_viaFrom : Nat → Int32} {M_viaTo : Nat → Int32} {M_shares : Nat → Int32} {M_lists : Int32} {M_hasRow : Nat → Int32} {M_rowLow : Nat → Int64} {M_rowHigh : Nat → Int64} {M_p : Int32} {M_s : Int32} {M_fault : Int32} {M_lines : Int32} {M_word : Int64} {M_wordSize : Int32} {M_out : Nat → Int32} {M_written : Int32} {M_secondOne : Int32} {z : (Nat → Int32) × (Nat → Int32) × (Nat → Int32)} (hm : f_X7_keepPress F v1 v2 M_presses M_pressFrom M_pressTo M_s = some z) : Met l yX7_keepPress wsX7_keepPress ({ frames := 1, cells := 0, slots := 0, locals := 24 } : Room) (va_Pc [.ref (q 0), .int v1, .int v2] (cP D y (wdX7 q y M_thrown M_text M_size M_has M_hand M_layers M_kinds M_names M_nameSizes M_thicknesses M_spreads M_coppers M_copperAt M_presses M_pressFrom M_pressTo M_vias M_viaFrom M_viaTo M_shares M_lists M_hasRow M_rowLow M_rowHigh M_p M_s M_fault M_lines M_word M_wordSize M_out M_written M_secondOne) sz)) (QV D y (va_A (wdX7 q y M_thrown M_text M_size M_has M_hand M_layers M_kinds M_names M_nameSizes M_thicknesses M_spreads M_coppers M_copperAt M_presses M_pressFrom M_pressTo M_vias M_viaFrom M_viaTo M_shares M_lists M_hasRow M_rowLow M_rowHigh M_p M_s M_fault M_lines M_word M_wordSize M_out M_written M_secondOne) sz) (wdX7 q y M_thrown M_text M_size M_has M_hand M_layers M_kinds M_names M_nameSizes M_thicknesses M_spreads M_coppers M_copperAt (z.1) (z.2.1) (z.2.2) M_vias M_viaFrom M_viaTo M_shares M_lists M_hasRow M_rowLow M_rowHigh M_p M_s M_fault M_lines M_word M_wordSize M_out M_written M_secondOne)) 0 0 (va_A (wdX7 q y M_thrown M_text M_size M_has M_hand M_layers M_kinds M_names M_nameSizes M_thicknesses M_spreads M_coppers M_copperAt M_presses M_pressFrom M_pressTo M_vias M_viaFrom M_viaTo M_shares M_lists M_hasRow M_rowLow M_rowHigh M_p M_s M_fault M_lines M_word M_wordSize M_out M_written M_secondOne) sz) := by
  refine met_of (own := RX7) (cc := cX7_keepPress) (maxL := 4) (ret := none) (by decide) rfl rfl (Nat.le_of_ble_eq_true rfl) ?_
  intro p e s m below meth c ls C hsz hK hP hD hA hS hl
  obtain ⟨⟨hx, hb, hml, hown, hts⟩, hr, hlocks⟩ := id C
  have hl : lv_has ls 4 [(0, .ref (q 0)), (1, .int v1), (2, .int v2)] := hl
  generalize va_A (wdX7 q y M_thrown M_text M_size M_has M_hand M_layers M_kinds M_names M_nameSizes M_thicknesses M_spreads M_coppers M_copperAt M_presses M_pressFrom M_pressTo M_vias M_viaFrom M_viaTo M_shares M_lists M_hasRow M_rowLow M_rowHigh M_p M_s M_fault M_lines M_word M_wordSize M_out M_written M_secondOne) sz = A at hD hA hS ⊢
  generalize ([.ref (q 0), .int v1, .int v2] : List Value).toArray = args at C hts ⊢
  unfold f_X7_keepPress at hm
  refine lv_bipush (v := (22 : Int32)) hx hb dX7_keepPress_0 (by decide) ?_
  refine lv_aload_n hx hb dX7_keepPress_2 rfl (lv_at hl 0 rfl) ?_
  refine va_get (D := D) (ci := 7) (v := .int M_s) (C := RX7) (T := TX7) (N := 33) hx hb hts n_X7_keepPress_X7 hown hK hP 0 rfl rfl 25 (by decide) (hts _ w_X7_keepPress_f134) (fun _ h9 => h9) rfl dX7_keepPress_3 ?_
  refine lv_imul hx hb dX7_keepPress_6 ?_
  refine lv_aload_n hx hb dX7_keepPress_7 rfl (lv_at hl 0 rfl) ?_
  refine va_get (D := D) (ci := 7) (v := .ref (q 10)) (C := RX7) (T := TX7) (N := 33) hx hb hts n_X7_keepPress_X7 hown hK hP 0 rfl rfl 13 (by decide) (hts _ w_X7_keepPress_f38) (fun _ h9 => h9) rfl dX7_keepPress_8 ?_
  refine lv_aload_n hx hb dX7_keepPress_11 rfl (lv_at hl 0 rfl) ?_
  refine va_get (D := D) (ci := 7) (v := .int M_s) (C := RX7) (T := TX7) (N := 33) hx hb hts n_X7_keepPress_X7 hown hK hP 0 rfl rfl 25 (by decide) (hts _ w_X7_keepPress_f134) (fun _ h9 => h9) rfl dX7_keepPress_12 ?_
  obtain ⟨hg_1, hm⟩ := mg_of hm
  refine va_iald hx hb hK hP 10 0 rfl rfl hg_1 dX7_keepPress_15 ?_
  refine lv_iadd hx hb dX7_keepPress_16 ?_
  refine lv_topi (fun v3_2 ev3_2 => ?_)
  have hm := mn_of ev3_2 hm
  refine lv_istore_n (lv' := [(3, .int v3_2), (0, .ref (q 0)), (1, .int v1), (2, .int v2)]) hx hb dX7_keepPress_17 rfl hl (by decide) rfl (fun ls hl => ?_)
  exact k_X7_keepPress_18 C hA hK F F v1 v2 v3_2 M_presses M_pressFrom M_pressTo M_s _ _ _ hm hP hD hS (lv_sub hl [1, 2, 3, 0] rfl)
def g_X7_pressLine_187 (F : Nat) (K_51 : Int32 → Int32 → Int32 → Int32 → (Nat → Int32) → Int32 → (Nat → Int32) → (Nat → Int32) → (Nat → Int32) → Int32 → Int32 → Int32 → Int64 → Int32 → Int32 → Option ((Nat → Int32) × (Nat → Int32) × (Nat → Int32) × Int32 × Int32 × Int64 × Int32 × Int32)) (v1 : Int32) (v2 : Int32) (v3 : Int32) (v4 : Int32) (v5 : Int32) (v6 : Int32) (st0 : Int32) (M_text : Nat → Int32) (M_size : Int32) (M_presses : Nat → Int32) (M_pressFrom : Nat → Int32) (M_pressTo : Nat → Int32) (M_p : Int32) (M_s : Int32) (M_fault : Int32) (M_word : Int64) (M_wordSize : Int32) (M_secondOne : Int32) : Option ((Nat → Int32) × (Nat → Int32) × (Nat → Int32) × Int32 × Int32 × Int64 × Int32 × Int32) := (if v6 = 0 then (if v5 = 0 then (if st0 = 0 then mb1 (f_X7_fail F v1 M_fault) (fun M_fault_9 => mn (v4 + (1 : Int32)) (fun v4_11 => K_51 v1 v2 v3 v4_11 M_text M_size M_presses M_pressFrom M_pressTo M_p M_s M_fault_9 M_word M_wordSize M_secondOne)) else mn (v4 + (1 : Int32)) (fun v4_8 => K_51 v1 v2 v3 v4_8 M_text M_size M_presses M_pressFrom M_pressTo M_p M_s M_fault M_word M_wordSize M_secondOne)) else mn (v4 + (1 : Int32)) (fun v4_6 => K_51 v1 v2 v3 v4_6 M_text M_size M_presses M_pressFrom M_pressTo M_p M_s M_fault M_word M_wordSize M_secondOne)) else mb1 (f_X7_fail F v1 M_fault) (fun M_fault_2 => mn (v4 + (1 : Int32)) (fun v4_4 => K_51 v1 v2 v3 v4_4 M_text M_size M_presses M_pressFrom M_pressTo M_p M_s M_fault_2 M_word M_wordSize M_secondOne)))
def g_X7_pressLine_160 (F : Nat) (K_51 : Int32 → Int32 → Int32 → Int32 → (Nat → Int32) → Int32 → (Nat → Int32) → (Nat → Int32) → (Nat → Int32) → Int32 → Int32 → Int32 → Int64 → Int32 → Int32 → Option ((Nat → Int32) × (Nat → Int32) × (Nat → Int32) × Int32 × Int32 × Int64 × Int32 × Int32)) (v1 : Int32) (v2 : Int32) (v3 : Int32) (v4 : Int32) (v5 : Int32) (v6 : Int32) (M_text : Nat → Int32) (M_size : Int32) (M_presses : Nat → Int32) (M_pressFrom : Nat → Int32) (M_pressTo : Nat → Int32) (M_p : Int32) (M_s : Int32) (M_fault : Int32) (M_word : Int64) (M_wordSize : Int32) (M_secondOne : Int32) : Option ((Nat → Int32) × (Nat → Int32) × (Nat → Int32) × Int32 × Int32 × Int64 × Int32 × Int32) := mg (inb v4 44) ((if v2 < (M_pressFrom (v4).toNatClampNeg) then g_X7_pressLine_187 F K_51 v1 v2 v3 v4 v5 v6 (0 : Int32) M_text M_size M_presses M_pressFrom M_pressTo M_p M_s M_fault M_word M_wordSize M_secondOne else mg (inb v4 44) ((if (M_pressTo (v4).toNatClampNeg) < v3 then g_X7_pressLine_187 F K_51 v1 v2 v3 v4 v5 v6 (0 : Int32) M_text M_size M_presses M_pressFrom M_pressTo M_p M_s M_fault M_word M_wordSize M_secondOne else g_X7_pressLine_187 F K_51 v1 v2 v3 v4 v5 v6 (1 : Int32) M_text M_size M_presses M_pressFrom M_pressTo M_p M_s M_fault M_word M_wordSize M_secondOne))))
def g_X7_pressLine_136 (F : Nat) (K_51 : Int32 → Int32 → Int32 → Int32 → (Nat → Int32) → Int32 → (Nat → Int32) → (Nat → Int32) → (Nat → Int32) → Int32 → Int32 → Int32 → Int64 → Int32 → Int32 → Option ((Nat → Int32) × (Nat → Int32) × (Nat → Int32) × Int32 × Int32 × Int64 × Int32 × Int32)) (v1 : Int32) (v2 : Int32) (v3 : Int32) (v4 : Int32) (v5 : Int32) (st0 : Int32) (M_text : Nat → Int32) (M_size : Int32) (M_presses : Nat → Int32) (M_pressFrom : Nat → Int32) (M_pressTo : Nat → Int32) (M_p : Int32) (M_s : Int32) (M_fault : Int32) (M_word : Int64) (M_wordSize : Int32) (M_secondOne : Int32) : Option ((Nat → Int32) × (Nat → Int32) × (Nat → Int32) × Int32 × Int32 × Int64 × Int32 × Int32) := mg (inb v4 44) ((if (M_pressFrom (v4).toNatClampNeg) < v2 then g_X7_pressLine_160 F K_51 v1 v2 v3 v4 v5 st0 M_text M_size M_presses M_pressFrom M_pressTo M_p M_s M_fault M_word M_wordSize M_secondOne else mg (inb v4 44) ((if (M_pressTo (v4).toNatClampNeg) ≤ v3 then g_X7_pressLine_187 F K_51 v1 v2 v3 v4 v5 st0 (1 : Int32) M_text M_size M_presses M_pressFrom M_pressTo M_p M_s M_fault M_word M_wordSize M_secondOne else g_X7_pressLine_160 F K_51 v1 v2 v3 v4 v5 st0 M_text M_size M_presses M_pressFrom M_pressTo M_p M_s M_fault M_word M_wordSize M_secondOne))))
def g_X7_pressLine_107 (F : Nat) (K_51 : Int32 → Int32 → Int32 → Int32 → (Nat → Int32) → Int32 → (Nat → Int32) → (Nat → Int32) → (Nat → Int32) → Int32 → Int32 → Int32 → Int64 → Int32 → Int32 → Option ((Nat → Int32) × (Nat → Int32) × (Nat → Int32) × Int32 × Int32 × Int64 × Int32 × Int32)) (v1 : Int32) (v2 : Int32) (v3 : Int32) (v4 : Int32) (st0 : Int32) (M_text : Nat → Int32) (M_size : Int32) (M_presses : Nat → Int32) (M_pressFrom : Nat → Int32) (M_pressTo : Nat → Int32) (M_p : Int32) (M_s : Int32) (M_fault : Int32) (M_word : Int64) (M_wordSize : Int32) (M_secondOne : Int32) : Option ((Nat → Int32) × (Nat → Int32) × (Nat → Int32) × Int32 × Int32 × Int64 × Int32 × Int32) := mg (inb v4 44) ((if (M_pressFrom (v4).toNatClampNeg) = v2 then mg (inb v4 44) ((if (M_pressTo (v4).toNatClampNeg) = v3 then g_X7_pressLine_136 F K_51 v1 v2 v3 v4 st0 (1 : Int32) M_text M_size M_presses M_pressFrom M_pressTo M_p M_s M_fault M_word M_wordSize M_secondOne else g_X7_pressLine_136 F K_51 v1 v2 v3 v4 st0 (0 : Int32) M_text M_size M_presses M_pressFrom M_pressTo M_p M_s M_fault M_word M_wordSize M_secondOne)) else g_X7_pressLine_136 F K_51 v1 v2 v3 v4 st0 (0 : Int32) M_text M_size M_presses M_pressFrom M_pressTo M_p M_s M_fault M_word M_wordSize M_secondOne))
def g_X7_pressLine_215 (F : Nat) (v2 : Int32) (v3 : Int32) (M_text : Nat → Int32) (M_size : Int32) (M_presses : Nat → Int32) (M_pressFrom : Nat → Int32) (M_pressTo : Nat → Int32) (M_p : Int32) (M_s : Int32) (M_fault : Int32) (M_word : Int64) (M_wordSize : Int32) (M_secondOne : Int32) : Option ((Nat → Int32) × (Nat → Int32) × (Nat → Int32) × Int32 × Int32 × Int64 × Int32 × Int32) := mb2 (f_X7_expect F (10 : Int32) M_text M_size M_p M_fault) (fun M_p_1 M_fault_2 => mb1 (f_X7_good F M_fault_2) (fun r_4 => (if r_4 = 0 then some (M_presses, M_pressFrom, M_pressTo, M_p_1, M_fault_2, M_word, M_wordSize, M_secondOne) else mb3 (f_X7_keepPress F v2 v3 M_presses M_pressFrom M_pressTo M_s) (fun M_presses_7 M_pressFrom_8 M_pressTo_9 => some (M_presses_7, M_pressFrom_8, M_pressTo_9, M_p_1, M_fault_2, M_word, M_wordSize, M_secondOne)))))
def g_X7_pressLine_51 (F : Nat) : Nat → Int32 → Int32 → Int32 → Int32 → (Nat → Int32) → Int32 → (Nat → Int32) → (Nat → Int32) → (Nat → Int32) → Int32 → Int32 → Int32 → Int64 → Int32 → Int32 → Option ((Nat → Int32) × (Nat → Int32) × (Nat → Int32) × Int32 × Int32 × Int64 × Int32 × Int32)
  | 0, _, _, _, _, _, _, _, _, _, _, _, _, _, _, _ => none
  | n + 1, v1, v2, v3, v4, M_text, M_size, M_presses, M_pressFrom, M_pressTo, M_p, M_s, M_fault, M_word, M_wordSize, M_secondOne => mg (inb M_s 2) ((if (((22 : Int32) * M_s) + (M_presses (M_s).toNatClampNeg)) ≤ v4 then g_X7_pressLine_215 F v2 v3 M_text M_size M_presses M_pressFrom M_pressTo M_p M_s M_fault M_word M_wordSize M_secondOne else mb1 (f_X7_good F M_fault) (fun r_3 => (if r_3 = 0 then g_X7_pressLine_215 F v2 v3 M_text M_size M_presses M_pressFrom M_pressTo M_p M_s M_fault M_word M_wordSize M_secondOne else mg (inb v4 44) ((if (M_pressTo (v4).toNatClampNeg) < v2 then g_X7_pressLine_107 F (g_X7_pressLine_51 F n) v1 v2 v3 v4 (1 : Int32) M_text M_size M_presses M_pressFrom M_pressTo M_p M_s M_fault M_word M_wordSize M_secondOne else mg (inb v4 44) ((if (M_pressFrom (v4).toNatClampNeg) ≤ v3 then g_X7_pressLine_107 F (g_X7_pressLine_51 F n) v1 v2 v3 v4 (0 : Int32) M_text M_size M_presses M_pressFrom M_pressTo M_p M_s M_fault M_word M_wordSize M_secondOne else g_X7_pressLine_107 F (g_X7_pressLine_51 F n) v1 v2 v3 v4 (1 : Int32) M_text M_size M_presses M_pressFrom M_pressTo M_p M_s M_fault M_word M_wordSize M_secondOne))))))))
theorem g_X7_pressLine_51_z (F : Nat) (v1 : Int32) (v2 : Int32) (v3 : Int32) (v4 : Int32) (M_text : Nat → Int32) (M_size : Int32) (M_presses : Nat → Int32) (M_pressFrom : Nat → Int32) (M_pressTo : Nat → Int32) (M_p : Int32) (M_s : Int32) (M_fault : Int32) (M_word : Int64) (M_wordSize : Int32) (M_secondOne : Int32) : g_X7_pressLine_51 F 0 v1 v2 v3 v4 M_text M_size M_presses M_pressFrom M_pressTo M_p M_s M_fault M_word M_wordSize M_secondOne = none := rfl
theorem g_X7_pressLine_51_s (F : Nat) (n : Nat) (v1 : Int32) (v2 : Int32) (v3 : Int32) (v4 : Int32) (M_text : Nat → Int32) (M_size : Int32) (M_presses : Nat → Int32) (M_pressFrom : Nat → Int32) (M_pressTo : Nat → Int32) (M_p : Int32) (M_s : Int32) (M_fault : Int32) (M_word : Int64) (M_wordSize : Int32) (M_secondOne : Int32) : g_X7_pressLine_51 F (n + 1) v1 v2 v3 v4 M_text M_size M_presses M_pressFrom M_pressTo M_p M_s M_fault M_word M_wordSize M_secondOne = mg (inb M_s 2) ((if (((22 : Int32) * M_s) + (M_presses (M_s).toNatClampNeg)) ≤ v4 then g_X7_pressLine_215 F v2 v3 M_text M_size M_presses M_pressFrom M_pressTo M_p M_s M_fault M_word M_wordSize M_secondOne else mb1 (f_X7_good F M_fault) (fun r_3 => (if r_3 = 0 then g_X7_pressLine_215 F v2 v3 M_text M_size M_presses M_pressFrom M_pressTo M_p M_s M_fault M_word M_wordSize M_secondOne else mg (inb v4 44) ((if (M_pressTo (v4).toNatClampNeg) < v2 then g_X7_pressLine_107 F (g_X7_pressLine_51 F n) v1 v2 v3 v4 (1 : Int32) M_text M_size M_presses M_pressFrom M_pressTo M_p M_s M_fault M_word M_wordSize M_secondOne else mg (inb v4 44) ((if (M_pressFrom (v4).toNatClampNeg) ≤ v3 then g_X7_pressLine_107 F (g_X7_pressLine_51 F n) v1 v2 v3 v4 (0 : Int32) M_text M_size M_presses M_pressFrom M_pressTo M_p M_s M_fault M_word M_wordSize M_secondOne else g_X7_pressLine_107 F (g_X7_pressLine_51 F n) v1 v2 v3 v4 (1 : Int32) M_text M_size M_presses M_pressFrom M_pressTo M_p M_s M_fault M_word M_wordSize M_secondOne)))))))) := rfl
def f_X7_pressLine (F : Nat) (v1 : Int32) (M_text : Nat → Int32) (M_size : Int32) (M_names : Nat → Int64) (M_nameSizes : Nat → Int32) (M_coppers : Nat → Int32) (M_copperAt : Nat → Int32) (M_presses : Nat → Int32) (M_pressFrom : Nat → Int32) (M_pressTo : Nat → Int32) (M_vias : Nat → Int32) (M_p : Int32) (M_s : Int32) (M_fault : Int32) (M_word : Int64) (M_wordSize : Int32) (M_secondOne : Int32) : Option ((Nat → Int32) × (Nat → Int32) × (Nat → Int32) × Int32 × Int32 × Int64 × Int32 × Int32) := mg (inb M_s 2) ((if 0 < (M_vias (M_s).toNatClampNeg) then mb1 (f_X7_fail F v1 M_fault) (fun M_fault_3 => some (M_presses, M_pressFrom, M_pressTo, M_p, M_fault_3, M_word, M_wordSize, M_secondOne)) else mg (inb M_s 2) ((if (M_presses (M_s).toNatClampNeg) = (20 : Int32) then mb1 (f_X7_fail F v1 M_fault) (fun M_fault_15 => some (M_presses, M_pressFrom, M_pressTo, M_p, M_fault_15, M_word, M_wordSize, M_secondOne)) else mb6 (f_X7_twoNames F M_text M_size M_names M_nameSizes M_coppers M_copperAt M_p M_s M_fault M_word M_wordSize M_secondOne) (fun r_7 M_p_8 M_fault_9 M_word_10 M_wordSize_11 M_secondOne_12 => mn ((22 : Int32) * M_s) (fun v4_14 => g_X7_pressLine_51 F F v1 r_7 M_secondOne_12 v4_14 M_text M_size M_presses M_pressFrom M_pressTo M_p_8 M_s M_fault_9 M_word_10 M_wordSize_11 M_secondOne_12))))))
set_option maxRecDepth 20000 in
theorem n_X7_pressLine_X7 : ∀ w ∈ wsX70, w ∈ wsX7_pressLine := by decide +kernel
set_option maxRecDepth 20000 in
theorem w_X7_pressLine_f134 : Cond.fieldLink RX7 134 "LayerStacksModel" "s" "I" ∈ wsX7_pressLine := by decide +kernel
set_option maxRecDepth 20000 in
theorem w_X7_pressLine_f38 : Cond.fieldLink RX7 38 "LayerStacksModel" "presses" "[I" ∈ wsX7_pressLine := by decide +kernel
set_option maxRecDepth 20000 in
theorem w_X7_pressLine_f44 : Cond.fieldLink RX7 44 "LayerStacksModel" "pressTo" "[I" ∈ wsX7_pressLine := by decide +kernel
set_option maxRecDepth 20000 in
theorem w_X7_pressLine_f41 : Cond.fieldLink RX7 41 "LayerStacksModel" "pressFrom" "[I" ∈ wsX7_pressLine := by decide +kernel
set_option maxRecDepth 20000 in
theorem w_X7_pressLine_f47 : Cond.fieldLink RX7 47 "LayerStacksModel" "vias" "[I" ∈ wsX7_pressLine := by decide +kernel
set_option maxRecDepth 20000 in
theorem w_X7_pressLine_f159 : Cond.fieldLink RX7 159 "LayerStacksModel" "secondOne" "I" ∈ wsX7_pressLine := by decide +kernel
set_option maxHeartbeats 4000000 in
set_option maxRecDepth 100000 in
theorem k_X7_pressLine_187 {p : Program} {l : Launch} {e : Env} {s : State} {m : MethodId} {args : Array Value} {below : List Frame} {meth : Method} {c : Code} {D : va_G} {y : Nat → ClassId} {A : Nat → Prop} {q : Nat → Nat} {M_thrown : Int32} {M_has : Int32} {M_hand : Int32} {M_layers : Nat → Int32} {M_kinds : Nat → Int32} {M_names : Nat → Int64} {M_nameSizes : Nat → Int32} {M_thicknesses : Nat → Int64} {M_spreads : Nat → Int32} {M_coppers : Nat → Int32} {M_copperAt : Nat → Int32} {M_vias : Nat → Int32} {M_viaFrom : Nat → Int32} {M_viaTo : Nat → Int32} {M_shares : Nat → Int32} {M_lists : Int32} {M_hasRow : Nat → Int32} {M_rowLow : Nat → Int64} {M_rowHigh : Nat → Int64} {M_lines : Int32} {M_out : Nat → Int32} {M_written : Int32} {z : (Nat → Int32) × (Nat → Int32) × (Nat → Int32) × Int32 × Int32 × Int64 × Int32 × Int32} (C : CX p s m args meth c wsX7_pressLine RX7 cX7_pressLine 8 none) (hA : ∀ q : Nat, s.heap.size ≤ q → A q) (hK : va_K D vwCl (tyl y) s) (F : Nat) {K_51 : Int32 → Int32 → Int32 → Int32 → (Nat → Int32) → Int32 → (Nat → Int32) → (Nat → Int32) → (Nat → Int32) → Int32 → Int32 → Int32 → Int64 → Int32 → Int32 → Option ((Nat → Int32) × (Nat → Int32) × (Nat → Int32) × Int32 × Int32 × Int64 × Int32 × Int32)} (kK_51 : ∀ (v1 : Int32) (v2 : Int32) (v3 : Int32) (v4 : Int32) (M_text : Nat → Int32) (M_size : Int32) (M_presses : Nat → Int32) (M_pressFrom : Nat → Int32) (M_pressTo : Nat → Int32) (M_p : Int32) (M_s : Int32) (M_fault : Int32) (M_word : Int64) (M_wordSize : Int32) (M_secondOne : Int32) (H : Heap) (locs : List Loc) (ls : Array Slot), K_51 v1 v2 v3 v4 M_text M_size M_presses M_pressFrom M_pressTo M_p M_s M_fault M_word M_wordSize M_secondOne = some z → va_P D vwCl (wdX7 q y M_thrown M_text M_size M_has M_hand M_layers M_kinds M_names M_nameSizes M_thicknesses M_spreads M_coppers M_copperAt M_presses M_pressFrom M_pressTo M_vias M_viaFrom M_viaTo M_shares M_lists M_hasRow M_rowLow M_rowHigh M_p M_s M_fault M_lines M_word M_wordSize M_out M_written M_secondOne) H → va_D A (wdX7 q y M_thrown M_text M_size M_has M_hand M_layers M_kinds M_names M_nameSizes M_thicknesses M_spreads M_coppers M_copperAt M_presses M_pressFrom M_pressTo M_vias M_viaFrom M_viaTo M_shares M_lists M_hasRow M_rowLow M_rowHigh M_p M_s M_fault M_lines M_word M_wordSize M_out M_written M_secondOne) → va_S A s.heap H locs → lv_has ls 8 [(0, .ref (q 0)), (1, .int v1), (2, .int v2), (3, .int v3), (4, .int v4)] → W p l e ({ frames := 3, cells := 0, slots := 0, locals := 65 } : Room) s m args below meth c H locs 0 0 (MQ below (QV D y A (wdX7 q y M_thrown M_text M_size M_has M_hand M_layers M_kinds M_names M_nameSizes M_thicknesses M_spreads M_coppers M_copperAt (z.1) (z.2.1) (z.2.2.1) M_vias M_viaFrom M_viaTo M_shares M_lists M_hasRow M_rowLow M_rowHigh (z.2.2.2.1) M_s (z.2.2.2.2.1) M_lines (z.2.2.2.2.2.1) (z.2.2.2.2.2.2.1) M_out M_written (z.2.2.2.2.2.2.2))) args s 0 0 A) (F0 m 51 ls [])) :
    ∀ (v1 : Int32) (v2 : Int32) (v3 : Int32) (v4 : Int32) (v5 : Int32) (v6 : Int32) (st0 : Int32) (M_text : Nat → Int32) (M_size : Int32) (M_presses : Nat → Int32) (M_pressFrom : Nat → Int32) (M_pressTo : Nat → Int32) (M_p : Int32) (M_s : Int32) (M_fault : Int32) (M_word : Int64) (M_wordSize : Int32) (M_secondOne : Int32) (H : Heap) (locs : List Loc) (ls : Array Slot), g_X7_pressLine_187 F K_51 v1 v2 v3 v4 v5 v6 st0 M_text M_size M_presses M_pressFrom M_pressTo M_p M_s M_fault M_word M_wordSize M_secondOne = some z → va_P D vwCl (wdX7 q y M_thrown M_text M_size M_has M_hand M_layers M_kinds M_names M_nameSizes M_thicknesses M_spreads M_coppers M_copperAt M_presses M_pressFrom M_pressTo M_vias M_viaFrom M_viaTo M_shares M_lists M_hasRow M_rowLow M_rowHigh M_p M_s M_fault M_lines M_word M_wordSize M_out M_written M_secondOne) H → va_D A (wdX7 q y M_thrown M_text M_size M_has M_hand M_layers M_kinds M_names M_nameSizes M_thicknesses M_spreads M_coppers M_copperAt M_presses M_pressFrom M_pressTo M_vias M_viaFrom M_viaTo M_shares M_lists M_hasRow M_rowLow M_rowHigh M_p M_s M_fault M_lines M_word M_wordSize M_out M_written M_secondOne) → va_S A s.heap H locs → lv_has ls 8 [(0, .ref (q 0)), (1, .int v1), (2, .int v2), (3, .int v3), (4, .int v4), (5, .int v5), (6, .int v6)] → W p l e ({ frames := 3, cells := 0, slots := 0, locals := 65 } : Room) s m args below meth c H locs 0 0 (MQ below (QV D y A (wdX7 q y M_thrown M_text M_size M_has M_hand M_layers M_kinds M_names M_nameSizes M_thicknesses M_spreads M_coppers M_copperAt (z.1) (z.2.1) (z.2.2.1) M_vias M_viaFrom M_viaTo M_shares M_lists M_hasRow M_rowLow M_rowHigh (z.2.2.2.1) M_s (z.2.2.2.2.1) M_lines (z.2.2.2.2.2.1) (z.2.2.2.2.2.2.1) M_out M_written (z.2.2.2.2.2.2.2))) args s 0 0 A) (F0 m 187 ls [.int st0]) := by
  obtain ⟨⟨hx, hb, hml, hown, hts⟩, hr, hlocks⟩ := id C
  intro v1 v2 v3 v4 v5 v6 st0 M_text M_size M_presses M_pressFrom M_pressTo M_p M_s M_fault M_word M_wordSize M_secondOne H locs ls hm hP hD hS hl
  unfold g_X7_pressLine_187 at hm
  refine lv_istore (lv' := [(7, .int st0), (0, .ref (q 0)), (1, .int v1), (2, .int v2), (3, .int v3), (4, .int v4), (5, .int v5), (6, .int v6)]) hx hb dX7_pressLine_187 hl (by decide) rfl (fun ls hl => ?_)
  refine lv_iload hx hb dX7_pressLine_189 (lv_at hl 7 rfl) ?_
  refine lv_if_ne (tgt := 204) hx hb dX7_pressLine_191 (by decide) (fun h_1 => ?_) (fun h_1 => ?_)
  · have hm := ie_of hm h_1
    refine lv_aload_n hx hb dX7_pressLine_204 rfl (lv_at hl 1 rfl) ?_
    refine lv_iload_n hx hb dX7_pressLine_205 rfl (lv_at hl 2 rfl) ?_
    obtain ⟨M_fault_2, hc_3, hm⟩ := mb1_of hm
    refine call_vv (wc := (wdX7 q y M_thrown M_text M_size M_has M_hand M_layers M_kinds M_names M_nameSizes M_thicknesses M_spreads M_coppers M_copperAt M_presses M_pressFrom M_pressTo M_vias M_viaFrom M_viaTo M_shares M_lists M_hasRow M_rowLow M_rowHigh M_p M_s M_fault M_lines M_word M_wordSize M_out M_written M_secondOne)) (wr := []) (As := [.int v1]) (rest := []) C (c_X7_fail l D y q _ F hc_3) (cwV 1 hts gX7_pressLine_X7_fail rfl rfl rfl (by decide +kernel) ⟨Nat.le_of_ble_eq_true rfl, Nat.le_of_ble_eq_true rfl⟩) hK hP hD hS hA [0, 1, 2, 3, 4, 5, 6, 7, 8, 9, 10, 11, 12, 13, 14, 15, 16, 17, 18, 19, 20] [] rfl rfl rfl rfl rfl (by decide) rfl rfl rfl rfl hl.1 (Nat.le_of_ble_eq_true rfl) dX7_pressLine_206 (fun H locs hP hD hS => ?_)
    have hP : va_P D vwCl (wdX7 q y M_thrown M_text M_size M_has M_hand M_layers M_kinds M_names M_nameSizes M_thicknesses M_spreads M_coppers M_copperAt M_presses M_pressFrom M_pressTo M_vias M_viaFrom M_viaTo M_shares M_lists M_hasRow M_rowLow M_rowHigh M_p M_s M_fault_2 M_lines M_word M_wordSize M_out M_written M_secondOne) H := hP
    have hD : va_D A (wdX7 q y M_thrown M_text M_size M_has M_hand M_layers M_kinds M_names M_nameSizes M_thicknesses M_spreads M_coppers M_copperAt M_presses M_pressFrom M_pressTo M_vias M_viaFrom M_viaTo M_shares M_lists M_hasRow M_rowLow M_rowHigh M_p M_s M_fault_2 M_lines M_word M_wordSize M_out M_written M_secondOne) := hD
    obtain ⟨v4_4, ev4_4⟩ : ∃ y9 : Int32, y9 = (v4 + (1 : Int32)) := ⟨_, rfl⟩
    have hm := mn_of ev4_4 hm
    refine lv_iinc (v := v4_4) (lv' := [(4, .int v4_4), (7, .int st0), (0, .ref (q 0)), (1, .int v1), (2, .int v2), (3, .int v3), (5, .int v5), (6, .int v6)]) hx hb dX7_pressLine_209 hl (k := 5) rfl (by rw [ev4_4]; rfl) (by decide) rfl (fun ls hl => ?_)
    refine lv_goto (tgt := 51) hx hb dX7_pressLine_212 (by decide) ?_
    exact kK_51 v1 v2 v3 v4_4 M_text M_size M_presses M_pressFrom M_pressTo M_p M_s M_fault_2 M_word M_wordSize M_secondOne _ _ _ hm hP hD hS (lv_sub hl [2, 3, 4, 5, 0] rfl)
  · have hm := it_of hm h_1
    refine lv_iload hx hb dX7_pressLine_194 (lv_at hl 6 rfl) ?_
    refine lv_if_ne (tgt := 209) hx hb dX7_pressLine_196 (by decide) (fun h_5 => ?_) (fun h_5 => ?_)
    · have hm := ie_of hm h_5
      obtain ⟨v4_6, ev4_6⟩ : ∃ y9 : Int32, y9 = (v4 + (1 : Int32)) := ⟨_, rfl⟩
      have hm := mn_of ev4_6 hm
      refine lv_iinc (v := v4_6) (lv' := [(4, .int v4_6), (7, .int st0), (0, .ref (q 0)), (1, .int v1), (2, .int v2), (3, .int v3), (5, .int v5), (6, .int v6)]) hx hb dX7_pressLine_209 hl (k := 5) rfl (by rw [ev4_6]; rfl) (by decide) rfl (fun ls hl => ?_)
      refine lv_goto (tgt := 51) hx hb dX7_pressLine_212 (by decide) ?_
      exact kK_51 v1 v2 v3 v4_6 M_text M_size M_presses M_pressFrom M_pressTo M_p M_s M_fault M_word M_wordSize M_secondOne _ _ _ hm hP hD hS (lv_sub hl [2, 3, 4, 5, 0] rfl)
    · have hm := it_of hm h_5
      refine lv_iload hx hb dX7_pressLine_199 (lv_at hl 0 rfl) ?_
      refine lv_if_ne (tgt := 209) hx hb dX7_pressLine_201 (by decide) (fun h_7 => ?_) (fun h_7 => ?_)
      · have hm := ie_of hm h_7
        obtain ⟨v4_8, ev4_8⟩ : ∃ y9 : Int32, y9 = (v4 + (1 : Int32)) := ⟨_, rfl⟩
        have hm := mn_of ev4_8 hm
        refine lv_iinc (v := v4_8) (lv' := [(4, .int v4_8), (7, .int st0), (0, .ref (q 0)), (1, .int v1), (2, .int v2), (3, .int v3), (5, .int v5), (6, .int v6)]) hx hb dX7_pressLine_209 hl (k := 5) rfl (by rw [ev4_8]; rfl) (by decide) rfl (fun ls hl => ?_)
        refine lv_goto (tgt := 51) hx hb dX7_pressLine_212 (by decide) ?_
        exact kK_51 v1 v2 v3 v4_8 M_text M_size M_presses M_pressFrom M_pressTo M_p M_s M_fault M_word M_wordSize M_secondOne _ _ _ hm hP hD hS (lv_sub hl [2, 3, 4, 5, 0] rfl)
      · have hm := it_of hm h_7
        refine lv_aload_n hx hb dX7_pressLine_204 rfl (lv_at hl 1 rfl) ?_
        refine lv_iload_n hx hb dX7_pressLine_205 rfl (lv_at hl 2 rfl) ?_
        obtain ⟨M_fault_9, hc_10, hm⟩ := mb1_of hm
        refine call_vv (wc := (wdX7 q y M_thrown M_text M_size M_has M_hand M_layers M_kinds M_names M_nameSizes M_thicknesses M_spreads M_coppers M_copperAt M_presses M_pressFrom M_pressTo M_vias M_viaFrom M_viaTo M_shares M_lists M_hasRow M_rowLow M_rowHigh M_p M_s M_fault M_lines M_word M_wordSize M_out M_written M_secondOne)) (wr := []) (As := [.int v1]) (rest := []) C (c_X7_fail l D y q _ F hc_10) (cwV 1 hts gX7_pressLine_X7_fail rfl rfl rfl (by decide +kernel) ⟨Nat.le_of_ble_eq_true rfl, Nat.le_of_ble_eq_true rfl⟩) hK hP hD hS hA [0, 1, 2, 3, 4, 5, 6, 7, 8, 9, 10, 11, 12, 13, 14, 15, 16, 17, 18, 19, 20] [] rfl rfl rfl rfl rfl (by decide) rfl rfl rfl rfl hl.1 (Nat.le_of_ble_eq_true rfl) dX7_pressLine_206 (fun H locs hP hD hS => ?_)
        have hP : va_P D vwCl (wdX7 q y M_thrown M_text M_size M_has M_hand M_layers M_kinds M_names M_nameSizes M_thicknesses M_spreads M_coppers M_copperAt M_presses M_pressFrom M_pressTo M_vias M_viaFrom M_viaTo M_shares M_lists M_hasRow M_rowLow M_rowHigh M_p M_s M_fault_9 M_lines M_word M_wordSize M_out M_written M_secondOne) H := hP
        have hD : va_D A (wdX7 q y M_thrown M_text M_size M_has M_hand M_layers M_kinds M_names M_nameSizes M_thicknesses M_spreads M_coppers M_copperAt M_presses M_pressFrom M_pressTo M_vias M_viaFrom M_viaTo M_shares M_lists M_hasRow M_rowLow M_rowHigh M_p M_s M_fault_9 M_lines M_word M_wordSize M_out M_written M_secondOne) := hD
        obtain ⟨v4_11, ev4_11⟩ : ∃ y9 : Int32, y9 = (v4 + (1 : Int32)) := ⟨_, rfl⟩
        have hm := mn_of ev4_11 hm
        refine lv_iinc (v := v4_11) (lv' := [(4, .int v4_11), (7, .int st0), (0, .ref (q 0)), (1, .int v1), (2, .int v2), (3, .int v3), (5, .int v5), (6, .int v6)]) hx hb dX7_pressLine_209 hl (k := 5) rfl (by rw [ev4_11]; rfl) (by decide) rfl (fun ls hl => ?_)
        refine lv_goto (tgt := 51) hx hb dX7_pressLine_212 (by decide) ?_
        exact kK_51 v1 v2 v3 v4_11 M_text M_size M_presses M_pressFrom M_pressTo M_p M_s M_fault_9 M_word M_wordSize M_secondOne _ _ _ hm hP hD hS (lv_sub hl [2, 3, 4, 5, 0] rfl)
set_option maxHeartbeats 4000000 in
set_option maxRecDepth 100000 in
theorem k_X7_pressLine_160 {p : Program} {l : Launch} {e : Env} {s : State} {m : MethodId} {args : Array Value} {below : List Frame} {meth : Method} {c : Code} {D : va_G} {y : Nat → ClassId} {A : Nat → Prop} {q : Nat → Nat} {M_thrown : Int32} {M_has : Int32} {M_hand : Int32} {M_layers : Nat → Int32} {M_kinds : Nat → Int32} {M_names : Nat → Int64} {M_nameSizes : Nat → Int32} {M_thicknesses : Nat → Int64} {M_spreads : Nat → Int32} {M_coppers : Nat → Int32} {M_copperAt : Nat → Int32} {M_vias : Nat → Int32} {M_viaFrom : Nat → Int32} {M_viaTo : Nat → Int32} {M_shares : Nat → Int32} {M_lists : Int32} {M_hasRow : Nat → Int32} {M_rowLow : Nat → Int64} {M_rowHigh : Nat → Int64} {M_lines : Int32} {M_out : Nat → Int32} {M_written : Int32} {z : (Nat → Int32) × (Nat → Int32) × (Nat → Int32) × Int32 × Int32 × Int64 × Int32 × Int32} (C : CX p s m args meth c wsX7_pressLine RX7 cX7_pressLine 8 none) (hA : ∀ q : Nat, s.heap.size ≤ q → A q) (hK : va_K D vwCl (tyl y) s) (F : Nat) {K_51 : Int32 → Int32 → Int32 → Int32 → (Nat → Int32) → Int32 → (Nat → Int32) → (Nat → Int32) → (Nat → Int32) → Int32 → Int32 → Int32 → Int64 → Int32 → Int32 → Option ((Nat → Int32) × (Nat → Int32) × (Nat → Int32) × Int32 × Int32 × Int64 × Int32 × Int32)} (kK_51 : ∀ (v1 : Int32) (v2 : Int32) (v3 : Int32) (v4 : Int32) (M_text : Nat → Int32) (M_size : Int32) (M_presses : Nat → Int32) (M_pressFrom : Nat → Int32) (M_pressTo : Nat → Int32) (M_p : Int32) (M_s : Int32) (M_fault : Int32) (M_word : Int64) (M_wordSize : Int32) (M_secondOne : Int32) (H : Heap) (locs : List Loc) (ls : Array Slot), K_51 v1 v2 v3 v4 M_text M_size M_presses M_pressFrom M_pressTo M_p M_s M_fault M_word M_wordSize M_secondOne = some z → va_P D vwCl (wdX7 q y M_thrown M_text M_size M_has M_hand M_layers M_kinds M_names M_nameSizes M_thicknesses M_spreads M_coppers M_copperAt M_presses M_pressFrom M_pressTo M_vias M_viaFrom M_viaTo M_shares M_lists M_hasRow M_rowLow M_rowHigh M_p M_s M_fault M_lines M_word M_wordSize M_out M_written M_secondOne) H → va_D A (wdX7 q y M_thrown M_text M_size M_has M_hand M_layers M_kinds M_names M_nameSizes M_thicknesses M_spreads M_coppers M_copperAt M_presses M_pressFrom M_pressTo M_vias M_viaFrom M_viaTo M_shares M_lists M_hasRow M_rowLow M_rowHigh M_p M_s M_fault M_lines M_word M_wordSize M_out M_written M_secondOne) → va_S A s.heap H locs → lv_has ls 8 [(0, .ref (q 0)), (1, .int v1), (2, .int v2), (3, .int v3), (4, .int v4)] → W p l e ({ frames := 3, cells := 0, slots := 0, locals := 65 } : Room) s m args below meth c H locs 0 0 (MQ below (QV D y A (wdX7 q y M_thrown M_text M_size M_has M_hand M_layers M_kinds M_names M_nameSizes M_thicknesses M_spreads M_coppers M_copperAt (z.1) (z.2.1) (z.2.2.1) M_vias M_viaFrom M_viaTo M_shares M_lists M_hasRow M_rowLow M_rowHigh (z.2.2.2.1) M_s (z.2.2.2.2.1) M_lines (z.2.2.2.2.2.1) (z.2.2.2.2.2.2.1) M_out M_written (z.2.2.2.2.2.2.2))) args s 0 0 A) (F0 m 51 ls [])) :
    ∀ (v1 : Int32) (v2 : Int32) (v3 : Int32) (v4 : Int32) (v5 : Int32) (v6 : Int32) (M_text : Nat → Int32) (M_size : Int32) (M_presses : Nat → Int32) (M_pressFrom : Nat → Int32) (M_pressTo : Nat → Int32) (M_p : Int32) (M_s : Int32) (M_fault : Int32) (M_word : Int64) (M_wordSize : Int32) (M_secondOne : Int32) (H : Heap) (locs : List Loc) (ls : Array Slot), g_X7_pressLine_160 F K_51 v1 v2 v3 v4 v5 v6 M_text M_size M_presses M_pressFrom M_pressTo M_p M_s M_fault M_word M_wordSize M_secondOne = some z → va_P D vwCl (wdX7 q y M_thrown M_text M_size M_has M_hand M_layers M_kinds M_names M_nameSizes M_thicknesses M_spreads M_coppers M_copperAt M_presses M_pressFrom M_pressTo M_vias M_viaFrom M_viaTo M_shares M_lists M_hasRow M_rowLow M_rowHigh M_p M_s M_fault M_lines M_word M_wordSize M_out M_written M_secondOne) H → va_D A (wdX7 q y M_thrown M_text M_size M_has M_hand M_layers M_kinds M_names M_nameSizes M_thicknesses M_spreads M_coppers M_copperAt M_presses M_pressFrom M_pressTo M_vias M_viaFrom M_viaTo M_shares M_lists M_hasRow M_rowLow M_rowHigh M_p M_s M_fault M_lines M_word M_wordSize M_out M_written M_secondOne) → va_S A s.heap H locs → lv_has ls 8 [(0, .ref (q 0)), (1, .int v1), (2, .int v2), (3, .int v3), (4, .int v4), (5, .int v5), (6, .int v6)] → W p l e ({ frames := 3, cells := 0, slots := 0, locals := 65 } : Room) s m args below meth c H locs 0 0 (MQ below (QV D y A (wdX7 q y M_thrown M_text M_size M_has M_hand M_layers M_kinds M_names M_nameSizes M_thicknesses M_spreads M_coppers M_copperAt (z.1) (z.2.1) (z.2.2.1) M_vias M_viaFrom M_viaTo M_shares M_lists M_hasRow M_rowLow M_rowHigh (z.2.2.2.1) M_s (z.2.2.2.2.1) M_lines (z.2.2.2.2.2.1) (z.2.2.2.2.2.2.1) M_out M_written (z.2.2.2.2.2.2.2))) args s 0 0 A) (F0 m 160 ls []) := by
  obtain ⟨⟨hx, hb, hml, hown, hts⟩, hr, hlocks⟩ := id C
  intro v1 v2 v3 v4 v5 v6 M_text M_size M_presses M_pressFrom M_pressTo M_p M_s M_fault M_word M_wordSize M_secondOne H locs ls hm hP hD hS hl
  unfold g_X7_pressLine_160 at hm
  refine lv_aload_n hx hb dX7_pressLine_160 rfl (lv_at hl 0 rfl) ?_
  refine va_get (D := D) (ci := 7) (v := .ref (q 11)) (C := RX7) (T := TX7) (N := 33) hx hb hts n_X7_pressLine_X7 hown hK hP 0 rfl rfl 14 (by decide) (hts _ w_X7_pressLine_f41) (fun _ h9 => h9) rfl dX7_pressLine_161 ?_
  refine lv_iload hx hb dX7_pressLine_164 (lv_at hl 4 rfl) ?_
  obtain ⟨hg_1, hm⟩ := mg_of hm
  refine va_iald hx hb hK hP 11 0 rfl rfl hg_1 dX7_pressLine_166 ?_
  refine lv_iload_n hx hb dX7_pressLine_167 rfl (lv_at hl 2 rfl) ?_
  refine lv_icmp_gt (tgt := 186) hx hb dX7_pressLine_168 (by decide) (fun h_2 => ?_) (fun h_2 => ?_)
  · have hm := it_of hm h_2
    refine lv_iconst (v := (0 : Int32)) hx hb dX7_pressLine_186 (by decide) ?_
    exact k_X7_pressLine_187 C hA hK F (K_51 := K_51) kK_51 v1 v2 v3 v4 v5 v6 (0 : Int32) M_text M_size M_presses M_pressFrom M_pressTo M_p M_s M_fault M_word M_wordSize M_secondOne _ _ _ hm hP hD hS (lv_sub hl [0, 1, 2, 3, 4, 5, 6] rfl)
  · have hm := ie_of hm h_2
    refine lv_aload_n hx hb dX7_pressLine_171 rfl (lv_at hl 0 rfl) ?_
    refine va_get (D := D) (ci := 7) (v := .ref (q 12)) (C := RX7) (T := TX7) (N := 33) hx hb hts n_X7_pressLine_X7 hown hK hP 0 rfl rfl 15 (by decide) (hts _ w_X7_pressLine_f44) (fun _ h9 => h9) rfl dX7_pressLine_172 ?_
    refine lv_iload hx hb dX7_pressLine_175 (lv_at hl 4 rfl) ?_
    obtain ⟨hg_3, hm⟩ := mg_of hm
    refine va_iald hx hb hK hP 12 0 rfl rfl hg_3 dX7_pressLine_177 ?_
    refine lv_iload_n hx hb dX7_pressLine_178 rfl (lv_at hl 3 rfl) ?_
    refine lv_icmp_lt (tgt := 186) hx hb dX7_pressLine_179 (by decide) (fun h_4 => ?_) (fun h_4 => ?_)
    · have hm := it_of hm h_4
      refine lv_iconst (v := (0 : Int32)) hx hb dX7_pressLine_186 (by decide) ?_
      exact k_X7_pressLine_187 C hA hK F (K_51 := K_51) kK_51 v1 v2 v3 v4 v5 v6 (0 : Int32) M_text M_size M_presses M_pressFrom M_pressTo M_p M_s M_fault M_word M_wordSize M_secondOne _ _ _ hm hP hD hS (lv_sub hl [0, 1, 2, 3, 4, 5, 6] rfl)
    · have hm := ie_of hm h_4
      refine lv_iconst (v := (1 : Int32)) hx hb dX7_pressLine_182 (by decide) ?_
      refine lv_goto (tgt := 187) hx hb dX7_pressLine_183 (by decide) ?_
      exact k_X7_pressLine_187 C hA hK F (K_51 := K_51) kK_51 v1 v2 v3 v4 v5 v6 (1 : Int32) M_text M_size M_presses M_pressFrom M_pressTo M_p M_s M_fault M_word M_wordSize M_secondOne _ _ _ hm hP hD hS (lv_sub hl [0, 1, 2, 3, 4, 5, 6] rfl)
set_option maxHeartbeats 4000000 in
set_option maxRecDepth 100000 in
theorem k_X7_pressLine_136 {p : Program} {l : Launch} {e : Env} {s : State} {m : MethodId} {args : Array Value} {below : List Frame} {meth : Method} {c : Code} {D : va_G} {y : Nat → ClassId} {A : Nat → Prop} {q : Nat → Nat} {M_thrown : Int32} {M_has : Int32} {M_hand : Int32} {M_layers : Nat → Int32} {M_kinds : Nat → Int32} {M_names : Nat → Int64} {M_nameSizes : Nat → Int32} {M_thicknesses : Nat → Int64} {M_spreads : Nat → Int32} {M_coppers : Nat → Int32} {M_copperAt : Nat → Int32} {M_vias : Nat → Int32} {M_viaFrom : Nat → Int32} {M_viaTo : Nat → Int32} {M_shares : Nat → Int32} {M_lists : Int32} {M_hasRow : Nat → Int32} {M_rowLow : Nat → Int64} {M_rowHigh : Nat → Int64} {M_lines : Int32} {M_out : Nat → Int32} {M_written : Int32} {z : (Nat → Int32) × (Nat → Int32) × (Nat → Int32) × Int32 × Int32 × Int64 × Int32 × Int32} (C : CX p s m args meth c wsX7_pressLine RX7 cX7_pressLine 8 none) (hA : ∀ q : Nat, s.heap.size ≤ q → A q) (hK : va_K D vwCl (tyl y) s) (F : Nat) {K_51 : Int32 → Int32 → Int32 → Int32 → (Nat → Int32) → Int32 → (Nat → Int32) → (Nat → Int32) → (Nat → Int32) → Int32 → Int32 → Int32 → Int64 → Int32 → Int32 → Option ((Nat → Int32) × (Nat → Int32) × (Nat → Int32) × Int32 × Int32 × Int64 × Int32 × Int32)} (kK_51 : ∀ (v1 : Int32) (v2 : Int32) (v3 : Int32) (v4 : Int32) (M_text : Nat → Int32) (M_size : Int32) (M_presses : Nat → Int32) (M_pressFrom : Nat → Int32) (M_pressTo : Nat → Int32) (M_p : Int32) (M_s : Int32) (M_fault : Int32) (M_word : Int64) (M_wordSize : Int32) (M_secondOne : Int32) (H : Heap) (locs : List Loc) (ls : Array Slot), K_51 v1 v2 v3 v4 M_text M_size M_presses M_pressFrom M_pressTo M_p M_s M_fault M_word M_wordSize M_secondOne = some z → va_P D vwCl (wdX7 q y M_thrown M_text M_size M_has M_hand M_layers M_kinds M_names M_nameSizes M_thicknesses M_spreads M_coppers M_copperAt M_presses M_pressFrom M_pressTo M_vias M_viaFrom M_viaTo M_shares M_lists M_hasRow M_rowLow M_rowHigh M_p M_s M_fault M_lines M_word M_wordSize M_out M_written M_secondOne) H → va_D A (wdX7 q y M_thrown M_text M_size M_has M_hand M_layers M_kinds M_names M_nameSizes M_thicknesses M_spreads M_coppers M_copperAt M_presses M_pressFrom M_pressTo M_vias M_viaFrom M_viaTo M_shares M_lists M_hasRow M_rowLow M_rowHigh M_p M_s M_fault M_lines M_word M_wordSize M_out M_written M_secondOne) → va_S A s.heap H locs → lv_has ls 8 [(0, .ref (q 0)), (1, .int v1), (2, .int v2), (3, .int v3), (4, .int v4)] → W p l e ({ frames := 3, cells := 0, slots := 0, locals := 65 } : Room) s m args below meth c H locs 0 0 (MQ below (QV D y A (wdX7 q y M_thrown M_text M_size M_has M_hand M_layers M_kinds M_names M_nameSizes M_thicknesses M_spreads M_coppers M_copperAt (z.1) (z.2.1) (z.2.2.1) M_vias M_viaFrom M_viaTo M_shares M_lists M_hasRow M_rowLow M_rowHigh (z.2.2.2.1) M_s (z.2.2.2.2.1) M_lines (z.2.2.2.2.2.1) (z.2.2.2.2.2.2.1) M_out M_written (z.2.2.2.2.2.2.2))) args s 0 0 A) (F0 m 51 ls [])) :
    ∀ (v1 : Int32) (v2 : Int32) (v3 : Int32) (v4 : Int32) (v5 : Int32) (st0 : Int32) (M_text : Nat → Int32) (M_size : Int32) (M_presses : Nat → Int32) (M_pressFrom : Nat → Int32) (M_pressTo : Nat → Int32) (M_p : Int32) (M_s : Int32) (M_fault : Int32) (M_word : Int64) (M_wordSize : Int32) (M_secondOne : Int32) (H : Heap) (locs : List Loc) (ls : Array Slot), g_X7_pressLine_136 F K_51 v1 v2 v3 v4 v5 st0 M_text M_size M_presses M_pressFrom M_pressTo M_p M_s M_fault M_word M_wordSize M_secondOne = some z → va_P D vwCl (wdX7 q y M_thrown M_text M_size M_has M_hand M_layers M_kinds M_names M_nameSizes M_thicknesses M_spreads M_coppers M_copperAt M_presses M_pressFrom M_pressTo M_vias M_viaFrom M_viaTo M_shares M_lists M_hasRow M_rowLow M_rowHigh M_p M_s M_fault M_lines M_word M_wordSize M_out M_written M_secondOne) H → va_D A (wdX7 q y M_thrown M_text M_size M_has M_hand M_layers M_kinds M_names M_nameSizes M_thicknesses M_spreads M_coppers M_copperAt M_presses M_pressFrom M_pressTo M_vias M_viaFrom M_viaTo M_shares M_lists M_hasRow M_rowLow M_rowHigh M_p M_s M_fault M_lines M_word M_wordSize M_out M_written M_secondOne) → va_S A s.heap H locs → lv_has ls 8 [(0, .ref (q 0)), (1, .int v1), (2, .int v2), (3, .int v3), (4, .int v4), (5, .int v5)] → W p l e ({ frames := 3, cells := 0, slots := 0, locals := 65 } : Room) s m args below meth c H locs 0 0 (MQ below (QV D y A (wdX7 q y M_thrown M_text M_size M_has M_hand M_layers M_kinds M_names M_nameSizes M_thicknesses M_spreads M_coppers M_copperAt (z.1) (z.2.1) (z.2.2.1) M_vias M_viaFrom M_viaTo M_shares M_lists M_hasRow M_rowLow M_rowHigh (z.2.2.2.1) M_s (z.2.2.2.2.1) M_lines (z.2.2.2.2.2.1) (z.2.2.2.2.2.2.1) M_out M_written (z.2.2.2.2.2.2.2))) args s 0 0 A) (F0 m 136 ls [.int st0]) := by
  obtain ⟨⟨hx, hb, hml, hown, hts⟩, hr, hlocks⟩ := id C
  intro v1 v2 v3 v4 v5 st0 M_text M_size M_presses M_pressFrom M_pressTo M_p M_s M_fault M_word M_wordSize M_secondOne H locs ls hm hP hD hS hl
  unfold g_X7_pressLine_136 at hm
  refine lv_istore (lv' := [(6, .int st0), (0, .ref (q 0)), (1, .int v1), (2, .int v2), (3, .int v3), (4, .int v4), (5, .int v5)]) hx hb dX7_pressLine_136 hl (by decide) rfl (fun ls hl => ?_)
  refine lv_aload_n hx hb dX7_pressLine_138 rfl (lv_at hl 1 rfl) ?_
  refine va_get (D := D) (ci := 7) (v := .ref (q 11)) (C := RX7) (T := TX7) (N := 33) hx hb hts n_X7_pressLine_X7 hown hK hP 0 rfl rfl 14 (by decide) (hts _ w_X7_pressLine_f41) (fun _ h9 => h9) rfl dX7_pressLine_139 ?_
  refine lv_iload hx hb dX7_pressLine_142 (lv_at hl 5 rfl) ?_
  obtain ⟨hg_1, hm⟩ := mg_of hm
  refine va_iald hx hb hK hP 11 0 rfl rfl hg_1 dX7_pressLine_144 ?_
  refine lv_iload_n hx hb dX7_pressLine_145 rfl (lv_at hl 3 rfl) ?_
  refine lv_icmp_lt (tgt := 160) hx hb dX7_pressLine_146 (by decide) (fun h_2 => ?_) (fun h_2 => ?_)
  · have hm := it_of hm h_2
    exact k_X7_pressLine_160 C hA hK F (K_51 := K_51) kK_51 v1 v2 v3 v4 v5 st0 M_text M_size M_presses M_pressFrom M_pressTo M_p M_s M_fault M_word M_wordSize M_secondOne _ _ _ hm hP hD hS (lv_sub hl [1, 2, 3, 4, 5, 6, 0] rfl)
  · have hm := ie_of hm h_2
    refine lv_aload_n hx hb dX7_pressLine_149 rfl (lv_at hl 1 rfl) ?_
    refine va_get (D := D) (ci := 7) (v := .ref (q 12)) (C := RX7) (T := TX7) (N := 33) hx hb hts n_X7_pressLine_X7 hown hK hP 0 rfl rfl 15 (by decide) (hts _ w_X7_pressLine_f44) (fun _ h9 => h9) rfl dX7_pressLine_150 ?_
    refine lv_iload hx hb dX7_pressLine_153 (lv_at hl 5 rfl) ?_
    obtain ⟨hg_3, hm⟩ := mg_of hm
    refine va_iald hx hb hK hP 12 0 rfl rfl hg_3 dX7_pressLine_155 ?_
    refine lv_iload_n hx hb dX7_pressLine_156 rfl (lv_at hl 4 rfl) ?_
    refine lv_icmp_le (tgt := 182) hx hb dX7_pressLine_157 (by decide) (fun h_4 => ?_) (fun h_4 => ?_)
    · have hm := it_of hm h_4
      refine lv_iconst (v := (1 : Int32)) hx hb dX7_pressLine_182 (by decide) ?_
      refine lv_goto (tgt := 187) hx hb dX7_pressLine_183 (by decide) ?_
      exact k_X7_pressLine_187 C hA hK F (K_51 := K_51) kK_51 v1 v2 v3 v4 v5 st0 (1 : Int32) M_text M_size M_presses M_pressFrom M_pressTo M_p M_s M_fault M_word M_wordSize M_secondOne _ _ _ hm hP hD hS (lv_sub hl [1, 2, 3, 4, 5, 6, 0] rfl)
    · have hm := ie_of hm h_4
      exact k_X7_pressLine_160 C hA hK F (K_51 := K_51) kK_51 v1 v2 v3 v4 v5 st0 M_text M_size M_presses M_pressFrom M_pressTo M_p M_s M_fault M_word M_wordSize M_secondOne _ _ _ hm hP hD hS (lv_sub hl [1, 2, 3, 4, 5, 6, 0] rfl)
set_option maxHeartbeats 4000000 in
set_option maxRecDepth 100000 in
theorem k_X7_pressLine_107 {p : Program} {l : Launch} {e : Env} {s : State} {m : MethodId} {args : Array Value} {below : List Frame} {meth : Method} {c : Code} {D : va_G} {y : Nat → ClassId} {A : Nat → Prop} {q : Nat → Nat} {M_thrown : Int32} {M_has : Int32} {M_hand : Int32} {M_layers : Nat → Int32} {M_kinds : Nat → Int32} {M_names : Nat → Int64} {M_nameSizes : Nat → Int32} {M_thicknesses : Nat → Int64} {M_spreads : Nat → Int32} {M_coppers : Nat → Int32} {M_copperAt : Nat → Int32} {M_vias : Nat → Int32} {M_viaFrom : Nat → Int32} {M_viaTo : Nat → Int32} {M_shares : Nat → Int32} {M_lists : Int32} {M_hasRow : Nat → Int32} {M_rowLow : Nat → Int64} {M_rowHigh : Nat → Int64} {M_lines : Int32} {M_out : Nat → Int32} {M_written : Int32} {z : (Nat → Int32) × (Nat → Int32) × (Nat → Int32) × Int32 × Int32 × Int64 × Int32 × Int32} (C : CX p s m args meth c wsX7_pressLine RX7 cX7_pressLine 8 none) (hA : ∀ q : Nat, s.heap.size ≤ q → A q) (hK : va_K D vwCl (tyl y) s) (F : Nat) {K_51 : Int32 → Int32 → Int32 → Int32 → (Nat → Int32) → Int32 → (Nat → Int32) → (Nat → Int32) → (Nat → Int32) → Int32 → Int32 → Int32 → Int64 → Int32 → Int32 → Option ((Nat → Int32) × (Nat → Int32) × (Nat → Int32) × Int32 × Int32 × Int64 × Int32 × Int32)} (kK_51 : ∀ (v1 : Int32) (v2 : Int32) (v3 : Int32) (v4 : Int32) (M_text : Nat → Int32) (M_size : Int32) (M_presses : Nat → Int32) (M_pressFrom : Nat → Int32) (M_pressTo : Nat → Int32) (M_p : Int32) (M_s : Int32) (M_fault : Int32) (M_word : Int64) (M_wordSize : Int32) (M_secondOne : Int32) (H : Heap) (locs : List Loc) (ls : Array Slot), K_51 v1 v2 v3 v4 M_text M_size M_presses M_pressFrom M_pressTo M_p M_s M_fault M_word M_wordSize M_secondOne = some z → va_P D vwCl (wdX7 q y M_thrown M_text M_size M_has M_hand M_layers M_kinds M_names M_nameSizes M_thicknesses M_spreads M_coppers M_copperAt M_presses M_pressFrom M_pressTo M_vias M_viaFrom M_viaTo M_shares M_lists M_hasRow M_rowLow M_rowHigh M_p M_s M_fault M_lines M_word M_wordSize M_out M_written M_secondOne) H → va_D A (wdX7 q y M_thrown M_text M_size M_has M_hand M_layers M_kinds M_names M_nameSizes M_thicknesses M_spreads M_coppers M_copperAt M_presses M_pressFrom M_pressTo M_vias M_viaFrom M_viaTo M_shares M_lists M_hasRow M_rowLow M_rowHigh M_p M_s M_fault M_lines M_word M_wordSize M_out M_written M_secondOne) → va_S A s.heap H locs → lv_has ls 8 [(0, .ref (q 0)), (1, .int v1), (2, .int v2), (3, .int v3), (4, .int v4)] → W p l e ({ frames := 3, cells := 0, slots := 0, locals := 65 } : Room) s m args below meth c H locs 0 0 (MQ below (QV D y A (wdX7 q y M_thrown M_text M_size M_has M_hand M_layers M_kinds M_names M_nameSizes M_thicknesses M_spreads M_coppers M_copperAt (z.1) (z.2.1) (z.2.2.1) M_vias M_viaFrom M_viaTo M_shares M_lists M_hasRow M_rowLow M_rowHigh (z.2.2.2.1) M_s (z.2.2.2.2.1) M_lines (z.2.2.2.2.2.1) (z.2.2.2.2.2.2.1) M_out M_written (z.2.2.2.2.2.2.2))) args s 0 0 A) (F0 m 51 ls [])) :
    ∀ (v1 : Int32) (v2 : Int32) (v3 : Int32) (v4 : Int32) (st0 : Int32) (M_text : Nat → Int32) (M_size : Int32) (M_presses : Nat → Int32) (M_pressFrom : Nat → Int32) (M_pressTo : Nat → Int32) (M_p : Int32) (M_s : Int32) (M_fault : Int32) (M_word : Int64) (M_wordSize : Int32) (M_secondOne : Int32) (H : Heap) (locs : List Loc) (ls : Array Slot), g_X7_pressLine_107 F K_51 v1 v2 v3 v4 st0 M_text M_size M_presses M_pressFrom M_pressTo M_p M_s M_fault M_word M_wordSize M_secondOne = some z → va_P D vwCl (wdX7 q y M_thrown M_text M_size M_has M_hand M_layers M_kinds M_names M_nameSizes M_thicknesses M_spreads M_coppers M_copperAt M_presses M_pressFrom M_pressTo M_vias M_viaFrom M_viaTo M_shares M_lists M_hasRow M_rowLow M_rowHigh M_p M_s M_fault M_lines M_word M_wordSize M_out M_written M_secondOne) H → va_D A (wdX7 q y M_thrown M_text M_size M_has M_hand M_layers M_kinds M_names M_nameSizes M_thicknesses M_spreads M_coppers M_copperAt M_presses M_pressFrom M_pressTo M_vias M_viaFrom M_viaTo M_shares M_lists M_hasRow M_rowLow M_rowHigh M_p M_s M_fault M_lines M_word M_wordSize M_out M_written M_secondOne) → va_S A s.heap H locs → lv_has ls 8 [(0, .ref (q 0)), (1, .int v1), (2, .int v2), (3, .int v3), (4, .int v4)] → W p l e ({ frames := 3, cells := 0, slots := 0, locals := 65 } : Room) s m args below meth c H locs 0 0 (MQ below (QV D y A (wdX7 q y M_thrown M_text M_size M_has M_hand M_layers M_kinds M_names M_nameSizes M_thicknesses M_spreads M_coppers M_copperAt (z.1) (z.2.1) (z.2.2.1) M_vias M_viaFrom M_viaTo M_shares M_lists M_hasRow M_rowLow M_rowHigh (z.2.2.2.1) M_s (z.2.2.2.2.1) M_lines (z.2.2.2.2.2.1) (z.2.2.2.2.2.2.1) M_out M_written (z.2.2.2.2.2.2.2))) args s 0 0 A) (F0 m 107 ls [.int st0]) := by
  obtain ⟨⟨hx, hb, hml, hown, hts⟩, hr, hlocks⟩ := id C
  intro v1 v2 v3 v4 st0 M_text M_size M_presses M_pressFrom M_pressTo M_p M_s M_fault M_word M_wordSize M_secondOne H locs ls hm hP hD hS hl
  unfold g_X7_pressLine_107 at hm
  refine lv_istore (lv' := [(5, .int st0), (0, .ref (q 0)), (1, .int v1), (2, .int v2), (3, .int v3), (4, .int v4)]) hx hb dX7_pressLine_107 hl (by decide) rfl (fun ls hl => ?_)
  refine lv_aload_n hx hb dX7_pressLine_109 rfl (lv_at hl 1 rfl) ?_
  refine va_get (D := D) (ci := 7) (v := .ref (q 11)) (C := RX7) (T := TX7) (N := 33) hx hb hts n_X7_pressLine_X7 hown hK hP 0 rfl rfl 14 (by decide) (hts _ w_X7_pressLine_f41) (fun _ h9 => h9) rfl dX7_pressLine_110 ?_
  refine lv_iload hx hb dX7_pressLine_113 (lv_at hl 5 rfl) ?_
  obtain ⟨hg_1, hm⟩ := mg_of hm
  refine va_iald hx hb hK hP 11 0 rfl rfl hg_1 dX7_pressLine_115 ?_
  refine lv_iload_n hx hb dX7_pressLine_116 rfl (lv_at hl 3 rfl) ?_
  refine lv_icmp_ne (tgt := 135) hx hb dX7_pressLine_117 (by decide) (fun h_2 => ?_) (fun h_2 => ?_)
  · have hm := ie_of hm h_2
    refine lv_iconst (v := (0 : Int32)) hx hb dX7_pressLine_135 (by decide) ?_
    exact k_X7_pressLine_136 C hA hK F (K_51 := K_51) kK_51 v1 v2 v3 v4 st0 (0 : Int32) M_text M_size M_presses M_pressFrom M_pressTo M_p M_s M_fault M_word M_wordSize M_secondOne _ _ _ hm hP hD hS (lv_sub hl [1, 2, 3, 4, 5, 0] rfl)
  · have hm := it_of hm h_2
    refine lv_aload_n hx hb dX7_pressLine_120 rfl (lv_at hl 1 rfl) ?_
    refine va_get (D := D) (ci := 7) (v := .ref (q 12)) (C := RX7) (T := TX7) (N := 33) hx hb hts n_X7_pressLine_X7 hown hK hP 0 rfl rfl 15 (by decide) (hts _ w_X7_pressLine_f44) (fun _ h9 => h9) rfl dX7_pressLine_121 ?_
    refine lv_iload hx hb dX7_pressLine_124 (lv_at hl 5 rfl) ?_
    obtain ⟨hg_3, hm⟩ := mg_of hm
    refine va_iald hx hb hK hP 12 0 rfl rfl hg_3 dX7_pressLine_126 ?_
    refine lv_iload_n hx hb dX7_pressLine_127 rfl (lv_at hl 4 rfl) ?_
    refine lv_icmp_ne (tgt := 135) hx hb dX7_pressLine_128 (by decide) (fun h_4 => ?_) (fun h_4 => ?_)
    · have hm := ie_of hm h_4
      refine lv_iconst (v := (0 : Int32)) hx hb dX7_pressLine_135 (by decide) ?_
      exact k_X7_pressLine_136 C hA hK F (K_51 := K_51) kK_51 v1 v2 v3 v4 st0 (0 : Int32) M_text M_size M_presses M_pressFrom M_pressTo M_p M_s M_fault M_word M_wordSize M_secondOne _ _ _ hm hP hD hS (lv_sub hl [1, 2, 3, 4, 5, 0] rfl)
    · have hm := it_of hm h_4
      refine lv_iconst (v := (1 : Int32)) hx hb dX7_pressLine_131 (by decide) ?_
      refine lv_goto (tgt := 136) hx hb dX7_pressLine_132 (by decide) ?_
      exact k_X7_pressLine_136 C hA hK F (K_51 := K_51) kK_51 v1 v2 v3 v4 st0 (1 : Int32) M_text M_size M_presses M_pressFrom M_pressTo M_p M_s M_fault M_word M_wordSize M_secondOne _ _ _ hm hP hD hS (lv_sub hl [1, 2, 3, 4, 5, 0] rfl)
set_option maxHeartbeats 4000000 in
set_option maxRecDepth 100000 in
theorem k_X7_pressLine_215 {p : Program} {l : Launch} {e : Env} {s : State} {m : MethodId} {args : Array Value} {below : List Frame} {meth : Method} {c : Code} {D : va_G} {y : Nat → ClassId} {A : Nat → Prop} {q : Nat → Nat} {M_thrown : Int32} {M_has : Int32} {M_hand : Int32} {M_layers : Nat → Int32} {M_kinds : Nat → Int32} {M_names : Nat → Int64} {M_nameSizes : Nat → Int32} {M_thicknesses : Nat → Int64} {M_spreads : Nat → Int32} {M_coppers : Nat → Int32} {M_copperAt : Nat → Int32} {M_vias : Nat → Int32} {M_viaFrom : Nat → Int32} {M_viaTo : Nat → Int32} {M_shares : Nat → Int32} {M_lists : Int32} {M_hasRow : Nat → Int32} {M_rowLow : Nat → Int64} {M_rowHigh : Nat → Int64} {M_lines : Int32} {M_out : Nat → Int32} {M_written : Int32} {z : (Nat → Int32) × (Nat → Int32) × (Nat → Int32) × Int32 × Int32 × Int64 × Int32 × Int32} (C : CX p s m args meth c wsX7_pressLine RX7 cX7_pressLine 8 none) (hA : ∀ q : Nat, s.heap.size ≤ q → A q) (hK : va_K D vwCl (tyl y) s) (F : Nat) :
    ∀ (v2 : Int32) (v3 : Int32) (M_text : Nat → Int32) (M_size : Int32) (M_presses : Nat → Int32) (M_pressFrom : Nat → Int32) (M_pressTo : Nat → Int32) (M_p : Int32) (M_s : Int32) (M_fault : Int32) (M_word : Int64) (M_wordSize : Int32) (M_secondOne : Int32) (H : Heap) (locs : List Loc) (ls : Array Slot), g_X7_pressLine_215 F v2 v3 M_text M_size M_presses M_pressFrom M_pressTo M_p M_s M_fault M_word M_wordSize M_secondOne = some z → va_P D vwCl (wdX7 q y M_thrown M_text M_size M_has M_hand M_layers M_kinds M_names M_nameSizes M_thicknesses M_spreads M_coppers M_copperAt M_presses M_pressFrom M_pressTo M_vias M_viaFrom M_viaTo M_shares M_lists M_hasRow M_rowLow M_rowHigh M_p M_s M_fault M_lines M_word M_wordSize M_out M_written M_secondOne) H → va_D A (wdX7 q y M_thrown M_text M_size M_has M_hand M_layers M_kinds M_names M_nameSizes M_thicknesses M_spreads M_coppers M_copperAt M_presses M_pressFrom M_pressTo M_vias M_viaFrom M_viaTo M_shares M_lists M_hasRow M_rowLow M_rowHigh M_p M_s M_fault M_lines M_word M_wordSize M_out M_written M_secondOne) → va_S A s.heap H locs → lv_has ls 8 [(0, .ref (q 0)), (2, .int v2), (3, .int v3)] → W p l e ({ frames := 3, cells := 0, slots := 0, locals := 65 } : Room) s m args below meth c H locs 0 0 (MQ below (QV D y A (wdX7 q y M_thrown M_text M_size M_has M_hand M_layers M_kinds M_names M_nameSizes M_thicknesses M_spreads M_coppers M_copperAt (z.1) (z.2.1) (z.2.2.1) M_vias M_viaFrom M_viaTo M_shares M_lists M_hasRow M_rowLow M_rowHigh (z.2.2.2.1) M_s (z.2.2.2.2.1) M_lines (z.2.2.2.2.2.1) (z.2.2.2.2.2.2.1) M_out M_written (z.2.2.2.2.2.2.2))) args s 0 0 A) (F0 m 215 ls []) := by
  obtain ⟨⟨hx, hb, hml, hown, hts⟩, hr, hlocks⟩ := id C
  intro v2 v3 M_text M_size M_presses M_pressFrom M_pressTo M_p M_s M_fault M_word M_wordSize M_secondOne H locs ls hm hP hD hS hl
  unfold g_X7_pressLine_215 at hm
  refine lv_aload_n hx hb dX7_pressLine_215 rfl (lv_at hl 0 rfl) ?_
  refine lv_bipush (v := (10 : Int32)) hx hb dX7_pressLine_216 (by decide) ?_
  obtain ⟨M_p_1, M_fault_2, hc_3, hm⟩ := mb2_of hm
  refine call_vv (wc := (wdX7 q y M_thrown M_text M_size M_has M_hand M_layers M_kinds M_names M_nameSizes M_thicknesses M_spreads M_coppers M_copperAt M_presses M_pressFrom M_pressTo M_vias M_viaFrom M_viaTo M_shares M_lists M_hasRow M_rowLow M_rowHigh M_p M_s M_fault M_lines M_word M_wordSize M_out M_written M_secondOne)) (wr := []) (As := [.int (10 : Int32)]) (rest := []) C (c_X7_expect l D y q _ F hc_3) (cwV 1 hts gX7_pressLine_X7_expect rfl rfl rfl (by decide +kernel) ⟨Nat.le_of_ble_eq_true rfl, Nat.le_of_ble_eq_true rfl⟩) hK hP hD hS hA [0, 1, 2, 3, 4, 5, 6, 7, 8, 9, 10, 11, 12, 13, 14, 15, 16, 17, 18, 19, 20] [] rfl rfl rfl rfl rfl (by decide) rfl rfl rfl rfl hl.1 (Nat.le_of_ble_eq_true rfl) dX7_pressLine_218 (fun H locs hP hD hS => ?_)
  have hP : va_P D vwCl (wdX7 q y M_thrown M_text M_size M_has M_hand M_layers M_kinds M_names M_nameSizes M_thicknesses M_spreads M_coppers M_copperAt M_presses M_pressFrom M_pressTo M_vias M_viaFrom M_viaTo M_shares M_lists M_hasRow M_rowLow M_rowHigh M_p_1 M_s M_fault_2 M_lines M_word M_wordSize M_out M_written M_secondOne) H := hP
  have hD : va_D A (wdX7 q y M_thrown M_text M_size M_has M_hand M_layers M_kinds M_names M_nameSizes M_thicknesses M_spreads M_coppers M_copperAt M_presses M_pressFrom M_pressTo M_vias M_viaFrom M_viaTo M_shares M_lists M_hasRow M_rowLow M_rowHigh M_p_1 M_s M_fault_2 M_lines M_word M_wordSize M_out M_written M_secondOne) := hD
  refine lv_aload_n hx hb dX7_pressLine_221 rfl (lv_at hl 0 rfl) ?_
  obtain ⟨r_4, hc_5, hm⟩ := mb1_of hm
  refine call_vi (wc := (wdX7 q y M_thrown M_text M_size M_has M_hand M_layers M_kinds M_names M_nameSizes M_thicknesses M_spreads M_coppers M_copperAt M_presses M_pressFrom M_pressTo M_vias M_viaFrom M_viaTo M_shares M_lists M_hasRow M_rowLow M_rowHigh M_p_1 M_s M_fault_2 M_lines M_word M_wordSize M_out M_written M_secondOne)) (wr := []) (As := []) (rest := []) C (c_X7_good l D y q _ F hc_5) (cwV 0 hts gX7_pressLine_X7_good rfl rfl rfl (by decide +kernel) ⟨Nat.le_of_ble_eq_true rfl, Nat.le_of_ble_eq_true rfl⟩) hK hP hD hS hA [0, 1, 2, 3, 4, 5, 6, 7, 8, 9, 10, 11, 12, 13, 14, 15, 16, 17, 18, 19, 20] [] rfl rfl rfl rfl rfl (by decide) rfl rfl rfl rfl hl.1 (Nat.le_of_ble_eq_true rfl) dX7_pressLine_222 (fun H locs hP hD hS => ?_)
  have hP : va_P D vwCl (wdX7 q y M_thrown M_text M_size M_has M_hand M_layers M_kinds M_names M_nameSizes M_thicknesses M_spreads M_coppers M_copperAt M_presses M_pressFrom M_pressTo M_vias M_viaFrom M_viaTo M_shares M_lists M_hasRow M_rowLow M_rowHigh M_p_1 M_s M_fault_2 M_lines M_word M_wordSize M_out M_written M_secondOne) H := hP
  have hD : va_D A (wdX7 q y M_thrown M_text M_size M_has M_hand M_layers M_kinds M_names M_nameSizes M_thicknesses M_spreads M_coppers M_copperAt M_presses M_pressFrom M_pressTo M_vias M_viaFrom M_viaTo M_shares M_lists M_hasRow M_rowLow M_rowHigh M_p_1 M_s M_fault_2 M_lines M_word M_wordSize M_out M_written M_secondOne) := hD
  refine lv_if_eq (tgt := 234) hx hb dX7_pressLine_225 (by decide) (fun h_6 => ?_) (fun h_6 => ?_)
  · have hm := it_of hm h_6
    have hz := Option.some.inj hm
    subst hz
    exact end_v C hK hP hD hS dX7_pressLine_234
  · have hm := ie_of hm h_6
    refine lv_aload_n hx hb dX7_pressLine_228 rfl (lv_at hl 0 rfl) ?_
    refine lv_iload_n hx hb dX7_pressLine_229 rfl (lv_at hl 1 rfl) ?_
    refine lv_iload_n hx hb dX7_pressLine_230 rfl (lv_at hl 2 rfl) ?_
    obtain ⟨M_presses_7, M_pressFrom_8, M_pressTo_9, hc_10, hm⟩ := mb3_of hm
    refine call_vv (wc := (wdX7 q y M_thrown M_text M_size M_has M_hand M_layers M_kinds M_names M_nameSizes M_thicknesses M_spreads M_coppers M_copperAt M_presses M_pressFrom M_pressTo M_vias M_viaFrom M_viaTo M_shares M_lists M_hasRow M_rowLow M_rowHigh M_p_1 M_s M_fault_2 M_lines M_word M_wordSize M_out M_written M_secondOne)) (wr := []) (As := [.int v2, .int v3]) (rest := []) C (c_X7_keepPress l D y q _ F hc_10) (cwV 2 hts gX7_pressLine_X7_keepPress rfl rfl rfl (by decide +kernel) ⟨Nat.le_of_ble_eq_true rfl, Nat.le_of_ble_eq_true rfl⟩) hK hP hD hS hA [0, 1, 2, 3, 4, 5, 6, 7, 8, 9, 10, 11, 12, 13, 14, 15, 16, 17, 18, 19, 20] [] rfl rfl rfl rfl rfl (by decide) rfl rfl rfl rfl hl.1 (Nat.le_of_ble_eq_true rfl) dX7_pressLine_231 (fun H locs hP hD hS => ?_)
    have hP : va_P D vwCl (wdX7 q y M_thrown M_text M_size M_has M_hand M_layers M_kinds M_names M_nameSizes M_thicknesses M_spreads M_coppers M_copperAt M_presses_7 M_pressFrom_8 M_pressTo_9 M_vias M_viaFrom M_viaTo M_shares M_lists M_hasRow M_rowLow M_rowHigh M_p_1 M_s M_fault_2 M_lines M_word M_wordSize M_out M_written M_secondOne) H := hP
    have hD : va_D A (wdX7 q y M_thrown M_text M_size M_has M_hand M_layers M_kinds M_names M_nameSizes M_thicknesses M_spreads M_coppers M_copperAt M_presses_7 M_pressFrom_8 M_pressTo_9 M_vias M_viaFrom M_viaTo M_shares M_lists M_hasRow M_rowLow M_rowHigh M_p_1 M_s M_fault_2 M_lines M_word M_wordSize M_out M_written M_secondOne) := hD
    have hz := Option.some.inj hm
    subst hz
    exact end_v C hK hP hD hS dX7_pressLine_234
set_option maxHeartbeats 4000000 in
set_option maxRecDepth 100000 in
theorem k_X7_pressLine_51 {p : Program} {l : Launch} {e : Env} {s : State} {m : MethodId} {args : Array Value} {below : List Frame} {meth : Method} {c : Code} {D : va_G} {y : Nat → ClassId} {A : Nat → Prop} {q : Nat → Nat} {M_thrown : Int32} {M_has : Int32} {M_hand : Int32} {M_layers : Nat → Int32} {M_kinds : Nat → Int32} {M_names : Nat → Int64} {M_nameSizes : Nat → Int32} {M_thicknesses : Nat → Int64} {M_spreads : Nat → Int32} {M_coppers : Nat → Int32} {M_copperAt : Nat → Int32} {M_vias : Nat → Int32} {M_viaFrom : Nat → Int32} {M_viaTo : Nat → Int32} {M_shares : Nat → Int32} {M_lists : Int32} {M_hasRow : Nat → Int32} {M_rowLow : Nat → Int64} {M_rowHigh : Nat → Int64} {M_lines : Int32} {M_out : Nat → Int32} {M_written : Int32} {z : (Nat → Int32) × (Nat → Int32) × (Nat → Int32) × Int32 × Int32 × Int64 × Int32 × Int32} (C : CX p s m args meth c wsX7_pressLine RX7 cX7_pressLine 8 none) (hA : ∀ q : Nat, s.heap.size ≤ q → A q) (hK : va_K D vwCl (tyl y) s) (F : Nat) :
    ∀ (n : Nat), ∀ (v1 : Int32) (v2 : Int32) (v3 : Int32) (v4 : Int32) (M_text : Nat → Int32) (M_size : Int32) (M_presses : Nat → Int32) (M_pressFrom : Nat → Int32) (M_pressTo : Nat → Int32) (M_p : Int32) (M_s : Int32) (M_fault : Int32) (M_word : Int64) (M_wordSize : Int32) (M_secondOne : Int32) (H : Heap) (locs : List Loc) (ls : Array Slot), g_X7_pressLine_51 F n v1 v2 v3 v4 M_text M_size M_presses M_pressFrom M_pressTo M_p M_s M_fault M_word M_wordSize M_secondOne = some z → va_P D vwCl (wdX7 q y M_thrown M_text M_size M_has M_hand M_layers M_kinds M_names M_nameSizes M_thicknesses M_spreads M_coppers M_copperAt M_presses M_pressFrom M_pressTo M_vias M_viaFrom M_viaTo M_shares M_lists M_hasRow M_rowLow M_rowHigh M_p M_s M_fault M_lines M_word M_wordSize M_out M_written M_secondOne) H → va_D A (wdX7 q y M_thrown M_text M_size M_has M_hand M_layers M_kinds M_names M_nameSizes M_thicknesses M_spreads M_coppers M_copperAt M_presses M_pressFrom M_pressTo M_vias M_viaFrom M_viaTo M_shares M_lists M_hasRow M_rowLow M_rowHigh M_p M_s M_fault M_lines M_word M_wordSize M_out M_written M_secondOne) → va_S A s.heap H locs → lv_has ls 8 [(0, .ref (q 0)), (1, .int v1), (2, .int v2), (3, .int v3), (4, .int v4)] → W p l e ({ frames := 3, cells := 0, slots := 0, locals := 65 } : Room) s m args below meth c H locs 0 0 (MQ below (QV D y A (wdX7 q y M_thrown M_text M_size M_has M_hand M_layers M_kinds M_names M_nameSizes M_thicknesses M_spreads M_coppers M_copperAt (z.1) (z.2.1) (z.2.2.1) M_vias M_viaFrom M_viaTo M_shares M_lists M_hasRow M_rowLow M_rowHigh (z.2.2.2.1) M_s (z.2.2.2.2.1) M_lines (z.2.2.2.2.2.1) (z.2.2.2.2.2.2.1) M_out M_written (z.2.2.2.2.2.2.2))) args s 0 0 A) (F0 m 51 ls []) := by
  obtain ⟨⟨hx, hb, hml, hown, hts⟩, hr, hlocks⟩ := id C
  intro n
  induction n with
  | zero =>
    intro v1 v2 v3 v4 M_text M_size M_presses M_pressFrom M_pressTo M_p M_s M_fault M_word M_wordSize M_secondOne H locs ls hm
    rw [g_X7_pressLine_51_z] at hm
    cases hm
  | succ n ih =>
    intro v1 v2 v3 v4 M_text M_size M_presses M_pressFrom M_pressTo M_p M_s M_fault M_word M_wordSize M_secondOne H locs ls hm hP hD hS hl
    rw [g_X7_pressLine_51_s] at hm
    refine lv_iload hx hb dX7_pressLine_51 (lv_at hl 4 rfl) ?_
    refine lv_bipush (v := (22 : Int32)) hx hb dX7_pressLine_53 (by decide) ?_
    refine lv_aload_n hx hb dX7_pressLine_55 rfl (lv_at hl 0 rfl) ?_
    refine va_get (D := D) (ci := 7) (v := .int M_s) (C := RX7) (T := TX7) (N := 33) hx hb hts n_X7_pressLine_X7 hown hK hP 0 rfl rfl 25 (by decide) (hts _ w_X7_pressLine_f134) (fun _ h9 => h9) rfl dX7_pressLine_56 ?_
    refine lv_imul hx hb dX7_pressLine_59 ?_
    refine lv_aload_n hx hb dX7_pressLine_60 rfl (lv_at hl 0 rfl) ?_
    refine va_get (D := D) (ci := 7) (v := .ref (q 10)) (C := RX7) (T := TX7) (N := 33) hx hb hts n_X7_pressLine_X7 hown hK hP 0 rfl rfl 13 (by decide) (hts _ w_X7_pressLine_f38) (fun _ h9 => h9) rfl dX7_pressLine_61 ?_
    refine lv_aload_n hx hb dX7_pressLine_64 rfl (lv_at hl 0 rfl) ?_
    refine va_get (D := D) (ci := 7) (v := .int M_s) (C := RX7) (T := TX7) (N := 33) hx hb hts n_X7_pressLine_X7 hown hK hP 0 rfl rfl 25 (by decide) (hts _ w_X7_pressLine_f134) (fun _ h9 => h9) rfl dX7_pressLine_65 ?_
    obtain ⟨hg_1, hm⟩ := mg_of hm
    refine va_iald hx hb hK hP 10 0 rfl rfl hg_1 dX7_pressLine_68 ?_
    refine lv_iadd hx hb dX7_pressLine_69 ?_
    refine lv_icmp_ge (tgt := 215) hx hb dX7_pressLine_70 (by decide) (fun h_2 => ?_) (fun h_2 => ?_)
    · have hm := it_of hm h_2
      exact k_X7_pressLine_215 C hA hK F v2 v3 M_text M_size M_presses M_pressFrom M_pressTo M_p M_s M_fault M_word M_wordSize M_secondOne _ _ _ hm hP hD hS (lv_sub hl [0, 2, 3] rfl)
    · have hm := ie_of hm h_2
      refine lv_aload_n hx hb dX7_pressLine_73 rfl (lv_at hl 0 rfl) ?_
      obtain ⟨r_3, hc_4, hm⟩ := mb1_of hm
      refine call_vi (wc := (wdX7 q y M_thrown M_text M_size M_has M_hand M_layers M_kinds M_names M_nameSizes M_thicknesses M_spreads M_coppers M_copperAt M_presses M_pressFrom M_pressTo M_vias M_viaFrom M_viaTo M_shares M_lists M_hasRow M_rowLow M_rowHigh M_p M_s M_fault M_lines M_word M_wordSize M_out M_written M_secondOne)) (wr := []) (As := []) (rest := []) C (c_X7_good l D y q _ F hc_4) (cwV 0 hts gX7_pressLine_X7_good rfl rfl rfl (by decide +kernel) ⟨Nat.le_of_ble_eq_true rfl, Nat.le_of_ble_eq_true rfl⟩) hK hP hD hS hA [0, 1, 2, 3, 4, 5, 6, 7, 8, 9, 10, 11, 12, 13, 14, 15, 16, 17, 18, 19, 20] [] rfl rfl rfl rfl rfl (by decide) rfl rfl rfl rfl hl.1 (Nat.le_of_ble_eq_true rfl) dX7_pressLine_74 (fun H locs hP hD hS => ?_)
      have hP : va_P D vwCl (wdX7 q y M_thrown M_text M_size M_has M_hand M_layers M_kinds M_names M_nameSizes M_thicknesses M_spreads M_coppers M_copperAt M_presses M_pressFrom M_pressTo M_vias M_viaFrom M_viaTo M_shares M_lists M_hasRow M_rowLow M_rowHigh M_p M_s M_fault M_lines M_word M_wordSize M_out M_written M_secondOne) H := hP
      have hD : va_D A (wdX7 q y M_thrown M_text M_size M_has M_hand M_layers M_kinds M_names M_nameSizes M_thicknesses M_spreads M_coppers M_copperAt M_presses M_pressFrom M_pressTo M_vias M_viaFrom M_viaTo M_shares M_lists M_hasRow M_rowLow M_rowHigh M_p M_s M_fault M_lines M_word M_wordSize M_out M_written M_secondOne) := hD
      refine lv_if_eq (tgt := 215) hx hb dX7_pressLine_77 (by decide) (fun h_5 => ?_) (fun h_5 => ?_)
      · have hm := it_of hm h_5
        exact k_X7_pressLine_215 C hA hK F v2 v3 M_text M_size M_presses M_pressFrom M_pressTo M_p M_s M_fault M_word M_wordSize M_secondOne _ _ _ hm hP hD hS (lv_sub hl [0, 2, 3] rfl)
      · have hm := ie_of hm h_5
        refine lv_aload_n hx hb dX7_pressLine_80 rfl (lv_at hl 0 rfl) ?_
        refine va_get (D := D) (ci := 7) (v := .ref (q 12)) (C := RX7) (T := TX7) (N := 33) hx hb hts n_X7_pressLine_X7 hown hK hP 0 rfl rfl 15 (by decide) (hts _ w_X7_pressLine_f44) (fun _ h9 => h9) rfl dX7_pressLine_81 ?_
        refine lv_iload hx hb dX7_pressLine_84 (lv_at hl 4 rfl) ?_
        obtain ⟨hg_6, hm⟩ := mg_of hm
        refine va_iald hx hb hK hP 12 0 rfl rfl hg_6 dX7_pressLine_86 ?_
        refine lv_iload_n hx hb dX7_pressLine_87 rfl (lv_at hl 2 rfl) ?_
        refine lv_icmp_lt (tgt := 102) hx hb dX7_pressLine_88 (by decide) (fun h_7 => ?_) (fun h_7 => ?_)
        · have hm := it_of hm h_7
          refine lv_iconst (v := (1 : Int32)) hx hb dX7_pressLine_102 (by decide) ?_
          refine lv_goto (tgt := 107) hx hb dX7_pressLine_103 (by decide) ?_
          exact k_X7_pressLine_107 C hA hK F (K_51 := g_X7_pressLine_51 F n) ih v1 v2 v3 v4 (1 : Int32) M_text M_size M_presses M_pressFrom M_pressTo M_p M_s M_fault M_word M_wordSize M_secondOne _ _ _ hm hP hD hS (lv_sub hl [0, 1, 2, 3, 4] rfl)
        · have hm := ie_of hm h_7
          refine lv_aload_n hx hb dX7_pressLine_91 rfl (lv_at hl 0 rfl) ?_
          refine va_get (D := D) (ci := 7) (v := .ref (q 11)) (C := RX7) (T := TX7) (N := 33) hx hb hts n_X7_pressLine_X7 hown hK hP 0 rfl rfl 14 (by decide) (hts _ w_X7_pressLine_f41) (fun _ h9 => h9) rfl dX7_pressLine_92 ?_
          refine lv_iload hx hb dX7_pressLine_95 (lv_at hl 4 rfl) ?_
          obtain ⟨hg_8, hm⟩ := mg_of hm
          refine va_iald hx hb hK hP 11 0 rfl rfl hg_8 dX7_pressLine_97 ?_
          refine lv_iload_n hx hb dX7_pressLine_98 rfl (lv_at hl 3 rfl) ?_
          refine lv_icmp_le (tgt := 106) hx hb dX7_pressLine_99 (by decide) (fun h_9 => ?_) (fun h_9 => ?_)
          · have hm := it_of hm h_9
            refine lv_iconst (v := (0 : Int32)) hx hb dX7_pressLine_106 (by decide) ?_
            exact k_X7_pressLine_107 C hA hK F (K_51 := g_X7_pressLine_51 F n) ih v1 v2 v3 v4 (0 : Int32) M_text M_size M_presses M_pressFrom M_pressTo M_p M_s M_fault M_word M_wordSize M_secondOne _ _ _ hm hP hD hS (lv_sub hl [0, 1, 2, 3, 4] rfl)
          · have hm := ie_of hm h_9
            refine lv_iconst (v := (1 : Int32)) hx hb dX7_pressLine_102 (by decide) ?_
            refine lv_goto (tgt := 107) hx hb dX7_pressLine_103 (by decide) ?_
            exact k_X7_pressLine_107 C hA hK F (K_51 := g_X7_pressLine_51 F n) ih v1 v2 v3 v4 (1 : Int32) M_text M_size M_presses M_pressFrom M_pressTo M_p M_s M_fault M_word M_wordSize M_secondOne _ _ _ hm hP hD hS (lv_sub hl [0, 1, 2, 3, 4] rfl)
set_option maxHeartbeats 4000000 in
set_option maxRecDepth 100000 in
theorem c_X7_pressLine (l : Launch) (D : va_G) (y : Nat → ClassId) (q : Nat → Nat) (sz : Nat) (F : Nat) {v1 : Int32} {M_thrown : Int32} {M_text : Nat → Int32} {M_size : Int32} {M_has : Int32} {M_hand : Int32} {M_layers : Nat → Int32} {M_kinds : Nat → Int32} {M_names : Nat → Int64} {M_nameSizes : Nat → Int32} {M_thicknesses : Nat → Int64} {M_spreads : Nat → Int32} {M_coppers : Nat → Int32} {M_copperAt : Nat → Int32} {M_presses : Nat → Int32} {M_pressFrom : Nat → Int32} {M_pressTo : Nat → Int32} {M_vias : Nat → Int32} {M_viaFrom : Nat → Int32} {M_viaTo : Nat → Int32} {M_shares : Nat → Int32} {M_lists : Int32} {M_hasRow : Nat → Int32} {M_rowLow : Nat → Int64} {M_rowHigh : Nat → Int64} {M_p : Int32} {M_s : Int32} {M_fault : Int32} {M_lines : Int32} {M_word : Int64} {M_wordSize : Int32} {M_out : Nat → Int32} {M_written : Int32} {M_secondOne : Int32} {z : (Nat → Int32) × (Nat → Int32) × (Nat → Int32) × Int32 × Int32 × Int64 × Int32 × Int32} (hm : f_X7_pressLine F v1 M_text M_size M_names M_nameSizes M_coppers M_copperAt M_presses M_pressFrom M_pressTo M_vias M_p M_s M_fault M_word M_wordSize M_secondOne = some z) : Met l yX7_pressLine wsX7_pressLine ({ frames := 3, cells := 0, slots := 0, locals := 65 } : Room) (va_Pc [.ref (q 0), .int v1] (cP D y (wdX7 q y M_thrown M_text M_size M_has M_hand M_layers M_kinds M_names M_nameSizes M_thicknesses M_spreads M_coppers M_copperAt M_presses M_pressFrom M_pressTo M_vias M_viaFrom M_viaTo M_shares M_lists M_hasRow M_rowLow M_rowHigh M_p M_s M_fault M_lines M_word M_wordSize M_out M_written M_secondOne) sz)) (QV D y (va_A (wdX7 q y M_thrown M_text M_size M_has M_hand M_layers M_kinds M_names M_nameSizes M_thicknesses M_spreads M_coppers M_copperAt M_presses M_pressFrom M_pressTo M_vias M_viaFrom M_viaTo M_shares M_lists M_hasRow M_rowLow M_rowHigh M_p M_s M_fault M_lines M_word M_wordSize M_out M_written M_secondOne) sz) (wdX7 q y M_thrown M_text M_size M_has M_hand M_layers M_kinds M_names M_nameSizes M_thicknesses M_spreads M_coppers M_copperAt (z.1) (z.2.1) (z.2.2.1) M_vias M_viaFrom M_viaTo M_shares M_lists M_hasRow M_rowLow M_rowHigh (z.2.2.2.1) M_s (z.2.2.2.2.1) M_lines (z.2.2.2.2.2.1) (z.2.2.2.2.2.2.1) M_out M_written (z.2.2.2.2.2.2.2))) 0 0 (va_A (wdX7 q y M_thrown M_text M_size M_has M_hand M_layers M_kinds M_names M_nameSizes M_thicknesses M_spreads M_coppers M_copperAt M_presses M_pressFrom M_pressTo M_vias M_viaFrom M_viaTo M_shares M_lists M_hasRow M_rowLow M_rowHigh M_p M_s M_fault M_lines M_word M_wordSize M_out M_written M_secondOne) sz) := by
  refine met_of (own := RX7) (cc := cX7_pressLine) (maxL := 8) (ret := none) (by decide) rfl rfl (Nat.le_of_ble_eq_true rfl) ?_
  intro p e s m below meth c ls C hsz hK hP hD hA hS hl
  obtain ⟨⟨hx, hb, hml, hown, hts⟩, hr, hlocks⟩ := id C
  have hl : lv_has ls 8 [(0, .ref (q 0)), (1, .int v1)] := hl
  generalize va_A (wdX7 q y M_thrown M_text M_size M_has M_hand M_layers M_kinds M_names M_nameSizes M_thicknesses M_spreads M_coppers M_copperAt M_presses M_pressFrom M_pressTo M_vias M_viaFrom M_viaTo M_shares M_lists M_hasRow M_rowLow M_rowHigh M_p M_s M_fault M_lines M_word M_wordSize M_out M_written M_secondOne) sz = A at hD hA hS ⊢
  generalize ([.ref (q 0), .int v1] : List Value).toArray = args at C hts ⊢
  unfold f_X7_pressLine at hm
  refine lv_aload_n hx hb dX7_pressLine_0 rfl (lv_at hl 0 rfl) ?_
  refine va_get (D := D) (ci := 7) (v := .ref (q 13)) (C := RX7) (T := TX7) (N := 33) hx hb hts n_X7_pressLine_X7 hown hK hP 0 rfl rfl 16 (by decide) (hts _ w_X7_pressLine_f47) (fun _ h9 => h9) rfl dX7_pressLine_1 ?_
  refine lv_aload_n hx hb dX7_pressLine_4 rfl (lv_at hl 0 rfl) ?_
  refine va_get (D := D) (ci := 7) (v := .int M_s) (C := RX7) (T := TX7) (N := 33) hx hb hts n_X7_pressLine_X7 hown hK hP 0 rfl rfl 25 (by decide) (hts _ w_X7_pressLine_f134) (fun _ h9 => h9) rfl dX7_pressLine_5 ?_
  obtain ⟨hg_1, hm⟩ := mg_of hm
  refine va_iald hx hb hK hP 13 0 rfl rfl hg_1 dX7_pressLine_8 ?_
  refine lv_if_gt (tgt := 26) hx hb dX7_pressLine_9 (by decide) (fun h_2 => ?_) (fun h_2 => ?_)
  · have hm := it_of hm h_2
    refine lv_aload_n hx hb dX7_pressLine_26 rfl (lv_at hl 0 rfl) ?_
    refine lv_iload_n hx hb dX7_pressLine_27 rfl (lv_at hl 1 rfl) ?_
    obtain ⟨M_fault_3, hc_4, hm⟩ := mb1_of hm
    refine call_vv (wc := (wdX7 q y M_thrown M_text M_size M_has M_hand M_layers M_kinds M_names M_nameSizes M_thicknesses M_spreads M_coppers M_copperAt M_presses M_pressFrom M_pressTo M_vias M_viaFrom M_viaTo M_shares M_lists M_hasRow M_rowLow M_rowHigh M_p M_s M_fault M_lines M_word M_wordSize M_out M_written M_secondOne)) (wr := []) (As := [.int v1]) (rest := []) C (c_X7_fail l D y q _ F hc_4) (cwV 1 hts gX7_pressLine_X7_fail rfl rfl rfl (by decide +kernel) ⟨Nat.le_of_ble_eq_true rfl, Nat.le_of_ble_eq_true rfl⟩) hK hP hD hS hA [0, 1, 2, 3, 4, 5, 6, 7, 8, 9, 10, 11, 12, 13, 14, 15, 16, 17, 18, 19, 20] [] rfl rfl rfl rfl rfl (by decide) rfl rfl rfl rfl hl.1 (Nat.le_of_ble_eq_true rfl) dX7_pressLine_28 (fun H locs hP hD hS => ?_)
    have hP : va_P D vwCl (wdX7 q y M_thrown M_text M_size M_has M_hand M_layers M_kinds M_names M_nameSizes M_thicknesses M_spreads M_coppers M_copperAt M_presses M_pressFrom M_pressTo M_vias M_viaFrom M_viaTo M_shares M_lists M_hasRow M_rowLow M_rowHigh M_p M_s M_fault_3 M_lines M_word M_wordSize M_out M_written M_secondOne) H := hP
    have hD : va_D A (wdX7 q y M_thrown M_text M_size M_has M_hand M_layers M_kinds M_names M_nameSizes M_thicknesses M_spreads M_coppers M_copperAt M_presses M_pressFrom M_pressTo M_vias M_viaFrom M_viaTo M_shares M_lists M_hasRow M_rowLow M_rowHigh M_p M_s M_fault_3 M_lines M_word M_wordSize M_out M_written M_secondOne) := hD
    have hz := Option.some.inj hm
    subst hz
    exact end_v C hK hP hD hS dX7_pressLine_31
  · have hm := ie_of hm h_2
    refine lv_aload_n hx hb dX7_pressLine_12 rfl (lv_at hl 0 rfl) ?_
    refine va_get (D := D) (ci := 7) (v := .ref (q 10)) (C := RX7) (T := TX7) (N := 33) hx hb hts n_X7_pressLine_X7 hown hK hP 0 rfl rfl 13 (by decide) (hts _ w_X7_pressLine_f38) (fun _ h9 => h9) rfl dX7_pressLine_13 ?_
    refine lv_aload_n hx hb dX7_pressLine_16 rfl (lv_at hl 0 rfl) ?_
    refine va_get (D := D) (ci := 7) (v := .int M_s) (C := RX7) (T := TX7) (N := 33) hx hb hts n_X7_pressLine_X7 hown hK hP 0 rfl rfl 25 (by decide) (hts _ w_X7_pressLine_f134) (fun _ h9 => h9) rfl dX7_pressLine_17 ?_
    obtain ⟨hg_5, hm⟩ := mg_of hm
    refine va_iald hx hb hK hP 10 0 rfl rfl hg_5 dX7_pressLine_20 ?_
    refine lv_bipush (v := (20 : Int32)) hx hb dX7_pressLine_21 (by decide) ?_
    refine lv_icmp_ne (tgt := 32) hx hb dX7_pressLine_23 (by decide) (fun h_6 => ?_) (fun h_6 => ?_)
    · have hm := ie_of hm h_6
      refine lv_aload_n hx hb dX7_pressLine_32 rfl (lv_at hl 0 rfl) ?_
      obtain ⟨r_7, M_p_8, M_fault_9, M_word_10, M_wordSize_11, M_secondOne_12, hc_13, hm⟩ := mb6_of hm
      refine call_vi (wc := (wdX7 q y M_thrown M_text M_size M_has M_hand M_layers M_kinds M_names M_nameSizes M_thicknesses M_spreads M_coppers M_copperAt M_presses M_pressFrom M_pressTo M_vias M_viaFrom M_viaTo M_shares M_lists M_hasRow M_rowLow M_rowHigh M_p M_s M_fault M_lines M_word M_wordSize M_out M_written M_secondOne)) (wr := []) (As := []) (rest := []) C (c_X7_twoNames l D y q _ F hc_13) (cwV 0 hts gX7_pressLine_X7_twoNames rfl rfl rfl (by decide +kernel) ⟨Nat.le_of_ble_eq_true rfl, Nat.le_of_ble_eq_true rfl⟩) hK hP hD hS hA [0, 1, 2, 3, 4, 5, 6, 7, 8, 9, 10, 11, 12, 13, 14, 15, 16, 17, 18, 19, 20] [] rfl rfl rfl rfl rfl (by decide) rfl rfl rfl rfl hl.1 (Nat.le_of_ble_eq_true rfl) dX7_pressLine_33 (fun H locs hP hD hS => ?_)
      have hP : va_P D vwCl (wdX7 q y M_thrown M_text M_size M_has M_hand M_layers M_kinds M_names M_nameSizes M_thicknesses M_spreads M_coppers M_copperAt M_presses M_pressFrom M_pressTo M_vias M_viaFrom M_viaTo M_shares M_lists M_hasRow M_rowLow M_rowHigh M_p_8 M_s M_fault_9 M_lines M_word_10 M_wordSize_11 M_out M_written M_secondOne_12) H := hP
      have hD : va_D A (wdX7 q y M_thrown M_text M_size M_has M_hand M_layers M_kinds M_names M_nameSizes M_thicknesses M_spreads M_coppers M_copperAt M_presses M_pressFrom M_pressTo M_vias M_viaFrom M_viaTo M_shares M_lists M_hasRow M_rowLow M_rowHigh M_p_8 M_s M_fault_9 M_lines M_word_10 M_wordSize_11 M_out M_written M_secondOne_12) := hD
      refine lv_istore_n (lv' := [(2, .int r_7), (0, .ref (q 0)), (1, .int v1)]) hx hb dX7_pressLine_36 rfl hl (by decide) rfl (fun ls hl => ?_)
      refine lv_aload_n hx hb dX7_pressLine_37 rfl (lv_at hl 1 rfl) ?_
      refine va_get (D := D) (ci := 7) (v := .int M_secondOne_12) (C := RX7) (T := TX7) (N := 33) hx hb hts n_X7_pressLine_X7 hown hK hP 0 rfl rfl 32 (by decide) (hts _ w_X7_pressLine_f159) (fun _ h9 => h9) rfl dX7_pressLine_38 ?_
      refine lv_istore_n (lv' := [(3, .int M_secondOne_12), (2, .int r_7), (0, .ref (q 0)), (1, .int v1)]) hx hb dX7_pressLine_41 rfl hl (by decide) rfl (fun ls hl => ?_)
      refine lv_bipush (v := (22 : Int32)) hx hb dX7_pressLine_42 (by decide) ?_
      refine lv_aload_n hx hb dX7_pressLine_44 rfl (lv_at hl 2 rfl) ?_
      refine va_get (D := D) (ci := 7) (v := .int M_s) (C := RX7) (T := TX7) (N := 33) hx hb hts n_X7_pressLine_X7 hown hK hP 0 rfl rfl 25 (by decide) (hts _ w_X7_pressLine_f134) (fun _ h9 => h9) rfl dX7_pressLine_45 ?_
      refine lv_imul hx hb dX7_pressLine_48 ?_
      refine lv_topi (fun v4_14 ev4_14 => ?_)
      have hm := mn_of ev4_14 hm
      refine lv_istore (lv' := [(4, .int v4_14), (3, .int M_secondOne_12), (2, .int r_7), (0, .ref (q 0)), (1, .int v1)]) hx hb dX7_pressLine_49 hl (by decide) rfl (fun ls hl => ?_)
      exact k_X7_pressLine_51 C hA hK F F v1 r_7 M_secondOne_12 v4_14 M_text M_size M_presses M_pressFrom M_pressTo M_p_8 M_s M_fault_9 M_word_10 M_wordSize_11 M_secondOne_12 _ _ _ hm hP hD hS (lv_sub hl [3, 4, 2, 1, 0] rfl)
    · have hm := it_of hm h_6
      refine lv_aload_n hx hb dX7_pressLine_26 rfl (lv_at hl 0 rfl) ?_
      refine lv_iload_n hx hb dX7_pressLine_27 rfl (lv_at hl 1 rfl) ?_
      obtain ⟨M_fault_15, hc_16, hm⟩ := mb1_of hm
      refine call_vv (wc := (wdX7 q y M_thrown M_text M_size M_has M_hand M_layers M_kinds M_names M_nameSizes M_thicknesses M_spreads M_coppers M_copperAt M_presses M_pressFrom M_pressTo M_vias M_viaFrom M_viaTo M_shares M_lists M_hasRow M_rowLow M_rowHigh M_p M_s M_fault M_lines M_word M_wordSize M_out M_written M_secondOne)) (wr := []) (As := [.int v1]) (rest := []) C (c_X7_fail l D y q _ F hc_16) (cwV 1 hts gX7_pressLine_X7_fail rfl rfl rfl (by decide +kernel) ⟨Nat.le_of_ble_eq_true rfl, Nat.le_of_ble_eq_true rfl⟩) hK hP hD hS hA [0, 1, 2, 3, 4, 5, 6, 7, 8, 9, 10, 11, 12, 13, 14, 15, 16, 17, 18, 19, 20] [] rfl rfl rfl rfl rfl (by decide) rfl rfl rfl rfl hl.1 (Nat.le_of_ble_eq_true rfl) dX7_pressLine_28 (fun H locs hP hD hS => ?_)
      have hP : va_P D vwCl (wdX7 q y M_thrown M_text M_size M_has M_hand M_layers M_kinds M_names M_nameSizes M_thicknesses M_spreads M_coppers M_copperAt M_presses M_pressFrom M_pressTo M_vias M_viaFrom M_viaTo M_shares M_lists M_hasRow M_rowLow M_rowHigh M_p M_s M_fault_15 M_lines M_word M_wordSize M_out M_written M_secondOne) H := hP
      have hD : va_D A (wdX7 q y M_thrown M_text M_size M_has M_hand M_layers M_kinds M_names M_nameSizes M_thicknesses M_spreads M_coppers M_copperAt M_presses M_pressFrom M_pressTo M_vias M_viaFrom M_viaTo M_shares M_lists M_hasRow M_rowLow M_rowHigh M_p M_s M_fault_15 M_lines M_word M_wordSize M_out M_written M_secondOne) := hD
      have hz := Option.some.inj hm
      subst hz
      exact end_v C hK hP hD hS dX7_pressLine_31
def g_X7_isPress_34 (F : Nat) : Nat → Int32 → Int32 → Int32 → Int32 → (Nat → Int32) → (Nat → Int32) → (Nat → Int32) → Int32 → Option (Int32)
  | 0, _, _, _, _, _, _, _, _ => none
  | n + 1, v1, v2, v3, v4, M_presses, M_pressFrom, M_pressTo, M_s => mg (inb M_s 2) ((if (((22 : Int32) * M_s) + (M_presses (M_s).toNatClampNeg)) ≤ v4 then mg (vp_nar .boolean v3 = v3) (some v3) else (if v3 = 0 then mg (inb v4 44) ((if (M_pressFrom (v4).toNatClampNeg) = v1 then mg (inb v4 44) ((if (M_pressTo (v4).toNatClampNeg) = v2 then mn (v4 + (1 : Int32)) (fun v4_12 => g_X7_isPress_34 F n v1 v2 (1 : Int32) v4_12 M_presses M_pressFrom M_pressTo M_s) else mn (v4 + (1 : Int32)) (fun v4_11 => g_X7_isPress_34 F n v1 v2 (0 : Int32) v4_11 M_presses M_pressFrom M_pressTo M_s))) else mn (v4 + (1 : Int32)) (fun v4_8 => g_X7_isPress_34 F n v1 v2 (0 : Int32) v4_8 M_presses M_pressFrom M_pressTo M_s))) else mn (v4 + (1 : Int32)) (fun v4_5 => g_X7_isPress_34 F n v1 v2 (1 : Int32) v4_5 M_presses M_pressFrom M_pressTo M_s))))
theorem g_X7_isPress_34_z (F : Nat) (v1 : Int32) (v2 : Int32) (v3 : Int32) (v4 : Int32) (M_presses : Nat → Int32) (M_pressFrom : Nat → Int32) (M_pressTo : Nat → Int32) (M_s : Int32) : g_X7_isPress_34 F 0 v1 v2 v3 v4 M_presses M_pressFrom M_pressTo M_s = none := rfl
theorem g_X7_isPress_34_s (F : Nat) (n : Nat) (v1 : Int32) (v2 : Int32) (v3 : Int32) (v4 : Int32) (M_presses : Nat → Int32) (M_pressFrom : Nat → Int32) (M_pressTo : Nat → Int32) (M_s : Int32) : g_X7_isPress_34 F (n + 1) v1 v2 v3 v4 M_presses M_pressFrom M_pressTo M_s = mg (inb M_s 2) ((if (((22 : Int32) * M_s) + (M_presses (M_s).toNatClampNeg)) ≤ v4 then mg (vp_nar .boolean v3 = v3) (some v3) else (if v3 = 0 then mg (inb v4 44) ((if (M_pressFrom (v4).toNatClampNeg) = v1 then mg (inb v4 44) ((if (M_pressTo (v4).toNatClampNeg) = v2 then mn (v4 + (1 : Int32)) (fun v4_12 => g_X7_isPress_34 F n v1 v2 (1 : Int32) v4_12 M_presses M_pressFrom M_pressTo M_s) else mn (v4 + (1 : Int32)) (fun v4_11 => g_X7_isPress_34 F n v1 v2 (0 : Int32) v4_11 M_presses M_pressFrom M_pressTo M_s))) else mn (v4 + (1 : Int32)) (fun v4_8 => g_X7_isPress_34 F n v1 v2 (0 : Int32) v4_8 M_presses M_pressFrom M_pressTo M_s))) else mn (v4 + (1 : Int32)) (fun v4_5 => g_X7_isPress_34 F n v1 v2 (1 : Int32) v4_5 M_presses M_pressFrom M_pressTo M_s)))) := rfl
def f_X7_isPress (F : Nat) (v1 : Int32) (v2 : Int32) (M_coppers : Nat → Int32) (M_presses : Nat → Int32) (M_pressFrom : Nat → Int32) (M_pressTo : Nat → Int32) (M_s : Int32) : Option (Int32) := (if v1 = 0 then mg (inb M_s 2) ((if v2 = ((M_coppers (M_s).toNatClampNeg) - (1 : Int32)) then mn ((22 : Int32) * M_s) (fun v4_6 => g_X7_isPress_34 F F v1 v2 (1 : Int32) v4_6 M_presses M_pressFrom M_pressTo M_s) else mn ((22 : Int32) * M_s) (fun v4_5 => g_X7_isPress_34 F F v1 v2 (0 : Int32) v4_5 M_presses M_pressFrom M_pressTo M_s))) else mn ((22 : Int32) * M_s) (fun v4_2 => g_X7_isPress_34 F F v1 v2 (0 : Int32) v4_2 M_presses M_pressFrom M_pressTo M_s))
set_option maxRecDepth 20000 in
theorem n_X7_isPress_X7 : ∀ w ∈ wsX70, w ∈ wsX7_isPress := by decide +kernel
set_option maxRecDepth 20000 in
theorem w_X7_isPress_f134 : Cond.fieldLink RX7 134 "LayerStacksModel" "s" "I" ∈ wsX7_isPress := by decide +kernel
set_option maxRecDepth 20000 in
theorem w_X7_isPress_f38 : Cond.fieldLink RX7 38 "LayerStacksModel" "presses" "[I" ∈ wsX7_isPress := by decide +kernel
set_option maxRecDepth 20000 in
theorem w_X7_isPress_f41 : Cond.fieldLink RX7 41 "LayerStacksModel" "pressFrom" "[I" ∈ wsX7_isPress := by decide +kernel
set_option maxRecDepth 20000 in
theorem w_X7_isPress_f44 : Cond.fieldLink RX7 44 "LayerStacksModel" "pressTo" "[I" ∈ wsX7_isPress := by decide +kernel
set_option maxRecDepth 20000 in
theorem w_X7_isPress_f32 : Cond.fieldLink RX7 32 "LayerStacksModel" "coppers" "[I" ∈ wsX7_isPress := by decide +kernel
set_option maxHeartbeats 4000000 in
set_option maxRecDepth 100000 in
theorem k_X7_isPress_34 {p : Program} {l : Launch} {e : Env} {s : State} {m : MethodId} {args : Array Value} {below : List Frame} {meth : Method} {c : Code} {D : va_G} {y : Nat → ClassId} {A : Nat → Prop} {q : Nat → Nat} {M_thrown : Int32} {M_text : Nat → Int32} {M_size : Int32} {M_has : Int32} {M_hand : Int32} {M_layers : Nat → Int32} {M_kinds : Nat → Int32} {M_names : Nat → Int64} {M_nameSizes : Nat → Int32} {M_thicknesses : Nat → Int64} {M_spreads : Nat → Int32} {M_coppers : Nat → Int32} {M_copperAt : Nat → Int32} {M_vias : Nat → Int32} {M_viaFrom : Nat → Int32} {M_viaTo : Nat → Int32} {M_shares : Nat → Int32} {M_lists : Int32} {M_hasRow : Nat → Int32} {M_rowLow : Nat → Int64} {M_rowHigh : Nat → Int64} {M_p : Int32} {M_fault : Int32} {M_lines : Int32} {M_word : Int64} {M_wordSize : Int32} {M_out : Nat → Int32} {M_written : Int32} {M_secondOne : Int32} {z : Int32} (C : CX p s m args meth c wsX7_isPress RX7 cX7_isPress 5 (some .boolean)) (hA : ∀ q : Nat, s.heap.size ≤ q → A q) (hK : va_K D vwCl (tyl y) s) (F : Nat) :
    ∀ (n : Nat), ∀ (v1 : Int32) (v2 : Int32) (v3 : Int32) (v4 : Int32) (M_presses : Nat → Int32) (M_pressFrom : Nat → Int32) (M_pressTo : Nat → Int32) (M_s : Int32) (H : Heap) (locs : List Loc) (ls : Array Slot), g_X7_isPress_34 F n v1 v2 v3 v4 M_presses M_pressFrom M_pressTo M_s = some z → va_P D vwCl (wdX7 q y M_thrown M_text M_size M_has M_hand M_layers M_kinds M_names M_nameSizes M_thicknesses M_spreads M_coppers M_copperAt M_presses M_pressFrom M_pressTo M_vias M_viaFrom M_viaTo M_shares M_lists M_hasRow M_rowLow M_rowHigh M_p M_s M_fault M_lines M_word M_wordSize M_out M_written M_secondOne) H → va_D A (wdX7 q y M_thrown M_text M_size M_has M_hand M_layers M_kinds M_names M_nameSizes M_thicknesses M_spreads M_coppers M_copperAt M_presses M_pressFrom M_pressTo M_vias M_viaFrom M_viaTo M_shares M_lists M_hasRow M_rowLow M_rowHigh M_p M_s M_fault M_lines M_word M_wordSize M_out M_written M_secondOne) → va_S A s.heap H locs → lv_has ls 5 [(0, .ref (q 0)), (1, .int v1), (2, .int v2), (3, .int v3), (4, .int v4)] → W p l e ({ frames := 0, cells := 0, slots := 0, locals := 0 } : Room) s m args below meth c H locs 0 0 (MQ below (QI D y A (z) (wdX7 q y M_thrown M_text M_size M_has M_hand M_layers M_kinds M_names M_nameSizes M_thicknesses M_spreads M_coppers M_copperAt M_presses M_pressFrom M_pressTo M_vias M_viaFrom M_viaTo M_shares M_lists M_hasRow M_rowLow M_rowHigh M_p M_s M_fault M_lines M_word M_wordSize M_out M_written M_secondOne)) args s 0 0 A) (F0 m 34 ls []) := by
  obtain ⟨⟨hx, hb, hml, hown, hts⟩, hr, hlocks⟩ := id C
  intro n
  induction n with
  | zero =>
    intro v1 v2 v3 v4 M_presses M_pressFrom M_pressTo M_s H locs ls hm
    rw [g_X7_isPress_34_z] at hm
    cases hm
  | succ n ih =>
    intro v1 v2 v3 v4 M_presses M_pressFrom M_pressTo M_s H locs ls hm hP hD hS hl
    rw [g_X7_isPress_34_s] at hm
    refine lv_iload hx hb dX7_isPress_34 (lv_at hl 4 rfl) ?_
    refine lv_bipush (v := (22 : Int32)) hx hb dX7_isPress_36 (by decide) ?_
    refine lv_aload_n hx hb dX7_isPress_38 rfl (lv_at hl 0 rfl) ?_
    refine va_get (D := D) (ci := 7) (v := .int M_s) (C := RX7) (T := TX7) (N := 33) hx hb hts n_X7_isPress_X7 hown hK hP 0 rfl rfl 25 (by decide) (hts _ w_X7_isPress_f134) (fun _ h9 => h9) rfl dX7_isPress_39 ?_
    refine lv_imul hx hb dX7_isPress_42 ?_
    refine lv_aload_n hx hb dX7_isPress_43 rfl (lv_at hl 0 rfl) ?_
    refine va_get (D := D) (ci := 7) (v := .ref (q 10)) (C := RX7) (T := TX7) (N := 33) hx hb hts n_X7_isPress_X7 hown hK hP 0 rfl rfl 13 (by decide) (hts _ w_X7_isPress_f38) (fun _ h9 => h9) rfl dX7_isPress_44 ?_
    refine lv_aload_n hx hb dX7_isPress_47 rfl (lv_at hl 0 rfl) ?_
    refine va_get (D := D) (ci := 7) (v := .int M_s) (C := RX7) (T := TX7) (N := 33) hx hb hts n_X7_isPress_X7 hown hK hP 0 rfl rfl 25 (by decide) (hts _ w_X7_isPress_f134) (fun _ h9 => h9) rfl dX7_isPress_48 ?_
    obtain ⟨hg_1, hm⟩ := mg_of hm
    refine va_iald hx hb hK hP 10 0 rfl rfl hg_1 dX7_isPress_51 ?_
    refine lv_iadd hx hb dX7_isPress_52 ?_
    refine lv_icmp_ge (tgt := 94) hx hb dX7_isPress_53 (by decide) (fun h_2 => ?_) (fun h_2 => ?_)
    · have hm := it_of hm h_2
      refine lv_iload_n hx hb dX7_isPress_94 rfl (lv_at hl 3 rfl) ?_
      obtain ⟨hg_3, hm⟩ := mg_of hm
      have hz := Option.some.inj hm
      subst hz
      exact end_z C hK hP hD hS hg_3 dX7_isPress_95
    · have hm := ie_of hm h_2
      refine lv_iload_n hx hb dX7_isPress_56 rfl (lv_at hl 3 rfl) ?_
      refine lv_if_ne (tgt := 82) hx hb dX7_isPress_57 (by decide) (fun h_4 => ?_) (fun h_4 => ?_)
      · have hm := ie_of hm h_4
        refine lv_iconst (v := (1 : Int32)) hx hb dX7_isPress_82 (by decide) ?_
        refine lv_goto (tgt := 87) hx hb dX7_isPress_83 (by decide) ?_
        refine lv_istore_n (lv' := [(3, .int (1 : Int32)), (0, .ref (q 0)), (1, .int v1), (2, .int v2), (4, .int v4)]) hx hb dX7_isPress_87 rfl hl (by decide) rfl (fun ls hl => ?_)
        obtain ⟨v4_5, ev4_5⟩ : ∃ y9 : Int32, y9 = (v4 + (1 : Int32)) := ⟨_, rfl⟩
        have hm := mn_of ev4_5 hm
        refine lv_iinc (v := v4_5) (lv' := [(4, .int v4_5), (3, .int (1 : Int32)), (0, .ref (q 0)), (1, .int v1), (2, .int v2)]) hx hb dX7_isPress_88 hl (k := 4) rfl (by rw [ev4_5]; rfl) (by decide) rfl (fun ls hl => ?_)
        refine lv_goto (tgt := 34) hx hb dX7_isPress_91 (by decide) ?_
        exact ih v1 v2 (1 : Int32) v4_5 M_presses M_pressFrom M_pressTo M_s _ _ _ hm hP hD hS (lv_sub hl [2, 3, 4, 1, 0] rfl)
      · have hm := it_of hm h_4
        refine lv_aload_n hx hb dX7_isPress_60 rfl (lv_at hl 0 rfl) ?_
        refine va_get (D := D) (ci := 7) (v := .ref (q 11)) (C := RX7) (T := TX7) (N := 33) hx hb hts n_X7_isPress_X7 hown hK hP 0 rfl rfl 14 (by decide) (hts _ w_X7_isPress_f41) (fun _ h9 => h9) rfl dX7_isPress_61 ?_
        refine lv_iload hx hb dX7_isPress_64 (lv_at hl 4 rfl) ?_
        obtain ⟨hg_6, hm⟩ := mg_of hm
        refine va_iald hx hb hK hP 11 0 rfl rfl hg_6 dX7_isPress_66 ?_
        refine lv_iload_n hx hb dX7_isPress_67 rfl (lv_at hl 1 rfl) ?_
        refine lv_icmp_ne (tgt := 86) hx hb dX7_isPress_68 (by decide) (fun h_7 => ?_) (fun h_7 => ?_)
        · have hm := ie_of hm h_7
          refine lv_iconst (v := (0 : Int32)) hx hb dX7_isPress_86 (by decide) ?_
          refine lv_istore_n (lv' := [(3, .int (0 : Int32)), (0, .ref (q 0)), (1, .int v1), (2, .int v2), (4, .int v4)]) hx hb dX7_isPress_87 rfl hl (by decide) rfl (fun ls hl => ?_)
          obtain ⟨v4_8, ev4_8⟩ : ∃ y9 : Int32, y9 = (v4 + (1 : Int32)) := ⟨_, rfl⟩
          have hm := mn_of ev4_8 hm
          refine lv_iinc (v := v4_8) (lv' := [(4, .int v4_8), (3, .int (0 : Int32)), (0, .ref (q 0)), (1, .int v1), (2, .int v2)]) hx hb dX7_isPress_88 hl (k := 4) rfl (by rw [ev4_8]; rfl) (by decide) rfl (fun ls hl => ?_)
          refine lv_goto (tgt := 34) hx hb dX7_isPress_91 (by decide) ?_
          exact ih v1 v2 (0 : Int32) v4_8 M_presses M_pressFrom M_pressTo M_s _ _ _ hm hP hD hS (lv_sub hl [2, 3, 4, 1, 0] rfl)
        · have hm := it_of hm h_7
          refine lv_aload_n hx hb dX7_isPress_71 rfl (lv_at hl 0 rfl) ?_
          refine va_get (D := D) (ci := 7) (v := .ref (q 12)) (C := RX7) (T := TX7) (N := 33) hx hb hts n_X7_isPress_X7 hown hK hP 0 rfl rfl 15 (by decide) (hts _ w_X7_isPress_f44) (fun _ h9 => h9) rfl dX7_isPress_72 ?_
          refine lv_iload hx hb dX7_isPress_75 (lv_at hl 4 rfl) ?_
          obtain ⟨hg_9, hm⟩ := mg_of hm
          refine va_iald hx hb hK hP 12 0 rfl rfl hg_9 dX7_isPress_77 ?_
          refine lv_iload_n hx hb dX7_isPress_78 rfl (lv_at hl 2 rfl) ?_
          refine lv_icmp_ne (tgt := 86) hx hb dX7_isPress_79 (by decide) (fun h_10 => ?_) (fun h_10 => ?_)
          · have hm := ie_of hm h_10
            refine lv_iconst (v := (0 : Int32)) hx hb dX7_isPress_86 (by decide) ?_
            refine lv_istore_n (lv' := [(3, .int (0 : Int32)), (0, .ref (q 0)), (1, .int v1), (2, .int v2), (4, .int v4)]) hx hb dX7_isPress_87 rfl hl (by decide) rfl (fun ls hl => ?_)
            obtain ⟨v4_11, ev4_11⟩ : ∃ y9 : Int32, y9 = (v4 + (1 : Int32)) := ⟨_, rfl⟩
            have hm := mn_of ev4_11 hm
            refine lv_iinc (v := v4_11) (lv' := [(4, .int v4_11), (3, .int (0 : Int32)), (0, .ref (q 0)), (1, .int v1), (2, .int v2)]) hx hb dX7_isPress_88 hl (k := 4) rfl (by rw [ev4_11]; rfl) (by decide) rfl (fun ls hl => ?_)
            refine lv_goto (tgt := 34) hx hb dX7_isPress_91 (by decide) ?_
            exact ih v1 v2 (0 : Int32) v4_11 M_presses M_pressFrom M_pressTo M_s _ _ _ hm hP hD hS (lv_sub hl [2, 3, 4, 1, 0] rfl)
          · have hm := it_of hm h_10
            refine lv_iconst (v := (1 : Int32)) hx hb dX7_isPress_82 (by decide) ?_
            refine lv_goto (tgt := 87) hx hb dX7_isPress_83 (by decide) ?_
            refine lv_istore_n (lv' := [(3, .int (1 : Int32)), (0, .ref (q 0)), (1, .int v1), (2, .int v2), (4, .int v4)]) hx hb dX7_isPress_87 rfl hl (by decide) rfl (fun ls hl => ?_)
            obtain ⟨v4_12, ev4_12⟩ : ∃ y9 : Int32, y9 = (v4 + (1 : Int32)) := ⟨_, rfl⟩
            have hm := mn_of ev4_12 hm
            refine lv_iinc (v := v4_12) (lv' := [(4, .int v4_12), (3, .int (1 : Int32)), (0, .ref (q 0)), (1, .int v1), (2, .int v2)]) hx hb dX7_isPress_88 hl (k := 4) rfl (by rw [ev4_12]; rfl) (by decide) rfl (fun ls hl => ?_)
            refine lv_goto (tgt := 34) hx hb dX7_isPress_91 (by decide) ?_
            exact ih v1 v2 (1 : Int32) v4_12 M_presses M_pressFrom M_pressTo M_s _ _ _ hm hP hD hS (lv_sub hl [2, 3, 4, 1, 0] rfl)
set_option maxHeartbeats 4000000 in
set_option maxRecDepth 100000 in
theorem c_X7_isPress (l : Launch) (D : va_G) (y : Nat → ClassId) (q : Nat → Nat) (sz : Nat) (F : Nat) {v1 : Int32} {v2 : Int32} {M_thrown : Int32} {M_text : Nat → Int32} {M_size : Int32} {M_has : Int32} {M_hand : Int32} {M_layers : Nat → Int32} {M_kinds : Nat → Int32} {M_names : Nat → Int64} {M_nameSizes : Nat → Int32} {M_thicknesses : Nat → Int64} {M_spreads : Nat → Int32} {M_coppers : Nat → Int32} {M_copperAt : Nat → Int32} {M_presses : Nat → Int32} {M_pressFrom : Nat → Int32} {M_pressTo : Nat → Int32} {M_vias : Nat → Int32} {M_viaFrom : Nat → Int32} {M_viaTo : Nat → Int32} {M_shares : Nat → Int32} {M_lists : Int32} {M_hasRow : Nat → Int32} {M_rowLow : Nat → Int64} {M_rowHigh : Nat → Int64} {M_p : Int32} {M_s : Int32} {M_fault : Int32} {M_lines : Int32} {M_word : Int64} {M_wordSize : Int32} {M_out : Nat → Int32} {M_written : Int32} {M_secondOne : Int32} {z : Int32} (hm : f_X7_isPress F v1 v2 M_coppers M_presses M_pressFrom M_pressTo M_s = some z) : Met l yX7_isPress wsX7_isPress ({ frames := 0, cells := 0, slots := 0, locals := 0 } : Room) (va_Pc [.ref (q 0), .int v1, .int v2] (cP D y (wdX7 q y M_thrown M_text M_size M_has M_hand M_layers M_kinds M_names M_nameSizes M_thicknesses M_spreads M_coppers M_copperAt M_presses M_pressFrom M_pressTo M_vias M_viaFrom M_viaTo M_shares M_lists M_hasRow M_rowLow M_rowHigh M_p M_s M_fault M_lines M_word M_wordSize M_out M_written M_secondOne) sz)) (QI D y (va_A (wdX7 q y M_thrown M_text M_size M_has M_hand M_layers M_kinds M_names M_nameSizes M_thicknesses M_spreads M_coppers M_copperAt M_presses M_pressFrom M_pressTo M_vias M_viaFrom M_viaTo M_shares M_lists M_hasRow M_rowLow M_rowHigh M_p M_s M_fault M_lines M_word M_wordSize M_out M_written M_secondOne) sz) (z) (wdX7 q y M_thrown M_text M_size M_has M_hand M_layers M_kinds M_names M_nameSizes M_thicknesses M_spreads M_coppers M_copperAt M_presses M_pressFrom M_pressTo M_vias M_viaFrom M_viaTo M_shares M_lists M_hasRow M_rowLow M_rowHigh M_p M_s M_fault M_lines M_word M_wordSize M_out M_written M_secondOne)) 0 0 (va_A (wdX7 q y M_thrown M_text M_size M_has M_hand M_layers M_kinds M_names M_nameSizes M_thicknesses M_spreads M_coppers M_copperAt M_presses M_pressFrom M_pressTo M_vias M_viaFrom M_viaTo M_shares M_lists M_hasRow M_rowLow M_rowHigh M_p M_s M_fault M_lines M_word M_wordSize M_out M_written M_secondOne) sz) := by
  refine met_of (own := RX7) (cc := cX7_isPress) (maxL := 5) (ret := (some .boolean)) (by decide) rfl rfl (Nat.le_of_ble_eq_true rfl) ?_
  intro p e s m below meth c ls C hsz hK hP hD hA hS hl
  obtain ⟨⟨hx, hb, hml, hown, hts⟩, hr, hlocks⟩ := id C
  have hl : lv_has ls 5 [(0, .ref (q 0)), (1, .int v1), (2, .int v2)] := hl
  generalize va_A (wdX7 q y M_thrown M_text M_size M_has M_hand M_layers M_kinds M_names M_nameSizes M_thicknesses M_spreads M_coppers M_copperAt M_presses M_pressFrom M_pressTo M_vias M_viaFrom M_viaTo M_shares M_lists M_hasRow M_rowLow M_rowHigh M_p M_s M_fault M_lines M_word M_wordSize M_out M_written M_secondOne) sz = A at hD hA hS ⊢
  generalize ([.ref (q 0), .int v1, .int v2] : List Value).toArray = args at C hts ⊢
  unfold f_X7_isPress at hm
  refine lv_iload_n hx hb dX7_isPress_0 rfl (lv_at hl 1 rfl) ?_
  refine lv_if_ne (tgt := 23) hx hb dX7_isPress_1 (by decide) (fun h_1 => ?_) (fun h_1 => ?_)
  · have hm := ie_of hm h_1
    refine lv_iconst (v := (0 : Int32)) hx hb dX7_isPress_23 (by decide) ?_
    refine lv_istore_n (lv' := [(3, .int (0 : Int32)), (0, .ref (q 0)), (1, .int v1), (2, .int v2)]) hx hb dX7_isPress_24 rfl hl (by decide) rfl (fun ls hl => ?_)
    refine lv_bipush (v := (22 : Int32)) hx hb dX7_isPress_25 (by decide) ?_
    refine lv_aload_n hx hb dX7_isPress_27 rfl (lv_at hl 1 rfl) ?_
    refine va_get (D := D) (ci := 7) (v := .int M_s) (C := RX7) (T := TX7) (N := 33) hx hb hts n_X7_isPress_X7 hown hK hP 0 rfl rfl 25 (by decide) (hts _ w_X7_isPress_f134) (fun _ h9 => h9) rfl dX7_isPress_28 ?_
    refine lv_imul hx hb dX7_isPress_31 ?_
    refine lv_topi (fun v4_2 ev4_2 => ?_)
    have hm := mn_of ev4_2 hm
    refine lv_istore (lv' := [(4, .int v4_2), (3, .int (0 : Int32)), (0, .ref (q 0)), (1, .int v1), (2, .int v2)]) hx hb dX7_isPress_32 hl (by decide) rfl (fun ls hl => ?_)
    exact k_X7_isPress_34 C hA hK F F v1 v2 (0 : Int32) v4_2 M_presses M_pressFrom M_pressTo M_s _ _ _ hm hP hD hS (lv_sub hl [2, 3, 4, 1, 0] rfl)
  · have hm := it_of hm h_1
    refine lv_iload_n hx hb dX7_isPress_4 rfl (lv_at hl 2 rfl) ?_
    refine lv_aload_n hx hb dX7_isPress_5 rfl (lv_at hl 0 rfl) ?_
    refine va_get (D := D) (ci := 7) (v := .ref (q 8)) (C := RX7) (T := TX7) (N := 33) hx hb hts n_X7_isPress_X7 hown hK hP 0 rfl rfl 11 (by decide) (hts _ w_X7_isPress_f32) (fun _ h9 => h9) rfl dX7_isPress_6 ?_
    refine lv_aload_n hx hb dX7_isPress_9 rfl (lv_at hl 0 rfl) ?_
    refine va_get (D := D) (ci := 7) (v := .int M_s) (C := RX7) (T := TX7) (N := 33) hx hb hts n_X7_isPress_X7 hown hK hP 0 rfl rfl 25 (by decide) (hts _ w_X7_isPress_f134) (fun _ h9 => h9) rfl dX7_isPress_10 ?_
    obtain ⟨hg_3, hm⟩ := mg_of hm
    refine va_iald hx hb hK hP 8 0 rfl rfl hg_3 dX7_isPress_13 ?_
    refine lv_iconst (v := (1 : Int32)) hx hb dX7_isPress_14 (by decide) ?_
    refine lv_isub hx hb dX7_isPress_15 ?_
    refine lv_icmp_ne (tgt := 23) hx hb dX7_isPress_16 (by decide) (fun h_4 => ?_) (fun h_4 => ?_)
    · have hm := ie_of hm h_4
      refine lv_iconst (v := (0 : Int32)) hx hb dX7_isPress_23 (by decide) ?_
      refine lv_istore_n (lv' := [(3, .int (0 : Int32)), (0, .ref (q 0)), (1, .int v1), (2, .int v2)]) hx hb dX7_isPress_24 rfl hl (by decide) rfl (fun ls hl => ?_)
      refine lv_bipush (v := (22 : Int32)) hx hb dX7_isPress_25 (by decide) ?_
      refine lv_aload_n hx hb dX7_isPress_27 rfl (lv_at hl 1 rfl) ?_
      refine va_get (D := D) (ci := 7) (v := .int M_s) (C := RX7) (T := TX7) (N := 33) hx hb hts n_X7_isPress_X7 hown hK hP 0 rfl rfl 25 (by decide) (hts _ w_X7_isPress_f134) (fun _ h9 => h9) rfl dX7_isPress_28 ?_
      refine lv_imul hx hb dX7_isPress_31 ?_
      refine lv_topi (fun v4_5 ev4_5 => ?_)
      have hm := mn_of ev4_5 hm
      refine lv_istore (lv' := [(4, .int v4_5), (3, .int (0 : Int32)), (0, .ref (q 0)), (1, .int v1), (2, .int v2)]) hx hb dX7_isPress_32 hl (by decide) rfl (fun ls hl => ?_)
      exact k_X7_isPress_34 C hA hK F F v1 v2 (0 : Int32) v4_5 M_presses M_pressFrom M_pressTo M_s _ _ _ hm hP hD hS (lv_sub hl [2, 3, 4, 1, 0] rfl)
    · have hm := it_of hm h_4
      refine lv_iconst (v := (1 : Int32)) hx hb dX7_isPress_19 (by decide) ?_
      refine lv_goto (tgt := 24) hx hb dX7_isPress_20 (by decide) ?_
      refine lv_istore_n (lv' := [(3, .int (1 : Int32)), (0, .ref (q 0)), (1, .int v1), (2, .int v2)]) hx hb dX7_isPress_24 rfl hl (by decide) rfl (fun ls hl => ?_)
      refine lv_bipush (v := (22 : Int32)) hx hb dX7_isPress_25 (by decide) ?_
      refine lv_aload_n hx hb dX7_isPress_27 rfl (lv_at hl 1 rfl) ?_
      refine va_get (D := D) (ci := 7) (v := .int M_s) (C := RX7) (T := TX7) (N := 33) hx hb hts n_X7_isPress_X7 hown hK hP 0 rfl rfl 25 (by decide) (hts _ w_X7_isPress_f134) (fun _ h9 => h9) rfl dX7_isPress_28 ?_
      refine lv_imul hx hb dX7_isPress_31 ?_
      refine lv_topi (fun v4_6 ev4_6 => ?_)
      have hm := mn_of ev4_6 hm
      refine lv_istore (lv' := [(4, .int v4_6), (3, .int (1 : Int32)), (0, .ref (q 0)), (1, .int v1), (2, .int v2)]) hx hb dX7_isPress_32 hl (by decide) rfl (fun ls hl => ?_)
      exact k_X7_isPress_34 C hA hK F F v1 v2 (1 : Int32) v4_6 M_presses M_pressFrom M_pressTo M_s _ _ _ hm hP hD hS (lv_sub hl [2, 3, 4, 1, 0] rfl)
def g_X7_isVia_11 (F : Nat) : Nat → Int32 → Int32 → Int32 → Int32 → (Nat → Int32) → (Nat → Int32) → (Nat → Int32) → Int32 → Option (Int32)
  | 0, _, _, _, _, _, _, _, _ => none
  | n + 1, v1, v2, v3, v4, M_vias, M_viaFrom, M_viaTo, M_s => mg (inb M_s 2) ((if (((40 : Int32) * M_s) + (M_vias (M_s).toNatClampNeg)) ≤ v4 then mg (vp_nar .boolean v3 = v3) (some v3) else (if v3 = 0 then mg (inb v4 80) ((if (M_viaFrom (v4).toNatClampNeg) = v1 then mg (inb v4 80) ((if (M_viaTo (v4).toNatClampNeg) = v2 then mn (v4 + (1 : Int32)) (fun v4_12 => g_X7_isVia_11 F n v1 v2 (1 : Int32) v4_12 M_vias M_viaFrom M_viaTo M_s) else mn (v4 + (1 : Int32)) (fun v4_11 => g_X7_isVia_11 F n v1 v2 (0 : Int32) v4_11 M_vias M_viaFrom M_viaTo M_s))) else mn (v4 + (1 : Int32)) (fun v4_8 => g_X7_isVia_11 F n v1 v2 (0 : Int32) v4_8 M_vias M_viaFrom M_viaTo M_s))) else mn (v4 + (1 : Int32)) (fun v4_5 => g_X7_isVia_11 F n v1 v2 (1 : Int32) v4_5 M_vias M_viaFrom M_viaTo M_s))))
theorem g_X7_isVia_11_z (F : Nat) (v1 : Int32) (v2 : Int32) (v3 : Int32) (v4 : Int32) (M_vias : Nat → Int32) (M_viaFrom : Nat → Int32) (M_viaTo : Nat → Int32) (M_s : Int32) : g_X7_isVia_11 F 0 v1 v2 v3 v4 M_vias M_viaFrom M_viaTo M_s = none := rfl
theorem g_X7_isVia_11_s (F : Nat) (n : Nat) (v1 : Int32) (v2 : Int32) (v3 : Int32) (v4 : Int32) (M_vias : Nat → Int32) (M_viaFrom : Nat → Int32) (M_viaTo : Nat → Int32) (M_s : Int32) : g_X7_isVia_11 F (n + 1) v1 v2 v3 v4 M_vias M_viaFrom M_viaTo M_s = mg (inb M_s 2) ((if (((40 : Int32) * M_s) + (M_vias (M_s).toNatClampNeg)) ≤ v4 then mg (vp_nar .boolean v3 = v3) (some v3) else (if v3 = 0 then mg (inb v4 80) ((if (M_viaFrom (v4).toNatClampNeg) = v1 then mg (inb v4 80) ((if (M_viaTo (v4).toNatClampNeg) = v2 then mn (v4 + (1 : Int32)) (fun v4_12 => g_X7_isVia_11 F n v1 v2 (1 : Int32) v4_12 M_vias M_viaFrom M_viaTo M_s) else mn (v4 + (1 : Int32)) (fun v4_11 => g_X7_isVia_11 F n v1 v2 (0 : Int32) v4_11 M_vias M_viaFrom M_viaTo M_s))) else mn (v4 + (1 : Int32)) (fun v4_8 => g_X7_isVia_11 F n v1 v2 (0 : Int32) v4_8 M_vias M_viaFrom M_viaTo M_s))) else mn (v4 + (1 : Int32)) (fun v4_5 => g_X7_isVia_11 F n v1 v2 (1 : Int32) v4_5 M_vias M_viaFrom M_viaTo M_s)))) := rfl
def f_X7_isVia (F : Nat) (v1 : Int32) (v2 : Int32) (M_vias : Nat → Int32) (M_viaFrom : Nat → Int32) (M_viaTo : Nat → Int32) (M_s : Int32) : Option (Int32) := mn ((40 : Int32) * M_s) (fun v4_1 => g_X7_isVia_11 F F v1 v2 (0 : Int32) v4_1 M_vias M_viaFrom M_viaTo M_s)
set_option maxRecDepth 20000 in
theorem n_X7_isVia_X7 : ∀ w ∈ wsX70, w ∈ wsX7_isVia := by decide +kernel
set_option maxRecDepth 20000 in
theorem w_X7_isVia_f134 : Cond.fieldLink RX7 134 "LayerStacksModel" "s" "I" ∈ wsX7_isVia := by decide +kernel
set_option maxRecDepth 20000 in
theorem w_X7_isVia_f47 : Cond.fieldLink RX7 47 "LayerStacksModel" "vias" "[I" ∈ wsX7_isVia := by decide +kernel
set_option maxRecDepth 20000 in
theorem w_X7_isVia_f50 : Cond.fieldLink RX7 50 "LayerStacksModel" "viaFrom" "[I" ∈ wsX7_isVia := by decide +kernel
set_option maxRecDepth 20000 in
theorem w_X7_isVia_f53 : Cond.fieldLink RX7 53 "LayerStacksModel" "viaTo" "[I" ∈ wsX7_isVia := by decide +kernel
set_option maxHeartbeats 4000000 in
set_option maxRecDepth 100000 in
theorem k_X7_isVia_11 {p : Program} {l : Launch} {e : Env} {s : State} {m : MethodId} {args : Array Value} {below : List Frame} {meth : Method} {c : Code} {D : va_G} {y : Nat → ClassId} {A : Nat → Prop} {q : Nat → Nat} {M_thrown : Int32} {M_text : Nat → Int32} {M_size : Int32} {M_has : Int32} {M_hand : Int32} {M_layers : Nat → Int32} {M_kinds : Nat → Int32} {M_names : Nat → Int64} {M_nameSizes : Nat → Int32} {M_thicknesses : Nat → Int64} {M_spreads : Nat → Int32} {M_coppers : Nat → Int32} {M_copperAt : Nat → Int32} {M_presses : Nat → Int32} {M_pressFrom : Nat → Int32} {M_pressTo : Nat → Int32} {M_shares : Nat → Int32} {M_lists : Int32} {M_hasRow : Nat → Int32} {M_rowLow : Nat → Int64} {M_rowHigh : Nat → Int64} {M_p : Int32} {M_fault : Int32} {M_lines : Int32} {M_word : Int64} {M_wordSize : Int32} {M_out : Nat → Int32} {M_written : Int32} {M_secondOne : Int32} {z : Int32} (C : CX p s m args meth c wsX7_isVia RX7 cX7_isVia 5 (some .boolean)) (hA : ∀ q : Nat, s.heap.size ≤ q → A q) (hK : va_K D vwCl (tyl y) s) (F : Nat) :
    ∀ (n : Nat), ∀ (v1 : Int32) (v2 : Int32) (v3 : Int32) (v4 : Int32) (M_vias : Nat → Int32) (M_viaFrom : Nat → Int32) (M_viaTo : Nat → Int32) (M_s : Int32) (H : Heap) (locs : List Loc) (ls : Array Slot), g_X7_isVia_11 F n v1 v2 v3 v4 M_vias M_viaFrom M_viaTo M_s = some z → va_P D vwCl (wdX7 q y M_thrown M_text M_size M_has M_hand M_layers M_kinds M_names M_nameSizes M_thicknesses M_spreads M_coppers M_copperAt M_presses M_pressFrom M_pressTo M_vias M_viaFrom M_viaTo M_shares M_lists M_hasRow M_rowLow M_rowHigh M_p M_s M_fault M_lines M_word M_wordSize M_out M_written M_secondOne) H → va_D A (wdX7 q y M_thrown M_text M_size M_has M_hand M_layers M_kinds M_names M_nameSizes M_thicknesses M_spreads M_coppers M_copperAt M_presses M_pressFrom M_pressTo M_vias M_viaFrom M_viaTo M_shares M_lists M_hasRow M_rowLow M_rowHigh M_p M_s M_fault M_lines M_word M_wordSize M_out M_written M_secondOne) → va_S A s.heap H locs → lv_has ls 5 [(0, .ref (q 0)), (1, .int v1), (2, .int v2), (3, .int v3), (4, .int v4)] → W p l e ({ frames := 0, cells := 0, slots := 0, locals := 0 } : Room) s m args below meth c H locs 0 0 (MQ below (QI D y A (z) (wdX7 q y M_thrown M_text M_size M_has M_hand M_layers M_kinds M_names M_nameSizes M_thicknesses M_spreads M_coppers M_copperAt M_presses M_pressFrom M_pressTo M_vias M_viaFrom M_viaTo M_shares M_lists M_hasRow M_rowLow M_rowHigh M_p M_s M_fault M_lines M_word M_wordSize M_out M_written M_secondOne)) args s 0 0 A) (F0 m 11 ls []) := by
  obtain ⟨⟨hx, hb, hml, hown, hts⟩, hr, hlocks⟩ := id C
  intro n
  induction n with
  | zero =>
    intro v1 v2 v3 v4 M_vias M_viaFrom M_viaTo M_s H locs ls hm
    rw [g_X7_isVia_11_z] at hm
    cases hm
  | succ n ih =>
    intro v1 v2 v3 v4 M_vias M_viaFrom M_viaTo M_s H locs ls hm hP hD hS hl
    rw [g_X7_isVia_11_s] at hm
    refine lv_iload hx hb dX7_isVia_11 (lv_at hl 4 rfl) ?_
    refine lv_bipush (v := (40 : Int32)) hx hb dX7_isVia_13 (by decide) ?_
    refine lv_aload_n hx hb dX7_isVia_15 rfl (lv_at hl 0 rfl) ?_
    refine va_get (D := D) (ci := 7) (v := .int M_s) (C := RX7) (T := TX7) (N := 33) hx hb hts n_X7_isVia_X7 hown hK hP 0 rfl rfl 25 (by decide) (hts _ w_X7_isVia_f134) (fun _ h9 => h9) rfl dX7_isVia_16 ?_
    refine lv_imul hx hb dX7_isVia_19 ?_
    refine lv_aload_n hx hb dX7_isVia_20 rfl (lv_at hl 0 rfl) ?_
    refine va_get (D := D) (ci := 7) (v := .ref (q 13)) (C := RX7) (T := TX7) (N := 33) hx hb hts n_X7_isVia_X7 hown hK hP 0 rfl rfl 16 (by decide) (hts _ w_X7_isVia_f47) (fun _ h9 => h9) rfl dX7_isVia_21 ?_
    refine lv_aload_n hx hb dX7_isVia_24 rfl (lv_at hl 0 rfl) ?_
    refine va_get (D := D) (ci := 7) (v := .int M_s) (C := RX7) (T := TX7) (N := 33) hx hb hts n_X7_isVia_X7 hown hK hP 0 rfl rfl 25 (by decide) (hts _ w_X7_isVia_f134) (fun _ h9 => h9) rfl dX7_isVia_25 ?_
    obtain ⟨hg_1, hm⟩ := mg_of hm
    refine va_iald hx hb hK hP 13 0 rfl rfl hg_1 dX7_isVia_28 ?_
    refine lv_iadd hx hb dX7_isVia_29 ?_
    refine lv_icmp_ge (tgt := 71) hx hb dX7_isVia_30 (by decide) (fun h_2 => ?_) (fun h_2 => ?_)
    · have hm := it_of hm h_2
      refine lv_iload_n hx hb dX7_isVia_71 rfl (lv_at hl 3 rfl) ?_
      obtain ⟨hg_3, hm⟩ := mg_of hm
      have hz := Option.some.inj hm
      subst hz
      exact end_z C hK hP hD hS hg_3 dX7_isVia_72
    · have hm := ie_of hm h_2
      refine lv_iload_n hx hb dX7_isVia_33 rfl (lv_at hl 3 rfl) ?_
      refine lv_if_ne (tgt := 59) hx hb dX7_isVia_34 (by decide) (fun h_4 => ?_) (fun h_4 => ?_)
      · have hm := ie_of hm h_4
        refine lv_iconst (v := (1 : Int32)) hx hb dX7_isVia_59 (by decide) ?_
        refine lv_goto (tgt := 64) hx hb dX7_isVia_60 (by decide) ?_
        refine lv_istore_n (lv' := [(3, .int (1 : Int32)), (0, .ref (q 0)), (1, .int v1), (2, .int v2), (4, .int v4)]) hx hb dX7_isVia_64 rfl hl (by decide) rfl (fun ls hl => ?_)
        obtain ⟨v4_5, ev4_5⟩ : ∃ y9 : Int32, y9 = (v4 + (1 : Int32)) := ⟨_, rfl⟩
        have hm := mn_of ev4_5 hm
        refine lv_iinc (v := v4_5) (lv' := [(4, .int v4_5), (3, .int (1 : Int32)), (0, .ref (q 0)), (1, .int v1), (2, .int v2)]) hx hb dX7_isVia_65 hl (k := 4) rfl (by rw [ev4_5]; rfl) (by decide) rfl (fun ls hl => ?_)
        refine lv_goto (tgt := 11) hx hb dX7_isVia_68 (by decide) ?_
        exact ih v1 v2 (1 : Int32) v4_5 M_vias M_viaFrom M_viaTo M_s _ _ _ hm hP hD hS (lv_sub hl [2, 3, 4, 1, 0] rfl)
      · have hm := it_of hm h_4
        refine lv_aload_n hx hb dX7_isVia_37 rfl (lv_at hl 0 rfl) ?_
        refine va_get (D := D) (ci := 7) (v := .ref (q 14)) (C := RX7) (T := TX7) (N := 33) hx hb hts n_X7_isVia_X7 hown hK hP 0 rfl rfl 17 (by decide) (hts _ w_X7_isVia_f50) (fun _ h9 => h9) rfl dX7_isVia_38 ?_
        refine lv_iload hx hb dX7_isVia_41 (lv_at hl 4 rfl) ?_
        obtain ⟨hg_6, hm⟩ := mg_of hm
        refine va_iald hx hb hK hP 14 0 rfl rfl hg_6 dX7_isVia_43 ?_
        refine lv_iload_n hx hb dX7_isVia_44 rfl (lv_at hl 1 rfl) ?_
        refine lv_icmp_ne (tgt := 63) hx hb dX7_isVia_45 (by decide) (fun h_7 => ?_) (fun h_7 => ?_)
        · have hm := ie_of hm h_7
          refine lv_iconst (v := (0 : Int32)) hx hb dX7_isVia_63 (by decide) ?_
          refine lv_istore_n (lv' := [(3, .int (0 : Int32)), (0, .ref (q 0)), (1, .int v1), (2, .int v2), (4, .int v4)]) hx hb dX7_isVia_64 rfl hl (by decide) rfl (fun ls hl => ?_)
          obtain ⟨v4_8, ev4_8⟩ : ∃ y9 : Int32, y9 = (v4 + (1 : Int32)) := ⟨_, rfl⟩
          have hm := mn_of ev4_8 hm
          refine lv_iinc (v := v4_8) (lv' := [(4, .int v4_8), (3, .int (0 : Int32)), (0, .ref (q 0)), (1, .int v1), (2, .int v2)]) hx hb dX7_isVia_65 hl (k := 4) rfl (by rw [ev4_8]; rfl) (by decide) rfl (fun ls hl => ?_)
          refine lv_goto (tgt := 11) hx hb dX7_isVia_68 (by decide) ?_
          exact ih v1 v2 (0 : Int32) v4_8 M_vias M_viaFrom M_viaTo M_s _ _ _ hm hP hD hS (lv_sub hl [2, 3, 4, 1, 0] rfl)
        · have hm := it_of hm h_7
          refine lv_aload_n hx hb dX7_isVia_48 rfl (lv_at hl 0 rfl) ?_
          refine va_get (D := D) (ci := 7) (v := .ref (q 15)) (C := RX7) (T := TX7) (N := 33) hx hb hts n_X7_isVia_X7 hown hK hP 0 rfl rfl 18 (by decide) (hts _ w_X7_isVia_f53) (fun _ h9 => h9) rfl dX7_isVia_49 ?_
          refine lv_iload hx hb dX7_isVia_52 (lv_at hl 4 rfl) ?_
          obtain ⟨hg_9, hm⟩ := mg_of hm
          refine va_iald hx hb hK hP 15 0 rfl rfl hg_9 dX7_isVia_54 ?_
          refine lv_iload_n hx hb dX7_isVia_55 rfl (lv_at hl 2 rfl) ?_
          refine lv_icmp_ne (tgt := 63) hx hb dX7_isVia_56 (by decide) (fun h_10 => ?_) (fun h_10 => ?_)
          · have hm := ie_of hm h_10
            refine lv_iconst (v := (0 : Int32)) hx hb dX7_isVia_63 (by decide) ?_
            refine lv_istore_n (lv' := [(3, .int (0 : Int32)), (0, .ref (q 0)), (1, .int v1), (2, .int v2), (4, .int v4)]) hx hb dX7_isVia_64 rfl hl (by decide) rfl (fun ls hl => ?_)
            obtain ⟨v4_11, ev4_11⟩ : ∃ y9 : Int32, y9 = (v4 + (1 : Int32)) := ⟨_, rfl⟩
            have hm := mn_of ev4_11 hm
            refine lv_iinc (v := v4_11) (lv' := [(4, .int v4_11), (3, .int (0 : Int32)), (0, .ref (q 0)), (1, .int v1), (2, .int v2)]) hx hb dX7_isVia_65 hl (k := 4) rfl (by rw [ev4_11]; rfl) (by decide) rfl (fun ls hl => ?_)
            refine lv_goto (tgt := 11) hx hb dX7_isVia_68 (by decide) ?_
            exact ih v1 v2 (0 : Int32) v4_11 M_vias M_viaFrom M_viaTo M_s _ _ _ hm hP hD hS (lv_sub hl [2, 3, 4, 1, 0] rfl)
          · have hm := it_of hm h_10
            refine lv_iconst (v := (1 : Int32)) hx hb dX7_isVia_59 (by decide) ?_
            refine lv_goto (tgt := 64) hx hb dX7_isVia_60 (by decide) ?_
            refine lv_istore_n (lv' := [(3, .int (1 : Int32)), (0, .ref (q 0)), (1, .int v1), (2, .int v2), (4, .int v4)]) hx hb dX7_isVia_64 rfl hl (by decide) rfl (fun ls hl => ?_)
            obtain ⟨v4_12, ev4_12⟩ : ∃ y9 : Int32, y9 = (v4 + (1 : Int32)) := ⟨_, rfl⟩
            have hm := mn_of ev4_12 hm
            refine lv_iinc (v := v4_12) (lv' := [(4, .int v4_12), (3, .int (1 : Int32)), (0, .ref (q 0)), (1, .int v1), (2, .int v2)]) hx hb dX7_isVia_65 hl (k := 4) rfl (by rw [ev4_12]; rfl) (by decide) rfl (fun ls hl => ?_)
            refine lv_goto (tgt := 11) hx hb dX7_isVia_68 (by decide) ?_
            exact ih v1 v2 (1 : Int32) v4_12 M_vias M_viaFrom M_viaTo M_s _ _ _ hm hP hD hS (lv_sub hl [2, 3, 4, 1, 0] rfl)
set_option maxHeartbeats 4000000 in
set_option maxRecDepth 100000 in
theorem c_X7_isVia (l : Launch) (D : va_G) (y : Nat → ClassId) (q : Nat → Nat) (sz : Nat) (F : Nat) {v1 : Int32} {v2 : Int32} {M_thrown : Int32} {M_text : Nat → Int32} {M_size : Int32} {M_has : Int32} {M_hand : Int32} {M_layers : Nat → Int32} {M_kinds : Nat → Int32} {M_names : Nat → Int64} {M_nameSizes : Nat → Int32} {M_thicknesses : Nat → Int64} {M_spreads : Nat → Int32} {M_coppers : Nat → Int32} {M_copperAt : Nat → Int32} {M_presses : Nat → Int32} {M_pressFrom : Nat → Int32} {M_pressTo : Nat → Int32} {M_vias : Nat → Int32} {M_viaFrom : Nat → Int32} {M_viaTo : Nat → Int32} {M_shares : Nat → Int32} {M_lists : Int32} {M_hasRow : Nat → Int32} {M_rowLow : Nat → Int64} {M_rowHigh : Nat → Int64} {M_p : Int32} {M_s : Int32} {M_fault : Int32} {M_lines : Int32} {M_word : Int64} {M_wordSize : Int32} {M_out : Nat → Int32} {M_written : Int32} {M_secondOne : Int32} {z : Int32} (hm : f_X7_isVia F v1 v2 M_vias M_viaFrom M_viaTo M_s = some z) : Met l yX7_isVia wsX7_isVia ({ frames := 0, cells := 0, slots := 0, locals := 0 } : Room) (va_Pc [.ref (q 0), .int v1, .int v2] (cP D y (wdX7 q y M_thrown M_text M_size M_has M_hand M_layers M_kinds M_names M_nameSizes M_thicknesses M_spreads M_coppers M_copperAt M_presses M_pressFrom M_pressTo M_vias M_viaFrom M_viaTo M_shares M_lists M_hasRow M_rowLow M_rowHigh M_p M_s M_fault M_lines M_word M_wordSize M_out M_written M_secondOne) sz)) (QI D y (va_A (wdX7 q y M_thrown M_text M_size M_has M_hand M_layers M_kinds M_names M_nameSizes M_thicknesses M_spreads M_coppers M_copperAt M_presses M_pressFrom M_pressTo M_vias M_viaFrom M_viaTo M_shares M_lists M_hasRow M_rowLow M_rowHigh M_p M_s M_fault M_lines M_word M_wordSize M_out M_written M_secondOne) sz) (z) (wdX7 q y M_thrown M_text M_size M_has M_hand M_layers M_kinds M_names M_nameSizes M_thicknesses M_spreads M_coppers M_copperAt M_presses M_pressFrom M_pressTo M_vias M_viaFrom M_viaTo M_shares M_lists M_hasRow M_rowLow M_rowHigh M_p M_s M_fault M_lines M_word M_wordSize M_out M_written M_secondOne)) 0 0 (va_A (wdX7 q y M_thrown M_text M_size M_has M_hand M_layers M_kinds M_names M_nameSizes M_thicknesses M_spreads M_coppers M_copperAt M_presses M_pressFrom M_pressTo M_vias M_viaFrom M_viaTo M_shares M_lists M_hasRow M_rowLow M_rowHigh M_p M_s M_fault M_lines M_word M_wordSize M_out M_written M_secondOne) sz) := by
  refine met_of (own := RX7) (cc := cX7_isVia) (maxL := 5) (ret := (some .boolean)) (by decide) rfl rfl (Nat.le_of_ble_eq_true rfl) ?_
  intro p e s m below meth c ls C hsz hK hP hD hA hS hl
  obtain ⟨⟨hx, hb, hml, hown, hts⟩, hr, hlocks⟩ := id C
  have hl : lv_has ls 5 [(0, .ref (q 0)), (1, .int v1), (2, .int v2)] := hl
  generalize va_A (wdX7 q y M_thrown M_text M_size M_has M_hand M_layers M_kinds M_names M_nameSizes M_thicknesses M_spreads M_coppers M_copperAt M_presses M_pressFrom M_pressTo M_vias M_viaFrom M_viaTo M_shares M_lists M_hasRow M_rowLow M_rowHigh M_p M_s M_fault M_lines M_word M_wordSize M_out M_written M_secondOne) sz = A at hD hA hS ⊢
  generalize ([.ref (q 0), .int v1, .int v2] : List Value).toArray = args at C hts ⊢
  unfold f_X7_isVia at hm
  refine lv_iconst (v := (0 : Int32)) hx hb dX7_isVia_0 (by decide) ?_
  refine lv_istore_n (lv' := [(3, .int (0 : Int32)), (0, .ref (q 0)), (1, .int v1), (2, .int v2)]) hx hb dX7_isVia_1 rfl hl (by decide) rfl (fun ls hl => ?_)
  refine lv_bipush (v := (40 : Int32)) hx hb dX7_isVia_2 (by decide) ?_
  refine lv_aload_n hx hb dX7_isVia_4 rfl (lv_at hl 1 rfl) ?_
  refine va_get (D := D) (ci := 7) (v := .int M_s) (C := RX7) (T := TX7) (N := 33) hx hb hts n_X7_isVia_X7 hown hK hP 0 rfl rfl 25 (by decide) (hts _ w_X7_isVia_f134) (fun _ h9 => h9) rfl dX7_isVia_5 ?_
  refine lv_imul hx hb dX7_isVia_8 ?_
  refine lv_topi (fun v4_1 ev4_1 => ?_)
  have hm := mn_of ev4_1 hm
  refine lv_istore (lv' := [(4, .int v4_1), (3, .int (0 : Int32)), (0, .ref (q 0)), (1, .int v1), (2, .int v2)]) hx hb dX7_isVia_9 hl (by decide) rfl (fun ls hl => ?_)
  exact k_X7_isVia_11 C hA hK F F v1 v2 (0 : Int32) v4_1 M_vias M_viaFrom M_viaTo M_s _ _ _ hm hP hD hS (lv_sub hl [2, 3, 4, 1, 0] rfl)
def g_X7_viaLine_61 (F : Nat) (v2 : Int32) (M_text : Nat → Int32) (M_size : Int32) (M_vias : Nat → Int32) (M_viaFrom : Nat → Int32) (M_viaTo : Nat → Int32) (M_p : Int32) (M_s : Int32) (M_fault : Int32) (M_word : Int64) (M_wordSize : Int32) (M_secondOne : Int32) : Option ((Nat → Int32) × (Nat → Int32) × (Nat → Int32) × Int32 × Int32 × Int64 × Int32 × Int32) := mb2 (f_X7_expect F (10 : Int32) M_text M_size M_p M_fault) (fun M_p_1 M_fault_2 => mb1 (f_X7_good F M_fault_2) (fun r_4 => (if r_4 = 0 then some (M_vias, M_viaFrom, M_viaTo, M_p_1, M_fault_2, M_word, M_wordSize, M_secondOne) else mg (inb M_s 2) (mg (inb (((40 : Int32) * M_s) + (M_vias (M_s).toNatClampNeg)) 80) (mg (inb M_s 2) (mg (inb (((40 : Int32) * M_s) + (M_vias (M_s).toNatClampNeg)) 80) (mg (inb M_s 2) (mg (inb M_s 2) (some ((upd M_vias (M_s).toNatClampNeg ((M_vias (M_s).toNatClampNeg) + (1 : Int32))), (upd M_viaFrom ((((40 : Int32) * M_s) + (M_vias (M_s).toNatClampNeg))).toNatClampNeg v2), (upd M_viaTo ((((40 : Int32) * M_s) + (M_vias (M_s).toNatClampNeg))).toNatClampNeg M_secondOne), M_p_1, M_fault_2, M_word, M_wordSize, M_secondOne))))))))))
def f_X7_viaLine (F : Nat) (v1 : Int32) (M_text : Nat → Int32) (M_size : Int32) (M_names : Nat → Int64) (M_nameSizes : Nat → Int32) (M_coppers : Nat → Int32) (M_copperAt : Nat → Int32) (M_presses : Nat → Int32) (M_pressFrom : Nat → Int32) (M_pressTo : Nat → Int32) (M_vias : Nat → Int32) (M_viaFrom : Nat → Int32) (M_viaTo : Nat → Int32) (M_p : Int32) (M_s : Int32) (M_fault : Int32) (M_word : Int64) (M_wordSize : Int32) (M_secondOne : Int32) : Option ((Nat → Int32) × (Nat → Int32) × (Nat → Int32) × Int32 × Int32 × Int64 × Int32 × Int32) := mg (inb M_s 2) ((if (M_vias (M_s).toNatClampNeg) = (40 : Int32) then mb1 (f_X7_fail F v1 M_fault) (fun M_fault_23 => some (M_vias, M_viaFrom, M_viaTo, M_p, M_fault_23, M_word, M_wordSize, M_secondOne)) else mb6 (f_X7_twoNames F M_text M_size M_names M_nameSizes M_coppers M_copperAt M_p M_s M_fault M_word M_wordSize M_secondOne) (fun r_3 M_p_4 M_fault_5 M_word_6 M_wordSize_7 M_secondOne_8 => mb1 (f_X7_good F M_fault_5) (fun r_10 => (if r_10 = 0 then g_X7_viaLine_61 F r_3 M_text M_size M_vias M_viaFrom M_viaTo M_p_4 M_s M_fault_5 M_word_6 M_wordSize_7 M_secondOne_8 else mb1 (f_X7_isPress F r_3 M_secondOne_8 M_coppers M_presses M_pressFrom M_pressTo M_s) (fun r_13 => (if r_13 = 0 then mb1 (f_X7_fail F v1 M_fault_5) (fun M_fault_16 => g_X7_viaLine_61 F r_3 M_text M_size M_vias M_viaFrom M_viaTo M_p_4 M_s M_fault_16 M_word_6 M_wordSize_7 M_secondOne_8) else mb1 (f_X7_isVia F r_3 M_secondOne_8 M_vias M_viaFrom M_viaTo M_s) (fun r_18 => (if r_18 = 0 then g_X7_viaLine_61 F r_3 M_text M_size M_vias M_viaFrom M_viaTo M_p_4 M_s M_fault_5 M_word_6 M_wordSize_7 M_secondOne_8 else mb1 (f_X7_fail F v1 M_fault_5) (fun M_fault_21 => g_X7_viaLine_61 F r_3 M_text M_size M_vias M_viaFrom M_viaTo M_p_4 M_s M_fault_21 M_word_6 M_wordSize_7 M_secondOne_8))))))))))
set_option maxRecDepth 20000 in
theorem n_X7_viaLine_X7 : ∀ w ∈ wsX70, w ∈ wsX7_viaLine := by decide +kernel
set_option maxRecDepth 20000 in
theorem w_X7_viaLine_f50 : Cond.fieldLink RX7 50 "LayerStacksModel" "viaFrom" "[I" ∈ wsX7_viaLine := by decide +kernel
set_option maxRecDepth 20000 in
theorem w_X7_viaLine_f134 : Cond.fieldLink RX7 134 "LayerStacksModel" "s" "I" ∈ wsX7_viaLine := by decide +kernel
set_option maxRecDepth 20000 in
theorem w_X7_viaLine_f47 : Cond.fieldLink RX7 47 "LayerStacksModel" "vias" "[I" ∈ wsX7_viaLine := by decide +kernel
set_option maxRecDepth 20000 in
theorem w_X7_viaLine_f53 : Cond.fieldLink RX7 53 "LayerStacksModel" "viaTo" "[I" ∈ wsX7_viaLine := by decide +kernel
set_option maxRecDepth 20000 in
theorem w_X7_viaLine_f159 : Cond.fieldLink RX7 159 "LayerStacksModel" "secondOne" "I" ∈ wsX7_viaLine := by decide +kernel
set_option maxHeartbeats 4000000 in
set_option maxRecDepth 100000 in
theorem k_X7_viaLine_61 {p : Program} {l : Launch} {e : Env} {s : State} {m : MethodId} {args : Array Value} {below : List Frame} {meth : Method} {c : Code} {D : va_G} {y : Nat → ClassId} {A : Nat → Prop} {q : Nat → Nat} {M_thrown : Int32} {M_has : Int32} {M_hand : Int32} {M_layers : Nat → Int32} {M_kinds : Nat → Int32} {M_names : Nat → Int64} {M_nameSizes : Nat → Int32} {M_thicknesses : Nat → Int64} {M_spreads : Nat → Int32} {M_coppers : Nat → Int32} {M_copperAt : Nat → Int32} {M_presses : Nat → Int32} {M_pressFrom : Nat → Int32} {M_pressTo : Nat → Int32} {M_shares : Nat → Int32} {M_lists : Int32} {M_hasRow : Nat → Int32} {M_rowLow : Nat → Int64} {M_rowHigh : Nat → Int64} {M_lines : Int32} {M_out : Nat → Int32} {M_written : Int32} {z : (Nat → Int32) × (Nat → Int32) × (Nat → Int32) × Int32 × Int32 × Int64 × Int32 × Int32} (C : CX p s m args meth c wsX7_viaLine RX7 cX7_viaLine 3 none) (hA : ∀ q : Nat, s.heap.size ≤ q → A q) (hK : va_K D vwCl (tyl y) s) (F : Nat) :
    ∀ (v2 : Int32) (M_text : Nat → Int32) (M_size : Int32) (M_vias : Nat → Int32) (M_viaFrom : Nat → Int32) (M_viaTo : Nat → Int32) (M_p : Int32) (M_s : Int32) (M_fault : Int32) (M_word : Int64) (M_wordSize : Int32) (M_secondOne : Int32) (H : Heap) (locs : List Loc) (ls : Array Slot), g_X7_viaLine_61 F v2 M_text M_size M_vias M_viaFrom M_viaTo M_p M_s M_fault M_word M_wordSize M_secondOne = some z → va_P D vwCl (wdX7 q y M_thrown M_text M_size M_has M_hand M_layers M_kinds M_names M_nameSizes M_thicknesses M_spreads M_coppers M_copperAt M_presses M_pressFrom M_pressTo M_vias M_viaFrom M_viaTo M_shares M_lists M_hasRow M_rowLow M_rowHigh M_p M_s M_fault M_lines M_word M_wordSize M_out M_written M_secondOne) H → va_D A (wdX7 q y M_thrown M_text M_size M_has M_hand M_layers M_kinds M_names M_nameSizes M_thicknesses M_spreads M_coppers M_copperAt M_presses M_pressFrom M_pressTo M_vias M_viaFrom M_viaTo M_shares M_lists M_hasRow M_rowLow M_rowHigh M_p M_s M_fault M_lines M_word M_wordSize M_out M_written M_secondOne) → va_S A s.heap H locs → lv_has ls 3 [(0, .ref (q 0)), (2, .int v2)] → W p l e ({ frames := 3, cells := 0, slots := 0, locals := 65 } : Room) s m args below meth c H locs 0 0 (MQ below (QV D y A (wdX7 q y M_thrown M_text M_size M_has M_hand M_layers M_kinds M_names M_nameSizes M_thicknesses M_spreads M_coppers M_copperAt M_presses M_pressFrom M_pressTo (z.1) (z.2.1) (z.2.2.1) M_shares M_lists M_hasRow M_rowLow M_rowHigh (z.2.2.2.1) M_s (z.2.2.2.2.1) M_lines (z.2.2.2.2.2.1) (z.2.2.2.2.2.2.1) M_out M_written (z.2.2.2.2.2.2.2))) args s 0 0 A) (F0 m 61 ls []) := by
  obtain ⟨⟨hx, hb, hml, hown, hts⟩, hr, hlocks⟩ := id C
  intro v2 M_text M_size M_vias M_viaFrom M_viaTo M_p M_s M_fault M_word M_wordSize M_secondOne H locs ls hm hP hD hS hl
  unfold g_X7_viaLine_61 at hm
  refine lv_aload_n hx hb dX7_viaLine_61 rfl (lv_at hl 0 rfl) ?_
  refine lv_bipush (v := (10 : Int32)) hx hb dX7_viaLine_62 (by decide) ?_
  obtain ⟨M_p_1, M_fault_2, hc_3, hm⟩ := mb2_of hm
  refine call_vv (wc := (wdX7 q y M_thrown M_text M_size M_has M_hand M_layers M_kinds M_names M_nameSizes M_thicknesses M_spreads M_coppers M_copperAt M_presses M_pressFrom M_pressTo M_vias M_viaFrom M_viaTo M_shares M_lists M_hasRow M_rowLow M_rowHigh M_p M_s M_fault M_lines M_word M_wordSize M_out M_written M_secondOne)) (wr := []) (As := [.int (10 : Int32)]) (rest := []) C (c_X7_expect l D y q _ F hc_3) (cwV 1 hts gX7_viaLine_X7_expect rfl rfl rfl (by decide +kernel) ⟨Nat.le_of_ble_eq_true rfl, Nat.le_of_ble_eq_true rfl⟩) hK hP hD hS hA [0, 1, 2, 3, 4, 5, 6, 7, 8, 9, 10, 11, 12, 13, 14, 15, 16, 17, 18, 19, 20] [] rfl rfl rfl rfl rfl (by decide) rfl rfl rfl rfl hl.1 (Nat.le_of_ble_eq_true rfl) dX7_viaLine_64 (fun H locs hP hD hS => ?_)
  have hP : va_P D vwCl (wdX7 q y M_thrown M_text M_size M_has M_hand M_layers M_kinds M_names M_nameSizes M_thicknesses M_spreads M_coppers M_copperAt M_presses M_pressFrom M_pressTo M_vias M_viaFrom M_viaTo M_shares M_lists M_hasRow M_rowLow M_rowHigh M_p_1 M_s M_fault_2 M_lines M_word M_wordSize M_out M_written M_secondOne) H := hP
  have hD : va_D A (wdX7 q y M_thrown M_text M_size M_has M_hand M_layers M_kinds M_names M_nameSizes M_thicknesses M_spreads M_coppers M_copperAt M_presses M_pressFrom M_pressTo M_vias M_viaFrom M_viaTo M_shares M_lists M_hasRow M_rowLow M_rowHigh M_p_1 M_s M_fault_2 M_lines M_word M_wordSize M_out M_written M_secondOne) := hD
  refine lv_aload_n hx hb dX7_viaLine_67 rfl (lv_at hl 0 rfl) ?_
  obtain ⟨r_4, hc_5, hm⟩ := mb1_of hm
  refine call_vi (wc := (wdX7 q y M_thrown M_text M_size M_has M_hand M_layers M_kinds M_names M_nameSizes M_thicknesses M_spreads M_coppers M_copperAt M_presses M_pressFrom M_pressTo M_vias M_viaFrom M_viaTo M_shares M_lists M_hasRow M_rowLow M_rowHigh M_p_1 M_s M_fault_2 M_lines M_word M_wordSize M_out M_written M_secondOne)) (wr := []) (As := []) (rest := []) C (c_X7_good l D y q _ F hc_5) (cwV 0 hts gX7_viaLine_X7_good rfl rfl rfl (by decide +kernel) ⟨Nat.le_of_ble_eq_true rfl, Nat.le_of_ble_eq_true rfl⟩) hK hP hD hS hA [0, 1, 2, 3, 4, 5, 6, 7, 8, 9, 10, 11, 12, 13, 14, 15, 16, 17, 18, 19, 20] [] rfl rfl rfl rfl rfl (by decide) rfl rfl rfl rfl hl.1 (Nat.le_of_ble_eq_true rfl) dX7_viaLine_68 (fun H locs hP hD hS => ?_)
  have hP : va_P D vwCl (wdX7 q y M_thrown M_text M_size M_has M_hand M_layers M_kinds M_names M_nameSizes M_thicknesses M_spreads M_coppers M_copperAt M_presses M_pressFrom M_pressTo M_vias M_viaFrom M_viaTo M_shares M_lists M_hasRow M_rowLow M_rowHigh M_p_1 M_s M_fault_2 M_lines M_word M_wordSize M_out M_written M_secondOne) H := hP
  have hD : va_D A (wdX7 q y M_thrown M_text M_size M_has M_hand M_layers M_kinds M_names M_nameSizes M_thicknesses M_spreads M_coppers M_copperAt M_presses M_pressFrom M_pressTo M_vias M_viaFrom M_viaTo M_shares M_lists M_hasRow M_rowLow M_rowHigh M_p_1 M_s M_fault_2 M_lines M_word M_wordSize M_out M_written M_secondOne) := hD
  refine lv_if_ne (tgt := 75) hx hb dX7_viaLine_71 (by decide) (fun h_6 => ?_) (fun h_6 => ?_)
  · have hm := ie_of hm h_6
    refine lv_aload_n hx hb dX7_viaLine_75 rfl (lv_at hl 0 rfl) ?_
    refine va_get (D := D) (ci := 7) (v := .ref (q 14)) (C := RX7) (T := TX7) (N := 33) hx hb hts n_X7_viaLine_X7 hown hK hP 0 rfl rfl 17 (by decide) (hts _ w_X7_viaLine_f50) (fun _ h9 => h9) rfl dX7_viaLine_76 ?_
    refine lv_bipush (v := (40 : Int32)) hx hb dX7_viaLine_79 (by decide) ?_
    refine lv_aload_n hx hb dX7_viaLine_81 rfl (lv_at hl 0 rfl) ?_
    refine va_get (D := D) (ci := 7) (v := .int M_s) (C := RX7) (T := TX7) (N := 33) hx hb hts n_X7_viaLine_X7 hown hK hP 0 rfl rfl 25 (by decide) (hts _ w_X7_viaLine_f134) (fun _ h9 => h9) rfl dX7_viaLine_82 ?_
    refine lv_imul hx hb dX7_viaLine_85 ?_
    refine lv_aload_n hx hb dX7_viaLine_86 rfl (lv_at hl 0 rfl) ?_
    refine va_get (D := D) (ci := 7) (v := .ref (q 13)) (C := RX7) (T := TX7) (N := 33) hx hb hts n_X7_viaLine_X7 hown hK hP 0 rfl rfl 16 (by decide) (hts _ w_X7_viaLine_f47) (fun _ h9 => h9) rfl dX7_viaLine_87 ?_
    refine lv_aload_n hx hb dX7_viaLine_90 rfl (lv_at hl 0 rfl) ?_
    refine va_get (D := D) (ci := 7) (v := .int M_s) (C := RX7) (T := TX7) (N := 33) hx hb hts n_X7_viaLine_X7 hown hK hP 0 rfl rfl 25 (by decide) (hts _ w_X7_viaLine_f134) (fun _ h9 => h9) rfl dX7_viaLine_91 ?_
    obtain ⟨hg_7, hm⟩ := mg_of hm
    refine va_iald hx hb hK hP 13 0 rfl rfl hg_7 dX7_viaLine_94 ?_
    refine lv_iadd hx hb dX7_viaLine_95 ?_
    refine lv_iload_n hx hb dX7_viaLine_96 rfl (lv_at hl 1 rfl) ?_
    obtain ⟨hg_8, hm⟩ := mg_of hm
    refine va_iast hx hb hK hP hD hS 14 0 rfl rfl hg_8 dX7_viaLine_97 (fun H locs hP hD hS => ?_)
    have hP : va_P D vwCl (wdX7 q y M_thrown M_text M_size M_has M_hand M_layers M_kinds M_names M_nameSizes M_thicknesses M_spreads M_coppers M_copperAt M_presses M_pressFrom M_pressTo M_vias (upd M_viaFrom ((((40 : Int32) * M_s) + (M_vias (M_s).toNatClampNeg))).toNatClampNeg v2) M_viaTo M_shares M_lists M_hasRow M_rowLow M_rowHigh M_p_1 M_s M_fault_2 M_lines M_word M_wordSize M_out M_written M_secondOne) H := hP
    have hD : va_D A (wdX7 q y M_thrown M_text M_size M_has M_hand M_layers M_kinds M_names M_nameSizes M_thicknesses M_spreads M_coppers M_copperAt M_presses M_pressFrom M_pressTo M_vias (upd M_viaFrom ((((40 : Int32) * M_s) + (M_vias (M_s).toNatClampNeg))).toNatClampNeg v2) M_viaTo M_shares M_lists M_hasRow M_rowLow M_rowHigh M_p_1 M_s M_fault_2 M_lines M_word M_wordSize M_out M_written M_secondOne) := hD
    refine lv_aload_n hx hb dX7_viaLine_98 rfl (lv_at hl 0 rfl) ?_
    refine va_get (D := D) (ci := 7) (v := .ref (q 15)) (C := RX7) (T := TX7) (N := 33) hx hb hts n_X7_viaLine_X7 hown hK hP 0 rfl rfl 18 (by decide) (hts _ w_X7_viaLine_f53) (fun _ h9 => h9) rfl dX7_viaLine_99 ?_
    refine lv_bipush (v := (40 : Int32)) hx hb dX7_viaLine_102 (by decide) ?_
    refine lv_aload_n hx hb dX7_viaLine_104 rfl (lv_at hl 0 rfl) ?_
    refine va_get (D := D) (ci := 7) (v := .int M_s) (C := RX7) (T := TX7) (N := 33) hx hb hts n_X7_viaLine_X7 hown hK hP 0 rfl rfl 25 (by decide) (hts _ w_X7_viaLine_f134) (fun _ h9 => h9) rfl dX7_viaLine_105 ?_
    refine lv_imul hx hb dX7_viaLine_108 ?_
    refine lv_aload_n hx hb dX7_viaLine_109 rfl (lv_at hl 0 rfl) ?_
    refine va_get (D := D) (ci := 7) (v := .ref (q 13)) (C := RX7) (T := TX7) (N := 33) hx hb hts n_X7_viaLine_X7 hown hK hP 0 rfl rfl 16 (by decide) (hts _ w_X7_viaLine_f47) (fun _ h9 => h9) rfl dX7_viaLine_110 ?_
    refine lv_aload_n hx hb dX7_viaLine_113 rfl (lv_at hl 0 rfl) ?_
    refine va_get (D := D) (ci := 7) (v := .int M_s) (C := RX7) (T := TX7) (N := 33) hx hb hts n_X7_viaLine_X7 hown hK hP 0 rfl rfl 25 (by decide) (hts _ w_X7_viaLine_f134) (fun _ h9 => h9) rfl dX7_viaLine_114 ?_
    obtain ⟨hg_9, hm⟩ := mg_of hm
    refine va_iald hx hb hK hP 13 0 rfl rfl hg_9 dX7_viaLine_117 ?_
    refine lv_iadd hx hb dX7_viaLine_118 ?_
    refine lv_aload_n hx hb dX7_viaLine_119 rfl (lv_at hl 0 rfl) ?_
    refine va_get (D := D) (ci := 7) (v := .int M_secondOne) (C := RX7) (T := TX7) (N := 33) hx hb hts n_X7_viaLine_X7 hown hK hP 0 rfl rfl 32 (by decide) (hts _ w_X7_viaLine_f159) (fun _ h9 => h9) rfl dX7_viaLine_120 ?_
    obtain ⟨hg_10, hm⟩ := mg_of hm
    refine va_iast hx hb hK hP hD hS 15 0 rfl rfl hg_10 dX7_viaLine_123 (fun H locs hP hD hS => ?_)
    have hP : va_P D vwCl (wdX7 q y M_thrown M_text M_size M_has M_hand M_layers M_kinds M_names M_nameSizes M_thicknesses M_spreads M_coppers M_copperAt M_presses M_pressFrom M_pressTo M_vias (upd M_viaFrom ((((40 : Int32) * M_s) + (M_vias (M_s).toNatClampNeg))).toNatClampNeg v2) (upd M_viaTo ((((40 : Int32) * M_s) + (M_vias (M_s).toNatClampNeg))).toNatClampNeg M_secondOne) M_shares M_lists M_hasRow M_rowLow M_rowHigh M_p_1 M_s M_fault_2 M_lines M_word M_wordSize M_out M_written M_secondOne) H := hP
    have hD : va_D A (wdX7 q y M_thrown M_text M_size M_has M_hand M_layers M_kinds M_names M_nameSizes M_thicknesses M_spreads M_coppers M_copperAt M_presses M_pressFrom M_pressTo M_vias (upd M_viaFrom ((((40 : Int32) * M_s) + (M_vias (M_s).toNatClampNeg))).toNatClampNeg v2) (upd M_viaTo ((((40 : Int32) * M_s) + (M_vias (M_s).toNatClampNeg))).toNatClampNeg M_secondOne) M_shares M_lists M_hasRow M_rowLow M_rowHigh M_p_1 M_s M_fault_2 M_lines M_word M_wordSize M_out M_written M_secondOne) := hD
    refine lv_aload_n hx hb dX7_viaLine_124 rfl (lv_at hl 0 rfl) ?_
    refine va_get (D := D) (ci := 7) (v := .ref (q 13)) (C := RX7) (T := TX7) (N := 33) hx hb hts n_X7_viaLine_X7 hown hK hP 0 rfl rfl 16 (by decide) (hts _ w_X7_viaLine_f47) (fun _ h9 => h9) rfl dX7_viaLine_125 ?_
    refine lv_aload_n hx hb dX7_viaLine_128 rfl (lv_at hl 0 rfl) ?_
    refine va_get (D := D) (ci := 7) (v := .int M_s) (C := RX7) (T := TX7) (N := 33) hx hb hts n_X7_viaLine_X7 hown hK hP 0 rfl rfl 25 (by decide) (hts _ w_X7_viaLine_f134) (fun _ h9 => h9) rfl dX7_viaLine_129 ?_
    refine lv_dup2_11 hx hb dX7_viaLine_132 rfl rfl ?_
    obtain ⟨hg_11, hm⟩ := mg_of hm
    refine va_iald hx hb hK hP 13 0 rfl rfl hg_11 dX7_viaLine_133 ?_
    refine lv_iconst (v := (1 : Int32)) hx hb dX7_viaLine_134 (by decide) ?_
    refine lv_iadd hx hb dX7_viaLine_135 ?_
    obtain ⟨hg_12, hm⟩ := mg_of hm
    refine va_iast hx hb hK hP hD hS 13 0 rfl rfl hg_12 dX7_viaLine_136 (fun H locs hP hD hS => ?_)
    have hP : va_P D vwCl (wdX7 q y M_thrown M_text M_size M_has M_hand M_layers M_kinds M_names M_nameSizes M_thicknesses M_spreads M_coppers M_copperAt M_presses M_pressFrom M_pressTo (upd M_vias (M_s).toNatClampNeg ((M_vias (M_s).toNatClampNeg) + (1 : Int32))) (upd M_viaFrom ((((40 : Int32) * M_s) + (M_vias (M_s).toNatClampNeg))).toNatClampNeg v2) (upd M_viaTo ((((40 : Int32) * M_s) + (M_vias (M_s).toNatClampNeg))).toNatClampNeg M_secondOne) M_shares M_lists M_hasRow M_rowLow M_rowHigh M_p_1 M_s M_fault_2 M_lines M_word M_wordSize M_out M_written M_secondOne) H := hP
    have hD : va_D A (wdX7 q y M_thrown M_text M_size M_has M_hand M_layers M_kinds M_names M_nameSizes M_thicknesses M_spreads M_coppers M_copperAt M_presses M_pressFrom M_pressTo (upd M_vias (M_s).toNatClampNeg ((M_vias (M_s).toNatClampNeg) + (1 : Int32))) (upd M_viaFrom ((((40 : Int32) * M_s) + (M_vias (M_s).toNatClampNeg))).toNatClampNeg v2) (upd M_viaTo ((((40 : Int32) * M_s) + (M_vias (M_s).toNatClampNeg))).toNatClampNeg M_secondOne) M_shares M_lists M_hasRow M_rowLow M_rowHigh M_p_1 M_s M_fault_2 M_lines M_word M_wordSize M_out M_written M_secondOne) := hD
    have hz := Option.some.inj hm
    subst hz
    exact end_v C hK hP hD hS dX7_viaLine_137
  · have hm := it_of hm h_6
    have hz := Option.some.inj hm
    subst hz
    exact end_v C hK hP hD hS dX7_viaLine_74
set_option maxHeartbeats 4000000 in
set_option maxRecDepth 100000 in
theorem c_X7_viaLine (l : Launch) (D : va_G) (y : Nat → ClassId) (q : Nat → Nat) (sz : Nat) (F : Nat) {v1 : Int32} {M_thrown : Int32} {M_text : Nat → Int32} {M_size : Int32} {M_has : Int32} {M_hand : Int32} {M_layers : Nat → Int32} {M_kinds : Nat → Int32} {M_names : Nat → Int64} {M_nameSizes : Nat → Int32} {M_thicknesses : Nat → Int64} {M_spreads : Nat → Int32} {M_coppers : Nat → Int32} {M_copperAt : Nat → Int32} {M_presses : Nat → Int32} {M_pressFrom : Nat → Int32} {M_pressTo : Nat → Int32} {M_vias : Nat → Int32} {M_viaFrom : Nat → Int32} {M_viaTo : Nat → Int32} {M_shares : Nat → Int32} {M_lists : Int32} {M_hasRow : Nat → Int32} {M_rowLow : Nat → Int64} {M_rowHigh : Nat → Int64} {M_p : Int32} {M_s : Int32} {M_fault : Int32} {M_lines : Int32} {M_word : Int64} {M_wordSize : Int32} {M_out : Nat → Int32} {M_written : Int32} {M_secondOne : Int32} {z : (Nat → Int32) × (Nat → Int32) × (Nat → Int32) × Int32 × Int32 × Int64 × Int32 × Int32} (hm : f_X7_viaLine F v1 M_text M_size M_names M_nameSizes M_coppers M_copperAt M_presses M_pressFrom M_pressTo M_vias M_viaFrom M_viaTo M_p M_s M_fault M_word M_wordSize M_secondOne = some z) : Met l yX7_viaLine wsX7_viaLine ({ frames := 3, cells := 0, slots := 0, locals := 65 } : Room) (va_Pc [.ref (q 0), .int v1] (cP D y (wdX7 q y M_thrown M_text M_size M_has M_hand M_layers M_kinds M_names M_nameSizes M_thicknesses M_spreads M_coppers M_copperAt M_presses M_pressFrom M_pressTo M_vias M_viaFrom M_viaTo M_shares M_lists M_hasRow M_rowLow M_rowHigh M_p M_s M_fault M_lines M_word M_wordSize M_out M_written M_secondOne) sz)) (QV D y (va_A (wdX7 q y M_thrown M_text M_size M_has M_hand M_layers M_kinds M_names M_nameSizes M_thicknesses M_spreads M_coppers M_copperAt M_presses M_pressFrom M_pressTo M_vias M_viaFrom M_viaTo M_shares M_lists M_hasRow M_rowLow M_rowHigh M_p M_s M_fault M_lines M_word M_wordSize M_out M_written M_secondOne) sz) (wdX7 q y M_thrown M_text M_size M_has M_hand M_layers M_kinds M_names M_nameSizes M_thicknesses M_spreads M_coppers M_copperAt M_presses M_pressFrom M_pressTo (z.1) (z.2.1) (z.2.2.1) M_shares M_lists M_hasRow M_rowLow M_rowHigh (z.2.2.2.1) M_s (z.2.2.2.2.1) M_lines (z.2.2.2.2.2.1) (z.2.2.2.2.2.2.1) M_out M_written (z.2.2.2.2.2.2.2))) 0 0 (va_A (wdX7 q y M_thrown M_text M_size M_has M_hand M_layers M_kinds M_names M_nameSizes M_thicknesses M_spreads M_coppers M_copperAt M_presses M_pressFrom M_pressTo M_vias M_viaFrom M_viaTo M_shares M_lists M_hasRow M_rowLow M_rowHigh M_p M_s M_fault M_lines M_word M_wordSize M_out M_written M_secondOne) sz) := by
  refine met_of (own := RX7) (cc := cX7_viaLine) (maxL := 3) (ret := none) (by decide) rfl rfl (Nat.le_of_ble_eq_true rfl) ?_
  intro p e s m below meth c ls C hsz hK hP hD hA hS hl
  obtain ⟨⟨hx, hb, hml, hown, hts⟩, hr, hlocks⟩ := id C
  have hl : lv_has ls 3 [(0, .ref (q 0)), (1, .int v1)] := hl
  generalize va_A (wdX7 q y M_thrown M_text M_size M_has M_hand M_layers M_kinds M_names M_nameSizes M_thicknesses M_spreads M_coppers M_copperAt M_presses M_pressFrom M_pressTo M_vias M_viaFrom M_viaTo M_shares M_lists M_hasRow M_rowLow M_rowHigh M_p M_s M_fault M_lines M_word M_wordSize M_out M_written M_secondOne) sz = A at hD hA hS ⊢
  generalize ([.ref (q 0), .int v1] : List Value).toArray = args at C hts ⊢
  unfold f_X7_viaLine at hm
  refine lv_aload_n hx hb dX7_viaLine_0 rfl (lv_at hl 0 rfl) ?_
  refine va_get (D := D) (ci := 7) (v := .ref (q 13)) (C := RX7) (T := TX7) (N := 33) hx hb hts n_X7_viaLine_X7 hown hK hP 0 rfl rfl 16 (by decide) (hts _ w_X7_viaLine_f47) (fun _ h9 => h9) rfl dX7_viaLine_1 ?_
  refine lv_aload_n hx hb dX7_viaLine_4 rfl (lv_at hl 0 rfl) ?_
  refine va_get (D := D) (ci := 7) (v := .int M_s) (C := RX7) (T := TX7) (N := 33) hx hb hts n_X7_viaLine_X7 hown hK hP 0 rfl rfl 25 (by decide) (hts _ w_X7_viaLine_f134) (fun _ h9 => h9) rfl dX7_viaLine_5 ?_
  obtain ⟨hg_1, hm⟩ := mg_of hm
  refine va_iald hx hb hK hP 13 0 rfl rfl hg_1 dX7_viaLine_8 ?_
  refine lv_bipush (v := (40 : Int32)) hx hb dX7_viaLine_9 (by decide) ?_
  refine lv_icmp_ne (tgt := 20) hx hb dX7_viaLine_11 (by decide) (fun h_2 => ?_) (fun h_2 => ?_)
  · have hm := ie_of hm h_2
    refine lv_aload_n hx hb dX7_viaLine_20 rfl (lv_at hl 0 rfl) ?_
    obtain ⟨r_3, M_p_4, M_fault_5, M_word_6, M_wordSize_7, M_secondOne_8, hc_9, hm⟩ := mb6_of hm
    refine call_vi (wc := (wdX7 q y M_thrown M_text M_size M_has M_hand M_layers M_kinds M_names M_nameSizes M_thicknesses M_spreads M_coppers M_copperAt M_presses M_pressFrom M_pressTo M_vias M_viaFrom M_viaTo M_shares M_lists M_hasRow M_rowLow M_rowHigh M_p M_s M_fault M_lines M_word M_wordSize M_out M_written M_secondOne)) (wr := []) (As := []) (rest := []) C (c_X7_twoNames l D y q _ F hc_9) (cwV 0 hts gX7_viaLine_X7_twoNames rfl rfl rfl (by decide +kernel) ⟨Nat.le_of_ble_eq_true rfl, Nat.le_of_ble_eq_true rfl⟩) hK hP hD hS hA [0, 1, 2, 3, 4, 5, 6, 7, 8, 9, 10, 11, 12, 13, 14, 15, 16, 17, 18, 19, 20] [] rfl rfl rfl rfl rfl (by decide) rfl rfl rfl rfl hl.1 (Nat.le_of_ble_eq_true rfl) dX7_viaLine_21 (fun H locs hP hD hS => ?_)
    have hP : va_P D vwCl (wdX7 q y M_thrown M_text M_size M_has M_hand M_layers M_kinds M_names M_nameSizes M_thicknesses M_spreads M_coppers M_copperAt M_presses M_pressFrom M_pressTo M_vias M_viaFrom M_viaTo M_shares M_lists M_hasRow M_rowLow M_rowHigh M_p_4 M_s M_fault_5 M_lines M_word_6 M_wordSize_7 M_out M_written M_secondOne_8) H := hP
    have hD : va_D A (wdX7 q y M_thrown M_text M_size M_has M_hand M_layers M_kinds M_names M_nameSizes M_thicknesses M_spreads M_coppers M_copperAt M_presses M_pressFrom M_pressTo M_vias M_viaFrom M_viaTo M_shares M_lists M_hasRow M_rowLow M_rowHigh M_p_4 M_s M_fault_5 M_lines M_word_6 M_wordSize_7 M_out M_written M_secondOne_8) := hD
    refine lv_istore_n (lv' := [(2, .int r_3), (0, .ref (q 0)), (1, .int v1)]) hx hb dX7_viaLine_24 rfl hl (by decide) rfl (fun ls hl => ?_)
    refine lv_aload_n hx hb dX7_viaLine_25 rfl (lv_at hl 1 rfl) ?_
    obtain ⟨r_10, hc_11, hm⟩ := mb1_of hm
    refine call_vi (wc := (wdX7 q y M_thrown M_text M_size M_has M_hand M_layers M_kinds M_names M_nameSizes M_thicknesses M_spreads M_coppers M_copperAt M_presses M_pressFrom M_pressTo M_vias M_viaFrom M_viaTo M_shares M_lists M_hasRow M_rowLow M_rowHigh M_p_4 M_s M_fault_5 M_lines M_word_6 M_wordSize_7 M_out M_written M_secondOne_8)) (wr := []) (As := []) (rest := []) C (c_X7_good l D y q _ F hc_11) (cwV 0 hts gX7_viaLine_X7_good rfl rfl rfl (by decide +kernel) ⟨Nat.le_of_ble_eq_true rfl, Nat.le_of_ble_eq_true rfl⟩) hK hP hD hS hA [0, 1, 2, 3, 4, 5, 6, 7, 8, 9, 10, 11, 12, 13, 14, 15, 16, 17, 18, 19, 20] [] rfl rfl rfl rfl rfl (by decide) rfl rfl rfl rfl hl.1 (Nat.le_of_ble_eq_true rfl) dX7_viaLine_26 (fun H locs hP hD hS => ?_)
    have hP : va_P D vwCl (wdX7 q y M_thrown M_text M_size M_has M_hand M_layers M_kinds M_names M_nameSizes M_thicknesses M_spreads M_coppers M_copperAt M_presses M_pressFrom M_pressTo M_vias M_viaFrom M_viaTo M_shares M_lists M_hasRow M_rowLow M_rowHigh M_p_4 M_s M_fault_5 M_lines M_word_6 M_wordSize_7 M_out M_written M_secondOne_8) H := hP
    have hD : va_D A (wdX7 q y M_thrown M_text M_size M_has M_hand M_layers M_kinds M_names M_nameSizes M_thicknesses M_spreads M_coppers M_copperAt M_presses M_pressFrom M_pressTo M_vias M_viaFrom M_viaTo M_shares M_lists M_hasRow M_rowLow M_rowHigh M_p_4 M_s M_fault_5 M_lines M_word_6 M_wordSize_7 M_out M_written M_secondOne_8) := hD
    refine lv_if_eq (tgt := 61) hx hb dX7_viaLine_29 (by decide) (fun h_12 => ?_) (fun h_12 => ?_)
    · have hm := it_of hm h_12
      exact k_X7_viaLine_61 C hA hK F r_3 M_text M_size M_vias M_viaFrom M_viaTo M_p_4 M_s M_fault_5 M_word_6 M_wordSize_7 M_secondOne_8 _ _ _ hm hP hD hS (lv_sub hl [1, 0] rfl)
    · have hm := ie_of hm h_12
      refine lv_aload_n hx hb dX7_viaLine_32 rfl (lv_at hl 1 rfl) ?_
      refine lv_iload_n hx hb dX7_viaLine_33 rfl (lv_at hl 0 rfl) ?_
      refine lv_aload_n hx hb dX7_viaLine_34 rfl (lv_at hl 1 rfl) ?_
      refine va_get (D := D) (ci := 7) (v := .int M_secondOne_8) (C := RX7) (T := TX7) (N := 33) hx hb hts n_X7_viaLine_X7 hown hK hP 0 rfl rfl 32 (by decide) (hts _ w_X7_viaLine_f159) (fun _ h9 => h9) rfl dX7_viaLine_35 ?_
      obtain ⟨r_13, hc_14, hm⟩ := mb1_of hm
      refine call_vi (wc := (wdX7 q y M_thrown M_text M_size M_has M_hand M_layers M_kinds M_names M_nameSizes M_thicknesses M_spreads M_coppers M_copperAt M_presses M_pressFrom M_pressTo M_vias M_viaFrom M_viaTo M_shares M_lists M_hasRow M_rowLow M_rowHigh M_p_4 M_s M_fault_5 M_lines M_word_6 M_wordSize_7 M_out M_written M_secondOne_8)) (wr := []) (As := [.int r_3, .int M_secondOne_8]) (rest := []) C (c_X7_isPress l D y q _ F hc_14) (cwV 2 hts gX7_viaLine_X7_isPress rfl rfl rfl (by decide +kernel) ⟨Nat.le_of_ble_eq_true rfl, Nat.le_of_ble_eq_true rfl⟩) hK hP hD hS hA [0, 1, 2, 3, 4, 5, 6, 7, 8, 9, 10, 11, 12, 13, 14, 15, 16, 17, 18, 19, 20] [] rfl rfl rfl rfl rfl (by decide) rfl rfl rfl rfl hl.1 (Nat.le_of_ble_eq_true rfl) dX7_viaLine_38 (fun H locs hP hD hS => ?_)
      have hP : va_P D vwCl (wdX7 q y M_thrown M_text M_size M_has M_hand M_layers M_kinds M_names M_nameSizes M_thicknesses M_spreads M_coppers M_copperAt M_presses M_pressFrom M_pressTo M_vias M_viaFrom M_viaTo M_shares M_lists M_hasRow M_rowLow M_rowHigh M_p_4 M_s M_fault_5 M_lines M_word_6 M_wordSize_7 M_out M_written M_secondOne_8) H := hP
      have hD : va_D A (wdX7 q y M_thrown M_text M_size M_has M_hand M_layers M_kinds M_names M_nameSizes M_thicknesses M_spreads M_coppers M_copperAt M_presses M_pressFrom M_pressTo M_vias M_viaFrom M_viaTo M_shares M_lists M_hasRow M_rowLow M_rowHigh M_p_4 M_s M_fault_5 M_lines M_word_6 M_wordSize_7 M_out M_written M_secondOne_8) := hD
      refine lv_if_eq (tgt := 56) hx hb dX7_viaLine_41 (by decide) (fun h_15 => ?_) (fun h_15 => ?_)
      · have hm := it_of hm h_15
        refine lv_aload_n hx hb dX7_viaLine_56 rfl (lv_at hl 1 rfl) ?_
        refine lv_iload_n hx hb dX7_viaLine_57 rfl (lv_at hl 2 rfl) ?_
        obtain ⟨M_fault_16, hc_17, hm⟩ := mb1_of hm
        refine call_vv (wc := (wdX7 q y M_thrown M_text M_size M_has M_hand M_layers M_kinds M_names M_nameSizes M_thicknesses M_spreads M_coppers M_copperAt M_presses M_pressFrom M_pressTo M_vias M_viaFrom M_viaTo M_shares M_lists M_hasRow M_rowLow M_rowHigh M_p_4 M_s M_fault_5 M_lines M_word_6 M_wordSize_7 M_out M_written M_secondOne_8)) (wr := []) (As := [.int v1]) (rest := []) C (c_X7_fail l D y q _ F hc_17) (cwV 1 hts gX7_viaLine_X7_fail rfl rfl rfl (by decide +kernel) ⟨Nat.le_of_ble_eq_true rfl, Nat.le_of_ble_eq_true rfl⟩) hK hP hD hS hA [0, 1, 2, 3, 4, 5, 6, 7, 8, 9, 10, 11, 12, 13, 14, 15, 16, 17, 18, 19, 20] [] rfl rfl rfl rfl rfl (by decide) rfl rfl rfl rfl hl.1 (Nat.le_of_ble_eq_true rfl) dX7_viaLine_58 (fun H locs hP hD hS => ?_)
        have hP : va_P D vwCl (wdX7 q y M_thrown M_text M_size M_has M_hand M_layers M_kinds M_names M_nameSizes M_thicknesses M_spreads M_coppers M_copperAt M_presses M_pressFrom M_pressTo M_vias M_viaFrom M_viaTo M_shares M_lists M_hasRow M_rowLow M_rowHigh M_p_4 M_s M_fault_16 M_lines M_word_6 M_wordSize_7 M_out M_written M_secondOne_8) H := hP
        have hD : va_D A (wdX7 q y M_thrown M_text M_size M_has M_hand M_layers M_kinds M_names M_nameSizes M_thicknesses M_spreads M_coppers M_copperAt M_presses M_pressFrom M_pressTo M_vias M_viaFrom M_viaTo M_shares M_lists M_hasRow M_rowLow M_rowHigh M_p_4 M_s M_fault_16 M_lines M_word_6 M_wordSize_7 M_out M_written M_secondOne_8) := hD
        exact k_X7_viaLine_61 C hA hK F r_3 M_text M_size M_vias M_viaFrom M_viaTo M_p_4 M_s M_fault_16 M_word_6 M_wordSize_7 M_secondOne_8 _ _ _ hm hP hD hS (lv_sub hl [1, 0] rfl)
      · have hm := ie_of hm h_15
        refine lv_aload_n hx hb dX7_viaLine_44 rfl (lv_at hl 1 rfl) ?_
        refine lv_iload_n hx hb dX7_viaLine_45 rfl (lv_at hl 0 rfl) ?_
        refine lv_aload_n hx hb dX7_viaLine_46 rfl (lv_at hl 1 rfl) ?_
        refine va_get (D := D) (ci := 7) (v := .int M_secondOne_8) (C := RX7) (T := TX7) (N := 33) hx hb hts n_X7_viaLine_X7 hown hK hP 0 rfl rfl 32 (by decide) (hts _ w_X7_viaLine_f159) (fun _ h9 => h9) rfl dX7_viaLine_47 ?_
        obtain ⟨r_18, hc_19, hm⟩ := mb1_of hm
        refine call_vi (wc := (wdX7 q y M_thrown M_text M_size M_has M_hand M_layers M_kinds M_names M_nameSizes M_thicknesses M_spreads M_coppers M_copperAt M_presses M_pressFrom M_pressTo M_vias M_viaFrom M_viaTo M_shares M_lists M_hasRow M_rowLow M_rowHigh M_p_4 M_s M_fault_5 M_lines M_word_6 M_wordSize_7 M_out M_written M_secondOne_8)) (wr := []) (As := [.int r_3, .int M_secondOne_8]) (rest := []) C (c_X7_isVia l D y q _ F hc_19) (cwV 2 hts gX7_viaLine_X7_isVia rfl rfl rfl (by decide +kernel) ⟨Nat.le_of_ble_eq_true rfl, Nat.le_of_ble_eq_true rfl⟩) hK hP hD hS hA [0, 1, 2, 3, 4, 5, 6, 7, 8, 9, 10, 11, 12, 13, 14, 15, 16, 17, 18, 19, 20] [] rfl rfl rfl rfl rfl (by decide) rfl rfl rfl rfl hl.1 (Nat.le_of_ble_eq_true rfl) dX7_viaLine_50 (fun H locs hP hD hS => ?_)
        have hP : va_P D vwCl (wdX7 q y M_thrown M_text M_size M_has M_hand M_layers M_kinds M_names M_nameSizes M_thicknesses M_spreads M_coppers M_copperAt M_presses M_pressFrom M_pressTo M_vias M_viaFrom M_viaTo M_shares M_lists M_hasRow M_rowLow M_rowHigh M_p_4 M_s M_fault_5 M_lines M_word_6 M_wordSize_7 M_out M_written M_secondOne_8) H := hP
        have hD : va_D A (wdX7 q y M_thrown M_text M_size M_has M_hand M_layers M_kinds M_names M_nameSizes M_thicknesses M_spreads M_coppers M_copperAt M_presses M_pressFrom M_pressTo M_vias M_viaFrom M_viaTo M_shares M_lists M_hasRow M_rowLow M_rowHigh M_p_4 M_s M_fault_5 M_lines M_word_6 M_wordSize_7 M_out M_written M_secondOne_8) := hD
        refine lv_if_eq (tgt := 61) hx hb dX7_viaLine_53 (by decide) (fun h_20 => ?_) (fun h_20 => ?_)
        · have hm := it_of hm h_20
          exact k_X7_viaLine_61 C hA hK F r_3 M_text M_size M_vias M_viaFrom M_viaTo M_p_4 M_s M_fault_5 M_word_6 M_wordSize_7 M_secondOne_8 _ _ _ hm hP hD hS (lv_sub hl [1, 0] rfl)
        · have hm := ie_of hm h_20
          refine lv_aload_n hx hb dX7_viaLine_56 rfl (lv_at hl 1 rfl) ?_
          refine lv_iload_n hx hb dX7_viaLine_57 rfl (lv_at hl 2 rfl) ?_
          obtain ⟨M_fault_21, hc_22, hm⟩ := mb1_of hm
          refine call_vv (wc := (wdX7 q y M_thrown M_text M_size M_has M_hand M_layers M_kinds M_names M_nameSizes M_thicknesses M_spreads M_coppers M_copperAt M_presses M_pressFrom M_pressTo M_vias M_viaFrom M_viaTo M_shares M_lists M_hasRow M_rowLow M_rowHigh M_p_4 M_s M_fault_5 M_lines M_word_6 M_wordSize_7 M_out M_written M_secondOne_8)) (wr := []) (As := [.int v1]) (rest := []) C (c_X7_fail l D y q _ F hc_22) (cwV 1 hts gX7_viaLine_X7_fail rfl rfl rfl (by decide +kernel) ⟨Nat.le_of_ble_eq_true rfl, Nat.le_of_ble_eq_true rfl⟩) hK hP hD hS hA [0, 1, 2, 3, 4, 5, 6, 7, 8, 9, 10, 11, 12, 13, 14, 15, 16, 17, 18, 19, 20] [] rfl rfl rfl rfl rfl (by decide) rfl rfl rfl rfl hl.1 (Nat.le_of_ble_eq_true rfl) dX7_viaLine_58 (fun H locs hP hD hS => ?_)
          have hP : va_P D vwCl (wdX7 q y M_thrown M_text M_size M_has M_hand M_layers M_kinds M_names M_nameSizes M_thicknesses M_spreads M_coppers M_copperAt M_presses M_pressFrom M_pressTo M_vias M_viaFrom M_viaTo M_shares M_lists M_hasRow M_rowLow M_rowHigh M_p_4 M_s M_fault_21 M_lines M_word_6 M_wordSize_7 M_out M_written M_secondOne_8) H := hP
          have hD : va_D A (wdX7 q y M_thrown M_text M_size M_has M_hand M_layers M_kinds M_names M_nameSizes M_thicknesses M_spreads M_coppers M_copperAt M_presses M_pressFrom M_pressTo M_vias M_viaFrom M_viaTo M_shares M_lists M_hasRow M_rowLow M_rowHigh M_p_4 M_s M_fault_21 M_lines M_word_6 M_wordSize_7 M_out M_written M_secondOne_8) := hD
          exact k_X7_viaLine_61 C hA hK F r_3 M_text M_size M_vias M_viaFrom M_viaTo M_p_4 M_s M_fault_21 M_word_6 M_wordSize_7 M_secondOne_8 _ _ _ hm hP hD hS (lv_sub hl [1, 0] rfl)
  · have hm := it_of hm h_2
    refine lv_aload_n hx hb dX7_viaLine_14 rfl (lv_at hl 0 rfl) ?_
    refine lv_iload_n hx hb dX7_viaLine_15 rfl (lv_at hl 1 rfl) ?_
    obtain ⟨M_fault_23, hc_24, hm⟩ := mb1_of hm
    refine call_vv (wc := (wdX7 q y M_thrown M_text M_size M_has M_hand M_layers M_kinds M_names M_nameSizes M_thicknesses M_spreads M_coppers M_copperAt M_presses M_pressFrom M_pressTo M_vias M_viaFrom M_viaTo M_shares M_lists M_hasRow M_rowLow M_rowHigh M_p M_s M_fault M_lines M_word M_wordSize M_out M_written M_secondOne)) (wr := []) (As := [.int v1]) (rest := []) C (c_X7_fail l D y q _ F hc_24) (cwV 1 hts gX7_viaLine_X7_fail rfl rfl rfl (by decide +kernel) ⟨Nat.le_of_ble_eq_true rfl, Nat.le_of_ble_eq_true rfl⟩) hK hP hD hS hA [0, 1, 2, 3, 4, 5, 6, 7, 8, 9, 10, 11, 12, 13, 14, 15, 16, 17, 18, 19, 20] [] rfl rfl rfl rfl rfl (by decide) rfl rfl rfl rfl hl.1 (Nat.le_of_ble_eq_true rfl) dX7_viaLine_16 (fun H locs hP hD hS => ?_)
    have hP : va_P D vwCl (wdX7 q y M_thrown M_text M_size M_has M_hand M_layers M_kinds M_names M_nameSizes M_thicknesses M_spreads M_coppers M_copperAt M_presses M_pressFrom M_pressTo M_vias M_viaFrom M_viaTo M_shares M_lists M_hasRow M_rowLow M_rowHigh M_p M_s M_fault_23 M_lines M_word M_wordSize M_out M_written M_secondOne) H := hP
    have hD : va_D A (wdX7 q y M_thrown M_text M_size M_has M_hand M_layers M_kinds M_names M_nameSizes M_thicknesses M_spreads M_coppers M_copperAt M_presses M_pressFrom M_pressTo M_vias M_viaFrom M_viaTo M_shares M_lists M_hasRow M_rowLow M_rowHigh M_p M_s M_fault_23 M_lines M_word M_wordSize M_out M_written M_secondOne) := hD
    have hz := Option.some.inj hm
    subst hz
    exact end_v C hK hP hD hS dX7_viaLine_19
