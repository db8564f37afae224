def f_X7_thrown (F : Nat) (M_thrown : Int32) : Option (Int32) := some M_thrown
set_option maxRecDepth 20000 in
theorem n_X7_thrown_X7 : ∀ w ∈ wsX70, w ∈ wsX7_thrown := by decide +kernel
set_option maxRecDepth 20000 in
theorem w_X7_thrown_f72 : Cond.fieldLink RX7 72 "LayerStacksModel" "thrown" "I" ∈ wsX7_thrown := by decide +kernel
set_option maxHeartbeats 4000000 in
set_option maxRecDepth 100000 in
theorem c_X7_thrown (l : Launch) (D : va_G) (y : Nat → ClassId) (q : Nat → Nat) (sz : Nat) (F : Nat) {M_thrown : Int32} {M_text : Nat → Int32} {M_size : Int32} {M_has : Int32} {M_hand : Int32} {M_layers : Nat → Int32} {M_kinds : Nat → Int32} {M_names : Nat → Int64} {M_nameSizes : Nat → Int32} {M_thicknesses : Nat → Int64} {M_spreads : Nat → Int32} {M_coppers : Nat → Int32} {M_copperAt : Nat → Int32} {M_presses : Nat → Int32} {M_pressFrom : Nat → Int32} {M_pressTo : Nat → Int32} {M_vias : Nat → Int32} {M_viaFrom : Nat → Int32} {M_viaTo : Nat → Int32} {M_shares : Nat → Int32} {M_lists : Int32} {M_hasRow : Nat → Int32} {M_rowLow : Nat → Int64} {M_rowHigh : Nat → Int64} {M_p : Int32} {M_s : Int32} {M_fault : Int32} {M_lines : Int32} {M_word : Int64} {M_wordSize : Int32} {M_out : Nat → Int32} {M_written : Int32} {M_secondOne : Int32} {z : Int32} (hm : f_X7_thrown F M_thrown = some z) : Met l yX7_thrown wsX7_thrown ({ frames := 0, cells := 0, slots := 0, locals := 0 } : Room) (va_Pc [.ref (q 0)] (cP D y (wdX7 q y M_thrown M_text M_size M_has M_hand M_layers M_kinds M_names M_nameSizes M_thicknesses M_spreads M_coppers M_copperAt M_presses M_pressFrom M_pressTo M_vias M_viaFrom M_viaTo M_shares M_lists M_hasRow M_rowLow M_rowHigh M_p M_s M_fault M_lines M_word M_wordSize M_out M_written M_secondOne) sz)) (QI D y (va_A (wdX7 q y M_thrown M_text M_size M_has M_hand M_layers M_kinds M_names M_nameSizes M_thicknesses M_spreads M_coppers M_copperAt M_presses M_pressFrom M_pressTo M_vias M_viaFrom M_viaTo M_shares M_lists M_hasRow M_rowLow M_rowHigh M_p M_s M_fault M_lines M_word M_wordSize M_out M_written M_secondOne) sz) (z) (wdX7 q y M_thrown M_text M_size M_has M_hand M_layers M_kinds M_names M_nameSizes M_thicknesses M_spreads M_coppers M_copperAt M_presses M_pressFrom M_pressTo M_vias M_viaFrom M_viaTo M_shares M_lists M_hasRow M_rowLow M_rowHigh M_p M_s M_fault M_lines M_word M_wordSize M_out M_written M_secondOne)) 0 0 (va_A (wdX7 q y M_thrown M_text M_size M_has M_hand M_layers M_kinds M_names M_nameSizes M_thicknesses M_spreads M_coppers M_copperAt M_presses M_pressFrom M_pressTo M_vias M_viaFrom M_viaTo M_shares M_lists M_hasRow M_rowLow M_rowHigh M_p M_s M_fault M_lines M_word M_wordSize M_out M_written M_secondOne) sz) := by
  refine met_of (own := RX7) (cc := cX7_thrown) (maxL := 1) (ret := (some .int)) (by decide) rfl rfl (Nat.le_of_ble_eq_true rfl) ?_
  intro p e s m below meth c ls C hsz hK hP hD hA hS hl
  obtain ⟨⟨hx, hb, hml, hown, hts⟩, hr, hlocks⟩ := id C
  have hl : lv_has ls 1 [(0, .ref (q 0))] := hl
  generalize va_A (wdX7 q y M_thrown M_text M_size M_has M_hand M_layers M_kinds M_names M_nameSizes M_thicknesses M_spreads M_coppers M_copperAt M_presses M_pressFrom M_pressTo M_vias M_viaFrom M_viaTo M_shares M_lists M_hasRow M_rowLow M_rowHigh M_p M_s M_fault M_lines M_word M_wordSize M_out M_written M_secondOne) sz = A at hD hA hS ⊢
  generalize ([.ref (q 0)] : List Value).toArray = args at C hts ⊢
  unfold f_X7_thrown at hm
  refine lv_aload_n hx hb dX7_thrown_0 rfl (lv_at hl 0 rfl) ?_
  refine va_get (D := D) (ci := 7) (v := .int M_thrown) (C := RX7) (T := TX7) (N := 33) hx hb hts n_X7_thrown_X7 hown hK hP 0 rfl rfl 0 (by decide) (hts _ w_X7_thrown_f72) (fun _ h9 => h9) rfl dX7_thrown_1 ?_
  have hz := Option.some.inj hm
  subst hz
  exact end_i C hK hP hD hS dX7_thrown_4
def g_X7_unit_28 (F : Nat) (v1 : Int32) (st0 : Int32) (M_thrown : Int32) (M_text : Nat → Int32) (M_size : Int32) : Option (Int32 × Int32 × (Nat → Int32) × Int32) := (if st0 = 0 then some ((0 : Int32), M_thrown, M_text, M_size) else (if M_size = (3000 : Int32) then some ((0 : Int32), M_thrown, M_text, M_size) else mg (inb M_size 3000) (some ((1 : Int32), M_thrown, (upd M_text (M_size).toNatClampNeg v1), (M_size + (1 : Int32))))))
def f_X7_unit (F : Nat) (v1 : Int32) (M_thrown : Int32) (M_text : Nat → Int32) (M_size : Int32) : Option (Int32 × Int32 × (Nat → Int32) × Int32) := (if v1 < (32 : Int32) then (if v1 = (10 : Int32) then g_X7_unit_28 F v1 (1 : Int32) (0 : Int32) M_text M_size else g_X7_unit_28 F v1 (0 : Int32) (0 : Int32) M_text M_size) else (if v1 ≤ (126 : Int32) then g_X7_unit_28 F v1 (1 : Int32) (0 : Int32) M_text M_size else (if v1 = (10 : Int32) then g_X7_unit_28 F v1 (1 : Int32) (0 : Int32) M_text M_size else g_X7_unit_28 F v1 (0 : Int32) (0 : Int32) M_text M_size)))
set_option maxRecDepth 20000 in
theorem n_X7_unit_X7 : ∀ w ∈ wsX70, w ∈ wsX7_unit := by decide +kernel
set_option maxRecDepth 20000 in
theorem w_X7_unit_f76 : Cond.fieldLink RX7 76 "LayerStacksModel" "size" "I" ∈ wsX7_unit := by decide +kernel
set_option maxRecDepth 20000 in
theorem w_X7_unit_f7 : Cond.fieldLink RX7 7 "LayerStacksModel" "text" "[I" ∈ wsX7_unit := by decide +kernel
set_option maxRecDepth 20000 in
theorem w_X7_unit_f72 : Cond.fieldLink RX7 72 "LayerStacksModel" "thrown" "I" ∈ wsX7_unit := by decide +kernel
set_option maxHeartbeats 4000000 in
set_option maxRecDepth 100000 in
theorem k_X7_unit_28 {p : Program} {l : Launch} {e : Env} {s : State} {m : MethodId} {args : Array Value} {below : List Frame} {meth : Method} {c : Code} {D : va_G} {y : Nat → ClassId} {A : Nat → Prop} {q : Nat → Nat} {M_has : Int32} {M_hand : Int32} {M_layers : Nat → Int32} {M_kinds : Nat → Int32} {M_names : Nat → Int64} {M_nameSizes : Nat → Int32} {M_thicknesses : Nat → Int64} {M_spreads : Nat → Int32} {M_coppers : Nat → Int32} {M_copperAt : Nat → Int32} {M_presses : Nat → Int32} {M_pressFrom : Nat → Int32} {M_pressTo : Nat → Int32} {M_vias : Nat → Int32} {M_viaFrom : Nat → Int32} {M_viaTo : Nat → Int32} {M_shares : Nat → Int32} {M_lists : Int32} {M_hasRow : Nat → Int32} {M_rowLow : Nat → Int64} {M_rowHigh : Nat → Int64} {M_p : Int32} {M_s : Int32} {M_fault : Int32} {M_lines : Int32} {M_word : Int64} {M_wordSize : Int32} {M_out : Nat → Int32} {M_written : Int32} {M_secondOne : Int32} {z : Int32 × Int32 × (Nat → Int32) × Int32} (C : CX p s m args meth c wsX7_unit RX7 cX7_unit 3 (some .boolean)) (hA : ∀ q : Nat, s.heap.size ≤ q → A q) (hK : va_K D vwCl (tyl y) s) (F : Nat) :
    ∀ (v1 : Int32) (st0 : Int32) (M_thrown : Int32) (M_text : Nat → Int32) (M_size : Int32) (H : Heap) (locs : List Loc) (ls : Array Slot), g_X7_unit_28 F v1 st0 M_thrown M_text M_size = some z → va_P D vwCl (wdX7 q y M_thrown M_text M_size M_has M_hand M_layers M_kinds M_names M_nameSizes M_thicknesses M_spreads M_coppers M_copperAt M_presses M_pressFrom M_pressTo M_vias M_viaFrom M_viaTo M_shares M_lists M_hasRow M_rowLow M_rowHigh M_p M_s M_fault M_lines M_word M_wordSize M_out M_written M_secondOne) H → va_D A (wdX7 q y M_thrown M_text M_size M_has M_hand M_layers M_kinds M_names M_nameSizes M_thicknesses M_spreads M_coppers M_copperAt M_presses M_pressFrom M_pressTo M_vias M_viaFrom M_viaTo M_shares M_lists M_hasRow M_rowLow M_rowHigh M_p M_s M_fault M_lines M_word M_wordSize M_out M_written M_secondOne) → va_S A s.heap H locs → lv_has ls 3 [(0, .ref (q 0)), (1, .int v1)] → W p l e ({ frames := 0, cells := 0, slots := 0, locals := 0 } : Room) s m args below meth c H locs 0 0 (MQ below (QI D y A (z.1) (wdX7 q y (z.2.1) (z.2.2.1) (z.2.2.2) M_has M_hand M_layers M_kinds M_names M_nameSizes M_thicknesses M_spreads M_coppers M_copperAt M_presses M_pressFrom M_pressTo M_vias M_viaFrom M_viaTo M_shares M_lists M_hasRow M_rowLow M_rowHigh M_p M_s M_fault M_lines M_word M_wordSize M_out M_written M_secondOne)) args s 0 0 A) (F0 m 28 ls [.int st0]) := by
  obtain ⟨⟨hx, hb, hml, hown, hts⟩, hr, hlocks⟩ := id C
  intro v1 st0 M_thrown M_text M_size H locs ls hm hP hD hS hl
  unfold g_X7_unit_28 at hm
  refine lv_istore_n (lv' := [(2, .int st0), (0, .ref (q 0)), (1, .int v1)]) hx hb dX7_unit_28 rfl hl (by decide) rfl (fun ls hl => ?_)
  refine lv_iload_n hx hb dX7_unit_29 rfl (lv_at hl 0 rfl) ?_
  refine lv_if_eq (tgt := 43) hx hb dX7_unit_30 (by decide) (fun h_1 => ?_) (fun h_1 => ?_)
  · have hm := it_of hm h_1
    refine lv_iconst (v := (0 : Int32)) hx hb dX7_unit_43 (by decide) ?_
    have hz := Option.some.inj hm
    subst hz
    exact end_z C hK hP hD hS (show vp_nar .boolean (0 : Int32) = (0 : Int32) from by decide) dX7_unit_44
  · have hm := ie_of hm h_1
    refine lv_aload_n hx hb dX7_unit_33 rfl (lv_at hl 1 rfl) ?_
    refine va_get (D := D) (ci := 7) (v := .int M_size) (C := RX7) (T := TX7) (N := 33) hx hb hts n_X7_unit_X7 hown hK hP 0 rfl rfl 2 (by decide) (hts _ w_X7_unit_f76) (fun _ h9 => h9) rfl dX7_unit_34 ?_
    refine lv_sipush (v := (3000 : Int32)) hx hb dX7_unit_37 (by decide) ?_
    refine lv_icmp_ne (tgt := 45) hx hb dX7_unit_40 (by decide) (fun h_2 => ?_) (fun h_2 => ?_)
    · have hm := ie_of hm h_2
      refine lv_aload_n hx hb dX7_unit_45 rfl (lv_at hl 1 rfl) ?_
      refine va_get (D := D) (ci := 7) (v := .ref (q 1)) (C := RX7) (T := TX7) (N := 33) hx hb hts n_X7_unit_X7 hown hK hP 0 rfl rfl 1 (by decide) (hts _ w_X7_unit_f7) (fun _ h9 => h9) rfl dX7_unit_46 ?_
      refine lv_aload_n hx hb dX7_unit_49 rfl (lv_at hl 1 rfl) ?_
      refine va_get (D := D) (ci := 7) (v := .int M_size) (C := RX7) (T := TX7) (N := 33) hx hb hts n_X7_unit_X7 hown hK hP 0 rfl rfl 2 (by decide) (hts _ w_X7_unit_f76) (fun _ h9 => h9) rfl dX7_unit_50 ?_
      refine lv_iload_n hx hb dX7_unit_53 rfl (lv_at hl 2 rfl) ?_
      obtain ⟨hg_3, hm⟩ := mg_of hm
      refine va_iast hx hb hK hP hD hS 1 0 rfl rfl hg_3 dX7_unit_54 (fun H locs hP hD hS => ?_)
      have hP : va_P D vwCl (wdX7 q y M_thrown (upd M_text (M_size).toNatClampNeg v1) M_size M_has M_hand M_layers M_kinds M_names M_nameSizes M_thicknesses M_spreads M_coppers M_copperAt M_presses M_pressFrom M_pressTo M_vias M_viaFrom M_viaTo M_shares M_lists M_hasRow M_rowLow M_rowHigh M_p M_s M_fault M_lines M_word M_wordSize M_out M_written M_secondOne) H := hP
      have hD : va_D A (wdX7 q y M_thrown (upd M_text (M_size).toNatClampNeg v1) M_size M_has M_hand M_layers M_kinds M_names M_nameSizes M_thicknesses M_spreads M_coppers M_copperAt M_presses M_pressFrom M_pressTo M_vias M_viaFrom M_viaTo M_shares M_lists M_hasRow M_rowLow M_rowHigh M_p M_s M_fault M_lines M_word M_wordSize M_out M_written M_secondOne) := hD
      refine lv_aload_n hx hb dX7_unit_55 rfl (lv_at hl 1 rfl) ?_
      refine lv_dup hx hb dX7_unit_56 rfl ?_
      refine va_get (D := D) (ci := 7) (v := .int M_size) (C := RX7) (T := TX7) (N := 33) hx hb hts n_X7_unit_X7 hown hK hP 0 rfl rfl 2 (by decide) (hts _ w_X7_unit_f76) (fun _ h9 => h9) rfl dX7_unit_57 ?_
      refine lv_iconst (v := (1 : Int32)) hx hb dX7_unit_60 (by decide) ?_
      refine lv_iadd hx hb dX7_unit_61 ?_
      refine va_put (D := D) (ci := 7) (v := .int (M_size + (1 : Int32))) (ty := .int) (C := RX7) (T := TX7) (N := 33) hx hb hts n_X7_unit_X7 tyX7 tyX7_ok nmX7 hown hK hP hD hS 0 rfl rfl 2 (by decide) (hts _ w_X7_unit_f76) (fun _ h9 => h9) rfl (by decide +kernel) rfl rfl (Nat.le_of_ble_eq_true rfl) dX7_unit_62 (fun H locs hP hD hS => ?_)
      have hP : va_P D vwCl (wdX7 q y M_thrown (upd M_text (M_size).toNatClampNeg v1) (M_size + (1 : Int32)) M_has M_hand M_layers M_kinds M_names M_nameSizes M_thicknesses M_spreads M_coppers M_copperAt M_presses M_pressFrom M_pressTo M_vias M_viaFrom M_viaTo M_shares M_lists M_hasRow M_rowLow M_rowHigh M_p M_s M_fault M_lines M_word M_wordSize M_out M_written M_secondOne) H := hP
      have hD : va_D A (wdX7 q y M_thrown (upd M_text (M_size).toNatClampNeg v1) (M_size + (1 : Int32)) M_has M_hand M_layers M_kinds M_names M_nameSizes M_thicknesses M_spreads M_coppers M_copperAt M_presses M_pressFrom M_pressTo M_vias M_viaFrom M_viaTo M_shares M_lists M_hasRow M_rowLow M_rowHigh M_p M_s M_fault M_lines M_word M_wordSize M_out M_written M_secondOne) := hD
      refine lv_iconst (v := (1 : Int32)) hx hb dX7_unit_65 (by decide) ?_
      have hz := Option.some.inj hm
      subst hz
      exact end_z C hK hP hD hS (show vp_nar .boolean (1 : Int32) = (1 : Int32) from by decide) dX7_unit_66
    · have hm := it_of hm h_2
      refine lv_iconst (v := (0 : Int32)) hx hb dX7_unit_43 (by decide) ?_
      have hz := Option.some.inj hm
      subst hz
      exact end_z C hK hP hD hS (show vp_nar .boolean (0 : Int32) = (0 : Int32) from by decide) dX7_unit_44
set_option maxHeartbeats 4000000 in
set_option maxRecDepth 100000 in
theorem c_X7_unit (l : Launch) (D : va_G) (y : Nat → ClassId) (q : Nat → Nat) (sz : Nat) (F : Nat) {v1 : Int32} {M_thrown : Int32} {M_text : Nat → Int32} {M_size : Int32} {M_has : Int32} {M_hand : Int32} {M_layers : Nat → Int32} {M_kinds : Nat → Int32} {M_names : Nat → Int64} {M_nameSizes : Nat → Int32} {M_thicknesses : Nat → Int64} {M_spreads : Nat → Int32} {M_coppers : Nat → Int32} {M_copperAt : Nat → Int32} {M_presses : Nat → Int32} {M_pressFrom : Nat → Int32} {M_pressTo : Nat → Int32} {M_vias : Nat → Int32} {M_viaFrom : Nat → Int32} {M_viaTo : Nat → Int32} {M_shares : Nat → Int32} {M_lists : Int32} {M_hasRow : Nat → Int32} {M_rowLow : Nat → Int64} {M_rowHigh : Nat → Int64} {M_p : Int32} {M_s : Int32} {M_fault : Int32} {M_lines : Int32} {M_word : Int64} {M_wordSize : Int32} {M_out : Nat → Int32} {M_written : Int32} {M_secondOne : Int32} {z : Int32 × Int32 × (Nat → Int32) × Int32} (hm : f_X7_unit F v1 M_thrown M_text M_size = some z) : Met l yX7_unit wsX7_unit ({ frames := 0, cells := 0, slots := 0, locals := 0 } : Room) (va_Pc [.ref (q 0), .int v1] (cP D y (wdX7 q y M_thrown M_text M_size M_has M_hand M_layers M_kinds M_names M_nameSizes M_thicknesses M_spreads M_coppers M_copperAt M_presses M_pressFrom M_pressTo M_vias M_viaFrom M_viaTo M_shares M_lists M_hasRow M_rowLow M_rowHigh M_p M_s M_fault M_lines M_word M_wordSize M_out M_written M_secondOne) sz)) (QI D y (va_A (wdX7 q y M_thrown M_text M_size M_has M_hand M_layers M_kinds M_names M_nameSizes M_thicknesses M_spreads M_coppers M_copperAt M_presses M_pressFrom M_pressTo M_vias M_viaFrom M_viaTo M_shares M_lists M_hasRow M_rowLow M_rowHigh M_p M_s M_fault M_lines M_word M_wordSize M_out M_written M_secondOne) sz) (z.1) (wdX7 q y (z.2.1) (z.2.2.1) (z.2.2.2) M_has M_hand M_layers M_kinds M_names M_nameSizes M_thicknesses M_spreads M_coppers M_copperAt M_presses M_pressFrom M_pressTo M_vias M_viaFrom M_viaTo M_shares M_lists M_hasRow M_rowLow M_rowHigh M_p M_s M_fault M_lines M_word M_wordSize M_out M_written M_secondOne)) 0 0 (va_A (wdX7 q y M_thrown M_text M_size M_has M_hand M_layers M_kinds M_names M_nameSizes M_thicknesses M_spreads M_coppers M_copperAt M_presses M_pressFrom M_pressTo M_vias M_viaFrom M_viaTo M_shares M_lists M_hasRow M_rowLow M_rowHigh M_p M_s M_fault M_lines M_word M_wordSize M_out M_written M_secondOne) sz) := by
  refine met_of (own := RX7) (cc := cX7_unit) (maxL := 3) (ret := (some .boolean)) (by decide) rfl rfl (Nat.le_of_ble_eq_true rfl) ?_
  intro p e s m below meth c ls C hsz hK hP hD hA hS hl
  obtain ⟨⟨hx, hb, hml, hown, hts⟩, hr, hlocks⟩ := id C
  have hl : lv_has ls 3 [(0, .ref (q 0)), (1, .int v1)] := hl
  generalize va_A (wdX7 q y M_thrown M_text M_size M_has M_hand M_layers M_kinds M_names M_nameSizes M_thicknesses M_spreads M_coppers M_copperAt M_presses M_pressFrom M_pressTo M_vias M_viaFrom M_viaTo M_shares M_lists M_hasRow M_rowLow M_rowHigh M_p M_s M_fault M_lines M_word M_wordSize M_out M_written M_secondOne) sz = A at hD hA hS ⊢
  generalize ([.ref (q 0), .int v1] : List Value).toArray = args at C hts ⊢
  unfold f_X7_unit at hm
  refine lv_aload_n hx hb dX7_unit_0 rfl (lv_at hl 0 rfl) ?_
  refine lv_iconst (v := (0 : Int32)) hx hb dX7_unit_1 (by decide) ?_
  refine va_put (D := D) (ci := 7) (v := .int (0 : Int32)) (ty := .int) (C := RX7) (T := TX7) (N := 33) hx hb hts n_X7_unit_X7 tyX7 tyX7_ok nmX7 hown hK hP hD hS 0 rfl rfl 0 (by decide) (hts _ w_X7_unit_f72) (fun _ h9 => h9) rfl (by decide +kernel) rfl rfl (Nat.le_of_ble_eq_true rfl) dX7_unit_2 (fun H locs hP hD hS => ?_)
  have hP : va_P D vwCl (wdX7 q y (0 : Int32) M_text M_size M_has M_hand M_layers M_kinds M_names M_nameSizes M_thicknesses M_spreads M_coppers M_copperAt M_presses M_pressFrom M_pressTo M_vias M_viaFrom M_viaTo M_shares M_lists M_hasRow M_rowLow M_rowHigh M_p M_s M_fault M_lines M_word M_wordSize M_out M_written M_secondOne) H := hP
  have hD : va_D A (wdX7 q y (0 : Int32) M_text M_size M_has M_hand M_layers M_kinds M_names M_nameSizes M_thicknesses M_spreads M_coppers M_copperAt M_presses M_pressFrom M_pressTo M_vias M_viaFrom M_viaTo M_shares M_lists M_hasRow M_rowLow M_rowHigh M_p M_s M_fault M_lines M_word M_wordSize M_out M_written M_secondOne) := hD
  refine lv_iload_n hx hb dX7_unit_5 rfl (lv_at hl 1 rfl) ?_
  refine lv_bipush (v := (32 : Int32)) hx hb dX7_unit_6 (by decide) ?_
  refine lv_icmp_lt (tgt := 17) hx hb dX7_unit_8 (by decide) (fun h_1 => ?_) (fun h_1 => ?_)
  · have hm := it_of hm h_1
    refine lv_iload_n hx hb dX7_unit_17 rfl (lv_at hl 1 rfl) ?_
    refine lv_bipush (v := (10 : Int32)) hx hb dX7_unit_18 (by decide) ?_
    refine lv_icmp_ne (tgt := 27) hx hb dX7_unit_20 (by decide) (fun h_2 => ?_) (fun h_2 => ?_)
    · have hm := ie_of hm h_2
      refine lv_iconst (v := (0 : Int32)) hx hb dX7_unit_27 (by decide) ?_
      exact k_X7_unit_28 C hA hK F v1 (0 : Int32) (0 : Int32) M_text M_size _ _ _ hm hP hD hS (lv_sub hl [0, 1] rfl)
    · have hm := it_of hm h_2
      refine lv_iconst (v := (1 : Int32)) hx hb dX7_unit_23 (by decide) ?_
      refine lv_goto (tgt := 28) hx hb dX7_unit_24 (by decide) ?_
      exact k_X7_unit_28 C hA hK F v1 (1 : Int32) (0 : Int32) M_text M_size _ _ _ hm hP hD hS (lv_sub hl [0, 1] rfl)
  · have hm := ie_of hm h_1
    refine lv_iload_n hx hb dX7_unit_11 rfl (lv_at hl 1 rfl) ?_
    refine lv_bipush (v := (126 : Int32)) hx hb dX7_unit_12 (by decide) ?_
    refine lv_icmp_le (tgt := 23) hx hb dX7_unit_14 (by decide) (fun h_3 => ?_) (fun h_3 => ?_)
    · have hm := it_of hm h_3
      refine lv_iconst (v := (1 : Int32)) hx hb dX7_unit_23 (by decide) ?_
      refine lv_goto (tgt := 28) hx hb dX7_unit_24 (by decide) ?_
      exact k_X7_unit_28 C hA hK F v1 (1 : Int32) (0 : Int32) M_text M_size _ _ _ hm hP hD hS (lv_sub hl [0, 1] rfl)
    · have hm := ie_of hm h_3
      refine lv_iload_n hx hb dX7_unit_17 rfl (lv_at hl 1 rfl) ?_
      refine lv_bipush (v := (10 : Int32)) hx hb dX7_unit_18 (by decide) ?_
      refine lv_icmp_ne (tgt := 27) hx hb dX7_unit_20 (by decide) (fun h_4 => ?_) (fun h_4 => ?_)
      · have hm := ie_of hm h_4
        refine lv_iconst (v := (0 : Int32)) hx hb dX7_unit_27 (by decide) ?_
        exact k_X7_unit_28 C hA hK F v1 (0 : Int32) (0 : Int32) M_text M_size _ _ _ hm hP hD hS (lv_sub hl [0, 1] rfl)
      · have hm := it_of hm h_4
        refine lv_iconst (v := (1 : Int32)) hx hb dX7_unit_23 (by decide) ?_
        refine lv_goto (tgt := 28) hx hb dX7_unit_24 (by decide) ?_
        exact k_X7_unit_28 C hA hK F v1 (1 : Int32) (0 : Int32) M_text M_size _ _ _ hm hP hD hS (lv_sub hl [0, 1] rfl)
def f_X7_c (F : Nat) (M_text : Nat → Int32) (M_size : Int32) (M_p : Int32) : Option (Int32) := (if M_size ≤ M_p then some (-1 : Int32) else mg (inb M_p 3000) (some (M_text (M_p).toNatClampNeg)))
set_option maxRecDepth 20000 in
theorem n_X7_c_X7 : ∀ w ∈ wsX70, w ∈ wsX7_c := by decide +kernel
set_option maxRecDepth 20000 in
theorem w_X7_c_f79 : Cond.fieldLink RX7 79 "LayerStacksModel" "p" "I" ∈ wsX7_c := by decide +kernel
set_option maxRecDepth 20000 in
theorem w_X7_c_f76 : Cond.fieldLink RX7 76 "LayerStacksModel" "size" "I" ∈ wsX7_c := by decide +kernel
set_option maxRecDepth 20000 in
theorem w_X7_c_f7 : Cond.fieldLink RX7 7 "LayerStacksModel" "text" "[I" ∈ wsX7_c := by decide +kernel
set_option maxHeartbeats 4000000 in
set_option maxRecDepth 100000 in
theorem c_X7_c (l : Launch) (D : va_G) (y : Nat → ClassId) (q : Nat → Nat) (sz : Nat) (F : Nat) {M_thrown : Int32} {M_text : Nat → Int32} {M_size : Int32} {M_has : Int32} {M_hand : Int32} {M_layers : Nat → Int32} {M_kinds : Nat → Int32} {M_names : Nat → Int64} {M_nameSizes : Nat → Int32} {M_thicknesses : Nat → Int64} {M_spreads : Nat → Int32} {M_coppers : Nat → Int32} {M_copperAt : Nat → Int32} {M_presses : Nat → Int32} {M_pressFrom : Nat → Int32} {M_pressTo : Nat → Int32} {M_vias : Nat → Int32} {M_viaFrom : Nat → Int32} {M_viaTo : Nat → Int32} {M_shares : Nat → Int32} {M_lists : Int32} {M_hasRow : Nat → Int32} {M_rowLow : Nat → Int64} {M_rowHigh : Nat → Int64} {M_p : Int32} {M_s : Int32} {M_fault : Int32} {M_lines : Int32} {M_word : Int64} {M_wordSize : Int32} {M_out : Nat → Int32} {M_written : Int32} {M_secondOne : Int32} {z : Int32} (hm : f_X7_c F M_text M_size M_p = some z) : Met l yX7_c wsX7_c ({ frames := 0, cells := 0, slots := 0, locals := 0 } : Room) (va_Pc [.ref (q 0)] (cP D y (wdX7 q y M_thrown M_text M_size M_has M_hand M_layers M_kinds M_names M_nameSizes M_thicknesses M_spreads M_coppers M_copperAt M_presses M_pressFrom M_pressTo M_vias M_viaFrom M_viaTo M_shares M_lists M_hasRow M_rowLow M_rowHigh M_p M_s M_fault M_lines M_word M_wordSize M_out M_written M_secondOne) sz)) (QI D y (va_A (wdX7 q y M_thrown M_text M_size M_has M_hand M_layers M_kinds M_names M_nameSizes M_thicknesses M_spreads M_coppers M_copperAt M_presses M_pressFrom M_pressTo M_vias M_viaFrom M_viaTo M_shares M_lists M_hasRow M_rowLow M_rowHigh M_p M_s M_fault M_lines M_word M_wordSize M_out M_written M_secondOne) sz) (z) (wdX7 q y M_thrown M_text M_size M_has M_hand M_layers M_kinds M_names M_nameSizes M_thicknesses M_spreads M_coppers M_copperAt M_presses M_pressFrom M_pressTo M_vias M_viaFrom M_viaTo M_shares M_lists M_hasRow M_rowLow M_rowHigh M_p M_s M_fault M_lines M_word M_wordSize M_out M_written M_secondOne)) 0 0 (va_A (wdX7 q y M_thrown M_text M_size M_has M_hand M_layers M_kinds M_names M_nameSizes M_thicknesses M_spreads M_coppers M_copperAt M_presses M_pressFrom M_pressTo M_vias M_viaFrom M_viaTo M_shares M_lists M_hasRow M_rowLow M_rowHigh M_p M_s M_fault M_lines M_word M_wordSize M_out M_written M_secondOne) sz) := by
  refine met_of (own := RX7) (cc := cX7_c) (maxL := 1) (ret := (some .int)) (by decide) rfl rfl (Nat.le_of_ble_eq_true rfl) ?_
  intro p e s m below meth c ls C hsz hK hP hD hA hS hl
  obtain ⟨⟨hx, hb, hml, hown, hts⟩, hr, hlocks⟩ := id C
  have hl : lv_has ls 1 [(0, .ref (q 0))] := hl
  generalize va_A (wdX7 q y M_thrown M_text M_size M_has M_hand M_layers M_kinds M_names M_nameSizes M_thicknesses M_spreads M_coppers M_copperAt M_presses M_pressFrom M_pressTo M_vias M_viaFrom M_viaTo M_shares M_lists M_hasRow M_rowLow M_rowHigh M_p M_s M_fault M_lines M_word M_wordSize M_out M_written M_secondOne) sz = A at hD hA hS ⊢
  generalize ([.ref (q 0)] : List Value).toArray = args at C hts ⊢
  unfold f_X7_c at hm
  refine lv_aload_n hx hb dX7_c_0 rfl (lv_at hl 0 rfl) ?_
  refine va_get (D := D) (ci := 7) (v := .int M_p) (C := RX7) (T := TX7) (N := 33) hx hb hts n_X7_c_X7 hown hK hP 0 rfl rfl 24 (by decide) (hts _ w_X7_c_f79) (fun _ h9 => h9) rfl dX7_c_1 ?_
  refine lv_aload_n hx hb dX7_c_4 rfl (lv_at hl 0 rfl) ?_
  refine va_get (D := D) (ci := 7) (v := .int M_size) (C := RX7) (T := TX7) (N := 33) hx hb hts n_X7_c_X7 hown hK hP 0 rfl rfl 2 (by decide) (hts _ w_X7_c_f76) (fun _ h9 => h9) rfl dX7_c_5 ?_
  refine lv_icmp_ge (tgt := 23) hx hb dX7_c_8 (by decide) (fun h_1 => ?_) (fun h_1 => ?_)
  · have hm := it_of hm h_1
    refine lv_iconst (v := (-1 : Int32)) hx hb dX7_c_23 (by decide) ?_
    have hz := Option.some.inj hm
    subst hz
    exact end_i C hK hP hD hS dX7_c_24
  · have hm := ie_of hm h_1
    refine lv_aload_n hx hb dX7_c_11 rfl (lv_at hl 0 rfl) ?_
    refine va_get (D := D) (ci := 7) (v := .ref (q 1)) (C := RX7) (T := TX7) (N := 33) hx hb hts n_X7_c_X7 hown hK hP 0 rfl rfl 1 (by decide) (hts _ w_X7_c_f7) (fun _ h9 => h9) rfl dX7_c_12 ?_
    refine lv_aload_n hx hb dX7_c_15 rfl (lv_at hl 0 rfl) ?_
    refine va_get (D := D) (ci := 7) (v := .int M_p) (C := RX7) (T := TX7) (N := 33) hx hb hts n_X7_c_X7 hown hK hP 0 rfl rfl 24 (by decide) (hts _ w_X7_c_f79) (fun _ h9 => h9) rfl dX7_c_16 ?_
    obtain ⟨hg_2, hm⟩ := mg_of hm
    refine va_iald hx hb hK hP 1 0 rfl rfl hg_2 dX7_c_19 ?_
    refine lv_goto (tgt := 24) hx hb dX7_c_20 (by decide) ?_
    have hz := Option.some.inj hm
    subst hz
    exact end_i C hK hP hD hS dX7_c_24
def f_X7_good (F : Nat) (M_fault : Int32) : Option (Int32) := (if M_fault = (-1 : Int32) then some (1 : Int32) else some (0 : Int32))
set_option maxRecDepth 20000 in
theorem n_X7_good_X7 : ∀ w ∈ wsX70, w ∈ wsX7_good := by decide +kernel
set_option maxRecDepth 20000 in
theorem w_X7_good_f82 : Cond.fieldLink RX7 82 "LayerStacksModel" "fault" "I" ∈ wsX7_good := by decide +kernel
set_option maxHeartbeats 4000000 in
set_option maxRecDepth 100000 in
theorem c_X7_good (l : Launch) (D : va_G) (y : Nat → ClassId) (q : Nat → Nat) (sz : Nat) (F : Nat) {M_thrown : Int32} {M_text : Nat → Int32} {M_size : Int32} {M_has : Int32} {M_hand : Int32} {M_layers : Nat → Int32} {M_kinds : Nat → Int32} {M_names : Nat → Int64} {M_nameSizes : Nat → Int32} {M_thicknesses : Nat → Int64} {M_spreads : Nat → Int32} {M_coppers : Nat → Int32} {M_copperAt : Nat → Int32} {M_presses : Nat → Int32} {M_pressFrom : Nat → Int32} {M_pressTo : Nat → Int32} {M_vias : Nat → Int32} {M_viaFrom : Nat → Int32} {M_viaTo : Nat → Int32} {M_shares : Nat → Int32} {M_lists : Int32} {M_hasRow : Nat → Int32} {M_rowLow : Nat → Int64} {M_rowHigh : Nat → Int64} {M_p : Int32} {M_s : Int32} {M_fault : Int32} {M_lines : Int32} {M_word : Int64} {M_wordSize : Int32} {M_out : Nat → Int32} {M_written : Int32} {M_secondOne : Int32} {z : Int32} (hm : f_X7_good F M_fault = some z) : Met l yX7_good wsX7_good ({ frames := 0, cells := 0, slots := 0, locals := 0 } : Room) (va_Pc [.ref (q 0)] (cP D y (wdX7 q y M_thrown M_text M_size M_has M_hand M_layers M_kinds M_names M_nameSizes M_thicknesses M_spreads M_coppers M_copperAt M_presses M_pressFrom M_pressTo M_vias M_viaFrom M_viaTo M_shares M_lists M_hasRow M_rowLow M_rowHigh M_p M_s M_fault M_lines M_word M_wordSize M_out M_written M_secondOne) sz)) (QI D y (va_A (wdX7 q y M_thrown M_text M_size M_has M_hand M_layers M_kinds M_names M_nameSizes M_thicknesses M_spreads M_coppers M_copperAt M_presses M_pressFrom M_pressTo M_vias M_viaFrom M_viaTo M_shares M_lists M_hasRow M_rowLow M_rowHigh M_p M_s M_fault M_lines M_word M_wordSize M_out M_written M_secondOne) sz) (z) (wdX7 q y M_thrown M_text M_size M_has M_hand M_layers M_kinds M_names M_nameSizes M_thicknesses M_spreads M_coppers M_copperAt M_presses M_pressFrom M_pressTo M_vias M_viaFrom M_viaTo M_shares M_lists M_hasRow M_rowLow M_rowHigh M_p M_s M_fault M_lines M_word M_wordSize M_out M_written M_secondOne)) 0 0 (va_A (wdX7 q y M_thrown M_text M_size M_has M_hand M_layers M_kinds M_names M_nameSizes M_thicknesses M_spreads M_coppers M_copperAt M_presses M_pressFrom M_pressTo M_vias M_viaFrom M_viaTo M_shares M_lists M_hasRow M_rowLow M_rowHigh M_p M_s M_fault M_lines M_word M_wordSize M_out M_written M_secondOne) sz) := by
  refine met_of (own := RX7) (cc := cX7_good) (maxL := 1) (ret := (some .boolean)) (by decide) rfl rfl (Nat.le_of_ble_eq_true rfl) ?_
  intro p e s m below meth c ls C hsz hK hP hD hA hS hl
  obtain ⟨⟨hx, hb, hml, hown, hts⟩, hr, hlocks⟩ := id C
  have hl : lv_has ls 1 [(0, .ref (q 0))] := hl
  generalize va_A (wdX7 q y M_thrown M_text M_size M_has M_hand M_layers M_kinds M_names M_nameSizes M_thicknesses M_spreads M_coppers M_copperAt M_presses M_pressFrom M_pressTo M_vias M_viaFrom M_viaTo M_shares M_lists M_hasRow M_rowLow M_rowHigh M_p M_s M_fault M_lines M_word M_wordSize M_out M_written M_secondOne) sz = A at hD hA hS ⊢
  generalize ([.ref (q 0)] : List Value).toArray = args at C hts ⊢
  unfold f_X7_good at hm
  refine lv_aload_n hx hb dX7_good_0 rfl (lv_at hl 0 rfl) ?_
  refine va_get (D := D) (ci := 7) (v := .int M_fault) (C := RX7) (T := TX7) (N := 33) hx hb hts n_X7_good_X7 hown hK hP 0 rfl rfl 26 (by decide) (hts _ w_X7_good_f82) (fun _ h9 => h9) rfl dX7_good_1 ?_
  refine lv_iconst (v := (-1 : Int32)) hx hb dX7_good_4 (by decide) ?_
  refine lv_icmp_ne (tgt := 12) hx hb dX7_good_5 (by decide) (fun h_1 => ?_) (fun h_1 => ?_)
  · have hm := ie_of hm h_1
    refine lv_iconst (v := (0 : Int32)) hx hb dX7_good_12 (by decide) ?_
    have hz := Option.some.inj hm
    subst hz
    exact end_z C hK hP hD hS (show vp_nar .boolean (0 : Int32) = (0 : Int32) from by decide) dX7_good_13
  · have hm := it_of hm h_1
    refine lv_iconst (v := (1 : Int32)) hx hb dX7_good_8 (by decide) ?_
    refine lv_goto (tgt := 13) hx hb dX7_good_9 (by decide) ?_
    have hz := Option.some.inj hm
    subst hz
    exact end_z C hK hP hD hS (show vp_nar .boolean (1 : Int32) = (1 : Int32) from by decide) dX7_good_13
def f_X7_fail (F : Nat) (v1 : Int32) (M_fault : Int32) : Option (Int32) := (if M_fault = (-1 : Int32) then some v1 else some M_fault)
set_option maxRecDepth 20000 in
theorem n_X7_fail_X7 : ∀ w ∈ wsX70, w ∈ wsX7_fail := by decide +kernel
set_option maxRecDepth 20000 in
theorem w_X7_fail_f82 : Cond.fieldLink RX7 82 "LayerStacksModel" "fault" "I" ∈ wsX7_fail := by decide +kernel
set_option maxHeartbeats 4000000 in
set_option maxRecDepth 100000 in
theorem c_X7_fail (l : Launch) (D : va_G) (y : Nat → ClassId) (q : Nat → Nat) (sz : Nat) (F : Nat) {v1 : Int32} {M_thrown : Int32} {M_text : Nat → Int32} {M_size : Int32} {M_has : Int32} {M_hand : Int32} {M_layers : Nat → Int32} {M_kinds : Nat → Int32} {M_names : Nat → Int64} {M_nameSizes : Nat → Int32} {M_thicknesses : Nat → Int64} {M_spreads : Nat → Int32} {M_coppers : Nat → Int32} {M_copperAt : Nat → Int32} {M_presses : Nat → Int32} {M_pressFrom : Nat → Int32} {M_pressTo : Nat → Int32} {M_vias : Nat → Int32} {M_viaFrom : Nat → Int32} {M_viaTo : Nat → Int32} {M_shares : Nat → Int32} {M_lists : Int32} {M_hasRow : Nat → Int32} {M_rowLow : Nat → Int64} {M_rowHigh : Nat → Int64} {M_p : Int32} {M_s : Int32} {M_fault : Int32} {M_lines : Int32} {M_word : Int64} {M_wordSize : Int32} {M_out : Nat → Int32} {M_written : Int32} {M_secondOne : Int32} {z : Int32} (hm : f_X7_fail F v1 M_fault = some z) : Met l yX7_fail wsX7_fail ({ frames := 0, cells := 0, slots := 0, locals := 0 } : Room) (va_Pc [.ref (q 0), .int v1] (cP D y (wdX7 q y M_thrown M_text M_size M_has M_hand M_layers M_kinds M_names M_nameSizes M_thicknesses M_spreads M_coppers M_copperAt M_presses M_pressFrom M_pressTo M_vias M_viaFrom M_viaTo M_shares M_lists M_hasRow M_rowLow M_rowHigh M_p M_s M_fault M_lines M_word M_wordSize M_out M_written M_secondOne) sz)) (QV D y (va_A (wdX7 q y M_thrown M_text M_size M_has M_hand M_layers M_kinds M_names M_nameSizes M_thicknesses M_spreads M_coppers M_copperAt M_presses M_pressFrom M_pressTo M_vias M_viaFrom M_viaTo M_shares M_lists M_hasRow M_rowLow M_rowHigh M_p M_s M_fault M_lines M_word M_wordSize M_out M_written M_secondOne) sz) (wdX7 q y M_thrown M_text M_size M_has M_hand M_layers M_kinds M_names M_nameSizes M_thicknesses M_spreads M_coppers M_copperAt M_presses M_pressFrom M_pressTo M_vias M_viaFrom M_viaTo M_shares M_lists M_hasRow M_rowLow M_rowHigh M_p M_s z M_lines M_word M_wordSize M_out M_written M_secondOne)) 0 0 (va_A (wdX7 q y M_thrown M_text M_size M_has M_hand M_layers M_kinds M_names M_nameSizes M_thicknesses M_spreads M_coppers M_copperAt M_presses M_pressFrom M_pressTo M_vias M_viaFrom M_viaTo M_shares M_lists M_hasRow M_rowLow M_rowHigh M_p M_s M_fault M_lines M_word M_wordSize M_out M_written M_secondOne) sz) := by
  refine met_of (own := RX7) (cc := cX7_fail) (maxL := 2) (ret := none) (by decide) rfl rfl (Nat.le_of_ble_eq_true rfl) ?_
  intro p e s m below meth c ls C hsz hK hP hD hA hS hl
  obtain ⟨⟨hx, hb, hml, hown, hts⟩, hr, hlocks⟩ := id C
  have hl : lv_has ls 2 [(0, .ref (q 0)), (1, .int v1)] := hl
  generalize va_A (wdX7 q y M_thrown M_text M_size M_has M_hand M_layers M_kinds M_names M_nameSizes M_thicknesses M_spreads M_coppers M_copperAt M_presses M_pressFrom M_pressTo M_vias M_viaFrom M_viaTo M_shares M_lists M_hasRow M_rowLow M_rowHigh M_p M_s M_fault M_lines M_word M_wordSize M_out M_written M_secondOne) sz = A at hD hA hS ⊢
  generalize ([.ref (q 0), .int v1] : List Value).toArray = args at C hts ⊢
  unfold f_X7_fail at hm
  refine lv_aload_n hx hb dX7_fail_0 rfl (lv_at hl 0 rfl) ?_
  refine va_get (D := D) (ci := 7) (v := .int M_fault) (C := RX7) (T := TX7) (N := 33) hx hb hts n_X7_fail_X7 hown hK hP 0 rfl rfl 26 (by decide) (hts _ w_X7_fail_f82) (fun _ h9 => h9) rfl dX7_fail_1 ?_
  refine lv_iconst (v := (-1 : Int32)) hx hb dX7_fail_4 (by decide) ?_
  refine lv_icmp_ne (tgt := 13) hx hb dX7_fail_5 (by decide) (fun h_1 => ?_) (fun h_1 => ?_)
  · have hm := ie_of hm h_1
    have hz := Option.some.inj hm
    subst hz
    exact end_v C hK hP hD hS dX7_fail_13
  · have hm := it_of hm h_1
    refine lv_aload_n hx hb dX7_fail_8 rfl (lv_at hl 0 rfl) ?_
    refine lv_iload_n hx hb dX7_fail_9 rfl (lv_at hl 1 rfl) ?_
    refine va_put (D := D) (ci := 7) (v := .int v1) (ty := .int) (C := RX7) (T := TX7) (N := 33) hx hb hts n_X7_fail_X7 tyX7 tyX7_ok nmX7 hown hK hP hD hS 0 rfl rfl 26 (by decide) (hts _ w_X7_fail_f82) (fun _ h9 => h9) rfl (by decide +kernel) rfl rfl (Nat.le_of_ble_eq_true rfl) dX7_fail_10 (fun H locs hP hD hS => ?_)
    have hP : va_P D vwCl (wdX7 q y M_thrown M_text M_size M_has M_hand M_layers M_kinds M_names M_nameSizes M_thicknesses M_spreads M_coppers M_copperAt M_presses M_pressFrom M_pressTo M_vias M_viaFrom M_viaTo M_shares M_lists M_hasRow M_rowLow M_rowHigh M_p M_s v1 M_lines M_word M_wordSize M_out M_written M_secondOne) H := hP
    have hD : va_D A (wdX7 q y M_thrown M_text M_size M_has M_hand M_layers M_kinds M_names M_nameSizes M_thicknesses M_spreads M_coppers M_copperAt M_presses M_pressFrom M_pressTo M_vias M_viaFrom M_viaTo M_shares M_lists M_hasRow M_rowLow M_rowHigh M_p M_s v1 M_lines M_word M_wordSize M_out M_written M_secondOne) := hD
    have hz := Option.some.inj hm
    subst hz
    exact end_v C hK hP hD hS dX7_fail_13
def f_X7_expect (F : Nat) (v1 : Int32) (M_text : Nat → Int32) (M_size : Int32) (M_p : Int32) (M_fault : Int32) : Option (Int32 × Int32) := mb1 (f_X7_good F M_fault) (fun r_1 => (if r_1 = 0 then mb1 (f_X7_good F M_fault) (fun r_4 => (if r_4 = 0 then some (M_p, M_fault) else some ((M_p + (1 : Int32)), M_fault))) else mb1 (f_X7_c F M_text M_size M_p) (fun r_7 => (if r_7 = v1 then mb1 (f_X7_good F M_fault) (fun r_10 => (if r_10 = 0 then some (M_p, M_fault) else some ((M_p + (1 : Int32)), M_fault))) else mb1 (f_X7_fail F M_p M_fault) (fun M_fault_13 => mb1 (f_X7_good F M_fault_13) (fun r_15 => (if r_15 = 0 then some (M_p, M_fault_13) else some ((M_p + (1 : Int32)), M_fault_13))))))))
set_option maxRecDepth 20000 in
theorem n_X7_expect_X7 : ∀ w ∈ wsX70, w ∈ wsX7_expect := by decide +kernel
set_option maxRecDepth 20000 in
theorem w_X7_expect_f79 : Cond.fieldLink RX7 79 "LayerStacksModel" "p" "I" ∈ wsX7_expect := by decide +kernel
set_option maxHeartbeats 4000000 in
set_option maxRecDepth 100000 in
theorem c_X7_expect (l : Launch) (D : va_G) (y : Nat → ClassId) (q : Nat → Nat) (sz : Nat) (F : Nat) {v1 : Int32} {M_thrown : Int32} {M_text : Nat → Int32} {M_size : Int32} {M_has : Int32} {M_hand : Int32} {M_layers : Nat → Int32} {M_kinds : Nat → Int32} {M_names : Nat → Int64} {M_nameSizes : Nat → Int32} {M_thicknesses : Nat → Int64} {M_spreads : Nat → Int32} {M_coppers : Nat → Int32} {M_copperAt : Nat → Int32} {M_presses : Nat → Int32} {M_pressFrom : Nat → Int32} {M_pressTo : Nat → Int32} {M_vias : Nat → Int32} {M_viaFrom : Nat → Int32} {M_viaTo : Nat → Int32} {M_shares : Nat → Int32} {M_lists : Int32} {M_hasRow : Nat → Int32} {M_rowLow : Nat → Int64} {M_rowHigh : Nat → Int64} {M_p : Int32} {M_s : Int32} {M_fault : Int32} {M_lines : Int32} {M_word : Int64} {M_wordSize : Int32} {M_out : Nat → Int32} {M_written : Int32} {M_secondOne : Int32} {z : Int32 × Int32} (hm : f_X7_expect F v1 M_text M_size M_p M_fault = some z) : Met l yX7_expect wsX7_expect ({ frames := 1, cells := 0, slots := 0, locals := 21 } : Room) (va_Pc [.ref (q 0), .int v1] (cP D y (wdX7 q y M_thrown M_text M_size M_has M_hand M_layers M_kinds M_names M_nameSizes M_thicknesses M_spreads M_coppers M_copperAt M_presses M_pressFrom M_pressTo M_vias M_viaFrom M_viaTo M_shares M_lists M_hasRow M_rowLow M_rowHigh M_p M_s M_fault M_lines M_word M_wordSize M_out M_written M_secondOne) sz)) (QV D y (va_A (wdX7 q y M_thrown M_text M_size M_has M_hand M_layers M_kinds M_names M_nameSizes M_thicknesses M_spreads M_coppers M_copperAt M_presses M_pressFrom M_pressTo M_vias M_viaFrom M_viaTo M_shares M_lists M_hasRow M_rowLow M_rowHigh M_p M_s M_fault M_lines M_word M_wordSize M_out M_written M_secondOne) sz) (wdX7 q y M_thrown M_text M_size M_has M_hand M_layers M_kinds M_names M_nameSizes M_thicknesses M_spreads M_coppers M_copperAt M_presses M_pressFrom M_pressTo M_vias M_viaFrom M_viaTo M_shares M_lists M_hasRow M_rowLow M_rowHigh (z.1) M_s (z.2) M_lines M_word M_wordSize M_out M_written M_secondOne)) 0 0 (va_A (wdX7 q y M_thrown M_text M_size M_has M_hand M_layers M_kinds M_names M_nameSizes M_thicknesses M_spreads M_coppers M_copperAt M_presses M_pressFrom M_pressTo M_vias M_viaFrom M_viaTo M_shares M_lists M_hasRow M_rowLow M_rowHigh M_p M_s M_fault M_lines M_word M_wordSize M_out M_written M_secondOne) sz) := by
  refine met_of (own := RX7) (cc := cX7_expect) (maxL := 2) (ret := none) (by decide) rfl rfl (Nat.le_of_ble_eq_true rfl) ?_
  intro p e s m below meth c ls C hsz hK hP hD hA hS hl
  obtain ⟨⟨hx, hb, hml, hown, hts⟩, hr, hlocks⟩ := id C
  have hl : lv_has ls 2 [(0, .ref (q 0)), (1, .int v1)] := hl
  generalize va_A (wdX7 q y M_thrown M_text M_size M_has M_hand M_layers M_kinds M_names M_nameSizes M_thicknesses M_spreads M_coppers M_copperAt M_presses M_pressFrom M_pressTo M_vias M_viaFrom M_viaTo M_shares M_lists M_hasRow M_rowLow M_rowHigh M_p M_s M_fault M_lines M_word M_wordSize M_out M_written M_secondOne) sz = A at hD hA hS ⊢
  generalize ([.ref (q 0), .int v1] : List Value).toArray = args at C hts ⊢
  unfold f_X7_expect at hm
  refine lv_aload_n hx hb dX7_expect_0 rfl (lv_at hl 0 rfl) ?_
  obtain ⟨r_1, hc_2, hm⟩ := mb1_of hm
  refine call_vi (wc := (wdX7 q y M_thrown M_text M_size M_has M_hand M_layers M_kinds M_names M_nameSizes M_thicknesses M_spreads M_coppers M_copperAt M_presses M_pressFrom M_pressTo M_vias M_viaFrom M_viaTo M_shares M_lists M_hasRow M_rowLow M_rowHigh M_p M_s M_fault M_lines M_word M_wordSize M_out M_written M_secondOne)) (wr := []) (As := []) (rest := []) C (c_X7_good l D y q _ F hc_2) (cwV 0 hts gX7_expect_X7_good rfl rfl rfl (by decide +kernel) ⟨Nat.le_of_ble_eq_true rfl, Nat.le_of_ble_eq_true rfl⟩) hK hP hD hS hA [0, 1, 2, 3, 4, 5, 6, 7, 8, 9, 10, 11, 12, 13, 14, 15, 16, 17, 18, 19, 20] [] rfl rfl rfl rfl rfl (by decide) rfl rfl rfl rfl hl.1 (Nat.le_of_ble_eq_true rfl) dX7_expect_1 (fun H locs hP hD hS => ?_)
  have hP : va_P D vwCl (wdX7 q y M_thrown M_text M_size M_has M_hand M_layers M_kinds M_names M_nameSizes M_thicknesses M_spreads M_coppers M_copperAt M_presses M_pressFrom M_pressTo M_vias M_viaFrom M_viaTo M_shares M_lists M_hasRow M_rowLow M_rowHigh M_p M_s M_fault M_lines M_word M_wordSize M_out M_written M_secondOne) H := hP
  have hD : va_D A (wdX7 q y M_thrown M_text M_size M_has M_hand M_layers M_kinds M_names M_nameSizes M_thicknesses M_spreads M_coppers M_copperAt M_presses M_pressFrom M_pressTo M_vias M_viaFrom M_viaTo M_shares M_lists M_hasRow M_rowLow M_rowHigh M_p M_s M_fault M_lines M_word M_wordSize M_out M_written M_secondOne) := hD
  refine lv_if_eq (tgt := 23) hx hb dX7_expect_4 (by decide) (fun h_3 => ?_) (fun h_3 => ?_)
  · have hm := it_of hm h_3
    refine lv_aload_n hx hb dX7_expect_23 rfl (lv_at hl 0 rfl) ?_
    obtain ⟨r_4, hc_5, hm⟩ := mb1_of hm
    refine call_vi (wc := (wdX7 q y M_thrown M_text M_size M_has M_hand M_layers M_kinds M_names M_nameSizes M_thicknesses M_spreads M_coppers M_copperAt M_presses M_pressFrom M_pressTo M_vias M_viaFrom M_viaTo M_shares M_lists M_hasRow M_rowLow M_rowHigh M_p M_s M_fault M_lines M_word M_wordSize M_out M_written M_secondOne)) (wr := []) (As := []) (rest := []) C (c_X7_good l D y q _ F hc_5) (cwV 0 hts gX7_expect_X7_good rfl rfl rfl (by decide +kernel) ⟨Nat.le_of_ble_eq_true rfl, Nat.le_of_ble_eq_true rfl⟩) hK hP hD hS hA [0, 1, 2, 3, 4, 5, 6, 7, 8, 9, 10, 11, 12, 13, 14, 15, 16, 17, 18, 19, 20] [] rfl rfl rfl rfl rfl (by decide) rfl rfl rfl rfl hl.1 (Nat.le_of_ble_eq_true rfl) dX7_expect_24 (fun H locs hP hD hS => ?_)
    have hP : va_P D vwCl (wdX7 q y M_thrown M_text M_size M_has M_hand M_layers M_kinds M_names M_nameSizes M_thicknesses M_spreads M_coppers M_copperAt M_presses M_pressFrom M_pressTo M_vias M_viaFrom M_viaTo M_shares M_lists M_hasRow M_rowLow M_rowHigh M_p M_s M_fault M_lines M_word M_wordSize M_out M_written M_secondOne) H := hP
    have hD : va_D A (wdX7 q y M_thrown M_text M_size M_has M_hand M_layers M_kinds M_names M_nameSizes M_thicknesses M_spreads M_coppers M_copperAt M_presses M_pressFrom M_pressTo M_vias M_viaFrom M_viaTo M_shares M_lists M_hasRow M_rowLow M_rowHigh M_p M_s M_fault M_lines M_word M_wordSize M_out M_written M_secondOne) := hD
    refine lv_if_eq (tgt := 40) hx hb dX7_expect_27 (by decide) (fun h_6 => ?_) (fun h_6 => ?_)
    · have hm := it_of hm h_6
      have hz := Option.some.inj hm
      subst hz
      exact end_v C hK hP hD hS dX7_expect_40
    · have hm := ie_of hm h_6
      refine lv_aload_n hx hb dX7_expect_30 rfl (lv_at hl 0 rfl) ?_
      refine lv_dup hx hb dX7_expect_31 rfl ?_
      refine va_get (D := D) (ci := 7) (v := .int M_p) (C := RX7) (T := TX7) (N := 33) hx hb hts n_X7_expect_X7 hown hK hP 0 rfl rfl 24 (by decide) (hts _ w_X7_expect_f79) (fun _ h9 => h9) rfl dX7_expect_32 ?_
      refine lv_iconst (v := (1 : Int32)) hx hb dX7_expect_35 (by decide) ?_
      refine lv_iadd hx hb dX7_expect_36 ?_
      refine va_put (D := D) (ci := 7) (v := .int (M_p + (1 : Int32))) (ty := .int) (C := RX7) (T := TX7) (N := 33) hx hb hts n_X7_expect_X7 tyX7 tyX7_ok nmX7 hown hK hP hD hS 0 rfl rfl 24 (by decide) (hts _ w_X7_expect_f79) (fun _ h9 => h9) rfl (by decide +kernel) rfl rfl (Nat.le_of_ble_eq_true rfl) dX7_expect_37 (fun H locs hP hD hS => ?_)
      have hP : va_P D vwCl (wdX7 q y M_thrown M_text M_size M_has M_hand M_layers M_kinds M_names M_nameSizes M_thicknesses M_spreads M_coppers M_copperAt M_presses M_pressFrom M_pressTo M_vias M_viaFrom M_viaTo M_shares M_lists M_hasRow M_rowLow M_rowHigh (M_p + (1 : Int32)) M_s M_fault M_lines M_word M_wordSize M_out M_written M_secondOne) H := hP
      have hD : va_D A (wdX7 q y M_thrown M_text M_size M_has M_hand M_layers M_kinds M_names M_nameSizes M_thicknesses M_spreads M_coppers M_copperAt M_presses M_pressFrom M_pressTo M_vias M_viaFrom M_viaTo M_shares M_lists M_hasRow M_rowLow M_rowHigh (M_p + (1 : Int32)) M_s M_fault M_lines M_word M_wordSize M_out M_written M_secondOne) := hD
      have hz := Option.some.inj hm
      subst hz
      exact end_v C hK hP hD hS dX7_expect_40
  · have hm := ie_of hm h_3
    refine lv_aload_n hx hb dX7_expect_7 rfl (lv_at hl 0 rfl) ?_
    obtain ⟨r_7, hc_8, hm⟩ := mb1_of hm
    refine call_vi (wc := (wdX7 q y M_thrown M_text M_size M_has M_hand M_layers M_kinds M_names M_nameSizes M_thicknesses M_spreads M_coppers M_copperAt M_presses M_pressFrom M_pressTo M_vias M_viaFrom M_viaTo M_shares M_lists M_hasRow M_rowLow M_rowHigh M_p M_s M_fault M_lines M_word M_wordSize M_out M_written M_secondOne)) (wr := []) (As := []) (rest := []) C (c_X7_c l D y q _ F hc_8) (cwV 0 hts gX7_expect_X7_c rfl rfl rfl (by decide +kernel) ⟨Nat.le_of_ble_eq_true rfl, Nat.le_of_ble_eq_true rfl⟩) hK hP hD hS hA [0, 1, 2, 3, 4, 5, 6, 7, 8, 9, 10, 11, 12, 13, 14, 15, 16, 17, 18, 19, 20] [] rfl rfl rfl rfl rfl (by decide) rfl rfl rfl rfl hl.1 (Nat.le_of_ble_eq_true rfl) dX7_expect_8 (fun H locs hP hD hS => ?_)
    have hP : va_P D vwCl (wdX7 q y M_thrown M_text M_size M_has M_hand M_layers M_kinds M_names M_nameSizes M_thicknesses M_spreads M_coppers M_copperAt M_presses M_pressFrom M_pressTo M_vias M_viaFrom M_viaTo M_shares M_lists M_hasRow M_rowLow M_rowHigh M_p M_s M_fault M_lines M_word M_wordSize M_out M_written M_secondOne) H := hP
    have hD : va_D A (wdX7 q y M_thrown M_text M_size M_has M_hand M_layers M_kinds M_names M_nameSizes M_thicknesses M_spreads M_coppers M_copperAt M_presses M_pressFrom M_pressTo M_vias M_viaFrom M_viaTo M_shares M_lists M_hasRow M_rowLow M_rowHigh M_p M_s M_fault M_lines M_word M_wordSize M_out M_written M_secondOne) := hD
    refine lv_iload_n hx hb dX7_expect_11 rfl (lv_at hl 1 rfl) ?_
    refine lv_icmp_eq (tgt := 23) hx hb dX7_expect_12 (by decide) (fun h_9 => ?_) (fun h_9 => ?_)
    · have hm := it_of hm h_9
      refine lv_aload_n hx hb dX7_expect_23 rfl (lv_at hl 0 rfl) ?_
      obtain ⟨r_10, hc_11, hm⟩ := mb1_of hm
      refine call_vi (wc := (wdX7 q y M_thrown M_text M_size M_has M_hand M_layers M_kinds M_names M_nameSizes M_thicknesses M_spreads M_coppers M_copperAt M_presses M_pressFrom M_pressTo M_vias M_viaFrom M_viaTo M_shares M_lists M_hasRow M_rowLow M_rowHigh M_p M_s M_fault M_lines M_word M_wordSize M_out M_written M_secondOne)) (wr := []) (As := []) (rest := []) C (c_X7_good l D y q _ F hc_11) (cwV 0 hts gX7_expect_X7_good rfl rfl rfl (by decide +kernel) ⟨Nat.le_of_ble_eq_true rfl, Nat.le_of_ble_eq_true rfl⟩) hK hP hD hS hA [0, 1, 2, 3, 4, 5, 6, 7, 8, 9, 10, 11, 12, 13, 14, 15, 16, 17, 18, 19, 20] [] rfl rfl rfl rfl rfl (by decide) rfl rfl rfl rfl hl.1 (Nat.le_of_ble_eq_true rfl) dX7_expect_24 (fun H locs hP hD hS => ?_)
      have hP : va_P D vwCl (wdX7 q y M_thrown M_text M_size M_has M_hand M_layers M_kinds M_names M_nameSizes M_thicknesses M_spreads M_coppers M_copperAt M_presses M_pressFrom M_pressTo M_vias M_viaFrom M_viaTo M_shares M_lists M_hasRow M_rowLow M_rowHigh M_p M_s M_fault M_lines M_word M_wordSize M_out M_written M_secondOne) H := hP
      have hD : va_D A (wdX7 q y M_thrown M_text M_size M_has M_hand M_layers M_kinds M_names M_nameSizes M_thicknesses M_spreads M_coppers M_copperAt M_presses M_pressFrom M_pressTo M_vias M_viaFrom M_viaTo M_shares M_lists M_hasRow M_rowLow M_rowHigh M_p M_s M_fault M_lines M_word M_wordSize M_out M_written M_secondOne) := hD
      refine lv_if_eq (tgt := 40) hx hb dX7_expect_27 (by decide) (fun h_12 => ?_) (fun h_12 => ?_)
      · have hm := it_of hm h_12
        have hz := Option.some.inj hm
        subst hz
        exact end_v C hK hP hD hS dX7_expect_40
      · have hm := ie_of hm h_12
        refine lv_aload_n hx hb dX7_expect_30 rfl (lv_at hl 0 rfl) ?_
        refine lv_dup hx hb dX7_expect_31 rfl ?_
        refine va_get (D := D) (ci := 7) (v := .int M_p) (C := RX7) (T := TX7) (N := 33) hx hb hts n_X7_expect_X7 hown hK hP 0 rfl rfl 24 (by decide) (hts _ w_X7_expect_f79) (fun _ h9 => h9) rfl dX7_expect_32 ?_
        refine lv_iconst (v := (1 : Int32)) hx hb dX7_expect_35 (by decide) ?_
        refine lv_iadd hx hb dX7_expect_36 ?_
        refine va_put (D := D) (ci := 7) (v := .int (M_p + (1 : Int32))) (ty := .int) (C := RX7) (T := TX7) (N := 33) hx hb hts n_X7_expect_X7 tyX7 tyX7_ok nmX7 hown hK hP hD hS 0 rfl rfl 24 (by decide) (hts _ w_X7_expect_f79) (fun _ h9 => h9) rfl (by decide +kernel) rfl rfl (Nat.le_of_ble_eq_true rfl) dX7_expect_37 (fun H locs hP hD hS => ?_)
        have hP : va_P D vwCl (wdX7 q y M_thrown M_text M_size M_has M_hand M_layers M_kinds M_names M_nameSizes M_thicknesses M_spreads M_coppers M_copperAt M_presses M_pressFrom M_pressTo M_vias M_viaFrom M_viaTo M_shares M_lists M_hasRow M_rowLow M_rowHigh (M_p + (1 : Int32)) M_s M_fault M_lines M_word M_wordSize M_out M_written M_secondOne) H := hP
        have hD : va_D A (wdX7 q y M_thrown M_text M_size M_has M_hand M_layers M_kinds M_names M_nameSizes M_thicknesses M_spreads M_coppers M_copperAt M_presses M_pressFrom M_pressTo M_vias M_viaFrom M_viaTo M_shares M_lists M_hasRow M_rowLow M_rowHigh (M_p + (1 : Int32)) M_s M_fault M_lines M_word M_wordSize M_out M_written M_secondOne) := hD
        have hz := Option.some.inj hm
        subst hz
        exact end_v C hK hP hD hS dX7_expect_40
    · have hm := ie_of hm h_9
      refine lv_aload_n hx hb dX7_expect_15 rfl (lv_at hl 0 rfl) ?_
      refine lv_aload_n hx hb dX7_expect_16 rfl (lv_at hl 0 rfl) ?_
      refine va_get (D := D) (ci := 7) (v := .int M_p) (C := RX7) (T := TX7) (N := 33) hx hb hts n_X7_expect_X7 hown hK hP 0 rfl rfl 24 (by decide) (hts _ w_X7_expect_f79) (fun _ h9 => h9) rfl dX7_expect_17 ?_
      obtain ⟨M_fault_13, hc_14, hm⟩ := mb1_of hm
      refine call_vv (wc := (wdX7 q y M_thrown M_text M_size M_has M_hand M_layers M_kinds M_names M_nameSizes M_thicknesses M_spreads M_coppers M_copperAt M_presses M_pressFrom M_pressTo M_vias M_viaFrom M_viaTo M_shares M_lists M_hasRow M_rowLow M_rowHigh M_p M_s M_fault M_lines M_word M_wordSize M_out M_written M_secondOne)) (wr := []) (As := [.int M_p]) (rest := []) C (c_X7_fail l D y q _ F hc_14) (cwV 1 hts gX7_expect_X7_fail rfl rfl rfl (by decide +kernel) ⟨Nat.le_of_ble_eq_true rfl, Nat.le_of_ble_eq_true rfl⟩) hK hP hD hS hA [0, 1, 2, 3, 4, 5, 6, 7, 8, 9, 10, 11, 12, 13, 14, 15, 16, 17, 18, 19, 20] [] rfl rfl rfl rfl rfl (by decide) rfl rfl rfl rfl hl.1 (Nat.le_of_ble_eq_true rfl) dX7_expect_20 (fun H locs hP hD hS => ?_)
      have hP : va_P D vwCl (wdX7 q y M_thrown M_text M_size M_has M_hand M_layers M_kinds M_names M_nameSizes M_thicknesses M_spreads M_coppers M_copperAt M_presses M_pressFrom M_pressTo M_vias M_viaFrom M_viaTo M_shares M_lists M_hasRow M_rowLow M_rowHigh M_p M_s M_fault_13 M_lines M_word M_wordSize M_out M_written M_secondOne) H := hP
      have hD : va_D A (wdX7 q y M_thrown M_text M_size M_has M_hand M_layers M_kinds M_names M_nameSizes M_thicknesses M_spreads M_coppers M_copperAt M_presses M_pressFrom M_pressTo M_vias M_viaFrom M_viaTo M_shares M_lists M_hasRow M_rowLow M_rowHigh M_p M_s M_fault_13 M_lines M_word M_wordSize M_out M_written M_secondOne) := hD
      refine lv_aload_n hx hb dX7_expect_23 rfl (lv_at hl 0 rfl) ?_
      obtain ⟨r_15, hc_16, hm⟩ := mb1_of hm
      refine call_vi (wc := (wdX7 q y M_thrown M_text M_size M_has M_hand M_layers M_kinds M_names M_nameSizes M_thicknesses M_spreads M_coppers M_copperAt M_presses M_pressFrom M_pressTo M_vias M_viaFrom M_viaTo M_shares M_lists M_hasRow M_rowLow M_rowHigh M_p M_s M_fault_13 M_lines M_word M_wordSize M_out M_written M_secondOne)) (wr := []) (As := []) (rest := []) C (c_X7_good l D y q _ F hc_16) (cwV 0 hts gX7_expect_X7_good rfl rfl rfl (by decide +kernel) ⟨Nat.le_of_ble_eq_true rfl, Nat.le_of_ble_eq_true rfl⟩) hK hP hD hS hA [0, 1, 2, 3, 4, 5, 6, 7, 8, 9, 10, 11, 12, 13, 14, 15, 16, 17, 18, 19, 20] [] rfl rfl rfl rfl rfl (by decide) rfl rfl rfl rfl hl.1 (Nat.le_of_ble_eq_true rfl) dX7_expect_24 (fun H locs hP hD hS => ?_)
      have hP : va_P D vwCl (wdX7 q y M_thrown M_text M_size M_has M_hand M_layers M_kinds M_names M_nameSizes M_thicknesses M_spreads M_coppers M_copperAt M_presses M_pressFrom M_pressTo M_vias M_viaFrom M_viaTo M_shares M_lists M_hasRow M_rowLow M_rowHigh M_p M_s M_fault_13 M_lines M_word M_wordSize M_out M_written M_secondOne) H := hP
      have hD : va_D A (wdX7 q y M_thrown M_text M_size M_has M_hand M_layers M_kinds M_names M_nameSizes M_thicknesses M_spreads M_coppers M_copperAt M_presses M_pressFrom M_pressTo M_vias M_viaFrom M_viaTo M_shares M_lists M_hasRow M_rowLow M_rowHigh M_p M_s M_fault_13 M_lines M_word M_wordSize M_out M_written M_secondOne) := hD
      refine lv_if_eq (tgt := 40) hx hb dX7_expect_27 (by decide) (fun h_17 => ?_) (fun h_17 => ?_)
      · have hm := it_of hm h_17
        have hz := Option.some.inj hm
        subst hz
        exact end_v C hK hP hD hS dX7_expect_40
      · have hm := ie_of hm h_17
        refine lv_aload_n hx hb dX7_expect_30 rfl (lv_at hl 0 rfl) ?_
        refine lv_dup hx hb dX7_expect_31 rfl ?_
        refine va_get (D := D) (ci := 7) (v := .int M_p) (C := RX7) (T := TX7) (N := 33) hx hb hts n_X7_expect_X7 hown hK hP 0 rfl rfl 24 (by decide) (hts _ w_X7_expect_f79) (fun _ h9 => h9) rfl dX7_expect_32 ?_
        refine lv_iconst (v := (1 : Int32)) hx hb dX7_expect_35 (by decide) ?_
        refine lv_iadd hx hb dX7_expect_36 ?_
        refine va_put (D := D) (ci := 7) (v := .int (M_p + (1 : Int32))) (ty := .int) (C := RX7) (T := TX7) (N := 33) hx hb hts n_X7_expect_X7 tyX7 tyX7_ok nmX7 hown hK hP hD hS 0 rfl rfl 24 (by decide) (hts _ w_X7_expect_f79) (fun _ h9 => h9) rfl (by decide +kernel) rfl rfl (Nat.le_of_ble_eq_true rfl) dX7_expect_37 (fun H locs hP hD hS => ?_)
        have hP : va_P D vwCl (wdX7 q y M_thrown M_text M_size M_has M_hand M_layers M_kinds M_names M_nameSizes M_thicknesses M_spreads M_coppers M_copperAt M_presses M_pressFrom M_pressTo M_vias M_viaFrom M_viaTo M_shares M_lists M_hasRow M_rowLow M_rowHigh (M_p + (1 : Int32)) M_s M_fault_13 M_lines M_word M_wordSize M_out M_written M_secondOne) H := hP
        have hD : va_D A (wdX7 q y M_thrown M_text M_size M_has M_hand M_layers M_kinds M_names M_nameSizes M_thicknesses M_spreads M_coppers M_copperAt M_presses M_pressFrom M_pressTo M_vias M_viaFrom M_viaTo M_shares M_lists M_hasRow M_rowLow M_rowHigh (M_p + (1 : Int32)) M_s M_fault_13 M_lines M_word M_wordSize M_out M_written M_secondOne) := hD
        have hz := Option.some.inj hm
        subst hz
        exact end_v C hK hP hD hS dX7_expect_40
def f_X7_spelt (F : Nat) (v0 : Int32) (v1 : Int32) (v2 : Int32) (v3 : Int32) (v4 : Int32) (v5 : Int32) (v6 : Int32) : Option (Int64) := mn ((((((((((((v0).toInt64) * (32 : Int64)) + ((v1).toInt64)) * (32 : Int64)) + ((v2).toInt64)) * (32 : Int64)) + ((v3).toInt64)) * (32 : Int64)) + ((v4).toInt64)) * (32 : Int64)) + ((v5).toInt64)) (fun v7_1 => some ((v7_1 * (32 : Int64)) + ((v6).toInt64)))
set_option maxRecDepth 20000 in
theorem w_X7_spelt_k97 : Cond.constantLong RX7 97 (32) ∈ wsX7_spelt := by decide +kernel
set_option maxHeartbeats 4000000 in
set_option maxRecDepth 100000 in
theorem c_X7_spelt (l : Launch) (D : va_G) (y : Nat → ClassId) (sz : Nat) (F : Nat) {v0 : Int32} {v1 : Int32} {v2 : Int32} {v3 : Int32} {v4 : Int32} {v5 : Int32} {v6 : Int32} {z : Int64} (hm : f_X7_spelt F v0 v1 v2 v3 v4 v5 v6 = some z) : Met l yX7_spelt wsX7_spelt ({ frames := 0, cells := 0, slots := 0, locals := 0 } : Room) (va_Pc [.int v0, .int v1, .int v2, .int v3, .int v4, .int v5, .int v6] (cP D y ([] : va_W) sz)) (QL D y (va_A ([] : va_W) sz) (z) ([] : va_W)) 0 0 (va_A ([] : va_W) sz) := by
  refine met_of (own := RX7) (cc := cX7_spelt) (maxL := 9) (ret := (some .long)) (by decide) rfl rfl (Nat.le_of_ble_eq_true rfl) ?_
  intro p e s m below meth c ls C hsz hK hP hD hA hS hl
  obtain ⟨⟨hx, hb, hml, hown, hts⟩, hr, hlocks⟩ := id C
  have hl : lv_has ls 9 [(0, .int v0), (1, .int v1), (2, .int v2), (3, .int v3), (4, .int v4), (5, .int v5), (6, .int v6)] := hl
  generalize va_A ([] : va_W) sz = A at hD hA hS ⊢
  generalize ([.int v0, .int v1, .int v2, .int v3, .int v4, .int v5, .int v6] : List Value).toArray = args at C hts ⊢
  unfold f_X7_spelt at hm
  refine lv_iload_n hx hb dX7_spelt_0 rfl (lv_at hl 0 rfl) ?_
  refine lv_i2l (v := (v0).toInt64) hx hb dX7_spelt_1 rfl ?_
  refine lv_ldc2 (v := (32 : Int64)) hx hb hown (hts _ w_X7_spelt_k97) dX7_spelt_2 ?_
  refine lv_lmul hx hb dX7_spelt_5 ?_
  refine lv_iload_n hx hb dX7_spelt_6 rfl (lv_at hl 1 rfl) ?_
  refine lv_i2l (v := (v1).toInt64) hx hb dX7_spelt_7 rfl ?_
  refine lv_ladd hx hb dX7_spelt_8 ?_
  refine lv_ldc2 (v := (32 : Int64)) hx hb hown (hts _ w_X7_spelt_k97) dX7_spelt_9 ?_
  refine lv_lmul hx hb dX7_spelt_12 ?_
  refine lv_iload_n hx hb dX7_spelt_13 rfl (lv_at hl 2 rfl) ?_
  refine lv_i2l (v := (v2).toInt64) hx hb dX7_spelt_14 rfl ?_
  refine lv_ladd hx hb dX7_spelt_15 ?_
  refine lv_ldc2 (v := (32 : Int64)) hx hb hown (hts _ w_X7_spelt_k97) dX7_spelt_16 ?_
  refine lv_lmul hx hb dX7_spelt_19 ?_
  refine lv_iload_n hx hb dX7_spelt_20 rfl (lv_at hl 3 rfl) ?_
  refine lv_i2l (v := (v3).toInt64) hx hb dX7_spelt_21 rfl ?_
  refine lv_ladd hx hb dX7_spelt_22 ?_
  refine lv_ldc2 (v := (32 : Int64)) hx hb hown (hts _ w_X7_spelt_k97) dX7_spelt_23 ?_
  refine lv_lmul hx hb dX7_spelt_26 ?_
  refine lv_iload hx hb dX7_spelt_27 (lv_at hl 4 rfl) ?_
  refine lv_i2l (v := (v4).toInt64) hx hb dX7_spelt_29 rfl ?_
  refine lv_ladd hx hb dX7_spelt_30 ?_
  refine lv_ldc2 (v := (32 : Int64)) hx hb hown (hts _ w_X7_spelt_k97) dX7_spelt_31 ?_
  refine lv_lmul hx hb dX7_spelt_34 ?_
  refine lv_iload hx hb dX7_spelt_35 (lv_at hl 5 rfl) ?_
  refine lv_i2l (v := (v5).toInt64) hx hb dX7_spelt_37 rfl ?_
  refine lv_ladd hx hb dX7_spelt_38 ?_
  refine lv_topl (fun v7_1 ev7_1 => ?_)
  have hm := mn_of ev7_1 hm
  refine lv_lstore (lv' := [(7, .long v7_1), (0, .int v0), (1, .int v1), (2, .int v2), (3, .int v3), (4, .int v4), (5, .int v5), (6, .int v6)]) hx hb dX7_spelt_39 hl (by decide) rfl (fun ls hl => ?_)
  refine lv_lload hx hb dX7_spelt_41 (lv_at hl 0 rfl) ?_
  refine lv_ldc2 (v := (32 : Int64)) hx hb hown (hts _ w_X7_spelt_k97) dX7_spelt_43 ?_
  refine lv_lmul hx hb dX7_spelt_46 ?_
  refine lv_iload hx hb dX7_spelt_47 (lv_at hl 7 rfl) ?_
  refine lv_i2l (v := (v6).toInt64) hx hb dX7_spelt_49 rfl ?_
  refine lv_ladd hx hb dX7_spelt_50 ?_
  have hz := Option.some.inj hm
  subst hz
  exact end_l C hK hP hD hS dX7_spelt_51
def f_X7_letters (F : Nat) (v0 : Int32) : Option (Int64) := (if v0 = (0 : Int32) then mb1 (f_X7_spelt F (3 : Int32) (15 : Int32) (16 : Int32) (16 : Int32) (5 : Int32) (18 : Int32) (0 : Int32)) (fun r_2 => some r_2) else (if v0 = (1 : Int32) then mb1 (f_X7_spelt F (3 : Int32) (15 : Int32) (18 : Int32) (5 : Int32) (0 : Int32) (0 : Int32) (0 : Int32)) (fun r_5 => some r_5) else (if v0 = (2 : Int32) then mb1 (f_X7_spelt F (16 : Int32) (18 : Int32) (5 : Int32) (16 : Int32) (18 : Int32) (5 : Int32) (7 : Int32)) (fun r_8 => some r_8) else (if v0 = (3 : Int32) then mb1 (f_X7_spelt F (13 : Int32) (1 : Int32) (19 : Int32) (11 : Int32) (0 : Int32) (0 : Int32) (0 : Int32)) (fun r_11 => some r_11) else (if v0 = (4 : Int32) then mb1 (f_X7_spelt F (19 : Int32) (16 : Int32) (1 : Int32) (18 : Int32) (5 : Int32) (0 : Int32) (0 : Int32)) (fun r_14 => some r_14) else (if v0 = (5 : Int32) then mb1 (f_X7_spelt F (16 : Int32) (18 : Int32) (5 : Int32) (19 : Int32) (19 : Int32) (0 : Int32) (0 : Int32)) (fun r_17 => some r_17) else mb1 (f_X7_spelt F (22 : Int32) (9 : Int32) (1 : Int32) (0 : Int32) (0 : Int32) (0 : Int32) (0 : Int32)) (fun r_19 => some r_19)))))))
set_option maxHeartbeats 4000000 in
set_option maxRecDepth 100000 in
theorem c_X7_letters (l : Launch) (D : va_G) (y : Nat → ClassId) (sz : Nat) (F : Nat) {v0 : Int32} {z : Int64} (hm : f_X7_letters F v0 = some z) : Met l yX7_letters wsX7_letters ({ frames := 1, cells := 0, slots := 0, locals := 28 } : Room) (va_Pc [.int v0] (cP D y ([] : va_W) sz)) (QL D y (va_A ([] : va_W) sz) (z) ([] : va_W)) 0 0 (va_A ([] : va_W) sz) := by
  refine met_of (own := RX7) (cc := cX7_letters) (maxL := 1) (ret := (some .long)) (by decide) rfl rfl (Nat.le_of_ble_eq_true rfl) ?_
  intro p e s m below meth c ls C hsz hK hP hD hA hS hl
  obtain ⟨⟨hx, hb, hml, hown, hts⟩, hr, hlocks⟩ := id C
  have hl : lv_has ls 1 [(0, .int v0)] := hl
  generalize va_A ([] : va_W) sz = A at hD hA hS ⊢
  generalize ([.int v0] : List Value).toArray = args at C hts ⊢
  unfold f_X7_letters at hm
  refine lv_iload_n hx hb dX7_letters_0 rfl (lv_at hl 0 rfl) ?_
  by_cases h_1 : v0 = (0 : Int32)
  · have hm := it_of hm h_1
    refine ts_in (k := (0 : Int32)) (tgt := 40) hx hb dX7_letters_1 h_1 (by decide) (by decide) rfl (by decide) ?_
    refine lv_iconst (v := (3 : Int32)) hx hb dX7_letters_40 (by decide) ?_
    refine lv_bipush (v := (15 : Int32)) hx hb dX7_letters_41 (by decide) ?_
    refine lv_bipush (v := (16 : Int32)) hx hb dX7_letters_43 (by decide) ?_
    refine lv_bipush (v := (16 : Int32)) hx hb dX7_letters_45 (by decide) ?_
    refine lv_iconst (v := (5 : Int32)) hx hb dX7_letters_47 (by decide) ?_
    refine lv_bipush (v := (18 : Int32)) hx hb dX7_letters_48 (by decide) ?_
    refine lv_iconst (v := (0 : Int32)) hx hb dX7_letters_50 (by decide) ?_
    obtain ⟨r_2, hc_3, hm⟩ := mb1_of hm
    refine call_sl (wc := ([] : va_W)) (wr := []) (As := [.int (3 : Int32), .int (15 : Int32), .int (16 : Int32), .int (16 : Int32), .int (5 : Int32), .int (18 : Int32), .int (0 : Int32)]) (rest := []) C (c_X7_spelt l D y _ F hc_3) (va_cwS 7 hts gX7_letters_X7_spelt rfl rfl rfl (by decide +kernel) ⟨Nat.le_of_ble_eq_true rfl, Nat.le_of_ble_eq_true rfl⟩) hK hP hD hS hA [] [] rfl rfl rfl rfl rfl (by decide) rfl hl.1 (Nat.le_of_ble_eq_true rfl) dX7_letters_51 (fun H locs hP hD hS => ?_)
    have hP : va_P D vwCl ([] : va_W) H := hP
    have hD : va_D A ([] : va_W) := hD
    have hz := Option.some.inj hm
    subst hz
    exact end_l C hK hP hD hS dX7_letters_54
  · have hm := ie_of hm h_1
    by_cases h_4 : v0 = (1 : Int32)
    · have hm := it_of hm h_4
      refine ts_in (k := (1 : Int32)) (tgt := 55) hx hb dX7_letters_1 h_4 (by decide) (by decide) rfl (by decide) ?_
      refine lv_iconst (v := (3 : Int32)) hx hb dX7_letters_55 (by decide) ?_
      refine lv_bipush (v := (15 : Int32)) hx hb dX7_letters_56 (by decide) ?_
      refine lv_bipush (v := (18 : Int32)) hx hb dX7_letters_58 (by decide) ?_
      refine lv_iconst (v := (5 : Int32)) hx hb dX7_letters_60 (by decide) ?_
      refine lv_iconst (v := (0 : Int32)) hx hb dX7_letters_61 (by decide) ?_
      refine lv_iconst (v := (0 : Int32)) hx hb dX7_letters_62 (by decide) ?_
      refine lv_iconst (v := (0 : Int32)) hx hb dX7_letters_63 (by decide) ?_
      obtain ⟨r_5, hc_6, hm⟩ := mb1_of hm
      refine call_sl (wc := ([] : va_W)) (wr := []) (As := [.int (3 : Int32), .int (15 : Int32), .int (18 : Int32), .int (5 : Int32), .int (0 : Int32), .int (0 : Int32), .int (0 : Int32)]) (rest := []) C (c_X7_spelt l D y _ F hc_6) (va_cwS 7 hts gX7_letters_X7_spelt rfl rfl rfl (by decide +kernel) ⟨Nat.le_of_ble_eq_true rfl, Nat.le_of_ble_eq_true rfl⟩) hK hP hD hS hA [] [] rfl rfl rfl rfl rfl (by decide) rfl hl.1 (Nat.le_of_ble_eq_true rfl) dX7_letters_64 (fun H locs hP hD hS => ?_)
      have hP : va_P D vwCl ([] : va_W) H := hP
      have hD : va_D A ([] : va_W) := hD
      have hz := Option.some.inj hm
      subst hz
      exact end_l C hK hP hD hS dX7_letters_67
    · have hm := ie_of hm h_4
      by_cases h_7 : v0 = (2 : Int32)
      · have hm := it_of hm h_7
        refine ts_in (k := (2 : Int32)) (tgt := 68) hx hb dX7_letters_1 h_7 (by decide) (by decide) rfl (by decide) ?_
        refine lv_bipush (v := (16 : Int32)) hx hb dX7_letters_68 (by decide) ?_
        refine lv_bipush (v := (18 : Int32)) hx hb dX7_letters_70 (by decide) ?_
        refine lv_iconst (v := (5 : Int32)) hx hb dX7_letters_72 (by decide) ?_
        refine lv_bipush (v := (16 : Int32)) hx hb dX7_letters_73 (by decide) ?_
        refine lv_bipush (v := (18 : Int32)) hx hb dX7_letters_75 (by decide) ?_
        refine lv_iconst (v := (5 : Int32)) hx hb dX7_letters_77 (by decide) ?_
        refine lv_bipush (v := (7 : Int32)) hx hb dX7_letters_78 (by decide) ?_
        obtain ⟨r_8, hc_9, hm⟩ := mb1_of hm
        refine call_sl (wc := ([] : va_W)) (wr := []) (As := [.int (16 : Int32), .int (18 : Int32), .int (5 : Int32), .int (16 : Int32), .int (18 : Int32), .int (5 : Int32), .int (7 : Int32)]) (rest := []) C (c_X7_spelt l D y _ F hc_9) (va_cwS 7 hts gX7_letters_X7_spelt rfl rfl rfl (by decide +kernel) ⟨Nat.le_of_ble_eq_true rfl, Nat.le_of_ble_eq_true rfl⟩) hK hP hD hS hA [] [] rfl rfl rfl rfl rfl (by decide) rfl hl.1 (Nat.le_of_ble_eq_true rfl) dX7_letters_80 (fun H locs hP hD hS => ?_)
        have hP : va_P D vwCl ([] : va_W) H := hP
        have hD : va_D A ([] : va_W) := hD
        have hz := Option.some.inj hm
        subst hz
        exact end_l C hK hP hD hS dX7_letters_83
      · have hm := ie_of hm h_7
        by_cases h_10 : v0 = (3 : Int32)
        · have hm := it_of hm h_10
          refine ts_in (k := (3 : Int32)) (tgt := 84) hx hb dX7_letters_1 h_10 (by decide) (by decide) rfl (by decide) ?_
          refine lv_bipush (v := (13 : Int32)) hx hb dX7_letters_84 (by decide) ?_
          refine lv_iconst (v := (1 : Int32)) hx hb dX7_letters_86 (by decide) ?_
          refine lv_bipush (v := (19 : Int32)) hx hb dX7_letters_87 (by decide) ?_
          refine lv_bipush (v := (11 : Int32)) hx hb dX7_letters_89 (by decide) ?_
          refine lv_iconst (v := (0 : Int32)) hx hb dX7_letters_91 (by decide) ?_
          refine lv_iconst (v := (0 : Int32)) hx hb dX7_letters_92 (by decide) ?_
          refine lv_iconst (v := (0 : Int32)) hx hb dX7_letters_93 (by decide) ?_
          obtain ⟨r_11, hc_12, hm⟩ := mb1_of hm
          refine call_sl (wc := ([] : va_W)) (wr := []) (As := [.int (13 : Int32), .int (1 : Int32), .int (19 : Int32), .int (11 : Int32), .int (0 : Int32), .int (0 : Int32), .int (0 : Int32)]) (rest := []) C (c_X7_spelt l D y _ F hc_12) (va_cwS 7 hts gX7_letters_X7_spelt rfl rfl rfl (by decide +kernel) ⟨Nat.le_of_ble_eq_true rfl, Nat.le_of_ble_eq_true rfl⟩) hK hP hD hS hA [] [] rfl rfl rfl rfl rfl (by decide) rfl hl.1 (Nat.le_of_ble_eq_true rfl) dX7_letters_94 (fun H locs hP hD hS => ?_)
          have hP : va_P D vwCl ([] : va_W) H := hP
          have hD : va_D A ([] : va_W) := hD
          have hz := Option.some.inj hm
          subst hz
          exact end_l C hK hP hD hS dX7_letters_97
        · have hm := ie_of hm h_10
          by_cases h_13 : v0 = (4 : Int32)
          · have hm := it_of hm h_13
            refine ts_in (k := (4 : Int32)) (tgt := 98) hx hb dX7_letters_1 h_13 (by decide) (by decide) rfl (by decide) ?_
            refine lv_bipush (v := (19 : Int32)) hx hb dX7_letters_98 (by decide) ?_
            refine lv_bipush (v := (16 : Int32)) hx hb dX7_letters_100 (by decide) ?_
            refine lv_iconst (v := (1 : Int32)) hx hb dX7_letters_102 (by decide) ?_
            refine lv_bipush (v := (18 : Int32)) hx hb dX7_letters_103 (by decide) ?_
            refine lv_iconst (v := (5 : Int32)) hx hb dX7_letters_105 (by decide) ?_
            refine lv_iconst (v := (0 : Int32)) hx hb dX7_letters_106 (by decide) ?_
            refine lv_iconst (v := (0 : Int32)) hx hb dX7_letters_107 (by decide) ?_
            obtain ⟨r_14, hc_15, hm⟩ := mb1_of hm
            refine call_sl (wc := ([] : va_W)) (wr := []) (As := [.int (19 : Int32), .int (16 : Int32), .int (1 : Int32), .int (18 : Int32), .int (5 : Int32), .int (0 : Int32), .int (0 : Int32)]) (rest := []) C (c_X7_spelt l D y _ F hc_15) (va_cwS 7 hts gX7_letters_X7_spelt rfl rfl rfl (by decide +kernel) ⟨Nat.le_of_ble_eq_true rfl, Nat.le_of_ble_eq_true rfl⟩) hK hP hD hS hA [] [] rfl rfl rfl rfl rfl (by decide) rfl hl.1 (Nat.le_of_ble_eq_true rfl) dX7_letters_108 (fun H locs hP hD hS => ?_)
            have hP : va_P D vwCl ([] : va_W) H := hP
            have hD : va_D A ([] : va_W) := hD
            have hz := Option.some.inj hm
            subst hz
            exact end_l C hK hP hD hS dX7_letters_111
          · have hm := ie_of hm h_13
            by_cases h_16 : v0 = (5 : Int32)
            · have hm := it_of hm h_16
              refine ts_in (k := (5 : Int32)) (tgt := 112) hx hb dX7_letters_1 h_16 (by decide) (by decide) rfl (by decide) ?_
              refine lv_bipush (v := (16 : Int32)) hx hb dX7_letters_112 (by decide) ?_
              refine lv_bipush (v := (18 : Int32)) hx hb dX7_letters_114 (by decide) ?_
              refine lv_iconst (v := (5 : Int32)) hx hb dX7_letters_116 (by decide) ?_
              refine lv_bipush (v := (19 : Int32)) hx hb dX7_letters_117 (by decide) ?_
              refine lv_bipush (v := (19 : Int32)) hx hb dX7_letters_119 (by decide) ?_
              refine lv_iconst (v := (0 : Int32)) hx hb dX7_letters_121 (by decide) ?_
              refine lv_iconst (v := (0 : Int32)) hx hb dX7_letters_122 (by decide) ?_
              obtain ⟨r_17, hc_18, hm⟩ := mb1_of hm
              refine call_sl (wc := ([] : va_W)) (wr := []) (As := [.int (16 : Int32), .int (18 : Int32), .int (5 : Int32), .int (19 : Int32), .int (19 : Int32), .int (0 : Int32), .int (0 : Int32)]) (rest := []) C (c_X7_spelt l D y _ F hc_18) (va_cwS 7 hts gX7_letters_X7_spelt rfl rfl rfl (by decide +kernel) ⟨Nat.le_of_ble_eq_true rfl, Nat.le_of_ble_eq_true rfl⟩) hK hP hD hS hA [] [] rfl rfl rfl rfl rfl (by decide) rfl hl.1 (Nat.le_of_ble_eq_true rfl) dX7_letters_123 (fun H locs hP hD hS => ?_)
              have hP : va_P D vwCl ([] : va_W) H := hP
              have hD : va_D A ([] : va_W) := hD
              have hz := Option.some.inj hm
              subst hz
              exact end_l C hK hP hD hS dX7_letters_126
            · have hm := ie_of hm h_16
              refine lv_tableOut (tgt := 127) hx hb dX7_letters_1 (ts_out6 h_1 h_4 h_7 h_10 h_13 h_16) (by decide) ?_
              refine lv_bipush (v := (22 : Int32)) hx hb dX7_letters_127 (by decide) ?_
              refine lv_bipush (v := (9 : Int32)) hx hb dX7_letters_129 (by decide) ?_
              refine lv_iconst (v := (1 : Int32)) hx hb dX7_letters_131 (by decide) ?_
              refine lv_iconst (v := (0 : Int32)) hx hb dX7_letters_132 (by decide) ?_
              refine lv_iconst (v := (0 : Int32)) hx hb dX7_letters_133 (by decide) ?_
              refine lv_iconst (v := (0 : Int32)) hx hb dX7_letters_134 (by decide) ?_
              refine lv_iconst (v := (0 : Int32)) hx hb dX7_letters_135 (by decide) ?_
              obtain ⟨r_19, hc_20, hm⟩ := mb1_of hm
              refine call_sl (wc := ([] : va_W)) (wr := []) (As := [.int (22 : Int32), .int (9 : Int32), .int (1 : Int32), .int (0 : Int32), .int (0 : Int32), .int (0 : Int32), .int (0 : Int32)]) (rest := []) C (c_X7_spelt l D y _ F hc_20) (va_cwS 7 hts gX7_letters_X7_spelt rfl rfl rfl (by decide +kernel) ⟨Nat.le_of_ble_eq_true rfl, Nat.le_of_ble_eq_true rfl⟩) hK hP hD hS hA [] [] rfl rfl rfl rfl rfl (by decide) rfl hl.1 (Nat.le_of_ble_eq_true rfl) dX7_letters_136 (fun H locs hP hD hS => ?_)
              have hP : va_P D vwCl ([] : va_W) H := hP
              have hD : va_D A ([] : va_W) := hD
              have hz := Option.some.inj hm
              subst hz
              exact end_l C hK hP hD hS dX7_letters_139
def f_X7_letter (F : Nat) (v0 : Int32) (v1 : Int32) : Option (Int32) := (if v1 ≤ (6 : Int32) then mb1 (f_X7_letters F v0) (fun r_2 => some ((((r_2 >>> ((((5 : Int32) * ((6 : Int32) - v1))).toInt64 &&& 63)) &&& (31 : Int64))).toInt32)) else some (0 : Int32))
set_option maxRecDepth 20000 in
theorem w_X7_letter_k107 : Cond.constantLong RX7 107 (31) ∈ wsX7_letter := by decide +kernel
set_option maxHeartbeats 4000000 in
set_option maxRecDepth 100000 in
theorem c_X7_letter (l : Launch) (D : va_G) (y : Nat → ClassId) (sz : Nat) (F : Nat) {v0 : Int32} {v1 : Int32} {z : Int32} (hm : f_X7_letter F v0 v1 = some z) : Met l yX7_letter wsX7_letter ({ frames := 2, cells := 0, slots := 0, locals := 48 } : Room) (va_Pc [.int v0, .int v1] (cP D y ([] : va_W) sz)) (QI D y (va_A ([] : va_W) sz) (z) ([] : va_W)) 0 0 (va_A ([] : va_W) sz) := by
  refine met_of (own := RX7) (cc := cX7_letter) (maxL := 2) (ret := (some .int)) (by decide) rfl rfl (Nat.le_of_ble_eq_true rfl) ?_
  intro p e s m below meth c ls C hsz hK hP hD hA hS hl
  obtain ⟨⟨hx, hb, hml, hown, hts⟩, hr, hlocks⟩ := id C
  have hl : lv_has ls 2 [(0, .int v0), (1, .int v1)] := hl
  generalize va_A ([] : va_W) sz = A at hD hA hS ⊢
  generalize ([.int v0, .int v1] : List Value).toArray = args at C hts ⊢
  unfold f_X7_letter at hm
  refine lv_iload_n hx hb dX7_letter_0 rfl (lv_at hl 1 rfl) ?_
  refine lv_bipush (v := (6 : Int32)) hx hb dX7_letter_1 (by decide) ?_
  refine lv_icmp_le (tgt := 10) hx hb dX7_letter_3 (by decide) (fun h_1 => ?_) (fun h_1 => ?_)
  · have hm := it_of hm h_1
    refine lv_iload_n hx hb dX7_letter_10 rfl (lv_at hl 0 rfl) ?_
    obtain ⟨r_2, hc_3, hm⟩ := mb1_of hm
    refine call_sl (wc := ([] : va_W)) (wr := []) (As := [.int v0]) (rest := []) C (c_X7_letters l D y _ F hc_3) (va_cwS 1 hts gX7_letter_X7_letters rfl rfl rfl (by decide +kernel) ⟨Nat.le_of_ble_eq_true rfl, Nat.le_of_ble_eq_true rfl⟩) hK hP hD hS hA [] [] rfl rfl rfl rfl rfl (by decide) rfl hl.1 (Nat.le_of_ble_eq_true rfl) dX7_letter_11 (fun H locs hP hD hS => ?_)
    have hP : va_P D vwCl ([] : va_W) H := hP
    have hD : va_D A ([] : va_W) := hD
    refine lv_iconst (v := (5 : Int32)) hx hb dX7_letter_14 (by decide) ?_
    refine lv_bipush (v := (6 : Int32)) hx hb dX7_letter_15 (by decide) ?_
    refine lv_iload_n hx hb dX7_letter_17 rfl (lv_at hl 1 rfl) ?_
    refine lv_isub hx hb dX7_letter_18 ?_
    refine lv_imul hx hb dX7_letter_19 ?_
    refine lv_lshr (v := (r_2 >>> ((((5 : Int32) * ((6 : Int32) - v1))).toInt64 &&& 63))) hx hb dX7_letter_20 rfl ?_
    refine lv_ldc2 (v := (31 : Int64)) hx hb hown (hts _ w_X7_letter_k107) dX7_letter_21 ?_
    refine lv_land hx hb dX7_letter_24 ?_
    refine lv_l2i (v := (((r_2 >>> ((((5 : Int32) * ((6 : Int32) - v1))).toInt64 &&& 63)) &&& (31 : Int64))).toInt32) hx hb dX7_letter_25 rfl ?_
    have hz := Option.some.inj hm
    subst hz
    exact end_i C hK hP hD hS dX7_letter_26
  · have hm := ie_of hm h_1
    refine lv_iconst (v := (0 : Int32)) hx hb dX7_letter_6 (by decide) ?_
    refine lv_goto (tgt := 26) hx hb dX7_letter_7 (by decide) ?_
    have hz := Option.some.inj hm
    subst hz
    exact end_i C hK hP hD hS dX7_letter_26
def g_X7_firstWord_67 (F : Nat) (K_5 : Int32 → Int32 → (Nat → Int32) → Int32 → Int32 → Int32 → Option (Int32 × Int32 × Int32)) (K_23 : Int32 → Int32 → Int32 → Int32 → Int32 → (Nat → Int32) → Int32 → Int32 → Int32 → Option (Int32 × Int32 × Int32)) (v1 : Int32) (v2 : Int32) (v3 : Int32) (v4 : Int32) (v5 : Int32) (st0 : Int32) (M_text : Nat → Int32) (M_size : Int32) (M_p : Int32) (M_fault : Int32) : Option (Int32 × Int32 × Int32) := (if st0 = 0 then mn (v5 + (1 : Int32)) (fun v5_2 => K_23 v1 v2 v3 v4 v5_2 M_text M_size M_p M_fault) else mn (v4 ||| ((1 : Int32) <<< (v5 &&& 31))) (fun v4_3 => mn (v5 + (1 : Int32)) (fun v5_4 => K_23 v1 v2 v3 v4_3 v5_4 M_text M_size M_p M_fault)))
def g_X7_firstWord_129 (F : Nat) (K_5 : Int32 → Int32 → (Nat → Int32) → Int32 → Int32 → Int32 → Option (Int32 × Int32 × Int32)) : Nat → Int32 → Int32 → Int32 → Int32 → (Nat → Int32) → Int32 → Int32 → Int32 → Option (Int32 × Int32 × Int32)
  | 0, _, _, _, _, _, _, _, _ => none
  | n + 1, v1, v2, v4, v5, M_text, M_size, M_p, M_fault => (if (7 : Int32) ≤ v5 then K_5 v1 v2 M_text M_size M_p M_fault else (if ((v4 >>> (v5 &&& 31)) &&& (1 : Int32)) = (1 : Int32) then mb1 (f_X7_letter F v5 v2) (fun r_4 => (if r_4 = 0 then some (v5, M_p, M_fault) else mn (v5 + (1 : Int32)) (fun v5_7 => g_X7_firstWord_129 F K_5 n v1 v2 v4 v5_7 M_text M_size M_p M_fault))) else mn (v5 + (1 : Int32)) (fun v5_3 => g_X7_firstWord_129 F K_5 n v1 v2 v4 v5_3 M_text M_size M_p M_fault)))
theorem g_X7_firstWord_129_z (F : Nat) (K_5 : Int32 → Int32 → (Nat → Int32) → Int32 → Int32 → Int32 → Option (Int32 × Int32 × Int32)) (v1 : Int32) (v2 : Int32) (v4 : Int32) (v5 : Int32) (M_text : Nat → Int32) (M_size : Int32) (M_p : Int32) (M_fault : Int32) : g_X7_firstWord_129 F K_5 0 v1 v2 v4 v5 M_text M_size M_p M_fault = none := rfl
theorem g_X7_firstWord_129_s (F : Nat) (K_5 : Int32 → Int32 → (Nat → Int32) → Int32 → Int32 → Int32 → Option (Int32 × Int32 × Int32)) (n : Nat) (v1 : Int32) (v2 : Int32) (v4 : Int32) (v5 : Int32) (M_text : Nat → Int32) (M_size : Int32) (M_p : Int32) (M_fault : Int32) : g_X7_firstWord_129 F K_5 (n + 1) v1 v2 v4 v5 M_text M_size M_p M_fault = (if (7 : Int32) ≤ v5 then K_5 v1 v2 M_text M_size M_p M_fault else (if ((v4 >>> (v5 &&& 31)) &&& (1 : Int32)) = (1 : Int32) then mb1 (f_X7_letter F v5 v2) (fun r_4 => (if r_4 = 0 then some (v5, M_p, M_fault) else mn (v5 + (1 : Int32)) (fun v5_7 => g_X7_firstWord_129 F K_5 n v1 v2 v4 v5_7 M_text M_size M_p M_fault))) else mn (v5 + (1 : Int32)) (fun v5_3 => g_X7_firstWord_129 F K_5 n v1 v2 v4 v5_3 M_text M_size M_p M_fault))) := rfl
def g_X7_firstWord_23 (F : Nat) (K_5 : Int32 → Int32 → (Nat → Int32) → Int32 → Int32 → Int32 → Option (Int32 × Int32 × Int32)) : Nat → Int32 → Int32 → Int32 → Int32 → Int32 → (Nat → Int32) → Int32 → Int32 → Int32 → Option (Int32 × Int32 × Int32)
  | 0, _, _, _, _, _, _, _, _, _ => none
  | n + 1, v1, v2, v3, v4, v5, M_text, M_size, M_p, M_fault => (if (7 : Int32) ≤ v5 then (if v4 = 0 then mb1 (f_X7_fail F M_p M_fault) (fun M_fault_4 => K_5 v1 v2 M_text M_size M_p M_fault_4) else mn (v2 + (1 : Int32)) (fun v2_3 => g_X7_firstWord_129 F K_5 F v4 v2_3 v4 (0 : Int32) M_text M_size (M_p + (1 : Int32)) M_fault)) else mb1 (f_X7_letter F v5 v2) (fun r_6 => (if ((v1 >>> (v5 &&& 31)) &&& (1 : Int32)) = (1 : Int32) then (if r_6 ≤ 0 then g_X7_firstWord_67 F K_5 (g_X7_firstWord_23 F K_5 n) v1 v2 v3 v4 v5 (0 : Int32) M_text M_size M_p M_fault else (if v3 = ((96 : Int32) + r_6) then g_X7_firstWord_67 F K_5 (g_X7_firstWord_23 F K_5 n) v1 v2 v3 v4 v5 (1 : Int32) M_text M_size M_p M_fault else g_X7_firstWord_67 F K_5 (g_X7_firstWord_23 F K_5 n) v1 v2 v3 v4 v5 (0 : Int32) M_text M_size M_p M_fault)) else g_X7_firstWord_67 F K_5 (g_X7_firstWord_23 F K_5 n) v1 v2 v3 v4 v5 (0 : Int32) M_text M_size M_p M_fault)))
theorem g_X7_firstWord_23_z (F : Nat) (K_5 : Int32 → Int32 → (Nat → Int32) → Int32 → Int32 → Int32 → Option (Int32 × Int32 × Int32)) (v1 : Int32) (v2 : Int32) (v3 : Int32) (v4 : Int32) (v5 : Int32) (M_text : Nat → Int32) (M_size : Int32) (M_p : Int32) (M_fault : Int32) : g_X7_firstWord_23 F K_5 0 v1 v2 v3 v4 v5 M_text M_size M_p M_fault = none := rfl
theorem g_X7_firstWord_23_s (F : Nat) (K_5 : Int32 → Int32 → (Nat → Int32) → Int32 → Int32 → Int32 → Option (Int32 × Int32 × Int32)) (n : Nat) (v1 : Int32) (v2 : Int32) (v3 : Int32) (v4 : Int32) (v5 : Int32) (M_text : Nat → Int32) (M_size : Int32) (M_p : Int32) (M_fault : Int32) : g_X7_firstWord_23 F K_5 (n + 1) v1 v2 v3 v4 v5 M_text M_size M_p M_fault = (if (7 : Int32) ≤ v5 then (if v4 = 0 then mb1 (f_X7_fail F M_p M_fault) (fun M_fault_4 => K_5 v1 v2 M_text M_size M_p M_fault_4) else mn (v2 + (1 : Int32)) (fun v2_3 => g_X7_firstWord_129 F K_5 F v4 v2_3 v4 (0 : Int32) M_text M_size (M_p + (1 : Int32)) M_fault)) else mb1 (f_X7_letter F v5 v2) (fun r_6 => (if ((v1 >>> (v5 &&& 31)) &&& (1 : Int32)) = (1 : Int32) then (if r_6 ≤ 0 then g_X7_firstWord_67 F K_5 (g_X7_firstWord_23 F K_5 n) v1 v2 v3 v4 v5 (0 : Int32) M_text M_size M_p M_fault else (if v3 = ((96 : Int32) + r_6) then g_X7_firstWord_67 F K_5 (g_X7_firstWord_23 F K_5 n) v1 v2 v3 v4 v5 (1 : Int32) M_text M_size M_p M_fault else g_X7_firstWord_67 F K_5 (g_X7_firstWord_23 F K_5 n) v1 v2 v3 v4 v5 (0 : Int32) M_text M_size M_p M_fault)) else g_X7_firstWord_67 F K_5 (g_X7_firstWord_23 F K_5 n) v1 v2 v3 v4 v5 (0 : Int32) M_text M_size M_p M_fault))) := rfl
def g_X7_firstWord_5 (F : Nat) : Nat → Int32 → Int32 → (Nat → Int32) → Int32 → Int32 → Int32 → Option (Int32 × Int32 × Int32)
  | 0, _, _, _, _, _, _ => none
  | n + 1, v1, v2, M_text, M_size, M_p, M_fault => mb1 (f_X7_good F M_fault) (fun r_1 => (if r_1 = 0 then some ((-1 : Int32), M_p, M_fault) else mb1 (f_X7_c F M_text M_size M_p) (fun r_4 => g_X7_firstWord_23 F (g_X7_firstWord_5 F n) F v1 v2 r_4 (0 : Int32) (0 : Int32) M_text M_size M_p M_fault)))
theorem g_X7_firstWord_5_z (F : Nat) (v1 : Int32) (v2 : Int32) (M_text : Nat → Int32) (M_size : Int32) (M_p : Int32) (M_fault : Int32) : g_X7_firstWord_5 F 0 v1 v2 M_text M_size M_p M_fault = none := rfl
theorem g_X7_firstWord_5_s (F : Nat) (n : Nat) (v1 : Int32) (v2 : Int32) (M_text : Nat → Int32) (M_size : Int32) (M_p : Int32) (M_fault : Int32) : g_X7_firstWord_5 F (n + 1) v1 v2 M_text M_size M_p M_fault = mb1 (f_X7_good F M_fault) (fun r_1 => (if r_1 = 0 then some ((-1 : Int32), M_p, M_fault) else mb1 (f_X7_c F M_text M_size M_p) (fun r_4 => g_X7_firstWord_23 F (g_X7_firstWord_5 F n) F v1 v2 r_4 (0 : Int32) (0 : Int32) M_text M_size M_p M_fault))) := rfl
def f_X7_firstWord (F : Nat) (M_text : Nat → Int32) (M_size : Int32) (M_p : Int32) (M_fault : Int32) : Option (Int32 × Int32 × Int32) := g_X7_firstWord_5 F F (127 : Int32) (0 : Int32) M_text M_size M_p M_fault
set_option maxRecDepth 20000 in
theorem n_X7_firstWord_X7 : ∀ w ∈ wsX70, w ∈ wsX7_firstWord := by decide +kernel
set_option maxRecDepth 20000 in
theorem w_X7_firstWord_f79 : Cond.fieldLink RX7 79 "LayerStacksModel" "p" "I" ∈ wsX7_firstWord := by decide +kernel
set_option maxHeartbeats 4000000 in
set_option maxRecDepth 100000 in
theorem k_X7_firstWord_67 {p : Program} {l : Launch} {e : Env} {s : State} {m : MethodId} {args : Array Value} {below : List Frame} {meth : Method} {c : Code} {D : va_G} {y : Nat → ClassId} {A : Nat → Prop} {q : Nat → Nat} {M_thrown : Int32} {M_has : Int32} {M_hand : Int32} {M_layers : Nat → Int32} {M_kinds : Nat → Int32} {M_names : Nat → Int64} {M_nameSizes : Nat → Int32} {M_thicknesses : Nat → Int64} {M_spreads : Nat → Int32} {M_coppers : Nat → Int32} {M_copperAt : Nat → Int32} {M_presses : Nat → Int32} {M_pressFrom : Nat → Int32} {M_pressTo : Nat → Int32} {M_vias : Nat → Int32} {M_viaFrom : Nat → Int32} {M_viaTo : Nat → Int32} {M_shares : Nat → Int32} {M_lists : Int32} {M_hasRow : Nat → Int32} {M_rowLow : Nat → Int64} {M_rowHigh : Nat → Int64} {M_s : Int32} {M_lines : Int32} {M_word : Int64} {M_wordSize : Int32} {M_out : Nat → Int32} {M_written : Int32} {M_secondOne : Int32} {z : Int32 × Int32 × Int32} (C : CX p s m args meth c wsX7_firstWord RX7 cX7_firstWord 8 (some .int)) (hA : ∀ q : Nat, s.heap.size ≤ q → A q) (hK : va_K D vwCl (tyl y) s) (F : Nat) {K_5 : Int32 → Int32 → (Nat → Int32) → Int32 → Int32 → Int32 → Option (Int32 × Int32 × Int32)} (kK_5 : ∀ (v1 : Int32) (v2 : Int32) (M_text : Nat → Int32) (M_size : Int32) (M_p : Int32) (M_fault : Int32) (H : Heap) (locs : List Loc) (ls : Array Slot), K_5 v1 v2 M_text M_size M_p M_fault = some z → va_P D vwCl (wdX7 q y M_thrown M_text M_size M_has M_hand M_layers M_kinds M_names M_nameSizes M_thicknesses M_spreads M_coppers M_copperAt M_presses M_pressFrom M_pressTo M_vias M_viaFrom M_viaTo M_shares M_lists M_hasRow M_rowLow M_rowHigh M_p M_s M_fault M_lines M_word M_wordSize M_out M_written M_secondOne) H → va_D A (wdX7 q y M_thrown M_text M_size M_has M_hand M_layers M_kinds M_names M_nameSizes M_thicknesses M_spreads M_coppers M_copperAt M_presses M_pressFrom M_pressTo M_vias M_viaFrom M_viaTo M_shares M_lists M_hasRow M_rowLow M_rowHigh M_p M_s M_fault M_lines M_word M_wordSize M_out M_written M_secondOne) → va_S A s.heap H locs → lv_has ls 8 [(0, .ref (q 0)), (1, .int v1), (2, .int v2)] → W p l e ({ frames := 3, cells := 0, slots := 0, locals := 69 } : Room) s m args below meth c H locs 0 0 (MQ below (QI D y A (z.1) (wdX7 q y M_thrown M_text M_size M_has M_hand M_layers M_kinds M_names M_nameSizes M_thicknesses M_spreads M_coppers M_copperAt M_presses M_pressFrom M_pressTo M_vias M_viaFrom M_viaTo M_shares M_lists M_hasRow M_rowLow M_rowHigh (z.2.1) M_s (z.2.2) M_lines M_word M_wordSize M_out M_written M_secondOne)) args s 0 0 A) (F0 m 5 ls [])) {K_23 : Int32 → Int32 → Int32 → Int32 → Int32 → (Nat → Int32) → Int32 → Int32 → Int32 → Option (Int32 × Int32 × Int32)} (kK_23 : ∀ (v1 : Int32) (v2 : Int32) (v3 : Int32) (v4 : Int32) (v5 : Int32) (M_text : Nat → Int32) (M_size : Int32) (M_p : Int32) (M_fault : Int32) (H : Heap) (locs : List Loc) (ls : Array Slot), K_23 v1 v2 v3 v4 v5 M_text M_size M_p M_fault = some z → va_P D vwCl (wdX7 q y M_thrown M_text M_size M_has M_hand M_layers M_kinds M_names M_nameSizes M_thicknesses M_spreads M_coppers M_copperAt M_presses M_pressFrom M_pressTo M_vias M_viaFrom M_viaTo M_shares M_lists M_hasRow M_rowLow M_rowHigh M_p M_s M_fault M_lines M_word M_wordSize M_out M_written M_secondOne) H → va_D A (wdX7 q y M_thrown M_text M_size M_has M_hand M_layers M_kinds M_names M_nameSizes M_thicknesses M_spreads M_coppers M_copperAt M_presses M_pressFrom M_pressTo M_vias M_viaFrom M_viaTo M_shares M_lists M_hasRow M_rowLow M_rowHigh M_p M_s M_fault M_lines M_word M_wordSize M_out M_written M_secondOne) → va_S A s.heap H locs → lv_has ls 8 [(0, .ref (q 0)), (1, .int v1), (2, .int v2), (3, .int v3), (4, .int v4), (5, .int v5)] → W p l e ({ frames := 3, cells := 0, slots := 0, locals := 69 } : Room) s m args below meth c H locs 0 0 (MQ below (QI D y A (z.1) (wdX7 q y M_thrown M_text M_size M_has M_hand M_layers M_kinds M_names M_nameSizes M_thicknesses M_spreads M_coppers M_copperAt M_presses M_pressFrom M_pressTo M_vias M_viaFrom M_viaTo M_shares M_lists M_hasRow M_rowLow M_rowHigh (z.2.1) M_s (z.2.2) M_lines M_word M_wordSize M_out M_written M_secondOne)) args s 0 0 A) (F0 m 23 ls [])) :
    ∀ (v1 : Int32) (v2 : Int32) (v3 : Int32) (v4 : Int32) (v5 : Int32) (st0 : Int32) (M_text : Nat → Int32) (M_size : Int32) (M_p : Int32) (M_fault : Int32) (H : Heap) (locs : List Loc) (ls : Array Slot), g_X7_firstWord_67 F K_5 K_23 v1 v2 v3 v4 v5 st0 M_text M_size M_p M_fault = some z → va_P D vwCl (wdX7 q y M_thrown M_text M_size M_has M_hand M_layers M_kinds M_names M_nameSizes M_thicknesses M_spreads M_coppers M_copperAt M_presses M_pressFrom M_pressTo M_vias M_viaFrom M_viaTo M_shares M_lists M_hasRow M_rowLow M_rowHigh M_p M_s M_fault M_lines M_word M_wordSize M_out M_written M_secondOne) H → va_D A (wdX7 q y M_thrown M_text M_size M_has M_hand M_layers M_kinds M_names M_nameSizes M_thicknesses M_spreads M_coppers M_copperAt M_presses M_pressFrom M_pressTo M_vias M_viaFrom M_viaTo M_shares M_lists M_hasRow M_rowLow M_rowHigh M_p M_s M_fault M_lines M_word M_wordSize M_out M_written M_secondOne) → va_S A s.heap H locs → lv_has ls 8 [(0, .ref (q 0)), (1, .int v1), (2, .int v2), (3, .int v3), (4, .int v4), (5, .int v5)] → W p l e ({ frames := 3, cells := 0, slots := 0, locals := 69 } : Room) s m args below meth c H locs 0 0 (MQ below (QI D y A (z.1) (wdX7 q y M_thrown M_text M_size M_has M_hand M_layers M_kinds M_names M_nameSizes M_thicknesses M_spreads M_coppers M_copperAt M_presses M_pressFrom M_pressTo M_vias M_viaFrom M_viaTo M_shares M_lists M_hasRow M_rowLow M_rowHigh (z.2.1) M_s (z.2.2) M_lines M_word M_wordSize M_out M_written M_secondOne)) args s 0 0 A) (F0 m 67 ls [.int st0]) := by
  obtain ⟨⟨hx, hb, hml, hown, hts⟩, hr, hlocks⟩ := id C
  intro v1 v2 v3 v4 v5 st0 M_text M_size M_p M_fault H locs ls hm hP hD hS hl
  unfold g_X7_firstWord_67 at hm
  refine lv_istore (lv' := [(7, .int st0), (0, .ref (q 0)), (1, .int v1), (2, .int v2), (3, .int v3), (4, .int v4), (5, .int v5)]) hx hb dX7_firstWord_67 hl (by decide) rfl (fun ls hl => ?_)
  refine lv_iload hx hb dX7_firstWord_69 (lv_at hl 0 rfl) ?_
  refine lv_if_eq (tgt := 84) hx hb dX7_firstWord_71 (by decide) (fun h_1 => ?_) (fun h_1 => ?_)
  · have hm := it_of hm h_1
    refine lv_iload hx hb dX7_firstWord_84 (lv_at hl 5 rfl) ?_
    refine lv_istore (lv' := [(4, .int v4), (7, .int st0), (0, .ref (q 0)), (1, .int v1), (2, .int v2), (3, .int v3), (5, .int v5)]) hx hb dX7_firstWord_86 hl (by decide) rfl (fun ls hl => ?_)
    obtain ⟨v5_2, ev5_2⟩ : ∃ y9 : Int32, y9 = (v5 + (1 : Int32)) := ⟨_, rfl⟩
    have hm := mn_of ev5_2 hm
    refine lv_iinc (v := v5_2) (lv' := [(5, .int v5_2), (4, .int v4), (7, .int st0), (0, .ref (q 0)), (1, .int v1), (2, .int v2), (3, .int v3)]) hx hb dX7_firstWord_88 hl (k := 6) rfl (by rw [ev5_2]; rfl) (by decide) rfl (fun ls hl => ?_)
    refine lv_goto (tgt := 23) hx hb dX7_firstWord_91 (by decide) ?_
    exact kK_23 v1 v2 v3 v4 v5_2 M_text M_size M_p M_fault _ _ _ hm hP hD hS (lv_sub hl [3, 4, 5, 6, 1, 0] rfl)
  · have hm := ie_of hm h_1
    refine lv_iload hx hb dX7_firstWord_74 (lv_at hl 5 rfl) ?_
    refine lv_iconst (v := (1 : Int32)) hx hb dX7_firstWord_76 (by decide) ?_
    refine lv_iload hx hb dX7_firstWord_77 (lv_at hl 6 rfl) ?_
    refine lv_ishl hx hb dX7_firstWord_79 ?_
    refine lv_ior hx hb dX7_firstWord_80 ?_
    refine lv_goto (tgt := 86) hx hb dX7_firstWord_81 (by decide) ?_
    refine lv_topi (fun v4_3 ev4_3 => ?_)
    have hm := mn_of ev4_3 hm
    refine lv_istore (lv' := [(4, .int v4_3), (7, .int st0), (0, .ref (q 0)), (1, .int v1), (2, .int v2), (3, .int v3), (5, .int v5)]) hx hb dX7_firstWord_86 hl (by decide) rfl (fun ls hl => ?_)
    obtain ⟨v5_4, ev5_4⟩ : ∃ y9 : Int32, y9 = (v5 + (1 : Int32)) := ⟨_, rfl⟩
    have hm := mn_of ev5_4 hm
    refine lv_iinc (v := v5_4) (lv' := [(5, .int v5_4), (4, .int v4_3), (7, .int st0), (0, .ref (q 0)), (1, .int v1), (2, .int v2), (3, .int v3)]) hx hb dX7_firstWord_88 hl (k := 6) rfl (by rw [ev5_4]; rfl) (by decide) rfl (fun ls hl => ?_)
    refine lv_goto (tgt := 23) hx hb dX7_firstWord_91 (by decide) ?_
    exact kK_23 v1 v2 v3 v4_3 v5_4 M_text M_size M_p M_fault _ _ _ hm hP hD hS (lv_sub hl [3, 4, 5, 6, 1, 0] rfl)
set_option maxHeartbeats 4000000 in
set_option maxRecDepth 100000 in
theorem k_X7_firstWord_129 {p : Program} {l : Launch} {e : Env} {s : State} {m : MethodId} {args : Array Value} {below : List Frame} {meth : Method} {c : Code} {D : va_G} {y : Nat → ClassId} {A : Nat → Prop} {q : Nat → Nat} {M_thrown : Int32} {M_has : Int32} {M_hand : Int32} {M_layers : Nat → Int32} {M_kinds : Nat → Int32} {M_names : Nat → Int64} {M_nameSizes : Nat → Int32} {M_thicknesses : Nat → Int64} {M_spreads : Nat → Int32} {M_coppers : Nat → Int32} {M_copperAt : Nat → Int32} {M_presses : Nat → Int32} {M_pressFrom : Nat → Int32} {M_pressTo : Nat → Int32} {M_vias : Nat → Int32} {M_viaFrom : Nat → Int32} {M_viaTo : Nat → Int32} {M_shares : Nat → Int32} {M_lists : Int32} {M_hasRow : Nat → Int32} {M_rowLow : Nat → Int64} {M_rowHigh : Nat → Int64} {M_s : Int32} {M_lines : Int32} {M_word : Int64} {M_wordSize : Int32} {M_out : Nat → Int32} {M_written : Int32} {M_secondOne : Int32} {z : Int32 × Int32 × Int32} (C : CX p s m args meth c wsX7_firstWord RX7 cX7_firstWord 8 (some .int)) (hA : ∀ q : Nat, s.heap.size ≤ q → A q) (hK : va_K D vwCl (tyl y) s) (F : Nat) {K_5 : Int32 → Int32 → (Nat → Int32) → Int32 → Int32 → Int32 → Option (Int32 × Int32 × Int32)} (kK_5 : ∀ (v1 : Int32) (v2 : Int32) (M_text : Nat → Int32) (M_size : Int32) (M_p : Int32) (M_fault : Int32) (H : Heap) (locs : List Loc) (ls : Array Slot), K_5 v1 v2 M_text M_size M_p M_fault = some z → va_P D vwCl (wdX7 q y M_thrown M_text M_size M_has M_hand M_layers M_kinds M_names M_nameSizes M_thicknesses M_spreads M_coppers M_copperAt M_presses M_pressFrom M_pressTo M_vias M_viaFrom M_viaTo M_shares M_lists M_hasRow M_rowLow M_rowHigh M_p M_s M_fault M_lines M_word M_wordSize M_out M_written M_secondOne) H → va_D A (wdX7 q y M_thrown M_text M_size M_has M_hand M_layers M_kinds M_names M_nameSizes M_thicknesses M_spreads M_coppers M_copperAt M_presses M_pressFrom M_pressTo M_vias M_viaFrom M_viaTo M_shares M_lists M_hasRow M_rowLow M_rowHigh M_p M_s M_fault M_lines M_word M_wordSize M_out M_written M_secondOne) → va_S A s.heap H locs → lv_has ls 8 [(0, .ref (q 0)), (1, .int v1), (2, .int v2)] → W p l e ({ frames := 3, cells := 0, slots := 0, locals := 69 } : Room) s m args below meth c H locs 0 0 (MQ below (QI D y A (z.1) (wdX7 q y M_thrown M_text M_size M_has M_hand M_layers M_kinds M_names M_nameSizes M_thicknesses M_spreads M_coppers M_copperAt M_presses M_pressFrom M_pressTo M_vias M_viaFrom M_viaTo M_shares M_lists M_hasRow M_rowLow M_rowHigh (z.2.1) M_s (z.2.2) M_lines M_word M_wordSize M_out M_written M_secondOne)) args s 0 0 A) (F0 m 5 ls [])) :
    ∀ (n : Nat), ∀ (v1 : Int32) (v2 : Int32) (v4 : Int32) (v5 : Int32) (M_text : Nat → Int32) (M_size : Int32) (M_p : Int32) (M_fault : Int32) (H : Heap) (locs : List Loc) (ls : Array Slot), g_X7_firstWord_129 F K_5 n v1 v2 v4 v5 M_text M_size M_p M_fault = some z → va_P D vwCl (wdX7 q y M_thrown M_text M_size M_has M_hand M_layers M_kinds M_names M_nameSizes M_thicknesses M_spreads M_coppers M_copperAt M_presses M_pressFrom M_pressTo M_vias M_viaFrom M_viaTo M_shares M_lists M_hasRow M_rowLow M_rowHigh M_p M_s M_fault M_lines M_word M_wordSize M_out M_written M_secondOne) H → va_D A (wdX7 q y M_thrown M_text M_size M_has M_hand M_layers M_kinds M_names M_nameSizes M_thicknesses M_spreads M_coppers M_copperAt M_presses M_pressFrom M_pressTo M_vias M_viaFrom M_viaTo M_shares M_lists M_hasRow M_rowLow M_rowHigh M_p M_s M_fault M_lines M_word M_wordSize M_out M_written M_secondOne) → va_S A s.heap H locs → lv_has ls 8 [(0, .ref (q 0)), (1, .int v1), (2, .int v2), (4, .int v4), (5, .int v5)] → W p l e ({ frames := 3, cells := 0, slots := 0, locals := 69 } : Room) s m args below meth c H locs 0 0 (MQ below (QI D y A (z.1) (wdX7 q y M_thrown M_text M_size M_has M_hand M_layers M_kinds M_names M_nameSizes M_thicknesses M_spreads M_coppers M_copperAt M_presses M_pressFrom M_pressTo M_vias M_viaFrom M_viaTo M_shares M_lists M_hasRow M_rowLow M_rowHigh (z.2.1) M_s (z.2.2) M_lines M_word M_wordSize M_out M_written M_secondOne)) args s 0 0 A) (F0 m 129 ls []) := by
  obtain ⟨⟨hx, hb, hml, hown, hts⟩, hr, hlocks⟩ := id C
  intro n
  induction n with
  | zero =>
    intro v1 v2 v4 v5 M_text M_size M_p M_fault H locs ls hm
    rw [g_X7_firstWord_129_z] at hm
    cases hm
  | succ n ih =>
    intro v1 v2 v4 v5 M_text M_size M_p M_fault H locs ls hm hP hD hS hl
    rw [g_X7_firstWord_129_s] at hm
    refine lv_iload hx hb dX7_firstWord_129 (lv_at hl 4 rfl) ?_
    refine lv_bipush (v := (7 : Int32)) hx hb dX7_firstWord_131 (by decide) ?_
    refine lv_icmp_ge (tgt := 165) hx hb dX7_firstWord_133 (by decide) (fun h_1 => ?_) (fun h_1 => ?_)
    · have hm := it_of hm h_1
      refine lv_goto (tgt := 5) hx hb dX7_firstWord_165 (by decide) ?_
      exact kK_5 v1 v2 M_text M_size M_p M_fault _ _ _ hm hP hD hS (lv_sub hl [0, 1, 2] rfl)
    · have hm := ie_of hm h_1
      refine lv_iload hx hb dX7_firstWord_136 (lv_at hl 3 rfl) ?_
      refine lv_iload hx hb dX7_firstWord_138 (lv_at hl 4 rfl) ?_
      refine lv_ishr hx hb dX7_firstWord_140 ?_
      refine lv_iconst (v := (1 : Int32)) hx hb dX7_firstWord_141 (by decide) ?_
      refine lv_iand hx hb dX7_firstWord_142 ?_
      refine lv_iconst (v := (1 : Int32)) hx hb dX7_firstWord_143 (by decide) ?_
      refine lv_icmp_ne (tgt := 159) hx hb dX7_firstWord_144 (by decide) (fun h_2 => ?_) (fun h_2 => ?_)
      · have hm := ie_of hm h_2
        obtain ⟨v5_3, ev5_3⟩ : ∃ y9 : Int32, y9 = (v5 + (1 : Int32)) := ⟨_, rfl⟩
        have hm := mn_of ev5_3 hm
        refine lv_iinc (v := v5_3) (lv' := [(5, .int v5_3), (0, .ref (q 0)), (1, .int v1), (2, .int v2), (4, .int v4)]) hx hb dX7_firstWord_159 hl (k := 4) rfl (by rw [ev5_3]; rfl) (by decide) rfl (fun ls hl => ?_)
        refine lv_goto (tgt := 129) hx hb dX7_firstWord_162 (by decide) ?_
        exact ih v1 v2 v4 v5_3 M_text M_size M_p M_fault _ _ _ hm hP hD hS (lv_sub hl [1, 2, 3, 4, 0] rfl)
      · have hm := it_of hm h_2
        refine lv_iload hx hb dX7_firstWord_147 (lv_at hl 4 rfl) ?_
        refine lv_iload_n hx hb dX7_firstWord_149 rfl (lv_at hl 2 rfl) ?_
        obtain ⟨r_4, hc_5, hm⟩ := mb1_of hm
        refine call_si (wc := ([] : va_W)) (wr := [(q 0, .inr (7, [.int M_thrown, .ref (q 1), .int M_size, .int M_has, .int M_hand, .ref (q 2), .ref (q 3), .ref (q 4), .ref (q 5), .ref (q 6), .ref (q 7), .ref (q 8), .ref (q 9), .ref (q 10), .ref (q 11), .ref (q 12), .ref (q 13), .ref (q 14), .ref (q 15), .ref (q 16), .int M_lists, .ref (q 17), .ref (q 18), .ref (q 19), .int M_p, .int M_s, .int M_fault, .int M_lines, .long M_word, .int M_wordSize, .ref (q 20), .int M_written, .int M_secondOne])), (q 1, .inl (y 0, 3000, .inl M_text)), (q 2, .inl (y 0, 2, .inl M_layers)), (q 3, .inl (y 0, 160, .inl M_kinds)), (q 4, .inl (y 1, 160, .inr (.inl M_names))), (q 5, .inl (y 0, 160, .inl M_nameSizes)), (q 6, .inl (y 1, 160, .inr (.inl M_thicknesses))), (q 7, .inl (y 0, 160, .inl M_spreads)), (q 8, .inl (y 0, 2, .inl M_coppers)), (q 9, .inl (y 0, 64, .inl M_copperAt)), (q 10, .inl (y 0, 2, .inl M_presses)), (q 11, .inl (y 0, 44, .inl M_pressFrom)), (q 12, .inl (y 0, 44, .inl M_pressTo)), (q 13, .inl (y 0, 2, .inl M_vias)), (q 14, .inl (y 0, 80, .inl M_viaFrom)), (q 15, .inl (y 0, 80, .inl M_viaTo)), (q 16, .inl (y 0, 32, .inl M_shares)), (q 17, .inl (y 3, 640, .inl M_hasRow)), (q 18, .inl (y 1, 640, .inr (.inl M_rowLow))), (q 19, .inl (y 1, 640, .inr (.inl M_rowHigh))), (q 20, .inl (y 0, 6000, .inl M_out))]) (As := [.int v5, .int v2]) (rest := []) C (c_X7_letter l D y _ F hc_5) (va_cwS 2 hts gX7_firstWord_X7_letter rfl rfl rfl (by decide +kernel) ⟨Nat.le_of_ble_eq_true rfl, Nat.le_of_ble_eq_true rfl⟩) hK hP hD hS hA [] [0, 1, 2, 3, 4, 5, 6, 7, 8, 9, 10, 11, 12, 13, 14, 15, 16, 17, 18, 19, 20] rfl rfl rfl rfl rfl (by decide) rfl hl.1 (Nat.le_of_ble_eq_true rfl) dX7_firstWord_150 (fun H locs hP hD hS => ?_)
        have hP : va_P D vwCl (wdX7 q y M_thrown M_text M_size M_has M_hand M_layers M_kinds M_names M_nameSizes M_thicknesses M_spreads M_coppers M_copperAt M_presses M_pressFrom M_pressTo M_vias M_viaFrom M_viaTo M_shares M_lists M_hasRow M_rowLow M_rowHigh M_p M_s M_fault M_lines M_word M_wordSize M_out M_written M_secondOne) H := hP
        have hD : va_D A (wdX7 q y M_thrown M_text M_size M_has M_hand M_layers M_kinds M_names M_nameSizes M_thicknesses M_spreads M_coppers M_copperAt M_presses M_pressFrom M_pressTo M_vias M_viaFrom M_viaTo M_shares M_lists M_hasRow M_rowLow M_rowHigh M_p M_s M_fault M_lines M_word M_wordSize M_out M_written M_secondOne) := hD
        refine lv_if_ne (tgt := 159) hx hb dX7_firstWord_153 (by decide) (fun h_6 => ?_) (fun h_6 => ?_)
        · have hm := ie_of hm h_6
          obtain ⟨v5_7, ev5_7⟩ : ∃ y9 : Int32, y9 = (v5 + (1 : Int32)) := ⟨_, rfl⟩
          have hm := mn_of ev5_7 hm
          refine lv_iinc (v := v5_7) (lv' := [(5, .int v5_7), (0, .ref (q 0)), (1, .int v1), (2, .int v2), (4, .int v4)]) hx hb dX7_firstWord_159 hl (k := 4) rfl (by rw [ev5_7]; rfl) (by decide) rfl (fun ls hl => ?_)
          refine lv_goto (tgt := 129) hx hb dX7_firstWord_162 (by decide) ?_
          exact ih v1 v2 v4 v5_7 M_text M_size M_p M_fault _ _ _ hm hP hD hS (lv_sub hl [1, 2, 3, 4, 0] rfl)
        · have hm := it_of hm h_6
          refine lv_iload hx hb dX7_firstWord_156 (lv_at hl 4 rfl) ?_
          have hz := Option.some.inj hm
          subst hz
          exact end_i C hK hP hD hS dX7_firstWord_158
set_option maxHeartbeats 4000000 in
set_option maxRecDepth 100000 in
theorem k_X7_firstWord_23 {p : Program} {l : Launch} {e : Env} {s : State} {m : MethodId} {args : Array Value} {below : List Frame} {meth : Method} {c : Code} {D : va_G} {y : Nat → ClassId} {A : Nat → Prop} {q : Nat → Nat} {M_thrown : Int32} {M_has : Int32} {M_hand : Int32} {M_layers : Nat → Int32} {M_kinds : Nat → Int32} {M_names : Nat → Int64} {M_nameSizes : Nat → Int32} {M_thicknesses : Nat → Int64} {M_spreads : Nat → Int32} {M_coppers : Nat → Int32} {M_copperAt : Nat → Int32} {M_presses : Nat → Int32} {M_pressFrom : Nat → Int32} {M_pressTo : Nat → Int32} {M_vias : Nat → Int32} {M_viaFrom : Nat → Int32} {M_viaTo : Nat → Int32} {M_shares : Nat → Int32} {M_lists : Int32} {M_hasRow : Nat → Int32} {M_rowLow : Nat → Int64} {M_rowHigh : Nat → Int64} {M_s : Int32} {M_lines : Int32} {M_word : Int64} {M_wordSize : Int32} {M_out : Nat → Int32} {M_written : Int32} {M_secondOne : Int32} {z : Int32 × Int32 × Int32} (C : CX p s m args meth c wsX7_firstWord RX7 cX7_firstWord 8 (some .int)) (hA : ∀ q : Nat, s.heap.size ≤ q → A q) (hK : va_K D vwCl (tyl y) s) (F : Nat) {K_5 : Int32 → Int32 → (Nat → Int32) → Int32 → Int32 → Int32 → Option (Int32 × Int32 × Int32)} (kK_5 : ∀ (v1 : Int32) (v2 : Int32) (M_text : Nat → Int32) (M_size : Int32) (M_p : Int32) (M_fault : Int32) (H : Heap) (locs : List Loc) (ls : Array Slot), K_5 v1 v2 M_text M_size M_p M_fault = some z → va_P D vwCl (wdX7 q y M_thrown M_text M_size M_has M_hand M_layers M_kinds M_names M_nameSizes M_thicknesses M_spreads M_coppers M_copperAt M_presses M_pressFrom M_pressTo M_vias M_viaFrom M_viaTo M_shares M_lists M_hasRow M_rowLow M_rowHigh M_p M_s M_fault M_lines M_word M_wordSize M_out M_written M_secondOne) H → va_D A (wdX7 q y M_thrown M_text M_size M_has M_hand M_layers M_kinds M_names M_nameSizes M_thicknesses M_spreads M_coppers M_copperAt M_presses M_pressFrom M_pressTo M_vias M_viaFrom M_viaTo M_shares M_lists M_hasRow M_rowLow M_rowHigh M_p M_s M_fault M_lines M_word M_wordSize M_out M_written M_secondOne) → va_S A s.heap H locs → lv_has ls 8 [(0, .ref (q 0)), (1, .int v1), (2, .int v2)] → W p l e ({ frames := 3, cells := 0, slots := 0, locals := 69 } : Room) s m args below meth c H locs 0 0 (MQ below (QI D y A (z.1) (wdX7 q y M_thrown M_text M_size M_has M_hand M_layers M_kinds M_names M_nameSizes M_thicknesses M_spreads M_coppers M_copperAt M_presses M_pressFrom M_pressTo M_vias M_viaFrom M_viaTo M_shares M_lists M_hasRow M_rowLow M_rowHigh (z.2.1) M_s (z.2.2) M_lines M_word M_wordSize M_out M_written M_secondOne)) args s 0 0 A) (F0 m 5 ls [])) :
    ∀ (n : Nat), ∀ (v1 : Int32) (v2 : Int32) (v3 : Int32) (v4 : Int32) (v5 : Int32) (M_text : Nat → Int32) (M_size : Int32) (M_p : Int32) (M_fault : Int32) (H : Heap) (locs : List Loc) (ls : Array Slot), g_X7_firstWord_23 F K_5 n v1 v2 v3 v4 v5 M_text M_size M_p M_fault = some z → va_P D vwCl (wdX7 q y M_thrown M_text M_size M_has M_hand M_layers M_kinds M_names M_nameSizes M_thicknesses M_spreads M_coppers M_copperAt M_presses M_pressFrom M_pressTo M_vias M_viaFrom M_viaTo M_shares M_lists M_hasRow M_rowLow M_rowHigh M_p M_s M_fault M_lines M_word M_wordSize M_out M_written M_secondOne) H → va_D A (wdX7 q y M_thrown M_text M_size M_has M_hand M_layers M_kinds M_names M_nameSizes M_thicknesses M_spreads M_coppers M_copperAt M_presses M_pressFrom M_pressTo M_vias M_viaFrom M_viaTo M_shares M_lists M_hasRow M_rowLow M_rowHigh M_p M_s M_fault M_lines M_word M_wordSize M_out M_written M_secondOne) → va_S A s.heap H locs → lv_has ls 8 [(0, .ref (q 0)), (1, .int v1), (2, .int v2), (3, .int v3), (4, .int v4), (5, .int v5)] → W p l e ({ frames := 3, cells := 0, slots := 0, locals := 69 } : Room) s m args below meth c H locs 0 0 (MQ below (QI D y A (z.1) (wdX7 q y M_thrown M_text M_size M_has M_hand M_layers M_kinds M_names M_nameSizes M_thicknesses M_spreads M_coppers M_copperAt M_presses M_pressFrom M_pressTo M_vias M_viaFrom M_viaTo M_shares M_lists M_hasRow M_rowLow M_rowHigh (z.2.1) M_s (z.2.2) M_lines M_word M_wordSize M_out M_written M_secondOne)) args s 0 0 A) (F0 m 23 ls []) := by
  obtain ⟨⟨hx, hb, hml, hown, hts⟩, hr, hlocks⟩ := id C
  intro n
  induction n with
  | zero =>
    intro v1 v2 v3 v4 v5 M_text M_size M_p M_fault H locs ls hm
    rw [g_X7_firstWord_23_z] at hm
    cases hm
  | succ n ih =>
    intro v1 v2 v3 v4 v5 M_text M_size M_p M_fault H locs ls hm hP hD hS hl
    rw [g_X7_firstWord_23_s] at hm
    refine lv_iload hx hb dX7_firstWord_23 (lv_at hl 5 rfl) ?_
    refine lv_bipush (v := (7 : Int32)) hx hb dX7_firstWord_25 (by decide) ?_
    refine lv_icmp_ge (tgt := 94) hx hb dX7_firstWord_27 (by decide) (fun h_1 => ?_) (fun h_1 => ?_)
    · have hm := it_of hm h_1
      refine lv_iload hx hb dX7_firstWord_94 (lv_at hl 4 rfl) ?_
      refine lv_if_ne (tgt := 110) hx hb dX7_firstWord_96 (by decide) (fun h_2 => ?_) (fun h_2 => ?_)
      · have hm := ie_of hm h_2
        refine lv_aload_n hx hb dX7_firstWord_110 rfl (lv_at hl 0 rfl) ?_
        refine lv_dup hx hb dX7_firstWord_111 rfl ?_
        refine va_get (D := D) (ci := 7) (v := .int M_p) (C := RX7) (T := TX7) (N := 33) hx hb hts n_X7_firstWord_X7 hown hK hP 0 rfl rfl 24 (by decide) (hts _ w_X7_firstWord_f79) (fun _ h9 => h9) rfl dX7_firstWord_112 ?_
        refine lv_iconst (v := (1 : Int32)) hx hb dX7_firstWord_115 (by decide) ?_
        refine lv_iadd hx hb dX7_firstWord_116 ?_
        refine va_put (D := D) (ci := 7) (v := .int (M_p + (1 : Int32))) (ty := .int) (C := RX7) (T := TX7) (N := 33) hx hb hts n_X7_firstWord_X7 tyX7 tyX7_ok nmX7 hown hK hP hD hS 0 rfl rfl 24 (by decide) (hts _ w_X7_firstWord_f79) (fun _ h9 => h9) rfl (by decide +kernel) rfl rfl (Nat.le_of_ble_eq_true rfl) dX7_firstWord_117 (fun H locs hP hD hS => ?_)
        have hP : va_P D vwCl (wdX7 q y M_thrown M_text M_size M_has M_hand M_layers M_kinds M_names M_nameSizes M_thicknesses M_spreads M_coppers M_copperAt M_presses M_pressFrom M_pressTo M_vias M_viaFrom M_viaTo M_shares M_lists M_hasRow M_rowLow M_rowHigh (M_p + (1 : Int32)) M_s M_fault M_lines M_word M_wordSize M_out M_written M_secondOne) H := hP
        have hD : va_D A (wdX7 q y M_thrown M_text M_size M_has M_hand M_layers M_kinds M_names M_nameSizes M_thicknesses M_spreads M_coppers M_copperAt M_presses M_pressFrom M_pressTo M_vias M_viaFrom M_viaTo M_shares M_lists M_hasRow M_rowLow M_rowHigh (M_p + (1 : Int32)) M_s M_fault M_lines M_word M_wordSize M_out M_written M_secondOne) := hD
        refine lv_iload hx hb dX7_firstWord_120 (lv_at hl 4 rfl) ?_
        refine lv_istore_n (lv' := [(1, .int v4), (0, .ref (q 0)), (2, .int v2), (3, .int v3), (4, .int v4), (5, .int v5)]) hx hb dX7_firstWord_122 rfl hl (by decide) rfl (fun ls hl => ?_)
        obtain ⟨v2_3, ev2_3⟩ : ∃ y9 : Int32, y9 = (v2 + (1 : Int32)) := ⟨_, rfl⟩
        have hm := mn_of ev2_3 hm
        refine lv_iinc (v := v2_3) (lv' := [(2, .int v2_3), (1, .int v4), (0, .ref (q 0)), (3, .int v3), (4, .int v4), (5, .int v5)]) hx hb dX7_firstWord_123 hl (k := 2) rfl (by rw [ev2_3]; rfl) (by decide) rfl (fun ls hl => ?_)
        refine lv_iconst (v := (0 : Int32)) hx hb dX7_firstWord_126 (by decide) ?_
        refine lv_istore (lv' := [(5, .int (0 : Int32)), (2, .int v2_3), (1, .int v4), (0, .ref (q 0)), (3, .int v3), (4, .int v4)]) hx hb dX7_firstWord_127 hl (by decide) rfl (fun ls hl => ?_)
        exact k_X7_firstWord_129 C hA hK F (K_5 := K_5) kK_5 F v4 v2_3 v4 (0 : Int32) M_text M_size (M_p + (1 : Int32)) M_fault _ _ _ hm hP hD hS (lv_sub hl [3, 2, 1, 5, 0] rfl)
      · have hm := it_of hm h_2
        refine lv_aload_n hx hb dX7_firstWord_99 rfl (lv_at hl 0 rfl) ?_
        refine lv_aload_n hx hb dX7_firstWord_100 rfl (lv_at hl 0 rfl) ?_
        refine va_get (D := D) (ci := 7) (v := .int M_p) (C := RX7) (T := TX7) (N := 33) hx hb hts n_X7_firstWord_X7 hown hK hP 0 rfl rfl 24 (by decide) (hts _ w_X7_firstWord_f79) (fun _ h9 => h9) rfl dX7_firstWord_101 ?_
        obtain ⟨M_fault_4, hc_5, hm⟩ := mb1_of hm
        refine call_vv (wc := (wdX7 q y M_thrown M_text M_size M_has M_hand M_layers M_kinds M_names M_nameSizes M_thicknesses M_spreads M_coppers M_copperAt M_presses M_pressFrom M_pressTo M_vias M_viaFrom M_viaTo M_shares M_lists M_hasRow M_rowLow M_rowHigh M_p M_s M_fault M_lines M_word M_wordSize M_out M_written M_secondOne)) (wr := []) (As := [.int M_p]) (rest := []) C (c_X7_fail l D y q _ F hc_5) (cwV 1 hts gX7_firstWord_X7_fail rfl rfl rfl (by decide +kernel) ⟨Nat.le_of_ble_eq_true rfl, Nat.le_of_ble_eq_true rfl⟩) hK hP hD hS hA [0, 1, 2, 3, 4, 5, 6, 7, 8, 9, 10, 11, 12, 13, 14, 15, 16, 17, 18, 19, 20] [] rfl rfl rfl rfl rfl (by decide) rfl rfl rfl rfl hl.1 (Nat.le_of_ble_eq_true rfl) dX7_firstWord_104 (fun H locs hP hD hS => ?_)
        have hP : va_P D vwCl (wdX7 q y M_thrown M_text M_size M_has M_hand M_layers M_kinds M_names M_nameSizes M_thicknesses M_spreads M_coppers M_copperAt M_presses M_pressFrom M_pressTo M_vias M_viaFrom M_viaTo M_shares M_lists M_hasRow M_rowLow M_rowHigh M_p M_s M_fault_4 M_lines M_word M_wordSize M_out M_written M_secondOne) H := hP
        have hD : va_D A (wdX7 q y M_thrown M_text M_size M_has M_hand M_layers M_kinds M_names M_nameSizes M_thicknesses M_spreads M_coppers M_copperAt M_presses M_pressFrom M_pressTo M_vias M_viaFrom M_viaTo M_shares M_lists M_hasRow M_rowLow M_rowHigh M_p M_s M_fault_4 M_lines M_word M_wordSize M_out M_written M_secondOne) := hD
        refine lv_goto (tgt := 165) hx hb dX7_firstWord_107 (by decide) ?_
        refine lv_goto (tgt := 5) hx hb dX7_firstWord_165 (by decide) ?_
        exact kK_5 v1 v2 M_text M_size M_p M_fault_4 _ _ _ hm hP hD hS (lv_sub hl [0, 1, 2] rfl)
    · have hm := ie_of hm h_1
      refine lv_iload hx hb dX7_firstWord_30 (lv_at hl 5 rfl) ?_
      refine lv_iload_n hx hb dX7_firstWord_32 rfl (lv_at hl 2 rfl) ?_
      obtain ⟨r_6, hc_7, hm⟩ := mb1_of hm
      refine call_si (wc := ([] : va_W)) (wr := [(q 0, .inr (7, [.int M_thrown, .ref (q 1), .int M_size, .int M_has, .int M_hand, .ref (q 2), .ref (q 3), .ref (q 4), .ref (q 5), .ref (q 6), .ref (q 7), .ref (q 8), .ref (q 9), .ref (q 10), .ref (q 11), .ref (q 12), .ref (q 13), .ref (q 14), .ref (q 15), .ref (q 16), .int M_lists, .ref (q 17), .ref (q 18), .ref (q 19), .int M_p, .int M_s, .int M_fault, .int M_lines, .long M_word, .int M_wordSize, .ref (q 20), .int M_written, .int M_secondOne])), (q 1, .inl (y 0, 3000, .inl M_text)), (q 2, .inl (y 0, 2, .inl M_layers)), (q 3, .inl (y 0, 160, .inl M_kinds)), (q 4, .inl (y 1, 160, .inr (.inl M_names))), (q 5, .inl (y 0, 160, .inl M_nameSizes)), (q 6, .inl (y 1, 160, .inr (.inl M_thicknesses))), (q 7, .inl (y 0, 160, .inl M_spreads)), (q 8, .inl (y 0, 2, .inl M_coppers)), (q 9, .inl (y 0, 64, .inl M_copperAt)), (q 10, .inl (y 0, 2, .inl M_presses)), (q 11, .inl (y 0, 44, .inl M_pressFrom)), (q 12, .inl (y 0, 44, .inl M_pressTo)), (q 13, .inl (y 0, 2, .inl M_vias)), (q 14, .inl (y 0, 80, .inl M_viaFrom)), (q 15, .inl (y 0, 80, .inl M_viaTo)), (q 16, .inl (y 0, 32, .inl M_shares)), (q 17, .inl (y 3, 640, .inl M_hasRow)), (q 18, .inl (y 1, 640, .inr (.inl M_rowLow))), (q 19, .inl (y 1, 640, .inr (.inl M_rowHigh))), (q 20, .inl (y 0, 6000, .inl M_out))]) (As := [.int v5, .int v2]) (rest := []) C (c_X7_letter l D y _ F hc_7) (va_cwS 2 hts gX7_firstWord_X7_letter rfl rfl rfl (by decide +kernel) ⟨Nat.le_of_ble_eq_true rfl, Nat.le_of_ble_eq_true rfl⟩) hK hP hD hS hA [] [0, 1, 2, 3, 4, 5, 6, 7, 8, 9, 10, 11, 12, 13, 14, 15, 16, 17, 18, 19, 20] rfl rfl rfl rfl rfl (by decide) rfl hl.1 (Nat.le_of_ble_eq_true rfl) dX7_firstWord_33 (fun H locs hP hD hS => ?_)
      have hP : va_P D vwCl (wdX7 q y M_thrown M_text M_size M_has M_hand M_layers M_kinds M_names M_nameSizes M_thicknesses M_spreads M_coppers M_copperAt M_presses M_pressFrom M_pressTo M_vias M_viaFrom M_viaTo M_shares M_lists M_hasRow M_rowLow M_rowHigh M_p M_s M_fault M_lines M_word M_wordSize M_out M_written M_secondOne) H := hP
      have hD : va_D A (wdX7 q y M_thrown M_text M_size M_has M_hand M_layers M_kinds M_names M_nameSizes M_thicknesses M_spreads M_coppers M_copperAt M_presses M_pressFrom M_pressTo M_vias M_viaFrom M_viaTo M_shares M_lists M_hasRow M_rowLow M_rowHigh M_p M_s M_fault M_lines M_word M_wordSize M_out M_written M_secondOne) := hD
      refine lv_istore (lv' := [(6, .int r_6), (0, .ref (q 0)), (1, .int v1), (2, .int v2), (3, .int v3), (4, .int v4), (5, .int v5)]) hx hb dX7_firstWord_36 hl (by decide) rfl (fun ls hl => ?_)
      refine lv_iload_n hx hb dX7_firstWord_38 rfl (lv_at hl 2 rfl) ?_
      refine lv_iload hx hb dX7_firstWord_39 (lv_at hl 6 rfl) ?_
      refine lv_ishr hx hb dX7_firstWord_41 ?_
      refine lv_iconst (v := (1 : Int32)) hx hb dX7_firstWord_42 (by decide) ?_
      refine lv_iand hx hb dX7_firstWord_43 ?_
      refine lv_iconst (v := (1 : Int32)) hx hb dX7_firstWord_44 (by decide) ?_
      refine lv_icmp_ne (tgt := 66) hx hb dX7_firstWord_45 (by decide) (fun h_8 => ?_) (fun h_8 => ?_)
      · have hm := ie_of hm h_8
        refine lv_iconst (v := (0 : Int32)) hx hb dX7_firstWord_66 (by decide) ?_
        exact k_X7_firstWord_67 C hA hK F (K_5 := K_5) kK_5 (K_23 := g_X7_firstWord_23 F K_5 n) ih v1 v2 v3 v4 v5 (0 : Int32) M_text M_size M_p M_fault _ _ _ hm hP hD hS (lv_sub hl [1, 2, 3, 4, 5, 6] rfl)
      · have hm := it_of hm h_8
        refine lv_iload hx hb dX7_firstWord_48 (lv_at hl 0 rfl) ?_
        refine lv_if_le (tgt := 66) hx hb dX7_firstWord_50 (by decide) (fun h_9 => ?_) (fun h_9 => ?_)
        · have hm := it_of hm h_9
          refine lv_iconst (v := (0 : Int32)) hx hb dX7_firstWord_66 (by decide) ?_
          exact k_X7_firstWord_67 C hA hK F (K_5 := K_5) kK_5 (K_23 := g_X7_firstWord_23 F K_5 n) ih v1 v2 v3 v4 v5 (0 : Int32) M_text M_size M_p M_fault _ _ _ hm hP hD hS (lv_sub hl [1, 2, 3, 4, 5, 6] rfl)
        · have hm := ie_of hm h_9
          refine lv_iload_n hx hb dX7_firstWord_53 rfl (lv_at hl 4 rfl) ?_
          refine lv_bipush (v := (96 : Int32)) hx hb dX7_firstWord_54 (by decide) ?_
          refine lv_iload hx hb dX7_firstWord_56 (lv_at hl 0 rfl) ?_
          refine lv_iadd hx hb dX7_firstWord_58 ?_
          refine lv_icmp_ne (tgt := 66) hx hb dX7_firstWord_59 (by decide) (fun h_10 => ?_) (fun h_10 => ?_)
          · have hm := ie_of hm h_10
            refine lv_iconst (v := (0 : Int32)) hx hb dX7_firstWord_66 (by decide) ?_
            exact k_X7_firstWord_67 C hA hK F (K_5 := K_5) kK_5 (K_23 := g_X7_firstWord_23 F K_5 n) ih v1 v2 v3 v4 v5 (0 : Int32) M_text M_size M_p M_fault _ _ _ hm hP hD hS (lv_sub hl [1, 2, 3, 4, 5, 6] rfl)
          · have hm := it_of hm h_10
            refine lv_iconst (v := (1 : Int32)) hx hb dX7_firstWord_62 (by decide) ?_
            refine lv_goto (tgt := 67) hx hb dX7_firstWord_63 (by decide) ?_
            exact k_X7_firstWord_67 C hA hK F (K_5 := K_5) kK_5 (K_23 := g_X7_firstWord_23 F K_5 n) ih v1 v2 v3 v4 v5 (1 : Int32) M_text M_size M_p M_fault _ _ _ hm hP hD hS (lv_sub hl [1, 2, 3, 4, 5, 6] rfl)
set_option maxHeartbeats 4000000 in
set_option maxRecDepth 100000 in
theorem k_X7_firstWord_5 {p : Program} {l : Launch} {e : Env} {s : State} {m : MethodId} {args : Array Value} {below : List Frame} {meth : Method} {c : Code} {D : va_G} {y : Nat → ClassId} {A : Nat → Prop} {q : Nat → Nat} {M_thrown : Int32} {M_has : Int32} {M_hand : Int32} {M_layers : Nat → Int32} {M_kinds : Nat → Int32} {M_names : Nat → Int64} {M_nameSizes : Nat → Int32} {M_thicknesses : Nat → Int64} {M_spreads : Nat → Int32} {M_coppers : Nat → Int32} {M_copperAt : Nat → Int32} {M_presses : Nat → Int32} {M_pressFrom : Nat → Int32} {M_pressTo : Nat → Int32} {M_vias : Nat → Int32} {M_viaFrom : Nat → Int32} {M_viaTo : Nat → Int32} {M_shares : Nat → Int32} {M_lists : Int32} {M_hasRow : Nat → Int32} {M_rowLow : Nat → Int64} {M_rowHigh : Nat → Int64} {M_s : Int32} {M_lines : Int32} {M_word : Int64} {M_wordSize : Int32} {M_out : Nat → Int32} {M_written : Int32} {M_secondOne : Int32} {z : Int32 × Int32 × Int32} (C : CX p s m args meth c wsX7_firstWord RX7 cX7_firstWord 8 (some .int)) (hA : ∀ q : Nat, s.heap.size ≤ q → A q) (hK : va_K D vwCl (tyl y) s) (F : Nat) :
    ∀ (n : Nat), ∀ (v1 : Int32) (v2 : Int32) (M_text : Nat → Int32) (M_size : Int32) (M_p : Int32) (M_fault : Int32) (H : Heap) (locs : List Loc) (ls : Array Slot), g_X7_firstWord_5 F n v1 v2 M_text M_size M_p M_fault = some z → va_P D vwCl (wdX7 q y M_thrown M_text M_size M_has M_hand M_layers M_kinds M_names M_nameSizes M_thicknesses M_spreads M_coppers M_copperAt M_presses M_pressFrom M_pressTo M_vias M_viaFrom M_viaTo M_shares M_lists M_hasRow M_rowLow M_rowHigh M_p M_s M_fault M_lines M_word M_wordSize M_out M_written M_secondOne) H → va_D A (wdX7 q y M_thrown M_text M_size M_has M_hand M_layers M_kinds M_names M_nameSizes M_thicknesses M_spreads M_coppers M_copperAt M_presses M_pressFrom M_pressTo M_vias M_viaFrom M_viaTo M_shares M_lists M_hasRow M_rowLow M_rowHigh M_p M_s M_fault M_lines M_word M_wordSize M_out M_written M_secondOne) → va_S A s.heap H locs → lv_has ls 8 [(0, .ref (q 0)), (1, .int v1), (2, .int v2)] → W p l e ({ frames := 3, cells := 0, slots := 0, locals := 69 } : Room) s m args below meth c H locs 0 0 (MQ below (QI D y A (z.1) (wdX7 q y M_thrown M_text M_size M_has M_hand M_layers M_kinds M_names M_nameSizes M_thicknesses M_spreads M_coppers M_copperAt M_presses M_pressFrom M_pressTo M_vias M_viaFrom M_viaTo M_shares M_lists M_hasRow M_rowLow M_rowHigh (z.2.1) M_s (z.2.2) M_lines M_word M_wordSize M_out M_written M_secondOne)) args s 0 0 A) (F0 m 5 ls []) := by
  obtain ⟨⟨hx, hb, hml, hown, hts⟩, hr, hlocks⟩ := id C
  intro n
  induction n with
  | zero =>
    intro v1 v2 M_text M_size M_p M_fault H locs ls hm
    rw [g_X7_firstWord_5_z] at hm
    cases hm
  | succ n ih =>
    intro v1 v2 M_text M_size M_p M_fault H locs ls hm hP hD hS hl
    rw [g_X7_firstWord_5_s] at hm
    refine lv_aload_n hx hb dX7_firstWord_5 rfl (lv_at hl 0 rfl) ?_
    obtain ⟨r_1, hc_2, hm⟩ := mb1_of hm
    refine call_vi (wc := (wdX7 q y M_thrown M_text M_size M_has M_hand M_layers M_kinds M_names M_nameSizes M_thicknesses M_spreads M_coppers M_copperAt M_presses M_pressFrom M_pressTo M_vias M_viaFrom M_viaTo M_shares M_lists M_hasRow M_rowLow M_rowHigh M_p M_s M_fault M_lines M_word M_wordSize M_out M_written M_secondOne)) (wr := []) (As := []) (rest := []) C (c_X7_good l D y q _ F hc_2) (cwV 0 hts gX7_firstWord_X7_good rfl rfl rfl (by decide +kernel) ⟨Nat.le_of_ble_eq_true rfl, Nat.le_of_ble_eq_true rfl⟩) hK hP hD hS hA [0, 1, 2, 3, 4, 5, 6, 7, 8, 9, 10, 11, 12, 13, 14, 15, 16, 17, 18, 19, 20] [] rfl rfl rfl rfl rfl (by decide) rfl rfl rfl rfl hl.1 (Nat.le_of_ble_eq_true rfl) dX7_firstWord_6 (fun H locs hP hD hS => ?_)
    have hP : va_P D vwCl (wdX7 q y M_thrown M_text M_size M_has M_hand M_layers M_kinds M_names M_nameSizes M_thicknesses M_spreads M_coppers M_copperAt M_presses M_pressFrom M_pressTo M_vias M_viaFrom M_viaTo M_shares M_lists M_hasRow M_rowLow M_rowHigh M_p M_s M_fault M_lines M_word M_wordSize M_out M_written M_secondOne) H := hP
    have hD : va_D A (wdX7 q y M_thrown M_text M_size M_has M_hand M_layers M_kinds M_names M_nameSizes M_thicknesses M_spreads M_coppers M_copperAt M_presses M_pressFrom M_pressTo M_vias M_viaFrom M_viaTo M_shares M_lists M_hasRow M_rowLow M_rowHigh M_p M_s M_fault M_lines M_word M_wordSize M_out M_written M_secondOne) := hD
    refine lv_if_eq (tgt := 168) hx hb dX7_firstWord_9 (by decide) (fun h_3 => ?_) (fun h_3 => ?_)
    · have hm := it_of hm h_3
      refine lv_iconst (v := (-1 : Int32)) hx hb dX7_firstWord_168 (by decide) ?_
      have hz := Option.some.inj hm
      subst hz
      exact end_i C hK hP hD hS dX7_firstWord_169
    · have hm := ie_of hm h_3
      refine lv_aload_n hx hb dX7_firstWord_12 rfl (lv_at hl 0 rfl) ?_
      obtain ⟨r_4, hc_5, hm⟩ := mb1_of hm
      refine call_vi (wc := (wdX7 q y M_thrown M_text M_size M_has M_hand M_layers M_kinds M_names M_nameSizes M_thicknesses M_spreads M_coppers M_copperAt M_presses M_pressFrom M_pressTo M_vias M_viaFrom M_viaTo M_shares M_lists M_hasRow M_rowLow M_rowHigh M_p M_s M_fault M_lines M_word M_wordSize M_out M_written M_secondOne)) (wr := []) (As := []) (rest := []) C (c_X7_c l D y q _ F hc_5) (cwV 0 hts gX7_firstWord_X7_c rfl rfl rfl (by decide +kernel) ⟨Nat.le_of_ble_eq_true rfl, Nat.le_of_ble_eq_true rfl⟩) hK hP hD hS hA [0, 1, 2, 3, 4, 5, 6, 7, 8, 9, 10, 11, 12, 13, 14, 15, 16, 17, 18, 19, 20] [] rfl rfl rfl rfl rfl (by decide) rfl rfl rfl rfl hl.1 (Nat.le_of_ble_eq_true rfl) dX7_firstWord_13 (fun H locs hP hD hS => ?_)
      have hP : va_P D vwCl (wdX7 q y M_thrown M_text M_size M_has M_hand M_layers M_kinds M_names M_nameSizes M_thicknesses M_spreads M_coppers M_copperAt M_presses M_pressFrom M_pressTo M_vias M_viaFrom M_viaTo M_shares M_lists M_hasRow M_rowLow M_rowHigh M_p M_s M_fault M_lines M_word M_wordSize M_out M_written M_secondOne) H := hP
      have hD : va_D A (wdX7 q y M_thrown M_text M_size M_has M_hand M_layers M_kinds M_names M_nameSizes M_thicknesses M_spreads M_coppers M_copperAt M_presses M_pressFrom M_pressTo M_vias M_viaFrom M_viaTo M_shares M_lists M_hasRow M_rowLow M_rowHigh M_p M_s M_fault M_lines M_word M_wordSize M_out M_written M_secondOne) := hD
      refine lv_istore_n (lv' := [(3, .int r_4), (0, .ref (q 0)), (1, .int v1), (2, .int v2)]) hx hb dX7_firstWord_16 rfl hl (by decide) rfl (fun ls hl => ?_)
      refine lv_iconst (v := (0 : Int32)) hx hb dX7_firstWord_17 (by decide) ?_
      refine lv_istore (lv' := [(4, .int (0 : Int32)), (3, .int r_4), (0, .ref (q 0)), (1, .int v1), (2, .int v2)]) hx hb dX7_firstWord_18 hl (by decide) rfl (fun ls hl => ?_)
      refine lv_iconst (v := (0 : Int32)) hx hb dX7_firstWord_20 (by decide) ?_
      refine lv_istore (lv' := [(5, .int (0 : Int32)), (4, .int (0 : Int32)), (3, .int r_4), (0, .ref (q 0)), (1, .int v1), (2, .int v2)]) hx hb dX7_firstWord_21 hl (by decide) rfl (fun ls hl => ?_)
      exact k_X7_firstWord_23 C hA hK F (K_5 := g_X7_firstWord_5 F n) ih F v1 v2 r_4 (0 : Int32) (0 : Int32) M_text M_size M_p M_fault _ _ _ hm hP hD hS (lv_sub hl [3, 4, 5, 2, 1, 0] rfl)
set_option maxHeartbeats 4000000 in
set_option maxRecDepth 100000 in
theorem c_X7_firstWord (l : Launch) (D : va_G) (y : Nat → ClassId) (q : Nat → Nat) (sz : Nat) (F : Nat) {M_thrown : Int32} {M_text : Nat → Int32} {M_size : Int32} {M_has : Int32} {M_hand : Int32} {M_layers : Nat → Int32} {M_kinds : Nat → Int32} {M_names : Nat → Int64} {M_nameSizes : Nat → Int32} {M_thicknesses : Nat → Int64} {M_spreads : Nat → Int32} {M_coppers : Nat → Int32} {M_copperAt : Nat → Int32} {M_presses : Nat → Int32} {M_pressFrom : Nat → Int32} {M_pressTo : Nat → Int32} {M_vias : Nat → Int32} {M_viaFrom : Nat → Int32} {M_viaTo : Nat → Int32} {M_shares : Nat → Int32} {M_lists : Int32} {M_hasRow : Nat → Int32} {M_rowLow : Nat → Int64} {M_rowHigh : Nat → Int64} {M_p : Int32} {M_s : Int32} {M_fault : Int32} {M_lines : Int32} {M_word : Int64} {M_wordSize : Int32} {M_out : Nat → Int32} {M_written : Int32} {M_secondOne : Int32} {z : Int32 × Int32 × Int32} (hm : f_X7_firstWord F M_text M_size M_p M_fault = some z) : Met l yX7_firstWord wsX7_firstWord ({ frames := 3, cells := 0, slots := 0, locals := 69 } : Room) (va_Pc [.ref (q 0)] (cP D y (wdX7 q y M_thrown M_text M_size M_has M_hand M_layers M_kinds M_names M_nameSizes M_thicknesses M_spreads M_coppers M_copperAt M_presses M_pressFrom M_pressTo M_vias M_viaFrom M_viaTo M_shares M_lists M_hasRow M_rowLow M_rowHigh M_p M_s M_fault M_lines M_word M_wordSize M_out M_written M_secondOne) sz)) (QI D y (va_A (wdX7 q y M_thrown M_text M_size M_has M_hand M_layers M_kinds M_names M_nameSizes M_thicknesses M_spreads M_coppers M_copperAt M_presses M_pressFrom M_pressTo M_vias M_viaFrom M_viaTo M_shares M_lists M_hasRow M_rowLow M_rowHigh M_p M_s M_fault M_lines M_word M_wordSize M_out M_written M_secondOne) sz) (z.1) (wdX7 q y M_thrown M_text M_size M_has M_hand M_layers M_kinds M_names M_nameSizes M_thicknesses M_spreads M_coppers M_copperAt M_presses M_pressFrom M_pressTo M_vias M_viaFrom M_viaTo M_shares M_lists M_hasRow M_rowLow M_rowHigh (z.2.1) M_s (z.2.2) M_lines M_word M_wordSize M_out M_written M_secondOne)) 0 0 (va_A (wdX7 q y M_thrown M_text M_size M_has M_hand M_layers M_kinds M_names M_nameSizes M_thicknesses M_spreads M_coppers M_copperAt M_presses M_pressFrom M_pressTo M_vias M_viaFrom M_viaTo M_shares M_lists M_hasRow M_rowLow M_rowHigh M_p M_s M_fault M_lines M_word M_wordSize M_out M_written M_secondOne) sz) := by
  refine met_of (own := RX7) (cc := cX7_firstWord) (maxL := 8) (ret := (some .int)) (by decide) rfl rfl (Nat.le_of_ble_eq_true rfl) ?_
  intro p e s m below meth c ls C hsz hK hP hD hA hS hl
  obtain ⟨⟨hx, hb, hml, hown, hts⟩, hr, hlocks⟩ := id C
  have hl : lv_has ls 8 [(0, .ref (q 0))] := hl
  generalize va_A (wdX7 q y M_thrown M_text M_size M_has M_hand M_layers M_kinds M_names M_nameSizes M_thicknesses M_spreads M_coppers M_copperAt M_presses M_pressFrom M_pressTo M_vias M_viaFrom M_viaTo M_shares M_lists M_hasRow M_rowLow M_rowHigh M_p M_s M_fault M_lines M_word M_wordSize M_out M_written M_secondOne) sz = A at hD hA hS ⊢
  generalize ([.ref (q 0)] : List Value).toArray = args at C hts ⊢
  unfold f_X7_firstWord at hm
  refine lv_bipush (v := (127 : Int32)) hx hb dX7_firstWord_0 (by decide) ?_
  refine lv_istore_n (lv' := [(1, .int (127 : Int32)), (0, .ref (q 0))]) hx hb dX7_firstWord_2 rfl hl (by decide) rfl (fun ls hl => ?_)
  refine lv_iconst (v := (0 : Int32)) hx hb dX7_firstWord_3 (by decide) ?_
  refine lv_istore_n (lv' := [(2, .int (0 : Int32)), (1, .int (127 : Int32)), (0, .ref (q 0))]) hx hb dX7_firstWord_4 rfl hl (by decide) rfl (fun ls hl => ?_)
  exact k_X7_firstWord_5 C hA hK F F (127 : Int32) (0 : Int32) M_text M_size M_p M_fault _ _ _ hm hP hD hS (lv_sub hl [2, 1, 0] rfl)
