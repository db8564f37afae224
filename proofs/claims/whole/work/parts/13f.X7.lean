def g_X7_row_39 (F : Nat) (v1 : Int32) (v2 : Int32) (v3 : Int64) (v5 : Int64) (st1 : Int32) (M_thrown : Int32) (M_hand : Int32) (M_kinds : Nat → Int32) (M_hasRow : Nat → Int32) (M_rowLow : Nat → Int64) (M_rowHigh : Nat → Int64) : Option (Int32 × Int32 × (Nat → Int32) × (Nat → Int64) × (Nat → Int64)) := (if st1 = 0 then mg (inb (((80 : Int32) * M_hand) + v2) 160) ((if (M_kinds ((((80 : Int32) * M_hand) + v2)).toNatClampNeg) = (4 : Int32) then some ((0 : Int32), st1, M_hasRow, M_rowLow, M_rowHigh) else mn (((80 : Int32) * v1) + v2) (fun v7_4 => mg (inb v7_4 640) ((if (M_hasRow (v7_4).toNatClampNeg) = 0 then mg (inb v7_4 640) (mg (inb v7_4 640) (mg (inb v7_4 640) (some ((1 : Int32), st1, (upd M_hasRow (v7_4).toNatClampNeg (vp_nar .boolean (1 : Int32))), (vp_updL M_rowLow (v7_4).toNatClampNeg v3), (vp_updL M_rowHigh (v7_4).toNatClampNeg v5))))) else some ((0 : Int32), st1, M_hasRow, M_rowLow, M_rowHigh)))))) else some ((0 : Int32), st1, M_hasRow, M_rowLow, M_rowHigh))
def f_X7_row (F : Nat) (v1 : Int32) (v2 : Int32) (v3 : Int64) (v5 : Int64) (M_thrown : Int32) (M_has : Int32) (M_hand : Int32) (M_layers : Nat → Int32) (M_kinds : Nat → Int32) (M_lists : Int32) (M_hasRow : Nat → Int32) (M_rowLow : Nat → Int64) (M_rowHigh : Nat → Int64) : Option (Int32 × Int32 × (Nat → Int32) × (Nat → Int64) × (Nat → Int64)) := mb1 (f_X7_isList F v1 M_lists) (fun r_1 => (if r_1 = 0 then g_X7_row_39 F v1 v2 v3 v5 (1 : Int32) M_thrown M_hand M_kinds M_hasRow M_rowLow M_rowHigh else mb1 (f_X7_isLayer F v2 M_has M_hand M_layers) (fun r_4 => (if r_4 = 0 then g_X7_row_39 F v1 v2 v3 v5 (1 : Int32) M_thrown M_hand M_kinds M_hasRow M_rowLow M_rowHigh else (if (lg_cmp v3 (0 : Int64)) < 0 then g_X7_row_39 F v1 v2 v3 v5 (2 : Int32) M_thrown M_hand M_kinds M_hasRow M_rowLow M_rowHigh else (if (lg_cmp v3 v5) ≤ 0 then g_X7_row_39 F v1 v2 v3 v5 (0 : Int32) M_thrown M_hand M_kinds M_hasRow M_rowLow M_rowHigh else g_X7_row_39 F v1 v2 v3 v5 (2 : Int32) M_thrown M_hand M_kinds M_hasRow M_rowLow M_rowHigh))))))
set_option maxRecDepth 20000 in
theorem n_X7_row_X7 : ∀ w ∈ wsX70, w ∈ wsX7_row := by decide +kernel
set_option maxRecDepth 20000 in
theorem w_X7_row_f72 : Cond.fieldLink RX7 72 "LayerStacksModel" "thrown" "I" ∈ wsX7_row := by decide +kernel
set_option maxRecDepth 20000 in
theorem w_X7_row_f16 : Cond.fieldLink RX7 16 "LayerStacksModel" "kinds" "[I" ∈ wsX7_row := by decide +kernel
set_option maxRecDepth 20000 in
theorem w_X7_row_f195 : Cond.fieldLink RX7 195 "LayerStacksModel" "hand" "I" ∈ wsX7_row := by decide +kernel
set_option maxRecDepth 20000 in
theorem w_X7_row_f59 : Cond.fieldLink RX7 59 "LayerStacksModel" "hasRow" "[Z" ∈ wsX7_row := by decide +kernel
set_option maxRecDepth 20000 in
theorem w_X7_row_f63 : Cond.fieldLink RX7 63 "LayerStacksModel" "rowLow" "[J" ∈ wsX7_row := by decide +kernel
set_option maxRecDepth 20000 in
theorem w_X7_row_f66 : Cond.fieldLink RX7 66 "LayerStacksModel" "rowHigh" "[J" ∈ wsX7_row := by decide +kernel
set_option maxHeartbeats 4000000 in
set_option maxRecDepth 100000 in
theorem k_X7_row_39 {p : Program} {l : Launch} {e : Env} {s : State} {m : MethodId} {args : Array Value} {below : List Frame} {meth : Method} {c : Code} {D : va_G} {y : Nat → ClassId} {A : Nat → Prop} {q : Nat → Nat} {M_text : Nat → Int32} {M_size : Int32} {M_has : Int32} {M_layers : Nat → Int32} {M_names : Nat → Int64} {M_nameSizes : Nat → Int32} {M_thicknesses : Nat → Int64} {M_spreads : Nat → Int32} {M_coppers : Nat → Int32} {M_copperAt : Nat → Int32} {M_presses : Nat → Int32} {M_pressFrom : Nat → Int32} {M_pressTo : Nat → Int32} {M_vias : Nat → Int32} {M_viaFrom : Nat → Int32} {M_viaTo : Nat → Int32} {M_shares : Nat → Int32} {M_lists : Int32} {M_p : Int32} {M_s : Int32} {M_fault : Int32} {M_lines : Int32} {M_word : Int64} {M_wordSize : Int32} {M_out : Nat → Int32} {M_written : Int32} {M_secondOne : Int32} {z : Int32 × Int32 × (Nat → Int32) × (Nat → Int64) × (Nat → Int64)} (C : CX p s m args meth c wsX7_row RX7 cX7_row 8 (some .boolean)) (hA : ∀ q : Nat, s.heap.size ≤ q → A q) (hK : va_K D vwCl (tyl y) s) (F : Nat) :
    ∀ (v1 : Int32) (v2 : Int32) (v3 : Int64) (v5 : Int64) (st1 : Int32) (M_thrown : Int32) (M_hand : Int32) (M_kinds : Nat → Int32) (M_hasRow : Nat → Int32) (M_rowLow : Nat → Int64) (M_rowHigh : Nat → Int64) (H : Heap) (locs : List Loc) (ls : Array Slot), g_X7_row_39 F v1 v2 v3 v5 st1 M_thrown M_hand M_kinds M_hasRow M_rowLow M_rowHigh = some z → va_P D vwCl (wdX7 q y M_thrown M_text M_size M_has M_hand M_layers M_kinds M_names M_nameSizes M_thicknesses M_spreads M_coppers M_copperAt M_presses M_pressFrom M_pressTo M_vias M_viaFrom M_viaTo M_shares M_lists M_hasRow M_rowLow M_rowHigh M_p M_s M_fault M_lines M_word M_wordSize M_out M_written M_secondOne) H → va_D A (wdX7 q y M_thrown M_text M_size M_has M_hand M_layers M_kinds M_names M_nameSizes M_thicknesses M_spreads M_coppers M_copperAt M_presses M_pressFrom M_pressTo M_vias M_viaFrom M_viaTo M_shares M_lists M_hasRow M_rowLow M_rowHigh M_p M_s M_fault M_lines M_word M_wordSize M_out M_written M_secondOne) → va_S A s.heap H locs → lv_has ls 8 [(0, .ref (q 0)), (1, .int v1), (2, .int v2), (3, .long v3), (5, .long v5)] → W p l e ({ frames := 1, cells := 0, slots := 0, locals := 21 } : Room) s m args below meth c H locs 0 0 (MQ below (QI D y A (z.1) (wdX7 q y (z.2.1) M_text M_size M_has M_hand M_layers M_kinds M_names M_nameSizes M_thicknesses M_spreads M_coppers M_copperAt M_presses M_pressFrom M_pressTo M_vias M_viaFrom M_viaTo M_shares M_lists (z.2.2.1) (z.2.2.2.1) (z.2.2.2.2) M_p M_s M_fault M_lines M_word M_wordSize M_out M_written M_secondOne)) args s 0 0 A) (F0 m 39 ls [.int st1, .ref (q 0)]) := by
  obtain ⟨⟨hx, hb, hml, hown, hts⟩, hr, hlocks⟩ := id C
  intro v1 v2 v3 v5 st1 M_thrown M_hand M_kinds M_hasRow M_rowLow M_rowHigh H locs ls hm hP hD hS hl
  unfold g_X7_row_39 at hm
  refine va_put (D := D) (ci := 7) (v := .int st1) (ty := .int) (C := RX7) (T := TX7) (N := 33) hx hb hts n_X7_row_X7 tyX7 tyX7_ok nmX7 hown hK hP hD hS 0 rfl rfl 0 (by decide) (hts _ w_X7_row_f72) (fun _ h9 => h9) rfl (by decide +kernel) rfl rfl (Nat.le_of_ble_eq_true rfl) dX7_row_39 (fun H locs hP hD hS => ?_)
  have hP : va_P D vwCl (wdX7 q y st1 M_text M_size M_has M_hand M_layers M_kinds M_names M_nameSizes M_thicknesses M_spreads M_coppers M_copperAt M_presses M_pressFrom M_pressTo M_vias M_viaFrom M_viaTo M_shares M_lists M_hasRow M_rowLow M_rowHigh M_p M_s M_fault M_lines M_word M_wordSize M_out M_written M_secondOne) H := hP
  have hD : va_D A (wdX7 q y st1 M_text M_size M_has M_hand M_layers M_kinds M_names M_nameSizes M_thicknesses M_spreads M_coppers M_copperAt M_presses M_pressFrom M_pressTo M_vias M_viaFrom M_viaTo M_shares M_lists M_hasRow M_rowLow M_rowHigh M_p M_s M_fault M_lines M_word M_wordSize M_out M_written M_secondOne) := hD
  refine lv_aload_n hx hb dX7_row_42 rfl (lv_at hl 0 rfl) ?_
  refine va_get (D := D) (ci := 7) (v := .int st1) (C := RX7) (T := TX7) (N := 33) hx hb hts n_X7_row_X7 hown hK hP 0 rfl rfl 0 (by decide) (hts _ w_X7_row_f72) (fun _ h9 => h9) rfl dX7_row_43 ?_
  refine lv_if_ne (tgt := 67) hx hb dX7_row_46 (by decide) (fun h_1 => ?_) (fun h_1 => ?_)
  · have hm := ie_of hm h_1
    refine lv_iconst (v := (0 : Int32)) hx hb dX7_row_67 (by decide) ?_
    have hz := Option.some.inj hm
    subst hz
    exact end_z C hK hP hD hS (show vp_nar .boolean (0 : Int32) = (0 : Int32) from by decide) dX7_row_68
  · have hm := it_of hm h_1
    refine lv_aload_n hx hb dX7_row_49 rfl (lv_at hl 0 rfl) ?_
    refine va_get (D := D) (ci := 7) (v := .ref (q 3)) (C := RX7) (T := TX7) (N := 33) hx hb hts n_X7_row_X7 hown hK hP 0 rfl rfl 6 (by decide) (hts _ w_X7_row_f16) (fun _ h9 => h9) rfl dX7_row_50 ?_
    refine lv_bipush (v := (80 : Int32)) hx hb dX7_row_53 (by decide) ?_
    refine lv_aload_n hx hb dX7_row_55 rfl (lv_at hl 0 rfl) ?_
    refine va_get (D := D) (ci := 7) (v := .int M_hand) (C := RX7) (T := TX7) (N := 33) hx hb hts n_X7_row_X7 hown hK hP 0 rfl rfl 4 (by decide) (hts _ w_X7_row_f195) (fun _ h9 => h9) rfl dX7_row_56 ?_
    refine lv_imul hx hb dX7_row_59 ?_
    refine lv_iload_n hx hb dX7_row_60 rfl (lv_at hl 2 rfl) ?_
    refine lv_iadd hx hb dX7_row_61 ?_
    obtain ⟨hg_2, hm⟩ := mg_of hm
    refine va_iald hx hb hK hP 3 0 rfl rfl hg_2 dX7_row_62 ?_
    refine lv_iconst (v := (4 : Int32)) hx hb dX7_row_63 (by decide) ?_
    refine lv_icmp_ne (tgt := 69) hx hb dX7_row_64 (by decide) (fun h_3 => ?_) (fun h_3 => ?_)
    · have hm := ie_of hm h_3
      refine lv_bipush (v := (80 : Int32)) hx hb dX7_row_69 (by decide) ?_
      refine lv_iload_n hx hb dX7_row_71 rfl (lv_at hl 1 rfl) ?_
      refine lv_imul hx hb dX7_row_72 ?_
      refine lv_iload_n hx hb dX7_row_73 rfl (lv_at hl 2 rfl) ?_
      refine lv_iadd hx hb dX7_row_74 ?_
      refine lv_topi (fun v7_4 ev7_4 => ?_)
      have hm := mn_of ev7_4 hm
      refine lv_istore (lv' := [(7, .int v7_4), (0, .ref (q 0)), (1, .int v1), (2, .int v2), (3, .long v3), (5, .long v5)]) hx hb dX7_row_75 hl (by decide) rfl (fun ls hl => ?_)
      refine lv_aload_n hx hb dX7_row_77 rfl (lv_at hl 1 rfl) ?_
      refine va_get (D := D) (ci := 7) (v := .ref (q 17)) (C := RX7) (T := TX7) (N := 33) hx hb hts n_X7_row_X7 hown hK hP 0 rfl rfl 21 (by decide) (hts _ w_X7_row_f59) (fun _ h9 => h9) rfl dX7_row_78 ?_
      refine lv_iload hx hb dX7_row_81 (lv_at hl 0 rfl) ?_
      obtain ⟨hg_5, hm⟩ := mg_of hm
      refine va_zald hx hb hK hP 17 3 rfl rfl hg_5 dX7_row_83 ?_
      refine lv_if_eq (tgt := 89) hx hb dX7_row_84 (by decide) (fun h_6 => ?_) (fun h_6 => ?_)
      · have hm := it_of hm h_6
        refine lv_aload_n hx hb dX7_row_89 rfl (lv_at hl 1 rfl) ?_
        refine va_get (D := D) (ci := 7) (v := .ref (q 17)) (C := RX7) (T := TX7) (N := 33) hx hb hts n_X7_row_X7 hown hK hP 0 rfl rfl 21 (by decide) (hts _ w_X7_row_f59) (fun _ h9 => h9) rfl dX7_row_90 ?_
        refine lv_iload hx hb dX7_row_93 (lv_at hl 0 rfl) ?_
        refine lv_iconst (v := (1 : Int32)) hx hb dX7_row_95 (by decide) ?_
        obtain ⟨hg_7, hm⟩ := mg_of hm
        refine va_zast hx hb hK hP hD hS 17 3 rfl rfl hg_7 dX7_row_96 (fun H locs hP hD hS => ?_)
        have hP : va_P D vwCl (wdX7 q y st1 M_text M_size M_has M_hand M_layers M_kinds M_names M_nameSizes M_thicknesses M_spreads M_coppers M_copperAt M_presses M_pressFrom M_pressTo M_vias M_viaFrom M_viaTo M_shares M_lists (upd M_hasRow (v7_4).toNatClampNeg (vp_nar .boolean (1 : Int32))) M_rowLow M_rowHigh M_p M_s M_fault M_lines M_word M_wordSize M_out M_written M_secondOne) H := hP
        have hD : va_D A (wdX7 q y st1 M_text M_size M_has M_hand M_layers M_kinds M_names M_nameSizes M_thicknesses M_spreads M_coppers M_copperAt M_presses M_pressFrom M_pressTo M_vias M_viaFrom M_viaTo M_shares M_lists (upd M_hasRow (v7_4).toNatClampNeg (vp_nar .boolean (1 : Int32))) M_rowLow M_rowHigh M_p M_s M_fault M_lines M_word M_wordSize M_out M_written M_secondOne) := hD
        refine lv_aload_n hx hb dX7_row_97 rfl (lv_at hl 1 rfl) ?_
        refine va_get (D := D) (ci := 7) (v := .ref (q 18)) (C := RX7) (T := TX7) (N := 33) hx hb hts n_X7_row_X7 hown hK hP 0 rfl rfl 22 (by decide) (hts _ w_X7_row_f63) (fun _ h9 => h9) rfl dX7_row_98 ?_
        refine lv_iload hx hb dX7_row_101 (lv_at hl 0 rfl) ?_
        refine lv_lload_n hx hb dX7_row_103 rfl (lv_at hl 4 rfl) ?_
        obtain ⟨hg_8, hm⟩ := mg_of hm
        refine va_last hx hb hK hP hD hS 18 1 rfl rfl hg_8 dX7_row_104 (fun H locs hP hD hS => ?_)
        have hP : va_P D vwCl (wdX7 q y st1 M_text M_size M_has M_hand M_layers M_kinds M_names M_nameSizes M_thicknesses M_spreads M_coppers M_copperAt M_presses M_pressFrom M_pressTo M_vias M_viaFrom M_viaTo M_shares M_lists (upd M_hasRow (v7_4).toNatClampNeg (vp_nar .boolean (1 : Int32))) (vp_updL M_rowLow (v7_4).toNatClampNeg v3) M_rowHigh M_p M_s M_fault M_lines M_word M_wordSize M_out M_written M_secondOne) H := hP
        have hD : va_D A (wdX7 q y st1 M_text M_size M_has M_hand M_layers M_kinds M_names M_nameSizes M_thicknesses M_spreads M_coppers M_copperAt M_presses M_pressFrom M_pressTo M_vias M_viaFrom M_viaTo M_shares M_lists (upd M_hasRow (v7_4).toNatClampNeg (vp_nar .boolean (1 : Int32))) (vp_updL M_rowLow (v7_4).toNatClampNeg v3) M_rowHigh M_p M_s M_fault M_lines M_word M_wordSize M_out M_written M_secondOne) := hD
        refine lv_aload_n hx hb dX7_row_105 rfl (lv_at hl 1 rfl) ?_
        refine va_get (D := D) (ci := 7) (v := .ref (q 19)) (C := RX7) (T := TX7) (N := 33) hx hb hts n_X7_row_X7 hown hK hP 0 rfl rfl 23 (by decide) (hts _ w_X7_row_f66) (fun _ h9 => h9) rfl dX7_row_106 ?_
        refine lv_iload hx hb dX7_row_109 (lv_at hl 0 rfl) ?_
        refine lv_lload hx hb dX7_row_111 (lv_at hl 5 rfl) ?_
        obtain ⟨hg_9, hm⟩ := mg_of hm
        refine va_last hx hb hK hP hD hS 19 1 rfl rfl hg_9 dX7_row_113 (fun H locs hP hD hS => ?_)
        have hP : va_P D vwCl (wdX7 q y st1 M_text M_size M_has M_hand M_layers M_kinds M_names M_nameSizes M_thicknesses M_spreads M_coppers M_copperAt M_presses M_pressFrom M_pressTo M_vias M_viaFrom M_viaTo M_shares M_lists (upd M_hasRow (v7_4).toNatClampNeg (vp_nar .boolean (1 : Int32))) (vp_updL M_rowLow (v7_4).toNatClampNeg v3) (vp_updL M_rowHigh (v7_4).toNatClampNeg v5) M_p M_s M_fault M_lines M_word M_wordSize M_out M_written M_secondOne) H := hP
        have hD : va_D A (wdX7 q y st1 M_text M_size M_has M_hand M_layers M_kinds M_names M_nameSizes M_thicknesses M_spreads M_coppers M_copperAt M_presses M_pressFrom M_pressTo M_vias M_viaFrom M_viaTo M_shares M_lists (upd M_hasRow (v7_4).toNatClampNeg (vp_nar .boolean (1 : Int32))) (vp_updL M_rowLow (v7_4).toNatClampNeg v3) (vp_updL M_rowHigh (v7_4).toNatClampNeg v5) M_p M_s M_fault M_lines M_word M_wordSize M_out M_written M_secondOne) := hD
        refine lv_iconst (v := (1 : Int32)) hx hb dX7_row_114 (by decide) ?_
        have hz := Option.some.inj hm
        subst hz
        exact end_z C hK hP hD hS (show vp_nar .boolean (1 : Int32) = (1 : Int32) from by decide) dX7_row_115
      · have hm := ie_of hm h_6
        refine lv_iconst (v := (0 : Int32)) hx hb dX7_row_87 (by decide) ?_
        have hz := Option.some.inj hm
        subst hz
        exact end_z C hK hP hD hS (show vp_nar .boolean (0 : Int32) = (0 : Int32) from by decide) dX7_row_88
    · have hm := it_of hm h_3
      refine lv_iconst (v := (0 : Int32)) hx hb dX7_row_67 (by decide) ?_
      have hz := Option.some.inj hm
      subst hz
      exact end_z C hK hP hD hS (show vp_nar .boolean (0 : Int32) = (0 : Int32) from by decide) dX7_row_68
set_option maxHeartbeats 4000000 in
set_option maxRecDepth 100000 in
theorem c_X7_row (l : Launch) (D : va_G) (y : Nat → ClassId) (q : Nat → Nat) (sz : Nat) (F : Nat) {v1 : Int32} {v2 : Int32} {v3 : Int64} {v5 : Int64} {M_thrown : Int32} {M_text : Nat → Int32} {M_size : Int32} {M_has : Int32} {M_hand : Int32} {M_layers : Nat → Int32} {M_kinds : Nat → Int32} {M_names : Nat → Int64} {M_nameSizes : Nat → Int32} {M_thicknesses : Nat → Int64} {M_spreads : Nat → Int32} {M_coppers : Nat → Int32} {M_copperAt : Nat → Int32} {M_presses : Nat → Int32} {M_pressFrom : Nat → Int32} {M_pressTo : Nat → Int32} {M_vias : Nat → Int32} {M_viaFrom : Nat → Int32} {M_viaTo : Nat → Int32} {M_shares : Nat → Int32} {M_lists : Int32} {M_hasRow : Nat → Int32} {M_rowLow : Nat → Int64} {M_rowHigh : Nat → Int64} {M_p : Int32} {M_s : Int32} {M_fault : Int32} {M_lines : Int32} {M_word : Int64} {M_wordSize : Int32} {M_out : Nat → Int32} {M_written : Int32} {M_secondOne : Int32} {z : Int32 × Int32 × (Nat → Int32) × (Nat → Int64) × (Nat → Int64)} (hm : f_X7_row F v1 v2 v3 v5 M_thrown M_has M_hand M_layers M_kinds M_lists M_hasRow M_rowLow M_rowHigh = some z) : Met l yX7_row wsX7_row ({ frames := 1, cells := 0, slots := 0, locals := 21 } : Room) (va_Pc [.ref (q 0), .int v1, .int v2, .long v3, .long v5] (cP D y (wdX7 q y M_thrown M_text M_size M_has M_hand M_layers M_kinds M_names M_nameSizes M_thicknesses M_spreads M_coppers M_copperAt M_presses M_pressFrom M_pressTo M_vias M_viaFrom M_viaTo M_shares M_lists M_hasRow M_rowLow M_rowHigh M_p M_s M_fault M_lines M_word M_wordSize M_out M_written M_secondOne) sz)) (QI D y (va_A (wdX7 q y M_thrown M_text M_size M_has M_hand M_layers M_kinds M_names M_nameSizes M_thicknesses M_spreads M_coppers M_copperAt M_presses M_pressFrom M_pressTo M_vias M_viaFrom M_viaTo M_shares M_lists M_hasRow M_rowLow M_rowHigh M_p M_s M_fault M_lines M_word M_wordSize M_out M_written M_secondOne) sz) (z.1) (wdX7 q y (z.2.1) M_text M_size M_has M_hand M_layers M_kinds M_names M_nameSizes M_thicknesses M_spreads M_coppers M_copperAt M_presses M_pressFrom M_pressTo M_vias M_viaFrom M_viaTo M_shares M_lists (z.2.2.1) (z.2.2.2.1) (z.2.2.2.2) M_p M_s M_fault M_lines M_word M_wordSize M_out M_written M_secondOne)) 0 0 (va_A (wdX7 q y M_thrown M_text M_size M_has M_hand M_layers M_kinds M_names M_nameSizes M_thicknesses M_spreads M_coppers M_copperAt M_presses M_pressFrom M_pressTo M_vias M_viaFrom M_viaTo M_shares M_lists M_hasRow M_rowLow M_rowHigh M_p M_s M_fault M_lines M_word M_wordSize M_out M_written M_secondOne) sz) := by
  refine met_of (own := RX7) (cc := cX7_row) (maxL := 8) (ret := (some .boolean)) (by decide) rfl rfl (Nat.le_of_ble_eq_true rfl) ?_
  intro p e s m below meth c ls C hsz hK hP hD hA hS hl
  obtain ⟨⟨hx, hb, hml, hown, hts⟩, hr, hlocks⟩ := id C
  have hl : lv_has ls 8 [(0, .ref (q 0)), (1, .int v1), (2, .int v2), (3, .long v3), (5, .long v5)] := hl
  generalize va_A (wdX7 q y M_thrown M_text M_size M_has M_hand M_layers M_kinds M_names M_nameSizes M_thicknesses M_spreads M_coppers M_copperAt M_presses M_pressFrom M_pressTo M_vias M_viaFrom M_viaTo M_shares M_lists M_hasRow M_rowLow M_rowHigh M_p M_s M_fault M_lines M_word M_wordSize M_out M_written M_secondOne) sz = A at hD hA hS ⊢
  generalize ([.ref (q 0), .int v1, .int v2, .long v3, .long v5] : List Value).toArray = args at C hts ⊢
  unfold f_X7_row at hm
  refine lv_aload_n hx hb dX7_row_0 rfl (lv_at hl 0 rfl) ?_
  refine lv_aload_n hx hb dX7_row_1 rfl (lv_at hl 0 rfl) ?_
  refine lv_iload_n hx hb dX7_row_2 rfl (lv_at hl 1 rfl) ?_
  obtain ⟨r_1, hc_2, hm⟩ := mb1_of hm
  refine call_vi (wc := (wdX7 q y M_thrown M_text M_size M_has M_hand M_layers M_kinds M_names M_nameSizes M_thicknesses M_spreads M_coppers M_copperAt M_presses M_pressFrom M_pressTo M_vias M_viaFrom M_viaTo M_shares M_lists M_hasRow M_rowLow M_rowHigh M_p M_s M_fault M_lines M_word M_wordSize M_out M_written M_secondOne)) (wr := []) (As := [.int v1]) (rest := [.ref (q 0)]) C (c_X7_isList l D y q _ F hc_2) (cwV 1 hts gX7_row_X7_isList rfl rfl rfl (by decide +kernel) ⟨Nat.le_of_ble_eq_true rfl, Nat.le_of_ble_eq_true rfl⟩) hK hP hD hS hA [0, 1, 2, 3, 4, 5, 6, 7, 8, 9, 10, 11, 12, 13, 14, 15, 16, 17, 18, 19, 20] [] rfl rfl rfl rfl rfl (by decide) rfl rfl rfl rfl hl.1 (Nat.le_of_ble_eq_true rfl) dX7_row_3 (fun H locs hP hD hS => ?_)
  have hP : va_P D vwCl (wdX7 q y M_thrown M_text M_size M_has M_hand M_layers M_kinds M_names M_nameSizes M_thicknesses M_spreads M_coppers M_copperAt M_presses M_pressFrom M_pressTo M_vias M_viaFrom M_viaTo M_shares M_lists M_hasRow M_rowLow M_rowHigh M_p M_s M_fault M_lines M_word M_wordSize M_out M_written M_secondOne) H := hP
  have hD : va_D A (wdX7 q y M_thrown M_text M_size M_has M_hand M_layers M_kinds M_names M_nameSizes M_thicknesses M_spreads M_coppers M_copperAt M_presses M_pressFrom M_pressTo M_vias M_viaFrom M_viaTo M_shares M_lists M_hasRow M_rowLow M_rowHigh M_p M_s M_fault M_lines M_word M_wordSize M_out M_written M_secondOne) := hD
  refine lv_if_eq (tgt := 17) hx hb dX7_row_6 (by decide) (fun h_3 => ?_) (fun h_3 => ?_)
  · have hm := it_of hm h_3
    refine lv_iconst (v := (1 : Int32)) hx hb dX7_row_17 (by decide) ?_
    refine lv_goto (tgt := 39) hx hb dX7_row_18 (by decide) ?_
    exact k_X7_row_39 C hA hK F v1 v2 v3 v5 (1 : Int32) M_thrown M_hand M_kinds M_hasRow M_rowLow M_rowHigh _ _ _ hm hP hD hS (lv_sub hl [0, 1, 2, 3, 4] rfl)
  · have hm := ie_of hm h_3
    refine lv_aload_n hx hb dX7_row_9 rfl (lv_at hl 0 rfl) ?_
    refine lv_iload_n hx hb dX7_row_10 rfl (lv_at hl 2 rfl) ?_
    obtain ⟨r_4, hc_5, hm⟩ := mb1_of hm
    refine call_vi (wc := (wdX7 q y M_thrown M_text M_size M_has M_hand M_layers M_kinds M_names M_nameSizes M_thicknesses M_spreads M_coppers M_copperAt M_presses M_pressFrom M_pressTo M_vias M_viaFrom M_viaTo M_shares M_lists M_hasRow M_rowLow M_rowHigh M_p M_s M_fault M_lines M_word M_wordSize M_out M_written M_secondOne)) (wr := []) (As := [.int v2]) (rest := [.ref (q 0)]) C (c_X7_isLayer l D y q _ F hc_5) (cwV 1 hts gX7_row_X7_isLayer rfl rfl rfl (by decide +kernel) ⟨Nat.le_of_ble_eq_true rfl, Nat.le_of_ble_eq_true rfl⟩) hK hP hD hS hA [0, 1, 2, 3, 4, 5, 6, 7, 8, 9, 10, 11, 12, 13, 14, 15, 16, 17, 18, 19, 20] [] rfl rfl rfl rfl rfl (by decide) rfl rfl rfl rfl hl.1 (Nat.le_of_ble_eq_true rfl) dX7_row_11 (fun H locs hP hD hS => ?_)
    have hP : va_P D vwCl (wdX7 q y M_thrown M_text M_size M_has M_hand M_layers M_kinds M_names M_nameSizes M_thicknesses M_spreads M_coppers M_copperAt M_presses M_pressFrom M_pressTo M_vias M_viaFrom M_viaTo M_shares M_lists M_hasRow M_rowLow M_rowHigh M_p M_s M_fault M_lines M_word M_wordSize M_out M_written M_secondOne) H := hP
    have hD : va_D A (wdX7 q y M_thrown M_text M_size M_has M_hand M_layers M_kinds M_names M_nameSizes M_thicknesses M_spreads M_coppers M_copperAt M_presses M_pressFrom M_pressTo M_vias M_viaFrom M_viaTo M_shares M_lists M_hasRow M_rowLow M_rowHigh M_p M_s M_fault M_lines M_word M_wordSize M_out M_written M_secondOne) := hD
    refine lv_if_ne (tgt := 21) hx hb dX7_row_14 (by decide) (fun h_6 => ?_) (fun h_6 => ?_)
    · have hm := ie_of hm h_6
      refine lv_lload_n hx hb dX7_row_21 rfl (lv_at hl 3 rfl) ?_
      refine lv_lconst (v := (0 : Int64)) hx hb dX7_row_22 (by decide) ?_
      refine W.lcmp hx hb dX7_row_23 ?_
      refine lv_if_lt (tgt := 34) hx hb dX7_row_24 (by decide) (fun h_7 => ?_) (fun h_7 => ?_)
      · have hm := it_of hm h_7
        refine lv_iconst (v := (2 : Int32)) hx hb dX7_row_34 (by decide) ?_
        refine lv_goto (tgt := 39) hx hb dX7_row_35 (by decide) ?_
        exact k_X7_row_39 C hA hK F v1 v2 v3 v5 (2 : Int32) M_thrown M_hand M_kinds M_hasRow M_rowLow M_rowHigh _ _ _ hm hP hD hS (lv_sub hl [0, 1, 2, 3, 4] rfl)
      · have hm := ie_of hm h_7
        refine lv_lload_n hx hb dX7_row_27 rfl (lv_at hl 3 rfl) ?_
        refine lv_lload hx hb dX7_row_28 (lv_at hl 4 rfl) ?_
        refine W.lcmp hx hb dX7_row_30 ?_
        refine lv_if_le (tgt := 38) hx hb dX7_row_31 (by decide) (fun h_8 => ?_) (fun h_8 => ?_)
        · have hm := it_of hm h_8
          refine lv_iconst (v := (0 : Int32)) hx hb dX7_row_38 (by decide) ?_
          exact k_X7_row_39 C hA hK F v1 v2 v3 v5 (0 : Int32) M_thrown M_hand M_kinds M_hasRow M_rowLow M_rowHigh _ _ _ hm hP hD hS (lv_sub hl [0, 1, 2, 3, 4] rfl)
        · have hm := ie_of hm h_8
          refine lv_iconst (v := (2 : Int32)) hx hb dX7_row_34 (by decide) ?_
          refine lv_goto (tgt := 39) hx hb dX7_row_35 (by decide) ?_
          exact k_X7_row_39 C hA hK F v1 v2 v3 v5 (2 : Int32) M_thrown M_hand M_kinds M_hasRow M_rowLow M_rowHigh _ _ _ hm hP hD hS (lv_sub hl [0, 1, 2, 3, 4] rfl)
    · have hm := it_of hm h_6
      refine lv_iconst (v := (1 : Int32)) hx hb dX7_row_17 (by decide) ?_
      refine lv_goto (tgt := 39) hx hb dX7_row_18 (by decide) ?_
      exact k_X7_row_39 C hA hK F v1 v2 v3 v5 (1 : Int32) M_thrown M_hand M_kinds M_hasRow M_rowLow M_rowHigh _ _ _ hm hP hD hS (lv_sub hl [0, 1, 2, 3, 4] rfl)
def g_X7_changesOf_82 (F : Nat) (K_4 : Int32 → Int32 → Int32 → Int32 → (Nat → Int32) → (Nat → Int32) → (Nat → Int64) → (Nat → Int32) → (Nat → Int64) → (Nat → Int64) → Option (Int32)) (v1 : Int32) (v2 : Int32) (v3 : Int32) (st0 : Int32) (M_hand : Int32) (M_layers : Nat → Int32) (M_kinds : Nat → Int32) (M_thicknesses : Nat → Int64) (M_hasRow : Nat → Int32) (M_rowLow : Nat → Int64) (M_rowHigh : Nat → Int64) : Option (Int32) := mg (inb (((80 : Int32) * M_hand) + v3) 160) ((if (M_kinds ((((80 : Int32) * M_hand) + v3)).toNatClampNeg) = (4 : Int32) then mn (v2 + (0 : Int32)) (fun v2_3 => mn (v3 + (1 : Int32)) (fun v3_4 => K_4 v1 v2_3 v3_4 M_hand M_layers M_kinds M_thicknesses M_hasRow M_rowLow M_rowHigh)) else (if st0 = 0 then mn (v2 + (1 : Int32)) (fun v2_8 => mn (v3 + (1 : Int32)) (fun v3_9 => K_4 v1 v2_8 v3_9 M_hand M_layers M_kinds M_thicknesses M_hasRow M_rowLow M_rowHigh)) else mn (v2 + (0 : Int32)) (fun v2_6 => mn (v3 + (1 : Int32)) (fun v3_7 => K_4 v1 v2_6 v3_7 M_hand M_layers M_kinds M_thicknesses M_hasRow M_rowLow M_rowHigh)))))
def g_X7_changesOf_4 (F : Nat) : Nat → Int32 → Int32 → Int32 → Int32 → (Nat → Int32) → (Nat → Int32) → (Nat → Int64) → (Nat → Int32) → (Nat → Int64) → (Nat → Int64) → Option (Int32)
  | 0, _, _, _, _, _, _, _, _, _, _ => none
  | n + 1, v1, v2, v3, M_hand, M_layers, M_kinds, M_thicknesses, M_hasRow, M_rowLow, M_rowHigh => mg (inb M_hand 2) ((if (M_layers (M_hand).toNatClampNeg) ≤ v3 then some v2 else mn (((80 : Int32) * v1) + v3) (fun v4_3 => mg (inb (((80 : Int32) * M_hand) + v3) 160) (mn (M_thicknesses ((((80 : Int32) * M_hand) + v3)).toNatClampNeg) (fun v5_5 => mg (inb v4_3 640) ((if (M_hasRow (v4_3).toNatClampNeg) = 0 then g_X7_changesOf_82 F (g_X7_changesOf_4 F n) v1 v2 v3 (0 : Int32) M_hand M_layers M_kinds M_thicknesses M_hasRow M_rowLow M_rowHigh else mg (inb v4_3 640) ((if (lg_cmp v5_5 (M_rowLow (v4_3).toNatClampNeg)) < 0 then g_X7_changesOf_82 F (g_X7_changesOf_4 F n) v1 v2 v3 (0 : Int32) M_hand M_layers M_kinds M_thicknesses M_hasRow M_rowLow M_rowHigh else mg (inb v4_3 640) ((if 0 < (lg_cmp v5_5 (M_rowHigh (v4_3).toNatClampNeg)) then g_X7_changesOf_82 F (g_X7_changesOf_4 F n) v1 v2 v3 (0 : Int32) M_hand M_layers M_kinds M_thicknesses M_hasRow M_rowLow M_rowHigh else g_X7_changesOf_82 F (g_X7_changesOf_4 F n) v1 v2 v3 (1 : Int32) M_hand M_layers M_kinds M_thicknesses M_hasRow M_rowLow M_rowHigh)))))))))))
theorem g_X7_changesOf_4_z (F : Nat) (v1 : Int32) (v2 : Int32) (v3 : Int32) (M_hand : Int32) (M_layers : Nat → Int32) (M_kinds : Nat → Int32) (M_thicknesses : Nat → Int64) (M_hasRow : Nat → Int32) (M_rowLow : Nat → Int64) (M_rowHigh : Nat → Int64) : g_X7_changesOf_4 F 0 v1 v2 v3 M_hand M_layers M_kinds M_thicknesses M_hasRow M_rowLow M_rowHigh = none := rfl
theorem g_X7_changesOf_4_s (F : Nat) (n : Nat) (v1 : Int32) (v2 : Int32) (v3 : Int32) (M_hand : Int32) (M_layers : Nat → Int32) (M_kinds : Nat → Int32) (M_thicknesses : Nat → Int64) (M_hasRow : Nat → Int32) (M_rowLow : Nat → Int64) (M_rowHigh : Nat → Int64) : g_X7_changesOf_4 F (n + 1) v1 v2 v3 M_hand M_layers M_kinds M_thicknesses M_hasRow M_rowLow M_rowHigh = mg (inb M_hand 2) ((if (M_layers (M_hand).toNatClampNeg) ≤ v3 then some v2 else mn (((80 : Int32) * v1) + v3) (fun v4_3 => mg (inb (((80 : Int32) * M_hand) + v3) 160) (mn (M_thicknesses ((((80 : Int32) * M_hand) + v3)).toNatClampNeg) (fun v5_5 => mg (inb v4_3 640) ((if (M_hasRow (v4_3).toNatClampNeg) = 0 then g_X7_changesOf_82 F (g_X7_changesOf_4 F n) v1 v2 v3 (0 : Int32) M_hand M_layers M_kinds M_thicknesses M_hasRow M_rowLow M_rowHigh else mg (inb v4_3 640) ((if (lg_cmp v5_5 (M_rowLow (v4_3).toNatClampNeg)) < 0 then g_X7_changesOf_82 F (g_X7_changesOf_4 F n) v1 v2 v3 (0 : Int32) M_hand M_layers M_kinds M_thicknesses M_hasRow M_rowLow M_rowHigh else mg (inb v4_3 640) ((if 0 < (lg_cmp v5_5 (M_rowHigh (v4_3).toNatClampNeg)) then g_X7_changesOf_82 F (g_X7_changesOf_4 F n) v1 v2 v3 (0 : Int32) M_hand M_layers M_kinds M_thicknesses M_hasRow M_rowLow M_rowHigh else g_X7_changesOf_82 F (g_X7_changesOf_4 F n) v1 v2 v3 (1 : Int32) M_hand M_layers M_kinds M_thicknesses M_hasRow M_rowLow M_rowHigh))))))))))) := rfl
def f_X7_changesOf (F : Nat) (v1 : Int32) (M_hand : Int32) (M_layers : Nat → Int32) (M_kinds : Nat → Int32) (M_thicknesses : Nat → Int64) (M_hasRow : Nat → Int32) (M_rowLow : Nat → Int64) (M_rowHigh : Nat → Int64) : Option (Int32) := g_X7_changesOf_4 F F v1 (0 : Int32) (0 : Int32) M_hand M_layers M_kinds M_thicknesses M_hasRow M_rowLow M_rowHigh
set_option maxRecDepth 20000 in
theorem n_X7_changesOf_X7 : ∀ w ∈ wsX70, w ∈ wsX7_changesOf := by decide +kernel
set_option maxRecDepth 20000 in
theorem w_X7_changesOf_f13 : Cond.fieldLink RX7 13 "LayerStacksModel" "layers" "[I" ∈ wsX7_changesOf := by decide +kernel
set_option maxRecDepth 20000 in
theorem w_X7_changesOf_f195 : Cond.fieldLink RX7 195 "LayerStacksModel" "hand" "I" ∈ wsX7_changesOf := by decide +kernel
set_option maxRecDepth 20000 in
theorem w_X7_changesOf_f26 : Cond.fieldLink RX7 26 "LayerStacksModel" "thicknesses" "[J" ∈ wsX7_changesOf := by decide +kernel
set_option maxRecDepth 20000 in
theorem w_X7_changesOf_f59 : Cond.fieldLink RX7 59 "LayerStacksModel" "hasRow" "[Z" ∈ wsX7_changesOf := by decide +kernel
set_option maxRecDepth 20000 in
theorem w_X7_changesOf_f63 : Cond.fieldLink RX7 63 "LayerStacksModel" "rowLow" "[J" ∈ wsX7_changesOf := by decide +kernel
set_option maxRecDepth 20000 in
theorem w_X7_changesOf_f66 : Cond.fieldLink RX7 66 "LayerStacksModel" "rowHigh" "[J" ∈ wsX7_changesOf := by decide +kernel
set_option maxRecDepth 20000 in
theorem w_X7_changesOf_f16 : Cond.fieldLink RX7 16 "LayerStacksModel" "kinds" "[I" ∈ wsX7_changesOf := by decide +kernel
set_option maxHeartbeats 4000000 in
set_option maxRecDepth 100000 in
theorem k_X7_changesOf_82 {p : Program} {l : Launch} {e : Env} {s : State} {m : MethodId} {args : Array Value} {below : List Frame} {meth : Method} {c : Code} {D : va_G} {y : Nat → ClassId} {A : Nat → Prop} {q : Nat → Nat} {M_thrown : Int32} {M_text : Nat → Int32} {M_size : Int32} {M_has : Int32} {M_names : Nat → Int64} {M_nameSizes : Nat → Int32} {M_spreads : Nat → Int32} {M_coppers : Nat → Int32} {M_copperAt : Nat → Int32} {M_presses : Nat → Int32} {M_pressFrom : Nat → Int32} {M_pressTo : Nat → Int32} {M_vias : Nat → Int32} {M_viaFrom : Nat → Int32} {M_viaTo : Nat → Int32} {M_shares : Nat → Int32} {M_lists : Int32} {M_p : Int32} {M_s : Int32} {M_fault : Int32} {M_lines : Int32} {M_word : Int64} {M_wordSize : Int32} {M_out : Nat → Int32} {M_written : Int32} {M_secondOne : Int32} {z : Int32} (C : CX p s m args meth c wsX7_changesOf RX7 cX7_changesOf 8 (some .int)) (hA : ∀ q : Nat, s.heap.size ≤ q → A q) (hK : va_K D vwCl (tyl y) s) (F : Nat) {K_4 : Int32 → Int32 → Int32 → Int32 → (Nat → Int32) → (Nat → Int32) → (Nat → Int64) → (Nat → Int32) → (Nat → Int64) → (Nat → Int64) → Option (Int32)} (kK_4 : ∀ (v1 : Int32) (v2 : Int32) (v3 : Int32) (M_hand : Int32) (M_layers : Nat → Int32) (M_kinds : Nat → Int32) (M_thicknesses : Nat → Int64) (M_hasRow : Nat → Int32) (M_rowLow : Nat → Int64) (M_rowHigh : Nat → Int64) (H : Heap) (locs : List Loc) (ls : Array Slot), K_4 v1 v2 v3 M_hand M_layers M_kinds M_thicknesses M_hasRow M_rowLow M_rowHigh = some z → va_P D vwCl (wdX7 q y M_thrown M_text M_size M_has M_hand M_layers M_kinds M_names M_nameSizes M_thicknesses M_spreads M_coppers M_copperAt M_presses M_pressFrom M_pressTo M_vias M_viaFrom M_viaTo M_shares M_lists M_hasRow M_rowLow M_rowHigh M_p M_s M_fault M_lines M_word M_wordSize M_out M_written M_secondOne) H → va_D A (wdX7 q y M_thrown M_text M_size M_has M_hand M_layers M_kinds M_names M_nameSizes M_thicknesses M_spreads M_coppers M_copperAt M_presses M_pressFrom M_pressTo M_vias M_viaFrom M_viaTo M_shares M_lists M_hasRow M_rowLow M_rowHigh M_p M_s M_fault M_lines M_word M_wordSize M_out M_written M_secondOne) → va_S A s.heap H locs → lv_has ls 8 [(0, .ref (q 0)), (1, .int v1), (2, .int v2), (3, .int v3)] → W p l e ({ frames := 0, cells := 0, slots := 0, locals := 0 } : Room) s m args below meth c H locs 0 0 (MQ below (QI D y A (z) (wdX7 q y M_thrown M_text M_size M_has M_hand M_layers M_kinds M_names M_nameSizes M_thicknesses M_spreads M_coppers M_copperAt M_presses M_pressFrom M_pressTo M_vias M_viaFrom M_viaTo M_shares M_lists M_hasRow M_rowLow M_rowHigh M_p M_s M_fault M_lines M_word M_wordSize M_out M_written M_secondOne)) args s 0 0 A) (F0 m 4 ls [])) :
    ∀ (v1 : Int32) (v2 : Int32) (v3 : Int32) (st0 : Int32) (M_hand : Int32) (M_layers : Nat → Int32) (M_kinds : Nat → Int32) (M_thicknesses : Nat → Int64) (M_hasRow : Nat → Int32) (M_rowLow : Nat → Int64) (M_rowHigh : Nat → Int64) (H : Heap) (locs : List Loc) (ls : Array Slot), g_X7_changesOf_82 F K_4 v1 v2 v3 st0 M_hand M_layers M_kinds M_thicknesses M_hasRow M_rowLow M_rowHigh = some z → va_P D vwCl (wdX7 q y M_thrown M_text M_size M_has M_hand M_layers M_kinds M_names M_nameSizes M_thicknesses M_spreads M_coppers M_copperAt M_presses M_pressFrom M_pressTo M_vias M_viaFrom M_viaTo M_shares M_lists M_hasRow M_rowLow M_rowHigh M_p M_s M_fault M_lines M_word M_wordSize M_out M_written M_secondOne) H → va_D A (wdX7 q y M_thrown M_text M_size M_has M_hand M_layers M_kinds M_names M_nameSizes M_thicknesses M_spreads M_coppers M_copperAt M_presses M_pressFrom M_pressTo M_vias M_viaFrom M_viaTo M_shares M_lists M_hasRow M_rowLow M_rowHigh M_p M_s M_fault M_lines M_word M_wordSize M_out M_written M_secondOne) → va_S A s.heap H locs → lv_has ls 8 [(0, .ref (q 0)), (1, .int v1), (2, .int v2), (3, .int v3)] → W p l e ({ frames := 0, cells := 0, slots := 0, locals := 0 } : Room) s m args below meth c H locs 0 0 (MQ below (QI D y A (z) (wdX7 q y M_thrown M_text M_size M_has M_hand M_layers M_kinds M_names M_nameSizes M_thicknesses M_spreads M_coppers M_copperAt M_presses M_pressFrom M_pressTo M_vias M_viaFrom M_viaTo M_shares M_lists M_hasRow M_rowLow M_rowHigh M_p M_s M_fault M_lines M_word M_wordSize M_out M_written M_secondOne)) args s 0 0 A) (F0 m 82 ls [.int st0]) := by
  obtain ⟨⟨hx, hb, hml, hown, hts⟩, hr, hlocks⟩ := id C
  intro v1 v2 v3 st0 M_hand M_layers M_kinds M_thicknesses M_hasRow M_rowLow M_rowHigh H locs ls hm hP hD hS hl
  unfold g_X7_changesOf_82 at hm
  refine lv_istore (lv' := [(7, .int st0), (0, .ref (q 0)), (1, .int v1), (2, .int v2), (3, .int v3)]) hx hb dX7_changesOf_82 hl (by decide) rfl (fun ls hl => ?_)
  refine lv_iload_n hx hb dX7_changesOf_84 rfl (lv_at hl 3 rfl) ?_
  refine lv_aload_n hx hb dX7_changesOf_85 rfl (lv_at hl 1 rfl) ?_
  refine va_get (D := D) (ci := 7) (v := .ref (q 3)) (C := RX7) (T := TX7) (N := 33) hx hb hts n_X7_changesOf_X7 hown hK hP 0 rfl rfl 6 (by decide) (hts _ w_X7_changesOf_f16) (fun _ h9 => h9) rfl dX7_changesOf_86 ?_
  refine lv_bipush (v := (80 : Int32)) hx hb dX7_changesOf_89 (by decide) ?_
  refine lv_aload_n hx hb dX7_changesOf_91 rfl (lv_at hl 1 rfl) ?_
  refine va_get (D := D) (ci := 7) (v := .int M_hand) (C := RX7) (T := TX7) (N := 33) hx hb hts n_X7_changesOf_X7 hown hK hP 0 rfl rfl 4 (by decide) (hts _ w_X7_changesOf_f195) (fun _ h9 => h9) rfl dX7_changesOf_92 ?_
  refine lv_imul hx hb dX7_changesOf_95 ?_
  refine lv_iload_n hx hb dX7_changesOf_96 rfl (lv_at hl 4 rfl) ?_
  refine lv_iadd hx hb dX7_changesOf_97 ?_
  obtain ⟨hg_1, hm⟩ := mg_of hm
  refine va_iald hx hb hK hP 3 0 rfl rfl hg_1 dX7_changesOf_98 ?_
  refine lv_iconst (v := (4 : Int32)) hx hb dX7_changesOf_99 (by decide) ?_
  refine lv_icmp_eq (tgt := 112) hx hb dX7_changesOf_100 (by decide) (fun h_2 => ?_) (fun h_2 => ?_)
  · have hm := it_of hm h_2
    refine lv_iconst (v := (0 : Int32)) hx hb dX7_changesOf_112 (by decide) ?_
    refine lv_iadd hx hb dX7_changesOf_113 ?_
    refine lv_topi (fun v2_3 ev2_3 => ?_)
    have hm := mn_of ev2_3 hm
    refine lv_istore_n (lv' := [(2, .int v2_3), (7, .int st0), (0, .ref (q 0)), (1, .int v1), (3, .int v3)]) hx hb dX7_changesOf_114 rfl hl (by decide) rfl (fun ls hl => ?_)
    obtain ⟨v3_4, ev3_4⟩ : ∃ y9 : Int32, y9 = (v3 + (1 : Int32)) := ⟨_, rfl⟩
    have hm := mn_of ev3_4 hm
    refine lv_iinc (v := v3_4) (lv' := [(3, .int v3_4), (2, .int v2_3), (7, .int st0), (0, .ref (q 0)), (1, .int v1)]) hx hb dX7_changesOf_115 hl (k := 4) rfl (by rw [ev3_4]; rfl) (by decide) rfl (fun ls hl => ?_)
    refine lv_goto (tgt := 4) hx hb dX7_changesOf_118 (by decide) ?_
    exact kK_4 v1 v2_3 v3_4 M_hand M_layers M_kinds M_thicknesses M_hasRow M_rowLow M_rowHigh _ _ _ hm hP hD hS (lv_sub hl [3, 4, 1, 0] rfl)
  · have hm := ie_of hm h_2
    refine lv_iload hx hb dX7_changesOf_103 (lv_at hl 0 rfl) ?_
    refine lv_if_ne (tgt := 112) hx hb dX7_changesOf_105 (by decide) (fun h_5 => ?_) (fun h_5 => ?_)
    · have hm := ie_of hm h_5
      refine lv_iconst (v := (0 : Int32)) hx hb dX7_changesOf_112 (by decide) ?_
      refine lv_iadd hx hb dX7_changesOf_113 ?_
      refine lv_topi (fun v2_6 ev2_6 => ?_)
      have hm := mn_of ev2_6 hm
      refine lv_istore_n (lv' := [(2, .int v2_6), (7, .int st0), (0, .ref (q 0)), (1, .int v1), (3, .int v3)]) hx hb dX7_changesOf_114 rfl hl (by decide) rfl (fun ls hl => ?_)
      obtain ⟨v3_7, ev3_7⟩ : ∃ y9 : Int32, y9 = (v3 + (1 : Int32)) := ⟨_, rfl⟩
      have hm := mn_of ev3_7 hm
      refine lv_iinc (v := v3_7) (lv' := [(3, .int v3_7), (2, .int v2_6), (7, .int st0), (0, .ref (q 0)), (1, .int v1)]) hx hb dX7_changesOf_115 hl (k := 4) rfl (by rw [ev3_7]; rfl) (by decide) rfl (fun ls hl => ?_)
      refine lv_goto (tgt := 4) hx hb dX7_changesOf_118 (by decide) ?_
      exact kK_4 v1 v2_6 v3_7 M_hand M_layers M_kinds M_thicknesses M_hasRow M_rowLow M_rowHigh _ _ _ hm hP hD hS (lv_sub hl [3, 4, 1, 0] rfl)
    · have hm := it_of hm h_5
      refine lv_iconst (v := (1 : Int32)) hx hb dX7_changesOf_108 (by decide) ?_
      refine lv_goto (tgt := 113) hx hb dX7_changesOf_109 (by decide) ?_
      refine lv_iadd hx hb dX7_changesOf_113 ?_
      refine lv_topi (fun v2_8 ev2_8 => ?_)
      have hm := mn_of ev2_8 hm
      refine lv_istore_n (lv' := [(2, .int v2_8), (7, .int st0), (0, .ref (q 0)), (1, .int v1), (3, .int v3)]) hx hb dX7_changesOf_114 rfl hl (by decide) rfl (fun ls hl => ?_)
      obtain ⟨v3_9, ev3_9⟩ : ∃ y9 : Int32, y9 = (v3 + (1 : Int32)) := ⟨_, rfl⟩
      have hm := mn_of ev3_9 hm
      refine lv_iinc (v := v3_9) (lv' := [(3, .int v3_9), (2, .int v2_8), (7, .int st0), (0, .ref (q 0)), (1, .int v1)]) hx hb dX7_changesOf_115 hl (k := 4) rfl (by rw [ev3_9]; rfl) (by decide) rfl (fun ls hl => ?_)
      refine lv_goto (tgt := 4) hx hb dX7_changesOf_118 (by decide) ?_
      exact kK_4 v1 v2_8 v3_9 M_hand M_layers M_kinds M_thicknesses M_hasRow M_rowLow M_rowHigh _ _ _ hm hP hD hS (lv_sub hl [3, 4, 1, 0] rfl)
set_option maxHeartbeats 4000000 in
set_option maxRecDepth 100000 in
theorem k_X7_changesOf_4 {p : Program} {l : Launch} {e : Env} {s : State} {m : MethodId} {args : Array Value} {below : List Frame} {meth : Method} {c : Code} {D : va_G} {y : Nat → ClassId} {A : Nat → Prop} {q : Nat → Nat} {M_thrown : Int32} {M_text : Nat → Int32} {M_size : Int32} {M_has : Int32} {M_names : Nat → Int64} {M_nameSizes : Nat → Int32} {M_spreads : Nat → Int32} {M_coppers : Nat → Int32} {M_copperAt : Nat → Int32} {M_presses : Nat → Int32} {M_pressFrom : Nat → Int32} {M_pressTo : Nat → Int32} {M_vias : Nat → Int32} {M_viaFrom : Nat → Int32} {M_viaTo : Nat → Int32} {M_shares : Nat → Int32} {M_lists : Int32} {M_p : Int32} {M_s : Int32} {M_fault : Int32} {M_lines : Int32} {M_word : Int64} {M_wordSize : Int32} {M_out : Nat → Int32} {M_written : Int32} {M_secondOne : Int32} {z : Int32} (C : CX p s m args meth c wsX7_changesOf RX7 cX7_changesOf 8 (some .int)) (hA : ∀ q : Nat, s.heap.size ≤ q → A q) (hK : va_K D vwCl (tyl y) s) (F : Nat) :
    ∀ (n : Nat), ∀ (v1 : Int32) (v2 : Int32) (v3 : Int32) (M_hand : Int32) (M_layers : Nat → Int32) (M_kinds : Nat → Int32) (M_thicknesses : Nat → Int64) (M_hasRow : Nat → Int32) (M_rowLow : Nat → Int64) (M_rowHigh : Nat → Int64) (H : Heap) (locs : List Loc) (ls : Array Slot), g_X7_changesOf_4 F n v1 v2 v3 M_hand M_layers M_kinds M_thicknesses M_hasRow M_rowLow M_rowHigh = some z → va_P D vwCl (wdX7 q y M_thrown M_text M_size M_has M_hand M_layers M_kinds M_names M_nameSizes M_thicknesses M_spreads M_coppers M_copperAt M_presses M_pressFrom M_pressTo M_vias M_viaFrom M_viaTo M_shares M_lists M_hasRow M_rowLow M_rowHigh M_p M_s M_fault M_lines M_word M_wordSize M_out M_written M_secondOne) H → va_D A (wdX7 q y M_thrown M_text M_size M_has M_hand M_layers M_kinds M_names M_nameSizes M_thicknesses M_spreads M_coppers M_copperAt M_presses M_pressFrom M_pressTo M_vias M_viaFrom M_viaTo M_shares M_lists M_hasRow M_rowLow M_rowHigh M_p M_s M_fault M_lines M_word M_wordSize M_out M_written M_secondOne) → va_S A s.heap H locs → lv_has ls 8 [(0, .ref (q 0)), (1, .int v1), (2, .int v2), (3, .int v3)] → W p l e ({ frames := 0, cells := 0, slots := 0, locals := 0 } : Room) s m args below meth c H locs 0 0 (MQ below (QI D y A (z) (wdX7 q y M_thrown M_text M_size M_has M_hand M_layers M_kinds M_names M_nameSizes M_thicknesses M_spreads M_coppers M_copperAt M_presses M_pressFrom M_pressTo M_vias M_viaFrom M_viaTo M_shares M_lists M_hasRow M_rowLow M_rowHigh M_p M_s M_fault M_lines M_word M_wordSize M_out M_written M_secondOne)) args s 0 0 A) (F0 m 4 ls []) := by
  obtain ⟨⟨hx, hb, hml, hown, hts⟩, hr, hlocks⟩ := id C
  intro n
  induction n with
  | zero =>
    intro v1 v2 v3 M_hand M_layers M_kinds M_thicknesses M_hasRow M_rowLow M_rowHigh H locs ls hm
    rw [g_X7_changesOf_4_z] at hm
    cases hm
  | succ n ih =>
    intro v1 v2 v3 M_hand M_layers M_kinds M_thicknesses M_hasRow M_rowLow M_rowHigh H locs ls hm hP hD hS hl
    rw [g_X7_changesOf_4_s] at hm
    refine lv_iload_n hx hb dX7_changesOf_4 rfl (lv_at hl 3 rfl) ?_
    refine lv_aload_n hx hb dX7_changesOf_5 rfl (lv_at hl 0 rfl) ?_
    refine va_get (D := D) (ci := 7) (v := .ref (q 2)) (C := RX7) (T := TX7) (N := 33) hx hb hts n_X7_changesOf_X7 hown hK hP 0 rfl rfl 5 (by decide) (hts _ w_X7_changesOf_f13) (fun _ h9 => h9) rfl dX7_changesOf_6 ?_
    refine lv_aload_n hx hb dX7_changesOf_9 rfl (lv_at hl 0 rfl) ?_
    refine va_get (D := D) (ci := 7) (v := .int M_hand) (C := RX7) (T := TX7) (N := 33) hx hb hts n_X7_changesOf_X7 hown hK hP 0 rfl rfl 4 (by decide) (hts _ w_X7_changesOf_f195) (fun _ h9 => h9) rfl dX7_changesOf_10 ?_
    obtain ⟨hg_1, hm⟩ := mg_of hm
    refine va_iald hx hb hK hP 2 0 rfl rfl hg_1 dX7_changesOf_13 ?_
    refine lv_icmp_ge (tgt := 121) hx hb dX7_changesOf_14 (by decide) (fun h_2 => ?_) (fun h_2 => ?_)
    · have hm := it_of hm h_2
      refine lv_iload_n hx hb dX7_changesOf_121 rfl (lv_at hl 2 rfl) ?_
      have hz := Option.some.inj hm
      subst hz
      exact end_i C hK hP hD hS dX7_changesOf_122
    · have hm := ie_of hm h_2
      refine lv_bipush (v := (80 : Int32)) hx hb dX7_changesOf_17 (by decide) ?_
      refine lv_iload_n hx hb dX7_changesOf_19 rfl (lv_at hl 1 rfl) ?_
      refine lv_imul hx hb dX7_changesOf_20 ?_
      refine lv_iload_n hx hb dX7_changesOf_21 rfl (lv_at hl 3 rfl) ?_
      refine lv_iadd hx hb dX7_changesOf_22 ?_
      refine lv_topi (fun v4_3 ev4_3 => ?_)
      have hm := mn_of ev4_3 hm
      refine lv_istore (lv' := [(4, .int v4_3), (0, .ref (q 0)), (1, .int v1), (2, .int v2), (3, .int v3)]) hx hb dX7_changesOf_23 hl (by decide) rfl (fun ls hl => ?_)
      refine lv_aload_n hx hb dX7_changesOf_25 rfl (lv_at hl 1 rfl) ?_
      refine va_get (D := D) (ci := 7) (v := .ref (q 6)) (C := RX7) (T := TX7) (N := 33) hx hb hts n_X7_changesOf_X7 hown hK hP 0 rfl rfl 9 (by decide) (hts _ w_X7_changesOf_f26) (fun _ h9 => h9) rfl dX7_changesOf_26 ?_
      refine lv_bipush (v := (80 : Int32)) hx hb dX7_changesOf_29 (by decide) ?_
      refine lv_aload_n hx hb dX7_changesOf_31 rfl (lv_at hl 1 rfl) ?_
      refine va_get (D := D) (ci := 7) (v := .int M_hand) (C := RX7) (T := TX7) (N := 33) hx hb hts n_X7_changesOf_X7 hown hK hP 0 rfl rfl 4 (by decide) (hts _ w_X7_changesOf_f195) (fun _ h9 => h9) rfl dX7_changesOf_32 ?_
      refine lv_imul hx hb dX7_changesOf_35 ?_
      refine lv_iload_n hx hb dX7_changesOf_36 rfl (lv_at hl 4 rfl) ?_
      refine lv_iadd hx hb dX7_changesOf_37 ?_
      obtain ⟨hg_4, hm⟩ := mg_of hm
      refine va_lald hx hb hK hP 6 1 rfl rfl hg_4 dX7_changesOf_38 ?_
      refine lv_topl (fun v5_5 ev5_5 => ?_)
      have hm := mn_of ev5_5 hm
      refine lv_lstore (lv' := [(5, .long v5_5), (4, .int v4_3), (0, .ref (q 0)), (1, .int v1), (2, .int v2), (3, .int v3)]) hx hb dX7_changesOf_39 hl (by decide) rfl (fun ls hl => ?_)
      refine lv_aload_n hx hb dX7_changesOf_41 rfl (lv_at hl 2 rfl) ?_
      refine va_get (D := D) (ci := 7) (v := .ref (q 17)) (C := RX7) (T := TX7) (N := 33) hx hb hts n_X7_changesOf_X7 hown hK hP 0 rfl rfl 21 (by decide) (hts _ w_X7_changesOf_f59) (fun _ h9 => h9) rfl dX7_changesOf_42 ?_
      refine lv_iload hx hb dX7_changesOf_45 (lv_at hl 1 rfl) ?_
      obtain ⟨hg_6, hm⟩ := mg_of hm
      refine va_zald hx hb hK hP 17 3 rfl rfl hg_6 dX7_changesOf_47 ?_
      refine lv_if_eq (tgt := 81) hx hb dX7_changesOf_48 (by decide) (fun h_7 => ?_) (fun h_7 => ?_)
      · have hm := it_of hm h_7
        refine lv_iconst (v := (0 : Int32)) hx hb dX7_changesOf_81 (by decide) ?_
        exact k_X7_changesOf_82 C hA hK F (K_4 := g_X7_changesOf_4 F n) ih v1 v2 v3 (0 : Int32) M_hand M_layers M_kinds M_thicknesses M_hasRow M_rowLow M_rowHigh _ _ _ hm hP hD hS (lv_sub hl [2, 3, 4, 5] rfl)
      · have hm := ie_of hm h_7
        refine lv_lload hx hb dX7_changesOf_51 (lv_at hl 0 rfl) ?_
        refine lv_aload_n hx hb dX7_changesOf_53 rfl (lv_at hl 2 rfl) ?_
        refine va_get (D := D) (ci := 7) (v := .ref (q 18)) (C := RX7) (T := TX7) (N := 33) hx hb hts n_X7_changesOf_X7 hown hK hP 0 rfl rfl 22 (by decide) (hts _ w_X7_changesOf_f63) (fun _ h9 => h9) rfl dX7_changesOf_54 ?_
        refine lv_iload hx hb dX7_changesOf_57 (lv_at hl 1 rfl) ?_
        obtain ⟨hg_8, hm⟩ := mg_of hm
        refine va_lald hx hb hK hP 18 1 rfl rfl hg_8 dX7_changesOf_59 ?_
        refine W.lcmp hx hb dX7_changesOf_60 ?_
        refine lv_if_lt (tgt := 81) hx hb dX7_changesOf_61 (by decide) (fun h_9 => ?_) (fun h_9 => ?_)
        · have hm := it_of hm h_9
          refine lv_iconst (v := (0 : Int32)) hx hb dX7_changesOf_81 (by decide) ?_
          exact k_X7_changesOf_82 C hA hK F (K_4 := g_X7_changesOf_4 F n) ih v1 v2 v3 (0 : Int32) M_hand M_layers M_kinds M_thicknesses M_hasRow M_rowLow M_rowHigh _ _ _ hm hP hD hS (lv_sub hl [2, 3, 4, 5] rfl)
        · have hm := ie_of hm h_9
          refine lv_lload hx hb dX7_changesOf_64 (lv_at hl 0 rfl) ?_
          refine lv_aload_n hx hb dX7_changesOf_66 rfl (lv_at hl 2 rfl) ?_
          refine va_get (D := D) (ci := 7) (v := .ref (q 19)) (C := RX7) (T := TX7) (N := 33) hx hb hts n_X7_changesOf_X7 hown hK hP 0 rfl rfl 23 (by decide) (hts _ w_X7_changesOf_f66) (fun _ h9 => h9) rfl dX7_changesOf_67 ?_
          refine lv_iload hx hb dX7_changesOf_70 (lv_at hl 1 rfl) ?_
          obtain ⟨hg_10, hm⟩ := mg_of hm
          refine va_lald hx hb hK hP 19 1 rfl rfl hg_10 dX7_changesOf_72 ?_
          refine W.lcmp hx hb dX7_changesOf_73 ?_
          refine lv_if_gt (tgt := 81) hx hb dX7_changesOf_74 (by decide) (fun h_11 => ?_) (fun h_11 => ?_)
          · have hm := it_of hm h_11
            refine lv_iconst (v := (0 : Int32)) hx hb dX7_changesOf_81 (by decide) ?_
            exact k_X7_changesOf_82 C hA hK F (K_4 := g_X7_changesOf_4 F n) ih v1 v2 v3 (0 : Int32) M_hand M_layers M_kinds M_thicknesses M_hasRow M_rowLow M_rowHigh _ _ _ hm hP hD hS (lv_sub hl [2, 3, 4, 5] rfl)
          · have hm := ie_of hm h_11
            refine lv_iconst (v := (1 : Int32)) hx hb dX7_changesOf_77 (by decide) ?_
            refine lv_goto (tgt := 82) hx hb dX7_changesOf_78 (by decide) ?_
            exact k_X7_changesOf_82 C hA hK F (K_4 := g_X7_changesOf_4 F n) ih v1 v2 v3 (1 : Int32) M_hand M_layers M_kinds M_thicknesses M_hasRow M_rowLow M_rowHigh _ _ _ hm hP hD hS (lv_sub hl [2, 3, 4, 5] rfl)
set_option maxHeartbeats 4000000 in
set_option maxRecDepth 100000 in
theorem c_X7_changesOf (l : Launch) (D : va_G) (y : Nat → ClassId) (q : Nat → Nat) (sz : Nat) (F : Nat) {v1 : Int32} {M_thrown : Int32} {M_text : Nat → Int32} {M_size : Int32} {M_has : Int32} {M_hand : Int32} {M_layers : Nat → Int32} {M_kinds : Nat → Int32} {M_names : Nat → Int64} {M_nameSizes : Nat → Int32} {M_thicknesses : Nat → Int64} {M_spreads : Nat → Int32} {M_coppers : Nat → Int32} {M_copperAt : Nat → Int32} {M_presses : Nat → Int32} {M_pressFrom : Nat → Int32} {M_pressTo : Nat → Int32} {M_vias : Nat → Int32} {M_viaFrom : Nat → Int32} {M_viaTo : Nat → Int32} {M_shares : Nat → Int32} {M_lists : Int32} {M_hasRow : Nat → Int32} {M_rowLow : Nat → Int64} {M_rowHigh : Nat → Int64} {M_p : Int32} {M_s : Int32} {M_fault : Int32} {M_lines : Int32} {M_word : Int64} {M_wordSize : Int32} {M_out : Nat → Int32} {M_written : Int32} {M_secondOne : Int32} {z : Int32} (hm : f_X7_changesOf F v1 M_hand M_layers M_kinds M_thicknesses M_hasRow M_rowLow M_rowHigh = some z) : Met l yX7_changesOf wsX7_changesOf ({ frames := 0, cells := 0, slots := 0, locals := 0 } : Room) (va_Pc [.ref (q 0), .int v1] (cP D y (wdX7 q y M_thrown M_text M_size M_has M_hand M_layers M_kinds M_names M_nameSizes M_thicknesses M_spreads M_coppers M_copperAt M_presses M_pressFrom M_pressTo M_vias M_viaFrom M_viaTo M_shares M_lists M_hasRow M_rowLow M_rowHigh M_p M_s M_fault M_lines M_word M_wordSize M_out M_written M_secondOne) sz)) (QI D y (va_A (wdX7 q y M_thrown M_text M_size M_has M_hand M_layers M_kinds M_names M_nameSizes M_thicknesses M_spreads M_coppers M_copperAt M_presses M_pressFrom M_pressTo M_vias M_viaFrom M_viaTo M_shares M_lists M_hasRow M_rowLow M_rowHigh M_p M_s M_fault M_lines M_word M_wordSize M_out M_written M_secondOne) sz) (z) (wdX7 q y M_thrown M_text M_size M_has M_hand M_layers M_kinds M_names M_nameSizes M_thicknesses M_spreads M_coppers M_copperAt M_presses M_pressFrom M_pressTo M_vias M_viaFrom M_viaTo M_shares M_lists M_hasRow M_rowLow M_rowHigh M_p M_s M_fault M_lines M_word M_wordSize M_out M_written M_secondOne)) 0 0 (va_A (wdX7 q y M_thrown M_text M_size M_has M_hand M_layers M_kinds M_names M_nameSizes M_thicknesses M_spreads M_coppers M_copperAt M_presses M_pressFrom M_pressTo M_vias M_viaFrom M_viaTo M_shares M_lists M_hasRow M_rowLow M_rowHigh M_p M_s M_fault M_lines M_word M_wordSize M_out M_written M_secondOne) sz) := by
  refine met_of (own := RX7) (cc := cX7_changesOf) (maxL := 8) (ret := (some .int)) (by decide) rfl rfl (Nat.le_of_ble_eq_true rfl) ?_
  intro p e s m below meth c ls C hsz hK hP hD hA hS hl
  obtain ⟨⟨hx, hb, hml, hown, hts⟩, hr, hlocks⟩ := id C
  have hl : lv_has ls 8 [(0, .ref (q 0)), (1, .int v1)] := hl
  generalize va_A (wdX7 q y M_thrown M_text M_size M_has M_hand M_layers M_kinds M_names M_nameSizes M_thicknesses M_spreads M_coppers M_copperAt M_presses M_pressFrom M_pressTo M_vias M_viaFrom M_viaTo M_shares M_lists M_hasRow M_rowLow M_rowHigh M_p M_s M_fault M_lines M_word M_wordSize M_out M_written M_secondOne) sz = A at hD hA hS ⊢
  generalize ([.ref (q 0), .int v1] : List Value).toArray = args at C hts ⊢
  unfold f_X7_changesOf at hm
  refine lv_iconst (v := (0 : Int32)) hx hb dX7_changesOf_0 (by decide) ?_
  refine lv_istore_n (lv' := [(2, .int (0 : Int32)), (0, .ref (q 0)), (1, .int v1)]) hx hb dX7_changesOf_1 rfl hl (by decide) rfl (fun ls hl => ?_)
  refine lv_iconst (v := (0 : Int32)) hx hb dX7_changesOf_2 (by decide) ?_
  refine lv_istore_n (lv' := [(3, .int (0 : Int32)), (2, .int (0 : Int32)), (0, .ref (q 0)), (1, .int v1)]) hx hb dX7_changesOf_3 rfl hl (by decide) rfl (fun ls hl => ?_)
  exact k_X7_changesOf_4 C hA hK F F v1 (0 : Int32) (0 : Int32) M_hand M_layers M_kinds M_thicknesses M_hasRow M_rowLow M_rowHigh _ _ _ hm hP hD hS (lv_sub hl [2, 3, 1, 0] rfl)
def g_X7_match_9 (F : Nat) : Nat → Int32 → Int32 → Int32 → Int32 → (Nat → Int32) → (Nat → Int32) → (Nat → Int64) → Int32 → (Nat → Int32) → (Nat → Int64) → (Nat → Int64) → Option (Int32 × Int32)
  | 0, _, _, _, _, _, _, _, _, _, _, _ => none
  | n + 1, v1, v2, M_thrown, M_hand, M_layers, M_kinds, M_thicknesses, M_lists, M_hasRow, M_rowLow, M_rowHigh => (if M_lists ≤ v2 then some (v1, M_thrown) else (if v1 = (-1 : Int32) then mn (v2 + (1 : Int32)) (fun v2_3 => g_X7_match_9 F n v2 v2_3 M_thrown M_hand M_layers M_kinds M_thicknesses M_lists M_hasRow M_rowLow M_rowHigh) else mb1 (f_X7_changesOf F v2 M_hand M_layers M_kinds M_thicknesses M_hasRow M_rowLow M_rowHigh) (fun r_4 => mb1 (f_X7_changesOf F v1 M_hand M_layers M_kinds M_thicknesses M_hasRow M_rowLow M_rowHigh) (fun r_6 => (if r_6 ≤ r_4 then mn (v2 + (1 : Int32)) (fun v2_9 => g_X7_match_9 F n v1 v2_9 M_thrown M_hand M_layers M_kinds M_thicknesses M_lists M_hasRow M_rowLow M_rowHigh) else mn (v2 + (1 : Int32)) (fun v2_10 => g_X7_match_9 F n v2 v2_10 M_thrown M_hand M_layers M_kinds M_thicknesses M_lists M_hasRow M_rowLow M_rowHigh))))))
theorem g_X7_match_9_z (F : Nat) (v1 : Int32) (v2 : Int32) (M_thrown : Int32) (M_hand : Int32) (M_layers : Nat → Int32) (M_kinds : Nat → Int32) (M_thicknesses : Nat → Int64) (M_lists : Int32) (M_hasRow : Nat → Int32) (M_rowLow : Nat → Int64) (M_rowHigh : Nat → Int64) : g_X7_match_9 F 0 v1 v2 M_thrown M_hand M_layers M_kinds M_thicknesses M_lists M_hasRow M_rowLow M_rowHigh = none := rfl
theorem g_X7_match_9_s (F : Nat) (n : Nat) (v1 : Int32) (v2 : Int32) (M_thrown : Int32) (M_hand : Int32) (M_layers : Nat → Int32) (M_kinds : Nat → Int32) (M_thicknesses : Nat → Int64) (M_lists : Int32) (M_hasRow : Nat → Int32) (M_rowLow : Nat → Int64) (M_rowHigh : Nat → Int64) : g_X7_match_9 F (n + 1) v1 v2 M_thrown M_hand M_layers M_kinds M_thicknesses M_lists M_hasRow M_rowLow M_rowHigh = (if M_lists ≤ v2 then some (v1, M_thrown) else (if v1 = (-1 : Int32) then mn (v2 + (1 : Int32)) (fun v2_3 => g_X7_match_9 F n v2 v2_3 M_thrown M_hand M_layers M_kinds M_thicknesses M_lists M_hasRow M_rowLow M_rowHigh) else mb1 (f_X7_changesOf F v2 M_hand M_layers M_kinds M_thicknesses M_hasRow M_rowLow M_rowHigh) (fun r_4 => mb1 (f_X7_changesOf F v1 M_hand M_layers M_kinds M_thicknesses M_hasRow M_rowLow M_rowHigh) (fun r_6 => (if r_6 ≤ r_4 then mn (v2 + (1 : Int32)) (fun v2_9 => g_X7_match_9 F n v1 v2_9 M_thrown M_hand M_layers M_kinds M_thicknesses M_lists M_hasRow M_rowLow M_rowHigh) else mn (v2 + (1 : Int32)) (fun v2_10 => g_X7_match_9 F n v2 v2_10 M_thrown M_hand M_layers M_kinds M_thicknesses M_lists M_hasRow M_rowLow M_rowHigh)))))) := rfl
def f_X7_match (F : Nat) (M_thrown : Int32) (M_hand : Int32) (M_layers : Nat → Int32) (M_kinds : Nat → Int32) (M_thicknesses : Nat → Int64) (M_lists : Int32) (M_hasRow : Nat → Int32) (M_rowLow : Nat → Int64) (M_rowHigh : Nat → Int64) : Option (Int32 × Int32) := g_X7_match_9 F F (-1 : Int32) (0 : Int32) (0 : Int32) M_hand M_layers M_kinds M_thicknesses M_lists M_hasRow M_rowLow M_rowHigh
set_option maxRecDepth 20000 in
theorem n_X7_match_X7 : ∀ w ∈ wsX70, w ∈ wsX7_match := by decide +kernel
set_option maxRecDepth 20000 in
theorem w_X7_match_f205 : Cond.fieldLink RX7 205 "LayerStacksModel" "lists" "I" ∈ wsX7_match := by decide +kernel
set_option maxRecDepth 20000 in
theorem w_X7_match_f72 : Cond.fieldLink RX7 72 "LayerStacksModel" "thrown" "I" ∈ wsX7_match := by decide +kernel
set_option maxHeartbeats 4000000 in
set_option maxRecDepth 100000 in
theorem k_X7_match_9 {p : Program} {l : Launch} {e : Env} {s : State} {m : MethodId} {args : Array Value} {below : List Frame} {meth : Method} {c : Code} {D : va_G} {y : Nat → ClassId} {A : Nat → Prop} {q : Nat → Nat} {M_text : Nat → Int32} {M_size : Int32} {M_has : Int32} {M_names : Nat → Int64} {M_nameSizes : Nat → Int32} {M_spreads : Nat → Int32} {M_coppers : Nat → Int32} {M_copperAt : Nat → Int32} {M_presses : Nat → Int32} {M_pressFrom : Nat → Int32} {M_pressTo : Nat → Int32} {M_vias : Nat → Int32} {M_viaFrom : Nat → Int32} {M_viaTo : Nat → Int32} {M_shares : Nat → Int32} {M_p : Int32} {M_s : Int32} {M_fault : Int32} {M_lines : Int32} {M_word : Int64} {M_wordSize : Int32} {M_out : Nat → Int32} {M_written : Int32} {M_secondOne : Int32} {z : Int32 × Int32} (C : CX p s m args meth c wsX7_match RX7 cX7_match 3 (some .int)) (hA : ∀ q : Nat, s.heap.size ≤ q → A q) (hK : va_K D vwCl (tyl y) s) (F : Nat) :
    ∀ (n : Nat), ∀ (v1 : Int32) (v2 : Int32) (M_thrown : Int32) (M_hand : Int32) (M_layers : Nat → Int32) (M_kinds : Nat → Int32) (M_thicknesses : Nat → Int64) (M_lists : Int32) (M_hasRow : Nat → Int32) (M_rowLow : Nat → Int64) (M_rowHigh : Nat → Int64) (H : Heap) (locs : List Loc) (ls : Array Slot), g_X7_match_9 F n v1 v2 M_thrown M_hand M_layers M_kinds M_thicknesses M_lists M_hasRow M_rowLow M_rowHigh = some z → va_P D vwCl (wdX7 q y M_thrown M_text M_size M_has M_hand M_layers M_kinds M_names M_nameSizes M_thicknesses M_spreads M_coppers M_copperAt M_presses M_pressFrom M_pressTo M_vias M_viaFrom M_viaTo M_shares M_lists M_hasRow M_rowLow M_rowHigh M_p M_s M_fault M_lines M_word M_wordSize M_out M_written M_secondOne) H → va_D A (wdX7 q y M_thrown M_text M_size M_has M_hand M_layers M_kinds M_names M_nameSizes M_thicknesses M_spreads M_coppers M_copperAt M_presses M_pressFrom M_pressTo M_vias M_viaFrom M_viaTo M_shares M_lists M_hasRow M_rowLow M_rowHigh M_p M_s M_fault M_lines M_word M_wordSize M_out M_written M_secondOne) → va_S A s.heap H locs → lv_has ls 3 [(0, .ref (q 0)), (1, .int v1), (2, .int v2)] → W p l e ({ frames := 1, cells := 0, slots := 0, locals := 27 } : Room) s m args below meth c H locs 0 0 (MQ below (QI D y A (z.1) (wdX7 q y (z.2) M_text M_size M_has M_hand M_layers M_kinds M_names M_nameSizes M_thicknesses M_spreads M_coppers M_copperAt M_presses M_pressFrom M_pressTo M_vias M_viaFrom M_viaTo M_shares M_lists M_hasRow M_rowLow M_rowHigh M_p M_s M_fault M_lines M_word M_wordSize M_out M_written M_secondOne)) args s 0 0 A) (F0 m 9 ls []) := by
  obtain ⟨⟨hx, hb, hml, hown, hts⟩, hr, hlocks⟩ := id C
  intro n
  induction n with
  | zero =>
    intro v1 v2 M_thrown M_hand M_layers M_kinds M_thicknesses M_lists M_hasRow M_rowLow M_rowHigh H locs ls hm
    rw [g_X7_match_9_z] at hm
    cases hm
  | succ n ih =>
    intro v1 v2 M_thrown M_hand M_layers M_kinds M_thicknesses M_lists M_hasRow M_rowLow M_rowHigh H locs ls hm hP hD hS hl
    rw [g_X7_match_9_s] at hm
    refine lv_iload_n hx hb dX7_match_9 rfl (lv_at hl 2 rfl) ?_
    refine lv_aload_n hx hb dX7_match_10 rfl (lv_at hl 0 rfl) ?_
    refine va_get (D := D) (ci := 7) (v := .int M_lists) (C := RX7) (T := TX7) (N := 33) hx hb hts n_X7_match_X7 hown hK hP 0 rfl rfl 20 (by decide) (hts _ w_X7_match_f205) (fun _ h9 => h9) rfl dX7_match_11 ?_
    refine lv_icmp_ge (tgt := 43) hx hb dX7_match_14 (by decide) (fun h_1 => ?_) (fun h_1 => ?_)
    · have hm := it_of hm h_1
      refine lv_iload_n hx hb dX7_match_43 rfl (lv_at hl 1 rfl) ?_
      have hz := Option.some.inj hm
      subst hz
      exact end_i C hK hP hD hS dX7_match_44
    · have hm := ie_of hm h_1
      refine lv_iload_n hx hb dX7_match_17 rfl (lv_at hl 1 rfl) ?_
      refine lv_iconst (v := (-1 : Int32)) hx hb dX7_match_18 (by decide) ?_
      refine lv_icmp_eq (tgt := 35) hx hb dX7_match_19 (by decide) (fun h_2 => ?_) (fun h_2 => ?_)
      · have hm := it_of hm h_2
        refine lv_iload_n hx hb dX7_match_35 rfl (lv_at hl 2 rfl) ?_
        refine lv_istore_n (lv' := [(1, .int v2), (0, .ref (q 0)), (2, .int v2)]) hx hb dX7_match_36 rfl hl (by decide) rfl (fun ls hl => ?_)
        obtain ⟨v2_3, ev2_3⟩ : ∃ y9 : Int32, y9 = (v2 + (1 : Int32)) := ⟨_, rfl⟩
        have hm := mn_of ev2_3 hm
        refine lv_iinc (v := v2_3) (lv' := [(2, .int v2_3), (1, .int v2), (0, .ref (q 0))]) hx hb dX7_match_37 hl (k := 2) rfl (by rw [ev2_3]; rfl) (by decide) rfl (fun ls hl => ?_)
        refine lv_goto (tgt := 9) hx hb dX7_match_40 (by decide) ?_
        exact ih v2 v2_3 M_thrown M_hand M_layers M_kinds M_thicknesses M_lists M_hasRow M_rowLow M_rowHigh _ _ _ hm hP hD hS (lv_sub hl [2, 1, 0] rfl)
      · have hm := ie_of hm h_2
        refine lv_aload_n hx hb dX7_match_22 rfl (lv_at hl 0 rfl) ?_
        refine lv_iload_n hx hb dX7_match_23 rfl (lv_at hl 2 rfl) ?_
        obtain ⟨r_4, hc_5, hm⟩ := mb1_of hm
        refine call_vi (wc := (wdX7 q y M_thrown M_text M_size M_has M_hand M_layers M_kinds M_names M_nameSizes M_thicknesses M_spreads M_coppers M_copperAt M_presses M_pressFrom M_pressTo M_vias M_viaFrom M_viaTo M_shares M_lists M_hasRow M_rowLow M_rowHigh M_p M_s M_fault M_lines M_word M_wordSize M_out M_written M_secondOne)) (wr := []) (As := [.int v2]) (rest := []) C (c_X7_changesOf l D y q _ F hc_5) (cwV 1 hts gX7_match_X7_changesOf rfl rfl rfl (by decide +kernel) ⟨Nat.le_of_ble_eq_true rfl, Nat.le_of_ble_eq_true rfl⟩) hK hP hD hS hA [0, 1, 2, 3, 4, 5, 6, 7, 8, 9, 10, 11, 12, 13, 14, 15, 16, 17, 18, 19, 20] [] rfl rfl rfl rfl rfl (by decide) rfl rfl rfl rfl hl.1 (Nat.le_of_ble_eq_true rfl) dX7_match_24 (fun H locs hP hD hS => ?_)
        have hP : va_P D vwCl (wdX7 q y M_thrown M_text M_size M_has M_hand M_layers M_kinds M_names M_nameSizes M_thicknesses M_spreads M_coppers M_copperAt M_presses M_pressFrom M_pressTo M_vias M_viaFrom M_viaTo M_shares M_lists M_hasRow M_rowLow M_rowHigh M_p M_s M_fault M_lines M_word M_wordSize M_out M_written M_secondOne) H := hP
        have hD : va_D A (wdX7 q y M_thrown M_text M_size M_has M_hand M_layers M_kinds M_names M_nameSizes M_thicknesses M_spreads M_coppers M_copperAt M_presses M_pressFrom M_pressTo M_vias M_viaFrom M_viaTo M_shares M_lists M_hasRow M_rowLow M_rowHigh M_p M_s M_fault M_lines M_word M_wordSize M_out M_written M_secondOne) := hD
        refine lv_aload_n hx hb dX7_match_27 rfl (lv_at hl 0 rfl) ?_
        refine lv_iload_n hx hb dX7_match_28 rfl (lv_at hl 1 rfl) ?_
        obtain ⟨r_6, hc_7, hm⟩ := mb1_of hm
        refine call_vi (wc := (wdX7 q y M_thrown M_text M_size M_has M_hand M_layers M_kinds M_names M_nameSizes M_thicknesses M_spreads M_coppers M_copperAt M_presses M_pressFrom M_pressTo M_vias M_viaFrom M_viaTo M_shares M_lists M_hasRow M_rowLow M_rowHigh M_p M_s M_fault M_lines M_word M_wordSize M_out M_written M_secondOne)) (wr := []) (As := [.int v1]) (rest := [.int r_4]) C (c_X7_changesOf l D y q _ F hc_7) (cwV 1 hts gX7_match_X7_changesOf rfl rfl rfl (by decide +kernel) ⟨Nat.le_of_ble_eq_true rfl, Nat.le_of_ble_eq_true rfl⟩) hK hP hD hS hA [0, 1, 2, 3, 4, 5, 6, 7, 8, 9, 10, 11, 12, 13, 14, 15, 16, 17, 18, 19, 20] [] rfl rfl rfl rfl rfl (by decide) rfl rfl rfl rfl hl.1 (Nat.le_of_ble_eq_true rfl) dX7_match_29 (fun H locs hP hD hS => ?_)
        have hP : va_P D vwCl (wdX7 q y M_thrown M_text M_size M_has M_hand M_layers M_kinds M_names M_nameSizes M_thicknesses M_spreads M_coppers M_copperAt M_presses M_pressFrom M_pressTo M_vias M_viaFrom M_viaTo M_shares M_lists M_hasRow M_rowLow M_rowHigh M_p M_s M_fault M_lines M_word M_wordSize M_out M_written M_secondOne) H := hP
        have hD : va_D A (wdX7 q y M_thrown M_text M_size M_has M_hand M_layers M_kinds M_names M_nameSizes M_thicknesses M_spreads M_coppers M_copperAt M_presses M_pressFrom M_pressTo M_vias M_viaFrom M_viaTo M_shares M_lists M_hasRow M_rowLow M_rowHigh M_p M_s M_fault M_lines M_word M_wordSize M_out M_written M_secondOne) := hD
        refine lv_icmp_ge (tgt := 37) hx hb dX7_match_32 (by decide) (fun h_8 => ?_) (fun h_8 => ?_)
        · have hm := it_of hm h_8
          obtain ⟨v2_9, ev2_9⟩ : ∃ y9 : Int32, y9 = (v2 + (1 : Int32)) := ⟨_, rfl⟩
          have hm := mn_of ev2_9 hm
          refine lv_iinc (v := v2_9) (lv' := [(2, .int v2_9), (0, .ref (q 0)), (1, .int v1)]) hx hb dX7_match_37 hl (k := 2) rfl (by rw [ev2_9]; rfl) (by decide) rfl (fun ls hl => ?_)
          refine lv_goto (tgt := 9) hx hb dX7_match_40 (by decide) ?_
          exact ih v1 v2_9 M_thrown M_hand M_layers M_kinds M_thicknesses M_lists M_hasRow M_rowLow M_rowHigh _ _ _ hm hP hD hS (lv_sub hl [1, 2, 0] rfl)
        · have hm := ie_of hm h_8
          refine lv_iload_n hx hb dX7_match_35 rfl (lv_at hl 2 rfl) ?_
          refine lv_istore_n (lv' := [(1, .int v2), (0, .ref (q 0)), (2, .int v2)]) hx hb dX7_match_36 rfl hl (by decide) rfl (fun ls hl => ?_)
          obtain ⟨v2_10, ev2_10⟩ : ∃ y9 : Int32, y9 = (v2 + (1 : Int32)) := ⟨_, rfl⟩
          have hm := mn_of ev2_10 hm
          refine lv_iinc (v := v2_10) (lv' := [(2, .int v2_10), (1, .int v2), (0, .ref (q 0))]) hx hb dX7_match_37 hl (k := 2) rfl (by rw [ev2_10]; rfl) (by decide) rfl (fun ls hl => ?_)
          refine lv_goto (tgt := 9) hx hb dX7_match_40 (by decide) ?_
          exact ih v2 v2_10 M_thrown M_hand M_layers M_kinds M_thicknesses M_lists M_hasRow M_rowLow M_rowHigh _ _ _ hm hP hD hS (lv_sub hl [2, 1, 0] rfl)
set_option maxHeartbeats 4000000 in
set_option maxRecDepth 100000 in
theorem c_X7_match (l : Launch) (D : va_G) (y : Nat → ClassId) (q : Nat → Nat) (sz : Nat) (F : Nat) {M_thrown : Int32} {M_text : Nat → Int32} {M_size : Int32} {M_has : Int32} {M_hand : Int32} {M_layers : Nat → Int32} {M_kinds : Nat → Int32} {M_names : Nat → Int64} {M_nameSizes : Nat → Int32} {M_thicknesses : Nat → Int64} {M_spreads : Nat → Int32} {M_coppers : Nat → Int32} {M_copperAt : Nat → Int32} {M_presses : Nat → Int32} {M_pressFrom : Nat → Int32} {M_pressTo : Nat → Int32} {M_vias : Nat → Int32} {M_viaFrom : Nat → Int32} {M_viaTo : Nat → Int32} {M_shares : Nat → Int32} {M_lists : Int32} {M_hasRow : Nat → Int32} {M_rowLow : Nat → Int64} {M_rowHigh : Nat → Int64} {M_p : Int32} {M_s : Int32} {M_fault : Int32} {M_lines : Int32} {M_word : Int64} {M_wordSize : Int32} {M_out : Nat → Int32} {M_written : Int32} {M_secondOne : Int32} {z : Int32 × Int32} (hm : f_X7_match F M_thrown M_hand M_layers M_kinds M_thicknesses M_lists M_hasRow M_rowLow M_rowHigh = some z) : Met l yX7_match wsX7_match ({ frames := 1, cells := 0, slots := 0, locals := 27 } : Room) (va_Pc [.ref (q 0)] (cP D y (wdX7 q y M_thrown M_text M_size M_has M_hand M_layers M_kinds M_names M_nameSizes M_thicknesses M_spreads M_coppers M_copperAt M_presses M_pressFrom M_pressTo M_vias M_viaFrom M_viaTo M_shares M_lists M_hasRow M_rowLow M_rowHigh M_p M_s M_fault M_lines M_word M_wordSize M_out M_written M_secondOne) sz)) (QI D y (va_A (wdX7 q y M_thrown M_text M_size M_has M_hand M_layers M_kinds M_names M_nameSizes M_thicknesses M_spreads M_coppers M_copperAt M_presses M_pressFrom M_pressTo M_vias M_viaFrom M_viaTo M_shares M_lists M_hasRow M_rowLow M_rowHigh M_p M_s M_fault M_lines M_word M_wordSize M_out M_written M_secondOne) sz) (z.1) (wdX7 q y (z.2) M_text M_size M_has M_hand M_layers M_kinds M_names M_nameSizes M_thicknesses M_spreads M_coppers M_copperAt M_presses M_pressFrom M_pressTo M_vias M_viaFrom M_viaTo M_shares M_lists M_hasRow M_rowLow M_rowHigh M_p M_s M_fault M_lines M_word M_wordSize M_out M_written M_secondOne)) 0 0 (va_A (wdX7 q y M_thrown M_text M_size M_has M_hand M_layers M_kinds M_names M_nameSizes M_thicknesses M_spreads M_coppers M_copperAt M_presses M_pressFrom M_pressTo M_vias M_viaFrom M_viaTo M_shares M_lists M_hasRow M_rowLow M_rowHigh M_p M_s M_fault M_lines M_word M_wordSize M_out M_written M_secondOne) sz) := by
  refine met_of (own := RX7) (cc := cX7_match) (maxL := 3) (ret := (some .int)) (by decide) rfl rfl (Nat.le_of_ble_eq_true rfl) ?_
  intro p e s m below meth c ls C hsz hK hP hD hA hS hl
  obtain ⟨⟨hx, hb, hml, hown, hts⟩, hr, hlocks⟩ := id C
  have hl : lv_has ls 3 [(0, .ref (q 0))] := hl
  generalize va_A (wdX7 q y M_thrown M_text M_size M_has M_hand M_layers M_kinds M_names M_nameSizes M_thicknesses M_spreads M_coppers M_copperAt M_presses M_pressFrom M_pressTo M_vias M_viaFrom M_viaTo M_shares M_lists M_hasRow M_rowLow M_rowHigh M_p M_s M_fault M_lines M_word M_wordSize M_out M_written M_secondOne) sz = A at hD hA hS ⊢
  generalize ([.ref (q 0)] : List Value).toArray = args at C hts ⊢
  unfold f_X7_match at hm
  refine lv_aload_n hx hb dX7_match_0 rfl (lv_at hl 0 rfl) ?_
  refine lv_iconst (v := (0 : Int32)) hx hb dX7_match_1 (by decide) ?_
  refine va_put (D := D) (ci := 7) (v := .int (0 : Int32)) (ty := .int) (C := RX7) (T := TX7) (N := 33) hx hb hts n_X7_match_X7 tyX7 tyX7_ok nmX7 hown hK hP hD hS 0 rfl rfl 0 (by decide) (hts _ w_X7_match_f72) (fun _ h9 => h9) rfl (by decide +kernel) rfl rfl (Nat.le_of_ble_eq_true rfl) dX7_match_2 (fun H locs hP hD hS => ?_)
  have hP : va_P D vwCl (wdX7 q y (0 : Int32) M_text M_size M_has M_hand M_layers M_kinds M_names M_nameSizes M_thicknesses M_spreads M_coppers M_copperAt M_presses M_pressFrom M_pressTo M_vias M_viaFrom M_viaTo M_shares M_lists M_hasRow M_rowLow M_rowHigh M_p M_s M_fault M_lines M_word M_wordSize M_out M_written M_secondOne) H := hP
  have hD : va_D A (wdX7 q y (0 : Int32) M_text M_size M_has M_hand M_layers M_kinds M_names M_nameSizes M_thicknesses M_spreads M_coppers M_copperAt M_presses M_pressFrom M_pressTo M_vias M_viaFrom M_viaTo M_shares M_lists M_hasRow M_rowLow M_rowHigh M_p M_s M_fault M_lines M_word M_wordSize M_out M_written M_secondOne) := hD
  refine lv_iconst (v := (-1 : Int32)) hx hb dX7_match_5 (by decide) ?_
  refine lv_istore_n (lv' := [(1, .int (-1 : Int32)), (0, .ref (q 0))]) hx hb dX7_match_6 rfl hl (by decide) rfl (fun ls hl => ?_)
  refine lv_iconst (v := (0 : Int32)) hx hb dX7_match_7 (by decide) ?_
  refine lv_istore_n (lv' := [(2, .int (0 : Int32)), (1, .int (-1 : Int32)), (0, .ref (q 0))]) hx hb dX7_match_8 rfl hl (by decide) rfl (fun ls hl => ?_)
  exact k_X7_match_9 C hA hK F F (-1 : Int32) (0 : Int32) (0 : Int32) M_hand M_layers M_kinds M_thicknesses M_lists M_hasRow M_rowLow M_rowHigh _ _ _ hm hP hD hS (lv_sub hl [2, 1, 0] rfl)
def f_X7_changes (F : Nat) (v1 : Int32) (M_thrown : Int32) (M_hand : Int32) (M_layers : Nat → Int32) (M_kinds : Nat → Int32) (M_thicknesses : Nat → Int64) (M_lists : Int32) (M_hasRow : Nat → Int32) (M_rowLow : Nat → Int64) (M_rowHigh : Nat → Int64) : Option (Int32 × Int32) := mb1 (f_X7_isList F v1 M_lists) (fun r_1 => (if r_1 = 0 then some ((0 : Int32), (1 : Int32)) else mb1 (f_X7_changesOf F v1 M_hand M_layers M_kinds M_thicknesses M_hasRow M_rowLow M_rowHigh) (fun r_4 => some (r_4, (0 : Int32)))))
set_option maxRecDepth 20000 in
theorem n_X7_changes_X7 : ∀ w ∈ wsX70, w ∈ wsX7_changes := by decide +kernel
set_option maxRecDepth 20000 in
theorem w_X7_changes_f72 : Cond.fieldLink RX7 72 "LayerStacksModel" "thrown" "I" ∈ wsX7_changes := by decide +kernel
set_option maxHeartbeats 4000000 in
set_option maxRecDepth 100000 in
theorem c_X7_changes (l : Launch) (D : va_G) (y : Nat → ClassId) (q : Nat → Nat) (sz : Nat) (F : Nat) {v1 : Int32} {M_thrown : Int32} {M_text : Nat → Int32} {M_size : Int32} {M_has : Int32} {M_hand : Int32} {M_layers : Nat → Int32} {M_kinds : Nat → Int32} {M_names : Nat → Int64} {M_nameSizes : Nat → Int32} {M_thicknesses : Nat → Int64} {M_spreads : Nat → Int32} {M_coppers : Nat → Int32} {M_copperAt : Nat → Int32} {M_presses : Nat → Int32} {M_pressFrom : Nat → Int32} {M_pressTo : Nat → Int32} {M_vias : Nat → Int32} {M_viaFrom : Nat → Int32} {M_viaTo : Nat → Int32} {M_shares : Nat → Int32} {M_lists : Int32} {M_hasRow : Nat → Int32} {M_rowLow : Nat → Int64} {M_rowHigh : Nat → Int64} {M_p : Int32} {M_s : Int32} {M_fault : Int32} {M_lines : Int32} {M_word : Int64} {M_wordSize : Int32} {M_out : Nat → Int32} {M_written : Int32} {M_secondOne : Int32} {z : Int32 × Int32} (hm : f_X7_changes F v1 M_thrown M_hand M_layers M_kinds M_thicknesses M_lists M_hasRow M_rowLow M_rowHigh = some z) : Met l yX7_changes wsX7_changes ({ frames := 1, cells := 0, slots := 0, locals := 27 } : Room) (va_Pc [.ref (q 0), .int v1] (cP D y (wdX7 q y M_thrown M_text M_size M_has M_hand M_layers M_kinds M_names M_nameSizes M_thicknesses M_spreads M_coppers M_copperAt M_presses M_pressFrom M_pressTo M_vias M_viaFrom M_viaTo M_shares M_lists M_hasRow M_rowLow M_rowHigh M_p M_s M_fault M_lines M_word M_wordSize M_out M_written M_secondOne) sz)) (QI D y (va_A (wdX7 q y M_thrown M_text M_size M_has M_hand M_layers M_kinds M_names M_nameSizes M_thicknesses M_spreads M_coppers M_copperAt M_presses M_pressFrom M_pressTo M_vias M_viaFrom M_viaTo M_shares M_lists M_hasRow M_rowLow M_rowHigh M_p M_s M_fault M_lines M_word M_wordSize M_out M_written M_secondOne) sz) (z.1) (wdX7 q y (z.2) M_text M_size M_has M_hand M_layers M_kinds M_names M_nameSizes M_thicknesses M_spreads M_coppers M_copperAt M_presses M_pressFrom M_pressTo M_vias M_viaFrom M_viaTo M_shares M_lists M_hasRow M_rowLow M_rowHigh M_p M_s M_fault M_lines M_word M_wordSize M_out M_written M_secondOne)) 0 0 (va_A (wdX7 q y M_thrown M_text M_size M_has M_hand M_layers M_kinds M_names M_nameSizes M_thicknesses M_spreads M_coppers M_copperAt M_presses M_pressFrom M_pressTo M_vias M_viaFrom M_viaTo M_shares M_lists M_hasRow M_rowLow M_rowHigh M_p M_s M_fault M_lines M_word M_wordSize M_out M_written M_secondOne) sz) := by
  refine met_of (own := RX7) (cc := cX7_changes) (maxL := 2) (ret := (some .int)) (by decide) rfl rfl (Nat.le_of_ble_eq_true rfl) ?_
  intro p e s m below meth c ls C hsz hK hP hD hA hS hl
  obtain ⟨⟨hx, hb, hml, hown, hts⟩, hr, hlocks⟩ := id C
  have hl : lv_has ls 2 [(0, .ref (q 0)), (1, .int v1)] := hl
  generalize va_A (wdX7 q y M_thrown M_text M_size M_has M_hand M_layers M_kinds M_names M_nameSizes M_thicknesses M_spreads M_coppers M_copperAt M_presses M_pressFrom M_pressTo M_vias M_viaFrom M_viaTo M_shares M_lists M_hasRow M_rowLow M_rowHigh M_p M_s M_fault M_lines M_word M_wordSize M_out M_written M_secondOne) sz = A at hD hA hS ⊢
  generalize ([.ref (q 0), .int v1] : List Value).toArray = args at C hts ⊢
  unfold f_X7_changes at hm
  refine lv_aload_n hx hb dX7_changes_0 rfl (lv_at hl 0 rfl) ?_
  refine lv_aload_n hx hb dX7_changes_1 rfl (lv_at hl 0 rfl) ?_
  refine lv_iload_n hx hb dX7_changes_2 rfl (lv_at hl 1 rfl) ?_
  obtain ⟨r_1, hc_2, hm⟩ := mb1_of hm
  refine call_vi (wc := (wdX7 q y M_thrown M_text M_size M_has M_hand M_layers M_kinds M_names M_nameSizes M_thicknesses M_spreads M_coppers M_copperAt M_presses M_pressFrom M_pressTo M_vias M_viaFrom M_viaTo M_shares M_lists M_hasRow M_rowLow M_rowHigh M_p M_s M_fault M_lines M_word M_wordSize M_out M_written M_secondOne)) (wr := []) (As := [.int v1]) (rest := [.ref (q 0)]) C (c_X7_isList l D y q _ F hc_2) (cwV 1 hts gX7_changes_X7_isList rfl rfl rfl (by decide +kernel) ⟨Nat.le_of_ble_eq_true rfl, Nat.le_of_ble_eq_true rfl⟩) hK hP hD hS hA [0, 1, 2, 3, 4, 5, 6, 7, 8, 9, 10, 11, 12, 13, 14, 15, 16, 17, 18, 19, 20] [] rfl rfl rfl rfl rfl (by decide) rfl rfl rfl rfl hl.1 (Nat.le_of_ble_eq_true rfl) dX7_changes_3 (fun H locs hP hD hS => ?_)
  have hP : va_P D vwCl (wdX7 q y M_thrown M_text M_size M_has M_hand M_layers M_kinds M_names M_nameSizes M_thicknesses M_spreads M_coppers M_copperAt M_presses M_pressFrom M_pressTo M_vias M_viaFrom M_viaTo M_shares M_lists M_hasRow M_rowLow M_rowHigh M_p M_s M_fault M_lines M_word M_wordSize M_out M_written M_secondOne) H := hP
  have hD : va_D A (wdX7 q y M_thrown M_text M_size M_has M_hand M_layers M_kinds M_names M_nameSizes M_thicknesses M_spreads M_coppers M_copperAt M_presses M_pressFrom M_pressTo M_vias M_viaFrom M_viaTo M_shares M_lists M_hasRow M_rowLow M_rowHigh M_p M_s M_fault M_lines M_word M_wordSize M_out M_written M_secondOne) := hD
  refine lv_if_eq (tgt := 13) hx hb dX7_changes_6 (by decide) (fun h_3 => ?_) (fun h_3 => ?_)
  · have hm := it_of hm h_3
    refine lv_iconst (v := (1 : Int32)) hx hb dX7_changes_13 (by decide) ?_
    refine va_put (D := D) (ci := 7) (v := .int (1 : Int32)) (ty := .int) (C := RX7) (T := TX7) (N := 33) hx hb hts n_X7_changes_X7 tyX7 tyX7_ok nmX7 hown hK hP hD hS 0 rfl rfl 0 (by decide) (hts _ w_X7_changes_f72) (fun _ h9 => h9) rfl (by decide +kernel) rfl rfl (Nat.le_of_ble_eq_true rfl) dX7_changes_14 (fun H locs hP hD hS => ?_)
    have hP : va_P D vwCl (wdX7 q y (1 : Int32) M_text M_size M_has M_hand M_layers M_kinds M_names M_nameSizes M_thicknesses M_spreads M_coppers M_copperAt M_presses M_pressFrom M_pressTo M_vias M_viaFrom M_viaTo M_shares M_lists M_hasRow M_rowLow M_rowHigh M_p M_s M_fault M_lines M_word M_wordSize M_out M_written M_secondOne) H := hP
    have hD : va_D A (wdX7 q y (1 : Int32) M_text M_size M_has M_hand M_layers M_kinds M_names M_nameSizes M_thicknesses M_spreads M_coppers M_copperAt M_presses M_pressFrom M_pressTo M_vias M_viaFrom M_viaTo M_shares M_lists M_hasRow M_rowLow M_rowHigh M_p M_s M_fault M_lines M_word M_wordSize M_out M_written M_secondOne) := hD
    refine lv_aload_n hx hb dX7_changes_17 rfl (lv_at hl 0 rfl) ?_
    refine va_get (D := D) (ci := 7) (v := .int (1 : Int32)) (C := RX7) (T := TX7) (N := 33) hx hb hts n_X7_changes_X7 hown hK hP 0 rfl rfl 0 (by decide) (hts _ w_X7_changes_f72) (fun _ h9 => h9) rfl dX7_changes_18 ?_
    refine lv_if_ne (tgt := 32) hx hb dX7_changes_21 (by decide) (fun _ => ?_) (fun h => absurd h (by decide))
    refine lv_iconst (v := (0 : Int32)) hx hb dX7_changes_32 (by decide) ?_
    have hz := Option.some.inj hm
    subst hz
    exact end_i C hK hP hD hS dX7_changes_33
  · have hm := ie_of hm h_3
    refine lv_iconst (v := (0 : Int32)) hx hb dX7_changes_9 (by decide) ?_
    refine lv_goto (tgt := 14) hx hb dX7_changes_10 (by decide) ?_
    refine va_put (D := D) (ci := 7) (v := .int (0 : Int32)) (ty := .int) (C := RX7) (T := TX7) (N := 33) hx hb hts n_X7_changes_X7 tyX7 tyX7_ok nmX7 hown hK hP hD hS 0 rfl rfl 0 (by decide) (hts _ w_X7_changes_f72) (fun _ h9 => h9) rfl (by decide +kernel) rfl rfl (Nat.le_of_ble_eq_true rfl) dX7_changes_14 (fun H locs hP hD hS => ?_)
    have hP : va_P D vwCl (wdX7 q y (0 : Int32) M_text M_size M_has M_hand M_layers M_kinds M_names M_nameSizes M_thicknesses M_spreads M_coppers M_copperAt M_presses M_pressFrom M_pressTo M_vias M_viaFrom M_viaTo M_shares M_lists M_hasRow M_rowLow M_rowHigh M_p M_s M_fault M_lines M_word M_wordSize M_out M_written M_secondOne) H := hP
    have hD : va_D A (wdX7 q y (0 : Int32) M_text M_size M_has M_hand M_layers M_kinds M_names M_nameSizes M_thicknesses M_spreads M_coppers M_copperAt M_presses M_pressFrom M_pressTo M_vias M_viaFrom M_viaTo M_shares M_lists M_hasRow M_rowLow M_rowHigh M_p M_s M_fault M_lines M_word M_wordSize M_out M_written M_secondOne) := hD
    refine lv_aload_n hx hb dX7_changes_17 rfl (lv_at hl 0 rfl) ?_
    refine va_get (D := D) (ci := 7) (v := .int (0 : Int32)) (C := RX7) (T := TX7) (N := 33) hx hb hts n_X7_changes_X7 hown hK hP 0 rfl rfl 0 (by decide) (hts _ w_X7_changes_f72) (fun _ h9 => h9) rfl dX7_changes_18 ?_
    refine lv_if_ne (tgt := 32) hx hb dX7_changes_21 (by decide) (fun h => absurd h (by decide)) (fun _ => ?_)
    refine lv_aload_n hx hb dX7_changes_24 rfl (lv_at hl 0 rfl) ?_
    refine lv_iload_n hx hb dX7_changes_25 rfl (lv_at hl 1 rfl) ?_
    obtain ⟨r_4, hc_5, hm⟩ := mb1_of hm
    refine call_vi (wc := (wdX7 q y (0 : Int32) M_text M_size M_has M_hand M_layers M_kinds M_names M_nameSizes M_thicknesses M_spreads M_coppers M_copperAt M_presses M_pressFrom M_pressTo M_vias M_viaFrom M_viaTo M_shares M_lists M_hasRow M_rowLow M_rowHigh M_p M_s M_fault M_lines M_word M_wordSize M_out M_written M_secondOne)) (wr := []) (As := [.int v1]) (rest := []) C (c_X7_changesOf l D y q _ F hc_5) (cwV 1 hts gX7_changes_X7_changesOf rfl rfl rfl (by decide +kernel) ⟨Nat.le_of_ble_eq_true rfl, Nat.le_of_ble_eq_true rfl⟩) hK hP hD hS hA [0, 1, 2, 3, 4, 5, 6, 7, 8, 9, 10, 11, 12, 13, 14, 15, 16, 17, 18, 19, 20] [] rfl rfl rfl rfl rfl (by decide) rfl rfl rfl rfl hl.1 (Nat.le_of_ble_eq_true rfl) dX7_changes_26 (fun H locs hP hD hS => ?_)
    have hP : va_P D vwCl (wdX7 q y (0 : Int32) M_text M_size M_has M_hand M_layers M_kinds M_names M_nameSizes M_thicknesses M_spreads M_coppers M_copperAt M_presses M_pressFrom M_pressTo M_vias M_viaFrom M_viaTo M_shares M_lists M_hasRow M_rowLow M_rowHigh M_p M_s M_fault M_lines M_word M_wordSize M_out M_written M_secondOne) H := hP
    have hD : va_D A (wdX7 q y (0 : Int32) M_text M_size M_has M_hand M_layers M_kinds M_names M_nameSizes M_thicknesses M_spreads M_coppers M_copperAt M_presses M_pressFrom M_pressTo M_vias M_viaFrom M_viaTo M_shares M_lists M_hasRow M_rowLow M_rowHigh M_p M_s M_fault M_lines M_word M_wordSize M_out M_written M_secondOne) := hD
    refine lv_goto (tgt := 33) hx hb dX7_changes_29 (by decide) ?_
    have hz := Option.some.inj hm
    subst hz
    exact end_i C hK hP hD hS dX7_changes_33
def f_X7_say (F : Nat) (v1 : Int32) (M_out : Nat → Int32) (M_written : Int32) : Option ((Nat → Int32) × Int32) := mg (inb M_written 6000) (some ((upd M_out (M_written).toNatClampNeg v1), (M_written + (1 : Int32))))
set_option maxRecDepth 20000 in
theorem n_X7_say_X7 : ∀ w ∈ wsX70, w ∈ wsX7_say := by decide +kernel
set_option maxRecDepth 20000 in
theorem w_X7_say_f69 : Cond.fieldLink RX7 69 "LayerStacksModel" "out" "[I" ∈ wsX7_say := by decide +kernel
set_option maxRecDepth 20000 in
theorem w_X7_say_f249 : Cond.fieldLink RX7 249 "LayerStacksModel" "written" "I" ∈ wsX7_say := by decide +kernel
set_option maxHeartbeats 4000000 in
set_option maxRecDepth 100000 in
theorem c_X7_say (l : Launch) (D : va_G) (y : Nat → ClassId) (q : Nat → Nat) (sz : Nat) (F : Nat) {v1 : Int32} {M_thrown : Int32} {M_text : Nat → Int32} {M_size : Int32} {M_has : Int32} {M_hand : Int32} {M_layers : Nat → Int32} {M_kinds : Nat → Int32} {M_names : Nat → Int64} {M_nameSizes : Nat → Int32} {M_thicknesses : Nat → Int64} {M_spreads : Nat → Int32} {M_coppers : Nat → Int32} {M_copperAt : Nat → Int32} {M_presses : Nat → Int32} {M_pressFrom : Nat → Int32} {M_pressTo : Nat → Int32} {M_vias : Nat → Int32} {M_viaFrom : Nat → Int32} {M_viaTo : Nat → Int32} {M_shares : Nat → Int32} {M_lists : Int32} {M_hasRow : Nat → Int32} {M_rowLow : Nat → Int64} {M_rowHigh : Nat → Int64} {M_p : Int32} {M_s : Int32} {M_fault : Int32} {M_lines : Int32} {M_word : Int64} {M_wordSize : Int32} {M_out : Nat → Int32} {M_written : Int32} {M_secondOne : Int32} {z : (Nat → Int32) × Int32} (hm : f_X7_say F v1 M_out M_written = some z) : Met l yX7_say wsX7_say ({ frames := 0, cells := 0, slots := 0, locals := 0 } : Room) (va_Pc [.ref (q 0), .int v1] (cP D y (wdX7 q y M_thrown M_text M_size M_has M_hand M_layers M_kinds M_names M_nameSizes M_thicknesses M_spreads M_coppers M_copperAt M_presses M_pressFrom M_pressTo M_vias M_viaFrom M_viaTo M_shares M_lists M_hasRow M_rowLow M_rowHigh M_p M_s M_fault M_lines M_word M_wordSize M_out M_written M_secondOne) sz)) (QV D y (va_A (wdX7 q y M_thrown M_text M_size M_has M_hand M_layers M_kinds M_names M_nameSizes M_thicknesses M_spreads M_coppers M_copperAt M_presses M_pressFrom M_pressTo M_vias M_viaFrom M_viaTo M_shares M_lists M_hasRow M_rowLow M_rowHigh M_p M_s M_fault M_lines M_word M_wordSize M_out M_written M_secondOne) sz) (wdX7 q y M_thrown M_text M_size M_has M_hand M_layers M_kinds M_names M_nameSizes M_thicknesses M_spreads M_coppers M_copperAt M_presses M_pressFrom M_pressTo M_vias M_viaFrom M_viaTo M_shares M_lists M_hasRow M_rowLow M_rowHigh M_p M_s M_fault M_lines M_word M_wordSize (z.1) (z.2) M_secondOne)) 0 0 (va_A (wdX7 q y M_thrown M_text M_size M_has M_hand M_layers M_kinds M_names M_nameSizes M_thicknesses M_spreads M_coppers M_copperAt M_presses M_pressFrom M_pressTo M_vias M_viaFrom M_viaTo M_shares M_lists M_hasRow M_rowLow M_rowHigh M_p M_s M_fault M_lines M_word M_wordSize M_out M_written M_secondOne) sz) := by
  refine met_of (own := RX7) (cc := cX7_say) (maxL := 2) (ret := none) (by decide) rfl rfl (Nat.le_of_ble_eq_true rfl) ?_
  intro p e s m below meth c ls C hsz hK hP hD hA hS hl
  obtain ⟨⟨hx, hb, hml, hown, hts⟩, hr, hlocks⟩ := id C
  have hl : lv_has ls 2 [(0, .ref (q 0)), (1, .int v1)] := hl
  generalize va_A (wdX7 q y M_thrown M_text M_size M_has M_hand M_layers M_kinds M_names M_nameSizes M_thicknesses M_spreads M_coppers M_copperAt M_presses M_pressFrom M_pressTo M_vias M_viaFrom M_viaTo M_shares M_lists M_hasRow M_rowLow M_rowHigh M_p M_s M_fault M_lines M_word M_wordSize M_out M_written M_secondOne) sz = A at hD hA hS ⊢
  generalize ([.ref (q 0), .int v1] : List Value).toArray = args at C hts ⊢
  unfold f_X7_say at hm
  refine lv_aload_n hx hb dX7_say_0 rfl (lv_at hl 0 rfl) ?_
  refine va_get (D := D) (ci := 7) (v := .ref (q 20)) (C := RX7) (T := TX7) (N := 33) hx hb hts n_X7_say_X7 hown hK hP 0 rfl rfl 30 (by decide) (hts _ w_X7_say_f69) (fun _ h9 => h9) rfl dX7_say_1 ?_
  refine lv_aload_n hx hb dX7_say_4 rfl (lv_at hl 0 rfl) ?_
  refine va_get (D := D) (ci := 7) (v := .int M_written) (C := RX7) (T := TX7) (N := 33) hx hb hts n_X7_say_X7 hown hK hP 0 rfl rfl 31 (by decide) (hts _ w_X7_say_f249) (fun _ h9 => h9) rfl dX7_say_5 ?_
  refine lv_iload_n hx hb dX7_say_8 rfl (lv_at hl 1 rfl) ?_
  obtain ⟨hg_1, hm⟩ := mg_of hm
  refine va_iast hx hb hK hP hD hS 20 0 rfl rfl hg_1 dX7_say_9 (fun H locs hP hD hS => ?_)
  have hP : va_P D vwCl (wdX7 q y M_thrown M_text M_size M_has M_hand M_layers M_kinds M_names M_nameSizes M_thicknesses M_spreads M_coppers M_copperAt M_presses M_pressFrom M_pressTo M_vias M_viaFrom M_viaTo M_shares M_lists M_hasRow M_rowLow M_rowHigh M_p M_s M_fault M_lines M_word M_wordSize (upd M_out (M_written).toNatClampNeg v1) M_written M_secondOne) H := hP
  have hD : va_D A (wdX7 q y M_thrown M_text M_size M_has M_hand M_layers M_kinds M_names M_nameSizes M_thicknesses M_spreads M_coppers M_copperAt M_presses M_pressFrom M_pressTo M_vias M_viaFrom M_viaTo M_shares M_lists M_hasRow M_rowLow M_rowHigh M_p M_s M_fault M_lines M_word M_wordSize (upd M_out (M_written).toNatClampNeg v1) M_written M_secondOne) := hD
  refine lv_aload_n hx hb dX7_say_10 rfl (lv_at hl 0 rfl) ?_
  refine lv_dup hx hb dX7_say_11 rfl ?_
  refine va_get (D := D) (ci := 7) (v := .int M_written) (C := RX7) (T := TX7) (N := 33) hx hb hts n_X7_say_X7 hown hK hP 0 rfl rfl 31 (by decide) (hts _ w_X7_say_f249) (fun _ h9 => h9) rfl dX7_say_12 ?_
  refine lv_iconst (v := (1 : Int32)) hx hb dX7_say_15 (by decide) ?_
  refine lv_iadd hx hb dX7_say_16 ?_
  refine va_put (D := D) (ci := 7) (v := .int (M_written + (1 : Int32))) (ty := .int) (C := RX7) (T := TX7) (N := 33) hx hb hts n_X7_say_X7 tyX7 tyX7_ok nmX7 hown hK hP hD hS 0 rfl rfl 31 (by decide) (hts _ w_X7_say_f249) (fun _ h9 => h9) rfl (by decide +kernel) rfl rfl (Nat.le_of_ble_eq_true rfl) dX7_say_17 (fun H locs hP hD hS => ?_)
  have hP : va_P D vwCl (wdX7 q y M_thrown M_text M_size M_has M_hand M_layers M_kinds M_names M_nameSizes M_thicknesses M_spreads M_coppers M_copperAt M_presses M_pressFrom M_pressTo M_vias M_viaFrom M_viaTo M_shares M_lists M_hasRow M_rowLow M_rowHigh M_p M_s M_fault M_lines M_word M_wordSize (upd M_out (M_written).toNatClampNeg v1) (M_written + (1 : Int32)) M_secondOne) H := hP
  have hD : va_D A (wdX7 q y M_thrown M_text M_size M_has M_hand M_layers M_kinds M_names M_nameSizes M_thicknesses M_spreads M_coppers M_copperAt M_presses M_pressFrom M_pressTo M_vias M_viaFrom M_viaTo M_shares M_lists M_hasRow M_rowLow M_rowHigh M_p M_s M_fault M_lines M_word M_wordSize (upd M_out (M_written).toNatClampNeg v1) (M_written + (1 : Int32)) M_secondOne) := hD
  have hz := Option.some.inj hm
  subst hz
  exact end_v C hK hP hD hS dX7_say_20
def g_X7_sayWord_2 (F : Nat) : Nat → Int32 → Int32 → (Nat → Int32) → Int32 → Option ((Nat → Int32) × Int32)
  | 0, _, _, _, _ => none
  | n + 1, v1, v2, M_out, M_written => mb1 (f_X7_letter F v1 v2) (fun r_1 => (if r_1 ≤ 0 then some (M_out, M_written) else mb1 (f_X7_letter F v1 v2) (fun r_4 => mb2 (f_X7_say F ((96 : Int32) + r_4) M_out M_written) (fun M_out_6 M_written_7 => mn (v2 + (1 : Int32)) (fun v2_9 => g_X7_sayWord_2 F n v1 v2_9 M_out_6 M_written_7)))))
theorem g_X7_sayWord_2_z (F : Nat) (v1 : Int32) (v2 : Int32) (M_out : Nat → Int32) (M_written : Int32) : g_X7_sayWord_2 F 0 v1 v2 M_out M_written = none := rfl
theorem g_X7_sayWord_2_s (F : Nat) (n : Nat) (v1 : Int32) (v2 : Int32) (M_out : Nat → Int32) (M_written : Int32) : g_X7_sayWord_2 F (n + 1) v1 v2 M_out M_written = mb1 (f_X7_letter F v1 v2) (fun r_1 => (if r_1 ≤ 0 then some (M_out, M_written) else mb1 (f_X7_letter F v1 v2) (fun r_4 => mb2 (f_X7_say F ((96 : Int32) + r_4) M_out M_written) (fun M_out_6 M_written_7 => mn (v2 + (1 : Int32)) (fun v2_9 => g_X7_sayWord_2 F n v1 v2_9 M_out_6 M_written_7))))) := rfl
def f_X7_sayWord (F : Nat) (v1 : Int32) (M_out : Nat → Int32) (M_written : Int32) : Option ((Nat → Int32) × Int32) := g_X7_sayWord_2 F F v1 (0 : Int32) M_out M_written
set_option maxHeartbeats 4000000 in
set_option maxRecDepth 100000 in
theorem k_X7_sayWord_2 {p : Program} {l : Launch} {e : Env} {s : State} {m : MethodId} {args : Array Value} {below : List Frame} {meth : Method} {c : Code} {D : va_G} {y : Nat → ClassId} {A : Nat → Prop} {q : Nat → Nat} {M_thrown : Int32} {M_text : Nat → Int32} {M_size : Int32} {M_has : Int32} {M_hand : Int32} {M_layers : Nat → Int32} {M_kinds : Nat → Int32} {M_names : Nat → Int64} {M_nameSizes : Nat → Int32} {M_thicknesses : Nat → Int64} {M_spreads : Nat → Int32} {M_coppers : Nat → Int32} {M_copperAt : Nat → Int32} {M_presses : Nat → Int32} {M_pressFrom : Nat → Int32} {M_pressTo : Nat → Int32} {M_vias : Nat → Int32} {M_viaFrom : Nat → Int32} {M_viaTo : Nat → Int32} {M_shares : Nat → Int32} {M_lists : Int32} {M_hasRow : Nat → Int32} {M_rowLow : Nat → Int64} {M_rowHigh : Nat → Int64} {M_p : Int32} {M_s : Int32} {M_fault : Int32} {M_lines : Int32} {M_word : Int64} {M_wordSize : Int32} {M_secondOne : Int32} {z : (Nat → Int32) × Int32} (C : CX p s m args meth c wsX7_sayWord RX7 cX7_sayWord 3 none) (hA : ∀ q : Nat, s.heap.size ≤ q → A q) (hK : va_K D vwCl (tyl y) s) (F : Nat) :
    ∀ (n : Nat), ∀ (v1 : Int32) (v2 : Int32) (M_out : Nat → Int32) (M_written : Int32) (H : Heap) (locs : List Loc) (ls : Array Slot), g_X7_sayWord_2 F n v1 v2 M_out M_written = some z → va_P D vwCl (wdX7 q y M_thrown M_text M_size M_has M_hand M_layers M_kinds M_names M_nameSizes M_thicknesses M_spreads M_coppers M_copperAt M_presses M_pressFrom M_pressTo M_vias M_viaFrom M_viaTo M_shares M_lists M_hasRow M_rowLow M_rowHigh M_p M_s M_fault M_lines M_word M_wordSize M_out M_written M_secondOne) H → va_D A (wdX7 q y M_thrown M_text M_size M_has M_hand M_layers M_kinds M_names M_nameSizes M_thicknesses M_spreads M_coppers M_copperAt M_presses M_pressFrom M_pressTo M_vias M_viaFrom M_viaTo M_shares M_lists M_hasRow M_rowLow M_rowHigh M_p M_s M_fault M_lines M_word M_wordSize M_out M_written M_secondOne) → va_S A s.heap H locs → lv_has ls 3 [(0, .ref (q 0)), (1, .int v1), (2, .int v2)] → W p l e ({ frames := 3, cells := 0, slots := 0, locals := 69 } : Room) s m args below meth c H locs 0 0 (MQ below (QV D y A (wdX7 q y M_thrown M_text M_size M_has M_hand M_layers M_kinds M_names M_nameSizes M_thicknesses M_spreads M_coppers M_copperAt M_presses M_pressFrom M_pressTo M_vias M_viaFrom M_viaTo M_shares M_lists M_hasRow M_rowLow M_rowHigh M_p M_s M_fault M_lines M_word M_wordSize (z.1) (z.2) M_secondOne)) args s 0 0 A) (F0 m 2 ls []) := by
  obtain ⟨⟨hx, hb, hml, hown, hts⟩, hr, hlocks⟩ := id C
  intro n
  induction n with
  | zero =>
    intro v1 v2 M_out M_written H locs ls hm
    rw [g_X7_sayWord_2_z] at hm
    cases hm
  | succ n ih =>
    intro v1 v2 M_out M_written H locs ls hm hP hD hS hl
    rw [g_X7_sayWord_2_s] at hm
    refine lv_iload_n hx hb dX7_sayWord_2 rfl (lv_at hl 1 rfl) ?_
    refine lv_iload_n hx hb dX7_sayWord_3 rfl (lv_at hl 2 rfl) ?_
    obtain ⟨r_1, hc_2, hm⟩ := mb1_of hm
    refine call_si (wc := ([] : va_W)) (wr := [(q 0, .inr (7, [.int M_thrown, .ref (q 1), .int M_size, .int M_has, .int M_hand, .ref (q 2), .ref (q 3), .ref (q 4), .ref (q 5), .ref (q 6), .ref (q 7), .ref (q 8), .ref (q 9), .ref (q 10), .ref (q 11), .ref (q 12), .ref (q 13), .ref (q 14), .ref (q 15), .ref (q 16), .int M_lists, .ref (q 17), .ref (q 18), .ref (q 19), .int M_p, .int M_s, .int M_fault, .int M_lines, .long M_word, .int M_wordSize, .ref (q 20), .int M_written, .int M_secondOne])), (q 1, .inl (y 0, 3000, .inl M_text)), (q 2, .inl (y 0, 2, .inl M_layers)), (q 3, .inl (y 0, 160, .inl M_kinds)), (q 4, .inl (y 1, 160, .inr (.inl M_names))), (q 5, .inl (y 0, 160, .inl M_nameSizes)), (q 6, .inl (y 1, 160, .inr (.inl M_thicknesses))), (q 7, .inl (y 0, 160, .inl M_spreads)), (q 8, .inl (y 0, 2, .inl M_coppers)), (q 9, .inl (y 0, 64, .inl M_copperAt)), (q 10, .inl (y 0, 2, .inl M_presses)), (q 11, .inl (y 0, 44, .inl M_pressFrom)), (q 12, .inl (y 0, 44, .inl M_pressTo)), (q 13, .inl (y 0, 2, .inl M_vias)), (q 14, .inl (y 0, 80, .inl M_viaFrom)), (q 15, .inl (y 0, 80, .inl M_viaTo)), (q 16, .inl (y 0, 32, .inl M_shares)), (q 17, .inl (y 3, 640, .inl M_hasRow)), (q 18, .inl (y 1, 640, .inr (.inl M_rowLow))), (q 19, .inl (y 1, 640, .inr (.inl M_rowHigh))), (q 20, .inl (y 0, 6000, .inl M_out))]) (As := [.int v1, .int v2]) (rest := []) C (c_X7_letter l D y _ F hc_2) (va_cwS 2 hts gX7_sayWord_X7_letter rfl rfl rfl (by decide +kernel) ⟨Nat.le_of_ble_eq_true rfl, Nat.le_of_ble_eq_true rfl⟩) hK hP hD hS hA [] [0, 1, 2, 3, 4, 5, 6, 7, 8, 9, 10, 11, 12, 13, 14, 15, 16, 17, 18, 19, 20] rfl rfl rfl rfl rfl (by decide) rfl hl.1 (Nat.le_of_ble_eq_true rfl) dX7_sayWord_4 (fun H locs hP hD hS => ?_)
    have hP : va_P D vwCl (wdX7 q y M_thrown M_text M_size M_has M_hand M_layers M_kinds M_names M_nameSizes M_thicknesses M_spreads M_coppers M_copperAt M_presses M_pressFrom M_pressTo M_vias M_viaFrom M_viaTo M_shares M_lists M_hasRow M_rowLow M_rowHigh M_p M_s M_fault M_lines M_word M_wordSize M_out M_written M_secondOne) H := hP
    have hD : va_D A (wdX7 q y M_thrown M_text M_size M_has M_hand M_layers M_kinds M_names M_nameSizes M_thicknesses M_spreads M_coppers M_copperAt M_presses M_pressFrom M_pressTo M_vias M_viaFrom M_viaTo M_shares M_lists M_hasRow M_rowLow M_rowHigh M_p M_s M_fault M_lines M_word M_wordSize M_out M_written M_secondOne) := hD
    refine lv_if_le (tgt := 28) hx hb dX7_sayWord_7 (by decide) (fun h_3 => ?_) (fun h_3 => ?_)
    · have hm := it_of hm h_3
      have hz := Option.some.inj hm
      subst hz
      exact end_v C hK hP hD hS dX7_sayWord_28
    · have hm := ie_of hm h_3
      refine lv_aload_n hx hb dX7_sayWord_10 rfl (lv_at hl 0 rfl) ?_
      refine lv_bipush (v := (96 : Int32)) hx hb dX7_sayWord_11 (by decide) ?_
      refine lv_iload_n hx hb dX7_sayWord_13 rfl (lv_at hl 1 rfl) ?_
      refine lv_iload_n hx hb dX7_sayWord_14 rfl (lv_at hl 2 rfl) ?_
      obtain ⟨r_4, hc_5, hm⟩ := mb1_of hm
      refine call_si (wc := ([] : va_W)) (wr := [(q 0, .inr (7, [.int M_thrown, .ref (q 1), .int M_size, .int M_has, .int M_hand, .ref (q 2), .ref (q 3), .ref (q 4), .ref (q 5), .ref (q 6), .ref (q 7), .ref (q 8), .ref (q 9), .ref (q 10), .ref (q 11), .ref (q 12), .ref (q 13), .ref (q 14), .ref (q 15), .ref (q 16), .int M_lists, .ref (q 17), .ref (q 18), .ref (q 19), .int M_p, .int M_s, .int M_fault, .int M_lines, .long M_word, .int M_wordSize, .ref (q 20), .int M_written, .int M_secondOne])), (q 1, .inl (y 0, 3000, .inl M_text)), (q 2, .inl (y 0, 2, .inl M_layers)), (q 3, .inl (y 0, 160, .inl M_kinds)), (q 4, .inl (y 1, 160, .inr (.inl M_names))), (q 5, .inl (y 0, 160, .inl M_nameSizes)), (q 6, .inl (y 1, 160, .inr (.inl M_thicknesses))), (q 7, .inl (y 0, 160, .inl M_spreads)), (q 8, .inl (y 0, 2, .inl M_coppers)), (q 9, .inl (y 0, 64, .inl M_copperAt)), (q 10, .inl (y 0, 2, .inl M_presses)), (q 11, .inl (y 0, 44, .inl M_pressFrom)), (q 12, .inl (y 0, 44, .inl M_pressTo)), (q 13, .inl (y 0, 2, .inl M_vias)), (q 14, .inl (y 0, 80, .inl M_viaFrom)), (q 15, .inl (y 0, 80, .inl M_viaTo)), (q 16, .inl (y 0, 32, .inl M_shares)), (q 17, .inl (y 3, 640, .inl M_hasRow)), (q 18, .inl (y 1, 640, .inr (.inl M_rowLow))), (q 19, .inl (y 1, 640, .inr (.inl M_rowHigh))), (q 20, .inl (y 0, 6000, .inl M_out))]) (As := [.int v1, .int v2]) (rest := [.int (96 : Int32), .ref (q 0)]) C (c_X7_letter l D y _ F hc_5) (va_cwS 2 hts gX7_sayWord_X7_letter rfl rfl rfl (by decide +kernel) ⟨Nat.le_of_ble_eq_true rfl, Nat.le_of_ble_eq_true rfl⟩) hK hP hD hS hA [] [0, 1, 2, 3, 4, 5, 6, 7, 8, 9, 10, 11, 12, 13, 14, 15, 16, 17, 18, 19, 20] rfl rfl rfl rfl rfl (by decide) rfl hl.1 (Nat.le_of_ble_eq_true rfl) dX7_sayWord_15 (fun H locs hP hD hS => ?_)
      have hP : va_P D vwCl (wdX7 q y M_thrown M_text M_size M_has M_hand M_layers M_kinds M_names M_nameSizes M_thicknesses M_spreads M_coppers M_copperAt M_presses M_pressFrom M_pressTo M_vias M_viaFrom M_viaTo M_shares M_lists M_hasRow M_rowLow M_rowHigh M_p M_s M_fault M_lines M_word M_wordSize M_out M_written M_secondOne) H := hP
      have hD : va_D A (wdX7 q y M_thrown M_text M_size M_has M_hand M_layers M_kinds M_names M_nameSizes M_thicknesses M_spreads M_coppers M_copperAt M_presses M_pressFrom M_pressTo M_vias M_viaFrom M_viaTo M_shares M_lists M_hasRow M_rowLow M_rowHigh M_p M_s M_fault M_lines M_word M_wordSize M_out M_written M_secondOne) := hD
      refine lv_iadd hx hb dX7_sayWord_18 ?_
      obtain ⟨M_out_6, M_written_7, hc_8, hm⟩ := mb2_of hm
      refine call_vv (wc := (wdX7 q y M_thrown M_text M_size M_has M_hand M_layers M_kinds M_names M_nameSizes M_thicknesses M_spreads M_coppers M_copperAt M_presses M_pressFrom M_pressTo M_vias M_viaFrom M_viaTo M_shares M_lists M_hasRow M_rowLow M_rowHigh M_p M_s M_fault M_lines M_word M_wordSize M_out M_written M_secondOne)) (wr := []) (As := [.int ((96 : Int32) + r_4)]) (rest := []) C (c_X7_say l D y q _ F hc_8) (cwV 1 hts gX7_sayWord_X7_say rfl rfl rfl (by decide +kernel) ⟨Nat.le_of_ble_eq_true rfl, Nat.le_of_ble_eq_true rfl⟩) hK hP hD hS hA [0, 1, 2, 3, 4, 5, 6, 7, 8, 9, 10, 11, 12, 13, 14, 15, 16, 17, 18, 19, 20] [] rfl rfl rfl rfl rfl (by decide) rfl rfl rfl rfl hl.1 (Nat.le_of_ble_eq_true rfl) dX7_sayWord_19 (fun H locs hP hD hS => ?_)
      have hP : va_P D vwCl (wdX7 q y M_thrown M_text M_size M_has M_hand M_layers M_kinds M_names M_nameSizes M_thicknesses M_spreads M_coppers M_copperAt M_presses M_pressFrom M_pressTo M_vias M_viaFrom M_viaTo M_shares M_lists M_hasRow M_rowLow M_rowHigh M_p M_s M_fault M_lines M_word M_wordSize M_out_6 M_written_7 M_secondOne) H := hP
      have hD : va_D A (wdX7 q y M_thrown M_text M_size M_has M_hand M_layers M_kinds M_names M_nameSizes M_thicknesses M_spreads M_coppers M_copperAt M_presses M_pressFrom M_pressTo M_vias M_viaFrom M_viaTo M_shares M_lists M_hasRow M_rowLow M_rowHigh M_p M_s M_fault M_lines M_word M_wordSize M_out_6 M_written_7 M_secondOne) := hD
      obtain ⟨v2_9, ev2_9⟩ : ∃ y9 : Int32, y9 = (v2 + (1 : Int32)) := ⟨_, rfl⟩
      have hm := mn_of ev2_9 hm
      refine lv_iinc (v := v2_9) (lv' := [(2, .int v2_9), (0, .ref (q 0)), (1, .int v1)]) hx hb dX7_sayWord_22 hl (k := 2) rfl (by rw [ev2_9]; rfl) (by decide) rfl (fun ls hl => ?_)
      refine lv_goto (tgt := 2) hx hb dX7_sayWord_25 (by decide) ?_
      exact ih v1 v2_9 M_out_6 M_written_7 _ _ _ hm hP hD hS (lv_sub hl [1, 2, 0] rfl)
set_option maxHeartbeats 4000000 in
set_option maxRecDepth 100000 in
theorem c_X7_sayWord (l : Launch) (D : va_G) (y : Nat → ClassId) (q : Nat → Nat) (sz : Nat) (F : Nat) {v1 : Int32} {M_thrown : Int32} {M_text : Nat → Int32} {M_size : Int32} {M_has : Int32} {M_hand : Int32} {M_layers : Nat → Int32} {M_kinds : Nat → Int32} {M_names : Nat → Int64} {M_nameSizes : Nat → Int32} {M_thicknesses : Nat → Int64} {M_spreads : Nat → Int32} {M_coppers : Nat → Int32} {M_copperAt : Nat → Int32} {M_presses : Nat → Int32} {M_pressFrom : Nat → Int32} {M_pressTo : Nat → Int32} {M_vias : Nat → Int32} {M_viaFrom : Nat → Int32} {M_viaTo : Nat → Int32} {M_shares : Nat → Int32} {M_lists : Int32} {M_hasRow : Nat → Int32} {M_rowLow : Nat → Int64} {M_rowHigh : Nat → Int64} {M_p : Int32} {M_s : Int32} {M_fault : Int32} {M_lines : Int32} {M_word : Int64} {M_wordSize : Int32} {M_out : Nat → Int32} {M_written : Int32} {M_secondOne : Int32} {z : (Nat → Int32) × Int32} (hm : f_X7_sayWord F v1 M_out M_written = some z) : Met l yX7_sayWord wsX7_sayWord ({ frames := 3, cells := 0, slots := 0, locals := 69 } : Room) (va_Pc [.ref (q 0), .int v1] (cP D y (wdX7 q y M_thrown M_text M_size M_has M_hand M_layers M_kinds M_names M_nameSizes M_thicknesses M_spreads M_coppers M_copperAt M_presses M_pressFrom M_pressTo M_vias M_viaFrom M_viaTo M_shares M_lists M_hasRow M_rowLow M_rowHigh M_p M_s M_fault M_lines M_word M_wordSize M_out M_written M_secondOne) sz)) (QV D y (va_A (wdX7 q y M_thrown M_text M_size M_has M_hand M_layers M_kinds M_names M_nameSizes M_thicknesses M_spreads M_coppers M_copperAt M_presses M_pressFrom M_pressTo M_vias M_viaFrom M_viaTo M_shares M_lists M_hasRow M_rowLow M_rowHigh M_p M_s M_fault M_lines M_word M_wordSize M_out M_written M_secondOne) sz) (wdX7 q y M_thrown M_text M_size M_has M_hand M_layers M_kinds M_names M_nameSizes M_thicknesses M_spreads M_coppers M_copperAt M_presses M_pressFrom M_pressTo M_vias M_viaFrom M_viaTo M_shares M_lists M_hasRow M_rowLow M_rowHigh M_p M_s M_fault M_lines M_word M_wordSize (z.1) (z.2) M_secondOne)) 0 0 (va_A (wdX7 q y M_thrown M_text M_size M_has M_hand M_layers M_kinds M_names M_nameSizes M_thicknesses M_spreads M_coppers M_copperAt M_presses M_pressFrom M_pressTo M_vias M_viaFrom M_viaTo M_shares M_lists M_hasRow M_rowLow M_rowHigh M_p M_s M_fault M_lines M_word M_wordSize M_out M_written M_secondOne) sz) := by
  refine met_of (own := RX7) (cc := cX7_sayWord) (maxL := 3) (ret := none) (by decide) rfl rfl (Nat.le_of_ble_eq_true rfl) ?_
  intro p e s m below meth c ls C hsz hK hP hD hA hS hl
  obtain ⟨⟨hx, hb, hml, hown, hts⟩, hr, hlocks⟩ := id C
  have hl : lv_has ls 3 [(0, .ref (q 0)), (1, .int v1)] := hl
  generalize va_A (wdX7 q y M_thrown M_text M_size M_has M_hand M_layers M_kinds M_names M_nameSizes M_thicknesses M_spreads M_coppers M_copperAt M_presses M_pressFrom M_pressTo M_vias M_viaFrom M_viaTo M_shares M_lists M_hasRow M_rowLow M_rowHigh M_p M_s M_fault M_lines M_word M_wordSize M_out M_written M_secondOne) sz = A at hD hA hS ⊢
  generalize ([.ref (q 0), .int v1] : List Value).toArray = args at C hts ⊢
  unfold f_X7_sayWord at hm
  refine lv_iconst (v := (0 : Int32)) hx hb dX7_sayWord_0 (by decide) ?_
  refine lv_istore_n (lv' := [(2, .int (0 : Int32)), (0, .ref (q 0)), (1, .int v1)]) hx hb dX7_sayWord_1 rfl hl (by decide) rfl (fun ls hl => ?_)
  exact k_X7_sayWord_2 C hA hK F F v1 (0 : Int32) M_out M_written _ _ _ hm hP hD hS (lv_sub hl [1, 2, 0] rfl)
def g_X7_sayName_25 (F : Nat) : Nat → Int32 → Int32 → (Nat → Int64) → (Nat → Int32) → Int32 → Option ((Nat → Int32) × Int32)
  | 0, _, _, _, _, _ => none
  | n + 1, v2, v3, M_names, M_out, M_written => (if v3 < 0 then some (M_out, M_written) else mg (inb v2 160) (mb2 (f_X7_say F (((((M_names (v2).toNatClampNeg) >>> ((((7 : Int32) * v3)).toInt64 &&& 63)) &&& (127 : Int64))).toInt32) M_out M_written) (fun M_out_3 M_written_4 => mn (v3 + (-1 : Int32)) (fun v3_6 => g_X7_sayName_25 F n v2 v3_6 M_names M_out_3 M_written_4))))
theorem g_X7_sayName_25_z (F : Nat) (v2 : Int32) (v3 : Int32) (M_names : Nat → Int64) (M_out : Nat → Int32) (M_written : Int32) : g_X7_sayName_25 F 0 v2 v3 M_names M_out M_written = none := rfl
theorem g_X7_sayName_25_s (F : Nat) (n : Nat) (v2 : Int32) (v3 : Int32) (M_names : Nat → Int64) (M_out : Nat → Int32) (M_written : Int32) : g_X7_sayName_25 F (n + 1) v2 v3 M_names M_out M_written = (if v3 < 0 then some (M_out, M_written) else mg (inb v2 160) (mb2 (f_X7_say F (((((M_names (v2).toNatClampNeg) >>> ((((7 : Int32) * v3)).toInt64 &&& 63)) &&& (127 : Int64))).toInt32) M_out M_written) (fun M_out_3 M_written_4 => mn (v3 + (-1 : Int32)) (fun v3_6 => g_X7_sayName_25 F n v2 v3_6 M_names M_out_3 M_written_4)))) := rfl
def f_X7_sayName (F : Nat) (v1 : Int32) (M_hand : Int32) (M_names : Nat → Int64) (M_nameSizes : Nat → Int32) (M_out : Nat → Int32) (M_written : Int32) : Option ((Nat → Int32) × Int32) := mn (((80 : Int32) * M_hand) + v1) (fun v2_1 => mb2 (f_X7_say F (32 : Int32) M_out M_written) (fun M_out_2 M_written_3 => mg (inb v2_1 160) (mn ((M_nameSizes (v2_1).toNatClampNeg) - (1 : Int32)) (fun v3_6 => g_X7_sayName_25 F F v2_1 v3_6 M_names M_out_2 M_written_3))))
set_option maxRecDepth 20000 in
theorem n_X7_sayName_X7 : ∀ w ∈ wsX70, w ∈ wsX7_sayName := by decide +kernel
set_option maxRecDepth 20000 in
theorem w_X7_sayName_f19 : Cond.fieldLink RX7 19 "LayerStacksModel" "names" "[J" ∈ wsX7_sayName := by decide +kernel
set_option maxRecDepth 20000 in
theorem w_X7_sayName_k255 : Cond.constantLong RX7 255 (127) ∈ wsX7_sayName := by decide +kernel
set_option maxRecDepth 20000 in
theorem w_X7_sayName_f195 : Cond.fieldLink RX7 195 "LayerStacksModel" "hand" "I" ∈ wsX7_sayName := by decide +kernel
set_option maxRecDepth 20000 in
theorem w_X7_sayName_f23 : Cond.fieldLink RX7 23 "LayerStacksModel" "nameSizes" "[I" ∈ wsX7_sayName := by decide +kernel
set_option maxHeartbeats 4000000 in
set_option maxRecDepth 100000 in
theorem k_X7_sayName_25 {p : Program} {l : Launch} {e : Env} {s : State} {m : MethodId} {args : Array Value} {below : List Frame} {meth : Method} {c : Code} {D : va_G} {y : Nat → ClassId} {A : Nat → Prop} {q : Nat → Nat} {M_thrown : Int32} {M_text : Nat → Int32} {M_size : Int32} {M_has : Int32} {M_hand : Int32} {M_layers : Nat → Int32} {M_kinds : Nat → Int32} {M_nameSizes : Nat → Int32} {M_thicknesses : Nat → Int64} {M_spreads : Nat → Int32} {M_coppers : Nat → Int32} {M_copperAt : Nat → Int32} {M_presses : Nat → Int32} {M_pressFrom : Nat → Int32} {M_pressTo : Nat → Int32} {M_vias : Nat → Int32} {M_viaFrom : Nat → Int32} {M_viaTo : Nat → Int32} {M_shares : Nat → Int32} {M_lists : Int32} {M_hasRow : Nat → Int32} {M_rowLow : Nat → Int64} {M_rowHigh : Nat → Int64} {M_p : Int32} {M_s : Int32} {M_fault : Int32} {M_lines : Int32} {M_word : Int64} {M_wordSize : Int32} {M_secondOne : Int32} {z : (Nat → Int32) × Int32} (C : CX p s m args meth c wsX7_sayName RX7 cX7_sayName 4 none) (hA : ∀ q : Nat, s.heap.size ≤ q → A q) (hK : va_K D vwCl (tyl y) s) (F : Nat) :
    ∀ (n : Nat), ∀ (v2 : Int32) (v3 : Int32) (M_names : Nat → Int64) (M_out : Nat → Int32) (M_written : Int32) (H : Heap) (locs : List Loc) (ls : Array Slot), g_X7_sayName_25 F n v2 v3 M_names M_out M_written = some z → va_P D vwCl (wdX7 q y M_thrown M_text M_size M_has M_hand M_layers M_kinds M_names M_nameSizes M_thicknesses M_spreads M_coppers M_copperAt M_presses M_pressFrom M_pressTo M_vias M_viaFrom M_viaTo M_shares M_lists M_hasRow M_rowLow M_rowHigh M_p M_s M_fault M_lines M_word M_wordSize M_out M_written M_secondOne) H → va_D A (wdX7 q y M_thrown M_text M_size M_has M_hand M_layers M_kinds M_names M_nameSizes M_thicknesses M_spreads M_coppers M_copperAt M_presses M_pressFrom M_pressTo M_vias M_viaFrom M_viaTo M_shares M_lists M_hasRow M_rowLow M_rowHigh M_p M_s M_fault M_lines M_word M_wordSize M_out M_written M_secondOne) → va_S A s.heap H locs → lv_has ls 4 [(0, .ref (q 0)), (2, .int v2), (3, .int v3)] → W p l e ({ frames := 1, cells := 0, slots := 0, locals := 21 } : Room) s m args below meth c H locs 0 0 (MQ below (QV D y A (wdX7 q y M_thrown M_text M_size M_has M_hand M_layers M_kinds M_names M_nameSizes M_thicknesses M_spreads M_coppers M_copperAt M_presses M_pressFrom M_pressTo M_vias M_viaFrom M_viaTo M_shares M_lists M_hasRow M_rowLow M_rowHigh M_p M_s M_fault M_lines M_word M_wordSize (z.1) (z.2) M_secondOne)) args s 0 0 A) (F0 m 25 ls []) := by
  obtain ⟨⟨hx, hb, hml, hown, hts⟩, hr, hlocks⟩ := id C
  intro n
  induction n with
  | zero =>
    intro v2 v3 M_names M_out M_written H locs ls hm
    rw [g_X7_sayName_25_z] at hm
    cases hm
  | succ n ih =>
    intro v2 v3 M_names M_out M_written H locs ls hm hP hD hS hl
    rw [g_X7_sayName_25_s] at hm
    refine lv_iload_n hx hb dX7_sayName_25 rfl (lv_at hl 2 rfl) ?_
    refine lv_if_lt (tgt := 55) hx hb dX7_sayName_26 (by decide) (fun h_1 => ?_) (fun h_1 => ?_)
    · have hm := it_of hm h_1
      have hz := Option.some.inj hm
      subst hz
      exact end_v C hK hP hD hS dX7_sayName_55
    · have hm := ie_of hm h_1
      refine lv_aload_n hx hb dX7_sayName_29 rfl (lv_at hl 0 rfl) ?_
      refine lv_aload_n hx hb dX7_sayName_30 rfl (lv_at hl 0 rfl) ?_
      refine va_get (D := D) (ci := 7) (v := .ref (q 4)) (C := RX7) (T := TX7) (N := 33) hx hb hts n_X7_sayName_X7 hown hK hP 0 rfl rfl 7 (by decide) (hts _ w_X7_sayName_f19) (fun _ h9 => h9) rfl dX7_sayName_31 ?_
      refine lv_iload_n hx hb dX7_sayName_34 rfl (lv_at hl 1 rfl) ?_
      obtain ⟨hg_2, hm⟩ := mg_of hm
      refine va_lald hx hb hK hP 4 1 rfl rfl hg_2 dX7_sayName_35 ?_
      refine lv_bipush (v := (7 : Int32)) hx hb dX7_sayName_36 (by decide) ?_
      refine lv_iload_n hx hb dX7_sayName_38 rfl (lv_at hl 2 rfl) ?_
      refine lv_imul hx hb dX7_sayName_39 ?_
      refine lv_lshr (v := ((M_names (v2).toNatClampNeg) >>> ((((7 : Int32) * v3)).toInt64 &&& 63))) hx hb dX7_sayName_40 rfl ?_
      refine lv_ldc2 (v := (127 : Int64)) hx hb hown (hts _ w_X7_sayName_k255) dX7_sayName_41 ?_
      refine lv_land hx hb dX7_sayName_44 ?_
      refine lv_l2i (v := ((((M_names (v2).toNatClampNeg) >>> ((((7 : Int32) * v3)).toInt64 &&& 63)) &&& (127 : Int64))).toInt32) hx hb dX7_sayName_45 rfl ?_
      obtain ⟨M_out_3, M_written_4, hc_5, hm⟩ := mb2_of hm
      refine call_vv (wc := (wdX7 q y M_thrown M_text M_size M_has M_hand M_layers M_kinds M_names M_nameSizes M_thicknesses M_spreads M_coppers M_copperAt M_presses M_pressFrom M_pressTo M_vias M_viaFrom M_viaTo M_shares M_lists M_hasRow M_rowLow M_rowHigh M_p M_s M_fault M_lines M_word M_wordSize M_out M_written M_secondOne)) (wr := []) (As := [.int (((((M_names (v2).toNatClampNeg) >>> ((((7 : Int32) * v3)).toInt64 &&& 63)) &&& (127 : Int64))).toInt32)]) (rest := []) C (c_X7_say l D y q _ F hc_5) (cwV 1 hts gX7_sayName_X7_say rfl rfl rfl (by decide +kernel) ⟨Nat.le_of_ble_eq_true rfl, Nat.le_of_ble_eq_true rfl⟩) hK hP hD hS hA [0, 1, 2, 3, 4, 5, 6, 7, 8, 9, 10, 11, 12, 13, 14, 15, 16, 17, 18, 19, 20] [] rfl rfl rfl rfl rfl (by decide) rfl rfl rfl rfl hl.1 (Nat.le_of_ble_eq_true rfl) dX7_sayName_46 (fun H locs hP hD hS => ?_)
      have hP : va_P D vwCl (wdX7 q y M_thrown M_text M_size M_has M_hand M_layers M_kinds M_names M_nameSizes M_thicknesses M_spreads M_coppers M_copperAt M_presses M_pressFrom M_pressTo M_vias M_viaFrom M_viaTo M_shares M_lists M_hasRow M_rowLow M_rowHigh M_p M_s M_fault M_lines M_word M_wordSize M_out_3 M_written_4 M_secondOne) H := hP
      have hD : va_D A (wdX7 q y M_thrown M_text M_size M_has M_hand M_layers M_kinds M_names M_nameSizes M_thicknesses M_spreads M_coppers M_copperAt M_presses M_pressFrom M_pressTo M_vias M_viaFrom M_viaTo M_shares M_lists M_hasRow M_rowLow M_rowHigh M_p M_s M_fault M_lines M_word M_wordSize M_out_3 M_written_4 M_secondOne) := hD
      obtain ⟨v3_6, ev3_6⟩ : ∃ y9 : Int32, y9 = (v3 + (-1 : Int32)) := ⟨_, rfl⟩
      have hm := mn_of ev3_6 hm
      refine lv_iinc (v := v3_6) (lv' := [(3, .int v3_6), (0, .ref (q 0)), (2, .int v2)]) hx hb dX7_sayName_49 hl (k := 2) rfl (by rw [ev3_6]; rfl) (by decide) rfl (fun ls hl => ?_)
      refine lv_goto (tgt := 25) hx hb dX7_sayName_52 (by decide) ?_
      exact ih v2 v3_6 M_names M_out_3 M_written_4 _ _ _ hm hP hD hS (lv_sub hl [1, 2, 0] rfl)
set_option maxHeartbeats 4000000 in
set_option maxRecDepth 100000 in
theorem c_X7_sayName (l : Launch) (D : va_G) (y : Nat → ClassId) (q : Nat → Nat) (sz : Nat) (F : Nat) {v1 : Int32} {M_thrown : Int32} {M_text : Nat → Int32} {M_size : Int32} {M_has : Int32} {M_hand : Int32} {M_layers : Nat → Int32} {M_kinds : Nat → Int32} {M_names : Nat → Int64} {M_nameSizes : Nat → Int32} {M_thicknesses : Nat → Int64} {M_spreads : Nat → Int32} {M_coppers : Nat → Int32} {M_copperAt : Nat → Int32} {M_presses : Nat → Int32} {M_pressFrom : Nat → Int32} {M_pressTo : Nat → Int32} {M_vias : Nat → Int32} {M_viaFrom : Nat → Int32} {M_viaTo : Nat → Int32} {M_shares : Nat → Int32} {M_lists : Int32} {M_hasRow : Nat → Int32} {M_rowLow : Nat → Int64} {M_rowHigh : Nat → Int64} {M_p : Int32} {M_s : Int32} {M_fault : Int32} {M_lines : Int32} {M_word : Int64} {M_wordSize : Int32} {M_out : Nat → Int32} {M_written : Int32} {M_secondOne : Int32} {z : (Nat → Int32) × Int32} (hm : f_X7_sayName F v1 M_hand M_names M_nameSizes M_out M_written = some z) : Met l yX7_sayName wsX7_sayName ({ frames := 1, cells := 0, slots := 0, locals := 21 } : Room) (va_Pc [.ref (q 0), .int v1] (cP D y (wdX7 q y M_thrown M_text M_size M_has M_hand M_layers M_kinds M_names M_nameSizes M_thicknesses M_spreads M_coppers M_copperAt M_presses M_pressFrom M_pressTo M_vias M_viaFrom M_viaTo M_shares M_lists M_hasRow M_rowLow M_rowHigh M_p M_s M_fault M_lines M_word M_wordSize M_out M_written M_secondOne) sz)) (QV D y (va_A (wdX7 q y M_thrown M_text M_size M_has M_hand M_layers M_kinds M_names M_nameSizes M_thicknesses M_spreads M_coppers M_copperAt M_presses M_pressFrom M_pressTo M_vias M_viaFrom M_viaTo M_shares M_lists M_hasRow M_rowLow M_rowHigh M_p M_s M_fault M_lines M_word M_wordSize M_out M_written M_secondOne) sz) (wdX7 q y M_thrown M_text M_size M_has M_hand M_layers M_kinds M_names M_nameSizes M_thicknesses M_spreads M_coppers M_copperAt M_presses M_pressFrom M_pressTo M_vias M_viaFrom M_viaTo M_shares M_lists M_hasRow M_rowLow M_rowHigh M_p M_s M_fault M_lines M_word M_wordSize (z.1) (z.2) M_secondOne)) 0 0 (va_A (wdX7 q y M_thrown M_text M_size M_has M_hand M_layers M_kinds M_names M_nameSizes M_thicknesses M_spreads M_coppers M_copperAt M_presses M_pressFrom M_pressTo M_vias M_viaFrom M_viaTo M_shares M_lists M_hasRow M_rowLow M_rowHigh M_p M_s M_fault M_lines M_word M_wordSize M_out M_written M_secondOne) sz) := by
  refine met_of (own := RX7) (cc := cX7_sayName) (maxL := 4) (ret := none) (by decide) rfl rfl (Nat.le_of_ble_eq_true rfl) ?_
  intro p e s m below meth c ls C hsz hK hP hD hA hS hl
  obtain ⟨⟨hx, hb, hml, hown, hts⟩, hr, hlocks⟩ := id C
  have hl : lv_has ls 4 [(0, .ref (q 0)), (1, .int v1)] := hl
  generalize va_A (wdX7 q y M_thrown M_text M_size M_has M_hand M_layers M_kinds M_names M_nameSizes M_thicknesses M_spreads M_coppers M_copperAt M_presses M_pressFrom M_pressTo M_vias M_viaFrom M_viaTo M_shares M_lists M_hasRow M_rowLow M_rowHigh M_p M_s M_fault M_lines M_word M_wordSize M_out M_written M_secondOne) sz = A at hD hA hS ⊢
  generalize ([.ref (q 0), .int v1] : List Value).toArray = args at C hts ⊢
  unfold f_X7_sayName at hm
  refine lv_bipush (v := (80 : Int32)) hx hb dX7_sayName_0 (by decide) ?_
  refine lv_aload_n hx hb dX7_sayName_2 rfl (lv_at hl 0 rfl) ?_
  refine va_get (D := D) (ci := 7) (v := .int M_hand) (C := RX7) (T := TX7) (N := 33) hx hb hts n_X7_sayName_X7 hown hK hP 0 rfl rfl 4 (by decide) (hts _ w_X7_sayName_f195) (fun _ h9 => h9) rfl dX7_sayName_3 ?_
  refine lv_imul hx hb dX7_sayName_6 ?_
  refine lv_iload_n hx hb dX7_sayName_7 rfl (lv_at hl 1 rfl) ?_
  refine lv_iadd hx hb dX7_sayName_8 ?_
  refine lv_topi (fun v2_1 ev2_1 => ?_)
  have hm := mn_of ev2_1 hm
  refine lv_istore_n (lv' := [(2, .int v2_1), (0, .ref (q 0)), (1, .int v1)]) hx hb dX7_sayName_9 rfl hl (by decide) rfl (fun ls hl => ?_)
  refine lv_aload_n hx hb dX7_sayName_10 rfl (lv_at hl 1 rfl) ?_
  refine lv_bipush (v := (32 : Int32)) hx hb dX7_sayName_11 (by decide) ?_
  obtain ⟨M_out_2, M_written_3, hc_4, hm⟩ := mb2_of hm
  refine call_vv (wc := (wdX7 q y M_thrown M_text M_size M_has M_hand M_layers M_kinds M_names M_nameSizes M_thicknesses M_spreads M_coppers M_copperAt M_presses M_pressFrom M_pressTo M_vias M_viaFrom M_viaTo M_shares M_lists M_hasRow M_rowLow M_rowHigh M_p M_s M_fault M_lines M_word M_wordSize M_out M_written M_secondOne)) (wr := []) (As := [.int (32 : Int32)]) (rest := []) C (c_X7_say l D y q _ F hc_4) (cwV 1 hts gX7_sayName_X7_say rfl rfl rfl (by decide +kernel) ⟨Nat.le_of_ble_eq_true rfl, Nat.le_of_ble_eq_true rfl⟩) hK hP hD hS hA [0, 1, 2, 3, 4, 5, 6, 7, 8, 9, 10, 11, 12, 13, 14, 15, 16, 17, 18, 19, 20] [] rfl rfl rfl rfl rfl (by decide) rfl rfl rfl rfl hl.1 (Nat.le_of_ble_eq_true rfl) dX7_sayName_13 (fun H locs hP hD hS => ?_)
  have hP : va_P D vwCl (wdX7 q y M_thrown M_text M_size M_has M_hand M_layers M_kinds M_names M_nameSizes M_thicknesses M_spreads M_coppers M_copperAt M_presses M_pressFrom M_pressTo M_vias M_viaFrom M_viaTo M_shares M_lists M_hasRow M_rowLow M_rowHigh M_p M_s M_fault M_lines M_word M_wordSize M_out_2 M_written_3 M_secondOne) H := hP
  have hD : va_D A (wdX7 q y M_thrown M_text M_size M_has M_hand M_layers M_kinds M_names M_nameSizes M_thicknesses M_spreads M_coppers M_copperAt M_presses M_pressFrom M_pressTo M_vias M_viaFrom M_viaTo M_shares M_lists M_hasRow M_rowLow M_rowHigh M_p M_s M_fault M_lines M_word M_wordSize M_out_2 M_written_3 M_secondOne) := hD
  refine lv_aload_n hx hb dX7_sayName_16 rfl (lv_at hl 1 rfl) ?_
  refine va_get (D := D) (ci := 7) (v := .ref (q 5)) (C := RX7) (T := TX7) (N := 33) hx hb hts n_X7_sayName_X7 hown hK hP 0 rfl rfl 8 (by decide) (hts _ w_X7_sayName_f23) (fun _ h9 => h9) rfl dX7_sayName_17 ?_
  refine lv_iload_n hx hb dX7_sayName_20 rfl (lv_at hl 0 rfl) ?_
  obtain ⟨hg_5, hm⟩ := mg_of hm
  refine va_iald hx hb hK hP 5 0 rfl rfl hg_5 dX7_sayName_21 ?_
  refine lv_iconst (v := (1 : Int32)) hx hb dX7_sayName_22 (by decide) ?_
  refine lv_isub hx hb dX7_sayName_23 ?_
  refine lv_topi (fun v3_6 ev3_6 => ?_)
  have hm := mn_of ev3_6 hm
  refine lv_istore_n (lv' := [(3, .int v3_6), (2, .int v2_1), (0, .ref (q 0)), (1, .int v1)]) hx hb dX7_sayName_24 rfl hl (by decide) rfl (fun ls hl => ?_)
  exact k_X7_sayName_25 C hA hK F F v2_1 v3_6 M_names M_out_2 M_written_3 _ _ _ hm hP hD hS (lv_sub hl [2, 1, 0] rfl)
def g_X7_sayNumber_97 (F : Nat) : Nat → Int64 → Int64 → (Nat → Int32) → Int32 → Option ((Nat → Int32) × Int32)
  | 0, _, _, _, _ => none
  | n + 1, v7, v9, M_out, M_written => (if (lg_cmp v9 (0 : Int64)) ≤ 0 then some (M_out, M_written) else mg (¬ v7 = 0) (mb2 (f_X7_say F ((((v9 / v7)).toInt32) + (48 : Int32)) M_out M_written) (fun M_out_3 M_written_4 => mg (¬ v7 = 0) (mn (v9 - v9 / v7 * v7) (fun v9_7 => mn (v7 / (10 : Int64)) (fun v7_8 => g_X7_sayNumber_97 F n v7_8 v9_7 M_out_3 M_written_4))))))
theorem g_X7_sayNumber_97_z (F : Nat) (v7 : Int64) (v9 : Int64) (M_out : Nat → Int32) (M_written : Int32) : g_X7_sayNumber_97 F 0 v7 v9 M_out M_written = none := rfl
theorem g_X7_sayNumber_97_s (F : Nat) (n : Nat) (v7 : Int64) (v9 : Int64) (M_out : Nat → Int32) (M_written : Int32) : g_X7_sayNumber_97 F (n + 1) v7 v9 M_out M_written = (if (lg_cmp v9 (0 : Int64)) ≤ 0 then some (M_out, M_written) else mg (¬ v7 = 0) (mb2 (f_X7_say F ((((v9 / v7)).toInt32) + (48 : Int32)) M_out M_written) (fun M_out_3 M_written_4 => mg (¬ v7 = 0) (mn (v9 - v9 / v7 * v7) (fun v9_7 => mn (v7 / (10 : Int64)) (fun v7_8 => g_X7_sayNumber_97 F n v7_8 v9_7 M_out_3 M_written_4)))))) := rfl
def g_X7_sayNumber_37 (F : Nat) : Nat → Int64 → Int64 → Int64 → Int64 → (Nat → Int32) → Int32 → Option ((Nat → Int32) × Int32)
  | 0, _, _, _, _, _, _ => none
  | n + 1, v1, v3, v5, v7, M_out, M_written => (if (lg_cmp v7 (0 : Int64)) ≤ 0 then mg (¬ v3 = 0) (mn (v1 - v1 / v3 * v3) (fun v9_3 => (if (lg_cmp v9_3 (0 : Int64)) ≤ 0 then mn (v3 / (10 : Int64)) (fun v7_5 => g_X7_sayNumber_97 F F v7_5 v9_3 M_out M_written) else mb2 (f_X7_say F (46 : Int32) M_out M_written) (fun M_out_6 M_written_7 => mn (v3 / (10 : Int64)) (fun v7_9 => g_X7_sayNumber_97 F F v7_9 v9_3 M_out_6 M_written_7))))) else mg (¬ v7 = 0) (mb2 (f_X7_say F (((((v5 / v7) - (v5 / v7) / (10 : Int64) * (10 : Int64))).toInt32) + (48 : Int32)) M_out M_written) (fun M_out_11 M_written_12 => mn (v7 / (10 : Int64)) (fun v7_14 => g_X7_sayNumber_37 F n v1 v3 v5 v7_14 M_out_11 M_written_12))))
theorem g_X7_sayNumber_37_z (F : Nat) (v1 : Int64) (v3 : Int64) (v5 : Int64) (v7 : Int64) (M_out : Nat → Int32) (M_written : Int32) : g_X7_sayNumber_37 F 0 v1 v3 v5 v7 M_out M_written = none := rfl
theorem g_X7_sayNumber_37_s (F : Nat) (n : Nat) (v1 : Int64) (v3 : Int64) (v5 : Int64) (v7 : Int64) (M_out : Nat → Int32) (M_written : Int32) : g_X7_sayNumber_37 F (n + 1) v1 v3 v5 v7 M_out M_written = (if (lg_cmp v7 (0 : Int64)) ≤ 0 then mg (¬ v3 = 0) (mn (v1 - v1 / v3 * v3) (fun v9_3 => (if (lg_cmp v9_3 (0 : Int64)) ≤ 0 then mn (v3 / (10 : Int64)) (fun v7_5 => g_X7_sayNumber_97 F F v7_5 v9_3 M_out M_written) else mb2 (f_X7_say F (46 : Int32) M_out M_written) (fun M_out_6 M_written_7 => mn (v3 / (10 : Int64)) (fun v7_9 => g_X7_sayNumber_97 F F v7_9 v9_3 M_out_6 M_written_7))))) else mg (¬ v7 = 0) (mb2 (f_X7_say F (((((v5 / v7) - (v5 / v7) / (10 : Int64) * (10 : Int64))).toInt32) + (48 : Int32)) M_out M_written) (fun M_out_11 M_written_12 => mn (v7 / (10 : Int64)) (fun v7_14 => g_X7_sayNumber_37 F n v1 v3 v5 v7_14 M_out_11 M_written_12)))) := rfl
def g_X7_sayNumber_14 (F : Nat) : Nat → Int64 → Int64 → Int64 → Int64 → (Nat → Int32) → Int32 → Option ((Nat → Int32) × Int32)
  | 0, _, _, _, _, _, _ => none
  | n + 1, v1, v3, v5, v7, M_out, M_written => mg (¬ v7 = 0) ((if (lg_cmp (v5 / v7) (10 : Int64)) < 0 then g_X7_sayNumber_37 F F v1 v3 v5 v7 M_out M_written else mn ((10 : Int64) * v7) (fun v7_3 => g_X7_sayNumber_14 F n v1 v3 v5 v7_3 M_out M_written)))
theorem g_X7_sayNumber_14_z (F : Nat) (v1 : Int64) (v3 : Int64) (v5 : Int64) (v7 : Int64) (M_out : Nat → Int32) (M_written : Int32) : g_X7_sayNumber_14 F 0 v1 v3 v5 v7 M_out M_written = none := rfl
theorem g_X7_sayNumber_14_s (F : Nat) (n : Nat) (v1 : Int64) (v3 : Int64) (v5 : Int64) (v7 : Int64) (M_out : Nat → Int32) (M_written : Int32) : g_X7_sayNumber_14 F (n + 1) v1 v3 v5 v7 M_out M_written = mg (¬ v7 = 0) ((if (lg_cmp (v5 / v7) (10 : Int64)) < 0 then g_X7_sayNumber_37 F F v1 v3 v5 v7 M_out M_written else mn ((10 : Int64) * v7) (fun v7_3 => g_X7_sayNumber_14 F n v1 v3 v5 v7_3 M_out M_written))) := rfl
def f_X7_sayNumber (F : Nat) (v1 : Int64) (v3 : Int64) (M_out : Nat → Int32) (M_written : Int32) : Option ((Nat → Int32) × Int32) := mb2 (f_X7_say F (32 : Int32) M_out M_written) (fun M_out_1 M_written_2 => mg (¬ v3 = 0) (mn (v1 / v3) (fun v5_5 => g_X7_sayNumber_14 F F v1 v3 v5_5 (1 : Int64) M_out_1 M_written_2)))
set_option maxRecDepth 20000 in
theorem w_X7_sayNumber_k127 : Cond.constantLong RX7 127 (10) ∈ wsX7_sayNumber := by decide +kernel
set_option maxHeartbeats 4000000 in
set_option maxRecDepth 100000 in
theorem k_X7_sayNumber_97 {p : Program} {l : Launch} {e : Env} {s : State} {m : MethodId} {args : Array Value} {below : List Frame} {meth : Method} {c : Code} {D : va_G} {y : Nat → ClassId} {A : Nat → Prop} {q : Nat → Nat} {M_thrown : Int32} {M_text : Nat → Int32} {M_size : Int32} {M_has : Int32} {M_hand : Int32} {M_layers : Nat → Int32} {M_kinds : Nat → Int32} {M_names : Nat → Int64} {M_nameSizes : Nat → Int32} {M_thicknesses : Nat → Int64} {M_spreads : Nat → Int32} {M_coppers : Nat → Int32} {M_copperAt : Nat → Int32} {M_presses : Nat → Int32} {M_pressFrom : Nat → Int32} {M_pressTo : Nat → Int32} {M_vias : Nat → Int32} {M_viaFrom : Nat → Int32} {M_viaTo : Nat → Int32} {M_shares : Nat → Int32} {M_lists : Int32} {M_hasRow : Nat → Int32} {M_rowLow : Nat → Int64} {M_rowHigh : Nat → Int64} {M_p : Int32} {M_s : Int32} {M_fault : Int32} {M_lines : Int32} {M_word : Int64} {M_wordSize : Int32} {M_secondOne : Int32} {z : (Nat → Int32) × Int32} (C : CX p s m args meth c wsX7_sayNumber RX7 cX7_sayNumber 11 none) (hA : ∀ q : Nat, s.heap.size ≤ q → A q) (hK : va_K D vwCl (tyl y) s) (F : Nat) :
    ∀ (n : Nat), ∀ (v7 : Int64) (v9 : Int64) (M_out : Nat → Int32) (M_written : Int32) (H : Heap) (locs : List Loc) (ls : Array Slot), g_X7_sayNumber_97 F n v7 v9 M_out M_written = some z → va_P D vwCl (wdX7 q y M_thrown M_text M_size M_has M_hand M_layers M_kinds M_names M_nameSizes M_thicknesses M_spreads M_coppers M_copperAt M_presses M_pressFrom M_pressTo M_vias M_viaFrom M_viaTo M_shares M_lists M_hasRow M_rowLow M_rowHigh M_p M_s M_fault M_lines M_word M_wordSize M_out M_written M_secondOne) H → va_D A (wdX7 q y M_thrown M_text M_size M_has M_hand M_layers M_kinds M_names M_nameSizes M_thicknesses M_spreads M_coppers M_copperAt M_presses M_pressFrom M_pressTo M_vias M_viaFrom M_viaTo M_shares M_lists M_hasRow M_rowLow M_rowHigh M_p M_s M_fault M_lines M_word M_wordSize M_out M_written M_secondOne) → va_S A s.heap H locs → lv_has ls 11 [(0, .ref (q 0)), (7, .long v7), (9, .long v9)] → W p l e ({ frames := 1, cells := 0, slots := 0, locals := 21 } : Room) s m args below meth c H locs 0 0 (MQ below (QV D y A (wdX7 q y M_thrown M_text M_size M_has M_hand M_layers M_kinds M_names M_nameSizes M_thicknesses M_spreads M_coppers M_copperAt M_presses M_pressFrom M_pressTo M_vias M_viaFrom M_viaTo M_shares M_lists M_hasRow M_rowLow M_rowHigh M_p M_s M_fault M_lines M_word M_wordSize (z.1) (z.2) M_secondOne)) args s 0 0 A) (F0 m 97 ls []) := by
  obtain ⟨⟨hx, hb, hml, hown, hts⟩, hr, hlocks⟩ := id C
  intro n
  induction n with
  | zero =>
    intro v7 v9 M_out M_written H locs ls hm
    rw [g_X7_sayNumber_97_z] at hm
    cases hm
  | succ n ih =>
    intro v7 v9 M_out M_written H locs ls hm hP hD hS hl
    rw [g_X7_sayNumber_97_s] at hm
    refine lv_lload hx hb dX7_sayNumber_97 (lv_at hl 2 rfl) ?_
    refine lv_lconst (v := (0 : Int64)) hx hb dX7_sayNumber_99 (by decide) ?_
    refine W.lcmp hx hb dX7_sayNumber_100 ?_
    refine lv_if_le (tgt := 135) hx hb dX7_sayNumber_101 (by decide) (fun h_1 => ?_) (fun h_1 => ?_)
    · have hm := it_of hm h_1
      have hz := Option.some.inj hm
      subst hz
      exact end_v C hK hP hD hS dX7_sayNumber_135
    · have hm := ie_of hm h_1
      refine lv_aload_n hx hb dX7_sayNumber_104 rfl (lv_at hl 0 rfl) ?_
      refine lv_lload hx hb dX7_sayNumber_105 (lv_at hl 2 rfl) ?_
      refine lv_lload hx hb dX7_sayNumber_107 (lv_at hl 1 rfl) ?_
      obtain ⟨hg_2, hm⟩ := mg_of hm
      refine lv_ldiv hx hb dX7_sayNumber_109 hg_2 ?_
      refine lv_l2i (v := ((v9 / v7)).toInt32) hx hb dX7_sayNumber_110 rfl ?_
      refine lv_bipush (v := (48 : Int32)) hx hb dX7_sayNumber_111 (by decide) ?_
      refine lv_iadd hx hb dX7_sayNumber_113 ?_
      obtain ⟨M_out_3, M_written_4, hc_5, hm⟩ := mb2_of hm
      refine call_vv (wc := (wdX7 q y M_thrown M_text M_size M_has M_hand M_layers M_kinds M_names M_nameSizes M_thicknesses M_spreads M_coppers M_copperAt M_presses M_pressFrom M_pressTo M_vias M_viaFrom M_viaTo M_shares M_lists M_hasRow M_rowLow M_rowHigh M_p M_s M_fault M_lines M_word M_wordSize M_out M_written M_secondOne)) (wr := []) (As := [.int ((((v9 / v7)).toInt32) + (48 : Int32))]) (rest := []) C (c_X7_say l D y q _ F hc_5) (cwV 1 hts gX7_sayNumber_X7_say rfl rfl rfl (by decide +kernel) ⟨Nat.le_of_ble_eq_true rfl, Nat.le_of_ble_eq_true rfl⟩) hK hP hD hS hA [0, 1, 2, 3, 4, 5, 6, 7, 8, 9, 10, 11, 12, 13, 14, 15, 16, 17, 18, 19, 20] [] rfl rfl rfl rfl rfl (by decide) rfl rfl rfl rfl hl.1 (Nat.le_of_ble_eq_true rfl) dX7_sayNumber_114 (fun H locs hP hD hS => ?_)
      have hP : va_P D vwCl (wdX7 q y M_thrown M_text M_size M_has M_hand M_layers M_kinds M_names M_nameSizes M_thicknesses M_spreads M_coppers M_copperAt M_presses M_pressFrom M_pressTo M_vias M_viaFrom M_viaTo M_shares M_lists M_hasRow M_rowLow M_rowHigh M_p M_s M_fault M_lines M_word M_wordSize M_out_3 M_written_4 M_secondOne) H := hP
      have hD : va_D A (wdX7 q y M_thrown M_text M_size M_has M_hand M_layers M_kinds M_names M_nameSizes M_thicknesses M_spreads M_coppers M_copperAt M_presses M_pressFrom M_pressTo M_vias M_viaFrom M_viaTo M_shares M_lists M_hasRow M_rowLow M_rowHigh M_p M_s M_fault M_lines M_word M_wordSize M_out_3 M_written_4 M_secondOne) := hD
      refine lv_lload hx hb dX7_sayNumber_117 (lv_at hl 2 rfl) ?_
      refine lv_lload hx hb dX7_sayNumber_119 (lv_at hl 1 rfl) ?_
      obtain ⟨hg_6, hm⟩ := mg_of hm
      refine lv_lrem hx hb dX7_sayNumber_121 hg_6 ?_
      refine lv_topl (fun v9_7 ev9_7 => ?_)
      have hm := mn_of ev9_7 hm
      refine lv_lstore (lv' := [(9, .long v9_7), (0, .ref (q 0)), (7, .long v7)]) hx hb dX7_sayNumber_122 hl (by decide) rfl (fun ls hl => ?_)
      refine lv_lload hx hb dX7_sayNumber_124 (lv_at hl 2 rfl) ?_
      refine lv_ldc2 (v := (10 : Int64)) hx hb hown (hts _ w_X7_sayNumber_k127) dX7_sayNumber_126 ?_
      refine lv_ldiv hx hb dX7_sayNumber_129 (by decide) ?_
      refine lv_topl (fun v7_8 ev7_8 => ?_)
      have hm := mn_of ev7_8 hm
      refine lv_lstore (lv' := [(7, .long v7_8), (9, .long v9_7), (0, .ref (q 0))]) hx hb dX7_sayNumber_130 hl (by decide) rfl (fun ls hl => ?_)
      refine lv_goto (tgt := 97) hx hb dX7_sayNumber_132 (by decide) ?_
      exact ih v7_8 v9_7 M_out_3 M_written_4 _ _ _ hm hP hD hS (lv_sub hl [2, 0, 1] rfl)
set_option maxHeartbeats 4000000 in
set_option maxRecDepth 100000 in
theorem k_X7_sayNumber_37 {p : Program} {l : Launch} {e : Env} {s : State} {m : MethodId} {args : Array Value} {below : List Frame} {meth : Method} {c : Code} {D : va_G} {y : Nat → ClassId} {A : Nat → Prop} {q : Nat → Nat} {M_thrown : Int32} {M_text : Nat → Int32} {M_size : Int32} {M_has : Int32} {M_hand : Int32} {M_layers : Nat → Int32} {M_kinds : Nat → Int32} {M_names : Nat → Int64} {M_nameSizes : Nat → Int32} {M_thicknesses : Nat → Int64} {M_spreads : Nat → Int32} {M_coppers : Nat → Int32} {M_copperAt : Nat → Int32} {M_presses : Nat → Int32} {M_pressFrom : Nat → Int32} {M_pressTo : Nat → Int32} {M_vias : Nat → Int32} {M_viaFrom : Nat → Int32} {M_viaTo : Nat → Int32} {M_shares : Nat → Int32} {M_lists : Int32} {M_hasRow : Nat → Int32} {M_rowLow : Nat → Int64} {M_rowHigh : Nat → Int64} {M_p : Int32} {M_s : Int32} {M_fault : Int32} {M_lines : Int32} {M_word : Int64} {M_wordSize : Int32} {M_secondOne : Int32} {z : (Nat → Int32) × Int32} (C : CX p s m args meth c wsX7_sayNumber RX7 cX7_sayNumber 11 none) (hA : ∀ q : Nat, s.heap.size ≤ q → A q) (hK : va_K D vwCl (tyl y) s) (F : Nat) :
    ∀ (n : Nat), ∀ (v1 : Int64) (v3 : Int64) (v5 : Int64) (v7 : Int64) (M_out : Nat → Int32) (M_written : Int32) (H : Heap) (locs : List Loc) (ls : Array Slot), g_X7_sayNumber_37 F n v1 v3 v5 v7 M_out M_written = some z → va_P D vwCl (wdX7 q y M_thrown M_text M_size M_has M_hand M_layers M_kinds M_names M_nameSizes M_thicknesses M_spreads M_coppers M_copperAt M_presses M_pressFrom M_pressTo M_vias M_viaFrom M_viaTo M_shares M_lists M_hasRow M_rowLow M_rowHigh M_p M_s M_fault M_lines M_word M_wordSize M_out M_written M_secondOne) H → va_D A (wdX7 q y M_thrown M_text M_size M_has M_hand M_layers M_kinds M_names M_nameSizes M_thicknesses M_spreads M_coppers M_copperAt M_presses M_pressFrom M_pressTo M_vias M_viaFrom M_viaTo M_shares M_lists M_hasRow M_rowLow M_rowHigh M_p M_s M_fault M_lines M_word M_wordSize M_out M_written M_secondOne) → va_S A s.heap H locs → lv_has ls 11 [(0, .ref (q 0)), (1, .long v1), (3, .long v3), (5, .long v5), (7, .long v7)] → W p l e ({ frames := 1, cells := 0, slots := 0, locals := 21 } : Room) s m args below meth c H locs 0 0 (MQ below (QV D y A (wdX7 q y M_thrown M_text M_size M_has M_hand M_layers M_kinds M_names M_nameSizes M_thicknesses M_spreads M_coppers M_copperAt M_presses M_pressFrom M_pressTo M_vias M_viaFrom M_viaTo M_shares M_lists M_hasRow M_rowLow M_rowHigh M_p M_s M_fault M_lines M_word M_wordSize (z.1) (z.2) M_secondOne)) args s 0 0 A) (F0 m 37 ls []) := by
  obtain ⟨⟨hx, hb, hml, hown, hts⟩, hr, hlocks⟩ := id C
  intro n
  induction n with
  | zero =>
    intro v1 v3 v5 v7 M_out M_written H locs ls hm
    rw [g_X7_sayNumber_37_z] at hm
    cases hm
  | succ n ih =>
    intro v1 v3 v5 v7 M_out M_written H locs ls hm hP hD hS hl
    rw [g_X7_sayNumber_37_s] at hm
    refine lv_lload hx hb dX7_sayNumber_37 (lv_at hl 4 rfl) ?_
    refine lv_lconst (v := (0 : Int64)) hx hb dX7_sayNumber_39 (by decide) ?_
    refine W.lcmp hx hb dX7_sayNumber_40 ?_
    refine lv_if_le (tgt := 72) hx hb dX7_sayNumber_41 (by decide) (fun h_1 => ?_) (fun h_1 => ?_)
    · have hm := it_of hm h_1
      refine lv_lload_n hx hb dX7_sayNumber_72 rfl (lv_at hl 1 rfl) ?_
      refine lv_lload_n hx hb dX7_sayNumber_73 rfl (lv_at hl 2 rfl) ?_
      obtain ⟨hg_2, hm⟩ := mg_of hm
      refine lv_lrem hx hb dX7_sayNumber_74 hg_2 ?_
      refine lv_topl (fun v9_3 ev9_3 => ?_)
      have hm := mn_of ev9_3 hm
      refine lv_lstore (lv' := [(9, .long v9_3), (0, .ref (q 0)), (1, .long v1), (3, .long v3), (5, .long v5), (7, .long v7)]) hx hb dX7_sayNumber_75 hl (by decide) rfl (fun ls hl => ?_)
      refine lv_lload hx hb dX7_sayNumber_77 (lv_at hl 0 rfl) ?_
      refine lv_lconst (v := (0 : Int64)) hx hb dX7_sayNumber_79 (by decide) ?_
      refine W.lcmp hx hb dX7_sayNumber_80 ?_
      refine lv_if_le (tgt := 90) hx hb dX7_sayNumber_81 (by decide) (fun h_4 => ?_) (fun h_4 => ?_)
      · have hm := it_of hm h_4
        refine lv_lload_n hx hb dX7_sayNumber_90 rfl (lv_at hl 3 rfl) ?_
        refine lv_ldc2 (v := (10 : Int64)) hx hb hown (hts _ w_X7_sayNumber_k127) dX7_sayNumber_91 ?_
        refine lv_ldiv hx hb dX7_sayNumber_94 (by decide) ?_
        refine lv_topl (fun v7_5 ev7_5 => ?_)
        have hm := mn_of ev7_5 hm
        refine lv_lstore (lv' := [(7, .long v7_5), (9, .long v9_3), (0, .ref (q 0)), (1, .long v1), (3, .long v3), (5, .long v5)]) hx hb dX7_sayNumber_95 hl (by decide) rfl (fun ls hl => ?_)
        exact k_X7_sayNumber_97 C hA hK F F v7_5 v9_3 M_out M_written _ _ _ hm hP hD hS (lv_sub hl [2, 0, 1] rfl)
      · have hm := ie_of hm h_4
        refine lv_aload_n hx hb dX7_sayNumber_84 rfl (lv_at hl 1 rfl) ?_
        refine lv_bipush (v := (46 : Int32)) hx hb dX7_sayNumber_85 (by decide) ?_
        obtain ⟨M_out_6, M_written_7, hc_8, hm⟩ := mb2_of hm
        refine call_vv (wc := (wdX7 q y M_thrown M_text M_size M_has M_hand M_layers M_kinds M_names M_nameSizes M_thicknesses M_spreads M_coppers M_copperAt M_presses M_pressFrom M_pressTo M_vias M_viaFrom M_viaTo M_shares M_lists M_hasRow M_rowLow M_rowHigh M_p M_s M_fault M_lines M_word M_wordSize M_out M_written M_secondOne)) (wr := []) (As := [.int (46 : Int32)]) (rest := []) C (c_X7_say l D y q _ F hc_8) (cwV 1 hts gX7_sayNumber_X7_say rfl rfl rfl (by decide +kernel) ⟨Nat.le_of_ble_eq_true rfl, Nat.le_of_ble_eq_true rfl⟩) hK hP hD hS hA [0, 1, 2, 3, 4, 5, 6, 7, 8, 9, 10, 11, 12, 13, 14, 15, 16, 17, 18, 19, 20] [] rfl rfl rfl rfl rfl (by decide) rfl rfl rfl rfl hl.1 (Nat.le_of_ble_eq_true rfl) dX7_sayNumber_87 (fun H locs hP hD hS => ?_)
        have hP : va_P D vwCl (wdX7 q y M_thrown M_text M_size M_has M_hand M_layers M_kinds M_names M_nameSizes M_thicknesses M_spreads M_coppers M_copperAt M_presses M_pressFrom M_pressTo M_vias M_viaFrom M_viaTo M_shares M_lists M_hasRow M_rowLow M_rowHigh M_p M_s M_fault M_lines M_word M_wordSize M_out_6 M_written_7 M_secondOne) H := hP
        have hD : va_D A (wdX7 q y M_thrown M_text M_size M_has M_hand M_layers M_kinds M_names M_nameSizes M_thicknesses M_spreads M_coppers M_copperAt M_presses M_pressFrom M_pressTo M_vias M_viaFrom M_viaTo M_shares M_lists M_hasRow M_rowLow M_rowHigh M_p M_s M_fault M_lines M_word M_wordSize M_out_6 M_written_7 M_secondOne) := hD
        refine lv_lload_n hx hb dX7_sayNumber_90 rfl (lv_at hl 3 rfl) ?_
        refine lv_ldc2 (v := (10 : Int64)) hx hb hown (hts _ w_X7_sayNumber_k127) dX7_sayNumber_91 ?_
        refine lv_ldiv hx hb dX7_sayNumber_94 (by decide) ?_
        refine lv_topl (fun v7_9 ev7_9 => ?_)
        have hm := mn_of ev7_9 hm
        refine lv_lstore (lv' := [(7, .long v7_9), (9, .long v9_3), (0, .ref (q 0)), (1, .long v1), (3, .long v3), (5, .long v5)]) hx hb dX7_sayNumber_95 hl (by decide) rfl (fun ls hl => ?_)
        exact k_X7_sayNumber_97 C hA hK F F v7_9 v9_3 M_out_6 M_written_7 _ _ _ hm hP hD hS (lv_sub hl [2, 0, 1] rfl)
    · have hm := ie_of hm h_1
      refine lv_aload_n hx hb dX7_sayNumber_44 rfl (lv_at hl 0 rfl) ?_
      refine lv_lload hx hb dX7_sayNumber_45 (lv_at hl 3 rfl) ?_
      refine lv_lload hx hb dX7_sayNumber_47 (lv_at hl 4 rfl) ?_
      obtain ⟨hg_10, hm⟩ := mg_of hm
      refine lv_ldiv hx hb dX7_sayNumber_49 hg_10 ?_
      refine lv_ldc2 (v := (10 : Int64)) hx hb hown (hts _ w_X7_sayNumber_k127) dX7_sayNumber_50 ?_
      refine lv_lrem hx hb dX7_sayNumber_53 (by decide) ?_
      refine lv_l2i (v := (((v5 / v7) - (v5 / v7) / (10 : Int64) * (10 : Int64))).toInt32) hx hb dX7_sayNumber_54 rfl ?_
      refine lv_bipush (v := (48 : Int32)) hx hb dX7_sayNumber_55 (by decide) ?_
      refine lv_iadd hx hb dX7_sayNumber_57 ?_
      obtain ⟨M_out_11, M_written_12, hc_13, hm⟩ := mb2_of hm
      refine call_vv (wc := (wdX7 q y M_thrown M_text M_size M_has M_hand M_layers M_kinds M_names M_nameSizes M_thicknesses M_spreads M_coppers M_copperAt M_presses M_pressFrom M_pressTo M_vias M_viaFrom M_viaTo M_shares M_lists M_hasRow M_rowLow M_rowHigh M_p M_s M_fault M_lines M_word M_wordSize M_out M_written M_secondOne)) (wr := []) (As := [.int (((((v5 / v7) - (v5 / v7) / (10 : Int64) * (10 : Int64))).toInt32) + (48 : Int32))]) (rest := []) C (c_X7_say l D y q _ F hc_13) (cwV 1 hts gX7_sayNumber_X7_say rfl rfl rfl (by decide +kernel) ⟨Nat.le_of_ble_eq_true rfl, Nat.le_of_ble_eq_true rfl⟩) hK hP hD hS hA [0, 1, 2, 3, 4, 5, 6, 7, 8, 9, 10, 11, 12, 13, 14, 15, 16, 17, 18, 19, 20] [] rfl rfl rfl rfl rfl (by decide) rfl rfl rfl rfl hl.1 (Nat.le_of_ble_eq_true rfl) dX7_sayNumber_58 (fun H locs hP hD hS => ?_)
      have hP : va_P D vwCl (wdX7 q y M_thrown M_text M_size M_has M_hand M_layers M_kinds M_names M_nameSizes M_thicknesses M_spreads M_coppers M_copperAt M_presses M_pressFrom M_pressTo M_vias M_viaFrom M_viaTo M_shares M_lists M_hasRow M_rowLow M_rowHigh M_p M_s M_fault M_lines M_word M_wordSize M_out_11 M_written_12 M_secondOne) H := hP
      have hD : va_D A (wdX7 q y M_thrown M_text M_size M_has M_hand M_layers M_kinds M_names M_nameSizes M_thicknesses M_spreads M_coppers M_copperAt M_presses M_pressFrom M_pressTo M_vias M_viaFrom M_viaTo M_shares M_lists M_hasRow M_rowLow M_rowHigh M_p M_s M_fault M_lines M_word M_wordSize M_out_11 M_written_12 M_secondOne) := hD
      refine lv_lload hx hb dX7_sayNumber_61 (lv_at hl 4 rfl) ?_
      refine lv_ldc2 (v := (10 : Int64)) hx hb hown (hts _ w_X7_sayNumber_k127) dX7_sayNumber_63 ?_
      refine lv_ldiv hx hb dX7_sayNumber_66 (by decide) ?_
      refine lv_topl (fun v7_14 ev7_14 => ?_)
      have hm := mn_of ev7_14 hm
      refine lv_lstore (lv' := [(7, .long v7_14), (0, .ref (q 0)), (1, .long v1), (3, .long v3), (5, .long v5)]) hx hb dX7_sayNumber_67 hl (by decide) rfl (fun ls hl => ?_)
      refine lv_goto (tgt := 37) hx hb dX7_sayNumber_69 (by decide) ?_
      exact ih v1 v3 v5 v7_14 M_out_11 M_written_12 _ _ _ hm hP hD hS (lv_sub hl [1, 2, 3, 4, 0] rfl)
set_option maxHeartbeats 4000000 in
set_option maxRecDepth 100000 in
theorem k_X7_sayNumber_14 {p : Program} {l : Launch} {e : Env} {s : State} {m : MethodId} {args : Array Value} {below : List Frame} {meth : Method} {c : Code} {D : va_G} {y : Nat → ClassId} {A : Nat → Prop} {q : Nat → Nat} {M_thrown : Int32} {M_text : Nat → Int32} {M_size : Int32} {M_has : Int32} {M_hand : Int32} {M_layers : Nat → Int32} {M_kinds : Nat → Int32} {M_names : Nat → Int64} {M_nameSizes : Nat → Int32} {M_thicknesses : Nat → Int64} {M_spreads : Nat → Int32} {M_coppers : Nat → Int32} {M_copperAt : Nat → Int32} {M_presses : Nat → Int32} {M_pressFrom : Nat → Int32} {M_pressTo : Nat → Int32} {M_vias : Nat → Int32} {M_viaFrom : Nat → Int32} {M_viaTo : Nat → Int32} {M_shares : Nat → Int32} {M_lists : Int32} {M_hasRow : Nat → Int32} {M_rowLow : Nat → Int64} {M_rowHigh : Nat → Int64} {M_p : Int32} {M_s : Int32} {M_fault : Int32} {M_lines : Int32} {M_word : Int64} {M_wordSize : Int32} {M_secondOne : Int32} {z : (Nat → Int32) × Int32} (C : CX p s m args meth c wsX7_sayNumber RX7 cX7_sayNumber 11 none) (hA : ∀ q : Nat, s.heap.size ≤ q → A q) (hK : va_K D vwCl (tyl y) s) (F : Nat) :
    ∀ (n : Nat), ∀ (v1 : Int64) (v3 : Int64) (v5 : Int64) (v7 : Int64) (M_out : Nat → Int32) (M_written : Int32) (H : Heap) (locs : List Loc) (ls : Array Slot), g_X7_sayNumber_14 F n v1 v3 v5 v7 M_out M_written = some z → va_P D vwCl (wdX7 q y M_thrown M_text M_size M_has M_hand M_layers M_kinds M_names M_nameSizes M_thicknesses M_spreads M_coppers M_copperAt M_presses M_pressFrom M_pressTo M_vias M_viaFrom M_viaTo M_shares M_lists M_hasRow M_rowLow M_rowHigh M_p M_s M_fault M_lines M_word M_wordSize M_out M_written M_secondOne) H → va_D A (wdX7 q y M_thrown M_text M_size M_has M_hand M_layers M_kinds M_names M_nameSizes M_thicknesses M_spreads M_coppers M_copperAt M_presses M_pressFrom M_pressTo M_vias M_viaFrom M_viaTo M_shares M_lists M_hasRow M_rowLow M_rowHigh M_p M_s M_fault M_lines M_word M_wordSize M_out M_written M_secondOne) → va_S A s.heap H locs → lv_has ls 11 [(0, .ref (q 0)), (1, .long v1), (3, .long v3), (5, .long v5), (7, .long v7)] → W p l e ({ frames := 1, cells := 0, slots := 0, locals := 21 } : Room) s m args below meth c H locs 0 0 (MQ below (QV D y A (wdX7 q y M_thrown M_text M_size M_has M_hand M_layers M_kinds M_names M_nameSizes M_thicknesses M_spreads M_coppers M_copperAt M_presses M_pressFrom M_pressTo M_vias M_viaFrom M_viaTo M_shares M_lists M_hasRow M_rowLow M_rowHigh M_p M_s M_fault M_lines M_word M_wordSize (z.1) (z.2) M_secondOne)) args s 0 0 A) (F0 m 14 ls []) := by
  obtain ⟨⟨hx, hb, hml, hown, hts⟩, hr, hlocks⟩ := id C
  intro n
  induction n with
  | zero =>
    intro v1 v3 v5 v7 M_out M_written H locs ls hm
    rw [g_X7_sayNumber_14_z] at hm
    cases hm
  | succ n ih =>
    intro v1 v3 v5 v7 M_out M_written H locs ls hm hP hD hS hl
    rw [g_X7_sayNumber_14_s] at hm
    refine lv_lload hx hb dX7_sayNumber_14 (lv_at hl 3 rfl) ?_
    refine lv_lload hx hb dX7_sayNumber_16 (lv_at hl 4 rfl) ?_
    obtain ⟨hg_1, hm⟩ := mg_of hm
    refine lv_ldiv hx hb dX7_sayNumber_18 hg_1 ?_
    refine lv_ldc2 (v := (10 : Int64)) hx hb hown (hts _ w_X7_sayNumber_k127) dX7_sayNumber_19 ?_
    refine W.lcmp hx hb dX7_sayNumber_22 ?_
    refine lv_if_lt (tgt := 37) hx hb dX7_sayNumber_23 (by decide) (fun h_2 => ?_) (fun h_2 => ?_)
    · have hm := it_of hm h_2
      exact k_X7_sayNumber_37 C hA hK F F v1 v3 v5 v7 M_out M_written _ _ _ hm hP hD hS (lv_sub hl [0, 1, 2, 3, 4] rfl)
    · have hm := ie_of hm h_2
      refine lv_ldc2 (v := (10 : Int64)) hx hb hown (hts _ w_X7_sayNumber_k127) dX7_sayNumber_26 ?_
      refine lv_lload hx hb dX7_sayNumber_29 (lv_at hl 4 rfl) ?_
      refine lv_lmul hx hb dX7_sayNumber_31 ?_
      refine lv_topl (fun v7_3 ev7_3 => ?_)
      have hm := mn_of ev7_3 hm
      refine lv_lstore (lv' := [(7, .long v7_3), (0, .ref (q 0)), (1, .long v1), (3, .long v3), (5, .long v5)]) hx hb dX7_sayNumber_32 hl (by decide) rfl (fun ls hl => ?_)
      refine lv_goto (tgt := 14) hx hb dX7_sayNumber_34 (by decide) ?_
      exact ih v1 v3 v5 v7_3 M_out M_written _ _ _ hm hP hD hS (lv_sub hl [1, 2, 3, 4, 0] rfl)
set_option maxHeartbeats 4000000 in
set_option maxRecDepth 100000 in
theorem c_X7_sayNumber (l : Launch) (D : va_G) (y : Nat → ClassId) (q : Nat → Nat) (sz : Nat) (F : Nat) {v1 : Int64} {v3 : Int64} {M_thrown : Int32} {M_text : Nat → Int32} {M_size : Int32} {M_has : Int32} {M_hand : Int32} {M_layers : Nat → Int32} {M_kinds : Nat → Int32} {M_names : Nat → Int64} {M_nameSizes : Nat → Int32} {M_thicknesses : Nat → Int64} {M_spreads : Nat → Int32} {M_coppers : Nat → Int32} {M_copperAt : Nat → Int32} {M_presses : Nat → Int32} {M_pressFrom : Nat → Int32} {M_pressTo : Nat → Int32} {M_vias : Nat → Int32} {M_viaFrom : Nat → Int32} {M_viaTo : Nat → Int32} {M_shares : Nat → Int32} {M_lists : Int32} {M_hasRow : Nat → Int32} {M_rowLow : Nat → Int64} {M_rowHigh : Nat → Int64} {M_p : Int32} {M_s : Int32} {M_fault : Int32} {M_lines : Int32} {M_word : Int64} {M_wordSize : Int32} {M_out : Nat → Int32} {M_written : Int32} {M_secondOne : Int32} {z : (Nat → Int32) × Int32} (hm : f_X7_sayNumber F v1 v3 M_out M_written = some z) : Met l yX7_sayNumber wsX7_sayNumber ({ frames := 1, cells := 0, slots := 0, locals := 21 } : Room) (va_Pc [.ref (q 0), .long v1, .long v3] (cP D y (wdX7 q y M_thrown M_text M_size M_has M_hand M_layers M_kinds M_names M_nameSizes M_thicknesses M_spreads M_coppers M_copperAt M_presses M_pressFrom M_pressTo M_vias M_viaFrom M_viaTo M_shares M_lists M_hasRow M_rowLow M_rowHigh M_p M_s M_fault M_lines M_word M_wordSize M_out M_written M_secondOne) sz)) (QV D y (va_A (wdX7 q y M_thrown M_text M_size M_has M_hand M_layers M_kinds M_names M_nameSizes M_thicknesses M_spreads M_coppers M_copperAt M_presses M_pressFrom M_pressTo M_vias M_viaFrom M_viaTo M_shares M_lists M_hasRow M_rowLow M_rowHigh M_p M_s M_fault M_lines M_word M_wordSize M_out M_written M_secondOne) sz) (wdX7 q y M_thrown M_text M_size M_has M_hand M_layers M_kinds M_names M_nameSizes M_thicknesses M_spreads M_coppers M_copperAt M_presses M_pressFrom M_pressTo M_vias M_viaFrom M_viaTo M_shares M_lists M_hasRow M_rowLow M_rowHigh M_p M_s M_fault M_lines M_word M_wordSize (z.1) (z.2) M_secondOne)) 0 0 (va_A (wdX7 q y M_thrown M_text M_size M_has M_hand M_layers M_kinds M_names M_nameSizes M_thicknesses M_spreads M_coppers M_copperAt M_presses M_pressFrom M_pressTo M_vias M_viaFrom M_viaTo M_shares M_lists M_hasRow M_rowLow M_rowHigh M_p M_s M_fault M_lines M_word M_wordSize M_out M_written M_secondOne) sz) := by
  refine met_of (own := RX7) (cc := cX7_sayNumber) (maxL := 11) (ret := none) (by decide) rfl rfl (Nat.le_of_ble_eq_true rfl) ?_
  intro p e s m below meth c ls C hsz hK hP hD hA hS hl
  obtain ⟨⟨hx, hb, hml, hown, hts⟩, hr, hlocks⟩ := id C
  have hl : lv_has ls 11 [(0, .ref (q 0)), (1, .long v1), (3, .long v3)] := hl
  generalize va_A (wdX7 q y M_thrown M_text M_size M_has M_hand M_layers M_kinds M_names M_nameSizes M_thicknesses M_spreads M_coppers M_copperAt M_presses M_pressFrom M_pressTo M_vias M_viaFrom M_viaTo M_shares M_lists M_hasRow M_rowLow M_rowHigh M_p M_s M_fault M_lines M_word M_wordSize M_out M_written M_secondOne) sz = A at hD hA hS ⊢
  generalize ([.ref (q 0), .long v1, .long v3] : List Value).toArray = args at C hts ⊢
  unfold f_X7_sayNumber at hm
  refine lv_aload_n hx hb dX7_sayNumber_0 rfl (lv_at hl 0 rfl) ?_
  refine lv_bipush (v := (32 : Int32)) hx hb dX7_sayNumber_1 (by decide) ?_
  obtain ⟨M_out_1, M_written_2, hc_3, hm⟩ := mb2_of hm
  refine call_vv (wc := (wdX7 q y M_thrown M_text M_size M_has M_hand M_layers M_kinds M_names M_nameSizes M_thicknesses M_spreads M_coppers M_copperAt M_presses M_pressFrom M_pressTo M_vias M_viaFrom M_viaTo M_shares M_lists M_hasRow M_rowLow M_rowHigh M_p M_s M_fault M_lines M_word M_wordSize M_out M_written M_secondOne)) (wr := []) (As := [.int (32 : Int32)]) (rest := []) C (c_X7_say l D y q _ F hc_3) (cwV 1 hts gX7_sayNumber_X7_say rfl rfl rfl (by decide +kernel) ⟨Nat.le_of_ble_eq_true rfl, Nat.le_of_ble_eq_true rfl⟩) hK hP hD hS hA [0, 1, 2, 3, 4, 5, 6, 7, 8, 9, 10, 11, 12, 13, 14, 15, 16, 17, 18, 19, 20] [] rfl rfl rfl rfl rfl (by decide) rfl rfl rfl rfl hl.1 (Nat.le_of_ble_eq_true rfl) dX7_sayNumber_3 (fun H locs hP hD hS => ?_)
  have hP : va_P D vwCl (wdX7 q y M_thrown M_text M_size M_has M_hand M_layers M_kinds M_names M_nameSizes M_thicknesses M_spreads M_coppers M_copperAt M_presses M_pressFrom M_pressTo M_vias M_viaFrom M_viaTo M_shares M_lists M_hasRow M_rowLow M_rowHigh M_p M_s M_fault M_lines M_word M_wordSize M_out_1 M_written_2 M_secondOne) H := hP
  have hD : va_D A (wdX7 q y M_thrown M_text M_size M_has M_hand M_layers M_kinds M_names M_nameSizes M_thicknesses M_spreads M_coppers M_copperAt M_presses M_pressFrom M_pressTo M_vias M_viaFrom M_viaTo M_shares M_lists M_hasRow M_rowLow M_rowHigh M_p M_s M_fault M_lines M_word M_wordSize M_out_1 M_written_2 M_secondOne) := hD
  refine lv_lload_n hx hb dX7_sayNumber_6 rfl (lv_at hl 1 rfl) ?_
  refine lv_lload_n hx hb dX7_sayNumber_7 rfl (lv_at hl 2 rfl) ?_
  obtain ⟨hg_4, hm⟩ := mg_of hm
  refine lv_ldiv hx hb dX7_sayNumber_8 hg_4 ?_
  refine lv_topl (fun v5_5 ev5_5 => ?_)
  have hm := mn_of ev5_5 hm
  refine lv_lstore (lv' := [(5, .long v5_5), (0, .ref (q 0)), (1, .long v1), (3, .long v3)]) hx hb dX7_sayNumber_9 hl (by decide) rfl (fun ls hl => ?_)
  refine lv_lconst (v := (1 : Int64)) hx hb dX7_sayNumber_11 (by decide) ?_
  refine lv_lstore (lv' := [(7, .long (1 : Int64)), (5, .long v5_5), (0, .ref (q 0)), (1, .long v1), (3, .long v3)]) hx hb dX7_sayNumber_12 hl (by decide) rfl (fun ls hl => ?_)
  exact k_X7_sayNumber_14 C hA hK F F v1 v3 v5_5 (1 : Int64) M_out_1 M_written_2 _ _ _ hm hP hD hS (lv_sub hl [2, 3, 4, 1, 0] rfl)
def f_X7_sayTwo (F : Nat) (v1 : Int32) (v2 : Int32) (v3 : Int32) (M_hand : Int32) (M_names : Nat → Int64) (M_nameSizes : Nat → Int32) (M_copperAt : Nat → Int32) (M_out : Nat → Int32) (M_written : Int32) : Option ((Nat → Int32) × Int32) := mb2 (f_X7_sayWord F v1 M_out M_written) (fun M_out_1 M_written_2 => mg (inb (((32 : Int32) * M_hand) + v2) 64) (mb2 (f_X7_sayName F (M_copperAt ((((32 : Int32) * M_hand) + v2)).toNatClampNeg) M_hand M_names M_nameSizes M_out_1 M_written_2) (fun M_out_5 M_written_6 => mg (inb (((32 : Int32) * M_hand) + v3) 64) (mb2 (f_X7_sayName F (M_copperAt ((((32 : Int32) * M_hand) + v3)).toNatClampNeg) M_hand M_names M_nameSizes M_out_5 M_written_6) (fun M_out_9 M_written_10 => mb2 (f_X7_say F (10 : Int32) M_out_9 M_written_10) (fun M_out_12 M_written_13 => some (M_out_12, M_written_13)))))))
set_option maxRecDepth 20000 in
theorem n_X7_sayTwo_X7 : ∀ w ∈ wsX70, w ∈ wsX7_sayTwo := by decide +kernel
set_option maxRecDepth 20000 in
theorem w_X7_sayTwo_f35 : Cond.fieldLink RX7 35 "LayerStacksModel" "copperAt" "[I" ∈ wsX7_sayTwo := by decide +kernel
set_option maxRecDepth 20000 in
theorem w_X7_sayTwo_f195 : Cond.fieldLink RX7 195 "LayerStacksModel" "hand" "I" ∈ wsX7_sayTwo := by decide +kernel
set_option maxHeartbeats 4000000 in
set_option maxRecDepth 100000 in
theorem c_X7_sayTwo (l : Launch) (D : va_G) (y : Nat → ClassId) (q : Nat → Nat) (sz : Nat) (F : Nat) {v1 : Int32} {v2 : Int32} {v3 : Int32} {M_thrown : Int32} {M_text : Nat → Int32} {M_size : Int32} {M_has : Int32} {M_hand : Int32} {M_layers : Nat → Int32} {M_kinds : Nat → Int32} {M_names : Nat → Int64} {M_nameSizes : Nat → Int32} {M_thicknesses : Nat → Int64} {M_spreads : Nat → Int32} {M_coppers : Nat → Int32} {M_copperAt : Nat → Int32} {M_presses : Nat → Int32} {M_pressFrom : Nat → Int32} {M_pressTo : Nat → Int32} {M_vias : Nat → Int32} {M_viaFrom : Nat → Int32} {M_viaTo : Nat → Int32} {M_shares : Nat → Int32} {M_lists : Int32} {M_hasRow : Nat → Int32} {M_rowLow : Nat → Int64} {M_rowHigh : Nat → Int64} {M_p : Int32} {M_s : Int32} {M_fault : Int32} {M_lines : Int32} {M_word : Int64} {M_wordSize : Int32} {M_out : Nat → Int32} {M_written : Int32} {M_secondOne : Int32} {z : (Nat → Int32) × Int32} (hm : f_X7_sayTwo F v1 v2 v3 M_hand M_names M_nameSizes M_copperAt M_out M_written = some z) : Met l yX7_sayTwo wsX7_sayTwo ({ frames := 4, cells := 0, slots := 0, locals := 91 } : Room) (va_Pc [.ref (q 0), .int v1, .int v2, .int v3] (cP D y (wdX7 q y M_thrown M_text M_size M_has M_hand M_layers M_kinds M_names M_nameSizes M_thicknesses M_spreads M_coppers M_copperAt M_presses M_pressFrom M_pressTo M_vias M_viaFrom M_viaTo M_shares M_lists M_hasRow M_rowLow M_rowHigh M_p M_s M_fault M_lines M_word M_wordSize M_out M_written M_secondOne) sz)) (QV D y (va_A (wdX7 q y M_thrown M_text M_size M_has M_hand M_layers M_kinds M_names M_nameSizes M_thicknesses M_spreads M_coppers M_copperAt M_presses M_pressFrom M_pressTo M_vias M_viaFrom M_viaTo M_shares M_lists M_hasRow M_rowLow M_rowHigh M_p M_s M_fault M_lines M_word M_wordSize M_out M_written M_secondOne) sz) (wdX7 q y M_thrown M_text M_size M_has M_hand M_layers M_kinds M_names M_nameSizes M_thicknesses M_spreads M_coppers M_copperAt M_presses M_pressFrom M_pressTo M_vias M_viaFrom M_viaTo M_shares M_lists M_hasRow M_rowLow M_rowHigh M_p M_s M_fault M_lines M_word M_wordSize (z.1) (z.2) M_secondOne)) 0 0 (va_A (wdX7 q y M_thrown M_text M_size M_has M_hand M_layers M_kinds M_names M_nameSizes M_thicknesses M_spreads M_coppers M_copperAt M_presses M_pressFrom M_pressTo M_vias M_viaFrom M_viaTo M_shares M_lists M_hasRow M_rowLow M_rowHigh M_p M_s M_fault M_lines M_word M_wordSize M_out M_written M_secondOne) sz) := by
  refine met_of (own := RX7) (cc := cX7_sayTwo) (maxL := 4) (ret := none) (by decide) rfl rfl (Nat.le_of_ble_eq_true rfl) ?_
  intro p e s m below meth c ls C hsz hK hP hD hA hS hl
  obtain ⟨⟨hx, hb, hml, hown, hts⟩, hr, hlocks⟩ := id C
  have hl : lv_has ls 4 [(0, .ref (q 0)), (1, .int v1), (2, .int v2), (3, .int v3)] := hl
  generalize va_A (wdX7 q y M_thrown M_text M_size M_has M_hand M_layers M_kinds M_names M_nameSizes M_thicknesses M_spreads M_coppers M_copperAt M_presses M_pressFrom M_pressTo M_vias M_viaFrom M_viaTo M_shares M_lists M_hasRow M_rowLow M_rowHigh M_p M_s M_fault M_lines M_word M_wordSize M_out M_written M_secondOne) sz = A at hD hA hS ⊢
  generalize ([.ref (q 0), .int v1, .int v2, .int v3] : List Value).toArray = args at C hts ⊢
  unfold f_X7_sayTwo at hm
  refine lv_aload_n hx hb dX7_sayTwo_0 rfl (lv_at hl 0 rfl) ?_
  refine lv_iload_n hx hb dX7_sayTwo_1 rfl (lv_at hl 1 rfl) ?_
  obtain ⟨M_out_1, M_written_2, hc_3, hm⟩ := mb2_of hm
  refine call_vv (wc := (wdX7 q y M_thrown M_text M_size M_has M_hand M_layers M_kinds M_names M_nameSizes M_thicknesses M_spreads M_coppers M_copperAt M_presses M_pressFrom M_pressTo M_vias M_viaFrom M_viaTo M_shares M_lists M_hasRow M_rowLow M_rowHigh M_p M_s M_fault M_lines M_word M_wordSize M_out M_written M_secondOne)) (wr := []) (As := [.int v1]) (rest := []) C (c_X7_sayWord l D y q _ F hc_3) (cwV 1 hts gX7_sayTwo_X7_sayWord rfl rfl rfl (by decide +kernel) ⟨Nat.le_of_ble_eq_true rfl, Nat.le_of_ble_eq_true rfl⟩) hK hP hD hS hA [0, 1, 2, 3, 4, 5, 6, 7, 8, 9, 10, 11, 12, 13, 14, 15, 16, 17, 18, 19, 20] [] rfl rfl rfl rfl rfl (by decide) rfl rfl rfl rfl hl.1 (Nat.le_of_ble_eq_true rfl) dX7_sayTwo_2 (fun H locs hP hD hS => ?_)
  have hP : va_P D vwCl (wdX7 q y M_thrown M_text M_size M_has M_hand M_layers M_kinds M_names M_nameSizes M_thicknesses M_spreads M_coppers M_copperAt M_presses M_pressFrom M_pressTo M_vias M_viaFrom M_viaTo M_shares M_lists M_hasRow M_rowLow M_rowHigh M_p M_s M_fault M_lines M_word M_wordSize M_out_1 M_written_2 M_secondOne) H := hP
  have hD : va_D A (wdX7 q y M_thrown M_text M_size M_has M_hand M_layers M_kinds M_names M_nameSizes M_thicknesses M_spreads M_coppers M_copperAt M_presses M_pressFrom M_pressTo M_vias M_viaFrom M_viaTo M_shares M_lists M_hasRow M_rowLow M_rowHigh M_p M_s M_fault M_lines M_word M_wordSize M_out_1 M_written_2 M_secondOne) := hD
  refine lv_aload_n hx hb dX7_sayTwo_5 rfl (lv_at hl 0 rfl) ?_
  refine lv_aload_n hx hb dX7_sayTwo_6 rfl (lv_at hl 0 rfl) ?_
  refine va_get (D := D) (ci := 7) (v := .ref (q 9)) (C := RX7) (T := TX7) (N := 33) hx hb hts n_X7_sayTwo_X7 hown hK hP 0 rfl rfl 12 (by decide) (hts _ w_X7_sayTwo_f35) (fun _ h9 => h9) rfl dX7_sayTwo_7 ?_
  refine lv_bipush (v := (32 : Int32)) hx hb dX7_sayTwo_10 (by decide) ?_
  refine lv_aload_n hx hb dX7_sayTwo_12 rfl (lv_at hl 0 rfl) ?_
  refine va_get (D := D) (ci := 7) (v := .int M_hand) (C := RX7) (T := TX7) (N := 33) hx hb hts n_X7_sayTwo_X7 hown hK hP 0 rfl rfl 4 (by decide) (hts _ w_X7_sayTwo_f195) (fun _ h9 => h9) rfl dX7_sayTwo_13 ?_
  refine lv_imul hx hb dX7_sayTwo_16 ?_
  refine lv_iload_n hx hb dX7_sayTwo_17 rfl (lv_at hl 2 rfl) ?_
  refine lv_iadd hx hb dX7_sayTwo_18 ?_
  obtain ⟨hg_4, hm⟩ := mg_of hm
  refine va_iald hx hb hK hP 9 0 rfl rfl hg_4 dX7_sayTwo_19 ?_
  obtain ⟨M_out_5, M_written_6, hc_7, hm⟩ := mb2_of hm
  refine call_vv (wc := (wdX7 q y M_thrown M_text M_size M_has M_hand M_layers M_kinds M_names M_nameSizes M_thicknesses M_spreads M_coppers M_copperAt M_presses M_pressFrom M_pressTo M_vias M_viaFrom M_viaTo M_shares M_lists M_hasRow M_rowLow M_rowHigh M_p M_s M_fault M_lines M_word M_wordSize M_out_1 M_written_2 M_secondOne)) (wr := []) (As := [.int (M_copperAt ((((32 : Int32) * M_hand) + v2)).toNatClampNeg)]) (rest := []) C (c_X7_sayName l D y q _ F hc_7) (cwV 1 hts gX7_sayTwo_X7_sayName rfl rfl rfl (by decide +kernel) ⟨Nat.le_of_ble_eq_true rfl, Nat.le_of_ble_eq_true rfl⟩) hK hP hD hS hA [0, 1, 2, 3, 4, 5, 6, 7, 8, 9, 10, 11, 12, 13, 14, 15, 16, 17, 18, 19, 20] [] rfl rfl rfl rfl rfl (by decide) rfl rfl rfl rfl hl.1 (Nat.le_of_ble_eq_true rfl) dX7_sayTwo_20 (fun H locs hP hD hS => ?_)
  have hP : va_P D vwCl (wdX7 q y M_thrown M_text M_size M_has M_hand M_layers M_kinds M_names M_nameSizes M_thicknesses M_spreads M_coppers M_copperAt M_presses M_pressFrom M_pressTo M_vias M_viaFrom M_viaTo M_shares M_lists M_hasRow M_rowLow M_rowHigh M_p M_s M_fault M_lines M_word M_wordSize M_out_5 M_written_6 M_secondOne) H := hP
  have hD : va_D A (wdX7 q y M_thrown M_text M_size M_has M_hand M_layers M_kinds M_names M_nameSizes M_thicknesses M_spreads M_coppers M_copperAt M_presses M_pressFrom M_pressTo M_vias M_viaFrom M_viaTo M_shares M_lists M_hasRow M_rowLow M_rowHigh M_p M_s M_fault M_lines M_word M_wordSize M_out_5 M_written_6 M_secondOne) := hD
  refine lv_aload_n hx hb dX7_sayTwo_23 rfl (lv_at hl 0 rfl) ?_
  refine lv_aload_n hx hb dX7_sayTwo_24 rfl (lv_at hl 0 rfl) ?_
  refine va_get (D := D) (ci := 7) (v := .ref (q 9)) (C := RX7) (T := TX7) (N := 33) hx hb hts n_X7_sayTwo_X7 hown hK hP 0 rfl rfl 12 (by decide) (hts _ w_X7_sayTwo_f35) (fun _ h9 => h9) rfl dX7_sayTwo_25 ?_
  refine lv_bipush (v := (32 : Int32)) hx hb dX7_sayTwo_28 (by decide) ?_
  refine lv_aload_n hx hb dX7_sayTwo_30 rfl (lv_at hl 0 rfl) ?_
  refine va_get (D := D) (ci := 7) (v := .int M_hand) (C := RX7) (T := TX7) (N := 33) hx hb hts n_X7_sayTwo_X7 hown hK hP 0 rfl rfl 4 (by decide) (hts _ w_X7_sayTwo_f195) (fun _ h9 => h9) rfl dX7_sayTwo_31 ?_
  refine lv_imul hx hb dX7_sayTwo_34 ?_
  refine lv_iload_n hx hb dX7_sayTwo_35 rfl (lv_at hl 3 rfl) ?_
  refine lv_iadd hx hb dX7_sayTwo_36 ?_
  obtain ⟨hg_8, hm⟩ := mg_of hm
  refine va_iald hx hb hK hP 9 0 rfl rfl hg_8 dX7_sayTwo_37 ?_
  obtain ⟨M_out_9, M_written_10, hc_11, hm⟩ := mb2_of hm
  refine call_vv (wc := (wdX7 q y M_thrown M_text M_size M_has M_hand M_layers M_kinds M_names M_nameSizes M_thicknesses M_spreads M_coppers M_copperAt M_presses M_pressFrom M_pressTo M_vias M_viaFrom M_viaTo M_shares M_lists M_hasRow M_rowLow M_rowHigh M_p M_s M_fault M_lines M_word M_wordSize M_out_5 M_written_6 M_secondOne)) (wr := []) (As := [.int (M_copperAt ((((32 : Int32) * M_hand) + v3)).toNatClampNeg)]) (rest := []) C (c_X7_sayName l D y q _ F hc_11) (cwV 1 hts gX7_sayTwo_X7_sayName rfl rfl rfl (by decide +kernel) ⟨Nat.le_of_ble_eq_true rfl, Nat.le_of_ble_eq_true rfl⟩) hK hP hD hS hA [0, 1, 2, 3, 4, 5, 6, 7, 8, 9, 10, 11, 12, 13, 14, 15, 16, 17, 18, 19, 20] [] rfl rfl rfl rfl rfl (by decide) rfl rfl rfl rfl hl.1 (Nat.le_of_ble_eq_true rfl) dX7_sayTwo_38 (fun H locs hP hD hS => ?_)
  have hP : va_P D vwCl (wdX7 q y M_thrown M_text M_size M_has M_hand M_layers M_kinds M_names M_nameSizes M_thicknesses M_spreads M_coppers M_copperAt M_presses M_pressFrom M_pressTo M_vias M_viaFrom M_viaTo M_shares M_lists M_hasRow M_rowLow M_rowHigh M_p M_s M_fault M_lines M_word M_wordSize M_out_9 M_written_10 M_secondOne) H := hP
  have hD : va_D A (wdX7 q y M_thrown M_text M_size M_has M_hand M_layers M_kinds M_names M_nameSizes M_thicknesses M_spreads M_coppers M_copperAt M_presses M_pressFrom M_pressTo M_vias M_viaFrom M_viaTo M_shares M_lists M_hasRow M_rowLow M_rowHigh M_p M_s M_fault M_lines M_word M_wordSize M_out_9 M_written_10 M_secondOne) := hD
  refine lv_aload_n hx hb dX7_sayTwo_41 rfl (lv_at hl 0 rfl) ?_
  refine lv_bipush (v := (10 : Int32)) hx hb dX7_sayTwo_42 (by decide) ?_
  obtain ⟨M_out_12, M_written_13, hc_14, hm⟩ := mb2_of hm
  refine call_vv (wc := (wdX7 q y M_thrown M_text M_size M_has M_hand M_layers M_kinds M_names M_nameSizes M_thicknesses M_spreads M_coppers M_copperAt M_presses M_pressFrom M_pressTo M_vias M_viaFrom M_viaTo M_shares M_lists M_hasRow M_rowLow M_rowHigh M_p M_s M_fault M_lines M_word M_wordSize M_out_9 M_written_10 M_secondOne)) (wr := []) (As := [.int (10 : Int32)]) (rest := []) C (c_X7_say l D y q _ F hc_14) (cwV 1 hts gX7_sayTwo_X7_say rfl rfl rfl (by decide +kernel) ⟨Nat.le_of_ble_eq_true rfl, Nat.le_of_ble_eq_true rfl⟩) hK hP hD hS hA [0, 1, 2, 3, 4, 5, 6, 7, 8, 9, 10, 11, 12, 13, 14, 15, 16, 17, 18, 19, 20] [] rfl rfl rfl rfl rfl (by decide) rfl rfl rfl rfl hl.1 (Nat.le_of_ble_eq_true rfl) dX7_sayTwo_44 (fun H locs hP hD hS => ?_)
  have hP : va_P D vwCl (wdX7 q y M_thrown M_text M_size M_has M_hand M_layers M_kinds M_names M_nameSizes M_thicknesses M_spreads M_coppers M_copperAt M_presses M_pressFrom M_pressTo M_vias M_viaFrom M_viaTo M_shares M_lists M_hasRow M_rowLow M_rowHigh M_p M_s M_fault M_lines M_word M_wordSize M_out_12 M_written_13 M_secondOne) H := hP
  have hD : va_D A (wdX7 q y M_thrown M_text M_size M_has M_hand M_layers M_kinds M_names M_nameSizes M_thicknesses M_spreads M_coppers M_copperAt M_presses M_pressFrom M_pressTo M_vias M_viaFrom M_viaTo M_shares M_lists M_hasRow M_rowLow M_rowHigh M_p M_s M_fault M_lines M_word M_wordSize M_out_12 M_written_13 M_secondOne) := hD
  have hz := Option.some.inj hm
  subst hz
  exact end_v C hK hP hD hS dX7_sayTwo_47
def g_X7_writeAll_156 (F : Nat) : Nat → Int32 → Int32 → (Nat → Int64) → (Nat → Int32) → (Nat → Int32) → (Nat → Int32) → (Nat → Int32) → (Nat → Int32) → (Nat → Int32) → Int32 → Option ((Nat → Int32) × Int32)
  | 0, _, _, _, _, _, _, _, _, _, _ => none
  | n + 1, v1, M_hand, M_names, M_nameSizes, M_copperAt, M_vias, M_viaFrom, M_viaTo, M_out, M_written => mg (inb M_hand 2) ((if (((40 : Int32) * M_hand) + (M_vias (M_hand).toNatClampNeg)) ≤ v1 then some (M_out, M_written) else mg (inb v1 80) (mg (inb v1 80) (mb2 (f_X7_sayTwo F (6 : Int32) (M_viaFrom (v1).toNatClampNeg) (M_viaTo (v1).toNatClampNeg) M_hand M_names M_nameSizes M_copperAt M_out M_written) (fun M_out_5 M_written_6 => mn (v1 + (1 : Int32)) (fun v1_8 => g_X7_writeAll_156 F n v1_8 M_hand M_names M_nameSizes M_copperAt M_vias M_viaFrom M_viaTo M_out_5 M_written_6))))))
theorem g_X7_writeAll_156_z (F : Nat) (v1 : Int32) (M_hand : Int32) (M_names : Nat → Int64) (M_nameSizes : Nat → Int32) (M_copperAt : Nat → Int32) (M_vias : Nat → Int32) (M_viaFrom : Nat → Int32) (M_viaTo : Nat → Int32) (M_out : Nat → Int32) (M_written : Int32) : g_X7_writeAll_156 F 0 v1 M_hand M_names M_nameSizes M_copperAt M_vias M_viaFrom M_viaTo M_out M_written = none := rfl
theorem g_X7_writeAll_156_s (F : Nat) (n : Nat) (v1 : Int32) (M_hand : Int32) (M_names : Nat → Int64) (M_nameSizes : Nat → Int32) (M_copperAt : Nat → Int32) (M_vias : Nat → Int32) (M_viaFrom : Nat → Int32) (M_viaTo : Nat → Int32) (M_out : Nat → Int32) (M_written : Int32) : g_X7_writeAll_156 F (n + 1) v1 M_hand M_names M_nameSizes M_copperAt M_vias M_viaFrom M_viaTo M_out M_written = mg (inb M_hand 2) ((if (((40 : Int32) * M_hand) + (M_vias (M_hand).toNatClampNeg)) ≤ v1 then some (M_out, M_written) else mg (inb v1 80) (mg (inb v1 80) (mb2 (f_X7_sayTwo F (6 : Int32) (M_viaFrom (v1).toNatClampNeg) (M_viaTo (v1).toNatClampNeg) M_hand M_names M_nameSizes M_copperAt M_out M_written) (fun M_out_5 M_written_6 => mn (v1 + (1 : Int32)) (fun v1_8 => g_X7_writeAll_156 F n v1_8 M_hand M_names M_nameSizes M_copperAt M_vias M_viaFrom M_viaTo M_out_5 M_written_6)))))) := rfl
def g_X7_writeAll_102 (F : Nat) : Nat → Int32 → Int32 → (Nat → Int64) → (Nat → Int32) → (Nat → Int32) → (Nat → Int32) → (Nat → Int32) → (Nat → Int32) → (Nat → Int32) → (Nat → Int32) → (Nat → Int32) → (Nat → Int32) → Int32 → Option ((Nat → Int32) × Int32)
  | 0, _, _, _, _, _, _, _, _, _, _, _, _, _ => none
  | n + 1, v1, M_hand, M_names, M_nameSizes, M_copperAt, M_presses, M_pressFrom, M_pressTo, M_vias, M_viaFrom, M_viaTo, M_out, M_written => mg (inb M_hand 2) ((if ((((22 : Int32) * M_hand) + (M_presses (M_hand).toNatClampNeg)) - (1 : Int32)) ≤ v1 then mn ((40 : Int32) * M_hand) (fun v1_3 => g_X7_writeAll_156 F F v1_3 M_hand M_names M_nameSizes M_copperAt M_vias M_viaFrom M_viaTo M_out M_written) else mg (inb v1 44) (mg (inb v1 44) (mb2 (f_X7_sayTwo F (5 : Int32) (M_pressFrom (v1).toNatClampNeg) (M_pressTo (v1).toNatClampNeg) M_hand M_names M_nameSizes M_copperAt M_out M_written) (fun M_out_6 M_written_7 => mn (v1 + (1 : Int32)) (fun v1_9 => g_X7_writeAll_102 F n v1_9 M_hand M_names M_nameSizes M_copperAt M_presses M_pressFrom M_pressTo M_vias M_viaFrom M_viaTo M_out_6 M_written_7))))))
theorem g_X7_writeAll_102_z (F : Nat) (v1 : Int32) (M_hand : Int32) (M_names : Nat → Int64) (M_nameSizes : Nat → Int32) (M_copperAt : Nat → Int32) (M_presses : Nat → Int32) (M_pressFrom : Nat → Int32) (M_pressTo : Nat → Int32) (M_vias : Nat → Int32) (M_viaFrom : Nat → Int32) (M_viaTo : Nat → Int32) (M_out : Nat → Int32) (M_written : Int32) : g_X7_writeAll_102 F 0 v1 M_hand M_names M_nameSizes M_copperAt M_presses M_pressFrom M_pressTo M_vias M_viaFrom M_viaTo M_out M_written = none := rfl
theorem g_X7_writeAll_102_s (F : Nat) (n : Nat) (v1 : Int32) (M_hand : Int32) (M_names : Nat → Int64) (M_nameSizes : Nat → Int32) (M_copperAt : Nat → Int32) (M_presses : Nat → Int32) (M_pressFrom : Nat → Int32) (M_pressTo : Nat → Int32) (M_vias : Nat → Int32) (M_viaFrom : Nat → Int32) (M_viaTo : Nat → Int32) (M_out : Nat → Int32) (M_written : Int32) : g_X7_writeAll_102 F (n + 1) v1 M_hand M_names M_nameSizes M_copperAt M_presses M_pressFrom M_pressTo M_vias M_viaFrom M_viaTo M_out M_written = mg (inb M_hand 2) ((if ((((22 : Int32) * M_hand) + (M_presses (M_hand).toNatClampNeg)) - (1 : Int32)) ≤ v1 then mn ((40 : Int32) * M_hand) (fun v1_3 => g_X7_writeAll_156 F F v1_3 M_hand M_names M_nameSizes M_copperAt M_vias M_viaFrom M_viaTo M_out M_written) else mg (inb v1 44) (mg (inb v1 44) (mb2 (f_X7_sayTwo F (5 : Int32) (M_pressFrom (v1).toNatClampNeg) (M_pressTo (v1).toNatClampNeg) M_hand M_names M_nameSizes M_copperAt M_out M_written) (fun M_out_6 M_written_7 => mn (v1 + (1 : Int32)) (fun v1_9 => g_X7_writeAll_102 F n v1_9 M_hand M_names M_nameSizes M_copperAt M_presses M_pressFrom M_pressTo M_vias M_viaFrom M_viaTo M_out_6 M_written_7)))))) := rfl
def g_X7_writeAll_7 (F : Nat) : Nat → Int32 → Int32 → (Nat → Int32) → (Nat → Int32) → (Nat → Int64) → (Nat → Int32) → (Nat → Int64) → (Nat → Int32) → (Nat → Int32) → (Nat → Int32) → (Nat → Int32) → (Nat → Int32) → (Nat → Int32) → (Nat → Int32) → (Nat → Int32) → (Nat → Int32) → Int32 → Option ((Nat → Int32) × Int32)
  | 0, _, _, _, _, _, _, _, _, _, _, _, _, _, _, _, _, _ => none
  | n + 1, v1, M_hand, M_layers, M_kinds, M_names, M_nameSizes, M_thicknesses, M_spreads, M_copperAt, M_presses, M_pressFrom, M_pressTo, M_vias, M_viaFrom, M_viaTo, M_out, M_written => mg (inb M_hand 2) ((if (M_layers (M_hand).toNatClampNeg) ≤ v1 then mn ((22 : Int32) * M_hand) (fun v1_3 => g_X7_writeAll_102 F F v1_3 M_hand M_names M_nameSizes M_copperAt M_presses M_pressFrom M_pressTo M_vias M_viaFrom M_viaTo M_out M_written) else mn (((80 : Int32) * M_hand) + v1) (fun v2_4 => mg (inb v2_4 160) (mb2 (f_X7_sayWord F (M_kinds (v2_4).toNatClampNeg) M_out M_written) (fun M_out_6 M_written_7 => mb2 (f_X7_sayName F v1 M_hand M_names M_nameSizes M_out_6 M_written_7) (fun M_out_9 M_written_10 => mg (inb v2_4 160) ((if (M_kinds (v2_4).toNatClampNeg) = (4 : Int32) then mb2 (f_X7_say F (10 : Int32) M_out_9 M_written_10) (fun M_out_14 M_written_15 => mn (v1 + (1 : Int32)) (fun v1_17 => g_X7_writeAll_7 F n v1_17 M_hand M_layers M_kinds M_names M_nameSizes M_thicknesses M_spreads M_copperAt M_presses M_pressFrom M_pressTo M_vias M_viaFrom M_viaTo M_out_14 M_written_15)) else mg (inb v2_4 160) (mb2 (f_X7_sayNumber F (M_thicknesses (v2_4).toNatClampNeg) (1000 : Int64) M_out_9 M_written_10) (fun M_out_19 M_written_20 => mg (inb v2_4 160) (mb2 (f_X7_sayNumber F (((M_spreads (v2_4).toNatClampNeg)).toInt64) (10 : Int64) M_out_19 M_written_20) (fun M_out_23 M_written_24 => mb2 (f_X7_say F (10 : Int32) M_out_23 M_written_24) (fun M_out_26 M_written_27 => mn (v1 + (1 : Int32)) (fun v1_29 => g_X7_writeAll_7 F n v1_29 M_hand M_layers M_kinds M_names M_nameSizes M_thicknesses M_spreads M_copperAt M_presses M_pressFrom M_pressTo M_vias M_viaFrom M_viaTo M_out_26 M_written_27))))))))))))))
theorem g_X7_writeAll_7_z (F : Nat) (v1 : Int32) (M_hand : Int32) (M_layers : Nat → Int32) (M_kinds : Nat → Int32) (M_names : Nat → Int64) (M_nameSizes : Nat → Int32) (M_thicknesses : Nat → Int64) (M_spreads : Nat → Int32) (M_copperAt : Nat → Int32) (M_presses : Nat → Int32) (M_pressFrom : Nat → Int32) (M_pressTo : Nat → Int32) (M_vias : Nat → Int32) (M_viaFrom : Nat → Int32) (M_viaTo : Nat → Int32) (M_out : Nat → Int32) (M_written : Int32) : g_X7_writeAll_7 F 0 v1 M_hand M_layers M_kinds M_names M_nameSizes M_thicknesses M_spreads M_copperAt M_presses M_pressFrom M_pressTo M_vias M_viaFrom M_viaTo M_out M_written = none := rfl
theorem g_X7_writeAll_7_s (F : Nat) (n : Nat) (v1 : Int32) (M_hand : Int32) (M_layers : Nat → Int32) (M_kinds : Nat → Int32) (M_names : Nat → Int64) (M_nameSizes : Nat → Int32) (M_thicknesses : Nat → Int64) (M_spreads : Nat → Int32) (M_copperAt : Nat → Int32) (M_presses : Nat → Int32) (M_pressFrom : Nat → Int32) (M_pressTo : Nat → Int32) (M_vias : Nat → Int32) (M_viaFrom : Nat → Int32) (M_viaTo : Nat → Int32) (M_out : Nat → Int32) (M_written : Int32) : g_X7_writeAll_7 F (n + 1) v1 M_hand M_layers M_kinds M_names M_nameSizes M_thicknesses M_spreads M_copperAt M_presses M_pressFrom M_pressTo M_vias M_viaFrom M_viaTo M_out M_written = mg (inb M_hand 2) ((if (M_layers (M_hand).toNatClampNeg) ≤ v1 then mn ((22 : Int32) * M_hand) (fun v1_3 => g_X7_writeAll_102 F F v1_3 M_hand M_names M_nameSizes M_copperAt M_presses M_pressFrom M_pressTo M_vias M_viaFrom M_viaTo M_out M_written) else mn (((80 : Int32) * M_hand) + v1) (fun v2_4 => mg (inb v2_4 160) (mb2 (f_X7_sayWord F (M_kinds (v2_4).toNatClampNeg) M_out M_written) (fun M_out_6 M_written_7 => mb2 (f_X7_sayName F v1 M_hand M_names M_nameSizes M_out_6 M_written_7) (fun M_out_9 M_written_10 => mg (inb v2_4 160) ((if (M_kinds (v2_4).toNatClampNeg) = (4 : Int32) then mb2 (f_X7_say F (10 : Int32) M_out_9 M_written_10) (fun M_out_14 M_written_15 => mn (v1 + (1 : Int32)) (fun v1_17 => g_X7_writeAll_7 F n v1_17 M_hand M_layers M_kinds M_names M_nameSizes M_thicknesses M_spreads M_copperAt M_presses M_pressFrom M_pressTo M_vias M_viaFrom M_viaTo M_out_14 M_written_15)) else mg (inb v2_4 160) (mb2 (f_X7_sayNumber F (M_thicknesses (v2_4).toNatClampNeg) (1000 : Int64) M_out_9 M_written_10) (fun M_out_19 M_written_20 => mg (inb v2_4 160) (mb2 (f_X7_sayNumber F (((M_spreads (v2_4).toNatClampNeg)).toInt64) (10 : Int64) M_out_19 M_written_20) (fun M_out_23 M_written_24 => mb2 (f_X7_say F (10 : Int32) M_out_23 M_written_24) (fun M_out_26 M_written_27 => mn (v1 + (1 : Int32)) (fun v1_29 => g_X7_writeAll_7 F n v1_29 M_hand M_layers M_kinds M_names M_nameSizes M_thicknesses M_spreads M_copperAt M_presses M_pressFrom M_pressTo M_vias M_viaFrom M_viaTo M_out_26 M_written_27)))))))))))))) := rfl
def f_X7_writeAll (F : Nat) (M_hand : Int32) (M_layers : Nat → Int32) (M_kinds : Nat → Int32) (M_names : Nat → Int64) (M_nameSizes : Nat → Int32) (M_thicknesses : Nat → Int64) (M_spreads : Nat → Int32) (M_copperAt : Nat → Int32) (M_presses : Nat → Int32) (M_pressFrom : Nat → Int32) (M_pressTo : Nat → Int32) (M_vias : Nat → Int32) (M_viaFrom : Nat → Int32) (M_viaTo : Nat → Int32) (M_out : Nat → Int32) (M_written : Int32) : Option ((Nat → Int32) × Int32) := g_X7_writeAll_7 F F (0 : Int32) M_hand M_layers M_kinds M_names M_nameSizes M_thicknesses M_spreads M_copperAt M_presses M_pressFrom M_pressTo M_vias M_viaFrom M_viaTo M_out (0 : Int32)
set_option maxRecDepth 20000 in
theorem n_X7_writeAll_X7 : ∀ w ∈ wsX70, w ∈ wsX7_writeAll := by decide +kernel
set_option maxRecDepth 20000 in
theorem w_X7_writeAll_f13 : Cond.fieldLink RX7 13 "LayerStacksModel" "layers" "[I" ∈ wsX7_writeAll := by decide +kernel
set_option maxRecDepth 20000 in
theorem w_X7_writeAll_f195 : Cond.fieldLink RX7 195 "LayerStacksModel" "hand" "I" ∈ wsX7_writeAll := by decide +kernel
set_option maxRecDepth 20000 in
theorem w_X7_writeAll_f16 : Cond.fieldLink RX7 16 "LayerStacksModel" "kinds" "[I" ∈ wsX7_writeAll := by decide +kernel
set_option maxRecDepth 20000 in
theorem w_X7_writeAll_f26 : Cond.fieldLink RX7 26 "LayerStacksModel" "thicknesses" "[J" ∈ wsX7_writeAll := by decide +kernel
set_option maxRecDepth 20000 in
theorem w_X7_writeAll_k212 : Cond.constantLong RX7 212 (1000) ∈ wsX7_writeAll := by decide +kernel
set_option maxRecDepth 20000 in
theorem w_X7_writeAll_f29 : Cond.fieldLink RX7 29 "LayerStacksModel" "spreads" "[I" ∈ wsX7_writeAll := by decide +kernel
set_option maxRecDepth 20000 in
theorem w_X7_writeAll_k127 : Cond.constantLong RX7 127 (10) ∈ wsX7_writeAll := by decide +kernel
set_option maxRecDepth 20000 in
theorem w_X7_writeAll_f38 : Cond.fieldLink RX7 38 "LayerStacksModel" "presses" "[I" ∈ wsX7_writeAll := by decide +kernel
set_option maxRecDepth 20000 in
theorem w_X7_writeAll_f41 : Cond.fieldLink RX7 41 "LayerStacksModel" "pressFrom" "[I" ∈ wsX7_writeAll := by decide +kernel
set_option maxRecDepth 20000 in
theorem w_X7_writeAll_f44 : Cond.fieldLink RX7 44 "LayerStacksModel" "pressTo" "[I" ∈ wsX7_writeAll := by decide +kernel
set_option maxRecDepth 20000 in
theorem w_X7_writeAll_f47 : Cond.fieldLink RX7 47 "LayerStacksModel" "vias" "[I" ∈ wsX7_writeAll := by decide +kernel
set_option maxRecDepth 20000 in
theorem w_X7_writeAll_f50 : Cond.fieldLink RX7 50 "LayerStacksModel" "viaFrom" "[I" ∈ wsX7_writeAll := by decide +kernel
set_option maxRecDepth 20000 in
theorem w_X7_writeAll_f53 : Cond.fieldLink RX7 53 "LayerStacksModel" "viaTo" "[I" ∈ wsX7_writeAll := by decide +kernel
set_option maxRecDepth 20000 in
theorem w_X7_writeAll_f249 : Cond.fieldLink RX7 249 "LayerStacksModel" "written" "I" ∈ wsX7_writeAll := by decide +kernel
set_option maxHeartbeats 4000000 in
set_option maxRecDepth 100000 in
theorem k_X7_writeAll_156 {p : Program} {l : Launch} {e : Env} {s : State} {m : MethodId} {args : Array Value} {below : List Frame} {meth : Method} {c : Code} {D : va_G} {y : Nat → ClassId} {A : Nat → Prop} {q : Nat → Nat} {M_thrown : Int32} {M_text : Nat → Int32} {M_size : Int32} {M_has : Int32} {M_layers : Nat → Int32} {M_kinds : Nat → Int32} {M_thicknesses : Nat → Int64} {M_spreads : Nat → Int32} {M_coppers : Nat → Int32} {M_presses : Nat → Int32} {M_pressFrom : Nat → Int32} {M_pressTo : Nat → Int32} {M_shares : Nat → Int32} {M_lists : Int32} {M_hasRow : Nat → Int32} {M_rowLow : Nat → Int64} {M_rowHigh : Nat → Int64} {M_p : Int32} {M_s : Int32} {M_fault : Int32} {M_lines : Int32} {M_word : Int64} {M_wordSize : Int32} {M_secondOne : Int32} {z : (Nat → Int32) × Int32} (C : CX p s m args meth c wsX7_writeAll RX7 cX7_writeAll 3 none) (hA : ∀ q : Nat, s.heap.size ≤ q → A q) (hK : va_K D vwCl (tyl y) s) (F : Nat) :
    ∀ (n : Nat), ∀ (v1 : Int32) (M_hand : Int32) (M_names : Nat → Int64) (M_nameSizes : Nat → Int32) (M_copperAt : Nat → Int32) (M_vias : Nat → Int32) (M_viaFrom : Nat → Int32) (M_viaTo : Nat → Int32) (M_out : Nat → Int32) (M_written : Int32) (H : Heap) (locs : List Loc) (ls : Array Slot), g_X7_writeAll_156 F n v1 M_hand M_names M_nameSizes M_copperAt M_vias M_viaFrom M_viaTo M_out M_written = some z → va_P D vwCl (wdX7 q y M_thrown M_text M_size M_has M_hand M_layers M_kinds M_names M_nameSizes M_thicknesses M_spreads M_coppers M_copperAt M_presses M_pressFrom M_pressTo M_vias M_viaFrom M_viaTo M_shares M_lists M_hasRow M_rowLow M_rowHigh M_p M_s M_fault M_lines M_word M_wordSize M_out M_written M_secondOne) H → va_D A (wdX7 q y M_thrown M_text M_size M_has M_hand M_layers M_kinds M_names M_nameSizes M_thicknesses M_spreads M_coppers M_copperAt M_presses M_pressFrom M_pressTo M_vias M_viaFrom M_viaTo M_shares M_lists M_hasRow M_rowLow M_rowHigh M_p M_s M_fault M_lines M_word M_wordSize M_out M_written M_secondOne) → va_S A s.heap H locs → lv_has ls 3 [(0, .ref (q 0)), (1, .int v1)] → W p l e ({ frames := 5, cells := 0, slots := 0, locals := 114 } : Room) s m args below meth c H locs 0 0 (MQ below (QV D y A (wdX7 q y M_thrown M_text M_size M_has M_hand M_layers M_kinds M_names M_nameSizes M_thicknesses M_spreads M_coppers M_copperAt M_presses M_pressFrom M_pressTo M_vias M_viaFrom M_viaTo M_shares M_lists M_hasRow M_rowLow M_rowHigh M_p M_s M_fault M_lines M_word M_wordSize (z.1) (z.2) M_secondOne)) args s 0 0 A) (F0 m 156 ls []) := by
  obtain ⟨⟨hx, hb, hml, hown, hts⟩, hr, hlocks⟩ := id C
  intro n
  induction n with
  | zero =>
    intro v1 M_hand M_names M_nameSizes M_copperAt M_vias M_viaFrom M_viaTo M_out M_written H locs ls hm
    rw [g_X7_writeAll_156_z] at hm
    cases hm
  | succ n ih =>
    intro v1 M_hand M_names M_nameSizes M_copperAt M_vias M_viaFrom M_viaTo M_out M_written H locs ls hm hP hD hS hl
    rw [g_X7_writeAll_156_s] at hm
    refine lv_iload_n hx hb dX7_writeAll_156 rfl (lv_at hl 1 rfl) ?_
    refine lv_bipush (v := (40 : Int32)) hx hb dX7_writeAll_157 (by decide) ?_
    refine lv_aload_n hx hb dX7_writeAll_159 rfl (lv_at hl 0 rfl) ?_
    refine va_get (D := D) (ci := 7) (v := .int M_hand) (C := RX7) (T := TX7) (N := 33) hx hb hts n_X7_writeAll_X7 hown hK hP 0 rfl rfl 4 (by decide) (hts _ w_X7_writeAll_f195) (fun _ h9 => h9) rfl dX7_writeAll_160 ?_
    refine lv_imul hx hb dX7_writeAll_163 ?_
    refine lv_aload_n hx hb dX7_writeAll_164 rfl (lv_at hl 0 rfl) ?_
    refine va_get (D := D) (ci := 7) (v := .ref (q 13)) (C := RX7) (T := TX7) (N := 33) hx hb hts n_X7_writeAll_X7 hown hK hP 0 rfl rfl 16 (by decide) (hts _ w_X7_writeAll_f47) (fun _ h9 => h9) rfl dX7_writeAll_165 ?_
    refine lv_aload_n hx hb dX7_writeAll_168 rfl (lv_at hl 0 rfl) ?_
    refine va_get (D := D) (ci := 7) (v := .int M_hand) (C := RX7) (T := TX7) (N := 33) hx hb hts n_X7_writeAll_X7 hown hK hP 0 rfl rfl 4 (by decide) (hts _ w_X7_writeAll_f195) (fun _ h9 => h9) rfl dX7_writeAll_169 ?_
    obtain ⟨hg_1, hm⟩ := mg_of hm
    refine va_iald hx hb hK hP 13 0 rfl rfl hg_1 dX7_writeAll_172 ?_
    refine lv_iadd hx hb dX7_writeAll_173 ?_
    refine lv_icmp_ge (tgt := 201) hx hb dX7_writeAll_174 (by decide) (fun h_2 => ?_) (fun h_2 => ?_)
    · have hm := it_of hm h_2
      have hz := Option.some.inj hm
      subst hz
      exact end_v C hK hP hD hS dX7_writeAll_201
    · have hm := ie_of hm h_2
      refine lv_aload_n hx hb dX7_writeAll_177 rfl (lv_at hl 0 rfl) ?_
      refine lv_bipush (v := (6 : Int32)) hx hb dX7_writeAll_178 (by decide) ?_
      refine lv_aload_n hx hb dX7_writeAll_180 rfl (lv_at hl 0 rfl) ?_
      refine va_get (D := D) (ci := 7) (v := .ref (q 14)) (C := RX7) (T := TX7) (N := 33) hx hb hts n_X7_writeAll_X7 hown hK hP 0 rfl rfl 17 (by decide) (hts _ w_X7_writeAll_f50) (fun _ h9 => h9) rfl dX7_writeAll_181 ?_
      refine lv_iload_n hx hb dX7_writeAll_184 rfl (lv_at hl 1 rfl) ?_
      obtain ⟨hg_3, hm⟩ := mg_of hm
      refine va_iald hx hb hK hP 14 0 rfl rfl hg_3 dX7_writeAll_185 ?_
      refine lv_aload_n hx hb dX7_writeAll_186 rfl (lv_at hl 0 rfl) ?_
      refine va_get (D := D) (ci := 7) (v := .ref (q 15)) (C := RX7) (T := TX7) (N := 33) hx hb hts n_X7_writeAll_X7 hown hK hP 0 rfl rfl 18 (by decide) (hts _ w_X7_writeAll_f53) (fun _ h9 => h9) rfl dX7_writeAll_187 ?_
      refine lv_iload_n hx hb dX7_writeAll_190 rfl (lv_at hl 1 rfl) ?_
      obtain ⟨hg_4, hm⟩ := mg_of hm
      refine va_iald hx hb hK hP 15 0 rfl rfl hg_4 dX7_writeAll_191 ?_
      obtain ⟨M_out_5, M_written_6, hc_7, hm⟩ := mb2_of hm
      refine call_vv (wc := (wdX7 q y M_thrown M_text M_size M_has M_hand M_layers M_kinds M_names M_nameSizes M_thicknesses M_spreads M_coppers M_copperAt M_presses M_pressFrom M_pressTo M_vias M_viaFrom M_viaTo M_shares M_lists M_hasRow M_rowLow M_rowHigh M_p M_s M_fault M_lines M_word M_wordSize M_out M_written M_secondOne)) (wr := []) (As := [.int (6 : Int32), .int (M_viaFrom (v1).toNatClampNeg), .int (M_viaTo (v1).toNatClampNeg)]) (rest := []) C (c_X7_sayTwo l D y q _ F hc_7) (cwV 3 hts gX7_writeAll_X7_sayTwo rfl rfl rfl (by decide +kernel) ⟨Nat.le_of_ble_eq_true rfl, Nat.le_of_ble_eq_true rfl⟩) hK hP hD hS hA [0, 1, 2, 3, 4, 5, 6, 7, 8, 9, 10, 11, 12, 13, 14, 15, 16, 17, 18, 19, 20] [] rfl rfl rfl rfl rfl (by decide) rfl rfl rfl rfl hl.1 (Nat.le_of_ble_eq_true rfl) dX7_writeAll_192 (fun H locs hP hD hS => ?_)
      have hP : va_P D vwCl (wdX7 q y M_thrown M_text M_size M_has M_hand M_layers M_kinds M_names M_nameSizes M_thicknesses M_spreads M_coppers M_copperAt M_presses M_pressFrom M_pressTo M_vias M_viaFrom M_viaTo M_shares M_lists M_hasRow M_rowLow M_rowHigh M_p M_s M_fault M_lines M_word M_wordSize M_out_5 M_written_6 M_secondOne) H := hP
      have hD : va_D A (wdX7 q y M_thrown M_text M_size M_has M_hand M_layers M_kinds M_names M_nameSizes M_thicknesses M_spreads M_coppers M_copperAt M_presses M_pressFrom M_pressTo M_vias M_viaFrom M_viaTo M_shares M_lists M_hasRow M_rowLow M_rowHigh M_p M_s M_fault M_lines M_word M_wordSize M_out_5 M_written_6 M_secondOne) := hD
      obtain ⟨v1_8, ev1_8⟩ : ∃ y9 : Int32, y9 = (v1 + (1 : Int32)) := ⟨_, rfl⟩
      have hm := mn_of ev1_8 hm
      refine lv_iinc (v := v1_8) (lv' := [(1, .int v1_8), (0, .ref (q 0))]) hx hb dX7_writeAll_195 hl (k := 1) rfl (by rw [ev1_8]; rfl) (by decide) rfl (fun ls hl => ?_)
      refine lv_goto (tgt := 156) hx hb dX7_writeAll_198 (by decide) ?_
      exact ih v1_8 M_hand M_names M_nameSizes M_copperAt M_vias M_viaFrom M_viaTo M_out_5 M_written_6 _ _ _ hm hP hD hS (lv_sub hl [1, 0] rfl)
set_option maxHeartbeats 4000000 in
set_option maxRecDepth 100000 in
theorem k_X7_writeAll_102 {p : Program} {l : Launch} {e : Env} {s : State} {m : MethodId} {args : Array Value} {below : List Frame} {meth : Method} {c : Code} {D : va_G} {y : Nat → ClassId} {A : Nat → Prop} {q : Nat → Nat} {M_thrown : Int32} {M_text : Nat → Int32} {M_size : Int32} {M_has : Int32} {M_layers : Nat → Int32} {M_kinds : Nat → Int32} {M_thicknesses : Nat → Int64} {M_spreads : Nat → Int32} {M_coppers : Nat → Int32} {M_shares : Nat → Int32} {M_lists : Int32} {M_hasRow : Nat → Int32} {M_rowLow : Nat → Int64} {M_rowHigh : Nat → Int64} {M_p : Int32} {M_s : Int32} {M_fault : Int32} {M_lines : Int32} {M_word : Int64} {M_wordSize : Int32} {M_secondOne : Int32} {z : (Nat → Int32) × Int32} (C : CX p s m args meth c wsX7_writeAll RX7 cX7_writeAll 3 none) (hA : ∀ q : Nat, s.heap.size ≤ q → A q) (hK : va_K D vwCl (tyl y) s) (F : Nat) :
    ∀ (n : Nat), ∀ (v1 : Int32) (M_hand : Int32) (M_names : Nat → Int64) (M_nameSizes : Nat → Int32) (M_copperAt : Nat → Int32) (M_presses : Nat → Int32) (M_pressFrom : Nat → Int32) (M_pressTo : Nat → Int32) (M_vias : Nat → Int32) (M_viaFrom : Nat → Int32) (M_viaTo : Nat → Int32) (M_out : Nat → Int32) (M_written : Int32) (H : Heap) (locs : List Loc) (ls : Array Slot), g_X7_writeAll_102 F n v1 M_hand M_names M_nameSizes M_copperAt M_presses M_pressFrom M_pressTo M_vias M_viaFrom M_viaTo M_out M_written = some z → va_P D vwCl (wdX7 q y M_thrown M_text M_size M_has M_hand M_layers M_kinds M_names M_nameSizes M_thicknesses M_spreads M_coppers M_copperAt M_presses M_pressFrom M_pressTo M_vias M_viaFrom M_viaTo M_shares M_lists M_hasRow M_rowLow M_rowHigh M_p M_s M_fault M_lines M_word M_wordSize M_out M_written M_secondOne) H → va_D A (wdX7 q y M_thrown M_text M_size M_has M_hand M_layers M_kinds M_names M_nameSizes M_thicknesses M_spreads M_coppers M_copperAt M_presses M_pressFrom M_pressTo M_vias M_viaFrom M_viaTo M_shares M_lists M_hasRow M_rowLow M_rowHigh M_p M_s M_fault M_lines M_word M_wordSize M_out M_written M_secondOne) → va_S A s.heap H locs → lv_has ls 3 [(0, .ref (q 0)), (1, .int v1)] → W p l e ({ frames := 5, cells := 0, slots := 0, locals := 114 } : Room) s m args below meth c H locs 0 0 (MQ below (QV D y A (wdX7 q y M_thrown M_text M_size M_has M_hand M_layers M_kinds M_names M_nameSizes M_thicknesses M_spreads M_coppers M_copperAt M_presses M_pressFrom M_pressTo M_vias M_viaFrom M_viaTo M_shares M_lists M_hasRow M_rowLow M_rowHigh M_p M_s M_fault M_lines M_word M_wordSize (z.1) (z.2) M_secondOne)) args s 0 0 A) (F0 m 102 ls []) := by
  obtain ⟨⟨hx, hb, hml, hown, hts⟩, hr, hlocks⟩ := id C
  intro n
  induction n with
  | zero =>
    intro v1 M_hand M_names M_nameSizes M_copperAt M_presses M_pressFrom M_pressTo M_vias M_viaFrom M_viaTo M_out M_written H locs ls hm
    rw [g_X7_writeAll_102_z] at hm
    cases hm
  | succ n ih =>
    intro v1 M_hand M_names M_nameSizes M_copperAt M_presses M_pressFrom M_pressTo M_vias M_viaFrom M_viaTo M_out M_written H locs ls hm hP hD hS hl
    rw [g_X7_writeAll_102_s] at hm
    refine lv_iload_n hx hb dX7_writeAll_102 rfl (lv_at hl 1 rfl) ?_
    refine lv_bipush (v := (22 : Int32)) hx hb dX7_writeAll_103 (by decide) ?_
    refine lv_aload_n hx hb dX7_writeAll_105 rfl (lv_at hl 0 rfl) ?_
    refine va_get (D := D) (ci := 7) (v := .int M_hand) (C := RX7) (T := TX7) (N := 33) hx hb hts n_X7_writeAll_X7 hown hK hP 0 rfl rfl 4 (by decide) (hts _ w_X7_writeAll_f195) (fun _ h9 => h9) rfl dX7_writeAll_106 ?_
    refine lv_imul hx hb dX7_writeAll_109 ?_
    refine lv_aload_n hx hb dX7_writeAll_110 rfl (lv_at hl 0 rfl) ?_
    refine va_get (D := D) (ci := 7) (v := .ref (q 10)) (C := RX7) (T := TX7) (N := 33) hx hb hts n_X7_writeAll_X7 hown hK hP 0 rfl rfl 13 (by decide) (hts _ w_X7_writeAll_f38) (fun _ h9 => h9) rfl dX7_writeAll_111 ?_
    refine lv_aload_n hx hb dX7_writeAll_114 rfl (lv_at hl 0 rfl) ?_
    refine va_get (D := D) (ci := 7) (v := .int M_hand) (C := RX7) (T := TX7) (N := 33) hx hb hts n_X7_writeAll_X7 hown hK hP 0 rfl rfl 4 (by decide) (hts _ w_X7_writeAll_f195) (fun _ h9 => h9) rfl dX7_writeAll_115 ?_
    obtain ⟨hg_1, hm⟩ := mg_of hm
    refine va_iald hx hb hK hP 10 0 rfl rfl hg_1 dX7_writeAll_118 ?_
    refine lv_iadd hx hb dX7_writeAll_119 ?_
    refine lv_iconst (v := (1 : Int32)) hx hb dX7_writeAll_120 (by decide) ?_
    refine lv_isub hx hb dX7_writeAll_121 ?_
    refine lv_icmp_ge (tgt := 148) hx hb dX7_writeAll_122 (by decide) (fun h_2 => ?_) (fun h_2 => ?_)
    · have hm := it_of hm h_2
      refine lv_bipush (v := (40 : Int32)) hx hb dX7_writeAll_148 (by decide) ?_
      refine lv_aload_n hx hb dX7_writeAll_150 rfl (lv_at hl 0 rfl) ?_
      refine va_get (D := D) (ci := 7) (v := .int M_hand) (C := RX7) (T := TX7) (N := 33) hx hb hts n_X7_writeAll_X7 hown hK hP 0 rfl rfl 4 (by decide) (hts _ w_X7_writeAll_f195) (fun _ h9 => h9) rfl dX7_writeAll_151 ?_
      refine lv_imul hx hb dX7_writeAll_154 ?_
      refine lv_topi (fun v1_3 ev1_3 => ?_)
      have hm := mn_of ev1_3 hm
      refine lv_istore_n (lv' := [(1, .int v1_3), (0, .ref (q 0))]) hx hb dX7_writeAll_155 rfl hl (by decide) rfl (fun ls hl => ?_)
      exact k_X7_writeAll_156 C hA hK F F v1_3 M_hand M_names M_nameSizes M_copperAt M_vias M_viaFrom M_viaTo M_out M_written _ _ _ hm hP hD hS (lv_sub hl [1, 0] rfl)
    · have hm := ie_of hm h_2
      refine lv_aload_n hx hb dX7_writeAll_125 rfl (lv_at hl 0 rfl) ?_
      refine lv_iconst (v := (5 : Int32)) hx hb dX7_writeAll_126 (by decide) ?_
      refine lv_aload_n hx hb dX7_writeAll_127 rfl (lv_at hl 0 rfl) ?_
      refine va_get (D := D) (ci := 7) (v := .ref (q 11)) (C := RX7) (T := TX7) (N := 33) hx hb hts n_X7_writeAll_X7 hown hK hP 0 rfl rfl 14 (by decide) (hts _ w_X7_writeAll_f41) (fun _ h9 => h9) rfl dX7_writeAll_128 ?_
      refine lv_iload_n hx hb dX7_writeAll_131 rfl (lv_at hl 1 rfl) ?_
      obtain ⟨hg_4, hm⟩ := mg_of hm
      refine va_iald hx hb hK hP 11 0 rfl rfl hg_4 dX7_writeAll_132 ?_
      refine lv_aload_n hx hb dX7_writeAll_133 rfl (lv_at hl 0 rfl) ?_
      refine va_get (D := D) (ci := 7) (v := .ref (q 12)) (C := RX7) (T := TX7) (N := 33) hx hb hts n_X7_writeAll_X7 hown hK hP 0 rfl rfl 15 (by decide) (hts _ w_X7_writeAll_f44) (fun _ h9 => h9) rfl dX7_writeAll_134 ?_
      refine lv_iload_n hx hb dX7_writeAll_137 rfl (lv_at hl 1 rfl) ?_
      obtain ⟨hg_5, hm⟩ := mg_of hm
      refine va_iald hx hb hK hP 12 0 rfl rfl hg_5 dX7_writeAll_138 ?_
      obtain ⟨M_out_6, M_written_7, hc_8, hm⟩ := mb2_of hm
      refine call_vv (wc := (wdX7 q y M_thrown M_text M_size M_has M_hand M_layers M_kinds M_names M_nameSizes M_thicknesses M_spreads M_coppers M_copperAt M_presses M_pressFrom M_pressTo M_vias M_viaFrom M_viaTo M_shares M_lists M_hasRow M_rowLow M_rowHigh M_p M_s M_fault M_lines M_word M_wordSize M_out M_written M_secondOne)) (wr := []) (As := [.int (5 : Int32), .int (M_pressFrom (v1).toNatClampNeg), .int (M_pressTo (v1).toNatClampNeg)]) (rest := []) C (c_X7_sayTwo l D y q _ F hc_8) (cwV 3 hts gX7_writeAll_X7_sayTwo rfl rfl rfl (by decide +kernel) ⟨Nat.le_of_ble_eq_true rfl, Nat.le_of_ble_eq_true rfl⟩) hK hP hD hS hA [0, 1, 2, 3, 4, 5, 6, 7, 8, 9, 10, 11, 12, 13, 14, 15, 16, 17, 18, 19, 20] [] rfl rfl rfl rfl rfl (by decide) rfl rfl rfl rfl hl.1 (Nat.le_of_ble_eq_true rfl) dX7_writeAll_139 (fun H locs hP hD hS => ?_)
      have hP : va_P D vwCl (wdX7 q y M_thrown M_text M_size M_has M_hand M_layers M_kinds M_names M_nameSizes M_thicknesses M_spreads M_coppers M_copperAt M_presses M_pressFrom M_pressTo M_vias M_viaFrom M_viaTo M_shares M_lists M_hasRow M_rowLow M_rowHigh M_p M_s M_fault M_lines M_word M_wordSize M_out_6 M_written_7 M_secondOne) H := hP
      have hD : va_D A (wdX7 q y M_thrown M_text M_size M_has M_hand M_layers M_kinds M_names M_nameSizes M_thicknesses M_spreads M_coppers M_copperAt M_presses M_pressFrom M_pressTo M_vias M_viaFrom M_viaTo M_shares M_lists M_hasRow M_rowLow M_rowHigh M_p M_s M_fault M_lines M_word M_wordSize M_out_6 M_written_7 M_secondOne) := hD
      obtain ⟨v1_9, ev1_9⟩ : ∃ y9 : Int32, y9 = (v1 + (1 : Int32)) := ⟨_, rfl⟩
      have hm := mn_of ev1_9 hm
      refine lv_iinc (v := v1_9) (lv' := [(1, .int v1_9), (0, .ref (q 0))]) hx hb dX7_writeAll_142 hl (k := 1) rfl (by rw [ev1_9]; rfl) (by decide) rfl (fun ls hl => ?_)
      refine lv_goto (tgt := 102) hx hb dX7_writeAll_145 (by decide) ?_
      exact ih v1_9 M_hand M_names M_nameSizes M_copperAt M_presses M_pressFrom M_pressTo M_vias M_viaFrom M_viaTo M_out_6 M_written_7 _ _ _ hm hP hD hS (lv_sub hl [1, 0] rfl)
set_option maxHeartbeats 4000000 in
set_option maxRecDepth 100000 in
theorem k_X7_writeAll_7 {p : Program} {l : Launch} {e : Env} {s : State} {m : MethodId} {args : Array Value} {below : List Frame} {meth : Method} {c : Code} {D : va_G} {y : Nat → ClassId} {A : Nat → Prop} {q : Nat → Nat} {M_thrown : Int32} {M_text : Nat → Int32} {M_size : Int32} {M_has : Int32} {M_coppers : Nat → Int32} {M_shares : Nat → Int32} {M_lists : Int32} {M_hasRow : Nat → Int32} {M_rowLow : Nat → Int64} {M_rowHigh : Nat → Int64} {M_p : Int32} {M_s : Int32} {M_fault : Int32} {M_lines : Int32} {M_word : Int64} {M_wordSize : Int32} {M_secondOne : Int32} {z : (Nat → Int32) × Int32} (C : CX p s m args meth c wsX7_writeAll RX7 cX7_writeAll 3 none) (hA : ∀ q : Nat, s.heap.size ≤ q → A q) (hK : va_K D vwCl (tyl y) s) (F : Nat) :
    ∀ (n : Nat), ∀ (v1 : Int32) (M_hand : Int32) (M_layers : Nat → Int32) (M_kinds : Nat → Int32) (M_names : Nat → Int64) (M_nameSizes : Nat → Int32) (M_thicknesses : Nat → Int64) (M_spreads : Nat → Int32) (M_copperAt : Nat → Int32) (M_presses : Nat → Int32) (M_pressFrom : Nat → Int32) (M_pressTo : Nat → Int32) (M_vias : Nat → Int32) (M_viaFrom : Nat → Int32) (M_viaTo : Nat → Int32) (M_out : Nat → Int32) (M_written : Int32) (H : Heap) (locs : List Loc) (ls : Array Slot), g_X7_writeAll_7 F n v1 M_hand M_layers M_kinds M_names M_nameSizes M_thicknesses M_spreads M_copperAt M_presses M_pressFrom M_pressTo M_vias M_viaFrom M_viaTo M_out M_written = some z → va_P D vwCl (wdX7 q y M_thrown M_text M_size M_has M_hand M_layers M_kinds M_names M_nameSizes M_thicknesses M_spreads M_coppers M_copperAt M_presses M_pressFrom M_pressTo M_vias M_viaFrom M_viaTo M_shares M_lists M_hasRow M_rowLow M_rowHigh M_p M_s M_fault M_lines M_word M_wordSize M_out M_written M_secondOne) H → va_D A (wdX7 q y M_thrown M_text M_size M_has M_hand M_layers M_kinds M_names M_nameSizes M_thicknesses M_spreads M_coppers M_copperAt M_presses M_pressFrom M_pressTo M_vias M_viaFrom M_viaTo M_shares M_lists M_hasRow M_rowLow M_rowHigh M_p M_s M_fault M_lines M_word M_wordSize M_out M_written M_secondOne) → va_S A s.heap H locs → lv_has ls 3 [(0, .ref (q 0)), (1, .int v1)] → W p l e ({ frames := 5, cells := 0, slots := 0, locals := 114 } : Room) s m args below meth c H locs 0 0 (MQ below (QV D y A (wdX7 q y M_thrown M_text M_size M_has M_hand M_layers M_kinds M_names M_nameSizes M_thicknesses M_spreads M_coppers M_copperAt M_presses M_pressFrom M_pressTo M_vias M_viaFrom M_viaTo M_shares M_lists M_hasRow M_rowLow M_rowHigh M_p M_s M_fault M_lines M_word M_wordSize (z.1) (z.2) M_secondOne)) args s 0 0 A) (F0 m 7 ls []) := by
  obtain ⟨⟨hx, hb, hml, hown, hts⟩, hr, hlocks⟩ := id C
  intro n
  induction n with
  | zero =>
    intro v1 M_hand M_layers M_kinds M_names M_nameSizes M_thicknesses M_spreads M_copperAt M_presses M_pressFrom M_pressTo M_vias M_viaFrom M_viaTo M_out M_written H locs ls hm
    rw [g_X7_writeAll_7_z] at hm
    cases hm
  | succ n ih =>
    intro v1 M_hand M_layers M_kinds M_names M_nameSizes M_thicknesses M_spreads M_copperAt M_presses M_pressFrom M_pressTo M_vias M_viaFrom M_viaTo M_out M_written H locs ls hm hP hD hS hl
    rw [g_X7_writeAll_7_s] at hm
    refine lv_iload_n hx hb dX7_writeAll_7 rfl (lv_at hl 1 rfl) ?_
    refine lv_aload_n hx hb dX7_writeAll_8 rfl (lv_at hl 0 rfl) ?_
    refine va_get (D := D) (ci := 7) (v := .ref (q 2)) (C := RX7) (T := TX7) (N := 33) hx hb hts n_X7_writeAll_X7 hown hK hP 0 rfl rfl 5 (by decide) (hts _ w_X7_writeAll_f13) (fun _ h9 => h9) rfl dX7_writeAll_9 ?_
    refine lv_aload_n hx hb dX7_writeAll_12 rfl (lv_at hl 0 rfl) ?_
    refine va_get (D := D) (ci := 7) (v := .int M_hand) (C := RX7) (T := TX7) (N := 33) hx hb hts n_X7_writeAll_X7 hown hK hP 0 rfl rfl 4 (by decide) (hts _ w_X7_writeAll_f195) (fun _ h9 => h9) rfl dX7_writeAll_13 ?_
    obtain ⟨hg_1, hm⟩ := mg_of hm
    refine va_iald hx hb hK hP 2 0 rfl rfl hg_1 dX7_writeAll_16 ?_
    refine lv_icmp_ge (tgt := 94) hx hb dX7_writeAll_17 (by decide) (fun h_2 => ?_) (fun h_2 => ?_)
    · have hm := it_of hm h_2
      refine lv_bipush (v := (22 : Int32)) hx hb dX7_writeAll_94 (by decide) ?_
      refine lv_aload_n hx hb dX7_writeAll_96 rfl (lv_at hl 0 rfl) ?_
      refine va_get (D := D) (ci := 7) (v := .int M_hand) (C := RX7) (T := TX7) (N := 33) hx hb hts n_X7_writeAll_X7 hown hK hP 0 rfl rfl 4 (by decide) (hts _ w_X7_writeAll_f195) (fun _ h9 => h9) rfl dX7_writeAll_97 ?_
      refine lv_imul hx hb dX7_writeAll_100 ?_
      refine lv_topi (fun v1_3 ev1_3 => ?_)
      have hm := mn_of ev1_3 hm
      refine lv_istore_n (lv' := [(1, .int v1_3), (0, .ref (q 0))]) hx hb dX7_writeAll_101 rfl hl (by decide) rfl (fun ls hl => ?_)
      exact k_X7_writeAll_102 C hA hK F F v1_3 M_hand M_names M_nameSizes M_copperAt M_presses M_pressFrom M_pressTo M_vias M_viaFrom M_viaTo M_out M_written _ _ _ hm hP hD hS (lv_sub hl [1, 0] rfl)
    · have hm := ie_of hm h_2
      refine lv_bipush (v := (80 : Int32)) hx hb dX7_writeAll_20 (by decide) ?_
      refine lv_aload_n hx hb dX7_writeAll_22 rfl (lv_at hl 0 rfl) ?_
      refine va_get (D := D) (ci := 7) (v := .int M_hand) (C := RX7) (T := TX7) (N := 33) hx hb hts n_X7_writeAll_X7 hown hK hP 0 rfl rfl 4 (by decide) (hts _ w_X7_writeAll_f195) (fun _ h9 => h9) rfl dX7_writeAll_23 ?_
      refine lv_imul hx hb dX7_writeAll_26 ?_
      refine lv_iload_n hx hb dX7_writeAll_27 rfl (lv_at hl 1 rfl) ?_
      refine lv_iadd hx hb dX7_writeAll_28 ?_
      refine lv_topi (fun v2_4 ev2_4 => ?_)
      have hm := mn_of ev2_4 hm
      refine lv_istore_n (lv' := [(2, .int v2_4), (0, .ref (q 0)), (1, .int v1)]) hx hb dX7_writeAll_29 rfl hl (by decide) rfl (fun ls hl => ?_)
      refine lv_aload_n hx hb dX7_writeAll_30 rfl (lv_at hl 1 rfl) ?_
      refine lv_aload_n hx hb dX7_writeAll_31 rfl (lv_at hl 1 rfl) ?_
      refine va_get (D := D) (ci := 7) (v := .ref (q 3)) (C := RX7) (T := TX7) (N := 33) hx hb hts n_X7_writeAll_X7 hown hK hP 0 rfl rfl 6 (by decide) (hts _ w_X7_writeAll_f16) (fun _ h9 => h9) rfl dX7_writeAll_32 ?_
      refine lv_iload_n hx hb dX7_writeAll_35 rfl (lv_at hl 0 rfl) ?_
      obtain ⟨hg_5, hm⟩ := mg_of hm
      refine va_iald hx hb hK hP 3 0 rfl rfl hg_5 dX7_writeAll_36 ?_
      obtain ⟨M_out_6, M_written_7, hc_8, hm⟩ := mb2_of hm
      refine call_vv (wc := (wdX7 q y M_thrown M_text M_size M_has M_hand M_layers M_kinds M_names M_nameSizes M_thicknesses M_spreads M_coppers M_copperAt M_presses M_pressFrom M_pressTo M_vias M_viaFrom M_viaTo M_shares M_lists M_hasRow M_rowLow M_rowHigh M_p M_s M_fault M_lines M_word M_wordSize M_out M_written M_secondOne)) (wr := []) (As := [.int (M_kinds (v2_4).toNatClampNeg)]) (rest := []) C (c_X7_sayWord l D y q _ F hc_8) (cwV 1 hts gX7_writeAll_X7_sayWord rfl rfl rfl (by decide +kernel) ⟨Nat.le_of_ble_eq_true rfl, Nat.le_of_ble_eq_true rfl⟩) hK hP hD hS hA [0, 1, 2, 3, 4, 5, 6, 7, 8, 9, 10, 11, 12, 13, 14, 15, 16, 17, 18, 19, 20] [] rfl rfl rfl rfl rfl (by decide) rfl rfl rfl rfl hl.1 (Nat.le_of_ble_eq_true rfl) dX7_writeAll_37 (fun H locs hP hD hS => ?_)
      have hP : va_P D vwCl (wdX7 q y M_thrown M_text M_size M_has M_hand M_layers M_kinds M_names M_nameSizes M_thicknesses M_spreads M_coppers M_copperAt M_presses M_pressFrom M_pressTo M_vias M_viaFrom M_viaTo M_shares M_lists M_hasRow M_rowLow M_rowHigh M_p M_s M_fault M_lines M_word M_wordSize M_out_6 M_written_7 M_secondOne) H := hP
      have hD : va_D A (wdX7 q y M_thrown M_text M_size M_has M_hand M_layers M_kinds M_names M_nameSizes M_thicknesses M_spreads M_coppers M_copperAt M_presses M_pressFrom M_pressTo M_vias M_viaFrom M_viaTo M_shares M_lists M_hasRow M_rowLow M_rowHigh M_p M_s M_fault M_lines M_word M_wordSize M_out_6 M_written_7 M_secondOne) := hD
      refine lv_aload_n hx hb dX7_writeAll_40 rfl (lv_at hl 1 rfl) ?_
      refine lv_iload_n hx hb dX7_writeAll_41 rfl (lv_at hl 2 rfl) ?_
      obtain ⟨M_out_9, M_written_10, hc_11, hm⟩ := mb2_of hm
      refine call_vv (wc := (wdX7 q y M_thrown M_text M_size M_has M_hand M_layers M_kinds M_names M_nameSizes M_thicknesses M_spreads M_coppers M_copperAt M_presses M_pressFrom M_pressTo M_vias M_viaFrom M_viaTo M_shares M_lists M_hasRow M_rowLow M_rowHigh M_p M_s M_fault M_lines M_word M_wordSize M_out_6 M_written_7 M_secondOne)) (wr := []) (As := [.int v1]) (rest := []) C (c_X7_sayName l D y q _ F hc_11) (cwV 1 hts gX7_writeAll_X7_sayName rfl rfl rfl (by decide +kernel) ⟨Nat.le_of_ble_eq_true rfl, Nat.le_of_ble_eq_true rfl⟩) hK hP hD hS hA [0, 1, 2, 3, 4, 5, 6, 7, 8, 9, 10, 11, 12, 13, 14, 15, 16, 17, 18, 19, 20] [] rfl rfl rfl rfl rfl (by decide) rfl rfl rfl rfl hl.1 (Nat.le_of_ble_eq_true rfl) dX7_writeAll_42 (fun H locs hP hD hS => ?_)
      have hP : va_P D vwCl (wdX7 q y M_thrown M_text M_size M_has M_hand M_layers M_kinds M_names M_nameSizes M_thicknesses M_spreads M_coppers M_copperAt M_presses M_pressFrom M_pressTo M_vias M_viaFrom M_viaTo M_shares M_lists M_hasRow M_rowLow M_rowHigh M_p M_s M_fault M_lines M_word M_wordSize M_out_9 M_written_10 M_secondOne) H := hP
      have hD : va_D A (wdX7 q y M_thrown M_text M_size M_has M_hand M_layers M_kinds M_names M_nameSizes M_thicknesses M_spreads M_coppers M_copperAt M_presses M_pressFrom M_pressTo M_vias M_viaFrom M_viaTo M_shares M_lists M_hasRow M_rowLow M_rowHigh M_p M_s M_fault M_lines M_word M_wordSize M_out_9 M_written_10 M_secondOne) := hD
      refine lv_aload_n hx hb dX7_writeAll_45 rfl (lv_at hl 1 rfl) ?_
      refine va_get (D := D) (ci := 7) (v := .ref (q 3)) (C := RX7) (T := TX7) (N := 33) hx hb hts n_X7_writeAll_X7 hown hK hP 0 rfl rfl 6 (by decide) (hts _ w_X7_writeAll_f16) (fun _ h9 => h9) rfl dX7_writeAll_46 ?_
      refine lv_iload_n hx hb dX7_writeAll_49 rfl (lv_at hl 0 rfl) ?_
      obtain ⟨hg_12, hm⟩ := mg_of hm
      refine va_iald hx hb hK hP 3 0 rfl rfl hg_12 dX7_writeAll_50 ?_
      refine lv_iconst (v := (4 : Int32)) hx hb dX7_writeAll_51 (by decide) ?_
      refine lv_icmp_eq (tgt := 82) hx hb dX7_writeAll_52 (by decide) (fun h_13 => ?_) (fun h_13 => ?_)
      · have hm := it_of hm h_13
        refine lv_aload_n hx hb dX7_writeAll_82 rfl (lv_at hl 1 rfl) ?_
        refine lv_bipush (v := (10 : Int32)) hx hb dX7_writeAll_83 (by decide) ?_
        obtain ⟨M_out_14, M_written_15, hc_16, hm⟩ := mb2_of hm
        refine call_vv (wc := (wdX7 q y M_thrown M_text M_size M_has M_hand M_layers M_kinds M_names M_nameSizes M_thicknesses M_spreads M_coppers M_copperAt M_presses M_pressFrom M_pressTo M_vias M_viaFrom M_viaTo M_shares M_lists M_hasRow M_rowLow M_rowHigh M_p M_s M_fault M_lines M_word M_wordSize M_out_9 M_written_10 M_secondOne)) (wr := []) (As := [.int (10 : Int32)]) (rest := []) C (c_X7_say l D y q _ F hc_16) (cwV 1 hts gX7_writeAll_X7_say rfl rfl rfl (by decide +kernel) ⟨Nat.le_of_ble_eq_true rfl, Nat.le_of_ble_eq_true rfl⟩) hK hP hD hS hA [0, 1, 2, 3, 4, 5, 6, 7, 8, 9, 10, 11, 12, 13, 14, 15, 16, 17, 18, 19, 20] [] rfl rfl rfl rfl rfl (by decide) rfl rfl rfl rfl hl.1 (Nat.le_of_ble_eq_true rfl) dX7_writeAll_85 (fun H locs hP hD hS => ?_)
        have hP : va_P D vwCl (wdX7 q y M_thrown M_text M_size M_has M_hand M_layers M_kinds M_names M_nameSizes M_thicknesses M_spreads M_coppers M_copperAt M_presses M_pressFrom M_pressTo M_vias M_viaFrom M_viaTo M_shares M_lists M_hasRow M_rowLow M_rowHigh M_p M_s M_fault M_lines M_word M_wordSize M_out_14 M_written_15 M_secondOne) H := hP
        have hD : va_D A (wdX7 q y M_thrown M_text M_size M_has M_hand M_layers M_kinds M_names M_nameSizes M_thicknesses M_spreads M_coppers M_copperAt M_presses M_pressFrom M_pressTo M_vias M_viaFrom M_viaTo M_shares M_lists M_hasRow M_rowLow M_rowHigh M_p M_s M_fault M_lines M_word M_wordSize M_out_14 M_written_15 M_secondOne) := hD
        obtain ⟨v1_17, ev1_17⟩ : ∃ y9 : Int32, y9 = (v1 + (1 : Int32)) := ⟨_, rfl⟩
        have hm := mn_of ev1_17 hm
        refine lv_iinc (v := v1_17) (lv' := [(1, .int v1_17), (2, .int v2_4), (0, .ref (q 0))]) hx hb dX7_writeAll_88 hl (k := 2) rfl (by rw [ev1_17]; rfl) (by decide) rfl (fun ls hl => ?_)
        refine lv_goto (tgt := 7) hx hb dX7_writeAll_91 (by decide) ?_
        exact ih v1_17 M_hand M_layers M_kinds M_names M_nameSizes M_thicknesses M_spreads M_copperAt M_presses M_pressFrom M_pressTo M_vias M_viaFrom M_viaTo M_out_14 M_written_15 _ _ _ hm hP hD hS (lv_sub hl [2, 0] rfl)
      · have hm := ie_of hm h_13
        refine lv_aload_n hx hb dX7_writeAll_55 rfl (lv_at hl 1 rfl) ?_
        refine lv_aload_n hx hb dX7_writeAll_56 rfl (lv_at hl 1 rfl) ?_
        refine va_get (D := D) (ci := 7) (v := .ref (q 6)) (C := RX7) (T := TX7) (N := 33) hx hb hts n_X7_writeAll_X7 hown hK hP 0 rfl rfl 9 (by decide) (hts _ w_X7_writeAll_f26) (fun _ h9 => h9) rfl dX7_writeAll_57 ?_
        refine lv_iload_n hx hb dX7_writeAll_60 rfl (lv_at hl 0 rfl) ?_
        obtain ⟨hg_18, hm⟩ := mg_of hm
        refine va_lald hx hb hK hP 6 1 rfl rfl hg_18 dX7_writeAll_61 ?_
        refine lv_ldc2 (v := (1000 : Int64)) hx hb hown (hts _ w_X7_writeAll_k212) dX7_writeAll_62 ?_
        obtain ⟨M_out_19, M_written_20, hc_21, hm⟩ := mb2_of hm
        refine call_vv (wc := (wdX7 q y M_thrown M_text M_size M_has M_hand M_layers M_kinds M_names M_nameSizes M_thicknesses M_spreads M_coppers M_copperAt M_presses M_pressFrom M_pressTo M_vias M_viaFrom M_viaTo M_shares M_lists M_hasRow M_rowLow M_rowHigh M_p M_s M_fault M_lines M_word M_wordSize M_out_9 M_written_10 M_secondOne)) (wr := []) (As := [.long (M_thicknesses (v2_4).toNatClampNeg), .long (1000 : Int64)]) (rest := []) C (c_X7_sayNumber l D y q _ F hc_21) (cwV 2 hts gX7_writeAll_X7_sayNumber rfl rfl rfl (by decide +kernel) ⟨Nat.le_of_ble_eq_true rfl, Nat.le_of_ble_eq_true rfl⟩) hK hP hD hS hA [0, 1, 2, 3, 4, 5, 6, 7, 8, 9, 10, 11, 12, 13, 14, 15, 16, 17, 18, 19, 20] [] rfl rfl rfl rfl rfl (by decide) rfl rfl rfl rfl hl.1 (Nat.le_of_ble_eq_true rfl) dX7_writeAll_65 (fun H locs hP hD hS => ?_)
        have hP : va_P D vwCl (wdX7 q y M_thrown M_text M_size M_has M_hand M_layers M_kinds M_names M_nameSizes M_thicknesses M_spreads M_coppers M_copperAt M_presses M_pressFrom M_pressTo M_vias M_viaFrom M_viaTo M_shares M_lists M_hasRow M_rowLow M_rowHigh M_p M_s M_fault M_lines M_word M_wordSize M_out_19 M_written_20 M_secondOne) H := hP
        have hD : va_D A (wdX7 q y M_thrown M_text M_size M_has M_hand M_layers M_kinds M_names M_nameSizes M_thicknesses M_spreads M_coppers M_copperAt M_presses M_pressFrom M_pressTo M_vias M_viaFrom M_viaTo M_shares M_lists M_hasRow M_rowLow M_rowHigh M_p M_s M_fault M_lines M_word M_wordSize M_out_19 M_written_20 M_secondOne) := hD
        refine lv_aload_n hx hb dX7_writeAll_68 rfl (lv_at hl 1 rfl) ?_
        refine lv_aload_n hx hb dX7_writeAll_69 rfl (lv_at hl 1 rfl) ?_
        refine va_get (D := D) (ci := 7) (v := .ref (q 7)) (C := RX7) (T := TX7) (N := 33) hx hb hts n_X7_writeAll_X7 hown hK hP 0 rfl rfl 10 (by decide) (hts _ w_X7_writeAll_f29) (fun _ h9 => h9) rfl dX7_writeAll_70 ?_
        refine lv_iload_n hx hb dX7_writeAll_73 rfl (lv_at hl 0 rfl) ?_
        obtain ⟨hg_22, hm⟩ := mg_of hm
        refine va_iald hx hb hK hP 7 0 rfl rfl hg_22 dX7_writeAll_74 ?_
        refine lv_i2l (v := ((M_spreads (v2_4).toNatClampNeg)).toInt64) hx hb dX7_writeAll_75 rfl ?_
        refine lv_ldc2 (v := (10 : Int64)) hx hb hown (hts _ w_X7_writeAll_k127) dX7_writeAll_76 ?_
        obtain ⟨M_out_23, M_written_24, hc_25, hm⟩ := mb2_of hm
        refine call_vv (wc := (wdX7 q y M_thrown M_text M_size M_has M_hand M_layers M_kinds M_names M_nameSizes M_thicknesses M_spreads M_coppers M_copperAt M_presses M_pressFrom M_pressTo M_vias M_viaFrom M_viaTo M_shares M_lists M_hasRow M_rowLow M_rowHigh M_p M_s M_fault M_lines M_word M_wordSize M_out_19 M_written_20 M_secondOne)) (wr := []) (As := [.long (((M_spreads (v2_4).toNatClampNeg)).toInt64), .long (10 : Int64)]) (rest := []) C (c_X7_sayNumber l D y q _ F hc_25) (cwV 2 hts gX7_writeAll_X7_sayNumber rfl rfl rfl (by decide +kernel) ⟨Nat.le_of_ble_eq_true rfl, Nat.le_of_ble_eq_true rfl⟩) hK hP hD hS hA [0, 1, 2, 3, 4, 5, 6, 7, 8, 9, 10, 11, 12, 13, 14, 15, 16, 17, 18, 19, 20] [] rfl rfl rfl rfl rfl (by decide) rfl rfl rfl rfl hl.1 (Nat.le_of_ble_eq_true rfl) dX7_writeAll_79 (fun H locs hP hD hS => ?_)
        have hP : va_P D vwCl (wdX7 q y M_thrown M_text M_size M_has M_hand M_layers M_kinds M_names M_nameSizes M_thicknesses M_spreads M_coppers M_copperAt M_presses M_pressFrom M_pressTo M_vias M_viaFrom M_viaTo M_shares M_lists M_hasRow M_rowLow M_rowHigh M_p M_s M_fault M_lines M_word M_wordSize M_out_23 M_written_24 M_secondOne) H := hP
        have hD : va_D A (wdX7 q y M_thrown M_text M_size M_has M_hand M_layers M_kinds M_names M_nameSizes M_thicknesses M_spreads M_coppers M_copperAt M_presses M_pressFrom M_pressTo M_vias M_viaFrom M_viaTo M_shares M_lists M_hasRow M_rowLow M_rowHigh M_p M_s M_fault M_lines M_word M_wordSize M_out_23 M_written_24 M_secondOne) := hD
        refine lv_aload_n hx hb dX7_writeAll_82 rfl (lv_at hl 1 rfl) ?_
        refine lv_bipush (v := (10 : Int32)) hx hb dX7_writeAll_83 (by decide) ?_
        obtain ⟨M_out_26, M_written_27, hc_28, hm⟩ := mb2_of hm
        refine call_vv (wc := (wdX7 q y M_thrown M_text M_size M_has M_hand M_layers M_kinds M_names M_nameSizes M_thicknesses M_spreads M_coppers M_copperAt M_presses M_pressFrom M_pressTo M_vias M_viaFrom M_viaTo M_shares M_lists M_hasRow M_rowLow M_rowHigh M_p M_s M_fault M_lines M_word M_wordSize M_out_23 M_written_24 M_secondOne)) (wr := []) (As := [.int (10 : Int32)]) (rest := []) C (c_X7_say l D y q _ F hc_28) (cwV 1 hts gX7_writeAll_X7_say rfl rfl rfl (by decide +kernel) ⟨Nat.le_of_ble_eq_true rfl, Nat.le_of_ble_eq_true rfl⟩) hK hP hD hS hA [0, 1, 2, 3, 4, 5, 6, 7, 8, 9, 10, 11, 12, 13, 14, 15, 16, 17, 18, 19, 20] [] rfl rfl rfl rfl rfl (by decide) rfl rfl rfl rfl hl.1 (Nat.le_of_ble_eq_true rfl) dX7_writeAll_85 (fun H locs hP hD hS => ?_)
        have hP : va_P D vwCl (wdX7 q y M_thrown M_text M_size M_has M_hand M_layers M_kinds M_names M_nameSizes M_thicknesses M_spreads M_coppers M_copperAt M_presses M_pressFrom M_pressTo M_vias M_viaFrom M_viaTo M_shares M_lists M_hasRow M_rowLow M_rowHigh M_p M_s M_fault M_lines M_word M_wordSize M_out_26 M_written_27 M_secondOne) H := hP
        have hD : va_D A (wdX7 q y M_thrown M_text M_size M_has M_hand M_layers M_kinds M_names M_nameSizes M_thicknesses M_spreads M_coppers M_copperAt M_presses M_pressFrom M_pressTo M_vias M_viaFrom M_viaTo M_shares M_lists M_hasRow M_rowLow M_rowHigh M_p M_s M_fault M_lines M_word M_wordSize M_out_26 M_written_27 M_secondOne) := hD
        obtain ⟨v1_29, ev1_29⟩ : ∃ y9 : Int32, y9 = (v1 + (1 : Int32)) := ⟨_, rfl⟩
        have hm := mn_of ev1_29 hm
        refine lv_iinc (v := v1_29) (lv' := [(1, .int v1_29), (2, .int v2_4), (0, .ref (q 0))]) hx hb dX7_writeAll_88 hl (k := 2) rfl (by rw [ev1_29]; rfl) (by decide) rfl (fun ls hl => ?_)
        refine lv_goto (tgt := 7) hx hb dX7_writeAll_91 (by decide) ?_
        exact ih v1_29 M_hand M_layers M_kinds M_names M_nameSizes M_thicknesses M_spreads M_copperAt M_presses M_pressFrom M_pressTo M_vias M_viaFrom M_viaTo M_out_26 M_written_27 _ _ _ hm hP hD hS (lv_sub hl [2, 0] rfl)
set_option maxHeartbeats 4000000 in
set_option maxRecDepth 100000 in
theorem c_X7_writeAll (l : Launch) (D : va_G) (y : Nat → ClassId) (q : Nat → Nat) (sz : Nat) (F : Nat) {M_thrown : Int32} {M_text : Nat → Int32} {M_size : Int32} {M_has : Int32} {M_hand : Int32} {M_layers : Nat → Int32} {M_kinds : Nat → Int32} {M_names : Nat → Int64} {M_nameSizes : Nat → Int32} {M_thicknesses : Nat → Int64} {M_spreads : Nat → Int32} {M_coppers : Nat → Int32} {M_copperAt : Nat → Int32} {M_presses : Nat → Int32} {M_pressFrom : Nat → Int32} {M_pressTo : Nat → Int32} {M_vias : Nat → Int32} {M_viaFrom : Nat → Int32} {M_viaTo : Nat → Int32} {M_shares : Nat → Int32} {M_lists : Int32} {M_hasRow : Nat → Int32} {M_rowLow : Nat → Int64} {M_rowHigh : Nat → Int64} {M_p : Int32} {M_s : Int32} {M_fault : Int32} {M_lines : Int32} {M_word : Int64} {M_wordSize : Int32} {M_out : Nat → Int32} {M_written : Int32} {M_secondOne : Int32} {z : (Nat → Int32) × Int32} (hm : f_X7_writeAll F M_hand M_layers M_kinds M_names M_nameSizes M_thicknesses M_spreads M_copperAt M_presses M_pressFrom M_pressTo M_vias M_viaFrom M_viaTo M_out M_written = some z) : Met l yX7_writeAll wsX7_writeAll ({ frames := 5, cells := 0, slots := 0, locals := 114 } : Room) (va_Pc [.ref (q 0)] (cP D y (wdX7 q y M_thrown M_text M_size M_has M_hand M_layers M_kinds M_names M_nameSizes M_thicknesses M_spreads M_coppers M_copperAt M_presses M_pressFrom M_pressTo M_vias M_viaFrom M_viaTo M_shares M_lists M_hasRow M_rowLow M_rowHigh M_p M_s M_fault M_lines M_word M_wordSize M_out M_written M_secondOne) sz)) (QV D y (va_A (wdX7 q y M_thrown M_text M_size M_has M_hand M_layers M_kinds M_names M_nameSizes M_thicknesses M_spreads M_coppers M_copperAt M_presses M_pressFrom M_pressTo M_vias M_viaFrom M_viaTo M_shares M_lists M_hasRow M_rowLow M_rowHigh M_p M_s M_fault M_lines M_word M_wordSize M_out M_written M_secondOne) sz) (wdX7 q y M_thrown M_text M_size M_has M_hand M_layers M_kinds M_names M_nameSizes M_thicknesses M_spreads M_coppers M_copperAt M_presses M_pressFrom M_pressTo M_vias M_viaFrom M_viaTo M_shares M_lists M_hasRow M_rowLow M_rowHigh M_p M_s M_fault M_lines M_word M_wordSize (z.1) (z.2) M_secondOne)) 0 0 (va_A (wdX7 q y M_thrown M_text M_size M_has M_hand M_layers M_kinds M_names M_nameSizes M_thicknesses M_spreads M_coppers M_copperAt M_presses M_pressFrom M_pressTo M_vias M_viaFrom M_viaTo M_shares M_lists M_hasRow M_rowLow M_rowHigh M_p M_s M_fault M_lines M_word M_wordSize M_out M_written M_secondOne) sz) := by
  refine met_of (own := RX7) (cc := cX7_writeAll) (maxL := 3) (ret := none) (by decide) rfl rfl (Nat.le_of_ble_eq_true rfl) ?_
  intro p e s m below meth c ls C hsz hK hP hD hA hS hl
  obtain ⟨⟨hx, hb, hml, hown, hts⟩, hr, hlocks⟩ := id C
  have hl : lv_has ls 3 [(0, .ref (q 0))] := hl
  generalize va_A (wdX7 q y M_thrown M_text M_size M_has M_hand M_layers M_kinds M_names M_nameSizes M_thicknesses M_spreads M_coppers M_copperAt M_presses M_pressFrom M_pressTo M_vias M_viaFrom M_viaTo M_shares M_lists M_hasRow M_rowLow M_rowHigh M_p M_s M_fault M_lines M_word M_wordSize M_out M_written M_secondOne) sz = A at hD hA hS ⊢
  generalize ([.ref (q 0)] : List Value).toArray = args at C hts ⊢
  unfold f_X7_writeAll at hm
  refine lv_aload_n hx hb dX7_writeAll_0 rfl (lv_at hl 0 rfl) ?_
  refine lv_iconst (v := (0 : Int32)) hx hb dX7_writeAll_1 (by decide) ?_
  refine va_put (D := D) (ci := 7) (v := .int (0 : Int32)) (ty := .int) (C := RX7) (T := TX7) (N := 33) hx hb hts n_X7_writeAll_X7 tyX7 tyX7_ok nmX7 hown hK hP hD hS 0 rfl rfl 31 (by decide) (hts _ w_X7_writeAll_f249) (fun _ h9 => h9) rfl (by decide +kernel) rfl rfl (Nat.le_of_ble_eq_true rfl) dX7_writeAll_2 (fun H locs hP hD hS => ?_)
  have hP : va_P D vwCl (wdX7 q y M_thrown M_text M_size M_has M_hand M_layers M_kinds M_names M_nameSizes M_thicknesses M_spreads M_coppers M_copperAt M_presses M_pressFrom M_pressTo M_vias M_viaFrom M_viaTo M_shares M_lists M_hasRow M_rowLow M_rowHigh M_p M_s M_fault M_lines M_word M_wordSize M_out (0 : Int32) M_secondOne) H := hP
  have hD : va_D A (wdX7 q y M_thrown M_text M_size M_has M_hand M_layers M_kinds M_names M_nameSizes M_thicknesses M_spreads M_coppers M_copperAt M_presses M_pressFrom M_pressTo M_vias M_viaFrom M_viaTo M_shares M_lists M_hasRow M_rowLow M_rowHigh M_p M_s M_fault M_lines M_word M_wordSize M_out (0 : Int32) M_secondOne) := hD
  refine lv_iconst (v := (0 : Int32)) hx hb dX7_writeAll_5 (by decide) ?_
  refine lv_istore_n (lv' := [(1, .int (0 : Int32)), (0, .ref (q 0))]) hx hb dX7_writeAll_6 rfl hl (by decide) rfl (fun ls hl => ?_)
  exact k_X7_writeAll_7 C hA hK F F (0 : Int32) M_hand M_layers M_kinds M_names M_nameSizes M_thicknesses M_spreads M_copperAt M_presses M_pressFrom M_pressTo M_vias M_viaFrom M_viaTo M_out (0 : Int32) _ _ _ hm hP hD hS (lv_sub hl [1, 0] rfl)
def g_X7_write_21 (F : Nat) (v1 : Int32) (st1 : Int32) (M_thrown : Int32) (M_hand : Int32) (M_layers : Nat → Int32) (M_kinds : Nat → Int32) (M_names : Nat → Int64) (M_nameSizes : Nat → Int32) (M_thicknesses : Nat → Int64) (M_spreads : Nat → Int32) (M_copperAt : Nat → Int32) (M_presses : Nat → Int32) (M_pressFrom : Nat → Int32) (M_pressTo : Nat → Int32) (M_vias : Nat → Int32) (M_viaFrom : Nat → Int32) (M_viaTo : Nat → Int32) (M_out : Nat → Int32) (M_written : Int32) : Option (Int32 × Int32 × (Nat → Int32) × Int32) := (if st1 = 0 then mb2 (f_X7_writeAll F M_hand M_layers M_kinds M_names M_nameSizes M_thicknesses M_spreads M_copperAt M_presses M_pressFrom M_pressTo M_vias M_viaFrom M_viaTo M_out M_written) (fun M_out_2 M_written_3 => (if M_written_3 ≤ v1 then some ((-1 : Int32), st1, M_out_2, M_written_3) else mg (inb v1 6000) (some ((M_out_2 (v1).toNatClampNeg), st1, M_out_2, M_written_3)))) else some ((0 : Int32), st1, M_out, M_written))
def f_X7_write (F : Nat) (v1 : Int32) (M_thrown : Int32) (M_has : Int32) (M_hand : Int32) (M_layers : Nat → Int32) (M_kinds : Nat → Int32) (M_names : Nat → Int64) (M_nameSizes : Nat → Int32) (M_thicknesses : Nat → Int64) (M_spreads : Nat → Int32) (M_copperAt : Nat → Int32) (M_presses : Nat → Int32) (M_pressFrom : Nat → Int32) (M_pressTo : Nat → Int32) (M_vias : Nat → Int32) (M_viaFrom : Nat → Int32) (M_viaTo : Nat → Int32) (M_out : Nat → Int32) (M_written : Int32) : Option (Int32 × Int32 × (Nat → Int32) × Int32) := (if 0 ≤ v1 then (if M_has = 0 then g_X7_write_21 F v1 (2 : Int32) M_thrown M_hand M_layers M_kinds M_names M_nameSizes M_thicknesses M_spreads M_copperAt M_presses M_pressFrom M_pressTo M_vias M_viaFrom M_viaTo M_out M_written else g_X7_write_21 F v1 (0 : Int32) M_thrown M_hand M_layers M_kinds M_names M_nameSizes M_thicknesses M_spreads M_copperAt M_presses M_pressFrom M_pressTo M_vias M_viaFrom M_viaTo M_out M_written) else g_X7_write_21 F v1 (1 : Int32) M_thrown M_hand M_layers M_kinds M_names M_nameSizes M_thicknesses M_spreads M_copperAt M_presses M_pressFrom M_pressTo M_vias M_viaFrom M_viaTo M_out M_written)
set_option maxRecDepth 20000 in
theorem n_X7_write_X7 : ∀ w ∈ wsX70, w ∈ wsX7_write := by decide +kernel
set_option maxRecDepth 20000 in
theorem w_X7_write_f72 : Cond.fieldLink RX7 72 "LayerStacksModel" "thrown" "I" ∈ wsX7_write := by decide +kernel
set_option maxRecDepth 20000 in
theorem w_X7_write_f249 : Cond.fieldLink RX7 249 "LayerStacksModel" "written" "I" ∈ wsX7_write := by decide +kernel
set_option maxRecDepth 20000 in
theorem w_X7_write_f69 : Cond.fieldLink RX7 69 "LayerStacksModel" "out" "[I" ∈ wsX7_write := by decide +kernel
set_option maxRecDepth 20000 in
theorem w_X7_write_f201 : Cond.fieldLink RX7 201 "LayerStacksModel" "has" "Z" ∈ wsX7_write := by decide +kernel
set_option maxHeartbeats 4000000 in
set_option maxRecDepth 100000 in
theorem k_X7_write_21 {p : Program} {l : Launch} {e : Env} {s : State} {m : MethodId} {args : Array Value} {below : List Frame} {meth : Method} {c : Code} {D : va_G} {y : Nat → ClassId} {A : Nat → Prop} {q : Nat → Nat} {M_text : Nat → Int32} {M_size : Int32} {M_has : Int32} {M_coppers : Nat → Int32} {M_shares : Nat → Int32} {M_lists : Int32} {M_hasRow : Nat → Int32} {M_rowLow : Nat → Int64} {M_rowHigh : Nat → Int64} {M_p : Int32} {M_s : Int32} {M_fault : Int32} {M_lines : Int32} {M_word : Int64} {M_wordSize : Int32} {M_secondOne : Int32} {z : Int32 × Int32 × (Nat → Int32) × Int32} (C : CX p s m args meth c wsX7_write RX7 cX7_write 2 (some .int)) (hA : ∀ q : Nat, s.heap.size ≤ q → A q) (hK : va_K D vwCl (tyl y) s) (F : Nat) :
    ∀ (v1 : Int32) (st1 : Int32) (M_thrown : Int32) (M_hand : Int32) (M_layers : Nat → Int32) (M_kinds : Nat → Int32) (M_names : Nat → Int64) (M_nameSizes : Nat → Int32) (M_thicknesses : Nat → Int64) (M_spreads : Nat → Int32) (M_copperAt : Nat → Int32) (M_presses : Nat → Int32) (M_pressFrom : Nat → Int32) (M_pressTo : Nat → Int32) (M_vias : Nat → Int32) (M_viaFrom : Nat → Int32) (M_viaTo : Nat → Int32) (M_out : Nat → Int32) (M_written : Int32) (H : Heap) (locs : List Loc) (ls : Array Slot), g_X7_write_21 F v1 st1 M_thrown M_hand M_layers M_kinds M_names M_nameSizes M_thicknesses M_spreads M_copperAt M_presses M_pressFrom M_pressTo M_vias M_viaFrom M_viaTo M_out M_written = some z → va_P D vwCl (wdX7 q y M_thrown M_text M_size M_has M_hand M_layers M_kinds M_names M_nameSizes M_thicknesses M_spreads M_coppers M_copperAt M_presses M_pressFrom M_pressTo M_vias M_viaFrom M_viaTo M_shares M_lists M_hasRow M_rowLow M_rowHigh M_p M_s M_fault M_lines M_word M_wordSize M_out M_written M_secondOne) H → va_D A (wdX7 q y M_thrown M_text M_size M_has M_hand M_layers M_kinds M_names M_nameSizes M_thicknesses M_spreads M_coppers M_copperAt M_presses M_pressFrom M_pressTo M_vias M_viaFrom M_viaTo M_shares M_lists M_hasRow M_rowLow M_rowHigh M_p M_s M_fault M_lines M_word M_wordSize M_out M_written M_secondOne) → va_S A s.heap H locs → lv_has ls 2 [(0, .ref (q 0)), (1, .int v1)] → W p l e ({ frames := 6, cells := 0, slots := 0, locals := 136 } : Room) s m args below meth c H locs 0 0 (MQ below (QI D y A (z.1) (wdX7 q y (z.2.1) M_text M_size M_has M_hand M_layers M_kinds M_names M_nameSizes M_thicknesses M_spreads M_coppers M_copperAt M_presses M_pressFrom M_pressTo M_vias M_viaFrom M_viaTo M_shares M_lists M_hasRow M_rowLow M_rowHigh M_p M_s M_fault M_lines M_word M_wordSize (z.2.2.1) (z.2.2.2) M_secondOne)) args s 0 0 A) (F0 m 21 ls [.int st1, .ref (q 0)]) := by
  obtain ⟨⟨hx, hb, hml, hown, hts⟩, hr, hlocks⟩ := id C
  intro v1 st1 M_thrown M_hand M_layers M_kinds M_names M_nameSizes M_thicknesses M_spreads M_copperAt M_presses M_pressFrom M_pressTo M_vias M_viaFrom M_viaTo M_out M_written H locs ls hm hP hD hS hl
  unfold g_X7_write_21 at hm
  refine va_put (D := D) (ci := 7) (v := .int st1) (ty := .int) (C := RX7) (T := TX7) (N := 33) hx hb hts n_X7_write_X7 tyX7 tyX7_ok nmX7 hown hK hP hD hS 0 rfl rfl 0 (by decide) (hts _ w_X7_write_f72) (fun _ h9 => h9) rfl (by decide +kernel) rfl rfl (Nat.le_of_ble_eq_true rfl) dX7_write_21 (fun H locs hP hD hS => ?_)
  have hP : va_P D vwCl (wdX7 q y st1 M_text M_size M_has M_hand M_layers M_kinds M_names M_nameSizes M_thicknesses M_spreads M_coppers M_copperAt M_presses M_pressFrom M_pressTo M_vias M_viaFrom M_viaTo M_shares M_lists M_hasRow M_rowLow M_rowHigh M_p M_s M_fault M_lines M_word M_wordSize M_out M_written M_secondOne) H := hP
  have hD : va_D A (wdX7 q y st1 M_text M_size M_has M_hand M_layers M_kinds M_names M_nameSizes M_thicknesses M_spreads M_coppers M_copperAt M_presses M_pressFrom M_pressTo M_vias M_viaFrom M_viaTo M_shares M_lists M_hasRow M_rowLow M_rowHigh M_p M_s M_fault M_lines M_word M_wordSize M_out M_written M_secondOne) := hD
  refine lv_aload_n hx hb dX7_write_24 rfl (lv_at hl 0 rfl) ?_
  refine va_get (D := D) (ci := 7) (v := .int st1) (C := RX7) (T := TX7) (N := 33) hx hb hts n_X7_write_X7 hown hK hP 0 rfl rfl 0 (by decide) (hts _ w_X7_write_f72) (fun _ h9 => h9) rfl dX7_write_25 ?_
  refine lv_if_eq (tgt := 33) hx hb dX7_write_28 (by decide) (fun h_1 => ?_) (fun h_1 => ?_)
  · have hm := it_of hm h_1
    refine lv_aload_n hx hb dX7_write_33 rfl (lv_at hl 0 rfl) ?_
    obtain ⟨M_out_2, M_written_3, hc_4, hm⟩ := mb2_of hm
    refine call_vv (wc := (wdX7 q y st1 M_text M_size M_has M_hand M_layers M_kinds M_names M_nameSizes M_thicknesses M_spreads M_coppers M_copperAt M_presses M_pressFrom M_pressTo M_vias M_viaFrom M_viaTo M_shares M_lists M_hasRow M_rowLow M_rowHigh M_p M_s M_fault M_lines M_word M_wordSize M_out M_written M_secondOne)) (wr := []) (As := []) (rest := []) C (c_X7_writeAll l D y q _ F hc_4) (cwV 0 hts gX7_write_X7_writeAll rfl rfl rfl (by decide +kernel) ⟨Nat.le_of_ble_eq_true rfl, Nat.le_of_ble_eq_true rfl⟩) hK hP hD hS hA [0, 1, 2, 3, 4, 5, 6, 7, 8, 9, 10, 11, 12, 13, 14, 15, 16, 17, 18, 19, 20] [] rfl rfl rfl rfl rfl (by decide) rfl rfl rfl rfl hl.1 (Nat.le_of_ble_eq_true rfl) dX7_write_34 (fun H locs hP hD hS => ?_)
    have hP : va_P D vwCl (wdX7 q y st1 M_text M_size M_has M_hand M_layers M_kinds M_names M_nameSizes M_thicknesses M_spreads M_coppers M_copperAt M_presses M_pressFrom M_pressTo M_vias M_viaFrom M_viaTo M_shares M_lists M_hasRow M_rowLow M_rowHigh M_p M_s M_fault M_lines M_word M_wordSize M_out_2 M_written_3 M_secondOne) H := hP
    have hD : va_D A (wdX7 q y st1 M_text M_size M_has M_hand M_layers M_kinds M_names M_nameSizes M_thicknesses M_spreads M_coppers M_copperAt M_presses M_pressFrom M_pressTo M_vias M_viaFrom M_viaTo M_shares M_lists M_hasRow M_rowLow M_rowHigh M_p M_s M_fault M_lines M_word M_wordSize M_out_2 M_written_3 M_secondOne) := hD
    refine lv_iload_n hx hb dX7_write_37 rfl (lv_at hl 1 rfl) ?_
    refine lv_aload_n hx hb dX7_write_38 rfl (lv_at hl 0 rfl) ?_
    refine va_get (D := D) (ci := 7) (v := .int M_written_3) (C := RX7) (T := TX7) (N := 33) hx hb hts n_X7_write_X7 hown hK hP 0 rfl rfl 31 (by decide) (hts _ w_X7_write_f249) (fun _ h9 => h9) rfl dX7_write_39 ?_
    refine lv_icmp_ge (tgt := 54) hx hb dX7_write_42 (by decide) (fun h_5 => ?_) (fun h_5 => ?_)
    · have hm := it_of hm h_5
      refine lv_iconst (v := (-1 : Int32)) hx hb dX7_write_54 (by decide) ?_
      have hz := Option.some.inj hm
      subst hz
      exact end_i C hK hP hD hS dX7_write_55
    · have hm := ie_of hm h_5
      refine lv_aload_n hx hb dX7_write_45 rfl (lv_at hl 0 rfl) ?_
      refine va_get (D := D) (ci := 7) (v := .ref (q 20)) (C := RX7) (T := TX7) (N := 33) hx hb hts n_X7_write_X7 hown hK hP 0 rfl rfl 30 (by decide) (hts _ w_X7_write_f69) (fun _ h9 => h9) rfl dX7_write_46 ?_
      refine lv_iload_n hx hb dX7_write_49 rfl (lv_at hl 1 rfl) ?_
      obtain ⟨hg_6, hm⟩ := mg_of hm
      refine va_iald hx hb hK hP 20 0 rfl rfl hg_6 dX7_write_50 ?_
      refine lv_goto (tgt := 55) hx hb dX7_write_51 (by decide) ?_
      have hz := Option.some.inj hm
      subst hz
      exact end_i C hK hP hD hS dX7_write_55
  · have hm := ie_of hm h_1
    refine lv_iconst (v := (0 : Int32)) hx hb dX7_write_31 (by decide) ?_
    have hz := Option.some.inj hm
    subst hz
    exact end_i C hK hP hD hS dX7_write_32
set_option maxHeartbeats 4000000 in
set_option maxRecDepth 100000 in
theorem c_X7_write (l : Launch) (D : va_G) (y : Nat → ClassId) (q : Nat → Nat) (sz : Nat) (F : Nat) {v1 : Int32} {M_thrown : Int32} {M_text : Nat → Int32} {M_size : Int32} {M_has : Int32} {M_hand : Int32} {M_layers : Nat → Int32} {M_kinds : Nat → Int32} {M_names : Nat → Int64} {M_nameSizes : Nat → Int32} {M_thicknesses : Nat → Int64} {M_spreads : Nat → Int32} {M_coppers : Nat → Int32} {M_copperAt : Nat → Int32} {M_presses : Nat → Int32} {M_pressFrom : Nat → Int32} {M_pressTo : Nat → Int32} {M_vias : Nat → Int32} {M_viaFrom : Nat → Int32} {M_viaTo : Nat → Int32} {M_shares : Nat → Int32} {M_lists : Int32} {M_hasRow : Nat → Int32} {M_rowLow : Nat → Int64} {M_rowHigh : Nat → Int64} {M_p : Int32} {M_s : Int32} {M_fault : Int32} {M_lines : Int32} {M_word : Int64} {M_wordSize : Int32} {M_out : Nat → Int32} {M_written : Int32} {M_secondOne : Int32} {z : Int32 × Int32 × (Nat → Int32) × Int32} (hm : f_X7_write F v1 M_thrown M_has M_hand M_layers M_kinds M_names M_nameSizes M_thicknesses M_spreads M_copperAt M_presses M_pressFrom M_pressTo M_vias M_viaFrom M_viaTo M_out M_written = some z) : Met l yX7_write wsX7_write ({ frames := 6, cells := 0, slots := 0, locals := 136 } : Room) (va_Pc [.ref (q 0), .int v1] (cP D y (wdX7 q y M_thrown M_text M_size M_has M_hand M_layers M_kinds M_names M_nameSizes M_thicknesses M_spreads M_coppers M_copperAt M_presses M_pressFrom M_pressTo M_vias M_viaFrom M_viaTo M_shares M_lists M_hasRow M_rowLow M_rowHigh M_p M_s M_fault M_lines M_word M_wordSize M_out M_written M_secondOne) sz)) (QI D y (va_A (wdX7 q y M_thrown M_text M_size M_has M_hand M_layers M_kinds M_names M_nameSizes M_thicknesses M_spreads M_coppers M_copperAt M_presses M_pressFrom M_pressTo M_vias M_viaFrom M_viaTo M_shares M_lists M_hasRow M_rowLow M_rowHigh M_p M_s M_fault M_lines M_word M_wordSize M_out M_written M_secondOne) sz) (z.1) (wdX7 q y (z.2.1) M_text M_size M_has M_hand M_layers M_kinds M_names M_nameSizes M_thicknesses M_spreads M_coppers M_copperAt M_presses M_pressFrom M_pressTo M_vias M_viaFrom M_viaTo M_shares M_lists M_hasRow M_rowLow M_rowHigh M_p M_s M_fault M_lines M_word M_wordSize (z.2.2.1) (z.2.2.2) M_secondOne)) 0 0 (va_A (wdX7 q y M_thrown M_text M_size M_has M_hand M_layers M_kinds M_names M_nameSizes M_thicknesses M_spreads M_coppers M_copperAt M_presses M_pressFrom M_pressTo M_vias M_viaFrom M_viaTo M_shares M_lists M_hasRow M_rowLow M_rowHigh M_p M_s M_fault M_lines M_word M_wordSize M_out M_written M_secondOne) sz) := by
  refine met_of (own := RX7) (cc := cX7_write) (maxL := 2) (ret := (some .int)) (by decide) rfl rfl (Nat.le_of_ble_eq_true rfl) ?_
  intro p e s m below meth c ls C hsz hK hP hD hA hS hl
  obtain ⟨⟨hx, hb, hml, hown, hts⟩, hr, hlocks⟩ := id C
  have hl : lv_has ls 2 [(0, .ref (q 0)), (1, .int v1)] := hl
  generalize va_A (wdX7 q y M_thrown M_text M_size M_has M_hand M_layers M_kinds M_names M_nameSizes M_thicknesses M_spreads M_coppers M_copperAt M_presses M_pressFrom M_pressTo M_vias M_viaFrom M_viaTo M_shares M_lists M_hasRow M_rowLow M_rowHigh M_p M_s M_fault M_lines M_word M_wordSize M_out M_written M_secondOne) sz = A at hD hA hS ⊢
  generalize ([.ref (q 0), .int v1] : List Value).toArray = args at C hts ⊢
  unfold f_X7_write at hm
  refine lv_aload_n hx hb dX7_write_0 rfl (lv_at hl 0 rfl) ?_
  refine lv_iload_n hx hb dX7_write_1 rfl (lv_at hl 1 rfl) ?_
  refine lv_if_ge (tgt := 9) hx hb dX7_write_2 (by decide) (fun h_1 => ?_) (fun h_1 => ?_)
  · have hm := it_of hm h_1
    refine lv_aload_n hx hb dX7_write_9 rfl (lv_at hl 0 rfl) ?_
    refine va_get (D := D) (ci := 7) (v := .int M_has) (C := RX7) (T := TX7) (N := 33) hx hb hts n_X7_write_X7 hown hK hP 0 rfl rfl 3 (by decide) (hts _ w_X7_write_f201) (fun _ h9 => h9) rfl dX7_write_10 ?_
    refine lv_if_eq (tgt := 20) hx hb dX7_write_13 (by decide) (fun h_2 => ?_) (fun h_2 => ?_)
    · have hm := it_of hm h_2
      refine lv_iconst (v := (2 : Int32)) hx hb dX7_write_20 (by decide) ?_
      exact k_X7_write_21 C hA hK F v1 (2 : Int32) M_thrown M_hand M_layers M_kinds M_names M_nameSizes M_thicknesses M_spreads M_copperAt M_presses M_pressFrom M_pressTo M_vias M_viaFrom M_viaTo M_out M_written _ _ _ hm hP hD hS (lv_sub hl [0, 1] rfl)
    · have hm := ie_of hm h_2
      refine lv_iconst (v := (0 : Int32)) hx hb dX7_write_16 (by decide) ?_
      refine lv_goto (tgt := 21) hx hb dX7_write_17 (by decide) ?_
      exact k_X7_write_21 C hA hK F v1 (0 : Int32) M_thrown M_hand M_layers M_kinds M_names M_nameSizes M_thicknesses M_spreads M_copperAt M_presses M_pressFrom M_pressTo M_vias M_viaFrom M_viaTo M_out M_written _ _ _ hm hP hD hS (lv_sub hl [0, 1] rfl)
  · have hm := ie_of hm h_1
    refine lv_iconst (v := (1 : Int32)) hx hb dX7_write_5 (by decide) ?_
    refine lv_goto (tgt := 21) hx hb dX7_write_6 (by decide) ?_
    exact k_X7_write_21 C hA hK F v1 (1 : Int32) M_thrown M_hand M_layers M_kinds M_names M_nameSizes M_thicknesses M_spreads M_copperAt M_presses M_pressFrom M_pressTo M_vias M_viaFrom M_viaTo M_out M_written _ _ _ hm hP hD hS (lv_sub hl [0, 1] rfl)
