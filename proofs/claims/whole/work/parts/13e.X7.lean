def f_X7_isWithin (F : Nat) (v1 : Int32) (v2 : Int32) (M_pressFrom : Nat → Int32) (M_pressTo : Nat → Int32) : Option (Int32) := (if v1 = v2 then some (0 : Int32) else mg (inb v1 44) (mg (inb v2 44) ((if (M_pressFrom (v1).toNatClampNeg) < (M_pressFrom (v2).toNatClampNeg) then some (0 : Int32) else mg (inb v1 44) (mg (inb v2 44) ((if (M_pressTo (v2).toNatClampNeg) < (M_pressTo (v1).toNatClampNeg) then some (0 : Int32) else some (1 : Int32))))))))
set_option maxRecDepth 20000 in
theorem n_X7_isWithin_X7 : ∀ w ∈ wsX70, w ∈ wsX7_isWithin := by decide +kernel
set_option maxRecDepth 20000 in
theorem w_X7_isWithin_f41 : Cond.fieldLink RX7 41 "LayerStacksModel" "pressFrom" "[I" ∈ wsX7_isWithin := by decide +kernel
set_option maxRecDepth 20000 in
theorem w_X7_isWithin_f44 : Cond.fieldLink RX7 44 "LayerStacksModel" "pressTo" "[I" ∈ wsX7_isWithin := by decide +kernel
set_option maxHeartbeats 4000000 in
set_option maxRecDepth 100000 in
theorem c_X7_isWithin (l : Launch) (D : va_G) (y : Nat → ClassId) (q : Nat → Nat) (sz : Nat) (F : Nat) {v1 : Int32} {v2 : Int32} {M_thrown : Int32} {M_text : Nat → Int32} {M_size : Int32} {M_has : Int32} {M_hand : Int32} {M_layers : Nat → Int32} {M_kinds : Nat → Int32} {M_names : Nat → Int64} {M_nameSizes : Nat → Int32} {M_thicknesses : Nat → Int64} {M_spreads : Nat → Int32} {M_coppers : Nat → Int32} {M_copperAt : Nat → Int32} {M_presses : Nat → Int32} {M_pressFrom : Nat → Int32} {M_pressTo : Nat → Int32} {M_vias : Nat → Int32} {M_viaFrom : Nat → Int32} {M_viaTo : Nat → Int32} {M_shares : Nat → Int32} {M_lists : Int32} {M_hasRow : Nat → Int32} {M_rowLow : Nat → Int64} {M_rowHigh : Nat → Int64} {M_p : Int32} {M_s : Int32} {M_fault : Int32} {M_lines : Int32} {M_word : Int64} {M_wordSize : Int32} {M_out : Nat → Int32} {M_written : Int32} {M_secondOne : Int32} {z : Int32} (hm : f_X7_isWithin F v1 v2 M_pressFrom M_pressTo = some z) : Met l yX7_isWithin wsX7_isWithin ({ frames := 0, cells := 0, slots := 0, locals := 0 } : Room) (va_Pc [.ref (q 0), .int v1, .int v2] (cP D y (wdX7 q y M_thrown M_text M_size M_has M_hand M_layers M_kinds M_names M_nameSizes M_thicknesses M_spreads M_coppers M_copperAt M_presses M_pressFrom M_pressTo M_vias M_viaFrom M_viaTo M_shares M_lists M_hasRow M_rowLow M_rowHigh M_p M_s M_fault M_lines M_word M_wordSize M_out M_written M_secondOne) sz)) (QI D y (va_A (wdX7 q y M_thrown M_text M_size M_has M_hand M_layers M_kinds M_names M_nameSizes M_thicknesses M_spreads M_coppers M_copperAt M_presses M_pressFrom M_pressTo M_vias M_viaFrom M_viaTo M_shares M_lists M_hasRow M_rowLow M_rowHigh M_p M_s M_fault M_lines M_word M_wordSize M_out M_written M_secondOne) sz) (z) (wdX7 q y M_thrown M_text M_size M_has M_hand M_layers M_kinds M_names M_nameSizes M_thicknesses M_spreads M_coppers M_copperAt M_presses M_pressFrom M_pressTo M_vias M_viaFrom M_viaTo M_shares M_lists M_hasRow M_rowLow M_rowHigh M_p M_s M_fault M_lines M_word M_wordSize M_out M_written M_secondOne)) 0 0 (va_A (wdX7 q y M_thrown M_text M_size M_has M_hand M_layers M_kinds M_names M_nameSizes M_thicknesses M_spreads M_coppers M_copperAt M_presses M_pressFrom M_pressTo M_vias M_viaFrom M_viaTo M_shares M_lists M_hasRow M_rowLow M_rowHigh M_p M_s M_fault M_lines M_word M_wordSize M_out M_written M_secondOne) sz) := by
  refine met_of (own := RX7) (cc := cX7_isWithin) (maxL := 3) (ret := (some .boolean)) (by decide) rfl rfl (Nat.le_of_ble_eq_true rfl) ?_
  intro p e s m below meth c ls C hsz hK hP hD hA hS hl
  obtain ⟨⟨hx, hb, hml, hown, hts⟩, hr, hlocks⟩ := id C
  have hl : lv_has ls 3 [(0, .ref (q 0)), (1, .int v1), (2, .int v2)] := hl
  generalize va_A (wdX7 q y M_thrown M_text M_size M_has M_hand M_layers M_kinds M_names M_nameSizes M_thicknesses M_spreads M_coppers M_copperAt M_presses M_pressFrom M_pressTo M_vias M_viaFrom M_viaTo M_shares M_lists M_hasRow M_rowLow M_rowHigh M_p M_s M_fault M_lines M_word M_wordSize M_out M_written M_secondOne) sz = A at hD hA hS ⊢
  generalize ([.ref (q 0), .int v1, .int v2] : List Value).toArray = args at C hts ⊢
  unfold f_X7_isWithin at hm
  refine lv_iload_n hx hb dX7_isWithin_0 rfl (lv_at hl 1 rfl) ?_
  refine lv_iload_n hx hb dX7_isWithin_1 rfl (lv_at hl 2 rfl) ?_
  refine lv_icmp_eq (tgt := 39) hx hb dX7_isWithin_2 (by decide) (fun h_1 => ?_) (fun h_1 => ?_)
  · have hm := it_of hm h_1
    refine lv_iconst (v := (0 : Int32)) hx hb dX7_isWithin_39 (by decide) ?_
    have hz := Option.some.inj hm
    subst hz
    exact end_z C hK hP hD hS (show vp_nar .boolean (0 : Int32) = (0 : Int32) from by decide) dX7_isWithin_40
  · have hm := ie_of hm h_1
    refine lv_aload_n hx hb dX7_isWithin_5 rfl (lv_at hl 0 rfl) ?_
    refine va_get (D := D) (ci := 7) (v := .ref (q 11)) (C := RX7) (T := TX7) (N := 33) hx hb hts n_X7_isWithin_X7 hown hK hP 0 rfl rfl 14 (by decide) (hts _ w_X7_isWithin_f41) (fun _ h9 => h9) rfl dX7_isWithin_6 ?_
    refine lv_iload_n hx hb dX7_isWithin_9 rfl (lv_at hl 1 rfl) ?_
    obtain ⟨hg_2, hm⟩ := mg_of hm
    refine va_iald hx hb hK hP 11 0 rfl rfl hg_2 dX7_isWithin_10 ?_
    refine lv_aload_n hx hb dX7_isWithin_11 rfl (lv_at hl 0 rfl) ?_
    refine va_get (D := D) (ci := 7) (v := .ref (q 11)) (C := RX7) (T := TX7) (N := 33) hx hb hts n_X7_isWithin_X7 hown hK hP 0 rfl rfl 14 (by decide) (hts _ w_X7_isWithin_f41) (fun _ h9 => h9) rfl dX7_isWithin_12 ?_
    refine lv_iload_n hx hb dX7_isWithin_15 rfl (lv_at hl 2 rfl) ?_
    obtain ⟨hg_3, hm⟩ := mg_of hm
    refine va_iald hx hb hK hP 11 0 rfl rfl hg_3 dX7_isWithin_16 ?_
    refine lv_icmp_lt (tgt := 39) hx hb dX7_isWithin_17 (by decide) (fun h_4 => ?_) (fun h_4 => ?_)
    · have hm := it_of hm h_4
      refine lv_iconst (v := (0 : Int32)) hx hb dX7_isWithin_39 (by decide) ?_
      have hz := Option.some.inj hm
      subst hz
      exact end_z C hK hP hD hS (show vp_nar .boolean (0 : Int32) = (0 : Int32) from by decide) dX7_isWithin_40
    · have hm := ie_of hm h_4
      refine lv_aload_n hx hb dX7_isWithin_20 rfl (lv_at hl 0 rfl) ?_
      refine va_get (D := D) (ci := 7) (v := .ref (q 12)) (C := RX7) (T := TX7) (N := 33) hx hb hts n_X7_isWithin_X7 hown hK hP 0 rfl rfl 15 (by decide) (hts _ w_X7_isWithin_f44) (fun _ h9 => h9) rfl dX7_isWithin_21 ?_
      refine lv_iload_n hx hb dX7_isWithin_24 rfl (lv_at hl 1 rfl) ?_
      obtain ⟨hg_5, hm⟩ := mg_of hm
      refine va_iald hx hb hK hP 12 0 rfl rfl hg_5 dX7_isWithin_25 ?_
      refine lv_aload_n hx hb dX7_isWithin_26 rfl (lv_at hl 0 rfl) ?_
      refine va_get (D := D) (ci := 7) (v := .ref (q 12)) (C := RX7) (T := TX7) (N := 33) hx hb hts n_X7_isWithin_X7 hown hK hP 0 rfl rfl 15 (by decide) (hts _ w_X7_isWithin_f44) (fun _ h9 => h9) rfl dX7_isWithin_27 ?_
      refine lv_iload_n hx hb dX7_isWithin_30 rfl (lv_at hl 2 rfl) ?_
      obtain ⟨hg_6, hm⟩ := mg_of hm
      refine va_iald hx hb hK hP 12 0 rfl rfl hg_6 dX7_isWithin_31 ?_
      refine lv_icmp_gt (tgt := 39) hx hb dX7_isWithin_32 (by decide) (fun h_7 => ?_) (fun h_7 => ?_)
      · have hm := it_of hm h_7
        refine lv_iconst (v := (0 : Int32)) hx hb dX7_isWithin_39 (by decide) ?_
        have hz := Option.some.inj hm
        subst hz
        exact end_z C hK hP hD hS (show vp_nar .boolean (0 : Int32) = (0 : Int32) from by decide) dX7_isWithin_40
      · have hm := ie_of hm h_7
        refine lv_iconst (v := (1 : Int32)) hx hb dX7_isWithin_35 (by decide) ?_
        refine lv_goto (tgt := 40) hx hb dX7_isWithin_36 (by decide) ?_
        have hz := Option.some.inj hm
        subst hz
        exact end_z C hK hP hD hS (show vp_nar .boolean (1 : Int32) = (1 : Int32) from by decide) dX7_isWithin_40
def g_X7_pressed_138 (F : Nat) (K_98 : Int32 → Int32 → Int32 → Int32 → Int32 → (Nat → Int32) → (Nat → Int32) → (Nat → Int32) → Option (Int32 × Int32)) : Nat → Int32 → Int32 → Int32 → Int32 → Int32 → Int32 → Int32 → (Nat → Int32) → (Nat → Int32) → (Nat → Int32) → Option (Int32 × Int32)
  | 0, _, _, _, _, _, _, _, _, _, _ => none
  | n + 1, v3, v4, v5, v6, v7, M_thrown, M_hand, M_presses, M_pressFrom, M_pressTo => mg (inb M_hand 2) ((if (((22 : Int32) * M_hand) + (M_presses (M_hand).toNatClampNeg)) ≤ v7 then (if v6 = 0 then mn (v4 + (0 : Int32)) (fun v4_4 => mn (v5 + (1 : Int32)) (fun v5_5 => K_98 v3 v4_4 v5_5 M_thrown M_hand M_presses M_pressFrom M_pressTo)) else mn (v4 + (1 : Int32)) (fun v4_6 => mn (v5 + (1 : Int32)) (fun v5_7 => K_98 v3 v4_6 v5_7 M_thrown M_hand M_presses M_pressFrom M_pressTo))) else (if v6 = 0 then mn (v7 + (1 : Int32)) (fun v7_9 => g_X7_pressed_138 F K_98 n v3 v4 v5 (0 : Int32) v7_9 M_thrown M_hand M_presses M_pressFrom M_pressTo) else mb1 (f_X7_isWithin F v5 v7 M_pressFrom M_pressTo) (fun r_10 => (if r_10 = 0 then mn (v7 + (1 : Int32)) (fun v7_13 => g_X7_pressed_138 F K_98 n v3 v4 v5 (1 : Int32) v7_13 M_thrown M_hand M_presses M_pressFrom M_pressTo) else mb1 (f_X7_isWithin F v7 v3 M_pressFrom M_pressTo) (fun r_14 => (if r_14 = 0 then mn (v7 + (1 : Int32)) (fun v7_18 => g_X7_pressed_138 F K_98 n v3 v4 v5 (1 : Int32) v7_18 M_thrown M_hand M_presses M_pressFrom M_pressTo) else mn (v7 + (1 : Int32)) (fun v7_17 => g_X7_pressed_138 F K_98 n v3 v4 v5 (0 : Int32) v7_17 M_thrown M_hand M_presses M_pressFrom M_pressTo))))))))
theorem g_X7_pressed_138_z (F : Nat) (K_98 : Int32 → Int32 → Int32 → Int32 → Int32 → (Nat → Int32) → (Nat → Int32) → (Nat → Int32) → Option (Int32 × Int32)) (v3 : Int32) (v4 : Int32) (v5 : Int32) (v6 : Int32) (v7 : Int32) (M_thrown : Int32) (M_hand : Int32) (M_presses : Nat → Int32) (M_pressFrom : Nat → Int32) (M_pressTo : Nat → Int32) : g_X7_pressed_138 F K_98 0 v3 v4 v5 v6 v7 M_thrown M_hand M_presses M_pressFrom M_pressTo = none := rfl
theorem g_X7_pressed_138_s (F : Nat) (K_98 : Int32 → Int32 → Int32 → Int32 → Int32 → (Nat → Int32) → (Nat → Int32) → (Nat → Int32) → Option (Int32 × Int32)) (n : Nat) (v3 : Int32) (v4 : Int32) (v5 : Int32) (v6 : Int32) (v7 : Int32) (M_thrown : Int32) (M_hand : Int32) (M_presses : Nat → Int32) (M_pressFrom : Nat → Int32) (M_pressTo : Nat → Int32) : g_X7_pressed_138 F K_98 (n + 1) v3 v4 v5 v6 v7 M_thrown M_hand M_presses M_pressFrom M_pressTo = mg (inb M_hand 2) ((if (((22 : Int32) * M_hand) + (M_presses (M_hand).toNatClampNeg)) ≤ v7 then (if v6 = 0 then mn (v4 + (0 : Int32)) (fun v4_4 => mn (v5 + (1 : Int32)) (fun v5_5 => K_98 v3 v4_4 v5_5 M_thrown M_hand M_presses M_pressFrom M_pressTo)) else mn (v4 + (1 : Int32)) (fun v4_6 => mn (v5 + (1 : Int32)) (fun v5_7 => K_98 v3 v4_6 v5_7 M_thrown M_hand M_presses M_pressFrom M_pressTo))) else (if v6 = 0 then mn (v7 + (1 : Int32)) (fun v7_9 => g_X7_pressed_138 F K_98 n v3 v4 v5 (0 : Int32) v7_9 M_thrown M_hand M_presses M_pressFrom M_pressTo) else mb1 (f_X7_isWithin F v5 v7 M_pressFrom M_pressTo) (fun r_10 => (if r_10 = 0 then mn (v7 + (1 : Int32)) (fun v7_13 => g_X7_pressed_138 F K_98 n v3 v4 v5 (1 : Int32) v7_13 M_thrown M_hand M_presses M_pressFrom M_pressTo) else mb1 (f_X7_isWithin F v7 v3 M_pressFrom M_pressTo) (fun r_14 => (if r_14 = 0 then mn (v7 + (1 : Int32)) (fun v7_18 => g_X7_pressed_138 F K_98 n v3 v4 v5 (1 : Int32) v7_18 M_thrown M_hand M_presses M_pressFrom M_pressTo) else mn (v7 + (1 : Int32)) (fun v7_17 => g_X7_pressed_138 F K_98 n v3 v4 v5 (0 : Int32) v7_17 M_thrown M_hand M_presses M_pressFrom M_pressTo)))))))) := rfl
def g_X7_pressed_98 (F : Nat) : Nat → Int32 → Int32 → Int32 → Int32 → Int32 → (Nat → Int32) → (Nat → Int32) → (Nat → Int32) → Option (Int32 × Int32)
  | 0, _, _, _, _, _, _, _, _ => none
  | n + 1, v3, v4, v5, M_thrown, M_hand, M_presses, M_pressFrom, M_pressTo => mg (inb M_hand 2) ((if (((22 : Int32) * M_hand) + (M_presses (M_hand).toNatClampNeg)) ≤ v5 then some (v4, M_thrown) else mb1 (f_X7_isWithin F v5 v3 M_pressFrom M_pressTo) (fun r_3 => mn ((22 : Int32) * M_hand) (fun v7_5 => g_X7_pressed_138 F (g_X7_pressed_98 F n) F v3 v4 v5 r_3 v7_5 M_thrown M_hand M_presses M_pressFrom M_pressTo))))
theorem g_X7_pressed_98_z (F : Nat) (v3 : Int32) (v4 : Int32) (v5 : Int32) (M_thrown : Int32) (M_hand : Int32) (M_presses : Nat → Int32) (M_pressFrom : Nat → Int32) (M_pressTo : Nat → Int32) : g_X7_pressed_98 F 0 v3 v4 v5 M_thrown M_hand M_presses M_pressFrom M_pressTo = none := rfl
theorem g_X7_pressed_98_s (F : Nat) (n : Nat) (v3 : Int32) (v4 : Int32) (v5 : Int32) (M_thrown : Int32) (M_hand : Int32) (M_presses : Nat → Int32) (M_pressFrom : Nat → Int32) (M_pressTo : Nat → Int32) : g_X7_pressed_98 F (n + 1) v3 v4 v5 M_thrown M_hand M_presses M_pressFrom M_pressTo = mg (inb M_hand 2) ((if (((22 : Int32) * M_hand) + (M_presses (M_hand).toNatClampNeg)) ≤ v5 then some (v4, M_thrown) else mb1 (f_X7_isWithin F v5 v3 M_pressFrom M_pressTo) (fun r_3 => mn ((22 : Int32) * M_hand) (fun v7_5 => g_X7_pressed_138 F (g_X7_pressed_98 F n) F v3 v4 v5 r_3 v7_5 M_thrown M_hand M_presses M_pressFrom M_pressTo)))) := rfl
def g_X7_pressed_39 (F : Nat) (v1 : Int32) (v2 : Int32) (st1 : Int32) (M_thrown : Int32) (M_hand : Int32) (M_presses : Nat → Int32) (M_pressFrom : Nat → Int32) (M_pressTo : Nat → Int32) : Option (Int32 × Int32) := (if st1 = 0 then mn (((22 : Int32) * M_hand) + v1) (fun v3_2 => (if (2 : Int32) ≤ v2 then mn ((22 : Int32) * M_hand) (fun v5_4 => g_X7_pressed_98 F F v3_2 (0 : Int32) v5_4 st1 M_hand M_presses M_pressFrom M_pressTo) else (if v2 = 0 then mg (inb v3_2 44) (some ((M_pressFrom (v3_2).toNatClampNeg), st1)) else mg (inb v3_2 44) (some ((M_pressTo (v3_2).toNatClampNeg), st1))))) else some ((0 : Int32), st1))
def f_X7_pressed (F : Nat) (v1 : Int32) (v2 : Int32) (M_thrown : Int32) (M_has : Int32) (M_hand : Int32) (M_presses : Nat → Int32) (M_pressFrom : Nat → Int32) (M_pressTo : Nat → Int32) : Option (Int32 × Int32) := (if M_has = 0 then g_X7_pressed_39 F v1 v2 (1 : Int32) M_thrown M_hand M_presses M_pressFrom M_pressTo else (if v1 < 0 then g_X7_pressed_39 F v1 v2 (1 : Int32) M_thrown M_hand M_presses M_pressFrom M_pressTo else mg (inb M_hand 2) ((if (M_presses (M_hand).toNatClampNeg) ≤ v1 then g_X7_pressed_39 F v1 v2 (1 : Int32) M_thrown M_hand M_presses M_pressFrom M_pressTo else (if v2 < 0 then g_X7_pressed_39 F v1 v2 (1 : Int32) M_thrown M_hand M_presses M_pressFrom M_pressTo else (if (3 : Int32) ≤ v2 then g_X7_pressed_39 F v1 v2 (1 : Int32) M_thrown M_hand M_presses M_pressFrom M_pressTo else g_X7_pressed_39 F v1 v2 (0 : Int32) M_thrown M_hand M_presses M_pressFrom M_pressTo))))))
set_option maxRecDepth 20000 in
theorem n_X7_pressed_X7 : ∀ w ∈ wsX70, w ∈ wsX7_pressed := by decide +kernel
set_option maxRecDepth 20000 in
theorem w_X7_pressed_f72 : Cond.fieldLink RX7 72 "LayerStacksModel" "thrown" "I" ∈ wsX7_pressed := by decide +kernel
set_option maxRecDepth 20000 in
theorem w_X7_pressed_f195 : Cond.fieldLink RX7 195 "LayerStacksModel" "hand" "I" ∈ wsX7_pressed := by decide +kernel
set_option maxRecDepth 20000 in
theorem w_X7_pressed_f44 : Cond.fieldLink RX7 44 "LayerStacksModel" "pressTo" "[I" ∈ wsX7_pressed := by decide +kernel
set_option maxRecDepth 20000 in
theorem w_X7_pressed_f41 : Cond.fieldLink RX7 41 "LayerStacksModel" "pressFrom" "[I" ∈ wsX7_pressed := by decide +kernel
set_option maxRecDepth 20000 in
theorem w_X7_pressed_f38 : Cond.fieldLink RX7 38 "LayerStacksModel" "presses" "[I" ∈ wsX7_pressed := by decide +kernel
set_option maxRecDepth 20000 in
theorem w_X7_pressed_f201 : Cond.fieldLink RX7 201 "LayerStacksModel" "has" "Z" ∈ wsX7_pressed := by decide +kernel
set_option maxHeartbeats 4000000 in
set_option maxRecDepth 100000 in
theorem k_X7_pressed_138 {p : Program} {l : Launch} {e : Env} {s : State} {m : MethodId} {args : Array Value} {below : List Frame} {meth : Method} {c : Code} {D : va_G} {y : Nat → ClassId} {A : Nat → Prop} {q : Nat → Nat} {M_text : Nat → Int32} {M_size : Int32} {M_has : Int32} {M_layers : Nat → Int32} {M_kinds : Nat → Int32} {M_names : Nat → Int64} {M_nameSizes : Nat → Int32} {M_thicknesses : Nat → Int64} {M_spreads : Nat → Int32} {M_coppers : Nat → Int32} {M_copperAt : Nat → Int32} {M_vias : Nat → Int32} {M_viaFrom : Nat → Int32} {M_viaTo : Nat → Int32} {M_shares : Nat → Int32} {M_lists : Int32} {M_hasRow : Nat → Int32} {M_rowLow : Nat → Int64} {M_rowHigh : Nat → Int64} {M_p : Int32} {M_s : Int32} {M_fault : Int32} {M_lines : Int32} {M_word : Int64} {M_wordSize : Int32} {M_out : Nat → Int32} {M_written : Int32} {M_secondOne : Int32} {z : Int32 × Int32} (C : CX p s m args meth c wsX7_pressed RX7 cX7_pressed 8 (some .int)) (hA : ∀ q : Nat, s.heap.size ≤ q → A q) (hK : va_K D vwCl (tyl y) s) (F : Nat) {K_98 : Int32 → Int32 → Int32 → Int32 → Int32 → (Nat → Int32) → (Nat → Int32) → (Nat → Int32) → Option (Int32 × Int32)} (kK_98 : ∀ (v3 : Int32) (v4 : Int32) (v5 : Int32) (M_thrown : Int32) (M_hand : Int32) (M_presses : Nat → Int32) (M_pressFrom : Nat → Int32) (M_pressTo : Nat → Int32) (H : Heap) (locs : List Loc) (ls : Array Slot), K_98 v3 v4 v5 M_thrown M_hand M_presses M_pressFrom M_pressTo = some z → va_P D vwCl (wdX7 q y M_thrown M_text M_size M_has M_hand M_layers M_kinds M_names M_nameSizes M_thicknesses M_spreads M_coppers M_copperAt M_presses M_pressFrom M_pressTo M_vias M_viaFrom M_viaTo M_shares M_lists M_hasRow M_rowLow M_rowHigh M_p M_s M_fault M_lines M_word M_wordSize M_out M_written M_secondOne) H → va_D A (wdX7 q y M_thrown M_text M_size M_has M_hand M_layers M_kinds M_names M_nameSizes M_thicknesses M_spreads M_coppers M_copperAt M_presses M_pressFrom M_pressTo M_vias M_viaFrom M_viaTo M_shares M_lists M_hasRow M_rowLow M_rowHigh M_p M_s M_fault M_lines M_word M_wordSize M_out M_written M_secondOne) → va_S A s.heap H locs → lv_has ls 8 [(0, .ref (q 0)), (3, .int v3), (4, .int v4), (5, .int v5)] → W p l e ({ frames := 1, cells := 0, slots := 0, locals := 22 } : Room) s m args below meth c H locs 0 0 (MQ below (QI D y A (z.1) (wdX7 q y (z.2) M_text M_size M_has M_hand M_layers M_kinds M_names M_nameSizes M_thicknesses M_spreads M_coppers M_copperAt M_presses M_pressFrom M_pressTo M_vias M_viaFrom M_viaTo M_shares M_lists M_hasRow M_rowLow M_rowHigh M_p M_s M_fault M_lines M_word M_wordSize M_out M_written M_secondOne)) args s 0 0 A) (F0 m 98 ls [])) :
    ∀ (n : Nat), ∀ (v3 : Int32) (v4 : Int32) (v5 : Int32) (v6 : Int32) (v7 : Int32) (M_thrown : Int32) (M_hand : Int32) (M_presses : Nat → Int32) (M_pressFrom : Nat → Int32) (M_pressTo : Nat → Int32) (H : Heap) (locs : List Loc) (ls : Array Slot), g_X7_pressed_138 F K_98 n v3 v4 v5 v6 v7 M_thrown M_hand M_presses M_pressFrom M_pressTo = some z → va_P D vwCl (wdX7 q y M_thrown M_text M_size M_has M_hand M_layers M_kinds M_names M_nameSizes M_thicknesses M_spreads M_coppers M_copperAt M_presses M_pressFrom M_pressTo M_vias M_viaFrom M_viaTo M_shares M_lists M_hasRow M_rowLow M_rowHigh M_p M_s M_fault M_lines M_word M_wordSize M_out M_written M_secondOne) H → va_D A (wdX7 q y M_thrown M_text M_size M_has M_hand M_layers M_kinds M_names M_nameSizes M_thicknesses M_spreads M_coppers M_copperAt M_presses M_pressFrom M_pressTo M_vias M_viaFrom M_viaTo M_shares M_lists M_hasRow M_rowLow M_rowHigh M_p M_s M_fault M_lines M_word M_wordSize M_out M_written M_secondOne) → va_S A s.heap H locs → lv_has ls 8 [(0, .ref (q 0)), (3, .int v3), (4, .int v4), (5, .int v5), (6, .int v6), (7, .int v7)] → W p l e ({ frames := 1, cells := 0, slots := 0, locals := 22 } : Room) s m args below meth c H locs 0 0 (MQ below (QI D y A (z.1) (wdX7 q y (z.2) M_text M_size M_has M_hand M_layers M_kinds M_names M_nameSizes M_thicknesses M_spreads M_coppers M_copperAt M_presses M_pressFrom M_pressTo M_vias M_viaFrom M_viaTo M_shares M_lists M_hasRow M_rowLow M_rowHigh M_p M_s M_fault M_lines M_word M_wordSize M_out M_written M_secondOne)) args s 0 0 A) (F0 m 138 ls []) := by
  obtain ⟨⟨hx, hb, hml, hown, hts⟩, hr, hlocks⟩ := id C
  intro n
  induction n with
  | zero =>
    intro v3 v4 v5 v6 v7 M_thrown M_hand M_presses M_pressFrom M_pressTo H locs ls hm
    rw [g_X7_pressed_138_z] at hm
    cases hm
  | succ n ih =>
    intro v3 v4 v5 v6 v7 M_thrown M_hand M_presses M_pressFrom M_pressTo H locs ls hm hP hD hS hl
    rw [g_X7_pressed_138_s] at hm
    refine lv_iload hx hb dX7_pressed_138 (lv_at hl 5 rfl) ?_
    refine lv_bipush (v := (22 : Int32)) hx hb dX7_pressed_140 (by decide) ?_
    refine lv_aload_n hx hb dX7_pressed_142 rfl (lv_at hl 0 rfl) ?_
    refine va_get (D := D) (ci := 7) (v := .int M_hand) (C := RX7) (T := TX7) (N := 33) hx hb hts n_X7_pressed_X7 hown hK hP 0 rfl rfl 4 (by decide) (hts _ w_X7_pressed_f195) (fun _ h9 => h9) rfl dX7_pressed_143 ?_
    refine lv_imul hx hb dX7_pressed_146 ?_
    refine lv_aload_n hx hb dX7_pressed_147 rfl (lv_at hl 0 rfl) ?_
    refine va_get (D := D) (ci := 7) (v := .ref (q 10)) (C := RX7) (T := TX7) (N := 33) hx hb hts n_X7_pressed_X7 hown hK hP 0 rfl rfl 13 (by decide) (hts _ w_X7_pressed_f38) (fun _ h9 => h9) rfl dX7_pressed_148 ?_
    refine lv_aload_n hx hb dX7_pressed_151 rfl (lv_at hl 0 rfl) ?_
    refine va_get (D := D) (ci := 7) (v := .int M_hand) (C := RX7) (T := TX7) (N := 33) hx hb hts n_X7_pressed_X7 hown hK hP 0 rfl rfl 4 (by decide) (hts _ w_X7_pressed_f195) (fun _ h9 => h9) rfl dX7_pressed_152 ?_
    obtain ⟨hg_1, hm⟩ := mg_of hm
    refine va_iald hx hb hK hP 10 0 rfl rfl hg_1 dX7_pressed_155 ?_
    refine lv_iadd hx hb dX7_pressed_156 ?_
    refine lv_icmp_ge (tgt := 199) hx hb dX7_pressed_157 (by decide) (fun h_2 => ?_) (fun h_2 => ?_)
    · have hm := it_of hm h_2
      refine lv_iload hx hb dX7_pressed_199 (lv_at hl 2 rfl) ?_
      refine lv_iload hx hb dX7_pressed_201 (lv_at hl 4 rfl) ?_
      refine lv_if_eq (tgt := 210) hx hb dX7_pressed_203 (by decide) (fun h_3 => ?_) (fun h_3 => ?_)
      · have hm := it_of hm h_3
        refine lv_iconst (v := (0 : Int32)) hx hb dX7_pressed_210 (by decide) ?_
        refine lv_iadd hx hb dX7_pressed_211 ?_
        refine lv_topi (fun v4_4 ev4_4 => ?_)
        have hm := mn_of ev4_4 hm
        refine lv_istore (lv' := [(4, .int v4_4), (0, .ref (q 0)), (3, .int v3), (5, .int v5), (6, .int v6), (7, .int v7)]) hx hb dX7_pressed_212 hl (by decide) rfl (fun ls hl => ?_)
        obtain ⟨v5_5, ev5_5⟩ : ∃ y9 : Int32, y9 = (v5 + (1 : Int32)) := ⟨_, rfl⟩
        have hm := mn_of ev5_5 hm
        refine lv_iinc (v := v5_5) (lv' := [(5, .int v5_5), (4, .int v4_4), (0, .ref (q 0)), (3, .int v3), (6, .int v6), (7, .int v7)]) hx hb dX7_pressed_214 hl (k := 3) rfl (by rw [ev5_5]; rfl) (by decide) rfl (fun ls hl => ?_)
        refine lv_goto (tgt := 98) hx hb dX7_pressed_217 (by decide) ?_
        exact kK_98 v3 v4_4 v5_5 M_thrown M_hand M_presses M_pressFrom M_pressTo _ _ _ hm hP hD hS (lv_sub hl [2, 3, 1, 0] rfl)
      · have hm := ie_of hm h_3
        refine lv_iconst (v := (1 : Int32)) hx hb dX7_pressed_206 (by decide) ?_
        refine lv_goto (tgt := 211) hx hb dX7_pressed_207 (by decide) ?_
        refine lv_iadd hx hb dX7_pressed_211 ?_
        refine lv_topi (fun v4_6 ev4_6 => ?_)
        have hm := mn_of ev4_6 hm
        refine lv_istore (lv' := [(4, .int v4_6), (0, .ref (q 0)), (3, .int v3), (5, .int v5), (6, .int v6), (7, .int v7)]) hx hb dX7_pressed_212 hl (by decide) rfl (fun ls hl => ?_)
        obtain ⟨v5_7, ev5_7⟩ : ∃ y9 : Int32, y9 = (v5 + (1 : Int32)) := ⟨_, rfl⟩
        have hm := mn_of ev5_7 hm
        refine lv_iinc (v := v5_7) (lv' := [(5, .int v5_7), (4, .int v4_6), (0, .ref (q 0)), (3, .int v3), (6, .int v6), (7, .int v7)]) hx hb dX7_pressed_214 hl (k := 3) rfl (by rw [ev5_7]; rfl) (by decide) rfl (fun ls hl => ?_)
        refine lv_goto (tgt := 98) hx hb dX7_pressed_217 (by decide) ?_
        exact kK_98 v3 v4_6 v5_7 M_thrown M_hand M_presses M_pressFrom M_pressTo _ _ _ hm hP hD hS (lv_sub hl [2, 3, 1, 0] rfl)
    · have hm := ie_of hm h_2
      refine lv_iload hx hb dX7_pressed_160 (lv_at hl 4 rfl) ?_
      refine lv_if_eq (tgt := 190) hx hb dX7_pressed_162 (by decide) (fun h_8 => ?_) (fun h_8 => ?_)
      · have hm := it_of hm h_8
        refine lv_iconst (v := (0 : Int32)) hx hb dX7_pressed_190 (by decide) ?_
        refine lv_istore (lv' := [(6, .int (0 : Int32)), (0, .ref (q 0)), (3, .int v3), (4, .int v4), (5, .int v5), (7, .int v7)]) hx hb dX7_pressed_191 hl (by decide) rfl (fun ls hl => ?_)
        obtain ⟨v7_9, ev7_9⟩ : ∃ y9 : Int32, y9 = (v7 + (1 : Int32)) := ⟨_, rfl⟩
        have hm := mn_of ev7_9 hm
        refine lv_iinc (v := v7_9) (lv' := [(7, .int v7_9), (6, .int (0 : Int32)), (0, .ref (q 0)), (3, .int v3), (4, .int v4), (5, .int v5)]) hx hb dX7_pressed_193 hl (k := 5) rfl (by rw [ev7_9]; rfl) (by decide) rfl (fun ls hl => ?_)
        refine lv_goto (tgt := 138) hx hb dX7_pressed_196 (by decide) ?_
        exact ih v3 v4 v5 (0 : Int32) v7_9 M_thrown M_hand M_presses M_pressFrom M_pressTo _ _ _ hm hP hD hS (lv_sub hl [2, 3, 4, 5, 1, 0] rfl)
      · have hm := ie_of hm h_8
        refine lv_aload_n hx hb dX7_pressed_165 rfl (lv_at hl 0 rfl) ?_
        refine lv_iload hx hb dX7_pressed_166 (lv_at hl 3 rfl) ?_
        refine lv_iload hx hb dX7_pressed_168 (lv_at hl 5 rfl) ?_
        obtain ⟨r_10, hc_11, hm⟩ := mb1_of hm
        refine call_vi (wc := (wdX7 q y M_thrown M_text M_size M_has M_hand M_layers M_kinds M_names M_nameSizes M_thicknesses M_spreads M_coppers M_copperAt M_presses M_pressFrom M_pressTo M_vias M_viaFrom M_viaTo M_shares M_lists M_hasRow M_rowLow M_rowHigh M_p M_s M_fault M_lines M_word M_wordSize M_out M_written M_secondOne)) (wr := []) (As := [.int v5, .int v7]) (rest := []) C (c_X7_isWithin l D y q _ F hc_11) (cwV 2 hts gX7_pressed_X7_isWithin rfl rfl rfl (by decide +kernel) ⟨Nat.le_of_ble_eq_true rfl, Nat.le_of_ble_eq_true rfl⟩) hK hP hD hS hA [0, 1, 2, 3, 4, 5, 6, 7, 8, 9, 10, 11, 12, 13, 14, 15, 16, 17, 18, 19, 20] [] rfl rfl rfl rfl rfl (by decide) rfl rfl rfl rfl hl.1 (Nat.le_of_ble_eq_true rfl) dX7_pressed_170 (fun H locs hP hD hS => ?_)
        have hP : va_P D vwCl (wdX7 q y M_thrown M_text M_size M_has M_hand M_layers M_kinds M_names M_nameSizes M_thicknesses M_spreads M_coppers M_copperAt M_presses M_pressFrom M_pressTo M_vias M_viaFrom M_viaTo M_shares M_lists M_hasRow M_rowLow M_rowHigh M_p M_s M_fault M_lines M_word M_wordSize M_out M_written M_secondOne) H := hP
        have hD : va_D A (wdX7 q y M_thrown M_text M_size M_has M_hand M_layers M_kinds M_names M_nameSizes M_thicknesses M_spreads M_coppers M_copperAt M_presses M_pressFrom M_pressTo M_vias M_viaFrom M_viaTo M_shares M_lists M_hasRow M_rowLow M_rowHigh M_p M_s M_fault M_lines M_word M_wordSize M_out M_written M_secondOne) := hD
        refine lv_if_eq (tgt := 186) hx hb dX7_pressed_173 (by decide) (fun h_12 => ?_) (fun h_12 => ?_)
        · have hm := it_of hm h_12
          refine lv_iconst (v := (1 : Int32)) hx hb dX7_pressed_186 (by decide) ?_
          refine lv_goto (tgt := 191) hx hb dX7_pressed_187 (by decide) ?_
          refine lv_istore (lv' := [(6, .int (1 : Int32)), (0, .ref (q 0)), (3, .int v3), (4, .int v4), (5, .int v5), (7, .int v7)]) hx hb dX7_pressed_191 hl (by decide) rfl (fun ls hl => ?_)
          obtain ⟨v7_13, ev7_13⟩ : ∃ y9 : Int32, y9 = (v7 + (1 : Int32)) := ⟨_, rfl⟩
          have hm := mn_of ev7_13 hm
          refine lv_iinc (v := v7_13) (lv' := [(7, .int v7_13), (6, .int (1 : Int32)), (0, .ref (q 0)), (3, .int v3), (4, .int v4), (5, .int v5)]) hx hb dX7_pressed_193 hl (k := 5) rfl (by rw [ev7_13]; rfl) (by decide) rfl (fun ls hl => ?_)
          refine lv_goto (tgt := 138) hx hb dX7_pressed_196 (by decide) ?_
          exact ih v3 v4 v5 (1 : Int32) v7_13 M_thrown M_hand M_presses M_pressFrom M_pressTo _ _ _ hm hP hD hS (lv_sub hl [2, 3, 4, 5, 1, 0] rfl)
        · have hm := ie_of hm h_12
          refine lv_aload_n hx hb dX7_pressed_176 rfl (lv_at hl 0 rfl) ?_
          refine lv_iload hx hb dX7_pressed_177 (lv_at hl 5 rfl) ?_
          refine lv_iload_n hx hb dX7_pressed_179 rfl (lv_at hl 1 rfl) ?_
          obtain ⟨r_14, hc_15, hm⟩ := mb1_of hm
          refine call_vi (wc := (wdX7 q y M_thrown M_text M_size M_has M_hand M_layers M_kinds M_names M_nameSizes M_thicknesses M_spreads M_coppers M_copperAt M_presses M_pressFrom M_pressTo M_vias M_viaFrom M_viaTo M_shares M_lists M_hasRow M_rowLow M_rowHigh M_p M_s M_fault M_lines M_word M_wordSize M_out M_written M_secondOne)) (wr := []) (As := [.int v7, .int v3]) (rest := []) C (c_X7_isWithin l D y q _ F hc_15) (cwV 2 hts gX7_pressed_X7_isWithin rfl rfl rfl (by decide +kernel) ⟨Nat.le_of_ble_eq_true rfl, Nat.le_of_ble_eq_true rfl⟩) hK hP hD hS hA [0, 1, 2, 3, 4, 5, 6, 7, 8, 9, 10, 11, 12, 13, 14, 15, 16, 17, 18, 19, 20] [] rfl rfl rfl rfl rfl (by decide) rfl rfl rfl rfl hl.1 (Nat.le_of_ble_eq_true rfl) dX7_pressed_180 (fun H locs hP hD hS => ?_)
          have hP : va_P D vwCl (wdX7 q y M_thrown M_text M_size M_has M_hand M_layers M_kinds M_names M_nameSizes M_thicknesses M_spreads M_coppers M_copperAt M_presses M_pressFrom M_pressTo M_vias M_viaFrom M_viaTo M_shares M_lists M_hasRow M_rowLow M_rowHigh M_p M_s M_fault M_lines M_word M_wordSize M_out M_written M_secondOne) H := hP
          have hD : va_D A (wdX7 q y M_thrown M_text M_size M_has M_hand M_layers M_kinds M_names M_nameSizes M_thicknesses M_spreads M_coppers M_copperAt M_presses M_pressFrom M_pressTo M_vias M_viaFrom M_viaTo M_shares M_lists M_hasRow M_rowLow M_rowHigh M_p M_s M_fault M_lines M_word M_wordSize M_out M_written M_secondOne) := hD
          refine lv_if_ne (tgt := 190) hx hb dX7_pressed_183 (by decide) (fun h_16 => ?_) (fun h_16 => ?_)
          · have hm := ie_of hm h_16
            refine lv_iconst (v := (0 : Int32)) hx hb dX7_pressed_190 (by decide) ?_
            refine lv_istore (lv' := [(6, .int (0 : Int32)), (0, .ref (q 0)), (3, .int v3), (4, .int v4), (5, .int v5), (7, .int v7)]) hx hb dX7_pressed_191 hl (by decide) rfl (fun ls hl => ?_)
            obtain ⟨v7_17, ev7_17⟩ : ∃ y9 : Int32, y9 = (v7 + (1 : Int32)) := ⟨_, rfl⟩
            have hm := mn_of ev7_17 hm
            refine lv_iinc (v := v7_17) (lv' := [(7, .int v7_17), (6, .int (0 : Int32)), (0, .ref (q 0)), (3, .int v3), (4, .int v4), (5, .int v5)]) hx hb dX7_pressed_193 hl (k := 5) rfl (by rw [ev7_17]; rfl) (by decide) rfl (fun ls hl => ?_)
            refine lv_goto (tgt := 138) hx hb dX7_pressed_196 (by decide) ?_
            exact ih v3 v4 v5 (0 : Int32) v7_17 M_thrown M_hand M_presses M_pressFrom M_pressTo _ _ _ hm hP hD hS (lv_sub hl [2, 3, 4, 5, 1, 0] rfl)
          · have hm := it_of hm h_16
            refine lv_iconst (v := (1 : Int32)) hx hb dX7_pressed_186 (by decide) ?_
            refine lv_goto (tgt := 191) hx hb dX7_pressed_187 (by decide) ?_
            refine lv_istore (lv' := [(6, .int (1 : Int32)), (0, .ref (q 0)), (3, .int v3), (4, .int v4), (5, .int v5), (7, .int v7)]) hx hb dX7_pressed_191 hl (by decide) rfl (fun ls hl => ?_)
            obtain ⟨v7_18, ev7_18⟩ : ∃ y9 : Int32, y9 = (v7 + (1 : Int32)) := ⟨_, rfl⟩
            have hm := mn_of ev7_18 hm
            refine lv_iinc (v := v7_18) (lv' := [(7, .int v7_18), (6, .int (1 : Int32)), (0, .ref (q 0)), (3, .int v3), (4, .int v4), (5, .int v5)]) hx hb dX7_pressed_193 hl (k := 5) rfl (by rw [ev7_18]; rfl) (by decide) rfl (fun ls hl => ?_)
            refine lv_goto (tgt := 138) hx hb dX7_pressed_196 (by decide) ?_
            exact ih v3 v4 v5 (1 : Int32) v7_18 M_thrown M_hand M_presses M_pressFrom M_pressTo _ _ _ hm hP hD hS (lv_sub hl [2, 3, 4, 5, 1, 0] rfl)
set_option maxHeartbeats 4000000 in
set_option maxRecDepth 100000 in
theorem k_X7_pressed_98 {p : Program} {l : Launch} {e : Env} {s : State} {m : MethodId} {args : Array Value} {below : List Frame} {meth : Method} {c : Code} {D : va_G} {y : Nat → ClassId} {A : Nat → Prop} {q : Nat → Nat} {M_text : Nat → Int32} {M_size : Int32} {M_has : Int32} {M_layers : Nat → Int32} {M_kinds : Nat → Int32} {M_names : Nat → Int64} {M_nameSizes : Nat → Int32} {M_thicknesses : Nat → Int64} {M_spreads : Nat → Int32} {M_coppers : Nat → Int32} {M_copperAt : Nat → Int32} {M_vias : Nat → Int32} {M_viaFrom : Nat → Int32} {M_viaTo : Nat → Int32} {M_shares : Nat → Int32} {M_lists : Int32} {M_hasRow : Nat → Int32} {M_rowLow : Nat → Int64} {M_rowHigh : Nat → Int64} {M_p : Int32} {M_s : Int32} {M_fault : Int32} {M_lines : Int32} {M_word : Int64} {M_wordSize : Int32} {M_out : Nat → Int32} {M_written : Int32} {M_secondOne : Int32} {z : Int32 × Int32} (C : CX p s m args meth c wsX7_pressed RX7 cX7_pressed 8 (some .int)) (hA : ∀ q : Nat, s.heap.size ≤ q → A q) (hK : va_K D vwCl (tyl y) s) (F : Nat) :
    ∀ (n : Nat), ∀ (v3 : Int32) (v4 : Int32) (v5 : Int32) (M_thrown : Int32) (M_hand : Int32) (M_presses : Nat → Int32) (M_pressFrom : Nat → Int32) (M_pressTo : Nat → Int32) (H : Heap) (locs : List Loc) (ls : Array Slot), g_X7_pressed_98 F n v3 v4 v5 M_thrown M_hand M_presses M_pressFrom M_pressTo = some z → va_P D vwCl (wdX7 q y M_thrown M_text M_size M_has M_hand M_layers M_kinds M_names M_nameSizes M_thicknesses M_spreads M_coppers M_copperAt M_presses M_pressFrom M_pressTo M_vias M_viaFrom M_viaTo M_shares M_lists M_hasRow M_rowLow M_rowHigh M_p M_s M_fault M_lines M_word M_wordSize M_out M_written M_secondOne) H → va_D A (wdX7 q y M_thrown M_text M_size M_has M_hand M_layers M_kinds M_names M_nameSizes M_thicknesses M_spreads M_coppers M_copperAt M_presses M_pressFrom M_pressTo M_vias M_viaFrom M_viaTo M_shares M_lists M_hasRow M_rowLow M_rowHigh M_p M_s M_fault M_lines M_word M_wordSize M_out M_written M_secondOne) → va_S A s.heap H locs → lv_has ls 8 [(0, .ref (q 0)), (3, .int v3), (4, .int v4), (5, .int v5)] → W p l e ({ frames := 1, cells := 0, slots := 0, locals := 22 } : Room) s m args below meth c H locs 0 0 (MQ below (QI D y A (z.1) (wdX7 q y (z.2) M_text M_size M_has M_hand M_layers M_kinds M_names M_nameSizes M_thicknesses M_spreads M_coppers M_copperAt M_presses M_pressFrom M_pressTo M_vias M_viaFrom M_viaTo M_shares M_lists M_hasRow M_rowLow M_rowHigh M_p M_s M_fault M_lines M_word M_wordSize M_out M_written M_secondOne)) args s 0 0 A) (F0 m 98 ls []) := by
  obtain ⟨⟨hx, hb, hml, hown, hts⟩, hr, hlocks⟩ := id C
  intro n
  induction n with
  | zero =>
    intro v3 v4 v5 M_thrown M_hand M_presses M_pressFrom M_pressTo H locs ls hm
    rw [g_X7_pressed_98_z] at hm
    cases hm
  | succ n ih =>
    intro v3 v4 v5 M_thrown M_hand M_presses M_pressFrom M_pressTo H locs ls hm hP hD hS hl
    rw [g_X7_pressed_98_s] at hm
    refine lv_iload hx hb dX7_pressed_98 (lv_at hl 3 rfl) ?_
    refine lv_bipush (v := (22 : Int32)) hx hb dX7_pressed_100 (by decide) ?_
    refine lv_aload_n hx hb dX7_pressed_102 rfl (lv_at hl 0 rfl) ?_
    refine va_get (D := D) (ci := 7) (v := .int M_hand) (C := RX7) (T := TX7) (N := 33) hx hb hts n_X7_pressed_X7 hown hK hP 0 rfl rfl 4 (by decide) (hts _ w_X7_pressed_f195) (fun _ h9 => h9) rfl dX7_pressed_103 ?_
    refine lv_imul hx hb dX7_pressed_106 ?_
    refine lv_aload_n hx hb dX7_pressed_107 rfl (lv_at hl 0 rfl) ?_
    refine va_get (D := D) (ci := 7) (v := .ref (q 10)) (C := RX7) (T := TX7) (N := 33) hx hb hts n_X7_pressed_X7 hown hK hP 0 rfl rfl 13 (by decide) (hts _ w_X7_pressed_f38) (fun _ h9 => h9) rfl dX7_pressed_108 ?_
    refine lv_aload_n hx hb dX7_pressed_111 rfl (lv_at hl 0 rfl) ?_
    refine va_get (D := D) (ci := 7) (v := .int M_hand) (C := RX7) (T := TX7) (N := 33) hx hb hts n_X7_pressed_X7 hown hK hP 0 rfl rfl 4 (by decide) (hts _ w_X7_pressed_f195) (fun _ h9 => h9) rfl dX7_pressed_112 ?_
    obtain ⟨hg_1, hm⟩ := mg_of hm
    refine va_iald hx hb hK hP 10 0 rfl rfl hg_1 dX7_pressed_115 ?_
    refine lv_iadd hx hb dX7_pressed_116 ?_
    refine lv_icmp_ge (tgt := 220) hx hb dX7_pressed_117 (by decide) (fun h_2 => ?_) (fun h_2 => ?_)
    · have hm := it_of hm h_2
      refine lv_iload hx hb dX7_pressed_220 (lv_at hl 2 rfl) ?_
      have hz := Option.some.inj hm
      subst hz
      exact end_i C hK hP hD hS dX7_pressed_222
    · have hm := ie_of hm h_2
      refine lv_aload_n hx hb dX7_pressed_120 rfl (lv_at hl 0 rfl) ?_
      refine lv_iload hx hb dX7_pressed_121 (lv_at hl 3 rfl) ?_
      refine lv_iload_n hx hb dX7_pressed_123 rfl (lv_at hl 1 rfl) ?_
      obtain ⟨r_3, hc_4, hm⟩ := mb1_of hm
      refine call_vi (wc := (wdX7 q y M_thrown M_text M_size M_has M_hand M_layers M_kinds M_names M_nameSizes M_thicknesses M_spreads M_coppers M_copperAt M_presses M_pressFrom M_pressTo M_vias M_viaFrom M_viaTo M_shares M_lists M_hasRow M_rowLow M_rowHigh M_p M_s M_fault M_lines M_word M_wordSize M_out M_written M_secondOne)) (wr := []) (As := [.int v5, .int v3]) (rest := []) C (c_X7_isWithin l D y q _ F hc_4) (cwV 2 hts gX7_pressed_X7_isWithin rfl rfl rfl (by decide +kernel) ⟨Nat.le_of_ble_eq_true rfl, Nat.le_of_ble_eq_true rfl⟩) hK hP hD hS hA [0, 1, 2, 3, 4, 5, 6, 7, 8, 9, 10, 11, 12, 13, 14, 15, 16, 17, 18, 19, 20] [] rfl rfl rfl rfl rfl (by decide) rfl rfl rfl rfl hl.1 (Nat.le_of_ble_eq_true rfl) dX7_pressed_124 (fun H locs hP hD hS => ?_)
      have hP : va_P D vwCl (wdX7 q y M_thrown M_text M_size M_has M_hand M_layers M_kinds M_names M_nameSizes M_thicknesses M_spreads M_coppers M_copperAt M_presses M_pressFrom M_pressTo M_vias M_viaFrom M_viaTo M_shares M_lists M_hasRow M_rowLow M_rowHigh M_p M_s M_fault M_lines M_word M_wordSize M_out M_written M_secondOne) H := hP
      have hD : va_D A (wdX7 q y M_thrown M_text M_size M_has M_hand M_layers M_kinds M_names M_nameSizes M_thicknesses M_spreads M_coppers M_copperAt M_presses M_pressFrom M_pressTo M_vias M_viaFrom M_viaTo M_shares M_lists M_hasRow M_rowLow M_rowHigh M_p M_s M_fault M_lines M_word M_wordSize M_out M_written M_secondOne) := hD
      refine lv_istore (lv' := [(6, .int r_3), (0, .ref (q 0)), (3, .int v3), (4, .int v4), (5, .int v5)]) hx hb dX7_pressed_127 hl (by decide) rfl (fun ls hl => ?_)
      refine lv_bipush (v := (22 : Int32)) hx hb dX7_pressed_129 (by decide) ?_
      refine lv_aload_n hx hb dX7_pressed_131 rfl (lv_at hl 1 rfl) ?_
      refine va_get (D := D) (ci := 7) (v := .int M_hand) (C := RX7) (T := TX7) (N := 33) hx hb hts n_X7_pressed_X7 hown hK hP 0 rfl rfl 4 (by decide) (hts _ w_X7_pressed_f195) (fun _ h9 => h9) rfl dX7_pressed_132 ?_
      refine lv_imul hx hb dX7_pressed_135 ?_
      refine lv_topi (fun v7_5 ev7_5 => ?_)
      have hm := mn_of ev7_5 hm
      refine lv_istore (lv' := [(7, .int v7_5), (6, .int r_3), (0, .ref (q 0)), (3, .int v3), (4, .int v4), (5, .int v5)]) hx hb dX7_pressed_136 hl (by decide) rfl (fun ls hl => ?_)
      exact k_X7_pressed_138 C hA hK F (K_98 := g_X7_pressed_98 F n) ih F v3 v4 v5 r_3 v7_5 M_thrown M_hand M_presses M_pressFrom M_pressTo _ _ _ hm hP hD hS (lv_sub hl [2, 3, 4, 5, 1, 0] rfl)
set_option maxHeartbeats 4000000 in
set_option maxRecDepth 100000 in
theorem k_X7_pressed_39 {p : Program} {l : Launch} {e : Env} {s : State} {m : MethodId} {args : Array Value} {below : List Frame} {meth : Method} {c : Code} {D : va_G} {y : Nat → ClassId} {A : Nat → Prop} {q : Nat → Nat} {M_text : Nat → Int32} {M_size : Int32} {M_has : Int32} {M_layers : Nat → Int32} {M_kinds : Nat → Int32} {M_names : Nat → Int64} {M_nameSizes : Nat → Int32} {M_thicknesses : Nat → Int64} {M_spreads : Nat → Int32} {M_coppers : Nat → Int32} {M_copperAt : Nat → Int32} {M_vias : Nat → Int32} {M_viaFrom : Nat → Int32} {M_viaTo : Nat → Int32} {M_shares : Nat → Int32} {M_lists : Int32} {M_hasRow : Nat → Int32} {M_rowLow : Nat → Int64} {M_rowHigh : Nat → Int64} {M_p : Int32} {M_s : Int32} {M_fault : Int32} {M_lines : Int32} {M_word : Int64} {M_wordSize : Int32} {M_out : Nat → Int32} {M_written : Int32} {M_secondOne : Int32} {z : Int32 × Int32} (C : CX p s m args meth c wsX7_pressed RX7 cX7_pressed 8 (some .int)) (hA : ∀ q : Nat, s.heap.size ≤ q → A q) (hK : va_K D vwCl (tyl y) s) (F : Nat) :
    ∀ (v1 : Int32) (v2 : Int32) (st1 : Int32) (M_thrown : Int32) (M_hand : Int32) (M_presses : Nat → Int32) (M_pressFrom : Nat → Int32) (M_pressTo : Nat → Int32) (H : Heap) (locs : List Loc) (ls : Array Slot), g_X7_pressed_39 F v1 v2 st1 M_thrown M_hand M_presses M_pressFrom M_pressTo = some z → va_P D vwCl (wdX7 q y M_thrown M_text M_size M_has M_hand M_layers M_kinds M_names M_nameSizes M_thicknesses M_spreads M_coppers M_copperAt M_presses M_pressFrom M_pressTo M_vias M_viaFrom M_viaTo M_shares M_lists M_hasRow M_rowLow M_rowHigh M_p M_s M_fault M_lines M_word M_wordSize M_out M_written M_secondOne) H → va_D A (wdX7 q y M_thrown M_text M_size M_has M_hand M_layers M_kinds M_names M_nameSizes M_thicknesses M_spreads M_coppers M_copperAt M_presses M_pressFrom M_pressTo M_vias M_viaFrom M_viaTo M_shares M_lists M_hasRow M_rowLow M_rowHigh M_p M_s M_fault M_lines M_word M_wordSize M_out M_written M_secondOne) → va_S A s.heap H locs → lv_has ls 8 [(0, .ref (q 0)), (1, .int v1), (2, .int v2)] → W p l e ({ frames := 1, cells := 0, slots := 0, locals := 22 } : Room) s m args below meth c H locs 0 0 (MQ below (QI D y A (z.1) (wdX7 q y (z.2) M_text M_size M_has M_hand M_layers M_kinds M_names M_nameSizes M_thicknesses M_spreads M_coppers M_copperAt M_presses M_pressFrom M_pressTo M_vias M_viaFrom M_viaTo M_shares M_lists M_hasRow M_rowLow M_rowHigh M_p M_s M_fault M_lines M_word M_wordSize M_out M_written M_secondOne)) args s 0 0 A) (F0 m 39 ls [.int st1, .ref (q 0)]) := by
  obtain ⟨⟨hx, hb, hml, hown, hts⟩, hr, hlocks⟩ := id C
  intro v1 v2 st1 M_thrown M_hand M_presses M_pressFrom M_pressTo H locs ls hm hP hD hS hl
  unfold g_X7_pressed_39 at hm
  refine va_put (D := D) (ci := 7) (v := .int st1) (ty := .int) (C := RX7) (T := TX7) (N := 33) hx hb hts n_X7_pressed_X7 tyX7 tyX7_ok nmX7 hown hK hP hD hS 0 rfl rfl 0 (by decide) (hts _ w_X7_pressed_f72) (fun _ h9 => h9) rfl (by decide +kernel) rfl rfl (Nat.le_of_ble_eq_true rfl) dX7_pressed_39 (fun H locs hP hD hS => ?_)
  have hP : va_P D vwCl (wdX7 q y st1 M_text M_size M_has M_hand M_layers M_kinds M_names M_nameSizes M_thicknesses M_spreads M_coppers M_copperAt M_presses M_pressFrom M_pressTo M_vias M_viaFrom M_viaTo M_shares M_lists M_hasRow M_rowLow M_rowHigh M_p M_s M_fault M_lines M_word M_wordSize M_out M_written M_secondOne) H := hP
  have hD : va_D A (wdX7 q y st1 M_text M_size M_has M_hand M_layers M_kinds M_names M_nameSizes M_thicknesses M_spreads M_coppers M_copperAt M_presses M_pressFrom M_pressTo M_vias M_viaFrom M_viaTo M_shares M_lists M_hasRow M_rowLow M_rowHigh M_p M_s M_fault M_lines M_word M_wordSize M_out M_written M_secondOne) := hD
  refine lv_aload_n hx hb dX7_pressed_42 rfl (lv_at hl 0 rfl) ?_
  refine va_get (D := D) (ci := 7) (v := .int st1) (C := RX7) (T := TX7) (N := 33) hx hb hts n_X7_pressed_X7 hown hK hP 0 rfl rfl 0 (by decide) (hts _ w_X7_pressed_f72) (fun _ h9 => h9) rfl dX7_pressed_43 ?_
  refine lv_if_eq (tgt := 51) hx hb dX7_pressed_46 (by decide) (fun h_1 => ?_) (fun h_1 => ?_)
  · have hm := it_of hm h_1
    refine lv_bipush (v := (22 : Int32)) hx hb dX7_pressed_51 (by decide) ?_
    refine lv_aload_n hx hb dX7_pressed_53 rfl (lv_at hl 0 rfl) ?_
    refine va_get (D := D) (ci := 7) (v := .int M_hand) (C := RX7) (T := TX7) (N := 33) hx hb hts n_X7_pressed_X7 hown hK hP 0 rfl rfl 4 (by decide) (hts _ w_X7_pressed_f195) (fun _ h9 => h9) rfl dX7_pressed_54 ?_
    refine lv_imul hx hb dX7_pressed_57 ?_
    refine lv_iload_n hx hb dX7_pressed_58 rfl (lv_at hl 1 rfl) ?_
    refine lv_iadd hx hb dX7_pressed_59 ?_
    refine lv_topi (fun v3_2 ev3_2 => ?_)
    have hm := mn_of ev3_2 hm
    refine lv_istore_n (lv' := [(3, .int v3_2), (0, .ref (q 0)), (1, .int v1), (2, .int v2)]) hx hb dX7_pressed_60 rfl hl (by decide) rfl (fun ls hl => ?_)
    refine lv_iload_n hx hb dX7_pressed_61 rfl (lv_at hl 3 rfl) ?_
    refine lv_iconst (v := (2 : Int32)) hx hb dX7_pressed_62 (by decide) ?_
    refine lv_icmp_ge (tgt := 86) hx hb dX7_pressed_63 (by decide) (fun h_3 => ?_) (fun h_3 => ?_)
    · have hm := it_of hm h_3
      refine lv_iconst (v := (0 : Int32)) hx hb dX7_pressed_86 (by decide) ?_
      refine lv_istore (lv' := [(4, .int (0 : Int32)), (3, .int v3_2), (0, .ref (q 0)), (1, .int v1), (2, .int v2)]) hx hb dX7_pressed_87 hl (by decide) rfl (fun ls hl => ?_)
      refine lv_bipush (v := (22 : Int32)) hx hb dX7_pressed_89 (by decide) ?_
      refine lv_aload_n hx hb dX7_pressed_91 rfl (lv_at hl 2 rfl) ?_
      refine va_get (D := D) (ci := 7) (v := .int M_hand) (C := RX7) (T := TX7) (N := 33) hx hb hts n_X7_pressed_X7 hown hK hP 0 rfl rfl 4 (by decide) (hts _ w_X7_pressed_f195) (fun _ h9 => h9) rfl dX7_pressed_92 ?_
      refine lv_imul hx hb dX7_pressed_95 ?_
      refine lv_topi (fun v5_4 ev5_4 => ?_)
      have hm := mn_of ev5_4 hm
      refine lv_istore (lv' := [(5, .int v5_4), (4, .int (0 : Int32)), (3, .int v3_2), (0, .ref (q 0)), (1, .int v1), (2, .int v2)]) hx hb dX7_pressed_96 hl (by decide) rfl (fun ls hl => ?_)
      exact k_X7_pressed_98 C hA hK F F v3_2 (0 : Int32) v5_4 st1 M_hand M_presses M_pressFrom M_pressTo _ _ _ hm hP hD hS (lv_sub hl [3, 2, 1, 0] rfl)
    · have hm := ie_of hm h_3
      refine lv_iload_n hx hb dX7_pressed_66 rfl (lv_at hl 3 rfl) ?_
      refine lv_if_ne (tgt := 79) hx hb dX7_pressed_67 (by decide) (fun h_5 => ?_) (fun h_5 => ?_)
      · have hm := ie_of hm h_5
        refine lv_aload_n hx hb dX7_pressed_79 rfl (lv_at hl 1 rfl) ?_
        refine va_get (D := D) (ci := 7) (v := .ref (q 12)) (C := RX7) (T := TX7) (N := 33) hx hb hts n_X7_pressed_X7 hown hK hP 0 rfl rfl 15 (by decide) (hts _ w_X7_pressed_f44) (fun _ h9 => h9) rfl dX7_pressed_80 ?_
        refine lv_iload_n hx hb dX7_pressed_83 rfl (lv_at hl 0 rfl) ?_
        obtain ⟨hg_6, hm⟩ := mg_of hm
        refine va_iald hx hb hK hP 12 0 rfl rfl hg_6 dX7_pressed_84 ?_
        have hz := Option.some.inj hm
        subst hz
        exact end_i C hK hP hD hS dX7_pressed_85
      · have hm := it_of hm h_5
        refine lv_aload_n hx hb dX7_pressed_70 rfl (lv_at hl 1 rfl) ?_
        refine va_get (D := D) (ci := 7) (v := .ref (q 11)) (C := RX7) (T := TX7) (N := 33) hx hb hts n_X7_pressed_X7 hown hK hP 0 rfl rfl 14 (by decide) (hts _ w_X7_pressed_f41) (fun _ h9 => h9) rfl dX7_pressed_71 ?_
        refine lv_iload_n hx hb dX7_pressed_74 rfl (lv_at hl 0 rfl) ?_
        obtain ⟨hg_7, hm⟩ := mg_of hm
        refine va_iald hx hb hK hP 11 0 rfl rfl hg_7 dX7_pressed_75 ?_
        refine lv_goto (tgt := 85) hx hb dX7_pressed_76 (by decide) ?_
        have hz := Option.some.inj hm
        subst hz
        exact end_i C hK hP hD hS dX7_pressed_85
  · have hm := ie_of hm h_1
    refine lv_iconst (v := (0 : Int32)) hx hb dX7_pressed_49 (by decide) ?_
    have hz := Option.some.inj hm
    subst hz
    exact end_i C hK hP hD hS dX7_pressed_50
set_option maxHeartbeats 4000000 in
set_option maxRecDepth 100000 in
theorem c_X7_pressed (l : Launch) (D : va_G) (y : Nat → ClassId) (q : Nat → Nat) (sz : Nat) (F : Nat) {v1 : Int32} {v2 : Int32} {M_thrown : Int32} {M_text : Nat → Int32} {M_size : Int32} {M_has : Int32} {M_hand : Int32} {M_layers : Nat → Int32} {M_kinds : Nat → Int32} {M_names : Nat → Int64} {M_nameSizes : Nat → Int32} {M_thicknesses : Nat → Int64} {M_spreads : Nat → Int32} {M_coppers : Nat → Int32} {M_copperAt : Nat → Int32} {M_presses : Nat → Int32} {M_pressFrom : Nat → Int32} {M_pressTo : Nat → Int32} {M_vias : Nat → Int32} {M_viaFrom : Nat → Int32} {M_viaTo : Nat → Int32} {M_shares : Nat → Int32} {M_lists : Int32} {M_hasRow : Nat → Int32} {M_rowLow : Nat → Int64} {M_rowHigh : Nat → Int64} {M_p : Int32} {M_s : Int32} {M_fault : Int32} {M_lines : Int32} {M_word : Int64} {M_wordSize : Int32} {M_out : Nat → Int32} {M_written : Int32} {M_secondOne : Int32} {z : Int32 × Int32} (hm : f_X7_pressed F v1 v2 M_thrown M_has M_hand M_presses M_pressFrom M_pressTo = some z) : Met l yX7_pressed wsX7_pressed ({ frames := 1, cells := 0, slots := 0, locals := 22 } : Room) (va_Pc [.ref (q 0), .int v1, .int v2] (cP D y (wdX7 q y M_thrown M_text M_size M_has M_hand M_layers M_kinds M_names M_nameSizes M_thicknesses M_spreads M_coppers M_copperAt M_presses M_pressFrom M_pressTo M_vias M_viaFrom M_viaTo M_shares M_lists M_hasRow M_rowLow M_rowHigh M_p M_s M_fault M_lines M_word M_wordSize M_out M_written M_secondOne) sz)) (QI D y (va_A (wdX7 q y M_thrown M_text M_size M_has M_hand M_layers M_kinds M_names M_nameSizes M_thicknesses M_spreads M_coppers M_copperAt M_presses M_pressFrom M_pressTo M_vias M_viaFrom M_viaTo M_shares M_lists M_hasRow M_rowLow M_rowHigh M_p M_s M_fault M_lines M_word M_wordSize M_out M_written M_secondOne) sz) (z.1) (wdX7 q y (z.2) M_text M_size M_has M_hand M_layers M_kinds M_names M_nameSizes M_thicknesses M_spreads M_coppers M_copperAt M_presses M_pressFrom M_pressTo M_vias M_viaFrom M_viaTo M_shares M_lists M_hasRow M_rowLow M_rowHigh M_p M_s M_fault M_lines M_word M_wordSize M_out M_written M_secondOne)) 0 0 (va_A (wdX7 q y M_thrown M_text M_size M_has M_hand M_layers M_kinds M_names M_nameSizes M_thicknesses M_spreads M_coppers M_copperAt M_presses M_pressFrom M_pressTo M_vias M_viaFrom M_viaTo M_shares M_lists M_hasRow M_rowLow M_rowHigh M_p M_s M_fault M_lines M_word M_wordSize M_out M_written M_secondOne) sz) := by
  refine met_of (own := RX7) (cc := cX7_pressed) (maxL := 8) (ret := (some .int)) (by decide) rfl rfl (Nat.le_of_ble_eq_true rfl) ?_
  intro p e s m below meth c ls C hsz hK hP hD hA hS hl
  obtain ⟨⟨hx, hb, hml, hown, hts⟩, hr, hlocks⟩ := id C
  have hl : lv_has ls 8 [(0, .ref (q 0)), (1, .int v1), (2, .int v2)] := hl
  generalize va_A (wdX7 q y M_thrown M_text M_size M_has M_hand M_layers M_kinds M_names M_nameSizes M_thicknesses M_spreads M_coppers M_copperAt M_presses M_pressFrom M_pressTo M_vias M_viaFrom M_viaTo M_shares M_lists M_hasRow M_rowLow M_rowHigh M_p M_s M_fault M_lines M_word M_wordSize M_out M_written M_secondOne) sz = A at hD hA hS ⊢
  generalize ([.ref (q 0), .int v1, .int v2] : List Value).toArray = args at C hts ⊢
  unfold f_X7_pressed at hm
  refine lv_aload_n hx hb dX7_pressed_0 rfl (lv_at hl 0 rfl) ?_
  refine lv_aload_n hx hb dX7_pressed_1 rfl (lv_at hl 0 rfl) ?_
  refine va_get (D := D) (ci := 7) (v := .int M_has) (C := RX7) (T := TX7) (N := 33) hx hb hts n_X7_pressed_X7 hown hK hP 0 rfl rfl 3 (by decide) (hts _ w_X7_pressed_f201) (fun _ h9 => h9) rfl dX7_pressed_2 ?_
  refine lv_if_eq (tgt := 38) hx hb dX7_pressed_5 (by decide) (fun h_1 => ?_) (fun h_1 => ?_)
  · have hm := it_of hm h_1
    refine lv_iconst (v := (1 : Int32)) hx hb dX7_pressed_38 (by decide) ?_
    exact k_X7_pressed_39 C hA hK F v1 v2 (1 : Int32) M_thrown M_hand M_presses M_pressFrom M_pressTo _ _ _ hm hP hD hS (lv_sub hl [0, 1, 2] rfl)
  · have hm := ie_of hm h_1
    refine lv_iload_n hx hb dX7_pressed_8 rfl (lv_at hl 1 rfl) ?_
    refine lv_if_lt (tgt := 38) hx hb dX7_pressed_9 (by decide) (fun h_2 => ?_) (fun h_2 => ?_)
    · have hm := it_of hm h_2
      refine lv_iconst (v := (1 : Int32)) hx hb dX7_pressed_38 (by decide) ?_
      exact k_X7_pressed_39 C hA hK F v1 v2 (1 : Int32) M_thrown M_hand M_presses M_pressFrom M_pressTo _ _ _ hm hP hD hS (lv_sub hl [0, 1, 2] rfl)
    · have hm := ie_of hm h_2
      refine lv_iload_n hx hb dX7_pressed_12 rfl (lv_at hl 1 rfl) ?_
      refine lv_aload_n hx hb dX7_pressed_13 rfl (lv_at hl 0 rfl) ?_
      refine va_get (D := D) (ci := 7) (v := .ref (q 10)) (C := RX7) (T := TX7) (N := 33) hx hb hts n_X7_pressed_X7 hown hK hP 0 rfl rfl 13 (by decide) (hts _ w_X7_pressed_f38) (fun _ h9 => h9) rfl dX7_pressed_14 ?_
      refine lv_aload_n hx hb dX7_pressed_17 rfl (lv_at hl 0 rfl) ?_
      refine va_get (D := D) (ci := 7) (v := .int M_hand) (C := RX7) (T := TX7) (N := 33) hx hb hts n_X7_pressed_X7 hown hK hP 0 rfl rfl 4 (by decide) (hts _ w_X7_pressed_f195) (fun _ h9 => h9) rfl dX7_pressed_18 ?_
      obtain ⟨hg_3, hm⟩ := mg_of hm
      refine va_iald hx hb hK hP 10 0 rfl rfl hg_3 dX7_pressed_21 ?_
      refine lv_icmp_ge (tgt := 38) hx hb dX7_pressed_22 (by decide) (fun h_4 => ?_) (fun h_4 => ?_)
      · have hm := it_of hm h_4
        refine lv_iconst (v := (1 : Int32)) hx hb dX7_pressed_38 (by decide) ?_
        exact k_X7_pressed_39 C hA hK F v1 v2 (1 : Int32) M_thrown M_hand M_presses M_pressFrom M_pressTo _ _ _ hm hP hD hS (lv_sub hl [0, 1, 2] rfl)
      · have hm := ie_of hm h_4
        refine lv_iload_n hx hb dX7_pressed_25 rfl (lv_at hl 2 rfl) ?_
        refine lv_if_lt (tgt := 38) hx hb dX7_pressed_26 (by decide) (fun h_5 => ?_) (fun h_5 => ?_)
        · have hm := it_of hm h_5
          refine lv_iconst (v := (1 : Int32)) hx hb dX7_pressed_38 (by decide) ?_
          exact k_X7_pressed_39 C hA hK F v1 v2 (1 : Int32) M_thrown M_hand M_presses M_pressFrom M_pressTo _ _ _ hm hP hD hS (lv_sub hl [0, 1, 2] rfl)
        · have hm := ie_of hm h_5
          refine lv_iload_n hx hb dX7_pressed_29 rfl (lv_at hl 2 rfl) ?_
          refine lv_iconst (v := (3 : Int32)) hx hb dX7_pressed_30 (by decide) ?_
          refine lv_icmp_ge (tgt := 38) hx hb dX7_pressed_31 (by decide) (fun h_6 => ?_) (fun h_6 => ?_)
          · have hm := it_of hm h_6
            refine lv_iconst (v := (1 : Int32)) hx hb dX7_pressed_38 (by decide) ?_
            exact k_X7_pressed_39 C hA hK F v1 v2 (1 : Int32) M_thrown M_hand M_presses M_pressFrom M_pressTo _ _ _ hm hP hD hS (lv_sub hl [0, 1, 2] rfl)
          · have hm := ie_of hm h_6
            refine lv_iconst (v := (0 : Int32)) hx hb dX7_pressed_34 (by decide) ?_
            refine lv_goto (tgt := 39) hx hb dX7_pressed_35 (by decide) ?_
            exact k_X7_pressed_39 C hA hK F v1 v2 (0 : Int32) M_thrown M_hand M_presses M_pressFrom M_pressTo _ _ _ hm hP hD hS (lv_sub hl [0, 1, 2] rfl)
def g_X7_copperOf_2 (F : Nat) : Nat → Int32 → Int32 → Int32 → (Nat → Int32) → (Nat → Int32) → Option (Int32)
  | 0, _, _, _, _, _ => none
  | n + 1, v1, v2, M_hand, M_coppers, M_copperAt => mg (inb M_hand 2) ((if (M_coppers (M_hand).toNatClampNeg) ≤ v2 then some (-1 : Int32) else mg (inb (((32 : Int32) * M_hand) + v2) 64) ((if (M_copperAt ((((32 : Int32) * M_hand) + v2)).toNatClampNeg) = v1 then some v2 else mn (v2 + (1 : Int32)) (fun v2_5 => g_X7_copperOf_2 F n v1 v2_5 M_hand M_coppers M_copperAt)))))
theorem g_X7_copperOf_2_z (F : Nat) (v1 : Int32) (v2 : Int32) (M_hand : Int32) (M_coppers : Nat → Int32) (M_copperAt : Nat → Int32) : g_X7_copperOf_2 F 0 v1 v2 M_hand M_coppers M_copperAt = none := rfl
theorem g_X7_copperOf_2_s (F : Nat) (n : Nat) (v1 : Int32) (v2 : Int32) (M_hand : Int32) (M_coppers : Nat → Int32) (M_copperAt : Nat → Int32) : g_X7_copperOf_2 F (n + 1) v1 v2 M_hand M_coppers M_copperAt = mg (inb M_hand 2) ((if (M_coppers (M_hand).toNatClampNeg) ≤ v2 then some (-1 : Int32) else mg (inb (((32 : Int32) * M_hand) + v2) 64) ((if (M_copperAt ((((32 : Int32) * M_hand) + v2)).toNatClampNeg) = v1 then some v2 else mn (v2 + (1 : Int32)) (fun v2_5 => g_X7_copperOf_2 F n v1 v2_5 M_hand M_coppers M_copperAt))))) := rfl
def f_X7_copperOf (F : Nat) (v1 : Int32) (M_hand : Int32) (M_coppers : Nat → Int32) (M_copperAt : Nat → Int32) : Option (Int32) := g_X7_copperOf_2 F F v1 (0 : Int32) M_hand M_coppers M_copperAt
set_option maxRecDepth 20000 in
theorem n_X7_copperOf_X7 : ∀ w ∈ wsX70, w ∈ wsX7_copperOf := by decide +kernel
set_option maxRecDepth 20000 in
theorem w_X7_copperOf_f32 : Cond.fieldLink RX7 32 "LayerStacksModel" "coppers" "[I" ∈ wsX7_copperOf := by decide +kernel
set_option maxRecDepth 20000 in
theorem w_X7_copperOf_f195 : Cond.fieldLink RX7 195 "LayerStacksModel" "hand" "I" ∈ wsX7_copperOf := by decide +kernel
set_option maxRecDepth 20000 in
theorem w_X7_copperOf_f35 : Cond.fieldLink RX7 35 "LayerStacksModel" "copperAt" "[I" ∈ wsX7_copperOf := by decide +kernel
set_option maxHeartbeats 4000000 in
set_option maxRecDepth 100000 in
theorem k_X7_copperOf_2 {p : Program} {l : Launch} {e : Env} {s : State} {m : MethodId} {args : Array Value} {below : List Frame} {meth : Method} {c : Code} {D : va_G} {y : Nat → ClassId} {A : Nat → Prop} {q : Nat → Nat} {M_thrown : Int32} {M_text : Nat → Int32} {M_size : Int32} {M_has : Int32} {M_layers : Nat → Int32} {M_kinds : Nat → Int32} {M_names : Nat → Int64} {M_nameSizes : Nat → Int32} {M_thicknesses : Nat → Int64} {M_spreads : Nat → Int32} {M_presses : Nat → Int32} {M_pressFrom : Nat → Int32} {M_pressTo : Nat → Int32} {M_vias : Nat → Int32} {M_viaFrom : Nat → Int32} {M_viaTo : Nat → Int32} {M_shares : Nat → Int32} {M_lists : Int32} {M_hasRow : Nat → Int32} {M_rowLow : Nat → Int64} {M_rowHigh : Nat → Int64} {M_p : Int32} {M_s : Int32} {M_fault : Int32} {M_lines : Int32} {M_word : Int64} {M_wordSize : Int32} {M_out : Nat → Int32} {M_written : Int32} {M_secondOne : Int32} {z : Int32} (C : CX p s m args meth c wsX7_copperOf RX7 cX7_copperOf 3 (some .int)) (hA : ∀ q : Nat, s.heap.size ≤ q → A q) (hK : va_K D vwCl (tyl y) s) (F : Nat) :
    ∀ (n : Nat), ∀ (v1 : Int32) (v2 : Int32) (M_hand : Int32) (M_coppers : Nat → Int32) (M_copperAt : Nat → Int32) (H : Heap) (locs : List Loc) (ls : Array Slot), g_X7_copperOf_2 F n v1 v2 M_hand M_coppers M_copperAt = some z → va_P D vwCl (wdX7 q y M_thrown M_text M_size M_has M_hand M_layers M_kinds M_names M_nameSizes M_thicknesses M_spreads M_coppers M_copperAt M_presses M_pressFrom M_pressTo M_vias M_viaFrom M_viaTo M_shares M_lists M_hasRow M_rowLow M_rowHigh M_p M_s M_fault M_lines M_word M_wordSize M_out M_written M_secondOne) H → va_D A (wdX7 q y M_thrown M_text M_size M_has M_hand M_layers M_kinds M_names M_nameSizes M_thicknesses M_spreads M_coppers M_copperAt M_presses M_pressFrom M_pressTo M_vias M_viaFrom M_viaTo M_shares M_lists M_hasRow M_rowLow M_rowHigh M_p M_s M_fault M_lines M_word M_wordSize M_out M_written M_secondOne) → va_S A s.heap H locs → lv_has ls 3 [(0, .ref (q 0)), (1, .int v1), (2, .int v2)] → W p l e ({ frames := 0, cells := 0, slots := 0, locals := 0 } : Room) s m args below meth c H locs 0 0 (MQ below (QI D y A (z) (wdX7 q y M_thrown M_text M_size M_has M_hand M_layers M_kinds M_names M_nameSizes M_thicknesses M_spreads M_coppers M_copperAt M_presses M_pressFrom M_pressTo M_vias M_viaFrom M_viaTo M_shares M_lists M_hasRow M_rowLow M_rowHigh M_p M_s M_fault M_lines M_word M_wordSize M_out M_written M_secondOne)) args s 0 0 A) (F0 m 2 ls []) := by
  obtain ⟨⟨hx, hb, hml, hown, hts⟩, hr, hlocks⟩ := id C
  intro n
  induction n with
  | zero =>
    intro v1 v2 M_hand M_coppers M_copperAt H locs ls hm
    rw [g_X7_copperOf_2_z] at hm
    cases hm
  | succ n ih =>
    intro v1 v2 M_hand M_coppers M_copperAt H locs ls hm hP hD hS hl
    rw [g_X7_copperOf_2_s] at hm
    refine lv_iload_n hx hb dX7_copperOf_2 rfl (lv_at hl 2 rfl) ?_
    refine lv_aload_n hx hb dX7_copperOf_3 rfl (lv_at hl 0 rfl) ?_
    refine va_get (D := D) (ci := 7) (v := .ref (q 8)) (C := RX7) (T := TX7) (N := 33) hx hb hts n_X7_copperOf_X7 hown hK hP 0 rfl rfl 11 (by decide) (hts _ w_X7_copperOf_f32) (fun _ h9 => h9) rfl dX7_copperOf_4 ?_
    refine lv_aload_n hx hb dX7_copperOf_7 rfl (lv_at hl 0 rfl) ?_
    refine va_get (D := D) (ci := 7) (v := .int M_hand) (C := RX7) (T := TX7) (N := 33) hx hb hts n_X7_copperOf_X7 hown hK hP 0 rfl rfl 4 (by decide) (hts _ w_X7_copperOf_f195) (fun _ h9 => h9) rfl dX7_copperOf_8 ?_
    obtain ⟨hg_1, hm⟩ := mg_of hm
    refine va_iald hx hb hK hP 8 0 rfl rfl hg_1 dX7_copperOf_11 ?_
    refine lv_icmp_ge (tgt := 41) hx hb dX7_copperOf_12 (by decide) (fun h_2 => ?_) (fun h_2 => ?_)
    · have hm := it_of hm h_2
      refine lv_iconst (v := (-1 : Int32)) hx hb dX7_copperOf_41 (by decide) ?_
      have hz := Option.some.inj hm
      subst hz
      exact end_i C hK hP hD hS dX7_copperOf_42
    · have hm := ie_of hm h_2
      refine lv_aload_n hx hb dX7_copperOf_15 rfl (lv_at hl 0 rfl) ?_
      refine va_get (D := D) (ci := 7) (v := .ref (q 9)) (C := RX7) (T := TX7) (N := 33) hx hb hts n_X7_copperOf_X7 hown hK hP 0 rfl rfl 12 (by decide) (hts _ w_X7_copperOf_f35) (fun _ h9 => h9) rfl dX7_copperOf_16 ?_
      refine lv_bipush (v := (32 : Int32)) hx hb dX7_copperOf_19 (by decide) ?_
      refine lv_aload_n hx hb dX7_copperOf_21 rfl (lv_at hl 0 rfl) ?_
      refine va_get (D := D) (ci := 7) (v := .int M_hand) (C := RX7) (T := TX7) (N := 33) hx hb hts n_X7_copperOf_X7 hown hK hP 0 rfl rfl 4 (by decide) (hts _ w_X7_copperOf_f195) (fun _ h9 => h9) rfl dX7_copperOf_22 ?_
      refine lv_imul hx hb dX7_copperOf_25 ?_
      refine lv_iload_n hx hb dX7_copperOf_26 rfl (lv_at hl 2 rfl) ?_
      refine lv_iadd hx hb dX7_copperOf_27 ?_
      obtain ⟨hg_3, hm⟩ := mg_of hm
      refine va_iald hx hb hK hP 9 0 rfl rfl hg_3 dX7_copperOf_28 ?_
      refine lv_iload_n hx hb dX7_copperOf_29 rfl (lv_at hl 1 rfl) ?_
      refine lv_icmp_ne (tgt := 35) hx hb dX7_copperOf_30 (by decide) (fun h_4 => ?_) (fun h_4 => ?_)
      · have hm := ie_of hm h_4
        obtain ⟨v2_5, ev2_5⟩ : ∃ y9 : Int32, y9 = (v2 + (1 : Int32)) := ⟨_, rfl⟩
        have hm := mn_of ev2_5 hm
        refine lv_iinc (v := v2_5) (lv' := [(2, .int v2_5), (0, .ref (q 0)), (1, .int v1)]) hx hb dX7_copperOf_35 hl (k := 2) rfl (by rw [ev2_5]; rfl) (by decide) rfl (fun ls hl => ?_)
        refine lv_goto (tgt := 2) hx hb dX7_copperOf_38 (by decide) ?_
        exact ih v1 v2_5 M_hand M_coppers M_copperAt _ _ _ hm hP hD hS (lv_sub hl [1, 2, 0] rfl)
      · have hm := it_of hm h_4
        refine lv_iload_n hx hb dX7_copperOf_33 rfl (lv_at hl 2 rfl) ?_
        have hz := Option.some.inj hm
        subst hz
        exact end_i C hK hP hD hS dX7_copperOf_34
set_option maxHeartbeats 4000000 in
set_option maxRecDepth 100000 in
theorem c_X7_copperOf (l : Launch) (D : va_G) (y : Nat → ClassId) (q : Nat → Nat) (sz : Nat) (F : Nat) {v1 : Int32} {M_thrown : Int32} {M_text : Nat → Int32} {M_size : Int32} {M_has : Int32} {M_hand : Int32} {M_layers : Nat → Int32} {M_kinds : Nat → Int32} {M_names : Nat → Int64} {M_nameSizes : Nat → Int32} {M_thicknesses : Nat → Int64} {M_spreads : Nat → Int32} {M_coppers : Nat → Int32} {M_copperAt : Nat → Int32} {M_presses : Nat → Int32} {M_pressFrom : Nat → Int32} {M_pressTo : Nat → Int32} {M_vias : Nat → Int32} {M_viaFrom : Nat → Int32} {M_viaTo : Nat → Int32} {M_shares : Nat → Int32} {M_lists : Int32} {M_hasRow : Nat → Int32} {M_rowLow : Nat → Int64} {M_rowHigh : Nat → Int64} {M_p : Int32} {M_s : Int32} {M_fault : Int32} {M_lines : Int32} {M_word : Int64} {M_wordSize : Int32} {M_out : Nat → Int32} {M_written : Int32} {M_secondOne : Int32} {z : Int32} (hm : f_X7_copperOf F v1 M_hand M_coppers M_copperAt = some z) : Met l yX7_copperOf wsX7_copperOf ({ frames := 0, cells := 0, slots := 0, locals := 0 } : Room) (va_Pc [.ref (q 0), .int v1] (cP D y (wdX7 q y M_thrown M_text M_size M_has M_hand M_layers M_kinds M_names M_nameSizes M_thicknesses M_spreads M_coppers M_copperAt M_presses M_pressFrom M_pressTo M_vias M_viaFrom M_viaTo M_shares M_lists M_hasRow M_rowLow M_rowHigh M_p M_s M_fault M_lines M_word M_wordSize M_out M_written M_secondOne) sz)) (QI D y (va_A (wdX7 q y M_thrown M_text M_size M_has M_hand M_layers M_kinds M_names M_nameSizes M_thicknesses M_spreads M_coppers M_copperAt M_presses M_pressFrom M_pressTo M_vias M_viaFrom M_viaTo M_shares M_lists M_hasRow M_rowLow M_rowHigh M_p M_s M_fault M_lines M_word M_wordSize M_out M_written M_secondOne) sz) (z) (wdX7 q y M_thrown M_text M_size M_has M_hand M_layers M_kinds M_names M_nameSizes M_thicknesses M_spreads M_coppers M_copperAt M_presses M_pressFrom M_pressTo M_vias M_viaFrom M_viaTo M_shares M_lists M_hasRow M_rowLow M_rowHigh M_p M_s M_fault M_lines M_word M_wordSize M_out M_written M_secondOne)) 0 0 (va_A (wdX7 q y M_thrown M_text M_size M_has M_hand M_layers M_kinds M_names M_nameSizes M_thicknesses M_spreads M_coppers M_copperAt M_presses M_pressFrom M_pressTo M_vias M_viaFrom M_viaTo M_shares M_lists M_hasRow M_rowLow M_rowHigh M_p M_s M_fault M_lines M_word M_wordSize M_out M_written M_secondOne) sz) := by
  refine met_of (own := RX7) (cc := cX7_copperOf) (maxL := 3) (ret := (some .int)) (by decide) rfl rfl (Nat.le_of_ble_eq_true rfl) ?_
  intro p e s m below meth c ls C hsz hK hP hD hA hS hl
  obtain ⟨⟨hx, hb, hml, hown, hts⟩, hr, hlocks⟩ := id C
  have hl : lv_has ls 3 [(0, .ref (q 0)), (1, .int v1)] := hl
  generalize va_A (wdX7 q y M_thrown M_text M_size M_has M_hand M_layers M_kinds M_names M_nameSizes M_thicknesses M_spreads M_coppers M_copperAt M_presses M_pressFrom M_pressTo M_vias M_viaFrom M_viaTo M_shares M_lists M_hasRow M_rowLow M_rowHigh M_p M_s M_fault M_lines M_word M_wordSize M_out M_written M_secondOne) sz = A at hD hA hS ⊢
  generalize ([.ref (q 0), .int v1] : List Value).toArray = args at C hts ⊢
  unfold f_X7_copperOf at hm
  refine lv_iconst (v := (0 : Int32)) hx hb dX7_copperOf_0 (by decide) ?_
  refine lv_istore_n (lv' := [(2, .int (0 : Int32)), (0, .ref (q 0)), (1, .int v1)]) hx hb dX7_copperOf_1 rfl hl (by decide) rfl (fun ls hl => ?_)
  exact k_X7_copperOf_2 C hA hK F F v1 (0 : Int32) M_hand M_coppers M_copperAt _ _ _ hm hP hD hS (lv_sub hl [1, 2, 0] rfl)
def f_X7_isSkew (F : Nat) (v1 : Int32) (M_hand : Int32) (M_layers : Nat → Int32) (M_kinds : Nat → Int32) (M_names : Nat → Int64) (M_nameSizes : Nat → Int32) (M_thicknesses : Nat → Int64) (M_spreads : Nat → Int32) (M_coppers : Nat → Int32) (M_copperAt : Nat → Int32) (M_shares : Nat → Int32) : Option (Int32) := mg (inb M_hand 2) (mn (((M_layers (M_hand).toNatClampNeg) - (1 : Int32)) - v1) (fun v2_2 => mn (((80 : Int32) * M_hand) + v1) (fun v3_3 => mn (((80 : Int32) * M_hand) + v2_2) (fun v4_4 => mg (inb v3_3 160) (mg (inb v4_4 160) ((if (M_kinds (v3_3).toNatClampNeg) = (M_kinds (v4_4).toNatClampNeg) then mg (inb v3_3 160) (mg (inb v4_4 160) ((if (lg_cmp (M_thicknesses (v3_3).toNatClampNeg) (M_thicknesses (v4_4).toNatClampNeg)) = 0 then mg (inb v3_3 160) (mg (inb v4_4 160) ((if (M_spreads (v3_3).toNatClampNeg) = (M_spreads (v4_4).toNatClampNeg) then mg (inb v3_3 160) ((if (M_kinds (v3_3).toNatClampNeg) = 0 then mb1 (f_X7_copperOf F v1 M_hand M_coppers M_copperAt) (fun r_22 => mg (inb r_22 32) (mb1 (f_X7_copperOf F v2_2 M_hand M_coppers M_copperAt) (fun r_25 => mg (inb r_25 32) ((if (M_shares (r_22).toNatClampNeg) = (M_shares (r_25).toNatClampNeg) then some (0 : Int32) else some (1 : Int32)))))) else mg (inb v3_3 160) (mg (inb v4_4 160) ((if (lg_cmp (M_names (v3_3).toNatClampNeg) (M_names (v4_4).toNatClampNeg)) = 0 then mg (inb v3_3 160) (mg (inb v4_4 160) ((if (M_nameSizes (v3_3).toNatClampNeg) = (M_nameSizes (v4_4).toNatClampNeg) then some (0 : Int32) else some (1 : Int32)))) else some (1 : Int32)))))) else some (1 : Int32)))) else some (1 : Int32)))) else some (1 : Int32))))))))
set_option maxRecDepth 20000 in
theorem n_X7_isSkew_X7 : ∀ w ∈ wsX70, w ∈ wsX7_isSkew := by decide +kernel
set_option maxRecDepth 20000 in
theorem w_X7_isSkew_f13 : Cond.fieldLink RX7 13 "LayerStacksModel" "layers" "[I" ∈ wsX7_isSkew := by decide +kernel
set_option maxRecDepth 20000 in
theorem w_X7_isSkew_f195 : Cond.fieldLink RX7 195 "LayerStacksModel" "hand" "I" ∈ wsX7_isSkew := by decide +kernel
set_option maxRecDepth 20000 in
theorem w_X7_isSkew_f16 : Cond.fieldLink RX7 16 "LayerStacksModel" "kinds" "[I" ∈ wsX7_isSkew := by decide +kernel
set_option maxRecDepth 20000 in
theorem w_X7_isSkew_f26 : Cond.fieldLink RX7 26 "LayerStacksModel" "thicknesses" "[J" ∈ wsX7_isSkew := by decide +kernel
set_option maxRecDepth 20000 in
theorem w_X7_isSkew_f29 : Cond.fieldLink RX7 29 "LayerStacksModel" "spreads" "[I" ∈ wsX7_isSkew := by decide +kernel
set_option maxRecDepth 20000 in
theorem w_X7_isSkew_f19 : Cond.fieldLink RX7 19 "LayerStacksModel" "names" "[J" ∈ wsX7_isSkew := by decide +kernel
set_option maxRecDepth 20000 in
theorem w_X7_isSkew_f23 : Cond.fieldLink RX7 23 "LayerStacksModel" "nameSizes" "[I" ∈ wsX7_isSkew := by decide +kernel
set_option maxRecDepth 20000 in
theorem w_X7_isSkew_f56 : Cond.fieldLink RX7 56 "LayerStacksModel" "shares" "[I" ∈ wsX7_isSkew := by decide +kernel
set_option maxHeartbeats 4000000 in
set_option maxRecDepth 100000 in
theorem c_X7_isSkew (l : Launch) (D : va_G) (y : Nat → ClassId) (q : Nat → Nat) (sz : Nat) (F : Nat) {v1 : Int32} {M_thrown : Int32} {M_text : Nat → Int32} {M_size : Int32} {M_has : Int32} {M_hand : Int32} {M_layers : Nat → Int32} {M_kinds : Nat → Int32} {M_names : Nat → Int64} {M_nameSizes : Nat → Int32} {M_thicknesses : Nat → Int64} {M_spreads : Nat → Int32} {M_coppers : Nat → Int32} {M_copperAt : Nat → Int32} {M_presses : Nat → Int32} {M_pressFrom : Nat → Int32} {M_pressTo : Nat → Int32} {M_vias : Nat → Int32} {M_viaFrom : Nat → Int32} {M_viaTo : Nat → Int32} {M_shares : Nat → Int32} {M_lists : Int32} {M_hasRow : Nat → Int32} {M_rowLow : Nat → Int64} {M_rowHigh : Nat → Int64} {M_p : Int32} {M_s : Int32} {M_fault : Int32} {M_lines : Int32} {M_word : Int64} {M_wordSize : Int32} {M_out : Nat → Int32} {M_written : Int32} {M_secondOne : Int32} {z : Int32} (hm : f_X7_isSkew F v1 M_hand M_layers M_kinds M_names M_nameSizes M_thicknesses M_spreads M_coppers M_copperAt M_shares = some z) : Met l yX7_isSkew wsX7_isSkew ({ frames := 1, cells := 0, slots := 0, locals := 22 } : Room) (va_Pc [.ref (q 0), .int v1] (cP D y (wdX7 q y M_thrown M_text M_size M_has M_hand M_layers M_kinds M_names M_nameSizes M_thicknesses M_spreads M_coppers M_copperAt M_presses M_pressFrom M_pressTo M_vias M_viaFrom M_viaTo M_shares M_lists M_hasRow M_rowLow M_rowHigh M_p M_s M_fault M_lines M_word M_wordSize M_out M_written M_secondOne) sz)) (QI D y (va_A (wdX7 q y M_thrown M_text M_size M_has M_hand M_layers M_kinds M_names M_nameSizes M_thicknesses M_spreads M_coppers M_copperAt M_presses M_pressFrom M_pressTo M_vias M_viaFrom M_viaTo M_shares M_lists M_hasRow M_rowLow M_rowHigh M_p M_s M_fault M_lines M_word M_wordSize M_out M_written M_secondOne) sz) (z) (wdX7 q y M_thrown M_text M_size M_has M_hand M_layers M_kinds M_names M_nameSizes M_thicknesses M_spreads M_coppers M_copperAt M_presses M_pressFrom M_pressTo M_vias M_viaFrom M_viaTo M_shares M_lists M_hasRow M_rowLow M_rowHigh M_p M_s M_fault M_lines M_word M_wordSize M_out M_written M_secondOne)) 0 0 (va_A (wdX7 q y M_thrown M_text M_size M_has M_hand M_layers M_kinds M_names M_nameSizes M_thicknesses M_spreads M_coppers M_copperAt M_presses M_pressFrom M_pressTo M_vias M_viaFrom M_viaTo M_shares M_lists M_hasRow M_rowLow M_rowHigh M_p M_s M_fault M_lines M_word M_wordSize M_out M_written M_secondOne) sz) := by
  refine met_of (own := RX7) (cc := cX7_isSkew) (maxL := 5) (ret := (some .boolean)) (by decide) rfl rfl (Nat.le_of_ble_eq_true rfl) ?_
  intro p e s m below meth c ls C hsz hK hP hD hA hS hl
  obtain ⟨⟨hx, hb, hml, hown, hts⟩, hr, hlocks⟩ := id C
  have hl : lv_has ls 5 [(0, .ref (q 0)), (1, .int v1)] := hl
  generalize va_A (wdX7 q y M_thrown M_text M_size M_has M_hand M_layers M_kinds M_names M_nameSizes M_thicknesses M_spreads M_coppers M_copperAt M_presses M_pressFrom M_pressTo M_vias M_viaFrom M_viaTo M_shares M_lists M_hasRow M_rowLow M_rowHigh M_p M_s M_fault M_lines M_word M_wordSize M_out M_written M_secondOne) sz = A at hD hA hS ⊢
  generalize ([.ref (q 0), .int v1] : List Value).toArray = args at C hts ⊢
  unfold f_X7_isSkew at hm
  refine lv_aload_n hx hb dX7_isSkew_0 rfl (lv_at hl 0 rfl) ?_
  refine va_get (D := D) (ci := 7) (v := .ref (q 2)) (C := RX7) (T := TX7) (N := 33) hx hb hts n_X7_isSkew_X7 hown hK hP 0 rfl rfl 5 (by decide) (hts _ w_X7_isSkew_f13) (fun _ h9 => h9) rfl dX7_isSkew_1 ?_
  refine lv_aload_n hx hb dX7_isSkew_4 rfl (lv_at hl 0 rfl) ?_
  refine va_get (D := D) (ci := 7) (v := .int M_hand) (C := RX7) (T := TX7) (N := 33) hx hb hts n_X7_isSkew_X7 hown hK hP 0 rfl rfl 4 (by decide) (hts _ w_X7_isSkew_f195) (fun _ h9 => h9) rfl dX7_isSkew_5 ?_
  obtain ⟨hg_1, hm⟩ := mg_of hm
  refine va_iald hx hb hK hP 2 0 rfl rfl hg_1 dX7_isSkew_8 ?_
  refine lv_iconst (v := (1 : Int32)) hx hb dX7_isSkew_9 (by decide) ?_
  refine lv_isub hx hb dX7_isSkew_10 ?_
  refine lv_iload_n hx hb dX7_isSkew_11 rfl (lv_at hl 1 rfl) ?_
  refine lv_isub hx hb dX7_isSkew_12 ?_
  refine lv_topi (fun v2_2 ev2_2 => ?_)
  have hm := mn_of ev2_2 hm
  refine lv_istore_n (lv' := [(2, .int v2_2), (0, .ref (q 0)), (1, .int v1)]) hx hb dX7_isSkew_13 rfl hl (by decide) rfl (fun ls hl => ?_)
  refine lv_bipush (v := (80 : Int32)) hx hb dX7_isSkew_14 (by decide) ?_
  refine lv_aload_n hx hb dX7_isSkew_16 rfl (lv_at hl 1 rfl) ?_
  refine va_get (D := D) (ci := 7) (v := .int M_hand) (C := RX7) (T := TX7) (N := 33) hx hb hts n_X7_isSkew_X7 hown hK hP 0 rfl rfl 4 (by decide) (hts _ w_X7_isSkew_f195) (fun _ h9 => h9) rfl dX7_isSkew_17 ?_
  refine lv_imul hx hb dX7_isSkew_20 ?_
  refine lv_iload_n hx hb dX7_isSkew_21 rfl (lv_at hl 2 rfl) ?_
  refine lv_iadd hx hb dX7_isSkew_22 ?_
  refine lv_topi (fun v3_3 ev3_3 => ?_)
  have hm := mn_of ev3_3 hm
  refine lv_istore_n (lv' := [(3, .int v3_3), (2, .int v2_2), (0, .ref (q 0)), (1, .int v1)]) hx hb dX7_isSkew_23 rfl hl (by decide) rfl (fun ls hl => ?_)
  refine lv_bipush (v := (80 : Int32)) hx hb dX7_isSkew_24 (by decide) ?_
  refine lv_aload_n hx hb dX7_isSkew_26 rfl (lv_at hl 2 rfl) ?_
  refine va_get (D := D) (ci := 7) (v := .int M_hand) (C := RX7) (T := TX7) (N := 33) hx hb hts n_X7_isSkew_X7 hown hK hP 0 rfl rfl 4 (by decide) (hts _ w_X7_isSkew_f195) (fun _ h9 => h9) rfl dX7_isSkew_27 ?_
  refine lv_imul hx hb dX7_isSkew_30 ?_
  refine lv_iload_n hx hb dX7_isSkew_31 rfl (lv_at hl 1 rfl) ?_
  refine lv_iadd hx hb dX7_isSkew_32 ?_
  refine lv_topi (fun v4_4 ev4_4 => ?_)
  have hm := mn_of ev4_4 hm
  refine lv_istore (lv' := [(4, .int v4_4), (3, .int v3_3), (2, .int v2_2), (0, .ref (q 0)), (1, .int v1)]) hx hb dX7_isSkew_33 hl (by decide) rfl (fun ls hl => ?_)
  refine lv_aload_n hx hb dX7_isSkew_35 rfl (lv_at hl 3 rfl) ?_
  refine va_get (D := D) (ci := 7) (v := .ref (q 3)) (C := RX7) (T := TX7) (N := 33) hx hb hts n_X7_isSkew_X7 hown hK hP 0 rfl rfl 6 (by decide) (hts _ w_X7_isSkew_f16) (fun _ h9 => h9) rfl dX7_isSkew_36 ?_
  refine lv_iload_n hx hb dX7_isSkew_39 rfl (lv_at hl 1 rfl) ?_
  obtain ⟨hg_5, hm⟩ := mg_of hm
  refine va_iald hx hb hK hP 3 0 rfl rfl hg_5 dX7_isSkew_40 ?_
  refine lv_aload_n hx hb dX7_isSkew_41 rfl (lv_at hl 3 rfl) ?_
  refine va_get (D := D) (ci := 7) (v := .ref (q 3)) (C := RX7) (T := TX7) (N := 33) hx hb hts n_X7_isSkew_X7 hown hK hP 0 rfl rfl 6 (by decide) (hts _ w_X7_isSkew_f16) (fun _ h9 => h9) rfl dX7_isSkew_42 ?_
  refine lv_iload hx hb dX7_isSkew_45 (lv_at hl 0 rfl) ?_
  obtain ⟨hg_6, hm⟩ := mg_of hm
  refine va_iald hx hb hK hP 3 0 rfl rfl hg_6 dX7_isSkew_47 ?_
  refine lv_icmp_ne (tgt := 84) hx hb dX7_isSkew_48 (by decide) (fun h_7 => ?_) (fun h_7 => ?_)
  · have hm := ie_of hm h_7
    refine lv_iconst (v := (1 : Int32)) hx hb dX7_isSkew_84 (by decide) ?_
    have hz := Option.some.inj hm
    subst hz
    exact end_z C hK hP hD hS (show vp_nar .boolean (1 : Int32) = (1 : Int32) from by decide) dX7_isSkew_85
  · have hm := it_of hm h_7
    refine lv_aload_n hx hb dX7_isSkew_51 rfl (lv_at hl 3 rfl) ?_
    refine va_get (D := D) (ci := 7) (v := .ref (q 6)) (C := RX7) (T := TX7) (N := 33) hx hb hts n_X7_isSkew_X7 hown hK hP 0 rfl rfl 9 (by decide) (hts _ w_X7_isSkew_f26) (fun _ h9 => h9) rfl dX7_isSkew_52 ?_
    refine lv_iload_n hx hb dX7_isSkew_55 rfl (lv_at hl 1 rfl) ?_
    obtain ⟨hg_8, hm⟩ := mg_of hm
    refine va_lald hx hb hK hP 6 1 rfl rfl hg_8 dX7_isSkew_56 ?_
    refine lv_aload_n hx hb dX7_isSkew_57 rfl (lv_at hl 3 rfl) ?_
    refine va_get (D := D) (ci := 7) (v := .ref (q 6)) (C := RX7) (T := TX7) (N := 33) hx hb hts n_X7_isSkew_X7 hown hK hP 0 rfl rfl 9 (by decide) (hts _ w_X7_isSkew_f26) (fun _ h9 => h9) rfl dX7_isSkew_58 ?_
    refine lv_iload hx hb dX7_isSkew_61 (lv_at hl 0 rfl) ?_
    obtain ⟨hg_9, hm⟩ := mg_of hm
    refine va_lald hx hb hK hP 6 1 rfl rfl hg_9 dX7_isSkew_63 ?_
    refine W.lcmp hx hb dX7_isSkew_64 ?_
    refine lv_if_ne (tgt := 84) hx hb dX7_isSkew_65 (by decide) (fun h_10 => ?_) (fun h_10 => ?_)
    · have hm := ie_of hm h_10
      refine lv_iconst (v := (1 : Int32)) hx hb dX7_isSkew_84 (by decide) ?_
      have hz := Option.some.inj hm
      subst hz
      exact end_z C hK hP hD hS (show vp_nar .boolean (1 : Int32) = (1 : Int32) from by decide) dX7_isSkew_85
    · have hm := it_of hm h_10
      refine lv_aload_n hx hb dX7_isSkew_68 rfl (lv_at hl 3 rfl) ?_
      refine va_get (D := D) (ci := 7) (v := .ref (q 7)) (C := RX7) (T := TX7) (N := 33) hx hb hts n_X7_isSkew_X7 hown hK hP 0 rfl rfl 10 (by decide) (hts _ w_X7_isSkew_f29) (fun _ h9 => h9) rfl dX7_isSkew_69 ?_
      refine lv_iload_n hx hb dX7_isSkew_72 rfl (lv_at hl 1 rfl) ?_
      obtain ⟨hg_11, hm⟩ := mg_of hm
      refine va_iald hx hb hK hP 7 0 rfl rfl hg_11 dX7_isSkew_73 ?_
      refine lv_aload_n hx hb dX7_isSkew_74 rfl (lv_at hl 3 rfl) ?_
      refine va_get (D := D) (ci := 7) (v := .ref (q 7)) (C := RX7) (T := TX7) (N := 33) hx hb hts n_X7_isSkew_X7 hown hK hP 0 rfl rfl 10 (by decide) (hts _ w_X7_isSkew_f29) (fun _ h9 => h9) rfl dX7_isSkew_75 ?_
      refine lv_iload hx hb dX7_isSkew_78 (lv_at hl 0 rfl) ?_
      obtain ⟨hg_12, hm⟩ := mg_of hm
      refine va_iald hx hb hK hP 7 0 rfl rfl hg_12 dX7_isSkew_80 ?_
      refine lv_icmp_eq (tgt := 86) hx hb dX7_isSkew_81 (by decide) (fun h_13 => ?_) (fun h_13 => ?_)
      · have hm := it_of hm h_13
        refine lv_aload_n hx hb dX7_isSkew_86 rfl (lv_at hl 3 rfl) ?_
        refine va_get (D := D) (ci := 7) (v := .ref (q 3)) (C := RX7) (T := TX7) (N := 33) hx hb hts n_X7_isSkew_X7 hown hK hP 0 rfl rfl 6 (by decide) (hts _ w_X7_isSkew_f16) (fun _ h9 => h9) rfl dX7_isSkew_87 ?_
        refine lv_iload_n hx hb dX7_isSkew_90 rfl (lv_at hl 1 rfl) ?_
        obtain ⟨hg_14, hm⟩ := mg_of hm
        refine va_iald hx hb hK hP 3 0 rfl rfl hg_14 dX7_isSkew_91 ?_
        refine lv_if_ne (tgt := 124) hx hb dX7_isSkew_92 (by decide) (fun h_15 => ?_) (fun h_15 => ?_)
        · have hm := ie_of hm h_15
          refine lv_aload_n hx hb dX7_isSkew_124 rfl (lv_at hl 3 rfl) ?_
          refine va_get (D := D) (ci := 7) (v := .ref (q 4)) (C := RX7) (T := TX7) (N := 33) hx hb hts n_X7_isSkew_X7 hown hK hP 0 rfl rfl 7 (by decide) (hts _ w_X7_isSkew_f19) (fun _ h9 => h9) rfl dX7_isSkew_125 ?_
          refine lv_iload_n hx hb dX7_isSkew_128 rfl (lv_at hl 1 rfl) ?_
          obtain ⟨hg_16, hm⟩ := mg_of hm
          refine va_lald hx hb hK hP 4 1 rfl rfl hg_16 dX7_isSkew_129 ?_
          refine lv_aload_n hx hb dX7_isSkew_130 rfl (lv_at hl 3 rfl) ?_
          refine va_get (D := D) (ci := 7) (v := .ref (q 4)) (C := RX7) (T := TX7) (N := 33) hx hb hts n_X7_isSkew_X7 hown hK hP 0 rfl rfl 7 (by decide) (hts _ w_X7_isSkew_f19) (fun _ h9 => h9) rfl dX7_isSkew_131 ?_
          refine lv_iload hx hb dX7_isSkew_134 (lv_at hl 0 rfl) ?_
          obtain ⟨hg_17, hm⟩ := mg_of hm
          refine va_lald hx hb hK hP 4 1 rfl rfl hg_17 dX7_isSkew_136 ?_
          refine W.lcmp hx hb dX7_isSkew_137 ?_
          refine lv_if_ne (tgt := 157) hx hb dX7_isSkew_138 (by decide) (fun h_18 => ?_) (fun h_18 => ?_)
          · have hm := ie_of hm h_18
            refine lv_iconst (v := (1 : Int32)) hx hb dX7_isSkew_157 (by decide) ?_
            refine lv_goto (tgt := 162) hx hb dX7_isSkew_158 (by decide) ?_
            have hz := Option.some.inj hm
            subst hz
            exact end_z C hK hP hD hS (show vp_nar .boolean (1 : Int32) = (1 : Int32) from by decide) dX7_isSkew_162
          · have hm := it_of hm h_18
            refine lv_aload_n hx hb dX7_isSkew_141 rfl (lv_at hl 3 rfl) ?_
            refine va_get (D := D) (ci := 7) (v := .ref (q 5)) (C := RX7) (T := TX7) (N := 33) hx hb hts n_X7_isSkew_X7 hown hK hP 0 rfl rfl 8 (by decide) (hts _ w_X7_isSkew_f23) (fun _ h9 => h9) rfl dX7_isSkew_142 ?_
            refine lv_iload_n hx hb dX7_isSkew_145 rfl (lv_at hl 1 rfl) ?_
            obtain ⟨hg_19, hm⟩ := mg_of hm
            refine va_iald hx hb hK hP 5 0 rfl rfl hg_19 dX7_isSkew_146 ?_
            refine lv_aload_n hx hb dX7_isSkew_147 rfl (lv_at hl 3 rfl) ?_
            refine va_get (D := D) (ci := 7) (v := .ref (q 5)) (C := RX7) (T := TX7) (N := 33) hx hb hts n_X7_isSkew_X7 hown hK hP 0 rfl rfl 8 (by decide) (hts _ w_X7_isSkew_f23) (fun _ h9 => h9) rfl dX7_isSkew_148 ?_
            refine lv_iload hx hb dX7_isSkew_151 (lv_at hl 0 rfl) ?_
            obtain ⟨hg_20, hm⟩ := mg_of hm
            refine va_iald hx hb hK hP 5 0 rfl rfl hg_20 dX7_isSkew_153 ?_
            refine lv_icmp_eq (tgt := 161) hx hb dX7_isSkew_154 (by decide) (fun h_21 => ?_) (fun h_21 => ?_)
            · have hm := it_of hm h_21
              refine lv_iconst (v := (0 : Int32)) hx hb dX7_isSkew_161 (by decide) ?_
              have hz := Option.some.inj hm
              subst hz
              exact end_z C hK hP hD hS (show vp_nar .boolean (0 : Int32) = (0 : Int32) from by decide) dX7_isSkew_162
            · have hm := ie_of hm h_21
              refine lv_iconst (v := (1 : Int32)) hx hb dX7_isSkew_157 (by decide) ?_
              refine lv_goto (tgt := 162) hx hb dX7_isSkew_158 (by decide) ?_
              have hz := Option.some.inj hm
              subst hz
              exact end_z C hK hP hD hS (show vp_nar .boolean (1 : Int32) = (1 : Int32) from by decide) dX7_isSkew_162
        · have hm := it_of hm h_15
          refine lv_aload_n hx hb dX7_isSkew_95 rfl (lv_at hl 3 rfl) ?_
          refine va_get (D := D) (ci := 7) (v := .ref (q 16)) (C := RX7) (T := TX7) (N := 33) hx hb hts n_X7_isSkew_X7 hown hK hP 0 rfl rfl 19 (by decide) (hts _ w_X7_isSkew_f56) (fun _ h9 => h9) rfl dX7_isSkew_96 ?_
          refine lv_aload_n hx hb dX7_isSkew_99 rfl (lv_at hl 3 rfl) ?_
          refine lv_iload_n hx hb dX7_isSkew_100 rfl (lv_at hl 4 rfl) ?_
          obtain ⟨r_22, hc_23, hm⟩ := mb1_of hm
          refine call_vi (wc := (wdX7 q y M_thrown M_text M_size M_has M_hand M_layers M_kinds M_names M_nameSizes M_thicknesses M_spreads M_coppers M_copperAt M_presses M_pressFrom M_pressTo M_vias M_viaFrom M_viaTo M_shares M_lists M_hasRow M_rowLow M_rowHigh M_p M_s M_fault M_lines M_word M_wordSize M_out M_written M_secondOne)) (wr := []) (As := [.int v1]) (rest := [.ref (q 16)]) C (c_X7_copperOf l D y q _ F hc_23) (cwV 1 hts gX7_isSkew_X7_copperOf rfl rfl rfl (by decide +kernel) ⟨Nat.le_of_ble_eq_true rfl, Nat.le_of_ble_eq_true rfl⟩) hK hP hD hS hA [0, 1, 2, 3, 4, 5, 6, 7, 8, 9, 10, 11, 12, 13, 14, 15, 16, 17, 18, 19, 20] [] rfl rfl rfl rfl rfl (by decide) rfl rfl rfl rfl hl.1 (Nat.le_of_ble_eq_true rfl) dX7_isSkew_101 (fun H locs hP hD hS => ?_)
          have hP : va_P D vwCl (wdX7 q y M_thrown M_text M_size M_has M_hand M_layers M_kinds M_names M_nameSizes M_thicknesses M_spreads M_coppers M_copperAt M_presses M_pressFrom M_pressTo M_vias M_viaFrom M_viaTo M_shares M_lists M_hasRow M_rowLow M_rowHigh M_p M_s M_fault M_lines M_word M_wordSize M_out M_written M_secondOne) H := hP
          have hD : va_D A (wdX7 q y M_thrown M_text M_size M_has M_hand M_layers M_kinds M_names M_nameSizes M_thicknesses M_spreads M_coppers M_copperAt M_presses M_pressFrom M_pressTo M_vias M_viaFrom M_viaTo M_shares M_lists M_hasRow M_rowLow M_rowHigh M_p M_s M_fault M_lines M_word M_wordSize M_out M_written M_secondOne) := hD
          obtain ⟨hg_24, hm⟩ := mg_of hm
          refine va_iald hx hb hK hP 16 0 rfl rfl hg_24 dX7_isSkew_104 ?_
          refine lv_aload_n hx hb dX7_isSkew_105 rfl (lv_at hl 3 rfl) ?_
          refine va_get (D := D) (ci := 7) (v := .ref (q 16)) (C := RX7) (T := TX7) (N := 33) hx hb hts n_X7_isSkew_X7 hown hK hP 0 rfl rfl 19 (by decide) (hts _ w_X7_isSkew_f56) (fun _ h9 => h9) rfl dX7_isSkew_106 ?_
          refine lv_aload_n hx hb dX7_isSkew_109 rfl (lv_at hl 3 rfl) ?_
          refine lv_iload_n hx hb dX7_isSkew_110 rfl (lv_at hl 2 rfl) ?_
          obtain ⟨r_25, hc_26, hm⟩ := mb1_of hm
          refine call_vi (wc := (wdX7 q y M_thrown M_text M_size M_has M_hand M_layers M_kinds M_names M_nameSizes M_thicknesses M_spreads M_coppers M_copperAt M_presses M_pressFrom M_pressTo M_vias M_viaFrom M_viaTo M_shares M_lists M_hasRow M_rowLow M_rowHigh M_p M_s M_fault M_lines M_word M_wordSize M_out M_written M_secondOne)) (wr := []) (As := [.int v2_2]) (rest := [.ref (q 16), .int (M_shares (r_22).toNatClampNeg)]) C (c_X7_copperOf l D y q _ F hc_26) (cwV 1 hts gX7_isSkew_X7_copperOf rfl rfl rfl (by decide +kernel) ⟨Nat.le_of_ble_eq_true rfl, Nat.le_of_ble_eq_true rfl⟩) hK hP hD hS hA [0, 1, 2, 3, 4, 5, 6, 7, 8, 9, 10, 11, 12, 13, 14, 15, 16, 17, 18, 19, 20] [] rfl rfl rfl rfl rfl (by decide) rfl rfl rfl rfl hl.1 (Nat.le_of_ble_eq_true rfl) dX7_isSkew_111 (fun H locs hP hD hS => ?_)
          have hP : va_P D vwCl (wdX7 q y M_thrown M_text M_size M_has M_hand M_layers M_kinds M_names M_nameSizes M_thicknesses M_spreads M_coppers M_copperAt M_presses M_pressFrom M_pressTo M_vias M_viaFrom M_viaTo M_shares M_lists M_hasRow M_rowLow M_rowHigh M_p M_s M_fault M_lines M_word M_wordSize M_out M_written M_secondOne) H := hP
          have hD : va_D A (wdX7 q y M_thrown M_text M_size M_has M_hand M_layers M_kinds M_names M_nameSizes M_thicknesses M_spreads M_coppers M_copperAt M_presses M_pressFrom M_pressTo M_vias M_viaFrom M_viaTo M_shares M_lists M_hasRow M_rowLow M_rowHigh M_p M_s M_fault M_lines M_word M_wordSize M_out M_written M_secondOne) := hD
          obtain ⟨hg_27, hm⟩ := mg_of hm
          refine va_iald hx hb hK hP 16 0 rfl rfl hg_27 dX7_isSkew_114 ?_
          refine lv_icmp_eq (tgt := 122) hx hb dX7_isSkew_115 (by decide) (fun h_28 => ?_) (fun h_28 => ?_)
          · have hm := it_of hm h_28
            refine lv_iconst (v := (0 : Int32)) hx hb dX7_isSkew_122 (by decide) ?_
            have hz := Option.some.inj hm
            subst hz
            exact end_z C hK hP hD hS (show vp_nar .boolean (0 : Int32) = (0 : Int32) from by decide) dX7_isSkew_123
          · have hm := ie_of hm h_28
            refine lv_iconst (v := (1 : Int32)) hx hb dX7_isSkew_118 (by decide) ?_
            refine lv_goto (tgt := 123) hx hb dX7_isSkew_119 (by decide) ?_
            have hz := Option.some.inj hm
            subst hz
            exact end_z C hK hP hD hS (show vp_nar .boolean (1 : Int32) = (1 : Int32) from by decide) dX7_isSkew_123
      · have hm := ie_of hm h_13
        refine lv_iconst (v := (1 : Int32)) hx hb dX7_isSkew_84 (by decide) ?_
        have hz := Option.some.inj hm
        subst hz
        exact end_z C hK hP hD hS (show vp_nar .boolean (1 : Int32) = (1 : Int32) from by decide) dX7_isSkew_85
def g_X7_skew_9 (F : Nat) : Nat → Int32 → Int32 → Int32 → Int32 → Int32 → Int32 → (Nat → Int32) → (Nat → Int32) → (Nat → Int64) → (Nat → Int32) → (Nat → Int64) → (Nat → Int32) → (Nat → Int32) → (Nat → Int32) → (Nat → Int32) → Option (Int32 × Int32)
  | 0, _, _, _, _, _, _, _, _, _, _, _, _, _, _, _ => none
  | n + 1, v1, v2, v3, M_thrown, M_has, M_hand, M_layers, M_kinds, M_names, M_nameSizes, M_thicknesses, M_spreads, M_coppers, M_copperAt, M_shares => (if M_has = 0 then some ((-1 : Int32), M_thrown) else (if v1 < 0 then some ((-1 : Int32), M_thrown) else mg (inb M_hand 2) ((if (M_layers (M_hand).toNatClampNeg) ≤ v3 then some ((-1 : Int32), M_thrown) else mb1 (f_X7_isSkew F v3 M_hand M_layers M_kinds M_names M_nameSizes M_thicknesses M_spreads M_coppers M_copperAt M_shares) (fun r_5 => (if r_5 = 0 then mn (v3 + (1 : Int32)) (fun v3_11 => g_X7_skew_9 F n v1 v2 v3_11 M_thrown M_has M_hand M_layers M_kinds M_names M_nameSizes M_thicknesses M_spreads M_coppers M_copperAt M_shares) else (if v2 = 0 then some (v3, M_thrown) else mn (v2 + (-1 : Int32)) (fun v2_9 => mn (v3 + (1 : Int32)) (fun v3_10 => g_X7_skew_9 F n v1 v2_9 v3_10 M_thrown M_has M_hand M_layers M_kinds M_names M_nameSizes M_thicknesses M_spreads M_coppers M_copperAt M_shares)))))))))
theorem g_X7_skew_9_z (F : Nat) (v1 : Int32) (v2 : Int32) (v3 : Int32) (M_thrown : Int32) (M_has : Int32) (M_hand : Int32) (M_layers : Nat → Int32) (M_kinds : Nat → Int32) (M_names : Nat → Int64) (M_nameSizes : Nat → Int32) (M_thicknesses : Nat → Int64) (M_spreads : Nat → Int32) (M_coppers : Nat → Int32) (M_copperAt : Nat → Int32) (M_shares : Nat → Int32) : g_X7_skew_9 F 0 v1 v2 v3 M_thrown M_has M_hand M_layers M_kinds M_names M_nameSizes M_thicknesses M_spreads M_coppers M_copperAt M_shares = none := rfl
theorem g_X7_skew_9_s (F : Nat) (n : Nat) (v1 : Int32) (v2 : Int32) (v3 : Int32) (M_thrown : Int32) (M_has : Int32) (M_hand : Int32) (M_layers : Nat → Int32) (M_kinds : Nat → Int32) (M_names : Nat → Int64) (M_nameSizes : Nat → Int32) (M_thicknesses : Nat → Int64) (M_spreads : Nat → Int32) (M_coppers : Nat → Int32) (M_copperAt : Nat → Int32) (M_shares : Nat → Int32) : g_X7_skew_9 F (n + 1) v1 v2 v3 M_thrown M_has M_hand M_layers M_kinds M_names M_nameSizes M_thicknesses M_spreads M_coppers M_copperAt M_shares = (if M_has = 0 then some ((-1 : Int32), M_thrown) else (if v1 < 0 then some ((-1 : Int32), M_thrown) else mg (inb M_hand 2) ((if (M_layers (M_hand).toNatClampNeg) ≤ v3 then some ((-1 : Int32), M_thrown) else mb1 (f_X7_isSkew F v3 M_hand M_layers M_kinds M_names M_nameSizes M_thicknesses M_spreads M_coppers M_copperAt M_shares) (fun r_5 => (if r_5 = 0 then mn (v3 + (1 : Int32)) (fun v3_11 => g_X7_skew_9 F n v1 v2 v3_11 M_thrown M_has M_hand M_layers M_kinds M_names M_nameSizes M_thicknesses M_spreads M_coppers M_copperAt M_shares) else (if v2 = 0 then some (v3, M_thrown) else mn (v2 + (-1 : Int32)) (fun v2_9 => mn (v3 + (1 : Int32)) (fun v3_10 => g_X7_skew_9 F n v1 v2_9 v3_10 M_thrown M_has M_hand M_layers M_kinds M_names M_nameSizes M_thicknesses M_spreads M_coppers M_copperAt M_shares))))))))) := rfl
def f_X7_skew (F : Nat) (v1 : Int32) (M_thrown : Int32) (M_has : Int32) (M_hand : Int32) (M_layers : Nat → Int32) (M_kinds : Nat → Int32) (M_names : Nat → Int64) (M_nameSizes : Nat → Int32) (M_thicknesses : Nat → Int64) (M_spreads : Nat → Int32) (M_coppers : Nat → Int32) (M_copperAt : Nat → Int32) (M_shares : Nat → Int32) : Option (Int32 × Int32) := g_X7_skew_9 F F v1 v1 (0 : Int32) (0 : Int32) M_has M_hand M_layers M_kinds M_names M_nameSizes M_thicknesses M_spreads M_coppers M_copperAt M_shares
set_option maxRecDepth 20000 in
theorem n_X7_skew_X7 : ∀ w ∈ wsX70, w ∈ wsX7_skew := by decide +kernel
set_option maxRecDepth 20000 in
theorem w_X7_skew_f201 : Cond.fieldLink RX7 201 "LayerStacksModel" "has" "Z" ∈ wsX7_skew := by decide +kernel
set_option maxRecDepth 20000 in
theorem w_X7_skew_f13 : Cond.fieldLink RX7 13 "LayerStacksModel" "layers" "[I" ∈ wsX7_skew := by decide +kernel
set_option maxRecDepth 20000 in
theorem w_X7_skew_f195 : Cond.fieldLink RX7 195 "LayerStacksModel" "hand" "I" ∈ wsX7_skew := by decide +kernel
set_option maxRecDepth 20000 in
theorem w_X7_skew_f72 : Cond.fieldLink RX7 72 "LayerStacksModel" "thrown" "I" ∈ wsX7_skew := by decide +kernel
set_option maxHeartbeats 4000000 in
set_option maxRecDepth 100000 in
theorem k_X7_skew_9 {p : Program} {l : Launch} {e : Env} {s : State} {m : MethodId} {args : Array Value} {below : List Frame} {meth : Method} {c : Code} {D : va_G} {y : Nat → ClassId} {A : Nat → Prop} {q : Nat → Nat} {M_text : Nat → Int32} {M_size : Int32} {M_presses : Nat → Int32} {M_pressFrom : Nat → Int32} {M_pressTo : Nat → Int32} {M_vias : Nat → Int32} {M_viaFrom : Nat → Int32} {M_viaTo : Nat → Int32} {M_lists : Int32} {M_hasRow : Nat → Int32} {M_rowLow : Nat → Int64} {M_rowHigh : Nat → Int64} {M_p : Int32} {M_s : Int32} {M_fault : Int32} {M_lines : Int32} {M_word : Int64} {M_wordSize : Int32} {M_out : Nat → Int32} {M_written : Int32} {M_secondOne : Int32} {z : Int32 × Int32} (C : CX p s m args meth c wsX7_skew RX7 cX7_skew 4 (some .int)) (hA : ∀ q : Nat, s.heap.size ≤ q → A q) (hK : va_K D vwCl (tyl y) s) (F : Nat) :
    ∀ (n : Nat), ∀ (v1 : Int32) (v2 : Int32) (v3 : Int32) (M_thrown : Int32) (M_has : Int32) (M_hand : Int32) (M_layers : Nat → Int32) (M_kinds : Nat → Int32) (M_names : Nat → Int64) (M_nameSizes : Nat → Int32) (M_thicknesses : Nat → Int64) (M_spreads : Nat → Int32) (M_coppers : Nat → Int32) (M_copperAt : Nat → Int32) (M_shares : Nat → Int32) (H : Heap) (locs : List Loc) (ls : Array Slot), g_X7_skew_9 F n v1 v2 v3 M_thrown M_has M_hand M_layers M_kinds M_names M_nameSizes M_thicknesses M_spreads M_coppers M_copperAt M_shares = some z → va_P D vwCl (wdX7 q y M_thrown M_text M_size M_has M_hand M_layers M_kinds M_names M_nameSizes M_thicknesses M_spreads M_coppers M_copperAt M_presses M_pressFrom M_pressTo M_vias M_viaFrom M_viaTo M_shares M_lists M_hasRow M_rowLow M_rowHigh M_p M_s M_fault M_lines M_word M_wordSize M_out M_written M_secondOne) H → va_D A (wdX7 q y M_thrown M_text M_size M_has M_hand M_layers M_kinds M_names M_nameSizes M_thicknesses M_spreads M_coppers M_copperAt M_presses M_pressFrom M_pressTo M_vias M_viaFrom M_viaTo M_shares M_lists M_hasRow M_rowLow M_rowHigh M_p M_s M_fault M_lines M_word M_wordSize M_out M_written M_secondOne) → va_S A s.heap H locs → lv_has ls 4 [(0, .ref (q 0)), (1, .int v1), (2, .int v2), (3, .int v3)] → W p l e ({ frames := 2, cells := 0, slots := 0, locals := 46 } : Room) s m args below meth c H locs 0 0 (MQ below (QI D y A (z.1) (wdX7 q y (z.2) M_text M_size M_has M_hand M_layers M_kinds M_names M_nameSizes M_thicknesses M_spreads M_coppers M_copperAt M_presses M_pressFrom M_pressTo M_vias M_viaFrom M_viaTo M_shares M_lists M_hasRow M_rowLow M_rowHigh M_p M_s M_fault M_lines M_word M_wordSize M_out M_written M_secondOne)) args s 0 0 A) (F0 m 9 ls []) := by
  obtain ⟨⟨hx, hb, hml, hown, hts⟩, hr, hlocks⟩ := id C
  intro n
  induction n with
  | zero =>
    intro v1 v2 v3 M_thrown M_has M_hand M_layers M_kinds M_names M_nameSizes M_thicknesses M_spreads M_coppers M_copperAt M_shares H locs ls hm
    rw [g_X7_skew_9_z] at hm
    cases hm
  | succ n ih =>
    intro v1 v2 v3 M_thrown M_has M_hand M_layers M_kinds M_names M_nameSizes M_thicknesses M_spreads M_coppers M_copperAt M_shares H locs ls hm hP hD hS hl
    rw [g_X7_skew_9_s] at hm
    refine lv_aload_n hx hb dX7_skew_9 rfl (lv_at hl 0 rfl) ?_
    refine va_get (D := D) (ci := 7) (v := .int M_has) (C := RX7) (T := TX7) (N := 33) hx hb hts n_X7_skew_X7 hown hK hP 0 rfl rfl 3 (by decide) (hts _ w_X7_skew_f201) (fun _ h9 => h9) rfl dX7_skew_10 ?_
    refine lv_if_eq (tgt := 59) hx hb dX7_skew_13 (by decide) (fun h_1 => ?_) (fun h_1 => ?_)
    · have hm := it_of hm h_1
      refine lv_iconst (v := (-1 : Int32)) hx hb dX7_skew_59 (by decide) ?_
      have hz := Option.some.inj hm
      subst hz
      exact end_i C hK hP hD hS dX7_skew_60
    · have hm := ie_of hm h_1
      refine lv_iload_n hx hb dX7_skew_16 rfl (lv_at hl 1 rfl) ?_
      refine lv_if_lt (tgt := 59) hx hb dX7_skew_17 (by decide) (fun h_2 => ?_) (fun h_2 => ?_)
      · have hm := it_of hm h_2
        refine lv_iconst (v := (-1 : Int32)) hx hb dX7_skew_59 (by decide) ?_
        have hz := Option.some.inj hm
        subst hz
        exact end_i C hK hP hD hS dX7_skew_60
      · have hm := ie_of hm h_2
        refine lv_iload_n hx hb dX7_skew_20 rfl (lv_at hl 3 rfl) ?_
        refine lv_aload_n hx hb dX7_skew_21 rfl (lv_at hl 0 rfl) ?_
        refine va_get (D := D) (ci := 7) (v := .ref (q 2)) (C := RX7) (T := TX7) (N := 33) hx hb hts n_X7_skew_X7 hown hK hP 0 rfl rfl 5 (by decide) (hts _ w_X7_skew_f13) (fun _ h9 => h9) rfl dX7_skew_22 ?_
        refine lv_aload_n hx hb dX7_skew_25 rfl (lv_at hl 0 rfl) ?_
        refine va_get (D := D) (ci := 7) (v := .int M_hand) (C := RX7) (T := TX7) (N := 33) hx hb hts n_X7_skew_X7 hown hK hP 0 rfl rfl 4 (by decide) (hts _ w_X7_skew_f195) (fun _ h9 => h9) rfl dX7_skew_26 ?_
        obtain ⟨hg_3, hm⟩ := mg_of hm
        refine va_iald hx hb hK hP 2 0 rfl rfl hg_3 dX7_skew_29 ?_
        refine lv_icmp_ge (tgt := 59) hx hb dX7_skew_30 (by decide) (fun h_4 => ?_) (fun h_4 => ?_)
        · have hm := it_of hm h_4
          refine lv_iconst (v := (-1 : Int32)) hx hb dX7_skew_59 (by decide) ?_
          have hz := Option.some.inj hm
          subst hz
          exact end_i C hK hP hD hS dX7_skew_60
        · have hm := ie_of hm h_4
          refine lv_aload_n hx hb dX7_skew_33 rfl (lv_at hl 0 rfl) ?_
          refine lv_iload_n hx hb dX7_skew_34 rfl (lv_at hl 3 rfl) ?_
          obtain ⟨r_5, hc_6, hm⟩ := mb1_of hm
          refine call_vi (wc := (wdX7 q y M_thrown M_text M_size M_has M_hand M_layers M_kinds M_names M_nameSizes M_thicknesses M_spreads M_coppers M_copperAt M_presses M_pressFrom M_pressTo M_vias M_viaFrom M_viaTo M_shares M_lists M_hasRow M_rowLow M_rowHigh M_p M_s M_fault M_lines M_word M_wordSize M_out M_written M_secondOne)) (wr := []) (As := [.int v3]) (rest := []) C (c_X7_isSkew l D y q _ F hc_6) (cwV 1 hts gX7_skew_X7_isSkew rfl rfl rfl (by decide +kernel) ⟨Nat.le_of_ble_eq_true rfl, Nat.le_of_ble_eq_true rfl⟩) hK hP hD hS hA [0, 1, 2, 3, 4, 5, 6, 7, 8, 9, 10, 11, 12, 13, 14, 15, 16, 17, 18, 19, 20] [] rfl rfl rfl rfl rfl (by decide) rfl rfl rfl rfl hl.1 (Nat.le_of_ble_eq_true rfl) dX7_skew_35 (fun H locs hP hD hS => ?_)
          have hP : va_P D vwCl (wdX7 q y M_thrown M_text M_size M_has M_hand M_layers M_kinds M_names M_nameSizes M_thicknesses M_spreads M_coppers M_copperAt M_presses M_pressFrom M_pressTo M_vias M_viaFrom M_viaTo M_shares M_lists M_hasRow M_rowLow M_rowHigh M_p M_s M_fault M_lines M_word M_wordSize M_out M_written M_secondOne) H := hP
          have hD : va_D A (wdX7 q y M_thrown M_text M_size M_has M_hand M_layers M_kinds M_names M_nameSizes M_thicknesses M_spreads M_coppers M_copperAt M_presses M_pressFrom M_pressTo M_vias M_viaFrom M_viaTo M_shares M_lists M_hasRow M_rowLow M_rowHigh M_p M_s M_fault M_lines M_word M_wordSize M_out M_written M_secondOne) := hD
          refine lv_if_ne (tgt := 44) hx hb dX7_skew_38 (by decide) (fun h_7 => ?_) (fun h_7 => ?_)
          · have hm := ie_of hm h_7
            refine lv_iload_n hx hb dX7_skew_44 rfl (lv_at hl 2 rfl) ?_
            refine lv_if_ne (tgt := 50) hx hb dX7_skew_45 (by decide) (fun h_8 => ?_) (fun h_8 => ?_)
            · have hm := ie_of hm h_8
              obtain ⟨v2_9, ev2_9⟩ : ∃ y9 : Int32, y9 = (v2 + (-1 : Int32)) := ⟨_, rfl⟩
              have hm := mn_of ev2_9 hm
              refine lv_iinc (v := v2_9) (lv' := [(2, .int v2_9), (0, .ref (q 0)), (1, .int v1), (3, .int v3)]) hx hb dX7_skew_50 hl (k := 2) rfl (by rw [ev2_9]; rfl) (by decide) rfl (fun ls hl => ?_)
              obtain ⟨v3_10, ev3_10⟩ : ∃ y9 : Int32, y9 = (v3 + (1 : Int32)) := ⟨_, rfl⟩
              have hm := mn_of ev3_10 hm
              refine lv_iinc (v := v3_10) (lv' := [(3, .int v3_10), (2, .int v2_9), (0, .ref (q 0)), (1, .int v1)]) hx hb dX7_skew_53 hl (k := 3) rfl (by rw [ev3_10]; rfl) (by decide) rfl (fun ls hl => ?_)
              refine lv_goto (tgt := 9) hx hb dX7_skew_56 (by decide) ?_
              exact ih v1 v2_9 v3_10 M_thrown M_has M_hand M_layers M_kinds M_names M_nameSizes M_thicknesses M_spreads M_coppers M_copperAt M_shares _ _ _ hm hP hD hS (lv_sub hl [2, 3, 1, 0] rfl)
            · have hm := it_of hm h_8
              refine lv_iload_n hx hb dX7_skew_48 rfl (lv_at hl 3 rfl) ?_
              have hz := Option.some.inj hm
              subst hz
              exact end_i C hK hP hD hS dX7_skew_49
          · have hm := it_of hm h_7
            refine lv_goto (tgt := 53) hx hb dX7_skew_41 (by decide) ?_
            obtain ⟨v3_11, ev3_11⟩ : ∃ y9 : Int32, y9 = (v3 + (1 : Int32)) := ⟨_, rfl⟩
            have hm := mn_of ev3_11 hm
            refine lv_iinc (v := v3_11) (lv' := [(3, .int v3_11), (0, .ref (q 0)), (1, .int v1), (2, .int v2)]) hx hb dX7_skew_53 hl (k := 3) rfl (by rw [ev3_11]; rfl) (by decide) rfl (fun ls hl => ?_)
            refine lv_goto (tgt := 9) hx hb dX7_skew_56 (by decide) ?_
            exact ih v1 v2 v3_11 M_thrown M_has M_hand M_layers M_kinds M_names M_nameSizes M_thicknesses M_spreads M_coppers M_copperAt M_shares _ _ _ hm hP hD hS (lv_sub hl [1, 2, 3, 0] rfl)
set_option maxHeartbeats 4000000 in
set_option maxRecDepth 100000 in
theorem c_X7_skew (l : Launch) (D : va_G) (y : Nat → ClassId) (q : Nat → Nat) (sz : Nat) (F : Nat) {v1 : Int32} {M_thrown : Int32} {M_text : Nat → Int32} {M_size : Int32} {M_has : Int32} {M_hand : Int32} {M_layers : Nat → Int32} {M_kinds : Nat → Int32} {M_names : Nat → Int64} {M_nameSizes : Nat → Int32} {M_thicknesses : Nat → Int64} {M_spreads : Nat → Int32} {M_coppers : Nat → Int32} {M_copperAt : Nat → Int32} {M_presses : Nat → Int32} {M_pressFrom : Nat → Int32} {M_pressTo : Nat → Int32} {M_vias : Nat → Int32} {M_viaFrom : Nat → Int32} {M_viaTo : Nat → Int32} {M_shares : Nat → Int32} {M_lists : Int32} {M_hasRow : Nat → Int32} {M_rowLow : Nat → Int64} {M_rowHigh : Nat → Int64} {M_p : Int32} {M_s : Int32} {M_fault : Int32} {M_lines : Int32} {M_word : Int64} {M_wordSize : Int32} {M_out : Nat → Int32} {M_written : Int32} {M_secondOne : Int32} {z : Int32 × Int32} (hm : f_X7_skew F v1 M_thrown M_has M_hand M_layers M_kinds M_names M_nameSizes M_thicknesses M_spreads M_coppers M_copperAt M_shares = some z) : Met l yX7_skew wsX7_skew ({ frames := 2, cells := 0, slots := 0, locals := 46 } : Room) (va_Pc [.ref (q 0), .int v1] (cP D y (wdX7 q y M_thrown M_text M_size M_has M_hand M_layers M_kinds M_names M_nameSizes M_thicknesses M_spreads M_coppers M_copperAt M_presses M_pressFrom M_pressTo M_vias M_viaFrom M_viaTo M_shares M_lists M_hasRow M_rowLow M_rowHigh M_p M_s M_fault M_lines M_word M_wordSize M_out M_written M_secondOne) sz)) (QI D y (va_A (wdX7 q y M_thrown M_text M_size M_has M_hand M_layers M_kinds M_names M_nameSizes M_thicknesses M_spreads M_coppers M_copperAt M_presses M_pressFrom M_pressTo M_vias M_viaFrom M_viaTo M_shares M_lists M_hasRow M_rowLow M_rowHigh M_p M_s M_fault M_lines M_word M_wordSize M_out M_written M_secondOne) sz) (z.1) (wdX7 q y (z.2) M_text M_size M_has M_hand M_layers M_kinds M_names M_nameSizes M_thicknesses M_spreads M_coppers M_copperAt M_presses M_pressFrom M_pressTo M_vias M_viaFrom M_viaTo M_shares M_lists M_hasRow M_rowLow M_rowHigh M_p M_s M_fault M_lines M_word M_wordSize M_out M_written M_secondOne)) 0 0 (va_A (wdX7 q y M_thrown M_text M_size M_has M_hand M_layers M_kinds M_names M_nameSizes M_thicknesses M_spreads M_coppers M_copperAt M_presses M_pressFrom M_pressTo M_vias M_viaFrom M_viaTo M_shares M_lists M_hasRow M_rowLow M_rowHigh M_p M_s M_fault M_lines M_word M_wordSize M_out M_written M_secondOne) sz) := by
  refine met_of (own := RX7) (cc := cX7_skew) (maxL := 4) (ret := (some .int)) (by decide) rfl rfl (Nat.le_of_ble_eq_true rfl) ?_
  intro p e s m below meth c ls C hsz hK hP hD hA hS hl
  obtain ⟨⟨hx, hb, hml, hown, hts⟩, hr, hlocks⟩ := id C
  have hl : lv_has ls 4 [(0, .ref (q 0)), (1, .int v1)] := hl
  generalize va_A (wdX7 q y M_thrown M_text M_size M_has M_hand M_layers M_kinds M_names M_nameSizes M_thicknesses M_spreads M_coppers M_copperAt M_presses M_pressFrom M_pressTo M_vias M_viaFrom M_viaTo M_shares M_lists M_hasRow M_rowLow M_rowHigh M_p M_s M_fault M_lines M_word M_wordSize M_out M_written M_secondOne) sz = A at hD hA hS ⊢
  generalize ([.ref (q 0), .int v1] : List Value).toArray = args at C hts ⊢
  unfold f_X7_skew at hm
  refine lv_aload_n hx hb dX7_skew_0 rfl (lv_at hl 0 rfl) ?_
  refine lv_iconst (v := (0 : Int32)) hx hb dX7_skew_1 (by decide) ?_
  refine va_put (D := D) (ci := 7) (v := .int (0 : Int32)) (ty := .int) (C := RX7) (T := TX7) (N := 33) hx hb hts n_X7_skew_X7 tyX7 tyX7_ok nmX7 hown hK hP hD hS 0 rfl rfl 0 (by decide) (hts _ w_X7_skew_f72) (fun _ h9 => h9) rfl (by decide +kernel) rfl rfl (Nat.le_of_ble_eq_true rfl) dX7_skew_2 (fun H locs hP hD hS => ?_)
  have hP : va_P D vwCl (wdX7 q y (0 : Int32) M_text M_size M_has M_hand M_layers M_kinds M_names M_nameSizes M_thicknesses M_spreads M_coppers M_copperAt M_presses M_pressFrom M_pressTo M_vias M_viaFrom M_viaTo M_shares M_lists M_hasRow M_rowLow M_rowHigh M_p M_s M_fault M_lines M_word M_wordSize M_out M_written M_secondOne) H := hP
  have hD : va_D A (wdX7 q y (0 : Int32) M_text M_size M_has M_hand M_layers M_kinds M_names M_nameSizes M_thicknesses M_spreads M_coppers M_copperAt M_presses M_pressFrom M_pressTo M_vias M_viaFrom M_viaTo M_shares M_lists M_hasRow M_rowLow M_rowHigh M_p M_s M_fault M_lines M_word M_wordSize M_out M_written M_secondOne) := hD
  refine lv_iload_n hx hb dX7_skew_5 rfl (lv_at hl 1 rfl) ?_
  refine lv_istore_n (lv' := [(2, .int v1), (0, .ref (q 0)), (1, .int v1)]) hx hb dX7_skew_6 rfl hl (by decide) rfl (fun ls hl => ?_)
  refine lv_iconst (v := (0 : Int32)) hx hb dX7_skew_7 (by decide) ?_
  refine lv_istore_n (lv' := [(3, .int (0 : Int32)), (2, .int v1), (0, .ref (q 0)), (1, .int v1)]) hx hb dX7_skew_8 rfl hl (by decide) rfl (fun ls hl => ?_)
  exact k_X7_skew_9 C hA hK F F v1 v1 (0 : Int32) (0 : Int32) M_has M_hand M_layers M_kinds M_names M_nameSizes M_thicknesses M_spreads M_coppers M_copperAt M_shares _ _ _ hm hP hD hS (lv_sub hl [2, 3, 1, 0] rfl)
def g_X7_copper_59 (F : Nat) (v1 : Int32) (v2 : Int64) (v4 : Int64) (st1 : Int32) (M_thrown : Int32) (M_shares : Nat → Int32) : Option (Int32 × Int32 × (Nat → Int32)) := (if st1 = 0 then mg (¬ v4 = 0) (mn ((((v2 * (1000 : Int64)) / v4)).toInt32) (fun v7_3 => mg (inb v1 32) ((if (M_shares (v1).toNatClampNeg) = v7_3 then mg (inb v1 32) (some ((0 : Int32), st1, (upd M_shares (v1).toNatClampNeg v7_3))) else mg (inb v1 32) (some ((1 : Int32), st1, (upd M_shares (v1).toNatClampNeg v7_3))))))) else some ((0 : Int32), st1, M_shares))
def g_X7_copper_34 (F : Nat) (v1 : Int32) (v2 : Int64) (v4 : Int64) (st0 : Int32) (M_thrown : Int32) (M_has : Int32) (M_hand : Int32) (M_coppers : Nat → Int32) (M_shares : Nat → Int32) : Option (Int32 × Int32 × (Nat → Int32)) := mb1 (f_X7_isCopper F v1 M_has M_hand M_coppers) (fun r_1 => (if r_1 = 0 then g_X7_copper_59 F v1 v2 v4 (1 : Int32) M_thrown M_shares else (if st0 = 0 then g_X7_copper_59 F v1 v2 v4 (2 : Int32) M_thrown M_shares else g_X7_copper_59 F v1 v2 v4 (0 : Int32) M_thrown M_shares)))
def f_X7_copper (F : Nat) (v1 : Int32) (v2 : Int64) (v4 : Int64) (M_thrown : Int32) (M_has : Int32) (M_hand : Int32) (M_coppers : Nat → Int32) (M_shares : Nat → Int32) : Option (Int32 × Int32 × (Nat → Int32)) := (if (lg_cmp v4 (1 : Int64)) < 0 then g_X7_copper_34 F v1 v2 v4 (0 : Int32) M_thrown M_has M_hand M_coppers M_shares else (if 0 < (lg_cmp v4 (1000000000000000 : Int64)) then g_X7_copper_34 F v1 v2 v4 (0 : Int32) M_thrown M_has M_hand M_coppers M_shares else (if (lg_cmp v2 (0 : Int64)) < 0 then g_X7_copper_34 F v1 v2 v4 (0 : Int32) M_thrown M_has M_hand M_coppers M_shares else (if 0 < (lg_cmp v2 v4) then g_X7_copper_34 F v1 v2 v4 (0 : Int32) M_thrown M_has M_hand M_coppers M_shares else g_X7_copper_34 F v1 v2 v4 (1 : Int32) M_thrown M_has M_hand M_coppers M_shares))))
set_option maxRecDepth 20000 in
theorem n_X7_copper_X7 : ∀ w ∈ wsX70, w ∈ wsX7_copper := by decide +kernel
set_option maxRecDepth 20000 in
theorem w_X7_copper_f72 : Cond.fieldLink RX7 72 "LayerStacksModel" "thrown" "I" ∈ wsX7_copper := by decide +kernel
set_option maxRecDepth 20000 in
theorem w_X7_copper_k212 : Cond.constantLong RX7 212 (1000) ∈ wsX7_copper := by decide +kernel
set_option maxRecDepth 20000 in
theorem w_X7_copper_f56 : Cond.fieldLink RX7 56 "LayerStacksModel" "shares" "[I" ∈ wsX7_copper := by decide +kernel
set_option maxRecDepth 20000 in
theorem w_X7_copper_k239 : Cond.constantLong RX7 239 (1000000000000000) ∈ wsX7_copper := by decide +kernel
set_option maxHeartbeats 4000000 in
set_option maxRecDepth 100000 in
theorem k_X7_copper_59 {p : Program} {l : Launch} {e : Env} {s : State} {m : MethodId} {args : Array Value} {below : List Frame} {meth : Method} {c : Code} {D : va_G} {y : Nat → ClassId} {A : Nat → Prop} {q : Nat → Nat} {M_text : Nat → Int32} {M_size : Int32} {M_has : Int32} {M_hand : Int32} {M_layers : Nat → Int32} {M_kinds : Nat → Int32} {M_names : Nat → Int64} {M_nameSizes : Nat → Int32} {M_thicknesses : Nat → Int64} {M_spreads : Nat → Int32} {M_coppers : Nat → Int32} {M_copperAt : Nat → Int32} {M_presses : Nat → Int32} {M_pressFrom : Nat → Int32} {M_pressTo : Nat → Int32} {M_vias : Nat → Int32} {M_viaFrom : Nat → Int32} {M_viaTo : Nat → Int32} {M_lists : Int32} {M_hasRow : Nat → Int32} {M_rowLow : Nat → Int64} {M_rowHigh : Nat → Int64} {M_p : Int32} {M_s : Int32} {M_fault : Int32} {M_lines : Int32} {M_word : Int64} {M_wordSize : Int32} {M_out : Nat → Int32} {M_written : Int32} {M_secondOne : Int32} {z : Int32 × Int32 × (Nat → Int32)} (C : CX p s m args meth c wsX7_copper RX7 cX7_copper 9 (some .boolean)) (hA : ∀ q : Nat, s.heap.size ≤ q → A q) (hK : va_K D vwCl (tyl y) s) (F : Nat) :
    ∀ (v1 : Int32) (v2 : Int64) (v4 : Int64) (st1 : Int32) (M_thrown : Int32) (M_shares : Nat → Int32) (H : Heap) (locs : List Loc) (ls : Array Slot), g_X7_copper_59 F v1 v2 v4 st1 M_thrown M_shares = some z → va_P D vwCl (wdX7 q y M_thrown M_text M_size M_has M_hand M_layers M_kinds M_names M_nameSizes M_thicknesses M_spreads M_coppers M_copperAt M_presses M_pressFrom M_pressTo M_vias M_viaFrom M_viaTo M_shares M_lists M_hasRow M_rowLow M_rowHigh M_p M_s M_fault M_lines M_word M_wordSize M_out M_written M_secondOne) H → va_D A (wdX7 q y M_thrown M_text M_size M_has M_hand M_layers M_kinds M_names M_nameSizes M_thicknesses M_spreads M_coppers M_copperAt M_presses M_pressFrom M_pressTo M_vias M_viaFrom M_viaTo M_shares M_lists M_hasRow M_rowLow M_rowHigh M_p M_s M_fault M_lines M_word M_wordSize M_out M_written M_secondOne) → va_S A s.heap H locs → lv_has ls 9 [(0, .ref (q 0)), (1, .int v1), (2, .long v2), (4, .long v4)] → W p l e ({ frames := 1, cells := 0, slots := 0, locals := 21 } : Room) s m args below meth c H locs 0 0 (MQ below (QI D y A (z.1) (wdX7 q y (z.2.1) M_text M_size M_has M_hand M_layers M_kinds M_names M_nameSizes M_thicknesses M_spreads M_coppers M_copperAt M_presses M_pressFrom M_pressTo M_vias M_viaFrom M_viaTo (z.2.2) M_lists M_hasRow M_rowLow M_rowHigh M_p M_s M_fault M_lines M_word M_wordSize M_out M_written M_secondOne)) args s 0 0 A) (F0 m 59 ls [.int st1, .ref (q 0)]) := by
  obtain ⟨⟨hx, hb, hml, hown, hts⟩, hr, hlocks⟩ := id C
  intro v1 v2 v4 st1 M_thrown M_shares H locs ls hm hP hD hS hl
  unfold g_X7_copper_59 at hm
  refine va_put (D := D) (ci := 7) (v := .int st1) (ty := .int) (C := RX7) (T := TX7) (N := 33) hx hb hts n_X7_copper_X7 tyX7 tyX7_ok nmX7 hown hK hP hD hS 0 rfl rfl 0 (by decide) (hts _ w_X7_copper_f72) (fun _ h9 => h9) rfl (by decide +kernel) rfl rfl (Nat.le_of_ble_eq_true rfl) dX7_copper_59 (fun H locs hP hD hS => ?_)
  have hP : va_P D vwCl (wdX7 q y st1 M_text M_size M_has M_hand M_layers M_kinds M_names M_nameSizes M_thicknesses M_spreads M_coppers M_copperAt M_presses M_pressFrom M_pressTo M_vias M_viaFrom M_viaTo M_shares M_lists M_hasRow M_rowLow M_rowHigh M_p M_s M_fault M_lines M_word M_wordSize M_out M_written M_secondOne) H := hP
  have hD : va_D A (wdX7 q y st1 M_text M_size M_has M_hand M_layers M_kinds M_names M_nameSizes M_thicknesses M_spreads M_coppers M_copperAt M_presses M_pressFrom M_pressTo M_vias M_viaFrom M_viaTo M_shares M_lists M_hasRow M_rowLow M_rowHigh M_p M_s M_fault M_lines M_word M_wordSize M_out M_written M_secondOne) := hD
  refine lv_aload_n hx hb dX7_copper_62 rfl (lv_at hl 0 rfl) ?_
  refine va_get (D := D) (ci := 7) (v := .int st1) (C := RX7) (T := TX7) (N := 33) hx hb hts n_X7_copper_X7 hown hK hP 0 rfl rfl 0 (by decide) (hts _ w_X7_copper_f72) (fun _ h9 => h9) rfl dX7_copper_63 ?_
  refine lv_if_eq (tgt := 71) hx hb dX7_copper_66 (by decide) (fun h_1 => ?_) (fun h_1 => ?_)
  · have hm := it_of hm h_1
    refine lv_lload_n hx hb dX7_copper_71 rfl (lv_at hl 2 rfl) ?_
    refine lv_ldc2 (v := (1000 : Int64)) hx hb hown (hts _ w_X7_copper_k212) dX7_copper_72 ?_
    refine lv_lmul hx hb dX7_copper_75 ?_
    refine lv_lload hx hb dX7_copper_76 (lv_at hl 3 rfl) ?_
    obtain ⟨hg_2, hm⟩ := mg_of hm
    refine lv_ldiv hx hb dX7_copper_78 hg_2 ?_
    refine lv_l2i (v := (((v2 * (1000 : Int64)) / v4)).toInt32) hx hb dX7_copper_79 rfl ?_
    refine lv_topi (fun v7_3 ev7_3 => ?_)
    have hm := mn_of ev7_3 hm
    refine lv_istore (lv' := [(7, .int v7_3), (0, .ref (q 0)), (1, .int v1), (2, .long v2), (4, .long v4)]) hx hb dX7_copper_80 hl (by decide) rfl (fun ls hl => ?_)
    refine lv_aload_n hx hb dX7_copper_82 rfl (lv_at hl 1 rfl) ?_
    refine va_get (D := D) (ci := 7) (v := .ref (q 16)) (C := RX7) (T := TX7) (N := 33) hx hb hts n_X7_copper_X7 hown hK hP 0 rfl rfl 19 (by decide) (hts _ w_X7_copper_f56) (fun _ h9 => h9) rfl dX7_copper_83 ?_
    refine lv_iload_n hx hb dX7_copper_86 rfl (lv_at hl 2 rfl) ?_
    obtain ⟨hg_4, hm⟩ := mg_of hm
    refine va_iald hx hb hK hP 16 0 rfl rfl hg_4 dX7_copper_87 ?_
    refine lv_iload hx hb dX7_copper_88 (lv_at hl 0 rfl) ?_
    refine lv_icmp_eq (tgt := 97) hx hb dX7_copper_90 (by decide) (fun h_5 => ?_) (fun h_5 => ?_)
    · have hm := it_of hm h_5
      refine lv_iconst (v := (0 : Int32)) hx hb dX7_copper_97 (by decide) ?_
      refine lv_istore (lv' := [(8, .int (0 : Int32)), (7, .int v7_3), (0, .ref (q 0)), (1, .int v1), (2, .long v2), (4, .long v4)]) hx hb dX7_copper_98 hl (by decide) rfl (fun ls hl => ?_)
      refine lv_aload_n hx hb dX7_copper_100 rfl (lv_at hl 2 rfl) ?_
      refine va_get (D := D) (ci := 7) (v := .ref (q 16)) (C := RX7) (T := TX7) (N := 33) hx hb hts n_X7_copper_X7 hown hK hP 0 rfl rfl 19 (by decide) (hts _ w_X7_copper_f56) (fun _ h9 => h9) rfl dX7_copper_101 ?_
      refine lv_iload_n hx hb dX7_copper_104 rfl (lv_at hl 3 rfl) ?_
      refine lv_iload hx hb dX7_copper_105 (lv_at hl 1 rfl) ?_
      obtain ⟨hg_6, hm⟩ := mg_of hm
      refine va_iast hx hb hK hP hD hS 16 0 rfl rfl hg_6 dX7_copper_107 (fun H locs hP hD hS => ?_)
      have hP : va_P D vwCl (wdX7 q y st1 M_text M_size M_has M_hand M_layers M_kinds M_names M_nameSizes M_thicknesses M_spreads M_coppers M_copperAt M_presses M_pressFrom M_pressTo M_vias M_viaFrom M_viaTo (upd M_shares (v1).toNatClampNeg v7_3) M_lists M_hasRow M_rowLow M_rowHigh M_p M_s M_fault M_lines M_word M_wordSize M_out M_written M_secondOne) H := hP
      have hD : va_D A (wdX7 q y st1 M_text M_size M_has M_hand M_layers M_kinds M_names M_nameSizes M_thicknesses M_spreads M_coppers M_copperAt M_presses M_pressFrom M_pressTo M_vias M_viaFrom M_viaTo (upd M_shares (v1).toNatClampNeg v7_3) M_lists M_hasRow M_rowLow M_rowHigh M_p M_s M_fault M_lines M_word M_wordSize M_out M_written M_secondOne) := hD
      refine lv_iload hx hb dX7_copper_108 (lv_at hl 0 rfl) ?_
      have hz := Option.some.inj hm
      subst hz
      exact end_z C hK hP hD hS (show vp_nar .boolean (0 : Int32) = (0 : Int32) from by decide) dX7_copper_110
    · have hm := ie_of hm h_5
      refine lv_iconst (v := (1 : Int32)) hx hb dX7_copper_93 (by decide) ?_
      refine lv_goto (tgt := 98) hx hb dX7_copper_94 (by decide) ?_
      refine lv_istore (lv' := [(8, .int (1 : Int32)), (7, .int v7_3), (0, .ref (q 0)), (1, .int v1), (2, .long v2), (4, .long v4)]) hx hb dX7_copper_98 hl (by decide) rfl (fun ls hl => ?_)
      refine lv_aload_n hx hb dX7_copper_100 rfl (lv_at hl 2 rfl) ?_
      refine va_get (D := D) (ci := 7) (v := .ref (q 16)) (C := RX7) (T := TX7) (N := 33) hx hb hts n_X7_copper_X7 hown hK hP 0 rfl rfl 19 (by decide) (hts _ w_X7_copper_f56) (fun _ h9 => h9) rfl dX7_copper_101 ?_
      refine lv_iload_n hx hb dX7_copper_104 rfl (lv_at hl 3 rfl) ?_
      refine lv_iload hx hb dX7_copper_105 (lv_at hl 1 rfl) ?_
      obtain ⟨hg_7, hm⟩ := mg_of hm
      refine va_iast hx hb hK hP hD hS 16 0 rfl rfl hg_7 dX7_copper_107 (fun H locs hP hD hS => ?_)
      have hP : va_P D vwCl (wdX7 q y st1 M_text M_size M_has M_hand M_layers M_kinds M_names M_nameSizes M_thicknesses M_spreads M_coppers M_copperAt M_presses M_pressFrom M_pressTo M_vias M_viaFrom M_viaTo (upd M_shares (v1).toNatClampNeg v7_3) M_lists M_hasRow M_rowLow M_rowHigh M_p M_s M_fault M_lines M_word M_wordSize M_out M_written M_secondOne) H := hP
      have hD : va_D A (wdX7 q y st1 M_text M_size M_has M_hand M_layers M_kinds M_names M_nameSizes M_thicknesses M_spreads M_coppers M_copperAt M_presses M_pressFrom M_pressTo M_vias M_viaFrom M_viaTo (upd M_shares (v1).toNatClampNeg v7_3) M_lists M_hasRow M_rowLow M_rowHigh M_p M_s M_fault M_lines M_word M_wordSize M_out M_written M_secondOne) := hD
      refine lv_iload hx hb dX7_copper_108 (lv_at hl 0 rfl) ?_
      have hz := Option.some.inj hm
      subst hz
      exact end_z C hK hP hD hS (show vp_nar .boolean (1 : Int32) = (1 : Int32) from by decide) dX7_copper_110
  · have hm := ie_of hm h_1
    refine lv_iconst (v := (0 : Int32)) hx hb dX7_copper_69 (by decide) ?_
    have hz := Option.some.inj hm
    subst hz
    exact end_z C hK hP hD hS (show vp_nar .boolean (0 : Int32) = (0 : Int32) from by decide) dX7_copper_70
set_option maxHeartbeats 4000000 in
set_option maxRecDepth 100000 in
theorem k_X7_copper_34 {p : Program} {l : Launch} {e : Env} {s : State} {m : MethodId} {args : Array Value} {below : List Frame} {meth : Method} {c : Code} {D : va_G} {y : Nat → ClassId} {A : Nat → Prop} {q : Nat → Nat} {M_text : Nat → Int32} {M_size : Int32} {M_layers : Nat → Int32} {M_kinds : Nat → Int32} {M_names : Nat → Int64} {M_nameSizes : Nat → Int32} {M_thicknesses : Nat → Int64} {M_spreads : Nat → Int32} {M_copperAt : Nat → Int32} {M_presses : Nat → Int32} {M_pressFrom : Nat → Int32} {M_pressTo : Nat → Int32} {M_vias : Nat → Int32} {M_viaFrom : Nat → Int32} {M_viaTo : Nat → Int32} {M_lists : Int32} {M_hasRow : Nat → Int32} {M_rowLow : Nat → Int64} {M_rowHigh : Nat → Int64} {M_p : Int32} {M_s : Int32} {M_fault : Int32} {M_lines : Int32} {M_word : Int64} {M_wordSize : Int32} {M_out : Nat → Int32} {M_written : Int32} {M_secondOne : Int32} {z : Int32 × Int32 × (Nat → Int32)} (C : CX p s m args meth c wsX7_copper RX7 cX7_copper 9 (some .boolean)) (hA : ∀ q : Nat, s.heap.size ≤ q → A q) (hK : va_K D vwCl (tyl y) s) (F : Nat) :
    ∀ (v1 : Int32) (v2 : Int64) (v4 : Int64) (st0 : Int32) (M_thrown : Int32) (M_has : Int32) (M_hand : Int32) (M_coppers : Nat → Int32) (M_shares : Nat → Int32) (H : Heap) (locs : List Loc) (ls : Array Slot), g_X7_copper_34 F v1 v2 v4 st0 M_thrown M_has M_hand M_coppers M_shares = some z → va_P D vwCl (wdX7 q y M_thrown M_text M_size M_has M_hand M_layers M_kinds M_names M_nameSizes M_thicknesses M_spreads M_coppers M_copperAt M_presses M_pressFrom M_pressTo M_vias M_viaFrom M_viaTo M_shares M_lists M_hasRow M_rowLow M_rowHigh M_p M_s M_fault M_lines M_word M_wordSize M_out M_written M_secondOne) H → va_D A (wdX7 q y M_thrown M_text M_size M_has M_hand M_layers M_kinds M_names M_nameSizes M_thicknesses M_spreads M_coppers M_copperAt M_presses M_pressFrom M_pressTo M_vias M_viaFrom M_viaTo M_shares M_lists M_hasRow M_rowLow M_rowHigh M_p M_s M_fault M_lines M_word M_wordSize M_out M_written M_secondOne) → va_S A s.heap H locs → lv_has ls 9 [(0, .ref (q 0)), (1, .int v1), (2, .long v2), (4, .long v4)] → W p l e ({ frames := 1, cells := 0, slots := 0, locals := 21 } : Room) s m args below meth c H locs 0 0 (MQ below (QI D y A (z.1) (wdX7 q y (z.2.1) M_text M_size M_has M_hand M_layers M_kinds M_names M_nameSizes M_thicknesses M_spreads M_coppers M_copperAt M_presses M_pressFrom M_pressTo M_vias M_viaFrom M_viaTo (z.2.2) M_lists M_hasRow M_rowLow M_rowHigh M_p M_s M_fault M_lines M_word M_wordSize M_out M_written M_secondOne)) args s 0 0 A) (F0 m 34 ls [.int st0]) := by
  obtain ⟨⟨hx, hb, hml, hown, hts⟩, hr, hlocks⟩ := id C
  intro v1 v2 v4 st0 M_thrown M_has M_hand M_coppers M_shares H locs ls hm hP hD hS hl
  unfold g_X7_copper_34 at hm
  refine lv_istore (lv' := [(6, .int st0), (0, .ref (q 0)), (1, .int v1), (2, .long v2), (4, .long v4)]) hx hb dX7_copper_34 hl (by decide) rfl (fun ls hl => ?_)
  refine lv_aload_n hx hb dX7_copper_36 rfl (lv_at hl 1 rfl) ?_
  refine lv_aload_n hx hb dX7_copper_37 rfl (lv_at hl 1 rfl) ?_
  refine lv_iload_n hx hb dX7_copper_38 rfl (lv_at hl 2 rfl) ?_
  obtain ⟨r_1, hc_2, hm⟩ := mb1_of hm
  refine call_vi (wc := (wdX7 q y M_thrown M_text M_size M_has M_hand M_layers M_kinds M_names M_nameSizes M_thicknesses M_spreads M_coppers M_copperAt M_presses M_pressFrom M_pressTo M_vias M_viaFrom M_viaTo M_shares M_lists M_hasRow M_rowLow M_rowHigh M_p M_s M_fault M_lines M_word M_wordSize M_out M_written M_secondOne)) (wr := []) (As := [.int v1]) (rest := [.ref (q 0)]) C (c_X7_isCopper l D y q _ F hc_2) (cwV 1 hts gX7_copper_X7_isCopper rfl rfl rfl (by decide +kernel) ⟨Nat.le_of_ble_eq_true rfl, Nat.le_of_ble_eq_true rfl⟩) hK hP hD hS hA [0, 1, 2, 3, 4, 5, 6, 7, 8, 9, 10, 11, 12, 13, 14, 15, 16, 17, 18, 19, 20] [] rfl rfl rfl rfl rfl (by decide) rfl rfl rfl rfl hl.1 (Nat.le_of_ble_eq_true rfl) dX7_copper_39 (fun H locs hP hD hS => ?_)
  have hP : va_P D vwCl (wdX7 q y M_thrown M_text M_size M_has M_hand M_layers M_kinds M_names M_nameSizes M_thicknesses M_spreads M_coppers M_copperAt M_presses M_pressFrom M_pressTo M_vias M_viaFrom M_viaTo M_shares M_lists M_hasRow M_rowLow M_rowHigh M_p M_s M_fault M_lines M_word M_wordSize M_out M_written M_secondOne) H := hP
  have hD : va_D A (wdX7 q y M_thrown M_text M_size M_has M_hand M_layers M_kinds M_names M_nameSizes M_thicknesses M_spreads M_coppers M_copperAt M_presses M_pressFrom M_pressTo M_vias M_viaFrom M_viaTo M_shares M_lists M_hasRow M_rowLow M_rowHigh M_p M_s M_fault M_lines M_word M_wordSize M_out M_written M_secondOne) := hD
  refine lv_if_ne (tgt := 49) hx hb dX7_copper_42 (by decide) (fun h_3 => ?_) (fun h_3 => ?_)
  · have hm := ie_of hm h_3
    refine lv_iload hx hb dX7_copper_49 (lv_at hl 0 rfl) ?_
    refine lv_if_eq (tgt := 58) hx hb dX7_copper_51 (by decide) (fun h_4 => ?_) (fun h_4 => ?_)
    · have hm := it_of hm h_4
      refine lv_iconst (v := (2 : Int32)) hx hb dX7_copper_58 (by decide) ?_
      exact k_X7_copper_59 C hA hK F v1 v2 v4 (2 : Int32) M_thrown M_shares _ _ _ hm hP hD hS (lv_sub hl [1, 2, 3, 4] rfl)
    · have hm := ie_of hm h_4
      refine lv_iconst (v := (0 : Int32)) hx hb dX7_copper_54 (by decide) ?_
      refine lv_goto (tgt := 59) hx hb dX7_copper_55 (by decide) ?_
      exact k_X7_copper_59 C hA hK F v1 v2 v4 (0 : Int32) M_thrown M_shares _ _ _ hm hP hD hS (lv_sub hl [1, 2, 3, 4] rfl)
  · have hm := it_of hm h_3
    refine lv_iconst (v := (1 : Int32)) hx hb dX7_copper_45 (by decide) ?_
    refine lv_goto (tgt := 59) hx hb dX7_copper_46 (by decide) ?_
    exact k_X7_copper_59 C hA hK F v1 v2 v4 (1 : Int32) M_thrown M_shares _ _ _ hm hP hD hS (lv_sub hl [1, 2, 3, 4] rfl)
set_option maxHeartbeats 4000000 in
set_option maxRecDepth 100000 in
theorem c_X7_copper (l : Launch) (D : va_G) (y : Nat → ClassId) (q : Nat → Nat) (sz : Nat) (F : Nat) {v1 : Int32} {v2 : Int64} {v4 : Int64} {M_thrown : Int32} {M_text : Nat → Int32} {M_size : Int32} {M_has : Int32} {M_hand : Int32} {M_layers : Nat → Int32} {M_kinds : Nat → Int32} {M_names : Nat → Int64} {M_nameSizes : Nat → Int32} {M_thicknesses : Nat → Int64} {M_spreads : Nat → Int32} {M_coppers : Nat → Int32} {M_copperAt : Nat → Int32} {M_presses : Nat → Int32} {M_pressFrom : Nat → Int32} {M_pressTo : Nat → Int32} {M_vias : Nat → Int32} {M_viaFrom : Nat → Int32} {M_viaTo : Nat → Int32} {M_shares : Nat → Int32} {M_lists : Int32} {M_hasRow : Nat → Int32} {M_rowLow : Nat → Int64} {M_rowHigh : Nat → Int64} {M_p : Int32} {M_s : Int32} {M_fault : Int32} {M_lines : Int32} {M_word : Int64} {M_wordSize : Int32} {M_out : Nat → Int32} {M_written : Int32} {M_secondOne : Int32} {z : Int32 × Int32 × (Nat → Int32)} (hm : f_X7_copper F v1 v2 v4 M_thrown M_has M_hand M_coppers M_shares = some z) : Met l yX7_copper wsX7_copper ({ frames := 1, cells := 0, slots := 0, locals := 21 } : Room) (va_Pc [.ref (q 0), .int v1, .long v2, .long v4] (cP D y (wdX7 q y M_thrown M_text M_size M_has M_hand M_layers M_kinds M_names M_nameSizes M_thicknesses M_spreads M_coppers M_copperAt M_presses M_pressFrom M_pressTo M_vias M_viaFrom M_viaTo M_shares M_lists M_hasRow M_rowLow M_rowHigh M_p M_s M_fault M_lines M_word M_wordSize M_out M_written M_secondOne) sz)) (QI D y (va_A (wdX7 q y M_thrown M_text M_size M_has M_hand M_layers M_kinds M_names M_nameSizes M_thicknesses M_spreads M_coppers M_copperAt M_presses M_pressFrom M_pressTo M_vias M_viaFrom M_viaTo M_shares M_lists M_hasRow M_rowLow M_rowHigh M_p M_s M_fault M_lines M_word M_wordSize M_out M_written M_secondOne) sz) (z.1) (wdX7 q y (z.2.1) M_text M_size M_has M_hand M_layers M_kinds M_names M_nameSizes M_thicknesses M_spreads M_coppers M_copperAt M_presses M_pressFrom M_pressTo M_vias M_viaFrom M_viaTo (z.2.2) M_lists M_hasRow M_rowLow M_rowHigh M_p M_s M_fault M_lines M_word M_wordSize M_out M_written M_secondOne)) 0 0 (va_A (wdX7 q y M_thrown M_text M_size M_has M_hand M_layers M_kinds M_names M_nameSizes M_thicknesses M_spreads M_coppers M_copperAt M_presses M_pressFrom M_pressTo M_vias M_viaFrom M_viaTo M_shares M_lists M_hasRow M_rowLow M_rowHigh M_p M_s M_fault M_lines M_word M_wordSize M_out M_written M_secondOne) sz) := by
  refine met_of (own := RX7) (cc := cX7_copper) (maxL := 9) (ret := (some .boolean)) (by decide) rfl rfl (Nat.le_of_ble_eq_true rfl) ?_
  intro p e s m below meth c ls C hsz hK hP hD hA hS hl
  obtain ⟨⟨hx, hb, hml, hown, hts⟩, hr, hlocks⟩ := id C
  have hl : lv_has ls 9 [(0, .ref (q 0)), (1, .int v1), (2, .long v2), (4, .long v4)] := hl
  generalize va_A (wdX7 q y M_thrown M_text M_size M_has M_hand M_layers M_kinds M_names M_nameSizes M_thicknesses M_spreads M_coppers M_copperAt M_presses M_pressFrom M_pressTo M_vias M_viaFrom M_viaTo M_shares M_lists M_hasRow M_rowLow M_rowHigh M_p M_s M_fault M_lines M_word M_wordSize M_out M_written M_secondOne) sz = A at hD hA hS ⊢
  generalize ([.ref (q 0), .int v1, .long v2, .long v4] : List Value).toArray = args at C hts ⊢
  unfold f_X7_copper at hm
  refine lv_lload hx hb dX7_copper_0 (lv_at hl 3 rfl) ?_
  refine lv_lconst (v := (1 : Int64)) hx hb dX7_copper_2 (by decide) ?_
  refine W.lcmp hx hb dX7_copper_3 ?_
  refine lv_if_lt (tgt := 33) hx hb dX7_copper_4 (by decide) (fun h_1 => ?_) (fun h_1 => ?_)
  · have hm := it_of hm h_1
    refine lv_iconst (v := (0 : Int32)) hx hb dX7_copper_33 (by decide) ?_
    exact k_X7_copper_34 C hA hK F v1 v2 v4 (0 : Int32) M_thrown M_has M_hand M_coppers M_shares _ _ _ hm hP hD hS (lv_sub hl [0, 1, 2, 3] rfl)
  · have hm := ie_of hm h_1
    refine lv_lload hx hb dX7_copper_7 (lv_at hl 3 rfl) ?_
    refine lv_ldc2 (v := (1000000000000000 : Int64)) hx hb hown (hts _ w_X7_copper_k239) dX7_copper_9 ?_
    refine W.lcmp hx hb dX7_copper_12 ?_
    refine lv_if_gt (tgt := 33) hx hb dX7_copper_13 (by decide) (fun h_2 => ?_) (fun h_2 => ?_)
    · have hm := it_of hm h_2
      refine lv_iconst (v := (0 : Int32)) hx hb dX7_copper_33 (by decide) ?_
      exact k_X7_copper_34 C hA hK F v1 v2 v4 (0 : Int32) M_thrown M_has M_hand M_coppers M_shares _ _ _ hm hP hD hS (lv_sub hl [0, 1, 2, 3] rfl)
    · have hm := ie_of hm h_2
      refine lv_lload_n hx hb dX7_copper_16 rfl (lv_at hl 2 rfl) ?_
      refine lv_lconst (v := (0 : Int64)) hx hb dX7_copper_17 (by decide) ?_
      refine W.lcmp hx hb dX7_copper_18 ?_
      refine lv_if_lt (tgt := 33) hx hb dX7_copper_19 (by decide) (fun h_3 => ?_) (fun h_3 => ?_)
      · have hm := it_of hm h_3
        refine lv_iconst (v := (0 : Int32)) hx hb dX7_copper_33 (by decide) ?_
        exact k_X7_copper_34 C hA hK F v1 v2 v4 (0 : Int32) M_thrown M_has M_hand M_coppers M_shares _ _ _ hm hP hD hS (lv_sub hl [0, 1, 2, 3] rfl)
      · have hm := ie_of hm h_3
        refine lv_lload_n hx hb dX7_copper_22 rfl (lv_at hl 2 rfl) ?_
        refine lv_lload hx hb dX7_copper_23 (lv_at hl 3 rfl) ?_
        refine W.lcmp hx hb dX7_copper_25 ?_
        refine lv_if_gt (tgt := 33) hx hb dX7_copper_26 (by decide) (fun h_4 => ?_) (fun h_4 => ?_)
        · have hm := it_of hm h_4
          refine lv_iconst (v := (0 : Int32)) hx hb dX7_copper_33 (by decide) ?_
          exact k_X7_copper_34 C hA hK F v1 v2 v4 (0 : Int32) M_thrown M_has M_hand M_coppers M_shares _ _ _ hm hP hD hS (lv_sub hl [0, 1, 2, 3] rfl)
        · have hm := ie_of hm h_4
          refine lv_iconst (v := (1 : Int32)) hx hb dX7_copper_29 (by decide) ?_
          refine lv_goto (tgt := 34) hx hb dX7_copper_30 (by decide) ?_
          exact k_X7_copper_34 C hA hK F v1 v2 v4 (1 : Int32) M_thrown M_has M_hand M_coppers M_shares _ _ _ hm hP hD hS (lv_sub hl [0, 1, 2, 3] rfl)
def f_X7_role (F : Nat) (v1 : Int32) (M_thrown : Int32) (M_has : Int32) (M_hand : Int32) (M_layers : Nat → Int32) (M_coppers : Nat → Int32) (M_copperAt : Nat → Int32) : Option (Int32 × Int32) := mb1 (f_X7_isLayer F v1 M_has M_hand M_layers) (fun r_1 => (if r_1 = 0 then some ((0 : Int32), (1 : Int32)) else mb1 (f_X7_copperOf F v1 M_hand M_coppers M_copperAt) (fun r_4 => some (r_4, (0 : Int32)))))
set_option maxRecDepth 20000 in
theorem n_X7_role_X7 : ∀ w ∈ wsX70, w ∈ wsX7_role := by decide +kernel
set_option maxRecDepth 20000 in
theorem w_X7_role_f72 : Cond.fieldLink RX7 72 "LayerStacksModel" "thrown" "I" ∈ wsX7_role := by decide +kernel
set_option maxHeartbeats 4000000 in
set_option maxRecDepth 100000 in
theorem c_X7_role (l : Launch) (D : va_G) (y : Nat → ClassId) (q : Nat → Nat) (sz : Nat) (F : Nat) {v1 : Int32} {M_thrown : Int32} {M_text : Nat → Int32} {M_size : Int32} {M_has : Int32} {M_hand : Int32} {M_layers : Nat → Int32} {M_kinds : Nat → Int32} {M_names : Nat → Int64} {M_nameSizes : Nat → Int32} {M_thicknesses : Nat → Int64} {M_spreads : Nat → Int32} {M_coppers : Nat → Int32} {M_copperAt : Nat → Int32} {M_presses : Nat → Int32} {M_pressFrom : Nat → Int32} {M_pressTo : Nat → Int32} {M_vias : Nat → Int32} {M_viaFrom : Nat → Int32} {M_viaTo : Nat → Int32} {M_shares : Nat → Int32} {M_lists : Int32} {M_hasRow : Nat → Int32} {M_rowLow : Nat → Int64} {M_rowHigh : Nat → Int64} {M_p : Int32} {M_s : Int32} {M_fault : Int32} {M_lines : Int32} {M_word : Int64} {M_wordSize : Int32} {M_out : Nat → Int32} {M_written : Int32} {M_secondOne : Int32} {z : Int32 × Int32} (hm : f_X7_role F v1 M_thrown M_has M_hand M_layers M_coppers M_copperAt = some z) : Met l yX7_role wsX7_role ({ frames := 1, cells := 0, slots := 0, locals := 22 } : Room) (va_Pc [.ref (q 0), .int v1] (cP D y (wdX7 q y M_thrown M_text M_size M_has M_hand M_layers M_kinds M_names M_nameSizes M_thicknesses M_spreads M_coppers M_copperAt M_presses M_pressFrom M_pressTo M_vias M_viaFrom M_viaTo M_shares M_lists M_hasRow M_rowLow M_rowHigh M_p M_s M_fault M_lines M_word M_wordSize M_out M_written M_secondOne) sz)) (QI D y (va_A (wdX7 q y M_thrown M_text M_size M_has M_hand M_layers M_kinds M_names M_nameSizes M_thicknesses M_spreads M_coppers M_copperAt M_presses M_pressFrom M_pressTo M_vias M_viaFrom M_viaTo M_shares M_lists M_hasRow M_rowLow M_rowHigh M_p M_s M_fault M_lines M_word M_wordSize M_out M_written M_secondOne) sz) (z.1) (wdX7 q y (z.2) M_text M_size M_has M_hand M_layers M_kinds M_names M_nameSizes M_thicknesses M_spreads M_coppers M_copperAt M_presses M_pressFrom M_pressTo M_vias M_viaFrom M_viaTo M_shares M_lists M_hasRow M_rowLow M_rowHigh M_p M_s M_fault M_lines M_word M_wordSize M_out M_written M_secondOne)) 0 0 (va_A (wdX7 q y M_thrown M_text M_size M_has M_hand M_layers M_kinds M_names M_nameSizes M_thicknesses M_spreads M_coppers M_copperAt M_presses M_pressFrom M_pressTo M_vias M_viaFrom M_viaTo M_shares M_lists M_hasRow M_rowLow M_rowHigh M_p M_s M_fault M_lines M_word M_wordSize M_out M_written M_secondOne) sz) := by
  refine met_of (own := RX7) (cc := cX7_role) (maxL := 2) (ret := (some .int)) (by decide) rfl rfl (Nat.le_of_ble_eq_true rfl) ?_
  intro p e s m below meth c ls C hsz hK hP hD hA hS hl
  obtain ⟨⟨hx, hb, hml, hown, hts⟩, hr, hlocks⟩ := id C
  have hl : lv_has ls 2 [(0, .ref (q 0)), (1, .int v1)] := hl
  generalize va_A (wdX7 q y M_thrown M_text M_size M_has M_hand M_layers M_kinds M_names M_nameSizes M_thicknesses M_spreads M_coppers M_copperAt M_presses M_pressFrom M_pressTo M_vias M_viaFrom M_viaTo M_shares M_lists M_hasRow M_rowLow M_rowHigh M_p M_s M_fault M_lines M_word M_wordSize M_out M_written M_secondOne) sz = A at hD hA hS ⊢
  generalize ([.ref (q 0), .int v1] : List Value).toArray = args at C hts ⊢
  unfold f_X7_role at hm
  refine lv_aload_n hx hb dX7_role_0 rfl (lv_at hl 0 rfl) ?_
  refine lv_aload_n hx hb dX7_role_1 rfl (lv_at hl 0 rfl) ?_
  refine lv_iload_n hx hb dX7_role_2 rfl (lv_at hl 1 rfl) ?_
  obtain ⟨r_1, hc_2, hm⟩ := mb1_of hm
  refine call_vi (wc := (wdX7 q y M_thrown M_text M_size M_has M_hand M_layers M_kinds M_names M_nameSizes M_thicknesses M_spreads M_coppers M_copperAt M_presses M_pressFrom M_pressTo M_vias M_viaFrom M_viaTo M_shares M_lists M_hasRow M_rowLow M_rowHigh M_p M_s M_fault M_lines M_word M_wordSize M_out M_written M_secondOne)) (wr := []) (As := [.int v1]) (rest := [.ref (q 0)]) C (c_X7_isLayer l D y q _ F hc_2) (cwV 1 hts gX7_role_X7_isLayer rfl rfl rfl (by decide +kernel) ⟨Nat.le_of_ble_eq_true rfl, Nat.le_of_ble_eq_true rfl⟩) hK hP hD hS hA [0, 1, 2, 3, 4, 5, 6, 7, 8, 9, 10, 11, 12, 13, 14, 15, 16, 17, 18, 19, 20] [] rfl rfl rfl rfl rfl (by decide) rfl rfl rfl rfl hl.1 (Nat.le_of_ble_eq_true rfl) dX7_role_3 (fun H locs hP hD hS => ?_)
  have hP : va_P D vwCl (wdX7 q y M_thrown M_text M_size M_has M_hand M_layers M_kinds M_names M_nameSizes M_thicknesses M_spreads M_coppers M_copperAt M_presses M_pressFrom M_pressTo M_vias M_viaFrom M_viaTo M_shares M_lists M_hasRow M_rowLow M_rowHigh M_p M_s M_fault M_lines M_word M_wordSize M_out M_written M_secondOne) H := hP
  have hD : va_D A (wdX7 q y M_thrown M_text M_size M_has M_hand M_layers M_kinds M_names M_nameSizes M_thicknesses M_spreads M_coppers M_copperAt M_presses M_pressFrom M_pressTo M_vias M_viaFrom M_viaTo M_shares M_lists M_hasRow M_rowLow M_rowHigh M_p M_s M_fault M_lines M_word M_wordSize M_out M_written M_secondOne) := hD
  refine lv_if_eq (tgt := 13) hx hb dX7_role_6 (by decide) (fun h_3 => ?_) (fun h_3 => ?_)
  · have hm := it_of hm h_3
    refine lv_iconst (v := (1 : Int32)) hx hb dX7_role_13 (by decide) ?_
    refine va_put (D := D) (ci := 7) (v := .int (1 : Int32)) (ty := .int) (C := RX7) (T := TX7) (N := 33) hx hb hts n_X7_role_X7 tyX7 tyX7_ok nmX7 hown hK hP hD hS 0 rfl rfl 0 (by decide) (hts _ w_X7_role_f72) (fun _ h9 => h9) rfl (by decide +kernel) rfl rfl (Nat.le_of_ble_eq_true rfl) dX7_role_14 (fun H locs hP hD hS => ?_)
    have hP : va_P D vwCl (wdX7 q y (1 : Int32) M_text M_size M_has M_hand M_layers M_kinds M_names M_nameSizes M_thicknesses M_spreads M_coppers M_copperAt M_presses M_pressFrom M_pressTo M_vias M_viaFrom M_viaTo M_shares M_lists M_hasRow M_rowLow M_rowHigh M_p M_s M_fault M_lines M_word M_wordSize M_out M_written M_secondOne) H := hP
    have hD : va_D A (wdX7 q y (1 : Int32) M_text M_size M_has M_hand M_layers M_kinds M_names M_nameSizes M_thicknesses M_spreads M_coppers M_copperAt M_presses M_pressFrom M_pressTo M_vias M_viaFrom M_viaTo M_shares M_lists M_hasRow M_rowLow M_rowHigh M_p M_s M_fault M_lines M_word M_wordSize M_out M_written M_secondOne) := hD
    refine lv_aload_n hx hb dX7_role_17 rfl (lv_at hl 0 rfl) ?_
    refine va_get (D := D) (ci := 7) (v := .int (1 : Int32)) (C := RX7) (T := TX7) (N := 33) hx hb hts n_X7_role_X7 hown hK hP 0 rfl rfl 0 (by decide) (hts _ w_X7_role_f72) (fun _ h9 => h9) rfl dX7_role_18 ?_
    refine lv_if_ne (tgt := 32) hx hb dX7_role_21 (by decide) (fun _ => ?_) (fun h => absurd h (by decide))
    refine lv_iconst (v := (0 : Int32)) hx hb dX7_role_32 (by decide) ?_
    have hz := Option.some.inj hm
    subst hz
    exact end_i C hK hP hD hS dX7_role_33
  · have hm := ie_of hm h_3
    refine lv_iconst (v := (0 : Int32)) hx hb dX7_role_9 (by decide) ?_
    refine lv_goto (tgt := 14) hx hb dX7_role_10 (by decide) ?_
    refine va_put (D := D) (ci := 7) (v := .int (0 : Int32)) (ty := .int) (C := RX7) (T := TX7) (N := 33) hx hb hts n_X7_role_X7 tyX7 tyX7_ok nmX7 hown hK hP hD hS 0 rfl rfl 0 (by decide) (hts _ w_X7_role_f72) (fun _ h9 => h9) rfl (by decide +kernel) rfl rfl (Nat.le_of_ble_eq_true rfl) dX7_role_14 (fun H locs hP hD hS => ?_)
    have hP : va_P D vwCl (wdX7 q y (0 : Int32) M_text M_size M_has M_hand M_layers M_kinds M_names M_nameSizes M_thicknesses M_spreads M_coppers M_copperAt M_presses M_pressFrom M_pressTo M_vias M_viaFrom M_viaTo M_shares M_lists M_hasRow M_rowLow M_rowHigh M_p M_s M_fault M_lines M_word M_wordSize M_out M_written M_secondOne) H := hP
    have hD : va_D A (wdX7 q y (0 : Int32) M_text M_size M_has M_hand M_layers M_kinds M_names M_nameSizes M_thicknesses M_spreads M_coppers M_copperAt M_presses M_pressFrom M_pressTo M_vias M_viaFrom M_viaTo M_shares M_lists M_hasRow M_rowLow M_rowHigh M_p M_s M_fault M_lines M_word M_wordSize M_out M_written M_secondOne) := hD
    refine lv_aload_n hx hb dX7_role_17 rfl (lv_at hl 0 rfl) ?_
    refine va_get (D := D) (ci := 7) (v := .int (0 : Int32)) (C := RX7) (T := TX7) (N := 33) hx hb hts n_X7_role_X7 hown hK hP 0 rfl rfl 0 (by decide) (hts _ w_X7_role_f72) (fun _ h9 => h9) rfl dX7_role_18 ?_
    refine lv_if_ne (tgt := 32) hx hb dX7_role_21 (by decide) (fun h => absurd h (by decide)) (fun _ => ?_)
    refine lv_aload_n hx hb dX7_role_24 rfl (lv_at hl 0 rfl) ?_
    refine lv_iload_n hx hb dX7_role_25 rfl (lv_at hl 1 rfl) ?_
    obtain ⟨r_4, hc_5, hm⟩ := mb1_of hm
    refine call_vi (wc := (wdX7 q y (0 : Int32) M_text M_size M_has M_hand M_layers M_kinds M_names M_nameSizes M_thicknesses M_spreads M_coppers M_copperAt M_presses M_pressFrom M_pressTo M_vias M_viaFrom M_viaTo M_shares M_lists M_hasRow M_rowLow M_rowHigh M_p M_s M_fault M_lines M_word M_wordSize M_out M_written M_secondOne)) (wr := []) (As := [.int v1]) (rest := []) C (c_X7_copperOf l D y q _ F hc_5) (cwV 1 hts gX7_role_X7_copperOf rfl rfl rfl (by decide +kernel) ⟨Nat.le_of_ble_eq_true rfl, Nat.le_of_ble_eq_true rfl⟩) hK hP hD hS hA [0, 1, 2, 3, 4, 5, 6, 7, 8, 9, 10, 11, 12, 13, 14, 15, 16, 17, 18, 19, 20] [] rfl rfl rfl rfl rfl (by decide) rfl rfl rfl rfl hl.1 (Nat.le_of_ble_eq_true rfl) dX7_role_26 (fun H locs hP hD hS => ?_)
    have hP : va_P D vwCl (wdX7 q y (0 : Int32) M_text M_size M_has M_hand M_layers M_kinds M_names M_nameSizes M_thicknesses M_spreads M_coppers M_copperAt M_presses M_pressFrom M_pressTo M_vias M_viaFrom M_viaTo M_shares M_lists M_hasRow M_rowLow M_rowHigh M_p M_s M_fault M_lines M_word M_wordSize M_out M_written M_secondOne) H := hP
    have hD : va_D A (wdX7 q y (0 : Int32) M_text M_size M_has M_hand M_layers M_kinds M_names M_nameSizes M_thicknesses M_spreads M_coppers M_copperAt M_presses M_pressFrom M_pressTo M_vias M_viaFrom M_viaTo M_shares M_lists M_hasRow M_rowLow M_rowHigh M_p M_s M_fault M_lines M_word M_wordSize M_out M_written M_secondOne) := hD
    refine lv_goto (tgt := 33) hx hb dX7_role_29 (by decide) ?_
    have hz := Option.some.inj hm
    subst hz
    exact end_i C hK hP hD hS dX7_role_33
def g_X7_sum_37 (F : Nat) : Nat → Int32 → Int32 → Int64 → Int32 → Int32 → Int32 → Int32 → (Nat → Int32) → (Nat → Int32) → (Nat → Int64) → (Nat → Int32) → (Nat → Int32) → (Nat → Int32) → (Nat → Int32) → Option (Int64 × Int32)
  | 0, _, _, _, _, _, _, _, _, _, _, _, _, _, _ => none
  | n + 1, v1, v2, v3, v5, M_thrown, M_has, M_hand, M_layers, M_kinds, M_thicknesses, M_spreads, M_coppers, M_copperAt, M_shares => (if M_has = 0 then mb1 (f_X7_partOf F v3 (1000000 : Int64) v2) (fun r_2 => some (r_2, M_thrown)) else mg (inb M_hand 2) ((if (M_layers (M_hand).toNatClampNeg) ≤ v5 then mb1 (f_X7_partOf F v3 (1000000 : Int64) v2) (fun r_6 => some (r_6, M_thrown)) else mb1 (f_X7_endOf F v5 v1 M_hand M_thicknesses M_spreads) (fun r_8 => mg (inb (((80 : Int32) * M_hand) + v5) 160) ((if (M_kinds ((((80 : Int32) * M_hand) + v5)).toNatClampNeg) = 0 then mb1 (f_X7_copperOf F v5 M_hand M_coppers M_copperAt) (fun r_14 => mg (inb r_14 32) (mn (v3 + (r_8 * (((M_shares (r_14).toNatClampNeg)).toInt64))) (fun v3_17 => mn (v5 + (1 : Int32)) (fun v5_18 => g_X7_sum_37 F n v1 v2 v3_17 v5_18 M_thrown M_has M_hand M_layers M_kinds M_thicknesses M_spreads M_coppers M_copperAt M_shares)))) else mn (v3 + (r_8 * (1000 : Int64))) (fun v3_12 => mn (v5 + (1 : Int32)) (fun v5_13 => g_X7_sum_37 F n v1 v2 v3_12 v5_13 M_thrown M_has M_hand M_layers M_kinds M_thicknesses M_spreads M_coppers M_copperAt M_shares))))))))
theorem g_X7_sum_37_z (F : Nat) (v1 : Int32) (v2 : Int32) (v3 : Int64) (v5 : Int32) (M_thrown : Int32) (M_has : Int32) (M_hand : Int32) (M_layers : Nat → Int32) (M_kinds : Nat → Int32) (M_thicknesses : Nat → Int64) (M_spreads : Nat → Int32) (M_coppers : Nat → Int32) (M_copperAt : Nat → Int32) (M_shares : Nat → Int32) : g_X7_sum_37 F 0 v1 v2 v3 v5 M_thrown M_has M_hand M_layers M_kinds M_thicknesses M_spreads M_coppers M_copperAt M_shares = none := rfl
theorem g_X7_sum_37_s (F : Nat) (n : Nat) (v1 : Int32) (v2 : Int32) (v3 : Int64) (v5 : Int32) (M_thrown : Int32) (M_has : Int32) (M_hand : Int32) (M_layers : Nat → Int32) (M_kinds : Nat → Int32) (M_thicknesses : Nat → Int64) (M_spreads : Nat → Int32) (M_coppers : Nat → Int32) (M_copperAt : Nat → Int32) (M_shares : Nat → Int32) : g_X7_sum_37 F (n + 1) v1 v2 v3 v5 M_thrown M_has M_hand M_layers M_kinds M_thicknesses M_spreads M_coppers M_copperAt M_shares = (if M_has = 0 then mb1 (f_X7_partOf F v3 (1000000 : Int64) v2) (fun r_2 => some (r_2, M_thrown)) else mg (inb M_hand 2) ((if (M_layers (M_hand).toNatClampNeg) ≤ v5 then mb1 (f_X7_partOf F v3 (1000000 : Int64) v2) (fun r_6 => some (r_6, M_thrown)) else mb1 (f_X7_endOf F v5 v1 M_hand M_thicknesses M_spreads) (fun r_8 => mg (inb (((80 : Int32) * M_hand) + v5) 160) ((if (M_kinds ((((80 : Int32) * M_hand) + v5)).toNatClampNeg) = 0 then mb1 (f_X7_copperOf F v5 M_hand M_coppers M_copperAt) (fun r_14 => mg (inb r_14 32) (mn (v3 + (r_8 * (((M_shares (r_14).toNatClampNeg)).toInt64))) (fun v3_17 => mn (v5 + (1 : Int32)) (fun v5_18 => g_X7_sum_37 F n v1 v2 v3_17 v5_18 M_thrown M_has M_hand M_layers M_kinds M_thicknesses M_spreads M_coppers M_copperAt M_shares)))) else mn (v3 + (r_8 * (1000 : Int64))) (fun v3_12 => mn (v5 + (1 : Int32)) (fun v5_13 => g_X7_sum_37 F n v1 v2 v3_12 v5_13 M_thrown M_has M_hand M_layers M_kinds M_thicknesses M_spreads M_coppers M_copperAt M_shares)))))))) := rfl
def f_X7_sum (F : Nat) (v1 : Int32) (v2 : Int32) (M_thrown : Int32) (M_has : Int32) (M_hand : Int32) (M_layers : Nat → Int32) (M_kinds : Nat → Int32) (M_thicknesses : Nat → Int64) (M_spreads : Nat → Int32) (M_coppers : Nat → Int32) (M_copperAt : Nat → Int32) (M_shares : Nat → Int32) : Option (Int64 × Int32) := mb1 (f_X7_isBit F v1) (fun r_1 => (if r_1 = 0 then some ((0 : Int64), (1 : Int32)) else mb1 (f_X7_isBit F v2) (fun r_4 => (if r_4 = 0 then some ((0 : Int64), (1 : Int32)) else g_X7_sum_37 F F v1 v2 (0 : Int64) (0 : Int32) (0 : Int32) M_has M_hand M_layers M_kinds M_thicknesses M_spreads M_coppers M_copperAt M_shares))))
set_option maxRecDepth 20000 in
theorem n_X7_sum_X7 : ∀ w ∈ wsX70, w ∈ wsX7_sum := by decide +kernel
set_option maxRecDepth 20000 in
theorem w_X7_sum_f201 : Cond.fieldLink RX7 201 "LayerStacksModel" "has" "Z" ∈ wsX7_sum := by decide +kernel
set_option maxRecDepth 20000 in
theorem w_X7_sum_k241 : Cond.constantLong RX7 241 (1000000) ∈ wsX7_sum := by decide +kernel
set_option maxRecDepth 20000 in
theorem w_X7_sum_f13 : Cond.fieldLink RX7 13 "LayerStacksModel" "layers" "[I" ∈ wsX7_sum := by decide +kernel
set_option maxRecDepth 20000 in
theorem w_X7_sum_f195 : Cond.fieldLink RX7 195 "LayerStacksModel" "hand" "I" ∈ wsX7_sum := by decide +kernel
set_option maxRecDepth 20000 in
theorem w_X7_sum_f16 : Cond.fieldLink RX7 16 "LayerStacksModel" "kinds" "[I" ∈ wsX7_sum := by decide +kernel
set_option maxRecDepth 20000 in
theorem w_X7_sum_k212 : Cond.constantLong RX7 212 (1000) ∈ wsX7_sum := by decide +kernel
set_option maxRecDepth 20000 in
theorem w_X7_sum_f56 : Cond.fieldLink RX7 56 "LayerStacksModel" "shares" "[I" ∈ wsX7_sum := by decide +kernel
set_option maxRecDepth 20000 in
theorem w_X7_sum_f72 : Cond.fieldLink RX7 72 "LayerStacksModel" "thrown" "I" ∈ wsX7_sum := by decide +kernel
set_option maxHeartbeats 4000000 in
set_option maxRecDepth 100000 in
theorem k_X7_sum_37 {p : Program} {l : Launch} {e : Env} {s : State} {m : MethodId} {args : Array Value} {below : List Frame} {meth : Method} {c : Code} {D : va_G} {y : Nat → ClassId} {A : Nat → Prop} {q : Nat → Nat} {M_text : Nat → Int32} {M_size : Int32} {M_names : Nat → Int64} {M_nameSizes : Nat → Int32} {M_presses : Nat → Int32} {M_pressFrom : Nat → Int32} {M_pressTo : Nat → Int32} {M_vias : Nat → Int32} {M_viaFrom : Nat → Int32} {M_viaTo : Nat → Int32} {M_lists : Int32} {M_hasRow : Nat → Int32} {M_rowLow : Nat → Int64} {M_rowHigh : Nat → Int64} {M_p : Int32} {M_s : Int32} {M_fault : Int32} {M_lines : Int32} {M_word : Int64} {M_wordSize : Int32} {M_out : Nat → Int32} {M_written : Int32} {M_secondOne : Int32} {z : Int64 × Int32} (C : CX p s m args meth c wsX7_sum RX7 cX7_sum 6 (some .long)) (hA : ∀ q : Nat, s.heap.size ≤ q → A q) (hK : va_K D vwCl (tyl y) s) (F : Nat) :
    ∀ (n : Nat), ∀ (v1 : Int32) (v2 : Int32) (v3 : Int64) (v5 : Int32) (M_thrown : Int32) (M_has : Int32) (M_hand : Int32) (M_layers : Nat → Int32) (M_kinds : Nat → Int32) (M_thicknesses : Nat → Int64) (M_spreads : Nat → Int32) (M_coppers : Nat → Int32) (M_copperAt : Nat → Int32) (M_shares : Nat → Int32) (H : Heap) (locs : List Loc) (ls : Array Slot), g_X7_sum_37 F n v1 v2 v3 v5 M_thrown M_has M_hand M_layers M_kinds M_thicknesses M_spreads M_coppers M_copperAt M_shares = some z → va_P D vwCl (wdX7 q y M_thrown M_text M_size M_has M_hand M_layers M_kinds M_names M_nameSizes M_thicknesses M_spreads M_coppers M_copperAt M_presses M_pressFrom M_pressTo M_vias M_viaFrom M_viaTo M_shares M_lists M_hasRow M_rowLow M_rowHigh M_p M_s M_fault M_lines M_word M_wordSize M_out M_written M_secondOne) H → va_D A (wdX7 q y M_thrown M_text M_size M_has M_hand M_layers M_kinds M_names M_nameSizes M_thicknesses M_spreads M_coppers M_copperAt M_presses M_pressFrom M_pressTo M_vias M_viaFrom M_viaTo M_shares M_lists M_hasRow M_rowLow M_rowHigh M_p M_s M_fault M_lines M_word M_wordSize M_out M_written M_secondOne) → va_S A s.heap H locs → lv_has ls 6 [(0, .ref (q 0)), (1, .int v1), (2, .int v2), (3, .long v3), (5, .int v5)] → W p l e ({ frames := 2, cells := 0, slots := 0, locals := 55 } : Room) s m args below meth c H locs 0 0 (MQ below (QL D y A (z.1) (wdX7 q y (z.2) M_text M_size M_has M_hand M_layers M_kinds M_names M_nameSizes M_thicknesses M_spreads M_coppers M_copperAt M_presses M_pressFrom M_pressTo M_vias M_viaFrom M_viaTo M_shares M_lists M_hasRow M_rowLow M_rowHigh M_p M_s M_fault M_lines M_word M_wordSize M_out M_written M_secondOne)) args s 0 0 A) (F0 m 37 ls []) := by
  obtain ⟨⟨hx, hb, hml, hown, hts⟩, hr, hlocks⟩ := id C
  intro n
  induction n with
  | zero =>
    intro v1 v2 v3 v5 M_thrown M_has M_hand M_layers M_kinds M_thicknesses M_spreads M_coppers M_copperAt M_shares H locs ls hm
    rw [g_X7_sum_37_z] at hm
    cases hm
  | succ n ih =>
    intro v1 v2 v3 v5 M_thrown M_has M_hand M_layers M_kinds M_thicknesses M_spreads M_coppers M_copperAt M_shares H locs ls hm hP hD hS hl
    rw [g_X7_sum_37_s] at hm
    refine lv_aload_n hx hb dX7_sum_37 rfl (lv_at hl 0 rfl) ?_
    refine va_get (D := D) (ci := 7) (v := .int M_has) (C := RX7) (T := TX7) (N := 33) hx hb hts n_X7_sum_X7 hown hK hP 0 rfl rfl 3 (by decide) (hts _ w_X7_sum_f201) (fun _ h9 => h9) rfl dX7_sum_38 ?_
    refine lv_if_eq (tgt := 111) hx hb dX7_sum_41 (by decide) (fun h_1 => ?_) (fun h_1 => ?_)
    · have hm := it_of hm h_1
      refine lv_lload_n hx hb dX7_sum_111 rfl (lv_at hl 3 rfl) ?_
      refine lv_ldc2 (v := (1000000 : Int64)) hx hb hown (hts _ w_X7_sum_k241) dX7_sum_112 ?_
      refine lv_iload_n hx hb dX7_sum_115 rfl (lv_at hl 2 rfl) ?_
      obtain ⟨r_2, hc_3, hm⟩ := mb1_of hm
      refine call_sl (wc := ([] : va_W)) (wr := [(q 0, .inr (7, [.int M_thrown, .ref (q 1), .int M_size, .int M_has, .int M_hand, .ref (q 2), .ref (q 3), .ref (q 4), .ref (q 5), .ref (q 6), .ref (q 7), .ref (q 8), .ref (q 9), .ref (q 10), .ref (q 11), .ref (q 12), .ref (q 13), .ref (q 14), .ref (q 15), .ref (q 16), .int M_lists, .ref (q 17), .ref (q 18), .ref (q 19), .int M_p, .int M_s, .int M_fault, .int M_lines, .long M_word, .int M_wordSize, .ref (q 20), .int M_written, .int M_secondOne])), (q 1, .inl (y 0, 3000, .inl M_text)), (q 2, .inl (y 0, 2, .inl M_layers)), (q 3, .inl (y 0, 160, .inl M_kinds)), (q 4, .inl (y 1, 160, .inr (.inl M_names))), (q 5, .inl (y 0, 160, .inl M_nameSizes)), (q 6, .inl (y 1, 160, .inr (.inl M_thicknesses))), (q 7, .inl (y 0, 160, .inl M_spreads)), (q 8, .inl (y 0, 2, .inl M_coppers)), (q 9, .inl (y 0, 64, .inl M_copperAt)), (q 10, .inl (y 0, 2, .inl M_presses)), (q 11, .inl (y 0, 44, .inl M_pressFrom)), (q 12, .inl (y 0, 44, .inl M_pressTo)), (q 13, .inl (y 0, 2, .inl M_vias)), (q 14, .inl (y 0, 80, .inl M_viaFrom)), (q 15, .inl (y 0, 80, .inl M_viaTo)), (q 16, .inl (y 0, 32, .inl M_shares)), (q 17, .inl (y 3, 640, .inl M_hasRow)), (q 18, .inl (y 1, 640, .inr (.inl M_rowLow))), (q 19, .inl (y 1, 640, .inr (.inl M_rowHigh))), (q 20, .inl (y 0, 6000, .inl M_out))]) (As := [.long v3, .long (1000000 : Int64), .int v2]) (rest := []) C (c_X7_partOf l D y _ F hc_3) (va_cwS 3 hts gX7_sum_X7_partOf rfl rfl rfl (by decide +kernel) ⟨Nat.le_of_ble_eq_true rfl, Nat.le_of_ble_eq_true rfl⟩) hK hP hD hS hA [] [0, 1, 2, 3, 4, 5, 6, 7, 8, 9, 10, 11, 12, 13, 14, 15, 16, 17, 18, 19, 20] rfl rfl rfl rfl rfl (by decide) rfl hl.1 (Nat.le_of_ble_eq_true rfl) dX7_sum_116 (fun H locs hP hD hS => ?_)
      have hP : va_P D vwCl (wdX7 q y M_thrown M_text M_size M_has M_hand M_layers M_kinds M_names M_nameSizes M_thicknesses M_spreads M_coppers M_copperAt M_presses M_pressFrom M_pressTo M_vias M_viaFrom M_viaTo M_shares M_lists M_hasRow M_rowLow M_rowHigh M_p M_s M_fault M_lines M_word M_wordSize M_out M_written M_secondOne) H := hP
      have hD : va_D A (wdX7 q y M_thrown M_text M_size M_has M_hand M_layers M_kinds M_names M_nameSizes M_thicknesses M_spreads M_coppers M_copperAt M_presses M_pressFrom M_pressTo M_vias M_viaFrom M_viaTo M_shares M_lists M_hasRow M_rowLow M_rowHigh M_p M_s M_fault M_lines M_word M_wordSize M_out M_written M_secondOne) := hD
      have hz := Option.some.inj hm
      subst hz
      exact end_l C hK hP hD hS dX7_sum_119
    · have hm := ie_of hm h_1
      refine lv_iload hx hb dX7_sum_44 (lv_at hl 4 rfl) ?_
      refine lv_aload_n hx hb dX7_sum_46 rfl (lv_at hl 0 rfl) ?_
      refine va_get (D := D) (ci := 7) (v := .ref (q 2)) (C := RX7) (T := TX7) (N := 33) hx hb hts n_X7_sum_X7 hown hK hP 0 rfl rfl 5 (by decide) (hts _ w_X7_sum_f13) (fun _ h9 => h9) rfl dX7_sum_47 ?_
      refine lv_aload_n hx hb dX7_sum_50 rfl (lv_at hl 0 rfl) ?_
      refine va_get (D := D) (ci := 7) (v := .int M_hand) (C := RX7) (T := TX7) (N := 33) hx hb hts n_X7_sum_X7 hown hK hP 0 rfl rfl 4 (by decide) (hts _ w_X7_sum_f195) (fun _ h9 => h9) rfl dX7_sum_51 ?_
      obtain ⟨hg_4, hm⟩ := mg_of hm
      refine va_iald hx hb hK hP 2 0 rfl rfl hg_4 dX7_sum_54 ?_
      refine lv_icmp_ge (tgt := 111) hx hb dX7_sum_55 (by decide) (fun h_5 => ?_) (fun h_5 => ?_)
      · have hm := it_of hm h_5
        refine lv_lload_n hx hb dX7_sum_111 rfl (lv_at hl 3 rfl) ?_
        refine lv_ldc2 (v := (1000000 : Int64)) hx hb hown (hts _ w_X7_sum_k241) dX7_sum_112 ?_
        refine lv_iload_n hx hb dX7_sum_115 rfl (lv_at hl 2 rfl) ?_
        obtain ⟨r_6, hc_7, hm⟩ := mb1_of hm
        refine call_sl (wc := ([] : va_W)) (wr := [(q 0, .inr (7, [.int M_thrown, .ref (q 1), .int M_size, .int M_has, .int M_hand, .ref (q 2), .ref (q 3), .ref (q 4), .ref (q 5), .ref (q 6), .ref (q 7), .ref (q 8), .ref (q 9), .ref (q 10), .ref (q 11), .ref (q 12), .ref (q 13), .ref (q 14), .ref (q 15), .ref (q 16), .int M_lists, .ref (q 17), .ref (q 18), .ref (q 19), .int M_p, .int M_s, .int M_fault, .int M_lines, .long M_word, .int M_wordSize, .ref (q 20), .int M_written, .int M_secondOne])), (q 1, .inl (y 0, 3000, .inl M_text)), (q 2, .inl (y 0, 2, .inl M_layers)), (q 3, .inl (y 0, 160, .inl M_kinds)), (q 4, .inl (y 1, 160, .inr (.inl M_names))), (q 5, .inl (y 0, 160, .inl M_nameSizes)), (q 6, .inl (y 1, 160, .inr (.inl M_thicknesses))), (q 7, .inl (y 0, 160, .inl M_spreads)), (q 8, .inl (y 0, 2, .inl M_coppers)), (q 9, .inl (y 0, 64, .inl M_copperAt)), (q 10, .inl (y 0, 2, .inl M_presses)), (q 11, .inl (y 0, 44, .inl M_pressFrom)), (q 12, .inl (y 0, 44, .inl M_pressTo)), (q 13, .inl (y 0, 2, .inl M_vias)), (q 14, .inl (y 0, 80, .inl M_viaFrom)), (q 15, .inl (y 0, 80, .inl M_viaTo)), (q 16, .inl (y 0, 32, .inl M_shares)), (q 17, .inl (y 3, 640, .inl M_hasRow)), (q 18, .inl (y 1, 640, .inr (.inl M_rowLow))), (q 19, .inl (y 1, 640, .inr (.inl M_rowHigh))), (q 20, .inl (y 0, 6000, .inl M_out))]) (As := [.long v3, .long (1000000 : Int64), .int v2]) (rest := []) C (c_X7_partOf l D y _ F hc_7) (va_cwS 3 hts gX7_sum_X7_partOf rfl rfl rfl (by decide +kernel) ⟨Nat.le_of_ble_eq_true rfl, Nat.le_of_ble_eq_true rfl⟩) hK hP hD hS hA [] [0, 1, 2, 3, 4, 5, 6, 7, 8, 9, 10, 11, 12, 13, 14, 15, 16, 17, 18, 19, 20] rfl rfl rfl rfl rfl (by decide) rfl hl.1 (Nat.le_of_ble_eq_true rfl) dX7_sum_116 (fun H locs hP hD hS => ?_)
        have hP : va_P D vwCl (wdX7 q y M_thrown M_text M_size M_has M_hand M_layers M_kinds M_names M_nameSizes M_thicknesses M_spreads M_coppers M_copperAt M_presses M_pressFrom M_pressTo M_vias M_viaFrom M_viaTo M_shares M_lists M_hasRow M_rowLow M_rowHigh M_p M_s M_fault M_lines M_word M_wordSize M_out M_written M_secondOne) H := hP
        have hD : va_D A (wdX7 q y M_thrown M_text M_size M_has M_hand M_layers M_kinds M_names M_nameSizes M_thicknesses M_spreads M_coppers M_copperAt M_presses M_pressFrom M_pressTo M_vias M_viaFrom M_viaTo M_shares M_lists M_hasRow M_rowLow M_rowHigh M_p M_s M_fault M_lines M_word M_wordSize M_out M_written M_secondOne) := hD
        have hz := Option.some.inj hm
        subst hz
        exact end_l C hK hP hD hS dX7_sum_119
      · have hm := ie_of hm h_5
        refine lv_lload_n hx hb dX7_sum_58 rfl (lv_at hl 3 rfl) ?_
        refine lv_aload_n hx hb dX7_sum_59 rfl (lv_at hl 0 rfl) ?_
        refine lv_iload hx hb dX7_sum_60 (lv_at hl 4 rfl) ?_
        refine lv_iload_n hx hb dX7_sum_62 rfl (lv_at hl 1 rfl) ?_
        obtain ⟨r_8, hc_9, hm⟩ := mb1_of hm
        refine call_vl (wc := (wdX7 q y M_thrown M_text M_size M_has M_hand M_layers M_kinds M_names M_nameSizes M_thicknesses M_spreads M_coppers M_copperAt M_presses M_pressFrom M_pressTo M_vias M_viaFrom M_viaTo M_shares M_lists M_hasRow M_rowLow M_rowHigh M_p M_s M_fault M_lines M_word M_wordSize M_out M_written M_secondOne)) (wr := []) (As := [.int v5, .int v1]) (rest := [.long v3]) C (c_X7_endOf l D y q _ F hc_9) (cwV 2 hts gX7_sum_X7_endOf rfl rfl rfl (by decide +kernel) ⟨Nat.le_of_ble_eq_true rfl, Nat.le_of_ble_eq_true rfl⟩) hK hP hD hS hA [0, 1, 2, 3, 4, 5, 6, 7, 8, 9, 10, 11, 12, 13, 14, 15, 16, 17, 18, 19, 20] [] rfl rfl rfl rfl rfl (by decide) rfl rfl rfl rfl hl.1 (Nat.le_of_ble_eq_true rfl) dX7_sum_63 (fun H locs hP hD hS => ?_)
        have hP : va_P D vwCl (wdX7 q y M_thrown M_text M_size M_has M_hand M_layers M_kinds M_names M_nameSizes M_thicknesses M_spreads M_coppers M_copperAt M_presses M_pressFrom M_pressTo M_vias M_viaFrom M_viaTo M_shares M_lists M_hasRow M_rowLow M_rowHigh M_p M_s M_fault M_lines M_word M_wordSize M_out M_written M_secondOne) H := hP
        have hD : va_D A (wdX7 q y M_thrown M_text M_size M_has M_hand M_layers M_kinds M_names M_nameSizes M_thicknesses M_spreads M_coppers M_copperAt M_presses M_pressFrom M_pressTo M_vias M_viaFrom M_viaTo M_shares M_lists M_hasRow M_rowLow M_rowHigh M_p M_s M_fault M_lines M_word M_wordSize M_out M_written M_secondOne) := hD
        refine lv_aload_n hx hb dX7_sum_66 rfl (lv_at hl 0 rfl) ?_
        refine va_get (D := D) (ci := 7) (v := .ref (q 3)) (C := RX7) (T := TX7) (N := 33) hx hb hts n_X7_sum_X7 hown hK hP 0 rfl rfl 6 (by decide) (hts _ w_X7_sum_f16) (fun _ h9 => h9) rfl dX7_sum_67 ?_
        refine lv_bipush (v := (80 : Int32)) hx hb dX7_sum_70 (by decide) ?_
        refine lv_aload_n hx hb dX7_sum_72 rfl (lv_at hl 0 rfl) ?_
        refine va_get (D := D) (ci := 7) (v := .int M_hand) (C := RX7) (T := TX7) (N := 33) hx hb hts n_X7_sum_X7 hown hK hP 0 rfl rfl 4 (by decide) (hts _ w_X7_sum_f195) (fun _ h9 => h9) rfl dX7_sum_73 ?_
        refine lv_imul hx hb dX7_sum_76 ?_
        refine lv_iload hx hb dX7_sum_77 (lv_at hl 4 rfl) ?_
        refine lv_iadd hx hb dX7_sum_79 ?_
        obtain ⟨hg_10, hm⟩ := mg_of hm
        refine va_iald hx hb hK hP 3 0 rfl rfl hg_10 dX7_sum_80 ?_
        refine lv_if_ne (tgt := 99) hx hb dX7_sum_81 (by decide) (fun h_11 => ?_) (fun h_11 => ?_)
        · have hm := ie_of hm h_11
          refine lv_ldc2 (v := (1000 : Int64)) hx hb hown (hts _ w_X7_sum_k212) dX7_sum_99 ?_
          refine lv_lmul hx hb dX7_sum_102 ?_
          refine lv_ladd hx hb dX7_sum_103 ?_
          refine lv_topl (fun v3_12 ev3_12 => ?_)
          have hm := mn_of ev3_12 hm
          refine lv_lstore_n (lv' := [(3, .long v3_12), (0, .ref (q 0)), (1, .int v1), (2, .int v2), (5, .int v5)]) hx hb dX7_sum_104 rfl hl (by decide) rfl (fun ls hl => ?_)
          obtain ⟨v5_13, ev5_13⟩ : ∃ y9 : Int32, y9 = (v5 + (1 : Int32)) := ⟨_, rfl⟩
          have hm := mn_of ev5_13 hm
          refine lv_iinc (v := v5_13) (lv' := [(5, .int v5_13), (3, .long v3_12), (0, .ref (q 0)), (1, .int v1), (2, .int v2)]) hx hb dX7_sum_105 hl (k := 4) rfl (by rw [ev5_13]; rfl) (by decide) rfl (fun ls hl => ?_)
          refine lv_goto (tgt := 37) hx hb dX7_sum_108 (by decide) ?_
          exact ih v1 v2 v3_12 v5_13 M_thrown M_has M_hand M_layers M_kinds M_thicknesses M_spreads M_coppers M_copperAt M_shares _ _ _ hm hP hD hS (lv_sub hl [2, 3, 4, 1, 0] rfl)
        · have hm := it_of hm h_11
          refine lv_aload_n hx hb dX7_sum_84 rfl (lv_at hl 0 rfl) ?_
          refine va_get (D := D) (ci := 7) (v := .ref (q 16)) (C := RX7) (T := TX7) (N := 33) hx hb hts n_X7_sum_X7 hown hK hP 0 rfl rfl 19 (by decide) (hts _ w_X7_sum_f56) (fun _ h9 => h9) rfl dX7_sum_85 ?_
          refine lv_aload_n hx hb dX7_sum_88 rfl (lv_at hl 0 rfl) ?_
          refine lv_iload hx hb dX7_sum_89 (lv_at hl 4 rfl) ?_
          obtain ⟨r_14, hc_15, hm⟩ := mb1_of hm
          refine call_vi (wc := (wdX7 q y M_thrown M_text M_size M_has M_hand M_layers M_kinds M_names M_nameSizes M_thicknesses M_spreads M_coppers M_copperAt M_presses M_pressFrom M_pressTo M_vias M_viaFrom M_viaTo M_shares M_lists M_hasRow M_rowLow M_rowHigh M_p M_s M_fault M_lines M_word M_wordSize M_out M_written M_secondOne)) (wr := []) (As := [.int v5]) (rest := [.ref (q 16), .long r_8, .long v3]) C (c_X7_copperOf l D y q _ F hc_15) (cwV 1 hts gX7_sum_X7_copperOf rfl rfl rfl (by decide +kernel) ⟨Nat.le_of_ble_eq_true rfl, Nat.le_of_ble_eq_true rfl⟩) hK hP hD hS hA [0, 1, 2, 3, 4, 5, 6, 7, 8, 9, 10, 11, 12, 13, 14, 15, 16, 17, 18, 19, 20] [] rfl rfl rfl rfl rfl (by decide) rfl rfl rfl rfl hl.1 (Nat.le_of_ble_eq_true rfl) dX7_sum_91 (fun H locs hP hD hS => ?_)
          have hP : va_P D vwCl (wdX7 q y M_thrown M_text M_size M_has M_hand M_layers M_kinds M_names M_nameSizes M_thicknesses M_spreads M_coppers M_copperAt M_presses M_pressFrom M_pressTo M_vias M_viaFrom M_viaTo M_shares M_lists M_hasRow M_rowLow M_rowHigh M_p M_s M_fault M_lines M_word M_wordSize M_out M_written M_secondOne) H := hP
          have hD : va_D A (wdX7 q y M_thrown M_text M_size M_has M_hand M_layers M_kinds M_names M_nameSizes M_thicknesses M_spreads M_coppers M_copperAt M_presses M_pressFrom M_pressTo M_vias M_viaFrom M_viaTo M_shares M_lists M_hasRow M_rowLow M_rowHigh M_p M_s M_fault M_lines M_word M_wordSize M_out M_written M_secondOne) := hD
          obtain ⟨hg_16, hm⟩ := mg_of hm
          refine va_iald hx hb hK hP 16 0 rfl rfl hg_16 dX7_sum_94 ?_
          refine lv_i2l (v := ((M_shares (r_14).toNatClampNeg)).toInt64) hx hb dX7_sum_95 rfl ?_
          refine lv_goto (tgt := 102) hx hb dX7_sum_96 (by decide) ?_
          refine lv_lmul hx hb dX7_sum_102 ?_
          refine lv_ladd hx hb dX7_sum_103 ?_
          refine lv_topl (fun v3_17 ev3_17 => ?_)
          have hm := mn_of ev3_17 hm
          refine lv_lstore_n (lv' := [(3, .long v3_17), (0, .ref (q 0)), (1, .int v1), (2, .int v2), (5, .int v5)]) hx hb dX7_sum_104 rfl hl (by decide) rfl (fun ls hl => ?_)
          obtain ⟨v5_18, ev5_18⟩ : ∃ y9 : Int32, y9 = (v5 + (1 : Int32)) := ⟨_, rfl⟩
          have hm := mn_of ev5_18 hm
          refine lv_iinc (v := v5_18) (lv' := [(5, .int v5_18), (3, .long v3_17), (0, .ref (q 0)), (1, .int v1), (2, .int v2)]) hx hb dX7_sum_105 hl (k := 4) rfl (by rw [ev5_18]; rfl) (by decide) rfl (fun ls hl => ?_)
          refine lv_goto (tgt := 37) hx hb dX7_sum_108 (by decide) ?_
          exact ih v1 v2 v3_17 v5_18 M_thrown M_has M_hand M_layers M_kinds M_thicknesses M_spreads M_coppers M_copperAt M_shares _ _ _ hm hP hD hS (lv_sub hl [2, 3, 4, 1, 0] rfl)
set_option maxHeartbeats 4000000 in
set_option maxRecDepth 100000 in
theorem c_X7_sum (l : Launch) (D : va_G) (y : Nat → ClassId) (q : Nat → Nat) (sz : Nat) (F : Nat) {v1 : Int32} {v2 : Int32} {M_thrown : Int32} {M_text : Nat → Int32} {M_size : Int32} {M_has : Int32} {M_hand : Int32} {M_layers : Nat → Int32} {M_kinds : Nat → Int32} {M_names : Nat → Int64} {M_nameSizes : Nat → Int32} {M_thicknesses : Nat → Int64} {M_spreads : Nat → Int32} {M_coppers : Nat → Int32} {M_copperAt : Nat → Int32} {M_presses : Nat → Int32} {M_pressFrom : Nat → Int32} {M_pressTo : Nat → Int32} {M_vias : Nat → Int32} {M_viaFrom : Nat → Int32} {M_viaTo : Nat → Int32} {M_shares : Nat → Int32} {M_lists : Int32} {M_hasRow : Nat → Int32} {M_rowLow : Nat → Int64} {M_rowHigh : Nat → Int64} {M_p : Int32} {M_s : Int32} {M_fault : Int32} {M_lines : Int32} {M_word : Int64} {M_wordSize : Int32} {M_out : Nat → Int32} {M_written : Int32} {M_secondOne : Int32} {z : Int64 × Int32} (hm : f_X7_sum F v1 v2 M_thrown M_has M_hand M_layers M_kinds M_thicknesses M_spreads M_coppers M_copperAt M_shares = some z) : Met l yX7_sum wsX7_sum ({ frames := 2, cells := 0, slots := 0, locals := 55 } : Room) (va_Pc [.ref (q 0), .int v1, .int v2] (cP D y (wdX7 q y M_thrown M_text M_size M_has M_hand M_layers M_kinds M_names M_nameSizes M_thicknesses M_spreads M_coppers M_copperAt M_presses M_pressFrom M_pressTo M_vias M_viaFrom M_viaTo M_shares M_lists M_hasRow M_rowLow M_rowHigh M_p M_s M_fault M_lines M_word M_wordSize M_out M_written M_secondOne) sz)) (QL D y (va_A (wdX7 q y M_thrown M_text M_size M_has M_hand M_layers M_kinds M_names M_nameSizes M_thicknesses M_spreads M_coppers M_copperAt M_presses M_pressFrom M_pressTo M_vias M_viaFrom M_viaTo M_shares M_lists M_hasRow M_rowLow M_rowHigh M_p M_s M_fault M_lines M_word M_wordSize M_out M_written M_secondOne) sz) (z.1) (wdX7 q y (z.2) M_text M_size M_has M_hand M_layers M_kinds M_names M_nameSizes M_thicknesses M_spreads M_coppers M_copperAt M_presses M_pressFrom M_pressTo M_vias M_viaFrom M_viaTo M_shares M_lists M_hasRow M_rowLow M_rowHigh M_p M_s M_fault M_lines M_word M_wordSize M_out M_written M_secondOne)) 0 0 (va_A (wdX7 q y M_thrown M_text M_size M_has M_hand M_layers M_kinds M_names M_nameSizes M_thicknesses M_spreads M_coppers M_copperAt M_presses M_pressFrom M_pressTo M_vias M_viaFrom M_viaTo M_shares M_lists M_hasRow M_rowLow M_rowHigh M_p M_s M_fault M_lines M_word M_wordSize M_out M_written M_secondOne) sz) := by
  refine met_of (own := RX7) (cc := cX7_sum) (maxL := 6) (ret := (some .long)) (by decide) rfl rfl (Nat.le_of_ble_eq_true rfl) ?_
  intro p e s m below meth c ls C hsz hK hP hD hA hS hl
  obtain ⟨⟨hx, hb, hml, hown, hts⟩, hr, hlocks⟩ := id C
  have hl : lv_has ls 6 [(0, .ref (q 0)), (1, .int v1), (2, .int v2)] := hl
  generalize va_A (wdX7 q y M_thrown M_text M_size M_has M_hand M_layers M_kinds M_names M_nameSizes M_thicknesses M_spreads M_coppers M_copperAt M_presses M_pressFrom M_pressTo M_vias M_viaFrom M_viaTo M_shares M_lists M_hasRow M_rowLow M_rowHigh M_p M_s M_fault M_lines M_word M_wordSize M_out M_written M_secondOne) sz = A at hD hA hS ⊢
  generalize ([.ref (q 0), .int v1, .int v2] : List Value).toArray = args at C hts ⊢
  unfold f_X7_sum at hm
  refine lv_aload_n hx hb dX7_sum_0 rfl (lv_at hl 0 rfl) ?_
  refine lv_iload_n hx hb dX7_sum_1 rfl (lv_at hl 1 rfl) ?_
  obtain ⟨r_1, hc_2, hm⟩ := mb1_of hm
  refine call_si (wc := ([] : va_W)) (wr := [(q 0, .inr (7, [.int M_thrown, .ref (q 1), .int M_size, .int M_has, .int M_hand, .ref (q 2), .ref (q 3), .ref (q 4), .ref (q 5), .ref (q 6), .ref (q 7), .ref (q 8), .ref (q 9), .ref (q 10), .ref (q 11), .ref (q 12), .ref (q 13), .ref (q 14), .ref (q 15), .ref (q 16), .int M_lists, .ref (q 17), .ref (q 18), .ref (q 19), .int M_p, .int M_s, .int M_fault, .int M_lines, .long M_word, .int M_wordSize, .ref (q 20), .int M_written, .int M_secondOne])), (q 1, .inl (y 0, 3000, .inl M_text)), (q 2, .inl (y 0, 2, .inl M_layers)), (q 3, .inl (y 0, 160, .inl M_kinds)), (q 4, .inl (y 1, 160, .inr (.inl M_names))), (q 5, .inl (y 0, 160, .inl M_nameSizes)), (q 6, .inl (y 1, 160, .inr (.inl M_thicknesses))), (q 7, .inl (y 0, 160, .inl M_spreads)), (q 8, .inl (y 0, 2, .inl M_coppers)), (q 9, .inl (y 0, 64, .inl M_copperAt)), (q 10, .inl (y 0, 2, .inl M_presses)), (q 11, .inl (y 0, 44, .inl M_pressFrom)), (q 12, .inl (y 0, 44, .inl M_pressTo)), (q 13, .inl (y 0, 2, .inl M_vias)), (q 14, .inl (y 0, 80, .inl M_viaFrom)), (q 15, .inl (y 0, 80, .inl M_viaTo)), (q 16, .inl (y 0, 32, .inl M_shares)), (q 17, .inl (y 3, 640, .inl M_hasRow)), (q 18, .inl (y 1, 640, .inr (.inl M_rowLow))), (q 19, .inl (y 1, 640, .inr (.inl M_rowHigh))), (q 20, .inl (y 0, 6000, .inl M_out))]) (As := [.int v1]) (rest := [.ref (q 0)]) C (c_X7_isBit l D y _ F hc_2) (va_cwS 1 hts gX7_sum_X7_isBit rfl rfl rfl (by decide +kernel) ⟨Nat.le_of_ble_eq_true rfl, Nat.le_of_ble_eq_true rfl⟩) hK hP hD hS hA [] [0, 1, 2, 3, 4, 5, 6, 7, 8, 9, 10, 11, 12, 13, 14, 15, 16, 17, 18, 19, 20] rfl rfl rfl rfl rfl (by decide) rfl hl.1 (Nat.le_of_ble_eq_true rfl) dX7_sum_2 (fun H locs hP hD hS => ?_)
  have hP : va_P D vwCl (wdX7 q y M_thrown M_text M_size M_has M_hand M_layers M_kinds M_names M_nameSizes M_thicknesses M_spreads M_coppers M_copperAt M_presses M_pressFrom M_pressTo M_vias M_viaFrom M_viaTo M_shares M_lists M_hasRow M_rowLow M_rowHigh M_p M_s M_fault M_lines M_word M_wordSize M_out M_written M_secondOne) H := hP
  have hD : va_D A (wdX7 q y M_thrown M_text M_size M_has M_hand M_layers M_kinds M_names M_nameSizes M_thicknesses M_spreads M_coppers M_copperAt M_presses M_pressFrom M_pressTo M_vias M_viaFrom M_viaTo M_shares M_lists M_hasRow M_rowLow M_rowHigh M_p M_s M_fault M_lines M_word M_wordSize M_out M_written M_secondOne) := hD
  refine lv_if_eq (tgt := 19) hx hb dX7_sum_5 (by decide) (fun h_3 => ?_) (fun h_3 => ?_)
  · have hm := it_of hm h_3
    refine lv_iconst (v := (1 : Int32)) hx hb dX7_sum_19 (by decide) ?_
    refine va_put (D := D) (ci := 7) (v := .int (1 : Int32)) (ty := .int) (C := RX7) (T := TX7) (N := 33) hx hb hts n_X7_sum_X7 tyX7 tyX7_ok nmX7 hown hK hP hD hS 0 rfl rfl 0 (by decide) (hts _ w_X7_sum_f72) (fun _ h9 => h9) rfl (by decide +kernel) rfl rfl (Nat.le_of_ble_eq_true rfl) dX7_sum_20 (fun H locs hP hD hS => ?_)
    have hP : va_P D vwCl (wdX7 q y (1 : Int32) M_text M_size M_has M_hand M_layers M_kinds M_names M_nameSizes M_thicknesses M_spreads M_coppers M_copperAt M_presses M_pressFrom M_pressTo M_vias M_viaFrom M_viaTo M_shares M_lists M_hasRow M_rowLow M_rowHigh M_p M_s M_fault M_lines M_word M_wordSize M_out M_written M_secondOne) H := hP
    have hD : va_D A (wdX7 q y (1 : Int32) M_text M_size M_has M_hand M_layers M_kinds M_names M_nameSizes M_thicknesses M_spreads M_coppers M_copperAt M_presses M_pressFrom M_pressTo M_vias M_viaFrom M_viaTo M_shares M_lists M_hasRow M_rowLow M_rowHigh M_p M_s M_fault M_lines M_word M_wordSize M_out M_written M_secondOne) := hD
    refine lv_aload_n hx hb dX7_sum_23 rfl (lv_at hl 0 rfl) ?_
    refine va_get (D := D) (ci := 7) (v := .int (1 : Int32)) (C := RX7) (T := TX7) (N := 33) hx hb hts n_X7_sum_X7 hown hK hP 0 rfl rfl 0 (by decide) (hts _ w_X7_sum_f72) (fun _ h9 => h9) rfl dX7_sum_24 ?_
    refine lv_if_eq (tgt := 32) hx hb dX7_sum_27 (by decide) (fun h => absurd h (by decide)) (fun _ => ?_)
    refine lv_lconst (v := (0 : Int64)) hx hb dX7_sum_30 (by decide) ?_
    have hz := Option.some.inj hm
    subst hz
    exact end_l C hK hP hD hS dX7_sum_31
  · have hm := ie_of hm h_3
    refine lv_iload_n hx hb dX7_sum_8 rfl (lv_at hl 2 rfl) ?_
    obtain ⟨r_4, hc_5, hm⟩ := mb1_of hm
    refine call_si (wc := ([] : va_W)) (wr := [(q 0, .inr (7, [.int M_thrown, .ref (q 1), .int M_size, .int M_has, .int M_hand, .ref (q 2), .ref (q 3), .ref (q 4), .ref (q 5), .ref (q 6), .ref (q 7), .ref (q 8), .ref (q 9), .ref (q 10), .ref (q 11), .ref (q 12), .ref (q 13), .ref (q 14), .ref (q 15), .ref (q 16), .int M_lists, .ref (q 17), .ref (q 18), .ref (q 19), .int M_p, .int M_s, .int M_fault, .int M_lines, .long M_word, .int M_wordSize, .ref (q 20), .int M_written, .int M_secondOne])), (q 1, .inl (y 0, 3000, .inl M_text)), (q 2, .inl (y 0, 2, .inl M_layers)), (q 3, .inl (y 0, 160, .inl M_kinds)), (q 4, .inl (y 1, 160, .inr (.inl M_names))), (q 5, .inl (y 0, 160, .inl M_nameSizes)), (q 6, .inl (y 1, 160, .inr (.inl M_thicknesses))), (q 7, .inl (y 0, 160, .inl M_spreads)), (q 8, .inl (y 0, 2, .inl M_coppers)), (q 9, .inl (y 0, 64, .inl M_copperAt)), (q 10, .inl (y 0, 2, .inl M_presses)), (q 11, .inl (y 0, 44, .inl M_pressFrom)), (q 12, .inl (y 0, 44, .inl M_pressTo)), (q 13, .inl (y 0, 2, .inl M_vias)), (q 14, .inl (y 0, 80, .inl M_viaFrom)), (q 15, .inl (y 0, 80, .inl M_viaTo)), (q 16, .inl (y 0, 32, .inl M_shares)), (q 17, .inl (y 3, 640, .inl M_hasRow)), (q 18, .inl (y 1, 640, .inr (.inl M_rowLow))), (q 19, .inl (y 1, 640, .inr (.inl M_rowHigh))), (q 20, .inl (y 0, 6000, .inl M_out))]) (As := [.int v2]) (rest := [.ref (q 0)]) C (c_X7_isBit l D y _ F hc_5) (va_cwS 1 hts gX7_sum_X7_isBit rfl rfl rfl (by decide +kernel) ⟨Nat.le_of_ble_eq_true rfl, Nat.le_of_ble_eq_true rfl⟩) hK hP hD hS hA [] [0, 1, 2, 3, 4, 5, 6, 7, 8, 9, 10, 11, 12, 13, 14, 15, 16, 17, 18, 19, 20] rfl rfl rfl rfl rfl (by decide) rfl hl.1 (Nat.le_of_ble_eq_true rfl) dX7_sum_9 (fun H locs hP hD hS => ?_)
    have hP : va_P D vwCl (wdX7 q y M_thrown M_text M_size M_has M_hand M_layers M_kinds M_names M_nameSizes M_thicknesses M_spreads M_coppers M_copperAt M_presses M_pressFrom M_pressTo M_vias M_viaFrom M_viaTo M_shares M_lists M_hasRow M_rowLow M_rowHigh M_p M_s M_fault M_lines M_word M_wordSize M_out M_written M_secondOne) H := hP
    have hD : va_D A (wdX7 q y M_thrown M_text M_size M_has M_hand M_layers M_kinds M_names M_nameSizes M_thicknesses M_spreads M_coppers M_copperAt M_presses M_pressFrom M_pressTo M_vias M_viaFrom M_viaTo M_shares M_lists M_hasRow M_rowLow M_rowHigh M_p M_s M_fault M_lines M_word M_wordSize M_out M_written M_secondOne) := hD
    refine lv_if_eq (tgt := 19) hx hb dX7_sum_12 (by decide) (fun h_6 => ?_) (fun h_6 => ?_)
    · have hm := it_of hm h_6
      refine lv_iconst (v := (1 : Int32)) hx hb dX7_sum_19 (by decide) ?_
      refine va_put (D := D) (ci := 7) (v := .int (1 : Int32)) (ty := .int) (C := RX7) (T := TX7) (N := 33) hx hb hts n_X7_sum_X7 tyX7 tyX7_ok nmX7 hown hK hP hD hS 0 rfl rfl 0 (by decide) (hts _ w_X7_sum_f72) (fun _ h9 => h9) rfl (by decide +kernel) rfl rfl (Nat.le_of_ble_eq_true rfl) dX7_sum_20 (fun H locs hP hD hS => ?_)
      have hP : va_P D vwCl (wdX7 q y (1 : Int32) M_text M_size M_has M_hand M_layers M_kinds M_names M_nameSizes M_thicknesses M_spreads M_coppers M_copperAt M_presses M_pressFrom M_pressTo M_vias M_viaFrom M_viaTo M_shares M_lists M_hasRow M_rowLow M_rowHigh M_p M_s M_fault M_lines M_word M_wordSize M_out M_written M_secondOne) H := hP
      have hD : va_D A (wdX7 q y (1 : Int32) M_text M_size M_has M_hand M_layers M_kinds M_names M_nameSizes M_thicknesses M_spreads M_coppers M_copperAt M_presses M_pressFrom M_pressTo M_vias M_viaFrom M_viaTo M_shares M_lists M_hasRow M_rowLow M_rowHigh M_p M_s M_fault M_lines M_word M_wordSize M_out M_written M_secondOne) := hD
      refine lv_aload_n hx hb dX7_sum_23 rfl (lv_at hl 0 rfl) ?_
      refine va_get (D := D) (ci := 7) (v := .int (1 : Int32)) (C := RX7) (T := TX7) (N := 33) hx hb hts n_X7_sum_X7 hown hK hP 0 rfl rfl 0 (by decide) (hts _ w_X7_sum_f72) (fun _ h9 => h9) rfl dX7_sum_24 ?_
      refine lv_if_eq (tgt := 32) hx hb dX7_sum_27 (by decide) (fun h => absurd h (by decide)) (fun _ => ?_)
      refine lv_lconst (v := (0 : Int64)) hx hb dX7_sum_30 (by decide) ?_
      have hz := Option.some.inj hm
      subst hz
      exact end_l C hK hP hD hS dX7_sum_31
    · have hm := ie_of hm h_6
      refine lv_iconst (v := (0 : Int32)) hx hb dX7_sum_15 (by decide) ?_
      refine lv_goto (tgt := 20) hx hb dX7_sum_16 (by decide) ?_
      refine va_put (D := D) (ci := 7) (v := .int (0 : Int32)) (ty := .int) (C := RX7) (T := TX7) (N := 33) hx hb hts n_X7_sum_X7 tyX7 tyX7_ok nmX7 hown hK hP hD hS 0 rfl rfl 0 (by decide) (hts _ w_X7_sum_f72) (fun _ h9 => h9) rfl (by decide +kernel) rfl rfl (Nat.le_of_ble_eq_true rfl) dX7_sum_20 (fun H locs hP hD hS => ?_)
      have hP : va_P D vwCl (wdX7 q y (0 : Int32) M_text M_size M_has M_hand M_layers M_kinds M_names M_nameSizes M_thicknesses M_spreads M_coppers M_copperAt M_presses M_pressFrom M_pressTo M_vias M_viaFrom M_viaTo M_shares M_lists M_hasRow M_rowLow M_rowHigh M_p M_s M_fault M_lines M_word M_wordSize M_out M_written M_secondOne) H := hP
      have hD : va_D A (wdX7 q y (0 : Int32) M_text M_size M_has M_hand M_layers M_kinds M_names M_nameSizes M_thicknesses M_spreads M_coppers M_copperAt M_presses M_pressFrom M_pressTo M_vias M_viaFrom M_viaTo M_shares M_lists M_hasRow M_rowLow M_rowHigh M_p M_s M_fault M_lines M_word M_wordSize M_out M_written M_secondOne) := hD
      refine lv_aload_n hx hb dX7_sum_23 rfl (lv_at hl 0 rfl) ?_
      refine va_get (D := D) (ci := 7) (v := .int (0 : Int32)) (C := RX7) (T := TX7) (N := 33) hx hb hts n_X7_sum_X7 hown hK hP 0 rfl rfl 0 (by decide) (hts _ w_X7_sum_f72) (fun _ h9 => h9) rfl dX7_sum_24 ?_
      refine lv_if_eq (tgt := 32) hx hb dX7_sum_27 (by decide) (fun _ => ?_) (fun h => absurd h (by decide))
      refine lv_lconst (v := (0 : Int64)) hx hb dX7_sum_32 (by decide) ?_
      refine lv_lstore_n (lv' := [(3, .long (0 : Int64)), (0, .ref (q 0)), (1, .int v1), (2, .int v2)]) hx hb dX7_sum_33 rfl hl (by decide) rfl (fun ls hl => ?_)
      refine lv_iconst (v := (0 : Int32)) hx hb dX7_sum_34 (by decide) ?_
      refine lv_istore (lv' := [(5, .int (0 : Int32)), (3, .long (0 : Int64)), (0, .ref (q 0)), (1, .int v1), (2, .int v2)]) hx hb dX7_sum_35 hl (by decide) rfl (fun ls hl => ?_)
      exact k_X7_sum_37 C hA hK F F v1 v2 (0 : Int64) (0 : Int32) (0 : Int32) M_has M_hand M_layers M_kinds M_thicknesses M_spreads M_coppers M_copperAt M_shares _ _ _ hm hP hD hS (lv_sub hl [2, 3, 4, 1, 0] rfl)
def g_X7_list_44 (F : Nat) : Nat → Int32 → Int32 → Int32 → (Nat → Int32) → Option (Int32 × Int32 × Int32 × (Nat → Int32))
  | 0, _, _, _, _ => none
  | n + 1, v1, M_thrown, M_lists, M_hasRow => (if (((80 : Int32) * M_lists) + (80 : Int32)) ≤ v1 then some (((M_lists + (1 : Int32)) - (1 : Int32)), M_thrown, (M_lists + (1 : Int32)), M_hasRow) else mg (inb v1 640) (mn (v1 + (1 : Int32)) (fun v1_3 => g_X7_list_44 F n v1_3 M_thrown M_lists (upd M_hasRow (v1).toNatClampNeg (vp_nar .boolean (0 : Int32))))))
theorem g_X7_list_44_z (F : Nat) (v1 : Int32) (M_thrown : Int32) (M_lists : Int32) (M_hasRow : Nat → Int32) : g_X7_list_44 F 0 v1 M_thrown M_lists M_hasRow = none := rfl
theorem g_X7_list_44_s (F : Nat) (n : Nat) (v1 : Int32) (M_thrown : Int32) (M_lists : Int32) (M_hasRow : Nat → Int32) : g_X7_list_44 F (n + 1) v1 M_thrown M_lists M_hasRow = (if (((80 : Int32) * M_lists) + (80 : Int32)) ≤ v1 then some (((M_lists + (1 : Int32)) - (1 : Int32)), M_thrown, (M_lists + (1 : Int32)), M_hasRow) else mg (inb v1 640) (mn (v1 + (1 : Int32)) (fun v1_3 => g_X7_list_44 F n v1_3 M_thrown M_lists (upd M_hasRow (v1).toNatClampNeg (vp_nar .boolean (0 : Int32)))))) := rfl
def g_X7_list_13 (F : Nat) (st1 : Int32) (M_thrown : Int32) (M_lists : Int32) (M_hasRow : Nat → Int32) : Option (Int32 × Int32 × Int32 × (Nat → Int32)) := (if st1 = 0 then (if M_lists = (8 : Int32) then some ((-1 : Int32), st1, M_lists, M_hasRow) else mn ((80 : Int32) * M_lists) (fun v1_3 => g_X7_list_44 F F v1_3 st1 M_lists M_hasRow)) else some ((0 : Int32), st1, M_lists, M_hasRow))
def f_X7_list (F : Nat) (M_thrown : Int32) (M_has : Int32) (M_lists : Int32) (M_hasRow : Nat → Int32) : Option (Int32 × Int32 × Int32 × (Nat → Int32)) := (if M_has = 0 then g_X7_list_13 F (1 : Int32) M_thrown M_lists M_hasRow else g_X7_list_13 F (0 : Int32) M_thrown M_lists M_hasRow)
set_option maxRecDepth 20000 in
theorem n_X7_list_X7 : ∀ w ∈ wsX70, w ∈ wsX7_list := by decide +kernel
set_option maxRecDepth 20000 in
theorem w_X7_list_f72 : Cond.fieldLink RX7 72 "LayerStacksModel" "thrown" "I" ∈ wsX7_list := by decide +kernel
set_option maxRecDepth 20000 in
theorem w_X7_list_f205 : Cond.fieldLink RX7 205 "LayerStacksModel" "lists" "I" ∈ wsX7_list := by decide +kernel
set_option maxRecDepth 20000 in
theorem w_X7_list_f59 : Cond.fieldLink RX7 59 "LayerStacksModel" "hasRow" "[Z" ∈ wsX7_list := by decide +kernel
set_option maxRecDepth 20000 in
theorem w_X7_list_f201 : Cond.fieldLink RX7 201 "LayerStacksModel" "has" "Z" ∈ wsX7_list := by decide +kernel
set_option maxHeartbeats 4000000 in
set_option maxRecDepth 100000 in
theorem k_X7_list_44 {p : Program} {l : Launch} {e : Env} {s : State} {m : MethodId} {args : Array Value} {below : List Frame} {meth : Method} {c : Code} {D : va_G} {y : Nat → ClassId} {A : Nat → Prop} {q : Nat → Nat} {M_text : Nat → Int32} {M_size : Int32} {M_has : Int32} {M_hand : Int32} {M_layers : Nat → Int32} {M_kinds : Nat → Int32} {M_names : Nat → Int64} {M_nameSizes : Nat → Int32} {M_thicknesses : Nat → Int64} {M_spreads : Nat → Int32} {M_coppers : Nat → Int32} {M_copperAt : Nat → Int32} {M_presses : Nat → Int32} {M_pressFrom : Nat → Int32} {M_pressTo : Nat → Int32} {M_vias : Nat → Int32} {M_viaFrom : Nat → Int32} {M_viaTo : Nat → Int32} {M_shares : Nat → Int32} {M_rowLow : Nat → Int64} {M_rowHigh : Nat → Int64} {M_p : Int32} {M_s : Int32} {M_fault : Int32} {M_lines : Int32} {M_word : Int64} {M_wordSize : Int32} {M_out : Nat → Int32} {M_written : Int32} {M_secondOne : Int32} {z : Int32 × Int32 × Int32 × (Nat → Int32)} (C : CX p s m args meth c wsX7_list RX7 cX7_list 2 (some .int)) (hA : ∀ q : Nat, s.heap.size ≤ q → A q) (hK : va_K D vwCl (tyl y) s) (F : Nat) :
    ∀ (n : Nat), ∀ (v1 : Int32) (M_thrown : Int32) (M_lists : Int32) (M_hasRow : Nat → Int32) (H : Heap) (locs : List Loc) (ls : Array Slot), g_X7_list_44 F n v1 M_thrown M_lists M_hasRow = some z → va_P D vwCl (wdX7 q y M_thrown M_text M_size M_has M_hand M_layers M_kinds M_names M_nameSizes M_thicknesses M_spreads M_coppers M_copperAt M_presses M_pressFrom M_pressTo M_vias M_viaFrom M_viaTo M_shares M_lists M_hasRow M_rowLow M_rowHigh M_p M_s M_fault M_lines M_word M_wordSize M_out M_written M_secondOne) H → va_D A (wdX7 q y M_thrown M_text M_size M_has M_hand M_layers M_kinds M_names M_nameSizes M_thicknesses M_spreads M_coppers M_copperAt M_presses M_pressFrom M_pressTo M_vias M_viaFrom M_viaTo M_shares M_lists M_hasRow M_rowLow M_rowHigh M_p M_s M_fault M_lines M_word M_wordSize M_out M_written M_secondOne) → va_S A s.heap H locs → lv_has ls 2 [(0, .ref (q 0)), (1, .int v1)] → W p l e ({ frames := 0, cells := 0, slots := 0, locals := 0 } : Room) s m args below meth c H locs 0 0 (MQ below (QI D y A (z.1) (wdX7 q y (z.2.1) M_text M_size M_has M_hand M_layers M_kinds M_names M_nameSizes M_thicknesses M_spreads M_coppers M_copperAt M_presses M_pressFrom M_pressTo M_vias M_viaFrom M_viaTo M_shares (z.2.2.1) (z.2.2.2) M_rowLow M_rowHigh M_p M_s M_fault M_lines M_word M_wordSize M_out M_written M_secondOne)) args s 0 0 A) (F0 m 44 ls []) := by
  obtain ⟨⟨hx, hb, hml, hown, hts⟩, hr, hlocks⟩ := id C
  intro n
  induction n with
  | zero =>
    intro v1 M_thrown M_lists M_hasRow H locs ls hm
    rw [g_X7_list_44_z] at hm
    cases hm
  | succ n ih =>
    intro v1 M_thrown M_lists M_hasRow H locs ls hm hP hD hS hl
    rw [g_X7_list_44_s] at hm
    refine lv_iload_n hx hb dX7_list_44 rfl (lv_at hl 1 rfl) ?_
    refine lv_bipush (v := (80 : Int32)) hx hb dX7_list_45 (by decide) ?_
    refine lv_aload_n hx hb dX7_list_47 rfl (lv_at hl 0 rfl) ?_
    refine va_get (D := D) (ci := 7) (v := .int M_lists) (C := RX7) (T := TX7) (N := 33) hx hb hts n_X7_list_X7 hown hK hP 0 rfl rfl 20 (by decide) (hts _ w_X7_list_f205) (fun _ h9 => h9) rfl dX7_list_48 ?_
    refine lv_imul hx hb dX7_list_51 ?_
    refine lv_bipush (v := (80 : Int32)) hx hb dX7_list_52 (by decide) ?_
    refine lv_iadd hx hb dX7_list_54 ?_
    refine lv_icmp_ge (tgt := 71) hx hb dX7_list_55 (by decide) (fun h_1 => ?_) (fun h_1 => ?_)
    · have hm := it_of hm h_1
      refine lv_aload_n hx hb dX7_list_71 rfl (lv_at hl 0 rfl) ?_
      refine lv_dup hx hb dX7_list_72 rfl ?_
      refine va_get (D := D) (ci := 7) (v := .int M_lists) (C := RX7) (T := TX7) (N := 33) hx hb hts n_X7_list_X7 hown hK hP 0 rfl rfl 20 (by decide) (hts _ w_X7_list_f205) (fun _ h9 => h9) rfl dX7_list_73 ?_
      refine lv_iconst (v := (1 : Int32)) hx hb dX7_list_76 (by decide) ?_
      refine lv_iadd hx hb dX7_list_77 ?_
      refine va_put (D := D) (ci := 7) (v := .int (M_lists + (1 : Int32))) (ty := .int) (C := RX7) (T := TX7) (N := 33) hx hb hts n_X7_list_X7 tyX7 tyX7_ok nmX7 hown hK hP hD hS 0 rfl rfl 20 (by decide) (hts _ w_X7_list_f205) (fun _ h9 => h9) rfl (by decide +kernel) rfl rfl (Nat.le_of_ble_eq_true rfl) dX7_list_78 (fun H locs hP hD hS => ?_)
      have hP : va_P D vwCl (wdX7 q y M_thrown M_text M_size M_has M_hand M_layers M_kinds M_names M_nameSizes M_thicknesses M_spreads M_coppers M_copperAt M_presses M_pressFrom M_pressTo M_vias M_viaFrom M_viaTo M_shares (M_lists + (1 : Int32)) M_hasRow M_rowLow M_rowHigh M_p M_s M_fault M_lines M_word M_wordSize M_out M_written M_secondOne) H := hP
      have hD : va_D A (wdX7 q y M_thrown M_text M_size M_has M_hand M_layers M_kinds M_names M_nameSizes M_thicknesses M_spreads M_coppers M_copperAt M_presses M_pressFrom M_pressTo M_vias M_viaFrom M_viaTo M_shares (M_lists + (1 : Int32)) M_hasRow M_rowLow M_rowHigh M_p M_s M_fault M_lines M_word M_wordSize M_out M_written M_secondOne) := hD
      refine lv_aload_n hx hb dX7_list_81 rfl (lv_at hl 0 rfl) ?_
      refine va_get (D := D) (ci := 7) (v := .int (M_lists + (1 : Int32))) (C := RX7) (T := TX7) (N := 33) hx hb hts n_X7_list_X7 hown hK hP 0 rfl rfl 20 (by decide) (hts _ w_X7_list_f205) (fun _ h9 => h9) rfl dX7_list_82 ?_
      refine lv_iconst (v := (1 : Int32)) hx hb dX7_list_85 (by decide) ?_
      refine lv_isub hx hb dX7_list_86 ?_
      have hz := Option.some.inj hm
      subst hz
      exact end_i C hK hP hD hS dX7_list_87
    · have hm := ie_of hm h_1
      refine lv_aload_n hx hb dX7_list_58 rfl (lv_at hl 0 rfl) ?_
      refine va_get (D := D) (ci := 7) (v := .ref (q 17)) (C := RX7) (T := TX7) (N := 33) hx hb hts n_X7_list_X7 hown hK hP 0 rfl rfl 21 (by decide) (hts _ w_X7_list_f59) (fun _ h9 => h9) rfl dX7_list_59 ?_
      refine lv_iload_n hx hb dX7_list_62 rfl (lv_at hl 1 rfl) ?_
      refine lv_iconst (v := (0 : Int32)) hx hb dX7_list_63 (by decide) ?_
      obtain ⟨hg_2, hm⟩ := mg_of hm
      refine va_zast hx hb hK hP hD hS 17 3 rfl rfl hg_2 dX7_list_64 (fun H locs hP hD hS => ?_)
      have hP : va_P D vwCl (wdX7 q y M_thrown M_text M_size M_has M_hand M_layers M_kinds M_names M_nameSizes M_thicknesses M_spreads M_coppers M_copperAt M_presses M_pressFrom M_pressTo M_vias M_viaFrom M_viaTo M_shares M_lists (upd M_hasRow (v1).toNatClampNeg (vp_nar .boolean (0 : Int32))) M_rowLow M_rowHigh M_p M_s M_fault M_lines M_word M_wordSize M_out M_written M_secondOne) H := hP
      have hD : va_D A (wdX7 q y M_thrown M_text M_size M_has M_hand M_layers M_kinds M_names M_nameSizes M_thicknesses M_spreads M_coppers M_copperAt M_presses M_pressFrom M_pressTo M_vias M_viaFrom M_viaTo M_shares M_lists (upd M_hasRow (v1).toNatClampNeg (vp_nar .boolean (0 : Int32))) M_rowLow M_rowHigh M_p M_s M_fault M_lines M_word M_wordSize M_out M_written M_secondOne) := hD
      obtain ⟨v1_3, ev1_3⟩ : ∃ y9 : Int32, y9 = (v1 + (1 : Int32)) := ⟨_, rfl⟩
      have hm := mn_of ev1_3 hm
      refine lv_iinc (v := v1_3) (lv' := [(1, .int v1_3), (0, .ref (q 0))]) hx hb dX7_list_65 hl (k := 1) rfl (by rw [ev1_3]; rfl) (by decide) rfl (fun ls hl => ?_)
      refine lv_goto (tgt := 44) hx hb dX7_list_68 (by decide) ?_
      exact ih v1_3 M_thrown M_lists (upd M_hasRow (v1).toNatClampNeg (vp_nar .boolean (0 : Int32))) _ _ _ hm hP hD hS (lv_sub hl [1, 0] rfl)
set_option maxHeartbeats 4000000 in
set_option maxRecDepth 100000 in
theorem k_X7_list_13 {p : Program} {l : Launch} {e : Env} {s : State} {m : MethodId} {args : Array Value} {below : List Frame} {meth : Method} {c : Code} {D : va_G} {y : Nat → ClassId} {A : Nat → Prop} {q : Nat → Nat} {M_text : Nat → Int32} {M_size : Int32} {M_has : Int32} {M_hand : Int32} {M_layers : Nat → Int32} {M_kinds : Nat → Int32} {M_names : Nat → Int64} {M_nameSizes : Nat → Int32} {M_thicknesses : Nat → Int64} {M_spreads : Nat → Int32} {M_coppers : Nat → Int32} {M_copperAt : Nat → Int32} {M_presses : Nat → Int32} {M_pressFrom : Nat → Int32} {M_pressTo : Nat → Int32} {M_vias : Nat → Int32} {M_viaFrom : Nat → Int32} {M_viaTo : Nat → Int32} {M_shares : Nat → Int32} {M_rowLow : Nat → Int64} {M_rowHigh : Nat → Int64} {M_p : Int32} {M_s : Int32} {M_fault : Int32} {M_lines : Int32} {M_word : Int64} {M_wordSize : Int32} {M_out : Nat → Int32} {M_written : Int32} {M_secondOne : Int32} {z : Int32 × Int32 × Int32 × (Nat → Int32)} (C : CX p s m args meth c wsX7_list RX7 cX7_list 2 (some .int)) (hA : ∀ q : Nat, s.heap.size ≤ q → A q) (hK : va_K D vwCl (tyl y) s) (F : Nat) :
    ∀ (st1 : Int32) (M_thrown : Int32) (M_lists : Int32) (M_hasRow : Nat → Int32) (H : Heap) (locs : List Loc) (ls : Array Slot), g_X7_list_13 F st1 M_thrown M_lists M_hasRow = some z → va_P D vwCl (wdX7 q y M_thrown M_text M_size M_has M_hand M_layers M_kinds M_names M_nameSizes M_thicknesses M_spreads M_coppers M_copperAt M_presses M_pressFrom M_pressTo M_vias M_viaFrom M_viaTo M_shares M_lists M_hasRow M_rowLow M_rowHigh M_p M_s M_fault M_lines M_word M_wordSize M_out M_written M_secondOne) H → va_D A (wdX7 q y M_thrown M_text M_size M_has M_hand M_layers M_kinds M_names M_nameSizes M_thicknesses M_spreads M_coppers M_copperAt M_presses M_pressFrom M_pressTo M_vias M_viaFrom M_viaTo M_shares M_lists M_hasRow M_rowLow M_rowHigh M_p M_s M_fault M_lines M_word M_wordSize M_out M_written M_secondOne) → va_S A s.heap H locs → lv_has ls 2 [(0, .ref (q 0))] → W p l e ({ frames := 0, cells := 0, slots := 0, locals := 0 } : Room) s m args below meth c H locs 0 0 (MQ below (QI D y A (z.1) (wdX7 q y (z.2.1) M_text M_size M_has M_hand M_layers M_kinds M_names M_nameSizes M_thicknesses M_spreads M_coppers M_copperAt M_presses M_pressFrom M_pressTo M_vias M_viaFrom M_viaTo M_shares (z.2.2.1) (z.2.2.2) M_rowLow M_rowHigh M_p M_s M_fault M_lines M_word M_wordSize M_out M_written M_secondOne)) args s 0 0 A) (F0 m 13 ls [.int st1, .ref (q 0)]) := by
  obtain ⟨⟨hx, hb, hml, hown, hts⟩, hr, hlocks⟩ := id C
  intro st1 M_thrown M_lists M_hasRow H locs ls hm hP hD hS hl
  unfold g_X7_list_13 at hm
  refine va_put (D := D) (ci := 7) (v := .int st1) (ty := .int) (C := RX7) (T := TX7) (N := 33) hx hb hts n_X7_list_X7 tyX7 tyX7_ok nmX7 hown hK hP hD hS 0 rfl rfl 0 (by decide) (hts _ w_X7_list_f72) (fun _ h9 => h9) rfl (by decide +kernel) rfl rfl (Nat.le_of_ble_eq_true rfl) dX7_list_13 (fun H locs hP hD hS => ?_)
  have hP : va_P D vwCl (wdX7 q y st1 M_text M_size M_has M_hand M_layers M_kinds M_names M_nameSizes M_thicknesses M_spreads M_coppers M_copperAt M_presses M_pressFrom M_pressTo M_vias M_viaFrom M_viaTo M_shares M_lists M_hasRow M_rowLow M_rowHigh M_p M_s M_fault M_lines M_word M_wordSize M_out M_written M_secondOne) H := hP
  have hD : va_D A (wdX7 q y st1 M_text M_size M_has M_hand M_layers M_kinds M_names M_nameSizes M_thicknesses M_spreads M_coppers M_copperAt M_presses M_pressFrom M_pressTo M_vias M_viaFrom M_viaTo M_shares M_lists M_hasRow M_rowLow M_rowHigh M_p M_s M_fault M_lines M_word M_wordSize M_out M_written M_secondOne) := hD
  refine lv_aload_n hx hb dX7_list_16 rfl (lv_at hl 0 rfl) ?_
  refine va_get (D := D) (ci := 7) (v := .int st1) (C := RX7) (T := TX7) (N := 33) hx hb hts n_X7_list_X7 hown hK hP 0 rfl rfl 0 (by decide) (hts _ w_X7_list_f72) (fun _ h9 => h9) rfl dX7_list_17 ?_
  refine lv_if_eq (tgt := 25) hx hb dX7_list_20 (by decide) (fun h_1 => ?_) (fun h_1 => ?_)
  · have hm := it_of hm h_1
    refine lv_aload_n hx hb dX7_list_25 rfl (lv_at hl 0 rfl) ?_
    refine va_get (D := D) (ci := 7) (v := .int M_lists) (C := RX7) (T := TX7) (N := 33) hx hb hts n_X7_list_X7 hown hK hP 0 rfl rfl 20 (by decide) (hts _ w_X7_list_f205) (fun _ h9 => h9) rfl dX7_list_26 ?_
    refine lv_bipush (v := (8 : Int32)) hx hb dX7_list_29 (by decide) ?_
    refine lv_icmp_ne (tgt := 36) hx hb dX7_list_31 (by decide) (fun h_2 => ?_) (fun h_2 => ?_)
    · have hm := ie_of hm h_2
      refine lv_bipush (v := (80 : Int32)) hx hb dX7_list_36 (by decide) ?_
      refine lv_aload_n hx hb dX7_list_38 rfl (lv_at hl 0 rfl) ?_
      refine va_get (D := D) (ci := 7) (v := .int M_lists) (C := RX7) (T := TX7) (N := 33) hx hb hts n_X7_list_X7 hown hK hP 0 rfl rfl 20 (by decide) (hts _ w_X7_list_f205) (fun _ h9 => h9) rfl dX7_list_39 ?_
      refine lv_imul hx hb dX7_list_42 ?_
      refine lv_topi (fun v1_3 ev1_3 => ?_)
      have hm := mn_of ev1_3 hm
      refine lv_istore_n (lv' := [(1, .int v1_3), (0, .ref (q 0))]) hx hb dX7_list_43 rfl hl (by decide) rfl (fun ls hl => ?_)
      exact k_X7_list_44 C hA hK F F v1_3 st1 M_lists M_hasRow _ _ _ hm hP hD hS (lv_sub hl [1, 0] rfl)
    · have hm := it_of hm h_2
      refine lv_iconst (v := (-1 : Int32)) hx hb dX7_list_34 (by decide) ?_
      have hz := Option.some.inj hm
      subst hz
      exact end_i C hK hP hD hS dX7_list_35
  · have hm := ie_of hm h_1
    refine lv_iconst (v := (0 : Int32)) hx hb dX7_list_23 (by decide) ?_
    have hz := Option.some.inj hm
    subst hz
    exact end_i C hK hP hD hS dX7_list_24
set_option maxHeartbeats 4000000 in
set_option maxRecDepth 100000 in
theorem c_X7_list (l : Launch) (D : va_G) (y : Nat → ClassId) (q : Nat → Nat) (sz : Nat) (F : Nat) {M_thrown : Int32} {M_text : Nat → Int32} {M_size : Int32} {M_has : Int32} {M_hand : Int32} {M_layers : Nat → Int32} {M_kinds : Nat → Int32} {M_names : Nat → Int64} {M_nameSizes : Nat → Int32} {M_thicknesses : Nat → Int64} {M_spreads : Nat → Int32} {M_coppers : Nat → Int32} {M_copperAt : Nat → Int32} {M_presses : Nat → Int32} {M_pressFrom : Nat → Int32} {M_pressTo : Nat → Int32} {M_vias : Nat → Int32} {M_viaFrom : Nat → Int32} {M_viaTo : Nat → Int32} {M_shares : Nat → Int32} {M_lists : Int32} {M_hasRow : Nat → Int32} {M_rowLow : Nat → Int64} {M_rowHigh : Nat → Int64} {M_p : Int32} {M_s : Int32} {M_fault : Int32} {M_lines : Int32} {M_word : Int64} {M_wordSize : Int32} {M_out : Nat → Int32} {M_written : Int32} {M_secondOne : Int32} {z : Int32 × Int32 × Int32 × (Nat → Int32)} (hm : f_X7_list F M_thrown M_has M_lists M_hasRow = some z) : Met l yX7_list wsX7_list ({ frames := 0, cells := 0, slots := 0, locals := 0 } : Room) (va_Pc [.ref (q 0)] (cP D y (wdX7 q y M_thrown M_text M_size M_has M_hand M_layers M_kinds M_names M_nameSizes M_thicknesses M_spreads M_coppers M_copperAt M_presses M_pressFrom M_pressTo M_vias M_viaFrom M_viaTo M_shares M_lists M_hasRow M_rowLow M_rowHigh M_p M_s M_fault M_lines M_word M_wordSize M_out M_written M_secondOne) sz)) (QI D y (va_A (wdX7 q y M_thrown M_text M_size M_has M_hand M_layers M_kinds M_names M_nameSizes M_thicknesses M_spreads M_coppers M_copperAt M_presses M_pressFrom M_pressTo M_vias M_viaFrom M_viaTo M_shares M_lists M_hasRow M_rowLow M_rowHigh M_p M_s M_fault M_lines M_word M_wordSize M_out M_written M_secondOne) sz) (z.1) (wdX7 q y (z.2.1) M_text M_size M_has M_hand M_layers M_kinds M_names M_nameSizes M_thicknesses M_spreads M_coppers M_copperAt M_presses M_pressFrom M_pressTo M_vias M_viaFrom M_viaTo M_shares (z.2.2.1) (z.2.2.2) M_rowLow M_rowHigh M_p M_s M_fault M_lines M_word M_wordSize M_out M_written M_secondOne)) 0 0 (va_A (wdX7 q y M_thrown M_text M_size M_has M_hand M_layers M_kinds M_names M_nameSizes M_thicknesses M_spreads M_coppers M_copperAt M_presses M_pressFrom M_pressTo M_vias M_viaFrom M_viaTo M_shares M_lists M_hasRow M_rowLow M_rowHigh M_p M_s M_fault M_lines M_word M_wordSize M_out M_written M_secondOne) sz) := by
  refine met_of (own := RX7) (cc := cX7_list) (maxL := 2) (ret := (some .int)) (by decide) rfl rfl (Nat.le_of_ble_eq_true rfl) ?_
  intro p e s m below meth c ls C hsz hK hP hD hA hS hl
  obtain ⟨⟨hx, hb, hml, hown, hts⟩, hr, hlocks⟩ := id C
  have hl : lv_has ls 2 [(0, .ref (q 0))] := hl
  generalize va_A (wdX7 q y M_thrown M_text M_size M_has M_hand M_layers M_kinds M_names M_nameSizes M_thicknesses M_spreads M_coppers M_copperAt M_presses M_pressFrom M_pressTo M_vias M_viaFrom M_viaTo M_shares M_lists M_hasRow M_rowLow M_rowHigh M_p M_s M_fault M_lines M_word M_wordSize M_out M_written M_secondOne) sz = A at hD hA hS ⊢
  generalize ([.ref (q 0)] : List Value).toArray = args at C hts ⊢
  unfold f_X7_list at hm
  refine lv_aload_n hx hb dX7_list_0 rfl (lv_at hl 0 rfl) ?_
  refine lv_aload_n hx hb dX7_list_1 rfl (lv_at hl 0 rfl) ?_
  refine va_get (D := D) (ci := 7) (v := .int M_has) (C := RX7) (T := TX7) (N := 33) hx hb hts n_X7_list_X7 hown hK hP 0 rfl rfl 3 (by decide) (hts _ w_X7_list_f201) (fun _ h9 => h9) rfl dX7_list_2 ?_
  refine lv_if_eq (tgt := 12) hx hb dX7_list_5 (by decide) (fun h_1 => ?_) (fun h_1 => ?_)
  · have hm := it_of hm h_1
    refine lv_iconst (v := (1 : Int32)) hx hb dX7_list_12 (by decide) ?_
    exact k_X7_list_13 C hA hK F (1 : Int32) M_thrown M_lists M_hasRow _ _ _ hm hP hD hS (lv_sub hl [0] rfl)
  · have hm := ie_of hm h_1
    refine lv_iconst (v := (0 : Int32)) hx hb dX7_list_8 (by decide) ?_
    refine lv_goto (tgt := 13) hx hb dX7_list_9 (by decide) ?_
    exact k_X7_list_13 C hA hK F (0 : Int32) M_thrown M_lists M_hasRow _ _ _ hm hP hD hS (lv_sub hl [0] rfl)
def f_X7_isList (F : Nat) (v1 : Int32) (M_lists : Int32) : Option (Int32) := (if v1 < 0 then some (0 : Int32) else (if M_lists ≤ v1 then some (0 : Int32) else some (1 : Int32)))
set_option maxRecDepth 20000 in
theorem n_X7_isList_X7 : ∀ w ∈ wsX70, w ∈ wsX7_isList := by decide +kernel
set_option maxRecDepth 20000 in
theorem w_X7_isList_f205 : Cond.fieldLink RX7 205 "LayerStacksModel" "lists" "I" ∈ wsX7_isList := by decide +kernel
set_option maxHeartbeats 4000000 in
set_option maxRecDepth 100000 in
theorem c_X7_isList (l : Launch) (D : va_G) (y : Nat → ClassId) (q : Nat → Nat) (sz : Nat) (F : Nat) {v1 : Int32} {M_thrown : Int32} {M_text : Nat → Int32} {M_size : Int32} {M_has : Int32} {M_hand : Int32} {M_layers : Nat → Int32} {M_kinds : Nat → Int32} {M_names : Nat → Int64} {M_nameSizes : Nat → Int32} {M_thicknesses : Nat → Int64} {M_spreads : Nat → Int32} {M_coppers : Nat → Int32} {M_copperAt : Nat → Int32} {M_presses : Nat → Int32} {M_pressFrom : Nat → Int32} {M_pressTo : Nat → Int32} {M_vias : Nat → Int32} {M_viaFrom : Nat → Int32} {M_viaTo : Nat → Int32} {M_shares : Nat → Int32} {M_lists : Int32} {M_hasRow : Nat → Int32} {M_rowLow : Nat → Int64} {M_rowHigh : Nat → Int64} {M_p : Int32} {M_s : Int32} {M_fault : Int32} {M_lines : Int32} {M_word : Int64} {M_wordSize : Int32} {M_out : Nat → Int32} {M_written : Int32} {M_secondOne : Int32} {z : Int32} (hm : f_X7_isList F v1 M_lists = some z) : Met l yX7_isList wsX7_isList ({ frames := 0, cells := 0, slots := 0, locals := 0 } : Room) (va_Pc [.ref (q 0), .int v1] (cP D y (wdX7 q y M_thrown M_text M_size M_has M_hand M_layers M_kinds M_names M_nameSizes M_thicknesses M_spreads M_coppers M_copperAt M_presses M_pressFrom M_pressTo M_vias M_viaFrom M_viaTo M_shares M_lists M_hasRow M_rowLow M_rowHigh M_p M_s M_fault M_lines M_word M_wordSize M_out M_written M_secondOne) sz)) (QI D y (va_A (wdX7 q y M_thrown M_text M_size M_has M_hand M_layers M_kinds M_names M_nameSizes M_thicknesses M_spreads M_coppers M_copperAt M_presses M_pressFrom M_pressTo M_vias M_viaFrom M_viaTo M_shares M_lists M_hasRow M_rowLow M_rowHigh M_p M_s M_fault M_lines M_word M_wordSize M_out M_written M_secondOne) sz) (z) (wdX7 q y M_thrown M_text M_size M_has M_hand M_layers M_kinds M_names M_nameSizes M_thicknesses M_spreads M_coppers M_copperAt M_presses M_pressFrom M_pressTo M_vias M_viaFrom M_viaTo M_shares M_lists M_hasRow M_rowLow M_rowHigh M_p M_s M_fault M_lines M_word M_wordSize M_out M_written M_secondOne)) 0 0 (va_A (wdX7 q y M_thrown M_text M_size M_has M_hand M_layers M_kinds M_names M_nameSizes M_thicknesses M_spreads M_coppers M_copperAt M_presses M_pressFrom M_pressTo M_vias M_viaFrom M_viaTo M_shares M_lists M_hasRow M_rowLow M_rowHigh M_p M_s M_fault M_lines M_word M_wordSize M_out M_written M_secondOne) sz) := by
  refine met_of (own := RX7) (cc := cX7_isList) (maxL := 2) (ret := (some .boolean)) (by decide) rfl rfl (Nat.le_of_ble_eq_true rfl) ?_
  intro p e s m below meth c ls C hsz hK hP hD hA hS hl
  obtain ⟨⟨hx, hb, hml, hown, hts⟩, hr, hlocks⟩ := id C
  have hl : lv_has ls 2 [(0, .ref (q 0)), (1, .int v1)] := hl
  generalize va_A (wdX7 q y M_thrown M_text M_size M_has M_hand M_layers M_kinds M_names M_nameSizes M_thicknesses M_spreads M_coppers M_copperAt M_presses M_pressFrom M_pressTo M_vias M_viaFrom M_viaTo M_shares M_lists M_hasRow M_rowLow M_rowHigh M_p M_s M_fault M_lines M_word M_wordSize M_out M_written M_secondOne) sz = A at hD hA hS ⊢
  generalize ([.ref (q 0), .int v1] : List Value).toArray = args at C hts ⊢
  unfold f_X7_isList at hm
  refine lv_iload_n hx hb dX7_isList_0 rfl (lv_at hl 1 rfl) ?_
  refine lv_if_lt (tgt := 16) hx hb dX7_isList_1 (by decide) (fun h_1 => ?_) (fun h_1 => ?_)
  · have hm := it_of hm h_1
    refine lv_iconst (v := (0 : Int32)) hx hb dX7_isList_16 (by decide) ?_
    have hz := Option.some.inj hm
    subst hz
    exact end_z C hK hP hD hS (show vp_nar .boolean (0 : Int32) = (0 : Int32) from by decide) dX7_isList_17
  · have hm := ie_of hm h_1
    refine lv_iload_n hx hb dX7_isList_4 rfl (lv_at hl 1 rfl) ?_
    refine lv_aload_n hx hb dX7_isList_5 rfl (lv_at hl 0 rfl) ?_
    refine va_get (D := D) (ci := 7) (v := .int M_lists) (C := RX7) (T := TX7) (N := 33) hx hb hts n_X7_isList_X7 hown hK hP 0 rfl rfl 20 (by decide) (hts _ w_X7_isList_f205) (fun _ h9 => h9) rfl dX7_isList_6 ?_
    refine lv_icmp_ge (tgt := 16) hx hb dX7_isList_9 (by decide) (fun h_2 => ?_) (fun h_2 => ?_)
    · have hm := it_of hm h_2
      refine lv_iconst (v := (0 : Int32)) hx hb dX7_isList_16 (by decide) ?_
      have hz := Option.some.inj hm
      subst hz
      exact end_z C hK hP hD hS (show vp_nar .boolean (0 : Int32) = (0 : Int32) from by decide) dX7_isList_17
    · have hm := ie_of hm h_2
      refine lv_iconst (v := (1 : Int32)) hx hb dX7_isList_12 (by decide) ?_
      refine lv_goto (tgt := 17) hx hb dX7_isList_13 (by decide) ?_
      have hz := Option.some.inj hm
      subst hz
      exact end_z C hK hP hD hS (show vp_nar .boolean (1 : Int32) = (1 : Int32) from by decide) dX7_isList_17
