def g_X7_isSign_12 (F : Nat) (v0 : Int32) : Option (Int32) := (if v0 < (65 : Int32) then (if v0 < (97 : Int32) then some (0 : Int32) else (if (122 : Int32) < v0 then some (0 : Int32) else some (1 : Int32))) else (if v0 ≤ (90 : Int32) then some (1 : Int32) else (if v0 < (97 : Int32) then some (0 : Int32) else (if (122 : Int32) < v0 then some (0 : Int32) else some (1 : Int32)))))
def f_X7_isSign (F : Nat) (v0 : Int32) : Option (Int32) := (if v0 < (48 : Int32) then g_X7_isSign_12 F v0 else (if v0 ≤ (57 : Int32) then some (1 : Int32) else g_X7_isSign_12 F v0))
set_option maxHeartbeats 4000000 in
set_option maxRecDepth 100000 in
theorem k_X7_isSign_12 {p : Program} {l : Launch} {e : Env} {s : State} {m : MethodId} {args : Array Value} {below : List Frame} {meth : Method} {c : Code} {D : va_G} {y : Nat → ClassId} {A : Nat → Prop} {z : Int32} (C : CX p s m args meth c wsX7_isSign RX7 cX7_isSign 1 (some .boolean)) (hA : ∀ q : Nat, s.heap.size ≤ q → A q) (hK : va_K D vwCl (tyl y) s) (F : Nat) :
    ∀ (v0 : Int32) (H : Heap) (locs : List Loc) (ls : Array Slot), g_X7_isSign_12 F v0 = some z → va_P D vwCl ([] : va_W) H → va_D A ([] : va_W) → va_S A s.heap H locs → lv_has ls 1 [(0, .int v0)] → W p l e ({ frames := 0, cells := 0, slots := 0, locals := 0 } : Room) s m args below meth c H locs 0 0 (MQ below (QI D y A (z) ([] : va_W)) args s 0 0 A) (F0 m 12 ls []) := by
  obtain ⟨⟨hx, hb, hml, hown, hts⟩, hr, hlocks⟩ := id C
  intro v0 H locs ls hm hP hD hS hl
  unfold g_X7_isSign_12 at hm
  refine lv_iload_n hx hb dX7_isSign_12 rfl (lv_at hl 0 rfl) ?_
  refine lv_bipush (v := (65 : Int32)) hx hb dX7_isSign_13 (by decide) ?_
  refine lv_icmp_lt (tgt := 24) hx hb dX7_isSign_15 (by decide) (fun h_1 => ?_) (fun h_1 => ?_)
  · have hm := it_of hm h_1
    refine lv_iload_n hx hb dX7_isSign_24 rfl (lv_at hl 0 rfl) ?_
    refine lv_bipush (v := (97 : Int32)) hx hb dX7_isSign_25 (by decide) ?_
    refine lv_icmp_lt (tgt := 40) hx hb dX7_isSign_27 (by decide) (fun h_2 => ?_) (fun h_2 => ?_)
    · have hm := it_of hm h_2
      refine lv_iconst (v := (0 : Int32)) hx hb dX7_isSign_40 (by decide) ?_
      have hz := Option.some.inj hm
      subst hz
      exact end_z C hK hP hD hS (show vp_nar .boolean (0 : Int32) = (0 : Int32) from by decide) dX7_isSign_41
    · have hm := ie_of hm h_2
      refine lv_iload_n hx hb dX7_isSign_30 rfl (lv_at hl 0 rfl) ?_
      refine lv_bipush (v := (122 : Int32)) hx hb dX7_isSign_31 (by decide) ?_
      refine lv_icmp_gt (tgt := 40) hx hb dX7_isSign_33 (by decide) (fun h_3 => ?_) (fun h_3 => ?_)
      · have hm := it_of hm h_3
        refine lv_iconst (v := (0 : Int32)) hx hb dX7_isSign_40 (by decide) ?_
        have hz := Option.some.inj hm
        subst hz
        exact end_z C hK hP hD hS (show vp_nar .boolean (0 : Int32) = (0 : Int32) from by decide) dX7_isSign_41
      · have hm := ie_of hm h_3
        refine lv_iconst (v := (1 : Int32)) hx hb dX7_isSign_36 (by decide) ?_
        refine lv_goto (tgt := 41) hx hb dX7_isSign_37 (by decide) ?_
        have hz := Option.some.inj hm
        subst hz
        exact end_z C hK hP hD hS (show vp_nar .boolean (1 : Int32) = (1 : Int32) from by decide) dX7_isSign_41
  · have hm := ie_of hm h_1
    refine lv_iload_n hx hb dX7_isSign_18 rfl (lv_at hl 0 rfl) ?_
    refine lv_bipush (v := (90 : Int32)) hx hb dX7_isSign_19 (by decide) ?_
    refine lv_icmp_le (tgt := 36) hx hb dX7_isSign_21 (by decide) (fun h_4 => ?_) (fun h_4 => ?_)
    · have hm := it_of hm h_4
      refine lv_iconst (v := (1 : Int32)) hx hb dX7_isSign_36 (by decide) ?_
      refine lv_goto (tgt := 41) hx hb dX7_isSign_37 (by decide) ?_
      have hz := Option.some.inj hm
      subst hz
      exact end_z C hK hP hD hS (show vp_nar .boolean (1 : Int32) = (1 : Int32) from by decide) dX7_isSign_41
    · have hm := ie_of hm h_4
      refine lv_iload_n hx hb dX7_isSign_24 rfl (lv_at hl 0 rfl) ?_
      refine lv_bipush (v := (97 : Int32)) hx hb dX7_isSign_25 (by decide) ?_
      refine lv_icmp_lt (tgt := 40) hx hb dX7_isSign_27 (by decide) (fun h_5 => ?_) (fun h_5 => ?_)
      · have hm := it_of hm h_5
        refine lv_iconst (v := (0 : Int32)) hx hb dX7_isSign_40 (by decide) ?_
        have hz := Option.some.inj hm
        subst hz
        exact end_z C hK hP hD hS (show vp_nar .boolean (0 : Int32) = (0 : Int32) from by decide) dX7_isSign_41
      · have hm := ie_of hm h_5
        refine lv_iload_n hx hb dX7_isSign_30 rfl (lv_at hl 0 rfl) ?_
        refine lv_bipush (v := (122 : Int32)) hx hb dX7_isSign_31 (by decide) ?_
        refine lv_icmp_gt (tgt := 40) hx hb dX7_isSign_33 (by decide) (fun h_6 => ?_) (fun h_6 => ?_)
        · have hm := it_of hm h_6
          refine lv_iconst (v := (0 : Int32)) hx hb dX7_isSign_40 (by decide) ?_
          have hz := Option.some.inj hm
          subst hz
          exact end_z C hK hP hD hS (show vp_nar .boolean (0 : Int32) = (0 : Int32) from by decide) dX7_isSign_41
        · have hm := ie_of hm h_6
          refine lv_iconst (v := (1 : Int32)) hx hb dX7_isSign_36 (by decide) ?_
          refine lv_goto (tgt := 41) hx hb dX7_isSign_37 (by decide) ?_
          have hz := Option.some.inj hm
          subst hz
          exact end_z C hK hP hD hS (show vp_nar .boolean (1 : Int32) = (1 : Int32) from by decide) dX7_isSign_41
set_option maxHeartbeats 4000000 in
set_option maxRecDepth 100000 in
theorem c_X7_isSign (l : Launch) (D : va_G) (y : Nat → ClassId) (sz : Nat) (F : Nat) {v0 : Int32} {z : Int32} (hm : f_X7_isSign F v0 = some z) : Met l yX7_isSign wsX7_isSign ({ frames := 0, cells := 0, slots := 0, locals := 0 } : Room) (va_Pc [.int v0] (cP D y ([] : va_W) sz)) (QI D y (va_A ([] : va_W) sz) (z) ([] : va_W)) 0 0 (va_A ([] : va_W) sz) := by
  refine met_of (own := RX7) (cc := cX7_isSign) (maxL := 1) (ret := (some .boolean)) (by decide) rfl rfl (Nat.le_of_ble_eq_true rfl) ?_
  intro p e s m below meth c ls C hsz hK hP hD hA hS hl
  obtain ⟨⟨hx, hb, hml, hown, hts⟩, hr, hlocks⟩ := id C
  have hl : lv_has ls 1 [(0, .int v0)] := hl
  generalize va_A ([] : va_W) sz = A at hD hA hS ⊢
  generalize ([.int v0] : List Value).toArray = args at C hts ⊢
  unfold f_X7_isSign at hm
  refine lv_iload_n hx hb dX7_isSign_0 rfl (lv_at hl 0 rfl) ?_
  refine lv_bipush (v := (48 : Int32)) hx hb dX7_isSign_1 (by decide) ?_
  refine lv_icmp_lt (tgt := 12) hx hb dX7_isSign_3 (by decide) (fun h_1 => ?_) (fun h_1 => ?_)
  · have hm := it_of hm h_1
    exact k_X7_isSign_12 C hA hK F v0 _ _ _ hm hP hD hS (lv_sub hl [0] rfl)
  · have hm := ie_of hm h_1
    refine lv_iload_n hx hb dX7_isSign_6 rfl (lv_at hl 0 rfl) ?_
    refine lv_bipush (v := (57 : Int32)) hx hb dX7_isSign_7 (by decide) ?_
    refine lv_icmp_le (tgt := 36) hx hb dX7_isSign_9 (by decide) (fun h_2 => ?_) (fun h_2 => ?_)
    · have hm := it_of hm h_2
      refine lv_iconst (v := (1 : Int32)) hx hb dX7_isSign_36 (by decide) ?_
      refine lv_goto (tgt := 41) hx hb dX7_isSign_37 (by decide) ?_
      have hz := Option.some.inj hm
      subst hz
      exact end_z C hK hP hD hS (show vp_nar .boolean (1 : Int32) = (1 : Int32) from by decide) dX7_isSign_41
    · have hm := ie_of hm h_2
      exact k_X7_isSign_12 C hA hK F v0 _ _ _ hm hP hD hS (lv_sub hl [0] rfl)
def g_X7_name_87 (F : Nat) (M_p : Int32) (M_fault : Int32) (M_word : Int64) (M_wordSize : Int32) : Option (Int32 × Int32 × Int64 × Int32) := mb1 (f_X7_good F M_fault) (fun r_1 => (if r_1 = 0 then some (M_p, M_fault, M_word, M_wordSize) else (if M_wordSize = 0 then mb1 (f_X7_fail F M_p M_fault) (fun M_fault_5 => some (M_p, M_fault_5, M_word, M_wordSize)) else some (M_p, M_fault, M_word, M_wordSize))))
def g_X7_name_10 (F : Nat) : Nat → (Nat → Int32) → Int32 → Int32 → Int32 → Int64 → Int32 → Option (Int32 × Int32 × Int64 × Int32)
  | 0, _, _, _, _, _, _ => none
  | n + 1, M_text, M_size, M_p, M_fault, M_word, M_wordSize => mb1 (f_X7_good F M_fault) (fun r_1 => (if r_1 = 0 then g_X7_name_87 F M_p M_fault M_word M_wordSize else mb1 (f_X7_c F M_text M_size M_p) (fun r_4 => mb1 (f_X7_isSign F r_4) (fun r_6 => (if r_6 = 0 then g_X7_name_87 F M_p M_fault M_word M_wordSize else (if M_wordSize = (8 : Int32) then mb1 (f_X7_fail F M_p M_fault) (fun M_fault_12 => g_X7_name_10 F n M_text M_size M_p M_fault_12 M_word M_wordSize) else mb1 (f_X7_c F M_text M_size M_p) (fun r_10 => g_X7_name_10 F n M_text M_size (M_p + (1 : Int32)) M_fault ((M_word <<< (((7 : Int32)).toInt64 &&& 63)) ||| ((r_10).toInt64)) (M_wordSize + (1 : Int32)))))))))
theorem g_X7_name_10_z (F : Nat) (M_text : Nat → Int32) (M_size : Int32) (M_p : Int32) (M_fault : Int32) (M_word : Int64) (M_wordSize : Int32) : g_X7_name_10 F 0 M_text M_size M_p M_fault M_word M_wordSize = none := rfl
theorem g_X7_name_10_s (F : Nat) (n : Nat) (M_text : Nat → Int32) (M_size : Int32) (M_p : Int32) (M_fault : Int32) (M_word : Int64) (M_wordSize : Int32) : g_X7_name_10 F (n + 1) M_text M_size M_p M_fault M_word M_wordSize = mb1 (f_X7_good F M_fault) (fun r_1 => (if r_1 = 0 then g_X7_name_87 F M_p M_fault M_word M_wordSize else mb1 (f_X7_c F M_text M_size M_p) (fun r_4 => mb1 (f_X7_isSign F r_4) (fun r_6 => (if r_6 = 0 then g_X7_name_87 F M_p M_fault M_word M_wordSize else (if M_wordSize = (8 : Int32) then mb1 (f_X7_fail F M_p M_fault) (fun M_fault_12 => g_X7_name_10 F n M_text M_size M_p M_fault_12 M_word M_wordSize) else mb1 (f_X7_c F M_text M_size M_p) (fun r_10 => g_X7_name_10 F n M_text M_size (M_p + (1 : Int32)) M_fault ((M_word <<< (((7 : Int32)).toInt64 &&& 63)) ||| ((r_10).toInt64)) (M_wordSize + (1 : Int32))))))))) := rfl
def f_X7_name (F : Nat) (M_text : Nat → Int32) (M_size : Int32) (M_p : Int32) (M_fault : Int32) (M_word : Int64) (M_wordSize : Int32) : Option (Int32 × Int32 × Int64 × Int32) := g_X7_name_10 F F M_text M_size M_p M_fault (0 : Int64) (0 : Int32)
set_option maxRecDepth 20000 in
theorem n_X7_name_X7 : ∀ w ∈ wsX70, w ∈ wsX7_name := by decide +kernel
set_option maxRecDepth 20000 in
theorem w_X7_name_f117 : Cond.fieldLink RX7 117 "LayerStacksModel" "wordSize" "I" ∈ wsX7_name := by decide +kernel
set_option maxRecDepth 20000 in
theorem w_X7_name_f113 : Cond.fieldLink RX7 113 "LayerStacksModel" "word" "J" ∈ wsX7_name := by decide +kernel
set_option maxRecDepth 20000 in
theorem w_X7_name_f79 : Cond.fieldLink RX7 79 "LayerStacksModel" "p" "I" ∈ wsX7_name := by decide +kernel
set_option maxHeartbeats 4000000 in
set_option maxRecDepth 100000 in
theorem k_X7_name_87 {p : Program} {l : Launch} {e : Env} {s : State} {m : MethodId} {args : Array Value} {below : List Frame} {meth : Method} {c : Code} {D : va_G} {y : Nat → ClassId} {A : Nat → Prop} {q : Nat → Nat} {M_thrown : Int32} {M_text : Nat → Int32} {M_size : Int32} {M_has : Int32} {M_hand : Int32} {M_layers : Nat → Int32} {M_kinds : Nat → Int32} {M_names : Nat → Int64} {M_nameSizes : Nat → Int32} {M_thicknesses : Nat → Int64} {M_spreads : Nat → Int32} {M_coppers : Nat → Int32} {M_copperAt : Nat → Int32} {M_presses : Nat → Int32} {M_pressFrom : Nat → Int32} {M_pressTo : Nat → Int32} {M_vias : Nat → Int32} {M_viaFrom : Nat → Int32} {M_viaTo : Nat → Int32} {M_shares : Nat → Int32} {M_lists : Int32} {M_hasRow : Nat → Int32} {M_rowLow : Nat → Int64} {M_rowHigh : Nat → Int64} {M_s : Int32} {M_lines : Int32} {M_out : Nat → Int32} {M_written : Int32} {M_secondOne : Int32} {z : Int32 × Int32 × Int64 × Int32} (C : CX p s m args meth c wsX7_name RX7 cX7_name 1 none) (hA : ∀ q : Nat, s.heap.size ≤ q → A q) (hK : va_K D vwCl (tyl y) s) (F : Nat) :
    ∀ (M_p : Int32) (M_fault : Int32) (M_word : Int64) (M_wordSize : Int32) (H : Heap) (locs : List Loc) (ls : Array Slot), g_X7_name_87 F M_p M_fault M_word M_wordSize = some z → va_P D vwCl (wdX7 q y M_thrown M_text M_size M_has M_hand M_layers M_kinds M_names M_nameSizes M_thicknesses M_spreads M_coppers M_copperAt M_presses M_pressFrom M_pressTo M_vias M_viaFrom M_viaTo M_shares M_lists M_hasRow M_rowLow M_rowHigh M_p M_s M_fault M_lines M_word M_wordSize M_out M_written M_secondOne) H → va_D A (wdX7 q y M_thrown M_text M_size M_has M_hand M_layers M_kinds M_names M_nameSizes M_thicknesses M_spreads M_coppers M_copperAt M_presses M_pressFrom M_pressTo M_vias M_viaFrom M_viaTo M_shares M_lists M_hasRow M_rowLow M_rowHigh M_p M_s M_fault M_lines M_word M_wordSize M_out M_written M_secondOne) → va_S A s.heap H locs → lv_has ls 1 [(0, .ref (q 0))] → W p l e ({ frames := 1, cells := 0, slots := 0, locals := 21 } : Room) s m args below meth c H locs 0 0 (MQ below (QV D y A (wdX7 q y M_thrown M_text M_size M_has M_hand M_layers M_kinds M_names M_nameSizes M_thicknesses M_spreads M_coppers M_copperAt M_presses M_pressFrom M_pressTo M_vias M_viaFrom M_viaTo M_shares M_lists M_hasRow M_rowLow M_rowHigh (z.1) M_s (z.2.1) M_lines (z.2.2.1) (z.2.2.2) M_out M_written M_secondOne)) args s 0 0 A) (F0 m 87 ls []) := by
  obtain ⟨⟨hx, hb, hml, hown, hts⟩, hr, hlocks⟩ := id C
  intro M_p M_fault M_word M_wordSize H locs ls hm hP hD hS hl
  unfold g_X7_name_87 at hm
  refine lv_aload_n hx hb dX7_name_87 rfl (lv_at hl 0 rfl) ?_
  obtain ⟨r_1, hc_2, hm⟩ := mb1_of hm
  refine call_vi (wc := (wdX7 q y M_thrown M_text M_size M_has M_hand M_layers M_kinds M_names M_nameSizes M_thicknesses M_spreads M_coppers M_copperAt M_presses M_pressFrom M_pressTo M_vias M_viaFrom M_viaTo M_shares M_lists M_hasRow M_rowLow M_rowHigh M_p M_s M_fault M_lines M_word M_wordSize M_out M_written M_secondOne)) (wr := []) (As := []) (rest := []) C (c_X7_good l D y q _ F hc_2) (cwV 0 hts gX7_name_X7_good rfl rfl rfl (by decide +kernel) ⟨Nat.le_of_ble_eq_true rfl, Nat.le_of_ble_eq_true rfl⟩) hK hP hD hS hA [0, 1, 2, 3, 4, 5, 6, 7, 8, 9, 10, 11, 12, 13, 14, 15, 16, 17, 18, 19, 20] [] rfl rfl rfl rfl rfl (by decide) rfl rfl rfl rfl hl.1 (Nat.le_of_ble_eq_true rfl) dX7_name_88 (fun H locs hP hD hS => ?_)
  have hP : va_P D vwCl (wdX7 q y M_thrown M_text M_size M_has M_hand M_layers M_kinds M_names M_nameSizes M_thicknesses M_spreads M_coppers M_copperAt M_presses M_pressFrom M_pressTo M_vias M_viaFrom M_viaTo M_shares M_lists M_hasRow M_rowLow M_rowHigh M_p M_s M_fault M_lines M_word M_wordSize M_out M_written M_secondOne) H := hP
  have hD : va_D A (wdX7 q y M_thrown M_text M_size M_has M_hand M_layers M_kinds M_names M_nameSizes M_thicknesses M_spreads M_coppers M_copperAt M_presses M_pressFrom M_pressTo M_vias M_viaFrom M_viaTo M_shares M_lists M_hasRow M_rowLow M_rowHigh M_p M_s M_fault M_lines M_word M_wordSize M_out M_written M_secondOne) := hD
  refine lv_if_eq (tgt := 109) hx hb dX7_name_91 (by decide) (fun h_3 => ?_) (fun h_3 => ?_)
  · have hm := it_of hm h_3
    have hz := Option.some.inj hm
    subst hz
    exact end_v C hK hP hD hS dX7_name_109
  · have hm := ie_of hm h_3
    refine lv_aload_n hx hb dX7_name_94 rfl (lv_at hl 0 rfl) ?_
    refine va_get (D := D) (ci := 7) (v := .int M_wordSize) (C := RX7) (T := TX7) (N := 33) hx hb hts n_X7_name_X7 hown hK hP 0 rfl rfl 29 (by decide) (hts _ w_X7_name_f117) (fun _ h9 => h9) rfl dX7_name_95 ?_
    refine lv_if_ne (tgt := 109) hx hb dX7_name_98 (by decide) (fun h_4 => ?_) (fun h_4 => ?_)
    · have hm := ie_of hm h_4
      have hz := Option.some.inj hm
      subst hz
      exact end_v C hK hP hD hS dX7_name_109
    · have hm := it_of hm h_4
      refine lv_aload_n hx hb dX7_name_101 rfl (lv_at hl 0 rfl) ?_
      refine lv_aload_n hx hb dX7_name_102 rfl (lv_at hl 0 rfl) ?_
      refine va_get (D := D) (ci := 7) (v := .int M_p) (C := RX7) (T := TX7) (N := 33) hx hb hts n_X7_name_X7 hown hK hP 0 rfl rfl 24 (by decide) (hts _ w_X7_name_f79) (fun _ h9 => h9) rfl dX7_name_103 ?_
      obtain ⟨M_fault_5, hc_6, hm⟩ := mb1_of hm
      refine call_vv (wc := (wdX7 q y M_thrown M_text M_size M_has M_hand M_layers M_kinds M_names M_nameSizes M_thicknesses M_spreads M_coppers M_copperAt M_presses M_pressFrom M_pressTo M_vias M_viaFrom M_viaTo M_shares M_lists M_hasRow M_rowLow M_rowHigh M_p M_s M_fault M_lines M_word M_wordSize M_out M_written M_secondOne)) (wr := []) (As := [.int M_p]) (rest := []) C (c_X7_fail l D y q _ F hc_6) (cwV 1 hts gX7_name_X7_fail rfl rfl rfl (by decide +kernel) ⟨Nat.le_of_ble_eq_true rfl, Nat.le_of_ble_eq_true rfl⟩) hK hP hD hS hA [0, 1, 2, 3, 4, 5, 6, 7, 8, 9, 10, 11, 12, 13, 14, 15, 16, 17, 18, 19, 20] [] rfl rfl rfl rfl rfl (by decide) rfl rfl rfl rfl hl.1 (Nat.le_of_ble_eq_true rfl) dX7_name_106 (fun H locs hP hD hS => ?_)
      have hP : va_P D vwCl (wdX7 q y M_thrown M_text M_size M_has M_hand M_layers M_kinds M_names M_nameSizes M_thicknesses M_spreads M_coppers M_copperAt M_presses M_pressFrom M_pressTo M_vias M_viaFrom M_viaTo M_shares M_lists M_hasRow M_rowLow M_rowHigh M_p M_s M_fault_5 M_lines M_word M_wordSize M_out M_written M_secondOne) H := hP
      have hD : va_D A (wdX7 q y M_thrown M_text M_size M_has M_hand M_layers M_kinds M_names M_nameSizes M_thicknesses M_spreads M_coppers M_copperAt M_presses M_pressFrom M_pressTo M_vias M_viaFrom M_viaTo M_shares M_lists M_hasRow M_rowLow M_rowHigh M_p M_s M_fault_5 M_lines M_word M_wordSize M_out M_written M_secondOne) := hD
      have hz := Option.some.inj hm
      subst hz
      exact end_v C hK hP hD hS dX7_name_109
set_option maxHeartbeats 4000000 in
set_option maxRecDepth 100000 in
theorem k_X7_name_10 {p : Program} {l : Launch} {e : Env} {s : State} {m : MethodId} {args : Array Value} {below : List Frame} {meth : Method} {c : Code} {D : va_G} {y : Nat → ClassId} {A : Nat → Prop} {q : Nat → Nat} {M_thrown : Int32} {M_has : Int32} {M_hand : Int32} {M_layers : Nat → Int32} {M_kinds : Nat → Int32} {M_names : Nat → Int64} {M_nameSizes : Nat → Int32} {M_thicknesses : Nat → Int64} {M_spreads : Nat → Int32} {M_coppers : Nat → Int32} {M_copperAt : Nat → Int32} {M_presses : Nat → Int32} {M_pressFrom : Nat → Int32} {M_pressTo : Nat → Int32} {M_vias : Nat → Int32} {M_viaFrom : Nat → Int32} {M_viaTo : Nat → Int32} {M_shares : Nat → Int32} {M_lists : Int32} {M_hasRow : Nat → Int32} {M_rowLow : Nat → Int64} {M_rowHigh : Nat → Int64} {M_s : Int32} {M_lines : Int32} {M_out : Nat → Int32} {M_written : Int32} {M_secondOne : Int32} {z : Int32 × Int32 × Int64 × Int32} (C : CX p s m args meth c wsX7_name RX7 cX7_name 1 none) (hA : ∀ q : Nat, s.heap.size ≤ q → A q) (hK : va_K D vwCl (tyl y) s) (F : Nat) :
    ∀ (n : Nat), ∀ (M_text : Nat → Int32) (M_size : Int32) (M_p : Int32) (M_fault : Int32) (M_word : Int64) (M_wordSize : Int32) (H : Heap) (locs : List Loc) (ls : Array Slot), g_X7_name_10 F n M_text M_size M_p M_fault M_word M_wordSize = some z → va_P D vwCl (wdX7 q y M_thrown M_text M_size M_has M_hand M_layers M_kinds M_names M_nameSizes M_thicknesses M_spreads M_coppers M_copperAt M_presses M_pressFrom M_pressTo M_vias M_viaFrom M_viaTo M_shares M_lists M_hasRow M_rowLow M_rowHigh M_p M_s M_fault M_lines M_word M_wordSize M_out M_written M_secondOne) H → va_D A (wdX7 q y M_thrown M_text M_size M_has M_hand M_layers M_kinds M_names M_nameSizes M_thicknesses M_spreads M_coppers M_copperAt M_presses M_pressFrom M_pressTo M_vias M_viaFrom M_viaTo M_shares M_lists M_hasRow M_rowLow M_rowHigh M_p M_s M_fault M_lines M_word M_wordSize M_out M_written M_secondOne) → va_S A s.heap H locs → lv_has ls 1 [(0, .ref (q 0))] → W p l e ({ frames := 1, cells := 0, slots := 0, locals := 21 } : Room) s m args below meth c H locs 0 0 (MQ below (QV D y A (wdX7 q y M_thrown M_text M_size M_has M_hand M_layers M_kinds M_names M_nameSizes M_thicknesses M_spreads M_coppers M_copperAt M_presses M_pressFrom M_pressTo M_vias M_viaFrom M_viaTo M_shares M_lists M_hasRow M_rowLow M_rowHigh (z.1) M_s (z.2.1) M_lines (z.2.2.1) (z.2.2.2) M_out M_written M_secondOne)) args s 0 0 A) (F0 m 10 ls []) := by
  obtain ⟨⟨hx, hb, hml, hown, hts⟩, hr, hlocks⟩ := id C
  intro n
  induction n with
  | zero =>
    intro M_text M_size M_p M_fault M_word M_wordSize H locs ls hm
    rw [g_X7_name_10_z] at hm
    cases hm
  | succ n ih =>
    intro M_text M_size M_p M_fault M_word M_wordSize H locs ls hm hP hD hS hl
    rw [g_X7_name_10_s] at hm
    refine lv_aload_n hx hb dX7_name_10 rfl (lv_at hl 0 rfl) ?_
    obtain ⟨r_1, hc_2, hm⟩ := mb1_of hm
    refine call_vi (wc := (wdX7 q y M_thrown M_text M_size M_has M_hand M_layers M_kinds M_names M_nameSizes M_thicknesses M_spreads M_coppers M_copperAt M_presses M_pressFrom M_pressTo M_vias M_viaFrom M_viaTo M_shares M_lists M_hasRow M_rowLow M_rowHigh M_p M_s M_fault M_lines M_word M_wordSize M_out M_written M_secondOne)) (wr := []) (As := []) (rest := []) C (c_X7_good l D y q _ F hc_2) (cwV 0 hts gX7_name_X7_good rfl rfl rfl (by decide +kernel) ⟨Nat.le_of_ble_eq_true rfl, Nat.le_of_ble_eq_true rfl⟩) hK hP hD hS hA [0, 1, 2, 3, 4, 5, 6, 7, 8, 9, 10, 11, 12, 13, 14, 15, 16, 17, 18, 19, 20] [] rfl rfl rfl rfl rfl (by decide) rfl rfl rfl rfl hl.1 (Nat.le_of_ble_eq_true rfl) dX7_name_11 (fun H locs hP hD hS => ?_)
    have hP : va_P D vwCl (wdX7 q y M_thrown M_text M_size M_has M_hand M_layers M_kinds M_names M_nameSizes M_thicknesses M_spreads M_coppers M_copperAt M_presses M_pressFrom M_pressTo M_vias M_viaFrom M_viaTo M_shares M_lists M_hasRow M_rowLow M_rowHigh M_p M_s M_fault M_lines M_word M_wordSize M_out M_written M_secondOne) H := hP
    have hD : va_D A (wdX7 q y M_thrown M_text M_size M_has M_hand M_layers M_kinds M_names M_nameSizes M_thicknesses M_spreads M_coppers M_copperAt M_presses M_pressFrom M_pressTo M_vias M_viaFrom M_viaTo M_shares M_lists M_hasRow M_rowLow M_rowHigh M_p M_s M_fault M_lines M_word M_wordSize M_out M_written M_secondOne) := hD
    refine lv_if_eq (tgt := 87) hx hb dX7_name_14 (by decide) (fun h_3 => ?_) (fun h_3 => ?_)
    · have hm := it_of hm h_3
      exact k_X7_name_87 C hA hK F M_p M_fault M_word M_wordSize _ _ _ hm hP hD hS (lv_sub hl [0] rfl)
    · have hm := ie_of hm h_3
      refine lv_aload_n hx hb dX7_name_17 rfl (lv_at hl 0 rfl) ?_
      obtain ⟨r_4, hc_5, hm⟩ := mb1_of hm
      refine call_vi (wc := (wdX7 q y M_thrown M_text M_size M_has M_hand M_layers M_kinds M_names M_nameSizes M_thicknesses M_spreads M_coppers M_copperAt M_presses M_pressFrom M_pressTo M_vias M_viaFrom M_viaTo M_shares M_lists M_hasRow M_rowLow M_rowHigh M_p M_s M_fault M_lines M_word M_wordSize M_out M_written M_secondOne)) (wr := []) (As := []) (rest := []) C (c_X7_c l D y q _ F hc_5) (cwV 0 hts gX7_name_X7_c rfl rfl rfl (by decide +kernel) ⟨Nat.le_of_ble_eq_true rfl, Nat.le_of_ble_eq_true rfl⟩) hK hP hD hS hA [0, 1, 2, 3, 4, 5, 6, 7, 8, 9, 10, 11, 12, 13, 14, 15, 16, 17, 18, 19, 20] [] rfl rfl rfl rfl rfl (by decide) rfl rfl rfl rfl hl.1 (Nat.le_of_ble_eq_true rfl) dX7_name_18 (fun H locs hP hD hS => ?_)
      have hP : va_P D vwCl (wdX7 q y M_thrown M_text M_size M_has M_hand M_layers M_kinds M_names M_nameSizes M_thicknesses M_spreads M_coppers M_copperAt M_presses M_pressFrom M_pressTo M_vias M_viaFrom M_viaTo M_shares M_lists M_hasRow M_rowLow M_rowHigh M_p M_s M_fault M_lines M_word M_wordSize M_out M_written M_secondOne) H := hP
      have hD : va_D A (wdX7 q y M_thrown M_text M_size M_has M_hand M_layers M_kinds M_names M_nameSizes M_thicknesses M_spreads M_coppers M_copperAt M_presses M_pressFrom M_pressTo M_vias M_viaFrom M_viaTo M_shares M_lists M_hasRow M_rowLow M_rowHigh M_p M_s M_fault M_lines M_word M_wordSize M_out M_written M_secondOne) := hD
      obtain ⟨r_6, hc_7, hm⟩ := mb1_of hm
      refine call_si (wc := ([] : va_W)) (wr := [(q 0, .inr (7, [.int M_thrown, .ref (q 1), .int M_size, .int M_has, .int M_hand, .ref (q 2), .ref (q 3), .ref (q 4), .ref (q 5), .ref (q 6), .ref (q 7), .ref (q 8), .ref (q 9), .ref (q 10), .ref (q 11), .ref (q 12), .ref (q 13), .ref (q 14), .ref (q 15), .ref (q 16), .int M_lists, .ref (q 17), .ref (q 18), .ref (q 19), .int M_p, .int M_s, .int M_fault, .int M_lines, .long M_word, .int M_wordSize, .ref (q 20), .int M_written, .int M_secondOne])), (q 1, .inl (y 0, 3000, .inl M_text)), (q 2, .inl (y 0, 2, .inl M_layers)), (q 3, .inl (y 0, 160, .inl M_kinds)), (q 4, .inl (y 1, 160, .inr (.inl M_names))), (q 5, .inl (y 0, 160, .inl M_nameSizes)), (q 6, .inl (y 1, 160, .inr (.inl M_thicknesses))), (q 7, .inl (y 0, 160, .inl M_spreads)), (q 8, .inl (y 0, 2, .inl M_coppers)), (q 9, .inl (y 0, 64, .inl M_copperAt)), (q 10, .inl (y 0, 2, .inl M_presses)), (q 11, .inl (y 0, 44, .inl M_pressFrom)), (q 12, .inl (y 0, 44, .inl M_pressTo)), (q 13, .inl (y 0, 2, .inl M_vias)), (q 14, .inl (y 0, 80, .inl M_viaFrom)), (q 15, .inl (y 0, 80, .inl M_viaTo)), (q 16, .inl (y 0, 32, .inl M_shares)), (q 17, .inl (y 3, 640, .inl M_hasRow)), (q 18, .inl (y 1, 640, .inr (.inl M_rowLow))), (q 19, .inl (y 1, 640, .inr (.inl M_rowHigh))), (q 20, .inl (y 0, 6000, .inl M_out))]) (As := [.int r_4]) (rest := []) C (c_X7_isSign l D y _ F hc_7) (va_cwS 1 hts gX7_name_X7_isSign rfl rfl rfl (by decide +kernel) ⟨Nat.le_of_ble_eq_true rfl, Nat.le_of_ble_eq_true rfl⟩) hK hP hD hS hA [] [0, 1, 2, 3, 4, 5, 6, 7, 8, 9, 10, 11, 12, 13, 14, 15, 16, 17, 18, 19, 20] rfl rfl rfl rfl rfl (by decide) rfl hl.1 (Nat.le_of_ble_eq_true rfl) dX7_name_21 (fun H locs hP hD hS => ?_)
      have hP : va_P D vwCl (wdX7 q y M_thrown M_text M_size M_has M_hand M_layers M_kinds M_names M_nameSizes M_thicknesses M_spreads M_coppers M_copperAt M_presses M_pressFrom M_pressTo M_vias M_viaFrom M_viaTo M_shares M_lists M_hasRow M_rowLow M_rowHigh M_p M_s M_fault M_lines M_word M_wordSize M_out M_written M_secondOne) H := hP
      have hD : va_D A (wdX7 q y M_thrown M_text M_size M_has M_hand M_layers M_kinds M_names M_nameSizes M_thicknesses M_spreads M_coppers M_copperAt M_presses M_pressFrom M_pressTo M_vias M_viaFrom M_viaTo M_shares M_lists M_hasRow M_rowLow M_rowHigh M_p M_s M_fault M_lines M_word M_wordSize M_out M_written M_secondOne) := hD
      refine lv_if_eq (tgt := 87) hx hb dX7_name_24 (by decide) (fun h_8 => ?_) (fun h_8 => ?_)
      · have hm := it_of hm h_8
        exact k_X7_name_87 C hA hK F M_p M_fault M_word M_wordSize _ _ _ hm hP hD hS (lv_sub hl [0] rfl)
      · have hm := ie_of hm h_8
        refine lv_aload_n hx hb dX7_name_27 rfl (lv_at hl 0 rfl) ?_
        refine va_get (D := D) (ci := 7) (v := .int M_wordSize) (C := RX7) (T := TX7) (N := 33) hx hb hts n_X7_name_X7 hown hK hP 0 rfl rfl 29 (by decide) (hts _ w_X7_name_f117) (fun _ h9 => h9) rfl dX7_name_28 ?_
        refine lv_bipush (v := (8 : Int32)) hx hb dX7_name_31 (by decide) ?_
        refine lv_icmp_ne (tgt := 47) hx hb dX7_name_33 (by decide) (fun h_9 => ?_) (fun h_9 => ?_)
        · have hm := ie_of hm h_9
          refine lv_aload_n hx hb dX7_name_47 rfl (lv_at hl 0 rfl) ?_
          refine lv_aload_n hx hb dX7_name_48 rfl (lv_at hl 0 rfl) ?_
          refine va_get (D := D) (ci := 7) (v := .long M_word) (C := RX7) (T := TX7) (N := 33) hx hb hts n_X7_name_X7 hown hK hP 0 rfl rfl 28 (by decide) (hts _ w_X7_name_f113) (fun _ h9 => h9) rfl dX7_name_49 ?_
          refine lv_bipush (v := (7 : Int32)) hx hb dX7_name_52 (by decide) ?_
          refine lv_lshl (v := (M_word <<< (((7 : Int32)).toInt64 &&& 63))) hx hb dX7_name_54 rfl ?_
          refine lv_aload_n hx hb dX7_name_55 rfl (lv_at hl 0 rfl) ?_
          obtain ⟨r_10, hc_11, hm⟩ := mb1_of hm
          refine call_vi (wc := (wdX7 q y M_thrown M_text M_size M_has M_hand M_layers M_kinds M_names M_nameSizes M_thicknesses M_spreads M_coppers M_copperAt M_presses M_pressFrom M_pressTo M_vias M_viaFrom M_viaTo M_shares M_lists M_hasRow M_rowLow M_rowHigh M_p M_s M_fault M_lines M_word M_wordSize M_out M_written M_secondOne)) (wr := []) (As := []) (rest := [.long (M_word <<< (((7 : Int32)).toInt64 &&& 63)), .ref (q 0)]) C (c_X7_c l D y q _ F hc_11) (cwV 0 hts gX7_name_X7_c rfl rfl rfl (by decide +kernel) ⟨Nat.le_of_ble_eq_true rfl, Nat.le_of_ble_eq_true rfl⟩) hK hP hD hS hA [0, 1, 2, 3, 4, 5, 6, 7, 8, 9, 10, 11, 12, 13, 14, 15, 16, 17, 18, 19, 20] [] rfl rfl rfl rfl rfl (by decide) rfl rfl rfl rfl hl.1 (Nat.le_of_ble_eq_true rfl) dX7_name_56 (fun H locs hP hD hS => ?_)
          have hP : va_P D vwCl (wdX7 q y M_thrown M_text M_size M_has M_hand M_layers M_kinds M_names M_nameSizes M_thicknesses M_spreads M_coppers M_copperAt M_presses M_pressFrom M_pressTo M_vias M_viaFrom M_viaTo M_shares M_lists M_hasRow M_rowLow M_rowHigh M_p M_s M_fault M_lines M_word M_wordSize M_out M_written M_secondOne) H := hP
          have hD : va_D A (wdX7 q y M_thrown M_text M_size M_has M_hand M_layers M_kinds M_names M_nameSizes M_thicknesses M_spreads M_coppers M_copperAt M_presses M_pressFrom M_pressTo M_vias M_viaFrom M_viaTo M_shares M_lists M_hasRow M_rowLow M_rowHigh M_p M_s M_fault M_lines M_word M_wordSize M_out M_written M_secondOne) := hD
          refine lv_i2l (v := (r_10).toInt64) hx hb dX7_name_59 rfl ?_
          refine lv_lor hx hb dX7_name_60 ?_
          refine va_put (D := D) (ci := 7) (v := .long ((M_word <<< (((7 : Int32)).toInt64 &&& 63)) ||| ((r_10).toInt64))) (ty := .long) (C := RX7) (T := TX7) (N := 33) hx hb hts n_X7_name_X7 tyX7 tyX7_ok nmX7 hown hK hP hD hS 0 rfl rfl 28 (by decide) (hts _ w_X7_name_f113) (fun _ h9 => h9) rfl (by decide +kernel) rfl rfl (Nat.le_of_ble_eq_true rfl) dX7_name_61 (fun H locs hP hD hS => ?_)
          have hP : va_P D vwCl (wdX7 q y M_thrown M_text M_size M_has M_hand M_layers M_kinds M_names M_nameSizes M_thicknesses M_spreads M_coppers M_copperAt M_presses M_pressFrom M_pressTo M_vias M_viaFrom M_viaTo M_shares M_lists M_hasRow M_rowLow M_rowHigh M_p M_s M_fault M_lines ((M_word <<< (((7 : Int32)).toInt64 &&& 63)) ||| ((r_10).toInt64)) M_wordSize M_out M_written M_secondOne) H := hP
          have hD : va_D A (wdX7 q y M_thrown M_text M_size M_has M_hand M_layers M_kinds M_names M_nameSizes M_thicknesses M_spreads M_coppers M_copperAt M_presses M_pressFrom M_pressTo M_vias M_viaFrom M_viaTo M_shares M_lists M_hasRow M_rowLow M_rowHigh M_p M_s M_fault M_lines ((M_word <<< (((7 : Int32)).toInt64 &&& 63)) ||| ((r_10).toInt64)) M_wordSize M_out M_written M_secondOne) := hD
          refine lv_aload_n hx hb dX7_name_64 rfl (lv_at hl 0 rfl) ?_
          refine lv_dup hx hb dX7_name_65 rfl ?_
          refine va_get (D := D) (ci := 7) (v := .int M_wordSize) (C := RX7) (T := TX7) (N := 33) hx hb hts n_X7_name_X7 hown hK hP 0 rfl rfl 29 (by decide) (hts _ w_X7_name_f117) (fun _ h9 => h9) rfl dX7_name_66 ?_
          refine lv_iconst (v := (1 : Int32)) hx hb dX7_name_69 (by decide) ?_
          refine lv_iadd hx hb dX7_name_70 ?_
          refine va_put (D := D) (ci := 7) (v := .int (M_wordSize + (1 : Int32))) (ty := .int) (C := RX7) (T := TX7) (N := 33) hx hb hts n_X7_name_X7 tyX7 tyX7_ok nmX7 hown hK hP hD hS 0 rfl rfl 29 (by decide) (hts _ w_X7_name_f117) (fun _ h9 => h9) rfl (by decide +kernel) rfl rfl (Nat.le_of_ble_eq_true rfl) dX7_name_71 (fun H locs hP hD hS => ?_)
          have hP : va_P D vwCl (wdX7 q y M_thrown M_text M_size M_has M_hand M_layers M_kinds M_names M_nameSizes M_thicknesses M_spreads M_coppers M_copperAt M_presses M_pressFrom M_pressTo M_vias M_viaFrom M_viaTo M_shares M_lists M_hasRow M_rowLow M_rowHigh M_p M_s M_fault M_lines ((M_word <<< (((7 : Int32)).toInt64 &&& 63)) ||| ((r_10).toInt64)) (M_wordSize + (1 : Int32)) M_out M_written M_secondOne) H := hP
          have hD : va_D A (wdX7 q y M_thrown M_text M_size M_has M_hand M_layers M_kinds M_names M_nameSizes M_thicknesses M_spreads M_coppers M_copperAt M_presses M_pressFrom M_pressTo M_vias M_viaFrom M_viaTo M_shares M_lists M_hasRow M_rowLow M_rowHigh M_p M_s M_fault M_lines ((M_word <<< (((7 : Int32)).toInt64 &&& 63)) ||| ((r_10).toInt64)) (M_wordSize + (1 : Int32)) M_out M_written M_secondOne) := hD
          refine lv_aload_n hx hb dX7_name_74 rfl (lv_at hl 0 rfl) ?_
          refine lv_dup hx hb dX7_name_75 rfl ?_
          refine va_get (D := D) (ci := 7) (v := .int M_p) (C := RX7) (T := TX7) (N := 33) hx hb hts n_X7_name_X7 hown hK hP 0 rfl rfl 24 (by decide) (hts _ w_X7_name_f79) (fun _ h9 => h9) rfl dX7_name_76 ?_
          refine lv_iconst (v := (1 : Int32)) hx hb dX7_name_79 (by decide) ?_
          refine lv_iadd hx hb dX7_name_80 ?_
          refine va_put (D := D) (ci := 7) (v := .int (M_p + (1 : Int32))) (ty := .int) (C := RX7) (T := TX7) (N := 33) hx hb hts n_X7_name_X7 tyX7 tyX7_ok nmX7 hown hK hP hD hS 0 rfl rfl 24 (by decide) (hts _ w_X7_name_f79) (fun _ h9 => h9) rfl (by decide +kernel) rfl rfl (Nat.le_of_ble_eq_true rfl) dX7_name_81 (fun H locs hP hD hS => ?_)
          have hP : va_P D vwCl (wdX7 q y M_thrown M_text M_size M_has M_hand M_layers M_kinds M_names M_nameSizes M_thicknesses M_spreads M_coppers M_copperAt M_presses M_pressFrom M_pressTo M_vias M_viaFrom M_viaTo M_shares M_lists M_hasRow M_rowLow M_rowHigh (M_p + (1 : Int32)) M_s M_fault M_lines ((M_word <<< (((7 : Int32)).toInt64 &&& 63)) ||| ((r_10).toInt64)) (M_wordSize + (1 : Int32)) M_out M_written M_secondOne) H := hP
          have hD : va_D A (wdX7 q y M_thrown M_text M_size M_has M_hand M_layers M_kinds M_names M_nameSizes M_thicknesses M_spreads M_coppers M_copperAt M_presses M_pressFrom M_pressTo M_vias M_viaFrom M_viaTo M_shares M_lists M_hasRow M_rowLow M_rowHigh (M_p + (1 : Int32)) M_s M_fault M_lines ((M_word <<< (((7 : Int32)).toInt64 &&& 63)) ||| ((r_10).toInt64)) (M_wordSize + (1 : Int32)) M_out M_written M_secondOne) := hD
          refine lv_goto (tgt := 10) hx hb dX7_name_84 (by decide) ?_
          exact ih M_text M_size (M_p + (1 : Int32)) M_fault ((M_word <<< (((7 : Int32)).toInt64 &&& 63)) ||| ((r_10).toInt64)) (M_wordSize + (1 : Int32)) _ _ _ hm hP hD hS (lv_sub hl [0] rfl)
        · have hm := it_of hm h_9
          refine lv_aload_n hx hb dX7_name_36 rfl (lv_at hl 0 rfl) ?_
          refine lv_aload_n hx hb dX7_name_37 rfl (lv_at hl 0 rfl) ?_
          refine va_get (D := D) (ci := 7) (v := .int M_p) (C := RX7) (T := TX7) (N := 33) hx hb hts n_X7_name_X7 hown hK hP 0 rfl rfl 24 (by decide) (hts _ w_X7_name_f79) (fun _ h9 => h9) rfl dX7_name_38 ?_
          obtain ⟨M_fault_12, hc_13, hm⟩ := mb1_of hm
          refine call_vv (wc := (wdX7 q y M_thrown M_text M_size M_has M_hand M_layers M_kinds M_names M_nameSizes M_thicknesses M_spreads M_coppers M_copperAt M_presses M_pressFrom M_pressTo M_vias M_viaFrom M_viaTo M_shares M_lists M_hasRow M_rowLow M_rowHigh M_p M_s M_fault M_lines M_word M_wordSize M_out M_written M_secondOne)) (wr := []) (As := [.int M_p]) (rest := []) C (c_X7_fail l D y q _ F hc_13) (cwV 1 hts gX7_name_X7_fail rfl rfl rfl (by decide +kernel) ⟨Nat.le_of_ble_eq_true rfl, Nat.le_of_ble_eq_true rfl⟩) hK hP hD hS hA [0, 1, 2, 3, 4, 5, 6, 7, 8, 9, 10, 11, 12, 13, 14, 15, 16, 17, 18, 19, 20] [] rfl rfl rfl rfl rfl (by decide) rfl rfl rfl rfl hl.1 (Nat.le_of_ble_eq_true rfl) dX7_name_41 (fun H locs hP hD hS => ?_)
          have hP : va_P D vwCl (wdX7 q y M_thrown M_text M_size M_has M_hand M_layers M_kinds M_names M_nameSizes M_thicknesses M_spreads M_coppers M_copperAt M_presses M_pressFrom M_pressTo M_vias M_viaFrom M_viaTo M_shares M_lists M_hasRow M_rowLow M_rowHigh M_p M_s M_fault_12 M_lines M_word M_wordSize M_out M_written M_secondOne) H := hP
          have hD : va_D A (wdX7 q y M_thrown M_text M_size M_has M_hand M_layers M_kinds M_names M_nameSizes M_thicknesses M_spreads M_coppers M_copperAt M_presses M_pressFrom M_pressTo M_vias M_viaFrom M_viaTo M_shares M_lists M_hasRow M_rowLow M_rowHigh M_p M_s M_fault_12 M_lines M_word M_wordSize M_out M_written M_secondOne) := hD
          refine lv_goto (tgt := 10) hx hb dX7_name_44 (by decide) ?_
          exact ih M_text M_size M_p M_fault_12 M_word M_wordSize _ _ _ hm hP hD hS (lv_sub hl [0] rfl)
set_option maxHeartbeats 4000000 in
set_option maxRecDepth 100000 in
theorem c_X7_name (l : Launch) (D : va_G) (y : Nat → ClassId) (q : Nat → Nat) (sz : Nat) (F : Nat) {M_thrown : Int32} {M_text : Nat → Int32} {M_size : Int32} {M_has : Int32} {M_hand : Int32} {M_layers : Nat → Int32} {M_kinds : Nat → Int32} {M_names : Nat → Int64} {M_nameSizes : Nat → Int32} {M_thicknesses : Nat → Int64} {M_spreads : Nat → Int32} {M_coppers : Nat → Int32} {M_copperAt : Nat → Int32} {M_presses : Nat → Int32} {M_pressFrom : Nat → Int32} {M_pressTo : Nat → Int32} {M_vias : Nat → Int32} {M_viaFrom : Nat → Int32} {M_viaTo : Nat → Int32} {M_shares : Nat → Int32} {M_lists : Int32} {M_hasRow : Nat → Int32} {M_rowLow : Nat → Int64} {M_rowHigh : Nat → Int64} {M_p : Int32} {M_s : Int32} {M_fault : Int32} {M_lines : Int32} {M_word : Int64} {M_wordSize : Int32} {M_out : Nat → Int32} {M_written : Int32} {M_secondOne : Int32} {z : Int32 × Int32 × Int64 × Int32} (hm : f_X7_name F M_text M_size M_p M_fault M_word M_wordSize = some z) : Met l yX7_name wsX7_name ({ frames := 1, cells := 0, slots := 0, locals := 21 } : Room) (va_Pc [.ref (q 0)] (cP D y (wdX7 q y M_thrown M_text M_size M_has M_hand M_layers M_kinds M_names M_nameSizes M_thicknesses M_spreads M_coppers M_copperAt M_presses M_pressFrom M_pressTo M_vias M_viaFrom M_viaTo M_shares M_lists M_hasRow M_rowLow M_rowHigh M_p M_s M_fault M_lines M_word M_wordSize M_out M_written M_secondOne) sz)) (QV D y (va_A (wdX7 q y M_thrown M_text M_size M_has M_hand M_layers M_kinds M_names M_nameSizes M_thicknesses M_spreads M_coppers M_copperAt M_presses M_pressFrom M_pressTo M_vias M_viaFrom M_viaTo M_shares M_lists M_hasRow M_rowLow M_rowHigh M_p M_s M_fault M_lines M_word M_wordSize M_out M_written M_secondOne) sz) (wdX7 q y M_thrown M_text M_size M_has M_hand M_layers M_kinds M_names M_nameSizes M_thicknesses M_spreads M_coppers M_copperAt M_presses M_pressFrom M_pressTo M_vias M_viaFrom M_viaTo M_shares M_lists M_hasRow M_rowLow M_rowHigh (z.1) M_s (z.2.1) M_lines (z.2.2.1) (z.2.2.2) M_out M_written M_secondOne)) 0 0 (va_A (wdX7 q y M_thrown M_text M_size M_has M_hand M_layers M_kinds M_names M_nameSizes M_thicknesses M_spreads M_coppers M_copperAt M_presses M_pressFrom M_pressTo M_vias M_viaFrom M_viaTo M_shares M_lists M_hasRow M_rowLow M_rowHigh M_p M_s M_fault M_lines M_word M_wordSize M_out M_written M_secondOne) sz) := by
  refine met_of (own := RX7) (cc := cX7_name) (maxL := 1) (ret := none) (by decide) rfl rfl (Nat.le_of_ble_eq_true rfl) ?_
  intro p e s m below meth c ls C hsz hK hP hD hA hS hl
  obtain ⟨⟨hx, hb, hml, hown, hts⟩, hr, hlocks⟩ := id C
  have hl : lv_has ls 1 [(0, .ref (q 0))] := hl
  generalize va_A (wdX7 q y M_thrown M_text M_size M_has M_hand M_layers M_kinds M_names M_nameSizes M_thicknesses M_spreads M_coppers M_copperAt M_presses M_pressFrom M_pressTo M_vias M_viaFrom M_viaTo M_shares M_lists M_hasRow M_rowLow M_rowHigh M_p M_s M_fault M_lines M_word M_wordSize M_out M_written M_secondOne) sz = A at hD hA hS ⊢
  generalize ([.ref (q 0)] : List Value).toArray = args at C hts ⊢
  unfold f_X7_name at hm
  refine lv_aload_n hx hb dX7_name_0 rfl (lv_at hl 0 rfl) ?_
  refine lv_lconst (v := (0 : Int64)) hx hb dX7_name_1 (by decide) ?_
  refine va_put (D := D) (ci := 7) (v := .long (0 : Int64)) (ty := .long) (C := RX7) (T := TX7) (N := 33) hx hb hts n_X7_name_X7 tyX7 tyX7_ok nmX7 hown hK hP hD hS 0 rfl rfl 28 (by decide) (hts _ w_X7_name_f113) (fun _ h9 => h9) rfl (by decide +kernel) rfl rfl (Nat.le_of_ble_eq_true rfl) dX7_name_2 (fun H locs hP hD hS => ?_)
  have hP : va_P D vwCl (wdX7 q y M_thrown M_text M_size M_has M_hand M_layers M_kinds M_names M_nameSizes M_thicknesses M_spreads M_coppers M_copperAt M_presses M_pressFrom M_pressTo M_vias M_viaFrom M_viaTo M_shares M_lists M_hasRow M_rowLow M_rowHigh M_p M_s M_fault M_lines (0 : Int64) M_wordSize M_out M_written M_secondOne) H := hP
  have hD : va_D A (wdX7 q y M_thrown M_text M_size M_has M_hand M_layers M_kinds M_names M_nameSizes M_thicknesses M_spreads M_coppers M_copperAt M_presses M_pressFrom M_pressTo M_vias M_viaFrom M_viaTo M_shares M_lists M_hasRow M_rowLow M_rowHigh M_p M_s M_fault M_lines (0 : Int64) M_wordSize M_out M_written M_secondOne) := hD
  refine lv_aload_n hx hb dX7_name_5 rfl (lv_at hl 0 rfl) ?_
  refine lv_iconst (v := (0 : Int32)) hx hb dX7_name_6 (by decide) ?_
  refine va_put (D := D) (ci := 7) (v := .int (0 : Int32)) (ty := .int) (C := RX7) (T := TX7) (N := 33) hx hb hts n_X7_name_X7 tyX7 tyX7_ok nmX7 hown hK hP hD hS 0 rfl rfl 29 (by decide) (hts _ w_X7_name_f117) (fun _ h9 => h9) rfl (by decide +kernel) rfl rfl (Nat.le_of_ble_eq_true rfl) dX7_name_7 (fun H locs hP hD hS => ?_)
  have hP : va_P D vwCl (wdX7 q y M_thrown M_text M_size M_has M_hand M_layers M_kinds M_names M_nameSizes M_thicknesses M_spreads M_coppers M_copperAt M_presses M_pressFrom M_pressTo M_vias M_viaFrom M_viaTo M_shares M_lists M_hasRow M_rowLow M_rowHigh M_p M_s M_fault M_lines (0 : Int64) (0 : Int32) M_out M_written M_secondOne) H := hP
  have hD : va_D A (wdX7 q y M_thrown M_text M_size M_has M_hand M_layers M_kinds M_names M_nameSizes M_thicknesses M_spreads M_coppers M_copperAt M_presses M_pressFrom M_pressTo M_vias M_viaFrom M_viaTo M_shares M_lists M_hasRow M_rowLow M_rowHigh M_p M_s M_fault M_lines (0 : Int64) (0 : Int32) M_out M_written M_secondOne) := hD
  exact k_X7_name_10 C hA hK F F M_text M_size M_p M_fault (0 : Int64) (0 : Int32) _ _ _ hm hP hD hS (lv_sub hl [0] rfl)
def f_X7_isDigit (F : Nat) (v0 : Int32) : Option (Int32) := (if v0 < (48 : Int32) then some (0 : Int32) else (if (57 : Int32) < v0 then some (0 : Int32) else some (1 : Int32)))
set_option maxHeartbeats 4000000 in
set_option maxRecDepth 100000 in
theorem c_X7_isDigit (l : Launch) (D : va_G) (y : Nat → ClassId) (sz : Nat) (F : Nat) {v0 : Int32} {z : Int32} (hm : f_X7_isDigit F v0 = some z) : Met l yX7_isDigit wsX7_isDigit ({ frames := 0, cells := 0, slots := 0, locals := 0 } : Room) (va_Pc [.int v0] (cP D y ([] : va_W) sz)) (QI D y (va_A ([] : va_W) sz) (z) ([] : va_W)) 0 0 (va_A ([] : va_W) sz) := by
  refine met_of (own := RX7) (cc := cX7_isDigit) (maxL := 1) (ret := (some .boolean)) (by decide) rfl rfl (Nat.le_of_ble_eq_true rfl) ?_
  intro p e s m below meth c ls C hsz hK hP hD hA hS hl
  obtain ⟨⟨hx, hb, hml, hown, hts⟩, hr, hlocks⟩ := id C
  have hl : lv_has ls 1 [(0, .int v0)] := hl
  generalize va_A ([] : va_W) sz = A at hD hA hS ⊢
  generalize ([.int v0] : List Value).toArray = args at C hts ⊢
  unfold f_X7_isDigit at hm
  refine lv_iload_n hx hb dX7_isDigit_0 rfl (lv_at hl 0 rfl) ?_
  refine lv_bipush (v := (48 : Int32)) hx hb dX7_isDigit_1 (by decide) ?_
  refine lv_icmp_lt (tgt := 16) hx hb dX7_isDigit_3 (by decide) (fun h_1 => ?_) (fun h_1 => ?_)
  · have hm := it_of hm h_1
    refine lv_iconst (v := (0 : Int32)) hx hb dX7_isDigit_16 (by decide) ?_
    have hz := Option.some.inj hm
    subst hz
    exact end_z C hK hP hD hS (show vp_nar .boolean (0 : Int32) = (0 : Int32) from by decide) dX7_isDigit_17
  · have hm := ie_of hm h_1
    refine lv_iload_n hx hb dX7_isDigit_6 rfl (lv_at hl 0 rfl) ?_
    refine lv_bipush (v := (57 : Int32)) hx hb dX7_isDigit_7 (by decide) ?_
    refine lv_icmp_gt (tgt := 16) hx hb dX7_isDigit_9 (by decide) (fun h_2 => ?_) (fun h_2 => ?_)
    · have hm := it_of hm h_2
      refine lv_iconst (v := (0 : Int32)) hx hb dX7_isDigit_16 (by decide) ?_
      have hz := Option.some.inj hm
      subst hz
      exact end_z C hK hP hD hS (show vp_nar .boolean (0 : Int32) = (0 : Int32) from by decide) dX7_isDigit_17
    · have hm := ie_of hm h_2
      refine lv_iconst (v := (1 : Int32)) hx hb dX7_isDigit_12 (by decide) ?_
      refine lv_goto (tgt := 17) hx hb dX7_isDigit_13 (by decide) ?_
      have hz := Option.some.inj hm
      subst hz
      exact end_z C hK hP hD hS (show vp_nar .boolean (1 : Int32) = (1 : Int32) from by decide) dX7_isDigit_17
def g_X7_digits_71 (F : Nat) (v2 : Int64) (v4 : Int32) (M_p : Int32) (M_fault : Int32) : Option (Int64 × Int32 × Int32) := mb1 (f_X7_good F M_fault) (fun r_1 => (if r_1 = 0 then some (v2, M_p, M_fault) else (if v4 = 0 then mb1 (f_X7_fail F M_p M_fault) (fun M_fault_5 => some (v2, M_p, M_fault_5)) else some (v2, M_p, M_fault))))
def g_X7_digits_5 (F : Nat) : Nat → Int32 → Int64 → Int32 → (Nat → Int32) → Int32 → Int32 → Int32 → Option (Int64 × Int32 × Int32)
  | 0, _, _, _, _, _, _, _ => none
  | n + 1, v1, v2, v4, M_text, M_size, M_p, M_fault => mb1 (f_X7_good F M_fault) (fun r_1 => (if r_1 = 0 then g_X7_digits_71 F v2 v4 M_p M_fault else mb1 (f_X7_c F M_text M_size M_p) (fun r_4 => mb1 (f_X7_isDigit F r_4) (fun r_6 => (if r_6 = 0 then g_X7_digits_71 F v2 v4 M_p M_fault else (if v4 = v1 then mb1 (f_X7_fail F M_p M_fault) (fun M_fault_14 => g_X7_digits_5 F n v1 v2 v4 M_text M_size M_p M_fault_14) else mb1 (f_X7_c F M_text M_size M_p) (fun r_10 => mn ((((10 : Int64) * v2) + ((r_10).toInt64)) - (48 : Int64)) (fun v2_12 => mn (v4 + (1 : Int32)) (fun v4_13 => g_X7_digits_5 F n v1 v2_12 v4_13 M_text M_size (M_p + (1 : Int32)) M_fault)))))))))
theorem g_X7_digits_5_z (F : Nat) (v1 : Int32) (v2 : Int64) (v4 : Int32) (M_text : Nat → Int32) (M_size : Int32) (M_p : Int32) (M_fault : Int32) : g_X7_digits_5 F 0 v1 v2 v4 M_text M_size M_p M_fault = none := rfl
theorem g_X7_digits_5_s (F : Nat) (n : Nat) (v1 : Int32) (v2 : Int64) (v4 : Int32) (M_text : Nat → Int32) (M_size : Int32) (M_p : Int32) (M_fault : Int32) : g_X7_digits_5 F (n + 1) v1 v2 v4 M_text M_size M_p M_fault = mb1 (f_X7_good F M_fault) (fun r_1 => (if r_1 = 0 then g_X7_digits_71 F v2 v4 M_p M_fault else mb1 (f_X7_c F M_text M_size M_p) (fun r_4 => mb1 (f_X7_isDigit F r_4) (fun r_6 => (if r_6 = 0 then g_X7_digits_71 F v2 v4 M_p M_fault else (if v4 = v1 then mb1 (f_X7_fail F M_p M_fault) (fun M_fault_14 => g_X7_digits_5 F n v1 v2 v4 M_text M_size M_p M_fault_14) else mb1 (f_X7_c F M_text M_size M_p) (fun r_10 => mn ((((10 : Int64) * v2) + ((r_10).toInt64)) - (48 : Int64)) (fun v2_12 => mn (v4 + (1 : Int32)) (fun v4_13 => g_X7_digits_5 F n v1 v2_12 v4_13 M_text M_size (M_p + (1 : Int32)) M_fault))))))))) := rfl
def f_X7_digits (F : Nat) (v1 : Int32) (M_text : Nat → Int32) (M_size : Int32) (M_p : Int32) (M_fault : Int32) : Option (Int64 × Int32 × Int32) := g_X7_digits_5 F F v1 (0 : Int64) (0 : Int32) M_text M_size M_p M_fault
set_option maxRecDepth 20000 in
theorem w_X7_digits_k127 : Cond.constantLong RX7 127 (10) ∈ wsX7_digits := by decide +kernel
set_option maxRecDepth 20000 in
theorem w_X7_digits_k129 : Cond.constantLong RX7 129 (48) ∈ wsX7_digits := by decide +kernel
set_option maxRecDepth 20000 in
theorem n_X7_digits_X7 : ∀ w ∈ wsX70, w ∈ wsX7_digits := by decide +kernel
set_option maxRecDepth 20000 in
theorem w_X7_digits_f79 : Cond.fieldLink RX7 79 "LayerStacksModel" "p" "I" ∈ wsX7_digits := by decide +kernel
set_option maxHeartbeats 4000000 in
set_option maxRecDepth 100000 in
theorem k_X7_digits_71 {p : Program} {l : Launch} {e : Env} {s : State} {m : MethodId} {args : Array Value} {below : List Frame} {meth : Method} {c : Code} {D : va_G} {y : Nat → ClassId} {A : Nat → Prop} {q : Nat → Nat} {M_thrown : Int32} {M_text : Nat → Int32} {M_size : Int32} {M_has : Int32} {M_hand : Int32} {M_layers : Nat → Int32} {M_kinds : Nat → Int32} {M_names : Nat → Int64} {M_nameSizes : Nat → Int32} {M_thicknesses : Nat → Int64} {M_spreads : Nat → Int32} {M_coppers : Nat → Int32} {M_copperAt : Nat → Int32} {M_presses : Nat → Int32} {M_pressFrom : Nat → Int32} {M_pressTo : Nat → Int32} {M_vias : Nat → Int32} {M_viaFrom : Nat → Int32} {M_viaTo : Nat → Int32} {M_shares : Nat → Int32} {M_lists : Int32} {M_hasRow : Nat → Int32} {M_rowLow : Nat → Int64} {M_rowHigh : Nat → Int64} {M_s : Int32} {M_lines : Int32} {M_word : Int64} {M_wordSize : Int32} {M_out : Nat → Int32} {M_written : Int32} {M_secondOne : Int32} {z : Int64 × Int32 × Int32} (C : CX p s m args meth c wsX7_digits RX7 cX7_digits 5 (some .long)) (hA : ∀ q : Nat, s.heap.size ≤ q → A q) (hK : va_K D vwCl (tyl y) s) (F : Nat) :
    ∀ (v2 : Int64) (v4 : Int32) (M_p : Int32) (M_fault : Int32) (H : Heap) (locs : List Loc) (ls : Array Slot), g_X7_digits_71 F v2 v4 M_p M_fault = some z → va_P D vwCl (wdX7 q y M_thrown M_text M_size M_has M_hand M_layers M_kinds M_names M_nameSizes M_thicknesses M_spreads M_coppers M_copperAt M_presses M_pressFrom M_pressTo M_vias M_viaFrom M_viaTo M_shares M_lists M_hasRow M_rowLow M_rowHigh M_p M_s M_fault M_lines M_word M_wordSize M_out M_written M_secondOne) H → va_D A (wdX7 q y M_thrown M_text M_size M_has M_hand M_layers M_kinds M_names M_nameSizes M_thicknesses M_spreads M_coppers M_copperAt M_presses M_pressFrom M_pressTo M_vias M_viaFrom M_viaTo M_shares M_lists M_hasRow M_rowLow M_rowHigh M_p M_s M_fault M_lines M_word M_wordSize M_out M_written M_secondOne) → va_S A s.heap H locs → lv_has ls 5 [(0, .ref (q 0)), (2, .long v2), (4, .int v4)] → W p l e ({ frames := 1, cells := 0, slots := 0, locals := 21 } : Room) s m args below meth c H locs 0 0 (MQ below (QL D y A (z.1) (wdX7 q y M_thrown M_text M_size M_has M_hand M_layers M_kinds M_names M_nameSizes M_thicknesses M_spreads M_coppers M_copperAt M_presses M_pressFrom M_pressTo M_vias M_viaFrom M_viaTo M_shares M_lists M_hasRow M_rowLow M_rowHigh (z.2.1) M_s (z.2.2) M_lines M_word M_wordSize M_out M_written M_secondOne)) args s 0 0 A) (F0 m 71 ls []) := by
  obtain ⟨⟨hx, hb, hml, hown, hts⟩, hr, hlocks⟩ := id C
  intro v2 v4 M_p M_fault H locs ls hm hP hD hS hl
  unfold g_X7_digits_71 at hm
  refine lv_aload_n hx hb dX7_digits_71 rfl (lv_at hl 0 rfl) ?_
  obtain ⟨r_1, hc_2, hm⟩ := mb1_of hm
  refine call_vi (wc := (wdX7 q y M_thrown M_text M_size M_has M_hand M_layers M_kinds M_names M_nameSizes M_thicknesses M_spreads M_coppers M_copperAt M_presses M_pressFrom M_pressTo M_vias M_viaFrom M_viaTo M_shares M_lists M_hasRow M_rowLow M_rowHigh M_p M_s M_fault M_lines M_word M_wordSize M_out M_written M_secondOne)) (wr := []) (As := []) (rest := []) C (c_X7_good l D y q _ F hc_2) (cwV 0 hts gX7_digits_X7_good rfl rfl rfl (by decide +kernel) ⟨Nat.le_of_ble_eq_true rfl, Nat.le_of_ble_eq_true rfl⟩) hK hP hD hS hA [0, 1, 2, 3, 4, 5, 6, 7, 8, 9, 10, 11, 12, 13, 14, 15, 16, 17, 18, 19, 20] [] rfl rfl rfl rfl rfl (by decide) rfl rfl rfl rfl hl.1 (Nat.le_of_ble_eq_true rfl) dX7_digits_72 (fun H locs hP hD hS => ?_)
  have hP : va_P D vwCl (wdX7 q y M_thrown M_text M_size M_has M_hand M_layers M_kinds M_names M_nameSizes M_thicknesses M_spreads M_coppers M_copperAt M_presses M_pressFrom M_pressTo M_vias M_viaFrom M_viaTo M_shares M_lists M_hasRow M_rowLow M_rowHigh M_p M_s M_fault M_lines M_word M_wordSize M_out M_written M_secondOne) H := hP
  have hD : va_D A (wdX7 q y M_thrown M_text M_size M_has M_hand M_layers M_kinds M_names M_nameSizes M_thicknesses M_spreads M_coppers M_copperAt M_presses M_pressFrom M_pressTo M_vias M_viaFrom M_viaTo M_shares M_lists M_hasRow M_rowLow M_rowHigh M_p M_s M_fault M_lines M_word M_wordSize M_out M_written M_secondOne) := hD
  refine lv_if_eq (tgt := 91) hx hb dX7_digits_75 (by decide) (fun h_3 => ?_) (fun h_3 => ?_)
  · have hm := it_of hm h_3
    refine lv_lload_n hx hb dX7_digits_91 rfl (lv_at hl 1 rfl) ?_
    have hz := Option.some.inj hm
    subst hz
    exact end_l C hK hP hD hS dX7_digits_92
  · have hm := ie_of hm h_3
    refine lv_iload hx hb dX7_digits_78 (lv_at hl 2 rfl) ?_
    refine lv_if_ne (tgt := 91) hx hb dX7_digits_80 (by decide) (fun h_4 => ?_) (fun h_4 => ?_)
    · have hm := ie_of hm h_4
      refine lv_lload_n hx hb dX7_digits_91 rfl (lv_at hl 1 rfl) ?_
      have hz := Option.some.inj hm
      subst hz
      exact end_l C hK hP hD hS dX7_digits_92
    · have hm := it_of hm h_4
      refine lv_aload_n hx hb dX7_digits_83 rfl (lv_at hl 0 rfl) ?_
      refine lv_aload_n hx hb dX7_digits_84 rfl (lv_at hl 0 rfl) ?_
      refine va_get (D := D) (ci := 7) (v := .int M_p) (C := RX7) (T := TX7) (N := 33) hx hb hts n_X7_digits_X7 hown hK hP 0 rfl rfl 24 (by decide) (hts _ w_X7_digits_f79) (fun _ h9 => h9) rfl dX7_digits_85 ?_
      obtain ⟨M_fault_5, hc_6, hm⟩ := mb1_of hm
      refine call_vv (wc := (wdX7 q y M_thrown M_text M_size M_has M_hand M_layers M_kinds M_names M_nameSizes M_thicknesses M_spreads M_coppers M_copperAt M_presses M_pressFrom M_pressTo M_vias M_viaFrom M_viaTo M_shares M_lists M_hasRow M_rowLow M_rowHigh M_p M_s M_fault M_lines M_word M_wordSize M_out M_written M_secondOne)) (wr := []) (As := [.int M_p]) (rest := []) C (c_X7_fail l D y q _ F hc_6) (cwV 1 hts gX7_digits_X7_fail rfl rfl rfl (by decide +kernel) ⟨Nat.le_of_ble_eq_true rfl, Nat.le_of_ble_eq_true rfl⟩) hK hP hD hS hA [0, 1, 2, 3, 4, 5, 6, 7, 8, 9, 10, 11, 12, 13, 14, 15, 16, 17, 18, 19, 20] [] rfl rfl rfl rfl rfl (by decide) rfl rfl rfl rfl hl.1 (Nat.le_of_ble_eq_true rfl) dX7_digits_88 (fun H locs hP hD hS => ?_)
      have hP : va_P D vwCl (wdX7 q y M_thrown M_text M_size M_has M_hand M_layers M_kinds M_names M_nameSizes M_thicknesses M_spreads M_coppers M_copperAt M_presses M_pressFrom M_pressTo M_vias M_viaFrom M_viaTo M_shares M_lists M_hasRow M_rowLow M_rowHigh M_p M_s M_fault_5 M_lines M_word M_wordSize M_out M_written M_secondOne) H := hP
      have hD : va_D A (wdX7 q y M_thrown M_text M_size M_has M_hand M_layers M_kinds M_names M_nameSizes M_thicknesses M_spreads M_coppers M_copperAt M_presses M_pressFrom M_pressTo M_vias M_viaFrom M_viaTo M_shares M_lists M_hasRow M_rowLow M_rowHigh M_p M_s M_fault_5 M_lines M_word M_wordSize M_out M_written M_secondOne) := hD
      refine lv_lload_n hx hb dX7_digits_91 rfl (lv_at hl 1 rfl) ?_
      have hz := Option.some.inj hm
      subst hz
      exact end_l C hK hP hD hS dX7_digits_92
set_option maxHeartbeats 4000000 in
set_option maxRecDepth 100000 in
theorem k_X7_digits_5 {p : Program} {l : Launch} {e : Env} {s : State} {m : MethodId} {args : Array Value} {below : List Frame} {meth : Method} {c : Code} {D : va_G} {y : Nat → ClassId} {A : Nat → Prop} {q : Nat → Nat} {M_thrown : Int32} {M_has : Int32} {M_hand : Int32} {M_layers : Nat → Int32} {M_kinds : Nat → Int32} {M_names : Nat → Int64} {M_nameSizes : Nat → Int32} {M_thicknesses : Nat → Int64} {M_spreads : Nat → Int32} {M_coppers : Nat → Int32} {M_copperAt : Nat → Int32} {M_presses : Nat → Int32} {M_pressFrom : Nat → Int32} {M_pressTo : Nat → Int32} {M_vias : Nat → Int32} {M_viaFrom : Nat → Int32} {M_viaTo : Nat → Int32} {M_shares : Nat → Int32} {M_lists : Int32} {M_hasRow : Nat → Int32} {M_rowLow : Nat → Int64} {M_rowHigh : Nat → Int64} {M_s : Int32} {M_lines : Int32} {M_word : Int64} {M_wordSize : Int32} {M_out : Nat → Int32} {M_written : Int32} {M_secondOne : Int32} {z : Int64 × Int32 × Int32} (C : CX p s m args meth c wsX7_digits RX7 cX7_digits 5 (some .long)) (hA : ∀ q : Nat, s.heap.size ≤ q → A q) (hK : va_K D vwCl (tyl y) s) (F : Nat) :
    ∀ (n : Nat), ∀ (v1 : Int32) (v2 : Int64) (v4 : Int32) (M_text : Nat → Int32) (M_size : Int32) (M_p : Int32) (M_fault : Int32) (H : Heap) (locs : List Loc) (ls : Array Slot), g_X7_digits_5 F n v1 v2 v4 M_text M_size M_p M_fault = some z → va_P D vwCl (wdX7 q y M_thrown M_text M_size M_has M_hand M_layers M_kinds M_names M_nameSizes M_thicknesses M_spreads M_coppers M_copperAt M_presses M_pressFrom M_pressTo M_vias M_viaFrom M_viaTo M_shares M_lists M_hasRow M_rowLow M_rowHigh M_p M_s M_fault M_lines M_word M_wordSize M_out M_written M_secondOne) H → va_D A (wdX7 q y M_thrown M_text M_size M_has M_hand M_layers M_kinds M_names M_nameSizes M_thicknesses M_spreads M_coppers M_copperAt M_presses M_pressFrom M_pressTo M_vias M_viaFrom M_viaTo M_shares M_lists M_hasRow M_rowLow M_rowHigh M_p M_s M_fault M_lines M_word M_wordSize M_out M_written M_secondOne) → va_S A s.heap H locs → lv_has ls 5 [(0, .ref (q 0)), (1, .int v1), (2, .long v2), (4, .int v4)] → W p l e ({ frames := 1, cells := 0, slots := 0, locals := 21 } : Room) s m args below meth c H locs 0 0 (MQ below (QL D y A (z.1) (wdX7 q y M_thrown M_text M_size M_has M_hand M_layers M_kinds M_names M_nameSizes M_thicknesses M_spreads M_coppers M_copperAt M_presses M_pressFrom M_pressTo M_vias M_viaFrom M_viaTo M_shares M_lists M_hasRow M_rowLow M_rowHigh (z.2.1) M_s (z.2.2) M_lines M_word M_wordSize M_out M_written M_secondOne)) args s 0 0 A) (F0 m 5 ls []) := by
  obtain ⟨⟨hx, hb, hml, hown, hts⟩, hr, hlocks⟩ := id C
  intro n
  induction n with
  | zero =>
    intro v1 v2 v4 M_text M_size M_p M_fault H locs ls hm
    rw [g_X7_digits_5_z] at hm
    cases hm
  | succ n ih =>
    intro v1 v2 v4 M_text M_size M_p M_fault H locs ls hm hP hD hS hl
    rw [g_X7_digits_5_s] at hm
    refine lv_aload_n hx hb dX7_digits_5 rfl (lv_at hl 0 rfl) ?_
    obtain ⟨r_1, hc_2, hm⟩ := mb1_of hm
    refine call_vi (wc := (wdX7 q y M_thrown M_text M_size M_has M_hand M_layers M_kinds M_names M_nameSizes M_thicknesses M_spreads M_coppers M_copperAt M_presses M_pressFrom M_pressTo M_vias M_viaFrom M_viaTo M_shares M_lists M_hasRow M_rowLow M_rowHigh M_p M_s M_fault M_lines M_word M_wordSize M_out M_written M_secondOne)) (wr := []) (As := []) (rest := []) C (c_X7_good l D y q _ F hc_2) (cwV 0 hts gX7_digits_X7_good rfl rfl rfl (by decide +kernel) ⟨Nat.le_of_ble_eq_true rfl, Nat.le_of_ble_eq_true rfl⟩) hK hP hD hS hA [0, 1, 2, 3, 4, 5, 6, 7, 8, 9, 10, 11, 12, 13, 14, 15, 16, 17, 18, 19, 20] [] rfl rfl rfl rfl rfl (by decide) rfl rfl rfl rfl hl.1 (Nat.le_of_ble_eq_true rfl) dX7_digits_6 (fun H locs hP hD hS => ?_)
    have hP : va_P D vwCl (wdX7 q y M_thrown M_text M_size M_has M_hand M_layers M_kinds M_names M_nameSizes M_thicknesses M_spreads M_coppers M_copperAt M_presses M_pressFrom M_pressTo M_vias M_viaFrom M_viaTo M_shares M_lists M_hasRow M_rowLow M_rowHigh M_p M_s M_fault M_lines M_word M_wordSize M_out M_written M_secondOne) H := hP
    have hD : va_D A (wdX7 q y M_thrown M_text M_size M_has M_hand M_layers M_kinds M_names M_nameSizes M_thicknesses M_spreads M_coppers M_copperAt M_presses M_pressFrom M_pressTo M_vias M_viaFrom M_viaTo M_shares M_lists M_hasRow M_rowLow M_rowHigh M_p M_s M_fault M_lines M_word M_wordSize M_out M_written M_secondOne) := hD
    refine lv_if_eq (tgt := 71) hx hb dX7_digits_9 (by decide) (fun h_3 => ?_) (fun h_3 => ?_)
    · have hm := it_of hm h_3
      exact k_X7_digits_71 C hA hK F v2 v4 M_p M_fault _ _ _ hm hP hD hS (lv_sub hl [0, 2, 3] rfl)
    · have hm := ie_of hm h_3
      refine lv_aload_n hx hb dX7_digits_12 rfl (lv_at hl 0 rfl) ?_
      obtain ⟨r_4, hc_5, hm⟩ := mb1_of hm
      refine call_vi (wc := (wdX7 q y M_thrown M_text M_size M_has M_hand M_layers M_kinds M_names M_nameSizes M_thicknesses M_spreads M_coppers M_copperAt M_presses M_pressFrom M_pressTo M_vias M_viaFrom M_viaTo M_shares M_lists M_hasRow M_rowLow M_rowHigh M_p M_s M_fault M_lines M_word M_wordSize M_out M_written M_secondOne)) (wr := []) (As := []) (rest := []) C (c_X7_c l D y q _ F hc_5) (cwV 0 hts gX7_digits_X7_c rfl rfl rfl (by decide +kernel) ⟨Nat.le_of_ble_eq_true rfl, Nat.le_of_ble_eq_true rfl⟩) hK hP hD hS hA [0, 1, 2, 3, 4, 5, 6, 7, 8, 9, 10, 11, 12, 13, 14, 15, 16, 17, 18, 19, 20] [] rfl rfl rfl rfl rfl (by decide) rfl rfl rfl rfl hl.1 (Nat.le_of_ble_eq_true rfl) dX7_digits_13 (fun H locs hP hD hS => ?_)
      have hP : va_P D vwCl (wdX7 q y M_thrown M_text M_size M_has M_hand M_layers M_kinds M_names M_nameSizes M_thicknesses M_spreads M_coppers M_copperAt M_presses M_pressFrom M_pressTo M_vias M_viaFrom M_viaTo M_shares M_lists M_hasRow M_rowLow M_rowHigh M_p M_s M_fault M_lines M_word M_wordSize M_out M_written M_secondOne) H := hP
      have hD : va_D A (wdX7 q y M_thrown M_text M_size M_has M_hand M_layers M_kinds M_names M_nameSizes M_thicknesses M_spreads M_coppers M_copperAt M_presses M_pressFrom M_pressTo M_vias M_viaFrom M_viaTo M_shares M_lists M_hasRow M_rowLow M_rowHigh M_p M_s M_fault M_lines M_word M_wordSize M_out M_written M_secondOne) := hD
      obtain ⟨r_6, hc_7, hm⟩ := mb1_of hm
      refine call_si (wc := ([] : va_W)) (wr := [(q 0, .inr (7, [.int M_thrown, .ref (q 1), .int M_size, .int M_has, .int M_hand, .ref (q 2), .ref (q 3), .ref (q 4), .ref (q 5), .ref (q 6), .ref (q 7), .ref (q 8), .ref (q 9), .ref (q 10), .ref (q 11), .ref (q 12), .ref (q 13), .ref (q 14), .ref (q 15), .ref (q 16), .int M_lists, .ref (q 17), .ref (q 18), .ref (q 19), .int M_p, .int M_s, .int M_fault, .int M_lines, .long M_word, .int M_wordSize, .ref (q 20), .int M_written, .int M_secondOne])), (q 1, .inl (y 0, 3000, .inl M_text)), (q 2, .inl (y 0, 2, .inl M_layers)), (q 3, .inl (y 0, 160, .inl M_kinds)), (q 4, .inl (y 1, 160, .inr (.inl M_names))), (q 5, .inl (y 0, 160, .inl M_nameSizes)), (q 6, .inl (y 1, 160, .inr (.inl M_thicknesses))), (q 7, .inl (y 0, 160, .inl M_spreads)), (q 8, .inl (y 0, 2, .inl M_coppers)), (q 9, .inl (y 0, 64, .inl M_copperAt)), (q 10, .inl (y 0, 2, .inl M_presses)), (q 11, .inl (y 0, 44, .inl M_pressFrom)), (q 12, .inl (y 0, 44, .inl M_pressTo)), (q 13, .inl (y 0, 2, .inl M_vias)), (q 14, .inl (y 0, 80, .inl M_viaFrom)), (q 15, .inl (y 0, 80, .inl M_viaTo)), (q 16, .inl (y 0, 32, .inl M_shares)), (q 17, .inl (y 3, 640, .inl M_hasRow)), (q 18, .inl (y 1, 640, .inr (.inl M_rowLow))), (q 19, .inl (y 1, 640, .inr (.inl M_rowHigh))), (q 20, .inl (y 0, 6000, .inl M_out))]) (As := [.int r_4]) (rest := []) C (c_X7_isDigit l D y _ F hc_7) (va_cwS 1 hts gX7_digits_X7_isDigit rfl rfl rfl (by decide +kernel) ⟨Nat.le_of_ble_eq_true rfl, Nat.le_of_ble_eq_true rfl⟩) hK hP hD hS hA [] [0, 1, 2, 3, 4, 5, 6, 7, 8, 9, 10, 11, 12, 13, 14, 15, 16, 17, 18, 19, 20] rfl rfl rfl rfl rfl (by decide) rfl hl.1 (Nat.le_of_ble_eq_true rfl) dX7_digits_16 (fun H locs hP hD hS => ?_)
      have hP : va_P D vwCl (wdX7 q y M_thrown M_text M_size M_has M_hand M_layers M_kinds M_names M_nameSizes M_thicknesses M_spreads M_coppers M_copperAt M_presses M_pressFrom M_pressTo M_vias M_viaFrom M_viaTo M_shares M_lists M_hasRow M_rowLow M_rowHigh M_p M_s M_fault M_lines M_word M_wordSize M_out M_written M_secondOne) H := hP
      have hD : va_D A (wdX7 q y M_thrown M_text M_size M_has M_hand M_layers M_kinds M_names M_nameSizes M_thicknesses M_spreads M_coppers M_copperAt M_presses M_pressFrom M_pressTo M_vias M_viaFrom M_viaTo M_shares M_lists M_hasRow M_rowLow M_rowHigh M_p M_s M_fault M_lines M_word M_wordSize M_out M_written M_secondOne) := hD
      refine lv_if_eq (tgt := 71) hx hb dX7_digits_19 (by decide) (fun h_8 => ?_) (fun h_8 => ?_)
      · have hm := it_of hm h_8
        exact k_X7_digits_71 C hA hK F v2 v4 M_p M_fault _ _ _ hm hP hD hS (lv_sub hl [0, 2, 3] rfl)
      · have hm := ie_of hm h_8
        refine lv_iload hx hb dX7_digits_22 (lv_at hl 3 rfl) ?_
        refine lv_iload_n hx hb dX7_digits_24 rfl (lv_at hl 1 rfl) ?_
        refine lv_icmp_ne (tgt := 39) hx hb dX7_digits_25 (by decide) (fun h_9 => ?_) (fun h_9 => ?_)
        · have hm := ie_of hm h_9
          refine lv_ldc2 (v := (10 : Int64)) hx hb hown (hts _ w_X7_digits_k127) dX7_digits_39 ?_
          refine lv_lload_n hx hb dX7_digits_42 rfl (lv_at hl 2 rfl) ?_
          refine lv_lmul hx hb dX7_digits_43 ?_
          refine lv_aload_n hx hb dX7_digits_44 rfl (lv_at hl 0 rfl) ?_
          obtain ⟨r_10, hc_11, hm⟩ := mb1_of hm
          refine call_vi (wc := (wdX7 q y M_thrown M_text M_size M_has M_hand M_layers M_kinds M_names M_nameSizes M_thicknesses M_spreads M_coppers M_copperAt M_presses M_pressFrom M_pressTo M_vias M_viaFrom M_viaTo M_shares M_lists M_hasRow M_rowLow M_rowHigh M_p M_s M_fault M_lines M_word M_wordSize M_out M_written M_secondOne)) (wr := []) (As := []) (rest := [.long ((10 : Int64) * v2)]) C (c_X7_c l D y q _ F hc_11) (cwV 0 hts gX7_digits_X7_c rfl rfl rfl (by decide +kernel) ⟨Nat.le_of_ble_eq_true rfl, Nat.le_of_ble_eq_true rfl⟩) hK hP hD hS hA [0, 1, 2, 3, 4, 5, 6, 7, 8, 9, 10, 11, 12, 13, 14, 15, 16, 17, 18, 19, 20] [] rfl rfl rfl rfl rfl (by decide) rfl rfl rfl rfl hl.1 (Nat.le_of_ble_eq_true rfl) dX7_digits_45 (fun H locs hP hD hS => ?_)
          have hP : va_P D vwCl (wdX7 q y M_thrown M_text M_size M_has M_hand M_layers M_kinds M_names M_nameSizes M_thicknesses M_spreads M_coppers M_copperAt M_presses M_pressFrom M_pressTo M_vias M_viaFrom M_viaTo M_shares M_lists M_hasRow M_rowLow M_rowHigh M_p M_s M_fault M_lines M_word M_wordSize M_out M_written M_secondOne) H := hP
          have hD : va_D A (wdX7 q y M_thrown M_text M_size M_has M_hand M_layers M_kinds M_names M_nameSizes M_thicknesses M_spreads M_coppers M_copperAt M_presses M_pressFrom M_pressTo M_vias M_viaFrom M_viaTo M_shares M_lists M_hasRow M_rowLow M_rowHigh M_p M_s M_fault M_lines M_word M_wordSize M_out M_written M_secondOne) := hD
          refine lv_i2l (v := (r_10).toInt64) hx hb dX7_digits_48 rfl ?_
          refine lv_ladd hx hb dX7_digits_49 ?_
          refine lv_ldc2 (v := (48 : Int64)) hx hb hown (hts _ w_X7_digits_k129) dX7_digits_50 ?_
          refine lv_lsub hx hb dX7_digits_53 ?_
          refine lv_topl (fun v2_12 ev2_12 => ?_)
          have hm := mn_of ev2_12 hm
          refine lv_lstore_n (lv' := [(2, .long v2_12), (0, .ref (q 0)), (1, .int v1), (4, .int v4)]) hx hb dX7_digits_54 rfl hl (by decide) rfl (fun ls hl => ?_)
          obtain ⟨v4_13, ev4_13⟩ : ∃ y9 : Int32, y9 = (v4 + (1 : Int32)) := ⟨_, rfl⟩
          have hm := mn_of ev4_13 hm
          refine lv_iinc (v := v4_13) (lv' := [(4, .int v4_13), (2, .long v2_12), (0, .ref (q 0)), (1, .int v1)]) hx hb dX7_digits_55 hl (k := 3) rfl (by rw [ev4_13]; rfl) (by decide) rfl (fun ls hl => ?_)
          refine lv_aload_n hx hb dX7_digits_58 rfl (lv_at hl 2 rfl) ?_
          refine lv_dup hx hb dX7_digits_59 rfl ?_
          refine va_get (D := D) (ci := 7) (v := .int M_p) (C := RX7) (T := TX7) (N := 33) hx hb hts n_X7_digits_X7 hown hK hP 0 rfl rfl 24 (by decide) (hts _ w_X7_digits_f79) (fun _ h9 => h9) rfl dX7_digits_60 ?_
          refine lv_iconst (v := (1 : Int32)) hx hb dX7_digits_63 (by decide) ?_
          refine lv_iadd hx hb dX7_digits_64 ?_
          refine va_put (D := D) (ci := 7) (v := .int (M_p + (1 : Int32))) (ty := .int) (C := RX7) (T := TX7) (N := 33) hx hb hts n_X7_digits_X7 tyX7 tyX7_ok nmX7 hown hK hP hD hS 0 rfl rfl 24 (by decide) (hts _ w_X7_digits_f79) (fun _ h9 => h9) rfl (by decide +kernel) rfl rfl (Nat.le_of_ble_eq_true rfl) dX7_digits_65 (fun H locs hP hD hS => ?_)
          have hP : va_P D vwCl (wdX7 q y M_thrown M_text M_size M_has M_hand M_layers M_kinds M_names M_nameSizes M_thicknesses M_spreads M_coppers M_copperAt M_presses M_pressFrom M_pressTo M_vias M_viaFrom M_viaTo M_shares M_lists M_hasRow M_rowLow M_rowHigh (M_p + (1 : Int32)) M_s M_fault M_lines M_word M_wordSize M_out M_written M_secondOne) H := hP
          have hD : va_D A (wdX7 q y M_thrown M_text M_size M_has M_hand M_layers M_kinds M_names M_nameSizes M_thicknesses M_spreads M_coppers M_copperAt M_presses M_pressFrom M_pressTo M_vias M_viaFrom M_viaTo M_shares M_lists M_hasRow M_rowLow M_rowHigh (M_p + (1 : Int32)) M_s M_fault M_lines M_word M_wordSize M_out M_written M_secondOne) := hD
          refine lv_goto (tgt := 5) hx hb dX7_digits_68 (by decide) ?_
          exact ih v1 v2_12 v4_13 M_text M_size (M_p + (1 : Int32)) M_fault _ _ _ hm hP hD hS (lv_sub hl [2, 3, 1, 0] rfl)
        · have hm := it_of hm h_9
          refine lv_aload_n hx hb dX7_digits_28 rfl (lv_at hl 0 rfl) ?_
          refine lv_aload_n hx hb dX7_digits_29 rfl (lv_at hl 0 rfl) ?_
          refine va_get (D := D) (ci := 7) (v := .int M_p) (C := RX7) (T := TX7) (N := 33) hx hb hts n_X7_digits_X7 hown hK hP 0 rfl rfl 24 (by decide) (hts _ w_X7_digits_f79) (fun _ h9 => h9) rfl dX7_digits_30 ?_
          obtain ⟨M_fault_14, hc_15, hm⟩ := mb1_of hm
          refine call_vv (wc := (wdX7 q y M_thrown M_text M_size M_has M_hand M_layers M_kinds M_names M_nameSizes M_thicknesses M_spreads M_coppers M_copperAt M_presses M_pressFrom M_pressTo M_vias M_viaFrom M_viaTo M_shares M_lists M_hasRow M_rowLow M_rowHigh M_p M_s M_fault M_lines M_word M_wordSize M_out M_written M_secondOne)) (wr := []) (As := [.int M_p]) (rest := []) C (c_X7_fail l D y q _ F hc_15) (cwV 1 hts gX7_digits_X7_fail rfl rfl rfl (by decide +kernel) ⟨Nat.le_of_ble_eq_true rfl, Nat.le_of_ble_eq_true rfl⟩) hK hP hD hS hA [0, 1, 2, 3, 4, 5, 6, 7, 8, 9, 10, 11, 12, 13, 14, 15, 16, 17, 18, 19, 20] [] rfl rfl rfl rfl rfl (by decide) rfl rfl rfl rfl hl.1 (Nat.le_of_ble_eq_true rfl) dX7_digits_33 (fun H locs hP hD hS => ?_)
          have hP : va_P D vwCl (wdX7 q y M_thrown M_text M_size M_has M_hand M_layers M_kinds M_names M_nameSizes M_thicknesses M_spreads M_coppers M_copperAt M_presses M_pressFrom M_pressTo M_vias M_viaFrom M_viaTo M_shares M_lists M_hasRow M_rowLow M_rowHigh M_p M_s M_fault_14 M_lines M_word M_wordSize M_out M_written M_secondOne) H := hP
          have hD : va_D A (wdX7 q y M_thrown M_text M_size M_has M_hand M_layers M_kinds M_names M_nameSizes M_thicknesses M_spreads M_coppers M_copperAt M_presses M_pressFrom M_pressTo M_vias M_viaFrom M_viaTo M_shares M_lists M_hasRow M_rowLow M_rowHigh M_p M_s M_fault_14 M_lines M_word M_wordSize M_out M_written M_secondOne) := hD
          refine lv_goto (tgt := 5) hx hb dX7_digits_36 (by decide) ?_
          exact ih v1 v2 v4 M_text M_size M_p M_fault_14 _ _ _ hm hP hD hS (lv_sub hl [0, 1, 2, 3] rfl)
set_option maxHeartbeats 4000000 in
set_option maxRecDepth 100000 in
theorem c_X7_digits (l : Launch) (D : va_G) (y : Nat → ClassId) (q : Nat → Nat) (sz : Nat) (F : Nat) {v1 : Int32} {M_thrown : Int32} {M_text : Nat → Int32} {M_size : Int32} {M_has : Int32} {M_hand : Int32} {M_layers : Nat → Int32} {M_kinds : Nat → Int32} {M_names : Nat → Int64} {M_nameSizes : Nat → Int32} {M_thicknesses : Nat → Int64} {M_spreads : Nat → Int32} {M_coppers : Nat → Int32} {M_copperAt : Nat → Int32} {M_presses : Nat → Int32} {M_pressFrom : Nat → Int32} {M_pressTo : Nat → Int32} {M_vias : Nat → Int32} {M_viaFrom : Nat → Int32} {M_viaTo : Nat → Int32} {M_shares : Nat → Int32} {M_lists : Int32} {M_hasRow : Nat → Int32} {M_rowLow : Nat → Int64} {M_rowHigh : Nat → Int64} {M_p : Int32} {M_s : Int32} {M_fault : Int32} {M_lines : Int32} {M_word : Int64} {M_wordSize : Int32} {M_out : Nat → Int32} {M_written : Int32} {M_secondOne : Int32} {z : Int64 × Int32 × Int32} (hm : f_X7_digits F v1 M_text M_size M_p M_fault = some z) : Met l yX7_digits wsX7_digits ({ frames := 1, cells := 0, slots := 0, locals := 21 } : Room) (va_Pc [.ref (q 0), .int v1] (cP D y (wdX7 q y M_thrown M_text M_size M_has M_hand M_layers M_kinds M_names M_nameSizes M_thicknesses M_spreads M_coppers M_copperAt M_presses M_pressFrom M_pressTo M_vias M_viaFrom M_viaTo M_shares M_lists M_hasRow M_rowLow M_rowHigh M_p M_s M_fault M_lines M_word M_wordSize M_out M_written M_secondOne) sz)) (QL D y (va_A (wdX7 q y M_thrown M_text M_size M_has M_hand M_layers M_kinds M_names M_nameSizes M_thicknesses M_spreads M_coppers M_copperAt M_presses M_pressFrom M_pressTo M_vias M_viaFrom M_viaTo M_shares M_lists M_hasRow M_rowLow M_rowHigh M_p M_s M_fault M_lines M_word M_wordSize M_out M_written M_secondOne) sz) (z.1) (wdX7 q y M_thrown M_text M_size M_has M_hand M_layers M_kinds M_names M_nameSizes M_thicknesses M_spreads M_coppers M_copperAt M_presses M_pressFrom M_pressTo M_vias M_viaFrom M_viaTo M_shares M_lists M_hasRow M_rowLow M_rowHigh (z.2.1) M_s (z.2.2) M_lines M_word M_wordSize M_out M_written M_secondOne)) 0 0 (va_A (wdX7 q y M_thrown M_text M_size M_has M_hand M_layers M_kinds M_names M_nameSizes M_thicknesses M_spreads M_coppers M_copperAt M_presses M_pressFrom M_pressTo M_vias M_viaFrom M_viaTo M_shares M_lists M_hasRow M_rowLow M_rowHigh M_p M_s M_fault M_lines M_word M_wordSize M_out M_written M_secondOne) sz) := by
  refine met_of (own := RX7) (cc := cX7_digits) (maxL := 5) (ret := (some .long)) (by decide) rfl rfl (Nat.le_of_ble_eq_true rfl) ?_
  intro p e s m below meth c ls C hsz hK hP hD hA hS hl
  obtain ⟨⟨hx, hb, hml, hown, hts⟩, hr, hlocks⟩ := id C
  have hl : lv_has ls 5 [(0, .ref (q 0)), (1, .int v1)] := hl
  generalize va_A (wdX7 q y M_thrown M_text M_size M_has M_hand M_layers M_kinds M_names M_nameSizes M_thicknesses M_spreads M_coppers M_copperAt M_presses M_pressFrom M_pressTo M_vias M_viaFrom M_viaTo M_shares M_lists M_hasRow M_rowLow M_rowHigh M_p M_s M_fault M_lines M_word M_wordSize M_out M_written M_secondOne) sz = A at hD hA hS ⊢
  generalize ([.ref (q 0), .int v1] : List Value).toArray = args at C hts ⊢
  unfold f_X7_digits at hm
  refine lv_lconst (v := (0 : Int64)) hx hb dX7_digits_0 (by decide) ?_
  refine lv_lstore_n (lv' := [(2, .long (0 : Int64)), (0, .ref (q 0)), (1, .int v1)]) hx hb dX7_digits_1 rfl hl (by decide) rfl (fun ls hl => ?_)
  refine lv_iconst (v := (0 : Int32)) hx hb dX7_digits_2 (by decide) ?_
  refine lv_istore (lv' := [(4, .int (0 : Int32)), (2, .long (0 : Int64)), (0, .ref (q 0)), (1, .int v1)]) hx hb dX7_digits_3 hl (by decide) rfl (fun ls hl => ?_)
  exact k_X7_digits_5 C hA hK F F v1 (0 : Int64) (0 : Int32) M_text M_size M_p M_fault _ _ _ hm hP hD hS (lv_sub hl [2, 3, 1, 0] rfl)
def g_X7_number_77 (F : Nat) : Nat → Int32 → Int64 → Int64 → Int32 → Int32 → Int32 → Option (Int64 × Int32 × Int32)
  | 0, _, _, _, _, _, _ => none
  | n + 1, v2, v3, v6, v8, M_p, M_fault => (if v2 ≤ v8 then some ((v3 + v6), M_p, M_fault) else mn ((10 : Int64) * v6) (fun v6_2 => mn (v8 + (1 : Int32)) (fun v8_3 => g_X7_number_77 F n v2 v3 v6_2 v8_3 M_p M_fault)))
theorem g_X7_number_77_z (F : Nat) (v2 : Int32) (v3 : Int64) (v6 : Int64) (v8 : Int32) (M_p : Int32) (M_fault : Int32) : g_X7_number_77 F 0 v2 v3 v6 v8 M_p M_fault = none := rfl
theorem g_X7_number_77_s (F : Nat) (n : Nat) (v2 : Int32) (v3 : Int64) (v6 : Int64) (v8 : Int32) (M_p : Int32) (M_fault : Int32) : g_X7_number_77 F (n + 1) v2 v3 v6 v8 M_p M_fault = (if v2 ≤ v8 then some ((v3 + v6), M_p, M_fault) else mn ((10 : Int64) * v6) (fun v6_2 => mn (v8 + (1 : Int32)) (fun v8_3 => g_X7_number_77 F n v2 v3 v6_2 v8_3 M_p M_fault))) := rfl
def g_X7_number_9 (F : Nat) : Nat → Int32 → Int64 → Int32 → (Nat → Int32) → Int32 → Int32 → Int32 → Option (Int64 × Int32 × Int32)
  | 0, _, _, _, _, _, _, _ => none
  | n + 1, v2, v3, v5, M_text, M_size, M_p, M_fault => (if v2 ≤ v5 then mb1 (f_X7_good F M_fault) (fun r_2 => (if r_2 = 0 then some (v3, M_p, M_fault) else mb1 (f_X7_c F M_text M_size M_p) (fun r_5 => (if r_5 = (46 : Int32) then mn (M_p + (1 : Int32)) (fun v5_8 => mb3 (f_X7_digits F v2 M_text M_size (M_p + (1 : Int32)) M_fault) (fun r_9 M_p_10 M_fault_11 => mn (M_p_10 - v5_8) (fun v8_13 => g_X7_number_77 F F v2 v3 r_9 v8_13 M_p_10 M_fault_11))) else some (v3, M_p, M_fault))))) else mn ((10 : Int64) * v3) (fun v3_14 => mn (v5 + (1 : Int32)) (fun v5_15 => g_X7_number_9 F n v2 v3_14 v5_15 M_text M_size M_p M_fault)))
theorem g_X7_number_9_z (F : Nat) (v2 : Int32) (v3 : Int64) (v5 : Int32) (M_text : Nat → Int32) (M_size : Int32) (M_p : Int32) (M_fault : Int32) : g_X7_number_9 F 0 v2 v3 v5 M_text M_size M_p M_fault = none := rfl
theorem g_X7_number_9_s (F : Nat) (n : Nat) (v2 : Int32) (v3 : Int64) (v5 : Int32) (M_text : Nat → Int32) (M_size : Int32) (M_p : Int32) (M_fault : Int32) : g_X7_number_9 F (n + 1) v2 v3 v5 M_text M_size M_p M_fault = (if v2 ≤ v5 then mb1 (f_X7_good F M_fault) (fun r_2 => (if r_2 = 0 then some (v3, M_p, M_fault) else mb1 (f_X7_c F M_text M_size M_p) (fun r_5 => (if r_5 = (46 : Int32) then mn (M_p + (1 : Int32)) (fun v5_8 => mb3 (f_X7_digits F v2 M_text M_size (M_p + (1 : Int32)) M_fault) (fun r_9 M_p_10 M_fault_11 => mn (M_p_10 - v5_8) (fun v8_13 => g_X7_number_77 F F v2 v3 r_9 v8_13 M_p_10 M_fault_11))) else some (v3, M_p, M_fault))))) else mn ((10 : Int64) * v3) (fun v3_14 => mn (v5 + (1 : Int32)) (fun v5_15 => g_X7_number_9 F n v2 v3_14 v5_15 M_text M_size M_p M_fault))) := rfl
def f_X7_number (F : Nat) (v1 : Int32) (v2 : Int32) (M_text : Nat → Int32) (M_size : Int32) (M_p : Int32) (M_fault : Int32) : Option (Int64 × Int32 × Int32) := mb3 (f_X7_digits F v1 M_text M_size M_p M_fault) (fun r_1 M_p_2 M_fault_3 => g_X7_number_9 F F v2 r_1 (0 : Int32) M_text M_size M_p_2 M_fault_3)
set_option maxRecDepth 20000 in
theorem n_X7_number_X7 : ∀ w ∈ wsX70, w ∈ wsX7_number := by decide +kernel
set_option maxRecDepth 20000 in
theorem w_X7_number_f79 : Cond.fieldLink RX7 79 "LayerStacksModel" "p" "I" ∈ wsX7_number := by decide +kernel
set_option maxRecDepth 20000 in
theorem w_X7_number_k127 : Cond.constantLong RX7 127 (10) ∈ wsX7_number := by decide +kernel
set_option maxHeartbeats 4000000 in
set_option maxRecDepth 100000 in
theorem k_X7_number_77 {p : Program} {l : Launch} {e : Env} {s : State} {m : MethodId} {args : Array Value} {below : List Frame} {meth : Method} {c : Code} {D : va_G} {y : Nat → ClassId} {A : Nat → Prop} {q : Nat → Nat} {M_thrown : Int32} {M_text : Nat → Int32} {M_size : Int32} {M_has : Int32} {M_hand : Int32} {M_layers : Nat → Int32} {M_kinds : Nat → Int32} {M_names : Nat → Int64} {M_nameSizes : Nat → Int32} {M_thicknesses : Nat → Int64} {M_spreads : Nat → Int32} {M_coppers : Nat → Int32} {M_copperAt : Nat → Int32} {M_presses : Nat → Int32} {M_pressFrom : Nat → Int32} {M_pressTo : Nat → Int32} {M_vias : Nat → Int32} {M_viaFrom : Nat → Int32} {M_viaTo : Nat → Int32} {M_shares : Nat → Int32} {M_lists : Int32} {M_hasRow : Nat → Int32} {M_rowLow : Nat → Int64} {M_rowHigh : Nat → Int64} {M_s : Int32} {M_lines : Int32} {M_word : Int64} {M_wordSize : Int32} {M_out : Nat → Int32} {M_written : Int32} {M_secondOne : Int32} {z : Int64 × Int32 × Int32} (C : CX p s m args meth c wsX7_number RX7 cX7_number 9 (some .long)) (hA : ∀ q : Nat, s.heap.size ≤ q → A q) (hK : va_K D vwCl (tyl y) s) (F : Nat) :
    ∀ (n : Nat), ∀ (v2 : Int32) (v3 : Int64) (v6 : Int64) (v8 : Int32) (M_p : Int32) (M_fault : Int32) (H : Heap) (locs : List Loc) (ls : Array Slot), g_X7_number_77 F n v2 v3 v6 v8 M_p M_fault = some z → va_P D vwCl (wdX7 q y M_thrown M_text M_size M_has M_hand M_layers M_kinds M_names M_nameSizes M_thicknesses M_spreads M_coppers M_copperAt M_presses M_pressFrom M_pressTo M_vias M_viaFrom M_viaTo M_shares M_lists M_hasRow M_rowLow M_rowHigh M_p M_s M_fault M_lines M_word M_wordSize M_out M_written M_secondOne) H → va_D A (wdX7 q y M_thrown M_text M_size M_has M_hand M_layers M_kinds M_names M_nameSizes M_thicknesses M_spreads M_coppers M_copperAt M_presses M_pressFrom M_pressTo M_vias M_viaFrom M_viaTo M_shares M_lists M_hasRow M_rowLow M_rowHigh M_p M_s M_fault M_lines M_word M_wordSize M_out M_written M_secondOne) → va_S A s.heap H locs → lv_has ls 9 [(2, .int v2), (3, .long v3), (6, .long v6), (8, .int v8)] → W p l e ({ frames := 2, cells := 0, slots := 0, locals := 45 } : Room) s m args below meth c H locs 0 0 (MQ below (QL D y A (z.1) (wdX7 q y M_thrown M_text M_size M_has M_hand M_layers M_kinds M_names M_nameSizes M_thicknesses M_spreads M_coppers M_copperAt M_presses M_pressFrom M_pressTo M_vias M_viaFrom M_viaTo M_shares M_lists M_hasRow M_rowLow M_rowHigh (z.2.1) M_s (z.2.2) M_lines M_word M_wordSize M_out M_written M_secondOne)) args s 0 0 A) (F0 m 77 ls []) := by
  obtain ⟨⟨hx, hb, hml, hown, hts⟩, hr, hlocks⟩ := id C
  intro n
  induction n with
  | zero =>
    intro v2 v3 v6 v8 M_p M_fault H locs ls hm
    rw [g_X7_number_77_z] at hm
    cases hm
  | succ n ih =>
    intro v2 v3 v6 v8 M_p M_fault H locs ls hm hP hD hS hl
    rw [g_X7_number_77_s] at hm
    refine lv_iload hx hb dX7_number_77 (lv_at hl 3 rfl) ?_
    refine lv_iload_n hx hb dX7_number_79 rfl (lv_at hl 0 rfl) ?_
    refine lv_icmp_ge (tgt := 97) hx hb dX7_number_80 (by decide) (fun h_1 => ?_) (fun h_1 => ?_)
    · have hm := it_of hm h_1
      refine lv_lload_n hx hb dX7_number_97 rfl (lv_at hl 1 rfl) ?_
      refine lv_lload hx hb dX7_number_98 (lv_at hl 2 rfl) ?_
      refine lv_ladd hx hb dX7_number_100 ?_
      have hz := Option.some.inj hm
      subst hz
      exact end_l C hK hP hD hS dX7_number_101
    · have hm := ie_of hm h_1
      refine lv_ldc2 (v := (10 : Int64)) hx hb hown (hts _ w_X7_number_k127) dX7_number_83 ?_
      refine lv_lload hx hb dX7_number_86 (lv_at hl 2 rfl) ?_
      refine lv_lmul hx hb dX7_number_88 ?_
      refine lv_topl (fun v6_2 ev6_2 => ?_)
      have hm := mn_of ev6_2 hm
      refine lv_lstore (lv' := [(6, .long v6_2), (2, .int v2), (3, .long v3), (8, .int v8)]) hx hb dX7_number_89 hl (by decide) rfl (fun ls hl => ?_)
      obtain ⟨v8_3, ev8_3⟩ : ∃ y9 : Int32, y9 = (v8 + (1 : Int32)) := ⟨_, rfl⟩
      have hm := mn_of ev8_3 hm
      refine lv_iinc (v := v8_3) (lv' := [(8, .int v8_3), (6, .long v6_2), (2, .int v2), (3, .long v3)]) hx hb dX7_number_91 hl (k := 3) rfl (by rw [ev8_3]; rfl) (by decide) rfl (fun ls hl => ?_)
      refine lv_goto (tgt := 77) hx hb dX7_number_94 (by decide) ?_
      exact ih v2 v3 v6_2 v8_3 M_p M_fault _ _ _ hm hP hD hS (lv_sub hl [2, 3, 1, 0] rfl)
set_option maxHeartbeats 4000000 in
set_option maxRecDepth 100000 in
theorem k_X7_number_9 {p : Program} {l : Launch} {e : Env} {s : State} {m : MethodId} {args : Array Value} {below : List Frame} {meth : Method} {c : Code} {D : va_G} {y : Nat → ClassId} {A : Nat → Prop} {q : Nat → Nat} {M_thrown : Int32} {M_has : Int32} {M_hand : Int32} {M_layers : Nat → Int32} {M_kinds : Nat → Int32} {M_names : Nat → Int64} {M_nameSizes : Nat → Int32} {M_thicknesses : Nat → Int64} {M_spreads : Nat → Int32} {M_coppers : Nat → Int32} {M_copperAt : Nat → Int32} {M_presses : Nat → Int32} {M_pressFrom : Nat → Int32} {M_pressTo : Nat → Int32} {M_vias : Nat → Int32} {M_viaFrom : Nat → Int32} {M_viaTo : Nat → Int32} {M_shares : Nat → Int32} {M_lists : Int32} {M_hasRow : Nat → Int32} {M_rowLow : Nat → Int64} {M_rowHigh : Nat → Int64} {M_s : Int32} {M_lines : Int32} {M_word : Int64} {M_wordSize : Int32} {M_out : Nat → Int32} {M_written : Int32} {M_secondOne : Int32} {z : Int64 × Int32 × Int32} (C : CX p s m args meth c wsX7_number RX7 cX7_number 9 (some .long)) (hA : ∀ q : Nat, s.heap.size ≤ q → A q) (hK : va_K D vwCl (tyl y) s) (F : Nat) :
    ∀ (n : Nat), ∀ (v2 : Int32) (v3 : Int64) (v5 : Int32) (M_text : Nat → Int32) (M_size : Int32) (M_p : Int32) (M_fault : Int32) (H : Heap) (locs : List Loc) (ls : Array Slot), g_X7_number_9 F n v2 v3 v5 M_text M_size M_p M_fault = some z → va_P D vwCl (wdX7 q y M_thrown M_text M_size M_has M_hand M_layers M_kinds M_names M_nameSizes M_thicknesses M_spreads M_coppers M_copperAt M_presses M_pressFrom M_pressTo M_vias M_viaFrom M_viaTo M_shares M_lists M_hasRow M_rowLow M_rowHigh M_p M_s M_fault M_lines M_word M_wordSize M_out M_written M_secondOne) H → va_D A (wdX7 q y M_thrown M_text M_size M_has M_hand M_layers M_kinds M_names M_nameSizes M_thicknesses M_spreads M_coppers M_copperAt M_presses M_pressFrom M_pressTo M_vias M_viaFrom M_viaTo M_shares M_lists M_hasRow M_rowLow M_rowHigh M_p M_s M_fault M_lines M_word M_wordSize M_out M_written M_secondOne) → va_S A s.heap H locs → lv_has ls 9 [(0, .ref (q 0)), (2, .int v2), (3, .long v3), (5, .int v5)] → W p l e ({ frames := 2, cells := 0, slots := 0, locals := 45 } : Room) s m args below meth c H locs 0 0 (MQ below (QL D y A (z.1) (wdX7 q y M_thrown M_text M_size M_has M_hand M_layers M_kinds M_names M_nameSizes M_thicknesses M_spreads M_coppers M_copperAt M_presses M_pressFrom M_pressTo M_vias M_viaFrom M_viaTo M_shares M_lists M_hasRow M_rowLow M_rowHigh (z.2.1) M_s (z.2.2) M_lines M_word M_wordSize M_out M_written M_secondOne)) args s 0 0 A) (F0 m 9 ls []) := by
  obtain ⟨⟨hx, hb, hml, hown, hts⟩, hr, hlocks⟩ := id C
  intro n
  induction n with
  | zero =>
    intro v2 v3 v5 M_text M_size M_p M_fault H locs ls hm
    rw [g_X7_number_9_z] at hm
    cases hm
  | succ n ih =>
    intro v2 v3 v5 M_text M_size M_p M_fault H locs ls hm hP hD hS hl
    rw [g_X7_number_9_s] at hm
    refine lv_iload hx hb dX7_number_9 (lv_at hl 3 rfl) ?_
    refine lv_iload_n hx hb dX7_number_11 rfl (lv_at hl 1 rfl) ?_
    refine lv_icmp_ge (tgt := 27) hx hb dX7_number_12 (by decide) (fun h_1 => ?_) (fun h_1 => ?_)
    · have hm := it_of hm h_1
      refine lv_aload_n hx hb dX7_number_27 rfl (lv_at hl 0 rfl) ?_
      obtain ⟨r_2, hc_3, hm⟩ := mb1_of hm
      refine call_vi (wc := (wdX7 q y M_thrown M_text M_size M_has M_hand M_layers M_kinds M_names M_nameSizes M_thicknesses M_spreads M_coppers M_copperAt M_presses M_pressFrom M_pressTo M_vias M_viaFrom M_viaTo M_shares M_lists M_hasRow M_rowLow M_rowHigh M_p M_s M_fault M_lines M_word M_wordSize M_out M_written M_secondOne)) (wr := []) (As := []) (rest := []) C (c_X7_good l D y q _ F hc_3) (cwV 0 hts gX7_number_X7_good rfl rfl rfl (by decide +kernel) ⟨Nat.le_of_ble_eq_true rfl, Nat.le_of_ble_eq_true rfl⟩) hK hP hD hS hA [0, 1, 2, 3, 4, 5, 6, 7, 8, 9, 10, 11, 12, 13, 14, 15, 16, 17, 18, 19, 20] [] rfl rfl rfl rfl rfl (by decide) rfl rfl rfl rfl hl.1 (Nat.le_of_ble_eq_true rfl) dX7_number_28 (fun H locs hP hD hS => ?_)
      have hP : va_P D vwCl (wdX7 q y M_thrown M_text M_size M_has M_hand M_layers M_kinds M_names M_nameSizes M_thicknesses M_spreads M_coppers M_copperAt M_presses M_pressFrom M_pressTo M_vias M_viaFrom M_viaTo M_shares M_lists M_hasRow M_rowLow M_rowHigh M_p M_s M_fault M_lines M_word M_wordSize M_out M_written M_secondOne) H := hP
      have hD : va_D A (wdX7 q y M_thrown M_text M_size M_has M_hand M_layers M_kinds M_names M_nameSizes M_thicknesses M_spreads M_coppers M_copperAt M_presses M_pressFrom M_pressTo M_vias M_viaFrom M_viaTo M_shares M_lists M_hasRow M_rowLow M_rowHigh M_p M_s M_fault M_lines M_word M_wordSize M_out M_written M_secondOne) := hD
      refine lv_if_eq (tgt := 43) hx hb dX7_number_31 (by decide) (fun h_4 => ?_) (fun h_4 => ?_)
      · have hm := it_of hm h_4
        refine lv_lload_n hx hb dX7_number_43 rfl (lv_at hl 2 rfl) ?_
        have hz := Option.some.inj hm
        subst hz
        exact end_l C hK hP hD hS dX7_number_44
      · have hm := ie_of hm h_4
        refine lv_aload_n hx hb dX7_number_34 rfl (lv_at hl 0 rfl) ?_
        obtain ⟨r_5, hc_6, hm⟩ := mb1_of hm
        refine call_vi (wc := (wdX7 q y M_thrown M_text M_size M_has M_hand M_layers M_kinds M_names M_nameSizes M_thicknesses M_spreads M_coppers M_copperAt M_presses M_pressFrom M_pressTo M_vias M_viaFrom M_viaTo M_shares M_lists M_hasRow M_rowLow M_rowHigh M_p M_s M_fault M_lines M_word M_wordSize M_out M_written M_secondOne)) (wr := []) (As := []) (rest := []) C (c_X7_c l D y q _ F hc_6) (cwV 0 hts gX7_number_X7_c rfl rfl rfl (by decide +kernel) ⟨Nat.le_of_ble_eq_true rfl, Nat.le_of_ble_eq_true rfl⟩) hK hP hD hS hA [0, 1, 2, 3, 4, 5, 6, 7, 8, 9, 10, 11, 12, 13, 14, 15, 16, 17, 18, 19, 20] [] rfl rfl rfl rfl rfl (by decide) rfl rfl rfl rfl hl.1 (Nat.le_of_ble_eq_true rfl) dX7_number_35 (fun H locs hP hD hS => ?_)
        have hP : va_P D vwCl (wdX7 q y M_thrown M_text M_size M_has M_hand M_layers M_kinds M_names M_nameSizes M_thicknesses M_spreads M_coppers M_copperAt M_presses M_pressFrom M_pressTo M_vias M_viaFrom M_viaTo M_shares M_lists M_hasRow M_rowLow M_rowHigh M_p M_s M_fault M_lines M_word M_wordSize M_out M_written M_secondOne) H := hP
        have hD : va_D A (wdX7 q y M_thrown M_text M_size M_has M_hand M_layers M_kinds M_names M_nameSizes M_thicknesses M_spreads M_coppers M_copperAt M_presses M_pressFrom M_pressTo M_vias M_viaFrom M_viaTo M_shares M_lists M_hasRow M_rowLow M_rowHigh M_p M_s M_fault M_lines M_word M_wordSize M_out M_written M_secondOne) := hD
        refine lv_bipush (v := (46 : Int32)) hx hb dX7_number_38 (by decide) ?_
        refine lv_icmp_eq (tgt := 45) hx hb dX7_number_40 (by decide) (fun h_7 => ?_) (fun h_7 => ?_)
        · have hm := it_of hm h_7
          refine lv_aload_n hx hb dX7_number_45 rfl (lv_at hl 0 rfl) ?_
          refine lv_dup hx hb dX7_number_46 rfl ?_
          refine va_get (D := D) (ci := 7) (v := .int M_p) (C := RX7) (T := TX7) (N := 33) hx hb hts n_X7_number_X7 hown hK hP 0 rfl rfl 24 (by decide) (hts _ w_X7_number_f79) (fun _ h9 => h9) rfl dX7_number_47 ?_
          refine lv_iconst (v := (1 : Int32)) hx hb dX7_number_50 (by decide) ?_
          refine lv_iadd hx hb dX7_number_51 ?_
          refine va_put (D := D) (ci := 7) (v := .int (M_p + (1 : Int32))) (ty := .int) (C := RX7) (T := TX7) (N := 33) hx hb hts n_X7_number_X7 tyX7 tyX7_ok nmX7 hown hK hP hD hS 0 rfl rfl 24 (by decide) (hts _ w_X7_number_f79) (fun _ h9 => h9) rfl (by decide +kernel) rfl rfl (Nat.le_of_ble_eq_true rfl) dX7_number_52 (fun H locs hP hD hS => ?_)
          have hP : va_P D vwCl (wdX7 q y M_thrown M_text M_size M_has M_hand M_layers M_kinds M_names M_nameSizes M_thicknesses M_spreads M_coppers M_copperAt M_presses M_pressFrom M_pressTo M_vias M_viaFrom M_viaTo M_shares M_lists M_hasRow M_rowLow M_rowHigh (M_p + (1 : Int32)) M_s M_fault M_lines M_word M_wordSize M_out M_written M_secondOne) H := hP
          have hD : va_D A (wdX7 q y M_thrown M_text M_size M_has M_hand M_layers M_kinds M_names M_nameSizes M_thicknesses M_spreads M_coppers M_copperAt M_presses M_pressFrom M_pressTo M_vias M_viaFrom M_viaTo M_shares M_lists M_hasRow M_rowLow M_rowHigh (M_p + (1 : Int32)) M_s M_fault M_lines M_word M_wordSize M_out M_written M_secondOne) := hD
          refine lv_aload_n hx hb dX7_number_55 rfl (lv_at hl 0 rfl) ?_
          refine va_get (D := D) (ci := 7) (v := .int (M_p + (1 : Int32))) (C := RX7) (T := TX7) (N := 33) hx hb hts n_X7_number_X7 hown hK hP 0 rfl rfl 24 (by decide) (hts _ w_X7_number_f79) (fun _ h9 => h9) rfl dX7_number_56 ?_
          refine lv_topi (fun v5_8 ev5_8 => ?_)
          have hm := mn_of ev5_8 hm
          refine lv_istore (lv' := [(5, .int v5_8), (0, .ref (q 0)), (2, .int v2), (3, .long v3)]) hx hb dX7_number_59 hl (by decide) rfl (fun ls hl => ?_)
          refine lv_aload_n hx hb dX7_number_61 rfl (lv_at hl 1 rfl) ?_
          refine lv_iload_n hx hb dX7_number_62 rfl (lv_at hl 2 rfl) ?_
          obtain ⟨r_9, M_p_10, M_fault_11, hc_12, hm⟩ := mb3_of hm
          refine call_vl (wc := (wdX7 q y M_thrown M_text M_size M_has M_hand M_layers M_kinds M_names M_nameSizes M_thicknesses M_spreads M_coppers M_copperAt M_presses M_pressFrom M_pressTo M_vias M_viaFrom M_viaTo M_shares M_lists M_hasRow M_rowLow M_rowHigh (M_p + (1 : Int32)) M_s M_fault M_lines M_word M_wordSize M_out M_written M_secondOne)) (wr := []) (As := [.int v2]) (rest := []) C (c_X7_digits l D y q _ F hc_12) (cwV 1 hts gX7_number_X7_digits rfl rfl rfl (by decide +kernel) ⟨Nat.le_of_ble_eq_true rfl, Nat.le_of_ble_eq_true rfl⟩) hK hP hD hS hA [0, 1, 2, 3, 4, 5, 6, 7, 8, 9, 10, 11, 12, 13, 14, 15, 16, 17, 18, 19, 20] [] rfl rfl rfl rfl rfl (by decide) rfl rfl rfl rfl hl.1 (Nat.le_of_ble_eq_true rfl) dX7_number_63 (fun H locs hP hD hS => ?_)
          have hP : va_P D vwCl (wdX7 q y M_thrown M_text M_size M_has M_hand M_layers M_kinds M_names M_nameSizes M_thicknesses M_spreads M_coppers M_copperAt M_presses M_pressFrom M_pressTo M_vias M_viaFrom M_viaTo M_shares M_lists M_hasRow M_rowLow M_rowHigh M_p_10 M_s M_fault_11 M_lines M_word M_wordSize M_out M_written M_secondOne) H := hP
          have hD : va_D A (wdX7 q y M_thrown M_text M_size M_has M_hand M_layers M_kinds M_names M_nameSizes M_thicknesses M_spreads M_coppers M_copperAt M_presses M_pressFrom M_pressTo M_vias M_viaFrom M_viaTo M_shares M_lists M_hasRow M_rowLow M_rowHigh M_p_10 M_s M_fault_11 M_lines M_word M_wordSize M_out M_written M_secondOne) := hD
          refine lv_lstore (lv' := [(6, .long r_9), (5, .int v5_8), (0, .ref (q 0)), (2, .int v2), (3, .long v3)]) hx hb dX7_number_66 hl (by decide) rfl (fun ls hl => ?_)
          refine lv_aload_n hx hb dX7_number_68 rfl (lv_at hl 2 rfl) ?_
          refine va_get (D := D) (ci := 7) (v := .int M_p_10) (C := RX7) (T := TX7) (N := 33) hx hb hts n_X7_number_X7 hown hK hP 0 rfl rfl 24 (by decide) (hts _ w_X7_number_f79) (fun _ h9 => h9) rfl dX7_number_69 ?_
          refine lv_iload hx hb dX7_number_72 (lv_at hl 1 rfl) ?_
          refine lv_isub hx hb dX7_number_74 ?_
          refine lv_topi (fun v8_13 ev8_13 => ?_)
          have hm := mn_of ev8_13 hm
          refine lv_istore (lv' := [(8, .int v8_13), (6, .long r_9), (5, .int v5_8), (0, .ref (q 0)), (2, .int v2), (3, .long v3)]) hx hb dX7_number_75 hl (by decide) rfl (fun ls hl => ?_)
          exact k_X7_number_77 C hA hK F F v2 v3 r_9 v8_13 M_p_10 M_fault_11 _ _ _ hm hP hD hS (lv_sub hl [4, 5, 1, 0] rfl)
        · have hm := ie_of hm h_7
          refine lv_lload_n hx hb dX7_number_43 rfl (lv_at hl 2 rfl) ?_
          have hz := Option.some.inj hm
          subst hz
          exact end_l C hK hP hD hS dX7_number_44
    · have hm := ie_of hm h_1
      refine lv_ldc2 (v := (10 : Int64)) hx hb hown (hts _ w_X7_number_k127) dX7_number_15 ?_
      refine lv_lload_n hx hb dX7_number_18 rfl (lv_at hl 2 rfl) ?_
      refine lv_lmul hx hb dX7_number_19 ?_
      refine lv_topl (fun v3_14 ev3_14 => ?_)
      have hm := mn_of ev3_14 hm
      refine lv_lstore_n (lv' := [(3, .long v3_14), (0, .ref (q 0)), (2, .int v2), (5, .int v5)]) hx hb dX7_number_20 rfl hl (by decide) rfl (fun ls hl => ?_)
      obtain ⟨v5_15, ev5_15⟩ : ∃ y9 : Int32, y9 = (v5 + (1 : Int32)) := ⟨_, rfl⟩
      have hm := mn_of ev5_15 hm
      refine lv_iinc (v := v5_15) (lv' := [(5, .int v5_15), (3, .long v3_14), (0, .ref (q 0)), (2, .int v2)]) hx hb dX7_number_21 hl (k := 3) rfl (by rw [ev5_15]; rfl) (by decide) rfl (fun ls hl => ?_)
      refine lv_goto (tgt := 9) hx hb dX7_number_24 (by decide) ?_
      exact ih v2 v3_14 v5_15 M_text M_size M_p M_fault _ _ _ hm hP hD hS (lv_sub hl [2, 3, 1, 0] rfl)
set_option maxHeartbeats 4000000 in
set_option maxRecDepth 100000 in
theorem c_X7_number (l : Launch) (D : va_G) (y : Nat → ClassId) (q : Nat → Nat) (sz : Nat) (F : Nat) {v1 : Int32} {v2 : Int32} {M_thrown : Int32} {M_text : Nat → Int32} {M_size : Int32} {M_has : Int32} {M_hand : Int32} {M_layers : Nat → Int32} {M_kinds : Nat → Int32} {M_names : Nat → Int64} {M_nameSizes : Nat → Int32} {M_thicknesses : Nat → Int64} {M_spreads : Nat → Int32} {M_coppers : Nat → Int32} {M_copperAt : Nat → Int32} {M_presses : Nat → Int32} {M_pressFrom : Nat → Int32} {M_pressTo : Nat → Int32} {M_vias : Nat → Int32} {M_viaFrom : Nat → Int32} {M_viaTo : Nat → Int32} {M_shares : Nat → Int32} {M_lists : Int32} {M_hasRow : Nat → Int32} {M_rowLow : Nat → Int64} {M_rowHigh : Nat → Int64} {M_p : Int32} {M_s : Int32} {M_fault : Int32} {M_lines : Int32} {M_word : Int64} {M_wordSize : Int32} {M_out : Nat → Int32} {M_written : Int32} {M_secondOne : Int32} {z : Int64 × Int32 × Int32} (hm : f_X7_number F v1 v2 M_text M_size M_p M_fault = some z) : Met l yX7_number wsX7_number ({ frames := 2, cells := 0, slots := 0, locals := 45 } : Room) (va_Pc [.ref (q 0), .int v1, .int v2] (cP D y (wdX7 q y M_thrown M_text M_size M_has M_hand M_layers M_kinds M_names M_nameSizes M_thicknesses M_spreads M_coppers M_copperAt M_presses M_pressFrom M_pressTo M_vias M_viaFrom M_viaTo M_shares M_lists M_hasRow M_rowLow M_rowHigh M_p M_s M_fault M_lines M_word M_wordSize M_out M_written M_secondOne) sz)) (QL D y (va_A (wdX7 q y M_thrown M_text M_size M_has M_hand M_layers M_kinds M_names M_nameSizes M_thicknesses M_spreads M_coppers M_copperAt M_presses M_pressFrom M_pressTo M_vias M_viaFrom M_viaTo M_shares M_lists M_hasRow M_rowLow M_rowHigh M_p M_s M_fault M_lines M_word M_wordSize M_out M_written M_secondOne) sz) (z.1) (wdX7 q y M_thrown M_text M_size M_has M_hand M_layers M_kinds M_names M_nameSizes M_thicknesses M_spreads M_coppers M_copperAt M_presses M_pressFrom M_pressTo M_vias M_viaFrom M_viaTo M_shares M_lists M_hasRow M_rowLow M_rowHigh (z.2.1) M_s (z.2.2) M_lines M_word M_wordSize M_out M_written M_secondOne)) 0 0 (va_A (wdX7 q y M_thrown M_text M_size M_has M_hand M_layers M_kinds M_names M_nameSizes M_thicknesses M_spreads M_coppers M_copperAt M_presses M_pressFrom M_pressTo M_vias M_viaFrom M_viaTo M_shares M_lists M_hasRow M_rowLow M_rowHigh M_p M_s M_fault M_lines M_word M_wordSize M_out M_written M_secondOne) sz) := by
  refine met_of (own := RX7) (cc := cX7_number) (maxL := 9) (ret := (some .long)) (by decide) rfl rfl (Nat.le_of_ble_eq_true rfl) ?_
  intro p e s m below meth c ls C hsz hK hP hD hA hS hl
  obtain ⟨⟨hx, hb, hml, hown, hts⟩, hr, hlocks⟩ := id C
  have hl : lv_has ls 9 [(0, .ref (q 0)), (1, .int v1), (2, .int v2)] := hl
  generalize va_A (wdX7 q y M_thrown M_text M_size M_has M_hand M_layers M_kinds M_names M_nameSizes M_thicknesses M_spreads M_coppers M_copperAt M_presses M_pressFrom M_pressTo M_vias M_viaFrom M_viaTo M_shares M_lists M_hasRow M_rowLow M_rowHigh M_p M_s M_fault M_lines M_word M_wordSize M_out M_written M_secondOne) sz = A at hD hA hS ⊢
  generalize ([.ref (q 0), .int v1, .int v2] : List Value).toArray = args at C hts ⊢
  unfold f_X7_number at hm
  refine lv_aload_n hx hb dX7_number_0 rfl (lv_at hl 0 rfl) ?_
  refine lv_iload_n hx hb dX7_number_1 rfl (lv_at hl 1 rfl) ?_
  obtain ⟨r_1, M_p_2, M_fault_3, hc_4, hm⟩ := mb3_of hm
  refine call_vl (wc := (wdX7 q y M_thrown M_text M_size M_has M_hand M_layers M_kinds M_names M_nameSizes M_thicknesses M_spreads M_coppers M_copperAt M_presses M_pressFrom M_pressTo M_vias M_viaFrom M_viaTo M_shares M_lists M_hasRow M_rowLow M_rowHigh M_p M_s M_fault M_lines M_word M_wordSize M_out M_written M_secondOne)) (wr := []) (As := [.int v1]) (rest := []) C (c_X7_digits l D y q _ F hc_4) (cwV 1 hts gX7_number_X7_digits rfl rfl rfl (by decide +kernel) ⟨Nat.le_of_ble_eq_true rfl, Nat.le_of_ble_eq_true rfl⟩) hK hP hD hS hA [0, 1, 2, 3, 4, 5, 6, 7, 8, 9, 10, 11, 12, 13, 14, 15, 16, 17, 18, 19, 20] [] rfl rfl rfl rfl rfl (by decide) rfl rfl rfl rfl hl.1 (Nat.le_of_ble_eq_true rfl) dX7_number_2 (fun H locs hP hD hS => ?_)
  have hP : va_P D vwCl (wdX7 q y M_thrown M_text M_size M_has M_hand M_layers M_kinds M_names M_nameSizes M_thicknesses M_spreads M_coppers M_copperAt M_presses M_pressFrom M_pressTo M_vias M_viaFrom M_viaTo M_shares M_lists M_hasRow M_rowLow M_rowHigh M_p_2 M_s M_fault_3 M_lines M_word M_wordSize M_out M_written M_secondOne) H := hP
  have hD : va_D A (wdX7 q y M_thrown M_text M_size M_has M_hand M_layers M_kinds M_names M_nameSizes M_thicknesses M_spreads M_coppers M_copperAt M_presses M_pressFrom M_pressTo M_vias M_viaFrom M_viaTo M_shares M_lists M_hasRow M_rowLow M_rowHigh M_p_2 M_s M_fault_3 M_lines M_word M_wordSize M_out M_written M_secondOne) := hD
  refine lv_lstore_n (lv' := [(3, .long r_1), (0, .ref (q 0)), (1, .int v1), (2, .int v2)]) hx hb dX7_number_5 rfl hl (by decide) rfl (fun ls hl => ?_)
  refine lv_iconst (v := (0 : Int32)) hx hb dX7_number_6 (by decide) ?_
  refine lv_istore (lv' := [(5, .int (0 : Int32)), (3, .long r_1), (0, .ref (q 0)), (1, .int v1), (2, .int v2)]) hx hb dX7_number_7 hl (by decide) rfl (fun ls hl => ?_)
  exact k_X7_number_9 C hA hK F F v2 r_1 (0 : Int32) M_text M_size M_p_2 M_fault_3 _ _ _ hm hP hD hS (lv_sub hl [2, 4, 1, 0] rfl)
def f_X7_layerAt (F : Nat) (v1 : Int32) (M_s : Int32) : Option (Int32) := some (((80 : Int32) * M_s) + v1)
set_option maxRecDepth 20000 in
theorem n_X7_layerAt_X7 : ∀ w ∈ wsX70, w ∈ wsX7_layerAt := by decide +kernel
set_option maxRecDepth 20000 in
theorem w_X7_layerAt_f134 : Cond.fieldLink RX7 134 "LayerStacksModel" "s" "I" ∈ wsX7_layerAt := by decide +kernel
set_option maxHeartbeats 4000000 in
set_option maxRecDepth 100000 in
theorem c_X7_layerAt (l : Launch) (D : va_G) (y : Nat → ClassId) (q : Nat → Nat) (sz : Nat) (F : Nat) {v1 : Int32} {M_thrown : Int32} {M_text : Nat → Int32} {M_size : Int32} {M_has : Int32} {M_hand : Int32} {M_layers : Nat → Int32} {M_kinds : Nat → Int32} {M_names : Nat → Int64} {M_nameSizes : Nat → Int32} {M_thicknesses : Nat → Int64} {M_spreads : Nat → Int32} {M_coppers : Nat → Int32} {M_copperAt : Nat → Int32} {M_presses : Nat → Int32} {M_pressFrom : Nat → Int32} {M_pressTo : Nat → Int32} {M_vias : Nat → Int32} {M_viaFrom : Nat → Int32} {M_viaTo : Nat → Int32} {M_shares : Nat → Int32} {M_lists : Int32} {M_hasRow : Nat → Int32} {M_rowLow : Nat → Int64} {M_rowHigh : Nat → Int64} {M_p : Int32} {M_s : Int32} {M_fault : Int32} {M_lines : Int32} {M_word : Int64} {M_wordSize : Int32} {M_out : Nat → Int32} {M_written : Int32} {M_secondOne : Int32} {z : Int32} (hm : f_X7_layerAt F v1 M_s = some z) : Met l yX7_layerAt wsX7_layerAt ({ frames := 0, cells := 0, slots := 0, locals := 0 } : Room) (va_Pc [.ref (q 0), .int v1] (cP D y (wdX7 q y M_thrown M_text M_size M_has M_hand M_layers M_kinds M_names M_nameSizes M_thicknesses M_spreads M_coppers M_copperAt M_presses M_pressFrom M_pressTo M_vias M_viaFrom M_viaTo M_shares M_lists M_hasRow M_rowLow M_rowHigh M_p M_s M_fault M_lines M_word M_wordSize M_out M_written M_secondOne) sz)) (QI D y (va_A (wdX7 q y M_thrown M_text M_size M_has M_hand M_layers M_kinds M_names M_nameSizes M_thicknesses M_spreads M_coppers M_copperAt M_presses M_pressFrom M_pressTo M_vias M_viaFrom M_viaTo M_shares M_lists M_hasRow M_rowLow M_rowHigh M_p M_s M_fault M_lines M_word M_wordSize M_out M_written M_secondOne) sz) (z) (wdX7 q y M_thrown M_text M_size M_has M_hand M_layers M_kinds M_names M_nameSizes M_thicknesses M_spreads M_coppers M_copperAt M_presses M_pressFrom M_pressTo M_vias M_viaFrom M_viaTo M_shares M_lists M_hasRow M_rowLow M_rowHigh M_p M_s M_fault M_lines M_word M_wordSize M_out M_written M_secondOne)) 0 0 (va_A (wdX7 q y M_thrown M_text M_size M_has M_hand M_layers M_kinds M_names M_nameSizes M_thicknesses M_spreads M_coppers M_copperAt M_presses M_pressFrom M_pressTo M_vias M_viaFrom M_viaTo M_shares M_lists M_hasRow M_rowLow M_rowHigh M_p M_s M_fault M_lines M_word M_wordSize M_out M_written M_secondOne) sz) := by
  refine met_of (own := RX7) (cc := cX7_layerAt) (maxL := 2) (ret := (some .int)) (by decide) rfl rfl (Nat.le_of_ble_eq_true rfl) ?_
  intro p e s m below meth c ls C hsz hK hP hD hA hS hl
  obtain ⟨⟨hx, hb, hml, hown, hts⟩, hr, hlocks⟩ := id C
  have hl : lv_has ls 2 [(0, .ref (q 0)), (1, .int v1)] := hl
  generalize va_A (wdX7 q y M_thrown M_text M_size M_has M_hand M_layers M_kinds M_names M_nameSizes M_thicknesses M_spreads M_coppers M_copperAt M_presses M_pressFrom M_pressTo M_vias M_viaFrom M_viaTo M_shares M_lists M_hasRow M_rowLow M_rowHigh M_p M_s M_fault M_lines M_word M_wordSize M_out M_written M_secondOne) sz = A at hD hA hS ⊢
  generalize ([.ref (q 0), .int v1] : List Value).toArray = args at C hts ⊢
  unfold f_X7_layerAt at hm
  refine lv_bipush (v := (80 : Int32)) hx hb dX7_layerAt_0 (by decide) ?_
  refine lv_aload_n hx hb dX7_layerAt_2 rfl (lv_at hl 0 rfl) ?_
  refine va_get (D := D) (ci := 7) (v := .int M_s) (C := RX7) (T := TX7) (N := 33) hx hb hts n_X7_layerAt_X7 hown hK hP 0 rfl rfl 25 (by decide) (hts _ w_X7_layerAt_f134) (fun _ h9 => h9) rfl dX7_layerAt_3 ?_
  refine lv_imul hx hb dX7_layerAt_6 ?_
  refine lv_iload_n hx hb dX7_layerAt_7 rfl (lv_at hl 1 rfl) ?_
  refine lv_iadd hx hb dX7_layerAt_8 ?_
  have hz := Option.some.inj hm
  subst hz
  exact end_i C hK hP hD hS dX7_layerAt_9
def g_X7_copperNamed_2 (F : Nat) : Nat → Int32 → (Nat → Int64) → (Nat → Int32) → (Nat → Int32) → (Nat → Int32) → Int32 → Int64 → Int32 → Option (Int32)
  | 0, _, _, _, _, _, _, _, _ => none
  | n + 1, v1, M_names, M_nameSizes, M_coppers, M_copperAt, M_s, M_word, M_wordSize => mg (inb M_s 2) ((if (M_coppers (M_s).toNatClampNeg) ≤ v1 then some (-1 : Int32) else mg (inb (((32 : Int32) * M_s) + v1) 64) (mb1 (f_X7_layerAt F (M_copperAt ((((32 : Int32) * M_s) + v1)).toNatClampNeg) M_s) (fun r_4 => mg (inb r_4 160) ((if (lg_cmp (M_names (r_4).toNatClampNeg) M_word) = 0 then mg (inb r_4 160) ((if (M_nameSizes (r_4).toNatClampNeg) = M_wordSize then some v1 else mn (v1 + (1 : Int32)) (fun v1_11 => g_X7_copperNamed_2 F n v1_11 M_names M_nameSizes M_coppers M_copperAt M_s M_word M_wordSize))) else mn (v1 + (1 : Int32)) (fun v1_8 => g_X7_copperNamed_2 F n v1_8 M_names M_nameSizes M_coppers M_copperAt M_s M_word M_wordSize)))))))
theorem g_X7_copperNamed_2_z (F : Nat) (v1 : Int32) (M_names : Nat → Int64) (M_nameSizes : Nat → Int32) (M_coppers : Nat → Int32) (M_copperAt : Nat → Int32) (M_s : Int32) (M_word : Int64) (M_wordSize : Int32) : g_X7_copperNamed_2 F 0 v1 M_names M_nameSizes M_coppers M_copperAt M_s M_word M_wordSize = none := rfl
theorem g_X7_copperNamed_2_s (F : Nat) (n : Nat) (v1 : Int32) (M_names : Nat → Int64) (M_nameSizes : Nat → Int32) (M_coppers : Nat → Int32) (M_copperAt : Nat → Int32) (M_s : Int32) (M_word : Int64) (M_wordSize : Int32) : g_X7_copperNamed_2 F (n + 1) v1 M_names M_nameSizes M_coppers M_copperAt M_s M_word M_wordSize = mg (inb M_s 2) ((if (M_coppers (M_s).toNatClampNeg) ≤ v1 then some (-1 : Int32) else mg (inb (((32 : Int32) * M_s) + v1) 64) (mb1 (f_X7_layerAt F (M_copperAt ((((32 : Int32) * M_s) + v1)).toNatClampNeg) M_s) (fun r_4 => mg (inb r_4 160) ((if (lg_cmp (M_names (r_4).toNatClampNeg) M_word) = 0 then mg (inb r_4 160) ((if (M_nameSizes (r_4).toNatClampNeg) = M_wordSize then some v1 else mn (v1 + (1 : Int32)) (fun v1_11 => g_X7_copperNamed_2 F n v1_11 M_names M_nameSizes M_coppers M_copperAt M_s M_word M_wordSize))) else mn (v1 + (1 : Int32)) (fun v1_8 => g_X7_copperNamed_2 F n v1_8 M_names M_nameSizes M_coppers M_copperAt M_s M_word M_wordSize))))))) := rfl
def f_X7_copperNamed (F : Nat) (M_names : Nat → Int64) (M_nameSizes : Nat → Int32) (M_coppers : Nat → Int32) (M_copperAt : Nat → Int32) (M_s : Int32) (M_word : Int64) (M_wordSize : Int32) : Option (Int32) := g_X7_copperNamed_2 F F (0 : Int32) M_names M_nameSizes M_coppers M_copperAt M_s M_word M_wordSize
set_option maxRecDepth 20000 in
theorem n_X7_copperNamed_X7 : ∀ w ∈ wsX70, w ∈ wsX7_copperNamed := by decide +kernel
set_option maxRecDepth 20000 in
theorem w_X7_copperNamed_f32 : Cond.fieldLink RX7 32 "LayerStacksModel" "coppers" "[I" ∈ wsX7_copperNamed := by decide +kernel
set_option maxRecDepth 20000 in
theorem w_X7_copperNamed_f134 : Cond.fieldLink RX7 134 "LayerStacksModel" "s" "I" ∈ wsX7_copperNamed := by decide +kernel
set_option maxRecDepth 20000 in
theorem w_X7_copperNamed_f35 : Cond.fieldLink RX7 35 "LayerStacksModel" "copperAt" "[I" ∈ wsX7_copperNamed := by decide +kernel
set_option maxRecDepth 20000 in
theorem w_X7_copperNamed_f19 : Cond.fieldLink RX7 19 "LayerStacksModel" "names" "[J" ∈ wsX7_copperNamed := by decide +kernel
set_option maxRecDepth 20000 in
theorem w_X7_copperNamed_f113 : Cond.fieldLink RX7 113 "LayerStacksModel" "word" "J" ∈ wsX7_copperNamed := by decide +kernel
set_option maxRecDepth 20000 in
theorem w_X7_copperNamed_f23 : Cond.fieldLink RX7 23 "LayerStacksModel" "nameSizes" "[I" ∈ wsX7_copperNamed := by decide +kernel
set_option maxRecDepth 20000 in
theorem w_X7_copperNamed_f117 : Cond.fieldLink RX7 117 "LayerStacksModel" "wordSize" "I" ∈ wsX7_copperNamed := by decide +kernel
set_option maxHeartbeats 4000000 in
set_option maxRecDepth 100000 in
theorem k_X7_copperNamed_2 {p : Program} {l : Launch} {e : Env} {s : State} {m : MethodId} {args : Array Value} {below : List Frame} {meth : Method} {c : Code} {D : va_G} {y : Nat → ClassId} {A : Nat → Prop} {q : Nat → Nat} {M_thrown : Int32} {M_text : Nat → Int32} {M_size : Int32} {M_has : Int32} {M_hand : Int32} {M_layers : Nat → Int32} {M_kinds : Nat → Int32} {M_thicknesses : Nat → Int64} {M_spreads : Nat → Int32} {M_presses : Nat → Int32} {M_pressFrom : Nat → Int32} {M_pressTo : Nat → Int32} {M_vias : Nat → Int32} {M_viaFrom : Nat → Int32} {M_viaTo : Nat → Int32} {M_shares : Nat → Int32} {M_lists : Int32} {M_hasRow : Nat → Int32} {M_rowLow : Nat → Int64} {M_rowHigh : Nat → Int64} {M_p : Int32} {M_fault : Int32} {M_lines : Int32} {M_out : Nat → Int32} {M_written : Int32} {M_secondOne : Int32} {z : Int32} (C : CX p s m args meth c wsX7_copperNamed RX7 cX7_copperNamed 3 (some .int)) (hA : ∀ q : Nat, s.heap.size ≤ q → A q) (hK : va_K D vwCl (tyl y) s) (F : Nat) :
    ∀ (n : Nat), ∀ (v1 : Int32) (M_names : Nat → Int64) (M_nameSizes : Nat → Int32) (M_coppers : Nat → Int32) (M_copperAt : Nat → Int32) (M_s : Int32) (M_word : Int64) (M_wordSize : Int32) (H : Heap) (locs : List Loc) (ls : Array Slot), g_X7_copperNamed_2 F n v1 M_names M_nameSizes M_coppers M_copperAt M_s M_word M_wordSize = some z → va_P D vwCl (wdX7 q y M_thrown M_text M_size M_has M_hand M_layers M_kinds M_names M_nameSizes M_thicknesses M_spreads M_coppers M_copperAt M_presses M_pressFrom M_pressTo M_vias M_viaFrom M_viaTo M_shares M_lists M_hasRow M_rowLow M_rowHigh M_p M_s M_fault M_lines M_word M_wordSize M_out M_written M_secondOne) H → va_D A (wdX7 q y M_thrown M_text M_size M_has M_hand M_layers M_kinds M_names M_nameSizes M_thicknesses M_spreads M_coppers M_copperAt M_presses M_pressFrom M_pressTo M_vias M_viaFrom M_viaTo M_shares M_lists M_hasRow M_rowLow M_rowHigh M_p M_s M_fault M_lines M_word M_wordSize M_out M_written M_secondOne) → va_S A s.heap H locs → lv_has ls 3 [(0, .ref (q 0)), (1, .int v1)] → W p l e ({ frames := 1, cells := 0, slots := 0, locals := 21 } : Room) s m args below meth c H locs 0 0 (MQ below (QI D y A (z) (wdX7 q y M_thrown M_text M_size M_has M_hand M_layers M_kinds M_names M_nameSizes M_thicknesses M_spreads M_coppers M_copperAt M_presses M_pressFrom M_pressTo M_vias M_viaFrom M_viaTo M_shares M_lists M_hasRow M_rowLow M_rowHigh M_p M_s M_fault M_lines M_word M_wordSize M_out M_written M_secondOne)) args s 0 0 A) (F0 m 2 ls []) := by
  obtain ⟨⟨hx, hb, hml, hown, hts⟩, hr, hlocks⟩ := id C
  intro n
  induction n with
  | zero =>
    intro v1 M_names M_nameSizes M_coppers M_copperAt M_s M_word M_wordSize H locs ls hm
    rw [g_X7_copperNamed_2_z] at hm
    cases hm
  | succ n ih =>
    intro v1 M_names M_nameSizes M_coppers M_copperAt M_s M_word M_wordSize H locs ls hm hP hD hS hl
    rw [g_X7_copperNamed_2_s] at hm
    refine lv_iload_n hx hb dX7_copperNamed_2 rfl (lv_at hl 1 rfl) ?_
    refine lv_aload_n hx hb dX7_copperNamed_3 rfl (lv_at hl 0 rfl) ?_
    refine va_get (D := D) (ci := 7) (v := .ref (q 8)) (C := RX7) (T := TX7) (N := 33) hx hb hts n_X7_copperNamed_X7 hown hK hP 0 rfl rfl 11 (by decide) (hts _ w_X7_copperNamed_f32) (fun _ h9 => h9) rfl dX7_copperNamed_4 ?_
    refine lv_aload_n hx hb dX7_copperNamed_7 rfl (lv_at hl 0 rfl) ?_
    refine va_get (D := D) (ci := 7) (v := .int M_s) (C := RX7) (T := TX7) (N := 33) hx hb hts n_X7_copperNamed_X7 hown hK hP 0 rfl rfl 25 (by decide) (hts _ w_X7_copperNamed_f134) (fun _ h9 => h9) rfl dX7_copperNamed_8 ?_
    obtain ⟨hg_1, hm⟩ := mg_of hm
    refine va_iald hx hb hK hP 8 0 rfl rfl hg_1 dX7_copperNamed_11 ?_
    refine lv_icmp_ge (tgt := 69) hx hb dX7_copperNamed_12 (by decide) (fun h_2 => ?_) (fun h_2 => ?_)
    · have hm := it_of hm h_2
      refine lv_iconst (v := (-1 : Int32)) hx hb dX7_copperNamed_69 (by decide) ?_
      have hz := Option.some.inj hm
      subst hz
      exact end_i C hK hP hD hS dX7_copperNamed_70
    · have hm := ie_of hm h_2
      refine lv_aload_n hx hb dX7_copperNamed_15 rfl (lv_at hl 0 rfl) ?_
      refine lv_aload_n hx hb dX7_copperNamed_16 rfl (lv_at hl 0 rfl) ?_
      refine va_get (D := D) (ci := 7) (v := .ref (q 9)) (C := RX7) (T := TX7) (N := 33) hx hb hts n_X7_copperNamed_X7 hown hK hP 0 rfl rfl 12 (by decide) (hts _ w_X7_copperNamed_f35) (fun _ h9 => h9) rfl dX7_copperNamed_17 ?_
      refine lv_bipush (v := (32 : Int32)) hx hb dX7_copperNamed_20 (by decide) ?_
      refine lv_aload_n hx hb dX7_copperNamed_22 rfl (lv_at hl 0 rfl) ?_
      refine va_get (D := D) (ci := 7) (v := .int M_s) (C := RX7) (T := TX7) (N := 33) hx hb hts n_X7_copperNamed_X7 hown hK hP 0 rfl rfl 25 (by decide) (hts _ w_X7_copperNamed_f134) (fun _ h9 => h9) rfl dX7_copperNamed_23 ?_
      refine lv_imul hx hb dX7_copperNamed_26 ?_
      refine lv_iload_n hx hb dX7_copperNamed_27 rfl (lv_at hl 1 rfl) ?_
      refine lv_iadd hx hb dX7_copperNamed_28 ?_
      obtain ⟨hg_3, hm⟩ := mg_of hm
      refine va_iald hx hb hK hP 9 0 rfl rfl hg_3 dX7_copperNamed_29 ?_
      obtain ⟨r_4, hc_5, hm⟩ := mb1_of hm
      refine call_vi (wc := (wdX7 q y M_thrown M_text M_size M_has M_hand M_layers M_kinds M_names M_nameSizes M_thicknesses M_spreads M_coppers M_copperAt M_presses M_pressFrom M_pressTo M_vias M_viaFrom M_viaTo M_shares M_lists M_hasRow M_rowLow M_rowHigh M_p M_s M_fault M_lines M_word M_wordSize M_out M_written M_secondOne)) (wr := []) (As := [.int (M_copperAt ((((32 : Int32) * M_s) + v1)).toNatClampNeg)]) (rest := []) C (c_X7_layerAt l D y q _ F hc_5) (cwV 1 hts gX7_copperNamed_X7_layerAt rfl rfl rfl (by decide +kernel) ⟨Nat.le_of_ble_eq_true rfl, Nat.le_of_ble_eq_true rfl⟩) hK hP hD hS hA [0, 1, 2, 3, 4, 5, 6, 7, 8, 9, 10, 11, 12, 13, 14, 15, 16, 17, 18, 19, 20] [] rfl rfl rfl rfl rfl (by decide) rfl rfl rfl rfl hl.1 (Nat.le_of_ble_eq_true rfl) dX7_copperNamed_30 (fun H locs hP hD hS => ?_)
      have hP : va_P D vwCl (wdX7 q y M_thrown M_text M_size M_has M_hand M_layers M_kinds M_names M_nameSizes M_thicknesses M_spreads M_coppers M_copperAt M_presses M_pressFrom M_pressTo M_vias M_viaFrom M_viaTo M_shares M_lists M_hasRow M_rowLow M_rowHigh M_p M_s M_fault M_lines M_word M_wordSize M_out M_written M_secondOne) H := hP
      have hD : va_D A (wdX7 q y M_thrown M_text M_size M_has M_hand M_layers M_kinds M_names M_nameSizes M_thicknesses M_spreads M_coppers M_copperAt M_presses M_pressFrom M_pressTo M_vias M_viaFrom M_viaTo M_shares M_lists M_hasRow M_rowLow M_rowHigh M_p M_s M_fault M_lines M_word M_wordSize M_out M_written M_secondOne) := hD
      refine lv_istore_n (lv' := [(2, .int r_4), (0, .ref (q 0)), (1, .int v1)]) hx hb dX7_copperNamed_33 rfl hl (by decide) rfl (fun ls hl => ?_)
      refine lv_aload_n hx hb dX7_copperNamed_34 rfl (lv_at hl 1 rfl) ?_
      refine va_get (D := D) (ci := 7) (v := .ref (q 4)) (C := RX7) (T := TX7) (N := 33) hx hb hts n_X7_copperNamed_X7 hown hK hP 0 rfl rfl 7 (by decide) (hts _ w_X7_copperNamed_f19) (fun _ h9 => h9) rfl dX7_copperNamed_35 ?_
      refine lv_iload_n hx hb dX7_copperNamed_38 rfl (lv_at hl 0 rfl) ?_
      obtain ⟨hg_6, hm⟩ := mg_of hm
      refine va_lald hx hb hK hP 4 1 rfl rfl hg_6 dX7_copperNamed_39 ?_
      refine lv_aload_n hx hb dX7_copperNamed_40 rfl (lv_at hl 1 rfl) ?_
      refine va_get (D := D) (ci := 7) (v := .long M_word) (C := RX7) (T := TX7) (N := 33) hx hb hts n_X7_copperNamed_X7 hown hK hP 0 rfl rfl 28 (by decide) (hts _ w_X7_copperNamed_f113) (fun _ h9 => h9) rfl dX7_copperNamed_41 ?_
      refine W.lcmp hx hb dX7_copperNamed_44 ?_
      refine lv_if_ne (tgt := 63) hx hb dX7_copperNamed_45 (by decide) (fun h_7 => ?_) (fun h_7 => ?_)
      · have hm := ie_of hm h_7
        obtain ⟨v1_8, ev1_8⟩ : ∃ y9 : Int32, y9 = (v1 + (1 : Int32)) := ⟨_, rfl⟩
        have hm := mn_of ev1_8 hm
        refine lv_iinc (v := v1_8) (lv' := [(1, .int v1_8), (2, .int r_4), (0, .ref (q 0))]) hx hb dX7_copperNamed_63 hl (k := 2) rfl (by rw [ev1_8]; rfl) (by decide) rfl (fun ls hl => ?_)
        refine lv_goto (tgt := 2) hx hb dX7_copperNamed_66 (by decide) ?_
        exact ih v1_8 M_names M_nameSizes M_coppers M_copperAt M_s M_word M_wordSize _ _ _ hm hP hD hS (lv_sub hl [2, 0] rfl)
      · have hm := it_of hm h_7
        refine lv_aload_n hx hb dX7_copperNamed_48 rfl (lv_at hl 1 rfl) ?_
        refine va_get (D := D) (ci := 7) (v := .ref (q 5)) (C := RX7) (T := TX7) (N := 33) hx hb hts n_X7_copperNamed_X7 hown hK hP 0 rfl rfl 8 (by decide) (hts _ w_X7_copperNamed_f23) (fun _ h9 => h9) rfl dX7_copperNamed_49 ?_
        refine lv_iload_n hx hb dX7_copperNamed_52 rfl (lv_at hl 0 rfl) ?_
        obtain ⟨hg_9, hm⟩ := mg_of hm
        refine va_iald hx hb hK hP 5 0 rfl rfl hg_9 dX7_copperNamed_53 ?_
        refine lv_aload_n hx hb dX7_copperNamed_54 rfl (lv_at hl 1 rfl) ?_
        refine va_get (D := D) (ci := 7) (v := .int M_wordSize) (C := RX7) (T := TX7) (N := 33) hx hb hts n_X7_copperNamed_X7 hown hK hP 0 rfl rfl 29 (by decide) (hts _ w_X7_copperNamed_f117) (fun _ h9 => h9) rfl dX7_copperNamed_55 ?_
        refine lv_icmp_ne (tgt := 63) hx hb dX7_copperNamed_58 (by decide) (fun h_10 => ?_) (fun h_10 => ?_)
        · have hm := ie_of hm h_10
          obtain ⟨v1_11, ev1_11⟩ : ∃ y9 : Int32, y9 = (v1 + (1 : Int32)) := ⟨_, rfl⟩
          have hm := mn_of ev1_11 hm
          refine lv_iinc (v := v1_11) (lv' := [(1, .int v1_11), (2, .int r_4), (0, .ref (q 0))]) hx hb dX7_copperNamed_63 hl (k := 2) rfl (by rw [ev1_11]; rfl) (by decide) rfl (fun ls hl => ?_)
          refine lv_goto (tgt := 2) hx hb dX7_copperNamed_66 (by decide) ?_
          exact ih v1_11 M_names M_nameSizes M_coppers M_copperAt M_s M_word M_wordSize _ _ _ hm hP hD hS (lv_sub hl [2, 0] rfl)
        · have hm := it_of hm h_10
          refine lv_iload_n hx hb dX7_copperNamed_61 rfl (lv_at hl 2 rfl) ?_
          have hz := Option.some.inj hm
          subst hz
          exact end_i C hK hP hD hS dX7_copperNamed_62
set_option maxHeartbeats 4000000 in
set_option maxRecDepth 100000 in
theorem c_X7_copperNamed (l : Launch) (D : va_G) (y : Nat → ClassId) (q : Nat → Nat) (sz : Nat) (F : Nat) {M_thrown : Int32} {M_text : Nat → Int32} {M_size : Int32} {M_has : Int32} {M_hand : Int32} {M_layers : Nat → Int32} {M_kinds : Nat → Int32} {M_names : Nat → Int64} {M_nameSizes : Nat → Int32} {M_thicknesses : Nat → Int64} {M_spreads : Nat → Int32} {M_coppers : Nat → Int32} {M_copperAt : Nat → Int32} {M_presses : Nat → Int32} {M_pressFrom : Nat → Int32} {M_pressTo : Nat → Int32} {M_vias : Nat → Int32} {M_viaFrom : Nat → Int32} {M_viaTo : Nat → Int32} {M_shares : Nat → Int32} {M_lists : Int32} {M_hasRow : Nat → Int32} {M_rowLow : Nat → Int64} {M_rowHigh : Nat → Int64} {M_p : Int32} {M_s : Int32} {M_fault : Int32} {M_lines : Int32} {M_word : Int64} {M_wordSize : Int32} {M_out : Nat → Int32} {M_written : Int32} {M_secondOne : Int32} {z : Int32} (hm : f_X7_copperNamed F M_names M_nameSizes M_coppers M_copperAt M_s M_word M_wordSize = some z) : Met l yX7_copperNamed wsX7_copperNamed ({ frames := 1, cells := 0, slots := 0, locals := 21 } : Room) (va_Pc [.ref (q 0)] (cP D y (wdX7 q y M_thrown M_text M_size M_has M_hand M_layers M_kinds M_names M_nameSizes M_thicknesses M_spreads M_coppers M_copperAt M_presses M_pressFrom M_pressTo M_vias M_viaFrom M_viaTo M_shares M_lists M_hasRow M_rowLow M_rowHigh M_p M_s M_fault M_lines M_word M_wordSize M_out M_written M_secondOne) sz)) (QI D y (va_A (wdX7 q y M_thrown M_text M_size M_has M_hand M_layers M_kinds M_names M_nameSizes M_thicknesses M_spreads M_coppers M_copperAt M_presses M_pressFrom M_pressTo M_vias M_viaFrom M_viaTo M_shares M_lists M_hasRow M_rowLow M_rowHigh M_p M_s M_fault M_lines M_word M_wordSize M_out M_written M_secondOne) sz) (z) (wdX7 q y M_thrown M_text M_size M_has M_hand M_layers M_kinds M_names M_nameSizes M_thicknesses M_spreads M_coppers M_copperAt M_presses M_pressFrom M_pressTo M_vias M_viaFrom M_viaTo M_shares M_lists M_hasRow M_rowLow M_rowHigh M_p M_s M_fault M_lines M_word M_wordSize M_out M_written M_secondOne)) 0 0 (va_A (wdX7 q y M_thrown M_text M_size M_has M_hand M_layers M_kinds M_names M_nameSizes M_thicknesses M_spreads M_coppers M_copperAt M_presses M_pressFrom M_pressTo M_vias M_viaFrom M_viaTo M_shares M_lists M_hasRow M_rowLow M_rowHigh M_p M_s M_fault M_lines M_word M_wordSize M_out M_written M_secondOne) sz) := by
  refine met_of (own := RX7) (cc := cX7_copperNamed) (maxL := 3) (ret := (some .int)) (by decide) rfl rfl (Nat.le_of_ble_eq_true rfl) ?_
  intro p e s m below meth c ls C hsz hK hP hD hA hS hl
  obtain ⟨⟨hx, hb, hml, hown, hts⟩, hr, hlocks⟩ := id C
  have hl : lv_has ls 3 [(0, .ref (q 0))] := hl
  generalize va_A (wdX7 q y M_thrown M_text M_size M_has M_hand M_layers M_kinds M_names M_nameSizes M_thicknesses M_spreads M_coppers M_copperAt M_presses M_pressFrom M_pressTo M_vias M_viaFrom M_viaTo M_shares M_lists M_hasRow M_rowLow M_rowHigh M_p M_s M_fault M_lines M_word M_wordSize M_out M_written M_secondOne) sz = A at hD hA hS ⊢
  generalize ([.ref (q 0)] : List Value).toArray = args at C hts ⊢
  unfold f_X7_copperNamed at hm
  refine lv_iconst (v := (0 : Int32)) hx hb dX7_copperNamed_0 (by decide) ?_
  refine lv_istore_n (lv' := [(1, .int (0 : Int32)), (0, .ref (q 0))]) hx hb dX7_copperNamed_1 rfl hl (by decide) rfl (fun ls hl => ?_)
  exact k_X7_copperNamed_2 C hA hK F F (0 : Int32) M_names M_nameSizes M_coppers M_copperAt M_s M_word M_wordSize _ _ _ hm hP hD hS (lv_sub hl [1, 0] rfl)
def g_X7_mayStand_212 (F : Nat) (v4 : Int32) (M_coppers : Nat → Int32) (M_s : Int32) : Option (Int32) := (if v4 = 0 then some (0 : Int32) else mg (inb M_s 2) ((if (32 : Int32) ≤ (M_coppers (M_s).toNatClampNeg) then some (0 : Int32) else some (1 : Int32))))
def g_X7_mayStand_145 (F : Nat) : Nat → Int32 → Int32 → (Nat → Int32) → (Nat → Int32) → Int32 → Option (Int32)
  | 0, _, _, _, _, _ => none
  | n + 1, v4, v5, M_kinds, M_coppers, M_s => (if v5 < 0 then g_X7_mayStand_212 F v4 M_coppers M_s else mb1 (f_X7_layerAt F v5 M_s) (fun r_2 => mg (inb r_2 160) ((if (M_kinds (r_2).toNatClampNeg) = 0 then g_X7_mayStand_212 F v4 M_coppers M_s else (if v4 = 0 then mb1 (f_X7_layerAt F v5 M_s) (fun r_8 => mg (inb r_8 160) ((if (M_kinds (r_8).toNatClampNeg) = (1 : Int32) then mn (v5 + (-1 : Int32)) (fun v5_12 => g_X7_mayStand_145 F n (1 : Int32) v5_12 M_kinds M_coppers M_s) else mb1 (f_X7_layerAt F v5 M_s) (fun r_13 => mg (inb r_13 160) ((if (M_kinds (r_13).toNatClampNeg) = (2 : Int32) then mn (v5 + (-1 : Int32)) (fun v5_18 => g_X7_mayStand_145 F n (1 : Int32) v5_18 M_kinds M_coppers M_s) else mn (v5 + (-1 : Int32)) (fun v5_17 => g_X7_mayStand_145 F n (0 : Int32) v5_17 M_kinds M_coppers M_s))))))) else mn (v5 + (-1 : Int32)) (fun v5_7 => g_X7_mayStand_145 F n (1 : Int32) v5_7 M_kinds M_coppers M_s))))))
theorem g_X7_mayStand_145_z (F : Nat) (v4 : Int32) (v5 : Int32) (M_kinds : Nat → Int32) (M_coppers : Nat → Int32) (M_s : Int32) : g_X7_mayStand_145 F 0 v4 v5 M_kinds M_coppers M_s = none := rfl
theorem g_X7_mayStand_145_s (F : Nat) (n : Nat) (v4 : Int32) (v5 : Int32) (M_kinds : Nat → Int32) (M_coppers : Nat → Int32) (M_s : Int32) : g_X7_mayStand_145 F (n + 1) v4 v5 M_kinds M_coppers M_s = (if v5 < 0 then g_X7_mayStand_212 F v4 M_coppers M_s else mb1 (f_X7_layerAt F v5 M_s) (fun r_2 => mg (inb r_2 160) ((if (M_kinds (r_2).toNatClampNeg) = 0 then g_X7_mayStand_212 F v4 M_coppers M_s else (if v4 = 0 then mb1 (f_X7_layerAt F v5 M_s) (fun r_8 => mg (inb r_8 160) ((if (M_kinds (r_8).toNatClampNeg) = (1 : Int32) then mn (v5 + (-1 : Int32)) (fun v5_12 => g_X7_mayStand_145 F n (1 : Int32) v5_12 M_kinds M_coppers M_s) else mb1 (f_X7_layerAt F v5 M_s) (fun r_13 => mg (inb r_13 160) ((if (M_kinds (r_13).toNatClampNeg) = (2 : Int32) then mn (v5 + (-1 : Int32)) (fun v5_18 => g_X7_mayStand_145 F n (1 : Int32) v5_18 M_kinds M_coppers M_s) else mn (v5 + (-1 : Int32)) (fun v5_17 => g_X7_mayStand_145 F n (0 : Int32) v5_17 M_kinds M_coppers M_s))))))) else mn (v5 + (-1 : Int32)) (fun v5_7 => g_X7_mayStand_145 F n (1 : Int32) v5_7 M_kinds M_coppers M_s)))))) := rfl
def g_X7_mayStand_30 (F : Nat) (v1 : Int32) (v2 : Int32) (st0 : Int32) (M_kinds : Nat → Int32) (M_coppers : Nat → Int32) (M_presses : Nat → Int32) (M_vias : Nat → Int32) (M_s : Int32) : Option (Int32) := (if v2 = (80 : Int32) then some (0 : Int32) else mg (inb M_s 2) (mg (inb M_s 2) ((if ((M_presses (M_s).toNatClampNeg) + (M_vias (M_s).toNatClampNeg)) ≤ 0 then (if v2 = 0 then (if v1 = (3 : Int32) then some (1 : Int32) else (if v1 = 0 then some (1 : Int32) else some (0 : Int32))) else (if st0 = (3 : Int32) then (if v2 = (1 : Int32) then (if v1 = 0 then some (1 : Int32) else some (0 : Int32)) else some (0 : Int32)) else (if v1 = (3 : Int32) then (if st0 = 0 then some (1 : Int32) else some (0 : Int32)) else (if v1 = 0 then mg (inb M_s 2) ((if (M_coppers (M_s).toNatClampNeg) = 0 then mn (v2 - (1 : Int32)) (fun v5_12 => g_X7_mayStand_145 F F (1 : Int32) v5_12 M_kinds M_coppers M_s) else mn (v2 - (1 : Int32)) (fun v5_11 => g_X7_mayStand_145 F F (0 : Int32) v5_11 M_kinds M_coppers M_s))) else some (1 : Int32))))) else some (0 : Int32)))))
def f_X7_mayStand (F : Nat) (v1 : Int32) (M_layers : Nat → Int32) (M_kinds : Nat → Int32) (M_coppers : Nat → Int32) (M_presses : Nat → Int32) (M_vias : Nat → Int32) (M_s : Int32) : Option (Int32) := mg (inb M_s 2) (mn (M_layers (M_s).toNatClampNeg) (fun v2_2 => (if v2_2 = 0 then g_X7_mayStand_30 F v1 v2_2 (-1 : Int32) M_kinds M_coppers M_presses M_vias M_s else mb1 (f_X7_layerAt F (v2_2 - (1 : Int32)) M_s) (fun r_4 => mg (inb r_4 160) (g_X7_mayStand_30 F v1 v2_2 (M_kinds (r_4).toNatClampNeg) M_kinds M_coppers M_presses M_vias M_s)))))
set_option maxRecDepth 20000 in
theorem n_X7_mayStand_X7 : ∀ w ∈ wsX70, w ∈ wsX7_mayStand := by decide +kernel
set_option maxRecDepth 20000 in
theorem w_X7_mayStand_f38 : Cond.fieldLink RX7 38 "LayerStacksModel" "presses" "[I" ∈ wsX7_mayStand := by decide +kernel
set_option maxRecDepth 20000 in
theorem w_X7_mayStand_f134 : Cond.fieldLink RX7 134 "LayerStacksModel" "s" "I" ∈ wsX7_mayStand := by decide +kernel
set_option maxRecDepth 20000 in
theorem w_X7_mayStand_f47 : Cond.fieldLink RX7 47 "LayerStacksModel" "vias" "[I" ∈ wsX7_mayStand := by decide +kernel
set_option maxRecDepth 20000 in
theorem w_X7_mayStand_f32 : Cond.fieldLink RX7 32 "LayerStacksModel" "coppers" "[I" ∈ wsX7_mayStand := by decide +kernel
set_option maxRecDepth 20000 in
theorem w_X7_mayStand_f16 : Cond.fieldLink RX7 16 "LayerStacksModel" "kinds" "[I" ∈ wsX7_mayStand := by decide +kernel
set_option maxRecDepth 20000 in
theorem w_X7_mayStand_f13 : Cond.fieldLink RX7 13 "LayerStacksModel" "layers" "[I" ∈ wsX7_mayStand := by decide +kernel
set_option maxHeartbeats 4000000 in
set_option maxRecDepth 100000 in
theorem k_X7_mayStand_212 {p : Program} {l : Launch} {e : Env} {s : State} {m : MethodId} {args : Array Value} {below : List Frame} {meth : Method} {c : Code} {D : va_G} {y : Nat → ClassId} {A : Nat → Prop} {q : Nat → Nat} {M_thrown : Int32} {M_text : Nat → Int32} {M_size : Int32} {M_has : Int32} {M_hand : Int32} {M_layers : Nat → Int32} {M_kinds : Nat → Int32} {M_names : Nat → Int64} {M_nameSizes : Nat → Int32} {M_thicknesses : Nat → Int64} {M_spreads : Nat → Int32} {M_copperAt : Nat → Int32} {M_presses : Nat → Int32} {M_pressFrom : Nat → Int32} {M_pressTo : Nat → Int32} {M_vias : Nat → Int32} {M_viaFrom : Nat → Int32} {M_viaTo : Nat → Int32} {M_shares : Nat → Int32} {M_lists : Int32} {M_hasRow : Nat → Int32} {M_rowLow : Nat → Int64} {M_rowHigh : Nat → Int64} {M_p : Int32} {M_fault : Int32} {M_lines : Int32} {M_word : Int64} {M_wordSize : Int32} {M_out : Nat → Int32} {M_written : Int32} {M_secondOne : Int32} {z : Int32} (C : CX p s m args meth c wsX7_mayStand RX7 cX7_mayStand 6 (some .boolean)) (hA : ∀ q : Nat, s.heap.size ≤ q → A q) (hK : va_K D vwCl (tyl y) s) (F : Nat) :
    ∀ (v4 : Int32) (M_coppers : Nat → Int32) (M_s : Int32) (H : Heap) (locs : List Loc) (ls : Array Slot), g_X7_mayStand_212 F v4 M_coppers M_s = some z → va_P D vwCl (wdX7 q y M_thrown M_text M_size M_has M_hand M_layers M_kinds M_names M_nameSizes M_thicknesses M_spreads M_coppers M_copperAt M_presses M_pressFrom M_pressTo M_vias M_viaFrom M_viaTo M_shares M_lists M_hasRow M_rowLow M_rowHigh M_p M_s M_fault M_lines M_word M_wordSize M_out M_written M_secondOne) H → va_D A (wdX7 q y M_thrown M_text M_size M_has M_hand M_layers M_kinds M_names M_nameSizes M_thicknesses M_spreads M_coppers M_copperAt M_presses M_pressFrom M_pressTo M_vias M_viaFrom M_viaTo M_shares M_lists M_hasRow M_rowLow M_rowHigh M_p M_s M_fault M_lines M_word M_wordSize M_out M_written M_secondOne) → va_S A s.heap H locs → lv_has ls 6 [(0, .ref (q 0)), (4, .int v4)] → W p l e ({ frames := 1, cells := 0, slots := 0, locals := 21 } : Room) s m args below meth c H locs 0 0 (MQ below (QI D y A (z) (wdX7 q y M_thrown M_text M_size M_has M_hand M_layers M_kinds M_names M_nameSizes M_thicknesses M_spreads M_coppers M_copperAt M_presses M_pressFrom M_pressTo M_vias M_viaFrom M_viaTo M_shares M_lists M_hasRow M_rowLow M_rowHigh M_p M_s M_fault M_lines M_word M_wordSize M_out M_written M_secondOne)) args s 0 0 A) (F0 m 212 ls []) := by
  obtain ⟨⟨hx, hb, hml, hown, hts⟩, hr, hlocks⟩ := id C
  intro v4 M_coppers M_s H locs ls hm hP hD hS hl
  unfold g_X7_mayStand_212 at hm
  refine lv_iload hx hb dX7_mayStand_212 (lv_at hl 1 rfl) ?_
  refine lv_if_eq (tgt := 235) hx hb dX7_mayStand_214 (by decide) (fun h_1 => ?_) (fun h_1 => ?_)
  · have hm := it_of hm h_1
    refine lv_iconst (v := (0 : Int32)) hx hb dX7_mayStand_235 (by decide) ?_
    have hz := Option.some.inj hm
    subst hz
    exact end_z C hK hP hD hS (show vp_nar .boolean (0 : Int32) = (0 : Int32) from by decide) dX7_mayStand_236
  · have hm := ie_of hm h_1
    refine lv_aload_n hx hb dX7_mayStand_217 rfl (lv_at hl 0 rfl) ?_
    refine va_get (D := D) (ci := 7) (v := .ref (q 8)) (C := RX7) (T := TX7) (N := 33) hx hb hts n_X7_mayStand_X7 hown hK hP 0 rfl rfl 11 (by decide) (hts _ w_X7_mayStand_f32) (fun _ h9 => h9) rfl dX7_mayStand_218 ?_
    refine lv_aload_n hx hb dX7_mayStand_221 rfl (lv_at hl 0 rfl) ?_
    refine va_get (D := D) (ci := 7) (v := .int M_s) (C := RX7) (T := TX7) (N := 33) hx hb hts n_X7_mayStand_X7 hown hK hP 0 rfl rfl 25 (by decide) (hts _ w_X7_mayStand_f134) (fun _ h9 => h9) rfl dX7_mayStand_222 ?_
    obtain ⟨hg_2, hm⟩ := mg_of hm
    refine va_iald hx hb hK hP 8 0 rfl rfl hg_2 dX7_mayStand_225 ?_
    refine lv_bipush (v := (32 : Int32)) hx hb dX7_mayStand_226 (by decide) ?_
    refine lv_icmp_ge (tgt := 235) hx hb dX7_mayStand_228 (by decide) (fun h_3 => ?_) (fun h_3 => ?_)
    · have hm := it_of hm h_3
      refine lv_iconst (v := (0 : Int32)) hx hb dX7_mayStand_235 (by decide) ?_
      have hz := Option.some.inj hm
      subst hz
      exact end_z C hK hP hD hS (show vp_nar .boolean (0 : Int32) = (0 : Int32) from by decide) dX7_mayStand_236
    · have hm := ie_of hm h_3
      refine lv_iconst (v := (1 : Int32)) hx hb dX7_mayStand_231 (by decide) ?_
      refine lv_goto (tgt := 236) hx hb dX7_mayStand_232 (by decide) ?_
      have hz := Option.some.inj hm
      subst hz
      exact end_z C hK hP hD hS (show vp_nar .boolean (1 : Int32) = (1 : Int32) from by decide) dX7_mayStand_236
set_option maxHeartbeats 4000000 in
set_option maxRecDepth 100000 in
theorem k_X7_mayStand_145 {p : Program} {l : Launch} {e : Env} {s : State} {m : MethodId} {args : Array Value} {below : List Frame} {meth : Method} {c : Code} {D : va_G} {y : Nat → ClassId} {A : Nat → Prop} {q : Nat → Nat} {M_thrown : Int32} {M_text : Nat → Int32} {M_size : Int32} {M_has : Int32} {M_hand : Int32} {M_layers : Nat → Int32} {M_names : Nat → Int64} {M_nameSizes : Nat → Int32} {M_thicknesses : Nat → Int64} {M_spreads : Nat → Int32} {M_copperAt : Nat → Int32} {M_presses : Nat → Int32} {M_pressFrom : Nat → Int32} {M_pressTo : Nat → Int32} {M_vias : Nat → Int32} {M_viaFrom : Nat → Int32} {M_viaTo : Nat → Int32} {M_shares : Nat → Int32} {M_lists : Int32} {M_hasRow : Nat → Int32} {M_rowLow : Nat → Int64} {M_rowHigh : Nat → Int64} {M_p : Int32} {M_fault : Int32} {M_lines : Int32} {M_word : Int64} {M_wordSize : Int32} {M_out : Nat → Int32} {M_written : Int32} {M_secondOne : Int32} {z : Int32} (C : CX p s m args meth c wsX7_mayStand RX7 cX7_mayStand 6 (some .boolean)) (hA : ∀ q : Nat, s.heap.size ≤ q → A q) (hK : va_K D vwCl (tyl y) s) (F : Nat) :
    ∀ (n : Nat), ∀ (v4 : Int32) (v5 : Int32) (M_kinds : Nat → Int32) (M_coppers : Nat → Int32) (M_s : Int32) (H : Heap) (locs : List Loc) (ls : Array Slot), g_X7_mayStand_145 F n v4 v5 M_kinds M_coppers M_s = some z → va_P D vwCl (wdX7 q y M_thrown M_text M_size M_has M_hand M_layers M_kinds M_names M_nameSizes M_thicknesses M_spreads M_coppers M_copperAt M_presses M_pressFrom M_pressTo M_vias M_viaFrom M_viaTo M_shares M_lists M_hasRow M_rowLow M_rowHigh M_p M_s M_fault M_lines M_word M_wordSize M_out M_written M_secondOne) H → va_D A (wdX7 q y M_thrown M_text M_size M_has M_hand M_layers M_kinds M_names M_nameSizes M_thicknesses M_spreads M_coppers M_copperAt M_presses M_pressFrom M_pressTo M_vias M_viaFrom M_viaTo M_shares M_lists M_hasRow M_rowLow M_rowHigh M_p M_s M_fault M_lines M_word M_wordSize M_out M_written M_secondOne) → va_S A s.heap H locs → lv_has ls 6 [(0, .ref (q 0)), (4, .int v4), (5, .int v5)] → W p l e ({ frames := 1, cells := 0, slots := 0, locals := 21 } : Room) s m args below meth c H locs 0 0 (MQ below (QI D y A (z) (wdX7 q y M_thrown M_text M_size M_has M_hand M_layers M_kinds M_names M_nameSizes M_thicknesses M_spreads M_coppers M_copperAt M_presses M_pressFrom M_pressTo M_vias M_viaFrom M_viaTo M_shares M_lists M_hasRow M_rowLow M_rowHigh M_p M_s M_fault M_lines M_word M_wordSize M_out M_written M_secondOne)) args s 0 0 A) (F0 m 145 ls []) := by
  obtain ⟨⟨hx, hb, hml, hown, hts⟩, hr, hlocks⟩ := id C
  intro n
  induction n with
  | zero =>
    intro v4 v5 M_kinds M_coppers M_s H locs ls hm
    rw [g_X7_mayStand_145_z] at hm
    cases hm
  | succ n ih =>
    intro v4 v5 M_kinds M_coppers M_s H locs ls hm hP hD hS hl
    rw [g_X7_mayStand_145_s] at hm
    refine lv_iload hx hb dX7_mayStand_145 (lv_at hl 2 rfl) ?_
    refine lv_if_lt (tgt := 212) hx hb dX7_mayStand_147 (by decide) (fun h_1 => ?_) (fun h_1 => ?_)
    · have hm := it_of hm h_1
      exact k_X7_mayStand_212 C hA hK F v4 M_coppers M_s _ _ _ hm hP hD hS (lv_sub hl [0, 1] rfl)
    · have hm := ie_of hm h_1
      refine lv_aload_n hx hb dX7_mayStand_150 rfl (lv_at hl 0 rfl) ?_
      refine va_get (D := D) (ci := 7) (v := .ref (q 3)) (C := RX7) (T := TX7) (N := 33) hx hb hts n_X7_mayStand_X7 hown hK hP 0 rfl rfl 6 (by decide) (hts _ w_X7_mayStand_f16) (fun _ h9 => h9) rfl dX7_mayStand_151 ?_
      refine lv_aload_n hx hb dX7_mayStand_154 rfl (lv_at hl 0 rfl) ?_
      refine lv_iload hx hb dX7_mayStand_155 (lv_at hl 2 rfl) ?_
      obtain ⟨r_2, hc_3, hm⟩ := mb1_of hm
      refine call_vi (wc := (wdX7 q y M_thrown M_text M_size M_has M_hand M_layers M_kinds M_names M_nameSizes M_thicknesses M_spreads M_coppers M_copperAt M_presses M_pressFrom M_pressTo M_vias M_viaFrom M_viaTo M_shares M_lists M_hasRow M_rowLow M_rowHigh M_p M_s M_fault M_lines M_word M_wordSize M_out M_written M_secondOne)) (wr := []) (As := [.int v5]) (rest := [.ref (q 3)]) C (c_X7_layerAt l D y q _ F hc_3) (cwV 1 hts gX7_mayStand_X7_layerAt rfl rfl rfl (by decide +kernel) ⟨Nat.le_of_ble_eq_true rfl, Nat.le_of_ble_eq_true rfl⟩) hK hP hD hS hA [0, 1, 2, 3, 4, 5, 6, 7, 8, 9, 10, 11, 12, 13, 14, 15, 16, 17, 18, 19, 20] [] rfl rfl rfl rfl rfl (by decide) rfl rfl rfl rfl hl.1 (Nat.le_of_ble_eq_true rfl) dX7_mayStand_157 (fun H locs hP hD hS => ?_)
      have hP : va_P D vwCl (wdX7 q y M_thrown M_text M_size M_has M_hand M_layers M_kinds M_names M_nameSizes M_thicknesses M_spreads M_coppers M_copperAt M_presses M_pressFrom M_pressTo M_vias M_viaFrom M_viaTo M_shares M_lists M_hasRow M_rowLow M_rowHigh M_p M_s M_fault M_lines M_word M_wordSize M_out M_written M_secondOne) H := hP
      have hD : va_D A (wdX7 q y M_thrown M_text M_size M_has M_hand M_layers M_kinds M_names M_nameSizes M_thicknesses M_spreads M_coppers M_copperAt M_presses M_pressFrom M_pressTo M_vias M_viaFrom M_viaTo M_shares M_lists M_hasRow M_rowLow M_rowHigh M_p M_s M_fault M_lines M_word M_wordSize M_out M_written M_secondOne) := hD
      obtain ⟨hg_4, hm⟩ := mg_of hm
      refine va_iald hx hb hK hP 3 0 rfl rfl hg_4 dX7_mayStand_160 ?_
      refine lv_if_eq (tgt := 212) hx hb dX7_mayStand_161 (by decide) (fun h_5 => ?_) (fun h_5 => ?_)
      · have hm := it_of hm h_5
        exact k_X7_mayStand_212 C hA hK F v4 M_coppers M_s _ _ _ hm hP hD hS (lv_sub hl [0, 1] rfl)
      · have hm := ie_of hm h_5
        refine lv_iload hx hb dX7_mayStand_164 (lv_at hl 1 rfl) ?_
        refine lv_if_ne (tgt := 199) hx hb dX7_mayStand_166 (by decide) (fun h_6 => ?_) (fun h_6 => ?_)
        · have hm := ie_of hm h_6
          refine lv_iconst (v := (1 : Int32)) hx hb dX7_mayStand_199 (by decide) ?_
          refine lv_goto (tgt := 204) hx hb dX7_mayStand_200 (by decide) ?_
          refine lv_istore (lv' := [(4, .int (1 : Int32)), (0, .ref (q 0)), (5, .int v5)]) hx hb dX7_mayStand_204 hl (by decide) rfl (fun ls hl => ?_)
          obtain ⟨v5_7, ev5_7⟩ : ∃ y9 : Int32, y9 = (v5 + (-1 : Int32)) := ⟨_, rfl⟩
          have hm := mn_of ev5_7 hm
          refine lv_iinc (v := v5_7) (lv' := [(5, .int v5_7), (4, .int (1 : Int32)), (0, .ref (q 0))]) hx hb dX7_mayStand_206 hl (k := 2) rfl (by rw [ev5_7]; rfl) (by decide) rfl (fun ls hl => ?_)
          refine lv_goto (tgt := 145) hx hb dX7_mayStand_209 (by decide) ?_
          exact ih (1 : Int32) v5_7 M_kinds M_coppers M_s _ _ _ hm hP hD hS (lv_sub hl [2, 1, 0] rfl)
        · have hm := it_of hm h_6
          refine lv_aload_n hx hb dX7_mayStand_169 rfl (lv_at hl 0 rfl) ?_
          refine va_get (D := D) (ci := 7) (v := .ref (q 3)) (C := RX7) (T := TX7) (N := 33) hx hb hts n_X7_mayStand_X7 hown hK hP 0 rfl rfl 6 (by decide) (hts _ w_X7_mayStand_f16) (fun _ h9 => h9) rfl dX7_mayStand_170 ?_
          refine lv_aload_n hx hb dX7_mayStand_173 rfl (lv_at hl 0 rfl) ?_
          refine lv_iload hx hb dX7_mayStand_174 (lv_at hl 2 rfl) ?_
          obtain ⟨r_8, hc_9, hm⟩ := mb1_of hm
          refine call_vi (wc := (wdX7 q y M_thrown M_text M_size M_has M_hand M_layers M_kinds M_names M_nameSizes M_thicknesses M_spreads M_coppers M_copperAt M_presses M_pressFrom M_pressTo M_vias M_viaFrom M_viaTo M_shares M_lists M_hasRow M_rowLow M_rowHigh M_p M_s M_fault M_lines M_word M_wordSize M_out M_written M_secondOne)) (wr := []) (As := [.int v5]) (rest := [.ref (q 3)]) C (c_X7_layerAt l D y q _ F hc_9) (cwV 1 hts gX7_mayStand_X7_layerAt rfl rfl rfl (by decide +kernel) ⟨Nat.le_of_ble_eq_true rfl, Nat.le_of_ble_eq_true rfl⟩) hK hP hD hS hA [0, 1, 2, 3, 4, 5, 6, 7, 8, 9, 10, 11, 12, 13, 14, 15, 16, 17, 18, 19, 20] [] rfl rfl rfl rfl rfl (by decide) rfl rfl rfl rfl hl.1 (Nat.le_of_ble_eq_true rfl) dX7_mayStand_176 (fun H locs hP hD hS => ?_)
          have hP : va_P D vwCl (wdX7 q y M_thrown M_text M_size M_has M_hand M_layers M_kinds M_names M_nameSizes M_thicknesses M_spreads M_coppers M_copperAt M_presses M_pressFrom M_pressTo M_vias M_viaFrom M_viaTo M_shares M_lists M_hasRow M_rowLow M_rowHigh M_p M_s M_fault M_lines M_word M_wordSize M_out M_written M_secondOne) H := hP
          have hD : va_D A (wdX7 q y M_thrown M_text M_size M_has M_hand M_layers M_kinds M_names M_nameSizes M_thicknesses M_spreads M_coppers M_copperAt M_presses M_pressFrom M_pressTo M_vias M_viaFrom M_viaTo M_shares M_lists M_hasRow M_rowLow M_rowHigh M_p M_s M_fault M_lines M_word M_wordSize M_out M_written M_secondOne) := hD
          obtain ⟨hg_10, hm⟩ := mg_of hm
          refine va_iald hx hb hK hP 3 0 rfl rfl hg_10 dX7_mayStand_179 ?_
          refine lv_iconst (v := (1 : Int32)) hx hb dX7_mayStand_180 (by decide) ?_
          refine lv_icmp_eq (tgt := 199) hx hb dX7_mayStand_181 (by decide) (fun h_11 => ?_) (fun h_11 => ?_)
          · have hm := it_of hm h_11
            refine lv_iconst (v := (1 : Int32)) hx hb dX7_mayStand_199 (by decide) ?_
            refine lv_goto (tgt := 204) hx hb dX7_mayStand_200 (by decide) ?_
            refine lv_istore (lv' := [(4, .int (1 : Int32)), (0, .ref (q 0)), (5, .int v5)]) hx hb dX7_mayStand_204 hl (by decide) rfl (fun ls hl => ?_)
            obtain ⟨v5_12, ev5_12⟩ : ∃ y9 : Int32, y9 = (v5 + (-1 : Int32)) := ⟨_, rfl⟩
            have hm := mn_of ev5_12 hm
            refine lv_iinc (v := v5_12) (lv' := [(5, .int v5_12), (4, .int (1 : Int32)), (0, .ref (q 0))]) hx hb dX7_mayStand_206 hl (k := 2) rfl (by rw [ev5_12]; rfl) (by decide) rfl (fun ls hl => ?_)
            refine lv_goto (tgt := 145) hx hb dX7_mayStand_209 (by decide) ?_
            exact ih (1 : Int32) v5_12 M_kinds M_coppers M_s _ _ _ hm hP hD hS (lv_sub hl [2, 1, 0] rfl)
          · have hm := ie_of hm h_11
            refine lv_aload_n hx hb dX7_mayStand_184 rfl (lv_at hl 0 rfl) ?_
            refine va_get (D := D) (ci := 7) (v := .ref (q 3)) (C := RX7) (T := TX7) (N := 33) hx hb hts n_X7_mayStand_X7 hown hK hP 0 rfl rfl 6 (by decide) (hts _ w_X7_mayStand_f16) (fun _ h9 => h9) rfl dX7_mayStand_185 ?_
            refine lv_aload_n hx hb dX7_mayStand_188 rfl (lv_at hl 0 rfl) ?_
            refine lv_iload hx hb dX7_mayStand_189 (lv_at hl 2 rfl) ?_
            obtain ⟨r_13, hc_14, hm⟩ := mb1_of hm
            refine call_vi (wc := (wdX7 q y M_thrown M_text M_size M_has M_hand M_layers M_kinds M_names M_nameSizes M_thicknesses M_spreads M_coppers M_copperAt M_presses M_pressFrom M_pressTo M_vias M_viaFrom M_viaTo M_shares M_lists M_hasRow M_rowLow M_rowHigh M_p M_s M_fault M_lines M_word M_wordSize M_out M_written M_secondOne)) (wr := []) (As := [.int v5]) (rest := [.ref (q 3)]) C (c_X7_layerAt l D y q _ F hc_14) (cwV 1 hts gX7_mayStand_X7_layerAt rfl rfl rfl (by decide +kernel) ⟨Nat.le_of_ble_eq_true rfl, Nat.le_of_ble_eq_true rfl⟩) hK hP hD hS hA [0, 1, 2, 3, 4, 5, 6, 7, 8, 9, 10, 11, 12, 13, 14, 15, 16, 17, 18, 19, 20] [] rfl rfl rfl rfl rfl (by decide) rfl rfl rfl rfl hl.1 (Nat.le_of_ble_eq_true rfl) dX7_mayStand_191 (fun H locs hP hD hS => ?_)
            have hP : va_P D vwCl (wdX7 q y M_thrown M_text M_size M_has M_hand M_layers M_kinds M_names M_nameSizes M_thicknesses M_spreads M_coppers M_copperAt M_presses M_pressFrom M_pressTo M_vias M_viaFrom M_viaTo M_shares M_lists M_hasRow M_rowLow M_rowHigh M_p M_s M_fault M_lines M_word M_wordSize M_out M_written M_secondOne) H := hP
            have hD : va_D A (wdX7 q y M_thrown M_text M_size M_has M_hand M_layers M_kinds M_names M_nameSizes M_thicknesses M_spreads M_coppers M_copperAt M_presses M_pressFrom M_pressTo M_vias M_viaFrom M_viaTo M_shares M_lists M_hasRow M_rowLow M_rowHigh M_p M_s M_fault M_lines M_word M_wordSize M_out M_written M_secondOne) := hD
            obtain ⟨hg_15, hm⟩ := mg_of hm
            refine va_iald hx hb hK hP 3 0 rfl rfl hg_15 dX7_mayStand_194 ?_
            refine lv_iconst (v := (2 : Int32)) hx hb dX7_mayStand_195 (by decide) ?_
            refine lv_icmp_ne (tgt := 203) hx hb dX7_mayStand_196 (by decide) (fun h_16 => ?_) (fun h_16 => ?_)
            · have hm := ie_of hm h_16
              refine lv_iconst (v := (0 : Int32)) hx hb dX7_mayStand_203 (by decide) ?_
              refine lv_istore (lv' := [(4, .int (0 : Int32)), (0, .ref (q 0)), (5, .int v5)]) hx hb dX7_mayStand_204 hl (by decide) rfl (fun ls hl => ?_)
              obtain ⟨v5_17, ev5_17⟩ : ∃ y9 : Int32, y9 = (v5 + (-1 : Int32)) := ⟨_, rfl⟩
              have hm := mn_of ev5_17 hm
              refine lv_iinc (v := v5_17) (lv' := [(5, .int v5_17), (4, .int (0 : Int32)), (0, .ref (q 0))]) hx hb dX7_mayStand_206 hl (k := 2) rfl (by rw [ev5_17]; rfl) (by decide) rfl (fun ls hl => ?_)
              refine lv_goto (tgt := 145) hx hb dX7_mayStand_209 (by decide) ?_
              exact ih (0 : Int32) v5_17 M_kinds M_coppers M_s _ _ _ hm hP hD hS (lv_sub hl [2, 1, 0] rfl)
            · have hm := it_of hm h_16
              refine lv_iconst (v := (1 : Int32)) hx hb dX7_mayStand_199 (by decide) ?_
              refine lv_goto (tgt := 204) hx hb dX7_mayStand_200 (by decide) ?_
              refine lv_istore (lv' := [(4, .int (1 : Int32)), (0, .ref (q 0)), (5, .int v5)]) hx hb dX7_mayStand_204 hl (by decide) rfl (fun ls hl => ?_)
              obtain ⟨v5_18, ev5_18⟩ : ∃ y9 : Int32, y9 = (v5 + (-1 : Int32)) := ⟨_, rfl⟩
              have hm := mn_of ev5_18 hm
              refine lv_iinc (v := v5_18) (lv' := [(5, .int v5_18), (4, .int (1 : Int32)), (0, .ref (q 0))]) hx hb dX7_mayStand_206 hl (k := 2) rfl (by rw [ev5_18]; rfl) (by decide) rfl (fun ls hl => ?_)
              refine lv_goto (tgt := 145) hx hb dX7_mayStand_209 (by decide) ?_
              exact ih (1 : Int32) v5_18 M_kinds M_coppers M_s _ _ _ hm hP hD hS (lv_sub hl [2, 1, 0] rfl)
set_option maxHeartbeats 4000000 in
set_option maxRecDepth 100000 in
theorem k_X7_mayStand_30 {p : Program} {l : Launch} {e : Env} {s : State} {m : MethodId} {args : Array Value} {below : List Frame} {meth : Method} {c : Code} {D : va_G} {y : Nat → ClassId} {A : Nat → Prop} {q : Nat → Nat} {M_thrown : Int32} {M_text : Nat → Int32} {M_size : Int32} {M_has : Int32} {M_hand : Int32} {M_layers : Nat → Int32} {M_names : Nat → Int64} {M_nameSizes : Nat → Int32} {M_thicknesses : Nat → Int64} {M_spreads : Nat → Int32} {M_copperAt : Nat → Int32} {M_pressFrom : Nat → Int32} {M_pressTo : Nat → Int32} {M_viaFrom : Nat → Int32} {M_viaTo : Nat → Int32} {M_shares : Nat → Int32} {M_lists : Int32} {M_hasRow : Nat → Int32} {M_rowLow : Nat → Int64} {M_rowHigh : Nat → Int64} {M_p : Int32} {M_fault : Int32} {M_lines : Int32} {M_word : Int64} {M_wordSize : Int32} {M_out : Nat → Int32} {M_written : Int32} {M_secondOne : Int32} {z : Int32} (C : CX p s m args meth c wsX7_mayStand RX7 cX7_mayStand 6 (some .boolean)) (hA : ∀ q : Nat, s.heap.size ≤ q → A q) (hK : va_K D vwCl (tyl y) s) (F : Nat) :
    ∀ (v1 : Int32) (v2 : Int32) (st0 : Int32) (M_kinds : Nat → Int32) (M_coppers : Nat → Int32) (M_presses : Nat → Int32) (M_vias : Nat → Int32) (M_s : Int32) (H : Heap) (locs : List Loc) (ls : Array Slot), g_X7_mayStand_30 F v1 v2 st0 M_kinds M_coppers M_presses M_vias M_s = some z → va_P D vwCl (wdX7 q y M_thrown M_text M_size M_has M_hand M_layers M_kinds M_names M_nameSizes M_thicknesses M_spreads M_coppers M_copperAt M_presses M_pressFrom M_pressTo M_vias M_viaFrom M_viaTo M_shares M_lists M_hasRow M_rowLow M_rowHigh M_p M_s M_fault M_lines M_word M_wordSize M_out M_written M_secondOne) H → va_D A (wdX7 q y M_thrown M_text M_size M_has M_hand M_layers M_kinds M_names M_nameSizes M_thicknesses M_spreads M_coppers M_copperAt M_presses M_pressFrom M_pressTo M_vias M_viaFrom M_viaTo M_shares M_lists M_hasRow M_rowLow M_rowHigh M_p M_s M_fault M_lines M_word M_wordSize M_out M_written M_secondOne) → va_S A s.heap H locs → lv_has ls 6 [(0, .ref (q 0)), (1, .int v1), (2, .int v2)] → W p l e ({ frames := 1, cells := 0, slots := 0, locals := 21 } : Room) s m args below meth c H locs 0 0 (MQ below (QI D y A (z) (wdX7 q y M_thrown M_text M_size M_has M_hand M_layers M_kinds M_names M_nameSizes M_thicknesses M_spreads M_coppers M_copperAt M_presses M_pressFrom M_pressTo M_vias M_viaFrom M_viaTo M_shares M_lists M_hasRow M_rowLow M_rowHigh M_p M_s M_fault M_lines M_word M_wordSize M_out M_written M_secondOne)) args s 0 0 A) (F0 m 30 ls [.int st0]) := by
  obtain ⟨⟨hx, hb, hml, hown, hts⟩, hr, hlocks⟩ := id C
  intro v1 v2 st0 M_kinds M_coppers M_presses M_vias M_s H locs ls hm hP hD hS hl
  unfold g_X7_mayStand_30 at hm
  refine lv_istore_n (lv' := [(3, .int st0), (0, .ref (q 0)), (1, .int v1), (2, .int v2)]) hx hb dX7_mayStand_30 rfl hl (by decide) rfl (fun ls hl => ?_)
  refine lv_iload_n hx hb dX7_mayStand_31 rfl (lv_at hl 3 rfl) ?_
  refine lv_bipush (v := (80 : Int32)) hx hb dX7_mayStand_32 (by decide) ?_
  refine lv_icmp_eq (tgt := 59) hx hb dX7_mayStand_34 (by decide) (fun h_1 => ?_) (fun h_1 => ?_)
  · have hm := it_of hm h_1
    refine lv_iconst (v := (0 : Int32)) hx hb dX7_mayStand_59 (by decide) ?_
    have hz := Option.some.inj hm
    subst hz
    exact end_z C hK hP hD hS (show vp_nar .boolean (0 : Int32) = (0 : Int32) from by decide) dX7_mayStand_60
  · have hm := ie_of hm h_1
    refine lv_aload_n hx hb dX7_mayStand_37 rfl (lv_at hl 1 rfl) ?_
    refine va_get (D := D) (ci := 7) (v := .ref (q 10)) (C := RX7) (T := TX7) (N := 33) hx hb hts n_X7_mayStand_X7 hown hK hP 0 rfl rfl 13 (by decide) (hts _ w_X7_mayStand_f38) (fun _ h9 => h9) rfl dX7_mayStand_38 ?_
    refine lv_aload_n hx hb dX7_mayStand_41 rfl (lv_at hl 1 rfl) ?_
    refine va_get (D := D) (ci := 7) (v := .int M_s) (C := RX7) (T := TX7) (N := 33) hx hb hts n_X7_mayStand_X7 hown hK hP 0 rfl rfl 25 (by decide) (hts _ w_X7_mayStand_f134) (fun _ h9 => h9) rfl dX7_mayStand_42 ?_
    obtain ⟨hg_2, hm⟩ := mg_of hm
    refine va_iald hx hb hK hP 10 0 rfl rfl hg_2 dX7_mayStand_45 ?_
    refine lv_aload_n hx hb dX7_mayStand_46 rfl (lv_at hl 1 rfl) ?_
    refine va_get (D := D) (ci := 7) (v := .ref (q 13)) (C := RX7) (T := TX7) (N := 33) hx hb hts n_X7_mayStand_X7 hown hK hP 0 rfl rfl 16 (by decide) (hts _ w_X7_mayStand_f47) (fun _ h9 => h9) rfl dX7_mayStand_47 ?_
    refine lv_aload_n hx hb dX7_mayStand_50 rfl (lv_at hl 1 rfl) ?_
    refine va_get (D := D) (ci := 7) (v := .int M_s) (C := RX7) (T := TX7) (N := 33) hx hb hts n_X7_mayStand_X7 hown hK hP 0 rfl rfl 25 (by decide) (hts _ w_X7_mayStand_f134) (fun _ h9 => h9) rfl dX7_mayStand_51 ?_
    obtain ⟨hg_3, hm⟩ := mg_of hm
    refine va_iald hx hb hK hP 13 0 rfl rfl hg_3 dX7_mayStand_54 ?_
    refine lv_iadd hx hb dX7_mayStand_55 ?_
    refine lv_if_le (tgt := 61) hx hb dX7_mayStand_56 (by decide) (fun h_4 => ?_) (fun h_4 => ?_)
    · have hm := it_of hm h_4
      refine lv_iload_n hx hb dX7_mayStand_61 rfl (lv_at hl 3 rfl) ?_
      refine lv_if_ne (tgt := 80) hx hb dX7_mayStand_62 (by decide) (fun h_5 => ?_) (fun h_5 => ?_)
      · have hm := ie_of hm h_5
        refine lv_iload_n hx hb dX7_mayStand_80 rfl (lv_at hl 0 rfl) ?_
        refine lv_iconst (v := (3 : Int32)) hx hb dX7_mayStand_81 (by decide) ?_
        refine lv_icmp_ne (tgt := 100) hx hb dX7_mayStand_82 (by decide) (fun h_6 => ?_) (fun h_6 => ?_)
        · have hm := ie_of hm h_6
          refine lv_iload_n hx hb dX7_mayStand_100 rfl (lv_at hl 2 rfl) ?_
          refine lv_iconst (v := (3 : Int32)) hx hb dX7_mayStand_101 (by decide) ?_
          refine lv_icmp_ne (tgt := 115) hx hb dX7_mayStand_102 (by decide) (fun h_7 => ?_) (fun h_7 => ?_)
          · have hm := ie_of hm h_7
            refine lv_iload_n hx hb dX7_mayStand_115 rfl (lv_at hl 2 rfl) ?_
            refine lv_if_eq (tgt := 121) hx hb dX7_mayStand_116 (by decide) (fun h_8 => ?_) (fun h_8 => ?_)
            · have hm := it_of hm h_8
              refine lv_aload_n hx hb dX7_mayStand_121 rfl (lv_at hl 1 rfl) ?_
              refine va_get (D := D) (ci := 7) (v := .ref (q 8)) (C := RX7) (T := TX7) (N := 33) hx hb hts n_X7_mayStand_X7 hown hK hP 0 rfl rfl 11 (by decide) (hts _ w_X7_mayStand_f32) (fun _ h9 => h9) rfl dX7_mayStand_122 ?_
              refine lv_aload_n hx hb dX7_mayStand_125 rfl (lv_at hl 1 rfl) ?_
              refine va_get (D := D) (ci := 7) (v := .int M_s) (C := RX7) (T := TX7) (N := 33) hx hb hts n_X7_mayStand_X7 hown hK hP 0 rfl rfl 25 (by decide) (hts _ w_X7_mayStand_f134) (fun _ h9 => h9) rfl dX7_mayStand_126 ?_
              obtain ⟨hg_9, hm⟩ := mg_of hm
              refine va_iald hx hb hK hP 8 0 rfl rfl hg_9 dX7_mayStand_129 ?_
              refine lv_if_ne (tgt := 137) hx hb dX7_mayStand_130 (by decide) (fun h_10 => ?_) (fun h_10 => ?_)
              · have hm := ie_of hm h_10
                refine lv_iconst (v := (0 : Int32)) hx hb dX7_mayStand_137 (by decide) ?_
                refine lv_istore (lv' := [(4, .int (0 : Int32)), (3, .int st0), (0, .ref (q 0)), (1, .int v1), (2, .int v2)]) hx hb dX7_mayStand_138 hl (by decide) rfl (fun ls hl => ?_)
                refine lv_iload_n hx hb dX7_mayStand_140 rfl (lv_at hl 4 rfl) ?_
                refine lv_iconst (v := (1 : Int32)) hx hb dX7_mayStand_141 (by decide) ?_
                refine lv_isub hx hb dX7_mayStand_142 ?_
                refine lv_topi (fun v5_11 ev5_11 => ?_)
                have hm := mn_of ev5_11 hm
                refine lv_istore (lv' := [(5, .int v5_11), (4, .int (0 : Int32)), (3, .int st0), (0, .ref (q 0)), (1, .int v1), (2, .int v2)]) hx hb dX7_mayStand_143 hl (by decide) rfl (fun ls hl => ?_)
                exact k_X7_mayStand_145 C hA hK F F (0 : Int32) v5_11 M_kinds M_coppers M_s _ _ _ hm hP hD hS (lv_sub hl [3, 1, 0] rfl)
              · have hm := it_of hm h_10
                refine lv_iconst (v := (1 : Int32)) hx hb dX7_mayStand_133 (by decide) ?_
                refine lv_goto (tgt := 138) hx hb dX7_mayStand_134 (by decide) ?_
                refine lv_istore (lv' := [(4, .int (1 : Int32)), (3, .int st0), (0, .ref (q 0)), (1, .int v1), (2, .int v2)]) hx hb dX7_mayStand_138 hl (by decide) rfl (fun ls hl => ?_)
                refine lv_iload_n hx hb dX7_mayStand_140 rfl (lv_at hl 4 rfl) ?_
                refine lv_iconst (v := (1 : Int32)) hx hb dX7_mayStand_141 (by decide) ?_
                refine lv_isub hx hb dX7_mayStand_142 ?_
                refine lv_topi (fun v5_12 ev5_12 => ?_)
                have hm := mn_of ev5_12 hm
                refine lv_istore (lv' := [(5, .int v5_12), (4, .int (1 : Int32)), (3, .int st0), (0, .ref (q 0)), (1, .int v1), (2, .int v2)]) hx hb dX7_mayStand_143 hl (by decide) rfl (fun ls hl => ?_)
                exact k_X7_mayStand_145 C hA hK F F (1 : Int32) v5_12 M_kinds M_coppers M_s _ _ _ hm hP hD hS (lv_sub hl [3, 1, 0] rfl)
            · have hm := ie_of hm h_8
              refine lv_iconst (v := (1 : Int32)) hx hb dX7_mayStand_119 (by decide) ?_
              have hz := Option.some.inj hm
              subst hz
              exact end_z C hK hP hD hS (show vp_nar .boolean (1 : Int32) = (1 : Int32) from by decide) dX7_mayStand_120
          · have hm := it_of hm h_7
            refine lv_iload_n hx hb dX7_mayStand_105 rfl (lv_at hl 0 rfl) ?_
            refine lv_if_ne (tgt := 113) hx hb dX7_mayStand_106 (by decide) (fun h_13 => ?_) (fun h_13 => ?_)
            · have hm := ie_of hm h_13
              refine lv_iconst (v := (0 : Int32)) hx hb dX7_mayStand_113 (by decide) ?_
              have hz := Option.some.inj hm
              subst hz
              exact end_z C hK hP hD hS (show vp_nar .boolean (0 : Int32) = (0 : Int32) from by decide) dX7_mayStand_114
            · have hm := it_of hm h_13
              refine lv_iconst (v := (1 : Int32)) hx hb dX7_mayStand_109 (by decide) ?_
              refine lv_goto (tgt := 114) hx hb dX7_mayStand_110 (by decide) ?_
              have hz := Option.some.inj hm
              subst hz
              exact end_z C hK hP hD hS (show vp_nar .boolean (1 : Int32) = (1 : Int32) from by decide) dX7_mayStand_114
        · have hm := it_of hm h_6
          refine lv_iload_n hx hb dX7_mayStand_85 rfl (lv_at hl 3 rfl) ?_
          refine lv_iconst (v := (1 : Int32)) hx hb dX7_mayStand_86 (by decide) ?_
          refine lv_icmp_ne (tgt := 98) hx hb dX7_mayStand_87 (by decide) (fun h_14 => ?_) (fun h_14 => ?_)
          · have hm := ie_of hm h_14
            refine lv_iconst (v := (0 : Int32)) hx hb dX7_mayStand_98 (by decide) ?_
            have hz := Option.some.inj hm
            subst hz
            exact end_z C hK hP hD hS (show vp_nar .boolean (0 : Int32) = (0 : Int32) from by decide) dX7_mayStand_99
          · have hm := it_of hm h_14
            refine lv_iload_n hx hb dX7_mayStand_90 rfl (lv_at hl 2 rfl) ?_
            refine lv_if_ne (tgt := 98) hx hb dX7_mayStand_91 (by decide) (fun h_15 => ?_) (fun h_15 => ?_)
            · have hm := ie_of hm h_15
              refine lv_iconst (v := (0 : Int32)) hx hb dX7_mayStand_98 (by decide) ?_
              have hz := Option.some.inj hm
              subst hz
              exact end_z C hK hP hD hS (show vp_nar .boolean (0 : Int32) = (0 : Int32) from by decide) dX7_mayStand_99
            · have hm := it_of hm h_15
              refine lv_iconst (v := (1 : Int32)) hx hb dX7_mayStand_94 (by decide) ?_
              refine lv_goto (tgt := 99) hx hb dX7_mayStand_95 (by decide) ?_
              have hz := Option.some.inj hm
              subst hz
              exact end_z C hK hP hD hS (show vp_nar .boolean (1 : Int32) = (1 : Int32) from by decide) dX7_mayStand_99
      · have hm := it_of hm h_5
        refine lv_iload_n hx hb dX7_mayStand_65 rfl (lv_at hl 2 rfl) ?_
        refine lv_iconst (v := (3 : Int32)) hx hb dX7_mayStand_66 (by decide) ?_
        refine lv_icmp_eq (tgt := 74) hx hb dX7_mayStand_67 (by decide) (fun h_16 => ?_) (fun h_16 => ?_)
        · have hm := it_of hm h_16
          refine lv_iconst (v := (1 : Int32)) hx hb dX7_mayStand_74 (by decide) ?_
          refine lv_goto (tgt := 79) hx hb dX7_mayStand_75 (by decide) ?_
          have hz := Option.some.inj hm
          subst hz
          exact end_z C hK hP hD hS (show vp_nar .boolean (1 : Int32) = (1 : Int32) from by decide) dX7_mayStand_79
        · have hm := ie_of hm h_16
          refine lv_iload_n hx hb dX7_mayStand_70 rfl (lv_at hl 2 rfl) ?_
          refine lv_if_ne (tgt := 78) hx hb dX7_mayStand_71 (by decide) (fun h_17 => ?_) (fun h_17 => ?_)
          · have hm := ie_of hm h_17
            refine lv_iconst (v := (0 : Int32)) hx hb dX7_mayStand_78 (by decide) ?_
            have hz := Option.some.inj hm
            subst hz
            exact end_z C hK hP hD hS (show vp_nar .boolean (0 : Int32) = (0 : Int32) from by decide) dX7_mayStand_79
          · have hm := it_of hm h_17
            refine lv_iconst (v := (1 : Int32)) hx hb dX7_mayStand_74 (by decide) ?_
            refine lv_goto (tgt := 79) hx hb dX7_mayStand_75 (by decide) ?_
            have hz := Option.some.inj hm
            subst hz
            exact end_z C hK hP hD hS (show vp_nar .boolean (1 : Int32) = (1 : Int32) from by decide) dX7_mayStand_79
    · have hm := ie_of hm h_4
      refine lv_iconst (v := (0 : Int32)) hx hb dX7_mayStand_59 (by decide) ?_
      have hz := Option.some.inj hm
      subst hz
      exact end_z C hK hP hD hS (show vp_nar .boolean (0 : Int32) = (0 : Int32) from by decide) dX7_mayStand_60
set_option maxHeartbeats 4000000 in
set_option maxRecDepth 100000 in
theorem c_X7_mayStand (l : Launch) (D : va_G) (y : Nat → ClassId) (q : Nat → Nat) (sz : Nat) (F : Nat) {v1 : Int32} {M_thrown : Int32} {M_text : Nat → Int32} {M_size : Int32} {M_has : Int32} {M_hand : Int32} {M_layers : Nat → Int32} {M_kinds : Nat → Int32} {M_names : Nat → Int64} {M_nameSizes : Nat → Int32} {M_thicknesses : Nat → Int64} {M_spreads : Nat → Int32} {M_coppers : Nat → Int32} {M_copperAt : Nat → Int32} {M_presses : Nat → Int32} {M_pressFrom : Nat → Int32} {M_pressTo : Nat → Int32} {M_vias : Nat → Int32} {M_viaFrom : Nat → Int32} {M_viaTo : Nat → Int32} {M_shares : Nat → Int32} {M_lists : Int32} {M_hasRow : Nat → Int32} {M_rowLow : Nat → Int64} {M_rowHigh : Nat → Int64} {M_p : Int32} {M_s : Int32} {M_fault : Int32} {M_lines : Int32} {M_word : Int64} {M_wordSize : Int32} {M_out : Nat → Int32} {M_written : Int32} {M_secondOne : Int32} {z : Int32} (hm : f_X7_mayStand F v1 M_layers M_kinds M_coppers M_presses M_vias M_s = some z) : Met l yX7_mayStand wsX7_mayStand ({ frames := 1, cells := 0, slots := 0, locals := 21 } : Room) (va_Pc [.ref (q 0), .int v1] (cP D y (wdX7 q y M_thrown M_text M_size M_has M_hand M_layers M_kinds M_names M_nameSizes M_thicknesses M_spreads M_coppers M_copperAt M_presses M_pressFrom M_pressTo M_vias M_viaFrom M_viaTo M_shares M_lists M_hasRow M_rowLow M_rowHigh M_p M_s M_fault M_lines M_word M_wordSize M_out M_written M_secondOne) sz)) (QI D y (va_A (wdX7 q y M_thrown M_text M_size M_has M_hand M_layers M_kinds M_names M_nameSizes M_thicknesses M_spreads M_coppers M_copperAt M_presses M_pressFrom M_pressTo M_vias M_viaFrom M_viaTo M_shares M_lists M_hasRow M_rowLow M_rowHigh M_p M_s M_fault M_lines M_word M_wordSize M_out M_written M_secondOne) sz) (z) (wdX7 q y M_thrown M_text M_size M_has M_hand M_layers M_kinds M_names M_nameSizes M_thicknesses M_spreads M_coppers M_copperAt M_presses M_pressFrom M_pressTo M_vias M_viaFrom M_viaTo M_shares M_lists M_hasRow M_rowLow M_rowHigh M_p M_s M_fault M_lines M_word M_wordSize M_out M_written M_secondOne)) 0 0 (va_A (wdX7 q y M_thrown M_text M_size M_has M_hand M_layers M_kinds M_names M_nameSizes M_thicknesses M_spreads M_coppers M_copperAt M_presses M_pressFrom M_pressTo M_vias M_viaFrom M_viaTo M_shares M_lists M_hasRow M_rowLow M_rowHigh M_p M_s M_fault M_lines M_word M_wordSize M_out M_written M_secondOne) sz) := by
  refine met_of (own := RX7) (cc := cX7_mayStand) (maxL := 6) (ret := (some .boolean)) (by decide) rfl rfl (Nat.le_of_ble_eq_true rfl) ?_
  intro p e s m below meth c ls C hsz hK hP hD hA hS hl
  obtain ⟨⟨hx, hb, hml, hown, hts⟩, hr, hlocks⟩ := id C
  have hl : lv_has ls 6 [(0, .ref (q 0)), (1, .int v1)] := hl
  generalize va_A (wdX7 q y M_thrown M_text M_size M_has M_hand M_layers M_kinds M_names M_nameSizes M_thicknesses M_spreads M_coppers M_copperAt M_presses M_pressFrom M_pressTo M_vias M_viaFrom M_viaTo M_shares M_lists M_hasRow M_rowLow M_rowHigh M_p M_s M_fault M_lines M_word M_wordSize M_out M_written M_secondOne) sz = A at hD hA hS ⊢
  generalize ([.ref (q 0), .int v1] : List Value).toArray = args at C hts ⊢
  unfold f_X7_mayStand at hm
  refine lv_aload_n hx hb dX7_mayStand_0 rfl (lv_at hl 0 rfl) ?_
  refine va_get (D := D) (ci := 7) (v := .ref (q 2)) (C := RX7) (T := TX7) (N := 33) hx hb hts n_X7_mayStand_X7 hown hK hP 0 rfl rfl 5 (by decide) (hts _ w_X7_mayStand_f13) (fun _ h9 => h9) rfl dX7_mayStand_1 ?_
  refine lv_aload_n hx hb dX7_mayStand_4 rfl (lv_at hl 0 rfl) ?_
  refine va_get (D := D) (ci := 7) (v := .int M_s) (C := RX7) (T := TX7) (N := 33) hx hb hts n_X7_mayStand_X7 hown hK hP 0 rfl rfl 25 (by decide) (hts _ w_X7_mayStand_f134) (fun _ h9 => h9) rfl dX7_mayStand_5 ?_
  obtain ⟨hg_1, hm⟩ := mg_of hm
  refine va_iald hx hb hK hP 2 0 rfl rfl hg_1 dX7_mayStand_8 ?_
  refine lv_topi (fun v2_2 ev2_2 => ?_)
  have hm := mn_of ev2_2 hm
  refine lv_istore_n (lv' := [(2, .int v2_2), (0, .ref (q 0)), (1, .int v1)]) hx hb dX7_mayStand_9 rfl hl (by decide) rfl (fun ls hl => ?_)
  refine lv_iload_n hx hb dX7_mayStand_10 rfl (lv_at hl 0 rfl) ?_
  refine lv_if_ne (tgt := 18) hx hb dX7_mayStand_11 (by decide) (fun h_3 => ?_) (fun h_3 => ?_)
  · have hm := ie_of hm h_3
    refine lv_aload_n hx hb dX7_mayStand_18 rfl (lv_at hl 1 rfl) ?_
    refine va_get (D := D) (ci := 7) (v := .ref (q 3)) (C := RX7) (T := TX7) (N := 33) hx hb hts n_X7_mayStand_X7 hown hK hP 0 rfl rfl 6 (by decide) (hts _ w_X7_mayStand_f16) (fun _ h9 => h9) rfl dX7_mayStand_19 ?_
    refine lv_aload_n hx hb dX7_mayStand_22 rfl (lv_at hl 1 rfl) ?_
    refine lv_iload_n hx hb dX7_mayStand_23 rfl (lv_at hl 0 rfl) ?_
    refine lv_iconst (v := (1 : Int32)) hx hb dX7_mayStand_24 (by decide) ?_
    refine lv_isub hx hb dX7_mayStand_25 ?_
    obtain ⟨r_4, hc_5, hm⟩ := mb1_of hm
    refine call_vi (wc := (wdX7 q y M_thrown M_text M_size M_has M_hand M_layers M_kinds M_names M_nameSizes M_thicknesses M_spreads M_coppers M_copperAt M_presses M_pressFrom M_pressTo M_vias M_viaFrom M_viaTo M_shares M_lists M_hasRow M_rowLow M_rowHigh M_p M_s M_fault M_lines M_word M_wordSize M_out M_written M_secondOne)) (wr := []) (As := [.int (v2_2 - (1 : Int32))]) (rest := [.ref (q 3)]) C (c_X7_layerAt l D y q _ F hc_5) (cwV 1 hts gX7_mayStand_X7_layerAt rfl rfl rfl (by decide +kernel) ⟨Nat.le_of_ble_eq_true rfl, Nat.le_of_ble_eq_true rfl⟩) hK hP hD hS hA [0, 1, 2, 3, 4, 5, 6, 7, 8, 9, 10, 11, 12, 13, 14, 15, 16, 17, 18, 19, 20] [] rfl rfl rfl rfl rfl (by decide) rfl rfl rfl rfl hl.1 (Nat.le_of_ble_eq_true rfl) dX7_mayStand_26 (fun H locs hP hD hS => ?_)
    have hP : va_P D vwCl (wdX7 q y M_thrown M_text M_size M_has M_hand M_layers M_kinds M_names M_nameSizes M_thicknesses M_spreads M_coppers M_copperAt M_presses M_pressFrom M_pressTo M_vias M_viaFrom M_viaTo M_shares M_lists M_hasRow M_rowLow M_rowHigh M_p M_s M_fault M_lines M_word M_wordSize M_out M_written M_secondOne) H := hP
    have hD : va_D A (wdX7 q y M_thrown M_text M_size M_has M_hand M_layers M_kinds M_names M_nameSizes M_thicknesses M_spreads M_coppers M_copperAt M_presses M_pressFrom M_pressTo M_vias M_viaFrom M_viaTo M_shares M_lists M_hasRow M_rowLow M_rowHigh M_p M_s M_fault M_lines M_word M_wordSize M_out M_written M_secondOne) := hD
    obtain ⟨hg_6, hm⟩ := mg_of hm
    refine va_iald hx hb hK hP 3 0 rfl rfl hg_6 dX7_mayStand_29 ?_
    exact k_X7_mayStand_30 C hA hK F v1 v2_2 (M_kinds (r_4).toNatClampNeg) M_kinds M_coppers M_presses M_vias M_s _ _ _ hm hP hD hS (lv_sub hl [1, 2, 0] rfl)
  · have hm := it_of hm h_3
    refine lv_iconst (v := (-1 : Int32)) hx hb dX7_mayStand_14 (by decide) ?_
    refine lv_goto (tgt := 30) hx hb dX7_mayStand_15 (by decide) ?_
    exact k_X7_mayStand_30 C hA hK F v1 v2_2 (-1 : Int32) M_kinds M_coppers M_presses M_vias M_s _ _ _ hm hP hD hS (lv_sub hl [1, 2, 0] rfl)
