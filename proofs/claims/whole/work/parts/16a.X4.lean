def g_X4_append_23 (F : Nat) (v1 : Int32) (st0 : Int32) (t_ch : Nat → Int32) (t_len : Int32) : Option (Int32 × (Nat → Int32) × Int32) := (if st0 = 0 then some ((0 : Int32), t_ch, t_len) else (if t_len < (3000 : Int32) then mg (inb t_len 3000) (some ((1 : Int32), (upd t_ch (t_len).toNatClampNeg (vp_nar .char (((v1).toUInt32 % 65536).toInt32))), (t_len + (1 : Int32)))) else some ((0 : Int32), t_ch, t_len)))
def f_X4_append (F : Nat) (v1 : Int32) (t_ch : Nat → Int32) (t_len : Int32) : Option (Int32 × (Nat → Int32) × Int32) := (if v1 = (10 : Int32) then g_X4_append_23 F v1 (1 : Int32) t_ch t_len else (if v1 < (32 : Int32) then g_X4_append_23 F v1 (0 : Int32) t_ch t_len else (if (126 : Int32) < v1 then g_X4_append_23 F v1 (0 : Int32) t_ch t_len else g_X4_append_23 F v1 (1 : Int32) t_ch t_len)))
set_option maxRecDepth 20000 in
theorem n_X4_append_X4 : ∀ w ∈ wsX40, w ∈ wsX4_append := by decide +kernel
set_option maxRecDepth 20000 in
theorem w_X4_append_f15 : Cond.fieldLink RX4 15 "LayerStacks$TextReader" "length" "I" ∈ wsX4_append := by decide +kernel
set_option maxRecDepth 20000 in
theorem w_X4_append_f9 : Cond.fieldLink RX4 9 "LayerStacks$TextReader" "characters" "[C" ∈ wsX4_append := by decide +kernel
set_option maxHeartbeats 4000000 in
set_option maxRecDepth 100000 in
theorem k_X4_append_23 {p : Program} {l : Launch} {e : Env} {s : State} {m : MethodId} {args : Array Value} {below : List Frame} {meth : Method} {c : Code} {D : va_G} {y : Nat → ClassId} {A : Nat → Prop} {q : Nat → Nat} {t_at : Int32} {t_ls : Int32} {t_fa : Int32} {z : Int32 × (Nat → Int32) × Int32} (C : CX p s m args meth c wsX4_append RX4 cX4_append 3 (some .boolean)) (hA : ∀ q : Nat, s.heap.size ≤ q → A q) (hK : va_K D vwCl (tyl y) s) (F : Nat) :
    ∀ (v1 : Int32) (st0 : Int32) (t_ch : Nat → Int32) (t_len : Int32) (H : Heap) (locs : List Loc) (ls : Array Slot), g_X4_append_23 F v1 st0 t_ch t_len = some z → va_P D vwCl (wdX4 q y t_ch t_len t_at t_ls t_fa) H → va_D A (wdX4 q y t_ch t_len t_at t_ls t_fa) → va_S A s.heap H locs → lv_has ls 3 [(0, .ref (q 0)), (1, .int v1)] → W p l e ({ frames := 0, cells := 0, slots := 0, locals := 0 } : Room) s m args below meth c H locs 0 0 (MQ below (QI D y A (z.1) (wdX4 q y (z.2.1) (z.2.2) t_at t_ls t_fa)) args s 0 0 A) (F0 m 23 ls [.int st0]) := by
  obtain ⟨⟨hx, hb, hml, hown, hts⟩, hr, hlocks⟩ := id C
  intro v1 st0 t_ch t_len H locs ls hm hP hD hS hl
  unfold g_X4_append_23 at hm
  refine lv_istore_n (lv' := [(2, .int st0), (0, .ref (q 0)), (1, .int v1)]) hx hb dX4_append_23 rfl hl (by decide) rfl (fun ls hl => ?_)
  refine lv_iload_n hx hb dX4_append_24 rfl (lv_at hl 0 rfl) ?_
  refine lv_if_eq (tgt := 38) hx hb dX4_append_25 (by decide) (fun h_1 => ?_) (fun h_1 => ?_)
  · have hm := it_of hm h_1
    refine lv_iconst (v := (0 : Int32)) hx hb dX4_append_38 (by decide) ?_
    have hz := Option.some.inj hm
    subst hz
    exact end_z C hK hP hD hS (show vp_nar .boolean (0 : Int32) = (0 : Int32) from by decide) dX4_append_39
  · have hm := ie_of hm h_1
    refine lv_aload_n hx hb dX4_append_28 rfl (lv_at hl 1 rfl) ?_
    refine va_get (D := D) (ci := 4) (v := .int t_len) (C := RX4) (T := TX4) (N := 5) hx hb hts n_X4_append_X4 hown hK hP 0 rfl rfl 1 (by decide) (hts _ w_X4_append_f15) (fun _ h9 => h9) rfl dX4_append_29 ?_
    refine lv_sipush (v := (3000 : Int32)) hx hb dX4_append_32 (by decide) ?_
    refine lv_icmp_lt (tgt := 40) hx hb dX4_append_35 (by decide) (fun h_2 => ?_) (fun h_2 => ?_)
    · have hm := it_of hm h_2
      refine lv_aload_n hx hb dX4_append_40 rfl (lv_at hl 1 rfl) ?_
      refine va_get (D := D) (ci := 4) (v := .ref (q 1)) (C := RX4) (T := TX4) (N := 5) hx hb hts n_X4_append_X4 hown hK hP 0 rfl rfl 0 (by decide) (hts _ w_X4_append_f9) (fun _ h9 => h9) rfl dX4_append_41 ?_
      refine lv_aload_n hx hb dX4_append_44 rfl (lv_at hl 1 rfl) ?_
      refine va_get (D := D) (ci := 4) (v := .int t_len) (C := RX4) (T := TX4) (N := 5) hx hb hts n_X4_append_X4 hown hK hP 0 rfl rfl 1 (by decide) (hts _ w_X4_append_f15) (fun _ h9 => h9) rfl dX4_append_45 ?_
      refine lv_iload_n hx hb dX4_append_48 rfl (lv_at hl 2 rfl) ?_
      refine lv_i2c (v := ((v1).toUInt32 % 65536).toInt32) hx hb dX4_append_49 rfl ?_
      obtain ⟨hg_3, hm⟩ := mg_of hm
      refine va_cast hx hb hK hP hD hS 1 2 rfl rfl hg_3 dX4_append_50 (fun H locs hP hD hS => ?_)
      have hP : va_P D vwCl (wdX4 q y (upd t_ch (t_len).toNatClampNeg (vp_nar .char (((v1).toUInt32 % 65536).toInt32))) t_len t_at t_ls t_fa) H := hP
      have hD : va_D A (wdX4 q y (upd t_ch (t_len).toNatClampNeg (vp_nar .char (((v1).toUInt32 % 65536).toInt32))) t_len t_at t_ls t_fa) := hD
      refine lv_aload_n hx hb dX4_append_51 rfl (lv_at hl 1 rfl) ?_
      refine lv_dup hx hb dX4_append_52 rfl ?_
      refine va_get (D := D) (ci := 4) (v := .int t_len) (C := RX4) (T := TX4) (N := 5) hx hb hts n_X4_append_X4 hown hK hP 0 rfl rfl 1 (by decide) (hts _ w_X4_append_f15) (fun _ h9 => h9) rfl dX4_append_53 ?_
      refine lv_iconst (v := (1 : Int32)) hx hb dX4_append_56 (by decide) ?_
      refine lv_iadd hx hb dX4_append_57 ?_
      refine va_put (D := D) (ci := 4) (v := .int (t_len + (1 : Int32))) (ty := .int) (C := RX4) (T := TX4) (N := 5) hx hb hts n_X4_append_X4 tyX4 tyX4_ok nmX4 hown hK hP hD hS 0 rfl rfl 1 (by decide) (hts _ w_X4_append_f15) (fun _ h9 => h9) rfl (by decide +kernel) rfl rfl (Nat.le_of_ble_eq_true rfl) dX4_append_58 (fun H locs hP hD hS => ?_)
      have hP : va_P D vwCl (wdX4 q y (upd t_ch (t_len).toNatClampNeg (vp_nar .char (((v1).toUInt32 % 65536).toInt32))) (t_len + (1 : Int32)) t_at t_ls t_fa) H := hP
      have hD : va_D A (wdX4 q y (upd t_ch (t_len).toNatClampNeg (vp_nar .char (((v1).toUInt32 % 65536).toInt32))) (t_len + (1 : Int32)) t_at t_ls t_fa) := hD
      refine lv_iconst (v := (1 : Int32)) hx hb dX4_append_61 (by decide) ?_
      have hz := Option.some.inj hm
      subst hz
      exact end_z C hK hP hD hS (show vp_nar .boolean (1 : Int32) = (1 : Int32) from by decide) dX4_append_62
    · have hm := ie_of hm h_2
      refine lv_iconst (v := (0 : Int32)) hx hb dX4_append_38 (by decide) ?_
      have hz := Option.some.inj hm
      subst hz
      exact end_z C hK hP hD hS (show vp_nar .boolean (0 : Int32) = (0 : Int32) from by decide) dX4_append_39
set_option maxHeartbeats 4000000 in
set_option maxRecDepth 100000 in
theorem c_X4_append (l : Launch) (D : va_G) (y : Nat → ClassId) (q : Nat → Nat) (sz : Nat) (F : Nat) {v1 : Int32} {t_ch : Nat → Int32} {t_len : Int32} {t_at : Int32} {t_ls : Int32} {t_fa : Int32} {z : Int32 × (Nat → Int32) × Int32} (hm : f_X4_append F v1 t_ch t_len = some z) : Met l yX4_append wsX4_append ({ frames := 0, cells := 0, slots := 0, locals := 0 } : Room) (va_Pc [.ref (q 0), .int v1] (cP D y (wdX4 q y t_ch t_len t_at t_ls t_fa) sz)) (QI D y (va_A (wdX4 q y t_ch t_len t_at t_ls t_fa) sz) (z.1) (wdX4 q y (z.2.1) (z.2.2) t_at t_ls t_fa)) 0 0 (va_A (wdX4 q y t_ch t_len t_at t_ls t_fa) sz) := by
  refine met_of (own := RX4) (cc := cX4_append) (maxL := 3) (ret := (some .boolean)) (by decide) rfl rfl (Nat.le_of_ble_eq_true rfl) ?_
  intro p e s m below meth c ls C hsz hK hP hD hA hS hl
  obtain ⟨⟨hx, hb, hml, hown, hts⟩, hr, hlocks⟩ := id C
  have hl : lv_has ls 3 [(0, .ref (q 0)), (1, .int v1)] := hl
  generalize va_A (wdX4 q y t_ch t_len t_at t_ls t_fa) sz = A at hD hA hS ⊢
  generalize ([.ref (q 0), .int v1] : List Value).toArray = args at C hts ⊢
  unfold f_X4_append at hm
  refine lv_iload_n hx hb dX4_append_0 rfl (lv_at hl 1 rfl) ?_
  refine lv_bipush (v := (10 : Int32)) hx hb dX4_append_1 (by decide) ?_
  refine lv_icmp_eq (tgt := 18) hx hb dX4_append_3 (by decide) (fun h_1 => ?_) (fun h_1 => ?_)
  · have hm := it_of hm h_1
    refine lv_iconst (v := (1 : Int32)) hx hb dX4_append_18 (by decide) ?_
    refine lv_goto (tgt := 23) hx hb dX4_append_19 (by decide) ?_
    exact k_X4_append_23 C hA hK F v1 (1 : Int32) t_ch t_len _ _ _ hm hP hD hS (lv_sub hl [0, 1] rfl)
  · have hm := ie_of hm h_1
    refine lv_iload_n hx hb dX4_append_6 rfl (lv_at hl 1 rfl) ?_
    refine lv_bipush (v := (32 : Int32)) hx hb dX4_append_7 (by decide) ?_
    refine lv_icmp_lt (tgt := 22) hx hb dX4_append_9 (by decide) (fun h_2 => ?_) (fun h_2 => ?_)
    · have hm := it_of hm h_2
      refine lv_iconst (v := (0 : Int32)) hx hb dX4_append_22 (by decide) ?_
      exact k_X4_append_23 C hA hK F v1 (0 : Int32) t_ch t_len _ _ _ hm hP hD hS (lv_sub hl [0, 1] rfl)
    · have hm := ie_of hm h_2
      refine lv_iload_n hx hb dX4_append_12 rfl (lv_at hl 1 rfl) ?_
      refine lv_bipush (v := (126 : Int32)) hx hb dX4_append_13 (by decide) ?_
      refine lv_icmp_gt (tgt := 22) hx hb dX4_append_15 (by decide) (fun h_3 => ?_) (fun h_3 => ?_)
      · have hm := it_of hm h_3
        refine lv_iconst (v := (0 : Int32)) hx hb dX4_append_22 (by decide) ?_
        exact k_X4_append_23 C hA hK F v1 (0 : Int32) t_ch t_len _ _ _ hm hP hD hS (lv_sub hl [0, 1] rfl)
      · have hm := ie_of hm h_3
        refine lv_iconst (v := (1 : Int32)) hx hb dX4_append_18 (by decide) ?_
        refine lv_goto (tgt := 23) hx hb dX4_append_19 (by decide) ?_
        exact k_X4_append_23 C hA hK F v1 (1 : Int32) t_ch t_len _ _ _ hm hP hD hS (lv_sub hl [0, 1] rfl)
def f_X4_characterAt (F : Nat) (v1 : Int32) (t_ch : Nat → Int32) (t_len : Int32) : Option (Int32) := (if v1 < 0 then some (-1 : Int32) else (if t_len ≤ v1 then some (-1 : Int32) else (if (3000 : Int32) ≤ v1 then some (-1 : Int32) else mg (inb v1 3000) (some (t_ch (v1).toNatClampNeg)))))
set_option maxRecDepth 20000 in
theorem n_X4_characterAt_X4 : ∀ w ∈ wsX40, w ∈ wsX4_characterAt := by decide +kernel
set_option maxRecDepth 20000 in
theorem w_X4_characterAt_f15 : Cond.fieldLink RX4 15 "LayerStacks$TextReader" "length" "I" ∈ wsX4_characterAt := by decide +kernel
set_option maxRecDepth 20000 in
theorem w_X4_characterAt_f9 : Cond.fieldLink RX4 9 "LayerStacks$TextReader" "characters" "[C" ∈ wsX4_characterAt := by decide +kernel
set_option maxHeartbeats 4000000 in
set_option maxRecDepth 100000 in
theorem c_X4_characterAt (l : Launch) (D : va_G) (y : Nat → ClassId) (q : Nat → Nat) (sz : Nat) (F : Nat) {v1 : Int32} {t_ch : Nat → Int32} {t_len : Int32} {t_at : Int32} {t_ls : Int32} {t_fa : Int32} {z : Int32} (hm : f_X4_characterAt F v1 t_ch t_len = some z) : Met l yX4_characterAt wsX4_characterAt ({ frames := 0, cells := 0, slots := 0, locals := 0 } : Room) (va_Pc [.ref (q 0), .int v1] (cP D y (wdX4 q y t_ch t_len t_at t_ls t_fa) sz)) (QI D y (va_A (wdX4 q y t_ch t_len t_at t_ls t_fa) sz) (z) (wdX4 q y t_ch t_len t_at t_ls t_fa)) 0 0 (va_A (wdX4 q y t_ch t_len t_at t_ls t_fa) sz) := by
  refine met_of (own := RX4) (cc := cX4_characterAt) (maxL := 2) (ret := (some .int)) (by decide) rfl rfl (Nat.le_of_ble_eq_true rfl) ?_
  intro p e s m below meth c ls C hsz hK hP hD hA hS hl
  obtain ⟨⟨hx, hb, hml, hown, hts⟩, hr, hlocks⟩ := id C
  have hl : lv_has ls 2 [(0, .ref (q 0)), (1, .int v1)] := hl
  generalize va_A (wdX4 q y t_ch t_len t_at t_ls t_fa) sz = A at hD hA hS ⊢
  generalize ([.ref (q 0), .int v1] : List Value).toArray = args at C hts ⊢
  unfold f_X4_characterAt at hm
  refine lv_iload_n hx hb dX4_characterAt_0 rfl (lv_at hl 1 rfl) ?_
  refine lv_if_lt (tgt := 28) hx hb dX4_characterAt_1 (by decide) (fun h_1 => ?_) (fun h_1 => ?_)
  · have hm := it_of hm h_1
    refine lv_iconst (v := (-1 : Int32)) hx hb dX4_characterAt_28 (by decide) ?_
    have hz := Option.some.inj hm
    subst hz
    exact end_i C hK hP hD hS dX4_characterAt_29
  · have hm := ie_of hm h_1
    refine lv_iload_n hx hb dX4_characterAt_4 rfl (lv_at hl 1 rfl) ?_
    refine lv_aload_n hx hb dX4_characterAt_5 rfl (lv_at hl 0 rfl) ?_
    refine va_get (D := D) (ci := 4) (v := .int t_len) (C := RX4) (T := TX4) (N := 5) hx hb hts n_X4_characterAt_X4 hown hK hP 0 rfl rfl 1 (by decide) (hts _ w_X4_characterAt_f15) (fun _ h9 => h9) rfl dX4_characterAt_6 ?_
    refine lv_icmp_ge (tgt := 28) hx hb dX4_characterAt_9 (by decide) (fun h_2 => ?_) (fun h_2 => ?_)
    · have hm := it_of hm h_2
      refine lv_iconst (v := (-1 : Int32)) hx hb dX4_characterAt_28 (by decide) ?_
      have hz := Option.some.inj hm
      subst hz
      exact end_i C hK hP hD hS dX4_characterAt_29
    · have hm := ie_of hm h_2
      refine lv_iload_n hx hb dX4_characterAt_12 rfl (lv_at hl 1 rfl) ?_
      refine lv_sipush (v := (3000 : Int32)) hx hb dX4_characterAt_13 (by decide) ?_
      refine lv_icmp_ge (tgt := 28) hx hb dX4_characterAt_16 (by decide) (fun h_3 => ?_) (fun h_3 => ?_)
      · have hm := it_of hm h_3
        refine lv_iconst (v := (-1 : Int32)) hx hb dX4_characterAt_28 (by decide) ?_
        have hz := Option.some.inj hm
        subst hz
        exact end_i C hK hP hD hS dX4_characterAt_29
      · have hm := ie_of hm h_3
        refine lv_aload_n hx hb dX4_characterAt_19 rfl (lv_at hl 0 rfl) ?_
        refine va_get (D := D) (ci := 4) (v := .ref (q 1)) (C := RX4) (T := TX4) (N := 5) hx hb hts n_X4_characterAt_X4 hown hK hP 0 rfl rfl 0 (by decide) (hts _ w_X4_characterAt_f9) (fun _ h9 => h9) rfl dX4_characterAt_20 ?_
        refine lv_iload_n hx hb dX4_characterAt_23 rfl (lv_at hl 1 rfl) ?_
        obtain ⟨hg_4, hm⟩ := mg_of hm
        refine va_cald hx hb hK hP 1 2 rfl rfl hg_4 dX4_characterAt_24 ?_
        refine lv_goto (tgt := 29) hx hb dX4_characterAt_25 (by decide) ?_
        have hz := Option.some.inj hm
        subst hz
        exact end_i C hK hP hD hS dX4_characterAt_29
def f_X4_faultAt (F : Nat) (v1 : Int32) (t_fa : Int32) : Option (Int32 × Int32) := some ((0 : Int32), v1)
set_option maxRecDepth 20000 in
theorem n_X4_faultAt_X4 : ∀ w ∈ wsX40, w ∈ wsX4_faultAt := by decide +kernel
set_option maxRecDepth 20000 in
theorem w_X4_faultAt_f27 : Cond.fieldLink RX4 27 "LayerStacks$TextReader" "fault" "I" ∈ wsX4_faultAt := by decide +kernel
set_option maxHeartbeats 4000000 in
set_option maxRecDepth 100000 in
theorem c_X4_faultAt (l : Launch) (D : va_G) (y : Nat → ClassId) (q : Nat → Nat) (sz : Nat) (F : Nat) {v1 : Int32} {t_ch : Nat → Int32} {t_len : Int32} {t_at : Int32} {t_ls : Int32} {t_fa : Int32} {z : Int32 × Int32} (hm : f_X4_faultAt F v1 t_fa = some z) : Met l yX4_faultAt wsX4_faultAt ({ frames := 0, cells := 0, slots := 0, locals := 0 } : Room) (va_Pc [.ref (q 0), .int v1] (cP D y (wdX4 q y t_ch t_len t_at t_ls t_fa) sz)) (QI D y (va_A (wdX4 q y t_ch t_len t_at t_ls t_fa) sz) (z.1) (wdX4 q y t_ch t_len t_at t_ls (z.2))) 0 0 (va_A (wdX4 q y t_ch t_len t_at t_ls t_fa) sz) := by
  refine met_of (own := RX4) (cc := cX4_faultAt) (maxL := 2) (ret := (some .boolean)) (by decide) rfl rfl (Nat.le_of_ble_eq_true rfl) ?_
  intro p e s m below meth c ls C hsz hK hP hD hA hS hl
  obtain ⟨⟨hx, hb, hml, hown, hts⟩, hr, hlocks⟩ := id C
  have hl : lv_has ls 2 [(0, .ref (q 0)), (1, .int v1)] := hl
  generalize va_A (wdX4 q y t_ch t_len t_at t_ls t_fa) sz = A at hD hA hS ⊢
  generalize ([.ref (q 0), .int v1] : List Value).toArray = args at C hts ⊢
  unfold f_X4_faultAt at hm
  refine lv_aload_n hx hb dX4_faultAt_0 rfl (lv_at hl 0 rfl) ?_
  refine lv_iload_n hx hb dX4_faultAt_1 rfl (lv_at hl 1 rfl) ?_
  refine va_put (D := D) (ci := 4) (v := .int v1) (ty := .int) (C := RX4) (T := TX4) (N := 5) hx hb hts n_X4_faultAt_X4 tyX4 tyX4_ok nmX4 hown hK hP hD hS 0 rfl rfl 4 (by decide) (hts _ w_X4_faultAt_f27) (fun _ h9 => h9) rfl (by decide +kernel) rfl rfl (Nat.le_of_ble_eq_true rfl) dX4_faultAt_2 (fun H locs hP hD hS => ?_)
  have hP : va_P D vwCl (wdX4 q y t_ch t_len t_at t_ls v1) H := hP
  have hD : va_D A (wdX4 q y t_ch t_len t_at t_ls v1) := hD
  refine lv_iconst (v := (0 : Int32)) hx hb dX4_faultAt_5 (by decide) ?_
  have hz := Option.some.inj hm
  subst hz
  exact end_z C hK hP hD hS (show vp_nar .boolean (0 : Int32) = (0 : Int32) from by decide) dX4_faultAt_6
def f_X4_expect (F : Nat) (v1 : Int32) (t_ch : Nat → Int32) (t_len : Int32) (t_at : Int32) (t_fa : Int32) : Option (Int32 × Int32 × Int32) := mb1 (f_X4_characterAt F t_at t_ch t_len) (fun r_1 => (if r_1 = v1 then some ((1 : Int32), (t_at + (1 : Int32)), t_fa) else mb2 (f_X4_faultAt F t_at t_fa) (fun r_4 t_fa_5 => mg (vp_nar .boolean r_4 = r_4) (some (r_4, t_at, t_fa_5)))))
set_option maxRecDepth 20000 in
theorem n_X4_expect_X4 : ∀ w ∈ wsX40, w ∈ wsX4_expect := by decide +kernel
set_option maxRecDepth 20000 in
theorem w_X4_expect_f24 : Cond.fieldLink RX4 24 "LayerStacks$TextReader" "at" "I" ∈ wsX4_expect := by decide +kernel
set_option maxHeartbeats 4000000 in
set_option maxRecDepth 100000 in
theorem c_X4_expect (l : Launch) (D : va_G) (y : Nat → ClassId) (q : Nat → Nat) (sz : Nat) (F : Nat) {v1 : Int32} {t_ch : Nat → Int32} {t_len : Int32} {t_at : Int32} {t_ls : Int32} {t_fa : Int32} {z : Int32 × Int32 × Int32} (hm : f_X4_expect F v1 t_ch t_len t_at t_fa = some z) : Met l yX4_expect wsX4_expect ({ frames := 1, cells := 0, slots := 0, locals := 21 } : Room) (va_Pc [.ref (q 0), .int v1] (cP D y (wdX4 q y t_ch t_len t_at t_ls t_fa) sz)) (QI D y (va_A (wdX4 q y t_ch t_len t_at t_ls t_fa) sz) (z.1) (wdX4 q y t_ch t_len (z.2.1) t_ls (z.2.2))) 0 0 (va_A (wdX4 q y t_ch t_len t_at t_ls t_fa) sz) := by
  refine met_of (own := RX4) (cc := cX4_expect) (maxL := 2) (ret := (some .boolean)) (by decide) rfl rfl (Nat.le_of_ble_eq_true rfl) ?_
  intro p e s m below meth c ls C hsz hK hP hD hA hS hl
  obtain ⟨⟨hx, hb, hml, hown, hts⟩, hr, hlocks⟩ := id C
  have hl : lv_has ls 2 [(0, .ref (q 0)), (1, .int v1)] := hl
  generalize va_A (wdX4 q y t_ch t_len t_at t_ls t_fa) sz = A at hD hA hS ⊢
  generalize ([.ref (q 0), .int v1] : List Value).toArray = args at C hts ⊢
  unfold f_X4_expect at hm
  refine lv_aload_n hx hb dX4_expect_0 rfl (lv_at hl 0 rfl) ?_
  refine lv_aload_n hx hb dX4_expect_1 rfl (lv_at hl 0 rfl) ?_
  refine va_get (D := D) (ci := 4) (v := .int t_at) (C := RX4) (T := TX4) (N := 5) hx hb hts n_X4_expect_X4 hown hK hP 0 rfl rfl 2 (by decide) (hts _ w_X4_expect_f24) (fun _ h9 => h9) rfl dX4_expect_2 ?_
  obtain ⟨r_1, hc_2, hm⟩ := mb1_of hm
  refine call_vi (wc := (wdX4 q y t_ch t_len t_at t_ls t_fa)) (wr := []) (As := [.int t_at]) (rest := []) C (c_X4_characterAt l D y q _ F hc_2) (cwV 1 hts gX4_expect_X4_characterAt rfl rfl rfl (by decide +kernel) ⟨Nat.le_of_ble_eq_true rfl, Nat.le_of_ble_eq_true rfl⟩) hK hP hD hS hA [0, 1] [] rfl rfl rfl rfl rfl (by decide) rfl rfl rfl rfl hl.1 (Nat.le_of_ble_eq_true rfl) dX4_expect_5 (fun H locs hP hD hS => ?_)
  have hP : va_P D vwCl (wdX4 q y t_ch t_len t_at t_ls t_fa) H := hP
  have hD : va_D A (wdX4 q y t_ch t_len t_at t_ls t_fa) := hD
  refine lv_iload_n hx hb dX4_expect_8 rfl (lv_at hl 1 rfl) ?_
  refine lv_icmp_eq (tgt := 21) hx hb dX4_expect_9 (by decide) (fun h_3 => ?_) (fun h_3 => ?_)
  · have hm := it_of hm h_3
    refine lv_aload_n hx hb dX4_expect_21 rfl (lv_at hl 0 rfl) ?_
    refine lv_dup hx hb dX4_expect_22 rfl ?_
    refine va_get (D := D) (ci := 4) (v := .int t_at) (C := RX4) (T := TX4) (N := 5) hx hb hts n_X4_expect_X4 hown hK hP 0 rfl rfl 2 (by decide) (hts _ w_X4_expect_f24) (fun _ h9 => h9) rfl dX4_expect_23 ?_
    refine lv_iconst (v := (1 : Int32)) hx hb dX4_expect_26 (by decide) ?_
    refine lv_iadd hx hb dX4_expect_27 ?_
    refine va_put (D := D) (ci := 4) (v := .int (t_at + (1 : Int32))) (ty := .int) (C := RX4) (T := TX4) (N := 5) hx hb hts n_X4_expect_X4 tyX4 tyX4_ok nmX4 hown hK hP hD hS 0 rfl rfl 2 (by decide) (hts _ w_X4_expect_f24) (fun _ h9 => h9) rfl (by decide +kernel) rfl rfl (Nat.le_of_ble_eq_true rfl) dX4_expect_28 (fun H locs hP hD hS => ?_)
    have hP : va_P D vwCl (wdX4 q y t_ch t_len (t_at + (1 : Int32)) t_ls t_fa) H := hP
    have hD : va_D A (wdX4 q y t_ch t_len (t_at + (1 : Int32)) t_ls t_fa) := hD
    refine lv_iconst (v := (1 : Int32)) hx hb dX4_expect_31 (by decide) ?_
    have hz := Option.some.inj hm
    subst hz
    exact end_z C hK hP hD hS (show vp_nar .boolean (1 : Int32) = (1 : Int32) from by decide) dX4_expect_32
  · have hm := ie_of hm h_3
    refine lv_aload_n hx hb dX4_expect_12 rfl (lv_at hl 0 rfl) ?_
    refine lv_aload_n hx hb dX4_expect_13 rfl (lv_at hl 0 rfl) ?_
    refine va_get (D := D) (ci := 4) (v := .int t_at) (C := RX4) (T := TX4) (N := 5) hx hb hts n_X4_expect_X4 hown hK hP 0 rfl rfl 2 (by decide) (hts _ w_X4_expect_f24) (fun _ h9 => h9) rfl dX4_expect_14 ?_
    obtain ⟨r_4, t_fa_5, hc_6, hm⟩ := mb2_of hm
    refine call_vi (wc := (wdX4 q y t_ch t_len t_at t_ls t_fa)) (wr := []) (As := [.int t_at]) (rest := []) C (c_X4_faultAt l D y q _ F hc_6) (cwV 1 hts gX4_expect_X4_faultAt rfl rfl rfl (by decide +kernel) ⟨Nat.le_of_ble_eq_true rfl, Nat.le_of_ble_eq_true rfl⟩) hK hP hD hS hA [0, 1] [] rfl rfl rfl rfl rfl (by decide) rfl rfl rfl rfl hl.1 (Nat.le_of_ble_eq_true rfl) dX4_expect_17 (fun H locs hP hD hS => ?_)
    have hP : va_P D vwCl (wdX4 q y t_ch t_len t_at t_ls t_fa_5) H := hP
    have hD : va_D A (wdX4 q y t_ch t_len t_at t_ls t_fa_5) := hD
    obtain ⟨hg_7, hm⟩ := mg_of hm
    have hz := Option.some.inj hm
    subst hz
    exact end_z C hK hP hD hS hg_7 dX4_expect_20
def f_X4_forget (F : Nat) (t_len : Int32) : Option (Int32) := some (0 : Int32)
set_option maxRecDepth 20000 in
theorem n_X4_forget_X4 : ∀ w ∈ wsX40, w ∈ wsX4_forget := by decide +kernel
set_option maxRecDepth 20000 in
theorem w_X4_forget_f15 : Cond.fieldLink RX4 15 "LayerStacks$TextReader" "length" "I" ∈ wsX4_forget := by decide +kernel
set_option maxHeartbeats 4000000 in
set_option maxRecDepth 100000 in
theorem c_X4_forget (l : Launch) (D : va_G) (y : Nat → ClassId) (q : Nat → Nat) (sz : Nat) (F : Nat) {t_ch : Nat → Int32} {t_len : Int32} {t_at : Int32} {t_ls : Int32} {t_fa : Int32} {z : Int32} (hm : f_X4_forget F t_len = some z) : Met l yX4_forget wsX4_forget ({ frames := 0, cells := 0, slots := 0, locals := 0 } : Room) (va_Pc [.ref (q 0)] (cP D y (wdX4 q y t_ch t_len t_at t_ls t_fa) sz)) (QV D y (va_A (wdX4 q y t_ch t_len t_at t_ls t_fa) sz) (wdX4 q y t_ch z t_at t_ls t_fa)) 0 0 (va_A (wdX4 q y t_ch t_len t_at t_ls t_fa) sz) := by
  refine met_of (own := RX4) (cc := cX4_forget) (maxL := 1) (ret := none) (by decide) rfl rfl (Nat.le_of_ble_eq_true rfl) ?_
  intro p e s m below meth c ls C hsz hK hP hD hA hS hl
  obtain ⟨⟨hx, hb, hml, hown, hts⟩, hr, hlocks⟩ := id C
  have hl : lv_has ls 1 [(0, .ref (q 0))] := hl
  generalize va_A (wdX4 q y t_ch t_len t_at t_ls t_fa) sz = A at hD hA hS ⊢
  generalize ([.ref (q 0)] : List Value).toArray = args at C hts ⊢
  unfold f_X4_forget at hm
  refine lv_aload_n hx hb dX4_forget_0 rfl (lv_at hl 0 rfl) ?_
  refine lv_iconst (v := (0 : Int32)) hx hb dX4_forget_1 (by decide) ?_
  refine va_put (D := D) (ci := 4) (v := .int (0 : Int32)) (ty := .int) (C := RX4) (T := TX4) (N := 5) hx hb hts n_X4_forget_X4 tyX4 tyX4_ok nmX4 hown hK hP hD hS 0 rfl rfl 1 (by decide) (hts _ w_X4_forget_f15) (fun _ h9 => h9) rfl (by decide +kernel) rfl rfl (Nat.le_of_ble_eq_true rfl) dX4_forget_2 (fun H locs hP hD hS => ?_)
  have hP : va_P D vwCl (wdX4 q y t_ch (0 : Int32) t_at t_ls t_fa) H := hP
  have hD : va_D A (wdX4 q y t_ch (0 : Int32) t_at t_ls t_fa) := hD
  have hz := Option.some.inj hm
  subst hz
  exact end_v C hK hP hD hS dX4_forget_5
def f_X4_isDigit (F : Nat) (v0 : Int32) : Option (Int32) := (if v0 < (48 : Int32) then some (0 : Int32) else (if (57 : Int32) < v0 then some (0 : Int32) else some (1 : Int32)))
set_option maxHeartbeats 4000000 in
set_option maxRecDepth 100000 in
theorem c_X4_isDigit (l : Launch) (D : va_G) (y : Nat → ClassId) (sz : Nat) (F : Nat) {v0 : Int32} {z : Int32} (hm : f_X4_isDigit F v0 = some z) : Met l yX4_isDigit wsX4_isDigit ({ frames := 0, cells := 0, slots := 0, locals := 0 } : Room) (va_Pc [.int v0] (cP D y ([] : va_W) sz)) (QI D y (va_A ([] : va_W) sz) (z) ([] : va_W)) 0 0 (va_A ([] : va_W) sz) := by
  refine met_of (own := RX4) (cc := cX4_isDigit) (maxL := 1) (ret := (some .boolean)) (by decide) rfl rfl (Nat.le_of_ble_eq_true rfl) ?_
  intro p e s m below meth c ls C hsz hK hP hD hA hS hl
  obtain ⟨⟨hx, hb, hml, hown, hts⟩, hr, hlocks⟩ := id C
  have hl : lv_has ls 1 [(0, .int v0)] := hl
  generalize va_A ([] : va_W) sz = A at hD hA hS ⊢
  generalize ([.int v0] : List Value).toArray = args at C hts ⊢
  unfold f_X4_isDigit at hm
  refine lv_iload_n hx hb dX4_isDigit_0 rfl (lv_at hl 0 rfl) ?_
  refine lv_bipush (v := (48 : Int32)) hx hb dX4_isDigit_1 (by decide) ?_
  refine lv_icmp_lt (tgt := 16) hx hb dX4_isDigit_3 (by decide) (fun h_1 => ?_) (fun h_1 => ?_)
  · have hm := it_of hm h_1
    refine lv_iconst (v := (0 : Int32)) hx hb dX4_isDigit_16 (by decide) ?_
    have hz := Option.some.inj hm
    subst hz
    exact end_z C hK hP hD hS (show vp_nar .boolean (0 : Int32) = (0 : Int32) from by decide) dX4_isDigit_17
  · have hm := ie_of hm h_1
    refine lv_iload_n hx hb dX4_isDigit_6 rfl (lv_at hl 0 rfl) ?_
    refine lv_bipush (v := (57 : Int32)) hx hb dX4_isDigit_7 (by decide) ?_
    refine lv_icmp_gt (tgt := 16) hx hb dX4_isDigit_9 (by decide) (fun h_2 => ?_) (fun h_2 => ?_)
    · have hm := it_of hm h_2
      refine lv_iconst (v := (0 : Int32)) hx hb dX4_isDigit_16 (by decide) ?_
      have hz := Option.some.inj hm
      subst hz
      exact end_z C hK hP hD hS (show vp_nar .boolean (0 : Int32) = (0 : Int32) from by decide) dX4_isDigit_17
    · have hm := ie_of hm h_2
      refine lv_iconst (v := (1 : Int32)) hx hb dX4_isDigit_12 (by decide) ?_
      refine lv_goto (tgt := 17) hx hb dX4_isDigit_13 (by decide) ?_
      have hz := Option.some.inj hm
      subst hz
      exact end_z C hK hP hD hS (show vp_nar .boolean (1 : Int32) = (1 : Int32) from by decide) dX4_isDigit_17
def f_X4_isLetterOrDigit (F : Nat) (v0 : Int32) : Option (Int32) := mb1 (f_X4_isDigit F v0) (fun r_1 => (if r_1 = 0 then (if v0 < (97 : Int32) then (if v0 < (65 : Int32) then some (0 : Int32) else (if (90 : Int32) < v0 then some (0 : Int32) else some (1 : Int32))) else (if v0 ≤ (122 : Int32) then some (1 : Int32) else (if v0 < (65 : Int32) then some (0 : Int32) else (if (90 : Int32) < v0 then some (0 : Int32) else some (1 : Int32))))) else some (1 : Int32)))
set_option maxHeartbeats 4000000 in
set_option maxRecDepth 100000 in
theorem c_X4_isLetterOrDigit (l : Launch) (D : va_G) (y : Nat → ClassId) (sz : Nat) (F : Nat) {v0 : Int32} {z : Int32} (hm : f_X4_isLetterOrDigit F v0 = some z) : Met l yX4_isLetterOrDigit wsX4_isLetterOrDigit ({ frames := 1, cells := 0, slots := 0, locals := 20 } : Room) (va_Pc [.int v0] (cP D y ([] : va_W) sz)) (QI D y (va_A ([] : va_W) sz) (z) ([] : va_W)) 0 0 (va_A ([] : va_W) sz) := by
  refine met_of (own := RX4) (cc := cX4_isLetterOrDigit) (maxL := 1) (ret := (some .boolean)) (by decide) rfl rfl (Nat.le_of_ble_eq_true rfl) ?_
  intro p e s m below meth c ls C hsz hK hP hD hA hS hl
  obtain ⟨⟨hx, hb, hml, hown, hts⟩, hr, hlocks⟩ := id C
  have hl : lv_has ls 1 [(0, .int v0)] := hl
  generalize va_A ([] : va_W) sz = A at hD hA hS ⊢
  generalize ([.int v0] : List Value).toArray = args at C hts ⊢
  unfold f_X4_isLetterOrDigit at hm
  refine lv_iload_n hx hb dX4_isLetterOrDigit_0 rfl (lv_at hl 0 rfl) ?_
  obtain ⟨r_1, hc_2, hm⟩ := mb1_of hm
  refine call_si (wc := ([] : va_W)) (wr := []) (As := [.int v0]) (rest := []) C (c_X4_isDigit l D y _ F hc_2) (va_cwS 1 hts gX4_isLetterOrDigit_X4_isDigit rfl rfl rfl (by decide +kernel) ⟨Nat.le_of_ble_eq_true rfl, Nat.le_of_ble_eq_true rfl⟩) hK hP hD hS hA [] [] rfl rfl rfl rfl rfl (by decide) rfl hl.1 (Nat.le_of_ble_eq_true rfl) dX4_isLetterOrDigit_1 (fun H locs hP hD hS => ?_)
  have hP : va_P D vwCl ([] : va_W) H := hP
  have hD : va_D A ([] : va_W) := hD
  refine lv_if_ne (tgt := 31) hx hb dX4_isLetterOrDigit_4 (by decide) (fun h_3 => ?_) (fun h_3 => ?_)
  · have hm := ie_of hm h_3
    refine lv_iconst (v := (1 : Int32)) hx hb dX4_isLetterOrDigit_31 (by decide) ?_
    refine lv_goto (tgt := 36) hx hb dX4_isLetterOrDigit_32 (by decide) ?_
    have hz := Option.some.inj hm
    subst hz
    exact end_z C hK hP hD hS (show vp_nar .boolean (1 : Int32) = (1 : Int32) from by decide) dX4_isLetterOrDigit_36
  · have hm := it_of hm h_3
    refine lv_iload_n hx hb dX4_isLetterOrDigit_7 rfl (lv_at hl 0 rfl) ?_
    refine lv_bipush (v := (97 : Int32)) hx hb dX4_isLetterOrDigit_8 (by decide) ?_
    refine lv_icmp_lt (tgt := 19) hx hb dX4_isLetterOrDigit_10 (by decide) (fun h_4 => ?_) (fun h_4 => ?_)
    · have hm := it_of hm h_4
      refine lv_iload_n hx hb dX4_isLetterOrDigit_19 rfl (lv_at hl 0 rfl) ?_
      refine lv_bipush (v := (65 : Int32)) hx hb dX4_isLetterOrDigit_20 (by decide) ?_
      refine lv_icmp_lt (tgt := 35) hx hb dX4_isLetterOrDigit_22 (by decide) (fun h_5 => ?_) (fun h_5 => ?_)
      · have hm := it_of hm h_5
        refine lv_iconst (v := (0 : Int32)) hx hb dX4_isLetterOrDigit_35 (by decide) ?_
        have hz := Option.some.inj hm
        subst hz
        exact end_z C hK hP hD hS (show vp_nar .boolean (0 : Int32) = (0 : Int32) from by decide) dX4_isLetterOrDigit_36
      · have hm := ie_of hm h_5
        refine lv_iload_n hx hb dX4_isLetterOrDigit_25 rfl (lv_at hl 0 rfl) ?_
        refine lv_bipush (v := (90 : Int32)) hx hb dX4_isLetterOrDigit_26 (by decide) ?_
        refine lv_icmp_gt (tgt := 35) hx hb dX4_isLetterOrDigit_28 (by decide) (fun h_6 => ?_) (fun h_6 => ?_)
        · have hm := it_of hm h_6
          refine lv_iconst (v := (0 : Int32)) hx hb dX4_isLetterOrDigit_35 (by decide) ?_
          have hz := Option.some.inj hm
          subst hz
          exact end_z C hK hP hD hS (show vp_nar .boolean (0 : Int32) = (0 : Int32) from by decide) dX4_isLetterOrDigit_36
        · have hm := ie_of hm h_6
          refine lv_iconst (v := (1 : Int32)) hx hb dX4_isLetterOrDigit_31 (by decide) ?_
          refine lv_goto (tgt := 36) hx hb dX4_isLetterOrDigit_32 (by decide) ?_
          have hz := Option.some.inj hm
          subst hz
          exact end_z C hK hP hD hS (show vp_nar .boolean (1 : Int32) = (1 : Int32) from by decide) dX4_isLetterOrDigit_36
    · have hm := ie_of hm h_4
      refine lv_iload_n hx hb dX4_isLetterOrDigit_13 rfl (lv_at hl 0 rfl) ?_
      refine lv_bipush (v := (122 : Int32)) hx hb dX4_isLetterOrDigit_14 (by decide) ?_
      refine lv_icmp_le (tgt := 31) hx hb dX4_isLetterOrDigit_16 (by decide) (fun h_7 => ?_) (fun h_7 => ?_)
      · have hm := it_of hm h_7
        refine lv_iconst (v := (1 : Int32)) hx hb dX4_isLetterOrDigit_31 (by decide) ?_
        refine lv_goto (tgt := 36) hx hb dX4_isLetterOrDigit_32 (by decide) ?_
        have hz := Option.some.inj hm
        subst hz
        exact end_z C hK hP hD hS (show vp_nar .boolean (1 : Int32) = (1 : Int32) from by decide) dX4_isLetterOrDigit_36
      · have hm := ie_of hm h_7
        refine lv_iload_n hx hb dX4_isLetterOrDigit_19 rfl (lv_at hl 0 rfl) ?_
        refine lv_bipush (v := (65 : Int32)) hx hb dX4_isLetterOrDigit_20 (by decide) ?_
        refine lv_icmp_lt (tgt := 35) hx hb dX4_isLetterOrDigit_22 (by decide) (fun h_8 => ?_) (fun h_8 => ?_)
        · have hm := it_of hm h_8
          refine lv_iconst (v := (0 : Int32)) hx hb dX4_isLetterOrDigit_35 (by decide) ?_
          have hz := Option.some.inj hm
          subst hz
          exact end_z C hK hP hD hS (show vp_nar .boolean (0 : Int32) = (0 : Int32) from by decide) dX4_isLetterOrDigit_36
        · have hm := ie_of hm h_8
          refine lv_iload_n hx hb dX4_isLetterOrDigit_25 rfl (lv_at hl 0 rfl) ?_
          refine lv_bipush (v := (90 : Int32)) hx hb dX4_isLetterOrDigit_26 (by decide) ?_
          refine lv_icmp_gt (tgt := 35) hx hb dX4_isLetterOrDigit_28 (by decide) (fun h_9 => ?_) (fun h_9 => ?_)
          · have hm := it_of hm h_9
            refine lv_iconst (v := (0 : Int32)) hx hb dX4_isLetterOrDigit_35 (by decide) ?_
            have hz := Option.some.inj hm
            subst hz
            exact end_z C hK hP hD hS (show vp_nar .boolean (0 : Int32) = (0 : Int32) from by decide) dX4_isLetterOrDigit_36
          · have hm := ie_of hm h_9
            refine lv_iconst (v := (1 : Int32)) hx hb dX4_isLetterOrDigit_31 (by decide) ?_
            refine lv_goto (tgt := 36) hx hb dX4_isLetterOrDigit_32 (by decide) ?_
            have hz := Option.some.inj hm
            subst hz
            exact end_z C hK hP hD hS (show vp_nar .boolean (1 : Int32) = (1 : Int32) from by decide) dX4_isLetterOrDigit_36
def g_X4_readName_60 (F : Nat) (v1 : Int32) (v2 : Int64) (t_ch : Nat → Int32) (t_len : Int32) (t_at : Int32) (t_fa : Int32) : Option (Int64 × Int32 × Int32) := (if t_at = v1 then mb2 (f_X4_faultAt F t_at t_fa) (fun r_2 t_fa_3 => some ((0 : Int64), t_at, t_fa_3)) else mb1 (f_X4_characterAt F t_at t_ch t_len) (fun r_5 => mb1 (f_X4_isLetterOrDigit F r_5) (fun r_7 => (if r_7 = 0 then some (v2, t_at, t_fa) else mb2 (f_X4_faultAt F t_at t_fa) (fun r_10 t_fa_11 => some ((0 : Int64), t_at, t_fa_11))))))
def g_X4_readName_7 (F : Nat) : Nat → Int32 → Int64 → (Nat → Int32) → Int32 → Int32 → Int32 → Option (Int64 × Int32 × Int32)
  | 0, _, _, _, _, _, _ => none
  | n + 1, v1, v2, t_ch, t_len, t_at, t_fa => (if (8 : Int32) ≤ (t_at - v1) then g_X4_readName_60 F v1 v2 t_ch t_len t_at t_fa else mb1 (f_X4_characterAt F t_at t_ch t_len) (fun r_2 => mb1 (f_X4_isLetterOrDigit F r_2) (fun r_4 => (if r_4 = 0 then g_X4_readName_60 F v1 v2 t_ch t_len t_at t_fa else mb1 (f_X4_characterAt F t_at t_ch t_len) (fun r_7 => mn ((v2 <<< (((7 : Int32)).toInt64 &&& 63)) ||| ((r_7).toInt64)) (fun v2_9 => g_X4_readName_7 F n v1 v2_9 t_ch t_len (t_at + (1 : Int32)) t_fa))))))
theorem g_X4_readName_7_z (F : Nat) (v1 : Int32) (v2 : Int64) (t_ch : Nat → Int32) (t_len : Int32) (t_at : Int32) (t_fa : Int32) : g_X4_readName_7 F 0 v1 v2 t_ch t_len t_at t_fa = none := rfl
theorem g_X4_readName_7_s (F : Nat) (n : Nat) (v1 : Int32) (v2 : Int64) (t_ch : Nat → Int32) (t_len : Int32) (t_at : Int32) (t_fa : Int32) : g_X4_readName_7 F (n + 1) v1 v2 t_ch t_len t_at t_fa = (if (8 : Int32) ≤ (t_at - v1) then g_X4_readName_60 F v1 v2 t_ch t_len t_at t_fa else mb1 (f_X4_characterAt F t_at t_ch t_len) (fun r_2 => mb1 (f_X4_isLetterOrDigit F r_2) (fun r_4 => (if r_4 = 0 then g_X4_readName_60 F v1 v2 t_ch t_len t_at t_fa else mb1 (f_X4_characterAt F t_at t_ch t_len) (fun r_7 => mn ((v2 <<< (((7 : Int32)).toInt64 &&& 63)) ||| ((r_7).toInt64)) (fun v2_9 => g_X4_readName_7 F n v1 v2_9 t_ch t_len (t_at + (1 : Int32)) t_fa)))))) := rfl
def f_X4_readName (F : Nat) (t_ch : Nat → Int32) (t_len : Int32) (t_at : Int32) (t_fa : Int32) : Option (Int64 × Int32 × Int32) := g_X4_readName_7 F F t_at (0 : Int64) t_ch t_len t_at t_fa
set_option maxRecDepth 20000 in
theorem n_X4_readName_X4 : ∀ w ∈ wsX40, w ∈ wsX4_readName := by decide +kernel
set_option maxRecDepth 20000 in
theorem w_X4_readName_f24 : Cond.fieldLink RX4 24 "LayerStacks$TextReader" "at" "I" ∈ wsX4_readName := by decide +kernel
set_option maxHeartbeats 4000000 in
set_option maxRecDepth 100000 in
theorem k_X4_readName_60 {p : Program} {l : Launch} {e : Env} {s : State} {m : MethodId} {args : Array Value} {below : List Frame} {meth : Method} {c : Code} {D : va_G} {y : Nat → ClassId} {A : Nat → Prop} {q : Nat → Nat} {t_ls : Int32} {z : Int64 × Int32 × Int32} (C : CX p s m args meth c wsX4_readName RX4 cX4_readName 4 (some .long)) (hA : ∀ q : Nat, s.heap.size ≤ q → A q) (hK : va_K D vwCl (tyl y) s) (F : Nat) :
    ∀ (v1 : Int32) (v2 : Int64) (t_ch : Nat → Int32) (t_len : Int32) (t_at : Int32) (t_fa : Int32) (H : Heap) (locs : List Loc) (ls : Array Slot), g_X4_readName_60 F v1 v2 t_ch t_len t_at t_fa = some z → va_P D vwCl (wdX4 q y t_ch t_len t_at t_ls t_fa) H → va_D A (wdX4 q y t_ch t_len t_at t_ls t_fa) → va_S A s.heap H locs → lv_has ls 4 [(0, .ref (q 0)), (1, .int v1), (2, .long v2)] → W p l e ({ frames := 2, cells := 0, slots := 0, locals := 40 } : Room) s m args below meth c H locs 0 0 (MQ below (QL D y A (z.1) (wdX4 q y t_ch t_len (z.2.1) t_ls (z.2.2))) args s 0 0 A) (F0 m 60 ls []) := by
  obtain ⟨⟨hx, hb, hml, hown, hts⟩, hr, hlocks⟩ := id C
  intro v1 v2 t_ch t_len t_at t_fa H locs ls hm hP hD hS hl
  unfold g_X4_readName_60 at hm
  refine lv_aload_n hx hb dX4_readName_60 rfl (lv_at hl 0 rfl) ?_
  refine va_get (D := D) (ci := 4) (v := .int t_at) (C := RX4) (T := TX4) (N := 5) hx hb hts n_X4_readName_X4 hown hK hP 0 rfl rfl 2 (by decide) (hts _ w_X4_readName_f24) (fun _ h9 => h9) rfl dX4_readName_61 ?_
  refine lv_iload_n hx hb dX4_readName_64 rfl (lv_at hl 1 rfl) ?_
  refine lv_icmp_eq (tgt := 82) hx hb dX4_readName_65 (by decide) (fun h_1 => ?_) (fun h_1 => ?_)
  · have hm := it_of hm h_1
    refine lv_aload_n hx hb dX4_readName_82 rfl (lv_at hl 0 rfl) ?_
    refine lv_aload_n hx hb dX4_readName_83 rfl (lv_at hl 0 rfl) ?_
    refine va_get (D := D) (ci := 4) (v := .int t_at) (C := RX4) (T := TX4) (N := 5) hx hb hts n_X4_readName_X4 hown hK hP 0 rfl rfl 2 (by decide) (hts _ w_X4_readName_f24) (fun _ h9 => h9) rfl dX4_readName_84 ?_
    obtain ⟨r_2, t_fa_3, hc_4, hm⟩ := mb2_of hm
    refine call_vi (wc := (wdX4 q y t_ch t_len t_at t_ls t_fa)) (wr := []) (As := [.int t_at]) (rest := []) C (c_X4_faultAt l D y q _ F hc_4) (cwV 1 hts gX4_readName_X4_faultAt rfl rfl rfl (by decide +kernel) ⟨Nat.le_of_ble_eq_true rfl, Nat.le_of_ble_eq_true rfl⟩) hK hP hD hS hA [0, 1] [] rfl rfl rfl rfl rfl (by decide) rfl rfl rfl rfl hl.1 (Nat.le_of_ble_eq_true rfl) dX4_readName_87 (fun H locs hP hD hS => ?_)
    have hP : va_P D vwCl (wdX4 q y t_ch t_len t_at t_ls t_fa_3) H := hP
    have hD : va_D A (wdX4 q y t_ch t_len t_at t_ls t_fa_3) := hD
    refine lv_pop hx hb dX4_readName_90 rfl ?_
    refine lv_lconst (v := (0 : Int64)) hx hb dX4_readName_91 (by decide) ?_
    have hz := Option.some.inj hm
    subst hz
    exact end_l C hK hP hD hS dX4_readName_92
  · have hm := ie_of hm h_1
    refine lv_aload_n hx hb dX4_readName_68 rfl (lv_at hl 0 rfl) ?_
    refine lv_aload_n hx hb dX4_readName_69 rfl (lv_at hl 0 rfl) ?_
    refine va_get (D := D) (ci := 4) (v := .int t_at) (C := RX4) (T := TX4) (N := 5) hx hb hts n_X4_readName_X4 hown hK hP 0 rfl rfl 2 (by decide) (hts _ w_X4_readName_f24) (fun _ h9 => h9) rfl dX4_readName_70 ?_
    obtain ⟨r_5, hc_6, hm⟩ := mb1_of hm
    refine call_vi (wc := (wdX4 q y t_ch t_len t_at t_ls t_fa)) (wr := []) (As := [.int t_at]) (rest := []) C (c_X4_characterAt l D y q _ F hc_6) (cwV 1 hts gX4_readName_X4_characterAt rfl rfl rfl (by decide +kernel) ⟨Nat.le_of_ble_eq_true rfl, Nat.le_of_ble_eq_true rfl⟩) hK hP hD hS hA [0, 1] [] rfl rfl rfl rfl rfl (by decide) rfl rfl rfl rfl hl.1 (Nat.le_of_ble_eq_true rfl) dX4_readName_73 (fun H locs hP hD hS => ?_)
    have hP : va_P D vwCl (wdX4 q y t_ch t_len t_at t_ls t_fa) H := hP
    have hD : va_D A (wdX4 q y t_ch t_len t_at t_ls t_fa) := hD
    obtain ⟨r_7, hc_8, hm⟩ := mb1_of hm
    refine call_si (wc := ([] : va_W)) (wr := [(q 0, .inr (4, [.ref (q 1), .int t_len, .int t_at, .int t_ls, .int t_fa])), (q 1, .inl (y 2, 3000, .inl t_ch))]) (As := [.int r_5]) (rest := []) C (c_X4_isLetterOrDigit l D y _ F hc_8) (va_cwS 1 hts gX4_readName_X4_isLetterOrDigit rfl rfl rfl (by decide +kernel) ⟨Nat.le_of_ble_eq_true rfl, Nat.le_of_ble_eq_true rfl⟩) hK hP hD hS hA [] [0, 1] rfl rfl rfl rfl rfl (by decide) rfl hl.1 (Nat.le_of_ble_eq_true rfl) dX4_readName_76 (fun H locs hP hD hS => ?_)
    have hP : va_P D vwCl (wdX4 q y t_ch t_len t_at t_ls t_fa) H := hP
    have hD : va_D A (wdX4 q y t_ch t_len t_at t_ls t_fa) := hD
    refine lv_if_eq (tgt := 93) hx hb dX4_readName_79 (by decide) (fun h_9 => ?_) (fun h_9 => ?_)
    · have hm := it_of hm h_9
      refine lv_lload_n hx hb dX4_readName_93 rfl (lv_at hl 2 rfl) ?_
      have hz := Option.some.inj hm
      subst hz
      exact end_l C hK hP hD hS dX4_readName_94
    · have hm := ie_of hm h_9
      refine lv_aload_n hx hb dX4_readName_82 rfl (lv_at hl 0 rfl) ?_
      refine lv_aload_n hx hb dX4_readName_83 rfl (lv_at hl 0 rfl) ?_
      refine va_get (D := D) (ci := 4) (v := .int t_at) (C := RX4) (T := TX4) (N := 5) hx hb hts n_X4_readName_X4 hown hK hP 0 rfl rfl 2 (by decide) (hts _ w_X4_readName_f24) (fun _ h9 => h9) rfl dX4_readName_84 ?_
      obtain ⟨r_10, t_fa_11, hc_12, hm⟩ := mb2_of hm
      refine call_vi (wc := (wdX4 q y t_ch t_len t_at t_ls t_fa)) (wr := []) (As := [.int t_at]) (rest := []) C (c_X4_faultAt l D y q _ F hc_12) (cwV 1 hts gX4_readName_X4_faultAt rfl rfl rfl (by decide +kernel) ⟨Nat.le_of_ble_eq_true rfl, Nat.le_of_ble_eq_true rfl⟩) hK hP hD hS hA [0, 1] [] rfl rfl rfl rfl rfl (by decide) rfl rfl rfl rfl hl.1 (Nat.le_of_ble_eq_true rfl) dX4_readName_87 (fun H locs hP hD hS => ?_)
      have hP : va_P D vwCl (wdX4 q y t_ch t_len t_at t_ls t_fa_11) H := hP
      have hD : va_D A (wdX4 q y t_ch t_len t_at t_ls t_fa_11) := hD
      refine lv_pop hx hb dX4_readName_90 rfl ?_
      refine lv_lconst (v := (0 : Int64)) hx hb dX4_readName_91 (by decide) ?_
      have hz := Option.some.inj hm
      subst hz
      exact end_l C hK hP hD hS dX4_readName_92
set_option maxHeartbeats 4000000 in
set_option maxRecDepth 100000 in
theorem k_X4_readName_7 {p : Program} {l : Launch} {e : Env} {s : State} {m : MethodId} {args : Array Value} {below : List Frame} {meth : Method} {c : Code} {D : va_G} {y : Nat → ClassId} {A : Nat → Prop} {q : Nat → Nat} {t_ls : Int32} {z : Int64 × Int32 × Int32} (C : CX p s m args meth c wsX4_readName RX4 cX4_readName 4 (some .long)) (hA : ∀ q : Nat, s.heap.size ≤ q → A q) (hK : va_K D vwCl (tyl y) s) (F : Nat) :
    ∀ (n : Nat), ∀ (v1 : Int32) (v2 : Int64) (t_ch : Nat → Int32) (t_len : Int32) (t_at : Int32) (t_fa : Int32) (H : Heap) (locs : List Loc) (ls : Array Slot), g_X4_readName_7 F n v1 v2 t_ch t_len t_at t_fa = some z → va_P D vwCl (wdX4 q y t_ch t_len t_at t_ls t_fa) H → va_D A (wdX4 q y t_ch t_len t_at t_ls t_fa) → va_S A s.heap H locs → lv_has ls 4 [(0, .ref (q 0)), (1, .int v1), (2, .long v2)] → W p l e ({ frames := 2, cells := 0, slots := 0, locals := 40 } : Room) s m args below meth c H locs 0 0 (MQ below (QL D y A (z.1) (wdX4 q y t_ch t_len (z.2.1) t_ls (z.2.2))) args s 0 0 A) (F0 m 7 ls []) := by
  obtain ⟨⟨hx, hb, hml, hown, hts⟩, hr, hlocks⟩ := id C
  intro n
  induction n with
  | zero =>
    intro v1 v2 t_ch t_len t_at t_fa H locs ls hm
    rw [g_X4_readName_7_z] at hm
    cases hm
  | succ n ih =>
    intro v1 v2 t_ch t_len t_at t_fa H locs ls hm hP hD hS hl
    rw [g_X4_readName_7_s] at hm
    refine lv_aload_n hx hb dX4_readName_7 rfl (lv_at hl 0 rfl) ?_
    refine va_get (D := D) (ci := 4) (v := .int t_at) (C := RX4) (T := TX4) (N := 5) hx hb hts n_X4_readName_X4 hown hK hP 0 rfl rfl 2 (by decide) (hts _ w_X4_readName_f24) (fun _ h9 => h9) rfl dX4_readName_8 ?_
    refine lv_iload_n hx hb dX4_readName_11 rfl (lv_at hl 1 rfl) ?_
    refine lv_isub hx hb dX4_readName_12 ?_
    refine lv_bipush (v := (8 : Int32)) hx hb dX4_readName_13 (by decide) ?_
    refine lv_icmp_ge (tgt := 60) hx hb dX4_readName_15 (by decide) (fun h_1 => ?_) (fun h_1 => ?_)
    · have hm := it_of hm h_1
      exact k_X4_readName_60 C hA hK F v1 v2 t_ch t_len t_at t_fa _ _ _ hm hP hD hS (lv_sub hl [0, 1, 2] rfl)
    · have hm := ie_of hm h_1
      refine lv_aload_n hx hb dX4_readName_18 rfl (lv_at hl 0 rfl) ?_
      refine lv_aload_n hx hb dX4_readName_19 rfl (lv_at hl 0 rfl) ?_
      refine va_get (D := D) (ci := 4) (v := .int t_at) (C := RX4) (T := TX4) (N := 5) hx hb hts n_X4_readName_X4 hown hK hP 0 rfl rfl 2 (by decide) (hts _ w_X4_readName_f24) (fun _ h9 => h9) rfl dX4_readName_20 ?_
      obtain ⟨r_2, hc_3, hm⟩ := mb1_of hm
      refine call_vi (wc := (wdX4 q y t_ch t_len t_at t_ls t_fa)) (wr := []) (As := [.int t_at]) (rest := []) C (c_X4_characterAt l D y q _ F hc_3) (cwV 1 hts gX4_readName_X4_characterAt rfl rfl rfl (by decide +kernel) ⟨Nat.le_of_ble_eq_true rfl, Nat.le_of_ble_eq_true rfl⟩) hK hP hD hS hA [0, 1] [] rfl rfl rfl rfl rfl (by decide) rfl rfl rfl rfl hl.1 (Nat.le_of_ble_eq_true rfl) dX4_readName_23 (fun H locs hP hD hS => ?_)
      have hP : va_P D vwCl (wdX4 q y t_ch t_len t_at t_ls t_fa) H := hP
      have hD : va_D A (wdX4 q y t_ch t_len t_at t_ls t_fa) := hD
      obtain ⟨r_4, hc_5, hm⟩ := mb1_of hm
      refine call_si (wc := ([] : va_W)) (wr := [(q 0, .inr (4, [.ref (q 1), .int t_len, .int t_at, .int t_ls, .int t_fa])), (q 1, .inl (y 2, 3000, .inl t_ch))]) (As := [.int r_2]) (rest := []) C (c_X4_isLetterOrDigit l D y _ F hc_5) (va_cwS 1 hts gX4_readName_X4_isLetterOrDigit rfl rfl rfl (by decide +kernel) ⟨Nat.le_of_ble_eq_true rfl, Nat.le_of_ble_eq_true rfl⟩) hK hP hD hS hA [] [0, 1] rfl rfl rfl rfl rfl (by decide) rfl hl.1 (Nat.le_of_ble_eq_true rfl) dX4_readName_26 (fun H locs hP hD hS => ?_)
      have hP : va_P D vwCl (wdX4 q y t_ch t_len t_at t_ls t_fa) H := hP
      have hD : va_D A (wdX4 q y t_ch t_len t_at t_ls t_fa) := hD
      refine lv_if_eq (tgt := 60) hx hb dX4_readName_29 (by decide) (fun h_6 => ?_) (fun h_6 => ?_)
      · have hm := it_of hm h_6
        exact k_X4_readName_60 C hA hK F v1 v2 t_ch t_len t_at t_fa _ _ _ hm hP hD hS (lv_sub hl [0, 1, 2] rfl)
      · have hm := ie_of hm h_6
        refine lv_lload_n hx hb dX4_readName_32 rfl (lv_at hl 2 rfl) ?_
        refine lv_bipush (v := (7 : Int32)) hx hb dX4_readName_33 (by decide) ?_
        refine lv_lshl (v := (v2 <<< (((7 : Int32)).toInt64 &&& 63))) hx hb dX4_readName_35 rfl ?_
        refine lv_aload_n hx hb dX4_readName_36 rfl (lv_at hl 0 rfl) ?_
        refine lv_aload_n hx hb dX4_readName_37 rfl (lv_at hl 0 rfl) ?_
        refine va_get (D := D) (ci := 4) (v := .int t_at) (C := RX4) (T := TX4) (N := 5) hx hb hts n_X4_readName_X4 hown hK hP 0 rfl rfl 2 (by decide) (hts _ w_X4_readName_f24) (fun _ h9 => h9) rfl dX4_readName_38 ?_
        obtain ⟨r_7, hc_8, hm⟩ := mb1_of hm
        refine call_vi (wc := (wdX4 q y t_ch t_len t_at t_ls t_fa)) (wr := []) (As := [.int t_at]) (rest := [.long (v2 <<< (((7 : Int32)).toInt64 &&& 63))]) C (c_X4_characterAt l D y q _ F hc_8) (cwV 1 hts gX4_readName_X4_characterAt rfl rfl rfl (by decide +kernel) ⟨Nat.le_of_ble_eq_true rfl, Nat.le_of_ble_eq_true rfl⟩) hK hP hD hS hA [0, 1] [] rfl rfl rfl rfl rfl (by decide) rfl rfl rfl rfl hl.1 (Nat.le_of_ble_eq_true rfl) dX4_readName_41 (fun H locs hP hD hS => ?_)
        have hP : va_P D vwCl (wdX4 q y t_ch t_len t_at t_ls t_fa) H := hP
        have hD : va_D A (wdX4 q y t_ch t_len t_at t_ls t_fa) := hD
        refine lv_i2l (v := (r_7).toInt64) hx hb dX4_readName_44 rfl ?_
        refine lv_lor hx hb dX4_readName_45 ?_
        refine lv_topl (fun v2_9 ev2_9 => ?_)
        have hm := mn_of ev2_9 hm
        refine lv_lstore_n (lv' := [(2, .long v2_9), (0, .ref (q 0)), (1, .int v1)]) hx hb dX4_readName_46 rfl hl (by decide) rfl (fun ls hl => ?_)
        refine lv_aload_n hx hb dX4_readName_47 rfl (lv_at hl 1 rfl) ?_
        refine lv_dup hx hb dX4_readName_48 rfl ?_
        refine va_get (D := D) (ci := 4) (v := .int t_at) (C := RX4) (T := TX4) (N := 5) hx hb hts n_X4_readName_X4 hown hK hP 0 rfl rfl 2 (by decide) (hts _ w_X4_readName_f24) (fun _ h9 => h9) rfl dX4_readName_49 ?_
        refine lv_iconst (v := (1 : Int32)) hx hb dX4_readName_52 (by decide) ?_
        refine lv_iadd hx hb dX4_readName_53 ?_
        refine va_put (D := D) (ci := 4) (v := .int (t_at + (1 : Int32))) (ty := .int) (C := RX4) (T := TX4) (N := 5) hx hb hts n_X4_readName_X4 tyX4 tyX4_ok nmX4 hown hK hP hD hS 0 rfl rfl 2 (by decide) (hts _ w_X4_readName_f24) (fun _ h9 => h9) rfl (by decide +kernel) rfl rfl (Nat.le_of_ble_eq_true rfl) dX4_readName_54 (fun H locs hP hD hS => ?_)
        have hP : va_P D vwCl (wdX4 q y t_ch t_len (t_at + (1 : Int32)) t_ls t_fa) H := hP
        have hD : va_D A (wdX4 q y t_ch t_len (t_at + (1 : Int32)) t_ls t_fa) := hD
        refine lv_goto (tgt := 7) hx hb dX4_readName_57 (by decide) ?_
        exact ih v1 v2_9 t_ch t_len (t_at + (1 : Int32)) t_fa _ _ _ hm hP hD hS (lv_sub hl [1, 2, 0] rfl)
set_option maxHeartbeats 4000000 in
set_option maxRecDepth 100000 in
theorem c_X4_readName (l : Launch) (D : va_G) (y : Nat → ClassId) (q : Nat → Nat) (sz : Nat) (F : Nat) {t_ch : Nat → Int32} {t_len : Int32} {t_at : Int32} {t_ls : Int32} {t_fa : Int32} {z : Int64 × Int32 × Int32} (hm : f_X4_readName F t_ch t_len t_at t_fa = some z) : Met l yX4_readName wsX4_readName ({ frames := 2, cells := 0, slots := 0, locals := 40 } : Room) (va_Pc [.ref (q 0)] (cP D y (wdX4 q y t_ch t_len t_at t_ls t_fa) sz)) (QL D y (va_A (wdX4 q y t_ch t_len t_at t_ls t_fa) sz) (z.1) (wdX4 q y t_ch t_len (z.2.1) t_ls (z.2.2))) 0 0 (va_A (wdX4 q y t_ch t_len t_at t_ls t_fa) sz) := by
  refine met_of (own := RX4) (cc := cX4_readName) (maxL := 4) (ret := (some .long)) (by decide) rfl rfl (Nat.le_of_ble_eq_true rfl) ?_
  intro p e s m below meth c ls C hsz hK hP hD hA hS hl
  obtain ⟨⟨hx, hb, hml, hown, hts⟩, hr, hlocks⟩ := id C
  have hl : lv_has ls 4 [(0, .ref (q 0))] := hl
  generalize va_A (wdX4 q y t_ch t_len t_at t_ls t_fa) sz = A at hD hA hS ⊢
  generalize ([.ref (q 0)] : List Value).toArray = args at C hts ⊢
  unfold f_X4_readName at hm
  refine lv_aload_n hx hb dX4_readName_0 rfl (lv_at hl 0 rfl) ?_
  refine va_get (D := D) (ci := 4) (v := .int t_at) (C := RX4) (T := TX4) (N := 5) hx hb hts n_X4_readName_X4 hown hK hP 0 rfl rfl 2 (by decide) (hts _ w_X4_readName_f24) (fun _ h9 => h9) rfl dX4_readName_1 ?_
  refine lv_istore_n (lv' := [(1, .int t_at), (0, .ref (q 0))]) hx hb dX4_readName_4 rfl hl (by decide) rfl (fun ls hl => ?_)
  refine lv_lconst (v := (0 : Int64)) hx hb dX4_readName_5 (by decide) ?_
  refine lv_lstore_n (lv' := [(2, .long (0 : Int64)), (1, .int t_at), (0, .ref (q 0))]) hx hb dX4_readName_6 rfl hl (by decide) rfl (fun ls hl => ?_)
  exact k_X4_readName_7 C hA hK F F t_at (0 : Int64) t_ch t_len t_at t_fa _ _ _ hm hP hD hS (lv_sub hl [2, 1, 0] rfl)
def g_X4_readDigits_64 (F : Nat) (v3 : Int32) (v4 : Int32) (t_ch : Nat → Int32) (t_len : Int32) (t_at : Int32) (t_fa : Int32) : Option (Int32 × Int32 × Int32) := (if t_at = v3 then mb2 (f_X4_faultAt F t_at t_fa) (fun r_2 t_fa_3 => some ((-1 : Int32), t_at, t_fa_3)) else mb1 (f_X4_characterAt F t_at t_ch t_len) (fun r_5 => mb1 (f_X4_isDigit F r_5) (fun r_7 => (if r_7 = 0 then some (v4, t_at, t_fa) else mb2 (f_X4_faultAt F t_at t_fa) (fun r_10 t_fa_11 => some ((-1 : Int32), t_at, t_fa_11))))))
def g_X4_readDigits_8 (F : Nat) : Nat → Int32 → Int32 → Int32 → (Nat → Int32) → Int32 → Int32 → Int32 → Option (Int32 × Int32 × Int32)
  | 0, _, _, _, _, _, _, _ => none
  | n + 1, v2, v3, v4, t_ch, t_len, t_at, t_fa => (if v2 ≤ (t_at - v3) then g_X4_readDigits_64 F v3 v4 t_ch t_len t_at t_fa else mb1 (f_X4_characterAt F t_at t_ch t_len) (fun r_2 => mb1 (f_X4_isDigit F r_2) (fun r_4 => (if r_4 = 0 then g_X4_readDigits_64 F v3 v4 t_ch t_len t_at t_fa else mb1 (f_X4_characterAt F t_at t_ch t_len) (fun r_7 => mn (((v4 * (10 : Int32)) + r_7) - (48 : Int32)) (fun v4_9 => g_X4_readDigits_8 F n v2 v3 v4_9 t_ch t_len (t_at + (1 : Int32)) t_fa))))))
theorem g_X4_readDigits_8_z (F : Nat) (v2 : Int32) (v3 : Int32) (v4 : Int32) (t_ch : Nat → Int32) (t_len : Int32) (t_at : Int32) (t_fa : Int32) : g_X4_readDigits_8 F 0 v2 v3 v4 t_ch t_len t_at t_fa = none := rfl
theorem g_X4_readDigits_8_s (F : Nat) (n : Nat) (v2 : Int32) (v3 : Int32) (v4 : Int32) (t_ch : Nat → Int32) (t_len : Int32) (t_at : Int32) (t_fa : Int32) : g_X4_readDigits_8 F (n + 1) v2 v3 v4 t_ch t_len t_at t_fa = (if v2 ≤ (t_at - v3) then g_X4_readDigits_64 F v3 v4 t_ch t_len t_at t_fa else mb1 (f_X4_characterAt F t_at t_ch t_len) (fun r_2 => mb1 (f_X4_isDigit F r_2) (fun r_4 => (if r_4 = 0 then g_X4_readDigits_64 F v3 v4 t_ch t_len t_at t_fa else mb1 (f_X4_characterAt F t_at t_ch t_len) (fun r_7 => mn (((v4 * (10 : Int32)) + r_7) - (48 : Int32)) (fun v4_9 => g_X4_readDigits_8 F n v2 v3 v4_9 t_ch t_len (t_at + (1 : Int32)) t_fa)))))) := rfl
def f_X4_readDigits (F : Nat) (v1 : Int32) (v2 : Int32) (t_ch : Nat → Int32) (t_len : Int32) (t_at : Int32) (t_fa : Int32) : Option (Int32 × Int32 × Int32) := g_X4_readDigits_8 F F v2 t_at v1 t_ch t_len t_at t_fa
set_option maxRecDepth 20000 in
theorem n_X4_readDigits_X4 : ∀ w ∈ wsX40, w ∈ wsX4_readDigits := by decide +kernel
set_option maxRecDepth 20000 in
theorem w_X4_readDigits_f24 : Cond.fieldLink RX4 24 "LayerStacks$TextReader" "at" "I" ∈ wsX4_readDigits := by decide +kernel
set_option maxHeartbeats 4000000 in
set_option maxRecDepth 100000 in
theorem k_X4_readDigits_64 {p : Program} {l : Launch} {e : Env} {s : State} {m : MethodId} {args : Array Value} {below : List Frame} {meth : Method} {c : Code} {D : va_G} {y : Nat → ClassId} {A : Nat → Prop} {q : Nat → Nat} {t_ls : Int32} {z : Int32 × Int32 × Int32} (C : CX p s m args meth c wsX4_readDigits RX4 cX4_readDigits 5 (some .int)) (hA : ∀ q : Nat, s.heap.size ≤ q → A q) (hK : va_K D vwCl (tyl y) s) (F : Nat) :
    ∀ (v3 : Int32) (v4 : Int32) (t_ch : Nat → Int32) (t_len : Int32) (t_at : Int32) (t_fa : Int32) (H : Heap) (locs : List Loc) (ls : Array Slot), g_X4_readDigits_64 F v3 v4 t_ch t_len t_at t_fa = some z → va_P D vwCl (wdX4 q y t_ch t_len t_at t_ls t_fa) H → va_D A (wdX4 q y t_ch t_len t_at t_ls t_fa) → va_S A s.heap H locs → lv_has ls 5 [(0, .ref (q 0)), (3, .int v3), (4, .int v4)] → W p l e ({ frames := 1, cells := 0, slots := 0, locals := 21 } : Room) s m args below meth c H locs 0 0 (MQ below (QI D y A (z.1) (wdX4 q y t_ch t_len (z.2.1) t_ls (z.2.2))) args s 0 0 A) (F0 m 64 ls []) := by
  obtain ⟨⟨hx, hb, hml, hown, hts⟩, hr, hlocks⟩ := id C
  intro v3 v4 t_ch t_len t_at t_fa H locs ls hm hP hD hS hl
  unfold g_X4_readDigits_64 at hm
  refine lv_aload_n hx hb dX4_readDigits_64 rfl (lv_at hl 0 rfl) ?_
  refine va_get (D := D) (ci := 4) (v := .int t_at) (C := RX4) (T := TX4) (N := 5) hx hb hts n_X4_readDigits_X4 hown hK hP 0 rfl rfl 2 (by decide) (hts _ w_X4_readDigits_f24) (fun _ h9 => h9) rfl dX4_readDigits_65 ?_
  refine lv_iload_n hx hb dX4_readDigits_68 rfl (lv_at hl 1 rfl) ?_
  refine lv_icmp_eq (tgt := 86) hx hb dX4_readDigits_69 (by decide) (fun h_1 => ?_) (fun h_1 => ?_)
  · have hm := it_of hm h_1
    refine lv_aload_n hx hb dX4_readDigits_86 rfl (lv_at hl 0 rfl) ?_
    refine lv_aload_n hx hb dX4_readDigits_87 rfl (lv_at hl 0 rfl) ?_
    refine va_get (D := D) (ci := 4) (v := .int t_at) (C := RX4) (T := TX4) (N := 5) hx hb hts n_X4_readDigits_X4 hown hK hP 0 rfl rfl 2 (by decide) (hts _ w_X4_readDigits_f24) (fun _ h9 => h9) rfl dX4_readDigits_88 ?_
    obtain ⟨r_2, t_fa_3, hc_4, hm⟩ := mb2_of hm
    refine call_vi (wc := (wdX4 q y t_ch t_len t_at t_ls t_fa)) (wr := []) (As := [.int t_at]) (rest := []) C (c_X4_faultAt l D y q _ F hc_4) (cwV 1 hts gX4_readDigits_X4_faultAt rfl rfl rfl (by decide +kernel) ⟨Nat.le_of_ble_eq_true rfl, Nat.le_of_ble_eq_true rfl⟩) hK hP hD hS hA [0, 1] [] rfl rfl rfl rfl rfl (by decide) rfl rfl rfl rfl hl.1 (Nat.le_of_ble_eq_true rfl) dX4_readDigits_91 (fun H locs hP hD hS => ?_)
    have hP : va_P D vwCl (wdX4 q y t_ch t_len t_at t_ls t_fa_3) H := hP
    have hD : va_D A (wdX4 q y t_ch t_len t_at t_ls t_fa_3) := hD
    refine lv_pop hx hb dX4_readDigits_94 rfl ?_
    refine lv_iconst (v := (-1 : Int32)) hx hb dX4_readDigits_95 (by decide) ?_
    have hz := Option.some.inj hm
    subst hz
    exact end_i C hK hP hD hS dX4_readDigits_96
  · have hm := ie_of hm h_1
    refine lv_aload_n hx hb dX4_readDigits_72 rfl (lv_at hl 0 rfl) ?_
    refine lv_aload_n hx hb dX4_readDigits_73 rfl (lv_at hl 0 rfl) ?_
    refine va_get (D := D) (ci := 4) (v := .int t_at) (C := RX4) (T := TX4) (N := 5) hx hb hts n_X4_readDigits_X4 hown hK hP 0 rfl rfl 2 (by decide) (hts _ w_X4_readDigits_f24) (fun _ h9 => h9) rfl dX4_readDigits_74 ?_
    obtain ⟨r_5, hc_6, hm⟩ := mb1_of hm
    refine call_vi (wc := (wdX4 q y t_ch t_len t_at t_ls t_fa)) (wr := []) (As := [.int t_at]) (rest := []) C (c_X4_characterAt l D y q _ F hc_6) (cwV 1 hts gX4_readDigits_X4_characterAt rfl rfl rfl (by decide +kernel) ⟨Nat.le_of_ble_eq_true rfl, Nat.le_of_ble_eq_true rfl⟩) hK hP hD hS hA [0, 1] [] rfl rfl rfl rfl rfl (by decide) rfl rfl rfl rfl hl.1 (Nat.le_of_ble_eq_true rfl) dX4_readDigits_77 (fun H locs hP hD hS => ?_)
    have hP : va_P D vwCl (wdX4 q y t_ch t_len t_at t_ls t_fa) H := hP
    have hD : va_D A (wdX4 q y t_ch t_len t_at t_ls t_fa) := hD
    obtain ⟨r_7, hc_8, hm⟩ := mb1_of hm
    refine call_si (wc := ([] : va_W)) (wr := [(q 0, .inr (4, [.ref (q 1), .int t_len, .int t_at, .int t_ls, .int t_fa])), (q 1, .inl (y 2, 3000, .inl t_ch))]) (As := [.int r_5]) (rest := []) C (c_X4_isDigit l D y _ F hc_8) (va_cwS 1 hts gX4_readDigits_X4_isDigit rfl rfl rfl (by decide +kernel) ⟨Nat.le_of_ble_eq_true rfl, Nat.le_of_ble_eq_true rfl⟩) hK hP hD hS hA [] [0, 1] rfl rfl rfl rfl rfl (by decide) rfl hl.1 (Nat.le_of_ble_eq_true rfl) dX4_readDigits_80 (fun H locs hP hD hS => ?_)
    have hP : va_P D vwCl (wdX4 q y t_ch t_len t_at t_ls t_fa) H := hP
    have hD : va_D A (wdX4 q y t_ch t_len t_at t_ls t_fa) := hD
    refine lv_if_eq (tgt := 97) hx hb dX4_readDigits_83 (by decide) (fun h_9 => ?_) (fun h_9 => ?_)
    · have hm := it_of hm h_9
      refine lv_iload hx hb dX4_readDigits_97 (lv_at hl 2 rfl) ?_
      have hz := Option.some.inj hm
      subst hz
      exact end_i C hK hP hD hS dX4_readDigits_99
    · have hm := ie_of hm h_9
      refine lv_aload_n hx hb dX4_readDigits_86 rfl (lv_at hl 0 rfl) ?_
      refine lv_aload_n hx hb dX4_readDigits_87 rfl (lv_at hl 0 rfl) ?_
      refine va_get (D := D) (ci := 4) (v := .int t_at) (C := RX4) (T := TX4) (N := 5) hx hb hts n_X4_readDigits_X4 hown hK hP 0 rfl rfl 2 (by decide) (hts _ w_X4_readDigits_f24) (fun _ h9 => h9) rfl dX4_readDigits_88 ?_
      obtain ⟨r_10, t_fa_11, hc_12, hm⟩ := mb2_of hm
      refine call_vi (wc := (wdX4 q y t_ch t_len t_at t_ls t_fa)) (wr := []) (As := [.int t_at]) (rest := []) C (c_X4_faultAt l D y q _ F hc_12) (cwV 1 hts gX4_readDigits_X4_faultAt rfl rfl rfl (by decide +kernel) ⟨Nat.le_of_ble_eq_true rfl, Nat.le_of_ble_eq_true rfl⟩) hK hP hD hS hA [0, 1] [] rfl rfl rfl rfl rfl (by decide) rfl rfl rfl rfl hl.1 (Nat.le_of_ble_eq_true rfl) dX4_readDigits_91 (fun H locs hP hD hS => ?_)
      have hP : va_P D vwCl (wdX4 q y t_ch t_len t_at t_ls t_fa_11) H := hP
      have hD : va_D A (wdX4 q y t_ch t_len t_at t_ls t_fa_11) := hD
      refine lv_pop hx hb dX4_readDigits_94 rfl ?_
      refine lv_iconst (v := (-1 : Int32)) hx hb dX4_readDigits_95 (by decide) ?_
      have hz := Option.some.inj hm
      subst hz
      exact end_i C hK hP hD hS dX4_readDigits_96
set_option maxHeartbeats 4000000 in
set_option maxRecDepth 100000 in
theorem k_X4_readDigits_8 {p : Program} {l : Launch} {e : Env} {s : State} {m : MethodId} {args : Array Value} {below : List Frame} {meth : Method} {c : Code} {D : va_G} {y : Nat → ClassId} {A : Nat → Prop} {q : Nat → Nat} {t_ls : Int32} {z : Int32 × Int32 × Int32} (C : CX p s m args meth c wsX4_readDigits RX4 cX4_readDigits 5 (some .int)) (hA : ∀ q : Nat, s.heap.size ≤ q → A q) (hK : va_K D vwCl (tyl y) s) (F : Nat) :
    ∀ (n : Nat), ∀ (v2 : Int32) (v3 : Int32) (v4 : Int32) (t_ch : Nat → Int32) (t_len : Int32) (t_at : Int32) (t_fa : Int32) (H : Heap) (locs : List Loc) (ls : Array Slot), g_X4_readDigits_8 F n v2 v3 v4 t_ch t_len t_at t_fa = some z → va_P D vwCl (wdX4 q y t_ch t_len t_at t_ls t_fa) H → va_D A (wdX4 q y t_ch t_len t_at t_ls t_fa) → va_S A s.heap H locs → lv_has ls 5 [(0, .ref (q 0)), (2, .int v2), (3, .int v3), (4, .int v4)] → W p l e ({ frames := 1, cells := 0, slots := 0, locals := 21 } : Room) s m args below meth c H locs 0 0 (MQ below (QI D y A (z.1) (wdX4 q y t_ch t_len (z.2.1) t_ls (z.2.2))) args s 0 0 A) (F0 m 8 ls []) := by
  obtain ⟨⟨hx, hb, hml, hown, hts⟩, hr, hlocks⟩ := id C
  intro n
  induction n with
  | zero =>
    intro v2 v3 v4 t_ch t_len t_at t_fa H locs ls hm
    rw [g_X4_readDigits_8_z] at hm
    cases hm
  | succ n ih =>
    intro v2 v3 v4 t_ch t_len t_at t_fa H locs ls hm hP hD hS hl
    rw [g_X4_readDigits_8_s] at hm
    refine lv_aload_n hx hb dX4_readDigits_8 rfl (lv_at hl 0 rfl) ?_
    refine va_get (D := D) (ci := 4) (v := .int t_at) (C := RX4) (T := TX4) (N := 5) hx hb hts n_X4_readDigits_X4 hown hK hP 0 rfl rfl 2 (by decide) (hts _ w_X4_readDigits_f24) (fun _ h9 => h9) rfl dX4_readDigits_9 ?_
    refine lv_iload_n hx hb dX4_readDigits_12 rfl (lv_at hl 2 rfl) ?_
    refine lv_isub hx hb dX4_readDigits_13 ?_
    refine lv_iload_n hx hb dX4_readDigits_14 rfl (lv_at hl 1 rfl) ?_
    refine lv_icmp_ge (tgt := 64) hx hb dX4_readDigits_15 (by decide) (fun h_1 => ?_) (fun h_1 => ?_)
    · have hm := it_of hm h_1
      exact k_X4_readDigits_64 C hA hK F v3 v4 t_ch t_len t_at t_fa _ _ _ hm hP hD hS (lv_sub hl [0, 2, 3] rfl)
    · have hm := ie_of hm h_1
      refine lv_aload_n hx hb dX4_readDigits_18 rfl (lv_at hl 0 rfl) ?_
      refine lv_aload_n hx hb dX4_readDigits_19 rfl (lv_at hl 0 rfl) ?_
      refine va_get (D := D) (ci := 4) (v := .int t_at) (C := RX4) (T := TX4) (N := 5) hx hb hts n_X4_readDigits_X4 hown hK hP 0 rfl rfl 2 (by decide) (hts _ w_X4_readDigits_f24) (fun _ h9 => h9) rfl dX4_readDigits_20 ?_
      obtain ⟨r_2, hc_3, hm⟩ := mb1_of hm
      refine call_vi (wc := (wdX4 q y t_ch t_len t_at t_ls t_fa)) (wr := []) (As := [.int t_at]) (rest := []) C (c_X4_characterAt l D y q _ F hc_3) (cwV 1 hts gX4_readDigits_X4_characterAt rfl rfl rfl (by decide +kernel) ⟨Nat.le_of_ble_eq_true rfl, Nat.le_of_ble_eq_true rfl⟩) hK hP hD hS hA [0, 1] [] rfl rfl rfl rfl rfl (by decide) rfl rfl rfl rfl hl.1 (Nat.le_of_ble_eq_true rfl) dX4_readDigits_23 (fun H locs hP hD hS => ?_)
      have hP : va_P D vwCl (wdX4 q y t_ch t_len t_at t_ls t_fa) H := hP
      have hD : va_D A (wdX4 q y t_ch t_len t_at t_ls t_fa) := hD
      obtain ⟨r_4, hc_5, hm⟩ := mb1_of hm
      refine call_si (wc := ([] : va_W)) (wr := [(q 0, .inr (4, [.ref (q 1), .int t_len, .int t_at, .int t_ls, .int t_fa])), (q 1, .inl (y 2, 3000, .inl t_ch))]) (As := [.int r_2]) (rest := []) C (c_X4_isDigit l D y _ F hc_5) (va_cwS 1 hts gX4_readDigits_X4_isDigit rfl rfl rfl (by decide +kernel) ⟨Nat.le_of_ble_eq_true rfl, Nat.le_of_ble_eq_true rfl⟩) hK hP hD hS hA [] [0, 1] rfl rfl rfl rfl rfl (by decide) rfl hl.1 (Nat.le_of_ble_eq_true rfl) dX4_readDigits_26 (fun H locs hP hD hS => ?_)
      have hP : va_P D vwCl (wdX4 q y t_ch t_len t_at t_ls t_fa) H := hP
      have hD : va_D A (wdX4 q y t_ch t_len t_at t_ls t_fa) := hD
      refine lv_if_eq (tgt := 64) hx hb dX4_readDigits_29 (by decide) (fun h_6 => ?_) (fun h_6 => ?_)
      · have hm := it_of hm h_6
        exact k_X4_readDigits_64 C hA hK F v3 v4 t_ch t_len t_at t_fa _ _ _ hm hP hD hS (lv_sub hl [0, 2, 3] rfl)
      · have hm := ie_of hm h_6
        refine lv_iload hx hb dX4_readDigits_32 (lv_at hl 3 rfl) ?_
        refine lv_bipush (v := (10 : Int32)) hx hb dX4_readDigits_34 (by decide) ?_
        refine lv_imul hx hb dX4_readDigits_36 ?_
        refine lv_aload_n hx hb dX4_readDigits_37 rfl (lv_at hl 0 rfl) ?_
        refine lv_aload_n hx hb dX4_readDigits_38 rfl (lv_at hl 0 rfl) ?_
        refine va_get (D := D) (ci := 4) (v := .int t_at) (C := RX4) (T := TX4) (N := 5) hx hb hts n_X4_readDigits_X4 hown hK hP 0 rfl rfl 2 (by decide) (hts _ w_X4_readDigits_f24) (fun _ h9 => h9) rfl dX4_readDigits_39 ?_
        obtain ⟨r_7, hc_8, hm⟩ := mb1_of hm
        refine call_vi (wc := (wdX4 q y t_ch t_len t_at t_ls t_fa)) (wr := []) (As := [.int t_at]) (rest := [.int (v4 * (10 : Int32))]) C (c_X4_characterAt l D y q _ F hc_8) (cwV 1 hts gX4_readDigits_X4_characterAt rfl rfl rfl (by decide +kernel) ⟨Nat.le_of_ble_eq_true rfl, Nat.le_of_ble_eq_true rfl⟩) hK hP hD hS hA [0, 1] [] rfl rfl rfl rfl rfl (by decide) rfl rfl rfl rfl hl.1 (Nat.le_of_ble_eq_true rfl) dX4_readDigits_42 (fun H locs hP hD hS => ?_)
        have hP : va_P D vwCl (wdX4 q y t_ch t_len t_at t_ls t_fa) H := hP
        have hD : va_D A (wdX4 q y t_ch t_len t_at t_ls t_fa) := hD
        refine lv_iadd hx hb dX4_readDigits_45 ?_
        refine lv_bipush (v := (48 : Int32)) hx hb dX4_readDigits_46 (by decide) ?_
        refine lv_isub hx hb dX4_readDigits_48 ?_
        refine lv_topi (fun v4_9 ev4_9 => ?_)
        have hm := mn_of ev4_9 hm
        refine lv_istore (lv' := [(4, .int v4_9), (0, .ref (q 0)), (2, .int v2), (3, .int v3)]) hx hb dX4_readDigits_49 hl (by decide) rfl (fun ls hl => ?_)
        refine lv_aload_n hx hb dX4_readDigits_51 rfl (lv_at hl 1 rfl) ?_
        refine lv_dup hx hb dX4_readDigits_52 rfl ?_
        refine va_get (D := D) (ci := 4) (v := .int t_at) (C := RX4) (T := TX4) (N := 5) hx hb hts n_X4_readDigits_X4 hown hK hP 0 rfl rfl 2 (by decide) (hts _ w_X4_readDigits_f24) (fun _ h9 => h9) rfl dX4_readDigits_53 ?_
        refine lv_iconst (v := (1 : Int32)) hx hb dX4_readDigits_56 (by decide) ?_
        refine lv_iadd hx hb dX4_readDigits_57 ?_
        refine va_put (D := D) (ci := 4) (v := .int (t_at + (1 : Int32))) (ty := .int) (C := RX4) (T := TX4) (N := 5) hx hb hts n_X4_readDigits_X4 tyX4 tyX4_ok nmX4 hown hK hP hD hS 0 rfl rfl 2 (by decide) (hts _ w_X4_readDigits_f24) (fun _ h9 => h9) rfl (by decide +kernel) rfl rfl (Nat.le_of_ble_eq_true rfl) dX4_readDigits_58 (fun H locs hP hD hS => ?_)
        have hP : va_P D vwCl (wdX4 q y t_ch t_len (t_at + (1 : Int32)) t_ls t_fa) H := hP
        have hD : va_D A (wdX4 q y t_ch t_len (t_at + (1 : Int32)) t_ls t_fa) := hD
        refine lv_goto (tgt := 8) hx hb dX4_readDigits_61 (by decide) ?_
        exact ih v2 v3 v4_9 t_ch t_len (t_at + (1 : Int32)) t_fa _ _ _ hm hP hD hS (lv_sub hl [1, 2, 3, 0] rfl)
set_option maxHeartbeats 4000000 in
set_option maxRecDepth 100000 in
theorem c_X4_readDigits (l : Launch) (D : va_G) (y : Nat → ClassId) (q : Nat → Nat) (sz : Nat) (F : Nat) {v1 : Int32} {v2 : Int32} {t_ch : Nat → Int32} {t_len : Int32} {t_at : Int32} {t_ls : Int32} {t_fa : Int32} {z : Int32 × Int32 × Int32} (hm : f_X4_readDigits F v1 v2 t_ch t_len t_at t_fa = some z) : Met l yX4_readDigits wsX4_readDigits ({ frames := 1, cells := 0, slots := 0, locals := 21 } : Room) (va_Pc [.ref (q 0), .int v1, .int v2] (cP D y (wdX4 q y t_ch t_len t_at t_ls t_fa) sz)) (QI D y (va_A (wdX4 q y t_ch t_len t_at t_ls t_fa) sz) (z.1) (wdX4 q y t_ch t_len (z.2.1) t_ls (z.2.2))) 0 0 (va_A (wdX4 q y t_ch t_len t_at t_ls t_fa) sz) := by
  refine met_of (own := RX4) (cc := cX4_readDigits) (maxL := 5) (ret := (some .int)) (by decide) rfl rfl (Nat.le_of_ble_eq_true rfl) ?_
  intro p e s m below meth c ls C hsz hK hP hD hA hS hl
  obtain ⟨⟨hx, hb, hml, hown, hts⟩, hr, hlocks⟩ := id C
  have hl : lv_has ls 5 [(0, .ref (q 0)), (1, .int v1), (2, .int v2)] := hl
  generalize va_A (wdX4 q y t_ch t_len t_at t_ls t_fa) sz = A at hD hA hS ⊢
  generalize ([.ref (q 0), .int v1, .int v2] : List Value).toArray = args at C hts ⊢
  unfold f_X4_readDigits at hm
  refine lv_aload_n hx hb dX4_readDigits_0 rfl (lv_at hl 0 rfl) ?_
  refine va_get (D := D) (ci := 4) (v := .int t_at) (C := RX4) (T := TX4) (N := 5) hx hb hts n_X4_readDigits_X4 hown hK hP 0 rfl rfl 2 (by decide) (hts _ w_X4_readDigits_f24) (fun _ h9 => h9) rfl dX4_readDigits_1 ?_
  refine lv_istore_n (lv' := [(3, .int t_at), (0, .ref (q 0)), (1, .int v1), (2, .int v2)]) hx hb dX4_readDigits_4 rfl hl (by decide) rfl (fun ls hl => ?_)
  refine lv_iload_n hx hb dX4_readDigits_5 rfl (lv_at hl 2 rfl) ?_
  refine lv_istore (lv' := [(4, .int v1), (3, .int t_at), (0, .ref (q 0)), (1, .int v1), (2, .int v2)]) hx hb dX4_readDigits_6 hl (by decide) rfl (fun ls hl => ?_)
  exact k_X4_readDigits_8 C hA hK F F v2 t_at v1 t_ch t_len t_at t_fa _ _ _ hm hP hD hS (lv_sub hl [2, 4, 1, 0] rfl)
def g_X4_readNumber_93 (F : Nat) : Nat → Int32 → Int32 → Int32 → Int32 → Int32 → Int32 → Int32 → Option (Int32 × Int32 × Int32)
  | 0, _, _, _, _, _, _, _ => none
  | n + 1, v2, v3, v4, v5, v7, t_at, t_fa => (if v2 ≤ v7 then (if v5 ≤ v3 then some (v5, t_at, t_fa) else mb2 (f_X4_faultAt F v4 t_fa) (fun r_3 t_fa_4 => some ((-1 : Int32), t_at, t_fa_4))) else mn (v5 * (10 : Int32)) (fun v5_6 => mn (v7 + (1 : Int32)) (fun v7_7 => g_X4_readNumber_93 F n v2 v3 v4 v5_6 v7_7 t_at t_fa)))
theorem g_X4_readNumber_93_z (F : Nat) (v2 : Int32) (v3 : Int32) (v4 : Int32) (v5 : Int32) (v7 : Int32) (t_at : Int32) (t_fa : Int32) : g_X4_readNumber_93 F 0 v2 v3 v4 v5 v7 t_at t_fa = none := rfl
theorem g_X4_readNumber_93_s (F : Nat) (n : Nat) (v2 : Int32) (v3 : Int32) (v4 : Int32) (v5 : Int32) (v7 : Int32) (t_at : Int32) (t_fa : Int32) : g_X4_readNumber_93 F (n + 1) v2 v3 v4 v5 v7 t_at t_fa = (if v2 ≤ v7 then (if v5 ≤ v3 then some (v5, t_at, t_fa) else mb2 (f_X4_faultAt F v4 t_fa) (fun r_3 t_fa_4 => some ((-1 : Int32), t_at, t_fa_4))) else mn (v5 * (10 : Int32)) (fun v5_6 => mn (v7 + (1 : Int32)) (fun v7_7 => g_X4_readNumber_93 F n v2 v3 v4 v5_6 v7_7 t_at t_fa))) := rfl
def f_X4_readNumber (F : Nat) (v1 : Int32) (v2 : Int32) (v3 : Int32) (t_ch : Nat → Int32) (t_len : Int32) (t_at : Int32) (t_fa : Int32) : Option (Int32 × Int32 × Int32) := mb3 (f_X4_expect F (32 : Int32) t_ch t_len t_at t_fa) (fun r_1 t_at_2 t_fa_3 => (if r_1 = 0 then some ((-1 : Int32), t_at_2, t_fa_3) else mb3 (f_X4_readDigits F (0 : Int32) v1 t_ch t_len t_at_2 t_fa_3) (fun r_6 t_at_7 t_fa_8 => (if r_6 = (-1 : Int32) then (if r_6 = (-1 : Int32) then some ((-1 : Int32), t_at_7, t_fa_8) else g_X4_readNumber_93 F F v2 v3 t_at_2 r_6 (0 : Int32) t_at_7 t_fa_8) else mb1 (f_X4_characterAt F t_at_7 t_ch t_len) (fun r_12 => (if r_12 = (46 : Int32) then mn (t_at_7 + (1 : Int32)) (fun v7_16 => mb3 (f_X4_readDigits F r_6 v2 t_ch t_len (t_at_7 + (1 : Int32)) t_fa_8) (fun r_17 t_at_18 t_fa_19 => mn (t_at_18 - v7_16) (fun v6_21 => (if r_17 = (-1 : Int32) then some ((-1 : Int32), t_at_18, t_fa_19) else g_X4_readNumber_93 F F v2 v3 t_at_2 r_17 v6_21 t_at_18 t_fa_19)))) else (if r_6 = (-1 : Int32) then some ((-1 : Int32), t_at_7, t_fa_8) else g_X4_readNumber_93 F F v2 v3 t_at_2 r_6 (0 : Int32) t_at_7 t_fa_8)))))))
set_option maxRecDepth 20000 in
theorem n_X4_readNumber_X4 : ∀ w ∈ wsX40, w ∈ wsX4_readNumber := by decide +kernel
set_option maxRecDepth 20000 in
theorem w_X4_readNumber_f24 : Cond.fieldLink RX4 24 "LayerStacks$TextReader" "at" "I" ∈ wsX4_readNumber := by decide +kernel
set_option maxHeartbeats 4000000 in
set_option maxRecDepth 100000 in
theorem k_X4_readNumber_93 {p : Program} {l : Launch} {e : Env} {s : State} {m : MethodId} {args : Array Value} {below : List Frame} {meth : Method} {c : Code} {D : va_G} {y : Nat → ClassId} {A : Nat → Prop} {q : Nat → Nat} {t_ch : Nat → Int32} {t_len : Int32} {t_ls : Int32} {z : Int32 × Int32 × Int32} (C : CX p s m args meth c wsX4_readNumber RX4 cX4_readNumber 8 (some .int)) (hA : ∀ q : Nat, s.heap.size ≤ q → A q) (hK : va_K D vwCl (tyl y) s) (F : Nat) :
    ∀ (n : Nat), ∀ (v2 : Int32) (v3 : Int32) (v4 : Int32) (v5 : Int32) (v7 : Int32) (t_at : Int32) (t_fa : Int32) (H : Heap) (locs : List Loc) (ls : Array Slot), g_X4_readNumber_93 F n v2 v3 v4 v5 v7 t_at t_fa = some z → va_P D vwCl (wdX4 q y t_ch t_len t_at t_ls t_fa) H → va_D A (wdX4 q y t_ch t_len t_at t_ls t_fa) → va_S A s.heap H locs → lv_has ls 8 [(0, .ref (q 0)), (2, .int v2), (3, .int v3), (4, .int v4), (5, .int v5), (7, .int v7)] → W p l e ({ frames := 2, cells := 0, slots := 0, locals := 45 } : Room) s m args below meth c H locs 0 0 (MQ below (QI D y A (z.1) (wdX4 q y t_ch t_len (z.2.1) t_ls (z.2.2))) args s 0 0 A) (F0 m 93 ls []) := by
  obtain ⟨⟨hx, hb, hml, hown, hts⟩, hr, hlocks⟩ := id C
  intro n
  induction n with
  | zero =>
    intro v2 v3 v4 v5 v7 t_at t_fa H locs ls hm
    rw [g_X4_readNumber_93_z] at hm
    cases hm
  | succ n ih =>
    intro v2 v3 v4 v5 v7 t_at t_fa H locs ls hm hP hD hS hl
    rw [g_X4_readNumber_93_s] at hm
    refine lv_iload hx hb dX4_readNumber_93 (lv_at hl 5 rfl) ?_
    refine lv_iload_n hx hb dX4_readNumber_95 rfl (lv_at hl 1 rfl) ?_
    refine lv_icmp_ge (tgt := 112) hx hb dX4_readNumber_96 (by decide) (fun h_1 => ?_) (fun h_1 => ?_)
    · have hm := it_of hm h_1
      refine lv_iload hx hb dX4_readNumber_112 (lv_at hl 4 rfl) ?_
      refine lv_iload_n hx hb dX4_readNumber_114 rfl (lv_at hl 2 rfl) ?_
      refine lv_icmp_le (tgt := 127) hx hb dX4_readNumber_115 (by decide) (fun h_2 => ?_) (fun h_2 => ?_)
      · have hm := it_of hm h_2
        refine lv_iload hx hb dX4_readNumber_127 (lv_at hl 4 rfl) ?_
        have hz := Option.some.inj hm
        subst hz
        exact end_i C hK hP hD hS dX4_readNumber_129
      · have hm := ie_of hm h_2
        refine lv_aload_n hx hb dX4_readNumber_118 rfl (lv_at hl 0 rfl) ?_
        refine lv_iload hx hb dX4_readNumber_119 (lv_at hl 3 rfl) ?_
        obtain ⟨r_3, t_fa_4, hc_5, hm⟩ := mb2_of hm
        refine call_vi (wc := (wdX4 q y t_ch t_len t_at t_ls t_fa)) (wr := []) (As := [.int v4]) (rest := []) C (c_X4_faultAt l D y q _ F hc_5) (cwV 1 hts gX4_readNumber_X4_faultAt rfl rfl rfl (by decide +kernel) ⟨Nat.le_of_ble_eq_true rfl, Nat.le_of_ble_eq_true rfl⟩) hK hP hD hS hA [0, 1] [] rfl rfl rfl rfl rfl (by decide) rfl rfl rfl rfl hl.1 (Nat.le_of_ble_eq_true rfl) dX4_readNumber_121 (fun H locs hP hD hS => ?_)
        have hP : va_P D vwCl (wdX4 q y t_ch t_len t_at t_ls t_fa_4) H := hP
        have hD : va_D A (wdX4 q y t_ch t_len t_at t_ls t_fa_4) := hD
        refine lv_pop hx hb dX4_readNumber_124 rfl ?_
        refine lv_iconst (v := (-1 : Int32)) hx hb dX4_readNumber_125 (by decide) ?_
        have hz := Option.some.inj hm
        subst hz
        exact end_i C hK hP hD hS dX4_readNumber_126
    · have hm := ie_of hm h_1
      refine lv_iload hx hb dX4_readNumber_99 (lv_at hl 4 rfl) ?_
      refine lv_bipush (v := (10 : Int32)) hx hb dX4_readNumber_101 (by decide) ?_
      refine lv_imul hx hb dX4_readNumber_103 ?_
      refine lv_topi (fun v5_6 ev5_6 => ?_)
      have hm := mn_of ev5_6 hm
      refine lv_istore (lv' := [(5, .int v5_6), (0, .ref (q 0)), (2, .int v2), (3, .int v3), (4, .int v4), (7, .int v7)]) hx hb dX4_readNumber_104 hl (by decide) rfl (fun ls hl => ?_)
      obtain ⟨v7_7, ev7_7⟩ : ∃ y9 : Int32, y9 = (v7 + (1 : Int32)) := ⟨_, rfl⟩
      have hm := mn_of ev7_7 hm
      refine lv_iinc (v := v7_7) (lv' := [(7, .int v7_7), (5, .int v5_6), (0, .ref (q 0)), (2, .int v2), (3, .int v3), (4, .int v4)]) hx hb dX4_readNumber_106 hl (k := 5) rfl (by rw [ev7_7]; rfl) (by decide) rfl (fun ls hl => ?_)
      refine lv_goto (tgt := 93) hx hb dX4_readNumber_109 (by decide) ?_
      exact ih v2 v3 v4 v5_6 v7_7 t_at t_fa _ _ _ hm hP hD hS (lv_sub hl [2, 3, 4, 5, 1, 0] rfl)
set_option maxHeartbeats 4000000 in
set_option maxRecDepth 100000 in
theorem c_X4_readNumber (l : Launch) (D : va_G) (y : Nat → ClassId) (q : Nat → Nat) (sz : Nat) (F : Nat) {v1 : Int32} {v2 : Int32} {v3 : Int32} {t_ch : Nat → Int32} {t_len : Int32} {t_at : Int32} {t_ls : Int32} {t_fa : Int32} {z : Int32 × Int32 × Int32} (hm : f_X4_readNumber F v1 v2 v3 t_ch t_len t_at t_fa = some z) : Met l yX4_readNumber wsX4_readNumber ({ frames := 2, cells := 0, slots := 0, locals := 45 } : Room) (va_Pc [.ref (q 0), .int v1, .int v2, .int v3] (cP D y (wdX4 q y t_ch t_len t_at t_ls t_fa) sz)) (QI D y (va_A (wdX4 q y t_ch t_len t_at t_ls t_fa) sz) (z.1) (wdX4 q y t_ch t_len (z.2.1) t_ls (z.2.2))) 0 0 (va_A (wdX4 q y t_ch t_len t_at t_ls t_fa) sz) := by
  refine met_of (own := RX4) (cc := cX4_readNumber) (maxL := 8) (ret := (some .int)) (by decide) rfl rfl (Nat.le_of_ble_eq_true rfl) ?_
  intro p e s m below meth c ls C hsz hK hP hD hA hS hl
  obtain ⟨⟨hx, hb, hml, hown, hts⟩, hr, hlocks⟩ := id C
  have hl : lv_has ls 8 [(0, .ref (q 0)), (1, .int v1), (2, .int v2), (3, .int v3)] := hl
  generalize va_A (wdX4 q y t_ch t_len t_at t_ls t_fa) sz = A at hD hA hS ⊢
  generalize ([.ref (q 0), .int v1, .int v2, .int v3] : List Value).toArray = args at C hts ⊢
  unfold f_X4_readNumber at hm
  refine lv_aload_n hx hb dX4_readNumber_0 rfl (lv_at hl 0 rfl) ?_
  refine lv_bipush (v := (32 : Int32)) hx hb dX4_readNumber_1 (by decide) ?_
  obtain ⟨r_1, t_at_2, t_fa_3, hc_4, hm⟩ := mb3_of hm
  refine call_vi (wc := (wdX4 q y t_ch t_len t_at t_ls t_fa)) (wr := []) (As := [.int (32 : Int32)]) (rest := []) C (c_X4_expect l D y q _ F hc_4) (cwV 1 hts gX4_readNumber_X4_expect rfl rfl rfl (by decide +kernel) ⟨Nat.le_of_ble_eq_true rfl, Nat.le_of_ble_eq_true rfl⟩) hK hP hD hS hA [0, 1] [] rfl rfl rfl rfl rfl (by decide) rfl rfl rfl rfl hl.1 (Nat.le_of_ble_eq_true rfl) dX4_readNumber_3 (fun H locs hP hD hS => ?_)
  have hP : va_P D vwCl (wdX4 q y t_ch t_len t_at_2 t_ls t_fa_3) H := hP
  have hD : va_D A (wdX4 q y t_ch t_len t_at_2 t_ls t_fa_3) := hD
  refine lv_if_ne (tgt := 11) hx hb dX4_readNumber_6 (by decide) (fun h_5 => ?_) (fun h_5 => ?_)
  · have hm := ie_of hm h_5
    refine lv_aload_n hx hb dX4_readNumber_11 rfl (lv_at hl 0 rfl) ?_
    refine va_get (D := D) (ci := 4) (v := .int t_at_2) (C := RX4) (T := TX4) (N := 5) hx hb hts n_X4_readNumber_X4 hown hK hP 0 rfl rfl 2 (by decide) (hts _ w_X4_readNumber_f24) (fun _ h9 => h9) rfl dX4_readNumber_12 ?_
    refine lv_istore (lv' := [(4, .int t_at_2), (0, .ref (q 0)), (1, .int v1), (2, .int v2), (3, .int v3)]) hx hb dX4_readNumber_15 hl (by decide) rfl (fun ls hl => ?_)
    refine lv_aload_n hx hb dX4_readNumber_17 rfl (lv_at hl 1 rfl) ?_
    refine lv_iconst (v := (0 : Int32)) hx hb dX4_readNumber_18 (by decide) ?_
    refine lv_iload_n hx hb dX4_readNumber_19 rfl (lv_at hl 2 rfl) ?_
    obtain ⟨r_6, t_at_7, t_fa_8, hc_9, hm⟩ := mb3_of hm
    refine call_vi (wc := (wdX4 q y t_ch t_len t_at_2 t_ls t_fa_3)) (wr := []) (As := [.int (0 : Int32), .int v1]) (rest := []) C (c_X4_readDigits l D y q _ F hc_9) (cwV 2 hts gX4_readNumber_X4_readDigits rfl rfl rfl (by decide +kernel) ⟨Nat.le_of_ble_eq_true rfl, Nat.le_of_ble_eq_true rfl⟩) hK hP hD hS hA [0, 1] [] rfl rfl rfl rfl rfl (by decide) rfl rfl rfl rfl hl.1 (Nat.le_of_ble_eq_true rfl) dX4_readNumber_20 (fun H locs hP hD hS => ?_)
    have hP : va_P D vwCl (wdX4 q y t_ch t_len t_at_7 t_ls t_fa_8) H := hP
    have hD : va_D A (wdX4 q y t_ch t_len t_at_7 t_ls t_fa_8) := hD
    refine lv_istore (lv' := [(5, .int r_6), (4, .int t_at_2), (0, .ref (q 0)), (1, .int v1), (2, .int v2), (3, .int v3)]) hx hb dX4_readNumber_23 hl (by decide) rfl (fun ls hl => ?_)
    refine lv_iconst (v := (0 : Int32)) hx hb dX4_readNumber_25 (by decide) ?_
    refine lv_istore (lv' := [(6, .int (0 : Int32)), (5, .int r_6), (4, .int t_at_2), (0, .ref (q 0)), (1, .int v1), (2, .int v2), (3, .int v3)]) hx hb dX4_readNumber_26 hl (by decide) rfl (fun ls hl => ?_)
    refine lv_iload hx hb dX4_readNumber_28 (lv_at hl 1 rfl) ?_
    refine lv_iconst (v := (-1 : Int32)) hx hb dX4_readNumber_30 (by decide) ?_
    refine lv_icmp_eq (tgt := 81) hx hb dX4_readNumber_31 (by decide) (fun h_10 => ?_) (fun h_10 => ?_)
    · have hm := it_of hm h_10
      refine lv_iload hx hb dX4_readNumber_81 (lv_at hl 1 rfl) ?_
      refine lv_iconst (v := (-1 : Int32)) hx hb dX4_readNumber_83 (by decide) ?_
      refine lv_icmp_ne (tgt := 89) hx hb dX4_readNumber_84 (by decide) (fun h_11 => ?_) (fun h_11 => ?_)
      · have hm := ie_of hm h_11
        refine lv_iload hx hb dX4_readNumber_89 (lv_at hl 0 rfl) ?_
        refine lv_istore (lv' := [(7, .int (0 : Int32)), (6, .int (0 : Int32)), (5, .int r_6), (4, .int t_at_2), (0, .ref (q 0)), (1, .int v1), (2, .int v2), (3, .int v3)]) hx hb dX4_readNumber_91 hl (by decide) rfl (fun ls hl => ?_)
        exact k_X4_readNumber_93 C hA hK F F v2 v3 t_at_2 r_6 (0 : Int32) t_at_7 t_fa_8 _ _ _ hm hP hD hS (lv_sub hl [4, 6, 7, 3, 2, 0] rfl)
      · have hm := it_of hm h_11
        refine lv_iconst (v := (-1 : Int32)) hx hb dX4_readNumber_87 (by decide) ?_
        have hz := Option.some.inj hm
        subst hz
        exact end_i C hK hP hD hS dX4_readNumber_88
    · have hm := ie_of hm h_10
      refine lv_aload_n hx hb dX4_readNumber_34 rfl (lv_at hl 3 rfl) ?_
      refine lv_aload_n hx hb dX4_readNumber_35 rfl (lv_at hl 3 rfl) ?_
      refine va_get (D := D) (ci := 4) (v := .int t_at_7) (C := RX4) (T := TX4) (N := 5) hx hb hts n_X4_readNumber_X4 hown hK hP 0 rfl rfl 2 (by decide) (hts _ w_X4_readNumber_f24) (fun _ h9 => h9) rfl dX4_readNumber_36 ?_
      obtain ⟨r_12, hc_13, hm⟩ := mb1_of hm
      refine call_vi (wc := (wdX4 q y t_ch t_len t_at_7 t_ls t_fa_8)) (wr := []) (As := [.int t_at_7]) (rest := []) C (c_X4_characterAt l D y q _ F hc_13) (cwV 1 hts gX4_readNumber_X4_characterAt rfl rfl rfl (by decide +kernel) ⟨Nat.le_of_ble_eq_true rfl, Nat.le_of_ble_eq_true rfl⟩) hK hP hD hS hA [0, 1] [] rfl rfl rfl rfl rfl (by decide) rfl rfl rfl rfl hl.1 (Nat.le_of_ble_eq_true rfl) dX4_readNumber_39 (fun H locs hP hD hS => ?_)
      have hP : va_P D vwCl (wdX4 q y t_ch t_len t_at_7 t_ls t_fa_8) H := hP
      have hD : va_D A (wdX4 q y t_ch t_len t_at_7 t_ls t_fa_8) := hD
      refine lv_bipush (v := (46 : Int32)) hx hb dX4_readNumber_42 (by decide) ?_
      refine lv_icmp_ne (tgt := 81) hx hb dX4_readNumber_44 (by decide) (fun h_14 => ?_) (fun h_14 => ?_)
      · have hm := ie_of hm h_14
        refine lv_iload hx hb dX4_readNumber_81 (lv_at hl 1 rfl) ?_
        refine lv_iconst (v := (-1 : Int32)) hx hb dX4_readNumber_83 (by decide) ?_
        refine lv_icmp_ne (tgt := 89) hx hb dX4_readNumber_84 (by decide) (fun h_15 => ?_) (fun h_15 => ?_)
        · have hm := ie_of hm h_15
          refine lv_iload hx hb dX4_readNumber_89 (lv_at hl 0 rfl) ?_
          refine lv_istore (lv' := [(7, .int (0 : Int32)), (6, .int (0 : Int32)), (5, .int r_6), (4, .int t_at_2), (0, .ref (q 0)), (1, .int v1), (2, .int v2), (3, .int v3)]) hx hb dX4_readNumber_91 hl (by decide) rfl (fun ls hl => ?_)
          exact k_X4_readNumber_93 C hA hK F F v2 v3 t_at_2 r_6 (0 : Int32) t_at_7 t_fa_8 _ _ _ hm hP hD hS (lv_sub hl [4, 6, 7, 3, 2, 0] rfl)
        · have hm := it_of hm h_15
          refine lv_iconst (v := (-1 : Int32)) hx hb dX4_readNumber_87 (by decide) ?_
          have hz := Option.some.inj hm
          subst hz
          exact end_i C hK hP hD hS dX4_readNumber_88
      · have hm := it_of hm h_14
        refine lv_aload_n hx hb dX4_readNumber_47 rfl (lv_at hl 3 rfl) ?_
        refine lv_dup hx hb dX4_readNumber_48 rfl ?_
        refine va_get (D := D) (ci := 4) (v := .int t_at_7) (C := RX4) (T := TX4) (N := 5) hx hb hts n_X4_readNumber_X4 hown hK hP 0 rfl rfl 2 (by decide) (hts _ w_X4_readNumber_f24) (fun _ h9 => h9) rfl dX4_readNumber_49 ?_
        refine lv_iconst (v := (1 : Int32)) hx hb dX4_readNumber_52 (by decide) ?_
        refine lv_iadd hx hb dX4_readNumber_53 ?_
        refine va_put (D := D) (ci := 4) (v := .int (t_at_7 + (1 : Int32))) (ty := .int) (C := RX4) (T := TX4) (N := 5) hx hb hts n_X4_readNumber_X4 tyX4 tyX4_ok nmX4 hown hK hP hD hS 0 rfl rfl 2 (by decide) (hts _ w_X4_readNumber_f24) (fun _ h9 => h9) rfl (by decide +kernel) rfl rfl (Nat.le_of_ble_eq_true rfl) dX4_readNumber_54 (fun H locs hP hD hS => ?_)
        have hP : va_P D vwCl (wdX4 q y t_ch t_len (t_at_7 + (1 : Int32)) t_ls t_fa_8) H := hP
        have hD : va_D A (wdX4 q y t_ch t_len (t_at_7 + (1 : Int32)) t_ls t_fa_8) := hD
        refine lv_aload_n hx hb dX4_readNumber_57 rfl (lv_at hl 3 rfl) ?_
        refine va_get (D := D) (ci := 4) (v := .int (t_at_7 + (1 : Int32))) (C := RX4) (T := TX4) (N := 5) hx hb hts n_X4_readNumber_X4 hown hK hP 0 rfl rfl 2 (by decide) (hts _ w_X4_readNumber_f24) (fun _ h9 => h9) rfl dX4_readNumber_58 ?_
        refine lv_topi (fun v7_16 ev7_16 => ?_)
        have hm := mn_of ev7_16 hm
        refine lv_istore (lv' := [(7, .int v7_16), (6, .int (0 : Int32)), (5, .int r_6), (4, .int t_at_2), (0, .ref (q 0)), (1, .int v1), (2, .int v2), (3, .int v3)]) hx hb dX4_readNumber_61 hl (by decide) rfl (fun ls hl => ?_)
        refine lv_aload_n hx hb dX4_readNumber_63 rfl (lv_at hl 4 rfl) ?_
        refine lv_iload hx hb dX4_readNumber_64 (lv_at hl 2 rfl) ?_
        refine lv_iload_n hx hb dX4_readNumber_66 rfl (lv_at hl 6 rfl) ?_
        obtain ⟨r_17, t_at_18, t_fa_19, hc_20, hm⟩ := mb3_of hm
        refine call_vi (wc := (wdX4 q y t_ch t_len (t_at_7 + (1 : Int32)) t_ls t_fa_8)) (wr := []) (As := [.int r_6, .int v2]) (rest := []) C (c_X4_readDigits l D y q _ F hc_20) (cwV 2 hts gX4_readNumber_X4_readDigits rfl rfl rfl (by decide +kernel) ⟨Nat.le_of_ble_eq_true rfl, Nat.le_of_ble_eq_true rfl⟩) hK hP hD hS hA [0, 1] [] rfl rfl rfl rfl rfl (by decide) rfl rfl rfl rfl hl.1 (Nat.le_of_ble_eq_true rfl) dX4_readNumber_67 (fun H locs hP hD hS => ?_)
        have hP : va_P D vwCl (wdX4 q y t_ch t_len t_at_18 t_ls t_fa_19) H := hP
        have hD : va_D A (wdX4 q y t_ch t_len t_at_18 t_ls t_fa_19) := hD
        refine lv_istore (lv' := [(5, .int r_17), (7, .int v7_16), (6, .int (0 : Int32)), (4, .int t_at_2), (0, .ref (q 0)), (1, .int v1), (2, .int v2), (3, .int v3)]) hx hb dX4_readNumber_70 hl (by decide) rfl (fun ls hl => ?_)
        refine lv_aload_n hx hb dX4_readNumber_72 rfl (lv_at hl 4 rfl) ?_
        refine va_get (D := D) (ci := 4) (v := .int t_at_18) (C := RX4) (T := TX4) (N := 5) hx hb hts n_X4_readNumber_X4 hown hK hP 0 rfl rfl 2 (by decide) (hts _ w_X4_readNumber_f24) (fun _ h9 => h9) rfl dX4_readNumber_73 ?_
        refine lv_iload hx hb dX4_readNumber_76 (lv_at hl 1 rfl) ?_
        refine lv_isub hx hb dX4_readNumber_78 ?_
        refine lv_topi (fun v6_21 ev6_21 => ?_)
        have hm := mn_of ev6_21 hm
        refine lv_istore (lv' := [(6, .int v6_21), (5, .int r_17), (7, .int v7_16), (4, .int t_at_2), (0, .ref (q 0)), (1, .int v1), (2, .int v2), (3, .int v3)]) hx hb dX4_readNumber_79 hl (by decide) rfl (fun ls hl => ?_)
        refine lv_iload hx hb dX4_readNumber_81 (lv_at hl 1 rfl) ?_
        refine lv_iconst (v := (-1 : Int32)) hx hb dX4_readNumber_83 (by decide) ?_
        refine lv_icmp_ne (tgt := 89) hx hb dX4_readNumber_84 (by decide) (fun h_22 => ?_) (fun h_22 => ?_)
        · have hm := ie_of hm h_22
          refine lv_iload hx hb dX4_readNumber_89 (lv_at hl 0 rfl) ?_
          refine lv_istore (lv' := [(7, .int v6_21), (6, .int v6_21), (5, .int r_17), (4, .int t_at_2), (0, .ref (q 0)), (1, .int v1), (2, .int v2), (3, .int v3)]) hx hb dX4_readNumber_91 hl (by decide) rfl (fun ls hl => ?_)
          exact k_X4_readNumber_93 C hA hK F F v2 v3 t_at_2 r_17 v6_21 t_at_18 t_fa_19 _ _ _ hm hP hD hS (lv_sub hl [4, 6, 7, 3, 2, 0] rfl)
        · have hm := it_of hm h_22
          refine lv_iconst (v := (-1 : Int32)) hx hb dX4_readNumber_87 (by decide) ?_
          have hz := Option.some.inj hm
          subst hz
          exact end_i C hK hP hD hS dX4_readNumber_88
  · have hm := it_of hm h_5
    refine lv_iconst (v := (-1 : Int32)) hx hb dX4_readNumber_9 (by decide) ?_
    have hz := Option.some.inj hm
    subst hz
    exact end_i C hK hP hD hS dX4_readNumber_10
def f_X4_readCopper (F : Nat) (v2 : Int32) (t_ch : Nat → Int32) (t_len : Int32) (t_at : Int32) (t_fa : Int32) (b_n : Nat → Int64) (b_y : Nat → Int32) (b_C : Int32) : Option (Int32 × Int32 × Int32) := mb3 (f_X4_expect F (32 : Int32) t_ch t_len t_at t_fa) (fun r_1 t_at_2 t_fa_3 => (if r_1 = 0 then some ((-1 : Int32), t_at_2, t_fa_3) else mb3 (f_X4_readName F t_ch t_len t_at_2 t_fa_3) (fun r_6 t_at_7 t_fa_8 => (if (lg_cmp r_6 (0 : Int64)) = 0 then some ((-1 : Int32), t_at_7, t_fa_8) else mb1 (f_X0_findCopper F r_6 b_n b_y b_C) (fun r_11 => (if v2 < r_11 then some (r_11, t_at_7, t_fa_8) else mb2 (f_X4_faultAt F t_at_2 t_fa_8) (fun r_14 t_fa_15 => some ((-1 : Int32), t_at_7, t_fa_15))))))))
set_option maxRecDepth 20000 in
theorem n_X4_readCopper_X4 : ∀ w ∈ wsX40, w ∈ wsX4_readCopper := by decide +kernel
set_option maxRecDepth 20000 in
theorem w_X4_readCopper_f24 : Cond.fieldLink RX4 24 "LayerStacks$TextReader" "at" "I" ∈ wsX4_readCopper := by decide +kernel
set_option maxHeartbeats 4000000 in
set_option maxRecDepth 100000 in
theorem c_X4_readCopper (l : Launch) (D : va_G) (y : Nat → ClassId) (q : Nat → Nat) (q2 : Nat → Nat) (sz : Nat) (F : Nat) {v2 : Int32} {t_ch : Nat → Int32} {t_len : Int32} {t_at : Int32} {t_ls : Int32} {t_fa : Int32} {b_k : Nat → Int32} {b_n : Nat → Int64} {b_h : Nat → Int32} {b_d : Nat → Int32} {b_r : Nat → Int32} {b_u : Nat → Int32} {b_y : Nat → Int32} {b_p_s_f : Nat → Int32} {b_p_s_l : Nat → Int32} {b_p_s_c : Int32} {b_p_t : Int32} {b_v_f : Nat → Int32} {b_v_l : Nat → Int32} {b_v_c : Int32} {b_L : Int32} {b_C : Int32} {b_I : Int32} {z : Int32 × Int32 × Int32} (hm : f_X4_readCopper F v2 t_ch t_len t_at t_fa b_n b_y b_C = some z) : Met l yX4_readCopper wsX4_readCopper ({ frames := 3, cells := 0, slots := 0, locals := 63 } : Room) (va_Pc [.ref (q 0), .ref (q2 0), .int v2] (cP D y ((wdX4 q y t_ch t_len t_at t_ls t_fa) ++ (wdX0 q2 y b_k b_n b_h b_d b_r b_u b_y b_p_s_f b_p_s_l b_p_s_c b_p_t b_v_f b_v_l b_v_c b_L b_C b_I)) sz)) (QI D y (va_A ((wdX4 q y t_ch t_len t_at t_ls t_fa) ++ (wdX0 q2 y b_k b_n b_h b_d b_r b_u b_y b_p_s_f b_p_s_l b_p_s_c b_p_t b_v_f b_v_l b_v_c b_L b_C b_I)) sz) (z.1) ((wdX4 q y t_ch t_len (z.2.1) t_ls (z.2.2)) ++ (wdX0 q2 y b_k b_n b_h b_d b_r b_u b_y b_p_s_f b_p_s_l b_p_s_c b_p_t b_v_f b_v_l b_v_c b_L b_C b_I))) 0 0 (va_A ((wdX4 q y t_ch t_len t_at t_ls t_fa) ++ (wdX0 q2 y b_k b_n b_h b_d b_r b_u b_y b_p_s_f b_p_s_l b_p_s_c b_p_t b_v_f b_v_l b_v_c b_L b_C b_I)) sz) := by
  refine met_of (own := RX4) (cc := cX4_readCopper) (maxL := 7) (ret := (some .int)) (by decide) rfl rfl (Nat.le_of_ble_eq_true rfl) ?_
  intro p e s m below meth c ls C hsz hK hP hD hA hS hl
  obtain ⟨⟨hx, hb, hml, hown, hts⟩, hr, hlocks⟩ := id C
  have hl : lv_has ls 7 [(0, .ref (q 0)), (1, .ref (q2 0)), (2, .int v2)] := hl
  generalize va_A ((wdX4 q y t_ch t_len t_at t_ls t_fa) ++ (wdX0 q2 y b_k b_n b_h b_d b_r b_u b_y b_p_s_f b_p_s_l b_p_s_c b_p_t b_v_f b_v_l b_v_c b_L b_C b_I)) sz = A at hD hA hS ⊢
  generalize ([.ref (q 0), .ref (q2 0), .int v2] : List Value).toArray = args at C hts ⊢
  unfold f_X4_readCopper at hm
  refine lv_aload_n hx hb dX4_readCopper_0 rfl (lv_at hl 0 rfl) ?_
  refine lv_bipush (v := (32 : Int32)) hx hb dX4_readCopper_1 (by decide) ?_
  obtain ⟨r_1, t_at_2, t_fa_3, hc_4, hm⟩ := mb3_of hm
  refine call_vi (wc := (wdX4 q y t_ch t_len t_at t_ls t_fa)) (wr := [(q2 0, .inr (0, [.ref (q2 1), .ref (q2 2), .ref (q2 3), .ref (q2 4), .ref (q2 5), .ref (q2 6), .ref (q2 7), .ref (q2 8), .ref (q2 12), .int b_L, .int b_C, .int b_I])), (q2 1, .inl (y 0, 80, .inl b_k)), (q2 2, .inl (y 1, 80, .inr (.inl b_n))), (q2 3, .inl (y 0, 80, .inl b_h)), (q2 4, .inl (y 0, 80, .inl b_d)), (q2 5, .inl (y 0, 80, .inl b_r)), (q2 6, .inl (y 0, 80, .inl b_u)), (q2 7, .inl (y 0, 32, .inl b_y)), (q2 8, .inr (2, [.ref (q2 9), .int b_p_t])), (q2 9, .inr (3, [.ref (q2 10), .ref (q2 11), .int b_p_s_c])), (q2 10, .inl (y 0, 21, .inl b_p_s_f)), (q2 11, .inl (y 0, 21, .inl b_p_s_l)), (q2 12, .inr (3, [.ref (q2 13), .ref (q2 14), .int b_v_c])), (q2 13, .inl (y 0, 40, .inl b_v_f)), (q2 14, .inl (y 0, 40, .inl b_v_l))]) (As := [.int (32 : Int32)]) (rest := []) C (c_X4_expect l D y q _ F hc_4) (cwV 1 hts gX4_readCopper_X4_expect rfl rfl rfl (by decide +kernel) ⟨Nat.le_of_ble_eq_true rfl, Nat.le_of_ble_eq_true rfl⟩) hK hP hD hS hA [0, 1] [2, 3, 4, 5, 6, 7, 8, 9, 10, 11, 12, 13, 14, 15, 16] rfl rfl rfl rfl rfl (by decide) rfl rfl rfl rfl hl.1 (Nat.le_of_ble_eq_true rfl) dX4_readCopper_3 (fun H locs hP hD hS => ?_)
  have hP : va_P D vwCl ((wdX4 q y t_ch t_len t_at_2 t_ls t_fa_3) ++ (wdX0 q2 y b_k b_n b_h b_d b_r b_u b_y b_p_s_f b_p_s_l b_p_s_c b_p_t b_v_f b_v_l b_v_c b_L b_C b_I)) H := hP.sub [15, 16, 0, 1, 2, 3, 4, 5, 6, 7, 8, 9, 10, 11, 12, 13, 14] rfl
  have hD : va_D A ((wdX4 q y t_ch t_len t_at_2 t_ls t_fa_3) ++ (wdX0 q2 y b_k b_n b_h b_d b_r b_u b_y b_p_s_f b_p_s_l b_p_s_c b_p_t b_v_f b_v_l b_v_c b_L b_C b_I)) := hD.sub [15, 16, 0, 1, 2, 3, 4, 5, 6, 7, 8, 9, 10, 11, 12, 13, 14] (by decide) rfl
  refine lv_if_ne (tgt := 11) hx hb dX4_readCopper_6 (by decide) (fun h_5 => ?_) (fun h_5 => ?_)
  · have hm := ie_of hm h_5
    refine lv_aload_n hx hb dX4_readCopper_11 rfl (lv_at hl 0 rfl) ?_
    refine va_get (D := D) (ci := 4) (v := .int t_at_2) (C := RX4) (T := TX4) (N := 5) hx hb hts n_X4_readCopper_X4 hown hK hP 0 rfl rfl 2 (by decide) (hts _ w_X4_readCopper_f24) (fun _ h9 => h9) rfl dX4_readCopper_12 ?_
    refine lv_istore_n (lv' := [(3, .int t_at_2), (0, .ref (q 0)), (1, .ref (q2 0)), (2, .int v2)]) hx hb dX4_readCopper_15 rfl hl (by decide) rfl (fun ls hl => ?_)
    refine lv_aload_n hx hb dX4_readCopper_16 rfl (lv_at hl 1 rfl) ?_
    obtain ⟨r_6, t_at_7, t_fa_8, hc_9, hm⟩ := mb3_of hm
    refine call_vl (wc := (wdX4 q y t_ch t_len t_at_2 t_ls t_fa_3)) (wr := [(q2 0, .inr (0, [.ref (q2 1), .ref (q2 2), .ref (q2 3), .ref (q2 4), .ref (q2 5), .ref (q2 6), .ref (q2 7), .ref (q2 8), .ref (q2 12), .int b_L, .int b_C, .int b_I])), (q2 1, .inl (y 0, 80, .inl b_k)), (q2 2, .inl (y 1, 80, .inr (.inl b_n))), (q2 3, .inl (y 0, 80, .inl b_h)), (q2 4, .inl (y 0, 80, .inl b_d)), (q2 5, .inl (y 0, 80, .inl b_r)), (q2 6, .inl (y 0, 80, .inl b_u)), (q2 7, .inl (y 0, 32, .inl b_y)), (q2 8, .inr (2, [.ref (q2 9), .int b_p_t])), (q2 9, .inr (3, [.ref (q2 10), .ref (q2 11), .int b_p_s_c])), (q2 10, .inl (y 0, 21, .inl b_p_s_f)), (q2 11, .inl (y 0, 21, .inl b_p_s_l)), (q2 12, .inr (3, [.ref (q2 13), .ref (q2 14), .int b_v_c])), (q2 13, .inl (y 0, 40, .inl b_v_f)), (q2 14, .inl (y 0, 40, .inl b_v_l))]) (As := []) (rest := []) C (c_X4_readName l D y q _ F hc_9) (cwV 0 hts gX4_readCopper_X4_readName rfl rfl rfl (by decide +kernel) ⟨Nat.le_of_ble_eq_true rfl, Nat.le_of_ble_eq_true rfl⟩) hK hP hD hS hA [0, 1] [2, 3, 4, 5, 6, 7, 8, 9, 10, 11, 12, 13, 14, 15, 16] rfl rfl rfl rfl rfl (by decide) rfl rfl rfl rfl hl.1 (Nat.le_of_ble_eq_true rfl) dX4_readCopper_17 (fun H locs hP hD hS => ?_)
    have hP : va_P D vwCl ((wdX4 q y t_ch t_len t_at_7 t_ls t_fa_8) ++ (wdX0 q2 y b_k b_n b_h b_d b_r b_u b_y b_p_s_f b_p_s_l b_p_s_c b_p_t b_v_f b_v_l b_v_c b_L b_C b_I)) H := hP.sub [15, 16, 0, 1, 2, 3, 4, 5, 6, 7, 8, 9, 10, 11, 12, 13, 14] rfl
    have hD : va_D A ((wdX4 q y t_ch t_len t_at_7 t_ls t_fa_8) ++ (wdX0 q2 y b_k b_n b_h b_d b_r b_u b_y b_p_s_f b_p_s_l b_p_s_c b_p_t b_v_f b_v_l b_v_c b_L b_C b_I)) := hD.sub [15, 16, 0, 1, 2, 3, 4, 5, 6, 7, 8, 9, 10, 11, 12, 13, 14] (by decide) rfl
    refine lv_lstore (lv' := [(4, .long r_6), (3, .int t_at_2), (0, .ref (q 0)), (1, .ref (q2 0)), (2, .int v2)]) hx hb dX4_readCopper_20 hl (by decide) rfl (fun ls hl => ?_)
    refine lv_lload hx hb dX4_readCopper_22 (lv_at hl 0 rfl) ?_
    refine lv_lconst (v := (0 : Int64)) hx hb dX4_readCopper_24 (by decide) ?_
    refine W.lcmp hx hb dX4_readCopper_25 ?_
    refine lv_if_ne (tgt := 31) hx hb dX4_readCopper_26 (by decide) (fun h_10 => ?_) (fun h_10 => ?_)
    · have hm := ie_of hm h_10
      refine lv_aload_n hx hb dX4_readCopper_31 rfl (lv_at hl 3 rfl) ?_
      refine lv_lload hx hb dX4_readCopper_32 (lv_at hl 0 rfl) ?_
      obtain ⟨r_11, hc_12, hm⟩ := mb1_of hm
      refine call_vi (wc := (wdX0 q2 y b_k b_n b_h b_d b_r b_u b_y b_p_s_f b_p_s_l b_p_s_c b_p_t b_v_f b_v_l b_v_c b_L b_C b_I)) (wr := [(q 0, .inr (4, [.ref (q 1), .int t_len, .int t_at_7, .int t_ls, .int t_fa_8])), (q 1, .inl (y 2, 3000, .inl t_ch))]) (As := [.long r_6]) (rest := []) C (c_X0_findCopper l D y q2 _ F hc_12) (cwV 1 hts gX4_readCopper_X0_findCopper rfl rfl rfl (by decide +kernel) ⟨Nat.le_of_ble_eq_true rfl, Nat.le_of_ble_eq_true rfl⟩) hK hP hD hS hA [2, 3, 4, 5, 6, 7, 8, 9, 10, 11, 12, 13, 14, 15, 16] [0, 1] rfl rfl rfl rfl rfl (by decide) rfl rfl rfl rfl hl.1 (Nat.le_of_ble_eq_true rfl) dX4_readCopper_34 (fun H locs hP hD hS => ?_)
      have hP : va_P D vwCl ((wdX4 q y t_ch t_len t_at_7 t_ls t_fa_8) ++ (wdX0 q2 y b_k b_n b_h b_d b_r b_u b_y b_p_s_f b_p_s_l b_p_s_c b_p_t b_v_f b_v_l b_v_c b_L b_C b_I)) H := hP
      have hD : va_D A ((wdX4 q y t_ch t_len t_at_7 t_ls t_fa_8) ++ (wdX0 q2 y b_k b_n b_h b_d b_r b_u b_y b_p_s_f b_p_s_l b_p_s_c b_p_t b_v_f b_v_l b_v_c b_L b_C b_I)) := hD
      refine lv_istore (lv' := [(6, .int r_11), (4, .long r_6), (3, .int t_at_2), (0, .ref (q 0)), (1, .ref (q2 0)), (2, .int v2)]) hx hb dX4_readCopper_37 hl (by decide) rfl (fun ls hl => ?_)
      refine lv_iload hx hb dX4_readCopper_39 (lv_at hl 0 rfl) ?_
      refine lv_iload_n hx hb dX4_readCopper_41 rfl (lv_at hl 5 rfl) ?_
      refine lv_icmp_gt (tgt := 53) hx hb dX4_readCopper_42 (by decide) (fun h_13 => ?_) (fun h_13 => ?_)
      · have hm := it_of hm h_13
        refine lv_iload hx hb dX4_readCopper_53 (lv_at hl 0 rfl) ?_
        have hz := Option.some.inj hm
        subst hz
        exact end_i C hK hP hD hS dX4_readCopper_55
      · have hm := ie_of hm h_13
        refine lv_aload_n hx hb dX4_readCopper_45 rfl (lv_at hl 3 rfl) ?_
        refine lv_iload_n hx hb dX4_readCopper_46 rfl (lv_at hl 2 rfl) ?_
        obtain ⟨r_14, t_fa_15, hc_16, hm⟩ := mb2_of hm
        refine call_vi (wc := (wdX4 q y t_ch t_len t_at_7 t_ls t_fa_8)) (wr := [(q2 0, .inr (0, [.ref (q2 1), .ref (q2 2), .ref (q2 3), .ref (q2 4), .ref (q2 5), .ref (q2 6), .ref (q2 7), .ref (q2 8), .ref (q2 12), .int b_L, .int b_C, .int b_I])), (q2 1, .inl (y 0, 80, .inl b_k)), (q2 2, .inl (y 1, 80, .inr (.inl b_n))), (q2 3, .inl (y 0, 80, .inl b_h)), (q2 4, .inl (y 0, 80, .inl b_d)), (q2 5, .inl (y 0, 80, .inl b_r)), (q2 6, .inl (y 0, 80, .inl b_u)), (q2 7, .inl (y 0, 32, .inl b_y)), (q2 8, .inr (2, [.ref (q2 9), .int b_p_t])), (q2 9, .inr (3, [.ref (q2 10), .ref (q2 11), .int b_p_s_c])), (q2 10, .inl (y 0, 21, .inl b_p_s_f)), (q2 11, .inl (y 0, 21, .inl b_p_s_l)), (q2 12, .inr (3, [.ref (q2 13), .ref (q2 14), .int b_v_c])), (q2 13, .inl (y 0, 40, .inl b_v_f)), (q2 14, .inl (y 0, 40, .inl b_v_l))]) (As := [.int t_at_2]) (rest := []) C (c_X4_faultAt l D y q _ F hc_16) (cwV 1 hts gX4_readCopper_X4_faultAt rfl rfl rfl (by decide +kernel) ⟨Nat.le_of_ble_eq_true rfl, Nat.le_of_ble_eq_true rfl⟩) hK hP hD hS hA [0, 1] [2, 3, 4, 5, 6, 7, 8, 9, 10, 11, 12, 13, 14, 15, 16] rfl rfl rfl rfl rfl (by decide) rfl rfl rfl rfl hl.1 (Nat.le_of_ble_eq_true rfl) dX4_readCopper_47 (fun H locs hP hD hS => ?_)
        have hP : va_P D vwCl ((wdX4 q y t_ch t_len t_at_7 t_ls t_fa_15) ++ (wdX0 q2 y b_k b_n b_h b_d b_r b_u b_y b_p_s_f b_p_s_l b_p_s_c b_p_t b_v_f b_v_l b_v_c b_L b_C b_I)) H := hP.sub [15, 16, 0, 1, 2, 3, 4, 5, 6, 7, 8, 9, 10, 11, 12, 13, 14] rfl
        have hD : va_D A ((wdX4 q y t_ch t_len t_at_7 t_ls t_fa_15) ++ (wdX0 q2 y b_k b_n b_h b_d b_r b_u b_y b_p_s_f b_p_s_l b_p_s_c b_p_t b_v_f b_v_l b_v_c b_L b_C b_I)) := hD.sub [15, 16, 0, 1, 2, 3, 4, 5, 6, 7, 8, 9, 10, 11, 12, 13, 14] (by decide) rfl
        refine lv_pop hx hb dX4_readCopper_50 rfl ?_
        refine lv_iconst (v := (-1 : Int32)) hx hb dX4_readCopper_51 (by decide) ?_
        have hz := Option.some.inj hm
        subst hz
        exact end_i C hK hP hD hS dX4_readCopper_52
    · have hm := it_of hm h_10
      refine lv_iconst (v := (-1 : Int32)) hx hb dX4_readCopper_29 (by decide) ?_
      have hz := Option.some.inj hm
      subst hz
      exact end_i C hK hP hD hS dX4_readCopper_30
  · have hm := it_of hm h_5
    refine lv_iconst (v := (-1 : Int32)) hx hb dX4_readCopper_9 (by decide) ?_
    have hz := Option.some.inj hm
    subst hz
    exact end_i C hK hP hD hS dX4_readCopper_10
def g_X4_readLayer_68 (F : Nat) (v2 : Int32) (v4 : Int64) (t_ch : Nat → Int32) (t_len : Int32) (t_at : Int32) (t_fa : Int32) (b_k : Nat → Int32) (b_n : Nat → Int64) (b_h : Nat → Int32) (b_d : Nat → Int32) (b_r : Nat → Int32) (b_u : Nat → Int32) (b_y : Nat → Int32) (b_L : Int32) (b_C : Int32) (b_I : Int32) : Option (Int32 × Int32 × Int32 × (Nat → Int32) × (Nat → Int64) × (Nat → Int32) × (Nat → Int32) × (Nat → Int32) × (Nat → Int32) × (Nat → Int32) × Int32 × Int32 × Int32) := (if v2 = (4 : Int32) then mb10 (f_X0_addLayer F v2 v4 (0 : Int32) (0 : Int32) b_k b_n b_h b_d b_r b_u b_y b_L b_C b_I) (fun b_k_23 b_n_24 b_h_25 b_d_26 b_r_27 b_u_28 b_y_29 b_L_30 b_C_31 b_I_32 => some ((1 : Int32), t_at, t_fa, b_k_23, b_n_24, b_h_25, b_d_26, b_r_27, b_u_28, b_y_29, b_L_30, b_C_31, b_I_32)) else mb3 (f_X4_readNumber F (4 : Int32) (3 : Int32) (9999999 : Int32) t_ch t_len t_at t_fa) (fun r_2 t_at_3 t_fa_4 => (if r_2 = (-1 : Int32) then some ((0 : Int32), t_at_3, t_fa_4, b_k, b_n, b_h, b_d, b_r, b_u, b_y, b_L, b_C, b_I) else mb3 (f_X4_readNumber F (2 : Int32) (1 : Int32) (500 : Int32) t_ch t_len t_at_3 t_fa_4) (fun r_7 t_at_8 t_fa_9 => (if r_7 = (-1 : Int32) then some ((0 : Int32), t_at_8, t_fa_9, b_k, b_n, b_h, b_d, b_r, b_u, b_y, b_L, b_C, b_I) else mb10 (f_X0_addLayer F v2 v4 r_2 r_7 b_k b_n b_h b_d b_r b_u b_y b_L b_C b_I) (fun b_k_12 b_n_13 b_h_14 b_d_15 b_r_16 b_u_17 b_y_18 b_L_19 b_C_20 b_I_21 => some ((1 : Int32), t_at_8, t_fa_9, b_k_12, b_n_13, b_h_14, b_d_15, b_r_16, b_u_17, b_y_18, b_L_19, b_C_20, b_I_21)))))))
def f_X4_readLayer (F : Nat) (v2 : Int32) (t_ch : Nat → Int32) (t_len : Int32) (t_at : Int32) (t_ls : Int32) (t_fa : Int32) (b_k : Nat → Int32) (b_n : Nat → Int64) (b_h : Nat → Int32) (b_d : Nat → Int32) (b_r : Nat → Int32) (b_u : Nat → Int32) (b_y : Nat → Int32) (b_p_s_c : Int32) (b_p_t : Int32) (b_v_c : Int32) (b_L : Int32) (b_C : Int32) (b_I : Int32) : Option (Int32 × Int32 × Int32 × (Nat → Int32) × (Nat → Int64) × (Nat → Int32) × (Nat → Int32) × (Nat → Int32) × (Nat → Int32) × (Nat → Int32) × Int32 × Int32 × Int32) := mb1 (f_X0_canTake F v2 b_k b_p_s_c b_p_t b_v_c b_L b_C b_I) (fun r_1 => (if r_1 = 0 then mb2 (f_X4_faultAt F t_ls t_fa) (fun r_22 t_fa_23 => mg (vp_nar .boolean r_22 = r_22) (some (r_22, t_at, t_fa_23, b_k, b_n, b_h, b_d, b_r, b_u, b_y, b_L, b_C, b_I))) else mb3 (f_X4_expect F (32 : Int32) t_ch t_len t_at t_fa) (fun r_4 t_at_5 t_fa_6 => (if r_4 = 0 then some ((0 : Int32), t_at_5, t_fa_6, b_k, b_n, b_h, b_d, b_r, b_u, b_y, b_L, b_C, b_I) else mb3 (f_X4_readName F t_ch t_len t_at_5 t_fa_6) (fun r_9 t_at_10 t_fa_11 => (if (lg_cmp r_9 (0 : Int64)) = 0 then some ((0 : Int32), t_at_10, t_fa_11, b_k, b_n, b_h, b_d, b_r, b_u, b_y, b_L, b_C, b_I) else (if v2 = 0 then mb1 (f_X0_findCopper F r_9 b_n b_y b_C) (fun r_15 => (if r_15 = (-1 : Int32) then g_X4_readLayer_68 F v2 r_9 t_ch t_len t_at_10 t_fa_11 b_k b_n b_h b_d b_r b_u b_y b_L b_C b_I else mb2 (f_X4_faultAt F t_at_5 t_fa_11) (fun r_18 t_fa_19 => mg (vp_nar .boolean r_18 = r_18) (some (r_18, t_at_10, t_fa_19, b_k, b_n, b_h, b_d, b_r, b_u, b_y, b_L, b_C, b_I))))) else g_X4_readLayer_68 F v2 r_9 t_ch t_len t_at_10 t_fa_11 b_k b_n b_h b_d b_r b_u b_y b_L b_C b_I)))))))
set_option maxRecDepth 20000 in
theorem w_X4_readLayer_k101 : Cond.constant RX4 101 (9999999) ∈ wsX4_readLayer := by decide +kernel
set_option maxRecDepth 20000 in
theorem n_X4_readLayer_X4 : ∀ w ∈ wsX40, w ∈ wsX4_readLayer := by decide +kernel
set_option maxRecDepth 20000 in
theorem w_X4_readLayer_f24 : Cond.fieldLink RX4 24 "LayerStacks$TextReader" "at" "I" ∈ wsX4_readLayer := by decide +kernel
set_option maxRecDepth 20000 in
theorem w_X4_readLayer_f38 : Cond.fieldLink RX4 38 "LayerStacks$TextReader" "lineStart" "I" ∈ wsX4_readLayer := by decide +kernel
set_option maxHeartbeats 4000000 in
set_option maxRecDepth 100000 in
theorem k_X4_readLayer_68 {p : Program} {l : Launch} {e : Env} {s : State} {m : MethodId} {args : Array Value} {below : List Frame} {meth : Method} {c : Code} {D : va_G} {y : Nat → ClassId} {A : Nat → Prop} {q : Nat → Nat} {q2 : Nat → Nat} {t_ls : Int32} {b_p_s_f : Nat → Int32} {b_p_s_l : Nat → Int32} {b_p_s_c : Int32} {b_p_t : Int32} {b_v_f : Nat → Int32} {b_v_l : Nat → Int32} {b_v_c : Int32} {z : Int32 × Int32 × Int32 × (Nat → Int32) × (Nat → Int64) × (Nat → Int32) × (Nat → Int32) × (Nat → Int32) × (Nat → Int32) × (Nat → Int32) × Int32 × Int32 × Int32} (C : CX p s m args meth c wsX4_readLayer RX4 cX4_readLayer 8 (some .boolean)) (hA : ∀ q : Nat, s.heap.size ≤ q → A q) (hK : va_K D vwCl (tyl y) s) (F : Nat) :
    ∀ (v2 : Int32) (v4 : Int64) (t_ch : Nat → Int32) (t_len : Int32) (t_at : Int32) (t_fa : Int32) (b_k : Nat → Int32) (b_n : Nat → Int64) (b_h : Nat → Int32) (b_d : Nat → Int32) (b_r : Nat → Int32) (b_u : Nat → Int32) (b_y : Nat → Int32) (b_L : Int32) (b_C : Int32) (b_I : Int32) (H : Heap) (locs : List Loc) (ls : Array Slot), g_X4_readLayer_68 F v2 v4 t_ch t_len t_at t_fa b_k b_n b_h b_d b_r b_u b_y b_L b_C b_I = some z → va_P D vwCl ((wdX4 q y t_ch t_len t_at t_ls t_fa) ++ (wdX0 q2 y b_k b_n b_h b_d b_r b_u b_y b_p_s_f b_p_s_l b_p_s_c b_p_t b_v_f b_v_l b_v_c b_L b_C b_I)) H → va_D A ((wdX4 q y t_ch t_len t_at t_ls t_fa) ++ (wdX0 q2 y b_k b_n b_h b_d b_r b_u b_y b_p_s_f b_p_s_l b_p_s_c b_p_t b_v_f b_v_l b_v_c b_L b_C b_I)) → va_S A s.heap H locs → lv_has ls 8 [(0, .ref (q 0)), (1, .ref (q2 0)), (2, .int v2), (4, .long v4)] → W p l e ({ frames := 3, cells := 0, slots := 0, locals := 72 } : Room) s m args below meth c H locs 0 0 (MQ below (QI D y A (z.1) ((wdX4 q y t_ch t_len (z.2.1) t_ls (z.2.2.1)) ++ (wdX0 q2 y (z.2.2.2.1) (z.2.2.2.2.1) (z.2.2.2.2.2.1) (z.2.2.2.2.2.2.1) (z.2.2.2.2.2.2.2.1) (z.2.2.2.2.2.2.2.2.1) (z.2.2.2.2.2.2.2.2.2.1) b_p_s_f b_p_s_l b_p_s_c b_p_t b_v_f b_v_l b_v_c (z.2.2.2.2.2.2.2.2.2.2.1) (z.2.2.2.2.2.2.2.2.2.2.2.1) (z.2.2.2.2.2.2.2.2.2.2.2.2)))) args s 0 0 A) (F0 m 68 ls []) := by
  obtain ⟨⟨hx, hb, hml, hown, hts⟩, hr, hlocks⟩ := id C
  intro v2 v4 t_ch t_len t_at t_fa b_k b_n b_h b_d b_r b_u b_y b_L b_C b_I H locs ls hm hP hD hS hl
  unfold g_X4_readLayer_68 at hm
  refine lv_iload_n hx hb dX4_readLayer_68 rfl (lv_at hl 2 rfl) ?_
  refine lv_iconst (v := (4 : Int32)) hx hb dX4_readLayer_69 (by decide) ?_
  refine lv_icmp_ne (tgt := 84) hx hb dX4_readLayer_70 (by decide) (fun h_1 => ?_) (fun h_1 => ?_)
  · have hm := ie_of hm h_1
    refine lv_aload_n hx hb dX4_readLayer_84 rfl (lv_at hl 0 rfl) ?_
    refine lv_iconst (v := (4 : Int32)) hx hb dX4_readLayer_85 (by decide) ?_
    refine lv_iconst (v := (3 : Int32)) hx hb dX4_readLayer_86 (by decide) ?_
    refine lv_ldc (v := (9999999 : Int32)) hx hb hown (hts _ w_X4_readLayer_k101) dX4_readLayer_87 ?_
    obtain ⟨r_2, t_at_3, t_fa_4, hc_5, hm⟩ := mb3_of hm
    refine call_vi (wc := (wdX4 q y t_ch t_len t_at t_ls t_fa)) (wr := [(q2 0, .inr (0, [.ref (q2 1), .ref (q2 2), .ref (q2 3), .ref (q2 4), .ref (q2 5), .ref (q2 6), .ref (q2 7), .ref (q2 8), .ref (q2 12), .int b_L, .int b_C, .int b_I])), (q2 1, .inl (y 0, 80, .inl b_k)), (q2 2, .inl (y 1, 80, .inr (.inl b_n))), (q2 3, .inl (y 0, 80, .inl b_h)), (q2 4, .inl (y 0, 80, .inl b_d)), (q2 5, .inl (y 0, 80, .inl b_r)), (q2 6, .inl (y 0, 80, .inl b_u)), (q2 7, .inl (y 0, 32, .inl b_y)), (q2 8, .inr (2, [.ref (q2 9), .int b_p_t])), (q2 9, .inr (3, [.ref (q2 10), .ref (q2 11), .int b_p_s_c])), (q2 10, .inl (y 0, 21, .inl b_p_s_f)), (q2 11, .inl (y 0, 21, .inl b_p_s_l)), (q2 12, .inr (3, [.ref (q2 13), .ref (q2 14), .int b_v_c])), (q2 13, .inl (y 0, 40, .inl b_v_f)), (q2 14, .inl (y 0, 40, .inl b_v_l))]) (As := [.int (4 : Int32), .int (3 : Int32), .int (9999999 : Int32)]) (rest := []) C (c_X4_readNumber l D y q _ F hc_5) (cwV 3 hts gX4_readLayer_X4_readNumber rfl rfl rfl (by decide +kernel) ⟨Nat.le_of_ble_eq_true rfl, Nat.le_of_ble_eq_true rfl⟩) hK hP hD hS hA [0, 1] [2, 3, 4, 5, 6, 7, 8, 9, 10, 11, 12, 13, 14, 15, 16] rfl rfl rfl rfl rfl (by decide) rfl rfl rfl rfl hl.1 (Nat.le_of_ble_eq_true rfl) dX4_readLayer_89 (fun H locs hP hD hS => ?_)
    have hP : va_P D vwCl ((wdX4 q y t_ch t_len t_at_3 t_ls t_fa_4) ++ (wdX0 q2 y b_k b_n b_h b_d b_r b_u b_y b_p_s_f b_p_s_l b_p_s_c b_p_t b_v_f b_v_l b_v_c b_L b_C b_I)) H := hP.sub [15, 16, 0, 1, 2, 3, 4, 5, 6, 7, 8, 9, 10, 11, 12, 13, 14] rfl
    have hD : va_D A ((wdX4 q y t_ch t_len t_at_3 t_ls t_fa_4) ++ (wdX0 q2 y b_k b_n b_h b_d b_r b_u b_y b_p_s_f b_p_s_l b_p_s_c b_p_t b_v_f b_v_l b_v_c b_L b_C b_I)) := hD.sub [15, 16, 0, 1, 2, 3, 4, 5, 6, 7, 8, 9, 10, 11, 12, 13, 14] (by decide) rfl
    refine lv_istore (lv' := [(6, .int r_2), (0, .ref (q 0)), (1, .ref (q2 0)), (2, .int v2), (4, .long v4)]) hx hb dX4_readLayer_92 hl (by decide) rfl (fun ls hl => ?_)
    refine lv_iload hx hb dX4_readLayer_94 (lv_at hl 0 rfl) ?_
    refine lv_iconst (v := (-1 : Int32)) hx hb dX4_readLayer_96 (by decide) ?_
    refine lv_icmp_ne (tgt := 102) hx hb dX4_readLayer_97 (by decide) (fun h_6 => ?_) (fun h_6 => ?_)
    · have hm := ie_of hm h_6
      refine lv_aload_n hx hb dX4_readLayer_102 rfl (lv_at hl 1 rfl) ?_
      refine lv_iconst (v := (2 : Int32)) hx hb dX4_readLayer_103 (by decide) ?_
      refine lv_iconst (v := (1 : Int32)) hx hb dX4_readLayer_104 (by decide) ?_
      refine lv_sipush (v := (500 : Int32)) hx hb dX4_readLayer_105 (by decide) ?_
      obtain ⟨r_7, t_at_8, t_fa_9, hc_10, hm⟩ := mb3_of hm
      refine call_vi (wc := (wdX4 q y t_ch t_len t_at_3 t_ls t_fa_4)) (wr := [(q2 0, .inr (0, [.ref (q2 1), .ref (q2 2), .ref (q2 3), .ref (q2 4), .ref (q2 5), .ref (q2 6), .ref (q2 7), .ref (q2 8), .ref (q2 12), .int b_L, .int b_C, .int b_I])), (q2 1, .inl (y 0, 80, .inl b_k)), (q2 2, .inl (y 1, 80, .inr (.inl b_n))), (q2 3, .inl (y 0, 80, .inl b_h)), (q2 4, .inl (y 0, 80, .inl b_d)), (q2 5, .inl (y 0, 80, .inl b_r)), (q2 6, .inl (y 0, 80, .inl b_u)), (q2 7, .inl (y 0, 32, .inl b_y)), (q2 8, .inr (2, [.ref (q2 9), .int b_p_t])), (q2 9, .inr (3, [.ref (q2 10), .ref (q2 11), .int b_p_s_c])), (q2 10, .inl (y 0, 21, .inl b_p_s_f)), (q2 11, .inl (y 0, 21, .inl b_p_s_l)), (q2 12, .inr (3, [.ref (q2 13), .ref (q2 14), .int b_v_c])), (q2 13, .inl (y 0, 40, .inl b_v_f)), (q2 14, .inl (y 0, 40, .inl b_v_l))]) (As := [.int (2 : Int32), .int (1 : Int32), .int (500 : Int32)]) (rest := []) C (c_X4_readNumber l D y q _ F hc_10) (cwV 3 hts gX4_readLayer_X4_readNumber rfl rfl rfl (by decide +kernel) ⟨Nat.le_of_ble_eq_true rfl, Nat.le_of_ble_eq_true rfl⟩) hK hP hD hS hA [0, 1] [2, 3, 4, 5, 6, 7, 8, 9, 10, 11, 12, 13, 14, 15, 16] rfl rfl rfl rfl rfl (by decide) rfl rfl rfl rfl hl.1 (Nat.le_of_ble_eq_true rfl) dX4_readLayer_108 (fun H locs hP hD hS => ?_)
      have hP : va_P D vwCl ((wdX4 q y t_ch t_len t_at_8 t_ls t_fa_9) ++ (wdX0 q2 y b_k b_n b_h b_d b_r b_u b_y b_p_s_f b_p_s_l b_p_s_c b_p_t b_v_f b_v_l b_v_c b_L b_C b_I)) H := hP.sub [15, 16, 0, 1, 2, 3, 4, 5, 6, 7, 8, 9, 10, 11, 12, 13, 14] rfl
      have hD : va_D A ((wdX4 q y t_ch t_len t_at_8 t_ls t_fa_9) ++ (wdX0 q2 y b_k b_n b_h b_d b_r b_u b_y b_p_s_f b_p_s_l b_p_s_c b_p_t b_v_f b_v_l b_v_c b_L b_C b_I)) := hD.sub [15, 16, 0, 1, 2, 3, 4, 5, 6, 7, 8, 9, 10, 11, 12, 13, 14] (by decide) rfl
      refine lv_istore (lv' := [(7, .int r_7), (6, .int r_2), (0, .ref (q 0)), (1, .ref (q2 0)), (2, .int v2), (4, .long v4)]) hx hb dX4_readLayer_111 hl (by decide) rfl (fun ls hl => ?_)
      refine lv_iload hx hb dX4_readLayer_113 (lv_at hl 0 rfl) ?_
      refine lv_iconst (v := (-1 : Int32)) hx hb dX4_readLayer_115 (by decide) ?_
      refine lv_icmp_ne (tgt := 121) hx hb dX4_readLayer_116 (by decide) (fun h_11 => ?_) (fun h_11 => ?_)
      · have hm := ie_of hm h_11
        refine lv_aload_n hx hb dX4_readLayer_121 rfl (lv_at hl 3 rfl) ?_
        refine lv_iload_n hx hb dX4_readLayer_122 rfl (lv_at hl 4 rfl) ?_
        refine lv_lload hx hb dX4_readLayer_123 (lv_at hl 5 rfl) ?_
        refine lv_iload hx hb dX4_readLayer_125 (lv_at hl 1 rfl) ?_
        refine lv_iload hx hb dX4_readLayer_127 (lv_at hl 0 rfl) ?_
        obtain ⟨b_k_12, b_n_13, b_h_14, b_d_15, b_r_16, b_u_17, b_y_18, b_L_19, b_C_20, b_I_21, hc_22, hm⟩ := mb10_of hm
        refine call_vv (wc := (wdX0 q2 y b_k b_n b_h b_d b_r b_u b_y b_p_s_f b_p_s_l b_p_s_c b_p_t b_v_f b_v_l b_v_c b_L b_C b_I)) (wr := [(q 0, .inr (4, [.ref (q 1), .int t_len, .int t_at_8, .int t_ls, .int t_fa_9])), (q 1, .inl (y 2, 3000, .inl t_ch))]) (As := [.int v2, .long v4, .int r_2, .int r_7]) (rest := []) C (c_X0_addLayer l D y q2 _ F hc_22) (cwV 4 hts gX4_readLayer_X0_addLayer rfl rfl rfl (by decide +kernel) ⟨Nat.le_of_ble_eq_true rfl, Nat.le_of_ble_eq_true rfl⟩) hK hP hD hS hA [2, 3, 4, 5, 6, 7, 8, 9, 10, 11, 12, 13, 14, 15, 16] [0, 1] rfl rfl rfl rfl rfl (by decide) rfl rfl rfl rfl hl.1 (Nat.le_of_ble_eq_true rfl) dX4_readLayer_129 (fun H locs hP hD hS => ?_)
        have hP : va_P D vwCl ((wdX4 q y t_ch t_len t_at_8 t_ls t_fa_9) ++ (wdX0 q2 y b_k_12 b_n_13 b_h_14 b_d_15 b_r_16 b_u_17 b_y_18 b_p_s_f b_p_s_l b_p_s_c b_p_t b_v_f b_v_l b_v_c b_L_19 b_C_20 b_I_21)) H := hP
        have hD : va_D A ((wdX4 q y t_ch t_len t_at_8 t_ls t_fa_9) ++ (wdX0 q2 y b_k_12 b_n_13 b_h_14 b_d_15 b_r_16 b_u_17 b_y_18 b_p_s_f b_p_s_l b_p_s_c b_p_t b_v_f b_v_l b_v_c b_L_19 b_C_20 b_I_21)) := hD
        refine lv_iconst (v := (1 : Int32)) hx hb dX4_readLayer_132 (by decide) ?_
        have hz := Option.some.inj hm
        subst hz
        exact end_z C hK hP hD hS (show vp_nar .boolean (1 : Int32) = (1 : Int32) from by decide) dX4_readLayer_133
      · have hm := it_of hm h_11
        refine lv_iconst (v := (0 : Int32)) hx hb dX4_readLayer_119 (by decide) ?_
        have hz := Option.some.inj hm
        subst hz
        exact end_z C hK hP hD hS (show vp_nar .boolean (0 : Int32) = (0 : Int32) from by decide) dX4_readLayer_120
    · have hm := it_of hm h_6
      refine lv_iconst (v := (0 : Int32)) hx hb dX4_readLayer_100 (by decide) ?_
      have hz := Option.some.inj hm
      subst hz
      exact end_z C hK hP hD hS (show vp_nar .boolean (0 : Int32) = (0 : Int32) from by decide) dX4_readLayer_101
  · have hm := it_of hm h_1
    refine lv_aload_n hx hb dX4_readLayer_73 rfl (lv_at hl 1 rfl) ?_
    refine lv_iload_n hx hb dX4_readLayer_74 rfl (lv_at hl 2 rfl) ?_
    refine lv_lload hx hb dX4_readLayer_75 (lv_at hl 3 rfl) ?_
    refine lv_iconst (v := (0 : Int32)) hx hb dX4_readLayer_77 (by decide) ?_
    refine lv_iconst (v := (0 : Int32)) hx hb dX4_readLayer_78 (by decide) ?_
    obtain ⟨b_k_23, b_n_24, b_h_25, b_d_26, b_r_27, b_u_28, b_y_29, b_L_30, b_C_31, b_I_32, hc_33, hm⟩ := mb10_of hm
    refine call_vv (wc := (wdX0 q2 y b_k b_n b_h b_d b_r b_u b_y b_p_s_f b_p_s_l b_p_s_c b_p_t b_v_f b_v_l b_v_c b_L b_C b_I)) (wr := [(q 0, .inr (4, [.ref (q 1), .int t_len, .int t_at, .int t_ls, .int t_fa])), (q 1, .inl (y 2, 3000, .inl t_ch))]) (As := [.int v2, .long v4, .int (0 : Int32), .int (0 : Int32)]) (rest := []) C (c_X0_addLayer l D y q2 _ F hc_33) (cwV 4 hts gX4_readLayer_X0_addLayer rfl rfl rfl (by decide +kernel) ⟨Nat.le_of_ble_eq_true rfl, Nat.le_of_ble_eq_true rfl⟩) hK hP hD hS hA [2, 3, 4, 5, 6, 7, 8, 9, 10, 11, 12, 13, 14, 15, 16] [0, 1] rfl rfl rfl rfl rfl (by decide) rfl rfl rfl rfl hl.1 (Nat.le_of_ble_eq_true rfl) dX4_readLayer_79 (fun H locs hP hD hS => ?_)
    have hP : va_P D vwCl ((wdX4 q y t_ch t_len t_at t_ls t_fa) ++ (wdX0 q2 y b_k_23 b_n_24 b_h_25 b_d_26 b_r_27 b_u_28 b_y_29 b_p_s_f b_p_s_l b_p_s_c b_p_t b_v_f b_v_l b_v_c b_L_30 b_C_31 b_I_32)) H := hP
    have hD : va_D A ((wdX4 q y t_ch t_len t_at t_ls t_fa) ++ (wdX0 q2 y b_k_23 b_n_24 b_h_25 b_d_26 b_r_27 b_u_28 b_y_29 b_p_s_f b_p_s_l b_p_s_c b_p_t b_v_f b_v_l b_v_c b_L_30 b_C_31 b_I_32)) := hD
    refine lv_iconst (v := (1 : Int32)) hx hb dX4_readLayer_82 (by decide) ?_
    have hz := Option.some.inj hm
    subst hz
    exact end_z C hK hP hD hS (show vp_nar .boolean (1 : Int32) = (1 : Int32) from by decide) dX4_readLayer_83
set_option maxHeartbeats 4000000 in
set_option maxRecDepth 100000 in
theorem c_X4_readLayer (l : Launch) (D : va_G) (y : Nat → ClassId) (q : Nat → Nat) (q2 : Nat → Nat) (sz : Nat) (F : Nat) {v2 : Int32} {t_ch : Nat → Int32} {t_len : Int32} {t_at : Int32} {t_ls : Int32} {t_fa : Int32} {b_k : Nat → Int32} {b_n : Nat → Int64} {b_h : Nat → Int32} {b_d : Nat → Int32} {b_r : Nat → Int32} {b_u : Nat → Int32} {b_y : Nat → Int32} {b_p_s_f : Nat → Int32} {b_p_s_l : Nat → Int32} {b_p_s_c : Int32} {b_p_t : Int32} {b_v_f : Nat → Int32} {b_v_l : Nat → Int32} {b_v_c : Int32} {b_L : Int32} {b_C : Int32} {b_I : Int32} {z : Int32 × Int32 × Int32 × (Nat → Int32) × (Nat → Int64) × (Nat → Int32) × (Nat → Int32) × (Nat → Int32) × (Nat → Int32) × (Nat → Int32) × Int32 × Int32 × Int32} (hm : f_X4_readLayer F v2 t_ch t_len t_at t_ls t_fa b_k b_n b_h b_d b_r b_u b_y b_p_s_c b_p_t b_v_c b_L b_C b_I = some z) : Met l yX4_readLayer wsX4_readLayer ({ frames := 3, cells := 0, slots := 0, locals := 72 } : Room) (va_Pc [.ref (q 0), .ref (q2 0), .int v2] (cP D y ((wdX4 q y t_ch t_len t_at t_ls t_fa) ++ (wdX0 q2 y b_k b_n b_h b_d b_r b_u b_y b_p_s_f b_p_s_l b_p_s_c b_p_t b_v_f b_v_l b_v_c b_L b_C b_I)) sz)) (QI D y (va_A ((wdX4 q y t_ch t_len t_at t_ls t_fa) ++ (wdX0 q2 y b_k b_n b_h b_d b_r b_u b_y b_p_s_f b_p_s_l b_p_s_c b_p_t b_v_f b_v_l b_v_c b_L b_C b_I)) sz) (z.1) ((wdX4 q y t_ch t_len (z.2.1) t_ls (z.2.2.1)) ++ (wdX0 q2 y (z.2.2.2.1) (z.2.2.2.2.1) (z.2.2.2.2.2.1) (z.2.2.2.2.2.2.1) (z.2.2.2.2.2.2.2.1) (z.2.2.2.2.2.2.2.2.1) (z.2.2.2.2.2.2.2.2.2.1) b_p_s_f b_p_s_l b_p_s_c b_p_t b_v_f b_v_l b_v_c (z.2.2.2.2.2.2.2.2.2.2.1) (z.2.2.2.2.2.2.2.2.2.2.2.1) (z.2.2.2.2.2.2.2.2.2.2.2.2)))) 0 0 (va_A ((wdX4 q y t_ch t_len t_at t_ls t_fa) ++ (wdX0 q2 y b_k b_n b_h b_d b_r b_u b_y b_p_s_f b_p_s_l b_p_s_c b_p_t b_v_f b_v_l b_v_c b_L b_C b_I)) sz) := by
  refine met_of (own := RX4) (cc := cX4_readLayer) (maxL := 8) (ret := (some .boolean)) (by decide) rfl rfl (Nat.le_of_ble_eq_true rfl) ?_
  intro p e s m below meth c ls C hsz hK hP hD hA hS hl
  obtain ⟨⟨hx, hb, hml, hown, hts⟩, hr, hlocks⟩ := id C
  have hl : lv_has ls 8 [(0, .ref (q 0)), (1, .ref (q2 0)), (2, .int v2)] := hl
  generalize va_A ((wdX4 q y t_ch t_len t_at t_ls t_fa) ++ (wdX0 q2 y b_k b_n b_h b_d b_r b_u b_y b_p_s_f b_p_s_l b_p_s_c b_p_t b_v_f b_v_l b_v_c b_L b_C b_I)) sz = A at hD hA hS ⊢
  generalize ([.ref (q 0), .ref (q2 0), .int v2] : List Value).toArray = args at C hts ⊢
  unfold f_X4_readLayer at hm
  refine lv_aload_n hx hb dX4_readLayer_0 rfl (lv_at hl 1 rfl) ?_
  refine lv_iload_n hx hb dX4_readLayer_1 rfl (lv_at hl 2 rfl) ?_
  obtain ⟨r_1, hc_2, hm⟩ := mb1_of hm
  refine call_vi (wc := (wdX0 q2 y b_k b_n b_h b_d b_r b_u b_y b_p_s_f b_p_s_l b_p_s_c b_p_t b_v_f b_v_l b_v_c b_L b_C b_I)) (wr := [(q 0, .inr (4, [.ref (q 1), .int t_len, .int t_at, .int t_ls, .int t_fa])), (q 1, .inl (y 2, 3000, .inl t_ch))]) (As := [.int v2]) (rest := []) C (c_X0_canTake l D y q2 _ F hc_2) (cwV 1 hts gX4_readLayer_X0_canTake rfl rfl rfl (by decide +kernel) ⟨Nat.le_of_ble_eq_true rfl, Nat.le_of_ble_eq_true rfl⟩) hK hP hD hS hA [2, 3, 4, 5, 6, 7, 8, 9, 10, 11, 12, 13, 14, 15, 16] [0, 1] rfl rfl rfl rfl rfl (by decide) rfl rfl rfl rfl hl.1 (Nat.le_of_ble_eq_true rfl) dX4_readLayer_2 (fun H locs hP hD hS => ?_)
  have hP : va_P D vwCl ((wdX4 q y t_ch t_len t_at t_ls t_fa) ++ (wdX0 q2 y b_k b_n b_h b_d b_r b_u b_y b_p_s_f b_p_s_l b_p_s_c b_p_t b_v_f b_v_l b_v_c b_L b_C b_I)) H := hP
  have hD : va_D A ((wdX4 q y t_ch t_len t_at t_ls t_fa) ++ (wdX0 q2 y b_k b_n b_h b_d b_r b_u b_y b_p_s_f b_p_s_l b_p_s_c b_p_t b_v_f b_v_l b_v_c b_L b_C b_I)) := hD
  refine lv_if_ne (tgt := 17) hx hb dX4_readLayer_5 (by decide) (fun h_3 => ?_) (fun h_3 => ?_)
  · have hm := ie_of hm h_3
    refine lv_aload_n hx hb dX4_readLayer_17 rfl (lv_at hl 0 rfl) ?_
    refine lv_bipush (v := (32 : Int32)) hx hb dX4_readLayer_18 (by decide) ?_
    obtain ⟨r_4, t_at_5, t_fa_6, hc_7, hm⟩ := mb3_of hm
    refine call_vi (wc := (wdX4 q y t_ch t_len t_at t_ls t_fa)) (wr := [(q2 0, .inr (0, [.ref (q2 1), .ref (q2 2), .ref (q2 3), .ref (q2 4), .ref (q2 5), .ref (q2 6), .ref (q2 7), .ref (q2 8), .ref (q2 12), .int b_L, .int b_C, .int b_I])), (q2 1, .inl (y 0, 80, .inl b_k)), (q2 2, .inl (y 1, 80, .inr (.inl b_n))), (q2 3, .inl (y 0, 80, .inl b_h)), (q2 4, .inl (y 0, 80, .inl b_d)), (q2 5, .inl (y 0, 80, .inl b_r)), (q2 6, .inl (y 0, 80, .inl b_u)), (q2 7, .inl (y 0, 32, .inl b_y)), (q2 8, .inr (2, [.ref (q2 9), .int b_p_t])), (q2 9, .inr (3, [.ref (q2 10), .ref (q2 11), .int b_p_s_c])), (q2 10, .inl (y 0, 21, .inl b_p_s_f)), (q2 11, .inl (y 0, 21, .inl b_p_s_l)), (q2 12, .inr (3, [.ref (q2 13), .ref (q2 14), .int b_v_c])), (q2 13, .inl (y 0, 40, .inl b_v_f)), (q2 14, .inl (y 0, 40, .inl b_v_l))]) (As := [.int (32 : Int32)]) (rest := []) C (c_X4_expect l D y q _ F hc_7) (cwV 1 hts gX4_readLayer_X4_expect rfl rfl rfl (by decide +kernel) ⟨Nat.le_of_ble_eq_true rfl, Nat.le_of_ble_eq_true rfl⟩) hK hP hD hS hA [0, 1] [2, 3, 4, 5, 6, 7, 8, 9, 10, 11, 12, 13, 14, 15, 16] rfl rfl rfl rfl rfl (by decide) rfl rfl rfl rfl hl.1 (Nat.le_of_ble_eq_true rfl) dX4_readLayer_20 (fun H locs hP hD hS => ?_)
    have hP : va_P D vwCl ((wdX4 q y t_ch t_len t_at_5 t_ls t_fa_6) ++ (wdX0 q2 y b_k b_n b_h b_d b_r b_u b_y b_p_s_f b_p_s_l b_p_s_c b_p_t b_v_f b_v_l b_v_c b_L b_C b_I)) H := hP.sub [15, 16, 0, 1, 2, 3, 4, 5, 6, 7, 8, 9, 10, 11, 12, 13, 14] rfl
    have hD : va_D A ((wdX4 q y t_ch t_len t_at_5 t_ls t_fa_6) ++ (wdX0 q2 y b_k b_n b_h b_d b_r b_u b_y b_p_s_f b_p_s_l b_p_s_c b_p_t b_v_f b_v_l b_v_c b_L b_C b_I)) := hD.sub [15, 16, 0, 1, 2, 3, 4, 5, 6, 7, 8, 9, 10, 11, 12, 13, 14] (by decide) rfl
    refine lv_if_ne (tgt := 28) hx hb dX4_readLayer_23 (by decide) (fun h_8 => ?_) (fun h_8 => ?_)
    · have hm := ie_of hm h_8
      refine lv_aload_n hx hb dX4_readLayer_28 rfl (lv_at hl 0 rfl) ?_
      refine va_get (D := D) (ci := 4) (v := .int t_at_5) (C := RX4) (T := TX4) (N := 5) hx hb hts n_X4_readLayer_X4 hown hK hP 0 rfl rfl 2 (by decide) (hts _ w_X4_readLayer_f24) (fun _ h9 => h9) rfl dX4_readLayer_29 ?_
      refine lv_istore_n (lv' := [(3, .int t_at_5), (0, .ref (q 0)), (1, .ref (q2 0)), (2, .int v2)]) hx hb dX4_readLayer_32 rfl hl (by decide) rfl (fun ls hl => ?_)
      refine lv_aload_n hx hb dX4_readLayer_33 rfl (lv_at hl 1 rfl) ?_
      obtain ⟨r_9, t_at_10, t_fa_11, hc_12, hm⟩ := mb3_of hm
      refine call_vl (wc := (wdX4 q y t_ch t_len t_at_5 t_ls t_fa_6)) (wr := [(q2 0, .inr (0, [.ref (q2 1), .ref (q2 2), .ref (q2 3), .ref (q2 4), .ref (q2 5), .ref (q2 6), .ref (q2 7), .ref (q2 8), .ref (q2 12), .int b_L, .int b_C, .int b_I])), (q2 1, .inl (y 0, 80, .inl b_k)), (q2 2, .inl (y 1, 80, .inr (.inl b_n))), (q2 3, .inl (y 0, 80, .inl b_h)), (q2 4, .inl (y 0, 80, .inl b_d)), (q2 5, .inl (y 0, 80, .inl b_r)), (q2 6, .inl (y 0, 80, .inl b_u)), (q2 7, .inl (y 0, 32, .inl b_y)), (q2 8, .inr (2, [.ref (q2 9), .int b_p_t])), (q2 9, .inr (3, [.ref (q2 10), .ref (q2 11), .int b_p_s_c])), (q2 10, .inl (y 0, 21, .inl b_p_s_f)), (q2 11, .inl (y 0, 21, .inl b_p_s_l)), (q2 12, .inr (3, [.ref (q2 13), .ref (q2 14), .int b_v_c])), (q2 13, .inl (y 0, 40, .inl b_v_f)), (q2 14, .inl (y 0, 40, .inl b_v_l))]) (As := []) (rest := []) C (c_X4_readName l D y q _ F hc_12) (cwV 0 hts gX4_readLayer_X4_readName rfl rfl rfl (by decide +kernel) ⟨Nat.le_of_ble_eq_true rfl, Nat.le_of_ble_eq_true rfl⟩) hK hP hD hS hA [0, 1] [2, 3, 4, 5, 6, 7, 8, 9, 10, 11, 12, 13, 14, 15, 16] rfl rfl rfl rfl rfl (by decide) rfl rfl rfl rfl hl.1 (Nat.le_of_ble_eq_true rfl) dX4_readLayer_34 (fun H locs hP hD hS => ?_)
      have hP : va_P D vwCl ((wdX4 q y t_ch t_len t_at_10 t_ls t_fa_11) ++ (wdX0 q2 y b_k b_n b_h b_d b_r b_u b_y b_p_s_f b_p_s_l b_p_s_c b_p_t b_v_f b_v_l b_v_c b_L b_C b_I)) H := hP.sub [15, 16, 0, 1, 2, 3, 4, 5, 6, 7, 8, 9, 10, 11, 12, 13, 14] rfl
      have hD : va_D A ((wdX4 q y t_ch t_len t_at_10 t_ls t_fa_11) ++ (wdX0 q2 y b_k b_n b_h b_d b_r b_u b_y b_p_s_f b_p_s_l b_p_s_c b_p_t b_v_f b_v_l b_v_c b_L b_C b_I)) := hD.sub [15, 16, 0, 1, 2, 3, 4, 5, 6, 7, 8, 9, 10, 11, 12, 13, 14] (by decide) rfl
      refine lv_lstore (lv' := [(4, .long r_9), (3, .int t_at_5), (0, .ref (q 0)), (1, .ref (q2 0)), (2, .int v2)]) hx hb dX4_readLayer_37 hl (by decide) rfl (fun ls hl => ?_)
      refine lv_lload hx hb dX4_readLayer_39 (lv_at hl 0 rfl) ?_
      refine lv_lconst (v := (0 : Int64)) hx hb dX4_readLayer_41 (by decide) ?_
      refine W.lcmp hx hb dX4_readLayer_42 ?_
      refine lv_if_ne (tgt := 48) hx hb dX4_readLayer_43 (by decide) (fun h_13 => ?_) (fun h_13 => ?_)
      · have hm := ie_of hm h_13
        refine lv_iload_n hx hb dX4_readLayer_48 rfl (lv_at hl 4 rfl) ?_
        refine lv_if_ne (tgt := 68) hx hb dX4_readLayer_49 (by decide) (fun h_14 => ?_) (fun h_14 => ?_)
        · have hm := ie_of hm h_14
          exact k_X4_readLayer_68 C hA hK F v2 r_9 t_ch t_len t_at_10 t_fa_11 b_k b_n b_h b_d b_r b_u b_y b_L b_C b_I _ _ _ hm hP hD hS (lv_sub hl [2, 3, 4, 0] rfl)
        · have hm := it_of hm h_14
          refine lv_aload_n hx hb dX4_readLayer_52 rfl (lv_at hl 3 rfl) ?_
          refine lv_lload hx hb dX4_readLayer_53 (lv_at hl 0 rfl) ?_
          obtain ⟨r_15, hc_16, hm⟩ := mb1_of hm
          refine call_vi (wc := (wdX0 q2 y b_k b_n b_h b_d b_r b_u b_y b_p_s_f b_p_s_l b_p_s_c b_p_t b_v_f b_v_l b_v_c b_L b_C b_I)) (wr := [(q 0, .inr (4, [.ref (q 1), .int t_len, .int t_at_10, .int t_ls, .int t_fa_11])), (q 1, .inl (y 2, 3000, .inl t_ch))]) (As := [.long r_9]) (rest := []) C (c_X0_findCopper l D y q2 _ F hc_16) (cwV 1 hts gX4_readLayer_X0_findCopper rfl rfl rfl (by decide +kernel) ⟨Nat.le_of_ble_eq_true rfl, Nat.le_of_ble_eq_true rfl⟩) hK hP hD hS hA [2, 3, 4, 5, 6, 7, 8, 9, 10, 11, 12, 13, 14, 15, 16] [0, 1] rfl rfl rfl rfl rfl (by decide) rfl rfl rfl rfl hl.1 (Nat.le_of_ble_eq_true rfl) dX4_readLayer_55 (fun H locs hP hD hS => ?_)
          have hP : va_P D vwCl ((wdX4 q y t_ch t_len t_at_10 t_ls t_fa_11) ++ (wdX0 q2 y b_k b_n b_h b_d b_r b_u b_y b_p_s_f b_p_s_l b_p_s_c b_p_t b_v_f b_v_l b_v_c b_L b_C b_I)) H := hP
          have hD : va_D A ((wdX4 q y t_ch t_len t_at_10 t_ls t_fa_11) ++ (wdX0 q2 y b_k b_n b_h b_d b_r b_u b_y b_p_s_f b_p_s_l b_p_s_c b_p_t b_v_f b_v_l b_v_c b_L b_C b_I)) := hD
          refine lv_iconst (v := (-1 : Int32)) hx hb dX4_readLayer_58 (by decide) ?_
          refine lv_icmp_eq (tgt := 68) hx hb dX4_readLayer_59 (by decide) (fun h_17 => ?_) (fun h_17 => ?_)
          · have hm := it_of hm h_17
            exact k_X4_readLayer_68 C hA hK F v2 r_9 t_ch t_len t_at_10 t_fa_11 b_k b_n b_h b_d b_r b_u b_y b_L b_C b_I _ _ _ hm hP hD hS (lv_sub hl [2, 3, 4, 0] rfl)
          · have hm := ie_of hm h_17
            refine lv_aload_n hx hb dX4_readLayer_62 rfl (lv_at hl 2 rfl) ?_
            refine lv_iload_n hx hb dX4_readLayer_63 rfl (lv_at hl 1 rfl) ?_
            obtain ⟨r_18, t_fa_19, hc_20, hm⟩ := mb2_of hm
            refine call_vi (wc := (wdX4 q y t_ch t_len t_at_10 t_ls t_fa_11)) (wr := [(q2 0, .inr (0, [.ref (q2 1), .ref (q2 2), .ref (q2 3), .ref (q2 4), .ref (q2 5), .ref (q2 6), .ref (q2 7), .ref (q2 8), .ref (q2 12), .int b_L, .int b_C, .int b_I])), (q2 1, .inl (y 0, 80, .inl b_k)), (q2 2, .inl (y 1, 80, .inr (.inl b_n))), (q2 3, .inl (y 0, 80, .inl b_h)), (q2 4, .inl (y 0, 80, .inl b_d)), (q2 5, .inl (y 0, 80, .inl b_r)), (q2 6, .inl (y 0, 80, .inl b_u)), (q2 7, .inl (y 0, 32, .inl b_y)), (q2 8, .inr (2, [.ref (q2 9), .int b_p_t])), (q2 9, .inr (3, [.ref (q2 10), .ref (q2 11), .int b_p_s_c])), (q2 10, .inl (y 0, 21, .inl b_p_s_f)), (q2 11, .inl (y 0, 21, .inl b_p_s_l)), (q2 12, .inr (3, [.ref (q2 13), .ref (q2 14), .int b_v_c])), (q2 13, .inl (y 0, 40, .inl b_v_f)), (q2 14, .inl (y 0, 40, .inl b_v_l))]) (As := [.int t_at_5]) (rest := []) C (c_X4_faultAt l D y q _ F hc_20) (cwV 1 hts gX4_readLayer_X4_faultAt rfl rfl rfl (by decide +kernel) ⟨Nat.le_of_ble_eq_true rfl, Nat.le_of_ble_eq_true rfl⟩) hK hP hD hS hA [0, 1] [2, 3, 4, 5, 6, 7, 8, 9, 10, 11, 12, 13, 14, 15, 16] rfl rfl rfl rfl rfl (by decide) rfl rfl rfl rfl hl.1 (Nat.le_of_ble_eq_true rfl) dX4_readLayer_64 (fun H locs hP hD hS => ?_)
            have hP : va_P D vwCl ((wdX4 q y t_ch t_len t_at_10 t_ls t_fa_19) ++ (wdX0 q2 y b_k b_n b_h b_d b_r b_u b_y b_p_s_f b_p_s_l b_p_s_c b_p_t b_v_f b_v_l b_v_c b_L b_C b_I)) H := hP.sub [15, 16, 0, 1, 2, 3, 4, 5, 6, 7, 8, 9, 10, 11, 12, 13, 14] rfl
            have hD : va_D A ((wdX4 q y t_ch t_len t_at_10 t_ls t_fa_19) ++ (wdX0 q2 y b_k b_n b_h b_d b_r b_u b_y b_p_s_f b_p_s_l b_p_s_c b_p_t b_v_f b_v_l b_v_c b_L b_C b_I)) := hD.sub [15, 16, 0, 1, 2, 3, 4, 5, 6, 7, 8, 9, 10, 11, 12, 13, 14] (by decide) rfl
            obtain ⟨hg_21, hm⟩ := mg_of hm
            have hz := Option.some.inj hm
            subst hz
            exact end_z C hK hP hD hS hg_21 dX4_readLayer_67
      · have hm := it_of hm h_13
        refine lv_iconst (v := (0 : Int32)) hx hb dX4_readLayer_46 (by decide) ?_
        have hz := Option.some.inj hm
        subst hz
        exact end_z C hK hP hD hS (show vp_nar .boolean (0 : Int32) = (0 : Int32) from by decide) dX4_readLayer_47
    · have hm := it_of hm h_8
      refine lv_iconst (v := (0 : Int32)) hx hb dX4_readLayer_26 (by decide) ?_
      have hz := Option.some.inj hm
      subst hz
      exact end_z C hK hP hD hS (show vp_nar .boolean (0 : Int32) = (0 : Int32) from by decide) dX4_readLayer_27
  · have hm := it_of hm h_3
    refine lv_aload_n hx hb dX4_readLayer_8 rfl (lv_at hl 0 rfl) ?_
    refine lv_aload_n hx hb dX4_readLayer_9 rfl (lv_at hl 0 rfl) ?_
    refine va_get (D := D) (ci := 4) (v := .int t_ls) (C := RX4) (T := TX4) (N := 5) hx hb hts n_X4_readLayer_X4 hown hK hP 0 rfl rfl 3 (by decide) (hts _ w_X4_readLayer_f38) (fun _ h9 => h9) rfl dX4_readLayer_10 ?_
    obtain ⟨r_22, t_fa_23, hc_24, hm⟩ := mb2_of hm
    refine call_vi (wc := (wdX4 q y t_ch t_len t_at t_ls t_fa)) (wr := [(q2 0, .inr (0, [.ref (q2 1), .ref (q2 2), .ref (q2 3), .ref (q2 4), .ref (q2 5), .ref (q2 6), .ref (q2 7), .ref (q2 8), .ref (q2 12), .int b_L, .int b_C, .int b_I])), (q2 1, .inl (y 0, 80, .inl b_k)), (q2 2, .inl (y 1, 80, .inr (.inl b_n))), (q2 3, .inl (y 0, 80, .inl b_h)), (q2 4, .inl (y 0, 80, .inl b_d)), (q2 5, .inl (y 0, 80, .inl b_r)), (q2 6, .inl (y 0, 80, .inl b_u)), (q2 7, .inl (y 0, 32, .inl b_y)), (q2 8, .inr (2, [.ref (q2 9), .int b_p_t])), (q2 9, .inr (3, [.ref (q2 10), .ref (q2 11), .int b_p_s_c])), (q2 10, .inl (y 0, 21, .inl b_p_s_f)), (q2 11, .inl (y 0, 21, .inl b_p_s_l)), (q2 12, .inr (3, [.ref (q2 13), .ref (q2 14), .int b_v_c])), (q2 13, .inl (y 0, 40, .inl b_v_f)), (q2 14, .inl (y 0, 40, .inl b_v_l))]) (As := [.int t_ls]) (rest := []) C (c_X4_faultAt l D y q _ F hc_24) (cwV 1 hts gX4_readLayer_X4_faultAt rfl rfl rfl (by decide +kernel) ⟨Nat.le_of_ble_eq_true rfl, Nat.le_of_ble_eq_true rfl⟩) hK hP hD hS hA [0, 1] [2, 3, 4, 5, 6, 7, 8, 9, 10, 11, 12, 13, 14, 15, 16] rfl rfl rfl rfl rfl (by decide) rfl rfl rfl rfl hl.1 (Nat.le_of_ble_eq_true rfl) dX4_readLayer_13 (fun H locs hP hD hS => ?_)
    have hP : va_P D vwCl ((wdX4 q y t_ch t_len t_at t_ls t_fa_23) ++ (wdX0 q2 y b_k b_n b_h b_d b_r b_u b_y b_p_s_f b_p_s_l b_p_s_c b_p_t b_v_f b_v_l b_v_c b_L b_C b_I)) H := hP.sub [15, 16, 0, 1, 2, 3, 4, 5, 6, 7, 8, 9, 10, 11, 12, 13, 14] rfl
    have hD : va_D A ((wdX4 q y t_ch t_len t_at t_ls t_fa_23) ++ (wdX0 q2 y b_k b_n b_h b_d b_r b_u b_y b_p_s_f b_p_s_l b_p_s_c b_p_t b_v_f b_v_l b_v_c b_L b_C b_I)) := hD.sub [15, 16, 0, 1, 2, 3, 4, 5, 6, 7, 8, 9, 10, 11, 12, 13, 14] (by decide) rfl
    obtain ⟨hg_25, hm⟩ := mg_of hm
    have hz := Option.some.inj hm
    subst hz
    exact end_z C hK hP hD hS hg_25 dX4_readLayer_16
def g_X4_readSpan_46 (F : Nat) (v2 : Int32) (v3 : Int32) (st0 : Int32) (t_at : Int32) (t_ls : Int32) (t_fa : Int32) (b_p_s_f : Nat → Int32) (b_p_s_l : Nat → Int32) (b_p_s_c : Int32) (b_p_t : Int32) (b_v_f : Nat → Int32) (b_v_l : Nat → Int32) (b_v_c : Int32) : Option (Int32 × Int32 × Int32 × (Nat → Int32) × (Nat → Int32) × Int32 × Int32 × (Nat → Int32) × (Nat → Int32) × Int32) := (if st0 = (-1 : Int32) then some ((0 : Int32), t_at, t_fa, b_p_s_f, b_p_s_l, b_p_s_c, b_p_t, b_v_f, b_v_l, b_v_c) else mb8 (f_X0_tell F v2 v3 st0 b_p_s_f b_p_s_l b_p_s_c b_p_t b_v_f b_v_l b_v_c) (fun r_2 b_p_s_f_3 b_p_s_l_4 b_p_s_c_5 b_p_t_6 b_v_f_7 b_v_l_8 b_v_c_9 => (if r_2 = 0 then mb2 (f_X4_faultAt F t_ls t_fa) (fun r_12 t_fa_13 => (if r_12 = 0 then some ((0 : Int32), t_at, t_fa_13, b_p_s_f_3, b_p_s_l_4, b_p_s_c_5, b_p_t_6, b_v_f_7, b_v_l_8, b_v_c_9) else some ((1 : Int32), t_at, t_fa_13, b_p_s_f_3, b_p_s_l_4, b_p_s_c_5, b_p_t_6, b_v_f_7, b_v_l_8, b_v_c_9))) else some ((1 : Int32), t_at, t_fa, b_p_s_f_3, b_p_s_l_4, b_p_s_c_5, b_p_t_6, b_v_f_7, b_v_l_8, b_v_c_9))))
def f_X4_readSpan (F : Nat) (v2 : Int32) (t_ch : Nat → Int32) (t_len : Int32) (t_at : Int32) (t_ls : Int32) (t_fa : Int32) (b_k : Nat → Int32) (b_n : Nat → Int64) (b_y : Nat → Int32) (b_p_s_f : Nat → Int32) (b_p_s_l : Nat → Int32) (b_p_s_c : Int32) (b_p_t : Int32) (b_v_f : Nat → Int32) (b_v_l : Nat → Int32) (b_v_c : Int32) (b_L : Int32) (b_C : Int32) : Option (Int32 × Int32 × Int32 × (Nat → Int32) × (Nat → Int32) × Int32 × Int32 × (Nat → Int32) × (Nat → Int32) × Int32) := mb4 (f_X0_endLayers F b_k b_p_s_f b_p_s_l b_p_s_c b_L b_C) (fun r_1 b_p_s_f_2 b_p_s_l_3 b_p_s_c_4 => (if r_1 = 0 then mb2 (f_X4_faultAt F t_ls t_fa) (fun r_7 t_fa_8 => mg (vp_nar .boolean r_7 = r_7) (some (r_7, t_at, t_fa_8, b_p_s_f_2, b_p_s_l_3, b_p_s_c_4, b_p_t, b_v_f, b_v_l, b_v_c))) else mb1 (f_X0_canTell F v2 b_p_s_c_4 b_p_t b_v_c) (fun r_11 => (if r_11 = 0 then mb2 (f_X4_faultAt F t_ls t_fa) (fun r_23 t_fa_24 => mg (vp_nar .boolean r_23 = r_23) (some (r_23, t_at, t_fa_24, b_p_s_f_2, b_p_s_l_3, b_p_s_c_4, b_p_t, b_v_f, b_v_l, b_v_c))) else mb3 (f_X4_readCopper F (-1 : Int32) t_ch t_len t_at t_fa b_n b_y b_C) (fun r_14 t_at_15 t_fa_16 => (if r_14 = (-1 : Int32) then g_X4_readSpan_46 F v2 r_14 (-1 : Int32) t_at_15 t_ls t_fa_16 b_p_s_f_2 b_p_s_l_3 b_p_s_c_4 b_p_t b_v_f b_v_l b_v_c else mb3 (f_X4_readCopper F r_14 t_ch t_len t_at_15 t_fa_16 b_n b_y b_C) (fun r_19 t_at_20 t_fa_21 => g_X4_readSpan_46 F v2 r_14 r_19 t_at_20 t_ls t_fa_21 b_p_s_f_2 b_p_s_l_3 b_p_s_c_4 b_p_t b_v_f b_v_l b_v_c)))))))
set_option maxRecDepth 20000 in
theorem n_X4_readSpan_X4 : ∀ w ∈ wsX40, w ∈ wsX4_readSpan := by decide +kernel
set_option maxRecDepth 20000 in
theorem w_X4_readSpan_f38 : Cond.fieldLink RX4 38 "LayerStacks$TextReader" "lineStart" "I" ∈ wsX4_readSpan := by decide +kernel
set_option maxHeartbeats 4000000 in
set_option maxRecDepth 100000 in
theorem k_X4_readSpan_46 {p : Program} {l : Launch} {e : Env} {s : State} {m : MethodId} {args : Array Value} {below : List Frame} {meth : Method} {c : Code} {D : va_G} {y : Nat → ClassId} {A : Nat → Prop} {q : Nat → Nat} {q2 : Nat → Nat} {t_ch : Nat → Int32} {t_len : Int32} {b_k : Nat → Int32} {b_n : Nat → Int64} {b_h : Nat → Int32} {b_d : Nat → Int32} {b_r : Nat → Int32} {b_u : Nat → Int32} {b_y : Nat → Int32} {b_L : Int32} {b_C : Int32} {b_I : Int32} {z : Int32 × Int32 × Int32 × (Nat → Int32) × (Nat → Int32) × Int32 × Int32 × (Nat → Int32) × (Nat → Int32) × Int32} (C : CX p s m args meth c wsX4_readSpan RX4 cX4_readSpan 5 (some .boolean)) (hA : ∀ q : Nat, s.heap.size ≤ q → A q) (hK : va_K D vwCl (tyl y) s) (F : Nat) :
    ∀ (v2 : Int32) (v3 : Int32) (st0 : Int32) (t_at : Int32) (t_ls : Int32) (t_fa : Int32) (b_p_s_f : Nat → Int32) (b_p_s_l : Nat → Int32) (b_p_s_c : Int32) (b_p_t : Int32) (b_v_f : Nat → Int32) (b_v_l : Nat → Int32) (b_v_c : Int32) (H : Heap) (locs : List Loc) (ls : Array Slot), g_X4_readSpan_46 F v2 v3 st0 t_at t_ls t_fa b_p_s_f b_p_s_l b_p_s_c b_p_t b_v_f b_v_l b_v_c = some z → va_P D vwCl ((wdX4 q y t_ch t_len t_at t_ls t_fa) ++ (wdX0 q2 y b_k b_n b_h b_d b_r b_u b_y b_p_s_f b_p_s_l b_p_s_c b_p_t b_v_f b_v_l b_v_c b_L b_C b_I)) H → va_D A ((wdX4 q y t_ch t_len t_at t_ls t_fa) ++ (wdX0 q2 y b_k b_n b_h b_d b_r b_u b_y b_p_s_f b_p_s_l b_p_s_c b_p_t b_v_f b_v_l b_v_c b_L b_C b_I)) → va_S A s.heap H locs → lv_has ls 5 [(0, .ref (q 0)), (1, .ref (q2 0)), (2, .int v2), (3, .int v3)] → W p l e ({ frames := 4, cells := 0, slots := 0, locals := 95 } : Room) s m args below meth c H locs 0 0 (MQ below (QI D y A (z.1) ((wdX4 q y t_ch t_len (z.2.1) t_ls (z.2.2.1)) ++ (wdX0 q2 y b_k b_n b_h b_d b_r b_u b_y (z.2.2.2.1) (z.2.2.2.2.1) (z.2.2.2.2.2.1) (z.2.2.2.2.2.2.1) (z.2.2.2.2.2.2.2.1) (z.2.2.2.2.2.2.2.2.1) (z.2.2.2.2.2.2.2.2.2) b_L b_C b_I))) args s 0 0 A) (F0 m 46 ls [.int st0]) := by
  obtain ⟨⟨hx, hb, hml, hown, hts⟩, hr, hlocks⟩ := id C
  intro v2 v3 st0 t_at t_ls t_fa b_p_s_f b_p_s_l b_p_s_c b_p_t b_v_f b_v_l b_v_c H locs ls hm hP hD hS hl
  unfold g_X4_readSpan_46 at hm
  refine lv_istore (lv' := [(4, .int st0), (0, .ref (q 0)), (1, .ref (q2 0)), (2, .int v2), (3, .int v3)]) hx hb dX4_readSpan_46 hl (by decide) rfl (fun ls hl => ?_)
  refine lv_iload hx hb dX4_readSpan_48 (lv_at hl 0 rfl) ?_
  refine lv_iconst (v := (-1 : Int32)) hx hb dX4_readSpan_50 (by decide) ?_
  refine lv_icmp_ne (tgt := 56) hx hb dX4_readSpan_51 (by decide) (fun h_1 => ?_) (fun h_1 => ?_)
  · have hm := ie_of hm h_1
    refine lv_aload_n hx hb dX4_readSpan_56 rfl (lv_at hl 2 rfl) ?_
    refine lv_iload_n hx hb dX4_readSpan_57 rfl (lv_at hl 3 rfl) ?_
    refine lv_iload_n hx hb dX4_readSpan_58 rfl (lv_at hl 4 rfl) ?_
    refine lv_iload hx hb dX4_readSpan_59 (lv_at hl 0 rfl) ?_
    obtain ⟨r_2, b_p_s_f_3, b_p_s_l_4, b_p_s_c_5, b_p_t_6, b_v_f_7, b_v_l_8, b_v_c_9, hc_10, hm⟩ := mb8_of hm
    refine call_vi (wc := (wdX0 q2 y b_k b_n b_h b_d b_r b_u b_y b_p_s_f b_p_s_l b_p_s_c b_p_t b_v_f b_v_l b_v_c b_L b_C b_I)) (wr := [(q 0, .inr (4, [.ref (q 1), .int t_len, .int t_at, .int t_ls, .int t_fa])), (q 1, .inl (y 2, 3000, .inl t_ch))]) (As := [.int v2, .int v3, .int st0]) (rest := []) C (c_X0_tell l D y q2 _ F hc_10) (cwV 3 hts gX4_readSpan_X0_tell rfl rfl rfl (by decide +kernel) ⟨Nat.le_of_ble_eq_true rfl, Nat.le_of_ble_eq_true rfl⟩) hK hP hD hS hA [2, 3, 4, 5, 6, 7, 8, 9, 10, 11, 12, 13, 14, 15, 16] [0, 1] rfl rfl rfl rfl rfl (by decide) rfl rfl rfl rfl hl.1 (Nat.le_of_ble_eq_true rfl) dX4_readSpan_61 (fun H locs hP hD hS => ?_)
    have hP : va_P D vwCl ((wdX4 q y t_ch t_len t_at t_ls t_fa) ++ (wdX0 q2 y b_k b_n b_h b_d b_r b_u b_y b_p_s_f_3 b_p_s_l_4 b_p_s_c_5 b_p_t_6 b_v_f_7 b_v_l_8 b_v_c_9 b_L b_C b_I)) H := hP
    have hD : va_D A ((wdX4 q y t_ch t_len t_at t_ls t_fa) ++ (wdX0 q2 y b_k b_n b_h b_d b_r b_u b_y b_p_s_f_3 b_p_s_l_4 b_p_s_c_5 b_p_t_6 b_v_f_7 b_v_l_8 b_v_c_9 b_L b_C b_I)) := hD
    refine lv_if_ne (tgt := 78) hx hb dX4_readSpan_64 (by decide) (fun h_11 => ?_) (fun h_11 => ?_)
    · have hm := ie_of hm h_11
      refine lv_iconst (v := (1 : Int32)) hx hb dX4_readSpan_78 (by decide) ?_
      refine lv_goto (tgt := 83) hx hb dX4_readSpan_79 (by decide) ?_
      have hz := Option.some.inj hm
      subst hz
      exact end_z C hK hP hD hS (show vp_nar .boolean (1 : Int32) = (1 : Int32) from by decide) dX4_readSpan_83
    · have hm := it_of hm h_11
      refine lv_aload_n hx hb dX4_readSpan_67 rfl (lv_at hl 1 rfl) ?_
      refine lv_aload_n hx hb dX4_readSpan_68 rfl (lv_at hl 1 rfl) ?_
      refine va_get (D := D) (ci := 4) (v := .int t_ls) (C := RX4) (T := TX4) (N := 5) hx hb hts n_X4_readSpan_X4 hown hK hP 0 rfl rfl 3 (by decide) (hts _ w_X4_readSpan_f38) (fun _ h9 => h9) rfl dX4_readSpan_69 ?_
      obtain ⟨r_12, t_fa_13, hc_14, hm⟩ := mb2_of hm
      refine call_vi (wc := (wdX4 q y t_ch t_len t_at t_ls t_fa)) (wr := [(q2 0, .inr (0, [.ref (q2 1), .ref (q2 2), .ref (q2 3), .ref (q2 4), .ref (q2 5), .ref (q2 6), .ref (q2 7), .ref (q2 8), .ref (q2 12), .int b_L, .int b_C, .int b_I])), (q2 1, .inl (y 0, 80, .inl b_k)), (q2 2, .inl (y 1, 80, .inr (.inl b_n))), (q2 3, .inl (y 0, 80, .inl b_h)), (q2 4, .inl (y 0, 80, .inl b_d)), (q2 5, .inl (y 0, 80, .inl b_r)), (q2 6, .inl (y 0, 80, .inl b_u)), (q2 7, .inl (y 0, 32, .inl b_y)), (q2 8, .inr (2, [.ref (q2 9), .int b_p_t_6])), (q2 9, .inr (3, [.ref (q2 10), .ref (q2 11), .int b_p_s_c_5])), (q2 10, .inl (y 0, 21, .inl b_p_s_f_3)), (q2 11, .inl (y 0, 21, .inl b_p_s_l_4)), (q2 12, .inr (3, [.ref (q2 13), .ref (q2 14), .int b_v_c_9])), (q2 13, .inl (y 0, 40, .inl b_v_f_7)), (q2 14, .inl (y 0, 40, .inl b_v_l_8))]) (As := [.int t_ls]) (rest := []) C (c_X4_faultAt l D y q _ F hc_14) (cwV 1 hts gX4_readSpan_X4_faultAt rfl rfl rfl (by decide +kernel) ⟨Nat.le_of_ble_eq_true rfl, Nat.le_of_ble_eq_true rfl⟩) hK hP hD hS hA [0, 1] [2, 3, 4, 5, 6, 7, 8, 9, 10, 11, 12, 13, 14, 15, 16] rfl rfl rfl rfl rfl (by decide) rfl rfl rfl rfl hl.1 (Nat.le_of_ble_eq_true rfl) dX4_readSpan_72 (fun H locs hP hD hS => ?_)
      have hP : va_P D vwCl ((wdX4 q y t_ch t_len t_at t_ls t_fa_13) ++ (wdX0 q2 y b_k b_n b_h b_d b_r b_u b_y b_p_s_f_3 b_p_s_l_4 b_p_s_c_5 b_p_t_6 b_v_f_7 b_v_l_8 b_v_c_9 b_L b_C b_I)) H := hP.sub [15, 16, 0, 1, 2, 3, 4, 5, 6, 7, 8, 9, 10, 11, 12, 13, 14] rfl
      have hD : va_D A ((wdX4 q y t_ch t_len t_at t_ls t_fa_13) ++ (wdX0 q2 y b_k b_n b_h b_d b_r b_u b_y b_p_s_f_3 b_p_s_l_4 b_p_s_c_5 b_p_t_6 b_v_f_7 b_v_l_8 b_v_c_9 b_L b_C b_I)) := hD.sub [15, 16, 0, 1, 2, 3, 4, 5, 6, 7, 8, 9, 10, 11, 12, 13, 14] (by decide) rfl
      refine lv_if_eq (tgt := 82) hx hb dX4_readSpan_75 (by decide) (fun h_15 => ?_) (fun h_15 => ?_)
      · have hm := it_of hm h_15
        refine lv_iconst (v := (0 : Int32)) hx hb dX4_readSpan_82 (by decide) ?_
        have hz := Option.some.inj hm
        subst hz
        exact end_z C hK hP hD hS (show vp_nar .boolean (0 : Int32) = (0 : Int32) from by decide) dX4_readSpan_83
      · have hm := ie_of hm h_15
        refine lv_iconst (v := (1 : Int32)) hx hb dX4_readSpan_78 (by decide) ?_
        refine lv_goto (tgt := 83) hx hb dX4_readSpan_79 (by decide) ?_
        have hz := Option.some.inj hm
        subst hz
        exact end_z C hK hP hD hS (show vp_nar .boolean (1 : Int32) = (1 : Int32) from by decide) dX4_readSpan_83
  · have hm := it_of hm h_1
    refine lv_iconst (v := (0 : Int32)) hx hb dX4_readSpan_54 (by decide) ?_
    have hz := Option.some.inj hm
    subst hz
    exact end_z C hK hP hD hS (show vp_nar .boolean (0 : Int32) = (0 : Int32) from by decide) dX4_readSpan_55
set_option maxHeartbeats 4000000 in
set_option maxRecDepth 100000 in
theorem c_X4_readSpan (l : Launch) (D : va_G) (y : Nat → ClassId) (q : Nat → Nat) (q2 : Nat → Nat) (sz : Nat) (F : Nat) {v2 : Int32} {t_ch : Nat → Int32} {t_len : Int32} {t_at : Int32} {t_ls : Int32} {t_fa : Int32} {b_k : Nat → Int32} {b_n : Nat → Int64} {b_h : Nat → Int32} {b_d : Nat → Int32} {b_r : Nat → Int32} {b_u : Nat → Int32} {b_y : Nat → Int32} {b_p_s_f : Nat → Int32} {b_p_s_l : Nat → Int32} {b_p_s_c : Int32} {b_p_t : Int32} {b_v_f : Nat → Int32} {b_v_l : Nat → Int32} {b_v_c : Int32} {b_L : Int32} {b_C : Int32} {b_I : Int32} {z : Int32 × Int32 × Int32 × (Nat → Int32) × (Nat → Int32) × Int32 × Int32 × (Nat → Int32) × (Nat → Int32) × Int32} (hm : f_X4_readSpan F v2 t_ch t_len t_at t_ls t_fa b_k b_n b_y b_p_s_f b_p_s_l b_p_s_c b_p_t b_v_f b_v_l b_v_c b_L b_C = some z) : Met l yX4_readSpan wsX4_readSpan ({ frames := 4, cells := 0, slots := 0, locals := 95 } : Room) (va_Pc [.ref (q 0), .ref (q2 0), .int v2] (cP D y ((wdX4 q y t_ch t_len t_at t_ls t_fa) ++ (wdX0 q2 y b_k b_n b_h b_d b_r b_u b_y b_p_s_f b_p_s_l b_p_s_c b_p_t b_v_f b_v_l b_v_c b_L b_C b_I)) sz)) (QI D y (va_A ((wdX4 q y t_ch t_len t_at t_ls t_fa) ++ (wdX0 q2 y b_k b_n b_h b_d b_r b_u b_y b_p_s_f b_p_s_l b_p_s_c b_p_t b_v_f b_v_l b_v_c b_L b_C b_I)) sz) (z.1) ((wdX4 q y t_ch t_len (z.2.1) t_ls (z.2.2.1)) ++ (wdX0 q2 y b_k b_n b_h b_d b_r b_u b_y (z.2.2.2.1) (z.2.2.2.2.1) (z.2.2.2.2.2.1) (z.2.2.2.2.2.2.1) (z.2.2.2.2.2.2.2.1) (z.2.2.2.2.2.2.2.2.1) (z.2.2.2.2.2.2.2.2.2) b_L b_C b_I))) 0 0 (va_A ((wdX4 q y t_ch t_len t_at t_ls t_fa) ++ (wdX0 q2 y b_k b_n b_h b_d b_r b_u b_y b_p_s_f b_p_s_l b_p_s_c b_p_t b_v_f b_v_l b_v_c b_L b_C b_I)) sz) := by
  refine met_of (own := RX4) (cc := cX4_readSpan) (maxL := 5) (ret := (some .boolean)) (by decide) rfl rfl (Nat.le_of_ble_eq_true rfl) ?_
  intro p e s m below meth c ls C hsz hK hP hD hA hS hl
  obtain ⟨⟨hx, hb, hml, hown, hts⟩, hr, hlocks⟩ := id C
  have hl : lv_has ls 5 [(0, .ref (q 0)), (1, .ref (q2 0)), (2, .int v2)] := hl
  generalize va_A ((wdX4 q y t_ch t_len t_at t_ls t_fa) ++ (wdX0 q2 y b_k b_n b_h b_d b_r b_u b_y b_p_s_f b_p_s_l b_p_s_c b_p_t b_v_f b_v_l b_v_c b_L b_C b_I)) sz = A at hD hA hS ⊢
  generalize ([.ref (q 0), .ref (q2 0), .int v2] : List Value).toArray = args at C hts ⊢
  unfold f_X4_readSpan at hm
  refine lv_aload_n hx hb dX4_readSpan_0 rfl (lv_at hl 1 rfl) ?_
  obtain ⟨r_1, b_p_s_f_2, b_p_s_l_3, b_p_s_c_4, hc_5, hm⟩ := mb4_of hm
  refine call_vi (wc := (wdX0 q2 y b_k b_n b_h b_d b_r b_u b_y b_p_s_f b_p_s_l b_p_s_c b_p_t b_v_f b_v_l b_v_c b_L b_C b_I)) (wr := [(q 0, .inr (4, [.ref (q 1), .int t_len, .int t_at, .int t_ls, .int t_fa])), (q 1, .inl (y 2, 3000, .inl t_ch))]) (As := []) (rest := []) C (c_X0_endLayers l D y q2 _ F hc_5) (cwV 0 hts gX4_readSpan_X0_endLayers rfl rfl rfl (by decide +kernel) ⟨Nat.le_of_ble_eq_true rfl, Nat.le_of_ble_eq_true rfl⟩) hK hP hD hS hA [2, 3, 4, 5, 6, 7, 8, 9, 10, 11, 12, 13, 14, 15, 16] [0, 1] rfl rfl rfl rfl rfl (by decide) rfl rfl rfl rfl hl.1 (Nat.le_of_ble_eq_true rfl) dX4_readSpan_1 (fun H locs hP hD hS => ?_)
  have hP : va_P D vwCl ((wdX4 q y t_ch t_len t_at t_ls t_fa) ++ (wdX0 q2 y b_k b_n b_h b_d b_r b_u b_y b_p_s_f_2 b_p_s_l_3 b_p_s_c_4 b_p_t b_v_f b_v_l b_v_c b_L b_C b_I)) H := hP
  have hD : va_D A ((wdX4 q y t_ch t_len t_at t_ls t_fa) ++ (wdX0 q2 y b_k b_n b_h b_d b_r b_u b_y b_p_s_f_2 b_p_s_l_3 b_p_s_c_4 b_p_t b_v_f b_v_l b_v_c b_L b_C b_I)) := hD
  refine lv_if_eq (tgt := 15) hx hb dX4_readSpan_4 (by decide) (fun h_6 => ?_) (fun h_6 => ?_)
  · have hm := it_of hm h_6
    refine lv_aload_n hx hb dX4_readSpan_15 rfl (lv_at hl 0 rfl) ?_
    refine lv_aload_n hx hb dX4_readSpan_16 rfl (lv_at hl 0 rfl) ?_
    refine va_get (D := D) (ci := 4) (v := .int t_ls) (C := RX4) (T := TX4) (N := 5) hx hb hts n_X4_readSpan_X4 hown hK hP 0 rfl rfl 3 (by decide) (hts _ w_X4_readSpan_f38) (fun _ h9 => h9) rfl dX4_readSpan_17 ?_
    obtain ⟨r_7, t_fa_8, hc_9, hm⟩ := mb2_of hm
    refine call_vi (wc := (wdX4 q y t_ch t_len t_at t_ls t_fa)) (wr := [(q2 0, .inr (0, [.ref (q2 1), .ref (q2 2), .ref (q2 3), .ref (q2 4), .ref (q2 5), .ref (q2 6), .ref (q2 7), .ref (q2 8), .ref (q2 12), .int b_L, .int b_C, .int b_I])), (q2 1, .inl (y 0, 80, .inl b_k)), (q2 2, .inl (y 1, 80, .inr (.inl b_n))), (q2 3, .inl (y 0, 80, .inl b_h)), (q2 4, .inl (y 0, 80, .inl b_d)), (q2 5, .inl (y 0, 80, .inl b_r)), (q2 6, .inl (y 0, 80, .inl b_u)), (q2 7, .inl (y 0, 32, .inl b_y)), (q2 8, .inr (2, [.ref (q2 9), .int b_p_t])), (q2 9, .inr (3, [.ref (q2 10), .ref (q2 11), .int b_p_s_c_4])), (q2 10, .inl (y 0, 21, .inl b_p_s_f_2)), (q2 11, .inl (y 0, 21, .inl b_p_s_l_3)), (q2 12, .inr (3, [.ref (q2 13), .ref (q2 14), .int b_v_c])), (q2 13, .inl (y 0, 40, .inl b_v_f)), (q2 14, .inl (y 0, 40, .inl b_v_l))]) (As := [.int t_ls]) (rest := []) C (c_X4_faultAt l D y q _ F hc_9) (cwV 1 hts gX4_readSpan_X4_faultAt rfl rfl rfl (by decide +kernel) ⟨Nat.le_of_ble_eq_true rfl, Nat.le_of_ble_eq_true rfl⟩) hK hP hD hS hA [0, 1] [2, 3, 4, 5, 6, 7, 8, 9, 10, 11, 12, 13, 14, 15, 16] rfl rfl rfl rfl rfl (by decide) rfl rfl rfl rfl hl.1 (Nat.le_of_ble_eq_true rfl) dX4_readSpan_20 (fun H locs hP hD hS => ?_)
    have hP : va_P D vwCl ((wdX4 q y t_ch t_len t_at t_ls t_fa_8) ++ (wdX0 q2 y b_k b_n b_h b_d b_r b_u b_y b_p_s_f_2 b_p_s_l_3 b_p_s_c_4 b_p_t b_v_f b_v_l b_v_c b_L b_C b_I)) H := hP.sub [15, 16, 0, 1, 2, 3, 4, 5, 6, 7, 8, 9, 10, 11, 12, 13, 14] rfl
    have hD : va_D A ((wdX4 q y t_ch t_len t_at t_ls t_fa_8) ++ (wdX0 q2 y b_k b_n b_h b_d b_r b_u b_y b_p_s_f_2 b_p_s_l_3 b_p_s_c_4 b_p_t b_v_f b_v_l b_v_c b_L b_C b_I)) := hD.sub [15, 16, 0, 1, 2, 3, 4, 5, 6, 7, 8, 9, 10, 11, 12, 13, 14] (by decide) rfl
    obtain ⟨hg_10, hm⟩ := mg_of hm
    have hz := Option.some.inj hm
    subst hz
    exact end_z C hK hP hD hS hg_10 dX4_readSpan_23
  · have hm := ie_of hm h_6
    refine lv_aload_n hx hb dX4_readSpan_7 rfl (lv_at hl 1 rfl) ?_
    refine lv_iload_n hx hb dX4_readSpan_8 rfl (lv_at hl 2 rfl) ?_
    obtain ⟨r_11, hc_12, hm⟩ := mb1_of hm
    refine call_vi (wc := (wdX0 q2 y b_k b_n b_h b_d b_r b_u b_y b_p_s_f_2 b_p_s_l_3 b_p_s_c_4 b_p_t b_v_f b_v_l b_v_c b_L b_C b_I)) (wr := [(q 0, .inr (4, [.ref (q 1), .int t_len, .int t_at, .int t_ls, .int t_fa])), (q 1, .inl (y 2, 3000, .inl t_ch))]) (As := [.int v2]) (rest := []) C (c_X0_canTell l D y q2 _ F hc_12) (cwV 1 hts gX4_readSpan_X0_canTell rfl rfl rfl (by decide +kernel) ⟨Nat.le_of_ble_eq_true rfl, Nat.le_of_ble_eq_true rfl⟩) hK hP hD hS hA [2, 3, 4, 5, 6, 7, 8, 9, 10, 11, 12, 13, 14, 15, 16] [0, 1] rfl rfl rfl rfl rfl (by decide) rfl rfl rfl rfl hl.1 (Nat.le_of_ble_eq_true rfl) dX4_readSpan_9 (fun H locs hP hD hS => ?_)
    have hP : va_P D vwCl ((wdX4 q y t_ch t_len t_at t_ls t_fa) ++ (wdX0 q2 y b_k b_n b_h b_d b_r b_u b_y b_p_s_f_2 b_p_s_l_3 b_p_s_c_4 b_p_t b_v_f b_v_l b_v_c b_L b_C b_I)) H := hP
    have hD : va_D A ((wdX4 q y t_ch t_len t_at t_ls t_fa) ++ (wdX0 q2 y b_k b_n b_h b_d b_r b_u b_y b_p_s_f_2 b_p_s_l_3 b_p_s_c_4 b_p_t b_v_f b_v_l b_v_c b_L b_C b_I)) := hD
    refine lv_if_ne (tgt := 24) hx hb dX4_readSpan_12 (by decide) (fun h_13 => ?_) (fun h_13 => ?_)
    · have hm := ie_of hm h_13
      refine lv_aload_n hx hb dX4_readSpan_24 rfl (lv_at hl 0 rfl) ?_
      refine lv_aload_n hx hb dX4_readSpan_25 rfl (lv_at hl 1 rfl) ?_
      refine lv_iconst (v := (-1 : Int32)) hx hb dX4_readSpan_26 (by decide) ?_
      obtain ⟨r_14, t_at_15, t_fa_16, hc_17, hm⟩ := mb3_of hm
      refine call_vi (wc := ((wdX4 q y t_ch t_len t_at t_ls t_fa) ++ (wdX0 q2 y b_k b_n b_h b_d b_r b_u b_y b_p_s_f_2 b_p_s_l_3 b_p_s_c_4 b_p_t b_v_f b_v_l b_v_c b_L b_C b_I))) (wr := []) (As := [.ref (q2 0), .int (-1 : Int32)]) (rest := []) C (c_X4_readCopper l D y q q2 _ F hc_17) (cwV 2 hts gX4_readSpan_X4_readCopper rfl rfl rfl (by decide +kernel) ⟨Nat.le_of_ble_eq_true rfl, Nat.le_of_ble_eq_true rfl⟩) hK hP hD hS hA [0, 1, 2, 3, 4, 5, 6, 7, 8, 9, 10, 11, 12, 13, 14, 15, 16] [] rfl rfl rfl rfl rfl (by decide) rfl rfl rfl rfl hl.1 (Nat.le_of_ble_eq_true rfl) dX4_readSpan_27 (fun H locs hP hD hS => ?_)
      have hP : va_P D vwCl ((wdX4 q y t_ch t_len t_at_15 t_ls t_fa_16) ++ (wdX0 q2 y b_k b_n b_h b_d b_r b_u b_y b_p_s_f_2 b_p_s_l_3 b_p_s_c_4 b_p_t b_v_f b_v_l b_v_c b_L b_C b_I)) H := hP
      have hD : va_D A ((wdX4 q y t_ch t_len t_at_15 t_ls t_fa_16) ++ (wdX0 q2 y b_k b_n b_h b_d b_r b_u b_y b_p_s_f_2 b_p_s_l_3 b_p_s_c_4 b_p_t b_v_f b_v_l b_v_c b_L b_C b_I)) := hD
      refine lv_istore_n (lv' := [(3, .int r_14), (0, .ref (q 0)), (1, .ref (q2 0)), (2, .int v2)]) hx hb dX4_readSpan_30 rfl hl (by decide) rfl (fun ls hl => ?_)
      refine lv_iload_n hx hb dX4_readSpan_31 rfl (lv_at hl 0 rfl) ?_
      refine lv_iconst (v := (-1 : Int32)) hx hb dX4_readSpan_32 (by decide) ?_
      refine lv_icmp_ne (tgt := 40) hx hb dX4_readSpan_33 (by decide) (fun h_18 => ?_) (fun h_18 => ?_)
      · have hm := ie_of hm h_18
        refine lv_aload_n hx hb dX4_readSpan_40 rfl (lv_at hl 1 rfl) ?_
        refine lv_aload_n hx hb dX4_readSpan_41 rfl (lv_at hl 2 rfl) ?_
        refine lv_iload_n hx hb dX4_readSpan_42 rfl (lv_at hl 0 rfl) ?_
        obtain ⟨r_19, t_at_20, t_fa_21, hc_22, hm⟩ := mb3_of hm
        refine call_vi (wc := ((wdX4 q y t_ch t_len t_at_15 t_ls t_fa_16) ++ (wdX0 q2 y b_k b_n b_h b_d b_r b_u b_y b_p_s_f_2 b_p_s_l_3 b_p_s_c_4 b_p_t b_v_f b_v_l b_v_c b_L b_C b_I))) (wr := []) (As := [.ref (q2 0), .int r_14]) (rest := []) C (c_X4_readCopper l D y q q2 _ F hc_22) (cwV 2 hts gX4_readSpan_X4_readCopper rfl rfl rfl (by decide +kernel) ⟨Nat.le_of_ble_eq_true rfl, Nat.le_of_ble_eq_true rfl⟩) hK hP hD hS hA [0, 1, 2, 3, 4, 5, 6, 7, 8, 9, 10, 11, 12, 13, 14, 15, 16] [] rfl rfl rfl rfl rfl (by decide) rfl rfl rfl rfl hl.1 (Nat.le_of_ble_eq_true rfl) dX4_readSpan_43 (fun H locs hP hD hS => ?_)
        have hP : va_P D vwCl ((wdX4 q y t_ch t_len t_at_20 t_ls t_fa_21) ++ (wdX0 q2 y b_k b_n b_h b_d b_r b_u b_y b_p_s_f_2 b_p_s_l_3 b_p_s_c_4 b_p_t b_v_f b_v_l b_v_c b_L b_C b_I)) H := hP
        have hD : va_D A ((wdX4 q y t_ch t_len t_at_20 t_ls t_fa_21) ++ (wdX0 q2 y b_k b_n b_h b_d b_r b_u b_y b_p_s_f_2 b_p_s_l_3 b_p_s_c_4 b_p_t b_v_f b_v_l b_v_c b_L b_C b_I)) := hD
        exact k_X4_readSpan_46 C hA hK F v2 r_14 r_19 t_at_20 t_ls t_fa_21 b_p_s_f_2 b_p_s_l_3 b_p_s_c_4 b_p_t b_v_f b_v_l b_v_c _ _ _ hm hP hD hS (lv_sub hl [1, 2, 3, 0] rfl)
      · have hm := it_of hm h_18
        refine lv_iconst (v := (-1 : Int32)) hx hb dX4_readSpan_36 (by decide) ?_
        refine lv_goto (tgt := 46) hx hb dX4_readSpan_37 (by decide) ?_
        exact k_X4_readSpan_46 C hA hK F v2 r_14 (-1 : Int32) t_at_15 t_ls t_fa_16 b_p_s_f_2 b_p_s_l_3 b_p_s_c_4 b_p_t b_v_f b_v_l b_v_c _ _ _ hm hP hD hS (lv_sub hl [1, 2, 3, 0] rfl)
    · have hm := it_of hm h_13
      refine lv_aload_n hx hb dX4_readSpan_15 rfl (lv_at hl 0 rfl) ?_
      refine lv_aload_n hx hb dX4_readSpan_16 rfl (lv_at hl 0 rfl) ?_
      refine va_get (D := D) (ci := 4) (v := .int t_ls) (C := RX4) (T := TX4) (N := 5) hx hb hts n_X4_readSpan_X4 hown hK hP 0 rfl rfl 3 (by decide) (hts _ w_X4_readSpan_f38) (fun _ h9 => h9) rfl dX4_readSpan_17 ?_
      obtain ⟨r_23, t_fa_24, hc_25, hm⟩ := mb2_of hm
      refine call_vi (wc := (wdX4 q y t_ch t_len t_at t_ls t_fa)) (wr := [(q2 0, .inr (0, [.ref (q2 1), .ref (q2 2), .ref (q2 3), .ref (q2 4), .ref (q2 5), .ref (q2 6), .ref (q2 7), .ref (q2 8), .ref (q2 12), .int b_L, .int b_C, .int b_I])), (q2 1, .inl (y 0, 80, .inl b_k)), (q2 2, .inl (y 1, 80, .inr (.inl b_n))), (q2 3, .inl (y 0, 80, .inl b_h)), (q2 4, .inl (y 0, 80, .inl b_d)), (q2 5, .inl (y 0, 80, .inl b_r)), (q2 6, .inl (y 0, 80, .inl b_u)), (q2 7, .inl (y 0, 32, .inl b_y)), (q2 8, .inr (2, [.ref (q2 9), .int b_p_t])), (q2 9, .inr (3, [.ref (q2 10), .ref (q2 11), .int b_p_s_c_4])), (q2 10, .inl (y 0, 21, .inl b_p_s_f_2)), (q2 11, .inl (y 0, 21, .inl b_p_s_l_3)), (q2 12, .inr (3, [.ref (q2 13), .ref (q2 14), .int b_v_c])), (q2 13, .inl (y 0, 40, .inl b_v_f)), (q2 14, .inl (y 0, 40, .inl b_v_l))]) (As := [.int t_ls]) (rest := []) C (c_X4_faultAt l D y q _ F hc_25) (cwV 1 hts gX4_readSpan_X4_faultAt rfl rfl rfl (by decide +kernel) ⟨Nat.le_of_ble_eq_true rfl, Nat.le_of_ble_eq_true rfl⟩) hK hP hD hS hA [0, 1] [2, 3, 4, 5, 6, 7, 8, 9, 10, 11, 12, 13, 14, 15, 16] rfl rfl rfl rfl rfl (by decide) rfl rfl rfl rfl hl.1 (Nat.le_of_ble_eq_true rfl) dX4_readSpan_20 (fun H locs hP hD hS => ?_)
      have hP : va_P D vwCl ((wdX4 q y t_ch t_len t_at t_ls t_fa_24) ++ (wdX0 q2 y b_k b_n b_h b_d b_r b_u b_y b_p_s_f_2 b_p_s_l_3 b_p_s_c_4 b_p_t b_v_f b_v_l b_v_c b_L b_C b_I)) H := hP.sub [15, 16, 0, 1, 2, 3, 4, 5, 6, 7, 8, 9, 10, 11, 12, 13, 14] rfl
      have hD : va_D A ((wdX4 q y t_ch t_len t_at t_ls t_fa_24) ++ (wdX0 q2 y b_k b_n b_h b_d b_r b_u b_y b_p_s_f_2 b_p_s_l_3 b_p_s_c_4 b_p_t b_v_f b_v_l b_v_c b_L b_C b_I)) := hD.sub [15, 16, 0, 1, 2, 3, 4, 5, 6, 7, 8, 9, 10, 11, 12, 13, 14] (by decide) rfl
      obtain ⟨hg_26, hm⟩ := mg_of hm
      have hz := Option.some.inj hm
      subst hz
      exact end_z C hK hP hD hS hg_26 dX4_readSpan_23
