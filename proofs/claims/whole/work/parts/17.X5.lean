def f_X5_characterAt (F : Nat) (v1 : Int32) (w_ch : Nat → Int32) (w_len : Int32) : Option (Int32) := (if v1 < 0 then some (-1 : Int32) else (if w_len ≤ v1 then some (-1 : Int32) else (if (3000 : Int32) ≤ v1 then some (-1 : Int32) else mg (inb v1 3000) (some (w_ch (v1).toNatClampNeg)))))
set_option maxRecDepth 20000 in
theorem n_X5_characterAt_X5 : ∀ w ∈ wsX50, w ∈ wsX5_characterAt := by decide +kernel
set_option maxRecDepth 20000 in
theorem w_X5_characterAt_f18 : Cond.fieldLink RX5 18 "LayerStacks$Writing" "length" "I" ∈ wsX5_characterAt := by decide +kernel
set_option maxRecDepth 20000 in
theorem w_X5_characterAt_f9 : Cond.fieldLink RX5 9 "LayerStacks$Writing" "characters" "[C" ∈ wsX5_characterAt := by decide +kernel
set_option maxHeartbeats 4000000 in
set_option maxRecDepth 100000 in
theorem c_X5_characterAt (l : Launch) (D : va_G) (y : Nat → ClassId) (q : Nat → Nat) (sz : Nat) (F : Nat) {v1 : Int32} {w_ch : Nat → Int32} {w_dg : Nat → Int32} {w_len : Int32} {z : Int32} (hm : f_X5_characterAt F v1 w_ch w_len = some z) : Met l yX5_characterAt wsX5_characterAt ({ frames := 0, cells := 0, slots := 0, locals := 0 } : Room) (va_Pc [.ref (q 0), .int v1] (cP D y (wdX5 q y w_ch w_dg w_len) sz)) (QI D y (va_A (wdX5 q y w_ch w_dg w_len) sz) (z) (wdX5 q y w_ch w_dg w_len)) 0 0 (va_A (wdX5 q y w_ch w_dg w_len) sz) := by
  refine met_of (own := RX5) (cc := cX5_characterAt) (maxL := 2) (ret := (some .int)) (by decide) rfl rfl (Nat.le_of_ble_eq_true rfl) ?_
  intro p e s m below meth c ls C hsz hK hP hD hA hS hl
  obtain ⟨⟨hx, hb, hml, hown, hts⟩, hr, hlocks⟩ := id C
  have hl : lv_has ls 2 [(0, .ref (q 0)), (1, .int v1)] := hl
  generalize va_A (wdX5 q y w_ch w_dg w_len) sz = A at hD hA hS ⊢
  generalize ([.ref (q 0), .int v1] : List Value).toArray = args at C hts ⊢
  unfold f_X5_characterAt at hm
  refine lv_iload_n hx hb dX5_characterAt_0 rfl (lv_at hl 1 rfl) ?_
  refine lv_if_lt (tgt := 28) hx hb dX5_characterAt_1 (by decide) (fun h_1 => ?_) (fun h_1 => ?_)
  · have hm := it_of hm h_1
    refine lv_iconst (v := (-1 : Int32)) hx hb dX5_characterAt_28 (by decide) ?_
    have hz := Option.some.inj hm
    subst hz
    exact end_i C hK hP hD hS dX5_characterAt_29
  · have hm := ie_of hm h_1
    refine lv_iload_n hx hb dX5_characterAt_4 rfl (lv_at hl 1 rfl) ?_
    refine lv_aload_n hx hb dX5_characterAt_5 rfl (lv_at hl 0 rfl) ?_
    refine va_get (D := D) (ci := 5) (v := .int w_len) (C := RX5) (T := TX5) (N := 3) hx hb hts n_X5_characterAt_X5 hown hK hP 0 rfl rfl 2 (by decide) (hts _ w_X5_characterAt_f18) (fun _ h9 => h9) rfl dX5_characterAt_6 ?_
    refine lv_icmp_ge (tgt := 28) hx hb dX5_characterAt_9 (by decide) (fun h_2 => ?_) (fun h_2 => ?_)
    · have hm := it_of hm h_2
      refine lv_iconst (v := (-1 : Int32)) hx hb dX5_characterAt_28 (by decide) ?_
      have hz := Option.some.inj hm
      subst hz
      exact end_i C hK hP hD hS dX5_characterAt_29
    · have hm := ie_of hm h_2
      refine lv_iload_n hx hb dX5_characterAt_12 rfl (lv_at hl 1 rfl) ?_
      refine lv_sipush (v := (3000 : Int32)) hx hb dX5_characterAt_13 (by decide) ?_
      refine lv_icmp_ge (tgt := 28) hx hb dX5_characterAt_16 (by decide) (fun h_3 => ?_) (fun h_3 => ?_)
      · have hm := it_of hm h_3
        refine lv_iconst (v := (-1 : Int32)) hx hb dX5_characterAt_28 (by decide) ?_
        have hz := Option.some.inj hm
        subst hz
        exact end_i C hK hP hD hS dX5_characterAt_29
      · have hm := ie_of hm h_3
        refine lv_aload_n hx hb dX5_characterAt_19 rfl (lv_at hl 0 rfl) ?_
        refine va_get (D := D) (ci := 5) (v := .ref (q 1)) (C := RX5) (T := TX5) (N := 3) hx hb hts n_X5_characterAt_X5 hown hK hP 0 rfl rfl 0 (by decide) (hts _ w_X5_characterAt_f9) (fun _ h9 => h9) rfl dX5_characterAt_20 ?_
        refine lv_iload_n hx hb dX5_characterAt_23 rfl (lv_at hl 1 rfl) ?_
        obtain ⟨hg_4, hm⟩ := mg_of hm
        refine va_cald hx hb hK hP 1 2 rfl rfl hg_4 dX5_characterAt_24 ?_
        refine lv_goto (tgt := 29) hx hb dX5_characterAt_25 (by decide) ?_
        have hz := Option.some.inj hm
        subst hz
        exact end_i C hK hP hD hS dX5_characterAt_29
def f_X5_put (F : Nat) (v1 : Int32) (w_ch : Nat → Int32) (w_len : Int32) : Option ((Nat → Int32) × Int32) := (if (3000 : Int32) ≤ w_len then some (w_ch, w_len) else mg (inb w_len 3000) (some ((upd w_ch (w_len).toNatClampNeg (vp_nar .char v1)), (w_len + (1 : Int32)))))
set_option maxRecDepth 20000 in
theorem n_X5_put_X5 : ∀ w ∈ wsX50, w ∈ wsX5_put := by decide +kernel
set_option maxRecDepth 20000 in
theorem w_X5_put_f18 : Cond.fieldLink RX5 18 "LayerStacks$Writing" "length" "I" ∈ wsX5_put := by decide +kernel
set_option maxRecDepth 20000 in
theorem w_X5_put_f9 : Cond.fieldLink RX5 9 "LayerStacks$Writing" "characters" "[C" ∈ wsX5_put := by decide +kernel
set_option maxHeartbeats 4000000 in
set_option maxRecDepth 100000 in
theorem c_X5_put (l : Launch) (D : va_G) (y : Nat → ClassId) (q : Nat → Nat) (sz : Nat) (F : Nat) {v1 : Int32} {w_ch : Nat → Int32} {w_dg : Nat → Int32} {w_len : Int32} {z : (Nat → Int32) × Int32} (hm : f_X5_put F v1 w_ch w_len = some z) : Met l yX5_put wsX5_put ({ frames := 0, cells := 0, slots := 0, locals := 0 } : Room) (va_Pc [.ref (q 0), .int v1] (cP D y (wdX5 q y w_ch w_dg w_len) sz)) (QV D y (va_A (wdX5 q y w_ch w_dg w_len) sz) (wdX5 q y (z.1) w_dg (z.2))) 0 0 (va_A (wdX5 q y w_ch w_dg w_len) sz) := by
  refine met_of (own := RX5) (cc := cX5_put) (maxL := 2) (ret := none) (by decide) rfl rfl (Nat.le_of_ble_eq_true rfl) ?_
  intro p e s m below meth c ls C hsz hK hP hD hA hS hl
  obtain ⟨⟨hx, hb, hml, hown, hts⟩, hr, hlocks⟩ := id C
  have hl : lv_has ls 2 [(0, .ref (q 0)), (1, .int v1)] := hl
  generalize va_A (wdX5 q y w_ch w_dg w_len) sz = A at hD hA hS ⊢
  generalize ([.ref (q 0), .int v1] : List Value).toArray = args at C hts ⊢
  unfold f_X5_put at hm
  refine lv_aload_n hx hb dX5_put_0 rfl (lv_at hl 0 rfl) ?_
  refine va_get (D := D) (ci := 5) (v := .int w_len) (C := RX5) (T := TX5) (N := 3) hx hb hts n_X5_put_X5 hown hK hP 0 rfl rfl 2 (by decide) (hts _ w_X5_put_f18) (fun _ h9 => h9) rfl dX5_put_1 ?_
  refine lv_sipush (v := (3000 : Int32)) hx hb dX5_put_4 (by decide) ?_
  refine lv_icmp_ge (tgt := 30) hx hb dX5_put_7 (by decide) (fun h_1 => ?_) (fun h_1 => ?_)
  · have hm := it_of hm h_1
    have hz := Option.some.inj hm
    subst hz
    exact end_v C hK hP hD hS dX5_put_30
  · have hm := ie_of hm h_1
    refine lv_aload_n hx hb dX5_put_10 rfl (lv_at hl 0 rfl) ?_
    refine va_get (D := D) (ci := 5) (v := .ref (q 1)) (C := RX5) (T := TX5) (N := 3) hx hb hts n_X5_put_X5 hown hK hP 0 rfl rfl 0 (by decide) (hts _ w_X5_put_f9) (fun _ h9 => h9) rfl dX5_put_11 ?_
    refine lv_aload_n hx hb dX5_put_14 rfl (lv_at hl 0 rfl) ?_
    refine va_get (D := D) (ci := 5) (v := .int w_len) (C := RX5) (T := TX5) (N := 3) hx hb hts n_X5_put_X5 hown hK hP 0 rfl rfl 2 (by decide) (hts _ w_X5_put_f18) (fun _ h9 => h9) rfl dX5_put_15 ?_
    refine lv_iload_n hx hb dX5_put_18 rfl (lv_at hl 1 rfl) ?_
    obtain ⟨hg_2, hm⟩ := mg_of hm
    refine va_cast hx hb hK hP hD hS 1 2 rfl rfl hg_2 dX5_put_19 (fun H locs hP hD hS => ?_)
    have hP : va_P D vwCl (wdX5 q y (upd w_ch (w_len).toNatClampNeg (vp_nar .char v1)) w_dg w_len) H := hP
    have hD : va_D A (wdX5 q y (upd w_ch (w_len).toNatClampNeg (vp_nar .char v1)) w_dg w_len) := hD
    refine lv_aload_n hx hb dX5_put_20 rfl (lv_at hl 0 rfl) ?_
    refine lv_dup hx hb dX5_put_21 rfl ?_
    refine va_get (D := D) (ci := 5) (v := .int w_len) (C := RX5) (T := TX5) (N := 3) hx hb hts n_X5_put_X5 hown hK hP 0 rfl rfl 2 (by decide) (hts _ w_X5_put_f18) (fun _ h9 => h9) rfl dX5_put_22 ?_
    refine lv_iconst (v := (1 : Int32)) hx hb dX5_put_25 (by decide) ?_
    refine lv_iadd hx hb dX5_put_26 ?_
    refine va_put (D := D) (ci := 5) (v := .int (w_len + (1 : Int32))) (ty := .int) (C := RX5) (T := TX5) (N := 3) hx hb hts n_X5_put_X5 tyX5 tyX5_ok nmX5 hown hK hP hD hS 0 rfl rfl 2 (by decide) (hts _ w_X5_put_f18) (fun _ h9 => h9) rfl (by decide +kernel) rfl rfl (Nat.le_of_ble_eq_true rfl) dX5_put_27 (fun H locs hP hD hS => ?_)
    have hP : va_P D vwCl (wdX5 q y (upd w_ch (w_len).toNatClampNeg (vp_nar .char v1)) w_dg (w_len + (1 : Int32))) H := hP
    have hD : va_D A (wdX5 q y (upd w_ch (w_len).toNatClampNeg (vp_nar .char v1)) w_dg (w_len + (1 : Int32))) := hD
    have hz := Option.some.inj hm
    subst hz
    exact end_v C hK hP hD hS dX5_put_30
def g_X5_putName_3 (F : Nat) : Nat → Int64 → Int32 → (Nat → Int32) → Int32 → Option ((Nat → Int32) × Int32)
  | 0, _, _, _, _ => none
  | n + 1, v1, v3, w_ch, w_len => (if v3 < 0 then some (w_ch, w_len) else mn ((((v1 >>> (((v3 * (7 : Int32))).toInt64 &&& 63))).toInt32) &&& (127 : Int32)) (fun v4_2 => (if v4_2 = 0 then mn (v3 + (-1 : Int32)) (fun v3_4 => g_X5_putName_3 F n v1 v3_4 w_ch w_len) else mb2 (f_X5_put F (((v4_2).toUInt32 % 65536).toInt32) w_ch w_len) (fun w_ch_5 w_len_6 => mn (v3 + (-1 : Int32)) (fun v3_8 => g_X5_putName_3 F n v1 v3_8 w_ch_5 w_len_6)))))
theorem g_X5_putName_3_z (F : Nat) (v1 : Int64) (v3 : Int32) (w_ch : Nat → Int32) (w_len : Int32) : g_X5_putName_3 F 0 v1 v3 w_ch w_len = none := rfl
theorem g_X5_putName_3_s (F : Nat) (n : Nat) (v1 : Int64) (v3 : Int32) (w_ch : Nat → Int32) (w_len : Int32) : g_X5_putName_3 F (n + 1) v1 v3 w_ch w_len = (if v3 < 0 then some (w_ch, w_len) else mn ((((v1 >>> (((v3 * (7 : Int32))).toInt64 &&& 63))).toInt32) &&& (127 : Int32)) (fun v4_2 => (if v4_2 = 0 then mn (v3 + (-1 : Int32)) (fun v3_4 => g_X5_putName_3 F n v1 v3_4 w_ch w_len) else mb2 (f_X5_put F (((v4_2).toUInt32 % 65536).toInt32) w_ch w_len) (fun w_ch_5 w_len_6 => mn (v3 + (-1 : Int32)) (fun v3_8 => g_X5_putName_3 F n v1 v3_8 w_ch_5 w_len_6))))) := rfl
def f_X5_putName (F : Nat) (v1 : Int64) (w_ch : Nat → Int32) (w_len : Int32) : Option ((Nat → Int32) × Int32) := g_X5_putName_3 F F v1 (7 : Int32) w_ch w_len
set_option maxHeartbeats 4000000 in
set_option maxRecDepth 100000 in
theorem k_X5_putName_3 {p : Program} {l : Launch} {e : Env} {s : State} {m : MethodId} {args : Array Value} {below : List Frame} {meth : Method} {c : Code} {D : va_G} {y : Nat → ClassId} {A : Nat → Prop} {q : Nat → Nat} {w_dg : Nat → Int32} {z : (Nat → Int32) × Int32} (C : CX p s m args meth c wsX5_putName RX5 cX5_putName 5 none) (hA : ∀ q : Nat, s.heap.size ≤ q → A q) (hK : va_K D vwCl (tyl y) s) (F : Nat) :
    ∀ (n : Nat), ∀ (v1 : Int64) (v3 : Int32) (w_ch : Nat → Int32) (w_len : Int32) (H : Heap) (locs : List Loc) (ls : Array Slot), g_X5_putName_3 F n v1 v3 w_ch w_len = some z → va_P D vwCl (wdX5 q y w_ch w_dg w_len) H → va_D A (wdX5 q y w_ch w_dg w_len) → va_S A s.heap H locs → lv_has ls 5 [(0, .ref (q 0)), (1, .long v1), (3, .int v3)] → W p l e ({ frames := 1, cells := 0, slots := 0, locals := 21 } : Room) s m args below meth c H locs 0 0 (MQ below (QV D y A (wdX5 q y (z.1) w_dg (z.2))) args s 0 0 A) (F0 m 3 ls []) := by
  obtain ⟨⟨hx, hb, hml, hown, hts⟩, hr, hlocks⟩ := id C
  intro n
  induction n with
  | zero =>
    intro v1 v3 w_ch w_len H locs ls hm
    rw [g_X5_putName_3_z] at hm
    cases hm
  | succ n ih =>
    intro v1 v3 w_ch w_len H locs ls hm hP hD hS hl
    rw [g_X5_putName_3_s] at hm
    refine lv_iload_n hx hb dX5_putName_3 rfl (lv_at hl 2 rfl) ?_
    refine lv_if_lt (tgt := 37) hx hb dX5_putName_4 (by decide) (fun h_1 => ?_) (fun h_1 => ?_)
    · have hm := it_of hm h_1
      have hz := Option.some.inj hm
      subst hz
      exact end_v C hK hP hD hS dX5_putName_37
    · have hm := ie_of hm h_1
      refine lv_lload_n hx hb dX5_putName_7 rfl (lv_at hl 1 rfl) ?_
      refine lv_iload_n hx hb dX5_putName_8 rfl (lv_at hl 2 rfl) ?_
      refine lv_bipush (v := (7 : Int32)) hx hb dX5_putName_9 (by decide) ?_
      refine lv_imul hx hb dX5_putName_11 ?_
      refine lv_lshr (v := (v1 >>> (((v3 * (7 : Int32))).toInt64 &&& 63))) hx hb dX5_putName_12 rfl ?_
      refine lv_l2i (v := ((v1 >>> (((v3 * (7 : Int32))).toInt64 &&& 63))).toInt32) hx hb dX5_putName_13 rfl ?_
      refine lv_bipush (v := (127 : Int32)) hx hb dX5_putName_14 (by decide) ?_
      refine lv_iand hx hb dX5_putName_16 ?_
      refine lv_topi (fun v4_2 ev4_2 => ?_)
      have hm := mn_of ev4_2 hm
      refine lv_istore (lv' := [(4, .int v4_2), (0, .ref (q 0)), (1, .long v1), (3, .int v3)]) hx hb dX5_putName_17 hl (by decide) rfl (fun ls hl => ?_)
      refine lv_iload hx hb dX5_putName_19 (lv_at hl 0 rfl) ?_
      refine lv_if_eq (tgt := 31) hx hb dX5_putName_21 (by decide) (fun h_3 => ?_) (fun h_3 => ?_)
      · have hm := it_of hm h_3
        obtain ⟨v3_4, ev3_4⟩ : ∃ y9 : Int32, y9 = (v3 + (-1 : Int32)) := ⟨_, rfl⟩
        have hm := mn_of ev3_4 hm
        refine lv_iinc (v := v3_4) (lv' := [(3, .int v3_4), (4, .int v4_2), (0, .ref (q 0)), (1, .long v1)]) hx hb dX5_putName_31 hl (k := 3) rfl (by rw [ev3_4]; rfl) (by decide) rfl (fun ls hl => ?_)
        refine lv_goto (tgt := 3) hx hb dX5_putName_34 (by decide) ?_
        exact ih v1 v3_4 w_ch w_len _ _ _ hm hP hD hS (lv_sub hl [2, 3, 0] rfl)
      · have hm := ie_of hm h_3
        refine lv_aload_n hx hb dX5_putName_24 rfl (lv_at hl 1 rfl) ?_
        refine lv_iload hx hb dX5_putName_25 (lv_at hl 0 rfl) ?_
        refine lv_i2c (v := ((v4_2).toUInt32 % 65536).toInt32) hx hb dX5_putName_27 rfl ?_
        obtain ⟨w_ch_5, w_len_6, hc_7, hm⟩ := mb2_of hm
        refine call_vv (wc := (wdX5 q y w_ch w_dg w_len)) (wr := []) (As := [.int (((v4_2).toUInt32 % 65536).toInt32)]) (rest := []) C (c_X5_put l D y q _ F hc_7) (cwV 1 hts gX5_putName_X5_put rfl rfl rfl (by decide +kernel) ⟨Nat.le_of_ble_eq_true rfl, Nat.le_of_ble_eq_true rfl⟩) hK hP hD hS hA [0, 1, 2] [] rfl rfl rfl rfl rfl (by decide) rfl rfl rfl rfl hl.1 (Nat.le_of_ble_eq_true rfl) dX5_putName_28 (fun H locs hP hD hS => ?_)
        have hP : va_P D vwCl (wdX5 q y w_ch_5 w_dg w_len_6) H := hP
        have hD : va_D A (wdX5 q y w_ch_5 w_dg w_len_6) := hD
        obtain ⟨v3_8, ev3_8⟩ : ∃ y9 : Int32, y9 = (v3 + (-1 : Int32)) := ⟨_, rfl⟩
        have hm := mn_of ev3_8 hm
        refine lv_iinc (v := v3_8) (lv' := [(3, .int v3_8), (4, .int v4_2), (0, .ref (q 0)), (1, .long v1)]) hx hb dX5_putName_31 hl (k := 3) rfl (by rw [ev3_8]; rfl) (by decide) rfl (fun ls hl => ?_)
        refine lv_goto (tgt := 3) hx hb dX5_putName_34 (by decide) ?_
        exact ih v1 v3_8 w_ch_5 w_len_6 _ _ _ hm hP hD hS (lv_sub hl [2, 3, 0] rfl)
set_option maxHeartbeats 4000000 in
set_option maxRecDepth 100000 in
theorem c_X5_putName (l : Launch) (D : va_G) (y : Nat → ClassId) (q : Nat → Nat) (sz : Nat) (F : Nat) {v1 : Int64} {w_ch : Nat → Int32} {w_dg : Nat → Int32} {w_len : Int32} {z : (Nat → Int32) × Int32} (hm : f_X5_putName F v1 w_ch w_len = some z) : Met l yX5_putName wsX5_putName ({ frames := 1, cells := 0, slots := 0, locals := 21 } : Room) (va_Pc [.ref (q 0), .long v1] (cP D y (wdX5 q y w_ch w_dg w_len) sz)) (QV D y (va_A (wdX5 q y w_ch w_dg w_len) sz) (wdX5 q y (z.1) w_dg (z.2))) 0 0 (va_A (wdX5 q y w_ch w_dg w_len) sz) := by
  refine met_of (own := RX5) (cc := cX5_putName) (maxL := 5) (ret := none) (by decide) rfl rfl (Nat.le_of_ble_eq_true rfl) ?_
  intro p e s m below meth c ls C hsz hK hP hD hA hS hl
  obtain ⟨⟨hx, hb, hml, hown, hts⟩, hr, hlocks⟩ := id C
  have hl : lv_has ls 5 [(0, .ref (q 0)), (1, .long v1)] := hl
  generalize va_A (wdX5 q y w_ch w_dg w_len) sz = A at hD hA hS ⊢
  generalize ([.ref (q 0), .long v1] : List Value).toArray = args at C hts ⊢
  unfold f_X5_putName at hm
  refine lv_bipush (v := (7 : Int32)) hx hb dX5_putName_0 (by decide) ?_
  refine lv_istore_n (lv' := [(3, .int (7 : Int32)), (0, .ref (q 0)), (1, .long v1)]) hx hb dX5_putName_2 rfl hl (by decide) rfl (fun ls hl => ?_)
  exact k_X5_putName_3 C hA hK F F v1 (7 : Int32) w_ch w_len _ _ _ hm hP hD hS (lv_sub hl [1, 2, 0] rfl)
def g_X5_putNumber_49 (F : Nat) (K_31 : Int32 → Int32 → Int32 → (Nat → Int32) → (Nat → Int32) → Int32 → Option ((Nat → Int32) × (Nat → Int32) × Int32)) (v3 : Int32) (v4 : Int32) (v5 : Int32) (w_ch : Nat → Int32) (w_dg : Nat → Int32) (w_len : Int32) : Option ((Nat → Int32) × (Nat → Int32) × Int32) := mg (inb v5 8) (mn (v3 / (10 : Int32)) (fun v3_2 => mn (v5 + (1 : Int32)) (fun v5_3 => K_31 v3_2 v4 v5_3 w_ch (upd w_dg (v5).toNatClampNeg (vp_nar .char (((((48 : Int32) + (v3 - v3 / (10 : Int32) * (10 : Int32)))).toUInt32 % 65536).toInt32))) w_len)))
def g_X5_putNumber_81 (F : Nat) : Nat → Int32 → Int32 → (Nat → Int32) → (Nat → Int32) → Int32 → Option ((Nat → Int32) × (Nat → Int32) × Int32)
  | 0, _, _, _, _, _ => none
  | n + 1, v4, v6, w_ch, w_dg, w_len => (if v6 < 0 then some (w_ch, w_dg, w_len) else mg (inb v6 8) (mb2 (f_X5_put F (w_dg (v6).toNatClampNeg) w_ch w_len) (fun w_ch_3 w_len_4 => (if v6 ≤ 0 then mn (v6 + (-1 : Int32)) (fun v6_7 => g_X5_putNumber_81 F n v4 v6_7 w_ch_3 w_dg w_len_4) else (if v6 = v4 then mb2 (f_X5_put F (46 : Int32) w_ch_3 w_len_4) (fun w_ch_10 w_len_11 => mn (v6 + (-1 : Int32)) (fun v6_13 => g_X5_putNumber_81 F n v4 v6_13 w_ch_10 w_dg w_len_11)) else mn (v6 + (-1 : Int32)) (fun v6_9 => g_X5_putNumber_81 F n v4 v6_9 w_ch_3 w_dg w_len_4))))))
theorem g_X5_putNumber_81_z (F : Nat) (v4 : Int32) (v6 : Int32) (w_ch : Nat → Int32) (w_dg : Nat → Int32) (w_len : Int32) : g_X5_putNumber_81 F 0 v4 v6 w_ch w_dg w_len = none := rfl
theorem g_X5_putNumber_81_s (F : Nat) (n : Nat) (v4 : Int32) (v6 : Int32) (w_ch : Nat → Int32) (w_dg : Nat → Int32) (w_len : Int32) : g_X5_putNumber_81 F (n + 1) v4 v6 w_ch w_dg w_len = (if v6 < 0 then some (w_ch, w_dg, w_len) else mg (inb v6 8) (mb2 (f_X5_put F (w_dg (v6).toNatClampNeg) w_ch w_len) (fun w_ch_3 w_len_4 => (if v6 ≤ 0 then mn (v6 + (-1 : Int32)) (fun v6_7 => g_X5_putNumber_81 F n v4 v6_7 w_ch_3 w_dg w_len_4) else (if v6 = v4 then mb2 (f_X5_put F (46 : Int32) w_ch_3 w_len_4) (fun w_ch_10 w_len_11 => mn (v6 + (-1 : Int32)) (fun v6_13 => g_X5_putNumber_81 F n v4 v6_13 w_ch_10 w_dg w_len_11)) else mn (v6 + (-1 : Int32)) (fun v6_9 => g_X5_putNumber_81 F n v4 v6_9 w_ch_3 w_dg w_len_4)))))) := rfl
def g_X5_putNumber_31 (F : Nat) : Nat → Int32 → Int32 → Int32 → (Nat → Int32) → (Nat → Int32) → Int32 → Option ((Nat → Int32) × (Nat → Int32) × Int32)
  | 0, _, _, _, _, _, _ => none
  | n + 1, v3, v4, v5, w_ch, w_dg, w_len => (if (8 : Int32) ≤ v5 then mn (v5 - (1 : Int32)) (fun v6_2 => g_X5_putNumber_81 F F v4 v6_2 w_ch w_dg w_len) else (if 0 < v3 then g_X5_putNumber_49 F (g_X5_putNumber_31 F n) v3 v4 v5 w_ch w_dg w_len else (if v4 < v5 then mn (v5 - (1 : Int32)) (fun v6_5 => g_X5_putNumber_81 F F v4 v6_5 w_ch w_dg w_len) else g_X5_putNumber_49 F (g_X5_putNumber_31 F n) v3 v4 v5 w_ch w_dg w_len)))
theorem g_X5_putNumber_31_z (F : Nat) (v3 : Int32) (v4 : Int32) (v5 : Int32) (w_ch : Nat → Int32) (w_dg : Nat → Int32) (w_len : Int32) : g_X5_putNumber_31 F 0 v3 v4 v5 w_ch w_dg w_len = none := rfl
theorem g_X5_putNumber_31_s (F : Nat) (n : Nat) (v3 : Int32) (v4 : Int32) (v5 : Int32) (w_ch : Nat → Int32) (w_dg : Nat → Int32) (w_len : Int32) : g_X5_putNumber_31 F (n + 1) v3 v4 v5 w_ch w_dg w_len = (if (8 : Int32) ≤ v5 then mn (v5 - (1 : Int32)) (fun v6_2 => g_X5_putNumber_81 F F v4 v6_2 w_ch w_dg w_len) else (if 0 < v3 then g_X5_putNumber_49 F (g_X5_putNumber_31 F n) v3 v4 v5 w_ch w_dg w_len else (if v4 < v5 then mn (v5 - (1 : Int32)) (fun v6_5 => g_X5_putNumber_81 F F v4 v6_5 w_ch w_dg w_len) else g_X5_putNumber_49 F (g_X5_putNumber_31 F n) v3 v4 v5 w_ch w_dg w_len))) := rfl
def g_X5_putNumber_5 (F : Nat) : Nat → Int32 → Int32 → (Nat → Int32) → (Nat → Int32) → Int32 → Option ((Nat → Int32) × (Nat → Int32) × Int32)
  | 0, _, _, _, _, _ => none
  | n + 1, v3, v4, w_ch, w_dg, w_len => (if v4 ≤ 0 then g_X5_putNumber_31 F F v3 v4 (0 : Int32) w_ch w_dg w_len else (if (v3 - v3 / (10 : Int32) * (10 : Int32)) = 0 then mn (v3 / (10 : Int32)) (fun v3_3 => mn (v4 + (-1 : Int32)) (fun v4_4 => g_X5_putNumber_5 F n v3_3 v4_4 w_ch w_dg w_len)) else g_X5_putNumber_31 F F v3 v4 (0 : Int32) w_ch w_dg w_len))
theorem g_X5_putNumber_5_z (F : Nat) (v3 : Int32) (v4 : Int32) (w_ch : Nat → Int32) (w_dg : Nat → Int32) (w_len : Int32) : g_X5_putNumber_5 F 0 v3 v4 w_ch w_dg w_len = none := rfl
theorem g_X5_putNumber_5_s (F : Nat) (n : Nat) (v3 : Int32) (v4 : Int32) (w_ch : Nat → Int32) (w_dg : Nat → Int32) (w_len : Int32) : g_X5_putNumber_5 F (n + 1) v3 v4 w_ch w_dg w_len = (if v4 ≤ 0 then g_X5_putNumber_31 F F v3 v4 (0 : Int32) w_ch w_dg w_len else (if (v3 - v3 / (10 : Int32) * (10 : Int32)) = 0 then mn (v3 / (10 : Int32)) (fun v3_3 => mn (v4 + (-1 : Int32)) (fun v4_4 => g_X5_putNumber_5 F n v3_3 v4_4 w_ch w_dg w_len)) else g_X5_putNumber_31 F F v3 v4 (0 : Int32) w_ch w_dg w_len)) := rfl
def f_X5_putNumber (F : Nat) (v1 : Int32) (v2 : Int32) (w_ch : Nat → Int32) (w_dg : Nat → Int32) (w_len : Int32) : Option ((Nat → Int32) × (Nat → Int32) × Int32) := g_X5_putNumber_5 F F v1 v2 w_ch w_dg w_len
set_option maxRecDepth 20000 in
theorem n_X5_putNumber_X5 : ∀ w ∈ wsX50, w ∈ wsX5_putNumber := by decide +kernel
set_option maxRecDepth 20000 in
theorem w_X5_putNumber_f15 : Cond.fieldLink RX5 15 "LayerStacks$Writing" "digits" "[C" ∈ wsX5_putNumber := by decide +kernel
set_option maxHeartbeats 4000000 in
set_option maxRecDepth 100000 in
theorem k_X5_putNumber_49 {p : Program} {l : Launch} {e : Env} {s : State} {m : MethodId} {args : Array Value} {below : List Frame} {meth : Method} {c : Code} {D : va_G} {y : Nat → ClassId} {A : Nat → Prop} {q : Nat → Nat} {z : (Nat → Int32) × (Nat → Int32) × Int32} (C : CX p s m args meth c wsX5_putNumber RX5 cX5_putNumber 7 none) (hA : ∀ q : Nat, s.heap.size ≤ q → A q) (hK : va_K D vwCl (tyl y) s) (F : Nat) {K_31 : Int32 → Int32 → Int32 → (Nat → Int32) → (Nat → Int32) → Int32 → Option ((Nat → Int32) × (Nat → Int32) × Int32)} (kK_31 : ∀ (v3 : Int32) (v4 : Int32) (v5 : Int32) (w_ch : Nat → Int32) (w_dg : Nat → Int32) (w_len : Int32) (H : Heap) (locs : List Loc) (ls : Array Slot), K_31 v3 v4 v5 w_ch w_dg w_len = some z → va_P D vwCl (wdX5 q y w_ch w_dg w_len) H → va_D A (wdX5 q y w_ch w_dg w_len) → va_S A s.heap H locs → lv_has ls 7 [(0, .ref (q 0)), (3, .int v3), (4, .int v4), (5, .int v5)] → W p l e ({ frames := 1, cells := 0, slots := 0, locals := 21 } : Room) s m args below meth c H locs 0 0 (MQ below (QV D y A (wdX5 q y (z.1) (z.2.1) (z.2.2))) args s 0 0 A) (F0 m 31 ls [])) :
    ∀ (v3 : Int32) (v4 : Int32) (v5 : Int32) (w_ch : Nat → Int32) (w_dg : Nat → Int32) (w_len : Int32) (H : Heap) (locs : List Loc) (ls : Array Slot), g_X5_putNumber_49 F K_31 v3 v4 v5 w_ch w_dg w_len = some z → va_P D vwCl (wdX5 q y w_ch w_dg w_len) H → va_D A (wdX5 q y w_ch w_dg w_len) → va_S A s.heap H locs → lv_has ls 7 [(0, .ref (q 0)), (3, .int v3), (4, .int v4), (5, .int v5)] → W p l e ({ frames := 1, cells := 0, slots := 0, locals := 21 } : Room) s m args below meth c H locs 0 0 (MQ below (QV D y A (wdX5 q y (z.1) (z.2.1) (z.2.2))) args s 0 0 A) (F0 m 49 ls []) := by
  obtain ⟨⟨hx, hb, hml, hown, hts⟩, hr, hlocks⟩ := id C
  intro v3 v4 v5 w_ch w_dg w_len H locs ls hm hP hD hS hl
  unfold g_X5_putNumber_49 at hm
  refine lv_aload_n hx hb dX5_putNumber_49 rfl (lv_at hl 0 rfl) ?_
  refine va_get (D := D) (ci := 5) (v := .ref (q 2)) (C := RX5) (T := TX5) (N := 3) hx hb hts n_X5_putNumber_X5 hown hK hP 0 rfl rfl 1 (by decide) (hts _ w_X5_putNumber_f15) (fun _ h9 => h9) rfl dX5_putNumber_50 ?_
  refine lv_iload hx hb dX5_putNumber_53 (lv_at hl 3 rfl) ?_
  refine lv_bipush (v := (48 : Int32)) hx hb dX5_putNumber_55 (by decide) ?_
  refine lv_iload_n hx hb dX5_putNumber_57 rfl (lv_at hl 1 rfl) ?_
  refine lv_bipush (v := (10 : Int32)) hx hb dX5_putNumber_58 (by decide) ?_
  refine lv_irem hx hb dX5_putNumber_60 (by decide) ?_
  refine lv_iadd hx hb dX5_putNumber_61 ?_
  refine lv_i2c (v := ((((48 : Int32) + (v3 - v3 / (10 : Int32) * (10 : Int32)))).toUInt32 % 65536).toInt32) hx hb dX5_putNumber_62 rfl ?_
  obtain ⟨hg_1, hm⟩ := mg_of hm
  refine va_cast hx hb hK hP hD hS 2 2 rfl rfl hg_1 dX5_putNumber_63 (fun H locs hP hD hS => ?_)
  have hP : va_P D vwCl (wdX5 q y w_ch (upd w_dg (v5).toNatClampNeg (vp_nar .char (((((48 : Int32) + (v3 - v3 / (10 : Int32) * (10 : Int32)))).toUInt32 % 65536).toInt32))) w_len) H := hP
  have hD : va_D A (wdX5 q y w_ch (upd w_dg (v5).toNatClampNeg (vp_nar .char (((((48 : Int32) + (v3 - v3 / (10 : Int32) * (10 : Int32)))).toUInt32 % 65536).toInt32))) w_len) := hD
  refine lv_iload_n hx hb dX5_putNumber_64 rfl (lv_at hl 1 rfl) ?_
  refine lv_bipush (v := (10 : Int32)) hx hb dX5_putNumber_65 (by decide) ?_
  refine lv_idiv hx hb dX5_putNumber_67 (by decide) ?_
  refine lv_topi (fun v3_2 ev3_2 => ?_)
  have hm := mn_of ev3_2 hm
  refine lv_istore_n (lv' := [(3, .int v3_2), (0, .ref (q 0)), (4, .int v4), (5, .int v5)]) hx hb dX5_putNumber_68 rfl hl (by decide) rfl (fun ls hl => ?_)
  obtain ⟨v5_3, ev5_3⟩ : ∃ y9 : Int32, y9 = (v5 + (1 : Int32)) := ⟨_, rfl⟩
  have hm := mn_of ev5_3 hm
  refine lv_iinc (v := v5_3) (lv' := [(5, .int v5_3), (3, .int v3_2), (0, .ref (q 0)), (4, .int v4)]) hx hb dX5_putNumber_69 hl (k := 3) rfl (by rw [ev5_3]; rfl) (by decide) rfl (fun ls hl => ?_)
  refine lv_goto (tgt := 31) hx hb dX5_putNumber_72 (by decide) ?_
  exact kK_31 v3_2 v4 v5_3 w_ch (upd w_dg (v5).toNatClampNeg (vp_nar .char (((((48 : Int32) + (v3 - v3 / (10 : Int32) * (10 : Int32)))).toUInt32 % 65536).toInt32))) w_len _ _ _ hm hP hD hS (lv_sub hl [2, 1, 3, 0] rfl)
set_option maxHeartbeats 4000000 in
set_option maxRecDepth 100000 in
theorem k_X5_putNumber_81 {p : Program} {l : Launch} {e : Env} {s : State} {m : MethodId} {args : Array Value} {below : List Frame} {meth : Method} {c : Code} {D : va_G} {y : Nat → ClassId} {A : Nat → Prop} {q : Nat → Nat} {z : (Nat → Int32) × (Nat → Int32) × Int32} (C : CX p s m args meth c wsX5_putNumber RX5 cX5_putNumber 7 none) (hA : ∀ q : Nat, s.heap.size ≤ q → A q) (hK : va_K D vwCl (tyl y) s) (F : Nat) :
    ∀ (n : Nat), ∀ (v4 : Int32) (v6 : Int32) (w_ch : Nat → Int32) (w_dg : Nat → Int32) (w_len : Int32) (H : Heap) (locs : List Loc) (ls : Array Slot), g_X5_putNumber_81 F n v4 v6 w_ch w_dg w_len = some z → va_P D vwCl (wdX5 q y w_ch w_dg w_len) H → va_D A (wdX5 q y w_ch w_dg w_len) → va_S A s.heap H locs → lv_has ls 7 [(0, .ref (q 0)), (4, .int v4), (6, .int v6)] → W p l e ({ frames := 1, cells := 0, slots := 0, locals := 21 } : Room) s m args below meth c H locs 0 0 (MQ below (QV D y A (wdX5 q y (z.1) (z.2.1) (z.2.2))) args s 0 0 A) (F0 m 81 ls []) := by
  obtain ⟨⟨hx, hb, hml, hown, hts⟩, hr, hlocks⟩ := id C
  intro n
  induction n with
  | zero =>
    intro v4 v6 w_ch w_dg w_len H locs ls hm
    rw [g_X5_putNumber_81_z] at hm
    cases hm
  | succ n ih =>
    intro v4 v6 w_ch w_dg w_len H locs ls hm hP hD hS hl
    rw [g_X5_putNumber_81_s] at hm
    refine lv_iload hx hb dX5_putNumber_81 (lv_at hl 2 rfl) ?_
    refine lv_if_lt (tgt := 121) hx hb dX5_putNumber_83 (by decide) (fun h_1 => ?_) (fun h_1 => ?_)
    · have hm := it_of hm h_1
      have hz := Option.some.inj hm
      subst hz
      exact end_v C hK hP hD hS dX5_putNumber_121
    · have hm := ie_of hm h_1
      refine lv_aload_n hx hb dX5_putNumber_86 rfl (lv_at hl 0 rfl) ?_
      refine lv_aload_n hx hb dX5_putNumber_87 rfl (lv_at hl 0 rfl) ?_
      refine va_get (D := D) (ci := 5) (v := .ref (q 2)) (C := RX5) (T := TX5) (N := 3) hx hb hts n_X5_putNumber_X5 hown hK hP 0 rfl rfl 1 (by decide) (hts _ w_X5_putNumber_f15) (fun _ h9 => h9) rfl dX5_putNumber_88 ?_
      refine lv_iload hx hb dX5_putNumber_91 (lv_at hl 2 rfl) ?_
      obtain ⟨hg_2, hm⟩ := mg_of hm
      refine va_cald hx hb hK hP 2 2 rfl rfl hg_2 dX5_putNumber_93 ?_
      obtain ⟨w_ch_3, w_len_4, hc_5, hm⟩ := mb2_of hm
      refine call_vv (wc := (wdX5 q y w_ch w_dg w_len)) (wr := []) (As := [.int (w_dg (v6).toNatClampNeg)]) (rest := []) C (c_X5_put l D y q _ F hc_5) (cwV 1 hts gX5_putNumber_X5_put rfl rfl rfl (by decide +kernel) ⟨Nat.le_of_ble_eq_true rfl, Nat.le_of_ble_eq_true rfl⟩) hK hP hD hS hA [0, 1, 2] [] rfl rfl rfl rfl rfl (by decide) rfl rfl rfl rfl hl.1 (Nat.le_of_ble_eq_true rfl) dX5_putNumber_94 (fun H locs hP hD hS => ?_)
      have hP : va_P D vwCl (wdX5 q y w_ch_3 w_dg w_len_4) H := hP
      have hD : va_D A (wdX5 q y w_ch_3 w_dg w_len_4) := hD
      refine lv_iload hx hb dX5_putNumber_97 (lv_at hl 2 rfl) ?_
      refine lv_if_le (tgt := 115) hx hb dX5_putNumber_99 (by decide) (fun h_6 => ?_) (fun h_6 => ?_)
      · have hm := it_of hm h_6
        obtain ⟨v6_7, ev6_7⟩ : ∃ y9 : Int32, y9 = (v6 + (-1 : Int32)) := ⟨_, rfl⟩
        have hm := mn_of ev6_7 hm
        refine lv_iinc (v := v6_7) (lv' := [(6, .int v6_7), (0, .ref (q 0)), (4, .int v4)]) hx hb dX5_putNumber_115 hl (k := 2) rfl (by rw [ev6_7]; rfl) (by decide) rfl (fun ls hl => ?_)
        refine lv_goto (tgt := 81) hx hb dX5_putNumber_118 (by decide) ?_
        exact ih v4 v6_7 w_ch_3 w_dg w_len_4 _ _ _ hm hP hD hS (lv_sub hl [1, 2, 0] rfl)
      · have hm := ie_of hm h_6
        refine lv_iload hx hb dX5_putNumber_102 (lv_at hl 2 rfl) ?_
        refine lv_iload hx hb dX5_putNumber_104 (lv_at hl 1 rfl) ?_
        refine lv_icmp_ne (tgt := 115) hx hb dX5_putNumber_106 (by decide) (fun h_8 => ?_) (fun h_8 => ?_)
        · have hm := ie_of hm h_8
          obtain ⟨v6_9, ev6_9⟩ : ∃ y9 : Int32, y9 = (v6 + (-1 : Int32)) := ⟨_, rfl⟩
          have hm := mn_of ev6_9 hm
          refine lv_iinc (v := v6_9) (lv' := [(6, .int v6_9), (0, .ref (q 0)), (4, .int v4)]) hx hb dX5_putNumber_115 hl (k := 2) rfl (by rw [ev6_9]; rfl) (by decide) rfl (fun ls hl => ?_)
          refine lv_goto (tgt := 81) hx hb dX5_putNumber_118 (by decide) ?_
          exact ih v4 v6_9 w_ch_3 w_dg w_len_4 _ _ _ hm hP hD hS (lv_sub hl [1, 2, 0] rfl)
        · have hm := it_of hm h_8
          refine lv_aload_n hx hb dX5_putNumber_109 rfl (lv_at hl 0 rfl) ?_
          refine lv_bipush (v := (46 : Int32)) hx hb dX5_putNumber_110 (by decide) ?_
          obtain ⟨w_ch_10, w_len_11, hc_12, hm⟩ := mb2_of hm
          refine call_vv (wc := (wdX5 q y w_ch_3 w_dg w_len_4)) (wr := []) (As := [.int (46 : Int32)]) (rest := []) C (c_X5_put l D y q _ F hc_12) (cwV 1 hts gX5_putNumber_X5_put rfl rfl rfl (by decide +kernel) ⟨Nat.le_of_ble_eq_true rfl, Nat.le_of_ble_eq_true rfl⟩) hK hP hD hS hA [0, 1, 2] [] rfl rfl rfl rfl rfl (by decide) rfl rfl rfl rfl hl.1 (Nat.le_of_ble_eq_true rfl) dX5_putNumber_112 (fun H locs hP hD hS => ?_)
          have hP : va_P D vwCl (wdX5 q y w_ch_10 w_dg w_len_11) H := hP
          have hD : va_D A (wdX5 q y w_ch_10 w_dg w_len_11) := hD
          obtain ⟨v6_13, ev6_13⟩ : ∃ y9 : Int32, y9 = (v6 + (-1 : Int32)) := ⟨_, rfl⟩
          have hm := mn_of ev6_13 hm
          refine lv_iinc (v := v6_13) (lv' := [(6, .int v6_13), (0, .ref (q 0)), (4, .int v4)]) hx hb dX5_putNumber_115 hl (k := 2) rfl (by rw [ev6_13]; rfl) (by decide) rfl (fun ls hl => ?_)
          refine lv_goto (tgt := 81) hx hb dX5_putNumber_118 (by decide) ?_
          exact ih v4 v6_13 w_ch_10 w_dg w_len_11 _ _ _ hm hP hD hS (lv_sub hl [1, 2, 0] rfl)
set_option maxHeartbeats 4000000 in
set_option maxRecDepth 100000 in
theorem k_X5_putNumber_31 {p : Program} {l : Launch} {e : Env} {s : State} {m : MethodId} {args : Array Value} {below : List Frame} {meth : Method} {c : Code} {D : va_G} {y : Nat → ClassId} {A : Nat → Prop} {q : Nat → Nat} {z : (Nat → Int32) × (Nat → Int32) × Int32} (C : CX p s m args meth c wsX5_putNumber RX5 cX5_putNumber 7 none) (hA : ∀ q : Nat, s.heap.size ≤ q → A q) (hK : va_K D vwCl (tyl y) s) (F : Nat) :
    ∀ (n : Nat), ∀ (v3 : Int32) (v4 : Int32) (v5 : Int32) (w_ch : Nat → Int32) (w_dg : Nat → Int32) (w_len : Int32) (H : Heap) (locs : List Loc) (ls : Array Slot), g_X5_putNumber_31 F n v3 v4 v5 w_ch w_dg w_len = some z → va_P D vwCl (wdX5 q y w_ch w_dg w_len) H → va_D A (wdX5 q y w_ch w_dg w_len) → va_S A s.heap H locs → lv_has ls 7 [(0, .ref (q 0)), (3, .int v3), (4, .int v4), (5, .int v5)] → W p l e ({ frames := 1, cells := 0, slots := 0, locals := 21 } : Room) s m args below meth c H locs 0 0 (MQ below (QV D y A (wdX5 q y (z.1) (z.2.1) (z.2.2))) args s 0 0 A) (F0 m 31 ls []) := by
  obtain ⟨⟨hx, hb, hml, hown, hts⟩, hr, hlocks⟩ := id C
  intro n
  induction n with
  | zero =>
    intro v3 v4 v5 w_ch w_dg w_len H locs ls hm
    rw [g_X5_putNumber_31_z] at hm
    cases hm
  | succ n ih =>
    intro v3 v4 v5 w_ch w_dg w_len H locs ls hm hP hD hS hl
    rw [g_X5_putNumber_31_s] at hm
    refine lv_iload hx hb dX5_putNumber_31 (lv_at hl 3 rfl) ?_
    refine lv_bipush (v := (8 : Int32)) hx hb dX5_putNumber_33 (by decide) ?_
    refine lv_icmp_ge (tgt := 75) hx hb dX5_putNumber_35 (by decide) (fun h_1 => ?_) (fun h_1 => ?_)
    · have hm := it_of hm h_1
      refine lv_iload hx hb dX5_putNumber_75 (lv_at hl 3 rfl) ?_
      refine lv_iconst (v := (1 : Int32)) hx hb dX5_putNumber_77 (by decide) ?_
      refine lv_isub hx hb dX5_putNumber_78 ?_
      refine lv_topi (fun v6_2 ev6_2 => ?_)
      have hm := mn_of ev6_2 hm
      refine lv_istore (lv' := [(6, .int v6_2), (0, .ref (q 0)), (3, .int v3), (4, .int v4), (5, .int v5)]) hx hb dX5_putNumber_79 hl (by decide) rfl (fun ls hl => ?_)
      exact k_X5_putNumber_81 C hA hK F F v4 v6_2 w_ch w_dg w_len _ _ _ hm hP hD hS (lv_sub hl [1, 3, 0] rfl)
    · have hm := ie_of hm h_1
      refine lv_iload_n hx hb dX5_putNumber_38 rfl (lv_at hl 1 rfl) ?_
      refine lv_if_gt (tgt := 49) hx hb dX5_putNumber_39 (by decide) (fun h_3 => ?_) (fun h_3 => ?_)
      · have hm := it_of hm h_3
        exact k_X5_putNumber_49 C hA hK F (K_31 := g_X5_putNumber_31 F n) ih v3 v4 v5 w_ch w_dg w_len _ _ _ hm hP hD hS (lv_sub hl [0, 1, 2, 3] rfl)
      · have hm := ie_of hm h_3
        refine lv_iload hx hb dX5_putNumber_42 (lv_at hl 3 rfl) ?_
        refine lv_iload hx hb dX5_putNumber_44 (lv_at hl 2 rfl) ?_
        refine lv_icmp_gt (tgt := 75) hx hb dX5_putNumber_46 (by decide) (fun h_4 => ?_) (fun h_4 => ?_)
        · have hm := it_of hm h_4
          refine lv_iload hx hb dX5_putNumber_75 (lv_at hl 3 rfl) ?_
          refine lv_iconst (v := (1 : Int32)) hx hb dX5_putNumber_77 (by decide) ?_
          refine lv_isub hx hb dX5_putNumber_78 ?_
          refine lv_topi (fun v6_5 ev6_5 => ?_)
          have hm := mn_of ev6_5 hm
          refine lv_istore (lv' := [(6, .int v6_5), (0, .ref (q 0)), (3, .int v3), (4, .int v4), (5, .int v5)]) hx hb dX5_putNumber_79 hl (by decide) rfl (fun ls hl => ?_)
          exact k_X5_putNumber_81 C hA hK F F v4 v6_5 w_ch w_dg w_len _ _ _ hm hP hD hS (lv_sub hl [1, 3, 0] rfl)
        · have hm := ie_of hm h_4
          exact k_X5_putNumber_49 C hA hK F (K_31 := g_X5_putNumber_31 F n) ih v3 v4 v5 w_ch w_dg w_len _ _ _ hm hP hD hS (lv_sub hl [0, 1, 2, 3] rfl)
set_option maxHeartbeats 4000000 in
set_option maxRecDepth 100000 in
theorem k_X5_putNumber_5 {p : Program} {l : Launch} {e : Env} {s : State} {m : MethodId} {args : Array Value} {below : List Frame} {meth : Method} {c : Code} {D : va_G} {y : Nat → ClassId} {A : Nat → Prop} {q : Nat → Nat} {z : (Nat → Int32) × (Nat → Int32) × Int32} (C : CX p s m args meth c wsX5_putNumber RX5 cX5_putNumber 7 none) (hA : ∀ q : Nat, s.heap.size ≤ q → A q) (hK : va_K D vwCl (tyl y) s) (F : Nat) :
    ∀ (n : Nat), ∀ (v3 : Int32) (v4 : Int32) (w_ch : Nat → Int32) (w_dg : Nat → Int32) (w_len : Int32) (H : Heap) (locs : List Loc) (ls : Array Slot), g_X5_putNumber_5 F n v3 v4 w_ch w_dg w_len = some z → va_P D vwCl (wdX5 q y w_ch w_dg w_len) H → va_D A (wdX5 q y w_ch w_dg w_len) → va_S A s.heap H locs → lv_has ls 7 [(0, .ref (q 0)), (3, .int v3), (4, .int v4)] → W p l e ({ frames := 1, cells := 0, slots := 0, locals := 21 } : Room) s m args below meth c H locs 0 0 (MQ below (QV D y A (wdX5 q y (z.1) (z.2.1) (z.2.2))) args s 0 0 A) (F0 m 5 ls []) := by
  obtain ⟨⟨hx, hb, hml, hown, hts⟩, hr, hlocks⟩ := id C
  intro n
  induction n with
  | zero =>
    intro v3 v4 w_ch w_dg w_len H locs ls hm
    rw [g_X5_putNumber_5_z] at hm
    cases hm
  | succ n ih =>
    intro v3 v4 w_ch w_dg w_len H locs ls hm hP hD hS hl
    rw [g_X5_putNumber_5_s] at hm
    refine lv_iload hx hb dX5_putNumber_5 (lv_at hl 2 rfl) ?_
    refine lv_if_le (tgt := 28) hx hb dX5_putNumber_7 (by decide) (fun h_1 => ?_) (fun h_1 => ?_)
    · have hm := it_of hm h_1
      refine lv_iconst (v := (0 : Int32)) hx hb dX5_putNumber_28 (by decide) ?_
      refine lv_istore (lv' := [(5, .int (0 : Int32)), (0, .ref (q 0)), (3, .int v3), (4, .int v4)]) hx hb dX5_putNumber_29 hl (by decide) rfl (fun ls hl => ?_)
      exact k_X5_putNumber_31 C hA hK F F v3 v4 (0 : Int32) w_ch w_dg w_len _ _ _ hm hP hD hS (lv_sub hl [1, 2, 3, 0] rfl)
    · have hm := ie_of hm h_1
      refine lv_iload_n hx hb dX5_putNumber_10 rfl (lv_at hl 1 rfl) ?_
      refine lv_bipush (v := (10 : Int32)) hx hb dX5_putNumber_11 (by decide) ?_
      refine lv_irem hx hb dX5_putNumber_13 (by decide) ?_
      refine lv_if_ne (tgt := 28) hx hb dX5_putNumber_14 (by decide) (fun h_2 => ?_) (fun h_2 => ?_)
      · have hm := ie_of hm h_2
        refine lv_iconst (v := (0 : Int32)) hx hb dX5_putNumber_28 (by decide) ?_
        refine lv_istore (lv' := [(5, .int (0 : Int32)), (0, .ref (q 0)), (3, .int v3), (4, .int v4)]) hx hb dX5_putNumber_29 hl (by decide) rfl (fun ls hl => ?_)
        exact k_X5_putNumber_31 C hA hK F F v3 v4 (0 : Int32) w_ch w_dg w_len _ _ _ hm hP hD hS (lv_sub hl [1, 2, 3, 0] rfl)
      · have hm := it_of hm h_2
        refine lv_iload_n hx hb dX5_putNumber_17 rfl (lv_at hl 1 rfl) ?_
        refine lv_bipush (v := (10 : Int32)) hx hb dX5_putNumber_18 (by decide) ?_
        refine lv_idiv hx hb dX5_putNumber_20 (by decide) ?_
        refine lv_topi (fun v3_3 ev3_3 => ?_)
        have hm := mn_of ev3_3 hm
        refine lv_istore_n (lv' := [(3, .int v3_3), (0, .ref (q 0)), (4, .int v4)]) hx hb dX5_putNumber_21 rfl hl (by decide) rfl (fun ls hl => ?_)
        obtain ⟨v4_4, ev4_4⟩ : ∃ y9 : Int32, y9 = (v4 + (-1 : Int32)) := ⟨_, rfl⟩
        have hm := mn_of ev4_4 hm
        refine lv_iinc (v := v4_4) (lv' := [(4, .int v4_4), (3, .int v3_3), (0, .ref (q 0))]) hx hb dX5_putNumber_22 hl (k := 2) rfl (by rw [ev4_4]; rfl) (by decide) rfl (fun ls hl => ?_)
        refine lv_goto (tgt := 5) hx hb dX5_putNumber_25 (by decide) ?_
        exact ih v3_3 v4_4 w_ch w_dg w_len _ _ _ hm hP hD hS (lv_sub hl [2, 1, 0] rfl)
set_option maxHeartbeats 4000000 in
set_option maxRecDepth 100000 in
theorem c_X5_putNumber (l : Launch) (D : va_G) (y : Nat → ClassId) (q : Nat → Nat) (sz : Nat) (F : Nat) {v1 : Int32} {v2 : Int32} {w_ch : Nat → Int32} {w_dg : Nat → Int32} {w_len : Int32} {z : (Nat → Int32) × (Nat → Int32) × Int32} (hm : f_X5_putNumber F v1 v2 w_ch w_dg w_len = some z) : Met l yX5_putNumber wsX5_putNumber ({ frames := 1, cells := 0, slots := 0, locals := 21 } : Room) (va_Pc [.ref (q 0), .int v1, .int v2] (cP D y (wdX5 q y w_ch w_dg w_len) sz)) (QV D y (va_A (wdX5 q y w_ch w_dg w_len) sz) (wdX5 q y (z.1) (z.2.1) (z.2.2))) 0 0 (va_A (wdX5 q y w_ch w_dg w_len) sz) := by
  refine met_of (own := RX5) (cc := cX5_putNumber) (maxL := 7) (ret := none) (by decide) rfl rfl (Nat.le_of_ble_eq_true rfl) ?_
  intro p e s m below meth c ls C hsz hK hP hD hA hS hl
  obtain ⟨⟨hx, hb, hml, hown, hts⟩, hr, hlocks⟩ := id C
  have hl : lv_has ls 7 [(0, .ref (q 0)), (1, .int v1), (2, .int v2)] := hl
  generalize va_A (wdX5 q y w_ch w_dg w_len) sz = A at hD hA hS ⊢
  generalize ([.ref (q 0), .int v1, .int v2] : List Value).toArray = args at C hts ⊢
  unfold f_X5_putNumber at hm
  refine lv_iload_n hx hb dX5_putNumber_0 rfl (lv_at hl 1 rfl) ?_
  refine lv_istore_n (lv' := [(3, .int v1), (0, .ref (q 0)), (1, .int v1), (2, .int v2)]) hx hb dX5_putNumber_1 rfl hl (by decide) rfl (fun ls hl => ?_)
  refine lv_iload_n hx hb dX5_putNumber_2 rfl (lv_at hl 3 rfl) ?_
  refine lv_istore (lv' := [(4, .int v2), (3, .int v1), (0, .ref (q 0)), (1, .int v1), (2, .int v2)]) hx hb dX5_putNumber_3 hl (by decide) rfl (fun ls hl => ?_)
  exact k_X5_putNumber_5 C hA hK F F v1 v2 w_ch w_dg w_len _ _ _ hm hP hD hS (lv_sub hl [2, 1, 0] rfl)
def g_X5_putWord_2 (F : Nat) (i1 : Nat) : Nat → Int32 → (Nat → Int32) → Int32 → Option ((Nat → Int32) × Int32)
  | 0, _, _, _ => none
  | n + 1, v2, w_ch, w_len => (if (Int32.ofNat (sLen.getD i1 0)) ≤ v2 then some (w_ch, w_len) else mg (inb v2 (sLen.getD i1 0)) (mb2 (f_X5_put F (sCh i1 v2) w_ch w_len) (fun w_ch_3 w_len_4 => mn (v2 + (1 : Int32)) (fun v2_6 => g_X5_putWord_2 F i1 n v2_6 w_ch_3 w_len_4))))
theorem g_X5_putWord_2_z (F : Nat) (i1 : Nat) (v2 : Int32) (w_ch : Nat → Int32) (w_len : Int32) : g_X5_putWord_2 F i1 0 v2 w_ch w_len = none := rfl
theorem g_X5_putWord_2_s (F : Nat) (i1 : Nat) (n : Nat) (v2 : Int32) (w_ch : Nat → Int32) (w_len : Int32) : g_X5_putWord_2 F i1 (n + 1) v2 w_ch w_len = (if (Int32.ofNat (sLen.getD i1 0)) ≤ v2 then some (w_ch, w_len) else mg (inb v2 (sLen.getD i1 0)) (mb2 (f_X5_put F (sCh i1 v2) w_ch w_len) (fun w_ch_3 w_len_4 => mn (v2 + (1 : Int32)) (fun v2_6 => g_X5_putWord_2 F i1 n v2_6 w_ch_3 w_len_4)))) := rfl
def f_X5_putWord (F : Nat) (i1 : Nat) (w_ch : Nat → Int32) (w_len : Int32) : Option ((Nat → Int32) × Int32) := g_X5_putWord_2 F i1 F (0 : Int32) w_ch w_len
set_option maxHeartbeats 4000000 in
set_option maxRecDepth 100000 in
theorem k_X5_putWord_2 {p : Program} {l : Launch} {e : Env} {s : State} {m : MethodId} {args : Array Value} {below : List Frame} {meth : Method} {c : Code} {D : va_G} {y : Nat → ClassId} {aK aV : Nat → Nat} {i1 : Nat} {A : Nat → Prop} {q : Nat → Nat} {w_dg : Nat → Int32} {z : (Nat → Int32) × Int32} (C : CX p s m args meth c wsX5_putWord RX5 cX5_putWord 3 none) (hA : ∀ q : Nat, s.heap.size ≤ q → A q) (hK : va_K D vwCl (tyl y) s) (hJ : SJ aK aV A s s.heap) (hi1 : i1 < 7) (F : Nat) :
    ∀ (n : Nat), ∀ (v2 : Int32) (w_ch : Nat → Int32) (w_len : Int32) (H : Heap) (locs : List Loc) (ls : Array Slot), g_X5_putWord_2 F i1 n v2 w_ch w_len = some z → va_P D vwCl (wdX5 q y w_ch w_dg w_len) H → va_D A (wdX5 q y w_ch w_dg w_len) → va_S A s.heap H locs → lv_has ls 3 [(0, .ref (q 0)), (1, .ref (aK i1)), (2, .int v2)] → W p l e ({ frames := 4, cells := 0, slots := 0, locals := 85 } : Room) s m args below meth c H locs 0 0 (MQ below (QV D y A (wdX5 q y (z.1) w_dg (z.2))) args s 0 0 A) (F0 m 2 ls []) := by
  obtain ⟨⟨hx, hb, hml, hown, hts⟩, hr, hlocks⟩ := id C
  intro n
  induction n with
  | zero =>
    intro v2 w_ch w_len H locs ls hm
    rw [g_X5_putWord_2_z] at hm
    cases hm
  | succ n ih =>
    intro v2 w_ch w_len H locs ls hm hP hD hS hl
    rw [g_X5_putWord_2_s] at hm
    refine lv_iload_n hx hb dX5_putWord_2 rfl (lv_at hl 2 rfl) ?_
    refine lv_aload_n hx hb dX5_putWord_3 rfl (lv_at hl 1 rfl) ?_
    refine callJ_vi (wc := ([] : va_W)) (wr := (wdX5 q y w_ch w_dg w_len)) (As := []) (rest := [.int v2]) C (c_J0_length_8abf5 l D y aK aV _ hi1) (cwV 0 hts gX5_putWord_J0_length_8abf5 rfl rfl rfl (by decide +kernel) ⟨Nat.le_of_ble_eq_true rfl, Nat.le_of_ble_eq_true rfl⟩) hJ hK hP hD hS hA [] [0, 1, 2] rfl rfl rfl rfl rfl (by decide) (vk_recv hJ.1.1 hi1 hS) rfl hl.1 (Nat.le_of_ble_eq_true rfl) dX5_putWord_4 (fun H locs hP hD hS => ?_)
    have hP : va_P D vwCl (wdX5 q y w_ch w_dg w_len) H := hP
    have hD : va_D A (wdX5 q y w_ch w_dg w_len) := hD
    refine lv_icmp_ge (tgt := 25) hx hb dX5_putWord_7 (by decide) (fun h_1 => ?_) (fun h_1 => ?_)
    · have hm := it_of hm h_1
      have hz := Option.some.inj hm
      subst hz
      exact end_v C hK hP hD hS dX5_putWord_25
    · have hm := ie_of hm h_1
      refine lv_aload_n hx hb dX5_putWord_10 rfl (lv_at hl 0 rfl) ?_
      refine lv_aload_n hx hb dX5_putWord_11 rfl (lv_at hl 1 rfl) ?_
      refine lv_iload_n hx hb dX5_putWord_12 rfl (lv_at hl 2 rfl) ?_
      obtain ⟨hg_2, hm⟩ := mg_of hm
      refine callJ_vi (wc := ([] : va_W)) (wr := (wdX5 q y w_ch w_dg w_len)) (As := [.int v2]) (rest := [.ref (q 0)]) C (c_J0_charAt_5068e l D y aK aV _ hi1 hg_2) (cwV 1 hts gX5_putWord_J0_charAt_5068e rfl rfl rfl (by decide +kernel) ⟨Nat.le_of_ble_eq_true rfl, Nat.le_of_ble_eq_true rfl⟩) hJ hK hP hD hS hA [] [0, 1, 2] rfl rfl rfl rfl rfl (by decide) (vk_recv hJ.1.1 hi1 hS) rfl hl.1 (Nat.le_of_ble_eq_true rfl) dX5_putWord_13 (fun H locs hP hD hS => ?_)
      have hP : va_P D vwCl (wdX5 q y w_ch w_dg w_len) H := hP
      have hD : va_D A (wdX5 q y w_ch w_dg w_len) := hD
      obtain ⟨w_ch_3, w_len_4, hc_5, hm⟩ := mb2_of hm
      refine call_vv (wc := (wdX5 q y w_ch w_dg w_len)) (wr := []) (As := [.int (sCh i1 v2)]) (rest := []) C (c_X5_put l D y q _ F hc_5) (cwV 1 hts gX5_putWord_X5_put rfl rfl rfl (by decide +kernel) ⟨Nat.le_of_ble_eq_true rfl, Nat.le_of_ble_eq_true rfl⟩) hK hP hD hS hA [0, 1, 2] [] rfl rfl rfl rfl rfl (by decide) rfl rfl rfl rfl hl.1 (Nat.le_of_ble_eq_true rfl) dX5_putWord_16 (fun H locs hP hD hS => ?_)
      have hP : va_P D vwCl (wdX5 q y w_ch_3 w_dg w_len_4) H := hP
      have hD : va_D A (wdX5 q y w_ch_3 w_dg w_len_4) := hD
      obtain ⟨v2_6, ev2_6⟩ : ∃ y9 : Int32, y9 = (v2 + (1 : Int32)) := ⟨_, rfl⟩
      have hm := mn_of ev2_6 hm
      refine lv_iinc (v := v2_6) (lv' := [(2, .int v2_6), (0, .ref (q 0)), (1, .ref (aK i1))]) hx hb dX5_putWord_19 hl (k := 2) rfl (by rw [ev2_6]; rfl) (by decide) rfl (fun ls hl => ?_)
      refine lv_goto (tgt := 2) hx hb dX5_putWord_22 (by decide) ?_
      exact ih v2_6 w_ch_3 w_len_4 _ _ _ hm hP hD hS (lv_sub hl [1, 2, 0] rfl)
set_option maxHeartbeats 4000000 in
set_option maxRecDepth 100000 in
theorem c_X5_putWord (l : Launch) (D : va_G) (y : Nat → ClassId) (aK aV : Nat → Nat) (q : Nat → Nat) (sz : Nat) (F : Nat) {i1 : Nat} {w_ch : Nat → Int32} {w_dg : Nat → Int32} {w_len : Int32} {z : (Nat → Int32) × Int32} (hi1 : i1 < 7) (hm : f_X5_putWord F i1 w_ch w_len = some z) : Met l yX5_putWord wsX5_putWord ({ frames := 4, cells := 0, slots := 0, locals := 85 } : Room) (va_Pc [.ref (q 0), .ref (aK i1)] (cPJ D y aK aV (wdX5 q y w_ch w_dg w_len) sz)) (QV D y (va_A (wdX5 q y w_ch w_dg w_len) sz) (wdX5 q y (z.1) w_dg (z.2))) 0 0 (va_A (wdX5 q y w_ch w_dg w_len) sz) := by
  refine met_ofJ (own := RX5) (cc := cX5_putWord) (maxL := 3) (ret := none) (by decide) rfl rfl (Nat.le_of_ble_eq_true rfl) ?_
  intro p e s m below meth c ls C hsz hK hP hD hA hS hJ hl
  obtain ⟨⟨hx, hb, hml, hown, hts⟩, hr, hlocks⟩ := id C
  have hl : lv_has ls 3 [(0, .ref (q 0)), (1, .ref (aK i1))] := hl
  generalize va_A (wdX5 q y w_ch w_dg w_len) sz = A at hD hA hS hJ ⊢
  generalize ([.ref (q 0), .ref (aK i1)] : List Value).toArray = args at C hts ⊢
  unfold f_X5_putWord at hm
  refine lv_iconst (v := (0 : Int32)) hx hb dX5_putWord_0 (by decide) ?_
  refine lv_istore_n (lv' := [(2, .int (0 : Int32)), (0, .ref (q 0)), (1, .ref (aK i1))]) hx hb dX5_putWord_1 rfl hl (by decide) rfl (fun ls hl => ?_)
  exact k_X5_putWord_2 C hA hK hJ hi1 F F (0 : Int32) w_ch w_len _ _ _ hm hP hD hS (lv_sub hl [1, 2, 0] rfl)
def f_X5_putLayer (F : Nat) (v2 : Int32) (w_ch : Nat → Int32) (w_dg : Nat → Int32) (w_len : Int32) (b_k : Nat → Int32) (b_n : Nat → Int64) (b_h : Nat → Int32) (b_d : Nat → Int32) : Option ((Nat → Int32) × (Nat → Int32) × Int32) := mg (inb v2 80) (mb2 (f_X5_putWord F (spl (b_k (v2).toNatClampNeg)) w_ch w_len) (fun w_ch_2 w_len_3 => mb2 (f_X5_put F (32 : Int32) w_ch_2 w_len_3) (fun w_ch_5 w_len_6 => mg (inb v2 80) (mb2 (f_X5_putName F (b_n (v2).toNatClampNeg) w_ch_5 w_len_6) (fun w_ch_9 w_len_10 => mg (inb v2 80) ((if (b_k (v2).toNatClampNeg) = (4 : Int32) then mb2 (f_X5_put F (10 : Int32) w_ch_9 w_len_10) (fun w_ch_14 w_len_15 => some (w_ch_14, w_dg, w_len_15)) else mb2 (f_X5_put F (32 : Int32) w_ch_9 w_len_10) (fun w_ch_17 w_len_18 => mg (inb v2 80) (mb3 (f_X5_putNumber F (b_h (v2).toNatClampNeg) (3 : Int32) w_ch_17 w_dg w_len_18) (fun w_ch_21 w_dg_22 w_len_23 => mb2 (f_X5_put F (32 : Int32) w_ch_21 w_len_23) (fun w_ch_25 w_len_26 => mg (inb v2 80) (mb3 (f_X5_putNumber F (b_d (v2).toNatClampNeg) (1 : Int32) w_ch_25 w_dg_22 w_len_26) (fun w_ch_29 w_dg_30 w_len_31 => mb2 (f_X5_put F (10 : Int32) w_ch_29 w_len_31) (fun w_ch_33 w_len_34 => some (w_ch_33, w_dg_30, w_len_34)))))))))))))))
set_option maxRecDepth 20000 in
theorem n_X5_putLayer_X0 : ∀ w ∈ wsX00, w ∈ wsX5_putLayer := by decide +kernel
set_option maxRecDepth 20000 in
theorem w_X5_putLayer_f60 : Cond.fieldLink RX5 60 "LayerStacks$Board" "kinds" "[I" ∈ wsX5_putLayer := by decide +kernel
set_option maxRecDepth 20000 in
theorem w_X5_putLayer_sS : Cond.static yX6_spellingOf ∈ wsX5_putLayer := by decide +kernel
set_option maxRecDepth 20000 in
theorem w_X5_putLayer_iS : Cond.initialized RX6 ∈ wsX5_putLayer := by decide +kernel
set_option maxRecDepth 20000 in
theorem w_X5_putLayer_f75 : Cond.fieldLink RX5 75 "LayerStacks$Board" "names" "[J" ∈ wsX5_putLayer := by decide +kernel
set_option maxRecDepth 20000 in
theorem w_X5_putLayer_f83 : Cond.fieldLink RX5 83 "LayerStacks$Board" "thicknesses" "[I" ∈ wsX5_putLayer := by decide +kernel
set_option maxRecDepth 20000 in
theorem w_X5_putLayer_f90 : Cond.fieldLink RX5 90 "LayerStacks$Board" "spreads" "[I" ∈ wsX5_putLayer := by decide +kernel
set_option maxHeartbeats 4000000 in
set_option maxRecDepth 100000 in
theorem c_X5_putLayer (l : Launch) (D : va_G) (y : Nat → ClassId) (aK aV : Nat → Nat) (q : Nat → Nat) (q2 : Nat → Nat) (sz : Nat) (F : Nat) {v2 : Int32} {w_ch : Nat → Int32} {w_dg : Nat → Int32} {w_len : Int32} {b_k : Nat → Int32} {b_n : Nat → Int64} {b_h : Nat → Int32} {b_d : Nat → Int32} {b_r : Nat → Int32} {b_u : Nat → Int32} {b_y : Nat → Int32} {b_p_s_f : Nat → Int32} {b_p_s_l : Nat → Int32} {b_p_s_c : Int32} {b_p_t : Int32} {b_v_f : Nat → Int32} {b_v_l : Nat → Int32} {b_v_c : Int32} {b_L : Int32} {b_C : Int32} {b_I : Int32} {z : (Nat → Int32) × (Nat → Int32) × Int32} (hm : f_X5_putLayer F v2 w_ch w_dg w_len b_k b_n b_h b_d = some z) : Met l yX5_putLayer wsX5_putLayer ({ frames := 5, cells := 0, slots := 0, locals := 107 } : Room) (va_Pc [.ref (q 0), .ref (q2 0), .int v2] (cPJ D y aK aV ((wdX5 q y w_ch w_dg w_len) ++ (wdX0 q2 y b_k b_n b_h b_d b_r b_u b_y b_p_s_f b_p_s_l b_p_s_c b_p_t b_v_f b_v_l b_v_c b_L b_C b_I)) sz)) (QV D y (va_A ((wdX5 q y w_ch w_dg w_len) ++ (wdX0 q2 y b_k b_n b_h b_d b_r b_u b_y b_p_s_f b_p_s_l b_p_s_c b_p_t b_v_f b_v_l b_v_c b_L b_C b_I)) sz) ((wdX5 q y (z.1) (z.2.1) (z.2.2)) ++ (wdX0 q2 y b_k b_n b_h b_d b_r b_u b_y b_p_s_f b_p_s_l b_p_s_c b_p_t b_v_f b_v_l b_v_c b_L b_C b_I))) 0 0 (va_A ((wdX5 q y w_ch w_dg w_len) ++ (wdX0 q2 y b_k b_n b_h b_d b_r b_u b_y b_p_s_f b_p_s_l b_p_s_c b_p_t b_v_f b_v_l b_v_c b_L b_C b_I)) sz) := by
  refine met_ofJ (own := RX5) (cc := cX5_putLayer) (maxL := 3) (ret := none) (by decide) rfl rfl (Nat.le_of_ble_eq_true rfl) ?_
  intro p e s m below meth c ls C hsz hK hP hD hA hS hJ hl
  obtain ⟨⟨hx, hb, hml, hown, hts⟩, hr, hlocks⟩ := id C
  have hl : lv_has ls 3 [(0, .ref (q 0)), (1, .ref (q2 0)), (2, .int v2)] := hl
  generalize va_A ((wdX5 q y w_ch w_dg w_len) ++ (wdX0 q2 y b_k b_n b_h b_d b_r b_u b_y b_p_s_f b_p_s_l b_p_s_c b_p_t b_v_f b_v_l b_v_c b_L b_C b_I)) sz = A at hD hA hS hJ ⊢
  generalize ([.ref (q 0), .ref (q2 0), .int v2] : List Value).toArray = args at C hts ⊢
  unfold f_X5_putLayer at hm
  refine lv_aload_n hx hb dX5_putLayer_0 rfl (lv_at hl 0 rfl) ?_
  refine lv_aload_n hx hb dX5_putLayer_1 rfl (lv_at hl 1 rfl) ?_
  refine va_get (D := D) (ci := 0) (v := .ref (q2 1)) (C := RX0) (T := TX0) (N := 12) hx hb hts n_X5_putLayer_X0 hown hK hP 3 rfl rfl 0 (by decide) (hts _ w_X5_putLayer_f60) (fun _ h9 => h9) rfl dX5_putLayer_2 ?_
  refine lv_iload_n hx hb dX5_putLayer_5 rfl (lv_at hl 2 rfl) ?_
  obtain ⟨hg_1, hm⟩ := mg_of hm
  refine va_iald hx hb hK hP 4 0 rfl rfl hg_1 dX5_putLayer_6 ?_
  refine call_spell (rest := [.ref (q 0)]) C hJ.2.2.2 ggX5_putLayer_X6_spellingOf (hts _ w_X5_putLayer_sS) (hts _ w_X5_putLayer_iS) ⟨Nat.le_of_ble_eq_true rfl, Nat.le_of_ble_eq_true rfl⟩ hJ hK hP hD hS hA hl.1 (Nat.le_of_ble_eq_true rfl) dX5_putLayer_7 (fun H locs hP hD hS => ?_)
  obtain ⟨w_ch_2, w_len_3, hc_4, hm⟩ := mb2_of hm
  refine callJ_vv (wc := (wdX5 q y w_ch w_dg w_len)) (wr := [(q2 0, .inr (0, [.ref (q2 1), .ref (q2 2), .ref (q2 3), .ref (q2 4), .ref (q2 5), .ref (q2 6), .ref (q2 7), .ref (q2 8), .ref (q2 12), .int b_L, .int b_C, .int b_I])), (q2 1, .inl (y 0, 80, .inl b_k)), (q2 2, .inl (y 1, 80, .inr (.inl b_n))), (q2 3, .inl (y 0, 80, .inl b_h)), (q2 4, .inl (y 0, 80, .inl b_d)), (q2 5, .inl (y 0, 80, .inl b_r)), (q2 6, .inl (y 0, 80, .inl b_u)), (q2 7, .inl (y 0, 32, .inl b_y)), (q2 8, .inr (2, [.ref (q2 9), .int b_p_t])), (q2 9, .inr (3, [.ref (q2 10), .ref (q2 11), .int b_p_s_c])), (q2 10, .inl (y 0, 21, .inl b_p_s_f)), (q2 11, .inl (y 0, 21, .inl b_p_s_l)), (q2 12, .inr (3, [.ref (q2 13), .ref (q2 14), .int b_v_c])), (q2 13, .inl (y 0, 40, .inl b_v_f)), (q2 14, .inl (y 0, 40, .inl b_v_l))]) (As := [.ref (aK (spl (b_k (v2).toNatClampNeg)))]) (rest := []) C (c_X5_putWord l D y aK aV q _ F (spl_lt _) hc_4) (cwV 1 hts gX5_putLayer_X5_putWord rfl rfl rfl (by decide +kernel) ⟨Nat.le_of_ble_eq_true rfl, Nat.le_of_ble_eq_true rfl⟩) hJ hK hP hD hS hA [0, 1, 2] [3, 4, 5, 6, 7, 8, 9, 10, 11, 12, 13, 14, 15, 16, 17] rfl rfl rfl rfl rfl (by decide) (va_recv hK hP (ci := 5) (q0 := 0) rfl rfl) rfl hl.1 (Nat.le_of_ble_eq_true rfl) dX5_putLayer_10 (fun H locs hP hD hS => ?_)
  have hP : va_P D vwCl ((wdX5 q y w_ch_2 w_dg w_len_3) ++ (wdX0 q2 y b_k b_n b_h b_d b_r b_u b_y b_p_s_f b_p_s_l b_p_s_c b_p_t b_v_f b_v_l b_v_c b_L b_C b_I)) H := hP.sub [15, 16, 17, 0, 1, 2, 3, 4, 5, 6, 7, 8, 9, 10, 11, 12, 13, 14] rfl
  have hD : va_D A ((wdX5 q y w_ch_2 w_dg w_len_3) ++ (wdX0 q2 y b_k b_n b_h b_d b_r b_u b_y b_p_s_f b_p_s_l b_p_s_c b_p_t b_v_f b_v_l b_v_c b_L b_C b_I)) := hD.sub [15, 16, 17, 0, 1, 2, 3, 4, 5, 6, 7, 8, 9, 10, 11, 12, 13, 14] (by decide) rfl
  refine lv_aload_n hx hb dX5_putLayer_13 rfl (lv_at hl 0 rfl) ?_
  refine lv_bipush (v := (32 : Int32)) hx hb dX5_putLayer_14 (by decide) ?_
  obtain ⟨w_ch_5, w_len_6, hc_7, hm⟩ := mb2_of hm
  refine call_vv (wc := (wdX5 q y w_ch_2 w_dg w_len_3)) (wr := [(q2 0, .inr (0, [.ref (q2 1), .ref (q2 2), .ref (q2 3), .ref (q2 4), .ref (q2 5), .ref (q2 6), .ref (q2 7), .ref (q2 8), .ref (q2 12), .int b_L, .int b_C, .int b_I])), (q2 1, .inl (y 0, 80, .inl b_k)), (q2 2, .inl (y 1, 80, .inr (.inl b_n))), (q2 3, .inl (y 0, 80, .inl b_h)), (q2 4, .inl (y 0, 80, .inl b_d)), (q2 5, .inl (y 0, 80, .inl b_r)), (q2 6, .inl (y 0, 80, .inl b_u)), (q2 7, .inl (y 0, 32, .inl b_y)), (q2 8, .inr (2, [.ref (q2 9), .int b_p_t])), (q2 9, .inr (3, [.ref (q2 10), .ref (q2 11), .int b_p_s_c])), (q2 10, .inl (y 0, 21, .inl b_p_s_f)), (q2 11, .inl (y 0, 21, .inl b_p_s_l)), (q2 12, .inr (3, [.ref (q2 13), .ref (q2 14), .int b_v_c])), (q2 13, .inl (y 0, 40, .inl b_v_f)), (q2 14, .inl (y 0, 40, .inl b_v_l))]) (As := [.int (32 : Int32)]) (rest := []) C (c_X5_put l D y q _ F hc_7) (cwV 1 hts gX5_putLayer_X5_put rfl rfl rfl (by decide +kernel) ⟨Nat.le_of_ble_eq_true rfl, Nat.le_of_ble_eq_true rfl⟩) hK hP hD hS hA [0, 1, 2] [3, 4, 5, 6, 7, 8, 9, 10, 11, 12, 13, 14, 15, 16, 17] rfl rfl rfl rfl rfl (by decide) rfl rfl rfl rfl hl.1 (Nat.le_of_ble_eq_true rfl) dX5_putLayer_16 (fun H locs hP hD hS => ?_)
  have hP : va_P D vwCl ((wdX5 q y w_ch_5 w_dg w_len_6) ++ (wdX0 q2 y b_k b_n b_h b_d b_r b_u b_y b_p_s_f b_p_s_l b_p_s_c b_p_t b_v_f b_v_l b_v_c b_L b_C b_I)) H := hP.sub [15, 16, 17, 0, 1, 2, 3, 4, 5, 6, 7, 8, 9, 10, 11, 12, 13, 14] rfl
  have hD : va_D A ((wdX5 q y w_ch_5 w_dg w_len_6) ++ (wdX0 q2 y b_k b_n b_h b_d b_r b_u b_y b_p_s_f b_p_s_l b_p_s_c b_p_t b_v_f b_v_l b_v_c b_L b_C b_I)) := hD.sub [15, 16, 17, 0, 1, 2, 3, 4, 5, 6, 7, 8, 9, 10, 11, 12, 13, 14] (by decide) rfl
  refine lv_aload_n hx hb dX5_putLayer_19 rfl (lv_at hl 0 rfl) ?_
  refine lv_aload_n hx hb dX5_putLayer_20 rfl (lv_at hl 1 rfl) ?_
  refine va_get (D := D) (ci := 0) (v := .ref (q2 2)) (C := RX0) (T := TX0) (N := 12) hx hb hts n_X5_putLayer_X0 hown hK hP 3 rfl rfl 1 (by decide) (hts _ w_X5_putLayer_f75) (fun _ h9 => h9) rfl dX5_putLayer_21 ?_
  refine lv_iload_n hx hb dX5_putLayer_24 rfl (lv_at hl 2 rfl) ?_
  obtain ⟨hg_8, hm⟩ := mg_of hm
  refine va_lald hx hb hK hP 5 1 rfl rfl hg_8 dX5_putLayer_25 ?_
  obtain ⟨w_ch_9, w_len_10, hc_11, hm⟩ := mb2_of hm
  refine call_vv (wc := (wdX5 q y w_ch_5 w_dg w_len_6)) (wr := [(q2 0, .inr (0, [.ref (q2 1), .ref (q2 2), .ref (q2 3), .ref (q2 4), .ref (q2 5), .ref (q2 6), .ref (q2 7), .ref (q2 8), .ref (q2 12), .int b_L, .int b_C, .int b_I])), (q2 1, .inl (y 0, 80, .inl b_k)), (q2 2, .inl (y 1, 80, .inr (.inl b_n))), (q2 3, .inl (y 0, 80, .inl b_h)), (q2 4, .inl (y 0, 80, .inl b_d)), (q2 5, .inl (y 0, 80, .inl b_r)), (q2 6, .inl (y 0, 80, .inl b_u)), (q2 7, .inl (y 0, 32, .inl b_y)), (q2 8, .inr (2, [.ref (q2 9), .int b_p_t])), (q2 9, .inr (3, [.ref (q2 10), .ref (q2 11), .int b_p_s_c])), (q2 10, .inl (y 0, 21, .inl b_p_s_f)), (q2 11, .inl (y 0, 21, .inl b_p_s_l)), (q2 12, .inr (3, [.ref (q2 13), .ref (q2 14), .int b_v_c])), (q2 13, .inl (y 0, 40, .inl b_v_f)), (q2 14, .inl (y 0, 40, .inl b_v_l))]) (As := [.long (b_n (v2).toNatClampNeg)]) (rest := []) C (c_X5_putName l D y q _ F hc_11) (cwV 1 hts gX5_putLayer_X5_putName rfl rfl rfl (by decide +kernel) ⟨Nat.le_of_ble_eq_true rfl, Nat.le_of_ble_eq_true rfl⟩) hK hP hD hS hA [0, 1, 2] [3, 4, 5, 6, 7, 8, 9, 10, 11, 12, 13, 14, 15, 16, 17] rfl rfl rfl rfl rfl (by decide) rfl rfl rfl rfl hl.1 (Nat.le_of_ble_eq_true rfl) dX5_putLayer_26 (fun H locs hP hD hS => ?_)
  have hP : va_P D vwCl ((wdX5 q y w_ch_9 w_dg w_len_10) ++ (wdX0 q2 y b_k b_n b_h b_d b_r b_u b_y b_p_s_f b_p_s_l b_p_s_c b_p_t b_v_f b_v_l b_v_c b_L b_C b_I)) H := hP.sub [15, 16, 17, 0, 1, 2, 3, 4, 5, 6, 7, 8, 9, 10, 11, 12, 13, 14] rfl
  have hD : va_D A ((wdX5 q y w_ch_9 w_dg w_len_10) ++ (wdX0 q2 y b_k b_n b_h b_d b_r b_u b_y b_p_s_f b_p_s_l b_p_s_c b_p_t b_v_f b_v_l b_v_c b_L b_C b_I)) := hD.sub [15, 16, 17, 0, 1, 2, 3, 4, 5, 6, 7, 8, 9, 10, 11, 12, 13, 14] (by decide) rfl
  refine lv_aload_n hx hb dX5_putLayer_29 rfl (lv_at hl 1 rfl) ?_
  refine va_get (D := D) (ci := 0) (v := .ref (q2 1)) (C := RX0) (T := TX0) (N := 12) hx hb hts n_X5_putLayer_X0 hown hK hP 3 rfl rfl 0 (by decide) (hts _ w_X5_putLayer_f60) (fun _ h9 => h9) rfl dX5_putLayer_30 ?_
  refine lv_iload_n hx hb dX5_putLayer_33 rfl (lv_at hl 2 rfl) ?_
  obtain ⟨hg_12, hm⟩ := mg_of hm
  refine va_iald hx hb hK hP 4 0 rfl rfl hg_12 dX5_putLayer_34 ?_
  refine lv_iconst (v := (4 : Int32)) hx hb dX5_putLayer_35 (by decide) ?_
  refine lv_icmp_eq (tgt := 73) hx hb dX5_putLayer_36 (by decide) (fun h_13 => ?_) (fun h_13 => ?_)
  · have hm := it_of hm h_13
    refine lv_aload_n hx hb dX5_putLayer_73 rfl (lv_at hl 0 rfl) ?_
    refine lv_bipush (v := (10 : Int32)) hx hb dX5_putLayer_74 (by decide) ?_
    obtain ⟨w_ch_14, w_len_15, hc_16, hm⟩ := mb2_of hm
    refine call_vv (wc := (wdX5 q y w_ch_9 w_dg w_len_10)) (wr := [(q2 0, .inr (0, [.ref (q2 1), .ref (q2 2), .ref (q2 3), .ref (q2 4), .ref (q2 5), .ref (q2 6), .ref (q2 7), .ref (q2 8), .ref (q2 12), .int b_L, .int b_C, .int b_I])), (q2 1, .inl (y 0, 80, .inl b_k)), (q2 2, .inl (y 1, 80, .inr (.inl b_n))), (q2 3, .inl (y 0, 80, .inl b_h)), (q2 4, .inl (y 0, 80, .inl b_d)), (q2 5, .inl (y 0, 80, .inl b_r)), (q2 6, .inl (y 0, 80, .inl b_u)), (q2 7, .inl (y 0, 32, .inl b_y)), (q2 8, .inr (2, [.ref (q2 9), .int b_p_t])), (q2 9, .inr (3, [.ref (q2 10), .ref (q2 11), .int b_p_s_c])), (q2 10, .inl (y 0, 21, .inl b_p_s_f)), (q2 11, .inl (y 0, 21, .inl b_p_s_l)), (q2 12, .inr (3, [.ref (q2 13), .ref (q2 14), .int b_v_c])), (q2 13, .inl (y 0, 40, .inl b_v_f)), (q2 14, .inl (y 0, 40, .inl b_v_l))]) (As := [.int (10 : Int32)]) (rest := []) C (c_X5_put l D y q _ F hc_16) (cwV 1 hts gX5_putLayer_X5_put rfl rfl rfl (by decide +kernel) ⟨Nat.le_of_ble_eq_true rfl, Nat.le_of_ble_eq_true rfl⟩) hK hP hD hS hA [0, 1, 2] [3, 4, 5, 6, 7, 8, 9, 10, 11, 12, 13, 14, 15, 16, 17] rfl rfl rfl rfl rfl (by decide) rfl rfl rfl rfl hl.1 (Nat.le_of_ble_eq_true rfl) dX5_putLayer_76 (fun H locs hP hD hS => ?_)
    have hP : va_P D vwCl ((wdX5 q y w_ch_14 w_dg w_len_15) ++ (wdX0 q2 y b_k b_n b_h b_d b_r b_u b_y b_p_s_f b_p_s_l b_p_s_c b_p_t b_v_f b_v_l b_v_c b_L b_C b_I)) H := hP.sub [15, 16, 17, 0, 1, 2, 3, 4, 5, 6, 7, 8, 9, 10, 11, 12, 13, 14] rfl
    have hD : va_D A ((wdX5 q y w_ch_14 w_dg w_len_15) ++ (wdX0 q2 y b_k b_n b_h b_d b_r b_u b_y b_p_s_f b_p_s_l b_p_s_c b_p_t b_v_f b_v_l b_v_c b_L b_C b_I)) := hD.sub [15, 16, 17, 0, 1, 2, 3, 4, 5, 6, 7, 8, 9, 10, 11, 12, 13, 14] (by decide) rfl
    have hz := Option.some.inj hm
    subst hz
    exact end_v C hK hP hD hS dX5_putLayer_79
  · have hm := ie_of hm h_13
    refine lv_aload_n hx hb dX5_putLayer_39 rfl (lv_at hl 0 rfl) ?_
    refine lv_bipush (v := (32 : Int32)) hx hb dX5_putLayer_40 (by decide) ?_
    obtain ⟨w_ch_17, w_len_18, hc_19, hm⟩ := mb2_of hm
    refine call_vv (wc := (wdX5 q y w_ch_9 w_dg w_len_10)) (wr := [(q2 0, .inr (0, [.ref (q2 1), .ref (q2 2), .ref (q2 3), .ref (q2 4), .ref (q2 5), .ref (q2 6), .ref (q2 7), .ref (q2 8), .ref (q2 12), .int b_L, .int b_C, .int b_I])), (q2 1, .inl (y 0, 80, .inl b_k)), (q2 2, .inl (y 1, 80, .inr (.inl b_n))), (q2 3, .inl (y 0, 80, .inl b_h)), (q2 4, .inl (y 0, 80, .inl b_d)), (q2 5, .inl (y 0, 80, .inl b_r)), (q2 6, .inl (y 0, 80, .inl b_u)), (q2 7, .inl (y 0, 32, .inl b_y)), (q2 8, .inr (2, [.ref (q2 9), .int b_p_t])), (q2 9, .inr (3, [.ref (q2 10), .ref (q2 11), .int b_p_s_c])), (q2 10, .inl (y 0, 21, .inl b_p_s_f)), (q2 11, .inl (y 0, 21, .inl b_p_s_l)), (q2 12, .inr (3, [.ref (q2 13), .ref (q2 14), .int b_v_c])), (q2 13, .inl (y 0, 40, .inl b_v_f)), (q2 14, .inl (y 0, 40, .inl b_v_l))]) (As := [.int (32 : Int32)]) (rest := []) C (c_X5_put l D y q _ F hc_19) (cwV 1 hts gX5_putLayer_X5_put rfl rfl rfl (by decide +kernel) ⟨Nat.le_of_ble_eq_true rfl, Nat.le_of_ble_eq_true rfl⟩) hK hP hD hS hA [0, 1, 2] [3, 4, 5, 6, 7, 8, 9, 10, 11, 12, 13, 14, 15, 16, 17] rfl rfl rfl rfl rfl (by decide) rfl rfl rfl rfl hl.1 (Nat.le_of_ble_eq_true rfl) dX5_putLayer_42 (fun H locs hP hD hS => ?_)
    have hP : va_P D vwCl ((wdX5 q y w_ch_17 w_dg w_len_18) ++ (wdX0 q2 y b_k b_n b_h b_d b_r b_u b_y b_p_s_f b_p_s_l b_p_s_c b_p_t b_v_f b_v_l b_v_c b_L b_C b_I)) H := hP.sub [15, 16, 17, 0, 1, 2, 3, 4, 5, 6, 7, 8, 9, 10, 11, 12, 13, 14] rfl
    have hD : va_D A ((wdX5 q y w_ch_17 w_dg w_len_18) ++ (wdX0 q2 y b_k b_n b_h b_d b_r b_u b_y b_p_s_f b_p_s_l b_p_s_c b_p_t b_v_f b_v_l b_v_c b_L b_C b_I)) := hD.sub [15, 16, 17, 0, 1, 2, 3, 4, 5, 6, 7, 8, 9, 10, 11, 12, 13, 14] (by decide) rfl
    refine lv_aload_n hx hb dX5_putLayer_45 rfl (lv_at hl 0 rfl) ?_
    refine lv_aload_n hx hb dX5_putLayer_46 rfl (lv_at hl 1 rfl) ?_
    refine va_get (D := D) (ci := 0) (v := .ref (q2 3)) (C := RX0) (T := TX0) (N := 12) hx hb hts n_X5_putLayer_X0 hown hK hP 3 rfl rfl 2 (by decide) (hts _ w_X5_putLayer_f83) (fun _ h9 => h9) rfl dX5_putLayer_47 ?_
    refine lv_iload_n hx hb dX5_putLayer_50 rfl (lv_at hl 2 rfl) ?_
    obtain ⟨hg_20, hm⟩ := mg_of hm
    refine va_iald hx hb hK hP 6 0 rfl rfl hg_20 dX5_putLayer_51 ?_
    refine lv_iconst (v := (3 : Int32)) hx hb dX5_putLayer_52 (by decide) ?_
    obtain ⟨w_ch_21, w_dg_22, w_len_23, hc_24, hm⟩ := mb3_of hm
    refine call_vv (wc := (wdX5 q y w_ch_17 w_dg w_len_18)) (wr := [(q2 0, .inr (0, [.ref (q2 1), .ref (q2 2), .ref (q2 3), .ref (q2 4), .ref (q2 5), .ref (q2 6), .ref (q2 7), .ref (q2 8), .ref (q2 12), .int b_L, .int b_C, .int b_I])), (q2 1, .inl (y 0, 80, .inl b_k)), (q2 2, .inl (y 1, 80, .inr (.inl b_n))), (q2 3, .inl (y 0, 80, .inl b_h)), (q2 4, .inl (y 0, 80, .inl b_d)), (q2 5, .inl (y 0, 80, .inl b_r)), (q2 6, .inl (y 0, 80, .inl b_u)), (q2 7, .inl (y 0, 32, .inl b_y)), (q2 8, .inr (2, [.ref (q2 9), .int b_p_t])), (q2 9, .inr (3, [.ref (q2 10), .ref (q2 11), .int b_p_s_c])), (q2 10, .inl (y 0, 21, .inl b_p_s_f)), (q2 11, .inl (y 0, 21, .inl b_p_s_l)), (q2 12, .inr (3, [.ref (q2 13), .ref (q2 14), .int b_v_c])), (q2 13, .inl (y 0, 40, .inl b_v_f)), (q2 14, .inl (y 0, 40, .inl b_v_l))]) (As := [.int (b_h (v2).toNatClampNeg), .int (3 : Int32)]) (rest := []) C (c_X5_putNumber l D y q _ F hc_24) (cwV 2 hts gX5_putLayer_X5_putNumber rfl rfl rfl (by decide +kernel) ⟨Nat.le_of_ble_eq_true rfl, Nat.le_of_ble_eq_true rfl⟩) hK hP hD hS hA [0, 1, 2] [3, 4, 5, 6, 7, 8, 9, 10, 11, 12, 13, 14, 15, 16, 17] rfl rfl rfl rfl rfl (by decide) rfl rfl rfl rfl hl.1 (Nat.le_of_ble_eq_true rfl) dX5_putLayer_53 (fun H locs hP hD hS => ?_)
    have hP : va_P D vwCl ((wdX5 q y w_ch_21 w_dg_22 w_len_23) ++ (wdX0 q2 y b_k b_n b_h b_d b_r b_u b_y b_p_s_f b_p_s_l b_p_s_c b_p_t b_v_f b_v_l b_v_c b_L b_C b_I)) H := hP.sub [15, 16, 17, 0, 1, 2, 3, 4, 5, 6, 7, 8, 9, 10, 11, 12, 13, 14] rfl
    have hD : va_D A ((wdX5 q y w_ch_21 w_dg_22 w_len_23) ++ (wdX0 q2 y b_k b_n b_h b_d b_r b_u b_y b_p_s_f b_p_s_l b_p_s_c b_p_t b_v_f b_v_l b_v_c b_L b_C b_I)) := hD.sub [15, 16, 17, 0, 1, 2, 3, 4, 5, 6, 7, 8, 9, 10, 11, 12, 13, 14] (by decide) rfl
    refine lv_aload_n hx hb dX5_putLayer_56 rfl (lv_at hl 0 rfl) ?_
    refine lv_bipush (v := (32 : Int32)) hx hb dX5_putLayer_57 (by decide) ?_
    obtain ⟨w_ch_25, w_len_26, hc_27, hm⟩ := mb2_of hm
    refine call_vv (wc := (wdX5 q y w_ch_21 w_dg_22 w_len_23)) (wr := [(q2 0, .inr (0, [.ref (q2 1), .ref (q2 2), .ref (q2 3), .ref (q2 4), .ref (q2 5), .ref (q2 6), .ref (q2 7), .ref (q2 8), .ref (q2 12), .int b_L, .int b_C, .int b_I])), (q2 1, .inl (y 0, 80, .inl b_k)), (q2 2, .inl (y 1, 80, .inr (.inl b_n))), (q2 3, .inl (y 0, 80, .inl b_h)), (q2 4, .inl (y 0, 80, .inl b_d)), (q2 5, .inl (y 0, 80, .inl b_r)), (q2 6, .inl (y 0, 80, .inl b_u)), (q2 7, .inl (y 0, 32, .inl b_y)), (q2 8, .inr (2, [.ref (q2 9), .int b_p_t])), (q2 9, .inr (3, [.ref (q2 10), .ref (q2 11), .int b_p_s_c])), (q2 10, .inl (y 0, 21, .inl b_p_s_f)), (q2 11, .inl (y 0, 21, .inl b_p_s_l)), (q2 12, .inr (3, [.ref (q2 13), .ref (q2 14), .int b_v_c])), (q2 13, .inl (y 0, 40, .inl b_v_f)), (q2 14, .inl (y 0, 40, .inl b_v_l))]) (As := [.int (32 : Int32)]) (rest := []) C (c_X5_put l D y q _ F hc_27) (cwV 1 hts gX5_putLayer_X5_put rfl rfl rfl (by decide +kernel) ⟨Nat.le_of_ble_eq_true rfl, Nat.le_of_ble_eq_true rfl⟩) hK hP hD hS hA [0, 1, 2] [3, 4, 5, 6, 7, 8, 9, 10, 11, 12, 13, 14, 15, 16, 17] rfl rfl rfl rfl rfl (by decide) rfl rfl rfl rfl hl.1 (Nat.le_of_ble_eq_true rfl) dX5_putLayer_59 (fun H locs hP hD hS => ?_)
    have hP : va_P D vwCl ((wdX5 q y w_ch_25 w_dg_22 w_len_26) ++ (wdX0 q2 y b_k b_n b_h b_d b_r b_u b_y b_p_s_f b_p_s_l b_p_s_c b_p_t b_v_f b_v_l b_v_c b_L b_C b_I)) H := hP.sub [15, 16, 17, 0, 1, 2, 3, 4, 5, 6, 7, 8, 9, 10, 11, 12, 13, 14] rfl
    have hD : va_D A ((wdX5 q y w_ch_25 w_dg_22 w_len_26) ++ (wdX0 q2 y b_k b_n b_h b_d b_r b_u b_y b_p_s_f b_p_s_l b_p_s_c b_p_t b_v_f b_v_l b_v_c b_L b_C b_I)) := hD.sub [15, 16, 17, 0, 1, 2, 3, 4, 5, 6, 7, 8, 9, 10, 11, 12, 13, 14] (by decide) rfl
    refine lv_aload_n hx hb dX5_putLayer_62 rfl (lv_at hl 0 rfl) ?_
    refine lv_aload_n hx hb dX5_putLayer_63 rfl (lv_at hl 1 rfl) ?_
    refine va_get (D := D) (ci := 0) (v := .ref (q2 4)) (C := RX0) (T := TX0) (N := 12) hx hb hts n_X5_putLayer_X0 hown hK hP 3 rfl rfl 3 (by decide) (hts _ w_X5_putLayer_f90) (fun _ h9 => h9) rfl dX5_putLayer_64 ?_
    refine lv_iload_n hx hb dX5_putLayer_67 rfl (lv_at hl 2 rfl) ?_
    obtain ⟨hg_28, hm⟩ := mg_of hm
    refine va_iald hx hb hK hP 7 0 rfl rfl hg_28 dX5_putLayer_68 ?_
    refine lv_iconst (v := (1 : Int32)) hx hb dX5_putLayer_69 (by decide) ?_
    obtain ⟨w_ch_29, w_dg_30, w_len_31, hc_32, hm⟩ := mb3_of hm
    refine call_vv (wc := (wdX5 q y w_ch_25 w_dg_22 w_len_26)) (wr := [(q2 0, .inr (0, [.ref (q2 1), .ref (q2 2), .ref (q2 3), .ref (q2 4), .ref (q2 5), .ref (q2 6), .ref (q2 7), .ref (q2 8), .ref (q2 12), .int b_L, .int b_C, .int b_I])), (q2 1, .inl (y 0, 80, .inl b_k)), (q2 2, .inl (y 1, 80, .inr (.inl b_n))), (q2 3, .inl (y 0, 80, .inl b_h)), (q2 4, .inl (y 0, 80, .inl b_d)), (q2 5, .inl (y 0, 80, .inl b_r)), (q2 6, .inl (y 0, 80, .inl b_u)), (q2 7, .inl (y 0, 32, .inl b_y)), (q2 8, .inr (2, [.ref (q2 9), .int b_p_t])), (q2 9, .inr (3, [.ref (q2 10), .ref (q2 11), .int b_p_s_c])), (q2 10, .inl (y 0, 21, .inl b_p_s_f)), (q2 11, .inl (y 0, 21, .inl b_p_s_l)), (q2 12, .inr (3, [.ref (q2 13), .ref (q2 14), .int b_v_c])), (q2 13, .inl (y 0, 40, .inl b_v_f)), (q2 14, .inl (y 0, 40, .inl b_v_l))]) (As := [.int (b_d (v2).toNatClampNeg), .int (1 : Int32)]) (rest := []) C (c_X5_putNumber l D y q _ F hc_32) (cwV 2 hts gX5_putLayer_X5_putNumber rfl rfl rfl (by decide +kernel) ⟨Nat.le_of_ble_eq_true rfl, Nat.le_of_ble_eq_true rfl⟩) hK hP hD hS hA [0, 1, 2] [3, 4, 5, 6, 7, 8, 9, 10, 11, 12, 13, 14, 15, 16, 17] rfl rfl rfl rfl rfl (by decide) rfl rfl rfl rfl hl.1 (Nat.le_of_ble_eq_true rfl) dX5_putLayer_70 (fun H locs hP hD hS => ?_)
    have hP : va_P D vwCl ((wdX5 q y w_ch_29 w_dg_30 w_len_31) ++ (wdX0 q2 y b_k b_n b_h b_d b_r b_u b_y b_p_s_f b_p_s_l b_p_s_c b_p_t b_v_f b_v_l b_v_c b_L b_C b_I)) H := hP.sub [15, 16, 17, 0, 1, 2, 3, 4, 5, 6, 7, 8, 9, 10, 11, 12, 13, 14] rfl
    have hD : va_D A ((wdX5 q y w_ch_29 w_dg_30 w_len_31) ++ (wdX0 q2 y b_k b_n b_h b_d b_r b_u b_y b_p_s_f b_p_s_l b_p_s_c b_p_t b_v_f b_v_l b_v_c b_L b_C b_I)) := hD.sub [15, 16, 17, 0, 1, 2, 3, 4, 5, 6, 7, 8, 9, 10, 11, 12, 13, 14] (by decide) rfl
    refine lv_aload_n hx hb dX5_putLayer_73 rfl (lv_at hl 0 rfl) ?_
    refine lv_bipush (v := (10 : Int32)) hx hb dX5_putLayer_74 (by decide) ?_
    obtain ⟨w_ch_33, w_len_34, hc_35, hm⟩ := mb2_of hm
    refine call_vv (wc := (wdX5 q y w_ch_29 w_dg_30 w_len_31)) (wr := [(q2 0, .inr (0, [.ref (q2 1), .ref (q2 2), .ref (q2 3), .ref (q2 4), .ref (q2 5), .ref (q2 6), .ref (q2 7), .ref (q2 8), .ref (q2 12), .int b_L, .int b_C, .int b_I])), (q2 1, .inl (y 0, 80, .inl b_k)), (q2 2, .inl (y 1, 80, .inr (.inl b_n))), (q2 3, .inl (y 0, 80, .inl b_h)), (q2 4, .inl (y 0, 80, .inl b_d)), (q2 5, .inl (y 0, 80, .inl b_r)), (q2 6, .inl (y 0, 80, .inl b_u)), (q2 7, .inl (y 0, 32, .inl b_y)), (q2 8, .inr (2, [.ref (q2 9), .int b_p_t])), (q2 9, .inr (3, [.ref (q2 10), .ref (q2 11), .int b_p_s_c])), (q2 10, .inl (y 0, 21, .inl b_p_s_f)), (q2 11, .inl (y 0, 21, .inl b_p_s_l)), (q2 12, .inr (3, [.ref (q2 13), .ref (q2 14), .int b_v_c])), (q2 13, .inl (y 0, 40, .inl b_v_f)), (q2 14, .inl (y 0, 40, .inl b_v_l))]) (As := [.int (10 : Int32)]) (rest := []) C (c_X5_put l D y q _ F hc_35) (cwV 1 hts gX5_putLayer_X5_put rfl rfl rfl (by decide +kernel) ⟨Nat.le_of_ble_eq_true rfl, Nat.le_of_ble_eq_true rfl⟩) hK hP hD hS hA [0, 1, 2] [3, 4, 5, 6, 7, 8, 9, 10, 11, 12, 13, 14, 15, 16, 17] rfl rfl rfl rfl rfl (by decide) rfl rfl rfl rfl hl.1 (Nat.le_of_ble_eq_true rfl) dX5_putLayer_76 (fun H locs hP hD hS => ?_)
    have hP : va_P D vwCl ((wdX5 q y w_ch_33 w_dg_30 w_len_34) ++ (wdX0 q2 y b_k b_n b_h b_d b_r b_u b_y b_p_s_f b_p_s_l b_p_s_c b_p_t b_v_f b_v_l b_v_c b_L b_C b_I)) H := hP.sub [15, 16, 17, 0, 1, 2, 3, 4, 5, 6, 7, 8, 9, 10, 11, 12, 13, 14] rfl
    have hD : va_D A ((wdX5 q y w_ch_33 w_dg_30 w_len_34) ++ (wdX0 q2 y b_k b_n b_h b_d b_r b_u b_y b_p_s_f b_p_s_l b_p_s_c b_p_t b_v_f b_v_l b_v_c b_L b_C b_I)) := hD.sub [15, 16, 17, 0, 1, 2, 3, 4, 5, 6, 7, 8, 9, 10, 11, 12, 13, 14] (by decide) rfl
    have hz := Option.some.inj hm
    subst hz
    exact end_v C hK hP hD hS dX5_putLayer_79
def f_X5_putSpan (F : Nat) (v2 : Int32) (v3 : Int32) (v4 : Int32) (w_ch : Nat → Int32) (w_len : Int32) (b_n : Nat → Int64) (b_y : Nat → Int32) : Option ((Nat → Int32) × Int32) := mb2 (f_X5_putWord F (spl v2) w_ch w_len) (fun w_ch_1 w_len_2 => mb2 (f_X5_put F (32 : Int32) w_ch_1 w_len_2) (fun w_ch_4 w_len_5 => mg (inb v3 32) (mg (inb (b_y (v3).toNatClampNeg) 80) (mb2 (f_X5_putName F (b_n ((b_y (v3).toNatClampNeg)).toNatClampNeg) w_ch_4 w_len_5) (fun w_ch_9 w_len_10 => mb2 (f_X5_put F (32 : Int32) w_ch_9 w_len_10) (fun w_ch_12 w_len_13 => mg (inb v4 32) (mg (inb (b_y (v4).toNatClampNeg) 80) (mb2 (f_X5_putName F (b_n ((b_y (v4).toNatClampNeg)).toNatClampNeg) w_ch_12 w_len_13) (fun w_ch_17 w_len_18 => mb2 (f_X5_put F (10 : Int32) w_ch_17 w_len_18) (fun w_ch_20 w_len_21 => some (w_ch_20, w_len_21)))))))))))
set_option maxRecDepth 20000 in
theorem w_X5_putSpan_sS : Cond.static yX6_spellingOf ∈ wsX5_putSpan := by decide +kernel
set_option maxRecDepth 20000 in
theorem w_X5_putSpan_iS : Cond.initialized RX6 ∈ wsX5_putSpan := by decide +kernel
set_option maxRecDepth 20000 in
theorem n_X5_putSpan_X0 : ∀ w ∈ wsX00, w ∈ wsX5_putSpan := by decide +kernel
set_option maxRecDepth 20000 in
theorem w_X5_putSpan_f75 : Cond.fieldLink RX5 75 "LayerStacks$Board" "names" "[J" ∈ wsX5_putSpan := by decide +kernel
set_option maxRecDepth 20000 in
theorem w_X5_putSpan_f93 : Cond.fieldLink RX5 93 "LayerStacks$Board" "copperLayers" "[I" ∈ wsX5_putSpan := by decide +kernel
set_option maxHeartbeats 4000000 in
set_option maxRecDepth 100000 in
theorem c_X5_putSpan (l : Launch) (D : va_G) (y : Nat → ClassId) (aK aV : Nat → Nat) (q : Nat → Nat) (q2 : Nat → Nat) (sz : Nat) (F : Nat) {v2 : Int32} {v3 : Int32} {v4 : Int32} {w_ch : Nat → Int32} {w_dg : Nat → Int32} {w_len : Int32} {b_k : Nat → Int32} {b_n : Nat → Int64} {b_h : Nat → Int32} {b_d : Nat → Int32} {b_r : Nat → Int32} {b_u : Nat → Int32} {b_y : Nat → Int32} {b_p_s_f : Nat → Int32} {b_p_s_l : Nat → Int32} {b_p_s_c : Int32} {b_p_t : Int32} {b_v_f : Nat → Int32} {b_v_l : Nat → Int32} {b_v_c : Int32} {b_L : Int32} {b_C : Int32} {b_I : Int32} {z : (Nat → Int32) × Int32} (hm : f_X5_putSpan F v2 v3 v4 w_ch w_len b_n b_y = some z) : Met l yX5_putSpan wsX5_putSpan ({ frames := 5, cells := 0, slots := 0, locals := 107 } : Room) (va_Pc [.ref (q 0), .ref (q2 0), .int v2, .int v3, .int v4] (cPJ D y aK aV ((wdX5 q y w_ch w_dg w_len) ++ (wdX0 q2 y b_k b_n b_h b_d b_r b_u b_y b_p_s_f b_p_s_l b_p_s_c b_p_t b_v_f b_v_l b_v_c b_L b_C b_I)) sz)) (QV D y (va_A ((wdX5 q y w_ch w_dg w_len) ++ (wdX0 q2 y b_k b_n b_h b_d b_r b_u b_y b_p_s_f b_p_s_l b_p_s_c b_p_t b_v_f b_v_l b_v_c b_L b_C b_I)) sz) ((wdX5 q y (z.1) w_dg (z.2)) ++ (wdX0 q2 y b_k b_n b_h b_d b_r b_u b_y b_p_s_f b_p_s_l b_p_s_c b_p_t b_v_f b_v_l b_v_c b_L b_C b_I))) 0 0 (va_A ((wdX5 q y w_ch w_dg w_len) ++ (wdX0 q2 y b_k b_n b_h b_d b_r b_u b_y b_p_s_f b_p_s_l b_p_s_c b_p_t b_v_f b_v_l b_v_c b_L b_C b_I)) sz) := by
  refine met_ofJ (own := RX5) (cc := cX5_putSpan) (maxL := 5) (ret := none) (by decide) rfl rfl (Nat.le_of_ble_eq_true rfl) ?_
  intro p e s m below meth c ls C hsz hK hP hD hA hS hJ hl
  obtain ⟨⟨hx, hb, hml, hown, hts⟩, hr, hlocks⟩ := id C
  have hl : lv_has ls 5 [(0, .ref (q 0)), (1, .ref (q2 0)), (2, .int v2), (3, .int v3), (4, .int v4)] := hl
  generalize va_A ((wdX5 q y w_ch w_dg w_len) ++ (wdX0 q2 y b_k b_n b_h b_d b_r b_u b_y b_p_s_f b_p_s_l b_p_s_c b_p_t b_v_f b_v_l b_v_c b_L b_C b_I)) sz = A at hD hA hS hJ ⊢
  generalize ([.ref (q 0), .ref (q2 0), .int v2, .int v3, .int v4] : List Value).toArray = args at C hts ⊢
  unfold f_X5_putSpan at hm
  refine lv_aload_n hx hb dX5_putSpan_0 rfl (lv_at hl 0 rfl) ?_
  refine lv_iload_n hx hb dX5_putSpan_1 rfl (lv_at hl 2 rfl) ?_
  refine call_spell (rest := [.ref (q 0)]) C hJ.2.2.2 ggX5_putSpan_X6_spellingOf (hts _ w_X5_putSpan_sS) (hts _ w_X5_putSpan_iS) ⟨Nat.le_of_ble_eq_true rfl, Nat.le_of_ble_eq_true rfl⟩ hJ hK hP hD hS hA hl.1 (Nat.le_of_ble_eq_true rfl) dX5_putSpan_2 (fun H locs hP hD hS => ?_)
  obtain ⟨w_ch_1, w_len_2, hc_3, hm⟩ := mb2_of hm
  refine callJ_vv (wc := (wdX5 q y w_ch w_dg w_len)) (wr := [(q2 0, .inr (0, [.ref (q2 1), .ref (q2 2), .ref (q2 3), .ref (q2 4), .ref (q2 5), .ref (q2 6), .ref (q2 7), .ref (q2 8), .ref (q2 12), .int b_L, .int b_C, .int b_I])), (q2 1, .inl (y 0, 80, .inl b_k)), (q2 2, .inl (y 1, 80, .inr (.inl b_n))), (q2 3, .inl (y 0, 80, .inl b_h)), (q2 4, .inl (y 0, 80, .inl b_d)), (q2 5, .inl (y 0, 80, .inl b_r)), (q2 6, .inl (y 0, 80, .inl b_u)), (q2 7, .inl (y 0, 32, .inl b_y)), (q2 8, .inr (2, [.ref (q2 9), .int b_p_t])), (q2 9, .inr (3, [.ref (q2 10), .ref (q2 11), .int b_p_s_c])), (q2 10, .inl (y 0, 21, .inl b_p_s_f)), (q2 11, .inl (y 0, 21, .inl b_p_s_l)), (q2 12, .inr (3, [.ref (q2 13), .ref (q2 14), .int b_v_c])), (q2 13, .inl (y 0, 40, .inl b_v_f)), (q2 14, .inl (y 0, 40, .inl b_v_l))]) (As := [.ref (aK (spl v2))]) (rest := []) C (c_X5_putWord l D y aK aV q _ F (spl_lt _) hc_3) (cwV 1 hts gX5_putSpan_X5_putWord rfl rfl rfl (by decide +kernel) ⟨Nat.le_of_ble_eq_true rfl, Nat.le_of_ble_eq_true rfl⟩) hJ hK hP hD hS hA [0, 1, 2] [3, 4, 5, 6, 7, 8, 9, 10, 11, 12, 13, 14, 15, 16, 17] rfl rfl rfl rfl rfl (by decide) (va_recv hK hP (ci := 5) (q0 := 0) rfl rfl) rfl hl.1 (Nat.le_of_ble_eq_true rfl) dX5_putSpan_5 (fun H locs hP hD hS => ?_)
  have hP : va_P D vwCl ((wdX5 q y w_ch_1 w_dg w_len_2) ++ (wdX0 q2 y b_k b_n b_h b_d b_r b_u b_y b_p_s_f b_p_s_l b_p_s_c b_p_t b_v_f b_v_l b_v_c b_L b_C b_I)) H := hP.sub [15, 16, 17, 0, 1, 2, 3, 4, 5, 6, 7, 8, 9, 10, 11, 12, 13, 14] rfl
  have hD : va_D A ((wdX5 q y w_ch_1 w_dg w_len_2) ++ (wdX0 q2 y b_k b_n b_h b_d b_r b_u b_y b_p_s_f b_p_s_l b_p_s_c b_p_t b_v_f b_v_l b_v_c b_L b_C b_I)) := hD.sub [15, 16, 17, 0, 1, 2, 3, 4, 5, 6, 7, 8, 9, 10, 11, 12, 13, 14] (by decide) rfl
  refine lv_aload_n hx hb dX5_putSpan_8 rfl (lv_at hl 0 rfl) ?_
  refine lv_bipush (v := (32 : Int32)) hx hb dX5_putSpan_9 (by decide) ?_
  obtain ⟨w_ch_4, w_len_5, hc_6, hm⟩ := mb2_of hm
  refine call_vv (wc := (wdX5 q y w_ch_1 w_dg w_len_2)) (wr := [(q2 0, .inr (0, [.ref (q2 1), .ref (q2 2), .ref (q2 3), .ref (q2 4), .ref (q2 5), .ref (q2 6), .ref (q2 7), .ref (q2 8), .ref (q2 12), .int b_L, .int b_C, .int b_I])), (q2 1, .inl (y 0, 80, .inl b_k)), (q2 2, .inl (y 1, 80, .inr (.inl b_n))), (q2 3, .inl (y 0, 80, .inl b_h)), (q2 4, .inl (y 0, 80, .inl b_d)), (q2 5, .inl (y 0, 80, .inl b_r)), (q2 6, .inl (y 0, 80, .inl b_u)), (q2 7, .inl (y 0, 32, .inl b_y)), (q2 8, .inr (2, [.ref (q2 9), .int b_p_t])), (q2 9, .inr (3, [.ref (q2 10), .ref (q2 11), .int b_p_s_c])), (q2 10, .inl (y 0, 21, .inl b_p_s_f)), (q2 11, .inl (y 0, 21, .inl b_p_s_l)), (q2 12, .inr (3, [.ref (q2 13), .ref (q2 14), .int b_v_c])), (q2 13, .inl (y 0, 40, .inl b_v_f)), (q2 14, .inl (y 0, 40, .inl b_v_l))]) (As := [.int (32 : Int32)]) (rest := []) C (c_X5_put l D y q _ F hc_6) (cwV 1 hts gX5_putSpan_X5_put rfl rfl rfl (by decide +kernel) ⟨Nat.le_of_ble_eq_true rfl, Nat.le_of_ble_eq_true rfl⟩) hK hP hD hS hA [0, 1, 2] [3, 4, 5, 6, 7, 8, 9, 10, 11, 12, 13, 14, 15, 16, 17] rfl rfl rfl rfl rfl (by decide) rfl rfl rfl rfl hl.1 (Nat.le_of_ble_eq_true rfl) dX5_putSpan_11 (fun H locs hP hD hS => ?_)
  have hP : va_P D vwCl ((wdX5 q y w_ch_4 w_dg w_len_5) ++ (wdX0 q2 y b_k b_n b_h b_d b_r b_u b_y b_p_s_f b_p_s_l b_p_s_c b_p_t b_v_f b_v_l b_v_c b_L b_C b_I)) H := hP.sub [15, 16, 17, 0, 1, 2, 3, 4, 5, 6, 7, 8, 9, 10, 11, 12, 13, 14] rfl
  have hD : va_D A ((wdX5 q y w_ch_4 w_dg w_len_5) ++ (wdX0 q2 y b_k b_n b_h b_d b_r b_u b_y b_p_s_f b_p_s_l b_p_s_c b_p_t b_v_f b_v_l b_v_c b_L b_C b_I)) := hD.sub [15, 16, 17, 0, 1, 2, 3, 4, 5, 6, 7, 8, 9, 10, 11, 12, 13, 14] (by decide) rfl
  refine lv_aload_n hx hb dX5_putSpan_14 rfl (lv_at hl 0 rfl) ?_
  refine lv_aload_n hx hb dX5_putSpan_15 rfl (lv_at hl 1 rfl) ?_
  refine va_get (D := D) (ci := 0) (v := .ref (q2 2)) (C := RX0) (T := TX0) (N := 12) hx hb hts n_X5_putSpan_X0 hown hK hP 3 rfl rfl 1 (by decide) (hts _ w_X5_putSpan_f75) (fun _ h9 => h9) rfl dX5_putSpan_16 ?_
  refine lv_aload_n hx hb dX5_putSpan_19 rfl (lv_at hl 1 rfl) ?_
  refine va_get (D := D) (ci := 0) (v := .ref (q2 7)) (C := RX0) (T := TX0) (N := 12) hx hb hts n_X5_putSpan_X0 hown hK hP 3 rfl rfl 6 (by decide) (hts _ w_X5_putSpan_f93) (fun _ h9 => h9) rfl dX5_putSpan_20 ?_
  refine lv_iload_n hx hb dX5_putSpan_23 rfl (lv_at hl 3 rfl) ?_
  obtain ⟨hg_7, hm⟩ := mg_of hm
  refine va_iald hx hb hK hP 10 0 rfl rfl hg_7 dX5_putSpan_24 ?_
  obtain ⟨hg_8, hm⟩ := mg_of hm
  refine va_lald hx hb hK hP 5 1 rfl rfl hg_8 dX5_putSpan_25 ?_
  obtain ⟨w_ch_9, w_len_10, hc_11, hm⟩ := mb2_of hm
  refine call_vv (wc := (wdX5 q y w_ch_4 w_dg w_len_5)) (wr := [(q2 0, .inr (0, [.ref (q2 1), .ref (q2 2), .ref (q2 3), .ref (q2 4), .ref (q2 5), .ref (q2 6), .ref (q2 7), .ref (q2 8), .ref (q2 12), .int b_L, .int b_C, .int b_I])), (q2 1, .inl (y 0, 80, .inl b_k)), (q2 2, .inl (y 1, 80, .inr (.inl b_n))), (q2 3, .inl (y 0, 80, .inl b_h)), (q2 4, .inl (y 0, 80, .inl b_d)), (q2 5, .inl (y 0, 80, .inl b_r)), (q2 6, .inl (y 0, 80, .inl b_u)), (q2 7, .inl (y 0, 32, .inl b_y)), (q2 8, .inr (2, [.ref (q2 9), .int b_p_t])), (q2 9, .inr (3, [.ref (q2 10), .ref (q2 11), .int b_p_s_c])), (q2 10, .inl (y 0, 21, .inl b_p_s_f)), (q2 11, .inl (y 0, 21, .inl b_p_s_l)), (q2 12, .inr (3, [.ref (q2 13), .ref (q2 14), .int b_v_c])), (q2 13, .inl (y 0, 40, .inl b_v_f)), (q2 14, .inl (y 0, 40, .inl b_v_l))]) (As := [.long (b_n ((b_y (v3).toNatClampNeg)).toNatClampNeg)]) (rest := []) C (c_X5_putName l D y q _ F hc_11) (cwV 1 hts gX5_putSpan_X5_putName rfl rfl rfl (by decide +kernel) ⟨Nat.le_of_ble_eq_true rfl, Nat.le_of_ble_eq_true rfl⟩) hK hP hD hS hA [0, 1, 2] [3, 4, 5, 6, 7, 8, 9, 10, 11, 12, 13, 14, 15, 16, 17] rfl rfl rfl rfl rfl (by decide) rfl rfl rfl rfl hl.1 (Nat.le_of_ble_eq_true rfl) dX5_putSpan_26 (fun H locs hP hD hS => ?_)
  have hP : va_P D vwCl ((wdX5 q y w_ch_9 w_dg w_len_10) ++ (wdX0 q2 y b_k b_n b_h b_d b_r b_u b_y b_p_s_f b_p_s_l b_p_s_c b_p_t b_v_f b_v_l b_v_c b_L b_C b_I)) H := hP.sub [15, 16, 17, 0, 1, 2, 3, 4, 5, 6, 7, 8, 9, 10, 11, 12, 13, 14] rfl
  have hD : va_D A ((wdX5 q y w_ch_9 w_dg w_len_10) ++ (wdX0 q2 y b_k b_n b_h b_d b_r b_u b_y b_p_s_f b_p_s_l b_p_s_c b_p_t b_v_f b_v_l b_v_c b_L b_C b_I)) := hD.sub [15, 16, 17, 0, 1, 2, 3, 4, 5, 6, 7, 8, 9, 10, 11, 12, 13, 14] (by decide) rfl
  refine lv_aload_n hx hb dX5_putSpan_29 rfl (lv_at hl 0 rfl) ?_
  refine lv_bipush (v := (32 : Int32)) hx hb dX5_putSpan_30 (by decide) ?_
  obtain ⟨w_ch_12, w_len_13, hc_14, hm⟩ := mb2_of hm
  refine call_vv (wc := (wdX5 q y w_ch_9 w_dg w_len_10)) (wr := [(q2 0, .inr (0, [.ref (q2 1), .ref (q2 2), .ref (q2 3), .ref (q2 4), .ref (q2 5), .ref (q2 6), .ref (q2 7), .ref (q2 8), .ref (q2 12), .int b_L, .int b_C, .int b_I])), (q2 1, .inl (y 0, 80, .inl b_k)), (q2 2, .inl (y 1, 80, .inr (.inl b_n))), (q2 3, .inl (y 0, 80, .inl b_h)), (q2 4, .inl (y 0, 80, .inl b_d)), (q2 5, .inl (y 0, 80, .inl b_r)), (q2 6, .inl (y 0, 80, .inl b_u)), (q2 7, .inl (y 0, 32, .inl b_y)), (q2 8, .inr (2, [.ref (q2 9), .int b_p_t])), (q2 9, .inr (3, [.ref (q2 10), .ref (q2 11), .int b_p_s_c])), (q2 10, .inl (y 0, 21, .inl b_p_s_f)), (q2 11, .inl (y 0, 21, .inl b_p_s_l)), (q2 12, .inr (3, [.ref (q2 13), .ref (q2 14), .int b_v_c])), (q2 13, .inl (y 0, 40, .inl b_v_f)), (q2 14, .inl (y 0, 40, .inl b_v_l))]) (As := [.int (32 : Int32)]) (rest := []) C (c_X5_put l D y q _ F hc_14) (cwV 1 hts gX5_putSpan_X5_put rfl rfl rfl (by decide +kernel) ⟨Nat.le_of_ble_eq_true rfl, Nat.le_of_ble_eq_true rfl⟩) hK hP hD hS hA [0, 1, 2] [3, 4, 5, 6, 7, 8, 9, 10, 11, 12, 13, 14, 15, 16, 17] rfl rfl rfl rfl rfl (by decide) rfl rfl rfl rfl hl.1 (Nat.le_of_ble_eq_true rfl) dX5_putSpan_32 (fun H locs hP hD hS => ?_)
  have hP : va_P D vwCl ((wdX5 q y w_ch_12 w_dg w_len_13) ++ (wdX0 q2 y b_k b_n b_h b_d b_r b_u b_y b_p_s_f b_p_s_l b_p_s_c b_p_t b_v_f b_v_l b_v_c b_L b_C b_I)) H := hP.sub [15, 16, 17, 0, 1, 2, 3, 4, 5, 6, 7, 8, 9, 10, 11, 12, 13, 14] rfl
  have hD : va_D A ((wdX5 q y w_ch_12 w_dg w_len_13) ++ (wdX0 q2 y b_k b_n b_h b_d b_r b_u b_y b_p_s_f b_p_s_l b_p_s_c b_p_t b_v_f b_v_l b_v_c b_L b_C b_I)) := hD.sub [15, 16, 17, 0, 1, 2, 3, 4, 5, 6, 7, 8, 9, 10, 11, 12, 13, 14] (by decide) rfl
  refine lv_aload_n hx hb dX5_putSpan_35 rfl (lv_at hl 0 rfl) ?_
  refine lv_aload_n hx hb dX5_putSpan_36 rfl (lv_at hl 1 rfl) ?_
  refine va_get (D := D) (ci := 0) (v := .ref (q2 2)) (C := RX0) (T := TX0) (N := 12) hx hb hts n_X5_putSpan_X0 hown hK hP 3 rfl rfl 1 (by decide) (hts _ w_X5_putSpan_f75) (fun _ h9 => h9) rfl dX5_putSpan_37 ?_
  refine lv_aload_n hx hb dX5_putSpan_40 rfl (lv_at hl 1 rfl) ?_
  refine va_get (D := D) (ci := 0) (v := .ref (q2 7)) (C := RX0) (T := TX0) (N := 12) hx hb hts n_X5_putSpan_X0 hown hK hP 3 rfl rfl 6 (by decide) (hts _ w_X5_putSpan_f93) (fun _ h9 => h9) rfl dX5_putSpan_41 ?_
  refine lv_iload hx hb dX5_putSpan_44 (lv_at hl 4 rfl) ?_
  obtain ⟨hg_15, hm⟩ := mg_of hm
  refine va_iald hx hb hK hP 10 0 rfl rfl hg_15 dX5_putSpan_46 ?_
  obtain ⟨hg_16, hm⟩ := mg_of hm
  refine va_lald hx hb hK hP 5 1 rfl rfl hg_16 dX5_putSpan_47 ?_
  obtain ⟨w_ch_17, w_len_18, hc_19, hm⟩ := mb2_of hm
  refine call_vv (wc := (wdX5 q y w_ch_12 w_dg w_len_13)) (wr := [(q2 0, .inr (0, [.ref (q2 1), .ref (q2 2), .ref (q2 3), .ref (q2 4), .ref (q2 5), .ref (q2 6), .ref (q2 7), .ref (q2 8), .ref (q2 12), .int b_L, .int b_C, .int b_I])), (q2 1, .inl (y 0, 80, .inl b_k)), (q2 2, .inl (y 1, 80, .inr (.inl b_n))), (q2 3, .inl (y 0, 80, .inl b_h)), (q2 4, .inl (y 0, 80, .inl b_d)), (q2 5, .inl (y 0, 80, .inl b_r)), (q2 6, .inl (y 0, 80, .inl b_u)), (q2 7, .inl (y 0, 32, .inl b_y)), (q2 8, .inr (2, [.ref (q2 9), .int b_p_t])), (q2 9, .inr (3, [.ref (q2 10), .ref (q2 11), .int b_p_s_c])), (q2 10, .inl (y 0, 21, .inl b_p_s_f)), (q2 11, .inl (y 0, 21, .inl b_p_s_l)), (q2 12, .inr (3, [.ref (q2 13), .ref (q2 14), .int b_v_c])), (q2 13, .inl (y 0, 40, .inl b_v_f)), (q2 14, .inl (y 0, 40, .inl b_v_l))]) (As := [.long (b_n ((b_y (v4).toNatClampNeg)).toNatClampNeg)]) (rest := []) C (c_X5_putName l D y q _ F hc_19) (cwV 1 hts gX5_putSpan_X5_putName rfl rfl rfl (by decide +kernel) ⟨Nat.le_of_ble_eq_true rfl, Nat.le_of_ble_eq_true rfl⟩) hK hP hD hS hA [0, 1, 2] [3, 4, 5, 6, 7, 8, 9, 10, 11, 12, 13, 14, 15, 16, 17] rfl rfl rfl rfl rfl (by decide) rfl rfl rfl rfl hl.1 (Nat.le_of_ble_eq_true rfl) dX5_putSpan_48 (fun H locs hP hD hS => ?_)
  have hP : va_P D vwCl ((wdX5 q y w_ch_17 w_dg w_len_18) ++ (wdX0 q2 y b_k b_n b_h b_d b_r b_u b_y b_p_s_f b_p_s_l b_p_s_c b_p_t b_v_f b_v_l b_v_c b_L b_C b_I)) H := hP.sub [15, 16, 17, 0, 1, 2, 3, 4, 5, 6, 7, 8, 9, 10, 11, 12, 13, 14] rfl
  have hD : va_D A ((wdX5 q y w_ch_17 w_dg w_len_18) ++ (wdX0 q2 y b_k b_n b_h b_d b_r b_u b_y b_p_s_f b_p_s_l b_p_s_c b_p_t b_v_f b_v_l b_v_c b_L b_C b_I)) := hD.sub [15, 16, 17, 0, 1, 2, 3, 4, 5, 6, 7, 8, 9, 10, 11, 12, 13, 14] (by decide) rfl
  refine lv_aload_n hx hb dX5_putSpan_51 rfl (lv_at hl 0 rfl) ?_
  refine lv_bipush (v := (10 : Int32)) hx hb dX5_putSpan_52 (by decide) ?_
  obtain ⟨w_ch_20, w_len_21, hc_22, hm⟩ := mb2_of hm
  refine call_vv (wc := (wdX5 q y w_ch_17 w_dg w_len_18)) (wr := [(q2 0, .inr (0, [.ref (q2 1), .ref (q2 2), .ref (q2 3), .ref (q2 4), .ref (q2 5), .ref (q2 6), .ref (q2 7), .ref (q2 8), .ref (q2 12), .int b_L, .int b_C, .int b_I])), (q2 1, .inl (y 0, 80, .inl b_k)), (q2 2, .inl (y 1, 80, .inr (.inl b_n))), (q2 3, .inl (y 0, 80, .inl b_h)), (q2 4, .inl (y 0, 80, .inl b_d)), (q2 5, .inl (y 0, 80, .inl b_r)), (q2 6, .inl (y 0, 80, .inl b_u)), (q2 7, .inl (y 0, 32, .inl b_y)), (q2 8, .inr (2, [.ref (q2 9), .int b_p_t])), (q2 9, .inr (3, [.ref (q2 10), .ref (q2 11), .int b_p_s_c])), (q2 10, .inl (y 0, 21, .inl b_p_s_f)), (q2 11, .inl (y 0, 21, .inl b_p_s_l)), (q2 12, .inr (3, [.ref (q2 13), .ref (q2 14), .int b_v_c])), (q2 13, .inl (y 0, 40, .inl b_v_f)), (q2 14, .inl (y 0, 40, .inl b_v_l))]) (As := [.int (10 : Int32)]) (rest := []) C (c_X5_put l D y q _ F hc_22) (cwV 1 hts gX5_putSpan_X5_put rfl rfl rfl (by decide +kernel) ⟨Nat.le_of_ble_eq_true rfl, Nat.le_of_ble_eq_true rfl⟩) hK hP hD hS hA [0, 1, 2] [3, 4, 5, 6, 7, 8, 9, 10, 11, 12, 13, 14, 15, 16, 17] rfl rfl rfl rfl rfl (by decide) rfl rfl rfl rfl hl.1 (Nat.le_of_ble_eq_true rfl) dX5_putSpan_54 (fun H locs hP hD hS => ?_)
  have hP : va_P D vwCl ((wdX5 q y w_ch_20 w_dg w_len_21) ++ (wdX0 q2 y b_k b_n b_h b_d b_r b_u b_y b_p_s_f b_p_s_l b_p_s_c b_p_t b_v_f b_v_l b_v_c b_L b_C b_I)) H := hP.sub [15, 16, 17, 0, 1, 2, 3, 4, 5, 6, 7, 8, 9, 10, 11, 12, 13, 14] rfl
  have hD : va_D A ((wdX5 q y w_ch_20 w_dg w_len_21) ++ (wdX0 q2 y b_k b_n b_h b_d b_r b_u b_y b_p_s_f b_p_s_l b_p_s_c b_p_t b_v_f b_v_l b_v_c b_L b_C b_I)) := hD.sub [15, 16, 17, 0, 1, 2, 3, 4, 5, 6, 7, 8, 9, 10, 11, 12, 13, 14] (by decide) rfl
  have hz := Option.some.inj hm
  subst hz
  exact end_v C hK hP hD hS dX5_putSpan_57
def g_X5_putBoard_73 (F : Nat) : Nat → Int32 → (Nat → Int32) → (Nat → Int32) → Int32 → (Nat → Int64) → (Nat → Int32) → (Nat → Int32) → (Nat → Int32) → Int32 → Option ((Nat → Int32) × (Nat → Int32) × Int32)
  | 0, _, _, _, _, _, _, _, _, _ => none
  | n + 1, v3, w_ch, w_dg, w_len, b_n, b_y, b_v_f, b_v_l, b_v_c => (if b_v_c ≤ v3 then some (w_ch, w_dg, w_len) else mg (inb v3 40) (mg (inb v3 40) (mb2 (f_X5_putSpan F (6 : Int32) (b_v_f (v3).toNatClampNeg) (b_v_l (v3).toNatClampNeg) w_ch w_len b_n b_y) (fun w_ch_4 w_len_5 => mn (v3 + (1 : Int32)) (fun v3_7 => g_X5_putBoard_73 F n v3_7 w_ch_4 w_dg w_len_5 b_n b_y b_v_f b_v_l b_v_c)))))
theorem g_X5_putBoard_73_z (F : Nat) (v3 : Int32) (w_ch : Nat → Int32) (w_dg : Nat → Int32) (w_len : Int32) (b_n : Nat → Int64) (b_y : Nat → Int32) (b_v_f : Nat → Int32) (b_v_l : Nat → Int32) (b_v_c : Int32) : g_X5_putBoard_73 F 0 v3 w_ch w_dg w_len b_n b_y b_v_f b_v_l b_v_c = none := rfl
theorem g_X5_putBoard_73_s (F : Nat) (n : Nat) (v3 : Int32) (w_ch : Nat → Int32) (w_dg : Nat → Int32) (w_len : Int32) (b_n : Nat → Int64) (b_y : Nat → Int32) (b_v_f : Nat → Int32) (b_v_l : Nat → Int32) (b_v_c : Int32) : g_X5_putBoard_73 F (n + 1) v3 w_ch w_dg w_len b_n b_y b_v_f b_v_l b_v_c = (if b_v_c ≤ v3 then some (w_ch, w_dg, w_len) else mg (inb v3 40) (mg (inb v3 40) (mb2 (f_X5_putSpan F (6 : Int32) (b_v_f (v3).toNatClampNeg) (b_v_l (v3).toNatClampNeg) w_ch w_len b_n b_y) (fun w_ch_4 w_len_5 => mn (v3 + (1 : Int32)) (fun v3_7 => g_X5_putBoard_73 F n v3_7 w_ch_4 w_dg w_len_5 b_n b_y b_v_f b_v_l b_v_c))))) := rfl
def g_X5_putBoard_37 (F : Nat) : Nat → Int32 → (Nat → Int32) → (Nat → Int32) → Int32 → (Nat → Int64) → (Nat → Int32) → (Nat → Int32) → (Nat → Int32) → Int32 → (Nat → Int32) → (Nat → Int32) → Int32 → Option ((Nat → Int32) × (Nat → Int32) × Int32)
  | 0, _, _, _, _, _, _, _, _, _, _, _, _ => none
  | n + 1, v3, w_ch, w_dg, w_len, b_n, b_y, b_p_s_f, b_p_s_l, b_p_s_c, b_v_f, b_v_l, b_v_c => (if (b_p_s_c - (1 : Int32)) ≤ v3 then g_X5_putBoard_73 F F (0 : Int32) w_ch w_dg w_len b_n b_y b_v_f b_v_l b_v_c else mg (inb v3 21) (mg (inb v3 21) (mb2 (f_X5_putSpan F (5 : Int32) (b_p_s_f (v3).toNatClampNeg) (b_p_s_l (v3).toNatClampNeg) w_ch w_len b_n b_y) (fun w_ch_4 w_len_5 => mn (v3 + (1 : Int32)) (fun v3_7 => g_X5_putBoard_37 F n v3_7 w_ch_4 w_dg w_len_5 b_n b_y b_p_s_f b_p_s_l b_p_s_c b_v_f b_v_l b_v_c)))))
theorem g_X5_putBoard_37_z (F : Nat) (v3 : Int32) (w_ch : Nat → Int32) (w_dg : Nat → Int32) (w_len : Int32) (b_n : Nat → Int64) (b_y : Nat → Int32) (b_p_s_f : Nat → Int32) (b_p_s_l : Nat → Int32) (b_p_s_c : Int32) (b_v_f : Nat → Int32) (b_v_l : Nat → Int32) (b_v_c : Int32) : g_X5_putBoard_37 F 0 v3 w_ch w_dg w_len b_n b_y b_p_s_f b_p_s_l b_p_s_c b_v_f b_v_l b_v_c = none := rfl
theorem g_X5_putBoard_37_s (F : Nat) (n : Nat) (v3 : Int32) (w_ch : Nat → Int32) (w_dg : Nat → Int32) (w_len : Int32) (b_n : Nat → Int64) (b_y : Nat → Int32) (b_p_s_f : Nat → Int32) (b_p_s_l : Nat → Int32) (b_p_s_c : Int32) (b_v_f : Nat → Int32) (b_v_l : Nat → Int32) (b_v_c : Int32) : g_X5_putBoard_37 F (n + 1) v3 w_ch w_dg w_len b_n b_y b_p_s_f b_p_s_l b_p_s_c b_v_f b_v_l b_v_c = (if (b_p_s_c - (1 : Int32)) ≤ v3 then g_X5_putBoard_73 F F (0 : Int32) w_ch w_dg w_len b_n b_y b_v_f b_v_l b_v_c else mg (inb v3 21) (mg (inb v3 21) (mb2 (f_X5_putSpan F (5 : Int32) (b_p_s_f (v3).toNatClampNeg) (b_p_s_l (v3).toNatClampNeg) w_ch w_len b_n b_y) (fun w_ch_4 w_len_5 => mn (v3 + (1 : Int32)) (fun v3_7 => g_X5_putBoard_37 F n v3_7 w_ch_4 w_dg w_len_5 b_n b_y b_p_s_f b_p_s_l b_p_s_c b_v_f b_v_l b_v_c))))) := rfl
def g_X5_putBoard_7 (F : Nat) : Nat → Int32 → (Nat → Int32) → (Nat → Int32) → Int32 → (Nat → Int32) → (Nat → Int64) → (Nat → Int32) → (Nat → Int32) → (Nat → Int32) → (Nat → Int32) → (Nat → Int32) → Int32 → (Nat → Int32) → (Nat → Int32) → Int32 → Int32 → Option ((Nat → Int32) × (Nat → Int32) × Int32)
  | 0, _, _, _, _, _, _, _, _, _, _, _, _, _, _, _, _ => none
  | n + 1, v2, w_ch, w_dg, w_len, b_k, b_n, b_h, b_d, b_y, b_p_s_f, b_p_s_l, b_p_s_c, b_v_f, b_v_l, b_v_c, b_L => (if b_L ≤ v2 then g_X5_putBoard_37 F F (0 : Int32) w_ch w_dg w_len b_n b_y b_p_s_f b_p_s_l b_p_s_c b_v_f b_v_l b_v_c else mb3 (f_X5_putLayer F v2 w_ch w_dg w_len b_k b_n b_h b_d) (fun w_ch_2 w_dg_3 w_len_4 => mn (v2 + (1 : Int32)) (fun v2_6 => g_X5_putBoard_7 F n v2_6 w_ch_2 w_dg_3 w_len_4 b_k b_n b_h b_d b_y b_p_s_f b_p_s_l b_p_s_c b_v_f b_v_l b_v_c b_L)))
theorem g_X5_putBoard_7_z (F : Nat) (v2 : Int32) (w_ch : Nat → Int32) (w_dg : Nat → Int32) (w_len : Int32) (b_k : Nat → Int32) (b_n : Nat → Int64) (b_h : Nat → Int32) (b_d : Nat → Int32) (b_y : Nat → Int32) (b_p_s_f : Nat → Int32) (b_p_s_l : Nat → Int32) (b_p_s_c : Int32) (b_v_f : Nat → Int32) (b_v_l : Nat → Int32) (b_v_c : Int32) (b_L : Int32) : g_X5_putBoard_7 F 0 v2 w_ch w_dg w_len b_k b_n b_h b_d b_y b_p_s_f b_p_s_l b_p_s_c b_v_f b_v_l b_v_c b_L = none := rfl
theorem g_X5_putBoard_7_s (F : Nat) (n : Nat) (v2 : Int32) (w_ch : Nat → Int32) (w_dg : Nat → Int32) (w_len : Int32) (b_k : Nat → Int32) (b_n : Nat → Int64) (b_h : Nat → Int32) (b_d : Nat → Int32) (b_y : Nat → Int32) (b_p_s_f : Nat → Int32) (b_p_s_l : Nat → Int32) (b_p_s_c : Int32) (b_v_f : Nat → Int32) (b_v_l : Nat → Int32) (b_v_c : Int32) (b_L : Int32) : g_X5_putBoard_7 F (n + 1) v2 w_ch w_dg w_len b_k b_n b_h b_d b_y b_p_s_f b_p_s_l b_p_s_c b_v_f b_v_l b_v_c b_L = (if b_L ≤ v2 then g_X5_putBoard_37 F F (0 : Int32) w_ch w_dg w_len b_n b_y b_p_s_f b_p_s_l b_p_s_c b_v_f b_v_l b_v_c else mb3 (f_X5_putLayer F v2 w_ch w_dg w_len b_k b_n b_h b_d) (fun w_ch_2 w_dg_3 w_len_4 => mn (v2 + (1 : Int32)) (fun v2_6 => g_X5_putBoard_7 F n v2_6 w_ch_2 w_dg_3 w_len_4 b_k b_n b_h b_d b_y b_p_s_f b_p_s_l b_p_s_c b_v_f b_v_l b_v_c b_L))) := rfl
def f_X5_putBoard (F : Nat) (w_ch : Nat → Int32) (w_dg : Nat → Int32) (w_len : Int32) (b_k : Nat → Int32) (b_n : Nat → Int64) (b_h : Nat → Int32) (b_d : Nat → Int32) (b_y : Nat → Int32) (b_p_s_f : Nat → Int32) (b_p_s_l : Nat → Int32) (b_p_s_c : Int32) (b_v_f : Nat → Int32) (b_v_l : Nat → Int32) (b_v_c : Int32) (b_L : Int32) : Option ((Nat → Int32) × (Nat → Int32) × Int32) := g_X5_putBoard_7 F F (0 : Int32) w_ch w_dg (0 : Int32) b_k b_n b_h b_d b_y b_p_s_f b_p_s_l b_p_s_c b_v_f b_v_l b_v_c b_L
set_option maxRecDepth 20000 in
theorem n_X5_putBoard_X0 : ∀ w ∈ wsX00, w ∈ wsX5_putBoard := by decide +kernel
set_option maxRecDepth 20000 in
theorem w_X5_putBoard_f22 : Cond.fieldLink RX5 22 "LayerStacks$Board" "layers" "I" ∈ wsX5_putBoard := by decide +kernel
set_option maxRecDepth 20000 in
theorem w_X5_putBoard_f31 : Cond.fieldLink RX5 31 "LayerStacks$Board" "pressings" "LLayerStacks$Pressings;" ∈ wsX5_putBoard := by decide +kernel
set_option maxRecDepth 20000 in
theorem n_X5_putBoard_X2 : ∀ w ∈ wsX20, w ∈ wsX5_putBoard := by decide +kernel
set_option maxRecDepth 20000 in
theorem w_X5_putBoard_f35 : Cond.fieldLink RX5 35 "LayerStacks$Pressings" "spans" "LLayerStacks$Spans;" ∈ wsX5_putBoard := by decide +kernel
set_option maxRecDepth 20000 in
theorem n_X5_putBoard_X3 : ∀ w ∈ wsX30, w ∈ wsX5_putBoard := by decide +kernel
set_option maxRecDepth 20000 in
theorem w_X5_putBoard_f41 : Cond.fieldLink RX5 41 "LayerStacks$Spans" "count" "I" ∈ wsX5_putBoard := by decide +kernel
set_option maxRecDepth 20000 in
theorem w_X5_putBoard_f46 : Cond.fieldLink RX5 46 "LayerStacks$Spans" "firsts" "[I" ∈ wsX5_putBoard := by decide +kernel
set_option maxRecDepth 20000 in
theorem w_X5_putBoard_f50 : Cond.fieldLink RX5 50 "LayerStacks$Spans" "lasts" "[I" ∈ wsX5_putBoard := by decide +kernel
set_option maxRecDepth 20000 in
theorem w_X5_putBoard_f57 : Cond.fieldLink RX5 57 "LayerStacks$Board" "vias" "LLayerStacks$Spans;" ∈ wsX5_putBoard := by decide +kernel
set_option maxRecDepth 20000 in
theorem n_X5_putBoard_X5 : ∀ w ∈ wsX50, w ∈ wsX5_putBoard := by decide +kernel
set_option maxRecDepth 20000 in
theorem w_X5_putBoard_f18 : Cond.fieldLink RX5 18 "LayerStacks$Writing" "length" "I" ∈ wsX5_putBoard := by decide +kernel
set_option maxHeartbeats 4000000 in
set_option maxRecDepth 100000 in
theorem k_X5_putBoard_73 {p : Program} {l : Launch} {e : Env} {s : State} {m : MethodId} {args : Array Value} {below : List Frame} {meth : Method} {c : Code} {D : va_G} {y : Nat → ClassId} {aK aV : Nat → Nat} {A : Nat → Prop} {q : Nat → Nat} {q2 : Nat → Nat} {b_k : Nat → Int32} {b_h : Nat → Int32} {b_d : Nat → Int32} {b_r : Nat → Int32} {b_u : Nat → Int32} {b_p_s_f : Nat → Int32} {b_p_s_l : Nat → Int32} {b_p_s_c : Int32} {b_p_t : Int32} {b_L : Int32} {b_C : Int32} {b_I : Int32} {z : (Nat → Int32) × (Nat → Int32) × Int32} (C : CX p s m args meth c wsX5_putBoard RX5 cX5_putBoard 4 none) (hA : ∀ q : Nat, s.heap.size ≤ q → A q) (hK : va_K D vwCl (tyl y) s) (hJ : SJ aK aV A s s.heap) (F : Nat) :
    ∀ (n : Nat), ∀ (v3 : Int32) (w_ch : Nat → Int32) (w_dg : Nat → Int32) (w_len : Int32) (b_n : Nat → Int64) (b_y : Nat → Int32) (b_v_f : Nat → Int32) (b_v_l : Nat → Int32) (b_v_c : Int32) (H : Heap) (locs : List Loc) (ls : Array Slot), g_X5_putBoard_73 F n v3 w_ch w_dg w_len b_n b_y b_v_f b_v_l b_v_c = some z → va_P D vwCl ((wdX5 q y w_ch w_dg w_len) ++ (wdX0 q2 y b_k b_n b_h b_d b_r b_u b_y b_p_s_f b_p_s_l b_p_s_c b_p_t b_v_f b_v_l b_v_c b_L b_C b_I)) H → va_D A ((wdX5 q y w_ch w_dg w_len) ++ (wdX0 q2 y b_k b_n b_h b_d b_r b_u b_y b_p_s_f b_p_s_l b_p_s_c b_p_t b_v_f b_v_l b_v_c b_L b_C b_I)) → va_S A s.heap H locs → lv_has ls 4 [(0, .ref (q 0)), (1, .ref (q2 0)), (3, .int v3)] → W p l e ({ frames := 6, cells := 0, slots := 0, locals := 131 } : Room) s m args below meth c H locs 0 0 (MQ below (QV D y A ((wdX5 q y (z.1) (z.2.1) (z.2.2)) ++ (wdX0 q2 y b_k b_n b_h b_d b_r b_u b_y b_p_s_f b_p_s_l b_p_s_c b_p_t b_v_f b_v_l b_v_c b_L b_C b_I))) args s 0 0 A) (F0 m 73 ls []) := by
  obtain ⟨⟨hx, hb, hml, hown, hts⟩, hr, hlocks⟩ := id C
  intro n
  induction n with
  | zero =>
    intro v3 w_ch w_dg w_len b_n b_y b_v_f b_v_l b_v_c H locs ls hm
    rw [g_X5_putBoard_73_z] at hm
    cases hm
  | succ n ih =>
    intro v3 w_ch w_dg w_len b_n b_y b_v_f b_v_l b_v_c H locs ls hm hP hD hS hl
    rw [g_X5_putBoard_73_s] at hm
    refine lv_iload_n hx hb dX5_putBoard_73 rfl (lv_at hl 2 rfl) ?_
    refine lv_aload_n hx hb dX5_putBoard_74 rfl (lv_at hl 1 rfl) ?_
    refine va_get (D := D) (ci := 0) (v := .ref (q2 12)) (C := RX0) (T := TX0) (N := 12) hx hb hts n_X5_putBoard_X0 hown hK hP 3 rfl rfl 8 (by decide) (hts _ w_X5_putBoard_f57) (fun _ h9 => h9) rfl dX5_putBoard_75 ?_
    refine va_get (D := D) (ci := 3) (v := .int b_v_c) (C := RX3) (T := TX3) (N := 3) hx hb hts n_X5_putBoard_X3 hown hK hP 15 rfl rfl 2 (by decide) (hts _ w_X5_putBoard_f41) (fun _ h9 => h9) rfl dX5_putBoard_78 ?_
    refine lv_icmp_ge (tgt := 115) hx hb dX5_putBoard_81 (by decide) (fun h_1 => ?_) (fun h_1 => ?_)
    · have hm := it_of hm h_1
      have hz := Option.some.inj hm
      subst hz
      exact end_v C hK hP hD hS dX5_putBoard_115
    · have hm := ie_of hm h_1
      refine lv_aload_n hx hb dX5_putBoard_84 rfl (lv_at hl 0 rfl) ?_
      refine lv_aload_n hx hb dX5_putBoard_85 rfl (lv_at hl 1 rfl) ?_
      refine lv_bipush (v := (6 : Int32)) hx hb dX5_putBoard_86 (by decide) ?_
      refine lv_aload_n hx hb dX5_putBoard_88 rfl (lv_at hl 1 rfl) ?_
      refine va_get (D := D) (ci := 0) (v := .ref (q2 12)) (C := RX0) (T := TX0) (N := 12) hx hb hts n_X5_putBoard_X0 hown hK hP 3 rfl rfl 8 (by decide) (hts _ w_X5_putBoard_f57) (fun _ h9 => h9) rfl dX5_putBoard_89 ?_
      refine va_get (D := D) (ci := 3) (v := .ref (q2 13)) (C := RX3) (T := TX3) (N := 3) hx hb hts n_X5_putBoard_X3 hown hK hP 15 rfl rfl 0 (by decide) (hts _ w_X5_putBoard_f46) (fun _ h9 => h9) rfl dX5_putBoard_92 ?_
      refine lv_iload_n hx hb dX5_putBoard_95 rfl (lv_at hl 2 rfl) ?_
      obtain ⟨hg_2, hm⟩ := mg_of hm
      refine va_iald hx hb hK hP 16 0 rfl rfl hg_2 dX5_putBoard_96 ?_
      refine lv_aload_n hx hb dX5_putBoard_97 rfl (lv_at hl 1 rfl) ?_
      refine va_get (D := D) (ci := 0) (v := .ref (q2 12)) (C := RX0) (T := TX0) (N := 12) hx hb hts n_X5_putBoard_X0 hown hK hP 3 rfl rfl 8 (by decide) (hts _ w_X5_putBoard_f57) (fun _ h9 => h9) rfl dX5_putBoard_98 ?_
      refine va_get (D := D) (ci := 3) (v := .ref (q2 14)) (C := RX3) (T := TX3) (N := 3) hx hb hts n_X5_putBoard_X3 hown hK hP 15 rfl rfl 1 (by decide) (hts _ w_X5_putBoard_f50) (fun _ h9 => h9) rfl dX5_putBoard_101 ?_
      refine lv_iload_n hx hb dX5_putBoard_104 rfl (lv_at hl 2 rfl) ?_
      obtain ⟨hg_3, hm⟩ := mg_of hm
      refine va_iald hx hb hK hP 17 0 rfl rfl hg_3 dX5_putBoard_105 ?_
      obtain ⟨w_ch_4, w_len_5, hc_6, hm⟩ := mb2_of hm
      refine callJ_vv (wc := ((wdX5 q y w_ch w_dg w_len) ++ (wdX0 q2 y b_k b_n b_h b_d b_r b_u b_y b_p_s_f b_p_s_l b_p_s_c b_p_t b_v_f b_v_l b_v_c b_L b_C b_I))) (wr := []) (As := [.ref (q2 0), .int (6 : Int32), .int (b_v_f (v3).toNatClampNeg), .int (b_v_l (v3).toNatClampNeg)]) (rest := []) C (c_X5_putSpan l D y aK aV q q2 _ F hc_6) (cwV 4 hts gX5_putBoard_X5_putSpan rfl rfl rfl (by decide +kernel) ⟨Nat.le_of_ble_eq_true rfl, Nat.le_of_ble_eq_true rfl⟩) hJ hK hP hD hS hA [0, 1, 2, 3, 4, 5, 6, 7, 8, 9, 10, 11, 12, 13, 14, 15, 16, 17] [] rfl rfl rfl rfl rfl (by decide) (va_recv hK hP (ci := 5) (q0 := 0) rfl rfl) rfl hl.1 (Nat.le_of_ble_eq_true rfl) dX5_putBoard_106 (fun H locs hP hD hS => ?_)
      have hP : va_P D vwCl ((wdX5 q y w_ch_4 w_dg w_len_5) ++ (wdX0 q2 y b_k b_n b_h b_d b_r b_u b_y b_p_s_f b_p_s_l b_p_s_c b_p_t b_v_f b_v_l b_v_c b_L b_C b_I)) H := hP
      have hD : va_D A ((wdX5 q y w_ch_4 w_dg w_len_5) ++ (wdX0 q2 y b_k b_n b_h b_d b_r b_u b_y b_p_s_f b_p_s_l b_p_s_c b_p_t b_v_f b_v_l b_v_c b_L b_C b_I)) := hD
      obtain ⟨v3_7, ev3_7⟩ : ∃ y9 : Int32, y9 = (v3 + (1 : Int32)) := ⟨_, rfl⟩
      have hm := mn_of ev3_7 hm
      refine lv_iinc (v := v3_7) (lv' := [(3, .int v3_7), (0, .ref (q 0)), (1, .ref (q2 0))]) hx hb dX5_putBoard_109 hl (k := 2) rfl (by rw [ev3_7]; rfl) (by decide) rfl (fun ls hl => ?_)
      refine lv_goto (tgt := 73) hx hb dX5_putBoard_112 (by decide) ?_
      exact ih v3_7 w_ch_4 w_dg w_len_5 b_n b_y b_v_f b_v_l b_v_c _ _ _ hm hP hD hS (lv_sub hl [1, 2, 0] rfl)
set_option maxHeartbeats 4000000 in
set_option maxRecDepth 100000 in
theorem k_X5_putBoard_37 {p : Program} {l : Launch} {e : Env} {s : State} {m : MethodId} {args : Array Value} {below : List Frame} {meth : Method} {c : Code} {D : va_G} {y : Nat → ClassId} {aK aV : Nat → Nat} {A : Nat → Prop} {q : Nat → Nat} {q2 : Nat → Nat} {b_k : Nat → Int32} {b_h : Nat → Int32} {b_d : Nat → Int32} {b_r : Nat → Int32} {b_u : Nat → Int32} {b_p_t : Int32} {b_L : Int32} {b_C : Int32} {b_I : Int32} {z : (Nat → Int32) × (Nat → Int32) × Int32} (C : CX p s m args meth c wsX5_putBoard RX5 cX5_putBoard 4 none) (hA : ∀ q : Nat, s.heap.size ≤ q → A q) (hK : va_K D vwCl (tyl y) s) (hJ : SJ aK aV A s s.heap) (F : Nat) :
    ∀ (n : Nat), ∀ (v3 : Int32) (w_ch : Nat → Int32) (w_dg : Nat → Int32) (w_len : Int32) (b_n : Nat → Int64) (b_y : Nat → Int32) (b_p_s_f : Nat → Int32) (b_p_s_l : Nat → Int32) (b_p_s_c : Int32) (b_v_f : Nat → Int32) (b_v_l : Nat → Int32) (b_v_c : Int32) (H : Heap) (locs : List Loc) (ls : Array Slot), g_X5_putBoard_37 F n v3 w_ch w_dg w_len b_n b_y b_p_s_f b_p_s_l b_p_s_c b_v_f b_v_l b_v_c = some z → va_P D vwCl ((wdX5 q y w_ch w_dg w_len) ++ (wdX0 q2 y b_k b_n b_h b_d b_r b_u b_y b_p_s_f b_p_s_l b_p_s_c b_p_t b_v_f b_v_l b_v_c b_L b_C b_I)) H → va_D A ((wdX5 q y w_ch w_dg w_len) ++ (wdX0 q2 y b_k b_n b_h b_d b_r b_u b_y b_p_s_f b_p_s_l b_p_s_c b_p_t b_v_f b_v_l b_v_c b_L b_C b_I)) → va_S A s.heap H locs → lv_has ls 4 [(0, .ref (q 0)), (1, .ref (q2 0)), (2, .ref (q2 9)), (3, .int v3)] → W p l e ({ frames := 6, cells := 0, slots := 0, locals := 131 } : Room) s m args below meth c H locs 0 0 (MQ below (QV D y A ((wdX5 q y (z.1) (z.2.1) (z.2.2)) ++ (wdX0 q2 y b_k b_n b_h b_d b_r b_u b_y b_p_s_f b_p_s_l b_p_s_c b_p_t b_v_f b_v_l b_v_c b_L b_C b_I))) args s 0 0 A) (F0 m 37 ls []) := by
  obtain ⟨⟨hx, hb, hml, hown, hts⟩, hr, hlocks⟩ := id C
  intro n
  induction n with
  | zero =>
    intro v3 w_ch w_dg w_len b_n b_y b_p_s_f b_p_s_l b_p_s_c b_v_f b_v_l b_v_c H locs ls hm
    rw [g_X5_putBoard_37_z] at hm
    cases hm
  | succ n ih =>
    intro v3 w_ch w_dg w_len b_n b_y b_p_s_f b_p_s_l b_p_s_c b_v_f b_v_l b_v_c H locs ls hm hP hD hS hl
    rw [g_X5_putBoard_37_s] at hm
    refine lv_iload_n hx hb dX5_putBoard_37 rfl (lv_at hl 3 rfl) ?_
    refine lv_aload_n hx hb dX5_putBoard_38 rfl (lv_at hl 2 rfl) ?_
    refine va_get (D := D) (ci := 3) (v := .int b_p_s_c) (C := RX3) (T := TX3) (N := 3) hx hb hts n_X5_putBoard_X3 hown hK hP 12 rfl rfl 2 (by decide) (hts _ w_X5_putBoard_f41) (fun _ h9 => h9) rfl dX5_putBoard_39 ?_
    refine lv_iconst (v := (1 : Int32)) hx hb dX5_putBoard_42 (by decide) ?_
    refine lv_isub hx hb dX5_putBoard_43 ?_
    refine lv_icmp_ge (tgt := 71) hx hb dX5_putBoard_44 (by decide) (fun h_1 => ?_) (fun h_1 => ?_)
    · have hm := it_of hm h_1
      refine lv_iconst (v := (0 : Int32)) hx hb dX5_putBoard_71 (by decide) ?_
      refine lv_istore_n (lv' := [(3, .int (0 : Int32)), (0, .ref (q 0)), (1, .ref (q2 0)), (2, .ref (q2 9))]) hx hb dX5_putBoard_72 rfl hl (by decide) rfl (fun ls hl => ?_)
      exact k_X5_putBoard_73 C hA hK hJ F F (0 : Int32) w_ch w_dg w_len b_n b_y b_v_f b_v_l b_v_c _ _ _ hm hP hD hS (lv_sub hl [1, 2, 0] rfl)
    · have hm := ie_of hm h_1
      refine lv_aload_n hx hb dX5_putBoard_47 rfl (lv_at hl 0 rfl) ?_
      refine lv_aload_n hx hb dX5_putBoard_48 rfl (lv_at hl 1 rfl) ?_
      refine lv_iconst (v := (5 : Int32)) hx hb dX5_putBoard_49 (by decide) ?_
      refine lv_aload_n hx hb dX5_putBoard_50 rfl (lv_at hl 2 rfl) ?_
      refine va_get (D := D) (ci := 3) (v := .ref (q2 10)) (C := RX3) (T := TX3) (N := 3) hx hb hts n_X5_putBoard_X3 hown hK hP 12 rfl rfl 0 (by decide) (hts _ w_X5_putBoard_f46) (fun _ h9 => h9) rfl dX5_putBoard_51 ?_
      refine lv_iload_n hx hb dX5_putBoard_54 rfl (lv_at hl 3 rfl) ?_
      obtain ⟨hg_2, hm⟩ := mg_of hm
      refine va_iald hx hb hK hP 13 0 rfl rfl hg_2 dX5_putBoard_55 ?_
      refine lv_aload_n hx hb dX5_putBoard_56 rfl (lv_at hl 2 rfl) ?_
      refine va_get (D := D) (ci := 3) (v := .ref (q2 11)) (C := RX3) (T := TX3) (N := 3) hx hb hts n_X5_putBoard_X3 hown hK hP 12 rfl rfl 1 (by decide) (hts _ w_X5_putBoard_f50) (fun _ h9 => h9) rfl dX5_putBoard_57 ?_
      refine lv_iload_n hx hb dX5_putBoard_60 rfl (lv_at hl 3 rfl) ?_
      obtain ⟨hg_3, hm⟩ := mg_of hm
      refine va_iald hx hb hK hP 14 0 rfl rfl hg_3 dX5_putBoard_61 ?_
      obtain ⟨w_ch_4, w_len_5, hc_6, hm⟩ := mb2_of hm
      refine callJ_vv (wc := ((wdX5 q y w_ch w_dg w_len) ++ (wdX0 q2 y b_k b_n b_h b_d b_r b_u b_y b_p_s_f b_p_s_l b_p_s_c b_p_t b_v_f b_v_l b_v_c b_L b_C b_I))) (wr := []) (As := [.ref (q2 0), .int (5 : Int32), .int (b_p_s_f (v3).toNatClampNeg), .int (b_p_s_l (v3).toNatClampNeg)]) (rest := []) C (c_X5_putSpan l D y aK aV q q2 _ F hc_6) (cwV 4 hts gX5_putBoard_X5_putSpan rfl rfl rfl (by decide +kernel) ⟨Nat.le_of_ble_eq_true rfl, Nat.le_of_ble_eq_true rfl⟩) hJ hK hP hD hS hA [0, 1, 2, 3, 4, 5, 6, 7, 8, 9, 10, 11, 12, 13, 14, 15, 16, 17] [] rfl rfl rfl rfl rfl (by decide) (va_recv hK hP (ci := 5) (q0 := 0) rfl rfl) rfl hl.1 (Nat.le_of_ble_eq_true rfl) dX5_putBoard_62 (fun H locs hP hD hS => ?_)
      have hP : va_P D vwCl ((wdX5 q y w_ch_4 w_dg w_len_5) ++ (wdX0 q2 y b_k b_n b_h b_d b_r b_u b_y b_p_s_f b_p_s_l b_p_s_c b_p_t b_v_f b_v_l b_v_c b_L b_C b_I)) H := hP
      have hD : va_D A ((wdX5 q y w_ch_4 w_dg w_len_5) ++ (wdX0 q2 y b_k b_n b_h b_d b_r b_u b_y b_p_s_f b_p_s_l b_p_s_c b_p_t b_v_f b_v_l b_v_c b_L b_C b_I)) := hD
      obtain ⟨v3_7, ev3_7⟩ : ∃ y9 : Int32, y9 = (v3 + (1 : Int32)) := ⟨_, rfl⟩
      have hm := mn_of ev3_7 hm
      refine lv_iinc (v := v3_7) (lv' := [(3, .int v3_7), (0, .ref (q 0)), (1, .ref (q2 0)), (2, .ref (q2 9))]) hx hb dX5_putBoard_65 hl (k := 3) rfl (by rw [ev3_7]; rfl) (by decide) rfl (fun ls hl => ?_)
      refine lv_goto (tgt := 37) hx hb dX5_putBoard_68 (by decide) ?_
      exact ih v3_7 w_ch_4 w_dg w_len_5 b_n b_y b_p_s_f b_p_s_l b_p_s_c b_v_f b_v_l b_v_c _ _ _ hm hP hD hS (lv_sub hl [1, 2, 3, 0] rfl)
set_option maxHeartbeats 4000000 in
set_option maxRecDepth 100000 in
theorem k_X5_putBoard_7 {p : Program} {l : Launch} {e : Env} {s : State} {m : MethodId} {args : Array Value} {below : List Frame} {meth : Method} {c : Code} {D : va_G} {y : Nat → ClassId} {aK aV : Nat → Nat} {A : Nat → Prop} {q : Nat → Nat} {q2 : Nat → Nat} {b_r : Nat → Int32} {b_u : Nat → Int32} {b_p_t : Int32} {b_C : Int32} {b_I : Int32} {z : (Nat → Int32) × (Nat → Int32) × Int32} (C : CX p s m args meth c wsX5_putBoard RX5 cX5_putBoard 4 none) (hA : ∀ q : Nat, s.heap.size ≤ q → A q) (hK : va_K D vwCl (tyl y) s) (hJ : SJ aK aV A s s.heap) (F : Nat) :
    ∀ (n : Nat), ∀ (v2 : Int32) (w_ch : Nat → Int32) (w_dg : Nat → Int32) (w_len : Int32) (b_k : Nat → Int32) (b_n : Nat → Int64) (b_h : Nat → Int32) (b_d : Nat → Int32) (b_y : Nat → Int32) (b_p_s_f : Nat → Int32) (b_p_s_l : Nat → Int32) (b_p_s_c : Int32) (b_v_f : Nat → Int32) (b_v_l : Nat → Int32) (b_v_c : Int32) (b_L : Int32) (H : Heap) (locs : List Loc) (ls : Array Slot), g_X5_putBoard_7 F n v2 w_ch w_dg w_len b_k b_n b_h b_d b_y b_p_s_f b_p_s_l b_p_s_c b_v_f b_v_l b_v_c b_L = some z → va_P D vwCl ((wdX5 q y w_ch w_dg w_len) ++ (wdX0 q2 y b_k b_n b_h b_d b_r b_u b_y b_p_s_f b_p_s_l b_p_s_c b_p_t b_v_f b_v_l b_v_c b_L b_C b_I)) H → va_D A ((wdX5 q y w_ch w_dg w_len) ++ (wdX0 q2 y b_k b_n b_h b_d b_r b_u b_y b_p_s_f b_p_s_l b_p_s_c b_p_t b_v_f b_v_l b_v_c b_L b_C b_I)) → va_S A s.heap H locs → lv_has ls 4 [(0, .ref (q 0)), (1, .ref (q2 0)), (2, .int v2)] → W p l e ({ frames := 6, cells := 0, slots := 0, locals := 131 } : Room) s m args below meth c H locs 0 0 (MQ below (QV D y A ((wdX5 q y (z.1) (z.2.1) (z.2.2)) ++ (wdX0 q2 y b_k b_n b_h b_d b_r b_u b_y b_p_s_f b_p_s_l b_p_s_c b_p_t b_v_f b_v_l b_v_c b_L b_C b_I))) args s 0 0 A) (F0 m 7 ls []) := by
  obtain ⟨⟨hx, hb, hml, hown, hts⟩, hr, hlocks⟩ := id C
  intro n
  induction n with
  | zero =>
    intro v2 w_ch w_dg w_len b_k b_n b_h b_d b_y b_p_s_f b_p_s_l b_p_s_c b_v_f b_v_l b_v_c b_L H locs ls hm
    rw [g_X5_putBoard_7_z] at hm
    cases hm
  | succ n ih =>
    intro v2 w_ch w_dg w_len b_k b_n b_h b_d b_y b_p_s_f b_p_s_l b_p_s_c b_v_f b_v_l b_v_c b_L H locs ls hm hP hD hS hl
    rw [g_X5_putBoard_7_s] at hm
    refine lv_iload_n hx hb dX5_putBoard_7 rfl (lv_at hl 2 rfl) ?_
    refine lv_aload_n hx hb dX5_putBoard_8 rfl (lv_at hl 1 rfl) ?_
    refine va_get (D := D) (ci := 0) (v := .int b_L) (C := RX0) (T := TX0) (N := 12) hx hb hts n_X5_putBoard_X0 hown hK hP 3 rfl rfl 9 (by decide) (hts _ w_X5_putBoard_f22) (fun _ h9 => h9) rfl dX5_putBoard_9 ?_
    refine lv_icmp_ge (tgt := 27) hx hb dX5_putBoard_12 (by decide) (fun h_1 => ?_) (fun h_1 => ?_)
    · have hm := it_of hm h_1
      refine lv_aload_n hx hb dX5_putBoard_27 rfl (lv_at hl 1 rfl) ?_
      refine va_get (D := D) (ci := 0) (v := .ref (q2 8)) (C := RX0) (T := TX0) (N := 12) hx hb hts n_X5_putBoard_X0 hown hK hP 3 rfl rfl 7 (by decide) (hts _ w_X5_putBoard_f31) (fun _ h9 => h9) rfl dX5_putBoard_28 ?_
      refine va_get (D := D) (ci := 2) (v := .ref (q2 9)) (C := RX2) (T := TX2) (N := 2) hx hb hts n_X5_putBoard_X2 hown hK hP 11 rfl rfl 0 (by decide) (hts _ w_X5_putBoard_f35) (fun _ h9 => h9) rfl dX5_putBoard_31 ?_
      refine lv_astore_n (lv' := [(2, .ref (q2 9)), (0, .ref (q 0)), (1, .ref (q2 0))]) hx hb dX5_putBoard_34 rfl hl (by decide) rfl (fun ls hl => ?_)
      refine lv_iconst (v := (0 : Int32)) hx hb dX5_putBoard_35 (by decide) ?_
      refine lv_istore_n (lv' := [(3, .int (0 : Int32)), (2, .ref (q2 9)), (0, .ref (q 0)), (1, .ref (q2 0))]) hx hb dX5_putBoard_36 rfl hl (by decide) rfl (fun ls hl => ?_)
      exact k_X5_putBoard_37 C hA hK hJ F F (0 : Int32) w_ch w_dg w_len b_n b_y b_p_s_f b_p_s_l b_p_s_c b_v_f b_v_l b_v_c _ _ _ hm hP hD hS (lv_sub hl [2, 3, 1, 0] rfl)
    · have hm := ie_of hm h_1
      refine lv_aload_n hx hb dX5_putBoard_15 rfl (lv_at hl 0 rfl) ?_
      refine lv_aload_n hx hb dX5_putBoard_16 rfl (lv_at hl 1 rfl) ?_
      refine lv_iload_n hx hb dX5_putBoard_17 rfl (lv_at hl 2 rfl) ?_
      obtain ⟨w_ch_2, w_dg_3, w_len_4, hc_5, hm⟩ := mb3_of hm
      refine callJ_vv (wc := ((wdX5 q y w_ch w_dg w_len) ++ (wdX0 q2 y b_k b_n b_h b_d b_r b_u b_y b_p_s_f b_p_s_l b_p_s_c b_p_t b_v_f b_v_l b_v_c b_L b_C b_I))) (wr := []) (As := [.ref (q2 0), .int v2]) (rest := []) C (c_X5_putLayer l D y aK aV q q2 _ F hc_5) (cwV 2 hts gX5_putBoard_X5_putLayer rfl rfl rfl (by decide +kernel) ⟨Nat.le_of_ble_eq_true rfl, Nat.le_of_ble_eq_true rfl⟩) hJ hK hP hD hS hA [0, 1, 2, 3, 4, 5, 6, 7, 8, 9, 10, 11, 12, 13, 14, 15, 16, 17] [] rfl rfl rfl rfl rfl (by decide) (va_recv hK hP (ci := 5) (q0 := 0) rfl rfl) rfl hl.1 (Nat.le_of_ble_eq_true rfl) dX5_putBoard_18 (fun H locs hP hD hS => ?_)
      have hP : va_P D vwCl ((wdX5 q y w_ch_2 w_dg_3 w_len_4) ++ (wdX0 q2 y b_k b_n b_h b_d b_r b_u b_y b_p_s_f b_p_s_l b_p_s_c b_p_t b_v_f b_v_l b_v_c b_L b_C b_I)) H := hP
      have hD : va_D A ((wdX5 q y w_ch_2 w_dg_3 w_len_4) ++ (wdX0 q2 y b_k b_n b_h b_d b_r b_u b_y b_p_s_f b_p_s_l b_p_s_c b_p_t b_v_f b_v_l b_v_c b_L b_C b_I)) := hD
      obtain ⟨v2_6, ev2_6⟩ : ∃ y9 : Int32, y9 = (v2 + (1 : Int32)) := ⟨_, rfl⟩
      have hm := mn_of ev2_6 hm
      refine lv_iinc (v := v2_6) (lv' := [(2, .int v2_6), (0, .ref (q 0)), (1, .ref (q2 0))]) hx hb dX5_putBoard_21 hl (k := 2) rfl (by rw [ev2_6]; rfl) (by decide) rfl (fun ls hl => ?_)
      refine lv_goto (tgt := 7) hx hb dX5_putBoard_24 (by decide) ?_
      exact ih v2_6 w_ch_2 w_dg_3 w_len_4 b_k b_n b_h b_d b_y b_p_s_f b_p_s_l b_p_s_c b_v_f b_v_l b_v_c b_L _ _ _ hm hP hD hS (lv_sub hl [1, 2, 0] rfl)
set_option maxHeartbeats 4000000 in
set_option maxRecDepth 100000 in
theorem c_X5_putBoard (l : Launch) (D : va_G) (y : Nat → ClassId) (aK aV : Nat → Nat) (q : Nat → Nat) (q2 : Nat → Nat) (sz : Nat) (F : Nat) {w_ch : Nat → Int32} {w_dg : Nat → Int32} {w_len : Int32} {b_k : Nat → Int32} {b_n : Nat → Int64} {b_h : Nat → Int32} {b_d : Nat → Int32} {b_r : Nat → Int32} {b_u : Nat → Int32} {b_y : Nat → Int32} {b_p_s_f : Nat → Int32} {b_p_s_l : Nat → Int32} {b_p_s_c : Int32} {b_p_t : Int32} {b_v_f : Nat → Int32} {b_v_l : Nat → Int32} {b_v_c : Int32} {b_L : Int32} {b_C : Int32} {b_I : Int32} {z : (Nat → Int32) × (Nat → Int32) × Int32} (hm : f_X5_putBoard F w_ch w_dg w_len b_k b_n b_h b_d b_y b_p_s_f b_p_s_l b_p_s_c b_v_f b_v_l b_v_c b_L = some z) : Met l yX5_putBoard wsX5_putBoard ({ frames := 6, cells := 0, slots := 0, locals := 131 } : Room) (va_Pc [.ref (q 0), .ref (q2 0)] (cPJ D y aK aV ((wdX5 q y w_ch w_dg w_len) ++ (wdX0 q2 y b_k b_n b_h b_d b_r b_u b_y b_p_s_f b_p_s_l b_p_s_c b_p_t b_v_f b_v_l b_v_c b_L b_C b_I)) sz)) (QV D y (va_A ((wdX5 q y w_ch w_dg w_len) ++ (wdX0 q2 y b_k b_n b_h b_d b_r b_u b_y b_p_s_f b_p_s_l b_p_s_c b_p_t b_v_f b_v_l b_v_c b_L b_C b_I)) sz) ((wdX5 q y (z.1) (z.2.1) (z.2.2)) ++ (wdX0 q2 y b_k b_n b_h b_d b_r b_u b_y b_p_s_f b_p_s_l b_p_s_c b_p_t b_v_f b_v_l b_v_c b_L b_C b_I))) 0 0 (va_A ((wdX5 q y w_ch w_dg w_len) ++ (wdX0 q2 y b_k b_n b_h b_d b_r b_u b_y b_p_s_f b_p_s_l b_p_s_c b_p_t b_v_f b_v_l b_v_c b_L b_C b_I)) sz) := by
  refine met_ofJ (own := RX5) (cc := cX5_putBoard) (maxL := 4) (ret := none) (by decide) rfl rfl (Nat.le_of_ble_eq_true rfl) ?_
  intro p e s m below meth c ls C hsz hK hP hD hA hS hJ hl
  obtain ⟨⟨hx, hb, hml, hown, hts⟩, hr, hlocks⟩ := id C
  have hl : lv_has ls 4 [(0, .ref (q 0)), (1, .ref (q2 0))] := hl
  generalize va_A ((wdX5 q y w_ch w_dg w_len) ++ (wdX0 q2 y b_k b_n b_h b_d b_r b_u b_y b_p_s_f b_p_s_l b_p_s_c b_p_t b_v_f b_v_l b_v_c b_L b_C b_I)) sz = A at hD hA hS hJ ⊢
  generalize ([.ref (q 0), .ref (q2 0)] : List Value).toArray = args at C hts ⊢
  unfold f_X5_putBoard at hm
  refine lv_aload_n hx hb dX5_putBoard_0 rfl (lv_at hl 0 rfl) ?_
  refine lv_iconst (v := (0 : Int32)) hx hb dX5_putBoard_1 (by decide) ?_
  refine va_put (D := D) (ci := 5) (v := .int (0 : Int32)) (ty := .int) (C := RX5) (T := TX5) (N := 3) hx hb hts n_X5_putBoard_X5 tyX5 tyX5_ok nmX5 hown hK hP hD hS 0 rfl rfl 2 (by decide) (hts _ w_X5_putBoard_f18) (fun _ h9 => h9) rfl (by decide +kernel) rfl rfl (Nat.le_of_ble_eq_true rfl) dX5_putBoard_2 (fun H locs hP hD hS => ?_)
  have hP : va_P D vwCl ((wdX5 q y w_ch w_dg (0 : Int32)) ++ (wdX0 q2 y b_k b_n b_h b_d b_r b_u b_y b_p_s_f b_p_s_l b_p_s_c b_p_t b_v_f b_v_l b_v_c b_L b_C b_I)) H := hP
  have hD : va_D A ((wdX5 q y w_ch w_dg (0 : Int32)) ++ (wdX0 q2 y b_k b_n b_h b_d b_r b_u b_y b_p_s_f b_p_s_l b_p_s_c b_p_t b_v_f b_v_l b_v_c b_L b_C b_I)) := hD
  refine lv_iconst (v := (0 : Int32)) hx hb dX5_putBoard_5 (by decide) ?_
  refine lv_istore_n (lv' := [(2, .int (0 : Int32)), (0, .ref (q 0)), (1, .ref (q2 0))]) hx hb dX5_putBoard_6 rfl hl (by decide) rfl (fun ls hl => ?_)
  exact k_X5_putBoard_7 C hA hK hJ F F (0 : Int32) w_ch w_dg (0 : Int32) b_k b_n b_h b_d b_y b_p_s_f b_p_s_l b_p_s_c b_v_f b_v_l b_v_c b_L _ _ _ hm hP hD hS (lv_sub hl [1, 2, 0] rfl)
