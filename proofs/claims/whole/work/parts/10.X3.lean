def g_X3_find_2 (F : Nat) (s_fn : Nat) (s_ln : Nat) : Nat → Int32 → Int32 → Int32 → (Nat → Int32) → (Nat → Int32) → Int32 → Option (Int32)
  | 0, _, _, _, _, _, _ => none
  | n + 1, v1, v2, v3, s_f, s_l, s_c => (if s_c ≤ v3 then some (-1 : Int32) else mg (inb v3 s_fn) ((if (s_f (v3).toNatClampNeg) = v1 then mg (inb v3 s_ln) ((if (s_l (v3).toNatClampNeg) = v2 then some v3 else mn (v3 + (1 : Int32)) (fun v3_7 => g_X3_find_2 F s_fn s_ln n v1 v2 v3_7 s_f s_l s_c))) else mn (v3 + (1 : Int32)) (fun v3_4 => g_X3_find_2 F s_fn s_ln n v1 v2 v3_4 s_f s_l s_c))))
theorem g_X3_find_2_z (F : Nat) (s_fn : Nat) (s_ln : Nat) (v1 : Int32) (v2 : Int32) (v3 : Int32) (s_f : Nat → Int32) (s_l : Nat → Int32) (s_c : Int32) : g_X3_find_2 F s_fn s_ln 0 v1 v2 v3 s_f s_l s_c = none := rfl
theorem g_X3_find_2_s (F : Nat) (s_fn : Nat) (s_ln : Nat) (n : Nat) (v1 : Int32) (v2 : Int32) (v3 : Int32) (s_f : Nat → Int32) (s_l : Nat → Int32) (s_c : Int32) : g_X3_find_2 F s_fn s_ln (n + 1) v1 v2 v3 s_f s_l s_c = (if s_c ≤ v3 then some (-1 : Int32) else mg (inb v3 s_fn) ((if (s_f (v3).toNatClampNeg) = v1 then mg (inb v3 s_ln) ((if (s_l (v3).toNatClampNeg) = v2 then some v3 else mn (v3 + (1 : Int32)) (fun v3_7 => g_X3_find_2 F s_fn s_ln n v1 v2 v3_7 s_f s_l s_c))) else mn (v3 + (1 : Int32)) (fun v3_4 => g_X3_find_2 F s_fn s_ln n v1 v2 v3_4 s_f s_l s_c)))) := rfl
def f_X3_find (F : Nat) (s_fn : Nat) (s_ln : Nat) (v1 : Int32) (v2 : Int32) (s_f : Nat → Int32) (s_l : Nat → Int32) (s_c : Int32) : Option (Int32) := g_X3_find_2 F s_fn s_ln F v1 v2 (0 : Int32) s_f s_l s_c
set_option maxRecDepth 20000 in
theorem n_X3_find_X3 : ∀ w ∈ wsX30, w ∈ wsX3_find := by decide +kernel
set_option maxRecDepth 20000 in
theorem w_X3_find_f24 : Cond.fieldLink RX3 24 "LayerStacks$Spans" "count" "I" ∈ wsX3_find := by decide +kernel
set_option maxRecDepth 20000 in
theorem w_X3_find_f15 : Cond.fieldLink RX3 15 "LayerStacks$Spans" "firsts" "[I" ∈ wsX3_find := by decide +kernel
set_option maxRecDepth 20000 in
theorem w_X3_find_f21 : Cond.fieldLink RX3 21 "LayerStacks$Spans" "lasts" "[I" ∈ wsX3_find := by decide +kernel
set_option maxHeartbeats 4000000 in
set_option maxRecDepth 100000 in
theorem k_X3_find_2 {p : Program} {l : Launch} {e : Env} {s : State} {m : MethodId} {args : Array Value} {below : List Frame} {meth : Method} {c : Code} {D : va_G} {y : Nat → ClassId} {A : Nat → Prop} {q : Nat → Nat} {s_fn : Nat} {s_ln : Nat} {z : Int32} (C : CX p s m args meth c wsX3_find RX3 cX3_find 4 (some .int)) (hA : ∀ q : Nat, s.heap.size ≤ q → A q) (hK : va_K D vwCl (tyl y) s) (F : Nat) :
    ∀ (n : Nat), ∀ (v1 : Int32) (v2 : Int32) (v3 : Int32) (s_f : Nat → Int32) (s_l : Nat → Int32) (s_c : Int32) (H : Heap) (locs : List Loc) (ls : Array Slot), g_X3_find_2 F s_fn s_ln n v1 v2 v3 s_f s_l s_c = some z → va_P D vwCl (wdX3 q y s_fn s_ln s_f s_l s_c) H → va_D A (wdX3 q y s_fn s_ln s_f s_l s_c) → va_S A s.heap H locs → lv_has ls 4 [(0, .ref (q 0)), (1, .int v1), (2, .int v2), (3, .int v3)] → W p l e ({ frames := 0, cells := 0, slots := 0, locals := 0 } : Room) s m args below meth c H locs 0 0 (MQ below (QI D y A (z) (wdX3 q y s_fn s_ln s_f s_l s_c)) args s 0 0 A) (F0 m 2 ls []) := by
  obtain ⟨⟨hx, hb, hml, hown, hts⟩, hr, hlocks⟩ := id C
  intro n
  induction n with
  | zero =>
    intro v1 v2 v3 s_f s_l s_c H locs ls hm
    rw [g_X3_find_2_z] at hm
    cases hm
  | succ n ih =>
    intro v1 v2 v3 s_f s_l s_c H locs ls hm hP hD hS hl
    rw [g_X3_find_2_s] at hm
    refine lv_iload_n hx hb dX3_find_2 rfl (lv_at hl 3 rfl) ?_
    refine lv_aload_n hx hb dX3_find_3 rfl (lv_at hl 0 rfl) ?_
    refine va_get (D := D) (ci := 3) (v := .int s_c) (C := RX3) (T := TX3) (N := 3) hx hb hts n_X3_find_X3 hown hK hP 0 rfl rfl 2 (by decide) (hts _ w_X3_find_f24) (fun _ h9 => h9) rfl dX3_find_4 ?_
    refine lv_icmp_ge (tgt := 38) hx hb dX3_find_7 (by decide) (fun h_1 => ?_) (fun h_1 => ?_)
    · have hm := it_of hm h_1
      refine lv_iconst (v := (-1 : Int32)) hx hb dX3_find_38 (by decide) ?_
      have hz := Option.some.inj hm
      subst hz
      exact end_i C hK hP hD hS dX3_find_39
    · have hm := ie_of hm h_1
      refine lv_aload_n hx hb dX3_find_10 rfl (lv_at hl 0 rfl) ?_
      refine va_get (D := D) (ci := 3) (v := .ref (q 1)) (C := RX3) (T := TX3) (N := 3) hx hb hts n_X3_find_X3 hown hK hP 0 rfl rfl 0 (by decide) (hts _ w_X3_find_f15) (fun _ h9 => h9) rfl dX3_find_11 ?_
      refine lv_iload_n hx hb dX3_find_14 rfl (lv_at hl 3 rfl) ?_
      obtain ⟨hg_2, hm⟩ := mg_of hm
      refine va_iald hx hb hK hP 1 0 rfl rfl hg_2 dX3_find_15 ?_
      refine lv_iload_n hx hb dX3_find_16 rfl (lv_at hl 1 rfl) ?_
      refine lv_icmp_ne (tgt := 32) hx hb dX3_find_17 (by decide) (fun h_3 => ?_) (fun h_3 => ?_)
      · have hm := ie_of hm h_3
        obtain ⟨v3_4, ev3_4⟩ : ∃ y9 : Int32, y9 = (v3 + (1 : Int32)) := ⟨_, rfl⟩
        have hm := mn_of ev3_4 hm
        refine lv_iinc (v := v3_4) (lv' := [(3, .int v3_4), (0, .ref (q 0)), (1, .int v1), (2, .int v2)]) hx hb dX3_find_32 hl (k := 3) rfl (by rw [ev3_4]; rfl) (by decide) rfl (fun ls hl => ?_)
        refine lv_goto (tgt := 2) hx hb dX3_find_35 (by decide) ?_
        exact ih v1 v2 v3_4 s_f s_l s_c _ _ _ hm hP hD hS (lv_sub hl [1, 2, 3, 0] rfl)
      · have hm := it_of hm h_3
        refine lv_aload_n hx hb dX3_find_20 rfl (lv_at hl 0 rfl) ?_
        refine va_get (D := D) (ci := 3) (v := .ref (q 2)) (C := RX3) (T := TX3) (N := 3) hx hb hts n_X3_find_X3 hown hK hP 0 rfl rfl 1 (by decide) (hts _ w_X3_find_f21) (fun _ h9 => h9) rfl dX3_find_21 ?_
        refine lv_iload_n hx hb dX3_find_24 rfl (lv_at hl 3 rfl) ?_
        obtain ⟨hg_5, hm⟩ := mg_of hm
        refine va_iald hx hb hK hP 2 0 rfl rfl hg_5 dX3_find_25 ?_
        refine lv_iload_n hx hb dX3_find_26 rfl (lv_at hl 2 rfl) ?_
        refine lv_icmp_ne (tgt := 32) hx hb dX3_find_27 (by decide) (fun h_6 => ?_) (fun h_6 => ?_)
        · have hm := ie_of hm h_6
          obtain ⟨v3_7, ev3_7⟩ : ∃ y9 : Int32, y9 = (v3 + (1 : Int32)) := ⟨_, rfl⟩
          have hm := mn_of ev3_7 hm
          refine lv_iinc (v := v3_7) (lv' := [(3, .int v3_7), (0, .ref (q 0)), (1, .int v1), (2, .int v2)]) hx hb dX3_find_32 hl (k := 3) rfl (by rw [ev3_7]; rfl) (by decide) rfl (fun ls hl => ?_)
          refine lv_goto (tgt := 2) hx hb dX3_find_35 (by decide) ?_
          exact ih v1 v2 v3_7 s_f s_l s_c _ _ _ hm hP hD hS (lv_sub hl [1, 2, 3, 0] rfl)
        · have hm := it_of hm h_6
          refine lv_iload_n hx hb dX3_find_30 rfl (lv_at hl 3 rfl) ?_
          have hz := Option.some.inj hm
          subst hz
          exact end_i C hK hP hD hS dX3_find_31
set_option maxHeartbeats 4000000 in
set_option maxRecDepth 100000 in
theorem c_X3_find (l : Launch) (D : va_G) (y : Nat → ClassId) (q : Nat → Nat) (sz : Nat) (F : Nat) {s_fn : Nat} {s_ln : Nat} {v1 : Int32} {v2 : Int32} {s_f : Nat → Int32} {s_l : Nat → Int32} {s_c : Int32} {z : Int32} (hm : f_X3_find F s_fn s_ln v1 v2 s_f s_l s_c = some z) : Met l yX3_find wsX3_find ({ frames := 0, cells := 0, slots := 0, locals := 0 } : Room) (va_Pc [.ref (q 0), .int v1, .int v2] (cP D y (wdX3 q y s_fn s_ln s_f s_l s_c) sz)) (QI D y (va_A (wdX3 q y s_fn s_ln s_f s_l s_c) sz) (z) (wdX3 q y s_fn s_ln s_f s_l s_c)) 0 0 (va_A (wdX3 q y s_fn s_ln s_f s_l s_c) sz) := by
  refine met_of (own := RX3) (cc := cX3_find) (maxL := 4) (ret := (some .int)) (by decide) rfl rfl (Nat.le_of_ble_eq_true rfl) ?_
  intro p e s m below meth c ls C hsz hK hP hD hA hS hl
  obtain ⟨⟨hx, hb, hml, hown, hts⟩, hr, hlocks⟩ := id C
  have hl : lv_has ls 4 [(0, .ref (q 0)), (1, .int v1), (2, .int v2)] := hl
  generalize va_A (wdX3 q y s_fn s_ln s_f s_l s_c) sz = A at hD hA hS ⊢
  generalize ([.ref (q 0), .int v1, .int v2] : List Value).toArray = args at C hts ⊢
  unfold f_X3_find at hm
  refine lv_iconst (v := (0 : Int32)) hx hb dX3_find_0 (by decide) ?_
  refine lv_istore_n (lv' := [(3, .int (0 : Int32)), (0, .ref (q 0)), (1, .int v1), (2, .int v2)]) hx hb dX3_find_1 rfl hl (by decide) rfl (fun ls hl => ?_)
  exact k_X3_find_2 C hA hK F F v1 v2 (0 : Int32) s_f s_l s_c _ _ _ hm hP hD hS (lv_sub hl [1, 2, 3, 0] rfl)
def f_X3_liesIn (F : Nat) (s_fn : Nat) (s_ln : Nat) (v1 : Int32) (v2 : Int32) (s_f : Nat → Int32) (s_l : Nat → Int32) : Option (Int32) := mg (inb v2 s_fn) (mg (inb v1 s_fn) ((if (s_f (v1).toNatClampNeg) < (s_f (v2).toNatClampNeg) then some (0 : Int32) else mg (inb v1 s_ln) (mg (inb v2 s_ln) ((if (s_l (v2).toNatClampNeg) < (s_l (v1).toNatClampNeg) then some (0 : Int32) else some (1 : Int32)))))))
set_option maxRecDepth 20000 in
theorem n_X3_liesIn_X3 : ∀ w ∈ wsX30, w ∈ wsX3_liesIn := by decide +kernel
set_option maxRecDepth 20000 in
theorem w_X3_liesIn_f15 : Cond.fieldLink RX3 15 "LayerStacks$Spans" "firsts" "[I" ∈ wsX3_liesIn := by decide +kernel
set_option maxRecDepth 20000 in
theorem w_X3_liesIn_f21 : Cond.fieldLink RX3 21 "LayerStacks$Spans" "lasts" "[I" ∈ wsX3_liesIn := by decide +kernel
set_option maxHeartbeats 4000000 in
set_option maxRecDepth 100000 in
theorem c_X3_liesIn (l : Launch) (D : va_G) (y : Nat → ClassId) (q : Nat → Nat) (sz : Nat) (F : Nat) {s_fn : Nat} {s_ln : Nat} {v1 : Int32} {v2 : Int32} {s_f : Nat → Int32} {s_l : Nat → Int32} {s_c : Int32} {z : Int32} (hm : f_X3_liesIn F s_fn s_ln v1 v2 s_f s_l = some z) : Met l yX3_liesIn wsX3_liesIn ({ frames := 0, cells := 0, slots := 0, locals := 0 } : Room) (va_Pc [.ref (q 0), .int v1, .int v2] (cP D y (wdX3 q y s_fn s_ln s_f s_l s_c) sz)) (QI D y (va_A (wdX3 q y s_fn s_ln s_f s_l s_c) sz) (z) (wdX3 q y s_fn s_ln s_f s_l s_c)) 0 0 (va_A (wdX3 q y s_fn s_ln s_f s_l s_c) sz) := by
  refine met_of (own := RX3) (cc := cX3_liesIn) (maxL := 3) (ret := (some .boolean)) (by decide) rfl rfl (Nat.le_of_ble_eq_true rfl) ?_
  intro p e s m below meth c ls C hsz hK hP hD hA hS hl
  obtain ⟨⟨hx, hb, hml, hown, hts⟩, hr, hlocks⟩ := id C
  have hl : lv_has ls 3 [(0, .ref (q 0)), (1, .int v1), (2, .int v2)] := hl
  generalize va_A (wdX3 q y s_fn s_ln s_f s_l s_c) sz = A at hD hA hS ⊢
  generalize ([.ref (q 0), .int v1, .int v2] : List Value).toArray = args at C hts ⊢
  unfold f_X3_liesIn at hm
  refine lv_aload_n hx hb dX3_liesIn_0 rfl (lv_at hl 0 rfl) ?_
  refine va_get (D := D) (ci := 3) (v := .ref (q 1)) (C := RX3) (T := TX3) (N := 3) hx hb hts n_X3_liesIn_X3 hown hK hP 0 rfl rfl 0 (by decide) (hts _ w_X3_liesIn_f15) (fun _ h9 => h9) rfl dX3_liesIn_1 ?_
  refine lv_iload_n hx hb dX3_liesIn_4 rfl (lv_at hl 2 rfl) ?_
  obtain ⟨hg_1, hm⟩ := mg_of hm
  refine va_iald hx hb hK hP 1 0 rfl rfl hg_1 dX3_liesIn_5 ?_
  refine lv_aload_n hx hb dX3_liesIn_6 rfl (lv_at hl 0 rfl) ?_
  refine va_get (D := D) (ci := 3) (v := .ref (q 1)) (C := RX3) (T := TX3) (N := 3) hx hb hts n_X3_liesIn_X3 hown hK hP 0 rfl rfl 0 (by decide) (hts _ w_X3_liesIn_f15) (fun _ h9 => h9) rfl dX3_liesIn_7 ?_
  refine lv_iload_n hx hb dX3_liesIn_10 rfl (lv_at hl 1 rfl) ?_
  obtain ⟨hg_2, hm⟩ := mg_of hm
  refine va_iald hx hb hK hP 1 0 rfl rfl hg_2 dX3_liesIn_11 ?_
  refine lv_icmp_gt (tgt := 34) hx hb dX3_liesIn_12 (by decide) (fun h_3 => ?_) (fun h_3 => ?_)
  · have hm := it_of hm h_3
    refine lv_iconst (v := (0 : Int32)) hx hb dX3_liesIn_34 (by decide) ?_
    have hz := Option.some.inj hm
    subst hz
    exact end_z C hK hP hD hS (show vp_nar .boolean (0 : Int32) = (0 : Int32) from by decide) dX3_liesIn_35
  · have hm := ie_of hm h_3
    refine lv_aload_n hx hb dX3_liesIn_15 rfl (lv_at hl 0 rfl) ?_
    refine va_get (D := D) (ci := 3) (v := .ref (q 2)) (C := RX3) (T := TX3) (N := 3) hx hb hts n_X3_liesIn_X3 hown hK hP 0 rfl rfl 1 (by decide) (hts _ w_X3_liesIn_f21) (fun _ h9 => h9) rfl dX3_liesIn_16 ?_
    refine lv_iload_n hx hb dX3_liesIn_19 rfl (lv_at hl 1 rfl) ?_
    obtain ⟨hg_4, hm⟩ := mg_of hm
    refine va_iald hx hb hK hP 2 0 rfl rfl hg_4 dX3_liesIn_20 ?_
    refine lv_aload_n hx hb dX3_liesIn_21 rfl (lv_at hl 0 rfl) ?_
    refine va_get (D := D) (ci := 3) (v := .ref (q 2)) (C := RX3) (T := TX3) (N := 3) hx hb hts n_X3_liesIn_X3 hown hK hP 0 rfl rfl 1 (by decide) (hts _ w_X3_liesIn_f21) (fun _ h9 => h9) rfl dX3_liesIn_22 ?_
    refine lv_iload_n hx hb dX3_liesIn_25 rfl (lv_at hl 2 rfl) ?_
    obtain ⟨hg_5, hm⟩ := mg_of hm
    refine va_iald hx hb hK hP 2 0 rfl rfl hg_5 dX3_liesIn_26 ?_
    refine lv_icmp_gt (tgt := 34) hx hb dX3_liesIn_27 (by decide) (fun h_6 => ?_) (fun h_6 => ?_)
    · have hm := it_of hm h_6
      refine lv_iconst (v := (0 : Int32)) hx hb dX3_liesIn_34 (by decide) ?_
      have hz := Option.some.inj hm
      subst hz
      exact end_z C hK hP hD hS (show vp_nar .boolean (0 : Int32) = (0 : Int32) from by decide) dX3_liesIn_35
    · have hm := ie_of hm h_6
      refine lv_iconst (v := (1 : Int32)) hx hb dX3_liesIn_30 (by decide) ?_
      refine lv_goto (tgt := 35) hx hb dX3_liesIn_31 (by decide) ?_
      have hz := Option.some.inj hm
      subst hz
      exact end_z C hK hP hD hS (show vp_nar .boolean (1 : Int32) = (1 : Int32) from by decide) dX3_liesIn_35
def g_X3_insert_32 (F : Nat) (s_fn : Nat) (s_ln : Nat) : Nat → Int32 → Int32 → Int32 → Int32 → (Nat → Int32) → (Nat → Int32) → Int32 → Option (Int32 × (Nat → Int32) × (Nat → Int32) × Int32)
  | 0, _, _, _, _, _, _, _ => none
  | n + 1, v1, v2, v3, v4, s_f, s_l, s_c => (if v4 ≤ v1 then mg (inb v1 s_fn) (mg (inb v1 s_ln) (some ((1 : Int32), (upd s_f (v1).toNatClampNeg v2), (upd s_l (v1).toNatClampNeg v3), (s_c + (1 : Int32))))) else mg (inb (v4 - (1 : Int32)) s_fn) (mg (inb v4 s_fn) (mg (inb (v4 - (1 : Int32)) s_ln) (mg (inb v4 s_ln) (mn (v4 + (-1 : Int32)) (fun v4_8 => g_X3_insert_32 F s_fn s_ln n v1 v2 v3 v4_8 (upd s_f (v4).toNatClampNeg (s_f ((v4 - (1 : Int32))).toNatClampNeg)) (upd s_l (v4).toNatClampNeg (s_l ((v4 - (1 : Int32))).toNatClampNeg)) s_c))))))
theorem g_X3_insert_32_z (F : Nat) (s_fn : Nat) (s_ln : Nat) (v1 : Int32) (v2 : Int32) (v3 : Int32) (v4 : Int32) (s_f : Nat → Int32) (s_l : Nat → Int32) (s_c : Int32) : g_X3_insert_32 F s_fn s_ln 0 v1 v2 v3 v4 s_f s_l s_c = none := rfl
theorem g_X3_insert_32_s (F : Nat) (s_fn : Nat) (s_ln : Nat) (n : Nat) (v1 : Int32) (v2 : Int32) (v3 : Int32) (v4 : Int32) (s_f : Nat → Int32) (s_l : Nat → Int32) (s_c : Int32) : g_X3_insert_32 F s_fn s_ln (n + 1) v1 v2 v3 v4 s_f s_l s_c = (if v4 ≤ v1 then mg (inb v1 s_fn) (mg (inb v1 s_ln) (some ((1 : Int32), (upd s_f (v1).toNatClampNeg v2), (upd s_l (v1).toNatClampNeg v3), (s_c + (1 : Int32))))) else mg (inb (v4 - (1 : Int32)) s_fn) (mg (inb v4 s_fn) (mg (inb (v4 - (1 : Int32)) s_ln) (mg (inb v4 s_ln) (mn (v4 + (-1 : Int32)) (fun v4_8 => g_X3_insert_32 F s_fn s_ln n v1 v2 v3 v4_8 (upd s_f (v4).toNatClampNeg (s_f ((v4 - (1 : Int32))).toNatClampNeg)) (upd s_l (v4).toNatClampNeg (s_l ((v4 - (1 : Int32))).toNatClampNeg)) s_c)))))) := rfl
def f_X3_insert (F : Nat) (s_fn : Nat) (s_ln : Nat) (v1 : Int32) (v2 : Int32) (v3 : Int32) (s_f : Nat → Int32) (s_l : Nat → Int32) (s_c : Int32) : Option (Int32 × (Nat → Int32) × (Nat → Int32) × Int32) := (if (Int32.ofNat s_fn) ≤ s_c then some ((0 : Int32), s_f, s_l, s_c) else (if v1 < 0 then some ((0 : Int32), s_f, s_l, s_c) else (if v1 ≤ s_c then g_X3_insert_32 F s_fn s_ln F v1 v2 v3 s_c s_f s_l s_c else some ((0 : Int32), s_f, s_l, s_c))))
set_option maxRecDepth 20000 in
theorem n_X3_insert_X3 : ∀ w ∈ wsX30, w ∈ wsX3_insert := by decide +kernel
set_option maxRecDepth 20000 in
theorem w_X3_insert_f15 : Cond.fieldLink RX3 15 "LayerStacks$Spans" "firsts" "[I" ∈ wsX3_insert := by decide +kernel
set_option maxRecDepth 20000 in
theorem w_X3_insert_f21 : Cond.fieldLink RX3 21 "LayerStacks$Spans" "lasts" "[I" ∈ wsX3_insert := by decide +kernel
set_option maxRecDepth 20000 in
theorem w_X3_insert_f24 : Cond.fieldLink RX3 24 "LayerStacks$Spans" "count" "I" ∈ wsX3_insert := by decide +kernel
set_option maxHeartbeats 4000000 in
set_option maxRecDepth 100000 in
theorem k_X3_insert_32 {p : Program} {l : Launch} {e : Env} {s : State} {m : MethodId} {args : Array Value} {below : List Frame} {meth : Method} {c : Code} {D : va_G} {y : Nat → ClassId} {A : Nat → Prop} {q : Nat → Nat} {s_fn : Nat} {s_ln : Nat} {z : Int32 × (Nat → Int32) × (Nat → Int32) × Int32} (C : CX p s m args meth c wsX3_insert RX3 cX3_insert 5 (some .boolean)) (hA : ∀ q : Nat, s.heap.size ≤ q → A q) (hK : va_K D vwCl (tyl y) s) (F : Nat) :
    ∀ (n : Nat), ∀ (v1 : Int32) (v2 : Int32) (v3 : Int32) (v4 : Int32) (s_f : Nat → Int32) (s_l : Nat → Int32) (s_c : Int32) (H : Heap) (locs : List Loc) (ls : Array Slot), g_X3_insert_32 F s_fn s_ln n v1 v2 v3 v4 s_f s_l s_c = some z → va_P D vwCl (wdX3 q y s_fn s_ln s_f s_l s_c) H → va_D A (wdX3 q y s_fn s_ln s_f s_l s_c) → va_S A s.heap H locs → lv_has ls 5 [(0, .ref (q 0)), (1, .int v1), (2, .int v2), (3, .int v3), (4, .int v4)] → W p l e ({ frames := 0, cells := 0, slots := 0, locals := 0 } : Room) s m args below meth c H locs 0 0 (MQ below (QI D y A (z.1) (wdX3 q y s_fn s_ln (z.2.1) (z.2.2.1) (z.2.2.2))) args s 0 0 A) (F0 m 32 ls []) := by
  obtain ⟨⟨hx, hb, hml, hown, hts⟩, hr, hlocks⟩ := id C
  intro n
  induction n with
  | zero =>
    intro v1 v2 v3 v4 s_f s_l s_c H locs ls hm
    rw [g_X3_insert_32_z] at hm
    cases hm
  | succ n ih =>
    intro v1 v2 v3 v4 s_f s_l s_c H locs ls hm hP hD hS hl
    rw [g_X3_insert_32_s] at hm
    refine lv_iload hx hb dX3_insert_32 (lv_at hl 4 rfl) ?_
    refine lv_iload_n hx hb dX3_insert_34 rfl (lv_at hl 1 rfl) ?_
    refine lv_icmp_le (tgt := 76) hx hb dX3_insert_35 (by decide) (fun h_1 => ?_) (fun h_1 => ?_)
    · have hm := it_of hm h_1
      refine lv_aload_n hx hb dX3_insert_76 rfl (lv_at hl 0 rfl) ?_
      refine va_get (D := D) (ci := 3) (v := .ref (q 1)) (C := RX3) (T := TX3) (N := 3) hx hb hts n_X3_insert_X3 hown hK hP 0 rfl rfl 0 (by decide) (hts _ w_X3_insert_f15) (fun _ h9 => h9) rfl dX3_insert_77 ?_
      refine lv_iload_n hx hb dX3_insert_80 rfl (lv_at hl 1 rfl) ?_
      refine lv_iload_n hx hb dX3_insert_81 rfl (lv_at hl 2 rfl) ?_
      obtain ⟨hg_2, hm⟩ := mg_of hm
      refine va_iast hx hb hK hP hD hS 1 0 rfl rfl hg_2 dX3_insert_82 (fun H locs hP hD hS => ?_)
      have hP : va_P D vwCl (wdX3 q y s_fn s_ln (upd s_f (v1).toNatClampNeg v2) s_l s_c) H := hP
      have hD : va_D A (wdX3 q y s_fn s_ln (upd s_f (v1).toNatClampNeg v2) s_l s_c) := hD
      refine lv_aload_n hx hb dX3_insert_83 rfl (lv_at hl 0 rfl) ?_
      refine va_get (D := D) (ci := 3) (v := .ref (q 2)) (C := RX3) (T := TX3) (N := 3) hx hb hts n_X3_insert_X3 hown hK hP 0 rfl rfl 1 (by decide) (hts _ w_X3_insert_f21) (fun _ h9 => h9) rfl dX3_insert_84 ?_
      refine lv_iload_n hx hb dX3_insert_87 rfl (lv_at hl 1 rfl) ?_
      refine lv_iload_n hx hb dX3_insert_88 rfl (lv_at hl 3 rfl) ?_
      obtain ⟨hg_3, hm⟩ := mg_of hm
      refine va_iast hx hb hK hP hD hS 2 0 rfl rfl hg_3 dX3_insert_89 (fun H locs hP hD hS => ?_)
      have hP : va_P D vwCl (wdX3 q y s_fn s_ln (upd s_f (v1).toNatClampNeg v2) (upd s_l (v1).toNatClampNeg v3) s_c) H := hP
      have hD : va_D A (wdX3 q y s_fn s_ln (upd s_f (v1).toNatClampNeg v2) (upd s_l (v1).toNatClampNeg v3) s_c) := hD
      refine lv_aload_n hx hb dX3_insert_90 rfl (lv_at hl 0 rfl) ?_
      refine lv_dup hx hb dX3_insert_91 rfl ?_
      refine va_get (D := D) (ci := 3) (v := .int s_c) (C := RX3) (T := TX3) (N := 3) hx hb hts n_X3_insert_X3 hown hK hP 0 rfl rfl 2 (by decide) (hts _ w_X3_insert_f24) (fun _ h9 => h9) rfl dX3_insert_92 ?_
      refine lv_iconst (v := (1 : Int32)) hx hb dX3_insert_95 (by decide) ?_
      refine lv_iadd hx hb dX3_insert_96 ?_
      refine va_put (D := D) (ci := 3) (v := .int (s_c + (1 : Int32))) (ty := .int) (C := RX3) (T := TX3) (N := 3) hx hb hts n_X3_insert_X3 tyX3 tyX3_ok nmX3 hown hK hP hD hS 0 rfl rfl 2 (by decide) (hts _ w_X3_insert_f24) (fun _ h9 => h9) rfl (by decide +kernel) rfl rfl (Nat.le_of_ble_eq_true rfl) dX3_insert_97 (fun H locs hP hD hS => ?_)
      have hP : va_P D vwCl (wdX3 q y s_fn s_ln (upd s_f (v1).toNatClampNeg v2) (upd s_l (v1).toNatClampNeg v3) (s_c + (1 : Int32))) H := hP
      have hD : va_D A (wdX3 q y s_fn s_ln (upd s_f (v1).toNatClampNeg v2) (upd s_l (v1).toNatClampNeg v3) (s_c + (1 : Int32))) := hD
      refine lv_iconst (v := (1 : Int32)) hx hb dX3_insert_100 (by decide) ?_
      have hz := Option.some.inj hm
      subst hz
      exact end_z C hK hP hD hS (show vp_nar .boolean (1 : Int32) = (1 : Int32) from by decide) dX3_insert_101
    · have hm := ie_of hm h_1
      refine lv_aload_n hx hb dX3_insert_38 rfl (lv_at hl 0 rfl) ?_
      refine va_get (D := D) (ci := 3) (v := .ref (q 1)) (C := RX3) (T := TX3) (N := 3) hx hb hts n_X3_insert_X3 hown hK hP 0 rfl rfl 0 (by decide) (hts _ w_X3_insert_f15) (fun _ h9 => h9) rfl dX3_insert_39 ?_
      refine lv_iload hx hb dX3_insert_42 (lv_at hl 4 rfl) ?_
      refine lv_aload_n hx hb dX3_insert_44 rfl (lv_at hl 0 rfl) ?_
      refine va_get (D := D) (ci := 3) (v := .ref (q 1)) (C := RX3) (T := TX3) (N := 3) hx hb hts n_X3_insert_X3 hown hK hP 0 rfl rfl 0 (by decide) (hts _ w_X3_insert_f15) (fun _ h9 => h9) rfl dX3_insert_45 ?_
      refine lv_iload hx hb dX3_insert_48 (lv_at hl 4 rfl) ?_
      refine lv_iconst (v := (1 : Int32)) hx hb dX3_insert_50 (by decide) ?_
      refine lv_isub hx hb dX3_insert_51 ?_
      obtain ⟨hg_4, hm⟩ := mg_of hm
      refine va_iald hx hb hK hP 1 0 rfl rfl hg_4 dX3_insert_52 ?_
      obtain ⟨hg_5, hm⟩ := mg_of hm
      refine va_iast hx hb hK hP hD hS 1 0 rfl rfl hg_5 dX3_insert_53 (fun H locs hP hD hS => ?_)
      have hP : va_P D vwCl (wdX3 q y s_fn s_ln (upd s_f (v4).toNatClampNeg (s_f ((v4 - (1 : Int32))).toNatClampNeg)) s_l s_c) H := hP
      have hD : va_D A (wdX3 q y s_fn s_ln (upd s_f (v4).toNatClampNeg (s_f ((v4 - (1 : Int32))).toNatClampNeg)) s_l s_c) := hD
      refine lv_aload_n hx hb dX3_insert_54 rfl (lv_at hl 0 rfl) ?_
      refine va_get (D := D) (ci := 3) (v := .ref (q 2)) (C := RX3) (T := TX3) (N := 3) hx hb hts n_X3_insert_X3 hown hK hP 0 rfl rfl 1 (by decide) (hts _ w_X3_insert_f21) (fun _ h9 => h9) rfl dX3_insert_55 ?_
      refine lv_iload hx hb dX3_insert_58 (lv_at hl 4 rfl) ?_
      refine lv_aload_n hx hb dX3_insert_60 rfl (lv_at hl 0 rfl) ?_
      refine va_get (D := D) (ci := 3) (v := .ref (q 2)) (C := RX3) (T := TX3) (N := 3) hx hb hts n_X3_insert_X3 hown hK hP 0 rfl rfl 1 (by decide) (hts _ w_X3_insert_f21) (fun _ h9 => h9) rfl dX3_insert_61 ?_
      refine lv_iload hx hb dX3_insert_64 (lv_at hl 4 rfl) ?_
      refine lv_iconst (v := (1 : Int32)) hx hb dX3_insert_66 (by decide) ?_
      refine lv_isub hx hb dX3_insert_67 ?_
      obtain ⟨hg_6, hm⟩ := mg_of hm
      refine va_iald hx hb hK hP 2 0 rfl rfl hg_6 dX3_insert_68 ?_
      obtain ⟨hg_7, hm⟩ := mg_of hm
      refine va_iast hx hb hK hP hD hS 2 0 rfl rfl hg_7 dX3_insert_69 (fun H locs hP hD hS => ?_)
      have hP : va_P D vwCl (wdX3 q y s_fn s_ln (upd s_f (v4).toNatClampNeg (s_f ((v4 - (1 : Int32))).toNatClampNeg)) (upd s_l (v4).toNatClampNeg (s_l ((v4 - (1 : Int32))).toNatClampNeg)) s_c) H := hP
      have hD : va_D A (wdX3 q y s_fn s_ln (upd s_f (v4).toNatClampNeg (s_f ((v4 - (1 : Int32))).toNatClampNeg)) (upd s_l (v4).toNatClampNeg (s_l ((v4 - (1 : Int32))).toNatClampNeg)) s_c) := hD
      obtain ⟨v4_8, ev4_8⟩ : ∃ y9 : Int32, y9 = (v4 + (-1 : Int32)) := ⟨_, rfl⟩
      have hm := mn_of ev4_8 hm
      refine lv_iinc (v := v4_8) (lv' := [(4, .int v4_8), (0, .ref (q 0)), (1, .int v1), (2, .int v2), (3, .int v3)]) hx hb dX3_insert_70 hl (k := 4) rfl (by rw [ev4_8]; rfl) (by decide) rfl (fun ls hl => ?_)
      refine lv_goto (tgt := 32) hx hb dX3_insert_73 (by decide) ?_
      exact ih v1 v2 v3 v4_8 (upd s_f (v4).toNatClampNeg (s_f ((v4 - (1 : Int32))).toNatClampNeg)) (upd s_l (v4).toNatClampNeg (s_l ((v4 - (1 : Int32))).toNatClampNeg)) s_c _ _ _ hm hP hD hS (lv_sub hl [1, 2, 3, 4, 0] rfl)
set_option maxHeartbeats 4000000 in
set_option maxRecDepth 100000 in
theorem c_X3_insert (l : Launch) (D : va_G) (y : Nat → ClassId) (q : Nat → Nat) (sz : Nat) (F : Nat) {s_fn : Nat} {s_ln : Nat} {v1 : Int32} {v2 : Int32} {v3 : Int32} {s_f : Nat → Int32} {s_l : Nat → Int32} {s_c : Int32} {z : Int32 × (Nat → Int32) × (Nat → Int32) × Int32} (hm : f_X3_insert F s_fn s_ln v1 v2 v3 s_f s_l s_c = some z) : Met l yX3_insert wsX3_insert ({ frames := 0, cells := 0, slots := 0, locals := 0 } : Room) (va_Pc [.ref (q 0), .int v1, .int v2, .int v3] (cP D y (wdX3 q y s_fn s_ln s_f s_l s_c) sz)) (QI D y (va_A (wdX3 q y s_fn s_ln s_f s_l s_c) sz) (z.1) (wdX3 q y s_fn s_ln (z.2.1) (z.2.2.1) (z.2.2.2))) 0 0 (va_A (wdX3 q y s_fn s_ln s_f s_l s_c) sz) := by
  refine met_of (own := RX3) (cc := cX3_insert) (maxL := 5) (ret := (some .boolean)) (by decide) rfl rfl (Nat.le_of_ble_eq_true rfl) ?_
  intro p e s m below meth c ls C hsz hK hP hD hA hS hl
  obtain ⟨⟨hx, hb, hml, hown, hts⟩, hr, hlocks⟩ := id C
  have hl : lv_has ls 5 [(0, .ref (q 0)), (1, .int v1), (2, .int v2), (3, .int v3)] := hl
  generalize va_A (wdX3 q y s_fn s_ln s_f s_l s_c) sz = A at hD hA hS ⊢
  generalize ([.ref (q 0), .int v1, .int v2, .int v3] : List Value).toArray = args at C hts ⊢
  unfold f_X3_insert at hm
  refine lv_aload_n hx hb dX3_insert_0 rfl (lv_at hl 0 rfl) ?_
  refine va_get (D := D) (ci := 3) (v := .int s_c) (C := RX3) (T := TX3) (N := 3) hx hb hts n_X3_insert_X3 hown hK hP 0 rfl rfl 2 (by decide) (hts _ w_X3_insert_f24) (fun _ h9 => h9) rfl dX3_insert_1 ?_
  refine lv_aload_n hx hb dX3_insert_4 rfl (lv_at hl 0 rfl) ?_
  refine va_get (D := D) (ci := 3) (v := .ref (q 1)) (C := RX3) (T := TX3) (N := 3) hx hb hts n_X3_insert_X3 hown hK hP 0 rfl rfl 0 (by decide) (hts _ w_X3_insert_f15) (fun _ h9 => h9) rfl dX3_insert_5 ?_
  refine va_alen (v := (Int32.ofNat s_fn)) hx hb hK hP 1 0 rfl rfl rfl dX3_insert_8 ?_
  refine lv_icmp_ge (tgt := 24) hx hb dX3_insert_9 (by decide) (fun h_1 => ?_) (fun h_1 => ?_)
  · have hm := it_of hm h_1
    refine lv_iconst (v := (0 : Int32)) hx hb dX3_insert_24 (by decide) ?_
    have hz := Option.some.inj hm
    subst hz
    exact end_z C hK hP hD hS (show vp_nar .boolean (0 : Int32) = (0 : Int32) from by decide) dX3_insert_25
  · have hm := ie_of hm h_1
    refine lv_iload_n hx hb dX3_insert_12 rfl (lv_at hl 1 rfl) ?_
    refine lv_if_lt (tgt := 24) hx hb dX3_insert_13 (by decide) (fun h_2 => ?_) (fun h_2 => ?_)
    · have hm := it_of hm h_2
      refine lv_iconst (v := (0 : Int32)) hx hb dX3_insert_24 (by decide) ?_
      have hz := Option.some.inj hm
      subst hz
      exact end_z C hK hP hD hS (show vp_nar .boolean (0 : Int32) = (0 : Int32) from by decide) dX3_insert_25
    · have hm := ie_of hm h_2
      refine lv_iload_n hx hb dX3_insert_16 rfl (lv_at hl 1 rfl) ?_
      refine lv_aload_n hx hb dX3_insert_17 rfl (lv_at hl 0 rfl) ?_
      refine va_get (D := D) (ci := 3) (v := .int s_c) (C := RX3) (T := TX3) (N := 3) hx hb hts n_X3_insert_X3 hown hK hP 0 rfl rfl 2 (by decide) (hts _ w_X3_insert_f24) (fun _ h9 => h9) rfl dX3_insert_18 ?_
      refine lv_icmp_le (tgt := 26) hx hb dX3_insert_21 (by decide) (fun h_3 => ?_) (fun h_3 => ?_)
      · have hm := it_of hm h_3
        refine lv_aload_n hx hb dX3_insert_26 rfl (lv_at hl 0 rfl) ?_
        refine va_get (D := D) (ci := 3) (v := .int s_c) (C := RX3) (T := TX3) (N := 3) hx hb hts n_X3_insert_X3 hown hK hP 0 rfl rfl 2 (by decide) (hts _ w_X3_insert_f24) (fun _ h9 => h9) rfl dX3_insert_27 ?_
        refine lv_istore (lv' := [(4, .int s_c), (0, .ref (q 0)), (1, .int v1), (2, .int v2), (3, .int v3)]) hx hb dX3_insert_30 hl (by decide) rfl (fun ls hl => ?_)
        exact k_X3_insert_32 C hA hK F F v1 v2 v3 s_c s_f s_l s_c _ _ _ hm hP hD hS (lv_sub hl [1, 2, 3, 4, 0] rfl)
      · have hm := ie_of hm h_3
        refine lv_iconst (v := (0 : Int32)) hx hb dX3_insert_24 (by decide) ?_
        have hz := Option.some.inj hm
        subst hz
        exact end_z C hK hP hD hS (show vp_nar .boolean (0 : Int32) = (0 : Int32) from by decide) dX3_insert_25
