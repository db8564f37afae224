def f_X2_countTold (F : Nat) (p_s_c : Int32) (p_t : Int32) : Option (Int32) := (if p_t = 0 then some (if (p_s_c - (1 : Int32)) < (0 : Int32) then (0 : Int32) else (p_s_c - (1 : Int32))) else some p_s_c)
set_option maxRecDepth 20000 in
theorem n_X2_countTold_X2 : ∀ w ∈ wsX20, w ∈ wsX2_countTold := by decide +kernel
set_option maxRecDepth 20000 in
theorem w_X2_countTold_f24 : Cond.fieldLink RX2 24 "LayerStacks$Pressings" "lastIsTold" "Z" ∈ wsX2_countTold := by decide +kernel
set_option maxRecDepth 20000 in
theorem w_X2_countTold_f14 : Cond.fieldLink RX2 14 "LayerStacks$Pressings" "spans" "LLayerStacks$Spans;" ∈ wsX2_countTold := by decide +kernel
set_option maxRecDepth 20000 in
theorem n_X2_countTold_X3 : ∀ w ∈ wsX30, w ∈ wsX2_countTold := by decide +kernel
set_option maxRecDepth 20000 in
theorem w_X2_countTold_f20 : Cond.fieldLink RX2 20 "LayerStacks$Spans" "count" "I" ∈ wsX2_countTold := by decide +kernel
set_option maxRecDepth 20000 in
theorem w_X2_countTold_m32 : Cond.methodLink RX2 32 Lib.Math.max.name ∈ wsX2_countTold := by decide +kernel
set_option maxRecDepth 20000 in
theorem w_X2_countTold_smax : Cond.static Lib.Math.max.name ∈ wsX2_countTold := by decide +kernel
set_option maxRecDepth 20000 in
theorem w_X2_countTold_iM : Cond.initialized "java/lang/Math" ∈ wsX2_countTold := by decide +kernel
set_option maxRecDepth 20000 in
theorem w_X2_countTold_cmax : Cond.code Lib.Math.max.name Lib.Math.max.code 2 (some .int) ∈ wsX2_countTold := by decide +kernel
set_option maxHeartbeats 4000000 in
set_option maxRecDepth 100000 in
theorem c_X2_countTold (l : Launch) (D : va_G) (y : Nat → ClassId) (q : Nat → Nat) (sz : Nat) (F : Nat) {p_s_f : Nat → Int32} {p_s_l : Nat → Int32} {p_s_c : Int32} {p_t : Int32} {z : Int32} (hm : f_X2_countTold F p_s_c p_t = some z) : Met l yX2_countTold wsX2_countTold ({ frames := 1, cells := 0, slots := 0, locals := 21 } : Room) (va_Pc [.ref (q 0)] (cP D y (wdX2 q y p_s_f p_s_l p_s_c p_t) sz)) (QI D y (va_A (wdX2 q y p_s_f p_s_l p_s_c p_t) sz) (z) (wdX2 q y p_s_f p_s_l p_s_c p_t)) 0 0 (va_A (wdX2 q y p_s_f p_s_l p_s_c p_t) sz) := by
  refine met_of (own := RX2) (cc := cX2_countTold) (maxL := 1) (ret := (some .int)) (by decide) rfl rfl (Nat.le_of_ble_eq_true rfl) ?_
  intro p e s m below meth c ls C hsz hK hP hD hA hS hl
  obtain ⟨⟨hx, hb, hml, hown, hts⟩, hr, hlocks⟩ := id C
  have hl : lv_has ls 1 [(0, .ref (q 0))] := hl
  generalize va_A (wdX2 q y p_s_f p_s_l p_s_c p_t) sz = A at hD hA hS ⊢
  generalize ([.ref (q 0)] : List Value).toArray = args at C hts ⊢
  unfold f_X2_countTold at hm
  refine lv_aload_n hx hb dX2_countTold_0 rfl (lv_at hl 0 rfl) ?_
  refine va_get (D := D) (ci := 2) (v := .int p_t) (C := RX2) (T := TX2) (N := 2) hx hb hts n_X2_countTold_X2 hown hK hP 0 rfl rfl 1 (by decide) (hts _ w_X2_countTold_f24) (fun _ h9 => h9) rfl dX2_countTold_1 ?_
  refine lv_if_eq (tgt := 17) hx hb dX2_countTold_4 (by decide) (fun h_1 => ?_) (fun h_1 => ?_)
  · have hm := it_of hm h_1
    refine lv_aload_n hx hb dX2_countTold_17 rfl (lv_at hl 0 rfl) ?_
    refine va_get (D := D) (ci := 2) (v := .ref (q 1)) (C := RX2) (T := TX2) (N := 2) hx hb hts n_X2_countTold_X2 hown hK hP 0 rfl rfl 0 (by decide) (hts _ w_X2_countTold_f14) (fun _ h9 => h9) rfl dX2_countTold_18 ?_
    refine va_get (D := D) (ci := 3) (v := .int p_s_c) (C := RX3) (T := TX3) (N := 3) hx hb hts n_X2_countTold_X3 hown hK hP 1 rfl rfl 2 (by decide) (hts _ w_X2_countTold_f20) (fun _ h9 => h9) rfl dX2_countTold_21 ?_
    refine lv_iconst (v := (1 : Int32)) hx hb dX2_countTold_24 (by decide) ?_
    refine lv_isub hx hb dX2_countTold_25 ?_
    refine lv_iconst (v := (0 : Int32)) hx hb dX2_countTold_26 (by decide) ?_
    refine va_mmax hx hb (hml.trans hl.1.symm) hown (hts _ w_X2_countTold_m32) (hts _ w_X2_countTold_smax) (hts _ w_X2_countTold_iM) (hts _ w_X2_countTold_cmax) (Nat.le_of_ble_eq_true rfl) (Nat.le_of_ble_eq_true rfl) (Nat.zero_le _) (Nat.zero_le _) dX2_countTold_27 ?_
    have hz := Option.some.inj hm
    subst hz
    exact end_i C hK hP hD hS dX2_countTold_30
  · have hm := ie_of hm h_1
    refine lv_aload_n hx hb dX2_countTold_7 rfl (lv_at hl 0 rfl) ?_
    refine va_get (D := D) (ci := 2) (v := .ref (q 1)) (C := RX2) (T := TX2) (N := 2) hx hb hts n_X2_countTold_X2 hown hK hP 0 rfl rfl 0 (by decide) (hts _ w_X2_countTold_f14) (fun _ h9 => h9) rfl dX2_countTold_8 ?_
    refine va_get (D := D) (ci := 3) (v := .int p_s_c) (C := RX3) (T := TX3) (N := 3) hx hb hts n_X2_countTold_X3 hown hK hP 1 rfl rfl 2 (by decide) (hts _ w_X2_countTold_f20) (fun _ h9 => h9) rfl dX2_countTold_11 ?_
    refine lv_goto (tgt := 30) hx hb dX2_countTold_14 (by decide) ?_
    have hz := Option.some.inj hm
    subst hz
    exact end_i C hK hP hD hS dX2_countTold_30
def g_X2_crosses_77 (F : Nat) (v6 : Int32) (v7 : Int32) (st0 : Int32) : Option (Int32) := (if v6 = 0 then (if v7 = 0 then (if st0 = 0 then some (1 : Int32) else some (0 : Int32)) else some (0 : Int32)) else some (0 : Int32))
def g_X2_crosses_57 (F : Nat) (v2 : Int32) (v3 : Int32) (v4 : Int32) (v5 : Int32) (v6 : Int32) : Option (Int32) := (if v4 < v2 then g_X2_crosses_77 F v6 (0 : Int32) (0 : Int32) else (if v3 < v5 then g_X2_crosses_77 F v6 (0 : Int32) (0 : Int32) else g_X2_crosses_77 F v6 (0 : Int32) (1 : Int32)))
def g_X2_crosses_39 (F : Nat) (v2 : Int32) (v3 : Int32) (v4 : Int32) (v5 : Int32) (st0 : Int32) : Option (Int32) := (if v2 < v4 then g_X2_crosses_57 F v2 v3 v4 v5 st0 else (if v5 < v3 then g_X2_crosses_57 F v2 v3 v4 v5 st0 else (if v4 < v2 then g_X2_crosses_77 F st0 (1 : Int32) (0 : Int32) else (if v3 < v5 then g_X2_crosses_77 F st0 (1 : Int32) (0 : Int32) else g_X2_crosses_77 F st0 (1 : Int32) (1 : Int32)))))
def f_X2_crosses (F : Nat) (v1 : Int32) (v2 : Int32) (v3 : Int32) (p_s_f : Nat → Int32) (p_s_l : Nat → Int32) : Option (Int32) := mg (inb v1 21) (mn (p_s_f (v1).toNatClampNeg) (fun v4_2 => mg (inb v1 21) (mn (p_s_l (v1).toNatClampNeg) (fun v5_4 => (if v3 < v4_2 then g_X2_crosses_39 F v2 v3 v4_2 v5_4 (1 : Int32) else (if v2 ≤ v5_4 then g_X2_crosses_39 F v2 v3 v4_2 v5_4 (0 : Int32) else g_X2_crosses_39 F v2 v3 v4_2 v5_4 (1 : Int32)))))))
set_option maxRecDepth 20000 in
theorem n_X2_crosses_X2 : ∀ w ∈ wsX20, w ∈ wsX2_crosses := by decide +kernel
set_option maxRecDepth 20000 in
theorem w_X2_crosses_f14 : Cond.fieldLink RX2 14 "LayerStacks$Pressings" "spans" "LLayerStacks$Spans;" ∈ wsX2_crosses := by decide +kernel
set_option maxRecDepth 20000 in
theorem n_X2_crosses_X3 : ∀ w ∈ wsX30, w ∈ wsX2_crosses := by decide +kernel
set_option maxRecDepth 20000 in
theorem w_X2_crosses_f55 : Cond.fieldLink RX2 55 "LayerStacks$Spans" "firsts" "[I" ∈ wsX2_crosses := by decide +kernel
set_option maxRecDepth 20000 in
theorem w_X2_crosses_f59 : Cond.fieldLink RX2 59 "LayerStacks$Spans" "lasts" "[I" ∈ wsX2_crosses := by decide +kernel
set_option maxHeartbeats 4000000 in
set_option maxRecDepth 100000 in
theorem k_X2_crosses_77 {p : Program} {l : Launch} {e : Env} {s : State} {m : MethodId} {args : Array Value} {below : List Frame} {meth : Method} {c : Code} {D : va_G} {y : Nat → ClassId} {A : Nat → Prop} {q : Nat → Nat} {p_s_f : Nat → Int32} {p_s_l : Nat → Int32} {p_s_c : Int32} {p_t : Int32} {z : Int32} (C : CX p s m args meth c wsX2_crosses RX2 cX2_crosses 9 (some .boolean)) (hA : ∀ q : Nat, s.heap.size ≤ q → A q) (hK : va_K D vwCl (tyl y) s) (F : Nat) :
    ∀ (v6 : Int32) (v7 : Int32) (st0 : Int32) (H : Heap) (locs : List Loc) (ls : Array Slot), g_X2_crosses_77 F v6 v7 st0 = some z → va_P D vwCl (wdX2 q y p_s_f p_s_l p_s_c p_t) H → va_D A (wdX2 q y p_s_f p_s_l p_s_c p_t) → va_S A s.heap H locs → lv_has ls 9 [(6, .int v6), (7, .int v7)] → W p l e ({ frames := 0, cells := 0, slots := 0, locals := 0 } : Room) s m args below meth c H locs 0 0 (MQ below (QI D y A (z) (wdX2 q y p_s_f p_s_l p_s_c p_t)) args s 0 0 A) (F0 m 77 ls [.int st0]) := by
  obtain ⟨⟨hx, hb, hml, hown, hts⟩, hr, hlocks⟩ := id C
  intro v6 v7 st0 H locs ls hm hP hD hS hl
  unfold g_X2_crosses_77 at hm
  refine lv_istore (lv' := [(8, .int st0), (6, .int v6), (7, .int v7)]) hx hb dX2_crosses_77 hl (by decide) rfl (fun ls hl => ?_)
  refine lv_iload hx hb dX2_crosses_79 (lv_at hl 1 rfl) ?_
  refine lv_if_ne (tgt := 98) hx hb dX2_crosses_81 (by decide) (fun h_1 => ?_) (fun h_1 => ?_)
  · have hm := ie_of hm h_1
    refine lv_iconst (v := (0 : Int32)) hx hb dX2_crosses_98 (by decide) ?_
    have hz := Option.some.inj hm
    subst hz
    exact end_z C hK hP hD hS (show vp_nar .boolean (0 : Int32) = (0 : Int32) from by decide) dX2_crosses_99
  · have hm := it_of hm h_1
    refine lv_iload hx hb dX2_crosses_84 (lv_at hl 2 rfl) ?_
    refine lv_if_ne (tgt := 98) hx hb dX2_crosses_86 (by decide) (fun h_2 => ?_) (fun h_2 => ?_)
    · have hm := ie_of hm h_2
      refine lv_iconst (v := (0 : Int32)) hx hb dX2_crosses_98 (by decide) ?_
      have hz := Option.some.inj hm
      subst hz
      exact end_z C hK hP hD hS (show vp_nar .boolean (0 : Int32) = (0 : Int32) from by decide) dX2_crosses_99
    · have hm := it_of hm h_2
      refine lv_iload hx hb dX2_crosses_89 (lv_at hl 0 rfl) ?_
      refine lv_if_ne (tgt := 98) hx hb dX2_crosses_91 (by decide) (fun h_3 => ?_) (fun h_3 => ?_)
      · have hm := ie_of hm h_3
        refine lv_iconst (v := (0 : Int32)) hx hb dX2_crosses_98 (by decide) ?_
        have hz := Option.some.inj hm
        subst hz
        exact end_z C hK hP hD hS (show vp_nar .boolean (0 : Int32) = (0 : Int32) from by decide) dX2_crosses_99
      · have hm := it_of hm h_3
        refine lv_iconst (v := (1 : Int32)) hx hb dX2_crosses_94 (by decide) ?_
        refine lv_goto (tgt := 99) hx hb dX2_crosses_95 (by decide) ?_
        have hz := Option.some.inj hm
        subst hz
        exact end_z C hK hP hD hS (show vp_nar .boolean (1 : Int32) = (1 : Int32) from by decide) dX2_crosses_99
set_option maxHeartbeats 4000000 in
set_option maxRecDepth 100000 in
theorem k_X2_crosses_57 {p : Program} {l : Launch} {e : Env} {s : State} {m : MethodId} {args : Array Value} {below : List Frame} {meth : Method} {c : Code} {D : va_G} {y : Nat → ClassId} {A : Nat → Prop} {q : Nat → Nat} {p_s_f : Nat → Int32} {p_s_l : Nat → Int32} {p_s_c : Int32} {p_t : Int32} {z : Int32} (C : CX p s m args meth c wsX2_crosses RX2 cX2_crosses 9 (some .boolean)) (hA : ∀ q : Nat, s.heap.size ≤ q → A q) (hK : va_K D vwCl (tyl y) s) (F : Nat) :
    ∀ (v2 : Int32) (v3 : Int32) (v4 : Int32) (v5 : Int32) (v6 : Int32) (H : Heap) (locs : List Loc) (ls : Array Slot), g_X2_crosses_57 F v2 v3 v4 v5 v6 = some z → va_P D vwCl (wdX2 q y p_s_f p_s_l p_s_c p_t) H → va_D A (wdX2 q y p_s_f p_s_l p_s_c p_t) → va_S A s.heap H locs → lv_has ls 9 [(2, .int v2), (3, .int v3), (4, .int v4), (5, .int v5), (6, .int v6)] → W p l e ({ frames := 0, cells := 0, slots := 0, locals := 0 } : Room) s m args below meth c H locs 0 0 (MQ below (QI D y A (z) (wdX2 q y p_s_f p_s_l p_s_c p_t)) args s 0 0 A) (F0 m 57 ls []) := by
  obtain ⟨⟨hx, hb, hml, hown, hts⟩, hr, hlocks⟩ := id C
  intro v2 v3 v4 v5 v6 H locs ls hm hP hD hS hl
  unfold g_X2_crosses_57 at hm
  refine lv_iconst (v := (0 : Int32)) hx hb dX2_crosses_57 (by decide) ?_
  refine lv_istore (lv' := [(7, .int (0 : Int32)), (2, .int v2), (3, .int v3), (4, .int v4), (5, .int v5), (6, .int v6)]) hx hb dX2_crosses_58 hl (by decide) rfl (fun ls hl => ?_)
  refine lv_iload_n hx hb dX2_crosses_60 rfl (lv_at hl 1 rfl) ?_
  refine lv_iload hx hb dX2_crosses_61 (lv_at hl 3 rfl) ?_
  refine lv_icmp_gt (tgt := 76) hx hb dX2_crosses_63 (by decide) (fun h_1 => ?_) (fun h_1 => ?_)
  · have hm := it_of hm h_1
    refine lv_iconst (v := (0 : Int32)) hx hb dX2_crosses_76 (by decide) ?_
    exact k_X2_crosses_77 C hA hK F v6 (0 : Int32) (0 : Int32) _ _ _ hm hP hD hS (lv_sub hl [5, 0] rfl)
  · have hm := ie_of hm h_1
    refine lv_iload hx hb dX2_crosses_66 (lv_at hl 4 rfl) ?_
    refine lv_iload_n hx hb dX2_crosses_68 rfl (lv_at hl 2 rfl) ?_
    refine lv_icmp_gt (tgt := 76) hx hb dX2_crosses_69 (by decide) (fun h_2 => ?_) (fun h_2 => ?_)
    · have hm := it_of hm h_2
      refine lv_iconst (v := (0 : Int32)) hx hb dX2_crosses_76 (by decide) ?_
      exact k_X2_crosses_77 C hA hK F v6 (0 : Int32) (0 : Int32) _ _ _ hm hP hD hS (lv_sub hl [5, 0] rfl)
    · have hm := ie_of hm h_2
      refine lv_iconst (v := (1 : Int32)) hx hb dX2_crosses_72 (by decide) ?_
      refine lv_goto (tgt := 77) hx hb dX2_crosses_73 (by decide) ?_
      exact k_X2_crosses_77 C hA hK F v6 (0 : Int32) (1 : Int32) _ _ _ hm hP hD hS (lv_sub hl [5, 0] rfl)
set_option maxHeartbeats 4000000 in
set_option maxRecDepth 100000 in
theorem k_X2_crosses_39 {p : Program} {l : Launch} {e : Env} {s : State} {m : MethodId} {args : Array Value} {below : List Frame} {meth : Method} {c : Code} {D : va_G} {y : Nat → ClassId} {A : Nat → Prop} {q : Nat → Nat} {p_s_f : Nat → Int32} {p_s_l : Nat → Int32} {p_s_c : Int32} {p_t : Int32} {z : Int32} (C : CX p s m args meth c wsX2_crosses RX2 cX2_crosses 9 (some .boolean)) (hA : ∀ q : Nat, s.heap.size ≤ q → A q) (hK : va_K D vwCl (tyl y) s) (F : Nat) :
    ∀ (v2 : Int32) (v3 : Int32) (v4 : Int32) (v5 : Int32) (st0 : Int32) (H : Heap) (locs : List Loc) (ls : Array Slot), g_X2_crosses_39 F v2 v3 v4 v5 st0 = some z → va_P D vwCl (wdX2 q y p_s_f p_s_l p_s_c p_t) H → va_D A (wdX2 q y p_s_f p_s_l p_s_c p_t) → va_S A s.heap H locs → lv_has ls 9 [(2, .int v2), (3, .int v3), (4, .int v4), (5, .int v5)] → W p l e ({ frames := 0, cells := 0, slots := 0, locals := 0 } : Room) s m args below meth c H locs 0 0 (MQ below (QI D y A (z) (wdX2 q y p_s_f p_s_l p_s_c p_t)) args s 0 0 A) (F0 m 39 ls [.int st0]) := by
  obtain ⟨⟨hx, hb, hml, hown, hts⟩, hr, hlocks⟩ := id C
  intro v2 v3 v4 v5 st0 H locs ls hm hP hD hS hl
  unfold g_X2_crosses_39 at hm
  refine lv_istore (lv' := [(6, .int st0), (2, .int v2), (3, .int v3), (4, .int v4), (5, .int v5)]) hx hb dX2_crosses_39 hl (by decide) rfl (fun ls hl => ?_)
  refine lv_iload hx hb dX2_crosses_41 (lv_at hl 3 rfl) ?_
  refine lv_iload_n hx hb dX2_crosses_43 rfl (lv_at hl 1 rfl) ?_
  refine lv_icmp_gt (tgt := 57) hx hb dX2_crosses_44 (by decide) (fun h_1 => ?_) (fun h_1 => ?_)
  · have hm := it_of hm h_1
    exact k_X2_crosses_57 C hA hK F v2 v3 v4 v5 st0 _ _ _ hm hP hD hS (lv_sub hl [1, 2, 3, 4, 0] rfl)
  · have hm := ie_of hm h_1
    refine lv_iload_n hx hb dX2_crosses_47 rfl (lv_at hl 2 rfl) ?_
    refine lv_iload hx hb dX2_crosses_48 (lv_at hl 4 rfl) ?_
    refine lv_icmp_gt (tgt := 57) hx hb dX2_crosses_50 (by decide) (fun h_2 => ?_) (fun h_2 => ?_)
    · have hm := it_of hm h_2
      exact k_X2_crosses_57 C hA hK F v2 v3 v4 v5 st0 _ _ _ hm hP hD hS (lv_sub hl [1, 2, 3, 4, 0] rfl)
    · have hm := ie_of hm h_2
      refine lv_iconst (v := (1 : Int32)) hx hb dX2_crosses_53 (by decide) ?_
      refine lv_goto (tgt := 58) hx hb dX2_crosses_54 (by decide) ?_
      refine lv_istore (lv' := [(7, .int (1 : Int32)), (6, .int st0), (2, .int v2), (3, .int v3), (4, .int v4), (5, .int v5)]) hx hb dX2_crosses_58 hl (by decide) rfl (fun ls hl => ?_)
      refine lv_iload_n hx hb dX2_crosses_60 rfl (lv_at hl 2 rfl) ?_
      refine lv_iload hx hb dX2_crosses_61 (lv_at hl 4 rfl) ?_
      refine lv_icmp_gt (tgt := 76) hx hb dX2_crosses_63 (by decide) (fun h_3 => ?_) (fun h_3 => ?_)
      · have hm := it_of hm h_3
        refine lv_iconst (v := (0 : Int32)) hx hb dX2_crosses_76 (by decide) ?_
        exact k_X2_crosses_77 C hA hK F st0 (1 : Int32) (0 : Int32) _ _ _ hm hP hD hS (lv_sub hl [1, 0] rfl)
      · have hm := ie_of hm h_3
        refine lv_iload hx hb dX2_crosses_66 (lv_at hl 5 rfl) ?_
        refine lv_iload_n hx hb dX2_crosses_68 rfl (lv_at hl 3 rfl) ?_
        refine lv_icmp_gt (tgt := 76) hx hb dX2_crosses_69 (by decide) (fun h_4 => ?_) (fun h_4 => ?_)
        · have hm := it_of hm h_4
          refine lv_iconst (v := (0 : Int32)) hx hb dX2_crosses_76 (by decide) ?_
          exact k_X2_crosses_77 C hA hK F st0 (1 : Int32) (0 : Int32) _ _ _ hm hP hD hS (lv_sub hl [1, 0] rfl)
        · have hm := ie_of hm h_4
          refine lv_iconst (v := (1 : Int32)) hx hb dX2_crosses_72 (by decide) ?_
          refine lv_goto (tgt := 77) hx hb dX2_crosses_73 (by decide) ?_
          exact k_X2_crosses_77 C hA hK F st0 (1 : Int32) (1 : Int32) _ _ _ hm hP hD hS (lv_sub hl [1, 0] rfl)
set_option maxHeartbeats 4000000 in
set_option maxRecDepth 100000 in
theorem c_X2_crosses (l : Launch) (D : va_G) (y : Nat → ClassId) (q : Nat → Nat) (sz : Nat) (F : Nat) {v1 : Int32} {v2 : Int32} {v3 : Int32} {p_s_f : Nat → Int32} {p_s_l : Nat → Int32} {p_s_c : Int32} {p_t : Int32} {z : Int32} (hm : f_X2_crosses F v1 v2 v3 p_s_f p_s_l = some z) : Met l yX2_crosses wsX2_crosses ({ frames := 0, cells := 0, slots := 0, locals := 0 } : Room) (va_Pc [.ref (q 0), .int v1, .int v2, .int v3] (cP D y (wdX2 q y p_s_f p_s_l p_s_c p_t) sz)) (QI D y (va_A (wdX2 q y p_s_f p_s_l p_s_c p_t) sz) (z) (wdX2 q y p_s_f p_s_l p_s_c p_t)) 0 0 (va_A (wdX2 q y p_s_f p_s_l p_s_c p_t) sz) := by
  refine met_of (own := RX2) (cc := cX2_crosses) (maxL := 9) (ret := (some .boolean)) (by decide) rfl rfl (Nat.le_of_ble_eq_true rfl) ?_
  intro p e s m below meth c ls C hsz hK hP hD hA hS hl
  obtain ⟨⟨hx, hb, hml, hown, hts⟩, hr, hlocks⟩ := id C
  have hl : lv_has ls 9 [(0, .ref (q 0)), (1, .int v1), (2, .int v2), (3, .int v3)] := hl
  generalize va_A (wdX2 q y p_s_f p_s_l p_s_c p_t) sz = A at hD hA hS ⊢
  generalize ([.ref (q 0), .int v1, .int v2, .int v3] : List Value).toArray = args at C hts ⊢
  unfold f_X2_crosses at hm
  refine lv_aload_n hx hb dX2_crosses_0 rfl (lv_at hl 0 rfl) ?_
  refine va_get (D := D) (ci := 2) (v := .ref (q 1)) (C := RX2) (T := TX2) (N := 2) hx hb hts n_X2_crosses_X2 hown hK hP 0 rfl rfl 0 (by decide) (hts _ w_X2_crosses_f14) (fun _ h9 => h9) rfl dX2_crosses_1 ?_
  refine va_get (D := D) (ci := 3) (v := .ref (q 2)) (C := RX3) (T := TX3) (N := 3) hx hb hts n_X2_crosses_X3 hown hK hP 1 rfl rfl 0 (by decide) (hts _ w_X2_crosses_f55) (fun _ h9 => h9) rfl dX2_crosses_4 ?_
  refine lv_iload_n hx hb dX2_crosses_7 rfl (lv_at hl 1 rfl) ?_
  obtain ⟨hg_1, hm⟩ := mg_of hm
  refine va_iald hx hb hK hP 2 0 rfl rfl hg_1 dX2_crosses_8 ?_
  refine lv_topi (fun v4_2 ev4_2 => ?_)
  have hm := mn_of ev4_2 hm
  refine lv_istore (lv' := [(4, .int v4_2), (0, .ref (q 0)), (1, .int v1), (2, .int v2), (3, .int v3)]) hx hb dX2_crosses_9 hl (by decide) rfl (fun ls hl => ?_)
  refine lv_aload_n hx hb dX2_crosses_11 rfl (lv_at hl 1 rfl) ?_
  refine va_get (D := D) (ci := 2) (v := .ref (q 1)) (C := RX2) (T := TX2) (N := 2) hx hb hts n_X2_crosses_X2 hown hK hP 0 rfl rfl 0 (by decide) (hts _ w_X2_crosses_f14) (fun _ h9 => h9) rfl dX2_crosses_12 ?_
  refine va_get (D := D) (ci := 3) (v := .ref (q 3)) (C := RX3) (T := TX3) (N := 3) hx hb hts n_X2_crosses_X3 hown hK hP 1 rfl rfl 1 (by decide) (hts _ w_X2_crosses_f59) (fun _ h9 => h9) rfl dX2_crosses_15 ?_
  refine lv_iload_n hx hb dX2_crosses_18 rfl (lv_at hl 2 rfl) ?_
  obtain ⟨hg_3, hm⟩ := mg_of hm
  refine va_iald hx hb hK hP 3 0 rfl rfl hg_3 dX2_crosses_19 ?_
  refine lv_topi (fun v5_4 ev5_4 => ?_)
  have hm := mn_of ev5_4 hm
  refine lv_istore (lv' := [(5, .int v5_4), (4, .int v4_2), (0, .ref (q 0)), (1, .int v1), (2, .int v2), (3, .int v3)]) hx hb dX2_crosses_20 hl (by decide) rfl (fun ls hl => ?_)
  refine lv_iload_n hx hb dX2_crosses_22 rfl (lv_at hl 5 rfl) ?_
  refine lv_iload hx hb dX2_crosses_23 (lv_at hl 1 rfl) ?_
  refine lv_icmp_lt (tgt := 34) hx hb dX2_crosses_25 (by decide) (fun h_5 => ?_) (fun h_5 => ?_)
  · have hm := it_of hm h_5
    refine lv_iconst (v := (1 : Int32)) hx hb dX2_crosses_34 (by decide) ?_
    refine lv_goto (tgt := 39) hx hb dX2_crosses_35 (by decide) ?_
    exact k_X2_crosses_39 C hA hK F v2 v3 v4_2 v5_4 (1 : Int32) _ _ _ hm hP hD hS (lv_sub hl [4, 5, 1, 0] rfl)
  · have hm := ie_of hm h_5
    refine lv_iload hx hb dX2_crosses_28 (lv_at hl 0 rfl) ?_
    refine lv_iload_n hx hb dX2_crosses_30 rfl (lv_at hl 4 rfl) ?_
    refine lv_icmp_ge (tgt := 38) hx hb dX2_crosses_31 (by decide) (fun h_6 => ?_) (fun h_6 => ?_)
    · have hm := it_of hm h_6
      refine lv_iconst (v := (0 : Int32)) hx hb dX2_crosses_38 (by decide) ?_
      exact k_X2_crosses_39 C hA hK F v2 v3 v4_2 v5_4 (0 : Int32) _ _ _ hm hP hD hS (lv_sub hl [4, 5, 1, 0] rfl)
    · have hm := ie_of hm h_6
      refine lv_iconst (v := (1 : Int32)) hx hb dX2_crosses_34 (by decide) ?_
      refine lv_goto (tgt := 39) hx hb dX2_crosses_35 (by decide) ?_
      exact k_X2_crosses_39 C hA hK F v2 v3 v4_2 v5_4 (1 : Int32) _ _ _ hm hP hD hS (lv_sub hl [4, 5, 1, 0] rfl)
def f_X2_comesAhead (F : Nat) (v1 : Int32) (v2 : Int32) (v3 : Int32) (p_s_f : Nat → Int32) (p_s_l : Nat → Int32) : Option (Int32) := mg (inb v1 21) (mg (inb v1 21) (mn ((p_s_l (v1).toNatClampNeg) - (p_s_f (v1).toNatClampNeg)) (fun v4_3 => (if v4_3 < (v3 - v2) then some (1 : Int32) else (if v4_3 = (v3 - v2) then mg (inb v1 21) ((if v2 ≤ (p_s_f (v1).toNatClampNeg) then some (0 : Int32) else some (1 : Int32))) else some (0 : Int32))))))
set_option maxRecDepth 20000 in
theorem n_X2_comesAhead_X2 : ∀ w ∈ wsX20, w ∈ wsX2_comesAhead := by decide +kernel
set_option maxRecDepth 20000 in
theorem w_X2_comesAhead_f14 : Cond.fieldLink RX2 14 "LayerStacks$Pressings" "spans" "LLayerStacks$Spans;" ∈ wsX2_comesAhead := by decide +kernel
set_option maxRecDepth 20000 in
theorem n_X2_comesAhead_X3 : ∀ w ∈ wsX30, w ∈ wsX2_comesAhead := by decide +kernel
set_option maxRecDepth 20000 in
theorem w_X2_comesAhead_f59 : Cond.fieldLink RX2 59 "LayerStacks$Spans" "lasts" "[I" ∈ wsX2_comesAhead := by decide +kernel
set_option maxRecDepth 20000 in
theorem w_X2_comesAhead_f55 : Cond.fieldLink RX2 55 "LayerStacks$Spans" "firsts" "[I" ∈ wsX2_comesAhead := by decide +kernel
set_option maxHeartbeats 4000000 in
set_option maxRecDepth 100000 in
theorem c_X2_comesAhead (l : Launch) (D : va_G) (y : Nat → ClassId) (q : Nat → Nat) (sz : Nat) (F : Nat) {v1 : Int32} {v2 : Int32} {v3 : Int32} {p_s_f : Nat → Int32} {p_s_l : Nat → Int32} {p_s_c : Int32} {p_t : Int32} {z : Int32} (hm : f_X2_comesAhead F v1 v2 v3 p_s_f p_s_l = some z) : Met l yX2_comesAhead wsX2_comesAhead ({ frames := 0, cells := 0, slots := 0, locals := 0 } : Room) (va_Pc [.ref (q 0), .int v1, .int v2, .int v3] (cP D y (wdX2 q y p_s_f p_s_l p_s_c p_t) sz)) (QI D y (va_A (wdX2 q y p_s_f p_s_l p_s_c p_t) sz) (z) (wdX2 q y p_s_f p_s_l p_s_c p_t)) 0 0 (va_A (wdX2 q y p_s_f p_s_l p_s_c p_t) sz) := by
  refine met_of (own := RX2) (cc := cX2_comesAhead) (maxL := 5) (ret := (some .boolean)) (by decide) rfl rfl (Nat.le_of_ble_eq_true rfl) ?_
  intro p e s m below meth c ls C hsz hK hP hD hA hS hl
  obtain ⟨⟨hx, hb, hml, hown, hts⟩, hr, hlocks⟩ := id C
  have hl : lv_has ls 5 [(0, .ref (q 0)), (1, .int v1), (2, .int v2), (3, .int v3)] := hl
  generalize va_A (wdX2 q y p_s_f p_s_l p_s_c p_t) sz = A at hD hA hS ⊢
  generalize ([.ref (q 0), .int v1, .int v2, .int v3] : List Value).toArray = args at C hts ⊢
  unfold f_X2_comesAhead at hm
  refine lv_aload_n hx hb dX2_comesAhead_0 rfl (lv_at hl 0 rfl) ?_
  refine va_get (D := D) (ci := 2) (v := .ref (q 1)) (C := RX2) (T := TX2) (N := 2) hx hb hts n_X2_comesAhead_X2 hown hK hP 0 rfl rfl 0 (by decide) (hts _ w_X2_comesAhead_f14) (fun _ h9 => h9) rfl dX2_comesAhead_1 ?_
  refine va_get (D := D) (ci := 3) (v := .ref (q 3)) (C := RX3) (T := TX3) (N := 3) hx hb hts n_X2_comesAhead_X3 hown hK hP 1 rfl rfl 1 (by decide) (hts _ w_X2_comesAhead_f59) (fun _ h9 => h9) rfl dX2_comesAhead_4 ?_
  refine lv_iload_n hx hb dX2_comesAhead_7 rfl (lv_at hl 1 rfl) ?_
  obtain ⟨hg_1, hm⟩ := mg_of hm
  refine va_iald hx hb hK hP 3 0 rfl rfl hg_1 dX2_comesAhead_8 ?_
  refine lv_aload_n hx hb dX2_comesAhead_9 rfl (lv_at hl 0 rfl) ?_
  refine va_get (D := D) (ci := 2) (v := .ref (q 1)) (C := RX2) (T := TX2) (N := 2) hx hb hts n_X2_comesAhead_X2 hown hK hP 0 rfl rfl 0 (by decide) (hts _ w_X2_comesAhead_f14) (fun _ h9 => h9) rfl dX2_comesAhead_10 ?_
  refine va_get (D := D) (ci := 3) (v := .ref (q 2)) (C := RX3) (T := TX3) (N := 3) hx hb hts n_X2_comesAhead_X3 hown hK hP 1 rfl rfl 0 (by decide) (hts _ w_X2_comesAhead_f55) (fun _ h9 => h9) rfl dX2_comesAhead_13 ?_
  refine lv_iload_n hx hb dX2_comesAhead_16 rfl (lv_at hl 1 rfl) ?_
  obtain ⟨hg_2, hm⟩ := mg_of hm
  refine va_iald hx hb hK hP 2 0 rfl rfl hg_2 dX2_comesAhead_17 ?_
  refine lv_isub hx hb dX2_comesAhead_18 ?_
  refine lv_topi (fun v4_3 ev4_3 => ?_)
  have hm := mn_of ev4_3 hm
  refine lv_istore (lv' := [(4, .int v4_3), (0, .ref (q 0)), (1, .int v1), (2, .int v2), (3, .int v3)]) hx hb dX2_comesAhead_19 hl (by decide) rfl (fun ls hl => ?_)
  refine lv_iload hx hb dX2_comesAhead_21 (lv_at hl 0 rfl) ?_
  refine lv_iload_n hx hb dX2_comesAhead_23 rfl (lv_at hl 4 rfl) ?_
  refine lv_iload_n hx hb dX2_comesAhead_24 rfl (lv_at hl 3 rfl) ?_
  refine lv_isub hx hb dX2_comesAhead_25 ?_
  refine lv_icmp_lt (tgt := 50) hx hb dX2_comesAhead_26 (by decide) (fun h_4 => ?_) (fun h_4 => ?_)
  · have hm := it_of hm h_4
    refine lv_iconst (v := (1 : Int32)) hx hb dX2_comesAhead_50 (by decide) ?_
    refine lv_goto (tgt := 55) hx hb dX2_comesAhead_51 (by decide) ?_
    have hz := Option.some.inj hm
    subst hz
    exact end_z C hK hP hD hS (show vp_nar .boolean (1 : Int32) = (1 : Int32) from by decide) dX2_comesAhead_55
  · have hm := ie_of hm h_4
    refine lv_iload hx hb dX2_comesAhead_29 (lv_at hl 0 rfl) ?_
    refine lv_iload_n hx hb dX2_comesAhead_31 rfl (lv_at hl 4 rfl) ?_
    refine lv_iload_n hx hb dX2_comesAhead_32 rfl (lv_at hl 3 rfl) ?_
    refine lv_isub hx hb dX2_comesAhead_33 ?_
    refine lv_icmp_ne (tgt := 54) hx hb dX2_comesAhead_34 (by decide) (fun h_5 => ?_) (fun h_5 => ?_)
    · have hm := ie_of hm h_5
      refine lv_iconst (v := (0 : Int32)) hx hb dX2_comesAhead_54 (by decide) ?_
      have hz := Option.some.inj hm
      subst hz
      exact end_z C hK hP hD hS (show vp_nar .boolean (0 : Int32) = (0 : Int32) from by decide) dX2_comesAhead_55
    · have hm := it_of hm h_5
      refine lv_aload_n hx hb dX2_comesAhead_37 rfl (lv_at hl 1 rfl) ?_
      refine va_get (D := D) (ci := 2) (v := .ref (q 1)) (C := RX2) (T := TX2) (N := 2) hx hb hts n_X2_comesAhead_X2 hown hK hP 0 rfl rfl 0 (by decide) (hts _ w_X2_comesAhead_f14) (fun _ h9 => h9) rfl dX2_comesAhead_38 ?_
      refine va_get (D := D) (ci := 3) (v := .ref (q 2)) (C := RX3) (T := TX3) (N := 3) hx hb hts n_X2_comesAhead_X3 hown hK hP 1 rfl rfl 0 (by decide) (hts _ w_X2_comesAhead_f55) (fun _ h9 => h9) rfl dX2_comesAhead_41 ?_
      refine lv_iload_n hx hb dX2_comesAhead_44 rfl (lv_at hl 2 rfl) ?_
      obtain ⟨hg_6, hm⟩ := mg_of hm
      refine va_iald hx hb hK hP 2 0 rfl rfl hg_6 dX2_comesAhead_45 ?_
      refine lv_iload_n hx hb dX2_comesAhead_46 rfl (lv_at hl 3 rfl) ?_
      refine lv_icmp_ge (tgt := 54) hx hb dX2_comesAhead_47 (by decide) (fun h_7 => ?_) (fun h_7 => ?_)
      · have hm := it_of hm h_7
        refine lv_iconst (v := (0 : Int32)) hx hb dX2_comesAhead_54 (by decide) ?_
        have hz := Option.some.inj hm
        subst hz
        exact end_z C hK hP hD hS (show vp_nar .boolean (0 : Int32) = (0 : Int32) from by decide) dX2_comesAhead_55
      · have hm := ie_of hm h_7
        refine lv_iconst (v := (1 : Int32)) hx hb dX2_comesAhead_50 (by decide) ?_
        refine lv_goto (tgt := 55) hx hb dX2_comesAhead_51 (by decide) ?_
        have hz := Option.some.inj hm
        subst hz
        exact end_z C hK hP hD hS (show vp_nar .boolean (1 : Int32) = (1 : Int32) from by decide) dX2_comesAhead_55
def g_X2_placeFor_2 (F : Nat) : Nat → Int32 → Int32 → Int32 → (Nat → Int32) → (Nat → Int32) → Int32 → Option (Int32)
  | 0, _, _, _, _, _, _ => none
  | n + 1, v1, v2, v3, p_s_f, p_s_l, p_s_c => (if p_s_c ≤ v3 then some v3 else mb1 (f_X2_comesAhead F v3 v1 v2 p_s_f p_s_l) (fun r_2 => (if r_2 = 0 then some v3 else mn (v3 + (1 : Int32)) (fun v3_5 => g_X2_placeFor_2 F n v1 v2 v3_5 p_s_f p_s_l p_s_c))))
theorem g_X2_placeFor_2_z (F : Nat) (v1 : Int32) (v2 : Int32) (v3 : Int32) (p_s_f : Nat → Int32) (p_s_l : Nat → Int32) (p_s_c : Int32) : g_X2_placeFor_2 F 0 v1 v2 v3 p_s_f p_s_l p_s_c = none := rfl
theorem g_X2_placeFor_2_s (F : Nat) (n : Nat) (v1 : Int32) (v2 : Int32) (v3 : Int32) (p_s_f : Nat → Int32) (p_s_l : Nat → Int32) (p_s_c : Int32) : g_X2_placeFor_2 F (n + 1) v1 v2 v3 p_s_f p_s_l p_s_c = (if p_s_c ≤ v3 then some v3 else mb1 (f_X2_comesAhead F v3 v1 v2 p_s_f p_s_l) (fun r_2 => (if r_2 = 0 then some v3 else mn (v3 + (1 : Int32)) (fun v3_5 => g_X2_placeFor_2 F n v1 v2 v3_5 p_s_f p_s_l p_s_c)))) := rfl
def f_X2_placeFor (F : Nat) (v1 : Int32) (v2 : Int32) (p_s_f : Nat → Int32) (p_s_l : Nat → Int32) (p_s_c : Int32) : Option (Int32) := g_X2_placeFor_2 F F v1 v2 (0 : Int32) p_s_f p_s_l p_s_c
set_option maxRecDepth 20000 in
theorem n_X2_placeFor_X2 : ∀ w ∈ wsX20, w ∈ wsX2_placeFor := by decide +kernel
set_option maxRecDepth 20000 in
theorem w_X2_placeFor_f14 : Cond.fieldLink RX2 14 "LayerStacks$Pressings" "spans" "LLayerStacks$Spans;" ∈ wsX2_placeFor := by decide +kernel
set_option maxRecDepth 20000 in
theorem n_X2_placeFor_X3 : ∀ w ∈ wsX30, w ∈ wsX2_placeFor := by decide +kernel
set_option maxRecDepth 20000 in
theorem w_X2_placeFor_f20 : Cond.fieldLink RX2 20 "LayerStacks$Spans" "count" "I" ∈ wsX2_placeFor := by decide +kernel
set_option maxHeartbeats 4000000 in
set_option maxRecDepth 100000 in
theorem k_X2_placeFor_2 {p : Program} {l : Launch} {e : Env} {s : State} {m : MethodId} {args : Array Value} {below : List Frame} {meth : Method} {c : Code} {D : va_G} {y : Nat → ClassId} {A : Nat → Prop} {q : Nat → Nat} {p_t : Int32} {z : Int32} (C : CX p s m args meth c wsX2_placeFor RX2 cX2_placeFor 4 (some .int)) (hA : ∀ q : Nat, s.heap.size ≤ q → A q) (hK : va_K D vwCl (tyl y) s) (F : Nat) :
    ∀ (n : Nat), ∀ (v1 : Int32) (v2 : Int32) (v3 : Int32) (p_s_f : Nat → Int32) (p_s_l : Nat → Int32) (p_s_c : Int32) (H : Heap) (locs : List Loc) (ls : Array Slot), g_X2_placeFor_2 F n v1 v2 v3 p_s_f p_s_l p_s_c = some z → va_P D vwCl (wdX2 q y p_s_f p_s_l p_s_c p_t) H → va_D A (wdX2 q y p_s_f p_s_l p_s_c p_t) → va_S A s.heap H locs → lv_has ls 4 [(0, .ref (q 0)), (1, .int v1), (2, .int v2), (3, .int v3)] → W p l e ({ frames := 1, cells := 0, slots := 0, locals := 24 } : Room) s m args below meth c H locs 0 0 (MQ below (QI D y A (z) (wdX2 q y p_s_f p_s_l p_s_c p_t)) args s 0 0 A) (F0 m 2 ls []) := by
  obtain ⟨⟨hx, hb, hml, hown, hts⟩, hr, hlocks⟩ := id C
  intro n
  induction n with
  | zero =>
    intro v1 v2 v3 p_s_f p_s_l p_s_c H locs ls hm
    rw [g_X2_placeFor_2_z] at hm
    cases hm
  | succ n ih =>
    intro v1 v2 v3 p_s_f p_s_l p_s_c H locs ls hm hP hD hS hl
    rw [g_X2_placeFor_2_s] at hm
    refine lv_iload_n hx hb dX2_placeFor_2 rfl (lv_at hl 3 rfl) ?_
    refine lv_aload_n hx hb dX2_placeFor_3 rfl (lv_at hl 0 rfl) ?_
    refine va_get (D := D) (ci := 2) (v := .ref (q 1)) (C := RX2) (T := TX2) (N := 2) hx hb hts n_X2_placeFor_X2 hown hK hP 0 rfl rfl 0 (by decide) (hts _ w_X2_placeFor_f14) (fun _ h9 => h9) rfl dX2_placeFor_4 ?_
    refine va_get (D := D) (ci := 3) (v := .int p_s_c) (C := RX3) (T := TX3) (N := 3) hx hb hts n_X2_placeFor_X3 hown hK hP 1 rfl rfl 2 (by decide) (hts _ w_X2_placeFor_f20) (fun _ h9 => h9) rfl dX2_placeFor_7 ?_
    refine lv_icmp_ge (tgt := 29) hx hb dX2_placeFor_10 (by decide) (fun h_1 => ?_) (fun h_1 => ?_)
    · have hm := it_of hm h_1
      refine lv_iload_n hx hb dX2_placeFor_29 rfl (lv_at hl 3 rfl) ?_
      have hz := Option.some.inj hm
      subst hz
      exact end_i C hK hP hD hS dX2_placeFor_30
    · have hm := ie_of hm h_1
      refine lv_aload_n hx hb dX2_placeFor_13 rfl (lv_at hl 0 rfl) ?_
      refine lv_iload_n hx hb dX2_placeFor_14 rfl (lv_at hl 3 rfl) ?_
      refine lv_iload_n hx hb dX2_placeFor_15 rfl (lv_at hl 1 rfl) ?_
      refine lv_iload_n hx hb dX2_placeFor_16 rfl (lv_at hl 2 rfl) ?_
      obtain ⟨r_2, hc_3, hm⟩ := mb1_of hm
      refine call_vi (wc := (wdX2 q y p_s_f p_s_l p_s_c p_t)) (wr := []) (As := [.int v3, .int v1, .int v2]) (rest := []) C (c_X2_comesAhead l D y q _ F hc_3) (cwV 3 hts gX2_placeFor_X2_comesAhead rfl rfl rfl (by decide +kernel) ⟨Nat.le_of_ble_eq_true rfl, Nat.le_of_ble_eq_true rfl⟩) hK hP hD hS hA [0, 1, 2, 3] [] rfl rfl rfl rfl rfl (by decide) rfl rfl rfl rfl hl.1 (Nat.le_of_ble_eq_true rfl) dX2_placeFor_17 (fun H locs hP hD hS => ?_)
      have hP : va_P D vwCl (wdX2 q y p_s_f p_s_l p_s_c p_t) H := hP
      have hD : va_D A (wdX2 q y p_s_f p_s_l p_s_c p_t) := hD
      refine lv_if_eq (tgt := 29) hx hb dX2_placeFor_20 (by decide) (fun h_4 => ?_) (fun h_4 => ?_)
      · have hm := it_of hm h_4
        refine lv_iload_n hx hb dX2_placeFor_29 rfl (lv_at hl 3 rfl) ?_
        have hz := Option.some.inj hm
        subst hz
        exact end_i C hK hP hD hS dX2_placeFor_30
      · have hm := ie_of hm h_4
        obtain ⟨v3_5, ev3_5⟩ : ∃ y9 : Int32, y9 = (v3 + (1 : Int32)) := ⟨_, rfl⟩
        have hm := mn_of ev3_5 hm
        refine lv_iinc (v := v3_5) (lv' := [(3, .int v3_5), (0, .ref (q 0)), (1, .int v1), (2, .int v2)]) hx hb dX2_placeFor_23 hl (k := 3) rfl (by rw [ev3_5]; rfl) (by decide) rfl (fun ls hl => ?_)
        refine lv_goto (tgt := 2) hx hb dX2_placeFor_26 (by decide) ?_
        exact ih v1 v2 v3_5 p_s_f p_s_l p_s_c _ _ _ hm hP hD hS (lv_sub hl [1, 2, 3, 0] rfl)
set_option maxHeartbeats 4000000 in
set_option maxRecDepth 100000 in
theorem c_X2_placeFor (l : Launch) (D : va_G) (y : Nat → ClassId) (q : Nat → Nat) (sz : Nat) (F : Nat) {v1 : Int32} {v2 : Int32} {p_s_f : Nat → Int32} {p_s_l : Nat → Int32} {p_s_c : Int32} {p_t : Int32} {z : Int32} (hm : f_X2_placeFor F v1 v2 p_s_f p_s_l p_s_c = some z) : Met l yX2_placeFor wsX2_placeFor ({ frames := 1, cells := 0, slots := 0, locals := 24 } : Room) (va_Pc [.ref (q 0), .int v1, .int v2] (cP D y (wdX2 q y p_s_f p_s_l p_s_c p_t) sz)) (QI D y (va_A (wdX2 q y p_s_f p_s_l p_s_c p_t) sz) (z) (wdX2 q y p_s_f p_s_l p_s_c p_t)) 0 0 (va_A (wdX2 q y p_s_f p_s_l p_s_c p_t) sz) := by
  refine met_of (own := RX2) (cc := cX2_placeFor) (maxL := 4) (ret := (some .int)) (by decide) rfl rfl (Nat.le_of_ble_eq_true rfl) ?_
  intro p e s m below meth c ls C hsz hK hP hD hA hS hl
  obtain ⟨⟨hx, hb, hml, hown, hts⟩, hr, hlocks⟩ := id C
  have hl : lv_has ls 4 [(0, .ref (q 0)), (1, .int v1), (2, .int v2)] := hl
  generalize va_A (wdX2 q y p_s_f p_s_l p_s_c p_t) sz = A at hD hA hS ⊢
  generalize ([.ref (q 0), .int v1, .int v2] : List Value).toArray = args at C hts ⊢
  unfold f_X2_placeFor at hm
  refine lv_iconst (v := (0 : Int32)) hx hb dX2_placeFor_0 (by decide) ?_
  refine lv_istore_n (lv' := [(3, .int (0 : Int32)), (0, .ref (q 0)), (1, .int v1), (2, .int v2)]) hx hb dX2_placeFor_1 rfl hl (by decide) rfl (fun ls hl => ?_)
  exact k_X2_placeFor_2 C hA hK F F v1 v2 (0 : Int32) p_s_f p_s_l p_s_c _ _ _ hm hP hD hS (lv_sub hl [1, 2, 3, 0] rfl)
def g_X2_findHolder_4 (F : Nat) : Nat → Int32 → Int32 → (Nat → Int32) → (Nat → Int32) → Int32 → Option (Int32)
  | 0, _, _, _, _, _ => none
  | n + 1, v1, v2, p_s_f, p_s_l, p_s_c => (if p_s_c ≤ v2 then some (-1 : Int32) else mb1 (f_X3_liesIn F 21 21 v1 v2 p_s_f p_s_l) (fun r_2 => (if r_2 = 0 then mn (v2 + (1 : Int32)) (fun v2_5 => g_X2_findHolder_4 F n v1 v2_5 p_s_f p_s_l p_s_c) else some v2)))
theorem g_X2_findHolder_4_z (F : Nat) (v1 : Int32) (v2 : Int32) (p_s_f : Nat → Int32) (p_s_l : Nat → Int32) (p_s_c : Int32) : g_X2_findHolder_4 F 0 v1 v2 p_s_f p_s_l p_s_c = none := rfl
theorem g_X2_findHolder_4_s (F : Nat) (n : Nat) (v1 : Int32) (v2 : Int32) (p_s_f : Nat → Int32) (p_s_l : Nat → Int32) (p_s_c : Int32) : g_X2_findHolder_4 F (n + 1) v1 v2 p_s_f p_s_l p_s_c = (if p_s_c ≤ v2 then some (-1 : Int32) else mb1 (f_X3_liesIn F 21 21 v1 v2 p_s_f p_s_l) (fun r_2 => (if r_2 = 0 then mn (v2 + (1 : Int32)) (fun v2_5 => g_X2_findHolder_4 F n v1 v2_5 p_s_f p_s_l p_s_c) else some v2))) := rfl
def f_X2_findHolder (F : Nat) (v1 : Int32) (p_s_f : Nat → Int32) (p_s_l : Nat → Int32) (p_s_c : Int32) : Option (Int32) := mn (v1 + (1 : Int32)) (fun v2_1 => g_X2_findHolder_4 F F v1 v2_1 p_s_f p_s_l p_s_c)
set_option maxRecDepth 20000 in
theorem n_X2_findHolder_X2 : ∀ w ∈ wsX20, w ∈ wsX2_findHolder := by decide +kernel
set_option maxRecDepth 20000 in
theorem w_X2_findHolder_f14 : Cond.fieldLink RX2 14 "LayerStacks$Pressings" "spans" "LLayerStacks$Spans;" ∈ wsX2_findHolder := by decide +kernel
set_option maxRecDepth 20000 in
theorem n_X2_findHolder_X3 : ∀ w ∈ wsX30, w ∈ wsX2_findHolder := by decide +kernel
set_option maxRecDepth 20000 in
theorem w_X2_findHolder_f20 : Cond.fieldLink RX2 20 "LayerStacks$Spans" "count" "I" ∈ wsX2_findHolder := by decide +kernel
set_option maxHeartbeats 4000000 in
set_option maxRecDepth 100000 in
theorem k_X2_findHolder_4 {p : Program} {l : Launch} {e : Env} {s : State} {m : MethodId} {args : Array Value} {below : List Frame} {meth : Method} {c : Code} {D : va_G} {y : Nat → ClassId} {A : Nat → Prop} {q : Nat → Nat} {p_t : Int32} {z : Int32} (C : CX p s m args meth c wsX2_findHolder RX2 cX2_findHolder 3 (some .int)) (hA : ∀ q : Nat, s.heap.size ≤ q → A q) (hK : va_K D vwCl (tyl y) s) (F : Nat) :
    ∀ (n : Nat), ∀ (v1 : Int32) (v2 : Int32) (p_s_f : Nat → Int32) (p_s_l : Nat → Int32) (p_s_c : Int32) (H : Heap) (locs : List Loc) (ls : Array Slot), g_X2_findHolder_4 F n v1 v2 p_s_f p_s_l p_s_c = some z → va_P D vwCl (wdX2 q y p_s_f p_s_l p_s_c p_t) H → va_D A (wdX2 q y p_s_f p_s_l p_s_c p_t) → va_S A s.heap H locs → lv_has ls 3 [(0, .ref (q 0)), (1, .int v1), (2, .int v2)] → W p l e ({ frames := 1, cells := 0, slots := 0, locals := 22 } : Room) s m args below meth c H locs 0 0 (MQ below (QI D y A (z) (wdX2 q y p_s_f p_s_l p_s_c p_t)) args s 0 0 A) (F0 m 4 ls []) := by
  obtain ⟨⟨hx, hb, hml, hown, hts⟩, hr, hlocks⟩ := id C
  intro n
  induction n with
  | zero =>
    intro v1 v2 p_s_f p_s_l p_s_c H locs ls hm
    rw [g_X2_findHolder_4_z] at hm
    cases hm
  | succ n ih =>
    intro v1 v2 p_s_f p_s_l p_s_c H locs ls hm hP hD hS hl
    rw [g_X2_findHolder_4_s] at hm
    refine lv_iload_n hx hb dX2_findHolder_4 rfl (lv_at hl 2 rfl) ?_
    refine lv_aload_n hx hb dX2_findHolder_5 rfl (lv_at hl 0 rfl) ?_
    refine va_get (D := D) (ci := 2) (v := .ref (q 1)) (C := RX2) (T := TX2) (N := 2) hx hb hts n_X2_findHolder_X2 hown hK hP 0 rfl rfl 0 (by decide) (hts _ w_X2_findHolder_f14) (fun _ h9 => h9) rfl dX2_findHolder_6 ?_
    refine va_get (D := D) (ci := 3) (v := .int p_s_c) (C := RX3) (T := TX3) (N := 3) hx hb hts n_X2_findHolder_X3 hown hK hP 1 rfl rfl 2 (by decide) (hts _ w_X2_findHolder_f20) (fun _ h9 => h9) rfl dX2_findHolder_9 ?_
    refine lv_icmp_ge (tgt := 35) hx hb dX2_findHolder_12 (by decide) (fun h_1 => ?_) (fun h_1 => ?_)
    · have hm := it_of hm h_1
      refine lv_iconst (v := (-1 : Int32)) hx hb dX2_findHolder_35 (by decide) ?_
      have hz := Option.some.inj hm
      subst hz
      exact end_i C hK hP hD hS dX2_findHolder_36
    · have hm := ie_of hm h_1
      refine lv_aload_n hx hb dX2_findHolder_15 rfl (lv_at hl 0 rfl) ?_
      refine va_get (D := D) (ci := 2) (v := .ref (q 1)) (C := RX2) (T := TX2) (N := 2) hx hb hts n_X2_findHolder_X2 hown hK hP 0 rfl rfl 0 (by decide) (hts _ w_X2_findHolder_f14) (fun _ h9 => h9) rfl dX2_findHolder_16 ?_
      refine lv_iload_n hx hb dX2_findHolder_19 rfl (lv_at hl 1 rfl) ?_
      refine lv_iload_n hx hb dX2_findHolder_20 rfl (lv_at hl 2 rfl) ?_
      obtain ⟨r_2, hc_3, hm⟩ := mb1_of hm
      refine call_vi (wc := (wdX3 (fun i => q (i + 1)) y 21 21 p_s_f p_s_l p_s_c)) (wr := [(q 0, .inr (2, [.ref (q 1), .int p_t]))]) (As := [.int v1, .int v2]) (rest := []) C (c_X3_liesIn l D y (fun i => q (i + 1)) _ F hc_3) (cwV 2 hts gX2_findHolder_X3_liesIn rfl rfl rfl (by decide +kernel) ⟨Nat.le_of_ble_eq_true rfl, Nat.le_of_ble_eq_true rfl⟩) hK hP hD hS hA [1, 2, 3] [0] rfl rfl rfl rfl rfl (by decide) rfl rfl rfl rfl hl.1 (Nat.le_of_ble_eq_true rfl) dX2_findHolder_21 (fun H locs hP hD hS => ?_)
      have hP : va_P D vwCl (wdX2 q y p_s_f p_s_l p_s_c p_t) H := hP
      have hD : va_D A (wdX2 q y p_s_f p_s_l p_s_c p_t) := hD
      refine lv_if_eq (tgt := 29) hx hb dX2_findHolder_24 (by decide) (fun h_4 => ?_) (fun h_4 => ?_)
      · have hm := it_of hm h_4
        obtain ⟨v2_5, ev2_5⟩ : ∃ y9 : Int32, y9 = (v2 + (1 : Int32)) := ⟨_, rfl⟩
        have hm := mn_of ev2_5 hm
        refine lv_iinc (v := v2_5) (lv' := [(2, .int v2_5), (0, .ref (q 0)), (1, .int v1)]) hx hb dX2_findHolder_29 hl (k := 2) rfl (by rw [ev2_5]; rfl) (by decide) rfl (fun ls hl => ?_)
        refine lv_goto (tgt := 4) hx hb dX2_findHolder_32 (by decide) ?_
        exact ih v1 v2_5 p_s_f p_s_l p_s_c _ _ _ hm hP hD hS (lv_sub hl [1, 2, 0] rfl)
      · have hm := ie_of hm h_4
        refine lv_iload_n hx hb dX2_findHolder_27 rfl (lv_at hl 2 rfl) ?_
        have hz := Option.some.inj hm
        subst hz
        exact end_i C hK hP hD hS dX2_findHolder_28
set_option maxHeartbeats 4000000 in
set_option maxRecDepth 100000 in
theorem c_X2_findHolder (l : Launch) (D : va_G) (y : Nat → ClassId) (q : Nat → Nat) (sz : Nat) (F : Nat) {v1 : Int32} {p_s_f : Nat → Int32} {p_s_l : Nat → Int32} {p_s_c : Int32} {p_t : Int32} {z : Int32} (hm : f_X2_findHolder F v1 p_s_f p_s_l p_s_c = some z) : Met l yX2_findHolder wsX2_findHolder ({ frames := 1, cells := 0, slots := 0, locals := 22 } : Room) (va_Pc [.ref (q 0), .int v1] (cP D y (wdX2 q y p_s_f p_s_l p_s_c p_t) sz)) (QI D y (va_A (wdX2 q y p_s_f p_s_l p_s_c p_t) sz) (z) (wdX2 q y p_s_f p_s_l p_s_c p_t)) 0 0 (va_A (wdX2 q y p_s_f p_s_l p_s_c p_t) sz) := by
  refine met_of (own := RX2) (cc := cX2_findHolder) (maxL := 3) (ret := (some .int)) (by decide) rfl rfl (Nat.le_of_ble_eq_true rfl) ?_
  intro p e s m below meth c ls C hsz hK hP hD hA hS hl
  obtain ⟨⟨hx, hb, hml, hown, hts⟩, hr, hlocks⟩ := id C
  have hl : lv_has ls 3 [(0, .ref (q 0)), (1, .int v1)] := hl
  generalize va_A (wdX2 q y p_s_f p_s_l p_s_c p_t) sz = A at hD hA hS ⊢
  generalize ([.ref (q 0), .int v1] : List Value).toArray = args at C hts ⊢
  unfold f_X2_findHolder at hm
  refine lv_iload_n hx hb dX2_findHolder_0 rfl (lv_at hl 1 rfl) ?_
  refine lv_iconst (v := (1 : Int32)) hx hb dX2_findHolder_1 (by decide) ?_
  refine lv_iadd hx hb dX2_findHolder_2 ?_
  refine lv_topi (fun v2_1 ev2_1 => ?_)
  have hm := mn_of ev2_1 hm
  refine lv_istore_n (lv' := [(2, .int v2_1), (0, .ref (q 0)), (1, .int v1)]) hx hb dX2_findHolder_3 rfl hl (by decide) rfl (fun ls hl => ?_)
  exact k_X2_findHolder_4 C hA hK F F v1 v2_1 p_s_f p_s_l p_s_c _ _ _ hm hP hD hS (lv_sub hl [1, 2, 0] rfl)
def g_X2_countRightInside_4 (F : Nat) : Nat → Int32 → Int32 → Int32 → (Nat → Int32) → (Nat → Int32) → Int32 → Option (Int32)
  | 0, _, _, _, _, _, _ => none
  | n + 1, v1, v2, v3, p_s_f, p_s_l, p_s_c => (if v1 ≤ v3 then some v2 else mb1 (f_X2_findHolder F v3 p_s_f p_s_l p_s_c) (fun r_2 => (if r_2 = v1 then mn (v2 + (1 : Int32)) (fun v2_6 => mn (v3 + (1 : Int32)) (fun v3_7 => g_X2_countRightInside_4 F n v1 v2_6 v3_7 p_s_f p_s_l p_s_c)) else mn (v3 + (1 : Int32)) (fun v3_5 => g_X2_countRightInside_4 F n v1 v2 v3_5 p_s_f p_s_l p_s_c))))
theorem g_X2_countRightInside_4_z (F : Nat) (v1 : Int32) (v2 : Int32) (v3 : Int32) (p_s_f : Nat → Int32) (p_s_l : Nat → Int32) (p_s_c : Int32) : g_X2_countRightInside_4 F 0 v1 v2 v3 p_s_f p_s_l p_s_c = none := rfl
theorem g_X2_countRightInside_4_s (F : Nat) (n : Nat) (v1 : Int32) (v2 : Int32) (v3 : Int32) (p_s_f : Nat → Int32) (p_s_l : Nat → Int32) (p_s_c : Int32) : g_X2_countRightInside_4 F (n + 1) v1 v2 v3 p_s_f p_s_l p_s_c = (if v1 ≤ v3 then some v2 else mb1 (f_X2_findHolder F v3 p_s_f p_s_l p_s_c) (fun r_2 => (if r_2 = v1 then mn (v2 + (1 : Int32)) (fun v2_6 => mn (v3 + (1 : Int32)) (fun v3_7 => g_X2_countRightInside_4 F n v1 v2_6 v3_7 p_s_f p_s_l p_s_c)) else mn (v3 + (1 : Int32)) (fun v3_5 => g_X2_countRightInside_4 F n v1 v2 v3_5 p_s_f p_s_l p_s_c)))) := rfl
def f_X2_countRightInside (F : Nat) (v1 : Int32) (p_s_f : Nat → Int32) (p_s_l : Nat → Int32) (p_s_c : Int32) : Option (Int32) := g_X2_countRightInside_4 F F v1 (0 : Int32) (0 : Int32) p_s_f p_s_l p_s_c
set_option maxHeartbeats 4000000 in
set_option maxRecDepth 100000 in
theorem k_X2_countRightInside_4 {p : Program} {l : Launch} {e : Env} {s : State} {m : MethodId} {args : Array Value} {below : List Frame} {meth : Method} {c : Code} {D : va_G} {y : Nat → ClassId} {A : Nat → Prop} {q : Nat → Nat} {p_t : Int32} {z : Int32} (C : CX p s m args meth c wsX2_countRightInside RX2 cX2_countRightInside 4 (some .int)) (hA : ∀ q : Nat, s.heap.size ≤ q → A q) (hK : va_K D vwCl (tyl y) s) (F : Nat) :
    ∀ (n : Nat), ∀ (v1 : Int32) (v2 : Int32) (v3 : Int32) (p_s_f : Nat → Int32) (p_s_l : Nat → Int32) (p_s_c : Int32) (H : Heap) (locs : List Loc) (ls : Array Slot), g_X2_countRightInside_4 F n v1 v2 v3 p_s_f p_s_l p_s_c = some z → va_P D vwCl (wdX2 q y p_s_f p_s_l p_s_c p_t) H → va_D A (wdX2 q y p_s_f p_s_l p_s_c p_t) → va_S A s.heap H locs → lv_has ls 4 [(0, .ref (q 0)), (1, .int v1), (2, .int v2), (3, .int v3)] → W p l e ({ frames := 2, cells := 0, slots := 0, locals := 44 } : Room) s m args below meth c H locs 0 0 (MQ below (QI D y A (z) (wdX2 q y p_s_f p_s_l p_s_c p_t)) args s 0 0 A) (F0 m 4 ls []) := by
  obtain ⟨⟨hx, hb, hml, hown, hts⟩, hr, hlocks⟩ := id C
  intro n
  induction n with
  | zero =>
    intro v1 v2 v3 p_s_f p_s_l p_s_c H locs ls hm
    rw [g_X2_countRightInside_4_z] at hm
    cases hm
  | succ n ih =>
    intro v1 v2 v3 p_s_f p_s_l p_s_c H locs ls hm hP hD hS hl
    rw [g_X2_countRightInside_4_s] at hm
    refine lv_iload_n hx hb dX2_countRightInside_4 rfl (lv_at hl 3 rfl) ?_
    refine lv_iload_n hx hb dX2_countRightInside_5 rfl (lv_at hl 1 rfl) ?_
    refine lv_icmp_ge (tgt := 27) hx hb dX2_countRightInside_6 (by decide) (fun h_1 => ?_) (fun h_1 => ?_)
    · have hm := it_of hm h_1
      refine lv_iload_n hx hb dX2_countRightInside_27 rfl (lv_at hl 2 rfl) ?_
      have hz := Option.some.inj hm
      subst hz
      exact end_i C hK hP hD hS dX2_countRightInside_28
    · have hm := ie_of hm h_1
      refine lv_aload_n hx hb dX2_countRightInside_9 rfl (lv_at hl 0 rfl) ?_
      refine lv_iload_n hx hb dX2_countRightInside_10 rfl (lv_at hl 3 rfl) ?_
      obtain ⟨r_2, hc_3, hm⟩ := mb1_of hm
      refine call_vi (wc := (wdX2 q y p_s_f p_s_l p_s_c p_t)) (wr := []) (As := [.int v3]) (rest := []) C (c_X2_findHolder l D y q _ F hc_3) (cwV 1 hts gX2_countRightInside_X2_findHolder rfl rfl rfl (by decide +kernel) ⟨Nat.le_of_ble_eq_true rfl, Nat.le_of_ble_eq_true rfl⟩) hK hP hD hS hA [0, 1, 2, 3] [] rfl rfl rfl rfl rfl (by decide) rfl rfl rfl rfl hl.1 (Nat.le_of_ble_eq_true rfl) dX2_countRightInside_11 (fun H locs hP hD hS => ?_)
      have hP : va_P D vwCl (wdX2 q y p_s_f p_s_l p_s_c p_t) H := hP
      have hD : va_D A (wdX2 q y p_s_f p_s_l p_s_c p_t) := hD
      refine lv_iload_n hx hb dX2_countRightInside_14 rfl (lv_at hl 1 rfl) ?_
      refine lv_icmp_ne (tgt := 21) hx hb dX2_countRightInside_15 (by decide) (fun h_4 => ?_) (fun h_4 => ?_)
      · have hm := ie_of hm h_4
        obtain ⟨v3_5, ev3_5⟩ : ∃ y9 : Int32, y9 = (v3 + (1 : Int32)) := ⟨_, rfl⟩
        have hm := mn_of ev3_5 hm
        refine lv_iinc (v := v3_5) (lv' := [(3, .int v3_5), (0, .ref (q 0)), (1, .int v1), (2, .int v2)]) hx hb dX2_countRightInside_21 hl (k := 3) rfl (by rw [ev3_5]; rfl) (by decide) rfl (fun ls hl => ?_)
        refine lv_goto (tgt := 4) hx hb dX2_countRightInside_24 (by decide) ?_
        exact ih v1 v2 v3_5 p_s_f p_s_l p_s_c _ _ _ hm hP hD hS (lv_sub hl [1, 2, 3, 0] rfl)
      · have hm := it_of hm h_4
        obtain ⟨v2_6, ev2_6⟩ : ∃ y9 : Int32, y9 = (v2 + (1 : Int32)) := ⟨_, rfl⟩
        have hm := mn_of ev2_6 hm
        refine lv_iinc (v := v2_6) (lv' := [(2, .int v2_6), (0, .ref (q 0)), (1, .int v1), (3, .int v3)]) hx hb dX2_countRightInside_18 hl (k := 2) rfl (by rw [ev2_6]; rfl) (by decide) rfl (fun ls hl => ?_)
        obtain ⟨v3_7, ev3_7⟩ : ∃ y9 : Int32, y9 = (v3 + (1 : Int32)) := ⟨_, rfl⟩
        have hm := mn_of ev3_7 hm
        refine lv_iinc (v := v3_7) (lv' := [(3, .int v3_7), (2, .int v2_6), (0, .ref (q 0)), (1, .int v1)]) hx hb dX2_countRightInside_21 hl (k := 3) rfl (by rw [ev3_7]; rfl) (by decide) rfl (fun ls hl => ?_)
        refine lv_goto (tgt := 4) hx hb dX2_countRightInside_24 (by decide) ?_
        exact ih v1 v2_6 v3_7 p_s_f p_s_l p_s_c _ _ _ hm hP hD hS (lv_sub hl [2, 3, 1, 0] rfl)
set_option maxHeartbeats 4000000 in
set_option maxRecDepth 100000 in
theorem c_X2_countRightInside (l : Launch) (D : va_G) (y : Nat → ClassId) (q : Nat → Nat) (sz : Nat) (F : Nat) {v1 : Int32} {p_s_f : Nat → Int32} {p_s_l : Nat → Int32} {p_s_c : Int32} {p_t : Int32} {z : Int32} (hm : f_X2_countRightInside F v1 p_s_f p_s_l p_s_c = some z) : Met l yX2_countRightInside wsX2_countRightInside ({ frames := 2, cells := 0, slots := 0, locals := 44 } : Room) (va_Pc [.ref (q 0), .int v1] (cP D y (wdX2 q y p_s_f p_s_l p_s_c p_t) sz)) (QI D y (va_A (wdX2 q y p_s_f p_s_l p_s_c p_t) sz) (z) (wdX2 q y p_s_f p_s_l p_s_c p_t)) 0 0 (va_A (wdX2 q y p_s_f p_s_l p_s_c p_t) sz) := by
  refine met_of (own := RX2) (cc := cX2_countRightInside) (maxL := 4) (ret := (some .int)) (by decide) rfl rfl (Nat.le_of_ble_eq_true rfl) ?_
  intro p e s m below meth c ls C hsz hK hP hD hA hS hl
  obtain ⟨⟨hx, hb, hml, hown, hts⟩, hr, hlocks⟩ := id C
  have hl : lv_has ls 4 [(0, .ref (q 0)), (1, .int v1)] := hl
  generalize va_A (wdX2 q y p_s_f p_s_l p_s_c p_t) sz = A at hD hA hS ⊢
  generalize ([.ref (q 0), .int v1] : List Value).toArray = args at C hts ⊢
  unfold f_X2_countRightInside at hm
  refine lv_iconst (v := (0 : Int32)) hx hb dX2_countRightInside_0 (by decide) ?_
  refine lv_istore_n (lv' := [(2, .int (0 : Int32)), (0, .ref (q 0)), (1, .int v1)]) hx hb dX2_countRightInside_1 rfl hl (by decide) rfl (fun ls hl => ?_)
  refine lv_iconst (v := (0 : Int32)) hx hb dX2_countRightInside_2 (by decide) ?_
  refine lv_istore_n (lv' := [(3, .int (0 : Int32)), (2, .int (0 : Int32)), (0, .ref (q 0)), (1, .int v1)]) hx hb dX2_countRightInside_3 rfl hl (by decide) rfl (fun ls hl => ?_)
  exact k_X2_countRightInside_4 C hA hK F F v1 (0 : Int32) (0 : Int32) p_s_f p_s_l p_s_c _ _ _ hm hP hD hS (lv_sub hl [2, 3, 1, 0] rfl)
def f_X2_addLast (F : Nat) (v1 : Int32) (p_s_f : Nat → Int32) (p_s_l : Nat → Int32) (p_s_c : Int32) : Option ((Nat → Int32) × (Nat → Int32) × Int32) := mb4 (f_X3_insert F 21 21 p_s_c (0 : Int32) v1 p_s_f p_s_l p_s_c) (fun r_1 p_s_f_2 p_s_l_3 p_s_c_4 => some (p_s_f_2, p_s_l_3, p_s_c_4))
set_option maxRecDepth 20000 in
theorem n_X2_addLast_X2 : ∀ w ∈ wsX20, w ∈ wsX2_addLast := by decide +kernel
set_option maxRecDepth 20000 in
theorem w_X2_addLast_f14 : Cond.fieldLink RX2 14 "LayerStacks$Pressings" "spans" "LLayerStacks$Spans;" ∈ wsX2_addLast := by decide +kernel
set_option maxRecDepth 20000 in
theorem n_X2_addLast_X3 : ∀ w ∈ wsX30, w ∈ wsX2_addLast := by decide +kernel
set_option maxRecDepth 20000 in
theorem w_X2_addLast_f20 : Cond.fieldLink RX2 20 "LayerStacks$Spans" "count" "I" ∈ wsX2_addLast := by decide +kernel
set_option maxHeartbeats 4000000 in
set_option maxRecDepth 100000 in
theorem c_X2_addLast (l : Launch) (D : va_G) (y : Nat → ClassId) (q : Nat → Nat) (sz : Nat) (F : Nat) {v1 : Int32} {p_s_f : Nat → Int32} {p_s_l : Nat → Int32} {p_s_c : Int32} {p_t : Int32} {z : (Nat → Int32) × (Nat → Int32) × Int32} (hm : f_X2_addLast F v1 p_s_f p_s_l p_s_c = some z) : Met l yX2_addLast wsX2_addLast ({ frames := 1, cells := 0, slots := 0, locals := 24 } : Room) (va_Pc [.ref (q 0), .int v1] (cP D y (wdX2 q y p_s_f p_s_l p_s_c p_t) sz)) (QV D y (va_A (wdX2 q y p_s_f p_s_l p_s_c p_t) sz) (wdX2 q y (z.1) (z.2.1) (z.2.2) p_t)) 0 0 (va_A (wdX2 q y p_s_f p_s_l p_s_c p_t) sz) := by
  refine met_of (own := RX2) (cc := cX2_addLast) (maxL := 2) (ret := none) (by decide) rfl rfl (Nat.le_of_ble_eq_true rfl) ?_
  intro p e s m below meth c ls C hsz hK hP hD hA hS hl
  obtain ⟨⟨hx, hb, hml, hown, hts⟩, hr, hlocks⟩ := id C
  have hl : lv_has ls 2 [(0, .ref (q 0)), (1, .int v1)] := hl
  generalize va_A (wdX2 q y p_s_f p_s_l p_s_c p_t) sz = A at hD hA hS ⊢
  generalize ([.ref (q 0), .int v1] : List Value).toArray = args at C hts ⊢
  unfold f_X2_addLast at hm
  refine lv_aload_n hx hb dX2_addLast_0 rfl (lv_at hl 0 rfl) ?_
  refine va_get (D := D) (ci := 2) (v := .ref (q 1)) (C := RX2) (T := TX2) (N := 2) hx hb hts n_X2_addLast_X2 hown hK hP 0 rfl rfl 0 (by decide) (hts _ w_X2_addLast_f14) (fun _ h9 => h9) rfl dX2_addLast_1 ?_
  refine lv_aload_n hx hb dX2_addLast_4 rfl (lv_at hl 0 rfl) ?_
  refine va_get (D := D) (ci := 2) (v := .ref (q 1)) (C := RX2) (T := TX2) (N := 2) hx hb hts n_X2_addLast_X2 hown hK hP 0 rfl rfl 0 (by decide) (hts _ w_X2_addLast_f14) (fun _ h9 => h9) rfl dX2_addLast_5 ?_
  refine va_get (D := D) (ci := 3) (v := .int p_s_c) (C := RX3) (T := TX3) (N := 3) hx hb hts n_X2_addLast_X3 hown hK hP 1 rfl rfl 2 (by decide) (hts _ w_X2_addLast_f20) (fun _ h9 => h9) rfl dX2_addLast_8 ?_
  refine lv_iconst (v := (0 : Int32)) hx hb dX2_addLast_11 (by decide) ?_
  refine lv_iload_n hx hb dX2_addLast_12 rfl (lv_at hl 1 rfl) ?_
  obtain ⟨r_1, p_s_f_2, p_s_l_3, p_s_c_4, hc_5, hm⟩ := mb4_of hm
  refine call_vi (wc := (wdX3 (fun i => q (i + 1)) y 21 21 p_s_f p_s_l p_s_c)) (wr := [(q 0, .inr (2, [.ref (q 1), .int p_t]))]) (As := [.int p_s_c, .int (0 : Int32), .int v1]) (rest := []) C (c_X3_insert l D y (fun i => q (i + 1)) _ F hc_5) (cwV 3 hts gX2_addLast_X3_insert rfl rfl rfl (by decide +kernel) ⟨Nat.le_of_ble_eq_true rfl, Nat.le_of_ble_eq_true rfl⟩) hK hP hD hS hA [1, 2, 3] [0] rfl rfl rfl rfl rfl (by decide) rfl rfl rfl rfl hl.1 (Nat.le_of_ble_eq_true rfl) dX2_addLast_13 (fun H locs hP hD hS => ?_)
  have hP : va_P D vwCl (wdX2 q y p_s_f_2 p_s_l_3 p_s_c_4 p_t) H := hP
  have hD : va_D A (wdX2 q y p_s_f_2 p_s_l_3 p_s_c_4 p_t) := hD
  refine lv_pop hx hb dX2_addLast_16 rfl ?_
  have hz := Option.some.inj hm
  subst hz
  exact end_v C hK hP hD hS dX2_addLast_17
def f_X2_clear (F : Nat) (p_s_c : Int32) (p_t : Int32) : Option (Int32 × Int32) := some ((0 : Int32), (0 : Int32))
set_option maxRecDepth 20000 in
theorem n_X2_clear_X2 : ∀ w ∈ wsX20, w ∈ wsX2_clear := by decide +kernel
set_option maxRecDepth 20000 in
theorem w_X2_clear_f14 : Cond.fieldLink RX2 14 "LayerStacks$Pressings" "spans" "LLayerStacks$Spans;" ∈ wsX2_clear := by decide +kernel
set_option maxRecDepth 20000 in
theorem n_X2_clear_X3 : ∀ w ∈ wsX30, w ∈ wsX2_clear := by decide +kernel
set_option maxRecDepth 20000 in
theorem w_X2_clear_f20 : Cond.fieldLink RX2 20 "LayerStacks$Spans" "count" "I" ∈ wsX2_clear := by decide +kernel
set_option maxRecDepth 20000 in
theorem w_X2_clear_f24 : Cond.fieldLink RX2 24 "LayerStacks$Pressings" "lastIsTold" "Z" ∈ wsX2_clear := by decide +kernel
set_option maxHeartbeats 4000000 in
set_option maxRecDepth 100000 in
theorem c_X2_clear (l : Launch) (D : va_G) (y : Nat → ClassId) (q : Nat → Nat) (sz : Nat) (F : Nat) {p_s_f : Nat → Int32} {p_s_l : Nat → Int32} {p_s_c : Int32} {p_t : Int32} {z : Int32 × Int32} (hm : f_X2_clear F p_s_c p_t = some z) : Met l yX2_clear wsX2_clear ({ frames := 0, cells := 0, slots := 0, locals := 0 } : Room) (va_Pc [.ref (q 0)] (cP D y (wdX2 q y p_s_f p_s_l p_s_c p_t) sz)) (QV D y (va_A (wdX2 q y p_s_f p_s_l p_s_c p_t) sz) (wdX2 q y p_s_f p_s_l (z.1) (z.2))) 0 0 (va_A (wdX2 q y p_s_f p_s_l p_s_c p_t) sz) := by
  refine met_of (own := RX2) (cc := cX2_clear) (maxL := 1) (ret := none) (by decide) rfl rfl (Nat.le_of_ble_eq_true rfl) ?_
  intro p e s m below meth c ls C hsz hK hP hD hA hS hl
  obtain ⟨⟨hx, hb, hml, hown, hts⟩, hr, hlocks⟩ := id C
  have hl : lv_has ls 1 [(0, .ref (q 0))] := hl
  generalize va_A (wdX2 q y p_s_f p_s_l p_s_c p_t) sz = A at hD hA hS ⊢
  generalize ([.ref (q 0)] : List Value).toArray = args at C hts ⊢
  unfold f_X2_clear at hm
  refine lv_aload_n hx hb dX2_clear_0 rfl (lv_at hl 0 rfl) ?_
  refine va_get (D := D) (ci := 2) (v := .ref (q 1)) (C := RX2) (T := TX2) (N := 2) hx hb hts n_X2_clear_X2 hown hK hP 0 rfl rfl 0 (by decide) (hts _ w_X2_clear_f14) (fun _ h9 => h9) rfl dX2_clear_1 ?_
  refine lv_iconst (v := (0 : Int32)) hx hb dX2_clear_4 (by decide) ?_
  refine va_put (D := D) (ci := 3) (v := .int (0 : Int32)) (ty := .int) (C := RX3) (T := TX3) (N := 3) hx hb hts n_X2_clear_X3 tyX3 tyX3_ok nmX3 hown hK hP hD hS 1 rfl rfl 2 (by decide) (hts _ w_X2_clear_f20) (fun _ h9 => h9) rfl (by decide +kernel) rfl rfl (Nat.le_of_ble_eq_true rfl) dX2_clear_5 (fun H locs hP hD hS => ?_)
  have hP : va_P D vwCl (wdX2 q y p_s_f p_s_l (0 : Int32) p_t) H := hP
  have hD : va_D A (wdX2 q y p_s_f p_s_l (0 : Int32) p_t) := hD
  refine lv_aload_n hx hb dX2_clear_8 rfl (lv_at hl 0 rfl) ?_
  refine lv_iconst (v := (0 : Int32)) hx hb dX2_clear_9 (by decide) ?_
  refine va_put (D := D) (ci := 2) (v := .int (0 : Int32)) (ty := .boolean) (C := RX2) (T := TX2) (N := 2) hx hb hts n_X2_clear_X2 tyX2 tyX2_ok nmX2 hown hK hP hD hS 0 rfl rfl 1 (by decide) (hts _ w_X2_clear_f24) (fun _ h9 => h9) rfl (by decide +kernel) rfl rfl (Nat.le_of_ble_eq_true rfl) dX2_clear_10 (fun H locs hP hD hS => ?_)
  have hP : va_P D vwCl (wdX2 q y p_s_f p_s_l (0 : Int32) (0 : Int32)) H := hP
  have hD : va_D A (wdX2 q y p_s_f p_s_l (0 : Int32) (0 : Int32)) := hD
  have hz := Option.some.inj hm
  subst hz
  exact end_v C hK hP hD hS dX2_clear_13
def g_X2_tell_40 (F : Nat) (st0 : Int32) (p_s_f : Nat → Int32) (p_s_l : Nat → Int32) (p_s_c : Int32) (p_t : Int32) : Option (Int32 × (Nat → Int32) × (Nat → Int32) × Int32 × Int32) := (if p_t = 0 then (if st0 = 0 then mg (vp_nar .boolean st0 = st0) (some (st0, p_s_f, p_s_l, p_s_c, (0 : Int32))) else mg (vp_nar .boolean st0 = st0) (some (st0, p_s_f, p_s_l, p_s_c, (1 : Int32)))) else mg (vp_nar .boolean st0 = st0) (some (st0, p_s_f, p_s_l, p_s_c, (1 : Int32))))
def g_X2_tell_69 (F : Nat) : Nat → Int32 → Int32 → Int32 → (Nat → Int32) → (Nat → Int32) → Int32 → Int32 → Option (Int32 × (Nat → Int32) × (Nat → Int32) × Int32 × Int32)
  | 0, _, _, _, _, _, _, _ => none
  | n + 1, v1, v2, v4, p_s_f, p_s_l, p_s_c, p_t => (if p_s_c ≤ v4 then mb1 (f_X2_placeFor F v1 v2 p_s_f p_s_l p_s_c) (fun r_2 => mb4 (f_X3_insert F 21 21 r_2 v1 v2 p_s_f p_s_l p_s_c) (fun r_4 p_s_f_5 p_s_l_6 p_s_c_7 => mg (vp_nar .boolean r_4 = r_4) (some (r_4, p_s_f_5, p_s_l_6, p_s_c_7, p_t)))) else mb1 (f_X2_crosses F v4 v1 v2 p_s_f p_s_l) (fun r_10 => (if r_10 = 0 then mn (v4 + (1 : Int32)) (fun v4_13 => g_X2_tell_69 F n v1 v2 v4_13 p_s_f p_s_l p_s_c p_t) else some ((0 : Int32), p_s_f, p_s_l, p_s_c, p_t))))
theorem g_X2_tell_69_z (F : Nat) (v1 : Int32) (v2 : Int32) (v4 : Int32) (p_s_f : Nat → Int32) (p_s_l : Nat → Int32) (p_s_c : Int32) (p_t : Int32) : g_X2_tell_69 F 0 v1 v2 v4 p_s_f p_s_l p_s_c p_t = none := rfl
theorem g_X2_tell_69_s (F : Nat) (n : Nat) (v1 : Int32) (v2 : Int32) (v4 : Int32) (p_s_f : Nat → Int32) (p_s_l : Nat → Int32) (p_s_c : Int32) (p_t : Int32) : g_X2_tell_69 F (n + 1) v1 v2 v4 p_s_f p_s_l p_s_c p_t = (if p_s_c ≤ v4 then mb1 (f_X2_placeFor F v1 v2 p_s_f p_s_l p_s_c) (fun r_2 => mb4 (f_X3_insert F 21 21 r_2 v1 v2 p_s_f p_s_l p_s_c) (fun r_4 p_s_f_5 p_s_l_6 p_s_c_7 => mg (vp_nar .boolean r_4 = r_4) (some (r_4, p_s_f_5, p_s_l_6, p_s_c_7, p_t)))) else mb1 (f_X2_crosses F v4 v1 v2 p_s_f p_s_l) (fun r_10 => (if r_10 = 0 then mn (v4 + (1 : Int32)) (fun v4_13 => g_X2_tell_69 F n v1 v2 v4_13 p_s_f p_s_l p_s_c p_t) else some ((0 : Int32), p_s_f, p_s_l, p_s_c, p_t)))) := rfl
def f_X2_tell (F : Nat) (v1 : Int32) (v2 : Int32) (p_s_f : Nat → Int32) (p_s_l : Nat → Int32) (p_s_c : Int32) (p_t : Int32) : Option (Int32 × (Nat → Int32) × (Nat → Int32) × Int32 × Int32) := mb1 (f_X3_find F 21 21 v1 v2 p_s_f p_s_l p_s_c) (fun r_1 => (if r_1 = (-1 : Int32) then g_X2_tell_69 F F v1 v2 (0 : Int32) p_s_f p_s_l p_s_c p_t else (if r_1 = (p_s_c - (1 : Int32)) then (if p_t = 0 then g_X2_tell_40 F (1 : Int32) p_s_f p_s_l p_s_c p_t else g_X2_tell_40 F (0 : Int32) p_s_f p_s_l p_s_c p_t) else g_X2_tell_40 F (0 : Int32) p_s_f p_s_l p_s_c p_t)))
set_option maxRecDepth 20000 in
theorem n_X2_tell_X2 : ∀ w ∈ wsX20, w ∈ wsX2_tell := by decide +kernel
set_option maxRecDepth 20000 in
theorem w_X2_tell_f24 : Cond.fieldLink RX2 24 "LayerStacks$Pressings" "lastIsTold" "Z" ∈ wsX2_tell := by decide +kernel
set_option maxRecDepth 20000 in
theorem w_X2_tell_f14 : Cond.fieldLink RX2 14 "LayerStacks$Pressings" "spans" "LLayerStacks$Spans;" ∈ wsX2_tell := by decide +kernel
set_option maxRecDepth 20000 in
theorem n_X2_tell_X3 : ∀ w ∈ wsX30, w ∈ wsX2_tell := by decide +kernel
set_option maxRecDepth 20000 in
theorem w_X2_tell_f20 : Cond.fieldLink RX2 20 "LayerStacks$Spans" "count" "I" ∈ wsX2_tell := by decide +kernel
set_option maxHeartbeats 4000000 in
set_option maxRecDepth 100000 in
theorem k_X2_tell_40 {p : Program} {l : Launch} {e : Env} {s : State} {m : MethodId} {args : Array Value} {below : List Frame} {meth : Method} {c : Code} {D : va_G} {y : Nat → ClassId} {A : Nat → Prop} {q : Nat → Nat} {z : Int32 × (Nat → Int32) × (Nat → Int32) × Int32 × Int32} (C : CX p s m args meth c wsX2_tell RX2 cX2_tell 5 (some .boolean)) (hA : ∀ q : Nat, s.heap.size ≤ q → A q) (hK : va_K D vwCl (tyl y) s) (F : Nat) :
    ∀ (st0 : Int32) (p_s_f : Nat → Int32) (p_s_l : Nat → Int32) (p_s_c : Int32) (p_t : Int32) (H : Heap) (locs : List Loc) (ls : Array Slot), g_X2_tell_40 F st0 p_s_f p_s_l p_s_c p_t = some z → va_P D vwCl (wdX2 q y p_s_f p_s_l p_s_c p_t) H → va_D A (wdX2 q y p_s_f p_s_l p_s_c p_t) → va_S A s.heap H locs → lv_has ls 5 [(0, .ref (q 0))] → W p l e ({ frames := 2, cells := 0, slots := 0, locals := 47 } : Room) s m args below meth c H locs 0 0 (MQ below (QI D y A (z.1) (wdX2 q y (z.2.1) (z.2.2.1) (z.2.2.2.1) (z.2.2.2.2))) args s 0 0 A) (F0 m 40 ls [.int st0]) := by
  obtain ⟨⟨hx, hb, hml, hown, hts⟩, hr, hlocks⟩ := id C
  intro st0 p_s_f p_s_l p_s_c p_t H locs ls hm hP hD hS hl
  unfold g_X2_tell_40 at hm
  refine lv_istore (lv' := [(4, .int st0), (0, .ref (q 0))]) hx hb dX2_tell_40 hl (by decide) rfl (fun ls hl => ?_)
  refine lv_aload_n hx hb dX2_tell_42 rfl (lv_at hl 1 rfl) ?_
  refine lv_aload_n hx hb dX2_tell_43 rfl (lv_at hl 1 rfl) ?_
  refine va_get (D := D) (ci := 2) (v := .int p_t) (C := RX2) (T := TX2) (N := 2) hx hb hts n_X2_tell_X2 hown hK hP 0 rfl rfl 1 (by decide) (hts _ w_X2_tell_f24) (fun _ h9 => h9) rfl dX2_tell_44 ?_
  refine lv_if_ne (tgt := 55) hx hb dX2_tell_47 (by decide) (fun h_1 => ?_) (fun h_1 => ?_)
  · have hm := ie_of hm h_1
    refine lv_iconst (v := (1 : Int32)) hx hb dX2_tell_55 (by decide) ?_
    refine lv_goto (tgt := 60) hx hb dX2_tell_56 (by decide) ?_
    refine va_put (D := D) (ci := 2) (v := .int (1 : Int32)) (ty := .boolean) (C := RX2) (T := TX2) (N := 2) hx hb hts n_X2_tell_X2 tyX2 tyX2_ok nmX2 hown hK hP hD hS 0 rfl rfl 1 (by decide) (hts _ w_X2_tell_f24) (fun _ h9 => h9) rfl (by decide +kernel) rfl rfl (Nat.le_of_ble_eq_true rfl) dX2_tell_60 (fun H locs hP hD hS => ?_)
    have hP : va_P D vwCl (wdX2 q y p_s_f p_s_l p_s_c (1 : Int32)) H := hP
    have hD : va_D A (wdX2 q y p_s_f p_s_l p_s_c (1 : Int32)) := hD
    refine lv_iload hx hb dX2_tell_63 (lv_at hl 0 rfl) ?_
    obtain ⟨hg_2, hm⟩ := mg_of hm
    have hz := Option.some.inj hm
    subst hz
    exact end_z C hK hP hD hS hg_2 dX2_tell_65
  · have hm := it_of hm h_1
    refine lv_iload hx hb dX2_tell_50 (lv_at hl 0 rfl) ?_
    refine lv_if_eq (tgt := 59) hx hb dX2_tell_52 (by decide) (fun h_3 => ?_) (fun h_3 => ?_)
    · have hm := it_of hm h_3
      refine lv_iconst (v := (0 : Int32)) hx hb dX2_tell_59 (by decide) ?_
      refine va_put (D := D) (ci := 2) (v := .int (0 : Int32)) (ty := .boolean) (C := RX2) (T := TX2) (N := 2) hx hb hts n_X2_tell_X2 tyX2 tyX2_ok nmX2 hown hK hP hD hS 0 rfl rfl 1 (by decide) (hts _ w_X2_tell_f24) (fun _ h9 => h9) rfl (by decide +kernel) rfl rfl (Nat.le_of_ble_eq_true rfl) dX2_tell_60 (fun H locs hP hD hS => ?_)
      have hP : va_P D vwCl (wdX2 q y p_s_f p_s_l p_s_c (0 : Int32)) H := hP
      have hD : va_D A (wdX2 q y p_s_f p_s_l p_s_c (0 : Int32)) := hD
      refine lv_iload hx hb dX2_tell_63 (lv_at hl 0 rfl) ?_
      obtain ⟨hg_4, hm⟩ := mg_of hm
      have hz := Option.some.inj hm
      subst hz
      exact end_z C hK hP hD hS hg_4 dX2_tell_65
    · have hm := ie_of hm h_3
      refine lv_iconst (v := (1 : Int32)) hx hb dX2_tell_55 (by decide) ?_
      refine lv_goto (tgt := 60) hx hb dX2_tell_56 (by decide) ?_
      refine va_put (D := D) (ci := 2) (v := .int (1 : Int32)) (ty := .boolean) (C := RX2) (T := TX2) (N := 2) hx hb hts n_X2_tell_X2 tyX2 tyX2_ok nmX2 hown hK hP hD hS 0 rfl rfl 1 (by decide) (hts _ w_X2_tell_f24) (fun _ h9 => h9) rfl (by decide +kernel) rfl rfl (Nat.le_of_ble_eq_true rfl) dX2_tell_60 (fun H locs hP hD hS => ?_)
      have hP : va_P D vwCl (wdX2 q y p_s_f p_s_l p_s_c (1 : Int32)) H := hP
      have hD : va_D A (wdX2 q y p_s_f p_s_l p_s_c (1 : Int32)) := hD
      refine lv_iload hx hb dX2_tell_63 (lv_at hl 0 rfl) ?_
      obtain ⟨hg_5, hm⟩ := mg_of hm
      have hz := Option.some.inj hm
      subst hz
      exact end_z C hK hP hD hS hg_5 dX2_tell_65
set_option maxHeartbeats 4000000 in
set_option maxRecDepth 100000 in
theorem k_X2_tell_69 {p : Program} {l : Launch} {e : Env} {s : State} {m : MethodId} {args : Array Value} {below : List Frame} {meth : Method} {c : Code} {D : va_G} {y : Nat → ClassId} {A : Nat → Prop} {q : Nat → Nat} {z : Int32 × (Nat → Int32) × (Nat → Int32) × Int32 × Int32} (C : CX p s m args meth c wsX2_tell RX2 cX2_tell 5 (some .boolean)) (hA : ∀ q : Nat, s.heap.size ≤ q → A q) (hK : va_K D vwCl (tyl y) s) (F : Nat) :
    ∀ (n : Nat), ∀ (v1 : Int32) (v2 : Int32) (v4 : Int32) (p_s_f : Nat → Int32) (p_s_l : Nat → Int32) (p_s_c : Int32) (p_t : Int32) (H : Heap) (locs : List Loc) (ls : Array Slot), g_X2_tell_69 F n v1 v2 v4 p_s_f p_s_l p_s_c p_t = some z → va_P D vwCl (wdX2 q y p_s_f p_s_l p_s_c p_t) H → va_D A (wdX2 q y p_s_f p_s_l p_s_c p_t) → va_S A s.heap H locs → lv_has ls 5 [(0, .ref (q 0)), (1, .int v1), (2, .int v2), (4, .int v4)] → W p l e ({ frames := 2, cells := 0, slots := 0, locals := 47 } : Room) s m args below meth c H locs 0 0 (MQ below (QI D y A (z.1) (wdX2 q y (z.2.1) (z.2.2.1) (z.2.2.2.1) (z.2.2.2.2))) args s 0 0 A) (F0 m 69 ls []) := by
  obtain ⟨⟨hx, hb, hml, hown, hts⟩, hr, hlocks⟩ := id C
  intro n
  induction n with
  | zero =>
    intro v1 v2 v4 p_s_f p_s_l p_s_c p_t H locs ls hm
    rw [g_X2_tell_69_z] at hm
    cases hm
  | succ n ih =>
    intro v1 v2 v4 p_s_f p_s_l p_s_c p_t H locs ls hm hP hD hS hl
    rw [g_X2_tell_69_s] at hm
    refine lv_iload hx hb dX2_tell_69 (lv_at hl 3 rfl) ?_
    refine lv_aload_n hx hb dX2_tell_71 rfl (lv_at hl 0 rfl) ?_
    refine va_get (D := D) (ci := 2) (v := .ref (q 1)) (C := RX2) (T := TX2) (N := 2) hx hb hts n_X2_tell_X2 hown hK hP 0 rfl rfl 0 (by decide) (hts _ w_X2_tell_f14) (fun _ h9 => h9) rfl dX2_tell_72 ?_
    refine va_get (D := D) (ci := 3) (v := .int p_s_c) (C := RX3) (T := TX3) (N := 3) hx hb hts n_X2_tell_X3 hown hK hP 1 rfl rfl 2 (by decide) (hts _ w_X2_tell_f20) (fun _ h9 => h9) rfl dX2_tell_75 ?_
    refine lv_icmp_ge (tgt := 100) hx hb dX2_tell_78 (by decide) (fun h_1 => ?_) (fun h_1 => ?_)
    · have hm := it_of hm h_1
      refine lv_aload_n hx hb dX2_tell_100 rfl (lv_at hl 0 rfl) ?_
      refine va_get (D := D) (ci := 2) (v := .ref (q 1)) (C := RX2) (T := TX2) (N := 2) hx hb hts n_X2_tell_X2 hown hK hP 0 rfl rfl 0 (by decide) (hts _ w_X2_tell_f14) (fun _ h9 => h9) rfl dX2_tell_101 ?_
      refine lv_aload_n hx hb dX2_tell_104 rfl (lv_at hl 0 rfl) ?_
      refine lv_iload_n hx hb dX2_tell_105 rfl (lv_at hl 1 rfl) ?_
      refine lv_iload_n hx hb dX2_tell_106 rfl (lv_at hl 2 rfl) ?_
      obtain ⟨r_2, hc_3, hm⟩ := mb1_of hm
      refine call_vi (wc := (wdX2 q y p_s_f p_s_l p_s_c p_t)) (wr := []) (As := [.int v1, .int v2]) (rest := [.ref (q 1)]) C (c_X2_placeFor l D y q _ F hc_3) (cwV 2 hts gX2_tell_X2_placeFor rfl rfl rfl (by decide +kernel) ⟨Nat.le_of_ble_eq_true rfl, Nat.le_of_ble_eq_true rfl⟩) hK hP hD hS hA [0, 1, 2, 3] [] rfl rfl rfl rfl rfl (by decide) rfl rfl rfl rfl hl.1 (Nat.le_of_ble_eq_true rfl) dX2_tell_107 (fun H locs hP hD hS => ?_)
      have hP : va_P D vwCl (wdX2 q y p_s_f p_s_l p_s_c p_t) H := hP
      have hD : va_D A (wdX2 q y p_s_f p_s_l p_s_c p_t) := hD
      refine lv_iload_n hx hb dX2_tell_110 rfl (lv_at hl 1 rfl) ?_
      refine lv_iload_n hx hb dX2_tell_111 rfl (lv_at hl 2 rfl) ?_
      obtain ⟨r_4, p_s_f_5, p_s_l_6, p_s_c_7, hc_8, hm⟩ := mb4_of hm
      refine call_vi (wc := (wdX3 (fun i => q (i + 1)) y 21 21 p_s_f p_s_l p_s_c)) (wr := [(q 0, .inr (2, [.ref (q 1), .int p_t]))]) (As := [.int r_2, .int v1, .int v2]) (rest := []) C (c_X3_insert l D y (fun i => q (i + 1)) _ F hc_8) (cwV 3 hts gX2_tell_X3_insert rfl rfl rfl (by decide +kernel) ⟨Nat.le_of_ble_eq_true rfl, Nat.le_of_ble_eq_true rfl⟩) hK hP hD hS hA [1, 2, 3] [0] rfl rfl rfl rfl rfl (by decide) rfl rfl rfl rfl hl.1 (Nat.le_of_ble_eq_true rfl) dX2_tell_112 (fun H locs hP hD hS => ?_)
      have hP : va_P D vwCl (wdX2 q y p_s_f_5 p_s_l_6 p_s_c_7 p_t) H := hP
      have hD : va_D A (wdX2 q y p_s_f_5 p_s_l_6 p_s_c_7 p_t) := hD
      obtain ⟨hg_9, hm⟩ := mg_of hm
      have hz := Option.some.inj hm
      subst hz
      exact end_z C hK hP hD hS hg_9 dX2_tell_115
    · have hm := ie_of hm h_1
      refine lv_aload_n hx hb dX2_tell_81 rfl (lv_at hl 0 rfl) ?_
      refine lv_iload hx hb dX2_tell_82 (lv_at hl 3 rfl) ?_
      refine lv_iload_n hx hb dX2_tell_84 rfl (lv_at hl 1 rfl) ?_
      refine lv_iload_n hx hb dX2_tell_85 rfl (lv_at hl 2 rfl) ?_
      obtain ⟨r_10, hc_11, hm⟩ := mb1_of hm
      refine call_vi (wc := (wdX2 q y p_s_f p_s_l p_s_c p_t)) (wr := []) (As := [.int v4, .int v1, .int v2]) (rest := []) C (c_X2_crosses l D y q _ F hc_11) (cwV 3 hts gX2_tell_X2_crosses rfl rfl rfl (by decide +kernel) ⟨Nat.le_of_ble_eq_true rfl, Nat.le_of_ble_eq_true rfl⟩) hK hP hD hS hA [0, 1, 2, 3] [] rfl rfl rfl rfl rfl (by decide) rfl rfl rfl rfl hl.1 (Nat.le_of_ble_eq_true rfl) dX2_tell_86 (fun H locs hP hD hS => ?_)
      have hP : va_P D vwCl (wdX2 q y p_s_f p_s_l p_s_c p_t) H := hP
      have hD : va_D A (wdX2 q y p_s_f p_s_l p_s_c p_t) := hD
      refine lv_if_eq (tgt := 94) hx hb dX2_tell_89 (by decide) (fun h_12 => ?_) (fun h_12 => ?_)
      · have hm := it_of hm h_12
        obtain ⟨v4_13, ev4_13⟩ : ∃ y9 : Int32, y9 = (v4 + (1 : Int32)) := ⟨_, rfl⟩
        have hm := mn_of ev4_13 hm
        refine lv_iinc (v := v4_13) (lv' := [(4, .int v4_13), (0, .ref (q 0)), (1, .int v1), (2, .int v2)]) hx hb dX2_tell_94 hl (k := 3) rfl (by rw [ev4_13]; rfl) (by decide) rfl (fun ls hl => ?_)
        refine lv_goto (tgt := 69) hx hb dX2_tell_97 (by decide) ?_
        exact ih v1 v2 v4_13 p_s_f p_s_l p_s_c p_t _ _ _ hm hP hD hS (lv_sub hl [1, 2, 3, 0] rfl)
      · have hm := ie_of hm h_12
        refine lv_iconst (v := (0 : Int32)) hx hb dX2_tell_92 (by decide) ?_
        have hz := Option.some.inj hm
        subst hz
        exact end_z C hK hP hD hS (show vp_nar .boolean (0 : Int32) = (0 : Int32) from by decide) dX2_tell_93
set_option maxHeartbeats 4000000 in
set_option maxRecDepth 100000 in
theorem c_X2_tell (l : Launch) (D : va_G) (y : Nat → ClassId) (q : Nat → Nat) (sz : Nat) (F : Nat) {v1 : Int32} {v2 : Int32} {p_s_f : Nat → Int32} {p_s_l : Nat → Int32} {p_s_c : Int32} {p_t : Int32} {z : Int32 × (Nat → Int32) × (Nat → Int32) × Int32 × Int32} (hm : f_X2_tell F v1 v2 p_s_f p_s_l p_s_c p_t = some z) : Met l yX2_tell wsX2_tell ({ frames := 2, cells := 0, slots := 0, locals := 47 } : Room) (va_Pc [.ref (q 0), .int v1, .int v2] (cP D y (wdX2 q y p_s_f p_s_l p_s_c p_t) sz)) (QI D y (va_A (wdX2 q y p_s_f p_s_l p_s_c p_t) sz) (z.1) (wdX2 q y (z.2.1) (z.2.2.1) (z.2.2.2.1) (z.2.2.2.2))) 0 0 (va_A (wdX2 q y p_s_f p_s_l p_s_c p_t) sz) := by
  refine met_of (own := RX2) (cc := cX2_tell) (maxL := 5) (ret := (some .boolean)) (by decide) rfl rfl (Nat.le_of_ble_eq_true rfl) ?_
  intro p e s m below meth c ls C hsz hK hP hD hA hS hl
  obtain ⟨⟨hx, hb, hml, hown, hts⟩, hr, hlocks⟩ := id C
  have hl : lv_has ls 5 [(0, .ref (q 0)), (1, .int v1), (2, .int v2)] := hl
  generalize va_A (wdX2 q y p_s_f p_s_l p_s_c p_t) sz = A at hD hA hS ⊢
  generalize ([.ref (q 0), .int v1, .int v2] : List Value).toArray = args at C hts ⊢
  unfold f_X2_tell at hm
  refine lv_aload_n hx hb dX2_tell_0 rfl (lv_at hl 0 rfl) ?_
  refine va_get (D := D) (ci := 2) (v := .ref (q 1)) (C := RX2) (T := TX2) (N := 2) hx hb hts n_X2_tell_X2 hown hK hP 0 rfl rfl 0 (by decide) (hts _ w_X2_tell_f14) (fun _ h9 => h9) rfl dX2_tell_1 ?_
  refine lv_iload_n hx hb dX2_tell_4 rfl (lv_at hl 1 rfl) ?_
  refine lv_iload_n hx hb dX2_tell_5 rfl (lv_at hl 2 rfl) ?_
  obtain ⟨r_1, hc_2, hm⟩ := mb1_of hm
  refine call_vi (wc := (wdX3 (fun i => q (i + 1)) y 21 21 p_s_f p_s_l p_s_c)) (wr := [(q 0, .inr (2, [.ref (q 1), .int p_t]))]) (As := [.int v1, .int v2]) (rest := []) C (c_X3_find l D y (fun i => q (i + 1)) _ F hc_2) (cwV 2 hts gX2_tell_X3_find rfl rfl rfl (by decide +kernel) ⟨Nat.le_of_ble_eq_true rfl, Nat.le_of_ble_eq_true rfl⟩) hK hP hD hS hA [1, 2, 3] [0] rfl rfl rfl rfl rfl (by decide) rfl rfl rfl rfl hl.1 (Nat.le_of_ble_eq_true rfl) dX2_tell_6 (fun H locs hP hD hS => ?_)
  have hP : va_P D vwCl (wdX2 q y p_s_f p_s_l p_s_c p_t) H := hP
  have hD : va_D A (wdX2 q y p_s_f p_s_l p_s_c p_t) := hD
  refine lv_istore_n (lv' := [(3, .int r_1), (0, .ref (q 0)), (1, .int v1), (2, .int v2)]) hx hb dX2_tell_9 rfl hl (by decide) rfl (fun ls hl => ?_)
  refine lv_iload_n hx hb dX2_tell_10 rfl (lv_at hl 0 rfl) ?_
  refine lv_iconst (v := (-1 : Int32)) hx hb dX2_tell_11 (by decide) ?_
  refine lv_icmp_eq (tgt := 66) hx hb dX2_tell_12 (by decide) (fun h_3 => ?_) (fun h_3 => ?_)
  · have hm := it_of hm h_3
    refine lv_iconst (v := (0 : Int32)) hx hb dX2_tell_66 (by decide) ?_
    refine lv_istore (lv' := [(4, .int (0 : Int32)), (3, .int r_1), (0, .ref (q 0)), (1, .int v1), (2, .int v2)]) hx hb dX2_tell_67 hl (by decide) rfl (fun ls hl => ?_)
    exact k_X2_tell_69 C hA hK F F v1 v2 (0 : Int32) p_s_f p_s_l p_s_c p_t _ _ _ hm hP hD hS (lv_sub hl [2, 3, 4, 0] rfl)
  · have hm := ie_of hm h_3
    refine lv_iload_n hx hb dX2_tell_15 rfl (lv_at hl 0 rfl) ?_
    refine lv_aload_n hx hb dX2_tell_16 rfl (lv_at hl 1 rfl) ?_
    refine va_get (D := D) (ci := 2) (v := .ref (q 1)) (C := RX2) (T := TX2) (N := 2) hx hb hts n_X2_tell_X2 hown hK hP 0 rfl rfl 0 (by decide) (hts _ w_X2_tell_f14) (fun _ h9 => h9) rfl dX2_tell_17 ?_
    refine va_get (D := D) (ci := 3) (v := .int p_s_c) (C := RX3) (T := TX3) (N := 3) hx hb hts n_X2_tell_X3 hown hK hP 1 rfl rfl 2 (by decide) (hts _ w_X2_tell_f20) (fun _ h9 => h9) rfl dX2_tell_20 ?_
    refine lv_iconst (v := (1 : Int32)) hx hb dX2_tell_23 (by decide) ?_
    refine lv_isub hx hb dX2_tell_24 ?_
    refine lv_icmp_ne (tgt := 39) hx hb dX2_tell_25 (by decide) (fun h_4 => ?_) (fun h_4 => ?_)
    · have hm := ie_of hm h_4
      refine lv_iconst (v := (0 : Int32)) hx hb dX2_tell_39 (by decide) ?_
      exact k_X2_tell_40 C hA hK F (0 : Int32) p_s_f p_s_l p_s_c p_t _ _ _ hm hP hD hS (lv_sub hl [1] rfl)
    · have hm := it_of hm h_4
      refine lv_aload_n hx hb dX2_tell_28 rfl (lv_at hl 1 rfl) ?_
      refine va_get (D := D) (ci := 2) (v := .int p_t) (C := RX2) (T := TX2) (N := 2) hx hb hts n_X2_tell_X2 hown hK hP 0 rfl rfl 1 (by decide) (hts _ w_X2_tell_f24) (fun _ h9 => h9) rfl dX2_tell_29 ?_
      refine lv_if_ne (tgt := 39) hx hb dX2_tell_32 (by decide) (fun h_5 => ?_) (fun h_5 => ?_)
      · have hm := ie_of hm h_5
        refine lv_iconst (v := (0 : Int32)) hx hb dX2_tell_39 (by decide) ?_
        exact k_X2_tell_40 C hA hK F (0 : Int32) p_s_f p_s_l p_s_c p_t _ _ _ hm hP hD hS (lv_sub hl [1] rfl)
      · have hm := it_of hm h_5
        refine lv_iconst (v := (1 : Int32)) hx hb dX2_tell_35 (by decide) ?_
        refine lv_goto (tgt := 40) hx hb dX2_tell_36 (by decide) ?_
        exact k_X2_tell_40 C hA hK F (1 : Int32) p_s_f p_s_l p_s_c p_t _ _ _ hm hP hD hS (lv_sub hl [1] rfl)
