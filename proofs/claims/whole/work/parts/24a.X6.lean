def g_X6_commonDivisor_9 (F : Nat) : Nat → Int64 → Int64 → Int32 → Option (Int64)
  | 0, _, _, _ => none
  | n + 1, v4, v6, v8 => (if (100 : Int32) ≤ v8 then some v4 else (if (lg_cmp v6 (0 : Int64)) = 0 then some v4 else mg (¬ v6 = 0) (mn (v4 - v4 / v6 * v6) (fun v9_4 => mn (v8 + (1 : Int32)) (fun v8_5 => g_X6_commonDivisor_9 F n v6 v9_4 v8_5)))))
theorem g_X6_commonDivisor_9_z (F : Nat) (v4 : Int64) (v6 : Int64) (v8 : Int32) : g_X6_commonDivisor_9 F 0 v4 v6 v8 = none := rfl
theorem g_X6_commonDivisor_9_s (F : Nat) (n : Nat) (v4 : Int64) (v6 : Int64) (v8 : Int32) : g_X6_commonDivisor_9 F (n + 1) v4 v6 v8 = (if (100 : Int32) ≤ v8 then some v4 else (if (lg_cmp v6 (0 : Int64)) = 0 then some v4 else mg (¬ v6 = 0) (mn (v4 - v4 / v6 * v6) (fun v9_4 => mn (v8 + (1 : Int32)) (fun v8_5 => g_X6_commonDivisor_9 F n v6 v9_4 v8_5))))) := rfl
def f_X6_commonDivisor (F : Nat) (v0 : Int64) (v2 : Int64) : Option (Int64) := g_X6_commonDivisor_9 F F v0 v2 (0 : Int32)
set_option maxHeartbeats 4000000 in
set_option maxRecDepth 100000 in
theorem k_X6_commonDivisor_9 {p : Program} {l : Launch} {e : Env} {s : State} {m : MethodId} {args : Array Value} {below : List Frame} {meth : Method} {c : Code} {D : va_G} {y : Nat → ClassId} {A : Nat → Prop} {z : Int64} (C : CX p s m args meth c wsX6_commonDivisor RX6 cX6_commonDivisor 11 (some .long)) (hA : ∀ q : Nat, s.heap.size ≤ q → A q) (hK : va_K D vwCl (tyl y) s) (F : Nat) :
    ∀ (n : Nat), ∀ (v4 : Int64) (v6 : Int64) (v8 : Int32) (H : Heap) (locs : List Loc) (ls : Array Slot), g_X6_commonDivisor_9 F n v4 v6 v8 = some z → va_P D vwCl ([] : va_W) H → va_D A ([] : va_W) → va_S A s.heap H locs → lv_has ls 11 [(4, .long v4), (6, .long v6), (8, .int v8)] → W p l e ({ frames := 0, cells := 0, slots := 0, locals := 0 } : Room) s m args below meth c H locs 0 0 (MQ below (QL D y A (z) ([] : va_W)) args s 0 0 A) (F0 m 9 ls []) := by
  obtain ⟨⟨hx, hb, hml, hown, hts⟩, hr, hlocks⟩ := id C
  intro n
  induction n with
  | zero =>
    intro v4 v6 v8 H locs ls hm
    rw [g_X6_commonDivisor_9_z] at hm
    cases hm
  | succ n ih =>
    intro v4 v6 v8 H locs ls hm hP hD hS hl
    rw [g_X6_commonDivisor_9_s] at hm
    refine lv_iload hx hb dX6_commonDivisor_9 (lv_at hl 2 rfl) ?_
    refine lv_bipush (v := (100 : Int32)) hx hb dX6_commonDivisor_11 (by decide) ?_
    refine lv_icmp_ge (tgt := 44) hx hb dX6_commonDivisor_13 (by decide) (fun h_1 => ?_) (fun h_1 => ?_)
    · have hm := it_of hm h_1
      refine lv_lload hx hb dX6_commonDivisor_44 (lv_at hl 0 rfl) ?_
      have hz := Option.some.inj hm
      subst hz
      exact end_l C hK hP hD hS dX6_commonDivisor_46
    · have hm := ie_of hm h_1
      refine lv_lload hx hb dX6_commonDivisor_16 (lv_at hl 1 rfl) ?_
      refine lv_lconst (v := (0 : Int64)) hx hb dX6_commonDivisor_18 (by decide) ?_
      refine W.lcmp hx hb dX6_commonDivisor_19 ?_
      refine lv_if_eq (tgt := 44) hx hb dX6_commonDivisor_20 (by decide) (fun h_2 => ?_) (fun h_2 => ?_)
      · have hm := it_of hm h_2
        refine lv_lload hx hb dX6_commonDivisor_44 (lv_at hl 0 rfl) ?_
        have hz := Option.some.inj hm
        subst hz
        exact end_l C hK hP hD hS dX6_commonDivisor_46
      · have hm := ie_of hm h_2
        refine lv_lload hx hb dX6_commonDivisor_23 (lv_at hl 0 rfl) ?_
        refine lv_lload hx hb dX6_commonDivisor_25 (lv_at hl 1 rfl) ?_
        obtain ⟨hg_3, hm⟩ := mg_of hm
        refine lv_lrem hx hb dX6_commonDivisor_27 hg_3 ?_
        refine lv_topl (fun v9_4 ev9_4 => ?_)
        have hm := mn_of ev9_4 hm
        refine lv_lstore (lv' := [(9, .long v9_4), (4, .long v4), (6, .long v6), (8, .int v8)]) hx hb dX6_commonDivisor_28 hl (by decide) rfl (fun ls hl => ?_)
        refine lv_lload hx hb dX6_commonDivisor_30 (lv_at hl 2 rfl) ?_
        refine lv_lstore (lv' := [(4, .long v6), (9, .long v9_4), (6, .long v6), (8, .int v8)]) hx hb dX6_commonDivisor_32 hl (by decide) rfl (fun ls hl => ?_)
        refine lv_lload hx hb dX6_commonDivisor_34 (lv_at hl 1 rfl) ?_
        refine lv_lstore (lv' := [(6, .long v9_4), (4, .long v6), (9, .long v9_4), (8, .int v8)]) hx hb dX6_commonDivisor_36 hl (by decide) rfl (fun ls hl => ?_)
        obtain ⟨v8_5, ev8_5⟩ : ∃ y9 : Int32, y9 = (v8 + (1 : Int32)) := ⟨_, rfl⟩
        have hm := mn_of ev8_5 hm
        refine lv_iinc (v := v8_5) (lv' := [(8, .int v8_5), (6, .long v9_4), (4, .long v6), (9, .long v9_4)]) hx hb dX6_commonDivisor_38 hl (k := 3) rfl (by rw [ev8_5]; rfl) (by decide) rfl (fun ls hl => ?_)
        refine lv_goto (tgt := 9) hx hb dX6_commonDivisor_41 (by decide) ?_
        exact ih v6 v9_4 v8_5 _ _ _ hm hP hD hS (lv_sub hl [2, 1, 0] rfl)
set_option maxHeartbeats 4000000 in
set_option maxRecDepth 100000 in
theorem c_X6_commonDivisor (l : Launch) (D : va_G) (y : Nat → ClassId) (sz : Nat) (F : Nat) {v0 : Int64} {v2 : Int64} {z : Int64} (hm : f_X6_commonDivisor F v0 v2 = some z) : Met l yX6_commonDivisor wsX6_commonDivisor ({ frames := 0, cells := 0, slots := 0, locals := 0 } : Room) (va_Pc [.long v0, .long v2] (cP D y ([] : va_W) sz)) (QL D y (va_A ([] : va_W) sz) (z) ([] : va_W)) 0 0 (va_A ([] : va_W) sz) := by
  refine met_of (own := RX6) (cc := cX6_commonDivisor) (maxL := 11) (ret := (some .long)) (by decide) rfl rfl (Nat.le_of_ble_eq_true rfl) ?_
  intro p e s m below meth c ls C hsz hK hP hD hA hS hl
  obtain ⟨⟨hx, hb, hml, hown, hts⟩, hr, hlocks⟩ := id C
  have hl : lv_has ls 11 [(0, .long v0), (2, .long v2)] := hl
  generalize va_A ([] : va_W) sz = A at hD hA hS ⊢
  generalize ([.long v0, .long v2] : List Value).toArray = args at C hts ⊢
  unfold f_X6_commonDivisor at hm
  refine lv_lload_n hx hb dX6_commonDivisor_0 rfl (lv_at hl 0 rfl) ?_
  refine lv_lstore (lv' := [(4, .long v0), (0, .long v0), (2, .long v2)]) hx hb dX6_commonDivisor_1 hl (by decide) rfl (fun ls hl => ?_)
  refine lv_lload_n hx hb dX6_commonDivisor_3 rfl (lv_at hl 2 rfl) ?_
  refine lv_lstore (lv' := [(6, .long v2), (4, .long v0), (0, .long v0), (2, .long v2)]) hx hb dX6_commonDivisor_4 hl (by decide) rfl (fun ls hl => ?_)
  refine lv_iconst (v := (0 : Int32)) hx hb dX6_commonDivisor_6 (by decide) ?_
  refine lv_istore (lv' := [(8, .int (0 : Int32)), (6, .long v2), (4, .long v0), (0, .long v0), (2, .long v2)]) hx hb dX6_commonDivisor_7 hl (by decide) rfl (fun ls hl => ?_)
  exact k_X6_commonDivisor_9 C hA hK F F v0 v2 (0 : Int32) _ _ _ hm hP hD hS (lv_sub hl [2, 1, 0] rfl)
def g_X6_partOfFraction_10 (F : Nat) (v0 : Int64) (v2 : Int64) (st0 : Int64) : Option (Int64) := mb1 (f_X6_commonDivisor F v0 v2) (fun r_1 => (if (lg_cmp r_1 (1 : Int64)) ≤ 0 then some st0 else mg (¬ r_1 = 0) (some (st0 / r_1))))
def f_X6_partOfFraction (F : Nat) (v0 : Int64) (v2 : Int64) (v4 : Int32) : Option (Int64) := (if v4 = 0 then g_X6_partOfFraction_10 F v0 v2 v0 else g_X6_partOfFraction_10 F v0 v2 v2)
set_option maxHeartbeats 4000000 in
set_option maxRecDepth 100000 in
theorem k_X6_partOfFraction_10 {p : Program} {l : Launch} {e : Env} {s : State} {m : MethodId} {args : Array Value} {below : List Frame} {meth : Method} {c : Code} {D : va_G} {y : Nat → ClassId} {A : Nat → Prop} {z : Int64} (C : CX p s m args meth c wsX6_partOfFraction RX6 cX6_partOfFraction 9 (some .long)) (hA : ∀ q : Nat, s.heap.size ≤ q → A q) (hK : va_K D vwCl (tyl y) s) (F : Nat) :
    ∀ (v0 : Int64) (v2 : Int64) (st0 : Int64) (H : Heap) (locs : List Loc) (ls : Array Slot), g_X6_partOfFraction_10 F v0 v2 st0 = some z → va_P D vwCl ([] : va_W) H → va_D A ([] : va_W) → va_S A s.heap H locs → lv_has ls 9 [(0, .long v0), (2, .long v2)] → W p l e ({ frames := 1, cells := 0, slots := 0, locals := 30 } : Room) s m args below meth c H locs 0 0 (MQ below (QL D y A (z) ([] : va_W)) args s 0 0 A) (F0 m 10 ls [.long st0]) := by
  obtain ⟨⟨hx, hb, hml, hown, hts⟩, hr, hlocks⟩ := id C
  intro v0 v2 st0 H locs ls hm hP hD hS hl
  unfold g_X6_partOfFraction_10 at hm
  refine lv_lstore (lv' := [(5, .long st0), (0, .long v0), (2, .long v2)]) hx hb dX6_partOfFraction_10 hl (by decide) rfl (fun ls hl => ?_)
  refine lv_lload_n hx hb dX6_partOfFraction_12 rfl (lv_at hl 1 rfl) ?_
  refine lv_lload_n hx hb dX6_partOfFraction_13 rfl (lv_at hl 2 rfl) ?_
  obtain ⟨r_1, hc_2, hm⟩ := mb1_of hm
  refine call_sl (wc := ([] : va_W)) (wr := []) (As := [.long v0, .long v2]) (rest := []) C (c_X6_commonDivisor l D y _ F hc_2) (va_cwS 2 hts gX6_partOfFraction_X6_commonDivisor rfl rfl rfl (by decide +kernel) ⟨Nat.le_of_ble_eq_true rfl, Nat.le_of_ble_eq_true rfl⟩) hK hP hD hS hA [] [] rfl rfl rfl rfl rfl (by decide) rfl hl.1 (Nat.le_of_ble_eq_true rfl) dX6_partOfFraction_14 (fun H locs hP hD hS => ?_)
  have hP : va_P D vwCl ([] : va_W) H := hP
  have hD : va_D A ([] : va_W) := hD
  refine lv_lstore (lv' := [(7, .long r_1), (5, .long st0), (0, .long v0), (2, .long v2)]) hx hb dX6_partOfFraction_17 hl (by decide) rfl (fun ls hl => ?_)
  refine lv_lload hx hb dX6_partOfFraction_19 (lv_at hl 0 rfl) ?_
  refine lv_lconst (v := (1 : Int64)) hx hb dX6_partOfFraction_21 (by decide) ?_
  refine W.lcmp hx hb dX6_partOfFraction_22 ?_
  refine lv_if_le (tgt := 34) hx hb dX6_partOfFraction_23 (by decide) (fun h_3 => ?_) (fun h_3 => ?_)
  · have hm := it_of hm h_3
    refine lv_lload hx hb dX6_partOfFraction_34 (lv_at hl 1 rfl) ?_
    have hz := Option.some.inj hm
    subst hz
    exact end_l C hK hP hD hS dX6_partOfFraction_36
  · have hm := ie_of hm h_3
    refine lv_lload hx hb dX6_partOfFraction_26 (lv_at hl 1 rfl) ?_
    refine lv_lload hx hb dX6_partOfFraction_28 (lv_at hl 0 rfl) ?_
    obtain ⟨hg_4, hm⟩ := mg_of hm
    refine lv_ldiv hx hb dX6_partOfFraction_30 hg_4 ?_
    refine lv_goto (tgt := 36) hx hb dX6_partOfFraction_31 (by decide) ?_
    have hz := Option.some.inj hm
    subst hz
    exact end_l C hK hP hD hS dX6_partOfFraction_36
set_option maxHeartbeats 4000000 in
set_option maxRecDepth 100000 in
theorem c_X6_partOfFraction (l : Launch) (D : va_G) (y : Nat → ClassId) (sz : Nat) (F : Nat) {v0 : Int64} {v2 : Int64} {v4 : Int32} {z : Int64} (hm : f_X6_partOfFraction F v0 v2 v4 = some z) : Met l yX6_partOfFraction wsX6_partOfFraction ({ frames := 1, cells := 0, slots := 0, locals := 30 } : Room) (va_Pc [.long v0, .long v2, .int v4] (cP D y ([] : va_W) sz)) (QL D y (va_A ([] : va_W) sz) (z) ([] : va_W)) 0 0 (va_A ([] : va_W) sz) := by
  refine met_of (own := RX6) (cc := cX6_partOfFraction) (maxL := 9) (ret := (some .long)) (by decide) rfl rfl (Nat.le_of_ble_eq_true rfl) ?_
  intro p e s m below meth c ls C hsz hK hP hD hA hS hl
  obtain ⟨⟨hx, hb, hml, hown, hts⟩, hr, hlocks⟩ := id C
  have hl : lv_has ls 9 [(0, .long v0), (2, .long v2), (4, .int v4)] := hl
  generalize va_A ([] : va_W) sz = A at hD hA hS ⊢
  generalize ([.long v0, .long v2, .int v4] : List Value).toArray = args at C hts ⊢
  unfold f_X6_partOfFraction at hm
  refine lv_iload hx hb dX6_partOfFraction_0 (lv_at hl 2 rfl) ?_
  refine lv_if_ne (tgt := 9) hx hb dX6_partOfFraction_2 (by decide) (fun h_1 => ?_) (fun h_1 => ?_)
  · have hm := ie_of hm h_1
    refine lv_lload_n hx hb dX6_partOfFraction_9 rfl (lv_at hl 1 rfl) ?_
    exact k_X6_partOfFraction_10 C hA hK F v0 v2 v2 _ _ _ hm hP hD hS (lv_sub hl [0, 1] rfl)
  · have hm := it_of hm h_1
    refine lv_lload_n hx hb dX6_partOfFraction_5 rfl (lv_at hl 0 rfl) ?_
    refine lv_goto (tgt := 10) hx hb dX6_partOfFraction_6 (by decide) ?_
    exact k_X6_partOfFraction_10 C hA hK F v0 v2 v0 _ _ _ hm hP hD hS (lv_sub hl [0, 1] rfl)
def f_X6_requireStack (F : Nat) (x_B_L : Int32) : Option (Nat) := (if x_B_L = 0 then some 2 else some 0)
set_option maxRecDepth 20000 in
theorem n_X6_requireStack_X6 : ∀ w ∈ wsX60, w ∈ wsX6_requireStack := by decide +kernel
set_option maxRecDepth 20000 in
theorem w_X6_requireStack_f33 : Cond.fieldLink RX6 33 "LayerStacks" "board" "LLayerStacks$Board;" ∈ wsX6_requireStack := by decide +kernel
set_option maxRecDepth 20000 in
theorem n_X6_requireStack_X0 : ∀ w ∈ wsX00, w ∈ wsX6_requireStack := by decide +kernel
set_option maxRecDepth 20000 in
theorem w_X6_requireStack_f56 : Cond.fieldLink RX6 56 "LayerStacks$Board" "layers" "I" ∈ wsX6_requireStack := by decide +kernel
set_option maxRecDepth 20000 in
theorem x_X6_requireStack_76 : ∀ w ∈ (vx_atS RX6 76 (exN 2) ["java/lang/RuntimeException", "java/lang/Exception"]).filter goodWord, w ∈ wsX6_requireStack := by decide +kernel
set_option maxRecDepth 20000 in
theorem x_X6_requireStack_76b : ∀ w ∈ (vx_atS RX6 76 (exN 2) ["java/lang/RuntimeException", "java/lang/Exception"]).filter (fun w => !goodWord w), w ∈ excW 2 := by decide +kernel
set_option maxRecDepth 20000 in
theorem x_X6_requireStack_76g : ∀ w ∈ Cond.classLink RX6 72 (exN 2) :: Cond.initialized (exN 2) :: (vx_atS RX6 76 (exN 2) ["java/lang/RuntimeException", "java/lang/Exception"]), vx_ot w = true := by decide +kernel
set_option maxRecDepth 20000 in
theorem w_X6_requireStack_l72 : Cond.classLink RX6 72 (exN 2) ∈ wsX6_requireStack := by decide +kernel
set_option maxRecDepth 20000 in
theorem w_X6_requireStack_ie2 : Cond.initialized (exN 2) ∈ wsX6_requireStack := by decide +kernel
set_option maxHeartbeats 4000000 in
set_option maxRecDepth 100000 in
theorem c_X6_requireStack (l : Launch) (D : va_G) (y : Nat → ClassId) (aK aV tA : Nat → Nat) (q : Nat → Nat) (sz : Nat) (F : Nat) (hst : l.stackTraces = false) {x_R_ch : Nat → Int32} {x_R_len : Int32} {x_R_at : Int32} {x_R_ls : Int32} {x_R_fa : Int32} {x_W_ch : Nat → Int32} {x_W_dg : Nat → Int32} {x_W_len : Int32} {x_K_lo : Nat → Nat → Int64} {x_K_hi : Nat → Nat → Int64} {x_K_c : Int32} {x_B_k : Nat → Int32} {x_B_n : Nat → Int64} {x_B_h : Nat → Int32} {x_B_d : Nat → Int32} {x_B_r : Nat → Int32} {x_B_u : Nat → Int32} {x_B_y : Nat → Int32} {x_B_p_s_f : Nat → Int32} {x_B_p_s_l : Nat → Int32} {x_B_p_s_c : Int32} {x_B_p_t : Int32} {x_B_v_f : Nat → Int32} {x_B_v_l : Nat → Int32} {x_B_v_c : Int32} {x_B_L : Int32} {x_B_C : Int32} {x_B_I : Int32} {x_D_k : Nat → Int32} {x_D_n : Nat → Int64} {x_D_h : Nat → Int32} {x_D_d : Nat → Int32} {x_D_r : Nat → Int32} {x_D_u : Nat → Int32} {x_D_y : Nat → Int32} {x_D_p_s_f : Nat → Int32} {x_D_p_s_l : Nat → Int32} {x_D_p_s_c : Int32} {x_D_p_t : Int32} {x_D_v_f : Nat → Int32} {x_D_v_l : Nat → Int32} {x_D_v_c : Int32} {x_D_L : Int32} {x_D_C : Int32} {x_D_I : Int32} {z : Nat} (hm : f_X6_requireStack F x_B_L = some z) : vx_Met l yX6_requireStack wsX6_requireStack ({ frames := 6, cells := 1, slots := 6, locals := 82 } : Room) (va_Pc [.ref (q 0)] (cPX D y aK aV tA (wdX6 q (q 25) (q 40) y x_R_ch x_R_len x_R_at x_R_ls x_R_fa x_W_ch x_W_dg x_W_len x_K_lo x_K_hi x_K_c x_B_k x_B_n x_B_h x_B_d x_B_r x_B_u x_B_y x_B_p_s_f x_B_p_s_l x_B_p_s_c x_B_p_t x_B_v_f x_B_v_l x_B_v_c x_B_L x_B_C x_B_I x_D_k x_D_n x_D_h x_D_d x_D_r x_D_u x_D_y x_D_p_s_f x_D_p_s_l x_D_p_s_c x_D_p_t x_D_v_f x_D_v_l x_D_v_c x_D_L x_D_C x_D_I) sz)) (TV D y (va_A (wdX6 q (q 25) (q 40) y x_R_ch x_R_len x_R_at x_R_ls x_R_fa x_W_ch x_W_dg x_W_len x_K_lo x_K_hi x_K_c x_B_k x_B_n x_B_h x_B_d x_B_r x_B_u x_B_y x_B_p_s_f x_B_p_s_l x_B_p_s_c x_B_p_t x_B_v_f x_B_v_l x_B_v_c x_B_L x_B_C x_B_I x_D_k x_D_n x_D_h x_D_d x_D_r x_D_u x_D_y x_D_p_s_f x_D_p_s_l x_D_p_s_c x_D_p_t x_D_v_f x_D_v_l x_D_v_c x_D_L x_D_C x_D_I) sz) (z) (wdX6 q (q 25) (q 40) y x_R_ch x_R_len x_R_at x_R_ls x_R_fa x_W_ch x_W_dg x_W_len x_K_lo x_K_hi x_K_c x_B_k x_B_n x_B_h x_B_d x_B_r x_B_u x_B_y x_B_p_s_f x_B_p_s_l x_B_p_s_c x_B_p_t x_B_v_f x_B_v_l x_B_v_c x_B_L x_B_C x_B_I x_D_k x_D_n x_D_h x_D_d x_D_r x_D_u x_D_y x_D_p_s_f x_D_p_s_l x_D_p_s_c x_D_p_t x_D_v_f x_D_v_l x_D_v_c x_D_L x_D_C x_D_I)) (XT D y (va_A (wdX6 q (q 25) (q 40) y x_R_ch x_R_len x_R_at x_R_ls x_R_fa x_W_ch x_W_dg x_W_len x_K_lo x_K_hi x_K_c x_B_k x_B_n x_B_h x_B_d x_B_r x_B_u x_B_y x_B_p_s_f x_B_p_s_l x_B_p_s_c x_B_p_t x_B_v_f x_B_v_l x_B_v_c x_B_L x_B_C x_B_I x_D_k x_D_n x_D_h x_D_d x_D_r x_D_u x_D_y x_D_p_s_f x_D_p_s_l x_D_p_s_c x_D_p_t x_D_v_f x_D_v_l x_D_v_c x_D_L x_D_C x_D_I) sz) (z) (wdX6 q (q 25) (q 40) y x_R_ch x_R_len x_R_at x_R_ls x_R_fa x_W_ch x_W_dg x_W_len x_K_lo x_K_hi x_K_c x_B_k x_B_n x_B_h x_B_d x_B_r x_B_u x_B_y x_B_p_s_f x_B_p_s_l x_B_p_s_c x_B_p_t x_B_v_f x_B_v_l x_B_v_c x_B_L x_B_C x_B_I x_D_k x_D_n x_D_h x_D_d x_D_r x_D_u x_D_y x_D_p_s_f x_D_p_s_l x_D_p_s_c x_D_p_t x_D_v_f x_D_v_l x_D_v_c x_D_L x_D_C x_D_I)) 1 6 (va_A (wdX6 q (q 25) (q 40) y x_R_ch x_R_len x_R_at x_R_ls x_R_fa x_W_ch x_W_dg x_W_len x_K_lo x_K_hi x_K_c x_B_k x_B_n x_B_h x_B_d x_B_r x_B_u x_B_y x_B_p_s_f x_B_p_s_l x_B_p_s_c x_B_p_t x_B_v_f x_B_v_l x_B_v_c x_B_L x_B_C x_B_I x_D_k x_D_n x_D_h x_D_d x_D_r x_D_u x_D_y x_D_p_s_f x_D_p_s_l x_D_p_s_c x_D_p_t x_D_v_f x_D_v_l x_D_v_c x_D_L x_D_C x_D_I) sz) := by
  refine met_ofT (own := RX6) (cc := cX6_requireStack) (maxL := 1) (ret := none) (by decide) rfl rfl (Nat.le_of_ble_eq_true rfl) ?_
  intro p e s m below meth c ls C hex hsz hK hP hD hA hS hJ hT hl
  obtain ⟨⟨hx, hb, hml, hown, hts⟩, hr, hlocks⟩ := id C
  have hl : lv_has ls 1 [(0, .ref (q 0))] := hl
  generalize (va_A (wdX6 q (q 25) (q 40) y x_R_ch x_R_len x_R_at x_R_ls x_R_fa x_W_ch x_W_dg x_W_len x_K_lo x_K_hi x_K_c x_B_k x_B_n x_B_h x_B_d x_B_r x_B_u x_B_y x_B_p_s_f x_B_p_s_l x_B_p_s_c x_B_p_t x_B_v_f x_B_v_l x_B_v_c x_B_L x_B_C x_B_I x_D_k x_D_n x_D_h x_D_d x_D_r x_D_u x_D_y x_D_p_s_f x_D_p_s_l x_D_p_s_c x_D_p_t x_D_v_f x_D_v_l x_D_v_c x_D_L x_D_C x_D_I) sz) = A at hD hA hS hJ hT ⊢
  generalize ([.ref (q 0)] : List Value).toArray = args at C hts ⊢
  unfold f_X6_requireStack at hm
  refine lv_aload_n hx hb dX6_requireStack_0 rfl (lv_at hl 0 rfl) ?_
  refine va_get (D := D) (ci := 6) (v := .ref (q 25)) (C := RX6) (T := TX6) (N := 5) hx hb hts n_X6_requireStack_X6 hown hK hP 0 rfl rfl 3 (by decide) (hts _ w_X6_requireStack_f33) (fun _ h9 => h9) rfl dX6_requireStack_1 ?_
  refine va_get (D := D) (ci := 0) (v := .int x_B_L) (C := RX0) (T := TX0) (N := 12) hx hb hts n_X6_requireStack_X0 hown hK hP 25 rfl rfl 9 (by decide) (hts _ w_X6_requireStack_f56) (fun _ h9 => h9) rfl dX6_requireStack_4 ?_
  refine lv_if_ne (tgt := 20) hx hb dX6_requireStack_7 (by decide) (fun h_1 => ?_) (fun h_1 => ?_)
  · have hm := ie_of hm h_1
    have hz := Option.some.inj hm
    subst hz
    exact endT_v C hK hP hD hS (Nat.le_of_ble_eq_true rfl) (Nat.le_of_ble_eq_true rfl) dX6_requireStack_20
  · have hm := it_of hm h_1
    have hz := Option.some.inj hm
    subst hz
    exact throwT (cd := 2) (tA := tA) (w := (wdX6 q (q 25) (q 40) y x_R_ch x_R_len x_R_at x_R_ls x_R_fa x_W_ch x_W_dg x_W_len x_K_lo x_K_hi x_K_c x_B_k x_B_n x_B_h x_B_d x_B_r x_B_u x_B_y x_B_p_s_f x_B_p_s_l x_B_p_s_c x_B_p_t x_B_v_f x_B_v_l x_B_v_c x_B_L x_B_C x_B_I x_D_k x_D_n x_D_h x_D_d x_D_r x_D_u x_D_y x_D_p_s_f x_D_p_s_l x_D_p_s_c x_D_p_t x_D_v_f x_D_v_l x_D_v_c x_D_L x_D_C x_D_I)) (rest := []) C hst hex hT hK hP hD hS hl.1 (by decide) (by decide +kernel) (hts _ w_X6_requireStack_l72) (hts _ w_X6_requireStack_ie2) (hT.2.1 (188, "no stack") (by decide)) x_X6_requireStack_76 x_X6_requireStack_76b (by decide) x_X6_requireStack_76g dX6_requireStack_10 dX6_requireStack_13 dX6_requireStack_14 dX6_requireStack_16 dX6_requireStack_19 (Nat.le_of_ble_eq_true rfl) (Nat.le_of_ble_eq_true rfl) (Nat.le_of_ble_eq_true rfl) (Nat.le_of_ble_eq_true rfl) (Nat.le_of_ble_eq_true rfl) (Nat.le_of_ble_eq_true rfl)
def f_X6_requireLayer (F : Nat) (v1 : Int32) (x_B_L : Int32) : Option (Nat) := (if v1 < 0 then some 1 else (if v1 < x_B_L then some 0 else some 1))
set_option maxRecDepth 20000 in
theorem x_X6_requireLayer_126 : ∀ w ∈ (vx_atS RX6 126 (exN 1) ["java/lang/RuntimeException", "java/lang/Exception"]).filter goodWord, w ∈ wsX6_requireLayer := by decide +kernel
set_option maxRecDepth 20000 in
theorem x_X6_requireLayer_126b : ∀ w ∈ (vx_atS RX6 126 (exN 1) ["java/lang/RuntimeException", "java/lang/Exception"]).filter (fun w => !goodWord w), w ∈ excW 1 := by decide +kernel
set_option maxRecDepth 20000 in
theorem x_X6_requireLayer_126g : ∀ w ∈ Cond.classLink RX6 122 (exN 1) :: Cond.initialized (exN 1) :: (vx_atS RX6 126 (exN 1) ["java/lang/RuntimeException", "java/lang/Exception"]), vx_ot w = true := by decide +kernel
set_option maxRecDepth 20000 in
theorem w_X6_requireLayer_l122 : Cond.classLink RX6 122 (exN 1) ∈ wsX6_requireLayer := by decide +kernel
set_option maxRecDepth 20000 in
theorem w_X6_requireLayer_ie1 : Cond.initialized (exN 1) ∈ wsX6_requireLayer := by decide +kernel
set_option maxRecDepth 20000 in
theorem n_X6_requireLayer_X6 : ∀ w ∈ wsX60, w ∈ wsX6_requireLayer := by decide +kernel
set_option maxRecDepth 20000 in
theorem w_X6_requireLayer_f33 : Cond.fieldLink RX6 33 "LayerStacks" "board" "LLayerStacks$Board;" ∈ wsX6_requireLayer := by decide +kernel
set_option maxRecDepth 20000 in
theorem n_X6_requireLayer_X0 : ∀ w ∈ wsX00, w ∈ wsX6_requireLayer := by decide +kernel
set_option maxRecDepth 20000 in
theorem w_X6_requireLayer_f56 : Cond.fieldLink RX6 56 "LayerStacks$Board" "layers" "I" ∈ wsX6_requireLayer := by decide +kernel
set_option maxHeartbeats 4000000 in
set_option maxRecDepth 100000 in
theorem c_X6_requireLayer (l : Launch) (D : va_G) (y : Nat → ClassId) (aK aV tA : Nat → Nat) (q : Nat → Nat) (sz : Nat) (F : Nat) (hst : l.stackTraces = false) {v1 : Int32} {x_R_ch : Nat → Int32} {x_R_len : Int32} {x_R_at : Int32} {x_R_ls : Int32} {x_R_fa : Int32} {x_W_ch : Nat → Int32} {x_W_dg : Nat → Int32} {x_W_len : Int32} {x_K_lo : Nat → Nat → Int64} {x_K_hi : Nat → Nat → Int64} {x_K_c : Int32} {x_B_k : Nat → Int32} {x_B_n : Nat → Int64} {x_B_h : Nat → Int32} {x_B_d : Nat → Int32} {x_B_r : Nat → Int32} {x_B_u : Nat → Int32} {x_B_y : Nat → Int32} {x_B_p_s_f : Nat → Int32} {x_B_p_s_l : Nat → Int32} {x_B_p_s_c : Int32} {x_B_p_t : Int32} {x_B_v_f : Nat → Int32} {x_B_v_l : Nat → Int32} {x_B_v_c : Int32} {x_B_L : Int32} {x_B_C : Int32} {x_B_I : Int32} {x_D_k : Nat → Int32} {x_D_n : Nat → Int64} {x_D_h : Nat → Int32} {x_D_d : Nat → Int32} {x_D_r : Nat → Int32} {x_D_u : Nat → Int32} {x_D_y : Nat → Int32} {x_D_p_s_f : Nat → Int32} {x_D_p_s_l : Nat → Int32} {x_D_p_s_c : Int32} {x_D_p_t : Int32} {x_D_v_f : Nat → Int32} {x_D_v_l : Nat → Int32} {x_D_v_c : Int32} {x_D_L : Int32} {x_D_C : Int32} {x_D_I : Int32} {z : Nat} (hm : f_X6_requireLayer F v1 x_B_L = some z) : vx_Met l yX6_requireLayer wsX6_requireLayer ({ frames := 6, cells := 1, slots := 6, locals := 82 } : Room) (va_Pc [.ref (q 0), .int v1] (cPX D y aK aV tA (wdX6 q (q 25) (q 40) y x_R_ch x_R_len x_R_at x_R_ls x_R_fa x_W_ch x_W_dg x_W_len x_K_lo x_K_hi x_K_c x_B_k x_B_n x_B_h x_B_d x_B_r x_B_u x_B_y x_B_p_s_f x_B_p_s_l x_B_p_s_c x_B_p_t x_B_v_f x_B_v_l x_B_v_c x_B_L x_B_C x_B_I x_D_k x_D_n x_D_h x_D_d x_D_r x_D_u x_D_y x_D_p_s_f x_D_p_s_l x_D_p_s_c x_D_p_t x_D_v_f x_D_v_l x_D_v_c x_D_L x_D_C x_D_I) sz)) (TV D y (va_A (wdX6 q (q 25) (q 40) y x_R_ch x_R_len x_R_at x_R_ls x_R_fa x_W_ch x_W_dg x_W_len x_K_lo x_K_hi x_K_c x_B_k x_B_n x_B_h x_B_d x_B_r x_B_u x_B_y x_B_p_s_f x_B_p_s_l x_B_p_s_c x_B_p_t x_B_v_f x_B_v_l x_B_v_c x_B_L x_B_C x_B_I x_D_k x_D_n x_D_h x_D_d x_D_r x_D_u x_D_y x_D_p_s_f x_D_p_s_l x_D_p_s_c x_D_p_t x_D_v_f x_D_v_l x_D_v_c x_D_L x_D_C x_D_I) sz) (z) (wdX6 q (q 25) (q 40) y x_R_ch x_R_len x_R_at x_R_ls x_R_fa x_W_ch x_W_dg x_W_len x_K_lo x_K_hi x_K_c x_B_k x_B_n x_B_h x_B_d x_B_r x_B_u x_B_y x_B_p_s_f x_B_p_s_l x_B_p_s_c x_B_p_t x_B_v_f x_B_v_l x_B_v_c x_B_L x_B_C x_B_I x_D_k x_D_n x_D_h x_D_d x_D_r x_D_u x_D_y x_D_p_s_f x_D_p_s_l x_D_p_s_c x_D_p_t x_D_v_f x_D_v_l x_D_v_c x_D_L x_D_C x_D_I)) (XT D y (va_A (wdX6 q (q 25) (q 40) y x_R_ch x_R_len x_R_at x_R_ls x_R_fa x_W_ch x_W_dg x_W_len x_K_lo x_K_hi x_K_c x_B_k x_B_n x_B_h x_B_d x_B_r x_B_u x_B_y x_B_p_s_f x_B_p_s_l x_B_p_s_c x_B_p_t x_B_v_f x_B_v_l x_B_v_c x_B_L x_B_C x_B_I x_D_k x_D_n x_D_h x_D_d x_D_r x_D_u x_D_y x_D_p_s_f x_D_p_s_l x_D_p_s_c x_D_p_t x_D_v_f x_D_v_l x_D_v_c x_D_L x_D_C x_D_I) sz) (z) (wdX6 q (q 25) (q 40) y x_R_ch x_R_len x_R_at x_R_ls x_R_fa x_W_ch x_W_dg x_W_len x_K_lo x_K_hi x_K_c x_B_k x_B_n x_B_h x_B_d x_B_r x_B_u x_B_y x_B_p_s_f x_B_p_s_l x_B_p_s_c x_B_p_t x_B_v_f x_B_v_l x_B_v_c x_B_L x_B_C x_B_I x_D_k x_D_n x_D_h x_D_d x_D_r x_D_u x_D_y x_D_p_s_f x_D_p_s_l x_D_p_s_c x_D_p_t x_D_v_f x_D_v_l x_D_v_c x_D_L x_D_C x_D_I)) 1 6 (va_A (wdX6 q (q 25) (q 40) y x_R_ch x_R_len x_R_at x_R_ls x_R_fa x_W_ch x_W_dg x_W_len x_K_lo x_K_hi x_K_c x_B_k x_B_n x_B_h x_B_d x_B_r x_B_u x_B_y x_B_p_s_f x_B_p_s_l x_B_p_s_c x_B_p_t x_B_v_f x_B_v_l x_B_v_c x_B_L x_B_C x_B_I x_D_k x_D_n x_D_h x_D_d x_D_r x_D_u x_D_y x_D_p_s_f x_D_p_s_l x_D_p_s_c x_D_p_t x_D_v_f x_D_v_l x_D_v_c x_D_L x_D_C x_D_I) sz) := by
  refine met_ofT (own := RX6) (cc := cX6_requireLayer) (maxL := 2) (ret := none) (by decide) rfl rfl (Nat.le_of_ble_eq_true rfl) ?_
  intro p e s m below meth c ls C hex hsz hK hP hD hA hS hJ hT hl
  obtain ⟨⟨hx, hb, hml, hown, hts⟩, hr, hlocks⟩ := id C
  have hl : lv_has ls 2 [(0, .ref (q 0)), (1, .int v1)] := hl
  generalize (va_A (wdX6 q (q 25) (q 40) y x_R_ch x_R_len x_R_at x_R_ls x_R_fa x_W_ch x_W_dg x_W_len x_K_lo x_K_hi x_K_c x_B_k x_B_n x_B_h x_B_d x_B_r x_B_u x_B_y x_B_p_s_f x_B_p_s_l x_B_p_s_c x_B_p_t x_B_v_f x_B_v_l x_B_v_c x_B_L x_B_C x_B_I x_D_k x_D_n x_D_h x_D_d x_D_r x_D_u x_D_y x_D_p_s_f x_D_p_s_l x_D_p_s_c x_D_p_t x_D_v_f x_D_v_l x_D_v_c x_D_L x_D_C x_D_I) sz) = A at hD hA hS hJ hT ⊢
  generalize ([.ref (q 0), .int v1] : List Value).toArray = args at C hts ⊢
  unfold f_X6_requireLayer at hm
  refine lv_iload_n hx hb dX6_requireLayer_0 rfl (lv_at hl 1 rfl) ?_
  refine lv_if_lt (tgt := 15) hx hb dX6_requireLayer_1 (by decide) (fun h_1 => ?_) (fun h_1 => ?_)
  · have hm := it_of hm h_1
    have hz := Option.some.inj hm
    subst hz
    exact throwT (cd := 1) (tA := tA) (w := (wdX6 q (q 25) (q 40) y x_R_ch x_R_len x_R_at x_R_ls x_R_fa x_W_ch x_W_dg x_W_len x_K_lo x_K_hi x_K_c x_B_k x_B_n x_B_h x_B_d x_B_r x_B_u x_B_y x_B_p_s_f x_B_p_s_l x_B_p_s_c x_B_p_t x_B_v_f x_B_v_l x_B_v_c x_B_L x_B_C x_B_I x_D_k x_D_n x_D_h x_D_d x_D_r x_D_u x_D_y x_D_p_s_f x_D_p_s_l x_D_p_s_c x_D_p_t x_D_v_f x_D_v_l x_D_v_c x_D_L x_D_C x_D_I)) (rest := []) C hst hex hT hK hP hD hS hl.1 (by decide) (by decide +kernel) (hts _ w_X6_requireLayer_l122) (hts _ w_X6_requireLayer_ie1) (hT.2.1 (190, "no such layer") (by decide)) x_X6_requireLayer_126 x_X6_requireLayer_126b (by decide) x_X6_requireLayer_126g dX6_requireLayer_15 dX6_requireLayer_18 dX6_requireLayer_19 dX6_requireLayer_21 dX6_requireLayer_24 (Nat.le_of_ble_eq_true rfl) (Nat.le_of_ble_eq_true rfl) (Nat.le_of_ble_eq_true rfl) (Nat.le_of_ble_eq_true rfl) (Nat.le_of_ble_eq_true rfl) (Nat.le_of_ble_eq_true rfl)
  · have hm := ie_of hm h_1
    refine lv_iload_n hx hb dX6_requireLayer_4 rfl (lv_at hl 1 rfl) ?_
    refine lv_aload_n hx hb dX6_requireLayer_5 rfl (lv_at hl 0 rfl) ?_
    refine va_get (D := D) (ci := 6) (v := .ref (q 25)) (C := RX6) (T := TX6) (N := 5) hx hb hts n_X6_requireLayer_X6 hown hK hP 0 rfl rfl 3 (by decide) (hts _ w_X6_requireLayer_f33) (fun _ h9 => h9) rfl dX6_requireLayer_6 ?_
    refine va_get (D := D) (ci := 0) (v := .int x_B_L) (C := RX0) (T := TX0) (N := 12) hx hb hts n_X6_requireLayer_X0 hown hK hP 25 rfl rfl 9 (by decide) (hts _ w_X6_requireLayer_f56) (fun _ h9 => h9) rfl dX6_requireLayer_9 ?_
    refine lv_icmp_lt (tgt := 25) hx hb dX6_requireLayer_12 (by decide) (fun h_2 => ?_) (fun h_2 => ?_)
    · have hm := it_of hm h_2
      have hz := Option.some.inj hm
      subst hz
      exact endT_v C hK hP hD hS (Nat.le_of_ble_eq_true rfl) (Nat.le_of_ble_eq_true rfl) dX6_requireLayer_25
    · have hm := ie_of hm h_2
      have hz := Option.some.inj hm
      subst hz
      exact throwT (cd := 1) (tA := tA) (w := (wdX6 q (q 25) (q 40) y x_R_ch x_R_len x_R_at x_R_ls x_R_fa x_W_ch x_W_dg x_W_len x_K_lo x_K_hi x_K_c x_B_k x_B_n x_B_h x_B_d x_B_r x_B_u x_B_y x_B_p_s_f x_B_p_s_l x_B_p_s_c x_B_p_t x_B_v_f x_B_v_l x_B_v_c x_B_L x_B_C x_B_I x_D_k x_D_n x_D_h x_D_d x_D_r x_D_u x_D_y x_D_p_s_f x_D_p_s_l x_D_p_s_c x_D_p_t x_D_v_f x_D_v_l x_D_v_c x_D_L x_D_C x_D_I)) (rest := []) C hst hex hT hK hP hD hS hl.1 (by decide) (by decide +kernel) (hts _ w_X6_requireLayer_l122) (hts _ w_X6_requireLayer_ie1) (hT.2.1 (190, "no such layer") (by decide)) x_X6_requireLayer_126 x_X6_requireLayer_126b (by decide) x_X6_requireLayer_126g dX6_requireLayer_15 dX6_requireLayer_18 dX6_requireLayer_19 dX6_requireLayer_21 dX6_requireLayer_24 (Nat.le_of_ble_eq_true rfl) (Nat.le_of_ble_eq_true rfl) (Nat.le_of_ble_eq_true rfl) (Nat.le_of_ble_eq_true rfl) (Nat.le_of_ble_eq_true rfl) (Nat.le_of_ble_eq_true rfl)
def f_X6_requireCopper (F : Nat) (v1 : Int32) (x_B_C : Int32) : Option (Nat) := (if v1 < 0 then some 1 else (if v1 < x_B_C then some 0 else some 1))
set_option maxRecDepth 20000 in
theorem x_X6_requireCopper_126 : ∀ w ∈ (vx_atS RX6 126 (exN 1) ["java/lang/RuntimeException", "java/lang/Exception"]).filter goodWord, w ∈ wsX6_requireCopper := by decide +kernel
set_option maxRecDepth 20000 in
theorem x_X6_requireCopper_126b : ∀ w ∈ (vx_atS RX6 126 (exN 1) ["java/lang/RuntimeException", "java/lang/Exception"]).filter (fun w => !goodWord w), w ∈ excW 1 := by decide +kernel
set_option maxRecDepth 20000 in
theorem x_X6_requireCopper_126g : ∀ w ∈ Cond.classLink RX6 122 (exN 1) :: Cond.initialized (exN 1) :: (vx_atS RX6 126 (exN 1) ["java/lang/RuntimeException", "java/lang/Exception"]), vx_ot w = true := by decide +kernel
set_option maxRecDepth 20000 in
theorem w_X6_requireCopper_l122 : Cond.classLink RX6 122 (exN 1) ∈ wsX6_requireCopper := by decide +kernel
set_option maxRecDepth 20000 in
theorem w_X6_requireCopper_ie1 : Cond.initialized (exN 1) ∈ wsX6_requireCopper := by decide +kernel
set_option maxRecDepth 20000 in
theorem n_X6_requireCopper_X6 : ∀ w ∈ wsX60, w ∈ wsX6_requireCopper := by decide +kernel
set_option maxRecDepth 20000 in
theorem w_X6_requireCopper_f33 : Cond.fieldLink RX6 33 "LayerStacks" "board" "LLayerStacks$Board;" ∈ wsX6_requireCopper := by decide +kernel
set_option maxRecDepth 20000 in
theorem n_X6_requireCopper_X0 : ∀ w ∈ wsX00, w ∈ wsX6_requireCopper := by decide +kernel
set_option maxRecDepth 20000 in
theorem w_X6_requireCopper_f192 : Cond.fieldLink RX6 192 "LayerStacks$Board" "coppers" "I" ∈ wsX6_requireCopper := by decide +kernel
set_option maxHeartbeats 4000000 in
set_option maxRecDepth 100000 in
theorem c_X6_requireCopper (l : Launch) (D : va_G) (y : Nat → ClassId) (aK aV tA : Nat → Nat) (q : Nat → Nat) (sz : Nat) (F : Nat) (hst : l.stackTraces = false) {v1 : Int32} {x_R_ch : Nat → Int32} {x_R_len : Int32} {x_R_at : Int32} {x_R_ls : Int32} {x_R_fa : Int32} {x_W_ch : Nat → Int32} {x_W_dg : Nat → Int32} {x_W_len : Int32} {x_K_lo : Nat → Nat → Int64} {x_K_hi : Nat → Nat → Int64} {x_K_c : Int32} {x_B_k : Nat → Int32} {x_B_n : Nat → Int64} {x_B_h : Nat → Int32} {x_B_d : Nat → Int32} {x_B_r : Nat → Int32} {x_B_u : Nat → Int32} {x_B_y : Nat → Int32} {x_B_p_s_f : Nat → Int32} {x_B_p_s_l : Nat → Int32} {x_B_p_s_c : Int32} {x_B_p_t : Int32} {x_B_v_f : Nat → Int32} {x_B_v_l : Nat → Int32} {x_B_v_c : Int32} {x_B_L : Int32} {x_B_C : Int32} {x_B_I : Int32} {x_D_k : Nat → Int32} {x_D_n : Nat → Int64} {x_D_h : Nat → Int32} {x_D_d : Nat → Int32} {x_D_r : Nat → Int32} {x_D_u : Nat → Int32} {x_D_y : Nat → Int32} {x_D_p_s_f : Nat → Int32} {x_D_p_s_l : Nat → Int32} {x_D_p_s_c : Int32} {x_D_p_t : Int32} {x_D_v_f : Nat → Int32} {x_D_v_l : Nat → Int32} {x_D_v_c : Int32} {x_D_L : Int32} {x_D_C : Int32} {x_D_I : Int32} {z : Nat} (hm : f_X6_requireCopper F v1 x_B_C = some z) : vx_Met l yX6_requireCopper wsX6_requireCopper ({ frames := 6, cells := 1, slots := 6, locals := 82 } : Room) (va_Pc [.ref (q 0), .int v1] (cPX D y aK aV tA (wdX6 q (q 25) (q 40) y x_R_ch x_R_len x_R_at x_R_ls x_R_fa x_W_ch x_W_dg x_W_len x_K_lo x_K_hi x_K_c x_B_k x_B_n x_B_h x_B_d x_B_r x_B_u x_B_y x_B_p_s_f x_B_p_s_l x_B_p_s_c x_B_p_t x_B_v_f x_B_v_l x_B_v_c x_B_L x_B_C x_B_I x_D_k x_D_n x_D_h x_D_d x_D_r x_D_u x_D_y x_D_p_s_f x_D_p_s_l x_D_p_s_c x_D_p_t x_D_v_f x_D_v_l x_D_v_c x_D_L x_D_C x_D_I) sz)) (TV D y (va_A (wdX6 q (q 25) (q 40) y x_R_ch x_R_len x_R_at x_R_ls x_R_fa x_W_ch x_W_dg x_W_len x_K_lo x_K_hi x_K_c x_B_k x_B_n x_B_h x_B_d x_B_r x_B_u x_B_y x_B_p_s_f x_B_p_s_l x_B_p_s_c x_B_p_t x_B_v_f x_B_v_l x_B_v_c x_B_L x_B_C x_B_I x_D_k x_D_n x_D_h x_D_d x_D_r x_D_u x_D_y x_D_p_s_f x_D_p_s_l x_D_p_s_c x_D_p_t x_D_v_f x_D_v_l x_D_v_c x_D_L x_D_C x_D_I) sz) (z) (wdX6 q (q 25) (q 40) y x_R_ch x_R_len x_R_at x_R_ls x_R_fa x_W_ch x_W_dg x_W_len x_K_lo x_K_hi x_K_c x_B_k x_B_n x_B_h x_B_d x_B_r x_B_u x_B_y x_B_p_s_f x_B_p_s_l x_B_p_s_c x_B_p_t x_B_v_f x_B_v_l x_B_v_c x_B_L x_B_C x_B_I x_D_k x_D_n x_D_h x_D_d x_D_r x_D_u x_D_y x_D_p_s_f x_D_p_s_l x_D_p_s_c x_D_p_t x_D_v_f x_D_v_l x_D_v_c x_D_L x_D_C x_D_I)) (XT D y (va_A (wdX6 q (q 25) (q 40) y x_R_ch x_R_len x_R_at x_R_ls x_R_fa x_W_ch x_W_dg x_W_len x_K_lo x_K_hi x_K_c x_B_k x_B_n x_B_h x_B_d x_B_r x_B_u x_B_y x_B_p_s_f x_B_p_s_l x_B_p_s_c x_B_p_t x_B_v_f x_B_v_l x_B_v_c x_B_L x_B_C x_B_I x_D_k x_D_n x_D_h x_D_d x_D_r x_D_u x_D_y x_D_p_s_f x_D_p_s_l x_D_p_s_c x_D_p_t x_D_v_f x_D_v_l x_D_v_c x_D_L x_D_C x_D_I) sz) (z) (wdX6 q (q 25) (q 40) y x_R_ch x_R_len x_R_at x_R_ls x_R_fa x_W_ch x_W_dg x_W_len x_K_lo x_K_hi x_K_c x_B_k x_B_n x_B_h x_B_d x_B_r x_B_u x_B_y x_B_p_s_f x_B_p_s_l x_B_p_s_c x_B_p_t x_B_v_f x_B_v_l x_B_v_c x_B_L x_B_C x_B_I x_D_k x_D_n x_D_h x_D_d x_D_r x_D_u x_D_y x_D_p_s_f x_D_p_s_l x_D_p_s_c x_D_p_t x_D_v_f x_D_v_l x_D_v_c x_D_L x_D_C x_D_I)) 1 6 (va_A (wdX6 q (q 25) (q 40) y x_R_ch x_R_len x_R_at x_R_ls x_R_fa x_W_ch x_W_dg x_W_len x_K_lo x_K_hi x_K_c x_B_k x_B_n x_B_h x_B_d x_B_r x_B_u x_B_y x_B_p_s_f x_B_p_s_l x_B_p_s_c x_B_p_t x_B_v_f x_B_v_l x_B_v_c x_B_L x_B_C x_B_I x_D_k x_D_n x_D_h x_D_d x_D_r x_D_u x_D_y x_D_p_s_f x_D_p_s_l x_D_p_s_c x_D_p_t x_D_v_f x_D_v_l x_D_v_c x_D_L x_D_C x_D_I) sz) := by
  refine met_ofT (own := RX6) (cc := cX6_requireCopper) (maxL := 2) (ret := none) (by decide) rfl rfl (Nat.le_of_ble_eq_true rfl) ?_
  intro p e s m below meth c ls C hex hsz hK hP hD hA hS hJ hT hl
  obtain ⟨⟨hx, hb, hml, hown, hts⟩, hr, hlocks⟩ := id C
  have hl : lv_has ls 2 [(0, .ref (q 0)), (1, .int v1)] := hl
  generalize (va_A (wdX6 q (q 25) (q 40) y x_R_ch x_R_len x_R_at x_R_ls x_R_fa x_W_ch x_W_dg x_W_len x_K_lo x_K_hi x_K_c x_B_k x_B_n x_B_h x_B_d x_B_r x_B_u x_B_y x_B_p_s_f x_B_p_s_l x_B_p_s_c x_B_p_t x_B_v_f x_B_v_l x_B_v_c x_B_L x_B_C x_B_I x_D_k x_D_n x_D_h x_D_d x_D_r x_D_u x_D_y x_D_p_s_f x_D_p_s_l x_D_p_s_c x_D_p_t x_D_v_f x_D_v_l x_D_v_c x_D_L x_D_C x_D_I) sz) = A at hD hA hS hJ hT ⊢
  generalize ([.ref (q 0), .int v1] : List Value).toArray = args at C hts ⊢
  unfold f_X6_requireCopper at hm
  refine lv_iload_n hx hb dX6_requireCopper_0 rfl (lv_at hl 1 rfl) ?_
  refine lv_if_lt (tgt := 15) hx hb dX6_requireCopper_1 (by decide) (fun h_1 => ?_) (fun h_1 => ?_)
  · have hm := it_of hm h_1
    have hz := Option.some.inj hm
    subst hz
    exact throwT (cd := 1) (tA := tA) (w := (wdX6 q (q 25) (q 40) y x_R_ch x_R_len x_R_at x_R_ls x_R_fa x_W_ch x_W_dg x_W_len x_K_lo x_K_hi x_K_c x_B_k x_B_n x_B_h x_B_d x_B_r x_B_u x_B_y x_B_p_s_f x_B_p_s_l x_B_p_s_c x_B_p_t x_B_v_f x_B_v_l x_B_v_c x_B_L x_B_C x_B_I x_D_k x_D_n x_D_h x_D_d x_D_r x_D_u x_D_y x_D_p_s_f x_D_p_s_l x_D_p_s_c x_D_p_t x_D_v_f x_D_v_l x_D_v_c x_D_L x_D_C x_D_I)) (rest := []) C hst hex hT hK hP hD hS hl.1 (by decide) (by decide +kernel) (hts _ w_X6_requireCopper_l122) (hts _ w_X6_requireCopper_ie1) (hT.2.1 (195, "no such copper layer") (by decide)) x_X6_requireCopper_126 x_X6_requireCopper_126b (by decide) x_X6_requireCopper_126g dX6_requireCopper_15 dX6_requireCopper_18 dX6_requireCopper_19 dX6_requireCopper_21 dX6_requireCopper_24 (Nat.le_of_ble_eq_true rfl) (Nat.le_of_ble_eq_true rfl) (Nat.le_of_ble_eq_true rfl) (Nat.le_of_ble_eq_true rfl) (Nat.le_of_ble_eq_true rfl) (Nat.le_of_ble_eq_true rfl)
  · have hm := ie_of hm h_1
    refine lv_iload_n hx hb dX6_requireCopper_4 rfl (lv_at hl 1 rfl) ?_
    refine lv_aload_n hx hb dX6_requireCopper_5 rfl (lv_at hl 0 rfl) ?_
    refine va_get (D := D) (ci := 6) (v := .ref (q 25)) (C := RX6) (T := TX6) (N := 5) hx hb hts n_X6_requireCopper_X6 hown hK hP 0 rfl rfl 3 (by decide) (hts _ w_X6_requireCopper_f33) (fun _ h9 => h9) rfl dX6_requireCopper_6 ?_
    refine va_get (D := D) (ci := 0) (v := .int x_B_C) (C := RX0) (T := TX0) (N := 12) hx hb hts n_X6_requireCopper_X0 hown hK hP 25 rfl rfl 10 (by decide) (hts _ w_X6_requireCopper_f192) (fun _ h9 => h9) rfl dX6_requireCopper_9 ?_
    refine lv_icmp_lt (tgt := 25) hx hb dX6_requireCopper_12 (by decide) (fun h_2 => ?_) (fun h_2 => ?_)
    · have hm := it_of hm h_2
      have hz := Option.some.inj hm
      subst hz
      exact endT_v C hK hP hD hS (Nat.le_of_ble_eq_true rfl) (Nat.le_of_ble_eq_true rfl) dX6_requireCopper_25
    · have hm := ie_of hm h_2
      have hz := Option.some.inj hm
      subst hz
      exact throwT (cd := 1) (tA := tA) (w := (wdX6 q (q 25) (q 40) y x_R_ch x_R_len x_R_at x_R_ls x_R_fa x_W_ch x_W_dg x_W_len x_K_lo x_K_hi x_K_c x_B_k x_B_n x_B_h x_B_d x_B_r x_B_u x_B_y x_B_p_s_f x_B_p_s_l x_B_p_s_c x_B_p_t x_B_v_f x_B_v_l x_B_v_c x_B_L x_B_C x_B_I x_D_k x_D_n x_D_h x_D_d x_D_r x_D_u x_D_y x_D_p_s_f x_D_p_s_l x_D_p_s_c x_D_p_t x_D_v_f x_D_v_l x_D_v_c x_D_L x_D_C x_D_I)) (rest := []) C hst hex hT hK hP hD hS hl.1 (by decide) (by decide +kernel) (hts _ w_X6_requireCopper_l122) (hts _ w_X6_requireCopper_ie1) (hT.2.1 (195, "no such copper layer") (by decide)) x_X6_requireCopper_126 x_X6_requireCopper_126b (by decide) x_X6_requireCopper_126g dX6_requireCopper_15 dX6_requireCopper_18 dX6_requireCopper_19 dX6_requireCopper_21 dX6_requireCopper_24 (Nat.le_of_ble_eq_true rfl) (Nat.le_of_ble_eq_true rfl) (Nat.le_of_ble_eq_true rfl) (Nat.le_of_ble_eq_true rfl) (Nat.le_of_ble_eq_true rfl) (Nat.le_of_ble_eq_true rfl)
def f_X6_requireList (F : Nat) (v1 : Int32) (x_K_c : Int32) : Option (Nat) := (if v1 < 0 then some 1 else (if v1 < x_K_c then some 0 else some 1))
set_option maxRecDepth 20000 in
theorem x_X6_requireList_126 : ∀ w ∈ (vx_atS RX6 126 (exN 1) ["java/lang/RuntimeException", "java/lang/Exception"]).filter goodWord, w ∈ wsX6_requireList := by decide +kernel
set_option maxRecDepth 20000 in
theorem x_X6_requireList_126b : ∀ w ∈ (vx_atS RX6 126 (exN 1) ["java/lang/RuntimeException", "java/lang/Exception"]).filter (fun w => !goodWord w), w ∈ excW 1 := by decide +kernel
set_option maxRecDepth 20000 in
theorem x_X6_requireList_126g : ∀ w ∈ Cond.classLink RX6 122 (exN 1) :: Cond.initialized (exN 1) :: (vx_atS RX6 126 (exN 1) ["java/lang/RuntimeException", "java/lang/Exception"]), vx_ot w = true := by decide +kernel
set_option maxRecDepth 20000 in
theorem w_X6_requireList_l122 : Cond.classLink RX6 122 (exN 1) ∈ wsX6_requireList := by decide +kernel
set_option maxRecDepth 20000 in
theorem w_X6_requireList_ie1 : Cond.initialized (exN 1) ∈ wsX6_requireList := by decide +kernel
set_option maxRecDepth 20000 in
theorem n_X6_requireList_X6 : ∀ w ∈ wsX60, w ∈ wsX6_requireList := by decide +kernel
set_option maxRecDepth 20000 in
theorem w_X6_requireList_f26 : Cond.fieldLink RX6 26 "LayerStacks" "makers" "LLayerStacks$MakerLists;" ∈ wsX6_requireList := by decide +kernel
set_option maxRecDepth 20000 in
theorem n_X6_requireList_X1 : ∀ w ∈ wsX10, w ∈ wsX6_requireList := by decide +kernel
set_option maxRecDepth 20000 in
theorem w_X6_requireList_f197 : Cond.fieldLink RX6 197 "LayerStacks$MakerLists" "count" "I" ∈ wsX6_requireList := by decide +kernel
set_option maxHeartbeats 4000000 in
set_option maxRecDepth 100000 in
theorem c_X6_requireList (l : Launch) (D : va_G) (y : Nat → ClassId) (aK aV tA : Nat → Nat) (q : Nat → Nat) (sz : Nat) (F : Nat) (hst : l.stackTraces = false) {v1 : Int32} {x_R_ch : Nat → Int32} {x_R_len : Int32} {x_R_at : Int32} {x_R_ls : Int32} {x_R_fa : Int32} {x_W_ch : Nat → Int32} {x_W_dg : Nat → Int32} {x_W_len : Int32} {x_K_lo : Nat → Nat → Int64} {x_K_hi : Nat → Nat → Int64} {x_K_c : Int32} {x_B_k : Nat → Int32} {x_B_n : Nat → Int64} {x_B_h : Nat → Int32} {x_B_d : Nat → Int32} {x_B_r : Nat → Int32} {x_B_u : Nat → Int32} {x_B_y : Nat → Int32} {x_B_p_s_f : Nat → Int32} {x_B_p_s_l : Nat → Int32} {x_B_p_s_c : Int32} {x_B_p_t : Int32} {x_B_v_f : Nat → Int32} {x_B_v_l : Nat → Int32} {x_B_v_c : Int32} {x_B_L : Int32} {x_B_C : Int32} {x_B_I : Int32} {x_D_k : Nat → Int32} {x_D_n : Nat → Int64} {x_D_h : Nat → Int32} {x_D_d : Nat → Int32} {x_D_r : Nat → Int32} {x_D_u : Nat → Int32} {x_D_y : Nat → Int32} {x_D_p_s_f : Nat → Int32} {x_D_p_s_l : Nat → Int32} {x_D_p_s_c : Int32} {x_D_p_t : Int32} {x_D_v_f : Nat → Int32} {x_D_v_l : Nat → Int32} {x_D_v_c : Int32} {x_D_L : Int32} {x_D_C : Int32} {x_D_I : Int32} {z : Nat} (hm : f_X6_requireList F v1 x_K_c = some z) : vx_Met l yX6_requireList wsX6_requireList ({ frames := 6, cells := 1, slots := 6, locals := 82 } : Room) (va_Pc [.ref (q 0), .int v1] (cPX D y aK aV tA (wdX6 q (q 25) (q 40) y x_R_ch x_R_len x_R_at x_R_ls x_R_fa x_W_ch x_W_dg x_W_len x_K_lo x_K_hi x_K_c x_B_k x_B_n x_B_h x_B_d x_B_r x_B_u x_B_y x_B_p_s_f x_B_p_s_l x_B_p_s_c x_B_p_t x_B_v_f x_B_v_l x_B_v_c x_B_L x_B_C x_B_I x_D_k x_D_n x_D_h x_D_d x_D_r x_D_u x_D_y x_D_p_s_f x_D_p_s_l x_D_p_s_c x_D_p_t x_D_v_f x_D_v_l x_D_v_c x_D_L x_D_C x_D_I) sz)) (TV D y (va_A (wdX6 q (q 25) (q 40) y x_R_ch x_R_len x_R_at x_R_ls x_R_fa x_W_ch x_W_dg x_W_len x_K_lo x_K_hi x_K_c x_B_k x_B_n x_B_h x_B_d x_B_r x_B_u x_B_y x_B_p_s_f x_B_p_s_l x_B_p_s_c x_B_p_t x_B_v_f x_B_v_l x_B_v_c x_B_L x_B_C x_B_I x_D_k x_D_n x_D_h x_D_d x_D_r x_D_u x_D_y x_D_p_s_f x_D_p_s_l x_D_p_s_c x_D_p_t x_D_v_f x_D_v_l x_D_v_c x_D_L x_D_C x_D_I) sz) (z) (wdX6 q (q 25) (q 40) y x_R_ch x_R_len x_R_at x_R_ls x_R_fa x_W_ch x_W_dg x_W_len x_K_lo x_K_hi x_K_c x_B_k x_B_n x_B_h x_B_d x_B_r x_B_u x_B_y x_B_p_s_f x_B_p_s_l x_B_p_s_c x_B_p_t x_B_v_f x_B_v_l x_B_v_c x_B_L x_B_C x_B_I x_D_k x_D_n x_D_h x_D_d x_D_r x_D_u x_D_y x_D_p_s_f x_D_p_s_l x_D_p_s_c x_D_p_t x_D_v_f x_D_v_l x_D_v_c x_D_L x_D_C x_D_I)) (XT D y (va_A (wdX6 q (q 25) (q 40) y x_R_ch x_R_len x_R_at x_R_ls x_R_fa x_W_ch x_W_dg x_W_len x_K_lo x_K_hi x_K_c x_B_k x_B_n x_B_h x_B_d x_B_r x_B_u x_B_y x_B_p_s_f x_B_p_s_l x_B_p_s_c x_B_p_t x_B_v_f x_B_v_l x_B_v_c x_B_L x_B_C x_B_I x_D_k x_D_n x_D_h x_D_d x_D_r x_D_u x_D_y x_D_p_s_f x_D_p_s_l x_D_p_s_c x_D_p_t x_D_v_f x_D_v_l x_D_v_c x_D_L x_D_C x_D_I) sz) (z) (wdX6 q (q 25) (q 40) y x_R_ch x_R_len x_R_at x_R_ls x_R_fa x_W_ch x_W_dg x_W_len x_K_lo x_K_hi x_K_c x_B_k x_B_n x_B_h x_B_d x_B_r x_B_u x_B_y x_B_p_s_f x_B_p_s_l x_B_p_s_c x_B_p_t x_B_v_f x_B_v_l x_B_v_c x_B_L x_B_C x_B_I x_D_k x_D_n x_D_h x_D_d x_D_r x_D_u x_D_y x_D_p_s_f x_D_p_s_l x_D_p_s_c x_D_p_t x_D_v_f x_D_v_l x_D_v_c x_D_L x_D_C x_D_I)) 1 6 (va_A (wdX6 q (q 25) (q 40) y x_R_ch x_R_len x_R_at x_R_ls x_R_fa x_W_ch x_W_dg x_W_len x_K_lo x_K_hi x_K_c x_B_k x_B_n x_B_h x_B_d x_B_r x_B_u x_B_y x_B_p_s_f x_B_p_s_l x_B_p_s_c x_B_p_t x_B_v_f x_B_v_l x_B_v_c x_B_L x_B_C x_B_I x_D_k x_D_n x_D_h x_D_d x_D_r x_D_u x_D_y x_D_p_s_f x_D_p_s_l x_D_p_s_c x_D_p_t x_D_v_f x_D_v_l x_D_v_c x_D_L x_D_C x_D_I) sz) := by
  refine met_ofT (own := RX6) (cc := cX6_requireList) (maxL := 2) (ret := none) (by decide) rfl rfl (Nat.le_of_ble_eq_true rfl) ?_
  intro p e s m below meth c ls C hex hsz hK hP hD hA hS hJ hT hl
  obtain ⟨⟨hx, hb, hml, hown, hts⟩, hr, hlocks⟩ := id C
  have hl : lv_has ls 2 [(0, .ref (q 0)), (1, .int v1)] := hl
  generalize (va_A (wdX6 q (q 25) (q 40) y x_R_ch x_R_len x_R_at x_R_ls x_R_fa x_W_ch x_W_dg x_W_len x_K_lo x_K_hi x_K_c x_B_k x_B_n x_B_h x_B_d x_B_r x_B_u x_B_y x_B_p_s_f x_B_p_s_l x_B_p_s_c x_B_p_t x_B_v_f x_B_v_l x_B_v_c x_B_L x_B_C x_B_I x_D_k x_D_n x_D_h x_D_d x_D_r x_D_u x_D_y x_D_p_s_f x_D_p_s_l x_D_p_s_c x_D_p_t x_D_v_f x_D_v_l x_D_v_c x_D_L x_D_C x_D_I) sz) = A at hD hA hS hJ hT ⊢
  generalize ([.ref (q 0), .int v1] : List Value).toArray = args at C hts ⊢
  unfold f_X6_requireList at hm
  refine lv_iload_n hx hb dX6_requireList_0 rfl (lv_at hl 1 rfl) ?_
  refine lv_if_lt (tgt := 15) hx hb dX6_requireList_1 (by decide) (fun h_1 => ?_) (fun h_1 => ?_)
  · have hm := it_of hm h_1
    have hz := Option.some.inj hm
    subst hz
    exact throwT (cd := 1) (tA := tA) (w := (wdX6 q (q 25) (q 40) y x_R_ch x_R_len x_R_at x_R_ls x_R_fa x_W_ch x_W_dg x_W_len x_K_lo x_K_hi x_K_c x_B_k x_B_n x_B_h x_B_d x_B_r x_B_u x_B_y x_B_p_s_f x_B_p_s_l x_B_p_s_c x_B_p_t x_B_v_f x_B_v_l x_B_v_c x_B_L x_B_C x_B_I x_D_k x_D_n x_D_h x_D_d x_D_r x_D_u x_D_y x_D_p_s_f x_D_p_s_l x_D_p_s_c x_D_p_t x_D_v_f x_D_v_l x_D_v_c x_D_L x_D_C x_D_I)) (rest := []) C hst hex hT hK hP hD hS hl.1 (by decide) (by decide +kernel) (hts _ w_X6_requireList_l122) (hts _ w_X6_requireList_ie1) (hT.2.1 (198, "no such list") (by decide)) x_X6_requireList_126 x_X6_requireList_126b (by decide) x_X6_requireList_126g dX6_requireList_15 dX6_requireList_18 dX6_requireList_19 dX6_requireList_21 dX6_requireList_24 (Nat.le_of_ble_eq_true rfl) (Nat.le_of_ble_eq_true rfl) (Nat.le_of_ble_eq_true rfl) (Nat.le_of_ble_eq_true rfl) (Nat.le_of_ble_eq_true rfl) (Nat.le_of_ble_eq_true rfl)
  · have hm := ie_of hm h_1
    refine lv_iload_n hx hb dX6_requireList_4 rfl (lv_at hl 1 rfl) ?_
    refine lv_aload_n hx hb dX6_requireList_5 rfl (lv_at hl 0 rfl) ?_
    refine va_get (D := D) (ci := 6) (v := .ref (q 6)) (C := RX6) (T := TX6) (N := 5) hx hb hts n_X6_requireList_X6 hown hK hP 0 rfl rfl 2 (by decide) (hts _ w_X6_requireList_f26) (fun _ h9 => h9) rfl dX6_requireList_6 ?_
    refine va_get (D := D) (ci := 1) (v := .int x_K_c) (C := RX1) (T := TX1) (N := 3) hx hb hts n_X6_requireList_X1 hown hK hP 6 rfl rfl 2 (by decide) (hts _ w_X6_requireList_f197) (fun _ h9 => h9) rfl dX6_requireList_9 ?_
    refine lv_icmp_lt (tgt := 25) hx hb dX6_requireList_12 (by decide) (fun h_2 => ?_) (fun h_2 => ?_)
    · have hm := it_of hm h_2
      have hz := Option.some.inj hm
      subst hz
      exact endT_v C hK hP hD hS (Nat.le_of_ble_eq_true rfl) (Nat.le_of_ble_eq_true rfl) dX6_requireList_25
    · have hm := ie_of hm h_2
      have hz := Option.some.inj hm
      subst hz
      exact throwT (cd := 1) (tA := tA) (w := (wdX6 q (q 25) (q 40) y x_R_ch x_R_len x_R_at x_R_ls x_R_fa x_W_ch x_W_dg x_W_len x_K_lo x_K_hi x_K_c x_B_k x_B_n x_B_h x_B_d x_B_r x_B_u x_B_y x_B_p_s_f x_B_p_s_l x_B_p_s_c x_B_p_t x_B_v_f x_B_v_l x_B_v_c x_B_L x_B_C x_B_I x_D_k x_D_n x_D_h x_D_d x_D_r x_D_u x_D_y x_D_p_s_f x_D_p_s_l x_D_p_s_c x_D_p_t x_D_v_f x_D_v_l x_D_v_c x_D_L x_D_C x_D_I)) (rest := []) C hst hex hT hK hP hD hS hl.1 (by decide) (by decide +kernel) (hts _ w_X6_requireList_l122) (hts _ w_X6_requireList_ie1) (hT.2.1 (198, "no such list") (by decide)) x_X6_requireList_126 x_X6_requireList_126b (by decide) x_X6_requireList_126g dX6_requireList_15 dX6_requireList_18 dX6_requireList_19 dX6_requireList_21 dX6_requireList_24 (Nat.le_of_ble_eq_true rfl) (Nat.le_of_ble_eq_true rfl) (Nat.le_of_ble_eq_true rfl) (Nat.le_of_ble_eq_true rfl) (Nat.le_of_ble_eq_true rfl) (Nat.le_of_ble_eq_true rfl)
def f_X6_requireEndAndPart (F : Nat) (v0 : Int32) (v1 : Int32) : Option (Nat) := (if v0 < 0 then some 1 else (if (1 : Int32) < v0 then some 1 else (if v1 < 0 then some 1 else (if v1 ≤ (1 : Int32) then some 0 else some 1))))
set_option maxRecDepth 20000 in
theorem x_X6_requireEndAndPart_126 : ∀ w ∈ (vx_atS RX6 126 (exN 1) ["java/lang/RuntimeException", "java/lang/Exception"]).filter goodWord, w ∈ wsX6_requireEndAndPart := by decide +kernel
set_option maxRecDepth 20000 in
theorem x_X6_requireEndAndPart_126b : ∀ w ∈ (vx_atS RX6 126 (exN 1) ["java/lang/RuntimeException", "java/lang/Exception"]).filter (fun w => !goodWord w), w ∈ excW 1 := by decide +kernel
set_option maxRecDepth 20000 in
theorem x_X6_requireEndAndPart_126g : ∀ w ∈ Cond.classLink RX6 122 (exN 1) :: Cond.initialized (exN 1) :: (vx_atS RX6 126 (exN 1) ["java/lang/RuntimeException", "java/lang/Exception"]), vx_ot w = true := by decide +kernel
set_option maxRecDepth 20000 in
theorem w_X6_requireEndAndPart_l122 : Cond.classLink RX6 122 (exN 1) ∈ wsX6_requireEndAndPart := by decide +kernel
set_option maxRecDepth 20000 in
theorem w_X6_requireEndAndPart_ie1 : Cond.initialized (exN 1) ∈ wsX6_requireEndAndPart := by decide +kernel
set_option maxHeartbeats 4000000 in
set_option maxRecDepth 100000 in
theorem c_X6_requireEndAndPart (l : Launch) (D : va_G) (y : Nat → ClassId) (aK aV tA : Nat → Nat) (sz : Nat) (F : Nat) (hst : l.stackTraces = false) {v0 : Int32} {v1 : Int32} {z : Nat} (hm : f_X6_requireEndAndPart F v0 v1 = some z) : vx_Met l yX6_requireEndAndPart wsX6_requireEndAndPart ({ frames := 6, cells := 1, slots := 6, locals := 82 } : Room) (va_Pc [.int v0, .int v1] (cPX D y aK aV tA ([] : va_W) sz)) (TV D y (va_A ([] : va_W) sz) (z) ([] : va_W)) (XT D y (va_A ([] : va_W) sz) (z) ([] : va_W)) 1 6 (va_A ([] : va_W) sz) := by
  refine met_ofT (own := RX6) (cc := cX6_requireEndAndPart) (maxL := 2) (ret := none) (by decide) rfl rfl (Nat.le_of_ble_eq_true rfl) ?_
  intro p e s m below meth c ls C hex hsz hK hP hD hA hS hJ hT hl
  obtain ⟨⟨hx, hb, hml, hown, hts⟩, hr, hlocks⟩ := id C
  have hl : lv_has ls 2 [(0, .int v0), (1, .int v1)] := hl
  generalize (va_A ([] : va_W) sz) = A at hD hA hS hJ hT ⊢
  generalize ([.int v0, .int v1] : List Value).toArray = args at C hts ⊢
  unfold f_X6_requireEndAndPart at hm
  refine lv_iload_n hx hb dX6_requireEndAndPart_0 rfl (lv_at hl 0 rfl) ?_
  refine lv_if_lt (tgt := 18) hx hb dX6_requireEndAndPart_1 (by decide) (fun h_1 => ?_) (fun h_1 => ?_)
  · have hm := it_of hm h_1
    have hz := Option.some.inj hm
    subst hz
    exact throwT (cd := 1) (tA := tA) (w := ([] : va_W)) (rest := []) C hst hex hT hK hP hD hS hl.1 (by decide) (by decide +kernel) (hts _ w_X6_requireEndAndPart_l122) (hts _ w_X6_requireEndAndPart_ie1) (hT.2.1 (200, "no such end or part") (by decide)) x_X6_requireEndAndPart_126 x_X6_requireEndAndPart_126b (by decide) x_X6_requireEndAndPart_126g dX6_requireEndAndPart_18 dX6_requireEndAndPart_21 dX6_requireEndAndPart_22 dX6_requireEndAndPart_24 dX6_requireEndAndPart_27 (Nat.le_of_ble_eq_true rfl) (Nat.le_of_ble_eq_true rfl) (Nat.le_of_ble_eq_true rfl) (Nat.le_of_ble_eq_true rfl) (Nat.le_of_ble_eq_true rfl) (Nat.le_of_ble_eq_true rfl)
  · have hm := ie_of hm h_1
    refine lv_iload_n hx hb dX6_requireEndAndPart_4 rfl (lv_at hl 0 rfl) ?_
    refine lv_iconst (v := (1 : Int32)) hx hb dX6_requireEndAndPart_5 (by decide) ?_
    refine lv_icmp_gt (tgt := 18) hx hb dX6_requireEndAndPart_6 (by decide) (fun h_2 => ?_) (fun h_2 => ?_)
    · have hm := it_of hm h_2
      have hz := Option.some.inj hm
      subst hz
      exact throwT (cd := 1) (tA := tA) (w := ([] : va_W)) (rest := []) C hst hex hT hK hP hD hS hl.1 (by decide) (by decide +kernel) (hts _ w_X6_requireEndAndPart_l122) (hts _ w_X6_requireEndAndPart_ie1) (hT.2.1 (200, "no such end or part") (by decide)) x_X6_requireEndAndPart_126 x_X6_requireEndAndPart_126b (by decide) x_X6_requireEndAndPart_126g dX6_requireEndAndPart_18 dX6_requireEndAndPart_21 dX6_requireEndAndPart_22 dX6_requireEndAndPart_24 dX6_requireEndAndPart_27 (Nat.le_of_ble_eq_true rfl) (Nat.le_of_ble_eq_true rfl) (Nat.le_of_ble_eq_true rfl) (Nat.le_of_ble_eq_true rfl) (Nat.le_of_ble_eq_true rfl) (Nat.le_of_ble_eq_true rfl)
    · have hm := ie_of hm h_2
      refine lv_iload_n hx hb dX6_requireEndAndPart_9 rfl (lv_at hl 1 rfl) ?_
      refine lv_if_lt (tgt := 18) hx hb dX6_requireEndAndPart_10 (by decide) (fun h_3 => ?_) (fun h_3 => ?_)
      · have hm := it_of hm h_3
        have hz := Option.some.inj hm
        subst hz
        exact throwT (cd := 1) (tA := tA) (w := ([] : va_W)) (rest := []) C hst hex hT hK hP hD hS hl.1 (by decide) (by decide +kernel) (hts _ w_X6_requireEndAndPart_l122) (hts _ w_X6_requireEndAndPart_ie1) (hT.2.1 (200, "no such end or part") (by decide)) x_X6_requireEndAndPart_126 x_X6_requireEndAndPart_126b (by decide) x_X6_requireEndAndPart_126g dX6_requireEndAndPart_18 dX6_requireEndAndPart_21 dX6_requireEndAndPart_22 dX6_requireEndAndPart_24 dX6_requireEndAndPart_27 (Nat.le_of_ble_eq_true rfl) (Nat.le_of_ble_eq_true rfl) (Nat.le_of_ble_eq_true rfl) (Nat.le_of_ble_eq_true rfl) (Nat.le_of_ble_eq_true rfl) (Nat.le_of_ble_eq_true rfl)
      · have hm := ie_of hm h_3
        refine lv_iload_n hx hb dX6_requireEndAndPart_13 rfl (lv_at hl 1 rfl) ?_
        refine lv_iconst (v := (1 : Int32)) hx hb dX6_requireEndAndPart_14 (by decide) ?_
        refine lv_icmp_le (tgt := 28) hx hb dX6_requireEndAndPart_15 (by decide) (fun h_4 => ?_) (fun h_4 => ?_)
        · have hm := it_of hm h_4
          have hz := Option.some.inj hm
          subst hz
          exact endT_v C hK hP hD hS (Nat.le_of_ble_eq_true rfl) (Nat.le_of_ble_eq_true rfl) dX6_requireEndAndPart_28
        · have hm := ie_of hm h_4
          have hz := Option.some.inj hm
          subst hz
          exact throwT (cd := 1) (tA := tA) (w := ([] : va_W)) (rest := []) C hst hex hT hK hP hD hS hl.1 (by decide) (by decide +kernel) (hts _ w_X6_requireEndAndPart_l122) (hts _ w_X6_requireEndAndPart_ie1) (hT.2.1 (200, "no such end or part") (by decide)) x_X6_requireEndAndPart_126 x_X6_requireEndAndPart_126b (by decide) x_X6_requireEndAndPart_126g dX6_requireEndAndPart_18 dX6_requireEndAndPart_21 dX6_requireEndAndPart_22 dX6_requireEndAndPart_24 dX6_requireEndAndPart_27 (Nat.le_of_ble_eq_true rfl) (Nat.le_of_ble_eq_true rfl) (Nat.le_of_ble_eq_true rfl) (Nat.le_of_ble_eq_true rfl) (Nat.le_of_ble_eq_true rfl) (Nat.le_of_ble_eq_true rfl)
