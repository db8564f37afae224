def g_J7_fill_d0a16_6 (F : Nat) (an : Nat) : Nat → Int64 → Int32 → Int32 → (Nat → Int64) → Option ((Nat → Int64))
  | 0, _, _, _, _ => none
  | n + 1, v1, v3, v4, a => (if v4 ≤ v3 then some a else mg (inb v3 an) (mn (v3 + (1 : Int32)) (fun v3_3 => g_J7_fill_d0a16_6 F an n v1 v3_3 v4 (vp_updL a (v3).toNatClampNeg v1))))
theorem g_J7_fill_d0a16_6_z (F : Nat) (an : Nat) (v1 : Int64) (v3 : Int32) (v4 : Int32) (a : Nat → Int64) : g_J7_fill_d0a16_6 F an 0 v1 v3 v4 a = none := rfl
theorem g_J7_fill_d0a16_6_s (F : Nat) (an : Nat) (n : Nat) (v1 : Int64) (v3 : Int32) (v4 : Int32) (a : Nat → Int64) : g_J7_fill_d0a16_6 F an (n + 1) v1 v3 v4 a = (if v4 ≤ v3 then some a else mg (inb v3 an) (mn (v3 + (1 : Int32)) (fun v3_3 => g_J7_fill_d0a16_6 F an n v1 v3_3 v4 (vp_updL a (v3).toNatClampNeg v1)))) := rfl
def f_J7_fill_d0a16 (F : Nat) (an : Nat) (v1 : Int64) (a : Nat → Int64) : Option ((Nat → Int64)) := mn (Int32.ofNat an) (fun v4_1 => g_J7_fill_d0a16_6 F an F v1 (0 : Int32) v4_1 a)
set_option maxHeartbeats 4000000 in
set_option maxRecDepth 100000 in
theorem k_J7_fill_d0a16_6 {p : Program} {l : Launch} {e : Env} {s : State} {m : MethodId} {args : Array Value} {below : List Frame} {meth : Method} {c : Code} {D : va_G} {y : Nat → ClassId} {A : Nat → Prop} {q : Nat → Nat} {an : Nat} {z : (Nat → Int64)} (C : CX p s m args meth c wsJ7_fill_d0a16 RJ7 cJ7_fill_d0a16 5 none) (hA : ∀ q : Nat, s.heap.size ≤ q → A q) (hK : va_K D vwCl (tyl y) s) (F : Nat) :
    ∀ (n : Nat), ∀ (v1 : Int64) (v3 : Int32) (v4 : Int32) (a : Nat → Int64) (H : Heap) (locs : List Loc) (ls : Array Slot), g_J7_fill_d0a16_6 F an n v1 v3 v4 a = some z → va_P D vwCl (wdAJ q y an a) H → va_D A (wdAJ q y an a) → va_S A s.heap H locs → lv_has ls 5 [(0, .ref (q 0)), (1, .long v1), (3, .int v3), (4, .int v4)] → W p l e ({ frames := 0, cells := 0, slots := 0, locals := 0 } : Room) s m args below meth c H locs 0 0 (MQ below (QV D y A (wdAJ q y an z)) args s 0 0 A) (F0 m 6 ls []) := by
  obtain ⟨⟨hx, hb, hml, hown, hts⟩, hr, hlocks⟩ := id C
  intro n
  induction n with
  | zero =>
    intro v1 v3 v4 a H locs ls hm
    rw [g_J7_fill_d0a16_6_z] at hm
    cases hm
  | succ n ih =>
    intro v1 v3 v4 a H locs ls hm hP hD hS hl
    rw [g_J7_fill_d0a16_6_s] at hm
    refine lv_iload_n hx hb dJ7_fill_d0a16_6 rfl (lv_at hl 2 rfl) ?_
    refine lv_iload hx hb dJ7_fill_d0a16_7 (lv_at hl 3 rfl) ?_
    refine lv_icmp_ge (tgt := 22) hx hb dJ7_fill_d0a16_9 (by decide) (fun h_1 => ?_) (fun h_1 => ?_)
    · have hm := it_of hm h_1
      have hz := Option.some.inj hm
      subst hz
      exact end_v C hK hP hD hS dJ7_fill_d0a16_22
    · have hm := ie_of hm h_1
      refine lv_aload_n hx hb dJ7_fill_d0a16_12 rfl (lv_at hl 0 rfl) ?_
      refine lv_iload_n hx hb dJ7_fill_d0a16_13 rfl (lv_at hl 2 rfl) ?_
      refine lv_lload_n hx hb dJ7_fill_d0a16_14 rfl (lv_at hl 1 rfl) ?_
      obtain ⟨hg_2, hm⟩ := mg_of hm
      refine va_last hx hb hK hP hD hS 0 1 rfl rfl hg_2 dJ7_fill_d0a16_15 (fun H locs hP hD hS => ?_)
      have hP : va_P D vwCl (wdAJ q y an (vp_updL a (v3).toNatClampNeg v1)) H := hP
      have hD : va_D A (wdAJ q y an (vp_updL a (v3).toNatClampNeg v1)) := hD
      obtain ⟨v3_3, ev3_3⟩ : ∃ y9 : Int32, y9 = (v3 + (1 : Int32)) := ⟨_, rfl⟩
      have hm := mn_of ev3_3 hm
      refine lv_iinc (v := v3_3) (lv' := [(3, .int v3_3), (0, .ref (q 0)), (1, .long v1), (4, .int v4)]) hx hb dJ7_fill_d0a16_16 hl (k := 2) rfl (by rw [ev3_3]; rfl) (by decide) rfl (fun ls hl => ?_)
      refine lv_goto (tgt := 6) hx hb dJ7_fill_d0a16_19 (by decide) ?_
      exact ih v1 v3_3 v4 (vp_updL a (v3).toNatClampNeg v1) _ _ _ hm hP hD hS (lv_sub hl [1, 2, 0, 3] rfl)
set_option maxHeartbeats 4000000 in
set_option maxRecDepth 100000 in
theorem c_J7_fill_d0a16 (l : Launch) (D : va_G) (y : Nat → ClassId) (q : Nat → Nat) (sz : Nat) (F : Nat) {an : Nat} {v1 : Int64} {a : Nat → Int64} {z : (Nat → Int64)} (hm : f_J7_fill_d0a16 F an v1 a = some z) : Met l yJ7_fill_d0a16 wsJ7_fill_d0a16 ({ frames := 0, cells := 0, slots := 0, locals := 0 } : Room) (va_Pc [.ref (q 0), .long v1] (cP D y (wdAJ q y an a) sz)) (QV D y (va_A (wdAJ q y an a) sz) (wdAJ q y an z)) 0 0 (va_A (wdAJ q y an a) sz) := by
  refine met_of (own := RJ7) (cc := cJ7_fill_d0a16) (maxL := 5) (ret := none) (by decide) rfl rfl (Nat.le_of_ble_eq_true rfl) ?_
  intro p e s m below meth c ls C hsz hK hP hD hA hS hl
  obtain ⟨⟨hx, hb, hml, hown, hts⟩, hr, hlocks⟩ := id C
  have hl : lv_has ls 5 [(0, .ref (q 0)), (1, .long v1)] := hl
  generalize va_A (wdAJ q y an a) sz = A at hD hA hS ⊢
  generalize ([.ref (q 0), .long v1] : List Value).toArray = args at C hts ⊢
  unfold f_J7_fill_d0a16 at hm
  refine lv_iconst (v := (0 : Int32)) hx hb dJ7_fill_d0a16_0 (by decide) ?_
  refine lv_istore_n (lv' := [(3, .int (0 : Int32)), (0, .ref (q 0)), (1, .long v1)]) hx hb dJ7_fill_d0a16_1 rfl hl (by decide) rfl (fun ls hl => ?_)
  refine lv_aload_n hx hb dJ7_fill_d0a16_2 rfl (lv_at hl 1 rfl) ?_
  refine va_alen (v := (Int32.ofNat an)) hx hb hK hP 0 1 rfl rfl rfl dJ7_fill_d0a16_3 ?_
  refine lv_topi (fun v4_1 ev4_1 => ?_)
  have hm := mn_of ev4_1 hm
  refine lv_istore (lv' := [(4, .int v4_1), (3, .int (0 : Int32)), (0, .ref (q 0)), (1, .long v1)]) hx hb dJ7_fill_d0a16_4 hl (by decide) rfl (fun ls hl => ?_)
  exact k_J7_fill_d0a16_6 C hA hK F F v1 (0 : Int32) v4_1 a _ _ _ hm hP hD hS (lv_sub hl [2, 3, 1, 0] rfl)
def f_X1_open (F : Nat) (k_lo : Nat → Nat → Int64) (k_c : Int32) : Option (Int32 × (Nat → Nat → Int64) × Int32) := (if k_c < (8 : Int32) then mg (inb k_c 8) (mb1 (f_J7_fill_d0a16 F 80 (-1 : Int64) (k_lo (k_c).toNatClampNeg)) (fun row_3 => some (((k_c + (1 : Int32)) - (1 : Int32)), (up2 k_lo (k_c).toNatClampNeg row_3), (k_c + (1 : Int32))))) else some ((-1 : Int32), k_lo, k_c))
set_option maxRecDepth 20000 in
theorem n_X1_open_X1 : ∀ w ∈ wsX10, w ∈ wsX1_open := by decide +kernel
set_option maxRecDepth 20000 in
theorem w_X1_open_f19 : Cond.fieldLink RX1 19 "LayerStacks$MakerLists" "count" "I" ∈ wsX1_open := by decide +kernel
set_option maxRecDepth 20000 in
theorem w_X1_open_f11 : Cond.fieldLink RX1 11 "LayerStacks$MakerLists" "lows" "[[J" ∈ wsX1_open := by decide +kernel
set_option maxRecDepth 20000 in
theorem w_X1_open_k23 : Cond.constantLong RX1 23 (-1) ∈ wsX1_open := by decide +kernel
set_option maxHeartbeats 4000000 in
set_option maxRecDepth 100000 in
theorem c_X1_open (l : Launch) (D : va_G) (y : Nat → ClassId) (q : Nat → Nat) (sz : Nat) (F : Nat) {k_lo : Nat → Nat → Int64} {k_hi : Nat → Nat → Int64} {k_c : Int32} {z : Int32 × (Nat → Nat → Int64) × Int32} (hm : f_X1_open F k_lo k_c = some z) : Met l yX1_open wsX1_open ({ frames := 1, cells := 0, slots := 0, locals := 24 } : Room) (va_Pc [.ref (q 0)] (cP D y (wdX1 q y k_lo k_hi k_c) sz)) (QI D y (va_A (wdX1 q y k_lo k_hi k_c) sz) (z.1) (wdX1 q y (z.2.1) k_hi (z.2.2))) 0 0 (va_A (wdX1 q y k_lo k_hi k_c) sz) := by
  refine met_of (own := RX1) (cc := cX1_open) (maxL := 1) (ret := (some .int)) (by decide) rfl rfl (Nat.le_of_ble_eq_true rfl) ?_
  intro p e s m below meth c ls C hsz hK hP hD hA hS hl
  obtain ⟨⟨hx, hb, hml, hown, hts⟩, hr, hlocks⟩ := id C
  have hl : lv_has ls 1 [(0, .ref (q 0))] := hl
  generalize va_A (wdX1 q y k_lo k_hi k_c) sz = A at hD hA hS ⊢
  generalize ([.ref (q 0)] : List Value).toArray = args at C hts ⊢
  unfold f_X1_open at hm
  refine lv_aload_n hx hb dX1_open_0 rfl (lv_at hl 0 rfl) ?_
  refine va_get (D := D) (ci := 1) (v := .int k_c) (C := RX1) (T := TX1) (N := 3) hx hb hts n_X1_open_X1 hown hK hP 0 rfl rfl 2 (by decide) (hts _ w_X1_open_f19) (fun _ h9 => h9) rfl dX1_open_1 ?_
  refine lv_bipush (v := (8 : Int32)) hx hb dX1_open_4 (by decide) ?_
  refine lv_icmp_lt (tgt := 11) hx hb dX1_open_6 (by decide) (fun h_1 => ?_) (fun h_1 => ?_)
  · have hm := it_of hm h_1
    refine lv_aload_n hx hb dX1_open_11 rfl (lv_at hl 0 rfl) ?_
    refine va_get (D := D) (ci := 1) (v := .ref (q 1)) (C := RX1) (T := TX1) (N := 3) hx hb hts n_X1_open_X1 hown hK hP 0 rfl rfl 0 (by decide) (hts _ w_X1_open_f11) (fun _ h9 => h9) rfl dX1_open_12 ?_
    refine lv_aload_n hx hb dX1_open_15 rfl (lv_at hl 0 rfl) ?_
    refine va_get (D := D) (ci := 1) (v := .int k_c) (C := RX1) (T := TX1) (N := 3) hx hb hts n_X1_open_X1 hown hK hP 0 rfl rfl 2 (by decide) (hts _ w_X1_open_f19) (fun _ h9 => h9) rfl dX1_open_16 ?_
    obtain ⟨hg_2, hm⟩ := mg_of hm
    refine va_ald2 (r := fun i => q (i + 2)) hx hb hK hP 1 4 rfl rfl hg_2 dX1_open_19 ?_
    refine lv_ldc2 (v := (-1 : Int64)) hx hb hown (hts _ w_X1_open_k23) dX1_open_20 ?_
    obtain ⟨row_3, hc_4, hm⟩ := mb1_of hm
    have key : ∀ (H : Heap) (locs : List Loc), va_P D vwCl (wdX1 q y (up2 k_lo (k_c).toNatClampNeg row_3) k_hi k_c) H → va_D A (wdX1 q y (up2 k_lo (k_c).toNatClampNeg row_3) k_hi k_c) → va_S A s.heap H locs → W p l e ({ frames := 1, cells := 0, slots := 0, locals := 24 } : Room) s m args below meth c H locs 0 0 (MQ below (QI D y A (z.1) (wdX1 q y (z.2.1) k_hi (z.2.2))) args s 0 0 A) (F0 m 26 ls []) := by
      intro H locs hP hD hS
      refine lv_aload_n hx hb dX1_open_26 rfl (lv_at hl 0 rfl) ?_
      refine lv_dup hx hb dX1_open_27 rfl ?_
      refine va_get (D := D) (ci := 1) (v := .int k_c) (C := RX1) (T := TX1) (N := 3) hx hb hts n_X1_open_X1 hown hK hP 0 rfl rfl 2 (by decide) (hts _ w_X1_open_f19) (fun _ h9 => h9) rfl dX1_open_28 ?_
      refine lv_iconst (v := (1 : Int32)) hx hb dX1_open_31 (by decide) ?_
      refine lv_iadd hx hb dX1_open_32 ?_
      refine va_put (D := D) (ci := 1) (v := .int (k_c + (1 : Int32))) (ty := .int) (C := RX1) (T := TX1) (N := 3) hx hb hts n_X1_open_X1 tyX1 tyX1_ok nmX1 hown hK hP hD hS 0 rfl rfl 2 (by decide) (hts _ w_X1_open_f19) (fun _ h9 => h9) rfl (by decide +kernel) rfl rfl (Nat.le_of_ble_eq_true rfl) dX1_open_33 (fun H locs hP hD hS => ?_)
      have hP : va_P D vwCl (wdX1 q y (up2 k_lo (k_c).toNatClampNeg row_3) k_hi (k_c + (1 : Int32))) H := hP
      have hD : va_D A (wdX1 q y (up2 k_lo (k_c).toNatClampNeg row_3) k_hi (k_c + (1 : Int32))) := hD
      refine lv_aload_n hx hb dX1_open_36 rfl (lv_at hl 0 rfl) ?_
      refine va_get (D := D) (ci := 1) (v := .int (k_c + (1 : Int32))) (C := RX1) (T := TX1) (N := 3) hx hb hts n_X1_open_X1 hown hK hP 0 rfl rfl 2 (by decide) (hts _ w_X1_open_f19) (fun _ h9 => h9) rfl dX1_open_37 ?_
      refine lv_iconst (v := (1 : Int32)) hx hb dX1_open_40 (by decide) ?_
      refine lv_isub hx hb dX1_open_41 ?_
      have hz := Option.some.inj hm
      subst hz
      exact end_i C hK hP hD hS dX1_open_42
    rcases k8c (inb_lt hg_2) with h9 | h9 | h9 | h9 | h9 | h9 | h9 | h9
    · rw [h9] at hc_4 key ⊢
      refine call_sv (wc := (wdAJ (fun i => q (i + 2)) y 80 (k_lo 0))) (wr := [(q 0, .inr (1, [.ref (q 1), .ref (q 10), .int k_c])), (q 1, .inl (y 4, 8, .inr (.inr (.inr (.inr (fun i => if i < 8 then some (q (i + 2)) else none)))))), (q 3, .inl (y 1, 80, .inr (.inl (k_lo 1)))), (q 4, .inl (y 1, 80, .inr (.inl (k_lo 2)))), (q 5, .inl (y 1, 80, .inr (.inl (k_lo 3)))), (q 6, .inl (y 1, 80, .inr (.inl (k_lo 4)))), (q 7, .inl (y 1, 80, .inr (.inl (k_lo 5)))), (q 8, .inl (y 1, 80, .inr (.inl (k_lo 6)))), (q 9, .inl (y 1, 80, .inr (.inl (k_lo 7)))), (q 10, .inl (y 4, 8, .inr (.inr (.inr (.inr (fun i => if i < 8 then some (q (i + 11)) else none)))))), (q 11, .inl (y 1, 80, .inr (.inl (k_hi 0)))), (q 12, .inl (y 1, 80, .inr (.inl (k_hi 1)))), (q 13, .inl (y 1, 80, .inr (.inl (k_hi 2)))), (q 14, .inl (y 1, 80, .inr (.inl (k_hi 3)))), (q 15, .inl (y 1, 80, .inr (.inl (k_hi 4)))), (q 16, .inl (y 1, 80, .inr (.inl (k_hi 5)))), (q 17, .inl (y 1, 80, .inr (.inl (k_hi 6)))), (q 18, .inl (y 1, 80, .inr (.inl (k_hi 7))))]) (As := [.ref (q 2), .long (-1 : Int64)]) (rest := []) C (c_J7_fill_d0a16 l D y (fun i => q (i + 2)) _ F hc_4) (va_cwS 2 hts gX1_open_J7_fill_d0a16 rfl rfl rfl (by decide +kernel) ⟨Nat.le_of_ble_eq_true rfl, Nat.le_of_ble_eq_true rfl⟩) hK hP hD hS hA [2] [0, 1, 3, 4, 5, 6, 7, 8, 9, 10, 11, 12, 13, 14, 15, 16, 17, 18] rfl rfl rfl rfl rfl (by decide) rfl hl.1 (Nat.le_of_ble_eq_true rfl) dX1_open_23 (fun H locs hP hD hS => ?_)
      exact key _ _ (hP.sub [0, 1, 18, 2, 3, 4, 5, 6, 7, 8, 9, 10, 11, 12, 13, 14, 15, 16, 17] rfl) (hD.sub [0, 1, 18, 2, 3, 4, 5, 6, 7, 8, 9, 10, 11, 12, 13, 14, 15, 16, 17] (by decide) rfl) hS
    · rw [h9] at hc_4 key ⊢
      refine call_sv (wc := (wdAJ (fun i => q (i + 3)) y 80 (k_lo 1))) (wr := [(q 0, .inr (1, [.ref (q 1), .ref (q 10), .int k_c])), (q 1, .inl (y 4, 8, .inr (.inr (.inr (.inr (fun i => if i < 8 then some (q (i + 2)) else none)))))), (q 2, .inl (y 1, 80, .inr (.inl (k_lo 0)))), (q 4, .inl (y 1, 80, .inr (.inl (k_lo 2)))), (q 5, .inl (y 1, 80, .inr (.inl (k_lo 3)))), (q 6, .inl (y 1, 80, .inr (.inl (k_lo 4)))), (q 7, .inl (y 1, 80, .inr (.inl (k_lo 5)))), (q 8, .inl (y 1, 80, .inr (.inl (k_lo 6)))), (q 9, .inl (y 1, 80, .inr (.inl (k_lo 7)))), (q 10, .inl (y 4, 8, .inr (.inr (.inr (.inr (fun i => if i < 8 then some (q (i + 11)) else none)))))), (q 11, .inl (y 1, 80, .inr (.inl (k_hi 0)))), (q 12, .inl (y 1, 80, .inr (.inl (k_hi 1)))), (q 13, .inl (y 1, 80, .inr (.inl (k_hi 2)))), (q 14, .inl (y 1, 80, .inr (.inl (k_hi 3)))), (q 15, .inl (y 1, 80, .inr (.inl (k_hi 4)))), (q 16, .inl (y 1, 80, .inr (.inl (k_hi 5)))), (q 17, .inl (y 1, 80, .inr (.inl (k_hi 6)))), (q 18, .inl (y 1, 80, .inr (.inl (k_hi 7))))]) (As := [.ref (q 3), .long (-1 : Int64)]) (rest := []) C (c_J7_fill_d0a16 l D y (fun i => q (i + 3)) _ F hc_4) (va_cwS 2 hts gX1_open_J7_fill_d0a16 rfl rfl rfl (by decide +kernel) ⟨Nat.le_of_ble_eq_true rfl, Nat.le_of_ble_eq_true rfl⟩) hK hP hD hS hA [3] [0, 1, 2, 4, 5, 6, 7, 8, 9, 10, 11, 12, 13, 14, 15, 16, 17, 18] rfl rfl rfl rfl rfl (by decide) rfl hl.1 (Nat.le_of_ble_eq_true rfl) dX1_open_23 (fun H locs hP hD hS => ?_)
      exact key _ _ (hP.sub [0, 1, 2, 18, 3, 4, 5, 6, 7, 8, 9, 10, 11, 12, 13, 14, 15, 16, 17] rfl) (hD.sub [0, 1, 2, 18, 3, 4, 5, 6, 7, 8, 9, 10, 11, 12, 13, 14, 15, 16, 17] (by decide) rfl) hS
    · rw [h9] at hc_4 key ⊢
      refine call_sv (wc := (wdAJ (fun i => q (i + 4)) y 80 (k_lo 2))) (wr := [(q 0, .inr (1, [.ref (q 1), .ref (q 10), .int k_c])), (q 1, .inl (y 4, 8, .inr (.inr (.inr (.inr (fun i => if i < 8 then some (q (i + 2)) else none)))))), (q 2, .inl (y 1, 80, .inr (.inl (k_lo 0)))), (q 3, .inl (y 1, 80, .inr (.inl (k_lo 1)))), (q 5, .inl (y 1, 80, .inr (.inl (k_lo 3)))), (q 6, .inl (y 1, 80, .inr (.inl (k_lo 4)))), (q 7, .inl (y 1, 80, .inr (.inl (k_lo 5)))), (q 8, .inl (y 1, 80, .inr (.inl (k_lo 6)))), (q 9, .inl (y 1, 80, .inr (.inl (k_lo 7)))), (q 10, .inl (y 4, 8, .inr (.inr (.inr (.inr (fun i => if i < 8 then some (q (i + 11)) else none)))))), (q 11, .inl (y 1, 80, .inr (.inl (k_hi 0)))), (q 12, .inl (y 1, 80, .inr (.inl (k_hi 1)))), (q 13, .inl (y 1, 80, .inr (.inl (k_hi 2)))), (q 14, .inl (y 1, 80, .inr (.inl (k_hi 3)))), (q 15, .inl (y 1, 80, .inr (.inl (k_hi 4)))), (q 16, .inl (y 1, 80, .inr (.inl (k_hi 5)))), (q 17, .inl (y 1, 80, .inr (.inl (k_hi 6)))), (q 18, .inl (y 1, 80, .inr (.inl (k_hi 7))))]) (As := [.ref (q 4), .long (-1 : Int64)]) (rest := []) C (c_J7_fill_d0a16 l D y (fun i => q (i + 4)) _ F hc_4) (va_cwS 2 hts gX1_open_J7_fill_d0a16 rfl rfl rfl (by decide +kernel) ⟨Nat.le_of_ble_eq_true rfl, Nat.le_of_ble_eq_true rfl⟩) hK hP hD hS hA [4] [0, 1, 2, 3, 5, 6, 7, 8, 9, 10, 11, 12, 13, 14, 15, 16, 17, 18] rfl rfl rfl rfl rfl (by decide) rfl hl.1 (Nat.le_of_ble_eq_true rfl) dX1_open_23 (fun H locs hP hD hS => ?_)
      exact key _ _ (hP.sub [0, 1, 2, 3, 18, 4, 5, 6, 7, 8, 9, 10, 11, 12, 13, 14, 15, 16, 17] rfl) (hD.sub [0, 1, 2, 3, 18, 4, 5, 6, 7, 8, 9, 10, 11, 12, 13, 14, 15, 16, 17] (by decide) rfl) hS
    · rw [h9] at hc_4 key ⊢
      refine call_sv (wc := (wdAJ (fun i => q (i + 5)) y 80 (k_lo 3))) (wr := [(q 0, .inr (1, [.ref (q 1), .ref (q 10), .int k_c])), (q 1, .inl (y 4, 8, .inr (.inr (.inr (.inr (fun i => if i < 8 then some (q (i + 2)) else none)))))), (q 2, .inl (y 1, 80, .inr (.inl (k_lo 0)))), (q 3, .inl (y 1, 80, .inr (.inl (k_lo 1)))), (q 4, .inl (y 1, 80, .inr (.inl (k_lo 2)))), (q 6, .inl (y 1, 80, .inr (.inl (k_lo 4)))), (q 7, .inl (y 1, 80, .inr (.inl (k_lo 5)))), (q 8, .inl (y 1, 80, .inr (.inl (k_lo 6)))), (q 9, .inl (y 1, 80, .inr (.inl (k_lo 7)))), (q 10, .inl (y 4, 8, .inr (.inr (.inr (.inr (fun i => if i < 8 then some (q (i + 11)) else none)))))), (q 11, .inl (y 1, 80, .inr (.inl (k_hi 0)))), (q 12, .inl (y 1, 80, .inr (.inl (k_hi 1)))), (q 13, .inl (y 1, 80, .inr (.inl (k_hi 2)))), (q 14, .inl (y 1, 80, .inr (.inl (k_hi 3)))), (q 15, .inl (y 1, 80, .inr (.inl (k_hi 4)))), (q 16, .inl (y 1, 80, .inr (.inl (k_hi 5)))), (q 17, .inl (y 1, 80, .inr (.inl (k_hi 6)))), (q 18, .inl (y 1, 80, .inr (.inl (k_hi 7))))]) (As := [.ref (q 5), .long (-1 : Int64)]) (rest := []) C (c_J7_fill_d0a16 l D y (fun i => q (i + 5)) _ F hc_4) (va_cwS 2 hts gX1_open_J7_fill_d0a16 rfl rfl rfl (by decide +kernel) ⟨Nat.le_of_ble_eq_true rfl, Nat.le_of_ble_eq_true rfl⟩) hK hP hD hS hA [5] [0, 1, 2, 3, 4, 6, 7, 8, 9, 10, 11, 12, 13, 14, 15, 16, 17, 18] rfl rfl rfl rfl rfl (by decide) rfl hl.1 (Nat.le_of_ble_eq_true rfl) dX1_open_23 (fun H locs hP hD hS => ?_)
      exact key _ _ (hP.sub [0, 1, 2, 3, 4, 18, 5, 6, 7, 8, 9, 10, 11, 12, 13, 14, 15, 16, 17] rfl) (hD.sub [0, 1, 2, 3, 4, 18, 5, 6, 7, 8, 9, 10, 11, 12, 13, 14, 15, 16, 17] (by decide) rfl) hS
    · rw [h9] at hc_4 key ⊢
      refine call_sv (wc := (wdAJ (fun i => q (i + 6)) y 80 (k_lo 4))) (wr := [(q 0, .inr (1, [.ref (q 1), .ref (q 10), .int k_c])), (q 1, .inl (y 4, 8, .inr (.inr (.inr (.inr (fun i => if i < 8 then some (q (i + 2)) else none)))))), (q 2, .inl (y 1, 80, .inr (.inl (k_lo 0)))), (q 3, .inl (y 1, 80, .inr (.inl (k_lo 1)))), (q 4, .inl (y 1, 80, .inr (.inl (k_lo 2)))), (q 5, .inl (y 1, 80, .inr (.inl (k_lo 3)))), (q 7, .inl (y 1, 80, .inr (.inl (k_lo 5)))), (q 8, .inl (y 1, 80, .inr (.inl (k_lo 6)))), (q 9, .inl (y 1, 80, .inr (.inl (k_lo 7)))), (q 10, .inl (y 4, 8, .inr (.inr (.inr (.inr (fun i => if i < 8 then some (q (i + 11)) else none)))))), (q 11, .inl (y 1, 80, .inr (.inl (k_hi 0)))), (q 12, .inl (y 1, 80, .inr (.inl (k_hi 1)))), (q 13, .inl (y 1, 80, .inr (.inl (k_hi 2)))), (q 14, .inl (y 1, 80, .inr (.inl (k_hi 3)))), (q 15, .inl (y 1, 80, .inr (.inl (k_hi 4)))), (q 16, .inl (y 1, 80, .inr (.inl (k_hi 5)))), (q 17, .inl (y 1, 80, .inr (.inl (k_hi 6)))), (q 18, .inl (y 1, 80, .inr (.inl (k_hi 7))))]) (As := [.ref (q 6), .long (-1 : Int64)]) (rest := []) C (c_J7_fill_d0a16 l D y (fun i => q (i + 6)) _ F hc_4) (va_cwS 2 hts gX1_open_J7_fill_d0a16 rfl rfl rfl (by decide +kernel) ⟨Nat.le_of_ble_eq_true rfl, Nat.le_of_ble_eq_true rfl⟩) hK hP hD hS hA [6] [0, 1, 2, 3, 4, 5, 7, 8, 9, 10, 11, 12, 13, 14, 15, 16, 17, 18] rfl rfl rfl rfl rfl (by decide) rfl hl.1 (Nat.le_of_ble_eq_true rfl) dX1_open_23 (fun H locs hP hD hS => ?_)
      exact key _ _ (hP.sub [0, 1, 2, 3, 4, 5, 18, 6, 7, 8, 9, 10, 11, 12, 13, 14, 15, 16, 17] rfl) (hD.sub [0, 1, 2, 3, 4, 5, 18, 6, 7, 8, 9, 10, 11, 12, 13, 14, 15, 16, 17] (by decide) rfl) hS
    · rw [h9] at hc_4 key ⊢
      refine call_sv (wc := (wdAJ (fun i => q (i + 7)) y 80 (k_lo 5))) (wr := [(q 0, .inr (1, [.ref (q 1), .ref (q 10), .int k_c])), (q 1, .inl (y 4, 8, .inr (.inr (.inr (.inr (fun i => if i < 8 then some (q (i + 2)) else none)))))), (q 2, .inl (y 1, 80, .inr (.inl (k_lo 0)))), (q 3, .inl (y 1, 80, .inr (.inl (k_lo 1)))), (q 4, .inl (y 1, 80, .inr (.inl (k_lo 2)))), (q 5, .inl (y 1, 80, .inr (.inl (k_lo 3)))), (q 6, .inl (y 1, 80, .inr (.inl (k_lo 4)))), (q 8, .inl (y 1, 80, .inr (.inl (k_lo 6)))), (q 9, .inl (y 1, 80, .inr (.inl (k_lo 7)))), (q 10, .inl (y 4, 8, .inr (.inr (.inr (.inr (fun i => if i < 8 then some (q (i + 11)) else none)))))), (q 11, .inl (y 1, 80, .inr (.inl (k_hi 0)))), (q 12, .inl (y 1, 80, .inr (.inl (k_hi 1)))), (q 13, .inl (y 1, 80, .inr (.inl (k_hi 2)))), (q 14, .inl (y 1, 80, .inr (.inl (k_hi 3)))), (q 15, .inl (y 1, 80, .inr (.inl (k_hi 4)))), (q 16, .inl (y 1, 80, .inr (.inl (k_hi 5)))), (q 17, .inl (y 1, 80, .inr (.inl (k_hi 6)))), (q 18, .inl (y 1, 80, .inr (.inl (k_hi 7))))]) (As := [.ref (q 7), .long (-1 : Int64)]) (rest := []) C (c_J7_fill_d0a16 l D y (fun i => q (i + 7)) _ F hc_4) (va_cwS 2 hts gX1_open_J7_fill_d0a16 rfl rfl rfl (by decide +kernel) ⟨Nat.le_of_ble_eq_true rfl, Nat.le_of_ble_eq_true rfl⟩) hK hP hD hS hA [7] [0, 1, 2, 3, 4, 5, 6, 8, 9, 10, 11, 12, 13, 14, 15, 16, 17, 18] rfl rfl rfl rfl rfl (by decide) rfl hl.1 (Nat.le_of_ble_eq_true rfl) dX1_open_23 (fun H locs hP hD hS => ?_)
      exact key _ _ (hP.sub [0, 1, 2, 3, 4, 5, 6, 18, 7, 8, 9, 10, 11, 12, 13, 14, 15, 16, 17] rfl) (hD.sub [0, 1, 2, 3, 4, 5, 6, 18, 7, 8, 9, 10, 11, 12, 13, 14, 15, 16, 17] (by decide) rfl) hS
    · rw [h9] at hc_4 key ⊢
      refine call_sv (wc := (wdAJ (fun i => q (i + 8)) y 80 (k_lo 6))) (wr := [(q 0, .inr (1, [.ref (q 1), .ref (q 10), .int k_c])), (q 1, .inl (y 4, 8, .inr (.inr (.inr (.inr (fun i => if i < 8 then some (q (i + 2)) else none)))))), (q 2, .inl (y 1, 80, .inr (.inl (k_lo 0)))), (q 3, .inl (y 1, 80, .inr (.inl (k_lo 1)))), (q 4, .inl (y 1, 80, .inr (.inl (k_lo 2)))), (q 5, .inl (y 1, 80, .inr (.inl (k_lo 3)))), (q 6, .inl (y 1, 80, .inr (.inl (k_lo 4)))), (q 7, .inl (y 1, 80, .inr (.inl (k_lo 5)))), (q 9, .inl (y 1, 80, .inr (.inl (k_lo 7)))), (q 10, .inl (y 4, 8, .inr (.inr (.inr (.inr (fun i => if i < 8 then some (q (i + 11)) else none)))))), (q 11, .inl (y 1, 80, .inr (.inl (k_hi 0)))), (q 12, .inl (y 1, 80, .inr (.inl (k_hi 1)))), (q 13, .inl (y 1, 80, .inr (.inl (k_hi 2)))), (q 14, .inl (y 1, 80, .inr (.inl (k_hi 3)))), (q 15, .inl (y 1, 80, .inr (.inl (k_hi 4)))), (q 16, .inl (y 1, 80, .inr (.inl (k_hi 5)))), (q 17, .inl (y 1, 80, .inr (.inl (k_hi 6)))), (q 18, .inl (y 1, 80, .inr (.inl (k_hi 7))))]) (As := [.ref (q 8), .long (-1 : Int64)]) (rest := []) C (c_J7_fill_d0a16 l D y (fun i => q (i + 8)) _ F hc_4) (va_cwS 2 hts gX1_open_J7_fill_d0a16 rfl rfl rfl (by decide +kernel) ⟨Nat.le_of_ble_eq_true rfl, Nat.le_of_ble_eq_true rfl⟩) hK hP hD hS hA [8] [0, 1, 2, 3, 4, 5, 6, 7, 9, 10, 11, 12, 13, 14, 15, 16, 17, 18] rfl rfl rfl rfl rfl (by decide) rfl hl.1 (Nat.le_of_ble_eq_true rfl) dX1_open_23 (fun H locs hP hD hS => ?_)
      exact key _ _ (hP.sub [0, 1, 2, 3, 4, 5, 6, 7, 18, 8, 9, 10, 11, 12, 13, 14, 15, 16, 17] rfl) (hD.sub [0, 1, 2, 3, 4, 5, 6, 7, 18, 8, 9, 10, 11, 12, 13, 14, 15, 16, 17] (by decide) rfl) hS
    · rw [h9] at hc_4 key ⊢
      refine call_sv (wc := (wdAJ (fun i => q (i + 9)) y 80 (k_lo 7))) (wr := [(q 0, .inr (1, [.ref (q 1), .ref (q 10), .int k_c])), (q 1, .inl (y 4, 8, .inr (.inr (.inr (.inr (fun i => if i < 8 then some (q (i + 2)) else none)))))), (q 2, .inl (y 1, 80, .inr (.inl (k_lo 0)))), (q 3, .inl (y 1, 80, .inr (.inl (k_lo 1)))), (q 4, .inl (y 1, 80, .inr (.inl (k_lo 2)))), (q 5, .inl (y 1, 80, .inr (.inl (k_lo 3)))), (q 6, .inl (y 1, 80, .inr (.inl (k_lo 4)))), (q 7, .inl (y 1, 80, .inr (.inl (k_lo 5)))), (q 8, .inl (y 1, 80, .inr (.inl (k_lo 6)))), (q 10, .inl (y 4, 8, .inr (.inr (.inr (.inr (fun i => if i < 8 then some (q (i + 11)) else none)))))), (q 11, .inl (y 1, 80, .inr (.inl (k_hi 0)))), (q 12, .inl (y 1, 80, .inr (.inl (k_hi 1)))), (q 13, .inl (y 1, 80, .inr (.inl (k_hi 2)))), (q 14, .inl (y 1, 80, .inr (.inl (k_hi 3)))), (q 15, .inl (y 1, 80, .inr (.inl (k_hi 4)))), (q 16, .inl (y 1, 80, .inr (.inl (k_hi 5)))), (q 17, .inl (y 1, 80, .inr (.inl (k_hi 6)))), (q 18, .inl (y 1, 80, .inr (.inl (k_hi 7))))]) (As := [.ref (q 9), .long (-1 : Int64)]) (rest := []) C (c_J7_fill_d0a16 l D y (fun i => q (i + 9)) _ F hc_4) (va_cwS 2 hts gX1_open_J7_fill_d0a16 rfl rfl rfl (by decide +kernel) ⟨Nat.le_of_ble_eq_true rfl, Nat.le_of_ble_eq_true rfl⟩) hK hP hD hS hA [9] [0, 1, 2, 3, 4, 5, 6, 7, 8, 10, 11, 12, 13, 14, 15, 16, 17, 18] rfl rfl rfl rfl rfl (by decide) rfl hl.1 (Nat.le_of_ble_eq_true rfl) dX1_open_23 (fun H locs hP hD hS => ?_)
      exact key _ _ (hP.sub [0, 1, 2, 3, 4, 5, 6, 7, 8, 18, 9, 10, 11, 12, 13, 14, 15, 16, 17] rfl) (hD.sub [0, 1, 2, 3, 4, 5, 6, 7, 8, 18, 9, 10, 11, 12, 13, 14, 15, 16, 17] (by decide) rfl) hS
  · have hm := ie_of hm h_1
    refine lv_iconst (v := (-1 : Int32)) hx hb dX1_open_9 (by decide) ?_
    have hz := Option.some.inj hm
    subst hz
    exact end_i C hK hP hD hS dX1_open_10
def f_X1_forget (F : Nat) (k_c : Int32) : Option (Int32) := some (0 : Int32)
set_option maxRecDepth 20000 in
theorem n_X1_forget_X1 : ∀ w ∈ wsX10, w ∈ wsX1_forget := by decide +kernel
set_option maxRecDepth 20000 in
theorem w_X1_forget_f19 : Cond.fieldLink RX1 19 "LayerStacks$MakerLists" "count" "I" ∈ wsX1_forget := by decide +kernel
set_option maxHeartbeats 4000000 in
set_option maxRecDepth 100000 in
theorem c_X1_forget (l : Launch) (D : va_G) (y : Nat → ClassId) (q : Nat → Nat) (sz : Nat) (F : Nat) {k_lo : Nat → Nat → Int64} {k_hi : Nat → Nat → Int64} {k_c : Int32} {z : Int32} (hm : f_X1_forget F k_c = some z) : Met l yX1_forget wsX1_forget ({ frames := 0, cells := 0, slots := 0, locals := 0 } : Room) (va_Pc [.ref (q 0)] (cP D y (wdX1 q y k_lo k_hi k_c) sz)) (QV D y (va_A (wdX1 q y k_lo k_hi k_c) sz) (wdX1 q y k_lo k_hi z)) 0 0 (va_A (wdX1 q y k_lo k_hi k_c) sz) := by
  refine met_of (own := RX1) (cc := cX1_forget) (maxL := 1) (ret := none) (by decide) rfl rfl (Nat.le_of_ble_eq_true rfl) ?_
  intro p e s m below meth c ls C hsz hK hP hD hA hS hl
  obtain ⟨⟨hx, hb, hml, hown, hts⟩, hr, hlocks⟩ := id C
  have hl : lv_has ls 1 [(0, .ref (q 0))] := hl
  generalize va_A (wdX1 q y k_lo k_hi k_c) sz = A at hD hA hS ⊢
  generalize ([.ref (q 0)] : List Value).toArray = args at C hts ⊢
  unfold f_X1_forget at hm
  refine lv_aload_n hx hb dX1_forget_0 rfl (lv_at hl 0 rfl) ?_
  refine lv_iconst (v := (0 : Int32)) hx hb dX1_forget_1 (by decide) ?_
  refine va_put (D := D) (ci := 1) (v := .int (0 : Int32)) (ty := .int) (C := RX1) (T := TX1) (N := 3) hx hb hts n_X1_forget_X1 tyX1 tyX1_ok nmX1 hown hK hP hD hS 0 rfl rfl 2 (by decide) (hts _ w_X1_forget_f19) (fun _ h9 => h9) rfl (by decide +kernel) rfl rfl (Nat.le_of_ble_eq_true rfl) dX1_forget_2 (fun H locs hP hD hS => ?_)
  have hP : va_P D vwCl (wdX1 q y k_lo k_hi (0 : Int32)) H := hP
  have hD : va_D A (wdX1 q y k_lo k_hi (0 : Int32)) := hD
  have hz := Option.some.inj hm
  subst hz
  exact end_v C hK hP hD hS dX1_forget_5
def f_X1_fits (F : Nat) (v1 : Int32) (v2 : Int32) (v3 : Int64) (k_lo : Nat → Nat → Int64) (k_hi : Nat → Nat → Int64) : Option (Int32) := mg (inb v1 8) (mg (inb v2 80) (mn (k_lo (v1).toNatClampNeg (v2).toNatClampNeg) (fun v5_3 => (if (lg_cmp v5_3 (-1 : Int64)) = 0 then some (0 : Int32) else (if 0 < (lg_cmp v5_3 v3) then some (0 : Int32) else mg (inb v1 8) (mg (inb v2 80) ((if 0 < (lg_cmp v3 (k_hi (v1).toNatClampNeg (v2).toNatClampNeg)) then some (0 : Int32) else some (1 : Int32)))))))))
set_option maxRecDepth 20000 in
theorem n_X1_fits_X1 : ∀ w ∈ wsX10, w ∈ wsX1_fits := by decide +kernel
set_option maxRecDepth 20000 in
theorem w_X1_fits_f11 : Cond.fieldLink RX1 11 "LayerStacks$MakerLists" "lows" "[[J" ∈ wsX1_fits := by decide +kernel
set_option maxRecDepth 20000 in
theorem w_X1_fits_k23 : Cond.constantLong RX1 23 (-1) ∈ wsX1_fits := by decide +kernel
set_option maxRecDepth 20000 in
theorem w_X1_fits_f16 : Cond.fieldLink RX1 16 "LayerStacks$MakerLists" "highs" "[[J" ∈ wsX1_fits := by decide +kernel
set_option maxHeartbeats 4000000 in
set_option maxRecDepth 100000 in
theorem c_X1_fits (l : Launch) (D : va_G) (y : Nat → ClassId) (q : Nat → Nat) (sz : Nat) (F : Nat) {v1 : Int32} {v2 : Int32} {v3 : Int64} {k_lo : Nat → Nat → Int64} {k_hi : Nat → Nat → Int64} {k_c : Int32} {z : Int32} (hm : f_X1_fits F v1 v2 v3 k_lo k_hi = some z) : Met l yX1_fits wsX1_fits ({ frames := 0, cells := 0, slots := 0, locals := 0 } : Room) (va_Pc [.ref (q 0), .int v1, .int v2, .long v3] (cP D y (wdX1 q y k_lo k_hi k_c) sz)) (QI D y (va_A (wdX1 q y k_lo k_hi k_c) sz) (z) (wdX1 q y k_lo k_hi k_c)) 0 0 (va_A (wdX1 q y k_lo k_hi k_c) sz) := by
  refine met_of (own := RX1) (cc := cX1_fits) (maxL := 7) (ret := (some .boolean)) (by decide) rfl rfl (Nat.le_of_ble_eq_true rfl) ?_
  intro p e s m below meth c ls C hsz hK hP hD hA hS hl
  obtain ⟨⟨hx, hb, hml, hown, hts⟩, hr, hlocks⟩ := id C
  have hl : lv_has ls 7 [(0, .ref (q 0)), (1, .int v1), (2, .int v2), (3, .long v3)] := hl
  generalize va_A (wdX1 q y k_lo k_hi k_c) sz = A at hD hA hS ⊢
  generalize ([.ref (q 0), .int v1, .int v2, .long v3] : List Value).toArray = args at C hts ⊢
  unfold f_X1_fits at hm
  refine lv_aload_n hx hb dX1_fits_0 rfl (lv_at hl 0 rfl) ?_
  refine va_get (D := D) (ci := 1) (v := .ref (q 1)) (C := RX1) (T := TX1) (N := 3) hx hb hts n_X1_fits_X1 hown hK hP 0 rfl rfl 0 (by decide) (hts _ w_X1_fits_f11) (fun _ h9 => h9) rfl dX1_fits_1 ?_
  refine lv_iload_n hx hb dX1_fits_4 rfl (lv_at hl 1 rfl) ?_
  obtain ⟨hg_1, hm⟩ := mg_of hm
  refine va_ald2 (r := fun i => q (i + 2)) hx hb hK hP 1 4 rfl rfl hg_1 dX1_fits_5 ?_
  refine lv_iload_n hx hb dX1_fits_6 rfl (lv_at hl 2 rfl) ?_
  obtain ⟨hg_2, hm⟩ := mg_of hm
  refine va_lald hx hb hK hP ((v1).toNatClampNeg + 2) 1 (row_k_lo _ (inb_lt hg_1)) rfl hg_2 dX1_fits_7 ?_
  refine lv_topl (fun v5_3 ev5_3 => ?_)
  have hm := mn_of ev5_3 hm
  refine lv_lstore (lv' := [(5, .long v5_3), (0, .ref (q 0)), (1, .int v1), (2, .int v2), (3, .long v3)]) hx hb dX1_fits_8 hl (by decide) rfl (fun ls hl => ?_)
  refine lv_lload hx hb dX1_fits_10 (lv_at hl 0 rfl) ?_
  refine lv_ldc2 (v := (-1 : Int64)) hx hb hown (hts _ w_X1_fits_k23) dX1_fits_12 ?_
  refine W.lcmp hx hb dX1_fits_15 ?_
  refine lv_if_eq (tgt := 43) hx hb dX1_fits_16 (by decide) (fun h_4 => ?_) (fun h_4 => ?_)
  · have hm := it_of hm h_4
    refine lv_iconst (v := (0 : Int32)) hx hb dX1_fits_43 (by decide) ?_
    have hz := Option.some.inj hm
    subst hz
    exact end_z C hK hP hD hS (show vp_nar .boolean (0 : Int32) = (0 : Int32) from by decide) dX1_fits_44
  · have hm := ie_of hm h_4
    refine lv_lload hx hb dX1_fits_19 (lv_at hl 0 rfl) ?_
    refine lv_lload_n hx hb dX1_fits_21 rfl (lv_at hl 4 rfl) ?_
    refine W.lcmp hx hb dX1_fits_22 ?_
    refine lv_if_gt (tgt := 43) hx hb dX1_fits_23 (by decide) (fun h_5 => ?_) (fun h_5 => ?_)
    · have hm := it_of hm h_5
      refine lv_iconst (v := (0 : Int32)) hx hb dX1_fits_43 (by decide) ?_
      have hz := Option.some.inj hm
      subst hz
      exact end_z C hK hP hD hS (show vp_nar .boolean (0 : Int32) = (0 : Int32) from by decide) dX1_fits_44
    · have hm := ie_of hm h_5
      refine lv_lload_n hx hb dX1_fits_26 rfl (lv_at hl 4 rfl) ?_
      refine lv_aload_n hx hb dX1_fits_27 rfl (lv_at hl 1 rfl) ?_
      refine va_get (D := D) (ci := 1) (v := .ref (q 10)) (C := RX1) (T := TX1) (N := 3) hx hb hts n_X1_fits_X1 hown hK hP 0 rfl rfl 1 (by decide) (hts _ w_X1_fits_f16) (fun _ h9 => h9) rfl dX1_fits_28 ?_
      refine lv_iload_n hx hb dX1_fits_31 rfl (lv_at hl 2 rfl) ?_
      obtain ⟨hg_6, hm⟩ := mg_of hm
      refine va_ald2 (r := fun i => q (i + 11)) hx hb hK hP 10 4 rfl rfl hg_6 dX1_fits_32 ?_
      refine lv_iload_n hx hb dX1_fits_33 rfl (lv_at hl 3 rfl) ?_
      obtain ⟨hg_7, hm⟩ := mg_of hm
      refine va_lald hx hb hK hP ((v1).toNatClampNeg + 11) 1 (row_k_hi _ (inb_lt hg_6)) rfl hg_7 dX1_fits_34 ?_
      refine W.lcmp hx hb dX1_fits_35 ?_
      refine lv_if_gt (tgt := 43) hx hb dX1_fits_36 (by decide) (fun h_8 => ?_) (fun h_8 => ?_)
      · have hm := it_of hm h_8
        refine lv_iconst (v := (0 : Int32)) hx hb dX1_fits_43 (by decide) ?_
        have hz := Option.some.inj hm
        subst hz
        exact end_z C hK hP hD hS (show vp_nar .boolean (0 : Int32) = (0 : Int32) from by decide) dX1_fits_44
      · have hm := ie_of hm h_8
        refine lv_iconst (v := (1 : Int32)) hx hb dX1_fits_39 (by decide) ?_
        refine lv_goto (tgt := 44) hx hb dX1_fits_40 (by decide) ?_
        have hz := Option.some.inj hm
        subst hz
        exact end_z C hK hP hD hS (show vp_nar .boolean (1 : Int32) = (1 : Int32) from by decide) dX1_fits_44
def f_X1_addRow (F : Nat) (v1 : Int32) (v2 : Int32) (v3 : Int64) (v5 : Int64) (k_lo : Nat → Nat → Int64) (k_hi : Nat → Nat → Int64) : Option (Int32 × (Nat → Nat → Int64) × (Nat → Nat → Int64)) := mg (inb v1 8) (mg (inb v2 80) ((if (lg_cmp (k_lo (v1).toNatClampNeg (v2).toNatClampNeg) (-1 : Int64)) = 0 then mg (inb v1 8) (mg (inb v2 80) (mg (inb v1 8) (mg (inb v2 80) (some ((1 : Int32), (up2 k_lo (v1).toNatClampNeg (vp_updL (k_lo (v1).toNatClampNeg) (v2).toNatClampNeg v3)), (up2 k_hi (v1).toNatClampNeg (vp_updL (k_hi (v1).toNatClampNeg) (v2).toNatClampNeg v5))))))) else some ((0 : Int32), k_lo, k_hi))))
set_option maxRecDepth 20000 in
theorem n_X1_addRow_X1 : ∀ w ∈ wsX10, w ∈ wsX1_addRow := by decide +kernel
set_option maxRecDepth 20000 in
theorem w_X1_addRow_f11 : Cond.fieldLink RX1 11 "LayerStacks$MakerLists" "lows" "[[J" ∈ wsX1_addRow := by decide +kernel
set_option maxRecDepth 20000 in
theorem w_X1_addRow_k23 : Cond.constantLong RX1 23 (-1) ∈ wsX1_addRow := by decide +kernel
set_option maxRecDepth 20000 in
theorem w_X1_addRow_f16 : Cond.fieldLink RX1 16 "LayerStacks$MakerLists" "highs" "[[J" ∈ wsX1_addRow := by decide +kernel
set_option maxHeartbeats 4000000 in
set_option maxRecDepth 100000 in
theorem c_X1_addRow (l : Launch) (D : va_G) (y : Nat → ClassId) (q : Nat → Nat) (sz : Nat) (F : Nat) {v1 : Int32} {v2 : Int32} {v3 : Int64} {v5 : Int64} {k_lo : Nat → Nat → Int64} {k_hi : Nat → Nat → Int64} {k_c : Int32} {z : Int32 × (Nat → Nat → Int64) × (Nat → Nat → Int64)} (hm : f_X1_addRow F v1 v2 v3 v5 k_lo k_hi = some z) : Met l yX1_addRow wsX1_addRow ({ frames := 0, cells := 0, slots := 0, locals := 0 } : Room) (va_Pc [.ref (q 0), .int v1, .int v2, .long v3, .long v5] (cP D y (wdX1 q y k_lo k_hi k_c) sz)) (QI D y (va_A (wdX1 q y k_lo k_hi k_c) sz) (z.1) (wdX1 q y (z.2.1) (z.2.2) k_c)) 0 0 (va_A (wdX1 q y k_lo k_hi k_c) sz) := by
  refine met_of (own := RX1) (cc := cX1_addRow) (maxL := 7) (ret := (some .boolean)) (by decide) rfl rfl (Nat.le_of_ble_eq_true rfl) ?_
  intro p e s m below meth c ls C hsz hK hP hD hA hS hl
  obtain ⟨⟨hx, hb, hml, hown, hts⟩, hr, hlocks⟩ := id C
  have hl : lv_has ls 7 [(0, .ref (q 0)), (1, .int v1), (2, .int v2), (3, .long v3), (5, .long v5)] := hl
  generalize va_A (wdX1 q y k_lo k_hi k_c) sz = A at hD hA hS ⊢
  generalize ([.ref (q 0), .int v1, .int v2, .long v3, .long v5] : List Value).toArray = args at C hts ⊢
  unfold f_X1_addRow at hm
  refine lv_aload_n hx hb dX1_addRow_0 rfl (lv_at hl 0 rfl) ?_
  refine va_get (D := D) (ci := 1) (v := .ref (q 1)) (C := RX1) (T := TX1) (N := 3) hx hb hts n_X1_addRow_X1 hown hK hP 0 rfl rfl 0 (by decide) (hts _ w_X1_addRow_f11) (fun _ h9 => h9) rfl dX1_addRow_1 ?_
  refine lv_iload_n hx hb dX1_addRow_4 rfl (lv_at hl 1 rfl) ?_
  obtain ⟨hg_1, hm⟩ := mg_of hm
  refine va_ald2 (r := fun i => q (i + 2)) hx hb hK hP 1 4 rfl rfl hg_1 dX1_addRow_5 ?_
  refine lv_iload_n hx hb dX1_addRow_6 rfl (lv_at hl 2 rfl) ?_
  obtain ⟨hg_2, hm⟩ := mg_of hm
  refine va_lald hx hb hK hP ((v1).toNatClampNeg + 2) 1 (row_k_lo _ (inb_lt hg_1)) rfl hg_2 dX1_addRow_7 ?_
  refine lv_ldc2 (v := (-1 : Int64)) hx hb hown (hts _ w_X1_addRow_k23) dX1_addRow_8 ?_
  refine W.lcmp hx hb dX1_addRow_11 ?_
  refine lv_if_eq (tgt := 17) hx hb dX1_addRow_12 (by decide) (fun h_3 => ?_) (fun h_3 => ?_)
  · have hm := it_of hm h_3
    refine lv_aload_n hx hb dX1_addRow_17 rfl (lv_at hl 0 rfl) ?_
    refine va_get (D := D) (ci := 1) (v := .ref (q 1)) (C := RX1) (T := TX1) (N := 3) hx hb hts n_X1_addRow_X1 hown hK hP 0 rfl rfl 0 (by decide) (hts _ w_X1_addRow_f11) (fun _ h9 => h9) rfl dX1_addRow_18 ?_
    refine lv_iload_n hx hb dX1_addRow_21 rfl (lv_at hl 1 rfl) ?_
    obtain ⟨hg_4, hm⟩ := mg_of hm
    refine va_ald2 (r := fun i => q (i + 2)) hx hb hK hP 1 4 rfl rfl hg_4 dX1_addRow_22 ?_
    refine lv_iload_n hx hb dX1_addRow_23 rfl (lv_at hl 2 rfl) ?_
    refine lv_lload_n hx hb dX1_addRow_24 rfl (lv_at hl 3 rfl) ?_
    obtain ⟨hg_5, hm⟩ := mg_of hm
    refine va_last hx hb hK hP hD hS ((v1).toNatClampNeg + 2) 1 (row_k_lo _ (inb_lt hg_4)) rfl hg_5 dX1_addRow_25 (fun H locs hP hD hS => ?_)
    have hP : va_P D vwCl (wdX1 q y (up2 k_lo (v1).toNatClampNeg (vp_updL (k_lo (v1).toNatClampNeg) (v2).toNatClampNeg v3)) k_hi k_c) H := (set_k_lo _ (inb_lt hg_4)) ▸ hP
    have hD : va_D A (wdX1 q y (up2 k_lo (v1).toNatClampNeg (vp_updL (k_lo (v1).toNatClampNeg) (v2).toNatClampNeg v3)) k_hi k_c) := (set_k_lo _ (inb_lt hg_4)) ▸ hD
    refine lv_aload_n hx hb dX1_addRow_26 rfl (lv_at hl 0 rfl) ?_
    refine va_get (D := D) (ci := 1) (v := .ref (q 10)) (C := RX1) (T := TX1) (N := 3) hx hb hts n_X1_addRow_X1 hown hK hP 0 rfl rfl 1 (by decide) (hts _ w_X1_addRow_f16) (fun _ h9 => h9) rfl dX1_addRow_27 ?_
    refine lv_iload_n hx hb dX1_addRow_30 rfl (lv_at hl 1 rfl) ?_
    obtain ⟨hg_6, hm⟩ := mg_of hm
    refine va_ald2 (r := fun i => q (i + 11)) hx hb hK hP 10 4 rfl rfl hg_6 dX1_addRow_31 ?_
    refine lv_iload_n hx hb dX1_addRow_32 rfl (lv_at hl 2 rfl) ?_
    refine lv_lload hx hb dX1_addRow_33 (lv_at hl 4 rfl) ?_
    obtain ⟨hg_7, hm⟩ := mg_of hm
    refine va_last hx hb hK hP hD hS ((v1).toNatClampNeg + 11) 1 (row_k_hi _ (inb_lt hg_6)) rfl hg_7 dX1_addRow_35 (fun H locs hP hD hS => ?_)
    have hP : va_P D vwCl (wdX1 q y (up2 k_lo (v1).toNatClampNeg (vp_updL (k_lo (v1).toNatClampNeg) (v2).toNatClampNeg v3)) (up2 k_hi (v1).toNatClampNeg (vp_updL (k_hi (v1).toNatClampNeg) (v2).toNatClampNeg v5)) k_c) H := (set_k_hi _ (inb_lt hg_6)) ▸ hP
    have hD : va_D A (wdX1 q y (up2 k_lo (v1).toNatClampNeg (vp_updL (k_lo (v1).toNatClampNeg) (v2).toNatClampNeg v3)) (up2 k_hi (v1).toNatClampNeg (vp_updL (k_hi (v1).toNatClampNeg) (v2).toNatClampNeg v5)) k_c) := (set_k_hi _ (inb_lt hg_6)) ▸ hD
    refine lv_iconst (v := (1 : Int32)) hx hb dX1_addRow_36 (by decide) ?_
    have hz := Option.some.inj hm
    subst hz
    exact end_z C hK hP hD hS (show vp_nar .boolean (1 : Int32) = (1 : Int32) from by decide) dX1_addRow_37
  · have hm := ie_of hm h_3
    refine lv_iconst (v := (0 : Int32)) hx hb dX1_addRow_15 (by decide) ?_
    have hz := Option.some.inj hm
    subst hz
    exact end_z C hK hP hD hS (show vp_nar .boolean (0 : Int32) = (0 : Int32) from by decide) dX1_addRow_16
def g_X1_countChanges_5 (F : Nat) : Nat → Int32 → Int32 → Int32 → (Nat → Nat → Int64) → (Nat → Nat → Int64) → (Nat → Int32) → (Nat → Int32) → Int32 → Option (Int32)
  | 0, _, _, _, _, _, _, _, _ => none
  | n + 1, v1, v3, v4, k_lo, k_hi, b_k, b_h, b_L => (if b_L ≤ v4 then some v3 else mg (inb v4 80) ((if (b_k (v4).toNatClampNeg) = (4 : Int32) then mn (v4 + (1 : Int32)) (fun v4_4 => g_X1_countChanges_5 F n v1 v3 v4_4 k_lo k_hi b_k b_h b_L) else mg (inb v4 80) (mb1 (f_X1_fits F v1 v4 (((b_h (v4).toNatClampNeg)).toInt64) k_lo k_hi) (fun r_6 => (if r_6 = 0 then mn (v3 + (1 : Int32)) (fun v3_10 => mn (v4 + (1 : Int32)) (fun v4_11 => g_X1_countChanges_5 F n v1 v3_10 v4_11 k_lo k_hi b_k b_h b_L)) else mn (v4 + (1 : Int32)) (fun v4_9 => g_X1_countChanges_5 F n v1 v3 v4_9 k_lo k_hi b_k b_h b_L)))))))
theorem g_X1_countChanges_5_z (F : Nat) (v1 : Int32) (v3 : Int32) (v4 : Int32) (k_lo : Nat → Nat → Int64) (k_hi : Nat → Nat → Int64) (b_k : Nat → Int32) (b_h : Nat → Int32) (b_L : Int32) : g_X1_countChanges_5 F 0 v1 v3 v4 k_lo k_hi b_k b_h b_L = none := rfl
theorem g_X1_countChanges_5_s (F : Nat) (n : Nat) (v1 : Int32) (v3 : Int32) (v4 : Int32) (k_lo : Nat → Nat → Int64) (k_hi : Nat → Nat → Int64) (b_k : Nat → Int32) (b_h : Nat → Int32) (b_L : Int32) : g_X1_countChanges_5 F (n + 1) v1 v3 v4 k_lo k_hi b_k b_h b_L = (if b_L ≤ v4 then some v3 else mg (inb v4 80) ((if (b_k (v4).toNatClampNeg) = (4 : Int32) then mn (v4 + (1 : Int32)) (fun v4_4 => g_X1_countChanges_5 F n v1 v3 v4_4 k_lo k_hi b_k b_h b_L) else mg (inb v4 80) (mb1 (f_X1_fits F v1 v4 (((b_h (v4).toNatClampNeg)).toInt64) k_lo k_hi) (fun r_6 => (if r_6 = 0 then mn (v3 + (1 : Int32)) (fun v3_10 => mn (v4 + (1 : Int32)) (fun v4_11 => g_X1_countChanges_5 F n v1 v3_10 v4_11 k_lo k_hi b_k b_h b_L)) else mn (v4 + (1 : Int32)) (fun v4_9 => g_X1_countChanges_5 F n v1 v3 v4_9 k_lo k_hi b_k b_h b_L))))))) := rfl
def f_X1_countChanges (F : Nat) (v1 : Int32) (k_lo : Nat → Nat → Int64) (k_hi : Nat → Nat → Int64) (b_k : Nat → Int32) (b_h : Nat → Int32) (b_L : Int32) : Option (Int32) := g_X1_countChanges_5 F F v1 (0 : Int32) (0 : Int32) k_lo k_hi b_k b_h b_L
set_option maxRecDepth 20000 in
theorem n_X1_countChanges_X0 : ∀ w ∈ wsX00, w ∈ wsX1_countChanges := by decide +kernel
set_option maxRecDepth 20000 in
theorem w_X1_countChanges_f31 : Cond.fieldLink RX1 31 "LayerStacks$Board" "layers" "I" ∈ wsX1_countChanges := by decide +kernel
set_option maxRecDepth 20000 in
theorem w_X1_countChanges_f36 : Cond.fieldLink RX1 36 "LayerStacks$Board" "kinds" "[I" ∈ wsX1_countChanges := by decide +kernel
set_option maxRecDepth 20000 in
theorem w_X1_countChanges_f40 : Cond.fieldLink RX1 40 "LayerStacks$Board" "thicknesses" "[I" ∈ wsX1_countChanges := by decide +kernel
set_option maxHeartbeats 4000000 in
set_option maxRecDepth 100000 in
theorem k_X1_countChanges_5 {p : Program} {l : Launch} {e : Env} {s : State} {m : MethodId} {args : Array Value} {below : List Frame} {meth : Method} {c : Code} {D : va_G} {y : Nat → ClassId} {A : Nat → Prop} {q : Nat → Nat} {q2 : Nat → Nat} {k_c : Int32} {b_n : Nat → Int64} {b_d : Nat → Int32} {b_r : Nat → Int32} {b_u : Nat → Int32} {b_y : Nat → Int32} {b_p_s_f : Nat → Int32} {b_p_s_l : Nat → Int32} {b_p_s_c : Int32} {b_p_t : Int32} {b_v_f : Nat → Int32} {b_v_l : Nat → Int32} {b_v_c : Int32} {b_C : Int32} {b_I : Int32} {z : Int32} (C : CX p s m args meth c wsX1_countChanges RX1 cX1_countChanges 5 (some .int)) (hA : ∀ q : Nat, s.heap.size ≤ q → A q) (hK : va_K D vwCl (tyl y) s) (F : Nat) :
    ∀ (n : Nat), ∀ (v1 : Int32) (v3 : Int32) (v4 : Int32) (k_lo : Nat → Nat → Int64) (k_hi : Nat → Nat → Int64) (b_k : Nat → Int32) (b_h : Nat → Int32) (b_L : Int32) (H : Heap) (locs : List Loc) (ls : Array Slot), g_X1_countChanges_5 F n v1 v3 v4 k_lo k_hi b_k b_h b_L = some z → va_P D vwCl ((wdX1 q y k_lo k_hi k_c) ++ (wdX0 q2 y b_k b_n b_h b_d b_r b_u b_y b_p_s_f b_p_s_l b_p_s_c b_p_t b_v_f b_v_l b_v_c b_L b_C b_I)) H → va_D A ((wdX1 q y k_lo k_hi k_c) ++ (wdX0 q2 y b_k b_n b_h b_d b_r b_u b_y b_p_s_f b_p_s_l b_p_s_c b_p_t b_v_f b_v_l b_v_c b_L b_C b_I)) → va_S A s.heap H locs → lv_has ls 5 [(0, .ref (q 0)), (1, .int v1), (2, .ref (q2 0)), (3, .int v3), (4, .int v4)] → W p l e ({ frames := 1, cells := 0, slots := 0, locals := 26 } : Room) s m args below meth c H locs 0 0 (MQ below (QI D y A (z) ((wdX1 q y k_lo k_hi k_c) ++ (wdX0 q2 y b_k b_n b_h b_d b_r b_u b_y b_p_s_f b_p_s_l b_p_s_c b_p_t b_v_f b_v_l b_v_c b_L b_C b_I))) args s 0 0 A) (F0 m 5 ls []) := by
  obtain ⟨⟨hx, hb, hml, hown, hts⟩, hr, hlocks⟩ := id C
  intro n
  induction n with
  | zero =>
    intro v1 v3 v4 k_lo k_hi b_k b_h b_L H locs ls hm
    rw [g_X1_countChanges_5_z] at hm
    cases hm
  | succ n ih =>
    intro v1 v3 v4 k_lo k_hi b_k b_h b_L H locs ls hm hP hD hS hl
    rw [g_X1_countChanges_5_s] at hm
    refine lv_iload hx hb dX1_countChanges_5 (lv_at hl 4 rfl) ?_
    refine lv_aload_n hx hb dX1_countChanges_7 rfl (lv_at hl 2 rfl) ?_
    refine va_get (D := D) (ci := 0) (v := .int b_L) (C := RX0) (T := TX0) (N := 12) hx hb hts n_X1_countChanges_X0 hown hK hP 19 rfl rfl 9 (by decide) (hts _ w_X1_countChanges_f31) (fun _ h9 => h9) rfl dX1_countChanges_8 ?_
    refine lv_icmp_ge (tgt := 52) hx hb dX1_countChanges_11 (by decide) (fun h_1 => ?_) (fun h_1 => ?_)
    · have hm := it_of hm h_1
      refine lv_iload_n hx hb dX1_countChanges_52 rfl (lv_at hl 3 rfl) ?_
      have hz := Option.some.inj hm
      subst hz
      exact end_i C hK hP hD hS dX1_countChanges_53
    · have hm := ie_of hm h_1
      refine lv_aload_n hx hb dX1_countChanges_14 rfl (lv_at hl 2 rfl) ?_
      refine va_get (D := D) (ci := 0) (v := .ref (q2 1)) (C := RX0) (T := TX0) (N := 12) hx hb hts n_X1_countChanges_X0 hown hK hP 19 rfl rfl 0 (by decide) (hts _ w_X1_countChanges_f36) (fun _ h9 => h9) rfl dX1_countChanges_15 ?_
      refine lv_iload hx hb dX1_countChanges_18 (lv_at hl 4 rfl) ?_
      obtain ⟨hg_2, hm⟩ := mg_of hm
      refine va_iald hx hb hK hP 20 0 rfl rfl hg_2 dX1_countChanges_20 ?_
      refine lv_iconst (v := (4 : Int32)) hx hb dX1_countChanges_21 (by decide) ?_
      refine lv_icmp_eq (tgt := 46) hx hb dX1_countChanges_22 (by decide) (fun h_3 => ?_) (fun h_3 => ?_)
      · have hm := it_of hm h_3
        obtain ⟨v4_4, ev4_4⟩ : ∃ y9 : Int32, y9 = (v4 + (1 : Int32)) := ⟨_, rfl⟩
        have hm := mn_of ev4_4 hm
        refine lv_iinc (v := v4_4) (lv' := [(4, .int v4_4), (0, .ref (q 0)), (1, .int v1), (2, .ref (q2 0)), (3, .int v3)]) hx hb dX1_countChanges_46 hl (k := 4) rfl (by rw [ev4_4]; rfl) (by decide) rfl (fun ls hl => ?_)
        refine lv_goto (tgt := 5) hx hb dX1_countChanges_49 (by decide) ?_
        exact ih v1 v3 v4_4 k_lo k_hi b_k b_h b_L _ _ _ hm hP hD hS (lv_sub hl [1, 2, 3, 4, 0] rfl)
      · have hm := ie_of hm h_3
        refine lv_aload_n hx hb dX1_countChanges_25 rfl (lv_at hl 0 rfl) ?_
        refine lv_iload_n hx hb dX1_countChanges_26 rfl (lv_at hl 1 rfl) ?_
        refine lv_iload hx hb dX1_countChanges_27 (lv_at hl 4 rfl) ?_
        refine lv_aload_n hx hb dX1_countChanges_29 rfl (lv_at hl 2 rfl) ?_
        refine va_get (D := D) (ci := 0) (v := .ref (q2 3)) (C := RX0) (T := TX0) (N := 12) hx hb hts n_X1_countChanges_X0 hown hK hP 19 rfl rfl 2 (by decide) (hts _ w_X1_countChanges_f40) (fun _ h9 => h9) rfl dX1_countChanges_30 ?_
        refine lv_iload hx hb dX1_countChanges_33 (lv_at hl 4 rfl) ?_
        obtain ⟨hg_5, hm⟩ := mg_of hm
        refine va_iald hx hb hK hP 22 0 rfl rfl hg_5 dX1_countChanges_35 ?_
        refine lv_i2l (v := ((b_h (v4).toNatClampNeg)).toInt64) hx hb dX1_countChanges_36 rfl ?_
        obtain ⟨r_6, hc_7, hm⟩ := mb1_of hm
        refine call_vi (wc := (wdX1 q y k_lo k_hi k_c)) (wr := [(q2 0, .inr (0, [.ref (q2 1), .ref (q2 2), .ref (q2 3), .ref (q2 4), .ref (q2 5), .ref (q2 6), .ref (q2 7), .ref (q2 8), .ref (q2 12), .int b_L, .int b_C, .int b_I])), (q2 1, .inl (y 0, 80, .inl b_k)), (q2 2, .inl (y 1, 80, .inr (.inl b_n))), (q2 3, .inl (y 0, 80, .inl b_h)), (q2 4, .inl (y 0, 80, .inl b_d)), (q2 5, .inl (y 0, 80, .inl b_r)), (q2 6, .inl (y 0, 80, .inl b_u)), (q2 7, .inl (y 0, 32, .inl b_y)), (q2 8, .inr (2, [.ref (q2 9), .int b_p_t])), (q2 9, .inr (3, [.ref (q2 10), .ref (q2 11), .int b_p_s_c])), (q2 10, .inl (y 0, 21, .inl b_p_s_f)), (q2 11, .inl (y 0, 21, .inl b_p_s_l)), (q2 12, .inr (3, [.ref (q2 13), .ref (q2 14), .int b_v_c])), (q2 13, .inl (y 0, 40, .inl b_v_f)), (q2 14, .inl (y 0, 40, .inl b_v_l))]) (As := [.int v1, .int v4, .long (((b_h (v4).toNatClampNeg)).toInt64)]) (rest := []) C (c_X1_fits l D y q _ F hc_7) (cwV 3 hts gX1_countChanges_X1_fits rfl rfl rfl (by decide +kernel) ⟨Nat.le_of_ble_eq_true rfl, Nat.le_of_ble_eq_true rfl⟩) hK hP hD hS hA [0, 1, 2, 3, 4, 5, 6, 7, 8, 9, 10, 11, 12, 13, 14, 15, 16, 17, 18] [19, 20, 21, 22, 23, 24, 25, 26, 27, 28, 29, 30, 31, 32, 33] rfl rfl rfl rfl rfl (by decide) rfl rfl rfl rfl hl.1 (Nat.le_of_ble_eq_true rfl) dX1_countChanges_37 (fun H locs hP hD hS => ?_)
        have hP : va_P D vwCl ((wdX1 q y k_lo k_hi k_c) ++ (wdX0 q2 y b_k b_n b_h b_d b_r b_u b_y b_p_s_f b_p_s_l b_p_s_c b_p_t b_v_f b_v_l b_v_c b_L b_C b_I)) H := hP.sub [15, 16, 17, 18, 19, 20, 21, 22, 23, 24, 25, 26, 27, 28, 29, 30, 31, 32, 33, 0, 1, 2, 3, 4, 5, 6, 7, 8, 9, 10, 11, 12, 13, 14] rfl
        have hD : va_D A ((wdX1 q y k_lo k_hi k_c) ++ (wdX0 q2 y b_k b_n b_h b_d b_r b_u b_y b_p_s_f b_p_s_l b_p_s_c b_p_t b_v_f b_v_l b_v_c b_L b_C b_I)) := hD.sub [15, 16, 17, 18, 19, 20, 21, 22, 23, 24, 25, 26, 27, 28, 29, 30, 31, 32, 33, 0, 1, 2, 3, 4, 5, 6, 7, 8, 9, 10, 11, 12, 13, 14] (by decide) rfl
        refine lv_if_ne (tgt := 46) hx hb dX1_countChanges_40 (by decide) (fun h_8 => ?_) (fun h_8 => ?_)
        · have hm := ie_of hm h_8
          obtain ⟨v4_9, ev4_9⟩ : ∃ y9 : Int32, y9 = (v4 + (1 : Int32)) := ⟨_, rfl⟩
          have hm := mn_of ev4_9 hm
          refine lv_iinc (v := v4_9) (lv' := [(4, .int v4_9), (0, .ref (q 0)), (1, .int v1), (2, .ref (q2 0)), (3, .int v3)]) hx hb dX1_countChanges_46 hl (k := 4) rfl (by rw [ev4_9]; rfl) (by decide) rfl (fun ls hl => ?_)
          refine lv_goto (tgt := 5) hx hb dX1_countChanges_49 (by decide) ?_
          exact ih v1 v3 v4_9 k_lo k_hi b_k b_h b_L _ _ _ hm hP hD hS (lv_sub hl [1, 2, 3, 4, 0] rfl)
        · have hm := it_of hm h_8
          obtain ⟨v3_10, ev3_10⟩ : ∃ y9 : Int32, y9 = (v3 + (1 : Int32)) := ⟨_, rfl⟩
          have hm := mn_of ev3_10 hm
          refine lv_iinc (v := v3_10) (lv' := [(3, .int v3_10), (0, .ref (q 0)), (1, .int v1), (2, .ref (q2 0)), (4, .int v4)]) hx hb dX1_countChanges_43 hl (k := 3) rfl (by rw [ev3_10]; rfl) (by decide) rfl (fun ls hl => ?_)
          obtain ⟨v4_11, ev4_11⟩ : ∃ y9 : Int32, y9 = (v4 + (1 : Int32)) := ⟨_, rfl⟩
          have hm := mn_of ev4_11 hm
          refine lv_iinc (v := v4_11) (lv' := [(4, .int v4_11), (3, .int v3_10), (0, .ref (q 0)), (1, .int v1), (2, .ref (q2 0))]) hx hb dX1_countChanges_46 hl (k := 4) rfl (by rw [ev4_11]; rfl) (by decide) rfl (fun ls hl => ?_)
          refine lv_goto (tgt := 5) hx hb dX1_countChanges_49 (by decide) ?_
          exact ih v1 v3_10 v4_11 k_lo k_hi b_k b_h b_L _ _ _ hm hP hD hS (lv_sub hl [2, 3, 4, 1, 0] rfl)
set_option maxHeartbeats 4000000 in
set_option maxRecDepth 100000 in
theorem c_X1_countChanges (l : Launch) (D : va_G) (y : Nat → ClassId) (q : Nat → Nat) (q2 : Nat → Nat) (sz : Nat) (F : Nat) {v1 : Int32} {k_lo : Nat → Nat → Int64} {k_hi : Nat → Nat → Int64} {k_c : Int32} {b_k : Nat → Int32} {b_n : Nat → Int64} {b_h : Nat → Int32} {b_d : Nat → Int32} {b_r : Nat → Int32} {b_u : Nat → Int32} {b_y : Nat → Int32} {b_p_s_f : Nat → Int32} {b_p_s_l : Nat → Int32} {b_p_s_c : Int32} {b_p_t : Int32} {b_v_f : Nat → Int32} {b_v_l : Nat → Int32} {b_v_c : Int32} {b_L : Int32} {b_C : Int32} {b_I : Int32} {z : Int32} (hm : f_X1_countChanges F v1 k_lo k_hi b_k b_h b_L = some z) : Met l yX1_countChanges wsX1_countChanges ({ frames := 1, cells := 0, slots := 0, locals := 26 } : Room) (va_Pc [.ref (q 0), .int v1, .ref (q2 0)] (cP D y ((wdX1 q y k_lo k_hi k_c) ++ (wdX0 q2 y b_k b_n b_h b_d b_r b_u b_y b_p_s_f b_p_s_l b_p_s_c b_p_t b_v_f b_v_l b_v_c b_L b_C b_I)) sz)) (QI D y (va_A ((wdX1 q y k_lo k_hi k_c) ++ (wdX0 q2 y b_k b_n b_h b_d b_r b_u b_y b_p_s_f b_p_s_l b_p_s_c b_p_t b_v_f b_v_l b_v_c b_L b_C b_I)) sz) (z) ((wdX1 q y k_lo k_hi k_c) ++ (wdX0 q2 y b_k b_n b_h b_d b_r b_u b_y b_p_s_f b_p_s_l b_p_s_c b_p_t b_v_f b_v_l b_v_c b_L b_C b_I))) 0 0 (va_A ((wdX1 q y k_lo k_hi k_c) ++ (wdX0 q2 y b_k b_n b_h b_d b_r b_u b_y b_p_s_f b_p_s_l b_p_s_c b_p_t b_v_f b_v_l b_v_c b_L b_C b_I)) sz) := by
  refine met_of (own := RX1) (cc := cX1_countChanges) (maxL := 5) (ret := (some .int)) (by decide) rfl rfl (Nat.le_of_ble_eq_true rfl) ?_
  intro p e s m below meth c ls C hsz hK hP hD hA hS hl
  obtain ⟨⟨hx, hb, hml, hown, hts⟩, hr, hlocks⟩ := id C
  have hl : lv_has ls 5 [(0, .ref (q 0)), (1, .int v1), (2, .ref (q2 0))] := hl
  generalize va_A ((wdX1 q y k_lo k_hi k_c) ++ (wdX0 q2 y b_k b_n b_h b_d b_r b_u b_y b_p_s_f b_p_s_l b_p_s_c b_p_t b_v_f b_v_l b_v_c b_L b_C b_I)) sz = A at hD hA hS ⊢
  generalize ([.ref (q 0), .int v1, .ref (q2 0)] : List Value).toArray = args at C hts ⊢
  unfold f_X1_countChanges at hm
  refine lv_iconst (v := (0 : Int32)) hx hb dX1_countChanges_0 (by decide) ?_
  refine lv_istore_n (lv' := [(3, .int (0 : Int32)), (0, .ref (q 0)), (1, .int v1), (2, .ref (q2 0))]) hx hb dX1_countChanges_1 rfl hl (by decide) rfl (fun ls hl => ?_)
  refine lv_iconst (v := (0 : Int32)) hx hb dX1_countChanges_2 (by decide) ?_
  refine lv_istore (lv' := [(4, .int (0 : Int32)), (3, .int (0 : Int32)), (0, .ref (q 0)), (1, .int v1), (2, .ref (q2 0))]) hx hb dX1_countChanges_3 hl (by decide) rfl (fun ls hl => ?_)
  exact k_X1_countChanges_5 C hA hK F F v1 (0 : Int32) (0 : Int32) k_lo k_hi b_k b_h b_L _ _ _ hm hP hD hS (lv_sub hl [2, 3, 4, 1, 0] rfl)
def g_X1_findLeastChanged_8 (F : Nat) : Nat → Int32 → Int32 → Int32 → (Nat → Nat → Int64) → (Nat → Nat → Int64) → Int32 → (Nat → Int32) → (Nat → Int32) → Int32 → Option (Int32)
  | 0, _, _, _, _, _, _, _, _, _ => none
  | n + 1, v2, v3, v4, k_lo, k_hi, k_c, b_k, b_h, b_L => (if k_c ≤ v4 then some v2 else mb1 (f_X1_countChanges F v4 k_lo k_hi b_k b_h b_L) (fun r_2 => (if v3 ≤ r_2 then mn (v4 + (1 : Int32)) (fun v4_5 => g_X1_findLeastChanged_8 F n v2 v3 v4_5 k_lo k_hi k_c b_k b_h b_L) else mn (v4 + (1 : Int32)) (fun v4_6 => g_X1_findLeastChanged_8 F n v4 r_2 v4_6 k_lo k_hi k_c b_k b_h b_L))))
theorem g_X1_findLeastChanged_8_z (F : Nat) (v2 : Int32) (v3 : Int32) (v4 : Int32) (k_lo : Nat → Nat → Int64) (k_hi : Nat → Nat → Int64) (k_c : Int32) (b_k : Nat → Int32) (b_h : Nat → Int32) (b_L : Int32) : g_X1_findLeastChanged_8 F 0 v2 v3 v4 k_lo k_hi k_c b_k b_h b_L = none := rfl
theorem g_X1_findLeastChanged_8_s (F : Nat) (n : Nat) (v2 : Int32) (v3 : Int32) (v4 : Int32) (k_lo : Nat → Nat → Int64) (k_hi : Nat → Nat → Int64) (k_c : Int32) (b_k : Nat → Int32) (b_h : Nat → Int32) (b_L : Int32) : g_X1_findLeastChanged_8 F (n + 1) v2 v3 v4 k_lo k_hi k_c b_k b_h b_L = (if k_c ≤ v4 then some v2 else mb1 (f_X1_countChanges F v4 k_lo k_hi b_k b_h b_L) (fun r_2 => (if v3 ≤ r_2 then mn (v4 + (1 : Int32)) (fun v4_5 => g_X1_findLeastChanged_8 F n v2 v3 v4_5 k_lo k_hi k_c b_k b_h b_L) else mn (v4 + (1 : Int32)) (fun v4_6 => g_X1_findLeastChanged_8 F n v4 r_2 v4_6 k_lo k_hi k_c b_k b_h b_L)))) := rfl
def f_X1_findLeastChanged (F : Nat) (k_lo : Nat → Nat → Int64) (k_hi : Nat → Nat → Int64) (k_c : Int32) (b_k : Nat → Int32) (b_h : Nat → Int32) (b_L : Int32) : Option (Int32) := g_X1_findLeastChanged_8 F F (-1 : Int32) (81 : Int32) (0 : Int32) k_lo k_hi k_c b_k b_h b_L
set_option maxRecDepth 20000 in
theorem n_X1_findLeastChanged_X1 : ∀ w ∈ wsX10, w ∈ wsX1_findLeastChanged := by decide +kernel
set_option maxRecDepth 20000 in
theorem w_X1_findLeastChanged_f19 : Cond.fieldLink RX1 19 "LayerStacks$MakerLists" "count" "I" ∈ wsX1_findLeastChanged := by decide +kernel
set_option maxHeartbeats 4000000 in
set_option maxRecDepth 100000 in
theorem k_X1_findLeastChanged_8 {p : Program} {l : Launch} {e : Env} {s : State} {m : MethodId} {args : Array Value} {below : List Frame} {meth : Method} {c : Code} {D : va_G} {y : Nat → ClassId} {A : Nat → Prop} {q : Nat → Nat} {q2 : Nat → Nat} {b_n : Nat → Int64} {b_d : Nat → Int32} {b_r : Nat → Int32} {b_u : Nat → Int32} {b_y : Nat → Int32} {b_p_s_f : Nat → Int32} {b_p_s_l : Nat → Int32} {b_p_s_c : Int32} {b_p_t : Int32} {b_v_f : Nat → Int32} {b_v_l : Nat → Int32} {b_v_c : Int32} {b_C : Int32} {b_I : Int32} {z : Int32} (C : CX p s m args meth c wsX1_findLeastChanged RX1 cX1_findLeastChanged 6 (some .int)) (hA : ∀ q : Nat, s.heap.size ≤ q → A q) (hK : va_K D vwCl (tyl y) s) (F : Nat) :
    ∀ (n : Nat), ∀ (v2 : Int32) (v3 : Int32) (v4 : Int32) (k_lo : Nat → Nat → Int64) (k_hi : Nat → Nat → Int64) (k_c : Int32) (b_k : Nat → Int32) (b_h : Nat → Int32) (b_L : Int32) (H : Heap) (locs : List Loc) (ls : Array Slot), g_X1_findLeastChanged_8 F n v2 v3 v4 k_lo k_hi k_c b_k b_h b_L = some z → va_P D vwCl ((wdX1 q y k_lo k_hi k_c) ++ (wdX0 q2 y b_k b_n b_h b_d b_r b_u b_y b_p_s_f b_p_s_l b_p_s_c b_p_t b_v_f b_v_l b_v_c b_L b_C b_I)) H → va_D A ((wdX1 q y k_lo k_hi k_c) ++ (wdX0 q2 y b_k b_n b_h b_d b_r b_u b_y b_p_s_f b_p_s_l b_p_s_c b_p_t b_v_f b_v_l b_v_c b_L b_C b_I)) → va_S A s.heap H locs → lv_has ls 6 [(0, .ref (q 0)), (1, .ref (q2 0)), (2, .int v2), (3, .int v3), (4, .int v4)] → W p l e ({ frames := 2, cells := 0, slots := 0, locals := 50 } : Room) s m args below meth c H locs 0 0 (MQ below (QI D y A (z) ((wdX1 q y k_lo k_hi k_c) ++ (wdX0 q2 y b_k b_n b_h b_d b_r b_u b_y b_p_s_f b_p_s_l b_p_s_c b_p_t b_v_f b_v_l b_v_c b_L b_C b_I))) args s 0 0 A) (F0 m 8 ls []) := by
  obtain ⟨⟨hx, hb, hml, hown, hts⟩, hr, hlocks⟩ := id C
  intro n
  induction n with
  | zero =>
    intro v2 v3 v4 k_lo k_hi k_c b_k b_h b_L H locs ls hm
    rw [g_X1_findLeastChanged_8_z] at hm
    cases hm
  | succ n ih =>
    intro v2 v3 v4 k_lo k_hi k_c b_k b_h b_L H locs ls hm hP hD hS hl
    rw [g_X1_findLeastChanged_8_s] at hm
    refine lv_iload hx hb dX1_findLeastChanged_8 (lv_at hl 4 rfl) ?_
    refine lv_aload_n hx hb dX1_findLeastChanged_10 rfl (lv_at hl 0 rfl) ?_
    refine va_get (D := D) (ci := 1) (v := .int k_c) (C := RX1) (T := TX1) (N := 3) hx hb hts n_X1_findLeastChanged_X1 hown hK hP 0 rfl rfl 2 (by decide) (hts _ w_X1_findLeastChanged_f19) (fun _ h9 => h9) rfl dX1_findLeastChanged_11 ?_
    refine lv_icmp_ge (tgt := 44) hx hb dX1_findLeastChanged_14 (by decide) (fun h_1 => ?_) (fun h_1 => ?_)
    · have hm := it_of hm h_1
      refine lv_iload_n hx hb dX1_findLeastChanged_44 rfl (lv_at hl 2 rfl) ?_
      have hz := Option.some.inj hm
      subst hz
      exact end_i C hK hP hD hS dX1_findLeastChanged_45
    · have hm := ie_of hm h_1
      refine lv_aload_n hx hb dX1_findLeastChanged_17 rfl (lv_at hl 0 rfl) ?_
      refine lv_iload hx hb dX1_findLeastChanged_18 (lv_at hl 4 rfl) ?_
      refine lv_aload_n hx hb dX1_findLeastChanged_20 rfl (lv_at hl 1 rfl) ?_
      obtain ⟨r_2, hc_3, hm⟩ := mb1_of hm
      refine call_vi (wc := ((wdX1 q y k_lo k_hi k_c) ++ (wdX0 q2 y b_k b_n b_h b_d b_r b_u b_y b_p_s_f b_p_s_l b_p_s_c b_p_t b_v_f b_v_l b_v_c b_L b_C b_I))) (wr := []) (As := [.int v4, .ref (q2 0)]) (rest := []) C (c_X1_countChanges l D y q q2 _ F hc_3) (cwV 2 hts gX1_findLeastChanged_X1_countChanges rfl rfl rfl (by decide +kernel) ⟨Nat.le_of_ble_eq_true rfl, Nat.le_of_ble_eq_true rfl⟩) hK hP hD hS hA [0, 1, 2, 3, 4, 5, 6, 7, 8, 9, 10, 11, 12, 13, 14, 15, 16, 17, 18, 19, 20, 21, 22, 23, 24, 25, 26, 27, 28, 29, 30, 31, 32, 33] [] rfl rfl rfl rfl rfl (by decide) rfl rfl rfl rfl hl.1 (Nat.le_of_ble_eq_true rfl) dX1_findLeastChanged_21 (fun H locs hP hD hS => ?_)
      have hP : va_P D vwCl ((wdX1 q y k_lo k_hi k_c) ++ (wdX0 q2 y b_k b_n b_h b_d b_r b_u b_y b_p_s_f b_p_s_l b_p_s_c b_p_t b_v_f b_v_l b_v_c b_L b_C b_I)) H := hP
      have hD : va_D A ((wdX1 q y k_lo k_hi k_c) ++ (wdX0 q2 y b_k b_n b_h b_d b_r b_u b_y b_p_s_f b_p_s_l b_p_s_c b_p_t b_v_f b_v_l b_v_c b_L b_C b_I)) := hD
      refine lv_istore (lv' := [(5, .int r_2), (0, .ref (q 0)), (1, .ref (q2 0)), (2, .int v2), (3, .int v3), (4, .int v4)]) hx hb dX1_findLeastChanged_24 hl (by decide) rfl (fun ls hl => ?_)
      refine lv_iload hx hb dX1_findLeastChanged_26 (lv_at hl 0 rfl) ?_
      refine lv_iload_n hx hb dX1_findLeastChanged_28 rfl (lv_at hl 4 rfl) ?_
      refine lv_icmp_ge (tgt := 38) hx hb dX1_findLeastChanged_29 (by decide) (fun h_4 => ?_) (fun h_4 => ?_)
      · have hm := it_of hm h_4
        obtain ⟨v4_5, ev4_5⟩ : ∃ y9 : Int32, y9 = (v4 + (1 : Int32)) := ⟨_, rfl⟩
        have hm := mn_of ev4_5 hm
        refine lv_iinc (v := v4_5) (lv' := [(4, .int v4_5), (5, .int r_2), (0, .ref (q 0)), (1, .ref (q2 0)), (2, .int v2), (3, .int v3)]) hx hb dX1_findLeastChanged_38 hl (k := 5) rfl (by rw [ev4_5]; rfl) (by decide) rfl (fun ls hl => ?_)
        refine lv_goto (tgt := 8) hx hb dX1_findLeastChanged_41 (by decide) ?_
        exact ih v2 v3 v4_5 k_lo k_hi k_c b_k b_h b_L _ _ _ hm hP hD hS (lv_sub hl [2, 3, 4, 5, 0] rfl)
      · have hm := ie_of hm h_4
        refine lv_iload hx hb dX1_findLeastChanged_32 (lv_at hl 5 rfl) ?_
        refine lv_istore_n (lv' := [(2, .int v4), (5, .int r_2), (0, .ref (q 0)), (1, .ref (q2 0)), (3, .int v3), (4, .int v4)]) hx hb dX1_findLeastChanged_34 rfl hl (by decide) rfl (fun ls hl => ?_)
        refine lv_iload hx hb dX1_findLeastChanged_35 (lv_at hl 1 rfl) ?_
        refine lv_istore_n (lv' := [(3, .int r_2), (2, .int v4), (5, .int r_2), (0, .ref (q 0)), (1, .ref (q2 0)), (4, .int v4)]) hx hb dX1_findLeastChanged_37 rfl hl (by decide) rfl (fun ls hl => ?_)
        obtain ⟨v4_6, ev4_6⟩ : ∃ y9 : Int32, y9 = (v4 + (1 : Int32)) := ⟨_, rfl⟩
        have hm := mn_of ev4_6 hm
        refine lv_iinc (v := v4_6) (lv' := [(4, .int v4_6), (3, .int r_2), (2, .int v4), (5, .int r_2), (0, .ref (q 0)), (1, .ref (q2 0))]) hx hb dX1_findLeastChanged_38 hl (k := 5) rfl (by rw [ev4_6]; rfl) (by decide) rfl (fun ls hl => ?_)
        refine lv_goto (tgt := 8) hx hb dX1_findLeastChanged_41 (by decide) ?_
        exact ih v4 r_2 v4_6 k_lo k_hi k_c b_k b_h b_L _ _ _ hm hP hD hS (lv_sub hl [4, 5, 2, 1, 0] rfl)
set_option maxHeartbeats 4000000 in
set_option maxRecDepth 100000 in
theorem c_X1_findLeastChanged (l : Launch) (D : va_G) (y : Nat → ClassId) (q : Nat → Nat) (q2 : Nat → Nat) (sz : Nat) (F : Nat) {k_lo : Nat → Nat → Int64} {k_hi : Nat → Nat → Int64} {k_c : Int32} {b_k : Nat → Int32} {b_n : Nat → Int64} {b_h : Nat → Int32} {b_d : Nat → Int32} {b_r : Nat → Int32} {b_u : Nat → Int32} {b_y : Nat → Int32} {b_p_s_f : Nat → Int32} {b_p_s_l : Nat → Int32} {b_p_s_c : Int32} {b_p_t : Int32} {b_v_f : Nat → Int32} {b_v_l : Nat → Int32} {b_v_c : Int32} {b_L : Int32} {b_C : Int32} {b_I : Int32} {z : Int32} (hm : f_X1_findLeastChanged F k_lo k_hi k_c b_k b_h b_L = some z) : Met l yX1_findLeastChanged wsX1_findLeastChanged ({ frames := 2, cells := 0, slots := 0, locals := 50 } : Room) (va_Pc [.ref (q 0), .ref (q2 0)] (cP D y ((wdX1 q y k_lo k_hi k_c) ++ (wdX0 q2 y b_k b_n b_h b_d b_r b_u b_y b_p_s_f b_p_s_l b_p_s_c b_p_t b_v_f b_v_l b_v_c b_L b_C b_I)) sz)) (QI D y (va_A ((wdX1 q y k_lo k_hi k_c) ++ (wdX0 q2 y b_k b_n b_h b_d b_r b_u b_y b_p_s_f b_p_s_l b_p_s_c b_p_t b_v_f b_v_l b_v_c b_L b_C b_I)) sz) (z) ((wdX1 q y k_lo k_hi k_c) ++ (wdX0 q2 y b_k b_n b_h b_d b_r b_u b_y b_p_s_f b_p_s_l b_p_s_c b_p_t b_v_f b_v_l b_v_c b_L b_C b_I))) 0 0 (va_A ((wdX1 q y k_lo k_hi k_c) ++ (wdX0 q2 y b_k b_n b_h b_d b_r b_u b_y b_p_s_f b_p_s_l b_p_s_c b_p_t b_v_f b_v_l b_v_c b_L b_C b_I)) sz) := by
  refine met_of (own := RX1) (cc := cX1_findLeastChanged) (maxL := 6) (ret := (some .int)) (by decide) rfl rfl (Nat.le_of_ble_eq_true rfl) ?_
  intro p e s m below meth c ls C hsz hK hP hD hA hS hl
  obtain ⟨⟨hx, hb, hml, hown, hts⟩, hr, hlocks⟩ := id C
  have hl : lv_has ls 6 [(0, .ref (q 0)), (1, .ref (q2 0))] := hl
  generalize va_A ((wdX1 q y k_lo k_hi k_c) ++ (wdX0 q2 y b_k b_n b_h b_d b_r b_u b_y b_p_s_f b_p_s_l b_p_s_c b_p_t b_v_f b_v_l b_v_c b_L b_C b_I)) sz = A at hD hA hS ⊢
  generalize ([.ref (q 0), .ref (q2 0)] : List Value).toArray = args at C hts ⊢
  unfold f_X1_findLeastChanged at hm
  refine lv_iconst (v := (-1 : Int32)) hx hb dX1_findLeastChanged_0 (by decide) ?_
  refine lv_istore_n (lv' := [(2, .int (-1 : Int32)), (0, .ref (q 0)), (1, .ref (q2 0))]) hx hb dX1_findLeastChanged_1 rfl hl (by decide) rfl (fun ls hl => ?_)
  refine lv_bipush (v := (81 : Int32)) hx hb dX1_findLeastChanged_2 (by decide) ?_
  refine lv_istore_n (lv' := [(3, .int (81 : Int32)), (2, .int (-1 : Int32)), (0, .ref (q 0)), (1, .ref (q2 0))]) hx hb dX1_findLeastChanged_4 rfl hl (by decide) rfl (fun ls hl => ?_)
  refine lv_iconst (v := (0 : Int32)) hx hb dX1_findLeastChanged_5 (by decide) ?_
  refine lv_istore (lv' := [(4, .int (0 : Int32)), (3, .int (81 : Int32)), (2, .int (-1 : Int32)), (0, .ref (q 0)), (1, .ref (q2 0))]) hx hb dX1_findLeastChanged_6 hl (by decide) rfl (fun ls hl => ?_)
  exact k_X1_findLeastChanged_8 C hA hK F F (-1 : Int32) (81 : Int32) (0 : Int32) k_lo k_hi k_c b_k b_h b_L _ _ _ hm hP hD hS (lv_sub hl [3, 4, 2, 1, 0] rfl)
