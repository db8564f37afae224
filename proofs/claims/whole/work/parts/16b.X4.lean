def g_X4_countSameLetters_2 (F : Nat) (i1 : Nat) : Nat → Int32 → (Nat → Int32) → Int32 → Int32 → Option (Int32)
  | 0, _, _, _, _ => none
  | n + 1, v2, t_ch, t_len, t_at => (if (Int32.ofNat (sLen.getD i1 0)) ≤ v2 then some v2 else mb1 (f_X4_characterAt F (t_at + v2) t_ch t_len) (fun r_2 => mg (inb v2 (sLen.getD i1 0)) ((if r_2 = (sCh i1 v2) then mn (v2 + (1 : Int32)) (fun v2_6 => g_X4_countSameLetters_2 F i1 n v2_6 t_ch t_len t_at) else some v2))))
theorem g_X4_countSameLetters_2_z (F : Nat) (i1 : Nat) (v2 : Int32) (t_ch : Nat → Int32) (t_len : Int32) (t_at : Int32) : g_X4_countSameLetters_2 F i1 0 v2 t_ch t_len t_at = none := rfl
theorem g_X4_countSameLetters_2_s (F : Nat) (i1 : Nat) (n : Nat) (v2 : Int32) (t_ch : Nat → Int32) (t_len : Int32) (t_at : Int32) : g_X4_countSameLetters_2 F i1 (n + 1) v2 t_ch t_len t_at = (if (Int32.ofNat (sLen.getD i1 0)) ≤ v2 then some v2 else mb1 (f_X4_characterAt F (t_at + v2) t_ch t_len) (fun r_2 => mg (inb v2 (sLen.getD i1 0)) ((if r_2 = (sCh i1 v2) then mn (v2 + (1 : Int32)) (fun v2_6 => g_X4_countSameLetters_2 F i1 n v2_6 t_ch t_len t_at) else some v2)))) := rfl
def f_X4_countSameLetters (F : Nat) (i1 : Nat) (t_ch : Nat → Int32) (t_len : Int32) (t_at : Int32) : Option (Int32) := g_X4_countSameLetters_2 F i1 F (0 : Int32) t_ch t_len t_at
set_option maxRecDepth 20000 in
theorem n_X4_countSameLetters_X4 : ∀ w ∈ wsX40, w ∈ wsX4_countSameLetters := by decide +kernel
set_option maxRecDepth 20000 in
theorem w_X4_countSameLetters_f24 : Cond.fieldLink RX4 24 "LayerStacks$TextReader" "at" "I" ∈ wsX4_countSameLetters := by decide +kernel
set_option maxHeartbeats 4000000 in
set_option maxRecDepth 100000 in
theorem k_X4_countSameLetters_2 {p : Program} {l : Launch} {e : Env} {s : State} {m : MethodId} {args : Array Value} {below : List Frame} {meth : Method} {c : Code} {D : va_G} {y : Nat → ClassId} {aK aV : Nat → Nat} {i1 : Nat} {A : Nat → Prop} {q : Nat → Nat} {t_ls : Int32} {t_fa : Int32} {z : Int32} (C : CX p s m args meth c wsX4_countSameLetters RX4 cX4_countSameLetters 3 (some .int)) (hA : ∀ q : Nat, s.heap.size ≤ q → A q) (hK : va_K D vwCl (tyl y) s) (hJ : SJ aK aV A s s.heap) (hi1 : i1 < 7) (F : Nat) :
    ∀ (n : Nat), ∀ (v2 : Int32) (t_ch : Nat → Int32) (t_len : Int32) (t_at : Int32) (H : Heap) (locs : List Loc) (ls : Array Slot), g_X4_countSameLetters_2 F i1 n v2 t_ch t_len t_at = some z → va_P D vwCl (wdX4 q y t_ch t_len t_at t_ls t_fa) H → va_D A (wdX4 q y t_ch t_len t_at t_ls t_fa) → va_S A s.heap H locs → lv_has ls 3 [(0, .ref (q 0)), (1, .ref (aK i1)), (2, .int v2)] → W p l e ({ frames := 4, cells := 0, slots := 0, locals := 85 } : Room) s m args below meth c H locs 0 0 (MQ below (QI D y A (z) (wdX4 q y t_ch t_len t_at t_ls t_fa)) args s 0 0 A) (F0 m 2 ls []) := by
  obtain ⟨⟨hx, hb, hml, hown, hts⟩, hr, hlocks⟩ := id C
  intro n
  induction n with
  | zero =>
    intro v2 t_ch t_len t_at H locs ls hm
    rw [g_X4_countSameLetters_2_z] at hm
    cases hm
  | succ n ih =>
    intro v2 t_ch t_len t_at H locs ls hm hP hD hS hl
    rw [g_X4_countSameLetters_2_s] at hm
    refine lv_iload_n hx hb dX4_countSameLetters_2 rfl (lv_at hl 2 rfl) ?_
    refine lv_aload_n hx hb dX4_countSameLetters_3 rfl (lv_at hl 1 rfl) ?_
    refine callJ_vi (wc := ([] : va_W)) (wr := (wdX4 q y t_ch t_len t_at t_ls t_fa)) (As := []) (rest := [.int v2]) C (c_J0_length_8abf5 l D y aK aV _ hi1) (cwV 0 hts gX4_countSameLetters_J0_length_8abf5 rfl rfl rfl (by decide +kernel) ⟨Nat.le_of_ble_eq_true rfl, Nat.le_of_ble_eq_true rfl⟩) hJ hK hP hD hS hA [] [0, 1] rfl rfl rfl rfl rfl (by decide) (vk_recv hJ.1.1 hi1 hS) rfl hl.1 (Nat.le_of_ble_eq_true rfl) dX4_countSameLetters_4 (fun H locs hP hD hS => ?_)
    have hP : va_P D vwCl (wdX4 q y t_ch t_len t_at t_ls t_fa) H := hP
    have hD : va_D A (wdX4 q y t_ch t_len t_at t_ls t_fa) := hD
    refine lv_icmp_ge (tgt := 34) hx hb dX4_countSameLetters_7 (by decide) (fun h_1 => ?_) (fun h_1 => ?_)
    · have hm := it_of hm h_1
      refine lv_iload_n hx hb dX4_countSameLetters_34 rfl (lv_at hl 2 rfl) ?_
      have hz := Option.some.inj hm
      subst hz
      exact end_i C hK hP hD hS dX4_countSameLetters_35
    · have hm := ie_of hm h_1
      refine lv_aload_n hx hb dX4_countSameLetters_10 rfl (lv_at hl 0 rfl) ?_
      refine lv_aload_n hx hb dX4_countSameLetters_11 rfl (lv_at hl 0 rfl) ?_
      refine va_get (D := D) (ci := 4) (v := .int t_at) (C := RX4) (T := TX4) (N := 5) hx hb hts n_X4_countSameLetters_X4 hown hK hP 0 rfl rfl 2 (by decide) (hts _ w_X4_countSameLetters_f24) (fun _ h9 => h9) rfl dX4_countSameLetters_12 ?_
      refine lv_iload_n hx hb dX4_countSameLetters_15 rfl (lv_at hl 2 rfl) ?_
      refine lv_iadd hx hb dX4_countSameLetters_16 ?_
      obtain ⟨r_2, hc_3, hm⟩ := mb1_of hm
      refine call_vi (wc := (wdX4 q y t_ch t_len t_at t_ls t_fa)) (wr := []) (As := [.int (t_at + v2)]) (rest := []) C (c_X4_characterAt l D y q _ F hc_3) (cwV 1 hts gX4_countSameLetters_X4_characterAt rfl rfl rfl (by decide +kernel) ⟨Nat.le_of_ble_eq_true rfl, Nat.le_of_ble_eq_true rfl⟩) hK hP hD hS hA [0, 1] [] rfl rfl rfl rfl rfl (by decide) rfl rfl rfl rfl hl.1 (Nat.le_of_ble_eq_true rfl) dX4_countSameLetters_17 (fun H locs hP hD hS => ?_)
      have hP : va_P D vwCl (wdX4 q y t_ch t_len t_at t_ls t_fa) H := hP
      have hD : va_D A (wdX4 q y t_ch t_len t_at t_ls t_fa) := hD
      refine lv_aload_n hx hb dX4_countSameLetters_20 rfl (lv_at hl 1 rfl) ?_
      refine lv_iload_n hx hb dX4_countSameLetters_21 rfl (lv_at hl 2 rfl) ?_
      obtain ⟨hg_4, hm⟩ := mg_of hm
      refine callJ_vi (wc := ([] : va_W)) (wr := (wdX4 q y t_ch t_len t_at t_ls t_fa)) (As := [.int v2]) (rest := [.int r_2]) C (c_J0_charAt_5068e l D y aK aV _ hi1 hg_4) (cwV 1 hts gX4_countSameLetters_J0_charAt_5068e rfl rfl rfl (by decide +kernel) ⟨Nat.le_of_ble_eq_true rfl, Nat.le_of_ble_eq_true rfl⟩) hJ hK hP hD hS hA [] [0, 1] rfl rfl rfl rfl rfl (by decide) (vk_recv hJ.1.1 hi1 hS) rfl hl.1 (Nat.le_of_ble_eq_true rfl) dX4_countSameLetters_22 (fun H locs hP hD hS => ?_)
      have hP : va_P D vwCl (wdX4 q y t_ch t_len t_at t_ls t_fa) H := hP
      have hD : va_D A (wdX4 q y t_ch t_len t_at t_ls t_fa) := hD
      refine lv_icmp_ne (tgt := 34) hx hb dX4_countSameLetters_25 (by decide) (fun h_5 => ?_) (fun h_5 => ?_)
      · have hm := ie_of hm h_5
        refine lv_iload_n hx hb dX4_countSameLetters_34 rfl (lv_at hl 2 rfl) ?_
        have hz := Option.some.inj hm
        subst hz
        exact end_i C hK hP hD hS dX4_countSameLetters_35
      · have hm := it_of hm h_5
        obtain ⟨v2_6, ev2_6⟩ : ∃ y9 : Int32, y9 = (v2 + (1 : Int32)) := ⟨_, rfl⟩
        have hm := mn_of ev2_6 hm
        refine lv_iinc (v := v2_6) (lv' := [(2, .int v2_6), (0, .ref (q 0)), (1, .ref (aK i1))]) hx hb dX4_countSameLetters_28 hl (k := 2) rfl (by rw [ev2_6]; rfl) (by decide) rfl (fun ls hl => ?_)
        refine lv_goto (tgt := 2) hx hb dX4_countSameLetters_31 (by decide) ?_
        exact ih v2_6 t_ch t_len t_at _ _ _ hm hP hD hS (lv_sub hl [1, 2, 0] rfl)
set_option maxHeartbeats 4000000 in
set_option maxRecDepth 100000 in
theorem c_X4_countSameLetters (l : Launch) (D : va_G) (y : Nat → ClassId) (aK aV : Nat → Nat) (q : Nat → Nat) (sz : Nat) (F : Nat) {i1 : Nat} {t_ch : Nat → Int32} {t_len : Int32} {t_at : Int32} {t_ls : Int32} {t_fa : Int32} {z : Int32} (hi1 : i1 < 7) (hm : f_X4_countSameLetters F i1 t_ch t_len t_at = some z) : Met l yX4_countSameLetters wsX4_countSameLetters ({ frames := 4, cells := 0, slots := 0, locals := 85 } : Room) (va_Pc [.ref (q 0), .ref (aK i1)] (cPJ D y aK aV (wdX4 q y t_ch t_len t_at t_ls t_fa) sz)) (QI D y (va_A (wdX4 q y t_ch t_len t_at t_ls t_fa) sz) (z) (wdX4 q y t_ch t_len t_at t_ls t_fa)) 0 0 (va_A (wdX4 q y t_ch t_len t_at t_ls t_fa) sz) := by
  refine met_ofJ (own := RX4) (cc := cX4_countSameLetters) (maxL := 3) (ret := (some .int)) (by decide) rfl rfl (Nat.le_of_ble_eq_true rfl) ?_
  intro p e s m below meth c ls C hsz hK hP hD hA hS hJ hl
  obtain ⟨⟨hx, hb, hml, hown, hts⟩, hr, hlocks⟩ := id C
  have hl : lv_has ls 3 [(0, .ref (q 0)), (1, .ref (aK i1))] := hl
  generalize va_A (wdX4 q y t_ch t_len t_at t_ls t_fa) sz = A at hD hA hS hJ ⊢
  generalize ([.ref (q 0), .ref (aK i1)] : List Value).toArray = args at C hts ⊢
  unfold f_X4_countSameLetters at hm
  refine lv_iconst (v := (0 : Int32)) hx hb dX4_countSameLetters_0 (by decide) ?_
  refine lv_istore_n (lv' := [(2, .int (0 : Int32)), (0, .ref (q 0)), (1, .ref (aK i1))]) hx hb dX4_countSameLetters_1 rfl hl (by decide) rfl (fun ls hl => ?_)
  exact k_X4_countSameLetters_2 C hA hK hJ hi1 F F (0 : Int32) t_ch t_len t_at _ _ _ hm hP hD hS (lv_sub hl [1, 2, 0] rfl)
def g_X4_readWord_4 (F : Nat) : Nat → Int32 → Int32 → (Nat → Int32) → Int32 → Int32 → Int32 → Option (Int32 × Int32 × Int32)
  | 0, _, _, _, _, _, _ => none
  | n + 1, v1, v2, t_ch, t_len, t_at, t_fa => (if (7 : Int32) ≤ v2 then mb2 (f_X4_faultAt F (t_at + v1) t_fa) (fun r_2 t_fa_3 => some ((-1 : Int32), t_at, t_fa_3)) else mb1 (f_X4_countSameLetters F (spl v2) t_ch t_len t_at) (fun r_5 => (if r_5 = (Int32.ofNat (sLen.getD (spl v2) 0)) then some (v2, (t_at + r_5), t_fa) else mn (if v1 < r_5 then r_5 else v1) (fun v1_8 => mn (v2 + (1 : Int32)) (fun v2_9 => g_X4_readWord_4 F n v1_8 v2_9 t_ch t_len t_at t_fa)))))
theorem g_X4_readWord_4_z (F : Nat) (v1 : Int32) (v2 : Int32) (t_ch : Nat → Int32) (t_len : Int32) (t_at : Int32) (t_fa : Int32) : g_X4_readWord_4 F 0 v1 v2 t_ch t_len t_at t_fa = none := rfl
theorem g_X4_readWord_4_s (F : Nat) (n : Nat) (v1 : Int32) (v2 : Int32) (t_ch : Nat → Int32) (t_len : Int32) (t_at : Int32) (t_fa : Int32) : g_X4_readWord_4 F (n + 1) v1 v2 t_ch t_len t_at t_fa = (if (7 : Int32) ≤ v2 then mb2 (f_X4_faultAt F (t_at + v1) t_fa) (fun r_2 t_fa_3 => some ((-1 : Int32), t_at, t_fa_3)) else mb1 (f_X4_countSameLetters F (spl v2) t_ch t_len t_at) (fun r_5 => (if r_5 = (Int32.ofNat (sLen.getD (spl v2) 0)) then some (v2, (t_at + r_5), t_fa) else mn (if v1 < r_5 then r_5 else v1) (fun v1_8 => mn (v2 + (1 : Int32)) (fun v2_9 => g_X4_readWord_4 F n v1_8 v2_9 t_ch t_len t_at t_fa))))) := rfl
def f_X4_readWord (F : Nat) (t_ch : Nat → Int32) (t_len : Int32) (t_at : Int32) (t_fa : Int32) : Option (Int32 × Int32 × Int32) := g_X4_readWord_4 F F (0 : Int32) (0 : Int32) t_ch t_len t_at t_fa
set_option maxRecDepth 20000 in
theorem n_X4_readWord_X4 : ∀ w ∈ wsX40, w ∈ wsX4_readWord := by decide +kernel
set_option maxRecDepth 20000 in
theorem w_X4_readWord_f24 : Cond.fieldLink RX4 24 "LayerStacks$TextReader" "at" "I" ∈ wsX4_readWord := by decide +kernel
set_option maxRecDepth 20000 in
theorem w_X4_readWord_sS : Cond.static yX6_spellingOf ∈ wsX4_readWord := by decide +kernel
set_option maxRecDepth 20000 in
theorem w_X4_readWord_iS : Cond.initialized RX6 ∈ wsX4_readWord := by decide +kernel
set_option maxRecDepth 20000 in
theorem w_X4_readWord_m68 : Cond.methodLink RX4 68 Lib.Math.max.name ∈ wsX4_readWord := by decide +kernel
set_option maxRecDepth 20000 in
theorem w_X4_readWord_smax : Cond.static Lib.Math.max.name ∈ wsX4_readWord := by decide +kernel
set_option maxRecDepth 20000 in
theorem w_X4_readWord_iM : Cond.initialized "java/lang/Math" ∈ wsX4_readWord := by decide +kernel
set_option maxRecDepth 20000 in
theorem w_X4_readWord_cmax : Cond.code Lib.Math.max.name Lib.Math.max.code 2 (some .int) ∈ wsX4_readWord := by decide +kernel
set_option maxHeartbeats 4000000 in
set_option maxRecDepth 100000 in
theorem k_X4_readWord_4 {p : Program} {l : Launch} {e : Env} {s : State} {m : MethodId} {args : Array Value} {below : List Frame} {meth : Method} {c : Code} {D : va_G} {y : Nat → ClassId} {aK aV : Nat → Nat} {A : Nat → Prop} {q : Nat → Nat} {t_ls : Int32} {z : Int32 × Int32 × Int32} (C : CX p s m args meth c wsX4_readWord RX4 cX4_readWord 5 (some .int)) (hA : ∀ q : Nat, s.heap.size ≤ q → A q) (hK : va_K D vwCl (tyl y) s) (hJ : SJ aK aV A s s.heap) (F : Nat) :
    ∀ (n : Nat), ∀ (v1 : Int32) (v2 : Int32) (t_ch : Nat → Int32) (t_len : Int32) (t_at : Int32) (t_fa : Int32) (H : Heap) (locs : List Loc) (ls : Array Slot), g_X4_readWord_4 F n v1 v2 t_ch t_len t_at t_fa = some z → va_P D vwCl (wdX4 q y t_ch t_len t_at t_ls t_fa) H → va_D A (wdX4 q y t_ch t_len t_at t_ls t_fa) → va_S A s.heap H locs → lv_has ls 5 [(0, .ref (q 0)), (1, .int v1), (2, .int v2)] → W p l e ({ frames := 5, cells := 0, slots := 0, locals := 107 } : Room) s m args below meth c H locs 0 0 (MQ below (QI D y A (z.1) (wdX4 q y t_ch t_len (z.2.1) t_ls (z.2.2))) args s 0 0 A) (F0 m 4 ls []) := by
  obtain ⟨⟨hx, hb, hml, hown, hts⟩, hr, hlocks⟩ := id C
  intro n
  induction n with
  | zero =>
    intro v1 v2 t_ch t_len t_at t_fa H locs ls hm
    rw [g_X4_readWord_4_z] at hm
    cases hm
  | succ n ih =>
    intro v1 v2 t_ch t_len t_at t_fa H locs ls hm hP hD hS hl
    rw [g_X4_readWord_4_s] at hm
    refine lv_iload_n hx hb dX4_readWord_4 rfl (lv_at hl 2 rfl) ?_
    refine lv_bipush (v := (7 : Int32)) hx hb dX4_readWord_5 (by decide) ?_
    refine lv_icmp_ge (tgt := 57) hx hb dX4_readWord_7 (by decide) (fun h_1 => ?_) (fun h_1 => ?_)
    · have hm := it_of hm h_1
      refine lv_aload_n hx hb dX4_readWord_57 rfl (lv_at hl 0 rfl) ?_
      refine lv_aload_n hx hb dX4_readWord_58 rfl (lv_at hl 0 rfl) ?_
      refine va_get (D := D) (ci := 4) (v := .int t_at) (C := RX4) (T := TX4) (N := 5) hx hb hts n_X4_readWord_X4 hown hK hP 0 rfl rfl 2 (by decide) (hts _ w_X4_readWord_f24) (fun _ h9 => h9) rfl dX4_readWord_59 ?_
      refine lv_iload_n hx hb dX4_readWord_62 rfl (lv_at hl 1 rfl) ?_
      refine lv_iadd hx hb dX4_readWord_63 ?_
      obtain ⟨r_2, t_fa_3, hc_4, hm⟩ := mb2_of hm
      refine call_vi (wc := (wdX4 q y t_ch t_len t_at t_ls t_fa)) (wr := []) (As := [.int (t_at + v1)]) (rest := []) C (c_X4_faultAt l D y q _ F hc_4) (cwV 1 hts gX4_readWord_X4_faultAt rfl rfl rfl (by decide +kernel) ⟨Nat.le_of_ble_eq_true rfl, Nat.le_of_ble_eq_true rfl⟩) hK hP hD hS hA [0, 1] [] rfl rfl rfl rfl rfl (by decide) rfl rfl rfl rfl hl.1 (Nat.le_of_ble_eq_true rfl) dX4_readWord_64 (fun H locs hP hD hS => ?_)
      have hP : va_P D vwCl (wdX4 q y t_ch t_len t_at t_ls t_fa_3) H := hP
      have hD : va_D A (wdX4 q y t_ch t_len t_at t_ls t_fa_3) := hD
      refine lv_pop hx hb dX4_readWord_67 rfl ?_
      refine lv_iconst (v := (-1 : Int32)) hx hb dX4_readWord_68 (by decide) ?_
      have hz := Option.some.inj hm
      subst hz
      exact end_i C hK hP hD hS dX4_readWord_69
    · have hm := ie_of hm h_1
      refine lv_iload_n hx hb dX4_readWord_10 rfl (lv_at hl 2 rfl) ?_
      refine call_spell (rest := []) C hJ.2.2.1 ggX4_readWord_X6_spellingOf (hts _ w_X4_readWord_sS) (hts _ w_X4_readWord_iS) ⟨Nat.le_of_ble_eq_true rfl, Nat.le_of_ble_eq_true rfl⟩ hJ hK hP hD hS hA hl.1 (Nat.le_of_ble_eq_true rfl) dX4_readWord_11 (fun H locs hP hD hS => ?_)
      refine lv_astore_n (lv' := [(3, .ref (aK (spl v2))), (0, .ref (q 0)), (1, .int v1), (2, .int v2)]) hx hb dX4_readWord_14 rfl hl (by decide) rfl (fun ls hl => ?_)
      refine lv_aload_n hx hb dX4_readWord_15 rfl (lv_at hl 1 rfl) ?_
      refine lv_aload_n hx hb dX4_readWord_16 rfl (lv_at hl 0 rfl) ?_
      obtain ⟨r_5, hc_6, hm⟩ := mb1_of hm
      refine callJ_vi (wc := (wdX4 q y t_ch t_len t_at t_ls t_fa)) (wr := []) (As := [.ref (aK (spl v2))]) (rest := []) C (c_X4_countSameLetters l D y aK aV q _ F (spl_lt _) hc_6) (cwV 1 hts gX4_readWord_X4_countSameLetters rfl rfl rfl (by decide +kernel) ⟨Nat.le_of_ble_eq_true rfl, Nat.le_of_ble_eq_true rfl⟩) hJ hK hP hD hS hA [0, 1] [] rfl rfl rfl rfl rfl (by decide) (va_recv hK hP (ci := 4) (q0 := 0) rfl rfl) rfl hl.1 (Nat.le_of_ble_eq_true rfl) dX4_readWord_17 (fun H locs hP hD hS => ?_)
      have hP : va_P D vwCl (wdX4 q y t_ch t_len t_at t_ls t_fa) H := hP
      have hD : va_D A (wdX4 q y t_ch t_len t_at t_ls t_fa) := hD
      refine lv_istore (lv' := [(4, .int r_5), (3, .ref (aK (spl v2))), (0, .ref (q 0)), (1, .int v1), (2, .int v2)]) hx hb dX4_readWord_20 hl (by decide) rfl (fun ls hl => ?_)
      refine lv_iload hx hb dX4_readWord_22 (lv_at hl 0 rfl) ?_
      refine lv_aload_n hx hb dX4_readWord_24 rfl (lv_at hl 1 rfl) ?_
      refine callJ_vi (wc := ([] : va_W)) (wr := (wdX4 q y t_ch t_len t_at t_ls t_fa)) (As := []) (rest := [.int r_5]) C (c_J0_length_8abf5 l D y aK aV _ (spl_lt _)) (cwV 0 hts gX4_readWord_J0_length_8abf5 rfl rfl rfl (by decide +kernel) ⟨Nat.le_of_ble_eq_true rfl, Nat.le_of_ble_eq_true rfl⟩) hJ hK hP hD hS hA [] [0, 1] rfl rfl rfl rfl rfl (by decide) (vk_recv hJ.1.1 (spl_lt _) hS) rfl hl.1 (Nat.le_of_ble_eq_true rfl) dX4_readWord_25 (fun H locs hP hD hS => ?_)
      have hP : va_P D vwCl (wdX4 q y t_ch t_len t_at t_ls t_fa) H := hP
      have hD : va_D A (wdX4 q y t_ch t_len t_at t_ls t_fa) := hD
      refine lv_icmp_ne (tgt := 44) hx hb dX4_readWord_28 (by decide) (fun h_7 => ?_) (fun h_7 => ?_)
      · have hm := ie_of hm h_7
        refine lv_iload_n hx hb dX4_readWord_44 rfl (lv_at hl 3 rfl) ?_
        refine lv_iload hx hb dX4_readWord_45 (lv_at hl 0 rfl) ?_
        refine va_mmax hx hb (hml.trans hl.1.symm) hown (hts _ w_X4_readWord_m68) (hts _ w_X4_readWord_smax) (hts _ w_X4_readWord_iM) (hts _ w_X4_readWord_cmax) (Nat.le_of_ble_eq_true rfl) (Nat.le_of_ble_eq_true rfl) (Nat.zero_le _) (Nat.zero_le _) dX4_readWord_47 ?_
        refine lv_topi (fun v1_8 ev1_8 => ?_)
        have hm := mn_of ev1_8 hm
        refine lv_istore_n (lv' := [(1, .int v1_8), (4, .int r_5), (3, .ref (aK (spl v2))), (0, .ref (q 0)), (2, .int v2)]) hx hb dX4_readWord_50 rfl hl (by decide) rfl (fun ls hl => ?_)
        obtain ⟨v2_9, ev2_9⟩ : ∃ y9 : Int32, y9 = (v2 + (1 : Int32)) := ⟨_, rfl⟩
        have hm := mn_of ev2_9 hm
        refine lv_iinc (v := v2_9) (lv' := [(2, .int v2_9), (1, .int v1_8), (4, .int r_5), (3, .ref (aK (spl v2))), (0, .ref (q 0))]) hx hb dX4_readWord_51 hl (k := 4) rfl (by rw [ev2_9]; rfl) (by decide) rfl (fun ls hl => ?_)
        refine lv_goto (tgt := 4) hx hb dX4_readWord_54 (by decide) ?_
        exact ih v1_8 v2_9 t_ch t_len t_at t_fa _ _ _ hm hP hD hS (lv_sub hl [4, 1, 0] rfl)
      · have hm := it_of hm h_7
        refine lv_aload_n hx hb dX4_readWord_31 rfl (lv_at hl 2 rfl) ?_
        refine lv_dup hx hb dX4_readWord_32 rfl ?_
        refine va_get (D := D) (ci := 4) (v := .int t_at) (C := RX4) (T := TX4) (N := 5) hx hb hts n_X4_readWord_X4 hown hK hP 0 rfl rfl 2 (by decide) (hts _ w_X4_readWord_f24) (fun _ h9 => h9) rfl dX4_readWord_33 ?_
        refine lv_iload hx hb dX4_readWord_36 (lv_at hl 0 rfl) ?_
        refine lv_iadd hx hb dX4_readWord_38 ?_
        refine va_put (D := D) (ci := 4) (v := .int (t_at + r_5)) (ty := .int) (C := RX4) (T := TX4) (N := 5) hx hb hts n_X4_readWord_X4 tyX4 tyX4_ok nmX4 hown hK hP hD hS 0 rfl rfl 2 (by decide) (hts _ w_X4_readWord_f24) (fun _ h9 => h9) rfl (by decide +kernel) rfl rfl (Nat.le_of_ble_eq_true rfl) dX4_readWord_39 (fun H locs hP hD hS => ?_)
        have hP : va_P D vwCl (wdX4 q y t_ch t_len (t_at + r_5) t_ls t_fa) H := hP
        have hD : va_D A (wdX4 q y t_ch t_len (t_at + r_5) t_ls t_fa) := hD
        refine lv_iload_n hx hb dX4_readWord_42 rfl (lv_at hl 4 rfl) ?_
        have hz := Option.some.inj hm
        subst hz
        exact end_i C hK hP hD hS dX4_readWord_43
set_option maxHeartbeats 4000000 in
set_option maxRecDepth 100000 in
theorem c_X4_readWord (l : Launch) (D : va_G) (y : Nat → ClassId) (aK aV : Nat → Nat) (q : Nat → Nat) (sz : Nat) (F : Nat) {t_ch : Nat → Int32} {t_len : Int32} {t_at : Int32} {t_ls : Int32} {t_fa : Int32} {z : Int32 × Int32 × Int32} (hm : f_X4_readWord F t_ch t_len t_at t_fa = some z) : Met l yX4_readWord wsX4_readWord ({ frames := 5, cells := 0, slots := 0, locals := 107 } : Room) (va_Pc [.ref (q 0)] (cPJ D y aK aV (wdX4 q y t_ch t_len t_at t_ls t_fa) sz)) (QI D y (va_A (wdX4 q y t_ch t_len t_at t_ls t_fa) sz) (z.1) (wdX4 q y t_ch t_len (z.2.1) t_ls (z.2.2))) 0 0 (va_A (wdX4 q y t_ch t_len t_at t_ls t_fa) sz) := by
  refine met_ofJ (own := RX4) (cc := cX4_readWord) (maxL := 5) (ret := (some .int)) (by decide) rfl rfl (Nat.le_of_ble_eq_true rfl) ?_
  intro p e s m below meth c ls C hsz hK hP hD hA hS hJ hl
  obtain ⟨⟨hx, hb, hml, hown, hts⟩, hr, hlocks⟩ := id C
  have hl : lv_has ls 5 [(0, .ref (q 0))] := hl
  generalize va_A (wdX4 q y t_ch t_len t_at t_ls t_fa) sz = A at hD hA hS hJ ⊢
  generalize ([.ref (q 0)] : List Value).toArray = args at C hts ⊢
  unfold f_X4_readWord at hm
  refine lv_iconst (v := (0 : Int32)) hx hb dX4_readWord_0 (by decide) ?_
  refine lv_istore_n (lv' := [(1, .int (0 : Int32)), (0, .ref (q 0))]) hx hb dX4_readWord_1 rfl hl (by decide) rfl (fun ls hl => ?_)
  refine lv_iconst (v := (0 : Int32)) hx hb dX4_readWord_2 (by decide) ?_
  refine lv_istore_n (lv' := [(2, .int (0 : Int32)), (1, .int (0 : Int32)), (0, .ref (q 0))]) hx hb dX4_readWord_3 rfl hl (by decide) rfl (fun ls hl => ?_)
  exact k_X4_readWord_4 C hA hK hJ F F (0 : Int32) (0 : Int32) t_ch t_len t_at t_fa _ _ _ hm hP hD hS (lv_sub hl [2, 1, 0] rfl)
def g_X4_readLine_46 (F : Nat) (st0 : Int32) (t_ch : Nat → Int32) (t_len : Int32) (t_at : Int32) (t_ls : Int32) (t_fa : Int32) (b_k : Nat → Int32) (b_n : Nat → Int64) (b_h : Nat → Int32) (b_d : Nat → Int32) (b_r : Nat → Int32) (b_u : Nat → Int32) (b_y : Nat → Int32) (b_p_s_f : Nat → Int32) (b_p_s_l : Nat → Int32) (b_p_s_c : Int32) (b_p_t : Int32) (b_v_f : Nat → Int32) (b_v_l : Nat → Int32) (b_v_c : Int32) (b_L : Int32) (b_C : Int32) (b_I : Int32) : Option (Int32 × Int32 × Int32 × Int32 × (Nat → Int32) × (Nat → Int64) × (Nat → Int32) × (Nat → Int32) × (Nat → Int32) × (Nat → Int32) × (Nat → Int32) × (Nat → Int32) × (Nat → Int32) × Int32 × Int32 × (Nat → Int32) × (Nat → Int32) × Int32 × Int32 × Int32 × Int32) := (if st0 = 0 then some ((0 : Int32), t_at, t_ls, t_fa, b_k, b_n, b_h, b_d, b_r, b_u, b_y, b_p_s_f, b_p_s_l, b_p_s_c, b_p_t, b_v_f, b_v_l, b_v_c, b_L, b_C, b_I) else mb3 (f_X4_expect F (10 : Int32) t_ch t_len t_at t_fa) (fun r_2 t_at_3 t_fa_4 => (if r_2 = 0 then some ((0 : Int32), t_at_3, t_ls, t_fa_4, b_k, b_n, b_h, b_d, b_r, b_u, b_y, b_p_s_f, b_p_s_l, b_p_s_c, b_p_t, b_v_f, b_v_l, b_v_c, b_L, b_C, b_I) else some ((1 : Int32), t_at_3, t_ls, t_fa_4, b_k, b_n, b_h, b_d, b_r, b_u, b_y, b_p_s_f, b_p_s_l, b_p_s_c, b_p_t, b_v_f, b_v_l, b_v_c, b_L, b_C, b_I))))
def f_X4_readLine (F : Nat) (t_ch : Nat → Int32) (t_len : Int32) (t_at : Int32) (t_ls : Int32) (t_fa : Int32) (b_k : Nat → Int32) (b_n : Nat → Int64) (b_h : Nat → Int32) (b_d : Nat → Int32) (b_r : Nat → Int32) (b_u : Nat → Int32) (b_y : Nat → Int32) (b_p_s_f : Nat → Int32) (b_p_s_l : Nat → Int32) (b_p_s_c : Int32) (b_p_t : Int32) (b_v_f : Nat → Int32) (b_v_l : Nat → Int32) (b_v_c : Int32) (b_L : Int32) (b_C : Int32) (b_I : Int32) : Option (Int32 × Int32 × Int32 × Int32 × (Nat → Int32) × (Nat → Int64) × (Nat → Int32) × (Nat → Int32) × (Nat → Int32) × (Nat → Int32) × (Nat → Int32) × (Nat → Int32) × (Nat → Int32) × Int32 × Int32 × (Nat → Int32) × (Nat → Int32) × Int32 × Int32 × Int32 × Int32) := mb3 (f_X4_readWord F t_ch t_len t_at t_fa) (fun r_1 t_at_2 t_fa_3 => (if r_1 = (-1 : Int32) then some ((0 : Int32), t_at_2, t_at, t_fa_3, b_k, b_n, b_h, b_d, b_r, b_u, b_y, b_p_s_f, b_p_s_l, b_p_s_c, b_p_t, b_v_f, b_v_l, b_v_c, b_L, b_C, b_I) else (if r_1 = (5 : Int32) then mb10 (f_X4_readSpan F r_1 t_ch t_len t_at_2 t_at t_fa_3 b_k b_n b_y b_p_s_f b_p_s_l b_p_s_c b_p_t b_v_f b_v_l b_v_c b_L b_C) (fun r_7 t_at_8 t_fa_9 b_p_s_f_10 b_p_s_l_11 b_p_s_c_12 b_p_t_13 b_v_f_14 b_v_l_15 b_v_c_16 => g_X4_readLine_46 F r_7 t_ch t_len t_at_8 t_at t_fa_9 b_k b_n b_h b_d b_r b_u b_y b_p_s_f_10 b_p_s_l_11 b_p_s_c_12 b_p_t_13 b_v_f_14 b_v_l_15 b_v_c_16 b_L b_C b_I) else (if r_1 = (6 : Int32) then mb10 (f_X4_readSpan F r_1 t_ch t_len t_at_2 t_at t_fa_3 b_k b_n b_y b_p_s_f b_p_s_l b_p_s_c b_p_t b_v_f b_v_l b_v_c b_L b_C) (fun r_33 t_at_34 t_fa_35 b_p_s_f_36 b_p_s_l_37 b_p_s_c_38 b_p_t_39 b_v_f_40 b_v_l_41 b_v_c_42 => g_X4_readLine_46 F r_33 t_ch t_len t_at_34 t_at t_fa_35 b_k b_n b_h b_d b_r b_u b_y b_p_s_f_36 b_p_s_l_37 b_p_s_c_38 b_p_t_39 b_v_f_40 b_v_l_41 b_v_c_42 b_L b_C b_I) else mb13 (f_X4_readLayer F r_1 t_ch t_len t_at_2 t_at t_fa_3 b_k b_n b_h b_d b_r b_u b_y b_p_s_c b_p_t b_v_c b_L b_C b_I) (fun r_19 t_at_20 t_fa_21 b_k_22 b_n_23 b_h_24 b_d_25 b_r_26 b_u_27 b_y_28 b_L_29 b_C_30 b_I_31 => g_X4_readLine_46 F r_19 t_ch t_len t_at_20 t_at t_fa_21 b_k_22 b_n_23 b_h_24 b_d_25 b_r_26 b_u_27 b_y_28 b_p_s_f b_p_s_l b_p_s_c b_p_t b_v_f b_v_l b_v_c b_L_29 b_C_30 b_I_31)))))
set_option maxRecDepth 20000 in
theorem n_X4_readLine_X4 : ∀ w ∈ wsX40, w ∈ wsX4_readLine := by decide +kernel
set_option maxRecDepth 20000 in
theorem w_X4_readLine_f24 : Cond.fieldLink RX4 24 "LayerStacks$TextReader" "at" "I" ∈ wsX4_readLine := by decide +kernel
set_option maxRecDepth 20000 in
theorem w_X4_readLine_f38 : Cond.fieldLink RX4 38 "LayerStacks$TextReader" "lineStart" "I" ∈ wsX4_readLine := by decide +kernel
set_option maxHeartbeats 4000000 in
set_option maxRecDepth 100000 in
theorem k_X4_readLine_46 {p : Program} {l : Launch} {e : Env} {s : State} {m : MethodId} {args : Array Value} {below : List Frame} {meth : Method} {c : Code} {D : va_G} {y : Nat → ClassId} {aK aV : Nat → Nat} {A : Nat → Prop} {q : Nat → Nat} {q2 : Nat → Nat} {z : Int32 × Int32 × Int32 × Int32 × (Nat → Int32) × (Nat → Int64) × (Nat → Int32) × (Nat → Int32) × (Nat → Int32) × (Nat → Int32) × (Nat → Int32) × (Nat → Int32) × (Nat → Int32) × Int32 × Int32 × (Nat → Int32) × (Nat → Int32) × Int32 × Int32 × Int32 × Int32} (C : CX p s m args meth c wsX4_readLine RX4 cX4_readLine 4 (some .boolean)) (hA : ∀ q : Nat, s.heap.size ≤ q → A q) (hK : va_K D vwCl (tyl y) s) (hJ : SJ aK aV A s s.heap) (F : Nat) :
    ∀ (st0 : Int32) (t_ch : Nat → Int32) (t_len : Int32) (t_at : Int32) (t_ls : Int32) (t_fa : Int32) (b_k : Nat → Int32) (b_n : Nat → Int64) (b_h : Nat → Int32) (b_d : Nat → Int32) (b_r : Nat → Int32) (b_u : Nat → Int32) (b_y : Nat → Int32) (b_p_s_f : Nat → Int32) (b_p_s_l : Nat → Int32) (b_p_s_c : Int32) (b_p_t : Int32) (b_v_f : Nat → Int32) (b_v_l : Nat → Int32) (b_v_c : Int32) (b_L : Int32) (b_C : Int32) (b_I : Int32) (H : Heap) (locs : List Loc) (ls : Array Slot), g_X4_readLine_46 F st0 t_ch t_len t_at t_ls t_fa b_k b_n b_h b_d b_r b_u b_y b_p_s_f b_p_s_l b_p_s_c b_p_t b_v_f b_v_l b_v_c b_L b_C b_I = some z → va_P D vwCl ((wdX4 q y t_ch t_len t_at t_ls t_fa) ++ (wdX0 q2 y b_k b_n b_h b_d b_r b_u b_y b_p_s_f b_p_s_l b_p_s_c b_p_t b_v_f b_v_l b_v_c b_L b_C b_I)) H → va_D A ((wdX4 q y t_ch t_len t_at t_ls t_fa) ++ (wdX0 q2 y b_k b_n b_h b_d b_r b_u b_y b_p_s_f b_p_s_l b_p_s_c b_p_t b_v_f b_v_l b_v_c b_L b_C b_I)) → va_S A s.heap H locs → lv_has ls 4 [(0, .ref (q 0))] → W p l e ({ frames := 6, cells := 0, slots := 0, locals := 131 } : Room) s m args below meth c H locs 0 0 (MQ below (QI D y A (z.1) ((wdX4 q y t_ch t_len (z.2.1) (z.2.2.1) (z.2.2.2.1)) ++ (wdX0 q2 y (z.2.2.2.2.1) (z.2.2.2.2.2.1) (z.2.2.2.2.2.2.1) (z.2.2.2.2.2.2.2.1) (z.2.2.2.2.2.2.2.2.1) (z.2.2.2.2.2.2.2.2.2.1) (z.2.2.2.2.2.2.2.2.2.2.1) (z.2.2.2.2.2.2.2.2.2.2.2.1) (z.2.2.2.2.2.2.2.2.2.2.2.2.1) (z.2.2.2.2.2.2.2.2.2.2.2.2.2.1) (z.2.2.2.2.2.2.2.2.2.2.2.2.2.2.1) (z.2.2.2.2.2.2.2.2.2.2.2.2.2.2.2.1) (z.2.2.2.2.2.2.2.2.2.2.2.2.2.2.2.2.1) (z.2.2.2.2.2.2.2.2.2.2.2.2.2.2.2.2.2.1) (z.2.2.2.2.2.2.2.2.2.2.2.2.2.2.2.2.2.2.1) (z.2.2.2.2.2.2.2.2.2.2.2.2.2.2.2.2.2.2.2.1) (z.2.2.2.2.2.2.2.2.2.2.2.2.2.2.2.2.2.2.2.2)))) args s 0 0 A) (F0 m 46 ls [.int st0]) := by
  obtain ⟨⟨hx, hb, hml, hown, hts⟩, hr, hlocks⟩ := id C
  intro st0 t_ch t_len t_at t_ls t_fa b_k b_n b_h b_d b_r b_u b_y b_p_s_f b_p_s_l b_p_s_c b_p_t b_v_f b_v_l b_v_c b_L b_C b_I H locs ls hm hP hD hS hl
  unfold g_X4_readLine_46 at hm
  refine lv_istore_n (lv' := [(3, .int st0), (0, .ref (q 0))]) hx hb dX4_readLine_46 rfl hl (by decide) rfl (fun ls hl => ?_)
  refine lv_iload_n hx hb dX4_readLine_47 rfl (lv_at hl 0 rfl) ?_
  refine lv_if_eq (tgt := 64) hx hb dX4_readLine_48 (by decide) (fun h_1 => ?_) (fun h_1 => ?_)
  · have hm := it_of hm h_1
    refine lv_iconst (v := (0 : Int32)) hx hb dX4_readLine_64 (by decide) ?_
    have hz := Option.some.inj hm
    subst hz
    exact end_z C hK hP hD hS (show vp_nar .boolean (0 : Int32) = (0 : Int32) from by decide) dX4_readLine_65
  · have hm := ie_of hm h_1
    refine lv_aload_n hx hb dX4_readLine_51 rfl (lv_at hl 1 rfl) ?_
    refine lv_bipush (v := (10 : Int32)) hx hb dX4_readLine_52 (by decide) ?_
    obtain ⟨r_2, t_at_3, t_fa_4, hc_5, hm⟩ := mb3_of hm
    refine call_vi (wc := (wdX4 q y t_ch t_len t_at t_ls t_fa)) (wr := [(q2 0, .inr (0, [.ref (q2 1), .ref (q2 2), .ref (q2 3), .ref (q2 4), .ref (q2 5), .ref (q2 6), .ref (q2 7), .ref (q2 8), .ref (q2 12), .int b_L, .int b_C, .int b_I])), (q2 1, .inl (y 0, 80, .inl b_k)), (q2 2, .inl (y 1, 80, .inr (.inl b_n))), (q2 3, .inl (y 0, 80, .inl b_h)), (q2 4, .inl (y 0, 80, .inl b_d)), (q2 5, .inl (y 0, 80, .inl b_r)), (q2 6, .inl (y 0, 80, .inl b_u)), (q2 7, .inl (y 0, 32, .inl b_y)), (q2 8, .inr (2, [.ref (q2 9), .int b_p_t])), (q2 9, .inr (3, [.ref (q2 10), .ref (q2 11), .int b_p_s_c])), (q2 10, .inl (y 0, 21, .inl b_p_s_f)), (q2 11, .inl (y 0, 21, .inl b_p_s_l)), (q2 12, .inr (3, [.ref (q2 13), .ref (q2 14), .int b_v_c])), (q2 13, .inl (y 0, 40, .inl b_v_f)), (q2 14, .inl (y 0, 40, .inl b_v_l))]) (As := [.int (10 : Int32)]) (rest := []) C (c_X4_expect l D y q _ F hc_5) (cwV 1 hts gX4_readLine_X4_expect rfl rfl rfl (by decide +kernel) ⟨Nat.le_of_ble_eq_true rfl, Nat.le_of_ble_eq_true rfl⟩) hK hP hD hS hA [0, 1] [2, 3, 4, 5, 6, 7, 8, 9, 10, 11, 12, 13, 14, 15, 16] rfl rfl rfl rfl rfl (by decide) rfl rfl rfl rfl hl.1 (Nat.le_of_ble_eq_true rfl) dX4_readLine_54 (fun H locs hP hD hS => ?_)
    have hP : va_P D vwCl ((wdX4 q y t_ch t_len t_at_3 t_ls t_fa_4) ++ (wdX0 q2 y b_k b_n b_h b_d b_r b_u b_y b_p_s_f b_p_s_l b_p_s_c b_p_t b_v_f b_v_l b_v_c b_L b_C b_I)) H := hP.sub [15, 16, 0, 1, 2, 3, 4, 5, 6, 7, 8, 9, 10, 11, 12, 13, 14] rfl
    have hD : va_D A ((wdX4 q y t_ch t_len t_at_3 t_ls t_fa_4) ++ (wdX0 q2 y b_k b_n b_h b_d b_r b_u b_y b_p_s_f b_p_s_l b_p_s_c b_p_t b_v_f b_v_l b_v_c b_L b_C b_I)) := hD.sub [15, 16, 0, 1, 2, 3, 4, 5, 6, 7, 8, 9, 10, 11, 12, 13, 14] (by decide) rfl
    refine lv_if_eq (tgt := 64) hx hb dX4_readLine_57 (by decide) (fun h_6 => ?_) (fun h_6 => ?_)
    · have hm := it_of hm h_6
      refine lv_iconst (v := (0 : Int32)) hx hb dX4_readLine_64 (by decide) ?_
      have hz := Option.some.inj hm
      subst hz
      exact end_z C hK hP hD hS (show vp_nar .boolean (0 : Int32) = (0 : Int32) from by decide) dX4_readLine_65
    · have hm := ie_of hm h_6
      refine lv_iconst (v := (1 : Int32)) hx hb dX4_readLine_60 (by decide) ?_
      refine lv_goto (tgt := 65) hx hb dX4_readLine_61 (by decide) ?_
      have hz := Option.some.inj hm
      subst hz
      exact end_z C hK hP hD hS (show vp_nar .boolean (1 : Int32) = (1 : Int32) from by decide) dX4_readLine_65
set_option maxHeartbeats 4000000 in
set_option maxRecDepth 100000 in
theorem c_X4_readLine (l : Launch) (D : va_G) (y : Nat → ClassId) (aK aV : Nat → Nat) (q : Nat → Nat) (q2 : Nat → Nat) (sz : Nat) (F : Nat) {t_ch : Nat → Int32} {t_len : Int32} {t_at : Int32} {t_ls : Int32} {t_fa : Int32} {b_k : Nat → Int32} {b_n : Nat → Int64} {b_h : Nat → Int32} {b_d : Nat → Int32} {b_r : Nat → Int32} {b_u : Nat → Int32} {b_y : Nat → Int32} {b_p_s_f : Nat → Int32} {b_p_s_l : Nat → Int32} {b_p_s_c : Int32} {b_p_t : Int32} {b_v_f : Nat → Int32} {b_v_l : Nat → Int32} {b_v_c : Int32} {b_L : Int32} {b_C : Int32} {b_I : Int32} {z : Int32 × Int32 × Int32 × Int32 × (Nat → Int32) × (Nat → Int64) × (Nat → Int32) × (Nat → Int32) × (Nat → Int32) × (Nat → Int32) × (Nat → Int32) × (Nat → Int32) × (Nat → Int32) × Int32 × Int32 × (Nat → Int32) × (Nat → Int32) × Int32 × Int32 × Int32 × Int32} (hm : f_X4_readLine F t_ch t_len t_at t_ls t_fa b_k b_n b_h b_d b_r b_u b_y b_p_s_f b_p_s_l b_p_s_c b_p_t b_v_f b_v_l b_v_c b_L b_C b_I = some z) : Met l yX4_readLine wsX4_readLine ({ frames := 6, cells := 0, slots := 0, locals := 131 } : Room) (va_Pc [.ref (q 0), .ref (q2 0)] (cPJ D y aK aV ((wdX4 q y t_ch t_len t_at t_ls t_fa) ++ (wdX0 q2 y b_k b_n b_h b_d b_r b_u b_y b_p_s_f b_p_s_l b_p_s_c b_p_t b_v_f b_v_l b_v_c b_L b_C b_I)) sz)) (QI D y (va_A ((wdX4 q y t_ch t_len t_at t_ls t_fa) ++ (wdX0 q2 y b_k b_n b_h b_d b_r b_u b_y b_p_s_f b_p_s_l b_p_s_c b_p_t b_v_f b_v_l b_v_c b_L b_C b_I)) sz) (z.1) ((wdX4 q y t_ch t_len (z.2.1) (z.2.2.1) (z.2.2.2.1)) ++ (wdX0 q2 y (z.2.2.2.2.1) (z.2.2.2.2.2.1) (z.2.2.2.2.2.2.1) (z.2.2.2.2.2.2.2.1) (z.2.2.2.2.2.2.2.2.1) (z.2.2.2.2.2.2.2.2.2.1) (z.2.2.2.2.2.2.2.2.2.2.1) (z.2.2.2.2.2.2.2.2.2.2.2.1) (z.2.2.2.2.2.2.2.2.2.2.2.2.1) (z.2.2.2.2.2.2.2.2.2.2.2.2.2.1) (z.2.2.2.2.2.2.2.2.2.2.2.2.2.2.1) (z.2.2.2.2.2.2.2.2.2.2.2.2.2.2.2.1) (z.2.2.2.2.2.2.2.2.2.2.2.2.2.2.2.2.1) (z.2.2.2.2.2.2.2.2.2.2.2.2.2.2.2.2.2.1) (z.2.2.2.2.2.2.2.2.2.2.2.2.2.2.2.2.2.2.1) (z.2.2.2.2.2.2.2.2.2.2.2.2.2.2.2.2.2.2.2.1) (z.2.2.2.2.2.2.2.2.2.2.2.2.2.2.2.2.2.2.2.2)))) 0 0 (va_A ((wdX4 q y t_ch t_len t_at t_ls t_fa) ++ (wdX0 q2 y b_k b_n b_h b_d b_r b_u b_y b_p_s_f b_p_s_l b_p_s_c b_p_t b_v_f b_v_l b_v_c b_L b_C b_I)) sz) := by
  refine met_ofJ (own := RX4) (cc := cX4_readLine) (maxL := 4) (ret := (some .boolean)) (by decide) rfl rfl (Nat.le_of_ble_eq_true rfl) ?_
  intro p e s m below meth c ls C hsz hK hP hD hA hS hJ hl
  obtain ⟨⟨hx, hb, hml, hown, hts⟩, hr, hlocks⟩ := id C
  have hl : lv_has ls 4 [(0, .ref (q 0)), (1, .ref (q2 0))] := hl
  generalize va_A ((wdX4 q y t_ch t_len t_at t_ls t_fa) ++ (wdX0 q2 y b_k b_n b_h b_d b_r b_u b_y b_p_s_f b_p_s_l b_p_s_c b_p_t b_v_f b_v_l b_v_c b_L b_C b_I)) sz = A at hD hA hS hJ ⊢
  generalize ([.ref (q 0), .ref (q2 0)] : List Value).toArray = args at C hts ⊢
  unfold f_X4_readLine at hm
  refine lv_aload_n hx hb dX4_readLine_0 rfl (lv_at hl 0 rfl) ?_
  refine lv_aload_n hx hb dX4_readLine_1 rfl (lv_at hl 0 rfl) ?_
  refine va_get (D := D) (ci := 4) (v := .int t_at) (C := RX4) (T := TX4) (N := 5) hx hb hts n_X4_readLine_X4 hown hK hP 0 rfl rfl 2 (by decide) (hts _ w_X4_readLine_f24) (fun _ h9 => h9) rfl dX4_readLine_2 ?_
  refine va_put (D := D) (ci := 4) (v := .int t_at) (ty := .int) (C := RX4) (T := TX4) (N := 5) hx hb hts n_X4_readLine_X4 tyX4 tyX4_ok nmX4 hown hK hP hD hS 0 rfl rfl 3 (by decide) (hts _ w_X4_readLine_f38) (fun _ h9 => h9) rfl (by decide +kernel) rfl rfl (Nat.le_of_ble_eq_true rfl) dX4_readLine_5 (fun H locs hP hD hS => ?_)
  have hP : va_P D vwCl ((wdX4 q y t_ch t_len t_at t_at t_fa) ++ (wdX0 q2 y b_k b_n b_h b_d b_r b_u b_y b_p_s_f b_p_s_l b_p_s_c b_p_t b_v_f b_v_l b_v_c b_L b_C b_I)) H := hP
  have hD : va_D A ((wdX4 q y t_ch t_len t_at t_at t_fa) ++ (wdX0 q2 y b_k b_n b_h b_d b_r b_u b_y b_p_s_f b_p_s_l b_p_s_c b_p_t b_v_f b_v_l b_v_c b_L b_C b_I)) := hD
  refine lv_aload_n hx hb dX4_readLine_8 rfl (lv_at hl 0 rfl) ?_
  obtain ⟨r_1, t_at_2, t_fa_3, hc_4, hm⟩ := mb3_of hm
  refine callJ_vi (wc := (wdX4 q y t_ch t_len t_at t_at t_fa)) (wr := [(q2 0, .inr (0, [.ref (q2 1), .ref (q2 2), .ref (q2 3), .ref (q2 4), .ref (q2 5), .ref (q2 6), .ref (q2 7), .ref (q2 8), .ref (q2 12), .int b_L, .int b_C, .int b_I])), (q2 1, .inl (y 0, 80, .inl b_k)), (q2 2, .inl (y 1, 80, .inr (.inl b_n))), (q2 3, .inl (y 0, 80, .inl b_h)), (q2 4, .inl (y 0, 80, .inl b_d)), (q2 5, .inl (y 0, 80, .inl b_r)), (q2 6, .inl (y 0, 80, .inl b_u)), (q2 7, .inl (y 0, 32, .inl b_y)), (q2 8, .inr (2, [.ref (q2 9), .int b_p_t])), (q2 9, .inr (3, [.ref (q2 10), .ref (q2 11), .int b_p_s_c])), (q2 10, .inl (y 0, 21, .inl b_p_s_f)), (q2 11, .inl (y 0, 21, .inl b_p_s_l)), (q2 12, .inr (3, [.ref (q2 13), .ref (q2 14), .int b_v_c])), (q2 13, .inl (y 0, 40, .inl b_v_f)), (q2 14, .inl (y 0, 40, .inl b_v_l))]) (As := []) (rest := []) C (c_X4_readWord l D y aK aV q _ F hc_4) (cwV 0 hts gX4_readLine_X4_readWord rfl rfl rfl (by decide +kernel) ⟨Nat.le_of_ble_eq_true rfl, Nat.le_of_ble_eq_true rfl⟩) hJ hK hP hD hS hA [0, 1] [2, 3, 4, 5, 6, 7, 8, 9, 10, 11, 12, 13, 14, 15, 16] rfl rfl rfl rfl rfl (by decide) (va_recv hK hP (ci := 4) (q0 := 0) rfl rfl) rfl hl.1 (Nat.le_of_ble_eq_true rfl) dX4_readLine_9 (fun H locs hP hD hS => ?_)
  have hP : va_P D vwCl ((wdX4 q y t_ch t_len t_at_2 t_at t_fa_3) ++ (wdX0 q2 y b_k b_n b_h b_d b_r b_u b_y b_p_s_f b_p_s_l b_p_s_c b_p_t b_v_f b_v_l b_v_c b_L b_C b_I)) H := hP.sub [15, 16, 0, 1, 2, 3, 4, 5, 6, 7, 8, 9, 10, 11, 12, 13, 14] rfl
  have hD : va_D A ((wdX4 q y t_ch t_len t_at_2 t_at t_fa_3) ++ (wdX0 q2 y b_k b_n b_h b_d b_r b_u b_y b_p_s_f b_p_s_l b_p_s_c b_p_t b_v_f b_v_l b_v_c b_L b_C b_I)) := hD.sub [15, 16, 0, 1, 2, 3, 4, 5, 6, 7, 8, 9, 10, 11, 12, 13, 14] (by decide) rfl
  refine lv_istore_n (lv' := [(2, .int r_1), (0, .ref (q 0)), (1, .ref (q2 0))]) hx hb dX4_readLine_12 rfl hl (by decide) rfl (fun ls hl => ?_)
  refine lv_iload_n hx hb dX4_readLine_13 rfl (lv_at hl 0 rfl) ?_
  refine lv_iconst (v := (-1 : Int32)) hx hb dX4_readLine_14 (by decide) ?_
  refine lv_icmp_ne (tgt := 20) hx hb dX4_readLine_15 (by decide) (fun h_5 => ?_) (fun h_5 => ?_)
  · have hm := ie_of hm h_5
    refine lv_iload_n hx hb dX4_readLine_20 rfl (lv_at hl 0 rfl) ?_
    refine lv_iconst (v := (5 : Int32)) hx hb dX4_readLine_21 (by decide) ?_
    refine lv_icmp_eq (tgt := 31) hx hb dX4_readLine_22 (by decide) (fun h_6 => ?_) (fun h_6 => ?_)
    · have hm := it_of hm h_6
      refine lv_aload_n hx hb dX4_readLine_31 rfl (lv_at hl 1 rfl) ?_
      refine lv_aload_n hx hb dX4_readLine_32 rfl (lv_at hl 2 rfl) ?_
      refine lv_iload_n hx hb dX4_readLine_33 rfl (lv_at hl 0 rfl) ?_
      obtain ⟨r_7, t_at_8, t_fa_9, b_p_s_f_10, b_p_s_l_11, b_p_s_c_12, b_p_t_13, b_v_f_14, b_v_l_15, b_v_c_16, hc_17, hm⟩ := mb10_of hm
      refine call_vi (wc := ((wdX4 q y t_ch t_len t_at_2 t_at t_fa_3) ++ (wdX0 q2 y b_k b_n b_h b_d b_r b_u b_y b_p_s_f b_p_s_l b_p_s_c b_p_t b_v_f b_v_l b_v_c b_L b_C b_I))) (wr := []) (As := [.ref (q2 0), .int r_1]) (rest := []) C (c_X4_readSpan l D y q q2 _ F hc_17) (cwV 2 hts gX4_readLine_X4_readSpan rfl rfl rfl (by decide +kernel) ⟨Nat.le_of_ble_eq_true rfl, Nat.le_of_ble_eq_true rfl⟩) hK hP hD hS hA [0, 1, 2, 3, 4, 5, 6, 7, 8, 9, 10, 11, 12, 13, 14, 15, 16] [] rfl rfl rfl rfl rfl (by decide) rfl rfl rfl rfl hl.1 (Nat.le_of_ble_eq_true rfl) dX4_readLine_34 (fun H locs hP hD hS => ?_)
      have hP : va_P D vwCl ((wdX4 q y t_ch t_len t_at_8 t_at t_fa_9) ++ (wdX0 q2 y b_k b_n b_h b_d b_r b_u b_y b_p_s_f_10 b_p_s_l_11 b_p_s_c_12 b_p_t_13 b_v_f_14 b_v_l_15 b_v_c_16 b_L b_C b_I)) H := hP
      have hD : va_D A ((wdX4 q y t_ch t_len t_at_8 t_at t_fa_9) ++ (wdX0 q2 y b_k b_n b_h b_d b_r b_u b_y b_p_s_f_10 b_p_s_l_11 b_p_s_c_12 b_p_t_13 b_v_f_14 b_v_l_15 b_v_c_16 b_L b_C b_I)) := hD
      refine lv_goto (tgt := 46) hx hb dX4_readLine_37 (by decide) ?_
      exact k_X4_readLine_46 C hA hK hJ F r_7 t_ch t_len t_at_8 t_at t_fa_9 b_k b_n b_h b_d b_r b_u b_y b_p_s_f_10 b_p_s_l_11 b_p_s_c_12 b_p_t_13 b_v_f_14 b_v_l_15 b_v_c_16 b_L b_C b_I _ _ _ hm hP hD hS (lv_sub hl [1] rfl)
    · have hm := ie_of hm h_6
      refine lv_iload_n hx hb dX4_readLine_25 rfl (lv_at hl 0 rfl) ?_
      refine lv_bipush (v := (6 : Int32)) hx hb dX4_readLine_26 (by decide) ?_
      refine lv_icmp_ne (tgt := 40) hx hb dX4_readLine_28 (by decide) (fun h_18 => ?_) (fun h_18 => ?_)
      · have hm := ie_of hm h_18
        refine lv_aload_n hx hb dX4_readLine_40 rfl (lv_at hl 1 rfl) ?_
        refine lv_aload_n hx hb dX4_readLine_41 rfl (lv_at hl 2 rfl) ?_
        refine lv_iload_n hx hb dX4_readLine_42 rfl (lv_at hl 0 rfl) ?_
        obtain ⟨r_19, t_at_20, t_fa_21, b_k_22, b_n_23, b_h_24, b_d_25, b_r_26, b_u_27, b_y_28, b_L_29, b_C_30, b_I_31, hc_32, hm⟩ := mb13_of hm
        refine call_vi (wc := ((wdX4 q y t_ch t_len t_at_2 t_at t_fa_3) ++ (wdX0 q2 y b_k b_n b_h b_d b_r b_u b_y b_p_s_f b_p_s_l b_p_s_c b_p_t b_v_f b_v_l b_v_c b_L b_C b_I))) (wr := []) (As := [.ref (q2 0), .int r_1]) (rest := []) C (c_X4_readLayer l D y q q2 _ F hc_32) (cwV 2 hts gX4_readLine_X4_readLayer rfl rfl rfl (by decide +kernel) ⟨Nat.le_of_ble_eq_true rfl, Nat.le_of_ble_eq_true rfl⟩) hK hP hD hS hA [0, 1, 2, 3, 4, 5, 6, 7, 8, 9, 10, 11, 12, 13, 14, 15, 16] [] rfl rfl rfl rfl rfl (by decide) rfl rfl rfl rfl hl.1 (Nat.le_of_ble_eq_true rfl) dX4_readLine_43 (fun H locs hP hD hS => ?_)
        have hP : va_P D vwCl ((wdX4 q y t_ch t_len t_at_20 t_at t_fa_21) ++ (wdX0 q2 y b_k_22 b_n_23 b_h_24 b_d_25 b_r_26 b_u_27 b_y_28 b_p_s_f b_p_s_l b_p_s_c b_p_t b_v_f b_v_l b_v_c b_L_29 b_C_30 b_I_31)) H := hP
        have hD : va_D A ((wdX4 q y t_ch t_len t_at_20 t_at t_fa_21) ++ (wdX0 q2 y b_k_22 b_n_23 b_h_24 b_d_25 b_r_26 b_u_27 b_y_28 b_p_s_f b_p_s_l b_p_s_c b_p_t b_v_f b_v_l b_v_c b_L_29 b_C_30 b_I_31)) := hD
        exact k_X4_readLine_46 C hA hK hJ F r_19 t_ch t_len t_at_20 t_at t_fa_21 b_k_22 b_n_23 b_h_24 b_d_25 b_r_26 b_u_27 b_y_28 b_p_s_f b_p_s_l b_p_s_c b_p_t b_v_f b_v_l b_v_c b_L_29 b_C_30 b_I_31 _ _ _ hm hP hD hS (lv_sub hl [1] rfl)
      · have hm := it_of hm h_18
        refine lv_aload_n hx hb dX4_readLine_31 rfl (lv_at hl 1 rfl) ?_
        refine lv_aload_n hx hb dX4_readLine_32 rfl (lv_at hl 2 rfl) ?_
        refine lv_iload_n hx hb dX4_readLine_33 rfl (lv_at hl 0 rfl) ?_
        obtain ⟨r_33, t_at_34, t_fa_35, b_p_s_f_36, b_p_s_l_37, b_p_s_c_38, b_p_t_39, b_v_f_40, b_v_l_41, b_v_c_42, hc_43, hm⟩ := mb10_of hm
        refine call_vi (wc := ((wdX4 q y t_ch t_len t_at_2 t_at t_fa_3) ++ (wdX0 q2 y b_k b_n b_h b_d b_r b_u b_y b_p_s_f b_p_s_l b_p_s_c b_p_t b_v_f b_v_l b_v_c b_L b_C b_I))) (wr := []) (As := [.ref (q2 0), .int r_1]) (rest := []) C (c_X4_readSpan l D y q q2 _ F hc_43) (cwV 2 hts gX4_readLine_X4_readSpan rfl rfl rfl (by decide +kernel) ⟨Nat.le_of_ble_eq_true rfl, Nat.le_of_ble_eq_true rfl⟩) hK hP hD hS hA [0, 1, 2, 3, 4, 5, 6, 7, 8, 9, 10, 11, 12, 13, 14, 15, 16] [] rfl rfl rfl rfl rfl (by decide) rfl rfl rfl rfl hl.1 (Nat.le_of_ble_eq_true rfl) dX4_readLine_34 (fun H locs hP hD hS => ?_)
        have hP : va_P D vwCl ((wdX4 q y t_ch t_len t_at_34 t_at t_fa_35) ++ (wdX0 q2 y b_k b_n b_h b_d b_r b_u b_y b_p_s_f_36 b_p_s_l_37 b_p_s_c_38 b_p_t_39 b_v_f_40 b_v_l_41 b_v_c_42 b_L b_C b_I)) H := hP
        have hD : va_D A ((wdX4 q y t_ch t_len t_at_34 t_at t_fa_35) ++ (wdX0 q2 y b_k b_n b_h b_d b_r b_u b_y b_p_s_f_36 b_p_s_l_37 b_p_s_c_38 b_p_t_39 b_v_f_40 b_v_l_41 b_v_c_42 b_L b_C b_I)) := hD
        refine lv_goto (tgt := 46) hx hb dX4_readLine_37 (by decide) ?_
        exact k_X4_readLine_46 C hA hK hJ F r_33 t_ch t_len t_at_34 t_at t_fa_35 b_k b_n b_h b_d b_r b_u b_y b_p_s_f_36 b_p_s_l_37 b_p_s_c_38 b_p_t_39 b_v_f_40 b_v_l_41 b_v_c_42 b_L b_C b_I _ _ _ hm hP hD hS (lv_sub hl [1] rfl)
  · have hm := it_of hm h_5
    refine lv_iconst (v := (0 : Int32)) hx hb dX4_readLine_18 (by decide) ?_
    have hz := Option.some.inj hm
    subst hz
    exact end_z C hK hP hD hS (show vp_nar .boolean (0 : Int32) = (0 : Int32) from by decide) dX4_readLine_19
def g_X4_readInto_16 (F : Nat) : Nat → Int32 → (Nat → Int32) → Int32 → Int32 → Int32 → Int32 → (Nat → Int32) → (Nat → Int64) → (Nat → Int32) → (Nat → Int32) → (Nat → Int32) → (Nat → Int32) → (Nat → Int32) → (Nat → Int32) → (Nat → Int32) → Int32 → Int32 → (Nat → Int32) → (Nat → Int32) → Int32 → Int32 → Int32 → Int32 → Option (Int32 × Int32 × Int32 × Int32 × (Nat → Int32) × (Nat → Int64) × (Nat → Int32) × (Nat → Int32) × (Nat → Int32) × (Nat → Int32) × (Nat → Int32) × (Nat → Int32) × (Nat → Int32) × Int32 × Int32 × (Nat → Int32) × (Nat → Int32) × Int32 × Int32 × Int32 × Int32)
  | 0, _, _, _, _, _, _, _, _, _, _, _, _, _, _, _, _, _, _, _, _, _, _, _ => none
  | n + 1, v2, t_ch, t_len, t_at, t_ls, t_fa, b_k, b_n, b_h, b_d, b_r, b_u, b_y, b_p_s_f, b_p_s_l, b_p_s_c, b_p_t, b_v_f, b_v_l, b_v_c, b_L, b_C, b_I => (if (3000 : Int32) ≤ v2 then mb4 (f_X0_endLayers F b_k b_p_s_f b_p_s_l b_p_s_c b_L b_C) (fun r_2 b_p_s_f_3 b_p_s_l_4 b_p_s_c_5 => (if r_2 = 0 then some (t_len, t_at, t_ls, t_fa, b_k, b_n, b_h, b_d, b_r, b_u, b_y, b_p_s_f_3, b_p_s_l_4, b_p_s_c_5, b_p_t, b_v_f, b_v_l, b_v_c, b_L, b_C, b_I) else some ((-1 : Int32), t_at, t_ls, t_fa, b_k, b_n, b_h, b_d, b_r, b_u, b_y, b_p_s_f_3, b_p_s_l_4, b_p_s_c_5, b_p_t, b_v_f, b_v_l, b_v_c, b_L, b_C, b_I))) else (if t_len ≤ t_at then mb4 (f_X0_endLayers F b_k b_p_s_f b_p_s_l b_p_s_c b_L b_C) (fun r_9 b_p_s_f_10 b_p_s_l_11 b_p_s_c_12 => (if r_9 = 0 then some (t_len, t_at, t_ls, t_fa, b_k, b_n, b_h, b_d, b_r, b_u, b_y, b_p_s_f_10, b_p_s_l_11, b_p_s_c_12, b_p_t, b_v_f, b_v_l, b_v_c, b_L, b_C, b_I) else some ((-1 : Int32), t_at, t_ls, t_fa, b_k, b_n, b_h, b_d, b_r, b_u, b_y, b_p_s_f_10, b_p_s_l_11, b_p_s_c_12, b_p_t, b_v_f, b_v_l, b_v_c, b_L, b_C, b_I))) else mb21 (f_X4_readLine F t_ch t_len t_at t_ls t_fa b_k b_n b_h b_d b_r b_u b_y b_p_s_f b_p_s_l b_p_s_c b_p_t b_v_f b_v_l b_v_c b_L b_C b_I) (fun r_15 t_at_16 t_ls_17 t_fa_18 b_k_19 b_n_20 b_h_21 b_d_22 b_r_23 b_u_24 b_y_25 b_p_s_f_26 b_p_s_l_27 b_p_s_c_28 b_p_t_29 b_v_f_30 b_v_l_31 b_v_c_32 b_L_33 b_C_34 b_I_35 => (if r_15 = 0 then some (t_fa_18, t_at_16, t_ls_17, t_fa_18, b_k_19, b_n_20, b_h_21, b_d_22, b_r_23, b_u_24, b_y_25, b_p_s_f_26, b_p_s_l_27, b_p_s_c_28, b_p_t_29, b_v_f_30, b_v_l_31, b_v_c_32, b_L_33, b_C_34, b_I_35) else mn (v2 + (1 : Int32)) (fun v2_38 => g_X4_readInto_16 F n v2_38 t_ch t_len t_at_16 t_ls_17 t_fa_18 b_k_19 b_n_20 b_h_21 b_d_22 b_r_23 b_u_24 b_y_25 b_p_s_f_26 b_p_s_l_27 b_p_s_c_28 b_p_t_29 b_v_f_30 b_v_l_31 b_v_c_32 b_L_33 b_C_34 b_I_35)))))
theorem g_X4_readInto_16_z (F : Nat) (v2 : Int32) (t_ch : Nat → Int32) (t_len : Int32) (t_at : Int32) (t_ls : Int32) (t_fa : Int32) (b_k : Nat → Int32) (b_n : Nat → Int64) (b_h : Nat → Int32) (b_d : Nat → Int32) (b_r : Nat → Int32) (b_u : Nat → Int32) (b_y : Nat → Int32) (b_p_s_f : Nat → Int32) (b_p_s_l : Nat → Int32) (b_p_s_c : Int32) (b_p_t : Int32) (b_v_f : Nat → Int32) (b_v_l : Nat → Int32) (b_v_c : Int32) (b_L : Int32) (b_C : Int32) (b_I : Int32) : g_X4_readInto_16 F 0 v2 t_ch t_len t_at t_ls t_fa b_k b_n b_h b_d b_r b_u b_y b_p_s_f b_p_s_l b_p_s_c b_p_t b_v_f b_v_l b_v_c b_L b_C b_I = none := rfl
theorem g_X4_readInto_16_s (F : Nat) (n : Nat) (v2 : Int32) (t_ch : Nat → Int32) (t_len : Int32) (t_at : Int32) (t_ls : Int32) (t_fa : Int32) (b_k : Nat → Int32) (b_n : Nat → Int64) (b_h : Nat → Int32) (b_d : Nat → Int32) (b_r : Nat → Int32) (b_u : Nat → Int32) (b_y : Nat → Int32) (b_p_s_f : Nat → Int32) (b_p_s_l : Nat → Int32) (b_p_s_c : Int32) (b_p_t : Int32) (b_v_f : Nat → Int32) (b_v_l : Nat → Int32) (b_v_c : Int32) (b_L : Int32) (b_C : Int32) (b_I : Int32) : g_X4_readInto_16 F (n + 1) v2 t_ch t_len t_at t_ls t_fa b_k b_n b_h b_d b_r b_u b_y b_p_s_f b_p_s_l b_p_s_c b_p_t b_v_f b_v_l b_v_c b_L b_C b_I = (if (3000 : Int32) ≤ v2 then mb4 (f_X0_endLayers F b_k b_p_s_f b_p_s_l b_p_s_c b_L b_C) (fun r_2 b_p_s_f_3 b_p_s_l_4 b_p_s_c_5 => (if r_2 = 0 then some (t_len, t_at, t_ls, t_fa, b_k, b_n, b_h, b_d, b_r, b_u, b_y, b_p_s_f_3, b_p_s_l_4, b_p_s_c_5, b_p_t, b_v_f, b_v_l, b_v_c, b_L, b_C, b_I) else some ((-1 : Int32), t_at, t_ls, t_fa, b_k, b_n, b_h, b_d, b_r, b_u, b_y, b_p_s_f_3, b_p_s_l_4, b_p_s_c_5, b_p_t, b_v_f, b_v_l, b_v_c, b_L, b_C, b_I))) else (if t_len ≤ t_at then mb4 (f_X0_endLayers F b_k b_p_s_f b_p_s_l b_p_s_c b_L b_C) (fun r_9 b_p_s_f_10 b_p_s_l_11 b_p_s_c_12 => (if r_9 = 0 then some (t_len, t_at, t_ls, t_fa, b_k, b_n, b_h, b_d, b_r, b_u, b_y, b_p_s_f_10, b_p_s_l_11, b_p_s_c_12, b_p_t, b_v_f, b_v_l, b_v_c, b_L, b_C, b_I) else some ((-1 : Int32), t_at, t_ls, t_fa, b_k, b_n, b_h, b_d, b_r, b_u, b_y, b_p_s_f_10, b_p_s_l_11, b_p_s_c_12, b_p_t, b_v_f, b_v_l, b_v_c, b_L, b_C, b_I))) else mb21 (f_X4_readLine F t_ch t_len t_at t_ls t_fa b_k b_n b_h b_d b_r b_u b_y b_p_s_f b_p_s_l b_p_s_c b_p_t b_v_f b_v_l b_v_c b_L b_C b_I) (fun r_15 t_at_16 t_ls_17 t_fa_18 b_k_19 b_n_20 b_h_21 b_d_22 b_r_23 b_u_24 b_y_25 b_p_s_f_26 b_p_s_l_27 b_p_s_c_28 b_p_t_29 b_v_f_30 b_v_l_31 b_v_c_32 b_L_33 b_C_34 b_I_35 => (if r_15 = 0 then some (t_fa_18, t_at_16, t_ls_17, t_fa_18, b_k_19, b_n_20, b_h_21, b_d_22, b_r_23, b_u_24, b_y_25, b_p_s_f_26, b_p_s_l_27, b_p_s_c_28, b_p_t_29, b_v_f_30, b_v_l_31, b_v_c_32, b_L_33, b_C_34, b_I_35) else mn (v2 + (1 : Int32)) (fun v2_38 => g_X4_readInto_16 F n v2_38 t_ch t_len t_at_16 t_ls_17 t_fa_18 b_k_19 b_n_20 b_h_21 b_d_22 b_r_23 b_u_24 b_y_25 b_p_s_f_26 b_p_s_l_27 b_p_s_c_28 b_p_t_29 b_v_f_30 b_v_l_31 b_v_c_32 b_L_33 b_C_34 b_I_35))))) := rfl
def f_X4_readInto (F : Nat) (t_ch : Nat → Int32) (t_len : Int32) (t_at : Int32) (t_ls : Int32) (t_fa : Int32) (b_k : Nat → Int32) (b_n : Nat → Int64) (b_h : Nat → Int32) (b_d : Nat → Int32) (b_r : Nat → Int32) (b_u : Nat → Int32) (b_y : Nat → Int32) (b_p_s_f : Nat → Int32) (b_p_s_l : Nat → Int32) (b_p_s_c : Int32) (b_p_t : Int32) (b_v_f : Nat → Int32) (b_v_l : Nat → Int32) (b_v_c : Int32) (b_L : Int32) (b_C : Int32) (b_I : Int32) : Option (Int32 × Int32 × Int32 × Int32 × (Nat → Int32) × (Nat → Int64) × (Nat → Int32) × (Nat → Int32) × (Nat → Int32) × (Nat → Int32) × (Nat → Int32) × (Nat → Int32) × (Nat → Int32) × Int32 × Int32 × (Nat → Int32) × (Nat → Int32) × Int32 × Int32 × Int32 × Int32) := mb6 (f_X0_clear F b_p_s_c b_p_t b_v_c b_L b_C b_I) (fun b_p_s_c_1 b_p_t_2 b_v_c_3 b_L_4 b_C_5 b_I_6 => g_X4_readInto_16 F F (0 : Int32) t_ch t_len (0 : Int32) t_ls (-1 : Int32) b_k b_n b_h b_d b_r b_u b_y b_p_s_f b_p_s_l b_p_s_c_1 b_p_t_2 b_v_f b_v_l b_v_c_3 b_L_4 b_C_5 b_I_6)
set_option maxRecDepth 20000 in
theorem n_X4_readInto_X4 : ∀ w ∈ wsX40, w ∈ wsX4_readInto := by decide +kernel
set_option maxRecDepth 20000 in
theorem w_X4_readInto_f15 : Cond.fieldLink RX4 15 "LayerStacks$TextReader" "length" "I" ∈ wsX4_readInto := by decide +kernel
set_option maxRecDepth 20000 in
theorem w_X4_readInto_f24 : Cond.fieldLink RX4 24 "LayerStacks$TextReader" "at" "I" ∈ wsX4_readInto := by decide +kernel
set_option maxRecDepth 20000 in
theorem w_X4_readInto_f27 : Cond.fieldLink RX4 27 "LayerStacks$TextReader" "fault" "I" ∈ wsX4_readInto := by decide +kernel
set_option maxHeartbeats 4000000 in
set_option maxRecDepth 100000 in
theorem k_X4_readInto_16 {p : Program} {l : Launch} {e : Env} {s : State} {m : MethodId} {args : Array Value} {below : List Frame} {meth : Method} {c : Code} {D : va_G} {y : Nat → ClassId} {aK aV : Nat → Nat} {A : Nat → Prop} {q : Nat → Nat} {q2 : Nat → Nat} {z : Int32 × Int32 × Int32 × Int32 × (Nat → Int32) × (Nat → Int64) × (Nat → Int32) × (Nat → Int32) × (Nat → Int32) × (Nat → Int32) × (Nat → Int32) × (Nat → Int32) × (Nat → Int32) × Int32 × Int32 × (Nat → Int32) × (Nat → Int32) × Int32 × Int32 × Int32 × Int32} (C : CX p s m args meth c wsX4_readInto RX4 cX4_readInto 3 (some .int)) (hA : ∀ q : Nat, s.heap.size ≤ q → A q) (hK : va_K D vwCl (tyl y) s) (hJ : SJ aK aV A s s.heap) (F : Nat) :
    ∀ (n : Nat), ∀ (v2 : Int32) (t_ch : Nat → Int32) (t_len : Int32) (t_at : Int32) (t_ls : Int32) (t_fa : Int32) (b_k : Nat → Int32) (b_n : Nat → Int64) (b_h : Nat → Int32) (b_d : Nat → Int32) (b_r : Nat → Int32) (b_u : Nat → Int32) (b_y : Nat → Int32) (b_p_s_f : Nat → Int32) (b_p_s_l : Nat → Int32) (b_p_s_c : Int32) (b_p_t : Int32) (b_v_f : Nat → Int32) (b_v_l : Nat → Int32) (b_v_c : Int32) (b_L : Int32) (b_C : Int32) (b_I : Int32) (H : Heap) (locs : List Loc) (ls : Array Slot), g_X4_readInto_16 F n v2 t_ch t_len t_at t_ls t_fa b_k b_n b_h b_d b_r b_u b_y b_p_s_f b_p_s_l b_p_s_c b_p_t b_v_f b_v_l b_v_c b_L b_C b_I = some z → va_P D vwCl ((wdX4 q y t_ch t_len t_at t_ls t_fa) ++ (wdX0 q2 y b_k b_n b_h b_d b_r b_u b_y b_p_s_f b_p_s_l b_p_s_c b_p_t b_v_f b_v_l b_v_c b_L b_C b_I)) H → va_D A ((wdX4 q y t_ch t_len t_at t_ls t_fa) ++ (wdX0 q2 y b_k b_n b_h b_d b_r b_u b_y b_p_s_f b_p_s_l b_p_s_c b_p_t b_v_f b_v_l b_v_c b_L b_C b_I)) → va_S A s.heap H locs → lv_has ls 3 [(0, .ref (q 0)), (1, .ref (q2 0)), (2, .int v2)] → W p l e ({ frames := 7, cells := 0, slots := 0, locals := 154 } : Room) s m args below meth c H locs 0 0 (MQ below (QI D y A (z.1) ((wdX4 q y t_ch t_len (z.2.1) (z.2.2.1) (z.2.2.2.1)) ++ (wdX0 q2 y (z.2.2.2.2.1) (z.2.2.2.2.2.1) (z.2.2.2.2.2.2.1) (z.2.2.2.2.2.2.2.1) (z.2.2.2.2.2.2.2.2.1) (z.2.2.2.2.2.2.2.2.2.1) (z.2.2.2.2.2.2.2.2.2.2.1) (z.2.2.2.2.2.2.2.2.2.2.2.1) (z.2.2.2.2.2.2.2.2.2.2.2.2.1) (z.2.2.2.2.2.2.2.2.2.2.2.2.2.1) (z.2.2.2.2.2.2.2.2.2.2.2.2.2.2.1) (z.2.2.2.2.2.2.2.2.2.2.2.2.2.2.2.1) (z.2.2.2.2.2.2.2.2.2.2.2.2.2.2.2.2.1) (z.2.2.2.2.2.2.2.2.2.2.2.2.2.2.2.2.2.1) (z.2.2.2.2.2.2.2.2.2.2.2.2.2.2.2.2.2.2.1) (z.2.2.2.2.2.2.2.2.2.2.2.2.2.2.2.2.2.2.2.1) (z.2.2.2.2.2.2.2.2.2.2.2.2.2.2.2.2.2.2.2.2)))) args s 0 0 A) (F0 m 16 ls []) := by
  obtain ⟨⟨hx, hb, hml, hown, hts⟩, hr, hlocks⟩ := id C
  intro n
  induction n with
  | zero =>
    intro v2 t_ch t_len t_at t_ls t_fa b_k b_n b_h b_d b_r b_u b_y b_p_s_f b_p_s_l b_p_s_c b_p_t b_v_f b_v_l b_v_c b_L b_C b_I H locs ls hm
    rw [g_X4_readInto_16_z] at hm
    cases hm
  | succ n ih =>
    intro v2 t_ch t_len t_at t_ls t_fa b_k b_n b_h b_d b_r b_u b_y b_p_s_f b_p_s_l b_p_s_c b_p_t b_v_f b_v_l b_v_c b_L b_C b_I H locs ls hm hP hD hS hl
    rw [g_X4_readInto_16_s] at hm
    refine lv_iload_n hx hb dX4_readInto_16 rfl (lv_at hl 2 rfl) ?_
    refine lv_sipush (v := (3000 : Int32)) hx hb dX4_readInto_17 (by decide) ?_
    refine lv_icmp_ge (tgt := 53) hx hb dX4_readInto_20 (by decide) (fun h_1 => ?_) (fun h_1 => ?_)
    · have hm := it_of hm h_1
      refine lv_aload_n hx hb dX4_readInto_53 rfl (lv_at hl 1 rfl) ?_
      obtain ⟨r_2, b_p_s_f_3, b_p_s_l_4, b_p_s_c_5, hc_6, hm⟩ := mb4_of hm
      refine call_vi (wc := (wdX0 q2 y b_k b_n b_h b_d b_r b_u b_y b_p_s_f b_p_s_l b_p_s_c b_p_t b_v_f b_v_l b_v_c b_L b_C b_I)) (wr := [(q 0, .inr (4, [.ref (q 1), .int t_len, .int t_at, .int t_ls, .int t_fa])), (q 1, .inl (y 2, 3000, .inl t_ch))]) (As := []) (rest := []) C (c_X0_endLayers l D y q2 _ F hc_6) (cwV 0 hts gX4_readInto_X0_endLayers rfl rfl rfl (by decide +kernel) ⟨Nat.le_of_ble_eq_true rfl, Nat.le_of_ble_eq_true rfl⟩) hK hP hD hS hA [2, 3, 4, 5, 6, 7, 8, 9, 10, 11, 12, 13, 14, 15, 16] [0, 1] rfl rfl rfl rfl rfl (by decide) rfl rfl rfl rfl hl.1 (Nat.le_of_ble_eq_true rfl) dX4_readInto_54 (fun H locs hP hD hS => ?_)
      have hP : va_P D vwCl ((wdX4 q y t_ch t_len t_at t_ls t_fa) ++ (wdX0 q2 y b_k b_n b_h b_d b_r b_u b_y b_p_s_f_3 b_p_s_l_4 b_p_s_c_5 b_p_t b_v_f b_v_l b_v_c b_L b_C b_I)) H := hP
      have hD : va_D A ((wdX4 q y t_ch t_len t_at t_ls t_fa) ++ (wdX0 q2 y b_k b_n b_h b_d b_r b_u b_y b_p_s_f_3 b_p_s_l_4 b_p_s_c_5 b_p_t b_v_f b_v_l b_v_c b_L b_C b_I)) := hD
      refine lv_if_eq (tgt := 64) hx hb dX4_readInto_57 (by decide) (fun h_7 => ?_) (fun h_7 => ?_)
      · have hm := it_of hm h_7
        refine lv_aload_n hx hb dX4_readInto_64 rfl (lv_at hl 0 rfl) ?_
        refine va_get (D := D) (ci := 4) (v := .int t_len) (C := RX4) (T := TX4) (N := 5) hx hb hts n_X4_readInto_X4 hown hK hP 0 rfl rfl 1 (by decide) (hts _ w_X4_readInto_f15) (fun _ h9 => h9) rfl dX4_readInto_65 ?_
        have hz := Option.some.inj hm
        subst hz
        exact end_i C hK hP hD hS dX4_readInto_68
      · have hm := ie_of hm h_7
        refine lv_iconst (v := (-1 : Int32)) hx hb dX4_readInto_60 (by decide) ?_
        refine lv_goto (tgt := 68) hx hb dX4_readInto_61 (by decide) ?_
        have hz := Option.some.inj hm
        subst hz
        exact end_i C hK hP hD hS dX4_readInto_68
    · have hm := ie_of hm h_1
      refine lv_aload_n hx hb dX4_readInto_23 rfl (lv_at hl 0 rfl) ?_
      refine va_get (D := D) (ci := 4) (v := .int t_at) (C := RX4) (T := TX4) (N := 5) hx hb hts n_X4_readInto_X4 hown hK hP 0 rfl rfl 2 (by decide) (hts _ w_X4_readInto_f24) (fun _ h9 => h9) rfl dX4_readInto_24 ?_
      refine lv_aload_n hx hb dX4_readInto_27 rfl (lv_at hl 0 rfl) ?_
      refine va_get (D := D) (ci := 4) (v := .int t_len) (C := RX4) (T := TX4) (N := 5) hx hb hts n_X4_readInto_X4 hown hK hP 0 rfl rfl 1 (by decide) (hts _ w_X4_readInto_f15) (fun _ h9 => h9) rfl dX4_readInto_28 ?_
      refine lv_icmp_ge (tgt := 53) hx hb dX4_readInto_31 (by decide) (fun h_8 => ?_) (fun h_8 => ?_)
      · have hm := it_of hm h_8
        refine lv_aload_n hx hb dX4_readInto_53 rfl (lv_at hl 1 rfl) ?_
        obtain ⟨r_9, b_p_s_f_10, b_p_s_l_11, b_p_s_c_12, hc_13, hm⟩ := mb4_of hm
        refine call_vi (wc := (wdX0 q2 y b_k b_n b_h b_d b_r b_u b_y b_p_s_f b_p_s_l b_p_s_c b_p_t b_v_f b_v_l b_v_c b_L b_C b_I)) (wr := [(q 0, .inr (4, [.ref (q 1), .int t_len, .int t_at, .int t_ls, .int t_fa])), (q 1, .inl (y 2, 3000, .inl t_ch))]) (As := []) (rest := []) C (c_X0_endLayers l D y q2 _ F hc_13) (cwV 0 hts gX4_readInto_X0_endLayers rfl rfl rfl (by decide +kernel) ⟨Nat.le_of_ble_eq_true rfl, Nat.le_of_ble_eq_true rfl⟩) hK hP hD hS hA [2, 3, 4, 5, 6, 7, 8, 9, 10, 11, 12, 13, 14, 15, 16] [0, 1] rfl rfl rfl rfl rfl (by decide) rfl rfl rfl rfl hl.1 (Nat.le_of_ble_eq_true rfl) dX4_readInto_54 (fun H locs hP hD hS => ?_)
        have hP : va_P D vwCl ((wdX4 q y t_ch t_len t_at t_ls t_fa) ++ (wdX0 q2 y b_k b_n b_h b_d b_r b_u b_y b_p_s_f_10 b_p_s_l_11 b_p_s_c_12 b_p_t b_v_f b_v_l b_v_c b_L b_C b_I)) H := hP
        have hD : va_D A ((wdX4 q y t_ch t_len t_at t_ls t_fa) ++ (wdX0 q2 y b_k b_n b_h b_d b_r b_u b_y b_p_s_f_10 b_p_s_l_11 b_p_s_c_12 b_p_t b_v_f b_v_l b_v_c b_L b_C b_I)) := hD
        refine lv_if_eq (tgt := 64) hx hb dX4_readInto_57 (by decide) (fun h_14 => ?_) (fun h_14 => ?_)
        · have hm := it_of hm h_14
          refine lv_aload_n hx hb dX4_readInto_64 rfl (lv_at hl 0 rfl) ?_
          refine va_get (D := D) (ci := 4) (v := .int t_len) (C := RX4) (T := TX4) (N := 5) hx hb hts n_X4_readInto_X4 hown hK hP 0 rfl rfl 1 (by decide) (hts _ w_X4_readInto_f15) (fun _ h9 => h9) rfl dX4_readInto_65 ?_
          have hz := Option.some.inj hm
          subst hz
          exact end_i C hK hP hD hS dX4_readInto_68
        · have hm := ie_of hm h_14
          refine lv_iconst (v := (-1 : Int32)) hx hb dX4_readInto_60 (by decide) ?_
          refine lv_goto (tgt := 68) hx hb dX4_readInto_61 (by decide) ?_
          have hz := Option.some.inj hm
          subst hz
          exact end_i C hK hP hD hS dX4_readInto_68
      · have hm := ie_of hm h_8
        refine lv_aload_n hx hb dX4_readInto_34 rfl (lv_at hl 0 rfl) ?_
        refine lv_aload_n hx hb dX4_readInto_35 rfl (lv_at hl 1 rfl) ?_
        obtain ⟨r_15, t_at_16, t_ls_17, t_fa_18, b_k_19, b_n_20, b_h_21, b_d_22, b_r_23, b_u_24, b_y_25, b_p_s_f_26, b_p_s_l_27, b_p_s_c_28, b_p_t_29, b_v_f_30, b_v_l_31, b_v_c_32, b_L_33, b_C_34, b_I_35, hc_36, hm⟩ := mb21_of hm
        refine callJ_vi (wc := ((wdX4 q y t_ch t_len t_at t_ls t_fa) ++ (wdX0 q2 y b_k b_n b_h b_d b_r b_u b_y b_p_s_f b_p_s_l b_p_s_c b_p_t b_v_f b_v_l b_v_c b_L b_C b_I))) (wr := []) (As := [.ref (q2 0)]) (rest := []) C (c_X4_readLine l D y aK aV q q2 _ F hc_36) (cwV 1 hts gX4_readInto_X4_readLine rfl rfl rfl (by decide +kernel) ⟨Nat.le_of_ble_eq_true rfl, Nat.le_of_ble_eq_true rfl⟩) hJ hK hP hD hS hA [0, 1, 2, 3, 4, 5, 6, 7, 8, 9, 10, 11, 12, 13, 14, 15, 16] [] rfl rfl rfl rfl rfl (by decide) (va_recv hK hP (ci := 4) (q0 := 0) rfl rfl) rfl hl.1 (Nat.le_of_ble_eq_true rfl) dX4_readInto_36 (fun H locs hP hD hS => ?_)
        have hP : va_P D vwCl ((wdX4 q y t_ch t_len t_at_16 t_ls_17 t_fa_18) ++ (wdX0 q2 y b_k_19 b_n_20 b_h_21 b_d_22 b_r_23 b_u_24 b_y_25 b_p_s_f_26 b_p_s_l_27 b_p_s_c_28 b_p_t_29 b_v_f_30 b_v_l_31 b_v_c_32 b_L_33 b_C_34 b_I_35)) H := hP
        have hD : va_D A ((wdX4 q y t_ch t_len t_at_16 t_ls_17 t_fa_18) ++ (wdX0 q2 y b_k_19 b_n_20 b_h_21 b_d_22 b_r_23 b_u_24 b_y_25 b_p_s_f_26 b_p_s_l_27 b_p_s_c_28 b_p_t_29 b_v_f_30 b_v_l_31 b_v_c_32 b_L_33 b_C_34 b_I_35)) := hD
        refine lv_if_ne (tgt := 47) hx hb dX4_readInto_39 (by decide) (fun h_37 => ?_) (fun h_37 => ?_)
        · have hm := ie_of hm h_37
          obtain ⟨v2_38, ev2_38⟩ : ∃ y9 : Int32, y9 = (v2 + (1 : Int32)) := ⟨_, rfl⟩
          have hm := mn_of ev2_38 hm
          refine lv_iinc (v := v2_38) (lv' := [(2, .int v2_38), (0, .ref (q 0)), (1, .ref (q2 0))]) hx hb dX4_readInto_47 hl (k := 2) rfl (by rw [ev2_38]; rfl) (by decide) rfl (fun ls hl => ?_)
          refine lv_goto (tgt := 16) hx hb dX4_readInto_50 (by decide) ?_
          exact ih v2_38 t_ch t_len t_at_16 t_ls_17 t_fa_18 b_k_19 b_n_20 b_h_21 b_d_22 b_r_23 b_u_24 b_y_25 b_p_s_f_26 b_p_s_l_27 b_p_s_c_28 b_p_t_29 b_v_f_30 b_v_l_31 b_v_c_32 b_L_33 b_C_34 b_I_35 _ _ _ hm hP hD hS (lv_sub hl [1, 2, 0] rfl)
        · have hm := it_of hm h_37
          refine lv_aload_n hx hb dX4_readInto_42 rfl (lv_at hl 0 rfl) ?_
          refine va_get (D := D) (ci := 4) (v := .int t_fa_18) (C := RX4) (T := TX4) (N := 5) hx hb hts n_X4_readInto_X4 hown hK hP 0 rfl rfl 4 (by decide) (hts _ w_X4_readInto_f27) (fun _ h9 => h9) rfl dX4_readInto_43 ?_
          have hz := Option.some.inj hm
          subst hz
          exact end_i C hK hP hD hS dX4_readInto_46
set_option maxHeartbeats 4000000 in
set_option maxRecDepth 100000 in
theorem c_X4_readInto (l : Launch) (D : va_G) (y : Nat → ClassId) (aK aV : Nat → Nat) (q : Nat → Nat) (q2 : Nat → Nat) (sz : Nat) (F : Nat) {t_ch : Nat → Int32} {t_len : Int32} {t_at : Int32} {t_ls : Int32} {t_fa : Int32} {b_k : Nat → Int32} {b_n : Nat → Int64} {b_h : Nat → Int32} {b_d : Nat → Int32} {b_r : Nat → Int32} {b_u : Nat → Int32} {b_y : Nat → Int32} {b_p_s_f : Nat → Int32} {b_p_s_l : Nat → Int32} {b_p_s_c : Int32} {b_p_t : Int32} {b_v_f : Nat → Int32} {b_v_l : Nat → Int32} {b_v_c : Int32} {b_L : Int32} {b_C : Int32} {b_I : Int32} {z : Int32 × Int32 × Int32 × Int32 × (Nat → Int32) × (Nat → Int64) × (Nat → Int32) × (Nat → Int32) × (Nat → Int32) × (Nat → Int32) × (Nat → Int32) × (Nat → Int32) × (Nat → Int32) × Int32 × Int32 × (Nat → Int32) × (Nat → Int32) × Int32 × Int32 × Int32 × Int32} (hm : f_X4_readInto F t_ch t_len t_at t_ls t_fa b_k b_n b_h b_d b_r b_u b_y b_p_s_f b_p_s_l b_p_s_c b_p_t b_v_f b_v_l b_v_c b_L b_C b_I = some z) : Met l yX4_readInto wsX4_readInto ({ frames := 7, cells := 0, slots := 0, locals := 154 } : Room) (va_Pc [.ref (q 0), .ref (q2 0)] (cPJ D y aK aV ((wdX4 q y t_ch t_len t_at t_ls t_fa) ++ (wdX0 q2 y b_k b_n b_h b_d b_r b_u b_y b_p_s_f b_p_s_l b_p_s_c b_p_t b_v_f b_v_l b_v_c b_L b_C b_I)) sz)) (QI D y (va_A ((wdX4 q y t_ch t_len t_at t_ls t_fa) ++ (wdX0 q2 y b_k b_n b_h b_d b_r b_u b_y b_p_s_f b_p_s_l b_p_s_c b_p_t b_v_f b_v_l b_v_c b_L b_C b_I)) sz) (z.1) ((wdX4 q y t_ch t_len (z.2.1) (z.2.2.1) (z.2.2.2.1)) ++ (wdX0 q2 y (z.2.2.2.2.1) (z.2.2.2.2.2.1) (z.2.2.2.2.2.2.1) (z.2.2.2.2.2.2.2.1) (z.2.2.2.2.2.2.2.2.1) (z.2.2.2.2.2.2.2.2.2.1) (z.2.2.2.2.2.2.2.2.2.2.1) (z.2.2.2.2.2.2.2.2.2.2.2.1) (z.2.2.2.2.2.2.2.2.2.2.2.2.1) (z.2.2.2.2.2.2.2.2.2.2.2.2.2.1) (z.2.2.2.2.2.2.2.2.2.2.2.2.2.2.1) (z.2.2.2.2.2.2.2.2.2.2.2.2.2.2.2.1) (z.2.2.2.2.2.2.2.2.2.2.2.2.2.2.2.2.1) (z.2.2.2.2.2.2.2.2.2.2.2.2.2.2.2.2.2.1) (z.2.2.2.2.2.2.2.2.2.2.2.2.2.2.2.2.2.2.1) (z.2.2.2.2.2.2.2.2.2.2.2.2.2.2.2.2.2.2.2.1) (z.2.2.2.2.2.2.2.2.2.2.2.2.2.2.2.2.2.2.2.2)))) 0 0 (va_A ((wdX4 q y t_ch t_len t_at t_ls t_fa) ++ (wdX0 q2 y b_k b_n b_h b_d b_r b_u b_y b_p_s_f b_p_s_l b_p_s_c b_p_t b_v_f b_v_l b_v_c b_L b_C b_I)) sz) := by
  refine met_ofJ (own := RX4) (cc := cX4_readInto) (maxL := 3) (ret := (some .int)) (by decide) rfl rfl (Nat.le_of_ble_eq_true rfl) ?_
  intro p e s m below meth c ls C hsz hK hP hD hA hS hJ hl
  obtain ⟨⟨hx, hb, hml, hown, hts⟩, hr, hlocks⟩ := id C
  have hl : lv_has ls 3 [(0, .ref (q 0)), (1, .ref (q2 0))] := hl
  generalize va_A ((wdX4 q y t_ch t_len t_at t_ls t_fa) ++ (wdX0 q2 y b_k b_n b_h b_d b_r b_u b_y b_p_s_f b_p_s_l b_p_s_c b_p_t b_v_f b_v_l b_v_c b_L b_C b_I)) sz = A at hD hA hS hJ ⊢
  generalize ([.ref (q 0), .ref (q2 0)] : List Value).toArray = args at C hts ⊢
  unfold f_X4_readInto at hm
  refine lv_aload_n hx hb dX4_readInto_0 rfl (lv_at hl 1 rfl) ?_
  obtain ⟨b_p_s_c_1, b_p_t_2, b_v_c_3, b_L_4, b_C_5, b_I_6, hc_7, hm⟩ := mb6_of hm
  refine call_vv (wc := (wdX0 q2 y b_k b_n b_h b_d b_r b_u b_y b_p_s_f b_p_s_l b_p_s_c b_p_t b_v_f b_v_l b_v_c b_L b_C b_I)) (wr := [(q 0, .inr (4, [.ref (q 1), .int t_len, .int t_at, .int t_ls, .int t_fa])), (q 1, .inl (y 2, 3000, .inl t_ch))]) (As := []) (rest := []) C (c_X0_clear l D y q2 _ F hc_7) (cwV 0 hts gX4_readInto_X0_clear rfl rfl rfl (by decide +kernel) ⟨Nat.le_of_ble_eq_true rfl, Nat.le_of_ble_eq_true rfl⟩) hK hP hD hS hA [2, 3, 4, 5, 6, 7, 8, 9, 10, 11, 12, 13, 14, 15, 16] [0, 1] rfl rfl rfl rfl rfl (by decide) rfl rfl rfl rfl hl.1 (Nat.le_of_ble_eq_true rfl) dX4_readInto_1 (fun H locs hP hD hS => ?_)
  have hP : va_P D vwCl ((wdX4 q y t_ch t_len t_at t_ls t_fa) ++ (wdX0 q2 y b_k b_n b_h b_d b_r b_u b_y b_p_s_f b_p_s_l b_p_s_c_1 b_p_t_2 b_v_f b_v_l b_v_c_3 b_L_4 b_C_5 b_I_6)) H := hP
  have hD : va_D A ((wdX4 q y t_ch t_len t_at t_ls t_fa) ++ (wdX0 q2 y b_k b_n b_h b_d b_r b_u b_y b_p_s_f b_p_s_l b_p_s_c_1 b_p_t_2 b_v_f b_v_l b_v_c_3 b_L_4 b_C_5 b_I_6)) := hD
  refine lv_aload_n hx hb dX4_readInto_4 rfl (lv_at hl 0 rfl) ?_
  refine lv_iconst (v := (0 : Int32)) hx hb dX4_readInto_5 (by decide) ?_
  refine va_put (D := D) (ci := 4) (v := .int (0 : Int32)) (ty := .int) (C := RX4) (T := TX4) (N := 5) hx hb hts n_X4_readInto_X4 tyX4 tyX4_ok nmX4 hown hK hP hD hS 0 rfl rfl 2 (by decide) (hts _ w_X4_readInto_f24) (fun _ h9 => h9) rfl (by decide +kernel) rfl rfl (Nat.le_of_ble_eq_true rfl) dX4_readInto_6 (fun H locs hP hD hS => ?_)
  have hP : va_P D vwCl ((wdX4 q y t_ch t_len (0 : Int32) t_ls t_fa) ++ (wdX0 q2 y b_k b_n b_h b_d b_r b_u b_y b_p_s_f b_p_s_l b_p_s_c_1 b_p_t_2 b_v_f b_v_l b_v_c_3 b_L_4 b_C_5 b_I_6)) H := hP
  have hD : va_D A ((wdX4 q y t_ch t_len (0 : Int32) t_ls t_fa) ++ (wdX0 q2 y b_k b_n b_h b_d b_r b_u b_y b_p_s_f b_p_s_l b_p_s_c_1 b_p_t_2 b_v_f b_v_l b_v_c_3 b_L_4 b_C_5 b_I_6)) := hD
  refine lv_aload_n hx hb dX4_readInto_9 rfl (lv_at hl 0 rfl) ?_
  refine lv_iconst (v := (-1 : Int32)) hx hb dX4_readInto_10 (by decide) ?_
  refine va_put (D := D) (ci := 4) (v := .int (-1 : Int32)) (ty := .int) (C := RX4) (T := TX4) (N := 5) hx hb hts n_X4_readInto_X4 tyX4 tyX4_ok nmX4 hown hK hP hD hS 0 rfl rfl 4 (by decide) (hts _ w_X4_readInto_f27) (fun _ h9 => h9) rfl (by decide +kernel) rfl rfl (Nat.le_of_ble_eq_true rfl) dX4_readInto_11 (fun H locs hP hD hS => ?_)
  have hP : va_P D vwCl ((wdX4 q y t_ch t_len (0 : Int32) t_ls (-1 : Int32)) ++ (wdX0 q2 y b_k b_n b_h b_d b_r b_u b_y b_p_s_f b_p_s_l b_p_s_c_1 b_p_t_2 b_v_f b_v_l b_v_c_3 b_L_4 b_C_5 b_I_6)) H := hP
  have hD : va_D A ((wdX4 q y t_ch t_len (0 : Int32) t_ls (-1 : Int32)) ++ (wdX0 q2 y b_k b_n b_h b_d b_r b_u b_y b_p_s_f b_p_s_l b_p_s_c_1 b_p_t_2 b_v_f b_v_l b_v_c_3 b_L_4 b_C_5 b_I_6)) := hD
  refine lv_iconst (v := (0 : Int32)) hx hb dX4_readInto_14 (by decide) ?_
  refine lv_istore_n (lv' := [(2, .int (0 : Int32)), (0, .ref (q 0)), (1, .ref (q2 0))]) hx hb dX4_readInto_15 rfl hl (by decide) rfl (fun ls hl => ?_)
  exact k_X4_readInto_16 C hA hK hJ F F (0 : Int32) t_ch t_len (0 : Int32) t_ls (-1 : Int32) b_k b_n b_h b_d b_r b_u b_y b_p_s_f b_p_s_l b_p_s_c_1 b_p_t_2 b_v_f b_v_l b_v_c_3 b_L_4 b_C_5 b_I_6 _ _ _ hm hP hD hS (lv_sub hl [1, 2, 0] rfl)
