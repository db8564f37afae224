def ap (f : Nat → Int32) (w : Nat) : List Nat → Nat → Int32
  | [] => f
  | c :: t => ap (upd f w (nI c)) (w + 1) t
theorem ap_app {f : Nat → Int32} : ∀ {l1 l2 : List Nat} {f : Nat → Int32} {w : Nat}, ap f w (l1 ++ l2) = ap (ap f w l1) (w + l1.length) l2 := by
  intro l1
  induction l1 with
  | nil => intro l2 f w; rfl
  | cons c t ih =>
    intro l2 f w
    show ap (upd f w (nI c)) (w + 1) (t ++ l2) = ap (ap (upd f w (nI c)) (w + 1) t) (w + (t.length + 1)) l2
    rw [ih, show w + 1 + t.length = w + (t.length + 1) by omega]
theorem ap_lo : ∀ {l : List Nat} {f : Nat → Int32} {w j : Nat}, j < w → ap f w l j = f j := by
  intro l
  induction l with
  | nil => intro f w j _; rfl
  | cons c t ih =>
    intro f w j h
    show ap (upd f w (nI c)) (w + 1) t j = f j
    rw [ih (by omega), pk_un (by omega)]
theorem ap_get : ∀ {l : List Nat} {f : Nat → Int32} {w i : Nat}, i < l.length → ap f w l (w + i) = nI (l.getD i 0) := by
  intro l
  induction l with
  | nil => intro f w i h; exact absurd h (by simp)
  | cons c t ih =>
    intro f w i h
    show ap (upd f w (nI c)) (w + 1) t (w + i) = nI ((c :: t).getD i 0)
    cases i with
    | zero =>
      rw [ap_lo (by omega)]
      exact pk_us
    | succ i =>
      have h2 : i < t.length := by simpa using h
      rw [show w + (i + 1) = w + 1 + i by omega, ih h2]; rfl
def EM (l : List Nat) (p : (Nat → Int32) → Int32 → Option ((Nat → Int32) × Int32)) : Prop := ∀ (f : Nat → Int32) (w : Nat), w + l.length ≤ 3000 → p f (nI w) = some (ap f w l, nI (w + l.length))
theorem EM_seq {l1 l2 : List Nat} {p q : (Nat → Int32) → Int32 → Option ((Nat → Int32) × Int32)} (h1 : EM l1 p) (h2 : EM l2 q) : EM (l1 ++ l2) (fun f w => mb2 (p f w) q) := by
  intro f w h
  rw [List.length_append] at h ⊢
  show mb2 (p f (nI w)) q = _
  rw [h1 f w (by omega), mb2_v, h2 _ _ (by omega), ap_app (f := f), Nat.add_assoc]
theorem EM_nil : EM [] (fun f w => some (f, w)) := fun f w _ => rfl
theorem nar_c {c : Nat} (h : c < 65536) : vp_nar .char (nI c) = nI c := Value.int.inj (pk_charN h).1
theorem put_ok {F c : Nat} (hc : c < 65536) : EM [c] (fun f w => f_X5_put F (nI c) f w) := by
  intro f w h
  have h : w + 1 ≤ 3000 := h
  show f_X5_put F (nI c) f (nI w) = some (upd f w (nI c), nI (w + 1))
  unfold f_X5_put
  simp (disch := omega) only [mg_in, if10, if00, if_true, if_false, nI_1, nI_s1, mn_e, mb1_v, mb2_v, mb3_v, mb4_v, nI_clamp, nI_add, pk_mul, if_leT, if_leF, if_ltT, if_ltF, if_eqT, if_eqF, if_m1F, if_m1F2, if_m1T, if_m1ltT, if_m1leT, if_m1leF, if_m1ltF, if_e1T, if_e1F, if_1eT, if_1eF, if_le1T, if_le1F, if_1ltT, if_1ltF, iL0, iL2, iL3, iL4, iL5, iL6, iL7, iL8, iL9, iL10, iL20, iL21, iL22, iL31, iL32, iL40, iL46, iL48, iL57, iL64, iL65, iL80, iL81, iL90, iL96, iL97, iL100, iL122, iL126, iL127, iL500, iL1000, iL3000, iL9999999, nar_c]
theorem say_ok {F c : Nat} : EM [c] (fun f w => f_X7_say F (nI c) f w) := by
  intro f w h
  have h : w + 1 ≤ 3000 := h
  show f_X7_say F (nI c) f (nI w) = some (upd f w (nI c), nI (w + 1))
  unfold f_X7_say
  simp (disch := omega) only [mg_in, if10, if00, if_true, if_false, nI_1, nI_s1, mn_e, mb1_v, mb2_v, mb3_v, mb4_v, nI_clamp, nI_add, pk_mul, if_leT, if_leF, if_ltT, if_ltF, if_eqT, if_eqF, if_m1F, if_m1F2, if_m1T, if_m1ltT, if_m1leT, if_m1leF, if_m1ltF, if_e1T, if_e1F, if_1eT, if_1eF, if_le1T, if_le1F, if_1ltT, if_1ltF, iL0, iL2, iL3, iL4, iL5, iL6, iL7, iL8, iL9, iL10, iL20, iL21, iL22, iL31, iL32, iL40, iL46, iL48, iL57, iL64, iL65, iL80, iL81, iL90, iL96, iL97, iL100, iL122, iL126, iL127, iL500, iL1000, iL3000, iL9999999]
def wl (k : Nat) : List Nat := [[99, 111, 112, 112, 101, 114], [99, 111, 114, 101], [112, 114, 101, 112, 114, 101, 103], [109, 97, 115, 107], [115, 112, 97, 114, 101], [112, 114, 101, 115, 115], [118, 105, 97]].getD k []
theorem wl_f : ∀ k : Fin 7, ∀ j : Fin 8, (j.val < (wl k.val).length → sCh k.val (nI j.val) = nI ((wl k.val).getD j.val 0) ∧ f_X7_letter 0 (nI k.val) (nI j.val) = some (nI ((wl k.val).getD j.val 0 - 96)) ∧ 96 < (wl k.val).getD j.val 0 ∧ (wl k.val).getD j.val 0 < 128) ∧ (j.val = (wl k.val).length → f_X7_letter 0 (nI k.val) (nI j.val) = some 0) := by decide +kernel
theorem wl_n : ∀ k : Fin 7, sLen.getD k.val 0 = (wl k.val).length ∧ (wl k.val).length ≤ 7 ∧ spl (nI k.val) = k.val := by decide +kernel
theorem wl_spl {k : Nat} (hk : k < 7) : spl (nI k) = k := (wl_n ⟨k, hk⟩).2.2
theorem wl_len {k : Nat} (hk : k < 7) : (wl k).length ≤ 7 := (wl_n ⟨k, hk⟩).2.1
theorem drop_c {l : List Nat} {j : Nat} (h : j < l.length) : l.drop j = l.getD j 0 :: l.drop (j + 1) := by
  rw [List.drop_eq_getElem_cons h, List.getD_eq_getElem?_getD, List.getElem?_eq_getElem h]
  rfl
theorem pw_loop {F k : Nat} (hk : k < 7) : ∀ (r j fu w : Nat) (f : Nat → Int32), j + r = (wl k).length → r < fu → w + r ≤ 3000 → g_X5_putWord_2 F k fu (nI j) f (nI w) = some (ap f w ((wl k).drop j), nI (w + r)) := by
  obtain ⟨n1, n2, _⟩ := wl_n ⟨k, hk⟩
  dsimp only at n1 n2
  intro r
  induction r with
  | zero =>
    intro j fu w f he hf hw
    obtain ⟨fu, rfl⟩ : ∃ z, fu = z + 1 := ⟨fu - 1, by omega⟩
    rw [g_X5_putWord_2_s, n1, show Int32.ofNat (wl k).length = nI (wl k).length from rfl, if_leT (by omega) (by omega), List.drop_eq_nil_of_le (by omega)]
    rfl
  | succ r ih =>
    intro j fu w f he hf hw
    obtain ⟨fu, rfl⟩ : ∃ z, fu = z + 1 := ⟨fu - 1, by omega⟩
    obtain ⟨a1, a2, a3, a4⟩ := (wl_f ⟨k, hk⟩ ⟨j, by omega⟩).1 (by dsimp only; omega)
    dsimp only at a1 a3 a4
    have pt := put_ok (F := F) (c := (wl k).getD j 0) (by omega) f w (by show w + 1 ≤ 3000; omega)
    rw [g_X5_putWord_2_s, n1, show Int32.ofNat (wl k).length = nI (wl k).length from rfl, if_leF (by omega) (by omega), mg_in (by omega) (by omega), a1]
    rw [show f_X5_put F (nI ((wl k).getD j 0)) f (nI w) = _ from pt, mb2_v, mn_e, nI_1, drop_c (by omega)]
    rw [show w + (r + 1) = w + 1 + r by omega]
    exact ih (j + 1) fu (w + 1) _ (by omega) (by omega) (by omega)
theorem word_put {F k : Nat} (hF : 4000 ≤ F) (hk : k < 7) : EM (wl k) (fun f w => f_X5_putWord F k f w) := by
  intro f w h
  have hl := wl_len hk
  exact pw_loop hk (wl k).length 0 F w f (by omega) (by omega) h
theorem sw_loop {F k : Nat} (hk : k < 7) : ∀ (r j fu w : Nat) (f : Nat → Int32), j + r = (wl k).length → r < fu → w + r ≤ 3000 → g_X7_sayWord_2 F fu (nI k) (nI j) f (nI w) = some (ap f w ((wl k).drop j), nI (w + r)) := by
  obtain ⟨_, n2, _⟩ := wl_n ⟨k, hk⟩
  dsimp only at n2
  have fl : ∀ j, f_X7_letter F (nI k) (nI j) = f_X7_letter 0 (nI k) (nI j) := fun j => rfl
  intro r
  induction r with
  | zero =>
    intro j fu w f he hf hw
    obtain ⟨fu, rfl⟩ : ∃ z, fu = z + 1 := ⟨fu - 1, by omega⟩
    have a1 := (wl_f ⟨k, hk⟩ ⟨j, by omega⟩).2 (by dsimp only; omega)
    dsimp only at a1
    rw [g_X7_sayWord_2_s, fl, a1, mb1_v, if_pos (by decide), List.drop_eq_nil_of_le (by omega)]
    rfl
  | succ r ih =>
    intro j fu w f he hf hw
    obtain ⟨fu, rfl⟩ : ∃ z, fu = z + 1 := ⟨fu - 1, by omega⟩
    obtain ⟨_, a1, a3, a4⟩ := (wl_f ⟨k, hk⟩ ⟨j, by omega⟩).1 (by dsimp only; omega)
    dsimp only at a1 a3 a4
    have pt := say_ok (F := F) (c := (wl k).getD j 0) f w (by show w + 1 ≤ 3000; omega)
    have e0 : ¬ nI ((wl k).getD j 0 - 96) ≤ 0 := nI_ge (a := 0) (by omega) (by omega)
    have e1 : (96 : Int32) + nI ((wl k).getD j 0 - 96) = nI ((wl k).getD j 0) := by
      rw [iL96, nI_add]
      congr 1
      omega
    rw [g_X7_sayWord_2_s, fl, a1, mb1_v, if_neg e0, mb1_v, e1, show f_X7_say F (nI ((wl k).getD j 0)) f (nI w) = _ from pt, mb2_v, mn_e, nI_1, drop_c (by omega), show w + (r + 1) = w + 1 + r by omega]
    exact ih (j + 1) fu (w + 1) _ (by omega) (by omega) (by omega)
theorem word_say {F k : Nat} (hF : 4000 ≤ F) (hk : k < 7) : EM (wl k) (fun f w => f_X7_sayWord F (nI k) f w) := by
  intro f w h
  have hl := wl_len hk
  exact sw_loop hk (wl k).length 0 F w f (by omega) (by omega) h
def nl (x : Nat) : Nat → List Nat
  | 0 => []
  | m + 1 => (x / 128 ^ m % 128) :: nl x m
theorem nl_len {x : Nat} : ∀ m, (nl x m).length = m := by
  intro m
  induction m with
  | zero => rfl
  | succ m ih => show (nl x m).length + 1 = m + 1; rw [ih]
theorem dec64 (k : Nat) (h : k ≤ 63) : ((lN k).toBitVec.smod 64).toNat = k := by
  have q : ∀ c : Fin 64, ((lN c.val).toBitVec.smod 64).toNat = c.val := by decide +kernel
  exact q ⟨k, by omega⟩
theorem lshr {x k : Nat} (hx : x < 2 ^ 56) (hk : k ≤ 63) : lN x >>> lN k = lN (x / 2 ^ k) := by
  have hd : x / 2 ^ k ≤ x := Nat.div_le_self _ _
  apply Int64.toBitVec_inj.mp
  rw [Int64.toBitVec_shiftRight]
  have ek : ((lN k).toBitVec.smod 64).toNat = k := dec64 k hk
  have ex : (lN x).toBitVec.toNat = x := Nat.mod_eq_of_lt (by omega)
  have er : (lN (x / 2 ^ k)).toBitVec.toNat = x / 2 ^ k := Nat.mod_eq_of_lt (by omega)
  have em : (lN x).toBitVec.msb = false := by
    rw [BitVec.msb_eq_decide, ex]
    exact decide_eq_false (by omega)
  apply BitVec.eq_of_toNat_eq
  rw [er]
  show ((lN x).toBitVec.sshiftRight' ((lN k).toBitVec.smod 64)).toNat = _
  unfold BitVec.sshiftRight'
  rw [ek, BitVec.sshiftRight_eq_of_msb_false em, BitVec.toNat_ushiftRight, ex, Nat.shiftRight_eq_div_pow]
theorem and127 {y : Nat} (hy : y < 2 ^ 63) : lN y &&& 127 = lN (y % 128) := by
  apply Int64.toBitVec_inj.mp
  rw [Int64.toBitVec_and]
  apply BitVec.eq_of_toNat_eq
  have ey : (lN y).toBitVec.toNat = y := Nat.mod_eq_of_lt (by omega)
  have er : (lN (y % 128)).toBitVec.toNat = y % 128 := Nat.mod_eq_of_lt (by omega)
  rw [BitVec.toNat_and, ey, er]
  exact Nat.and_two_pow_sub_one_eq_mod y 7
theorem toI_and {y : Nat} (hy : y < 2 ^ 63) : (lN y).toInt32 &&& 127 = nI (y % 128) := by
  rw [pk_and _ 7 (by decide)]
  have e : (lN y).toInt32.toBitVec.toNat = y % 2 ^ 32 := by
    rw [Int64.toBitVec_toInt32, BitVec.signExtend_eq_setWidth_of_le _ (by decide), BitVec.toNat_setWidth]
    have ey : (lN y).toBitVec.toNat = y := Nat.mod_eq_of_lt (by omega)
    rw [ey]
  rw [e]
  congr 1
  omega
theorem p128p (i : Nat) : (128 : Nat) ^ i = 2 ^ (7 * i) := by rw [Nat.pow_mul]
theorem lt_c {x i : Nat} (hx : x < 2 ^ 56) (hi : i ≤ 8) : (((lN x >>> (((nI i * (7 : Int32))).toInt64 &&& 63))).toInt32) &&& (127 : Int32) = nI (x / 128 ^ i % 128) := by
  have e : ((nI i * (7 : Int32))).toInt64 &&& 63 = lN (7 * i) := by
    have q : ∀ c : Fin 9, ((nI c.val * (7 : Int32))).toInt64 &&& 63 = lN (7 * c.val) := by decide +kernel
    exact q ⟨i, by omega⟩
  rw [e, lshr hx (by omega), toI_and (by have := Nat.div_le_self x (2 ^ (7 * i)); omega), ← p128p]
theorem lt_m {x i : Nat} (hx : x < 2 ^ 56) (hi : i ≤ 8) : (((lN x >>> ((((7 : Int32) * nI i)).toInt64 &&& 63)) &&& (127 : Int64))).toInt32 = nI (x / 128 ^ i % 128) := by
  have e : (((7 : Int32) * nI i)).toInt64 &&& 63 = lN (7 * i) := by
    have q : ∀ c : Fin 9, (((7 : Int32) * nI c.val)).toInt64 &&& 63 = lN (7 * c.val) := by decide +kernel
    exact q ⟨i, by omega⟩
  rw [e, lshr hx (by omega), and127 (by have := Nat.div_le_self x (2 ^ (7 * i)); omega), ← p128p, lN_i]
theorem char_N {c : Nat} (hc : c < 65536) : ((nI c).toUInt32 % 65536).toInt32 = nI c := by
  rw [pk_char, pk_tn (by omega), Nat.mod_eq_of_lt hc]
theorem nm_put {F x m : Nat} (hx : NX x m) (hm : m ≤ 8) : ∀ (i fu w : Nat) (f : Nat → Int32), i ≤ 8 → i < fu → w + min i m ≤ 3000 → g_X5_putName_3 F fu (lN x) (nI i + (-1)) f (nI w) = some (ap f w (nl x (min i m)), nI (w + min i m)) := by
  have hx2 := NX_lt hx hm
  intro i
  induction i with
  | zero =>
    intro fu w f _ hf hw
    obtain ⟨fu, rfl⟩ : ∃ z, fu = z + 1 := ⟨fu - 1, by omega⟩
    rw [g_X5_putName_3_s, if_pos (by decide), Nat.zero_min]
    rfl
  | succ i ih =>
    intro fu w f h8 hf hw
    obtain ⟨fu, rfl⟩ : ∃ z, fu = z + 1 := ⟨fu - 1, by omega⟩
    have e0 : ¬ nI i < 0 := nI_pos (by omega)
    rw [g_X5_putName_3_s, pk_m1, if_neg e0, lt_c hx2 (by omega), mn_e]
    by_cases q : i < m
    · have h0 := hx.2 i q
      have h1 : ¬ nI (x / 128 ^ i % 128) = 0 := fun e => h0 (nI_inj (b := 0) e (by omega) (by omega))
      have e1 : min (i + 1) m = i + 1 := by omega
      have e2 : min i m = i := by omega
      rw [e1] at hw ⊢
      have pt := put_ok (F := F) (c := x / 128 ^ i % 128) (by omega) f w (by show w + 1 ≤ 3000; omega)
      have i1 := ih fu (w + 1) (upd f w (nI (x / 128 ^ i % 128))) (by omega) (by omega) (by omega)
      rw [e2] at i1
      rw [if_neg h1, char_N (by omega), show f_X5_put F (nI (x / 128 ^ i % 128)) f (nI w) = _ from pt, mb2_v, mn_e, show w + (i + 1) = w + 1 + i by omega]
      exact i1
    · have h1 : nI (x / 128 ^ i % 128) = 0 := by
        have h2 := hx.1
        have h3 := Nat.pow_le_pow_right (n := 128) (by decide) (show m ≤ i by omega)
        rw [Nat.div_eq_of_lt (by omega)]; rfl
      have e1 : min (i + 1) m = min i m := by omega
      rw [e1] at hw ⊢
      rw [if_pos h1, mn_e]
      exact ih fu w f (by omega) (by omega) hw
theorem name_put {F m : Nat} {v : Int64} (hF : 4000 ≤ F) (hv : NM v m) : ∃ x, v = lN x ∧ 1 ≤ m ∧ m ≤ 8 ∧ x < 2 ^ 56 ∧ EM (nl x m) (fun f w => f_X5_putName F v f w) := by
  obtain ⟨x, rfl, m1, m2, hx⟩ := hv
  refine ⟨x, rfl, m1, m2, NX_lt hx m2, ?_⟩
  intro f w h
  rw [nl_len] at h ⊢
  have := nm_put (F := F) hx m2 8 F w f (by omega) (by omega) (by omega)
  rw [show min 8 m = m by omega] at this
  exact this
theorem nm_say {F x k : Nat} {Mn : Nat → Int64} (hx : x < 2 ^ 56) (hk : k < 160) (hn : Mn k = lN x) : ∀ (i fu w : Nat) (f : Nat → Int32), i ≤ 8 → i < fu → w + i ≤ 3000 → g_X7_sayName_25 F fu (nI k) (nI i + (-1)) Mn f (nI w) = some (ap f w (nl x i), nI (w + i)) := by
  intro i
  induction i with
  | zero =>
    intro fu w f _ hf hw
    obtain ⟨fu, rfl⟩ : ∃ z, fu = z + 1 := ⟨fu - 1, by omega⟩
    rw [g_X7_sayName_25_s, if_pos (by decide)]
    rfl
  | succ i ih =>
    intro fu w f h8 hf hw
    obtain ⟨fu, rfl⟩ : ∃ z, fu = z + 1 := ⟨fu - 1, by omega⟩
    have e0 : ¬ nI i < 0 := nI_pos (by omega)
    have pt := say_ok (F := F) (c := x / 128 ^ i % 128) f w (by show w + 1 ≤ 3000; omega)
    have i1 := ih fu (w + 1) (upd f w (nI (x / 128 ^ i % 128))) (by omega) (by omega) (by omega)
    rw [g_X7_sayName_25_s, pk_m1, if_neg e0, mg_in hk (by omega), nI_clamp (by omega), hn, lt_m hx (by omega), show f_X7_say F (nI (x / 128 ^ i % 128)) f (nI w) = _ from pt, mb2_v, mn_e, show w + (i + 1) = w + 1 + i by omega]
    exact i1
theorem name_say {F s x m l : Nat} {Mn : Nat → Int64} {Mz : Nat → Int32} (hF : 4000 ≤ F) (hs : s ≤ 1) (hl : l < 80) (hx : x < 2 ^ 56) (hn : Mn (80 * s + l) = lN x) (hz : Mz (80 * s + l) = nI m) (m1 : 1 ≤ m) (m2 : m ≤ 8) : EM (32 :: nl x m) (fun f w => f_X7_sayName F (nI l) (nI s) Mn Mz f w) := by
  intro f w h
  have hln : (32 :: nl x m).length = m + 1 := by show (nl x m).length + 1 = m + 1; rw [nl_len]
  rw [hln] at h ⊢
  show f_X7_sayName F (nI l) (nI s) Mn Mz f (nI w) = _
  have pt := say_ok (F := F) (c := 32) f w (by show w + 1 ≤ 3000; omega)
  have lp := nm_say (F := F) hx (show 80 * s + l < 160 by omega) hn m F (w + 1) (upd f w (nI 32)) m2 (by omega) (by omega)
  unfold f_X7_sayName
  rw [iL32, show f_X7_say F (nI 32) f (nI w) = _ from pt, iL80, pk_mul, nI_add, mn_e, mb2_v, mg_in (by omega) (by omega), nI_clamp (by omega), hz]
  have e : nI m - 1 = nI m + (-1) := by
    obtain ⟨j, rfl⟩ : ∃ j, m = j + 1 := ⟨m - 1, by omega⟩
    rw [pk_m1, nI_s1 (by omega)]; rfl
  rw [mn_e, e, show w + (m + 1) = w + 1 + m by omega]
  exact lp
