def TX (n : Nat) (ch : Nat → Int32) (tx : Nat → Int32) : Prop := n ≤ 512 ∧ ∀ k, k < n → tx k = ch k ∧ ∃ c, 10 ≤ c ∧ c ≤ 126 ∧ ch k = nI c
def cat (n : Nat) (ch : Nat → Int32) (a : Nat) : Int32 := if a < n then ch a else -1
theorem cat_cases {n : Nat} {ch tx : Nat → Int32} (T : TX n ch tx) (a : Nat) : (cat n ch a = -1 ∧ n ≤ a) ∨ (a < n ∧ ∃ c, 10 ≤ c ∧ c ≤ 126 ∧ cat n ch a = nI c) := by
  by_cases h : a < n
  · obtain ⟨c, h1, h2, h3⟩ := (T.2 a h).2
    exact Or.inr ⟨h, c, h1, h2, by rw [cat, if_pos h, h3]⟩
  · exact Or.inl ⟨by rw [cat, if_neg h], by omega⟩
theorem cA {F n a : Nat} {ch tx : Nat → Int32} (T : TX n ch tx) (ha : a ≤ 2000) : f_X4_characterAt F (nI a) ch (nI n) = some (cat n ch a) := by
  have hn := T.1
  unfold f_X4_characterAt cat
  by_cases h : a < n
  · simp (disch := omega) only [mg_in, if10, if00, if_true, if_false, nI_1, nI_s1, mn_e, mb1_v, mb2_v, mb3_v, mb4_v, nI_clamp, nI_add, pk_mul, if_leT, if_leF, if_ltT, if_ltF, if_eqT, if_eqF, if_m1F, if_m1F2, if_m1T, if_m1ltT, if_m1leT, if_m1leF, if_m1ltF, if_e1T, if_e1F, if_1eT, if_1eF, if_le1T, if_le1F, if_1ltT, if_1ltF, iL0, iL2, iL3, iL4, iL5, iL6, iL7, iL8, iL9, iL10, iL20, iL21, iL22, iL31, iL32, iL40, iL46, iL48, iL57, iL64, iL65, iL80, iL81, iL90, iL96, iL97, iL100, iL122, iL126, iL127, iL500, iL1000, iL3000, iL9999999, if_pos h]
  · simp (disch := omega) only [mg_in, if10, if00, if_true, if_false, nI_1, nI_s1, mn_e, mb1_v, mb2_v, mb3_v, mb4_v, nI_clamp, nI_add, pk_mul, if_leT, if_leF, if_ltT, if_ltF, if_eqT, if_eqF, if_m1F, if_m1F2, if_m1T, if_m1ltT, if_m1leT, if_m1leF, if_m1ltF, if_e1T, if_e1F, if_1eT, if_1eF, if_le1T, if_le1F, if_1ltT, if_1ltF, iL0, iL2, iL3, iL4, iL5, iL6, iL7, iL8, iL9, iL10, iL20, iL21, iL22, iL31, iL32, iL40, iL46, iL48, iL57, iL64, iL65, iL80, iL81, iL90, iL96, iL97, iL100, iL122, iL126, iL127, iL500, iL1000, iL3000, iL9999999, if_neg h]
theorem cM {F n a : Nat} {ch tx : Nat → Int32} (T : TX n ch tx) (ha : a ≤ 2000) : f_X7_c F tx (nI n) (nI a) = some (cat n ch a) := by
  have hn := T.1
  unfold f_X7_c cat
  by_cases h : a < n
  · simp (disch := omega) only [mg_in, if10, if00, if_true, if_false, nI_1, nI_s1, mn_e, mb1_v, mb2_v, mb3_v, mb4_v, nI_clamp, nI_add, pk_mul, if_leT, if_leF, if_ltT, if_ltF, if_eqT, if_eqF, if_m1F, if_m1F2, if_m1T, if_m1ltT, if_m1leT, if_m1leF, if_m1ltF, if_e1T, if_e1F, if_1eT, if_1eF, if_le1T, if_le1F, if_1ltT, if_1ltF, iL0, iL2, iL3, iL4, iL5, iL6, iL7, iL8, iL9, iL10, iL20, iL21, iL22, iL31, iL32, iL40, iL46, iL48, iL57, iL64, iL65, iL80, iL81, iL90, iL96, iL97, iL100, iL122, iL126, iL127, iL500, iL1000, iL3000, iL9999999, if_pos h, (T.2 a h).1]
  · simp (disch := omega) only [mg_in, if10, if00, if_true, if_false, nI_1, nI_s1, mn_e, mb1_v, mb2_v, mb3_v, mb4_v, nI_clamp, nI_add, pk_mul, if_leT, if_leF, if_ltT, if_ltF, if_eqT, if_eqF, if_m1F, if_m1F2, if_m1T, if_m1ltT, if_m1leT, if_m1leF, if_m1ltF, if_e1T, if_e1F, if_1eT, if_1eF, if_le1T, if_le1F, if_1ltT, if_1ltF, iL0, iL2, iL3, iL4, iL5, iL6, iL7, iL8, iL9, iL10, iL20, iL21, iL22, iL31, iL32, iL40, iL46, iL48, iL57, iL64, iL65, iL80, iL81, iL90, iL96, iL97, iL100, iL122, iL126, iL127, iL500, iL1000, iL3000, iL9999999, if_neg h]
theorem gd_t {F : Nat} : f_X7_good F (-1) = some 1 := rfl
theorem gd_f {F e : Nat} (he : e < 2 ^ 31) : f_X7_good F (nI e) = some 0 := by
  unfold f_X7_good
  rw [if_m1F he]
theorem fl_t {F : Nat} {x : Int32} : f_X7_fail F x (-1) = some x := rfl
theorem fl_f {F e : Nat} {x : Int32} (he : e < 2 ^ 31) : f_X7_fail F x (nI e) = some (nI e) := by
  unfold f_X7_fail
  rw [if_m1F he]
theorem exA_t {F n a : Nat} {ch tx : Nat → Int32} {u fa : Int32} (T : TX n ch tx) (ha : a ≤ 2000) (h : cat n ch a = u) : f_X4_expect F u ch (nI n) (nI a) fa = some (1, nI (a + 1), fa) := by
  unfold f_X4_expect
  rw [cA T ha, mb1_v, if_pos h, nI_1]
theorem exA_f {F n a : Nat} {ch tx : Nat → Int32} {u fa : Int32} (T : TX n ch tx) (ha : a ≤ 2000) (h : ¬ cat n ch a = u) : f_X4_expect F u ch (nI n) (nI a) fa = some (0, nI a, nI a) := by
  unfold f_X4_expect f_X4_faultAt
  rw [cA T ha, mb1_v, if_neg h]
  rfl
theorem exM_t {F n a : Nat} {ch tx : Nat → Int32} {u : Int32} (T : TX n ch tx) (ha : a ≤ 2000) (h : cat n ch a = u) : f_X7_expect F u tx (nI n) (nI a) (-1) = some (nI (a + 1), -1) := by
  unfold f_X7_expect
  rw [gd_t, mb1_v, if_neg (by decide), cM T ha, mb1_v, if_pos h, mb1_v, if_neg (by decide), nI_1]
theorem exM_f {F n a : Nat} {ch tx : Nat → Int32} {u : Int32} (T : TX n ch tx) (ha : a ≤ 2000) (h : ¬ cat n ch a = u) : f_X7_expect F u tx (nI n) (nI a) (-1) = some (nI a, nI a) := by
  unfold f_X7_expect
  rw [gd_t, mb1_v, if_neg (by decide), cM T ha, mb1_v, if_neg h, fl_t, mb1_v, gd_f (by omega), mb1_v, if_pos rfl]
theorem exM_b {F e : Nat} {tx : Nat → Int32} {u n p : Int32} (he : e < 2 ^ 31) : f_X7_expect F u tx n p (nI e) = some (p, nI e) := by
  unfold f_X7_expect
  rw [gd_f he, mb1_v, if_pos rfl, mb1_v, if_pos rfl]
def sgB (v : Int32) : Bool := f_X7_isSign 0 v == some 1
theorem sg_M {F : Nat} (v : Int32) : f_X7_isSign F v = some (if sgB v = true then 1 else 0) := by
  have e : f_X7_isSign F v = f_X7_isSign 0 v := rfl
  rw [e]
  unfold sgB f_X7_isSign g_X7_isSign_12
  repeat' split
  all_goals first | rfl | contradiction
theorem sg_same {c : Nat} (hc : c < 128) : f_X4_isLetterOrDigit 0 (nI c) = some (if sgB (nI c) = true then 1 else 0) := dec128 (P := fun c => f_X4_isLetterOrDigit 0 (nI c) = some (if sgB (nI c) = true then 1 else 0)) (by decide +kernel) c hc
theorem sg_A {F n a : Nat} {ch tx : Nat → Int32} (T : TX n ch tx) : f_X4_isLetterOrDigit F (cat n ch a) = some (if sgB (cat n ch a) = true then 1 else 0) := by
  have e : f_X4_isLetterOrDigit F (cat n ch a) = f_X4_isLetterOrDigit 0 (cat n ch a) := rfl
  rw [e]
  rcases cat_cases T a with ⟨h, _⟩ | ⟨_, c, h1, h2, h3⟩
  · rw [h]; decide +kernel
  · rw [h3]; exact sg_same (by omega)
theorem sg_rng {c : Nat} (hc : c < 128) : sgB (nI c) = true → 48 ≤ c ∧ c ≤ 122 := dec128 (P := fun c => sgB (nI c) = true → 48 ≤ c ∧ c ≤ 122) (by decide +kernel) c hc
theorem sg_m1 : ¬ sgB (-1) = true := by decide +kernel
theorem sg_cat {n a : Nat} {ch tx : Nat → Int32} (T : TX n ch tx) (h : sgB (cat n ch a) = true) : a < n ∧ ∃ c, 48 ≤ c ∧ c ≤ 122 ∧ cat n ch a = nI c := by
  rcases cat_cases T a with ⟨h2, _⟩ | ⟨h1, c, h2, h3, h4⟩
  · rw [h2] at h; exact absurd h sg_m1
  · rw [h4] at h
    obtain ⟨h5, h6⟩ := sg_rng (by omega) h
    exact ⟨h1, c, h5, h6, h4⟩
def dgB (v : Int32) : Bool := f_X7_isDigit 0 v == some 1
theorem dg_M {F : Nat} (v : Int32) : f_X7_isDigit F v = some (if dgB v = true then 1 else 0) := by
  have e : f_X7_isDigit F v = f_X7_isDigit 0 v := rfl
  rw [e]
  unfold dgB f_X7_isDigit
  repeat' split
  all_goals first | rfl | contradiction
theorem dg_A {F : Nat} (v : Int32) : f_X4_isDigit F v = some (if dgB v = true then 1 else 0) := dg_M (F := F) v
theorem dg_rng {c : Nat} (hc : c < 128) : dgB (nI c) = true → 48 ≤ c ∧ c ≤ 57 := dec128 (P := fun c => dgB (nI c) = true → 48 ≤ c ∧ c ≤ 57) (by decide +kernel) c hc
theorem dg_m1 : ¬ dgB (-1) = true := by decide +kernel
theorem dg_cat {n a : Nat} {ch tx : Nat → Int32} (T : TX n ch tx) (h : dgB (cat n ch a) = true) : a < n ∧ ∃ c, c ≤ 9 ∧ cat n ch a = nI (48 + c) := by
  rcases cat_cases T a with ⟨h2, _⟩ | ⟨h1, c, h2, h3, h4⟩
  · rw [h2] at h; exact absurd h dg_m1
  · rw [h4] at h
    obtain ⟨h5, h6⟩ := dg_rng (by omega) h
    exact ⟨h1, c - 48, by omega, by rw [h4]; congr 1; omega⟩
theorem b_t {b : Bool} (h : b = true) : (if b = true then (1 : Int32) else 0) = 1 := if_pos h
theorem b_f {b : Bool} (h : ¬ b = true) : (if b = true then (1 : Int32) else 0) = 0 := if_neg h
def NX (x m : Nat) : Prop := x < 128 ^ m ∧ ∀ j, j < m → x / 128 ^ j % 128 ≠ 0
def NM (v : Int64) (m : Nat) : Prop := ∃ x : Nat, v = lN x ∧ 1 ≤ m ∧ m ≤ 8 ∧ NX x m
theorem pw8 : (128 : Nat) ^ 8 = 2 ^ 56 := by decide
theorem p128 (m : Nat) (h : m ≤ 8) : (128 : Nat) ^ m ≤ 2 ^ 56 := by
  rw [← pw8]
  exact Nat.pow_le_pow_right (by decide) h
theorem sh7 {x c : Nat} (hx : x < 2 ^ 49) (hc : c < 128) : (lN x <<< (((7 : Int32)).toInt64 &&& 63)) ||| ((nI c).toInt64) = lN (128 * x + c) := by
  have e1 : (((7 : Int32)).toInt64 &&& 63) = (7 : Int64) := by decide
  rw [e1, nI_l (by omega)]
  apply Int64.toBitVec_inj.mp
  rw [Int64.toBitVec_or, Int64.toBitVec_shiftLeft]
  apply BitVec.eq_of_toNat_eq
  rw [BitVec.toNat_or]
  have e2 : ((7 : Int64).toBitVec.smod 64).toNat = 7 := by decide
  have ex : (lN x).toBitVec.toNat = x := Nat.mod_eq_of_lt (by omega)
  have ec : (lN c).toBitVec.toNat = c := Nat.mod_eq_of_lt (by omega)
  have er : (lN (128 * x + c)).toBitVec.toNat = 128 * x + c := Nat.mod_eq_of_lt (by omega)
  rw [BitVec.shiftLeft_eq', BitVec.toNat_shiftLeft, e2, ex, ec, er, Nat.shiftLeft_eq]
  have e3 : x * 2 ^ 7 % 2 ^ 64 = 2 ^ 7 * x := by rw [Nat.mul_comm]; exact Nat.mod_eq_of_lt (by omega)
  rw [e3]
  exact (Nat.two_pow_add_eq_or_of_lt (i := 7) hc x).symm
theorem NX_0 : NX 0 0 := ⟨by decide, fun j hj => by omega⟩
theorem NX_s {x m c : Nat} (h : NX x m) (hc : c < 128) (h0 : 0 < c) : NX (128 * x + c) (m + 1) := by
  obtain ⟨h1, h2⟩ := h
  refine ⟨?_, fun j hj => ?_⟩
  · rw [Nat.pow_succ]
    omega
  · cases j with
    | zero => rw [Nat.pow_zero, Nat.div_one]; omega
    | succ j =>
      rw [Nat.pow_succ, Nat.mul_comm (128 ^ j) 128, ← Nat.div_div_eq_div_mul]
      have e : (128 * x + c) / 128 = x := by omega
      rw [e]
      exact h2 j (by omega)
theorem NX_pos {x m : Nat} (h : NX x m) (hm : 1 ≤ m) : 128 ^ (m - 1) ≤ x := by
  have h2 := h.2 (m - 1) (by omega)
  apply Nat.le_of_not_lt
  intro q
  rw [Nat.div_eq_of_lt q] at h2
  exact h2 rfl
theorem NX_same {x m k : Nat} (h : NX x m) (h2 : NX x k) (hm : 1 ≤ m) (hk : 1 ≤ k) : m = k := by
  have a1 := NX_pos h hm
  have a2 := NX_pos h2 hk
  have b1 := h.1
  have b2 := h2.1
  rcases Nat.lt_trichotomy m k with q | q | q
  · have := Nat.pow_le_pow_right (n := 128) (by decide) (show m ≤ k - 1 by omega)
    omega
  · exact q
  · have := Nat.pow_le_pow_right (n := 128) (by decide) (show k ≤ m - 1 by omega)
    omega
theorem NX_lt {x m : Nat} (h : NX x m) (hm : m ≤ 8) : x < 2 ^ 56 := by
  have := h.1
  have := p128 m hm
  omega
theorem NM_ne {v : Int64} {m : Nat} (h : NM v m) : ¬ v = 0 := by
  obtain ⟨x, rfl, h1, h2, h3⟩ := h
  intro q
  have a1 := NX_pos h3 h1
  have a2 := NX_lt h3 h2
  have a3 : 0 < 128 ^ (m - 1) := Nat.pow_pos (by decide)
  have := lN_inj (b := 0) q (by omega) (by omega)
  omega
theorem NM_same {v : Int64} {m k : Nat} (h : NM v m) (h2 : NM v k) : m = k := by
  obtain ⟨x, e1, a1, a2, a3⟩ := h
  obtain ⟨z, e2, b1, b2, b3⟩ := h2
  have q := NX_lt a3 a2
  have q2 := NX_lt b3 b2
  have e : x = z := lN_inj (e1.symm.trans e2) (by omega) (by omega)
  subst e
  exact NX_same a3 b3 a1 b1
def nameO (n a : Nat) (ch : Nat → Int32) (fa : Int32) (oc : Option (Int64 × Int32 × Int32)) (om : Option (Int32 × Int32 × Int64 × Int32)) : Prop :=
  (∃ (m : Nat) (v : Int64), NM v m ∧ a + m ≤ n ∧ oc = some (v, nI (a + m), fa) ∧ om = some (nI (a + m), -1, v, nI m)) ∨
  (∃ (e : Nat) (p1 p2 : Int32) (w : Int64) (ws : Int32), e ≤ n ∧ oc = some (0, p1, nI e) ∧ om = some (p2, nI e, w, ws))
theorem name_loop {F n a : Nat} {ch tx : Nat → Int32} {fa : Int32} (T : TX n ch tx) : ∀ (r m x fu1 fu2 : Nat), m + r = 8 → r + 2 ≤ fu1 → r + 2 ≤ fu2 → NX x m → a + m ≤ n →
    nameO n a ch fa (g_X4_readName_7 F fu1 (nI a) (lN x) ch (nI n) (nI (a + m)) fa) (g_X7_name_10 F fu2 tx (nI n) (nI (a + m)) (-1) (lN x) (nI m)) := by
  have hn := T.1
  intro r
  induction r with
  | zero =>
    intro m x fu1 fu2 hm h1 h2 hx ha
    obtain ⟨fu1, rfl⟩ : ∃ z, fu1 = z + 1 := ⟨fu1 - 1, by omega⟩
    obtain ⟨fu2, rfl⟩ : ∃ z, fu2 = z + 2 := ⟨fu2 - 2, by omega⟩
    obtain rfl : m = 8 := by omega
    have c1 := cA (F := F) T (show a + 8 ≤ 2000 by omega)
    have c2 := cM (F := F) T (show a + 8 ≤ 2000 by omega)
    rw [g_X4_readName_7_s, nI_sub (by omega), show a + 8 - a = 8 by omega, if_pos (by decide)]
    unfold g_X4_readName_60
    rw [g_X7_name_10_s]
    simp only [if_eqF (show a + 8 ≠ a by omega) (show a + 8 < 2 ^ 31 by omega) (show a < 2 ^ 31 by omega), c1, c2, mb1_v, sg_A T, sg_M, gd_t, if10]
    by_cases hs : sgB (cat n ch (a + 8)) = true
    · rw [b_t hs, if10, if10, iL8, if_eqT rfl]
      refine Or.inr ⟨a + 8, nI (a + 8), nI (a + 8), lN x, nI 8, by omega, rfl, ?_⟩
      rw [fl_t, mb1_v, g_X7_name_10_s, gd_f (by omega), mb1_v, if00]
      unfold g_X7_name_87
      rw [gd_f (by omega), mb1_v, if00]
    · rw [b_f hs, if00, if00]
      refine Or.inl ⟨8, lN x, ⟨x, rfl, by omega, by omega, hx⟩, by omega, rfl, ?_⟩
      unfold g_X7_name_87
      rw [gd_t, mb1_v, if10, if_neg (by decide)]
  | succ r ih =>
    intro m x fu1 fu2 hm h1 h2 hx ha
    obtain ⟨fu1, rfl⟩ : ∃ z, fu1 = z + 1 := ⟨fu1 - 1, by omega⟩
    obtain ⟨fu2, rfl⟩ : ∃ z, fu2 = z + 1 := ⟨fu2 - 1, by omega⟩
    have c1 := cA (F := F) T (show a + m ≤ 2000 by omega)
    have c2 := cM (F := F) T (show a + m ≤ 2000 by omega)
    rw [g_X4_readName_7_s, nI_sub (by omega), iL8, if_leF (by omega) (by omega), g_X7_name_10_s]
    simp only [c1, c2, mb1_v, sg_A T, sg_M, gd_t, if10]
    by_cases hs : sgB (cat n ch (a + m)) = true
    · obtain ⟨hl, c, hc1, hc2, hc⟩ := sg_cat T hs
      have q := hx.1
      have q2 : (128 : Nat) ^ m ≤ 128 ^ 7 := Nat.pow_le_pow_right (by decide) (by omega)
      have q3 : (128 : Nat) ^ 7 = 2 ^ 49 := by decide
      have q4 := sh7 (show x < 2 ^ 49 by omega) (show c < 128 by omega)
      rw [b_t hs, if10, if10, iL8, if_eqF (by omega) (by omega) (by omega), mn_e, hc, q4, nI_1, nI_1]
      exact ih (m + 1) (128 * x + c) fu1 fu2 (by omega) (by omega) (by omega) (NX_s hx (by omega) (by omega)) (by omega)
    · rw [b_f hs, if00, if00]
      unfold g_X4_readName_60 g_X7_name_87
      rw [gd_t, mb1_v, if10]
      by_cases h0 : m = 0
      · rw [if_eqT (show a + m = a by omega), iL0, if_eqT h0, fl_t, mb1_v]
        exact Or.inr ⟨a + m, nI (a + m), nI (a + m), lN x, nI m, by omega, rfl, rfl⟩
      · rw [if_eqF (show a + m ≠ a by omega) (by omega) (by omega), c1, mb1_v, sg_A T, mb1_v, b_f hs, if00, iL0, if_eqF h0 (by omega) (by omega)]
        exact Or.inl ⟨m, lN x, ⟨x, rfl, by omega, by omega, hx⟩, by omega, rfl, rfl⟩
theorem name_sim {F n a : Nat} {ch tx : Nat → Int32} {fa : Int32} {w : Int64} {ws : Int32} (hF : 4000 ≤ F) (T : TX n ch tx) (ha : a ≤ n) :
    nameO n a ch fa (f_X4_readName F ch (nI n) (nI a) fa) (f_X7_name F tx (nI n) (nI a) (-1) w ws) := name_loop (F := F) (fa := fa) T 8 0 0 F F rfl (by omega) (by omega) NX_0 (by omega)
theorem name_bad {F e : Nat} {tx : Nat → Int32} {n p : Int32} {w : Int64} {ws : Int32} (hF : 4000 ≤ F) (he : e < 2 ^ 31) : f_X7_name F tx n p (nI e) w ws = some (p, nI e, 0, 0) := by
  unfold f_X7_name
  obtain ⟨G, hG⟩ : ∃ z, F = z + 1 := ⟨F - 1, by omega⟩
  have e1 : g_X7_name_10 F F tx n p (nI e) 0 0 = g_X7_name_10 F (G + 1) tx n p (nI e) 0 0 := by rw [← hG]
  rw [e1, g_X7_name_10_s, gd_f he, mb1_v, if00]
  unfold g_X7_name_87
  rw [gd_f he, mb1_v, if00]
