def digO (n a D A : Nat) (ch : Nat → Int32) (fa : Int32) (oc : Option (Int32 × Int32 × Int32)) (om : Option (Int64 × Int32 × Int32)) : Prop :=
  (∃ (m x : Nat), 1 ≤ m ∧ m ≤ D ∧ x < 10 ^ m ∧ a + m ≤ n ∧ oc = some (nI (A * 10 ^ m + x), nI (a + m), fa) ∧ om = some (lN x, nI (a + m), -1)) ∨
  (∃ (e m : Nat) (p1 : Int32) (w : Int64), e ≤ n ∧ m ≤ D ∧ oc = some (-1, p1, nI e) ∧ om = some (w, nI (a + m), nI e))
theorem p10 (m : Nat) (h : m ≤ 4) : (10 : Nat) ^ m ≤ 10000 := Nat.pow_le_pow_right (n := 10) (by decide) h
theorem dig_loop {F n a D A : Nat} {ch tx : Nat → Int32} {fa : Int32} (T : TX n ch tx) (hD : D ≤ 4) (hA : A ≤ 9999) : ∀ (r m x fu1 fu2 : Nat), m + r = D → r + 2 ≤ fu1 → r + 2 ≤ fu2 → x < 10 ^ m → a + m ≤ n →
    digO n a D A ch fa (g_X4_readDigits_8 F fu1 (nI D) (nI a) (nI (A * 10 ^ m + x)) ch (nI n) (nI (a + m)) fa) (g_X7_digits_5 F fu2 (nI D) (lN x) (nI m) tx (nI n) (nI (a + m)) (-1)) := by
  have hn := T.1
  intro r
  induction r with
  | zero =>
    intro m x fu1 fu2 hm h1 h2 hx ha
    obtain ⟨fu1, rfl⟩ : ∃ z, fu1 = z + 1 := ⟨fu1 - 1, by omega⟩
    obtain ⟨fu2, rfl⟩ : ∃ z, fu2 = z + 2 := ⟨fu2 - 2, by omega⟩
    obtain rfl : m = D := by omega
    have c1 := cA (F := F) T (show a + m ≤ 2000 by omega)
    have c2 := cM (F := F) T (show a + m ≤ 2000 by omega)
    rw [g_X4_readDigits_8_s, nI_sub (by omega), if_leT (by omega) (by omega), g_X7_digits_5_s]
    unfold g_X4_readDigits_64
    simp only [c1, c2, mb1_v, dg_A, dg_M, gd_t, if10]
    by_cases h0 : m = 0
    · rw [if_eqT (show a + m = a by omega)]
      by_cases hs : dgB (cat n ch (a + m)) = true
      · rw [b_t hs, if10, if_pos trivial, fl_t, mb1_v, g_X7_digits_5_s, gd_f (by omega), mb1_v, if00]
        unfold g_X7_digits_71
        rw [gd_f (by omega), mb1_v, if00]
        exact Or.inr ⟨a + m, m, _, _, by omega, by omega, rfl, rfl⟩
      · rw [b_f hs, if00]
        unfold g_X7_digits_71
        rw [gd_t, mb1_v, if10, iL0, if_eqT h0, fl_t, mb1_v]
        exact Or.inr ⟨a + m, m, _, _, by omega, by omega, rfl, rfl⟩
    · rw [if_eqF (show a + m ≠ a by omega) (by omega) (by omega)]
      by_cases hs : dgB (cat n ch (a + m)) = true
      · rw [b_t hs, if10, if10, if_pos trivial, fl_t, mb1_v, g_X7_digits_5_s, gd_f (by omega), mb1_v, if00]
        unfold g_X7_digits_71
        rw [gd_f (by omega), mb1_v, if00]
        exact Or.inr ⟨a + m, m, _, _, by omega, by omega, rfl, rfl⟩
      · rw [b_f hs, if00, if00]
        unfold g_X7_digits_71
        rw [gd_t, mb1_v, if10, iL0, if_eqF h0 (by omega) (by omega)]
        exact Or.inl ⟨m, x, by omega, by omega, hx, by omega, rfl, rfl⟩
  | succ r ih =>
    intro m x fu1 fu2 hm h1 h2 hx ha
    obtain ⟨fu1, rfl⟩ : ∃ z, fu1 = z + 1 := ⟨fu1 - 1, by omega⟩
    obtain ⟨fu2, rfl⟩ : ∃ z, fu2 = z + 1 := ⟨fu2 - 1, by omega⟩
    have c1 := cA (F := F) T (show a + m ≤ 2000 by omega)
    have c2 := cM (F := F) T (show a + m ≤ 2000 by omega)
    rw [g_X4_readDigits_8_s, nI_sub (by omega), if_leF (by omega) (by omega), g_X7_digits_5_s]
    simp only [c1, c2, mb1_v, dg_A, dg_M, gd_t, if10]
    by_cases hs : dgB (cat n ch (a + m)) = true
    · obtain ⟨hl, c, hc1, hc⟩ := dg_cat T hs
      rw [b_t hs, if10, if10, if_eqF (show m ≠ D by omega) (by omega) (by omega), mn_e, mn_e, mn_e, hc, nI_1, nI_1, iL10, iL48, pk_mul, nI_add, nI_sub (by omega), lL10, lL48, nI_l (by omega), lN_mul, lN_add, lN_sub (by omega)]
      have e1 : (A * 10 ^ m + x) * 10 + (48 + c) - 48 = A * 10 ^ (m + 1) + (10 * x + (48 + c) - 48) := by
        rw [Nat.pow_succ, ← Nat.mul_assoc]
        omega
      rw [e1]
      refine ih (m + 1) (10 * x + (48 + c) - 48) fu1 fu2 (by omega) (by omega) (by omega) ?_ (by omega)
      rw [Nat.pow_succ]
      omega
    · rw [b_f hs, if00, if00]
      unfold g_X4_readDigits_64 g_X7_digits_71
      rw [gd_t, mb1_v, if10]
      by_cases h0 : m = 0
      · rw [if_eqT (show a + m = a by omega), iL0, if_eqT h0, fl_t, mb1_v]
        exact Or.inr ⟨a + m, m, _, _, by omega, by omega, rfl, rfl⟩
      · rw [if_eqF (show a + m ≠ a by omega) (by omega) (by omega), c1, mb1_v, dg_A, mb1_v, b_f hs, if00, iL0, if_eqF h0 (by omega) (by omega)]
        exact Or.inl ⟨m, x, by omega, by omega, hx, by omega, rfl, rfl⟩
theorem dig_sim {F n a D A : Nat} {ch tx : Nat → Int32} {fa : Int32} (hF : 4000 ≤ F) (T : TX n ch tx) (hD : D ≤ 4) (hA : A ≤ 9999) (ha : a ≤ n) :
    digO n a D A ch fa (f_X4_readDigits F (nI A) (nI D) ch (nI n) (nI a) fa) (f_X7_digits F (nI D) tx (nI n) (nI a) (-1)) := by
  have h := dig_loop (F := F) (fa := fa) T hD hA D 0 0 F F (by omega) (by omega) (by omega) (by decide) (by omega)
  rw [Nat.pow_zero, Nat.mul_one, Nat.add_zero, Nat.add_zero] at h
  exact h
theorem dig_bad {F e : Nat} {tx : Nat → Int32} {n p D : Int32} (hF : 4000 ≤ F) (he : e < 2 ^ 31) : f_X7_digits F D tx n p (nI e) = some (0, p, nI e) := by
  unfold f_X7_digits
  obtain ⟨G, hG⟩ : ∃ z, F = z + 1 := ⟨F - 1, by omega⟩
  have e1 : g_X7_digits_5 F F D 0 0 tx n p (nI e) = g_X7_digits_5 F (G + 1) D 0 0 tx n p (nI e) := by rw [← hG]
  rw [e1, g_X7_digits_5_s, gd_f he, mb1_v, if00]
  unfold g_X7_digits_71
  rw [gd_f he, mb1_v, if00]
theorem l93 {F B : Nat} {mo st at' fa : Int32} (hB : B ≤ 4) : ∀ (r j y fu : Nat), j + r = B → r < fu → g_X4_readNumber_93 F fu (nI B) mo st (nI y) (nI j) at' fa = (if nI (y * 10 ^ r) ≤ mo then some (nI (y * 10 ^ r), at', fa) else some (-1, at', st)) := by
  intro r
  induction r with
  | zero =>
    intro j y fu hj hf
    obtain ⟨fu, rfl⟩ : ∃ z, fu = z + 1 := ⟨fu - 1, by omega⟩
    rw [g_X4_readNumber_93_s, if_leT (by omega) (by omega), Nat.pow_zero, Nat.mul_one]
    rfl
  | succ r ih =>
    intro j y fu hj hf
    obtain ⟨fu, rfl⟩ : ∃ z, fu = z + 1 := ⟨fu - 1, by omega⟩
    rw [g_X4_readNumber_93_s, if_leF (by omega) (by omega), mn_e, mn_e, nI_1, iL10, pk_mul, ih (j + 1) (y * 10) fu (by omega) (by omega), Nat.pow_succ, Nat.mul_comm (10 ^ r) 10, ← Nat.mul_assoc]
theorem l9 {F B f' : Nat} {tx : Nat → Int32} {sz p f : Int32} (hB : B ≤ 4) : ∀ (r j y : Nat), j + r = B → g_X7_number_9 F (r + f' + 1) (nI B) (lN y) (nI j) tx sz p f = g_X7_number_9 F (f' + 1) (nI B) (lN (y * 10 ^ r)) (nI B) tx sz p f := by
  intro r
  induction r with
  | zero =>
    intro j y hj
    obtain rfl : j = B := by omega
    rw [Nat.pow_zero, Nat.mul_one, Nat.zero_add]
  | succ r ih =>
    intro j y hj
    rw [show r + 1 + f' + 1 = (r + f' + 1) + 1 by omega, g_X7_number_9_s, if_leF (by omega) (by omega), mn_e, mn_e, nI_1, lL10, lN_mul, ih (j + 1) (10 * y) (by omega), Nat.pow_succ, Nat.mul_comm 10 y, Nat.mul_comm (10 ^ r) 10, ← Nat.mul_assoc]
theorem l9b {F B f' : Nat} {tx : Nat → Int32} {sz p f : Int32} (hB : B ≤ 4) : ∀ (r j : Nat) (y : Int64), j + r = B → ∃ y', g_X7_number_9 F (r + f' + 1) (nI B) y (nI j) tx sz p f = g_X7_number_9 F (f' + 1) (nI B) y' (nI B) tx sz p f := by
  intro r
  induction r with
  | zero =>
    intro j y hj
    obtain rfl : j = B := by omega
    exact ⟨y, by rw [Nat.zero_add]⟩
  | succ r ih =>
    intro j y hj
    rw [show r + 1 + f' + 1 = (r + f' + 1) + 1 by omega, g_X7_number_9_s, if_leF (by omega) (by omega), mn_e, mn_e, nI_1]
    exact ih (j + 1) _ (by omega)
theorem l77 {F B : Nat} {v3 : Int64} {p f : Int32} (hB : B ≤ 4) : ∀ (r j x fu : Nat), j + r = B → r < fu → g_X7_number_77 F fu (nI B) v3 (lN x) (nI j) p f = some (v3 + lN (x * 10 ^ r), p, f) := by
  intro r
  induction r with
  | zero =>
    intro j y fu hj hf
    obtain ⟨fu, rfl⟩ : ∃ z, fu = z + 1 := ⟨fu - 1, by omega⟩
    rw [g_X7_number_77_s, if_leT (by omega) (by omega), Nat.pow_zero, Nat.mul_one]
  | succ r ih =>
    intro j y fu hj hf
    obtain ⟨fu, rfl⟩ : ∃ z, fu = z + 1 := ⟨fu - 1, by omega⟩
    rw [g_X7_number_77_s, if_leF (by omega) (by omega), mn_e, mn_e, nI_1, lL10, lN_mul, ih (j + 1) (10 * y) fu (by omega) (by omega), Nat.pow_succ, Nat.mul_comm 10 y, Nat.mul_comm (10 ^ r) 10, ← Nat.mul_assoc]
theorem l77b {F B : Nat} {v3 : Int64} {p f : Int32} (hB : B ≤ 4) : ∀ (r j fu : Nat) (x : Int64), j + r = B → r < fu → ∃ z, g_X7_number_77 F fu (nI B) v3 x (nI j) p f = some (z, p, f) := by
  intro r
  induction r with
  | zero =>
    intro j fu y hj hf
    obtain ⟨fu, rfl⟩ : ∃ z, fu = z + 1 := ⟨fu - 1, by omega⟩
    rw [g_X7_number_77_s, if_leT (by omega) (by omega)]
    exact ⟨_, rfl⟩
  | succ r ih =>
    intro j fu y hj hf
    obtain ⟨fu, rfl⟩ : ∃ z, fu = z + 1 := ⟨fu - 1, by omega⟩
    rw [g_X7_number_77_s, if_leF (by omega) (by omega), mn_e, mn_e, nI_1]
    exact ih (j + 1) fu _ (by omega) (by omega)
def numO (n a D B : Nat) (mo : Int32) (ch : Nat → Int32) (fa : Int32) (oc : Option (Int32 × Int32 × Int32)) (ox : Option (Int32 × Int32)) (om : Int32 → Int32 → Option (Int64 × Int32 × Int32)) : Prop :=
  (∃ (V a' : Nat), V < 10 ^ D * 10 ^ B ∧ a + 2 ≤ a' ∧ a' ≤ n ∧ oc = (if nI V ≤ mo then some (nI V, nI a', fa) else some (-1, nI a', nI (a + 1))) ∧ ox = some (nI (a + 1), -1) ∧ om (nI (a + 1)) (-1) = some (lN V, nI a', -1)) ∨
  (∃ (e : Nat) (p1 q f2 p2 : Int32) (w : Int64), e ≤ n ∧ oc = some (-1, p1, nI e) ∧ ox = some (q, f2) ∧ om q f2 = some (w, p2, nI e))
theorem num_bad {F e B : Nat} {tx : Nat → Int32} {n p D : Int32} (hF : 4000 ≤ F) (hB : B ≤ 4) (he : e < 2 ^ 31) : ∃ w, f_X7_number F D (nI B) tx n p (nI e) = some (w, p, nI e) := by
  unfold f_X7_number
  rw [dig_bad hF he, mb3_v]
  obtain ⟨G, hG⟩ : ∃ z, F = B + z + 1 := ⟨F - B - 1, by omega⟩
  have e1 : g_X7_number_9 F F (nI B) 0 (0 : Int32) tx n p (nI e) = g_X7_number_9 F (B + G + 1) (nI B) 0 (nI 0) tx n p (nI e) := by rw [← hG]; rfl
  obtain ⟨y', e2⟩ := l9b (F := F) (f' := G) (tx := tx) (sz := n) (p := p) (f := nI e) hB B 0 0 (by omega)
  rw [e1, e2, g_X7_number_9_s, if_leT (by omega) (by omega), gd_f he, mb1_v, if00]
  exact ⟨_, rfl⟩
theorem num_sim {F n a D B : Nat} {mo : Int32} {ch tx : Nat → Int32} {fa : Int32} (hF : 4000 ≤ F) (T : TX n ch tx) (hD : D ≤ 4) (hB : B ≤ 3) (ha : a ≤ n) :
    numO n a D B mo ch fa (f_X4_readNumber F (nI D) (nI B) mo ch (nI n) (nI a) fa) (f_X7_expect F 32 tx (nI n) (nI a) (-1)) (fun p f => f_X7_number F (nI D) (nI B) tx (nI n) p f) := by
  have hn := T.1
  have tD := p10 D hD
  have tB : (10 : Nat) ^ B ≤ 1000 := Nat.pow_le_pow_right (n := 10) (by decide) hB
  by_cases hs : cat n ch a = 32
  · have han : a < n := by
      rcases cat_cases T a with ⟨h, _⟩ | ⟨h, _⟩
      · rw [h] at hs; exact absurd hs (by decide)
      · exact h
    unfold f_X4_readNumber
    rw [exA_t T (by omega) hs, mb3_v, if10, exM_t T (by omega) hs]
    rcases dig_sim (F := F) (fa := fa) (A := 0) hF T hD (by omega) (show a + 1 ≤ n by omega) with ⟨m, x, h1, h2, h3, h4, ho, hm⟩ | ⟨e, m, p1, w, h1, h2, ho, hm⟩
    · have tm := p10 m (by omega)
      have tx2 : x ≤ 9999 := by omega
      have tm2 : (10 : Nat) ^ m ≤ 10 ^ D := Nat.pow_le_pow_right (n := 10) (by decide) h2
      rw [Nat.zero_mul, Nat.zero_add] at ho
      rw [show (0 : Int32) = nI 0 from rfl, ho, mb3_v, if_m1F (by omega), cA T (by omega), mb1_v]
      obtain ⟨G, hG⟩ : ∃ z, F = B + z + 1 := ⟨F - B - 1, by omega⟩
      have e1 : g_X7_number_9 F F (nI B) (lN x) (0 : Int32) tx (nI n) (nI (a + 1 + m)) (-1) = g_X7_number_9 F (B + G + 1) (nI B) (lN x) (nI 0) tx (nI n) (nI (a + 1 + m)) (-1) := by rw [← hG]; rfl
      have e2 := l9 (F := F) (f' := G) (tx := tx) (sz := nI n) (p := nI (a + 1 + m)) (f := -1) (show B ≤ 4 by omega) B 0 x (by omega)
      have e3 : f_X7_number F (nI D) (nI B) tx (nI n) (nI (a + 1)) (-1) = g_X7_number_9 F (G + 1) (nI B) (lN (x * 10 ^ B)) (nI B) tx (nI n) (nI (a + 1 + m)) (-1) := by
        unfold f_X7_number
        rw [hm, mb3_v, e1, e2]
      have hxB : x * 10 ^ B < 10 ^ D * 10 ^ B := Nat.mul_lt_mul_of_pos_right (by omega) (Nat.pow_pos (by decide))
      by_cases hp : cat n ch (a + 1 + m) = 46
      · have hpn : a + 1 + m < n := by
          rcases cat_cases T (a + 1 + m) with ⟨h, _⟩ | ⟨h, _⟩
          · rw [h] at hp; exact absurd hp (by decide)
          · exact h
        rw [if_pos hp, mn_e, nI_1]
        have e4 : g_X7_number_9 F (G + 1) (nI B) (lN (x * 10 ^ B)) (nI B) tx (nI n) (nI (a + 1 + m)) (-1) = mb3 (f_X7_digits F (nI B) tx (nI n) (nI (a + 1 + m + 1)) (-1)) (fun r_9 M_p_10 M_fault_11 => mn (M_p_10 - nI (a + 1 + m + 1)) (fun v8_13 => g_X7_number_77 F F (nI B) (lN (x * 10 ^ B)) r_9 v8_13 M_p_10 M_fault_11)) := by
          rw [g_X7_number_9_s, if_leT (by omega) (by omega), gd_t, mb1_v, if10, cM T (by omega), mb1_v, if_pos hp, mn_e, nI_1]
        rcases dig_sim (F := F) (fa := fa) (A := x) hF T (show B ≤ 4 by omega) tx2 (show a + 1 + m + 1 ≤ n by omega) with ⟨k, z, g1, g2, g3, g4, go, gm⟩ | ⟨e, k, p1, w, g1, g2, go, gm⟩
        · have tk := p10 k (by omega)
          have hxk : x * 10 ^ k ≤ 9999 * 1000 := Nat.mul_le_mul tx2 (Nat.le_trans (Nat.pow_le_pow_right (n := 10) (by decide) g2) tB)
          rw [go, mb3_v, mn_e, nI_sub (by omega), if_m1F (by omega), l93 (by omega) (B - k) _ _ F (by omega) (by omega)]
          rw [gm, mb3_v, mn_e, nI_sub (by omega), l77 (by omega) (B - k) _ _ F (by omega) (by omega), lN_add] at e4
          have e5 : (x * 10 ^ k + z) * 10 ^ (B - k) = x * 10 ^ B + z * 10 ^ (B - k) := by
            rw [Nat.add_mul, Nat.mul_assoc, ← Nat.pow_add, show k + (B - k) = B by omega]
          have e6 : z * 10 ^ (B - k) < 10 ^ B := by
            have q := Nat.mul_lt_mul_of_pos_right g3 (show 0 < 10 ^ (B - k) from Nat.pow_pos (by decide))
            rw [← Nat.pow_add, show k + (B - k) = B by omega] at q
            exact q
          have e7 : (x + 1) * 10 ^ B ≤ 10 ^ D * 10 ^ B := Nat.mul_le_mul_right _ (by omega)
          rw [Nat.add_mul, Nat.one_mul] at e7
          rw [e5]
          exact Or.inl ⟨x * 10 ^ B + z * 10 ^ (B - k), a + 1 + m + 1 + k, by omega, by omega, by omega, rfl, rfl, e3.trans e4⟩
        · rw [go, mb3_v, mn_e, if_m1T]
          rw [gm, mb3_v, mn_e, nI_sub (by omega)] at e4
          obtain ⟨zz, hz⟩ := l77b (F := F) (v3 := lN (x * 10 ^ B)) (p := nI (a + 1 + m + 1 + k)) (f := nI e) (show B ≤ 4 by omega) (B - k) k F w (by omega) (by omega)
          rw [show a + 1 + m + 1 + k - (a + 1 + m + 1) = k by omega, hz] at e4
          exact Or.inr ⟨e, _, _, _, _, _, by omega, rfl, rfl, e3.trans e4⟩
      · rw [if_neg hp, if_m1F (by omega), l93 (by omega) B 0 x F (by omega) (by omega)]
        refine Or.inl ⟨x * 10 ^ B, a + 1 + m, by omega, by omega, by omega, rfl, rfl, ?_⟩
        refine e3.trans ?_
        rw [g_X7_number_9_s, if_leT (by omega) (by omega), gd_t, mb1_v, if10, cM T (by omega), mb1_v, if_neg hp]
    · rw [show (0 : Int32) = nI 0 from rfl, ho, mb3_v, if_m1T, if_m1T]
      refine Or.inr ⟨e, p1, nI (a + 1), -1, ?_⟩
      obtain ⟨G, hG⟩ : ∃ z, F = B + z + 1 := ⟨F - B - 1, by omega⟩
      have e1 : g_X7_number_9 F F (nI B) w (0 : Int32) tx (nI n) (nI (a + 1 + m)) (nI e) = g_X7_number_9 F (B + G + 1) (nI B) w (nI 0) tx (nI n) (nI (a + 1 + m)) (nI e) := by rw [← hG]; rfl
      obtain ⟨y', e2⟩ := l9b (F := F) (f' := G) (tx := tx) (sz := nI n) (p := nI (a + 1 + m)) (f := nI e) (show B ≤ 4 by omega) B 0 w (by omega)
      refine ⟨nI (a + 1 + m), y', h1, rfl, rfl, ?_⟩
      show f_X7_number F (nI D) (nI B) tx (nI n) (nI (a + 1)) (-1) = _
      unfold f_X7_number
      rw [hm, mb3_v, e1, e2, g_X7_number_9_s, if_leT (by omega) (by omega), gd_f (by omega), mb1_v, if00]
  · unfold f_X4_readNumber
    rw [exA_f T (by omega) hs, mb3_v, if00, exM_f T (by omega) hs]
    obtain ⟨w, hw⟩ := num_bad (F := F) (e := a) (B := B) (tx := tx) (n := nI n) (p := nI a) (D := nI D) hF (by omega) (by omega)
    exact Or.inr ⟨a, _, _, _, _, w, ha, rfl, rfl, hw⟩
