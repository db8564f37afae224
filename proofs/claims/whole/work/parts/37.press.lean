def SR (b c : Nat) (X Y : Nat → Nat) (f g : Nat → Int32) : Prop := ∀ k, k < c → f (b + k) = nI (X k) ∧ g (b + k) = nI (Y k) ∧ X k < 100 ∧ Y k < 100
theorem SR_0 {c k : Nat} {X Y : Nat → Nat} {f g : Nat → Int32} (h : SR 0 c X Y f g) (hk : k < c) : f k = nI (X k) ∧ g k = nI (Y k) ∧ X k < 100 ∧ Y k < 100 := by
  have q := h k hk
  rw [Nat.zero_add] at q
  exact q
theorem find_loop {F N c x y : Nat} {X Y : Nat → Nat} {f g : Nat → Int32} (hN : N ≤ 100) (hc : c ≤ N) (h : SR 0 c X Y f g) (hx : x < 100) (hy : y < 100) :
    ∀ (r k fu : Nat), k + r = c → r < fu → ∃ z, g_X3_find_2 F N N fu (nI x) (nI y) (nI k) f g (nI c) = some z ∧ ((z = -1 ∧ ∀ j, k ≤ j → j < c → ¬ (X j = x ∧ Y j = y)) ∨ ∃ j, j < c ∧ z = nI j ∧ X j = x ∧ Y j = y) := by
  intro r
  induction r with
  | zero =>
    intro k fu he hf
    obtain ⟨fu, rfl⟩ : ∃ z, fu = z + 1 := ⟨fu - 1, by omega⟩
    refine ⟨-1, ?_, Or.inl ⟨rfl, fun j h1 h2 => by omega⟩⟩
    rw [g_X3_find_2_s, if_leT (by omega) (by omega)]
  | succ r ih =>
    intro k fu he hf
    obtain ⟨fu, rfl⟩ : ∃ z, fu = z + 1 := ⟨fu - 1, by omega⟩
    obtain ⟨h1, h2, h3, h4⟩ := SR_0 h (k := k) (by omega)
    obtain ⟨z, z1, z2⟩ := ih (k + 1) fu (by omega) (by omega)
    by_cases q : X k = x ∧ Y k = y
    · refine ⟨nI k, ?_, Or.inr ⟨k, by omega, rfl, q.1, q.2⟩⟩
      rw [g_X3_find_2_s]
      simp (disch := omega) only [mg_in, if10, if00, if_true, if_false, nI_1, nI_s1, mn_e, mb1_v, mb2_v, mb3_v, mb4_v, nI_clamp, nI_add, pk_mul, if_leT, if_leF, if_ltT, if_ltF, if_eqT, if_eqF, if_m1F, if_m1F2, if_m1T, if_m1ltT, if_m1leT, if_m1leF, if_m1ltF, if_e1T, if_e1F, if_1eT, if_1eF, if_le1T, if_le1F, if_1ltT, if_1ltF, iL0, iL2, iL3, iL4, iL5, iL6, iL7, iL8, iL9, iL10, iL20, iL21, iL22, iL31, iL32, iL40, iL46, iL48, iL57, iL64, iL65, iL80, iL81, iL90, iL96, iL97, iL100, iL122, iL126, iL127, iL500, iL1000, iL3000, iL9999999, h1, h2]
    · refine ⟨z, ?_, ?_⟩
      · rw [g_X3_find_2_s]
        by_cases q1 : X k = x
        · have q2 : Y k ≠ y := fun w => q ⟨q1, w⟩
          simp (disch := omega) only [mg_in, if10, if00, if_true, if_false, nI_1, nI_s1, mn_e, mb1_v, mb2_v, mb3_v, mb4_v, nI_clamp, nI_add, pk_mul, if_leT, if_leF, if_ltT, if_ltF, if_eqT, if_eqF, if_m1F, if_m1F2, if_m1T, if_m1ltT, if_m1leT, if_m1leF, if_m1ltF, if_e1T, if_e1F, if_1eT, if_1eF, if_le1T, if_le1F, if_1ltT, if_1ltF, iL0, iL2, iL3, iL4, iL5, iL6, iL7, iL8, iL9, iL10, iL20, iL21, iL22, iL31, iL32, iL40, iL46, iL48, iL57, iL64, iL65, iL80, iL81, iL90, iL96, iL97, iL100, iL122, iL126, iL127, iL500, iL1000, iL3000, iL9999999, h1, h2, z1]
        · simp (disch := omega) only [mg_in, if10, if00, if_true, if_false, nI_1, nI_s1, mn_e, mb1_v, mb2_v, mb3_v, mb4_v, nI_clamp, nI_add, pk_mul, if_leT, if_leF, if_ltT, if_ltF, if_eqT, if_eqF, if_m1F, if_m1F2, if_m1T, if_m1ltT, if_m1leT, if_m1leF, if_m1ltF, if_e1T, if_e1F, if_1eT, if_1eF, if_le1T, if_le1F, if_1ltT, if_1ltF, iL0, iL2, iL3, iL4, iL5, iL6, iL7, iL8, iL9, iL10, iL20, iL21, iL22, iL31, iL32, iL40, iL46, iL48, iL57, iL64, iL65, iL80, iL81, iL90, iL96, iL97, iL100, iL122, iL126, iL127, iL500, iL1000, iL3000, iL9999999, h1, h2, z1]
      · rcases z2 with ⟨w1, w2⟩ | w
        · refine Or.inl ⟨w1, fun j j1 j2 => ?_⟩
          by_cases e : j = k
          · rw [e]; exact q
          · exact w2 j (by omega) j2
        · exact Or.inr w
theorem find_ok {F N c x y : Nat} {X Y : Nat → Nat} {f g : Nat → Int32} (hF : 4000 ≤ F) (hN : N ≤ 100) (hc : c ≤ N) (h : SR 0 c X Y f g) (hx : x < 100) (hy : y < 100) :
    ∃ z, f_X3_find F N N (nI x) (nI y) f g (nI c) = some z ∧ ((z = -1 ∧ ∀ j, j < c → ¬ (X j = x ∧ Y j = y)) ∨ ∃ j, j < c ∧ z = nI j ∧ X j = x ∧ Y j = y) := by
  obtain ⟨z, z1, z2⟩ := find_loop (F := F) hN hc h hx hy c 0 F (by omega) (by omega)
  refine ⟨z, z1, ?_⟩
  rcases z2 with ⟨w1, w2⟩ | w
  · exact Or.inl ⟨w1, fun j hj => w2 j (by omega) hj⟩
  · exact Or.inr w
def inA (X : Nat → Nat) (p x : Nat) (k : Nat) : Nat := if k < p then X k else if k = p then x else X (k - 1)
theorem inA_l {X : Nat → Nat} {p x k : Nat} (h : k < p) : inA X p x k = X k := if_pos h
theorem inA_e {X : Nat → Nat} {p x k : Nat} (h : k = p) : inA X p x k = x := by rw [inA, if_neg (by omega), if_pos h]
theorem inA_g {X : Nat → Nat} {p x k : Nat} (h : p < k) : inA X p x k = X (k - 1) := by rw [inA, if_neg (by omega), if_neg (by omega)]
theorem ins_loop {F N c x y p : Nat} {X Y : Nat → Nat} (hN : N ≤ 100) (hc : c < N) (hp : p ≤ c) :
    ∀ (r k fu : Nat) (f g : Nat → Int32), k = p + r → k ≤ c → r < fu → (∀ j, j < k → f j = nI (X j) ∧ g j = nI (Y j)) → (∀ j, k < j → j ≤ c → f j = nI (X (j - 1)) ∧ g j = nI (Y (j - 1))) →
    ∃ f' g', g_X3_insert_32 F N N fu (nI p) (nI x) (nI y) (nI k) f g (nI c) = some (1, f', g', nI (c + 1)) ∧ ∀ j, j < c + 1 → f' j = nI (inA X p x j) ∧ g' j = nI (inA Y p y j) := by
  intro r
  induction r with
  | zero =>
    intro k fu f g hk hkl hf hlo hhi
    obtain ⟨fu, rfl⟩ : ∃ z, fu = z + 1 := ⟨fu - 1, by omega⟩
    refine ⟨upd f p (nI x), upd g p (nI y), ?_, fun j hj => ?_⟩
    · rw [g_X3_insert_32_s]
      simp (disch := omega) only [mg_in, if10, if00, if_true, if_false, nI_1, nI_s1, mn_e, mb1_v, mb2_v, mb3_v, mb4_v, nI_clamp, nI_add, pk_mul, if_leT, if_leF, if_ltT, if_ltF, if_eqT, if_eqF, if_m1F, if_m1F2, if_m1T, if_m1ltT, if_m1leT, if_m1leF, if_m1ltF, if_e1T, if_e1F, if_1eT, if_1eF, if_le1T, if_le1F, if_1ltT, if_1ltF, iL0, iL2, iL3, iL4, iL5, iL6, iL7, iL8, iL9, iL10, iL20, iL21, iL22, iL31, iL32, iL40, iL46, iL48, iL57, iL64, iL65, iL80, iL81, iL90, iL96, iL97, iL100, iL122, iL126, iL127, iL500, iL1000, iL3000, iL9999999]
    · rcases Nat.lt_trichotomy j p with h | h | h
      · rw [inA_l h, inA_l h, pk_un (by omega), pk_un (by omega)]
        exact hlo j (by omega)
      · subst h
        rw [inA_e rfl, inA_e rfl, pk_us, pk_us]
        exact ⟨rfl, rfl⟩
      · rw [inA_g h, inA_g h, pk_un (by omega), pk_un (by omega)]
        exact hhi j (by omega) (by omega)
  | succ r ih =>
    intro k fu f g hk hkl hf hlo hhi
    obtain ⟨fu, rfl⟩ : ∃ z, fu = z + 1 := ⟨fu - 1, by omega⟩
    obtain ⟨k, rfl⟩ : ∃ z, k = z + 1 := ⟨k - 1, by omega⟩
    have e2 : nI (k + 1) + -1 = nI k := pk_m1 k
    have e3 : k + 1 - 1 = k := by omega
    obtain ⟨f', g', a1, a2⟩ := ih k fu (upd f (k + 1) (f k)) (upd g (k + 1) (g k)) (by omega) (by omega) (by omega) (fun j hj => by
      rw [pk_un (by omega), pk_un (by omega)]
      exact hlo j (by omega)) (fun j hj hjl => by
      by_cases h : j = k + 1
      · subst h
        rw [pk_us, pk_us]
        exact hlo k (by omega)
      · rw [pk_un h, pk_un h]
        exact hhi j (by omega) hjl)
    refine ⟨f', g', ?_, a2⟩
    rw [g_X3_insert_32_s]
    simp (disch := omega) only [mg_in, if10, if00, if_true, if_false, nI_1, nI_s1, mn_e, mb1_v, mb2_v, mb3_v, mb4_v, nI_clamp, nI_add, pk_mul, if_leT, if_leF, if_ltT, if_ltF, if_eqT, if_eqF, if_m1F, if_m1F2, if_m1T, if_m1ltT, if_m1leT, if_m1leF, if_m1ltF, if_e1T, if_e1F, if_1eT, if_1eF, if_le1T, if_le1F, if_1ltT, if_1ltF, iL0, iL2, iL3, iL4, iL5, iL6, iL7, iL8, iL9, iL10, iL20, iL21, iL22, iL31, iL32, iL40, iL46, iL48, iL57, iL64, iL65, iL80, iL81, iL90, iL96, iL97, iL100, iL122, iL126, iL127, iL500, iL1000, iL3000, iL9999999, e2, e3, a1]
theorem ins_ok {F N c x y p : Nat} {X Y : Nat → Nat} {f g : Nat → Int32} (hF : 4000 ≤ F) (hN : N ≤ 100) (hc : c < N) (hp : p ≤ c) (h : SR 0 c X Y f g) (hx : x < 100) (hy : y < 100) :
    ∃ f' g', f_X3_insert F N N (nI p) (nI x) (nI y) f g (nI c) = some (1, f', g', nI (c + 1)) ∧ SR 0 (c + 1) (inA X p x) (inA Y p y) f' g' := by
  obtain ⟨f', g', a1, a2⟩ := ins_loop (F := F) (x := x) (y := y) hN hc hp (c - p) c F f g (by omega) (by omega) (by omega) (fun j hj => ⟨(SR_0 h hj).1, (SR_0 h hj).2.1⟩) (fun j h1 h2 => by omega)
  refine ⟨f', g', ?_, fun j hj => ?_⟩
  · unfold f_X3_insert
    rw [show Int32.ofNat N = nI N from rfl]
    have e : ¬ nI p < 0 := nI_pos (by omega)
    rw [if_leF (by omega) (by omega), if_neg e, if_leT hp (by omega)]
    exact a1
  · rw [Nat.zero_add]
    refine ⟨(a2 j hj).1, (a2 j hj).2, ?_⟩
    rcases Nat.lt_trichotomy j p with q | q | q
    · rw [inA_l q, inA_l q]; exact (SR_0 h (k := j) (by omega)).2.2
    · rw [inA_e q, inA_e q]; exact ⟨hx, hy⟩
    · rw [inA_g q, inA_g q]; exact (SR_0 h (k := j - 1) (by omega)).2.2
def cr (a b x y : Nat) : Prop := (a < x ∧ x ≤ b ∧ b < y) ∨ (x < a ∧ a ≤ y ∧ y < b)
theorem cr_cases (a b x y : Nat) (h : a < b) (h2 : x < y) : (b < x ∧ ¬ cr a b x y) ∨ (y < a ∧ ¬ cr a b x y) ∨ (a = x ∧ b = y ∧ ¬ cr a b x y) ∨ (x < a ∧ b ≤ y ∧ a ≤ y ∧ ¬ cr a b x y) ∨ (x = a ∧ b < y ∧ ¬ cr a b x y) ∨ (a < x ∧ y ≤ b ∧ ¬ cr a b x y) ∨ (a = x ∧ y < b ∧ ¬ cr a b x y) ∨ (a < x ∧ x ≤ b ∧ b < y ∧ cr a b x y) ∨ (x < a ∧ a ≤ y ∧ y < b ∧ cr a b x y) := by
  unfold cr
  omega
def PV (C c : Nat) (X Y : Nat → Nat) : Prop := (∀ k, k < c → X k < Y k ∧ Y k < C) ∧ ∀ i j, i < j → j < c → (Y i - X i < Y j - X j ∨ (Y i - X i = Y j - X j ∧ X i < X j)) ∧ (Y i < X j ∨ Y j < X i ∨ (X j ≤ X i ∧ Y i ≤ Y j))
theorem PV_ins {C c x y p : Nat} {X Y : Nat → Nat} (h : PV C c X Y) (hxy : x < y) (hy : y < C) (hp : p ≤ c) (h1 : ∀ k, k < p → Y k - X k < y - x ∨ (Y k - X k = y - x ∧ X k < x)) (h2 : ∀ k, p ≤ k → k < c → y - x < Y k - X k ∨ (Y k - X k = y - x ∧ x < X k)) (h3 : ∀ k, k < c → ¬ cr (X k) (Y k) x y) : PV C (c + 1) (inA X p x) (inA Y p y) := by
  obtain ⟨g1, g2⟩ := h
  refine ⟨fun k hk => ?_, fun i j hij hj => ?_⟩
  · rcases Nat.lt_trichotomy k p with q | q | q
    · rw [inA_l q, inA_l q]; exact g1 k (by omega)
    · rw [inA_e q, inA_e q]; exact ⟨hxy, hy⟩
    · rw [inA_g q, inA_g q]; exact g1 (k - 1) (by omega)
  · rcases Nat.lt_trichotomy i p with q | q | q
    · rw [inA_l q, inA_l q]
      rcases Nat.lt_trichotomy j p with w | w | w
      · rw [inA_l w, inA_l w]; exact g2 i j hij (by omega)
      · rw [inA_e w, inA_e w]
        have a1 := h1 i q
        have a2 := h3 i (by omega)
        have a3 := g1 i (by omega)
        unfold cr at a2
        omega
      · rw [inA_g w, inA_g w]; exact g2 i (j - 1) (by omega) (by omega)
    · rw [inA_e q, inA_e q, inA_g (by omega), inA_g (by omega)]
      have a1 := h2 (j - 1) (by omega) (by omega)
      have a2 := h3 (j - 1) (by omega)
      have a3 := g1 (j - 1) (by omega)
      unfold cr at a2
      omega
    · rw [inA_g q, inA_g q, inA_g (by omega), inA_g (by omega)]
      exact g2 (i - 1) (j - 1) (by omega) (by omega)
theorem crs_ok {F c x y k : Nat} {X Y : Nat → Nat} {f g : Nat → Int32} (hc : c ≤ 21) (h : SR 0 c X Y f g) (hk : k < c) (hX : X k < Y k) (hxy : x < y) (hy : y < 100) :
    (f_X2_crosses F (nI k) (nI x) (nI y) f g = some 0 ∧ ¬ cr (X k) (Y k) x y) ∨ (f_X2_crosses F (nI k) (nI x) (nI y) f g = some 1 ∧ cr (X k) (Y k) x y) := by
  obtain ⟨h1, h2, h3, h4⟩ := SR_0 h hk
  unfold f_X2_crosses g_X2_crosses_39 g_X2_crosses_57 g_X2_crosses_77
  generalize X k = a at *
  generalize Y k = b at *
  rcases cr_cases a b x y hX hxy with ⟨q1, q⟩ | ⟨q1, q⟩ | ⟨q1, q2, q⟩ | ⟨q1, q2, q3, q⟩ | ⟨q1, q2, q⟩ | ⟨q1, q2, q⟩ | ⟨q1, q2, q⟩ | ⟨q1, q2, q3, q⟩ | ⟨q1, q2, q3, q⟩
  · left; refine ⟨?_, q⟩; simp (disch := omega) only [mg_in, if10, if00, if_true, if_false, nI_1, nI_s1, mn_e, mb1_v, mb2_v, mb3_v, mb4_v, nI_clamp, nI_add, pk_mul, if_leT, if_leF, if_ltT, if_ltF, if_eqT, if_eqF, if_m1F, if_m1F2, if_m1T, if_m1ltT, if_m1leT, if_m1leF, if_m1ltF, if_e1T, if_e1F, if_1eT, if_1eF, if_le1T, if_le1F, if_1ltT, if_1ltF, iL0, iL2, iL3, iL4, iL5, iL6, iL7, iL8, iL9, iL10, iL20, iL21, iL22, iL31, iL32, iL40, iL46, iL48, iL57, iL64, iL65, iL80, iL81, iL90, iL96, iL97, iL100, iL122, iL126, iL127, iL500, iL1000, iL3000, iL9999999, h1, h2]
  · left; refine ⟨?_, q⟩; simp (disch := omega) only [mg_in, if10, if00, if_true, if_false, nI_1, nI_s1, mn_e, mb1_v, mb2_v, mb3_v, mb4_v, nI_clamp, nI_add, pk_mul, if_leT, if_leF, if_ltT, if_ltF, if_eqT, if_eqF, if_m1F, if_m1F2, if_m1T, if_m1ltT, if_m1leT, if_m1leF, if_m1ltF, if_e1T, if_e1F, if_1eT, if_1eF, if_le1T, if_le1F, if_1ltT, if_1ltF, iL0, iL2, iL3, iL4, iL5, iL6, iL7, iL8, iL9, iL10, iL20, iL21, iL22, iL31, iL32, iL40, iL46, iL48, iL57, iL64, iL65, iL80, iL81, iL90, iL96, iL97, iL100, iL122, iL126, iL127, iL500, iL1000, iL3000, iL9999999, h1, h2]
  · left; refine ⟨?_, q⟩; simp (disch := omega) only [mg_in, if10, if00, if_true, if_false, nI_1, nI_s1, mn_e, mb1_v, mb2_v, mb3_v, mb4_v, nI_clamp, nI_add, pk_mul, if_leT, if_leF, if_ltT, if_ltF, if_eqT, if_eqF, if_m1F, if_m1F2, if_m1T, if_m1ltT, if_m1leT, if_m1leF, if_m1ltF, if_e1T, if_e1F, if_1eT, if_1eF, if_le1T, if_le1F, if_1ltT, if_1ltF, iL0, iL2, iL3, iL4, iL5, iL6, iL7, iL8, iL9, iL10, iL20, iL21, iL22, iL31, iL32, iL40, iL46, iL48, iL57, iL64, iL65, iL80, iL81, iL90, iL96, iL97, iL100, iL122, iL126, iL127, iL500, iL1000, iL3000, iL9999999, h1, h2]
  · left; refine ⟨?_, q⟩; simp (disch := omega) only [mg_in, if10, if00, if_true, if_false, nI_1, nI_s1, mn_e, mb1_v, mb2_v, mb3_v, mb4_v, nI_clamp, nI_add, pk_mul, if_leT, if_leF, if_ltT, if_ltF, if_eqT, if_eqF, if_m1F, if_m1F2, if_m1T, if_m1ltT, if_m1leT, if_m1leF, if_m1ltF, if_e1T, if_e1F, if_1eT, if_1eF, if_le1T, if_le1F, if_1ltT, if_1ltF, iL0, iL2, iL3, iL4, iL5, iL6, iL7, iL8, iL9, iL10, iL20, iL21, iL22, iL31, iL32, iL40, iL46, iL48, iL57, iL64, iL65, iL80, iL81, iL90, iL96, iL97, iL100, iL122, iL126, iL127, iL500, iL1000, iL3000, iL9999999, h1, h2]
  · left; refine ⟨?_, q⟩; simp (disch := omega) only [mg_in, if10, if00, if_true, if_false, nI_1, nI_s1, mn_e, mb1_v, mb2_v, mb3_v, mb4_v, nI_clamp, nI_add, pk_mul, if_leT, if_leF, if_ltT, if_ltF, if_eqT, if_eqF, if_m1F, if_m1F2, if_m1T, if_m1ltT, if_m1leT, if_m1leF, if_m1ltF, if_e1T, if_e1F, if_1eT, if_1eF, if_le1T, if_le1F, if_1ltT, if_1ltF, iL0, iL2, iL3, iL4, iL5, iL6, iL7, iL8, iL9, iL10, iL20, iL21, iL22, iL31, iL32, iL40, iL46, iL48, iL57, iL64, iL65, iL80, iL81, iL90, iL96, iL97, iL100, iL122, iL126, iL127, iL500, iL1000, iL3000, iL9999999, h1, h2]
  · left; refine ⟨?_, q⟩; simp (disch := omega) only [mg_in, if10, if00, if_true, if_false, nI_1, nI_s1, mn_e, mb1_v, mb2_v, mb3_v, mb4_v, nI_clamp, nI_add, pk_mul, if_leT, if_leF, if_ltT, if_ltF, if_eqT, if_eqF, if_m1F, if_m1F2, if_m1T, if_m1ltT, if_m1leT, if_m1leF, if_m1ltF, if_e1T, if_e1F, if_1eT, if_1eF, if_le1T, if_le1F, if_1ltT, if_1ltF, iL0, iL2, iL3, iL4, iL5, iL6, iL7, iL8, iL9, iL10, iL20, iL21, iL22, iL31, iL32, iL40, iL46, iL48, iL57, iL64, iL65, iL80, iL81, iL90, iL96, iL97, iL100, iL122, iL126, iL127, iL500, iL1000, iL3000, iL9999999, h1, h2]
  · left; refine ⟨?_, q⟩; simp (disch := omega) only [mg_in, if10, if00, if_true, if_false, nI_1, nI_s1, mn_e, mb1_v, mb2_v, mb3_v, mb4_v, nI_clamp, nI_add, pk_mul, if_leT, if_leF, if_ltT, if_ltF, if_eqT, if_eqF, if_m1F, if_m1F2, if_m1T, if_m1ltT, if_m1leT, if_m1leF, if_m1ltF, if_e1T, if_e1F, if_1eT, if_1eF, if_le1T, if_le1F, if_1ltT, if_1ltF, iL0, iL2, iL3, iL4, iL5, iL6, iL7, iL8, iL9, iL10, iL20, iL21, iL22, iL31, iL32, iL40, iL46, iL48, iL57, iL64, iL65, iL80, iL81, iL90, iL96, iL97, iL100, iL122, iL126, iL127, iL500, iL1000, iL3000, iL9999999, h1, h2]
  · right; refine ⟨?_, q⟩; simp (disch := omega) only [mg_in, if10, if00, if_true, if_false, nI_1, nI_s1, mn_e, mb1_v, mb2_v, mb3_v, mb4_v, nI_clamp, nI_add, pk_mul, if_leT, if_leF, if_ltT, if_ltF, if_eqT, if_eqF, if_m1F, if_m1F2, if_m1T, if_m1ltT, if_m1leT, if_m1leF, if_m1ltF, if_e1T, if_e1F, if_1eT, if_1eF, if_le1T, if_le1F, if_1ltT, if_1ltF, iL0, iL2, iL3, iL4, iL5, iL6, iL7, iL8, iL9, iL10, iL20, iL21, iL22, iL31, iL32, iL40, iL46, iL48, iL57, iL64, iL65, iL80, iL81, iL90, iL96, iL97, iL100, iL122, iL126, iL127, iL500, iL1000, iL3000, iL9999999, h1, h2]
  · right; refine ⟨?_, q⟩; simp (disch := omega) only [mg_in, if10, if00, if_true, if_false, nI_1, nI_s1, mn_e, mb1_v, mb2_v, mb3_v, mb4_v, nI_clamp, nI_add, pk_mul, if_leT, if_leF, if_ltT, if_ltF, if_eqT, if_eqF, if_m1F, if_m1F2, if_m1T, if_m1ltT, if_m1leT, if_m1leF, if_m1ltF, if_e1T, if_e1F, if_1eT, if_1eF, if_le1T, if_le1F, if_1ltT, if_1ltF, iL0, iL2, iL3, iL4, iL5, iL6, iL7, iL8, iL9, iL10, iL20, iL21, iL22, iL31, iL32, iL40, iL46, iL48, iL57, iL64, iL65, iL80, iL81, iL90, iL96, iL97, iL100, iL122, iL126, iL127, iL500, iL1000, iL3000, iL9999999, h1, h2]
theorem ahd_ok {F c x y k : Nat} {X Y : Nat → Nat} {f g : Nat → Int32} (hc : c ≤ 21) (h : SR 0 c X Y f g) (hk : k < c) (hX : X k < Y k) (hxy : x < y) (hy : y < 100) :
    (f_X2_comesAhead F (nI k) (nI x) (nI y) f g = some 0 ∧ ¬ (Y k - X k < y - x ∨ (Y k - X k = y - x ∧ X k < x))) ∨ (f_X2_comesAhead F (nI k) (nI x) (nI y) f g = some 1 ∧ (Y k - X k < y - x ∨ (Y k - X k = y - x ∧ X k < x))) := by
  obtain ⟨h1, h2, h3, h4⟩ := SR_0 h hk
  unfold f_X2_comesAhead
  generalize X k = a at *
  generalize Y k = b at *
  have e1 : nI b - nI a = nI (b - a) := nI_sub (by omega)
  have e2 : nI y - nI x = nI (y - x) := nI_sub (by omega)
  by_cases q1 : b - a < y - x
  · right; refine ⟨?_, Or.inl q1⟩; simp (disch := omega) only [mg_in, if10, if00, if_true, if_false, nI_1, nI_s1, mn_e, mb1_v, mb2_v, mb3_v, mb4_v, nI_clamp, nI_add, pk_mul, if_leT, if_leF, if_ltT, if_ltF, if_eqT, if_eqF, if_m1F, if_m1F2, if_m1T, if_m1ltT, if_m1leT, if_m1leF, if_m1ltF, if_e1T, if_e1F, if_1eT, if_1eF, if_le1T, if_le1F, if_1ltT, if_1ltF, iL0, iL2, iL3, iL4, iL5, iL6, iL7, iL8, iL9, iL10, iL20, iL21, iL22, iL31, iL32, iL40, iL46, iL48, iL57, iL64, iL65, iL80, iL81, iL90, iL96, iL97, iL100, iL122, iL126, iL127, iL500, iL1000, iL3000, iL9999999, h1, h2, e1, e2]
  · by_cases q2 : b - a = y - x
    · by_cases q3 : x ≤ a
      · left; refine ⟨?_, by omega⟩; simp (disch := omega) only [mg_in, if10, if00, if_true, if_false, nI_1, nI_s1, mn_e, mb1_v, mb2_v, mb3_v, mb4_v, nI_clamp, nI_add, pk_mul, if_leT, if_leF, if_ltT, if_ltF, if_eqT, if_eqF, if_m1F, if_m1F2, if_m1T, if_m1ltT, if_m1leT, if_m1leF, if_m1ltF, if_e1T, if_e1F, if_1eT, if_1eF, if_le1T, if_le1F, if_1ltT, if_1ltF, iL0, iL2, iL3, iL4, iL5, iL6, iL7, iL8, iL9, iL10, iL20, iL21, iL22, iL31, iL32, iL40, iL46, iL48, iL57, iL64, iL65, iL80, iL81, iL90, iL96, iL97, iL100, iL122, iL126, iL127, iL500, iL1000, iL3000, iL9999999, h1, h2, e1, e2]
      · right; refine ⟨?_, by omega⟩; simp (disch := omega) only [mg_in, if10, if00, if_true, if_false, nI_1, nI_s1, mn_e, mb1_v, mb2_v, mb3_v, mb4_v, nI_clamp, nI_add, pk_mul, if_leT, if_leF, if_ltT, if_ltF, if_eqT, if_eqF, if_m1F, if_m1F2, if_m1T, if_m1ltT, if_m1leT, if_m1leF, if_m1ltF, if_e1T, if_e1F, if_1eT, if_1eF, if_le1T, if_le1F, if_1ltT, if_1ltF, iL0, iL2, iL3, iL4, iL5, iL6, iL7, iL8, iL9, iL10, iL20, iL21, iL22, iL31, iL32, iL40, iL46, iL48, iL57, iL64, iL65, iL80, iL81, iL90, iL96, iL97, iL100, iL122, iL126, iL127, iL500, iL1000, iL3000, iL9999999, h1, h2, e1, e2]
    · left; refine ⟨?_, by omega⟩; simp (disch := omega) only [mg_in, if10, if00, if_true, if_false, nI_1, nI_s1, mn_e, mb1_v, mb2_v, mb3_v, mb4_v, nI_clamp, nI_add, pk_mul, if_leT, if_leF, if_ltT, if_ltF, if_eqT, if_eqF, if_m1F, if_m1F2, if_m1T, if_m1ltT, if_m1leT, if_m1leF, if_m1ltF, if_e1T, if_e1F, if_1eT, if_1eF, if_le1T, if_le1F, if_1ltT, if_1ltF, iL0, iL2, iL3, iL4, iL5, iL6, iL7, iL8, iL9, iL10, iL20, iL21, iL22, iL31, iL32, iL40, iL46, iL48, iL57, iL64, iL65, iL80, iL81, iL90, iL96, iL97, iL100, iL122, iL126, iL127, iL500, iL1000, iL3000, iL9999999, h1, h2, e1, e2]
theorem plc_loop {F c x y : Nat} {X Y : Nat → Nat} {f g : Nat → Int32} (hc : c ≤ 21) (h : SR 0 c X Y f g) (hX : ∀ k, k < c → X k < Y k) (hxy : x < y) (hy : y < 100) :
    ∀ (r k fu : Nat), k + r = c → r < fu → ∃ p, k ≤ p ∧ p ≤ c ∧ g_X2_placeFor_2 F fu (nI x) (nI y) (nI k) f g (nI c) = some (nI p) ∧ (∀ j, k ≤ j → j < p → Y j - X j < y - x ∨ (Y j - X j = y - x ∧ X j < x)) ∧ (p < c → ¬ (Y p - X p < y - x ∨ (Y p - X p = y - x ∧ X p < x))) := by
  intro r
  induction r with
  | zero =>
    intro k fu he hf
    obtain ⟨fu, rfl⟩ : ∃ z, fu = z + 1 := ⟨fu - 1, by omega⟩
    refine ⟨k, by omega, by omega, ?_, fun j h1 h2 => by omega, fun h => by omega⟩
    rw [g_X2_placeFor_2_s, if_leT (by omega) (by omega)]
  | succ r ih =>
    intro k fu he hf
    obtain ⟨fu, rfl⟩ : ∃ z, fu = z + 1 := ⟨fu - 1, by omega⟩
    rcases ahd_ok (F := F) hc h (show k < c by omega) (hX k (by omega)) hxy hy with ⟨a1, a2⟩ | ⟨a1, a2⟩
    · refine ⟨k, by omega, by omega, ?_, fun j h1 h2 => by omega, fun _ => a2⟩
      rw [g_X2_placeFor_2_s, if_leF (by omega) (by omega), a1, mb1_v, if00]
    · obtain ⟨p, p1, p2, p3, p4, p5⟩ := ih (k + 1) fu (by omega) (by omega)
      refine ⟨p, by omega, p2, ?_, fun j h1 h2 => ?_, p5⟩
      · rw [g_X2_placeFor_2_s, if_leF (by omega) (by omega), a1, mb1_v, if10, mn_e, nI_1, p3]
      · by_cases e : j = k
        · rw [e]; exact a2
        · exact p4 j (by omega) h2
def PST (C c np : Nat) (td : Bool) (X Y : Nat → Nat) : Prop := PV C c X Y ∧ np ≤ 20 ∧ C ≤ 32 ∧ ((c = 0 ∧ np = 0 ∧ td = false) ∨ (1 ≤ c ∧ X (c - 1) = 0 ∧ Y (c - 1) = C - 1 ∧ ((td = false ∧ np + 1 = c) ∨ (td = true ∧ np = c))))
theorem told_ok {F C c np : Nat} {td : Bool} {X Y : Nat → Nat} (h : PST C c np td X Y) : f_X2_countTold F (nI c) (bI td) = some (nI np) := by
  obtain ⟨_, h1, h2, h3⟩ := h
  unfold f_X2_countTold
  rcases h3 with ⟨q1, q2, q3⟩ | ⟨q1, _, _, ⟨q2, q3⟩ | ⟨q2, q3⟩⟩
  · subst q1 q2 q3; decide
  · subst q2
    have e : nI c - 1 = nI np := by rw [nI_s1 q1]; congr 1; omega
    have e2 : ¬ nI np < 0 := nI_pos (by omega)
    rw [bI_f, if00, e, if_neg e2]
  · subst q2 q3
    rw [bI_t, if10]
theorem bh_ok {F s k a b x y : Nat} {f g : Nat → Int32} (hs : s ≤ 1) (hk : k < 22) (h1 : f (22 * s + k) = nI a) (h2 : g (22 * s + k) = nI b) (hab : a < b) (hb : b < 100) (hxy : x < y) (hy : y < 100) :
    (f_X7_isBehind F (nI (22 * s + k)) (nI x) (nI y) f g = some 0 ∧ ¬ (y - x < b - a ∨ (b - a = y - x ∧ x < a))) ∨ (f_X7_isBehind F (nI (22 * s + k)) (nI x) (nI y) f g = some 1 ∧ (y - x < b - a ∨ (b - a = y - x ∧ x < a))) := by
  unfold f_X7_isBehind
  have e1 : nI b - nI a = nI (b - a) := nI_sub (by omega)
  have e2 : nI y - nI x = nI (y - x) := nI_sub (by omega)
  by_cases q2 : b - a = y - x
  · by_cases q3 : a ≤ x
    · left; refine ⟨?_, by omega⟩; simp (disch := omega) only [mg_in, if10, if00, if_true, if_false, nI_1, nI_s1, mn_e, mb1_v, mb2_v, mb3_v, mb4_v, nI_clamp, nI_add, pk_mul, if_leT, if_leF, if_ltT, if_ltF, if_eqT, if_eqF, if_m1F, if_m1F2, if_m1T, if_m1ltT, if_m1leT, if_m1leF, if_m1ltF, if_e1T, if_e1F, if_1eT, if_1eF, if_le1T, if_le1F, if_1ltT, if_1ltF, iL0, iL2, iL3, iL4, iL5, iL6, iL7, iL8, iL9, iL10, iL20, iL21, iL22, iL31, iL32, iL40, iL46, iL48, iL57, iL64, iL65, iL80, iL81, iL90, iL96, iL97, iL100, iL122, iL126, iL127, iL500, iL1000, iL3000, iL9999999, h1, h2, e1, e2]
    · right; refine ⟨?_, by omega⟩; simp (disch := omega) only [mg_in, if10, if00, if_true, if_false, nI_1, nI_s1, mn_e, mb1_v, mb2_v, mb3_v, mb4_v, nI_clamp, nI_add, pk_mul, if_leT, if_leF, if_ltT, if_ltF, if_eqT, if_eqF, if_m1F, if_m1F2, if_m1T, if_m1ltT, if_m1leT, if_m1leF, if_m1ltF, if_e1T, if_e1F, if_1eT, if_1eF, if_le1T, if_le1F, if_1ltT, if_1ltF, iL0, iL2, iL3, iL4, iL5, iL6, iL7, iL8, iL9, iL10, iL20, iL21, iL22, iL31, iL32, iL40, iL46, iL48, iL57, iL64, iL65, iL80, iL81, iL90, iL96, iL97, iL100, iL122, iL126, iL127, iL500, iL1000, iL3000, iL9999999, h1, h2, e1, e2]
  · by_cases q1 : b - a ≤ y - x
    · left; refine ⟨?_, by omega⟩; simp (disch := omega) only [mg_in, if10, if00, if_true, if_false, nI_1, nI_s1, mn_e, mb1_v, mb2_v, mb3_v, mb4_v, nI_clamp, nI_add, pk_mul, if_leT, if_leF, if_ltT, if_ltF, if_eqT, if_eqF, if_m1F, if_m1F2, if_m1T, if_m1ltT, if_m1leT, if_m1leF, if_m1ltF, if_e1T, if_e1F, if_1eT, if_1eF, if_le1T, if_le1F, if_1ltT, if_1ltF, iL0, iL2, iL3, iL4, iL5, iL6, iL7, iL8, iL9, iL10, iL20, iL21, iL22, iL31, iL32, iL40, iL46, iL48, iL57, iL64, iL65, iL80, iL81, iL90, iL96, iL97, iL100, iL122, iL126, iL127, iL500, iL1000, iL3000, iL9999999, h1, h2, e1, e2]
    · right; refine ⟨?_, by omega⟩; simp (disch := omega) only [mg_in, if10, if00, if_true, if_false, nI_1, nI_s1, mn_e, mb1_v, mb2_v, mb3_v, mb4_v, nI_clamp, nI_add, pk_mul, if_leT, if_leF, if_ltT, if_ltF, if_eqT, if_eqF, if_m1F, if_m1F2, if_m1T, if_m1ltT, if_m1leT, if_m1leF, if_m1ltF, if_e1T, if_e1F, if_1eT, if_1eF, if_le1T, if_le1F, if_1ltT, if_1ltF, iL0, iL2, iL3, iL4, iL5, iL6, iL7, iL8, iL9, iL10, iL20, iL21, iL22, iL31, iL32, iL40, iL46, iL48, iL57, iL64, iL65, iL80, iL81, iL90, iL96, iL97, iL100, iL122, iL126, iL127, iL500, iL1000, iL3000, iL9999999, h1, h2, e1, e2]
theorem keep_loop {F s np p x y : Nat} {X Y : Nat → Nat} {Mpr f0 g0 : Nat → Int32} (hs : s ≤ 1) (hnp : np ≤ 21) (hr : Mpr s = nI np) (hp : p ≤ np) (hX : ∀ k, k < np → X k < Y k ∧ Y k < 100) (hxy : x < y) (hy : y < 100)
    (h1 : ∀ k, k < p → ¬ (y - x < Y k - X k ∨ (Y k - X k = y - x ∧ x < X k))) (h2 : ∀ k, p ≤ k → k < np → y - x < Y k - X k ∨ (Y k - X k = y - x ∧ x < X k)) :
    ∀ (r k fu : Nat) (f g : Nat → Int32), k = p + r → k ≤ np → r < fu → fr 22 s f f0 → fr 22 s g g0 → (∀ j, j < k → f (22 * s + j) = nI (X j) ∧ g (22 * s + j) = nI (Y j)) → (∀ j, k < j → j ≤ np → f (22 * s + j) = nI (X (j - 1)) ∧ g (22 * s + j) = nI (Y (j - 1))) →
    ∃ f' g', g_X7_keepPress_18 F fu (nI x) (nI y) (nI (22 * s + k)) Mpr f g (nI s) = some (upd Mpr s (nI (np + 1)), f', g') ∧ fr 22 s f' f0 ∧ fr 22 s g' g0 ∧ ∀ j, j < np + 1 → f' (22 * s + j) = nI (inA X p x j) ∧ g' (22 * s + j) = nI (inA Y p y j) := by
  intro r
  induction r with
  | zero =>
    intro k fu f g hk hkl hf hf1 hg1 hlo hhi
    obtain ⟨fu, rfl⟩ : ∃ z, fu = z + 1 := ⟨fu - 1, by omega⟩
    obtain rfl : k = p := by omega
    have e75 : g_X7_keepPress_75 F (nI x) (nI y) (nI (22 * s + k)) Mpr f g (nI s) = some (upd Mpr s (nI (np + 1)), upd f (22 * s + k) (nI x), upd g (22 * s + k) (nI y)) := by
      unfold g_X7_keepPress_75
      simp (disch := omega) only [mg_in, if10, if00, if_true, if_false, nI_1, nI_s1, mn_e, mb1_v, mb2_v, mb3_v, mb4_v, nI_clamp, nI_add, pk_mul, if_leT, if_leF, if_ltT, if_ltF, if_eqT, if_eqF, if_m1F, if_m1F2, if_m1T, if_m1ltT, if_m1leT, if_m1leF, if_m1ltF, if_e1T, if_e1F, if_1eT, if_1eF, if_le1T, if_le1F, if_1ltT, if_1ltF, iL0, iL2, iL3, iL4, iL5, iL6, iL7, iL8, iL9, iL10, iL20, iL21, iL22, iL31, iL32, iL40, iL46, iL48, iL57, iL64, iL65, iL80, iL81, iL90, iL96, iL97, iL100, iL122, iL126, iL127, iL500, iL1000, iL3000, iL9999999, hr]
    refine ⟨upd f (22 * s + k) (nI x), upd g (22 * s + k) (nI y), ?_, fr_u2 ⟨by omega, by omega⟩ hf1, fr_u2 ⟨by omega, by omega⟩ hg1, fun j hj => ?_⟩
    · rw [g_X7_keepPress_18_s, e75]
      by_cases q : k = 0
      · simp (disch := omega) only [mg_in, if10, if00, if_true, if_false, nI_1, nI_s1, mn_e, mb1_v, mb2_v, mb3_v, mb4_v, nI_clamp, nI_add, pk_mul, if_leT, if_leF, if_ltT, if_ltF, if_eqT, if_eqF, if_m1F, if_m1F2, if_m1T, if_m1ltT, if_m1leT, if_m1leF, if_m1ltF, if_e1T, if_e1F, if_1eT, if_1eF, if_le1T, if_le1F, if_1ltT, if_1ltF, iL0, iL2, iL3, iL4, iL5, iL6, iL7, iL8, iL9, iL10, iL20, iL21, iL22, iL31, iL32, iL40, iL46, iL48, iL57, iL64, iL65, iL80, iL81, iL90, iL96, iL97, iL100, iL122, iL126, iL127, iL500, iL1000, iL3000, iL9999999]
      · obtain ⟨b1, b2⟩ := hX (k - 1) (by omega)
        obtain ⟨c1, c2⟩ := hlo (k - 1) (by omega)
        have e9 : 22 * s + k - 1 = 22 * s + (k - 1) := by omega
        rcases bh_ok (F := F) hs (show k - 1 < 22 by omega) c1 c2 b1 b2 hxy hy with ⟨a1, a2⟩ | ⟨a1, a2⟩
        · simp (disch := omega) only [mg_in, if10, if00, if_true, if_false, nI_1, nI_s1, mn_e, mb1_v, mb2_v, mb3_v, mb4_v, nI_clamp, nI_add, pk_mul, if_leT, if_leF, if_ltT, if_ltF, if_eqT, if_eqF, if_m1F, if_m1F2, if_m1T, if_m1ltT, if_m1leT, if_m1leF, if_m1ltF, if_e1T, if_e1F, if_1eT, if_1eF, if_le1T, if_le1F, if_1ltT, if_1ltF, iL0, iL2, iL3, iL4, iL5, iL6, iL7, iL8, iL9, iL10, iL20, iL21, iL22, iL31, iL32, iL40, iL46, iL48, iL57, iL64, iL65, iL80, iL81, iL90, iL96, iL97, iL100, iL122, iL126, iL127, iL500, iL1000, iL3000, iL9999999, e9, a1]
        · exact absurd a2 (h1 (k - 1) (by omega))
    · rcases Nat.lt_trichotomy j k with h | h | h
      · rw [inA_l h, inA_l h, pk_un (by omega), pk_un (by omega)]
        exact hlo j (by omega)
      · subst h
        rw [inA_e rfl, inA_e rfl, pk_us, pk_us]
        exact ⟨rfl, rfl⟩
      · rw [inA_g h, inA_g h, pk_un (by omega), pk_un (by omega)]
        exact hhi j (by omega) (by omega)
  | succ r ih =>
    intro k fu f g hk hkl hf hf1 hg1 hlo hhi
    obtain ⟨fu, rfl⟩ : ∃ z, fu = z + 1 := ⟨fu - 1, by omega⟩
    obtain ⟨k, rfl⟩ : ∃ z, k = z + 1 := ⟨k - 1, by omega⟩
    have e2 : nI (22 * s + (k + 1)) + -1 = nI (22 * s + k) := pk_m1 (22 * s + k)
    have e3 : 22 * s + (k + 1) - 1 = 22 * s + k := by omega
    obtain ⟨b1, b2⟩ := hX k (by omega)
    obtain ⟨c1, c2⟩ := hlo k (by omega)
    obtain ⟨f', g', a1, a2, a3, a4⟩ := ih k fu (upd f (22 * s + (k + 1)) (f (22 * s + k))) (upd g (22 * s + (k + 1)) (g (22 * s + k))) (by omega) (by omega) (by omega) (fr_u2 ⟨by omega, by omega⟩ hf1) (fr_u2 ⟨by omega, by omega⟩ hg1) (fun j hj => by
      rw [pk_un (by omega), pk_un (by omega)]
      exact hlo j (by omega)) (fun j hj hjl => by
      by_cases h : j = k + 1
      · subst h
        rw [pk_us, pk_us]
        exact ⟨c1, c2⟩
      · rw [pk_un (by omega), pk_un (by omega)]
        exact hhi j (by omega) hjl)
    refine ⟨f', g', ?_, a2, a3, a4⟩
    rw [g_X7_keepPress_18_s]
    rcases bh_ok (F := F) hs (show k < 22 by omega) c1 c2 b1 b2 hxy hy with ⟨d1, d2⟩ | ⟨d1, d2⟩
    · exact absurd (h2 k (by omega) (by omega)) d2
    · simp (disch := omega) only [mg_in, if10, if00, if_true, if_false, nI_1, nI_s1, mn_e, mb1_v, mb2_v, mb3_v, mb4_v, nI_clamp, nI_add, pk_mul, if_leT, if_leF, if_ltT, if_ltF, if_eqT, if_eqF, if_m1F, if_m1F2, if_m1T, if_m1ltT, if_m1leT, if_m1leF, if_m1ltF, if_e1T, if_e1F, if_1eT, if_1eF, if_le1T, if_le1F, if_1ltT, if_1ltF, iL0, iL2, iL3, iL4, iL5, iL6, iL7, iL8, iL9, iL10, iL20, iL21, iL22, iL31, iL32, iL40, iL46, iL48, iL57, iL64, iL65, iL80, iL81, iL90, iL96, iL97, iL100, iL122, iL126, iL127, iL500, iL1000, iL3000, iL9999999, e2, e3, d1, a1]
theorem keep_ok {F s np p x y : Nat} {X Y : Nat → Nat} {Mpr f g : Nat → Int32} (hF : 4000 ≤ F) (hs : s ≤ 1) (hnp : np ≤ 21) (hr : Mpr s = nI np) (hp : p ≤ np) (hX : ∀ k, k < np → X k < Y k) (hR : SR (22 * s) np X Y f g) (hxy : x < y) (hy : y < 100)
    (h1 : ∀ k, k < p → ¬ (y - x < Y k - X k ∨ (Y k - X k = y - x ∧ x < X k))) (h2 : ∀ k, p ≤ k → k < np → y - x < Y k - X k ∨ (Y k - X k = y - x ∧ x < X k)) :
    ∃ f' g', f_X7_keepPress F (nI x) (nI y) Mpr f g (nI s) = some (upd Mpr s (nI (np + 1)), f', g') ∧ fr 22 s f' f ∧ fr 22 s g' g ∧ SR (22 * s) (np + 1) (inA X p x) (inA Y p y) f' g' := by
  obtain ⟨f', g', a1, a2, a3, a4⟩ := keep_loop (F := F) hs hnp hr hp (fun k hk => ⟨hX k hk, (hR k hk).2.2.2⟩) hxy hy h1 h2 (np - p) np F f g (by omega) (by omega) (by omega) fr_r fr_r (fun j hj => ⟨(hR j hj).1, (hR j hj).2.1⟩) (fun j h1 h2 => by omega)
  refine ⟨f', g', ?_, a2, a3, fun j hj => ⟨(a4 j hj).1, (a4 j hj).2, ?_⟩⟩
  · unfold f_X7_keepPress
    simp (disch := omega) only [mg_in, if10, if00, if_true, if_false, nI_1, nI_s1, mn_e, mb1_v, mb2_v, mb3_v, mb4_v, nI_clamp, nI_add, pk_mul, if_leT, if_leF, if_ltT, if_ltF, if_eqT, if_eqF, if_m1F, if_m1F2, if_m1T, if_m1ltT, if_m1leT, if_m1leF, if_m1ltF, if_e1T, if_e1F, if_1eT, if_1eF, if_le1T, if_le1F, if_1ltT, if_1ltF, iL0, iL2, iL3, iL4, iL5, iL6, iL7, iL8, iL9, iL10, iL20, iL21, iL22, iL31, iL32, iL40, iL46, iL48, iL57, iL64, iL65, iL80, iL81, iL90, iL96, iL97, iL100, iL122, iL126, iL127, iL500, iL1000, iL3000, iL9999999, hr, a1]
  · rcases Nat.lt_trichotomy j p with q | q | q
    · rw [inA_l q, inA_l q]; exact (hR j (by omega)).2.2
    · rw [inA_e q, inA_e q]; exact ⟨by omega, hy⟩
    · rw [inA_g q, inA_g q]; exact (hR (j - 1) (by omega)).2.2
