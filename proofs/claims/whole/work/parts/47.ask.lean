def wi (X Y : Nat → Nat) (a b : Nat) : Prop := a ≠ b ∧ X b ≤ X a ∧ Y a ≤ Y b
def rin (X Y : Nat → Nat) (c i own : Nat) : Prop := wi X Y i own ∧ ∀ j, j < c → ¬ (wi X Y i j ∧ wi X Y j own)
theorem wi_lt {C c i j : Nat} {X Y : Nat → Nat} (P : PV C c X Y) (hi : i < c) (hj : j < c) (h : wi X Y i j) : i < j := by
  obtain ⟨h1, h2, h3⟩ := h
  apply Classical.byContradiction
  intro q
  have a1 := (P.2 j i (by omega) hi).1
  have a2 := P.1 i hi
  have a3 := P.1 j hj
  omega
theorem isW_ok {F h c i j : Nat} {X Y : Nat → Nat} {f g : Nat → Int32} (hh : h ≤ 1) (hc : c ≤ 21) (R : SR (22 * h) c X Y f g) (hi : i < c) (hj : j < c) : (f_X7_isWithin F (nI (22 * h + i)) (nI (22 * h + j)) f g = some 0 ∧ ¬ wi X Y i j) ∨ (f_X7_isWithin F (nI (22 * h + i)) (nI (22 * h + j)) f g = some 1 ∧ wi X Y i j) := by
  obtain ⟨a1, a2, a3, a4⟩ := R i hi
  obtain ⟨b1, b2, b3, b4⟩ := R j hj
  unfold f_X7_isWithin wi
  by_cases q : i = j
  · left
    refine ⟨?_, fun e => e.1 q⟩
    rw [if_eqT (by omega)]
  · by_cases w1 : X i < X j
    · left
      refine ⟨?_, fun e => by omega⟩
      simp (disch := omega) only [mg_in, if10, if00, if_true, if_false, nI_1, nI_s1, mn_e, mb1_v, mb2_v, mb3_v, mb4_v, nI_clamp, nI_add, pk_mul, if_leT, if_leF, if_ltT, if_ltF, if_eqT, if_eqF, if_m1F, if_m1F2, if_m1T, if_m1ltT, if_m1leT, if_m1leF, if_m1ltF, if_e1T, if_e1F, if_1eT, if_1eF, if_le1T, if_le1F, if_1ltT, if_1ltF, iL0, iL2, iL3, iL4, iL5, iL6, iL7, iL8, iL9, iL10, iL20, iL21, iL22, iL31, iL32, iL40, iL46, iL48, iL57, iL64, iL65, iL80, iL81, iL90, iL96, iL97, iL100, iL122, iL126, iL127, iL500, iL1000, iL3000, iL9999999, a1, a2, b1, b2]
    · by_cases w2 : Y j < Y i
      · left
        refine ⟨?_, fun e => by omega⟩
        simp (disch := omega) only [mg_in, if10, if00, if_true, if_false, nI_1, nI_s1, mn_e, mb1_v, mb2_v, mb3_v, mb4_v, nI_clamp, nI_add, pk_mul, if_leT, if_leF, if_ltT, if_ltF, if_eqT, if_eqF, if_m1F, if_m1F2, if_m1T, if_m1ltT, if_m1leT, if_m1leF, if_m1ltF, if_e1T, if_e1F, if_1eT, if_1eF, if_le1T, if_le1F, if_1ltT, if_1ltF, iL0, iL2, iL3, iL4, iL5, iL6, iL7, iL8, iL9, iL10, iL20, iL21, iL22, iL31, iL32, iL40, iL46, iL48, iL57, iL64, iL65, iL80, iL81, iL90, iL96, iL97, iL100, iL122, iL126, iL127, iL500, iL1000, iL3000, iL9999999, a1, a2, b1, b2]
      · right
        refine ⟨?_, ⟨q, by omega, by omega⟩⟩
        simp (disch := omega) only [mg_in, if10, if00, if_true, if_false, nI_1, nI_s1, mn_e, mb1_v, mb2_v, mb3_v, mb4_v, nI_clamp, nI_add, pk_mul, if_leT, if_leF, if_ltT, if_ltF, if_eqT, if_eqF, if_m1F, if_m1F2, if_m1T, if_m1ltT, if_m1leT, if_m1leF, if_m1ltF, if_e1T, if_e1F, if_1eT, if_1eF, if_le1T, if_le1F, if_1ltT, if_1ltF, iL0, iL2, iL3, iL4, iL5, iL6, iL7, iL8, iL9, iL10, iL20, iL21, iL22, iL31, iL32, iL40, iL46, iL48, iL57, iL64, iL65, iL80, iL81, iL90, iL96, iL97, iL100, iL122, iL126, iL127, iL500, iL1000, iL3000, iL9999999, a1, a2, b1, b2]
theorem li_ok {F c i j : Nat} {X Y : Nat → Nat} {f g : Nat → Int32} (hc : c ≤ 21) (R : SR 0 c X Y f g) (hi : i < c) (hj : j < c) : (f_X3_liesIn F 21 21 (nI i) (nI j) f g = some 0 ∧ ¬ (X j ≤ X i ∧ Y i ≤ Y j)) ∨ (f_X3_liesIn F 21 21 (nI i) (nI j) f g = some 1 ∧ (X j ≤ X i ∧ Y i ≤ Y j)) := by
  obtain ⟨a1, a2, a3, a4⟩ := SR_0 R hi
  obtain ⟨b1, b2, b3, b4⟩ := SR_0 R hj
  unfold f_X3_liesIn
  by_cases w1 : X i < X j
  · left
    refine ⟨?_, fun e => by omega⟩
    simp (disch := omega) only [mg_in, if10, if00, if_true, if_false, nI_1, nI_s1, mn_e, mb1_v, mb2_v, mb3_v, mb4_v, nI_clamp, nI_add, pk_mul, if_leT, if_leF, if_ltT, if_ltF, if_eqT, if_eqF, if_m1F, if_m1F2, if_m1T, if_m1ltT, if_m1leT, if_m1leF, if_m1ltF, if_e1T, if_e1F, if_1eT, if_1eF, if_le1T, if_le1F, if_1ltT, if_1ltF, iL0, iL2, iL3, iL4, iL5, iL6, iL7, iL8, iL9, iL10, iL20, iL21, iL22, iL31, iL32, iL40, iL46, iL48, iL57, iL64, iL65, iL80, iL81, iL90, iL96, iL97, iL100, iL122, iL126, iL127, iL500, iL1000, iL3000, iL9999999, a1, a2, b1, b2]
  · by_cases w2 : Y j < Y i
    · left
      refine ⟨?_, fun e => by omega⟩
      simp (disch := omega) only [mg_in, if10, if00, if_true, if_false, nI_1, nI_s1, mn_e, mb1_v, mb2_v, mb3_v, mb4_v, nI_clamp, nI_add, pk_mul, if_leT, if_leF, if_ltT, if_ltF, if_eqT, if_eqF, if_m1F, if_m1F2, if_m1T, if_m1ltT, if_m1leT, if_m1leF, if_m1ltF, if_e1T, if_e1F, if_1eT, if_1eF, if_le1T, if_le1F, if_1ltT, if_1ltF, iL0, iL2, iL3, iL4, iL5, iL6, iL7, iL8, iL9, iL10, iL20, iL21, iL22, iL31, iL32, iL40, iL46, iL48, iL57, iL64, iL65, iL80, iL81, iL90, iL96, iL97, iL100, iL122, iL126, iL127, iL500, iL1000, iL3000, iL9999999, a1, a2, b1, b2]
    · right
      refine ⟨?_, ⟨by omega, by omega⟩⟩
      simp (disch := omega) only [mg_in, if10, if00, if_true, if_false, nI_1, nI_s1, mn_e, mb1_v, mb2_v, mb3_v, mb4_v, nI_clamp, nI_add, pk_mul, if_leT, if_leF, if_ltT, if_ltF, if_eqT, if_eqF, if_m1F, if_m1F2, if_m1T, if_m1ltT, if_m1leT, if_m1leF, if_m1ltF, if_e1T, if_e1F, if_1eT, if_1eF, if_le1T, if_le1F, if_1ltT, if_1ltF, iL0, iL2, iL3, iL4, iL5, iL6, iL7, iL8, iL9, iL10, iL20, iL21, iL22, iL31, iL32, iL40, iL46, iL48, iL57, iL64, iL65, iL80, iL81, iL90, iL96, iL97, iL100, iL122, iL126, iL127, iL500, iL1000, iL3000, iL9999999, a1, a2, b1, b2]
theorem fh_loop {F c i : Nat} {X Y : Nat → Nat} {f g : Nat → Int32} (hc : c ≤ 21) (R : SR 0 c X Y f g) (hi : i < c) : ∀ (r j fu : Nat), j + r = c → r < fu → ∃ z, g_X2_findHolder_4 F fu (nI i) (nI j) f g (nI c) = some z ∧ ((z = -1 ∧ ∀ t, j ≤ t → t < c → ¬ (X t ≤ X i ∧ Y i ≤ Y t)) ∨ ∃ t, j ≤ t ∧ t < c ∧ z = nI t ∧ (X t ≤ X i ∧ Y i ≤ Y t) ∧ ∀ u, j ≤ u → u < t → ¬ (X u ≤ X i ∧ Y i ≤ Y u)) := by
  intro r
  induction r with
  | zero =>
    intro j fu he hf
    obtain ⟨fu, rfl⟩ : ∃ z, fu = z + 1 := ⟨fu - 1, by omega⟩
    refine ⟨-1, ?_, Or.inl ⟨rfl, fun t h1 h2 => by omega⟩⟩
    rw [g_X2_findHolder_4_s, if_leT (by omega) (by omega)]
  | succ r ih =>
    intro j fu he hf
    obtain ⟨fu, rfl⟩ : ∃ z, fu = z + 1 := ⟨fu - 1, by omega⟩
    rcases li_ok (F := F) hc R hi (show j < c by omega) with ⟨a1, a2⟩ | ⟨a1, a2⟩
    · obtain ⟨z, z1, z2⟩ := ih (j + 1) fu (by omega) (by omega)
      refine ⟨z, ?_, ?_⟩
      · rw [g_X2_findHolder_4_s, if_leF (by omega) (by omega), a1, mb1_v, if00, mn_e, nI_1, z1]
      · rcases z2 with ⟨w1, w2⟩ | ⟨t, w1, w2, w3, w4, w5⟩
        · refine Or.inl ⟨w1, fun t t1 t2 => ?_⟩
          by_cases e : t = j
          · rw [e]; exact a2
          · exact w2 t (by omega) t2
        · refine Or.inr ⟨t, by omega, w2, w3, w4, fun u u1 u2 => ?_⟩
          by_cases e : u = j
          · rw [e]; exact a2
          · exact w5 u (by omega) u2
    · refine ⟨nI j, ?_, Or.inr ⟨j, by omega, by omega, rfl, a2, fun u u1 u2 => by omega⟩⟩
      rw [g_X2_findHolder_4_s, if_leF (by omega) (by omega), a1, mb1_v, if10]
theorem hold_ok {F C c i k : Nat} {X Y : Nat → Nat} {f g : Nat → Int32} (hF : 4000 ≤ F) (hc : c ≤ 21) (P : PV C c X Y) (R : SR 0 c X Y f g) (hi : i < k) (hk : k < c) : ∃ z, f_X2_findHolder F (nI i) f g (nI c) = some z ∧ ((z = nI k ∧ rin X Y c i k) ∨ (¬ z = nI k ∧ ¬ rin X Y c i k)) := by
  obtain ⟨z, z1, z2⟩ := fh_loop (F := F) hc R (show i < c by omega) (c - (i + 1)) (i + 1) F (by omega) (by omega)
  refine ⟨z, ?_, ?_⟩
  · unfold f_X2_findHolder
    rw [mn_e, nI_1]
    exact z1
  · have pos : ∀ t, i < t → t < c → (X t ≤ X i ∧ Y i ≤ Y t) → wi X Y i t := fun t h1 h2 h3 => ⟨by omega, h3.1, h3.2⟩
    rcases z2 with ⟨w1, w2⟩ | ⟨t, w1, w2, w3, w4, w5⟩
    · refine Or.inr ⟨by rw [w1]; exact fun e => nI_m1 (show k < 2 ^ 31 by omega) e.symm, fun e => ?_⟩
      exact w2 k (by omega) hk ⟨e.1.2.1, e.1.2.2⟩
    · by_cases e : t = k
      · subst e
        refine Or.inl ⟨w3, pos t (by omega) w2 w4, fun j hj q => ?_⟩
        have l1 := wi_lt P (by omega) hj q.1
        have l2 := wi_lt P hj hk q.2
        exact w5 j (by omega) l2 ⟨q.1.2.1, q.1.2.2⟩
      · refine Or.inr ⟨by rw [w3]; exact fun q => e (nI_inj q (by omega) (by omega)), fun q => ?_⟩
        have q1 := q.1
        by_cases l : t < k
        · have a1 := (P.2 t k l hk).2
          have a2 := P.1 i (by omega)
          have a3 := q1.2
          refine q.2 t w2 ⟨pos t (by omega) w2 w4, ⟨by omega, ?_, ?_⟩⟩
          · omega
          · omega
        · exact w5 k (by omega) (by omega) ⟨q1.2.1, q1.2.2⟩
noncomputable def ctp (P : Nat → Prop) : Nat → Nat → Nat
  | _, 0 => 0
  | i, r + 1 => (@ite Nat (P i) (Classical.propDecidable _) 1 0) + ctp P (i + 1) r
theorem ctp_t {P : Nat → Prop} {i r : Nat} (h : P i) : ctp P i (r + 1) = 1 + ctp P (i + 1) r := by
  show (@ite Nat (P i) (Classical.propDecidable _) 1 0) + ctp P (i + 1) r = _
  rw [if_pos h]
theorem ctp_f {P : Nat → Prop} {i r : Nat} (h : ¬ P i) : ctp P i (r + 1) = ctp P (i + 1) r := by
  show (@ite Nat (P i) (Classical.propDecidable _) 1 0) + ctp P (i + 1) r = _
  rw [if_neg h, Nat.zero_add]
theorem ctp_le {P : Nat → Prop} : ∀ r i, ctp P i r ≤ r := by
  intro r
  induction r with
  | zero => intro i; exact Nat.le_refl _
  | succ r ih =>
    intro i
    have := ih (i + 1)
    by_cases h : P i
    · rw [ctp_t h]; omega
    · rw [ctp_f h]; omega
theorem ctp_0 {P : Nat → Prop} : ∀ r i, (∀ j, i ≤ j → j < i + r → ¬ P j) → ctp P i r = 0 := by
  intro r
  induction r with
  | zero => intro i _; rfl
  | succ r ih =>
    intro i h
    rw [ctp_f (h i (by omega) (by omega))]
    exact ih (i + 1) (fun j h1 h2 => h j (by omega) (by omega))
theorem ctp_add {P : Nat → Prop} : ∀ r q i, ctp P i (r + q) = ctp P i r + ctp P (i + r) q := by
  intro r
  induction r with
  | zero => intro q i; rw [Nat.zero_add, Nat.add_zero]; exact (Nat.zero_add _).symm
  | succ r ih =>
    intro q i
    rw [show r + 1 + q = (r + q) + 1 by omega]
    have e := ih q (i + 1)
    rw [show i + 1 + r = i + (r + 1) by omega] at e
    by_cases h : P i
    · rw [ctp_t h, ctp_t h, e]; omega
    · rw [ctp_f h, ctp_f h, e]
theorem cri_loop {F C c k : Nat} {X Y : Nat → Nat} {f g : Nat → Int32} (hF : 4000 ≤ F) (hc : c ≤ 21) (P : PV C c X Y) (R : SR 0 c X Y f g) (hk : k < c) : ∀ (r i n fu : Nat), i + r = k → n ≤ i → r < fu → g_X2_countRightInside_4 F fu (nI k) (nI n) (nI i) f g (nI c) = some (nI (n + ctp (fun t => rin X Y c t k) i r)) := by
  intro r
  induction r with
  | zero =>
    intro i n fu he hn hf
    obtain ⟨fu, rfl⟩ : ∃ z, fu = z + 1 := ⟨fu - 1, by omega⟩
    rw [g_X2_countRightInside_4_s, if_leT (by omega) (by omega)]
    rfl
  | succ r ih =>
    intro i n fu he hn hf
    obtain ⟨fu, rfl⟩ : ∃ z, fu = z + 1 := ⟨fu - 1, by omega⟩
    obtain ⟨z, z1, z2⟩ := hold_ok (F := F) hF hc P R (show i < k by omega) hk
    rw [g_X2_countRightInside_4_s, if_leF (by omega) (by omega), z1, mb1_v]
    rcases z2 with ⟨w1, w2⟩ | ⟨w1, w2⟩
    · rw [if_pos w1, mn_e, nI_1, mn_e, nI_1, ih (i + 1) (n + 1) fu (by omega) (by omega) (by omega), ctp_t (P := fun t => rin X Y c t k) w2, Nat.add_assoc]
    · rw [if_neg w1, mn_e, nI_1, ih (i + 1) n fu (by omega) (by omega) (by omega), ctp_f (P := fun t => rin X Y c t k) w2]
theorem p138_0 {F h c : Nat} {v3 v4 v5 thr : Int32} {Mpr f g : Nat → Int32} {K : Int32 → Int32 → Int32 → Int32 → Int32 → (Nat → Int32) → (Nat → Int32) → (Nat → Int32) → Option (Int32 × Int32)} (hh : h ≤ 1) (hc : c ≤ 21) (hr : Mpr h = nI c) : ∀ (r j fu : Nat), j + r = c → r < fu → g_X7_pressed_138 F K fu v3 v4 v5 0 (nI (22 * h + j)) thr (nI h) Mpr f g = K v3 (v4 + 0) (v5 + 1) thr (nI h) Mpr f g := by
  intro r
  induction r with
  | zero =>
    intro j fu he hf
    obtain ⟨fu, rfl⟩ : ∃ z, fu = z + 1 := ⟨fu - 1, by omega⟩
    rw [g_X7_pressed_138_s, mg_in (by omega) (by omega), nI_clamp (by omega), hr, iL22, pk_mul, nI_add, if_leT (by omega) (by omega), if00, mn_e, mn_e]
  | succ r ih =>
    intro j fu he hf
    obtain ⟨fu, rfl⟩ : ∃ z, fu = z + 1 := ⟨fu - 1, by omega⟩
    rw [g_X7_pressed_138_s, mg_in (by omega) (by omega), nI_clamp (by omega), hr, iL22, pk_mul, nI_add, if_leF (by omega) (by omega), if00, mn_e, nI_1]
    exact ih (j + 1) fu (by omega) (by omega)
theorem p138_1 {F h C c i k : Nat} {v4 thr : Int32} {X Y : Nat → Nat} {Mpr f g : Nat → Int32} {K : Int32 → Int32 → Int32 → Int32 → Int32 → (Nat → Int32) → (Nat → Int32) → (Nat → Int32) → Option (Int32 × Int32)} (hh : h ≤ 1) (hc : c ≤ 21) (hr : Mpr h = nI c) (R : SR (22 * h) c X Y f g) (hi : i < c) (hk : k < c) : ∀ (r j fu : Nat), j + r = c → r < fu →
    (g_X7_pressed_138 F K fu (nI (22 * h + k)) v4 (nI (22 * h + i)) 1 (nI (22 * h + j)) thr (nI h) Mpr f g = K (nI (22 * h + k)) (v4 + 1) (nI (22 * h + i) + 1) thr (nI h) Mpr f g ∧ ∀ t, j ≤ t → t < c → ¬ (wi X Y i t ∧ wi X Y t k)) ∨
    (g_X7_pressed_138 F K fu (nI (22 * h + k)) v4 (nI (22 * h + i)) 1 (nI (22 * h + j)) thr (nI h) Mpr f g = K (nI (22 * h + k)) (v4 + 0) (nI (22 * h + i) + 1) thr (nI h) Mpr f g ∧ ∃ t, j ≤ t ∧ t < c ∧ wi X Y i t ∧ wi X Y t k) := by
  intro r
  induction r with
  | zero =>
    intro j fu he hf
    obtain ⟨fu, rfl⟩ : ∃ z, fu = z + 1 := ⟨fu - 1, by omega⟩
    refine Or.inl ⟨?_, fun t h1 h2 => by omega⟩
    rw [g_X7_pressed_138_s, mg_in (by omega) (by omega), nI_clamp (by omega), hr, iL22, pk_mul, nI_add, if_leT (by omega) (by omega), if10, mn_e, mn_e]
  | succ r ih =>
    intro j fu he hf
    obtain ⟨fu, rfl⟩ : ∃ z, fu = z + 1 := ⟨fu - 1, by omega⟩
    have more : ¬ (wi X Y i j ∧ wi X Y j k) → _ := fun hj => (ih (j + 1) fu (by omega) (by omega)).imp
      (fun q => (⟨q.1, fun t t1 t2 => by
        by_cases e : t = j
        · rw [e]; exact hj
        · exact q.2 t (by omega) t2⟩ : _ ∧ ∀ t, j ≤ t → t < c → ¬ (wi X Y i t ∧ wi X Y t k)))
      (fun q => (⟨q.1, by obtain ⟨t, t1, t2⟩ := q.2; exact ⟨t, by omega, t2⟩⟩ : _ ∧ ∃ t, j ≤ t ∧ t < c ∧ wi X Y i t ∧ wi X Y t k))
    have p0 := p138_0 (F := F) (v3 := nI (22 * h + k)) (v4 := v4) (v5 := nI (22 * h + i)) (thr := thr) (f := f) (g := g) (K := K) hh hc hr r (j + 1) fu (by omega) (by omega)
    rw [g_X7_pressed_138_s, mg_in (by omega) (by omega), nI_clamp (by omega), hr, iL22, pk_mul, nI_add, if_leF (by omega) (by omega), if10, mn_e, mn_e, nI_1, show 22 * h + j + 1 = 22 * h + (j + 1) by omega]
    rcases isW_ok (F := F) hh hc R hi (show j < c by omega) with ⟨a1, a2⟩ | ⟨a1, a2⟩
    · rw [a1, mb1_v, if00]
      exact more (fun q => a2 q.1)
    · rw [a1, mb1_v, if10]
      rcases isW_ok (F := F) hh hc R (show j < c by omega) hk with ⟨b1, b2⟩ | ⟨b1, b2⟩
      · rw [b1, mb1_v, if00]
        exact more (fun q => b2 q.2)
      · rw [b1, mb1_v, if10, p0]
        exact Or.inr ⟨rfl, j, by omega, by omega, a2, b2⟩
theorem p98_loop {F h C c k : Nat} {thr : Int32} {X Y : Nat → Nat} {Mpr f g : Nat → Int32} (hF : 4000 ≤ F) (hh : h ≤ 1) (hc : c ≤ 21) (hr : Mpr h = nI c) (R : SR (22 * h) c X Y f g) (hk : k < c) : ∀ (r i n fu : Nat), i + r = c → n ≤ i → r < fu → g_X7_pressed_98 F fu (nI (22 * h + k)) (nI n) (nI (22 * h + i)) thr (nI h) Mpr f g = some (nI (n + ctp (fun t => rin X Y c t k) i r), thr) := by
  intro r
  induction r with
  | zero =>
    intro i n fu he hn hf
    obtain ⟨fu, rfl⟩ : ∃ z, fu = z + 1 := ⟨fu - 1, by omega⟩
    rw [g_X7_pressed_98_s, mg_in (by omega) (by omega), nI_clamp (by omega), hr, iL22, pk_mul, nI_add, if_leT (by omega) (by omega)]
    rfl
  | succ r ih =>
    intro i n fu he hn hf
    obtain ⟨fu, rfl⟩ : ∃ z, fu = z + 1 := ⟨fu - 1, by omega⟩
    have e0 : nI n + 0 = nI n := by rw [iL0, nI_add, Nat.add_zero]
    have ea : 22 * h + i + 1 = 22 * h + (i + 1) := by omega
    rw [g_X7_pressed_98_s, mg_in (by omega) (by omega), nI_clamp (by omega), hr, iL22, pk_mul, nI_add, if_leF (by omega) (by omega)]
    rcases isW_ok (F := F) hh hc R (show i < c by omega) hk with ⟨a1, a2⟩ | ⟨a1, a2⟩
    · have p0 := p138_0 (F := F) (v3 := nI (22 * h + k)) (v4 := nI n) (v5 := nI (22 * h + i)) (thr := thr) (f := f) (g := g) (K := g_X7_pressed_98 F fu) hh hc hr c 0 F (by omega) (by omega)
      rw [Nat.add_zero] at p0
      rw [a1, mb1_v, mn_e, p0, e0, nI_1, ea, ih (i + 1) n fu (by omega) (by omega) (by omega), ctp_f (P := fun t => rin X Y c t k) (fun q => a2 q.1)]
    · have p1 := p138_1 (F := F) (C := C) (v4 := nI n) (thr := thr) (K := g_X7_pressed_98 F fu) hh hc hr R (show i < c by omega) hk c 0 F (by omega) (by omega)
      rw [Nat.add_zero] at p1
      rw [a1, mb1_v, mn_e]
      rcases p1 with ⟨p1, p2⟩ | ⟨p1, t, p2, p3, p4, p5⟩
      · rw [p1, nI_1, nI_1, ea, ih (i + 1) (n + 1) fu (by omega) (by omega) (by omega), ctp_t (P := fun t => rin X Y c t k) ⟨a2, fun j hj q => p2 j (by omega) hj q⟩, Nat.add_assoc]
      · rw [p1, e0, nI_1, ea, ih (i + 1) n fu (by omega) (by omega) (by omega), ctp_f (P := fun t => rin X Y c t k) (fun q => q.2 t p3 ⟨p4, p5⟩)]
theorem pressed_ask {F h L C c nv : Nat} {hs : Bool} {X Y U V : Nat → Nat} {bk : Nat → Int32} {bn : Nat → Int64} {bh bd bu bY pf pl vf vl Ml Mk : Nat → Int32} {Mn : Nat → Int64} {Mz : Nat → Int32} {Mt : Nat → Int64} {Msp Mcop Mca Mpr Mpf Mpt Mvi Mvf Mvt : Nat → Int32} {x y thr : Int32} {a : Nat → Int64} (hF : 4000 ≤ F) (W : QW hs h L C c nv X Y U V bk bn bh bd bu bY pf pl vf vl Ml Mk Mn Mz Mt Msp Mcop Mca Mpr Mpf Mpt Mvi Mvf Mvt) :
    qI (f_L_pressed F x y pf pl (nI c) a) (f_X7_pressed F x y thr (bI hs) (nI h) Mpr Mpf Mpt) := by
  obtain ⟨B, ⟨hl, hcop, hr, hvr⟩, PV0, c21, R0, R1, hnv, V0, V1, h0, h1⟩ := W
  obtain ⟨hh, hL, hC⟩ := B.1
  have st1 : g_X7_pressed_39 F x y 1 thr (nI h) Mpr Mpf Mpt = some (0, 1) := by
    unfold g_X7_pressed_39
    rw [if10]
  have fin1 : qI (mb2 (some (1, (0 : Int32))) (fun cd_1 r_2 => (if cd_1 = 0 then mg (inb (0 : Int32) 1) (some ((0 : Int32), (vp_updL a ((0 : Int32)).toNatClampNeg ((r_2).toInt64)))) else (if cd_1 = 1 then some ((1 : Int32), a) else none)))) (some ((0 : Int32), (1 : Int32))) := ⟨1, 0, a, rfl, rfl, fun e => absurd e (by decide)⟩
  unfold f_L_pressed f_X6_pressed f_X7_pressed
  rw [st1]
  have bad : (x < 0 ∨ nI c ≤ x) → qI (mb2 (if x < 0 then some (1, (0 : Int32)) else (if nI c ≤ x then some (1, (0 : Int32)) else (if y < 0 then some (1, (0 : Int32)) else (if y ≤ (2 : Int32) then (if y = 0 then mg (inb x 21) (some (0, (pf (x).toNatClampNeg))) else (if y = (1 : Int32) then mg (inb x 21) (some (0, (pl (x).toNatClampNeg))) else mb1 (f_X2_countRightInside F x pf pl (nI c)) (fun r_7 => some (0, r_7)))) else some (1, (0 : Int32)))))) (fun cd_1 r_2 => (if cd_1 = 0 then mg (inb (0 : Int32) 1) (some ((0 : Int32), (vp_updL a ((0 : Int32)).toNatClampNeg ((r_2).toInt64)))) else (if cd_1 = 1 then some ((1 : Int32), a) else none)))) (if bI hs = 0 then some (0, 1) else (if x < 0 then some (0, 1) else mg (inb (nI h) 2) ((if (Mpr (nI h).toNatClampNeg) ≤ x then some (0, 1) else (if y < 0 then some (0, 1) else (if (3 : Int32) ≤ y then some (0, 1) else g_X7_pressed_39 F x y (0 : Int32) thr (nI h) Mpr Mpf Mpt)))))) := by
    intro q
    rw [mg_in (by omega) (by omega), nI_clamp (by omega), hr]
    by_cases w : x < 0
    · rw [if_pos w, if_pos w, ite_self]; exact fin1
    · rw [if_neg w, if_neg w, if_pos (q.resolve_left w), if_pos (q.resolve_left w), ite_self]; exact fin1
  rcases pk_ix x (n := c) (by omega) with q | q | ⟨k, q1, q2⟩
  · exact bad (Or.inl q)
  · exact bad (Or.inr q)
  subst q2
  have ht : hs = true := by
    cases hs with
    | false => have := (h0 rfl).2.2.1; omega
    | true => rfl
  subst ht
  have e0 : ¬ nI k < 0 := nI_pos (by omega)
  rw [bI_t, if10, if_neg e0, if_neg e0]
  simp (disch := omega) only [mg_in, nI_clamp, hr, if_leF]
  obtain ⟨r1, r2, _, _⟩ := SR_0 R0 q1
  obtain ⟨r3, r4, _, _⟩ := R1 k q1
  rcases pk_ix y (n := 3) (by omega) with q | q | ⟨w, w1, w2⟩
  · rw [if_pos q, if_pos q]; exact fin1
  · have y0 : ¬ y < 0 := fun e => absurd (Int32.lt_of_le_of_lt q e) (by decide)
    have y2 : ¬ y ≤ (2 : Int32) := fun e => absurd (Int32.le_trans q e) (by decide)
    rw [if_neg y0, if_neg y0, if_neg y2, if_pos (show (3 : Int32) ≤ y from q)]; exact fin1
  · subst w2
    have y0 : ¬ nI w < 0 := nI_pos (by omega)
    have y2 : nI w ≤ (2 : Int32) := nI_le (b := 2) (by omega) (by omega)
    have y3 : ¬ (3 : Int32) ≤ nI w := nI_ge (b := 3) w1 (by omega)
    rw [if_neg y0, if_neg y0, if_pos y2, if_neg y3]
    unfold g_X7_pressed_39
    rcases (show w = 0 ∨ w = 1 ∨ w = 2 by omega) with rfl | rfl | rfl
    · simp (disch := omega) only [mg_in, if10, if00, if_true, if_false, nI_1, nI_s1, mn_e, mb1_v, mb2_v, mb3_v, mb4_v, nI_clamp, nI_add, pk_mul, if_leT, if_leF, if_ltT, if_ltF, if_eqT, if_eqF, if_m1F, if_m1F2, if_m1T, if_m1ltT, if_m1leT, if_m1leF, if_m1ltF, if_e1T, if_e1F, if_1eT, if_1eF, if_le1T, if_le1F, if_1ltT, if_1ltF, iL0, iL2, iL3, iL4, iL5, iL6, iL7, iL8, iL9, iL10, iL20, iL21, iL22, iL31, iL32, iL40, iL46, iL48, iL57, iL64, iL65, iL80, iL81, iL90, iL96, iL97, iL100, iL122, iL126, iL127, iL500, iL1000, iL3000, iL9999999, r1, r3, mb2_v]
      exact ⟨0, nI (X k), _, rfl, rfl, fun _ => pk_uLs⟩
    · simp (disch := omega) only [mg_in, if10, if00, if_true, if_false, nI_1, nI_s1, mn_e, mb1_v, mb2_v, mb3_v, mb4_v, nI_clamp, nI_add, pk_mul, if_leT, if_leF, if_ltT, if_ltF, if_eqT, if_eqF, if_m1F, if_m1F2, if_m1T, if_m1ltT, if_m1leT, if_m1leF, if_m1ltF, if_e1T, if_e1F, if_1eT, if_1eF, if_le1T, if_le1F, if_1ltT, if_1ltF, iL0, iL2, iL3, iL4, iL5, iL6, iL7, iL8, iL9, iL10, iL20, iL21, iL22, iL31, iL32, iL40, iL46, iL48, iL57, iL64, iL65, iL80, iL81, iL90, iL96, iL97, iL100, iL122, iL126, iL127, iL500, iL1000, iL3000, iL9999999, r2, r4, mb2_v]
      exact ⟨0, nI (Y k), _, rfl, rfl, fun _ => pk_uLs⟩
    · have cc := cri_loop (F := F) hF c21 PV0 R0 q1 k 0 0 F (by omega) (by omega) (by omega)
      have cm := p98_loop (F := F) (C := C) (thr := 0) hF hh c21 hr R1 q1 c 0 0 F (by omega) (by omega) (by omega)
      rw [Nat.add_zero] at cm
      have es : ctp (fun t => rin X Y c t k) 0 c = ctp (fun t => rin X Y c t k) 0 k := by
        have e := ctp_add (P := fun t => rin X Y c t k) k (c - k) 0
        rw [show k + (c - k) = c by omega] at e
        rw [e, ctp_0 (P := fun t => rin X Y c t k) (c - k) (0 + k) (fun j j1 j2 q => by
          have := wi_lt PV0 (show j < c by omega) q1 q.1
          omega), Nat.add_zero]
      rw [es] at cm
      unfold f_X2_countRightInside
      simp (disch := omega) only [mg_in, if10, if00, if_true, if_false, nI_1, nI_s1, mn_e, mb1_v, mb2_v, mb3_v, mb4_v, nI_clamp, nI_add, pk_mul, if_leT, if_leF, if_ltT, if_ltF, if_eqT, if_eqF, if_m1F, if_m1F2, if_m1T, if_m1ltT, if_m1leT, if_m1leF, if_m1ltF, if_e1T, if_e1F, if_1eT, if_1eF, if_le1T, if_le1F, if_1ltT, if_1ltF, iL0, iL2, iL3, iL4, iL5, iL6, iL7, iL8, iL9, iL10, iL20, iL21, iL22, iL31, iL32, iL40, iL46, iL48, iL57, iL64, iL65, iL80, iL81, iL90, iL96, iL97, iL100, iL122, iL126, iL127, iL500, iL1000, iL3000, iL9999999, mb2_v]
      rw [show g_X2_countRightInside_4 F F (nI k) (nI 0) (nI 0) pf pl (nI c) = _ from cc, show g_X7_pressed_98 F F (nI (22 * h + k)) (nI 0) (nI (22 * h)) (nI 0) (nI h) Mpr Mpf Mpt = _ from cm, mb1_v, mb2_v, if_pos rfl]
      exact ⟨0, _, _, rfl, rfl, fun _ => pk_uLs⟩
