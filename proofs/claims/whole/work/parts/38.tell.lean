theorem t69_loop {F c x y : Nat} {t : Int32} {X Y : Nat → Nat} {f g : Nat → Int32} (hc : c ≤ 21) (h : SR 0 c X Y f g) (hX : ∀ k, k < c → X k < Y k) (hxy : x < y) (hy : y < 100) :
    ∀ (r k fu : Nat), k + r = c → r < fu → (g_X2_tell_69 F fu (nI x) (nI y) (nI k) f g (nI c) t = some (0, f, g, nI c, t) ∧ ∃ j, k ≤ j ∧ j < c ∧ cr (X j) (Y j) x y) ∨
      (g_X2_tell_69 F fu (nI x) (nI y) (nI k) f g (nI c) t = mb1 (f_X2_placeFor F (nI x) (nI y) f g (nI c)) (fun r_2 => mb4 (f_X3_insert F 21 21 r_2 (nI x) (nI y) f g (nI c)) (fun r_4 p_s_f_5 p_s_l_6 p_s_c_7 => mg (vp_nar .boolean r_4 = r_4) (some (r_4, p_s_f_5, p_s_l_6, p_s_c_7, t)))) ∧ ∀ j, k ≤ j → j < c → ¬ cr (X j) (Y j) x y) := by
  intro r
  induction r with
  | zero =>
    intro k fu he hf
    obtain ⟨fu, rfl⟩ : ∃ z, fu = z + 1 := ⟨fu - 1, by omega⟩
    refine Or.inr ⟨?_, fun j h1 h2 => by omega⟩
    rw [g_X2_tell_69_s, if_leT (by omega) (by omega)]
  | succ r ih =>
    intro k fu he hf
    obtain ⟨fu, rfl⟩ : ∃ z, fu = z + 1 := ⟨fu - 1, by omega⟩
    rcases crs_ok (F := F) hc h (show k < c by omega) (hX k (by omega)) hxy hy with ⟨a1, a2⟩ | ⟨a1, a2⟩
    · rw [g_X2_tell_69_s, if_leF (by omega) (by omega), a1, mb1_v, if00, mn_e, nI_1]
      rcases ih (k + 1) fu (by omega) (by omega) with ⟨b1, j, b2, b3, b4⟩ | ⟨b1, b2⟩
      · exact Or.inl ⟨b1, j, by omega, b3, b4⟩
      · refine Or.inr ⟨b1, fun j j1 j2 => ?_⟩
        by_cases e : j = k
        · rw [e]; exact a2
        · exact b2 j (by omega) j2
    · refine Or.inl ⟨?_, k, by omega, by omega, a2⟩
      rw [g_X2_tell_69_s, if_leF (by omega) (by omega), a1, mb1_v, if10]
theorem p215_b {F e : Nat} {v2 v3 sz p s : Int32} {w : Int64} {ws so : Int32} {tx Mpr f g : Nat → Int32} (he : e < 2 ^ 31) : g_X7_pressLine_215 F v2 v3 tx sz Mpr f g p s (nI e) w ws so = some (Mpr, f, g, p, nI e, w, ws, so) := by
  unfold g_X7_pressLine_215
  rw [exM_b he, mb2_v, gd_f he, mb1_v, if00]
theorem p51_b {F fu e s j np : Nat} {v1 v2 v3 sz p : Int32} {w : Int64} {ws so : Int32} {tx Mpr f g : Nat → Int32} (he : e < 2 ^ 31) (hs : s ≤ 1) (hnp : np ≤ 20) (hj : j ≤ np) (hr : Mpr s = nI np) : g_X7_pressLine_51 F (fu + 1) v1 v2 v3 (nI (22 * s + j)) tx sz Mpr f g p (nI s) (nI e) w ws so = some (Mpr, f, g, p, nI e, w, ws, so) := by
  rw [g_X7_pressLine_51_s, p215_b he, gd_f he]
  by_cases q : j < np
  · simp (disch := omega) only [mg_in, if10, if00, if_true, if_false, nI_1, nI_s1, mn_e, mb1_v, mb2_v, mb3_v, mb4_v, nI_clamp, nI_add, pk_mul, if_leT, if_leF, if_ltT, if_ltF, if_eqT, if_eqF, if_m1F, if_m1F2, if_m1T, if_m1ltT, if_m1leT, if_m1leF, if_m1ltF, if_e1T, if_e1F, if_1eT, if_1eF, if_le1T, if_le1F, if_1ltT, if_1ltF, iL0, iL2, iL3, iL4, iL5, iL6, iL7, iL8, iL9, iL10, iL20, iL21, iL22, iL31, iL32, iL40, iL46, iL48, iL57, iL64, iL65, iL80, iL81, iL90, iL96, iL97, iL100, iL122, iL126, iL127, iL500, iL1000, iL3000, iL9999999, hr]
  · simp (disch := omega) only [mg_in, if10, if00, if_true, if_false, nI_1, nI_s1, mn_e, mb1_v, mb2_v, mb3_v, mb4_v, nI_clamp, nI_add, pk_mul, if_leT, if_leF, if_ltT, if_ltF, if_eqT, if_eqF, if_m1F, if_m1F2, if_m1T, if_m1ltT, if_m1leT, if_m1leF, if_m1ltF, if_e1T, if_e1F, if_1eT, if_1eF, if_le1T, if_le1F, if_1ltT, if_1ltF, iL0, iL2, iL3, iL4, iL5, iL6, iL7, iL8, iL9, iL10, iL20, iL21, iL22, iL31, iL32, iL40, iL46, iL48, iL57, iL64, iL65, iL80, iL81, iL90, iL96, iL97, iL100, iL122, iL126, iL127, iL500, iL1000, iL3000, iL9999999, hr]
theorem p51_more {α : Type} {o a b : α} {np j x y : Nat} {X Y : Nat → Nat} (h : (o = a ∧ ∀ k, j + 1 ≤ k → k < np → ¬ (X k = x ∧ Y k = y) ∧ ¬ cr (X k) (Y k) x y) ∨ (o = b ∧ ∃ k, j + 1 ≤ k ∧ k < np ∧ ((X k = x ∧ Y k = y) ∨ cr (X k) (Y k) x y))) (h1 : ¬ (X j = x ∧ Y j = y)) (h2 : ¬ cr (X j) (Y j) x y) :
    (o = a ∧ ∀ k, j ≤ k → k < np → ¬ (X k = x ∧ Y k = y) ∧ ¬ cr (X k) (Y k) x y) ∨ (o = b ∧ ∃ k, j ≤ k ∧ k < np ∧ ((X k = x ∧ Y k = y) ∨ cr (X k) (Y k) x y)) := by
  rcases h with ⟨q1, q2⟩ | ⟨q1, k, q2, q3, q4⟩
  · refine Or.inl ⟨q1, fun k k1 k2 => ?_⟩
    by_cases e : k = j
    · rw [e]; exact ⟨h1, h2⟩
    · exact q2 k (by omega) k2
  · exact Or.inr ⟨q1, k, by omega, q3, q4⟩
theorem p51_loop {F g0 s np x y : Nat} {sz p : Int32} {w : Int64} {ws so : Int32} {X Y : Nat → Nat} {tx Mpr f g : Nat → Int32} (hg : g0 < 2 ^ 31) (hs : s ≤ 1) (hnp : np ≤ 20) (hr : Mpr s = nI np) (hR : SR (22 * s) np X Y f g) (hX : ∀ k, k < np → X k < Y k) (hxy : x < y) (hy : y < 100) :
    ∀ (r j fu : Nat), j + r = np → r + 1 < fu →
      (g_X7_pressLine_51 F fu (nI g0) (nI x) (nI y) (nI (22 * s + j)) tx sz Mpr f g p (nI s) (-1) w ws so = g_X7_pressLine_215 F (nI x) (nI y) tx sz Mpr f g p (nI s) (-1) w ws so ∧ ∀ k, j ≤ k → k < np → ¬ (X k = x ∧ Y k = y) ∧ ¬ cr (X k) (Y k) x y) ∨
      (g_X7_pressLine_51 F fu (nI g0) (nI x) (nI y) (nI (22 * s + j)) tx sz Mpr f g p (nI s) (-1) w ws so = some (Mpr, f, g, p, nI g0, w, ws, so) ∧ ∃ k, j ≤ k ∧ k < np ∧ ((X k = x ∧ Y k = y) ∨ cr (X k) (Y k) x y)) := by
  intro r
  induction r with
  | zero =>
    intro j fu he hf
    obtain ⟨fu, rfl⟩ : ∃ z, fu = z + 1 := ⟨fu - 1, by omega⟩
    refine Or.inl ⟨?_, fun k h1 h2 => by omega⟩
    rw [g_X7_pressLine_51_s]
    simp (disch := omega) only [mg_in, if10, if00, if_true, if_false, nI_1, nI_s1, mn_e, mb1_v, mb2_v, mb3_v, mb4_v, nI_clamp, nI_add, pk_mul, if_leT, if_leF, if_ltT, if_ltF, if_eqT, if_eqF, if_m1F, if_m1F2, if_m1T, if_m1ltT, if_m1leT, if_m1leF, if_m1ltF, if_e1T, if_e1F, if_1eT, if_1eF, if_le1T, if_le1F, if_1ltT, if_1ltF, iL0, iL2, iL3, iL4, iL5, iL6, iL7, iL8, iL9, iL10, iL20, iL21, iL22, iL31, iL32, iL40, iL46, iL48, iL57, iL64, iL65, iL80, iL81, iL90, iL96, iL97, iL100, iL122, iL126, iL127, iL500, iL1000, iL3000, iL9999999, hr]
  | succ r ih =>
    intro j fu he hf
    obtain ⟨fu, rfl⟩ : ∃ z, fu = z + 2 := ⟨fu - 2, by omega⟩
    obtain ⟨h1, h2, h3, h4⟩ := hR j (by omega)
    have hX1 := hX j (by omega)
    have hb := p51_b (F := F) (fu := fu) (e := g0) (s := s) (j := j + 1) (np := np) (v1 := nI g0) (v2 := nI x) (v3 := nI y) (sz := sz) (p := p) (w := w) (ws := ws) (so := so) (tx := tx) (f := f) (g := g) hg hs hnp (by omega) hr
    have ih1 := ih (j + 1) (fu + 1) (by omega) (by omega)
    rw [g_X7_pressLine_51_s]
    have ea : 22 * s + j + 1 = 22 * s + (j + 1) := by omega
    rcases cr_cases (X j) (Y j) x y hX1 hxy with ⟨q1, q⟩ | ⟨q1, q⟩ | ⟨q1, q2, q⟩ | ⟨q1, q2, q3, q⟩ | ⟨q1, q2, q⟩ | ⟨q1, q2, q⟩ | ⟨q1, q2, q⟩ | ⟨q1, q2, q3, q⟩ | ⟨q1, q2, q3, q⟩
    · simp (disch := omega) only [mg_in, if10, if00, if_true, if_false, nI_1, nI_s1, mn_e, mb1_v, mb2_v, mb3_v, mb4_v, nI_clamp, nI_add, pk_mul, if_leT, if_leF, if_ltT, if_ltF, if_eqT, if_eqF, if_m1F, if_m1F2, if_m1T, if_m1ltT, if_m1leT, if_m1leF, if_m1ltF, if_e1T, if_e1F, if_1eT, if_1eF, if_le1T, if_le1F, if_1ltT, if_1ltF, iL0, iL2, iL3, iL4, iL5, iL6, iL7, iL8, iL9, iL10, iL20, iL21, iL22, iL31, iL32, iL40, iL46, iL48, iL57, iL64, iL65, iL80, iL81, iL90, iL96, iL97, iL100, iL122, iL126, iL127, iL500, iL1000, iL3000, iL9999999, hr, h1, h2, gd_t]
      unfold g_X7_pressLine_107
      simp (disch := omega) only [mg_in, if10, if00, if_true, if_false, nI_1, nI_s1, mn_e, mb1_v, mb2_v, mb3_v, mb4_v, nI_clamp, nI_add, pk_mul, if_leT, if_leF, if_ltT, if_ltF, if_eqT, if_eqF, if_m1F, if_m1F2, if_m1T, if_m1ltT, if_m1leT, if_m1leF, if_m1ltF, if_e1T, if_e1F, if_1eT, if_1eF, if_le1T, if_le1F, if_1ltT, if_1ltF, iL0, iL2, iL3, iL4, iL5, iL6, iL7, iL8, iL9, iL10, iL20, iL21, iL22, iL31, iL32, iL40, iL46, iL48, iL57, iL64, iL65, iL80, iL81, iL90, iL96, iL97, iL100, iL122, iL126, iL127, iL500, iL1000, iL3000, iL9999999, h1, h2]
      unfold g_X7_pressLine_136
      simp (disch := omega) only [mg_in, if10, if00, if_true, if_false, nI_1, nI_s1, mn_e, mb1_v, mb2_v, mb3_v, mb4_v, nI_clamp, nI_add, pk_mul, if_leT, if_leF, if_ltT, if_ltF, if_eqT, if_eqF, if_m1F, if_m1F2, if_m1T, if_m1ltT, if_m1leT, if_m1leF, if_m1ltF, if_e1T, if_e1F, if_1eT, if_1eF, if_le1T, if_le1F, if_1ltT, if_1ltF, iL0, iL2, iL3, iL4, iL5, iL6, iL7, iL8, iL9, iL10, iL20, iL21, iL22, iL31, iL32, iL40, iL46, iL48, iL57, iL64, iL65, iL80, iL81, iL90, iL96, iL97, iL100, iL122, iL126, iL127, iL500, iL1000, iL3000, iL9999999, h1, h2]
      try (unfold g_X7_pressLine_160; simp (disch := omega) only [mg_in, if10, if00, if_true, if_false, nI_1, nI_s1, mn_e, mb1_v, mb2_v, mb3_v, mb4_v, nI_clamp, nI_add, pk_mul, if_leT, if_leF, if_ltT, if_ltF, if_eqT, if_eqF, if_m1F, if_m1F2, if_m1T, if_m1ltT, if_m1leT, if_m1leF, if_m1ltF, if_e1T, if_e1F, if_1eT, if_1eF, if_le1T, if_le1F, if_1ltT, if_1ltF, iL0, iL2, iL3, iL4, iL5, iL6, iL7, iL8, iL9, iL10, iL20, iL21, iL22, iL31, iL32, iL40, iL46, iL48, iL57, iL64, iL65, iL80, iL81, iL90, iL96, iL97, iL100, iL122, iL126, iL127, iL500, iL1000, iL3000, iL9999999, h1, h2])
      unfold g_X7_pressLine_187
      simp (disch := omega) only [mg_in, if10, if00, if_true, if_false, nI_1, nI_s1, mn_e, mb1_v, mb2_v, mb3_v, mb4_v, nI_clamp, nI_add, pk_mul, if_leT, if_leF, if_ltT, if_ltF, if_eqT, if_eqF, if_m1F, if_m1F2, if_m1T, if_m1ltT, if_m1leT, if_m1leF, if_m1ltF, if_e1T, if_e1F, if_1eT, if_1eF, if_le1T, if_le1F, if_1ltT, if_1ltF, iL0, iL2, iL3, iL4, iL5, iL6, iL7, iL8, iL9, iL10, iL20, iL21, iL22, iL31, iL32, iL40, iL46, iL48, iL57, iL64, iL65, iL80, iL81, iL90, iL96, iL97, iL100, iL122, iL126, iL127, iL500, iL1000, iL3000, iL9999999, ea]
      exact p51_more ih1 (by omega) q
    · simp (disch := omega) only [mg_in, if10, if00, if_true, if_false, nI_1, nI_s1, mn_e, mb1_v, mb2_v, mb3_v, mb4_v, nI_clamp, nI_add, pk_mul, if_leT, if_leF, if_ltT, if_ltF, if_eqT, if_eqF, if_m1F, if_m1F2, if_m1T, if_m1ltT, if_m1leT, if_m1leF, if_m1ltF, if_e1T, if_e1F, if_1eT, if_1eF, if_le1T, if_le1F, if_1ltT, if_1ltF, iL0, iL2, iL3, iL4, iL5, iL6, iL7, iL8, iL9, iL10, iL20, iL21, iL22, iL31, iL32, iL40, iL46, iL48, iL57, iL64, iL65, iL80, iL81, iL90, iL96, iL97, iL100, iL122, iL126, iL127, iL500, iL1000, iL3000, iL9999999, hr, h1, h2, gd_t]
      unfold g_X7_pressLine_107
      simp (disch := omega) only [mg_in, if10, if00, if_true, if_false, nI_1, nI_s1, mn_e, mb1_v, mb2_v, mb3_v, mb4_v, nI_clamp, nI_add, pk_mul, if_leT, if_leF, if_ltT, if_ltF, if_eqT, if_eqF, if_m1F, if_m1F2, if_m1T, if_m1ltT, if_m1leT, if_m1leF, if_m1ltF, if_e1T, if_e1F, if_1eT, if_1eF, if_le1T, if_le1F, if_1ltT, if_1ltF, iL0, iL2, iL3, iL4, iL5, iL6, iL7, iL8, iL9, iL10, iL20, iL21, iL22, iL31, iL32, iL40, iL46, iL48, iL57, iL64, iL65, iL80, iL81, iL90, iL96, iL97, iL100, iL122, iL126, iL127, iL500, iL1000, iL3000, iL9999999, h1, h2]
      unfold g_X7_pressLine_136
      simp (disch := omega) only [mg_in, if10, if00, if_true, if_false, nI_1, nI_s1, mn_e, mb1_v, mb2_v, mb3_v, mb4_v, nI_clamp, nI_add, pk_mul, if_leT, if_leF, if_ltT, if_ltF, if_eqT, if_eqF, if_m1F, if_m1F2, if_m1T, if_m1ltT, if_m1leT, if_m1leF, if_m1ltF, if_e1T, if_e1F, if_1eT, if_1eF, if_le1T, if_le1F, if_1ltT, if_1ltF, iL0, iL2, iL3, iL4, iL5, iL6, iL7, iL8, iL9, iL10, iL20, iL21, iL22, iL31, iL32, iL40, iL46, iL48, iL57, iL64, iL65, iL80, iL81, iL90, iL96, iL97, iL100, iL122, iL126, iL127, iL500, iL1000, iL3000, iL9999999, h1, h2]
      try (unfold g_X7_pressLine_160; simp (disch := omega) only [mg_in, if10, if00, if_true, if_false, nI_1, nI_s1, mn_e, mb1_v, mb2_v, mb3_v, mb4_v, nI_clamp, nI_add, pk_mul, if_leT, if_leF, if_ltT, if_ltF, if_eqT, if_eqF, if_m1F, if_m1F2, if_m1T, if_m1ltT, if_m1leT, if_m1leF, if_m1ltF, if_e1T, if_e1F, if_1eT, if_1eF, if_le1T, if_le1F, if_1ltT, if_1ltF, iL0, iL2, iL3, iL4, iL5, iL6, iL7, iL8, iL9, iL10, iL20, iL21, iL22, iL31, iL32, iL40, iL46, iL48, iL57, iL64, iL65, iL80, iL81, iL90, iL96, iL97, iL100, iL122, iL126, iL127, iL500, iL1000, iL3000, iL9999999, h1, h2])
      unfold g_X7_pressLine_187
      simp (disch := omega) only [mg_in, if10, if00, if_true, if_false, nI_1, nI_s1, mn_e, mb1_v, mb2_v, mb3_v, mb4_v, nI_clamp, nI_add, pk_mul, if_leT, if_leF, if_ltT, if_ltF, if_eqT, if_eqF, if_m1F, if_m1F2, if_m1T, if_m1ltT, if_m1leT, if_m1leF, if_m1ltF, if_e1T, if_e1F, if_1eT, if_1eF, if_le1T, if_le1F, if_1ltT, if_1ltF, iL0, iL2, iL3, iL4, iL5, iL6, iL7, iL8, iL9, iL10, iL20, iL21, iL22, iL31, iL32, iL40, iL46, iL48, iL57, iL64, iL65, iL80, iL81, iL90, iL96, iL97, iL100, iL122, iL126, iL127, iL500, iL1000, iL3000, iL9999999, ea]
      exact p51_more ih1 (by omega) q
    · simp (disch := omega) only [mg_in, if10, if00, if_true, if_false, nI_1, nI_s1, mn_e, mb1_v, mb2_v, mb3_v, mb4_v, nI_clamp, nI_add, pk_mul, if_leT, if_leF, if_ltT, if_ltF, if_eqT, if_eqF, if_m1F, if_m1F2, if_m1T, if_m1ltT, if_m1leT, if_m1leF, if_m1ltF, if_e1T, if_e1F, if_1eT, if_1eF, if_le1T, if_le1F, if_1ltT, if_1ltF, iL0, iL2, iL3, iL4, iL5, iL6, iL7, iL8, iL9, iL10, iL20, iL21, iL22, iL31, iL32, iL40, iL46, iL48, iL57, iL64, iL65, iL80, iL81, iL90, iL96, iL97, iL100, iL122, iL126, iL127, iL500, iL1000, iL3000, iL9999999, hr, h1, h2, gd_t]
      unfold g_X7_pressLine_107
      simp (disch := omega) only [mg_in, if10, if00, if_true, if_false, nI_1, nI_s1, mn_e, mb1_v, mb2_v, mb3_v, mb4_v, nI_clamp, nI_add, pk_mul, if_leT, if_leF, if_ltT, if_ltF, if_eqT, if_eqF, if_m1F, if_m1F2, if_m1T, if_m1ltT, if_m1leT, if_m1leF, if_m1ltF, if_e1T, if_e1F, if_1eT, if_1eF, if_le1T, if_le1F, if_1ltT, if_1ltF, iL0, iL2, iL3, iL4, iL5, iL6, iL7, iL8, iL9, iL10, iL20, iL21, iL22, iL31, iL32, iL40, iL46, iL48, iL57, iL64, iL65, iL80, iL81, iL90, iL96, iL97, iL100, iL122, iL126, iL127, iL500, iL1000, iL3000, iL9999999, h1, h2]
      unfold g_X7_pressLine_136
      simp (disch := omega) only [mg_in, if10, if00, if_true, if_false, nI_1, nI_s1, mn_e, mb1_v, mb2_v, mb3_v, mb4_v, nI_clamp, nI_add, pk_mul, if_leT, if_leF, if_ltT, if_ltF, if_eqT, if_eqF, if_m1F, if_m1F2, if_m1T, if_m1ltT, if_m1leT, if_m1leF, if_m1ltF, if_e1T, if_e1F, if_1eT, if_1eF, if_le1T, if_le1F, if_1ltT, if_1ltF, iL0, iL2, iL3, iL4, iL5, iL6, iL7, iL8, iL9, iL10, iL20, iL21, iL22, iL31, iL32, iL40, iL46, iL48, iL57, iL64, iL65, iL80, iL81, iL90, iL96, iL97, iL100, iL122, iL126, iL127, iL500, iL1000, iL3000, iL9999999, h1, h2]
      try (unfold g_X7_pressLine_160; simp (disch := omega) only [mg_in, if10, if00, if_true, if_false, nI_1, nI_s1, mn_e, mb1_v, mb2_v, mb3_v, mb4_v, nI_clamp, nI_add, pk_mul, if_leT, if_leF, if_ltT, if_ltF, if_eqT, if_eqF, if_m1F, if_m1F2, if_m1T, if_m1ltT, if_m1leT, if_m1leF, if_m1ltF, if_e1T, if_e1F, if_1eT, if_1eF, if_le1T, if_le1F, if_1ltT, if_1ltF, iL0, iL2, iL3, iL4, iL5, iL6, iL7, iL8, iL9, iL10, iL20, iL21, iL22, iL31, iL32, iL40, iL46, iL48, iL57, iL64, iL65, iL80, iL81, iL90, iL96, iL97, iL100, iL122, iL126, iL127, iL500, iL1000, iL3000, iL9999999, h1, h2])
      unfold g_X7_pressLine_187
      simp (disch := omega) only [mg_in, if10, if00, if_true, if_false, nI_1, nI_s1, mn_e, mb1_v, mb2_v, mb3_v, mb4_v, nI_clamp, nI_add, pk_mul, if_leT, if_leF, if_ltT, if_ltF, if_eqT, if_eqF, if_m1F, if_m1F2, if_m1T, if_m1ltT, if_m1leT, if_m1leF, if_m1ltF, if_e1T, if_e1F, if_1eT, if_1eF, if_le1T, if_le1F, if_1ltT, if_1ltF, iL0, iL2, iL3, iL4, iL5, iL6, iL7, iL8, iL9, iL10, iL20, iL21, iL22, iL31, iL32, iL40, iL46, iL48, iL57, iL64, iL65, iL80, iL81, iL90, iL96, iL97, iL100, iL122, iL126, iL127, iL500, iL1000, iL3000, iL9999999, ea, fl_t, hb]
      exact Or.inr ⟨trivial, j, by omega, by omega, Or.inl ⟨q1, q2⟩⟩
    · simp (disch := omega) only [mg_in, if10, if00, if_true, if_false, nI_1, nI_s1, mn_e, mb1_v, mb2_v, mb3_v, mb4_v, nI_clamp, nI_add, pk_mul, if_leT, if_leF, if_ltT, if_ltF, if_eqT, if_eqF, if_m1F, if_m1F2, if_m1T, if_m1ltT, if_m1leT, if_m1leF, if_m1ltF, if_e1T, if_e1F, if_1eT, if_1eF, if_le1T, if_le1F, if_1ltT, if_1ltF, iL0, iL2, iL3, iL4, iL5, iL6, iL7, iL8, iL9, iL10, iL20, iL21, iL22, iL31, iL32, iL40, iL46, iL48, iL57, iL64, iL65, iL80, iL81, iL90, iL96, iL97, iL100, iL122, iL126, iL127, iL500, iL1000, iL3000, iL9999999, hr, h1, h2, gd_t]
      unfold g_X7_pressLine_107
      simp (disch := omega) only [mg_in, if10, if00, if_true, if_false, nI_1, nI_s1, mn_e, mb1_v, mb2_v, mb3_v, mb4_v, nI_clamp, nI_add, pk_mul, if_leT, if_leF, if_ltT, if_ltF, if_eqT, if_eqF, if_m1F, if_m1F2, if_m1T, if_m1ltT, if_m1leT, if_m1leF, if_m1ltF, if_e1T, if_e1F, if_1eT, if_1eF, if_le1T, if_le1F, if_1ltT, if_1ltF, iL0, iL2, iL3, iL4, iL5, iL6, iL7, iL8, iL9, iL10, iL20, iL21, iL22, iL31, iL32, iL40, iL46, iL48, iL57, iL64, iL65, iL80, iL81, iL90, iL96, iL97, iL100, iL122, iL126, iL127, iL500, iL1000, iL3000, iL9999999, h1, h2]
      unfold g_X7_pressLine_136
      simp (disch := omega) only [mg_in, if10, if00, if_true, if_false, nI_1, nI_s1, mn_e, mb1_v, mb2_v, mb3_v, mb4_v, nI_clamp, nI_add, pk_mul, if_leT, if_leF, if_ltT, if_ltF, if_eqT, if_eqF, if_m1F, if_m1F2, if_m1T, if_m1ltT, if_m1leT, if_m1leF, if_m1ltF, if_e1T, if_e1F, if_1eT, if_1eF, if_le1T, if_le1F, if_1ltT, if_1ltF, iL0, iL2, iL3, iL4, iL5, iL6, iL7, iL8, iL9, iL10, iL20, iL21, iL22, iL31, iL32, iL40, iL46, iL48, iL57, iL64, iL65, iL80, iL81, iL90, iL96, iL97, iL100, iL122, iL126, iL127, iL500, iL1000, iL3000, iL9999999, h1, h2]
      try (unfold g_X7_pressLine_160; simp (disch := omega) only [mg_in, if10, if00, if_true, if_false, nI_1, nI_s1, mn_e, mb1_v, mb2_v, mb3_v, mb4_v, nI_clamp, nI_add, pk_mul, if_leT, if_leF, if_ltT, if_ltF, if_eqT, if_eqF, if_m1F, if_m1F2, if_m1T, if_m1ltT, if_m1leT, if_m1leF, if_m1ltF, if_e1T, if_e1F, if_1eT, if_1eF, if_le1T, if_le1F, if_1ltT, if_1ltF, iL0, iL2, iL3, iL4, iL5, iL6, iL7, iL8, iL9, iL10, iL20, iL21, iL22, iL31, iL32, iL40, iL46, iL48, iL57, iL64, iL65, iL80, iL81, iL90, iL96, iL97, iL100, iL122, iL126, iL127, iL500, iL1000, iL3000, iL9999999, h1, h2])
      unfold g_X7_pressLine_187
      simp (disch := omega) only [mg_in, if10, if00, if_true, if_false, nI_1, nI_s1, mn_e, mb1_v, mb2_v, mb3_v, mb4_v, nI_clamp, nI_add, pk_mul, if_leT, if_leF, if_ltT, if_ltF, if_eqT, if_eqF, if_m1F, if_m1F2, if_m1T, if_m1ltT, if_m1leT, if_m1leF, if_m1ltF, if_e1T, if_e1F, if_1eT, if_1eF, if_le1T, if_le1F, if_1ltT, if_1ltF, iL0, iL2, iL3, iL4, iL5, iL6, iL7, iL8, iL9, iL10, iL20, iL21, iL22, iL31, iL32, iL40, iL46, iL48, iL57, iL64, iL65, iL80, iL81, iL90, iL96, iL97, iL100, iL122, iL126, iL127, iL500, iL1000, iL3000, iL9999999, ea]
      exact p51_more ih1 (by omega) q
    · simp (disch := omega) only [mg_in, if10, if00, if_true, if_false, nI_1, nI_s1, mn_e, mb1_v, mb2_v, mb3_v, mb4_v, nI_clamp, nI_add, pk_mul, if_leT, if_leF, if_ltT, if_ltF, if_eqT, if_eqF, if_m1F, if_m1F2, if_m1T, if_m1ltT, if_m1leT, if_m1leF, if_m1ltF, if_e1T, if_e1F, if_1eT, if_1eF, if_le1T, if_le1F, if_1ltT, if_1ltF, iL0, iL2, iL3, iL4, iL5, iL6, iL7, iL8, iL9, iL10, iL20, iL21, iL22, iL31, iL32, iL40, iL46, iL48, iL57, iL64, iL65, iL80, iL81, iL90, iL96, iL97, iL100, iL122, iL126, iL127, iL500, iL1000, iL3000, iL9999999, hr, h1, h2, gd_t]
      unfold g_X7_pressLine_107
      simp (disch := omega) only [mg_in, if10, if00, if_true, if_false, nI_1, nI_s1, mn_e, mb1_v, mb2_v, mb3_v, mb4_v, nI_clamp, nI_add, pk_mul, if_leT, if_leF, if_ltT, if_ltF, if_eqT, if_eqF, if_m1F, if_m1F2, if_m1T, if_m1ltT, if_m1leT, if_m1leF, if_m1ltF, if_e1T, if_e1F, if_1eT, if_1eF, if_le1T, if_le1F, if_1ltT, if_1ltF, iL0, iL2, iL3, iL4, iL5, iL6, iL7, iL8, iL9, iL10, iL20, iL21, iL22, iL31, iL32, iL40, iL46, iL48, iL57, iL64, iL65, iL80, iL81, iL90, iL96, iL97, iL100, iL122, iL126, iL127, iL500, iL1000, iL3000, iL9999999, h1, h2]
      unfold g_X7_pressLine_136
      simp (disch := omega) only [mg_in, if10, if00, if_true, if_false, nI_1, nI_s1, mn_e, mb1_v, mb2_v, mb3_v, mb4_v, nI_clamp, nI_add, pk_mul, if_leT, if_leF, if_ltT, if_ltF, if_eqT, if_eqF, if_m1F, if_m1F2, if_m1T, if_m1ltT, if_m1leT, if_m1leF, if_m1ltF, if_e1T, if_e1F, if_1eT, if_1eF, if_le1T, if_le1F, if_1ltT, if_1ltF, iL0, iL2, iL3, iL4, iL5, iL6, iL7, iL8, iL9, iL10, iL20, iL21, iL22, iL31, iL32, iL40, iL46, iL48, iL57, iL64, iL65, iL80, iL81, iL90, iL96, iL97, iL100, iL122, iL126, iL127, iL500, iL1000, iL3000, iL9999999, h1, h2]
      try (unfold g_X7_pressLine_160; simp (disch := omega) only [mg_in, if10, if00, if_true, if_false, nI_1, nI_s1, mn_e, mb1_v, mb2_v, mb3_v, mb4_v, nI_clamp, nI_add, pk_mul, if_leT, if_leF, if_ltT, if_ltF, if_eqT, if_eqF, if_m1F, if_m1F2, if_m1T, if_m1ltT, if_m1leT, if_m1leF, if_m1ltF, if_e1T, if_e1F, if_1eT, if_1eF, if_le1T, if_le1F, if_1ltT, if_1ltF, iL0, iL2, iL3, iL4, iL5, iL6, iL7, iL8, iL9, iL10, iL20, iL21, iL22, iL31, iL32, iL40, iL46, iL48, iL57, iL64, iL65, iL80, iL81, iL90, iL96, iL97, iL100, iL122, iL126, iL127, iL500, iL1000, iL3000, iL9999999, h1, h2])
      unfold g_X7_pressLine_187
      simp (disch := omega) only [mg_in, if10, if00, if_true, if_false, nI_1, nI_s1, mn_e, mb1_v, mb2_v, mb3_v, mb4_v, nI_clamp, nI_add, pk_mul, if_leT, if_leF, if_ltT, if_ltF, if_eqT, if_eqF, if_m1F, if_m1F2, if_m1T, if_m1ltT, if_m1leT, if_m1leF, if_m1ltF, if_e1T, if_e1F, if_1eT, if_1eF, if_le1T, if_le1F, if_1ltT, if_1ltF, iL0, iL2, iL3, iL4, iL5, iL6, iL7, iL8, iL9, iL10, iL20, iL21, iL22, iL31, iL32, iL40, iL46, iL48, iL57, iL64, iL65, iL80, iL81, iL90, iL96, iL97, iL100, iL122, iL126, iL127, iL500, iL1000, iL3000, iL9999999, ea]
      exact p51_more ih1 (by omega) q
    · simp (disch := omega) only [mg_in, if10, if00, if_true, if_false, nI_1, nI_s1, mn_e, mb1_v, mb2_v, mb3_v, mb4_v, nI_clamp, nI_add, pk_mul, if_leT, if_leF, if_ltT, if_ltF, if_eqT, if_eqF, if_m1F, if_m1F2, if_m1T, if_m1ltT, if_m1leT, if_m1leF, if_m1ltF, if_e1T, if_e1F, if_1eT, if_1eF, if_le1T, if_le1F, if_1ltT, if_1ltF, iL0, iL2, iL3, iL4, iL5, iL6, iL7, iL8, iL9, iL10, iL20, iL21, iL22, iL31, iL32, iL40, iL46, iL48, iL57, iL64, iL65, iL80, iL81, iL90, iL96, iL97, iL100, iL122, iL126, iL127, iL500, iL1000, iL3000, iL9999999, hr, h1, h2, gd_t]
      unfold g_X7_pressLine_107
      simp (disch := omega) only [mg_in, if10, if00, if_true, if_false, nI_1, nI_s1, mn_e, mb1_v, mb2_v, mb3_v, mb4_v, nI_clamp, nI_add, pk_mul, if_leT, if_leF, if_ltT, if_ltF, if_eqT, if_eqF, if_m1F, if_m1F2, if_m1T, if_m1ltT, if_m1leT, if_m1leF, if_m1ltF, if_e1T, if_e1F, if_1eT, if_1eF, if_le1T, if_le1F, if_1ltT, if_1ltF, iL0, iL2, iL3, iL4, iL5, iL6, iL7, iL8, iL9, iL10, iL20, iL21, iL22, iL31, iL32, iL40, iL46, iL48, iL57, iL64, iL65, iL80, iL81, iL90, iL96, iL97, iL100, iL122, iL126, iL127, iL500, iL1000, iL3000, iL9999999, h1, h2]
      unfold g_X7_pressLine_136
      simp (disch := omega) only [mg_in, if10, if00, if_true, if_false, nI_1, nI_s1, mn_e, mb1_v, mb2_v, mb3_v, mb4_v, nI_clamp, nI_add, pk_mul, if_leT, if_leF, if_ltT, if_ltF, if_eqT, if_eqF, if_m1F, if_m1F2, if_m1T, if_m1ltT, if_m1leT, if_m1leF, if_m1ltF, if_e1T, if_e1F, if_1eT, if_1eF, if_le1T, if_le1F, if_1ltT, if_1ltF, iL0, iL2, iL3, iL4, iL5, iL6, iL7, iL8, iL9, iL10, iL20, iL21, iL22, iL31, iL32, iL40, iL46, iL48, iL57, iL64, iL65, iL80, iL81, iL90, iL96, iL97, iL100, iL122, iL126, iL127, iL500, iL1000, iL3000, iL9999999, h1, h2]
      try (unfold g_X7_pressLine_160; simp (disch := omega) only [mg_in, if10, if00, if_true, if_false, nI_1, nI_s1, mn_e, mb1_v, mb2_v, mb3_v, mb4_v, nI_clamp, nI_add, pk_mul, if_leT, if_leF, if_ltT, if_ltF, if_eqT, if_eqF, if_m1F, if_m1F2, if_m1T, if_m1ltT, if_m1leT, if_m1leF, if_m1ltF, if_e1T, if_e1F, if_1eT, if_1eF, if_le1T, if_le1F, if_1ltT, if_1ltF, iL0, iL2, iL3, iL4, iL5, iL6, iL7, iL8, iL9, iL10, iL20, iL21, iL22, iL31, iL32, iL40, iL46, iL48, iL57, iL64, iL65, iL80, iL81, iL90, iL96, iL97, iL100, iL122, iL126, iL127, iL500, iL1000, iL3000, iL9999999, h1, h2])
      unfold g_X7_pressLine_187
      simp (disch := omega) only [mg_in, if10, if00, if_true, if_false, nI_1, nI_s1, mn_e, mb1_v, mb2_v, mb3_v, mb4_v, nI_clamp, nI_add, pk_mul, if_leT, if_leF, if_ltT, if_ltF, if_eqT, if_eqF, if_m1F, if_m1F2, if_m1T, if_m1ltT, if_m1leT, if_m1leF, if_m1ltF, if_e1T, if_e1F, if_1eT, if_1eF, if_le1T, if_le1F, if_1ltT, if_1ltF, iL0, iL2, iL3, iL4, iL5, iL6, iL7, iL8, iL9, iL10, iL20, iL21, iL22, iL31, iL32, iL40, iL46, iL48, iL57, iL64, iL65, iL80, iL81, iL90, iL96, iL97, iL100, iL122, iL126, iL127, iL500, iL1000, iL3000, iL9999999, ea]
      exact p51_more ih1 (by omega) q
    · simp (disch := omega) only [mg_in, if10, if00, if_true, if_false, nI_1, nI_s1, mn_e, mb1_v, mb2_v, mb3_v, mb4_v, nI_clamp, nI_add, pk_mul, if_leT, if_leF, if_ltT, if_ltF, if_eqT, if_eqF, if_m1F, if_m1F2, if_m1T, if_m1ltT, if_m1leT, if_m1leF, if_m1ltF, if_e1T, if_e1F, if_1eT, if_1eF, if_le1T, if_le1F, if_1ltT, if_1ltF, iL0, iL2, iL3, iL4, iL5, iL6, iL7, iL8, iL9, iL10, iL20, iL21, iL22, iL31, iL32, iL40, iL46, iL48, iL57, iL64, iL65, iL80, iL81, iL90, iL96, iL97, iL100, iL122, iL126, iL127, iL500, iL1000, iL3000, iL9999999, hr, h1, h2, gd_t]
      unfold g_X7_pressLine_107
      simp (disch := omega) only [mg_in, if10, if00, if_true, if_false, nI_1, nI_s1, mn_e, mb1_v, mb2_v, mb3_v, mb4_v, nI_clamp, nI_add, pk_mul, if_leT, if_leF, if_ltT, if_ltF, if_eqT, if_eqF, if_m1F, if_m1F2, if_m1T, if_m1ltT, if_m1leT, if_m1leF, if_m1ltF, if_e1T, if_e1F, if_1eT, if_1eF, if_le1T, if_le1F, if_1ltT, if_1ltF, iL0, iL2, iL3, iL4, iL5, iL6, iL7, iL8, iL9, iL10, iL20, iL21, iL22, iL31, iL32, iL40, iL46, iL48, iL57, iL64, iL65, iL80, iL81, iL90, iL96, iL97, iL100, iL122, iL126, iL127, iL500, iL1000, iL3000, iL9999999, h1, h2]
      unfold g_X7_pressLine_136
      simp (disch := omega) only [mg_in, if10, if00, if_true, if_false, nI_1, nI_s1, mn_e, mb1_v, mb2_v, mb3_v, mb4_v, nI_clamp, nI_add, pk_mul, if_leT, if_leF, if_ltT, if_ltF, if_eqT, if_eqF, if_m1F, if_m1F2, if_m1T, if_m1ltT, if_m1leT, if_m1leF, if_m1ltF, if_e1T, if_e1F, if_1eT, if_1eF, if_le1T, if_le1F, if_1ltT, if_1ltF, iL0, iL2, iL3, iL4, iL5, iL6, iL7, iL8, iL9, iL10, iL20, iL21, iL22, iL31, iL32, iL40, iL46, iL48, iL57, iL64, iL65, iL80, iL81, iL90, iL96, iL97, iL100, iL122, iL126, iL127, iL500, iL1000, iL3000, iL9999999, h1, h2]
      try (unfold g_X7_pressLine_160; simp (disch := omega) only [mg_in, if10, if00, if_true, if_false, nI_1, nI_s1, mn_e, mb1_v, mb2_v, mb3_v, mb4_v, nI_clamp, nI_add, pk_mul, if_leT, if_leF, if_ltT, if_ltF, if_eqT, if_eqF, if_m1F, if_m1F2, if_m1T, if_m1ltT, if_m1leT, if_m1leF, if_m1ltF, if_e1T, if_e1F, if_1eT, if_1eF, if_le1T, if_le1F, if_1ltT, if_1ltF, iL0, iL2, iL3, iL4, iL5, iL6, iL7, iL8, iL9, iL10, iL20, iL21, iL22, iL31, iL32, iL40, iL46, iL48, iL57, iL64, iL65, iL80, iL81, iL90, iL96, iL97, iL100, iL122, iL126, iL127, iL500, iL1000, iL3000, iL9999999, h1, h2])
      unfold g_X7_pressLine_187
      simp (disch := omega) only [mg_in, if10, if00, if_true, if_false, nI_1, nI_s1, mn_e, mb1_v, mb2_v, mb3_v, mb4_v, nI_clamp, nI_add, pk_mul, if_leT, if_leF, if_ltT, if_ltF, if_eqT, if_eqF, if_m1F, if_m1F2, if_m1T, if_m1ltT, if_m1leT, if_m1leF, if_m1ltF, if_e1T, if_e1F, if_1eT, if_1eF, if_le1T, if_le1F, if_1ltT, if_1ltF, iL0, iL2, iL3, iL4, iL5, iL6, iL7, iL8, iL9, iL10, iL20, iL21, iL22, iL31, iL32, iL40, iL46, iL48, iL57, iL64, iL65, iL80, iL81, iL90, iL96, iL97, iL100, iL122, iL126, iL127, iL500, iL1000, iL3000, iL9999999, ea]
      exact p51_more ih1 (by omega) q
    · simp (disch := omega) only [mg_in, if10, if00, if_true, if_false, nI_1, nI_s1, mn_e, mb1_v, mb2_v, mb3_v, mb4_v, nI_clamp, nI_add, pk_mul, if_leT, if_leF, if_ltT, if_ltF, if_eqT, if_eqF, if_m1F, if_m1F2, if_m1T, if_m1ltT, if_m1leT, if_m1leF, if_m1ltF, if_e1T, if_e1F, if_1eT, if_1eF, if_le1T, if_le1F, if_1ltT, if_1ltF, iL0, iL2, iL3, iL4, iL5, iL6, iL7, iL8, iL9, iL10, iL20, iL21, iL22, iL31, iL32, iL40, iL46, iL48, iL57, iL64, iL65, iL80, iL81, iL90, iL96, iL97, iL100, iL122, iL126, iL127, iL500, iL1000, iL3000, iL9999999, hr, h1, h2, gd_t]
      unfold g_X7_pressLine_107
      simp (disch := omega) only [mg_in, if10, if00, if_true, if_false, nI_1, nI_s1, mn_e, mb1_v, mb2_v, mb3_v, mb4_v, nI_clamp, nI_add, pk_mul, if_leT, if_leF, if_ltT, if_ltF, if_eqT, if_eqF, if_m1F, if_m1F2, if_m1T, if_m1ltT, if_m1leT, if_m1leF, if_m1ltF, if_e1T, if_e1F, if_1eT, if_1eF, if_le1T, if_le1F, if_1ltT, if_1ltF, iL0, iL2, iL3, iL4, iL5, iL6, iL7, iL8, iL9, iL10, iL20, iL21, iL22, iL31, iL32, iL40, iL46, iL48, iL57, iL64, iL65, iL80, iL81, iL90, iL96, iL97, iL100, iL122, iL126, iL127, iL500, iL1000, iL3000, iL9999999, h1, h2]
      unfold g_X7_pressLine_136
      simp (disch := omega) only [mg_in, if10, if00, if_true, if_false, nI_1, nI_s1, mn_e, mb1_v, mb2_v, mb3_v, mb4_v, nI_clamp, nI_add, pk_mul, if_leT, if_leF, if_ltT, if_ltF, if_eqT, if_eqF, if_m1F, if_m1F2, if_m1T, if_m1ltT, if_m1leT, if_m1leF, if_m1ltF, if_e1T, if_e1F, if_1eT, if_1eF, if_le1T, if_le1F, if_1ltT, if_1ltF, iL0, iL2, iL3, iL4, iL5, iL6, iL7, iL8, iL9, iL10, iL20, iL21, iL22, iL31, iL32, iL40, iL46, iL48, iL57, iL64, iL65, iL80, iL81, iL90, iL96, iL97, iL100, iL122, iL126, iL127, iL500, iL1000, iL3000, iL9999999, h1, h2]
      try (unfold g_X7_pressLine_160; simp (disch := omega) only [mg_in, if10, if00, if_true, if_false, nI_1, nI_s1, mn_e, mb1_v, mb2_v, mb3_v, mb4_v, nI_clamp, nI_add, pk_mul, if_leT, if_leF, if_ltT, if_ltF, if_eqT, if_eqF, if_m1F, if_m1F2, if_m1T, if_m1ltT, if_m1leT, if_m1leF, if_m1ltF, if_e1T, if_e1F, if_1eT, if_1eF, if_le1T, if_le1F, if_1ltT, if_1ltF, iL0, iL2, iL3, iL4, iL5, iL6, iL7, iL8, iL9, iL10, iL20, iL21, iL22, iL31, iL32, iL40, iL46, iL48, iL57, iL64, iL65, iL80, iL81, iL90, iL96, iL97, iL100, iL122, iL126, iL127, iL500, iL1000, iL3000, iL9999999, h1, h2])
      unfold g_X7_pressLine_187
      simp (disch := omega) only [mg_in, if10, if00, if_true, if_false, nI_1, nI_s1, mn_e, mb1_v, mb2_v, mb3_v, mb4_v, nI_clamp, nI_add, pk_mul, if_leT, if_leF, if_ltT, if_ltF, if_eqT, if_eqF, if_m1F, if_m1F2, if_m1T, if_m1ltT, if_m1leT, if_m1leF, if_m1ltF, if_e1T, if_e1F, if_1eT, if_1eF, if_le1T, if_le1F, if_1ltT, if_1ltF, iL0, iL2, iL3, iL4, iL5, iL6, iL7, iL8, iL9, iL10, iL20, iL21, iL22, iL31, iL32, iL40, iL46, iL48, iL57, iL64, iL65, iL80, iL81, iL90, iL96, iL97, iL100, iL122, iL126, iL127, iL500, iL1000, iL3000, iL9999999, ea, fl_t, hb]
      exact Or.inr ⟨trivial, j, by omega, by omega, Or.inr q⟩
    · simp (disch := omega) only [mg_in, if10, if00, if_true, if_false, nI_1, nI_s1, mn_e, mb1_v, mb2_v, mb3_v, mb4_v, nI_clamp, nI_add, pk_mul, if_leT, if_leF, if_ltT, if_ltF, if_eqT, if_eqF, if_m1F, if_m1F2, if_m1T, if_m1ltT, if_m1leT, if_m1leF, if_m1ltF, if_e1T, if_e1F, if_1eT, if_1eF, if_le1T, if_le1F, if_1ltT, if_1ltF, iL0, iL2, iL3, iL4, iL5, iL6, iL7, iL8, iL9, iL10, iL20, iL21, iL22, iL31, iL32, iL40, iL46, iL48, iL57, iL64, iL65, iL80, iL81, iL90, iL96, iL97, iL100, iL122, iL126, iL127, iL500, iL1000, iL3000, iL9999999, hr, h1, h2, gd_t]
      unfold g_X7_pressLine_107
      simp (disch := omega) only [mg_in, if10, if00, if_true, if_false, nI_1, nI_s1, mn_e, mb1_v, mb2_v, mb3_v, mb4_v, nI_clamp, nI_add, pk_mul, if_leT, if_leF, if_ltT, if_ltF, if_eqT, if_eqF, if_m1F, if_m1F2, if_m1T, if_m1ltT, if_m1leT, if_m1leF, if_m1ltF, if_e1T, if_e1F, if_1eT, if_1eF, if_le1T, if_le1F, if_1ltT, if_1ltF, iL0, iL2, iL3, iL4, iL5, iL6, iL7, iL8, iL9, iL10, iL20, iL21, iL22, iL31, iL32, iL40, iL46, iL48, iL57, iL64, iL65, iL80, iL81, iL90, iL96, iL97, iL100, iL122, iL126, iL127, iL500, iL1000, iL3000, iL9999999, h1, h2]
      unfold g_X7_pressLine_136
      simp (disch := omega) only [mg_in, if10, if00, if_true, if_false, nI_1, nI_s1, mn_e, mb1_v, mb2_v, mb3_v, mb4_v, nI_clamp, nI_add, pk_mul, if_leT, if_leF, if_ltT, if_ltF, if_eqT, if_eqF, if_m1F, if_m1F2, if_m1T, if_m1ltT, if_m1leT, if_m1leF, if_m1ltF, if_e1T, if_e1F, if_1eT, if_1eF, if_le1T, if_le1F, if_1ltT, if_1ltF, iL0, iL2, iL3, iL4, iL5, iL6, iL7, iL8, iL9, iL10, iL20, iL21, iL22, iL31, iL32, iL40, iL46, iL48, iL57, iL64, iL65, iL80, iL81, iL90, iL96, iL97, iL100, iL122, iL126, iL127, iL500, iL1000, iL3000, iL9999999, h1, h2]
      try (unfold g_X7_pressLine_160; simp (disch := omega) only [mg_in, if10, if00, if_true, if_false, nI_1, nI_s1, mn_e, mb1_v, mb2_v, mb3_v, mb4_v, nI_clamp, nI_add, pk_mul, if_leT, if_leF, if_ltT, if_ltF, if_eqT, if_eqF, if_m1F, if_m1F2, if_m1T, if_m1ltT, if_m1leT, if_m1leF, if_m1ltF, if_e1T, if_e1F, if_1eT, if_1eF, if_le1T, if_le1F, if_1ltT, if_1ltF, iL0, iL2, iL3, iL4, iL5, iL6, iL7, iL8, iL9, iL10, iL20, iL21, iL22, iL31, iL32, iL40, iL46, iL48, iL57, iL64, iL65, iL80, iL81, iL90, iL96, iL97, iL100, iL122, iL126, iL127, iL500, iL1000, iL3000, iL9999999, h1, h2])
      unfold g_X7_pressLine_187
      simp (disch := omega) only [mg_in, if10, if00, if_true, if_false, nI_1, nI_s1, mn_e, mb1_v, mb2_v, mb3_v, mb4_v, nI_clamp, nI_add, pk_mul, if_leT, if_leF, if_ltT, if_ltF, if_eqT, if_eqF, if_m1F, if_m1F2, if_m1T, if_m1ltT, if_m1leT, if_m1leF, if_m1ltF, if_e1T, if_e1F, if_1eT, if_1eF, if_le1T, if_le1F, if_1ltT, if_1ltF, iL0, iL2, iL3, iL4, iL5, iL6, iL7, iL8, iL9, iL10, iL20, iL21, iL22, iL31, iL32, iL40, iL46, iL48, iL57, iL64, iL65, iL80, iL81, iL90, iL96, iL97, iL100, iL122, iL126, iL127, iL500, iL1000, iL3000, iL9999999, ea, fl_t, hb]
      exact Or.inr ⟨trivial, j, by omega, by omega, Or.inr q⟩
theorem inA_np {X : Nat → Nat} {n x k : Nat} (hk : k < n + 1) (h : X n = x) : inA X n x k = X k := by
  by_cases q : k < n
  · exact inA_l q
  · obtain rfl : k = n := by omega
    rw [inA_e rfl, h]
theorem tell_sim {F C c np s g0 x y : Nat} {td : Bool} {sz p : Int32} {w : Int64} {ws so : Int32} {X Y : Nat → Nat} {pf pl tx Mpr Mpf Mpt : Nat → Int32} (hF : 4000 ≤ F) (hs : s ≤ 1) (P : PST C c np td X Y) (hc1 : 1 ≤ c) (hnp : np < 20) (hR0 : SR 0 c X Y pf pl) (hR : SR (22 * s) np X Y Mpf Mpt) (hr : Mpr s = nI np) (hxy : x < y) (hy : y < C) (hg : g0 < 2 ^ 31) :
    (∃ (c' : Nat) (td' : Bool) (X' Y' : Nat → Nat) (pf' pl' Mpf' Mpt' : Nat → Int32), f_X2_tell F (nI x) (nI y) pf pl (nI c) (bI td) = some (1, pf', pl', nI c', bI td') ∧ g_X7_pressLine_51 F F (nI g0) (nI x) (nI y) (nI (22 * s)) tx sz Mpr Mpf Mpt p (nI s) (-1) w ws so = g_X7_pressLine_215 F (nI x) (nI y) tx sz Mpr Mpf Mpt p (nI s) (-1) w ws so ∧ f_X7_keepPress F (nI x) (nI y) Mpr Mpf Mpt (nI s) = some (upd Mpr s (nI (np + 1)), Mpf', Mpt') ∧ fr 22 s Mpf' Mpf ∧ fr 22 s Mpt' Mpt ∧ PST C c' (np + 1) td' X' Y' ∧ 1 ≤ c' ∧ SR 0 c' X' Y' pf' pl' ∧ SR (22 * s) (np + 1) X' Y' Mpf' Mpt') ∨
    (f_X2_tell F (nI x) (nI y) pf pl (nI c) (bI td) = some (0, pf, pl, nI c, bI td) ∧ g_X7_pressLine_51 F F (nI g0) (nI x) (nI y) (nI (22 * s)) tx sz Mpr Mpf Mpt p (nI s) (-1) w ws so = some (Mpr, Mpf, Mpt, p, nI g0, w, ws, so)) := by
  obtain ⟨PV0, hnp2, hC, hst⟩ := P
  have hst := hst.resolve_left (by omega)
  obtain ⟨_, hl1, hl2, hst⟩ := hst
  have PV1 := PV0
  obtain ⟨v1, v2⟩ := PV1
  have hc : c ≤ 20 := by rcases hst with ⟨_, q⟩ | ⟨_, q⟩ <;> omega
  have hnc : np ≤ c := by rcases hst with ⟨_, q⟩ | ⟨_, q⟩ <;> omega
  have hloop := p51_loop (F := F) (sz := sz) (p := p) (w := w) (ws := ws) (so := so) (tx := tx) hg hs hnp2 hr hR (fun k hk => (v1 k (by omega)).1) hxy (show y < 100 by omega) np 0 F (by omega) (by omega)
  rw [Nat.add_zero] at hloop
  obtain ⟨z, z1, z2⟩ := find_ok (F := F) hF (show 21 ≤ 100 by omega) (show c ≤ 21 by omega) hR0 (show x < 100 by omega) (show y < 100 by omega)
  unfold f_X2_tell
  rw [z1, mb1_v]
  rcases z2 with ⟨z2, z3⟩ | ⟨j, j1, j2, j3, j4⟩
  · subst z2
    rw [if_m1T]
    rcases t69_loop (F := F) (t := bI td) (show c ≤ 21 by omega) hR0 (fun k hk => (v1 k hk).1) hxy (show y < 100 by omega) c 0 F (by omega) (by omega) with ⟨a1, j, a2, a3, a4⟩ | ⟨a1, a2⟩
    · refine Or.inr ⟨a1, ?_⟩
      rcases hloop with ⟨b1, b2⟩ | ⟨b1, b2⟩
      · exfalso
        by_cases q : j < np
        · exact (b2 j (by omega) q).2 a4
        · obtain rfl : j = c - 1 := by rcases hst with ⟨_, q⟩ | ⟨_, q⟩ <;> omega
          rw [hl1, hl2] at a4
          unfold cr at a4
          omega
      · exact b1
    · obtain ⟨p0, _, p2, p3, p4, p5⟩ := plc_loop (F := F) (show c ≤ 21 by omega) hR0 (fun k hk => (v1 k hk).1) hxy (show y < 100 by omega) c 0 F (by omega) (by omega)
      have hlast := z3 (c - 1) (by omega)
      rw [hl1, hl2] at hlast
      have hp : p0 ≤ c - 1 := by
        apply Nat.le_of_not_lt
        intro q
        have := p4 (c - 1) (by omega) (by omega)
        rw [hl1, hl2] at this
        omega
      have k1 : ∀ k, k < p0 → Y k - X k < y - x ∨ (Y k - X k = y - x ∧ X k < x) := fun k hk => p4 k (by omega) hk
      have k2 : ∀ k, p0 ≤ k → k < c → y - x < Y k - X k ∨ (Y k - X k = y - x ∧ x < X k) := by
        intro k h1 h2
        have b1 := p5 (by omega)
        have b2 := z3 p0 (by omega)
        have b3 := v1 p0 (by omega)
        by_cases e : k = p0
        · subst e; omega
        · have b4 := (v2 p0 k (by omega) h2).1
          omega
      obtain ⟨pf', pl', c1, c2⟩ := ins_ok (F := F) (N := 21) hF (by omega) (show c < 21 by omega) p2 hR0 (show x < 100 by omega) (show y < 100 by omega)
      have hpn : p0 ≤ np := by rcases hst with ⟨_, q⟩ | ⟨_, q⟩ <;> omega
      obtain ⟨Mpf', Mpt', d1, d2, d3, d4⟩ := keep_ok (F := F) (p := p0) hF hs (show np ≤ 21 by omega) hr hpn (fun k hk => (v1 k (by omega)).1) hR hxy (show y < 100 by omega) (fun k hk => by have := k1 k hk; omega) (fun k h1 h2 => k2 k h1 (by omega))
      refine Or.inl ⟨c + 1, td, inA X p0 x, inA Y p0 y, pf', pl', Mpf', Mpt', ?_, ?_, d1, d2, d3, ⟨PV_ins PV0 hxy hy p2 k1 k2 (fun k hk => a2 k (by omega) hk), by omega, hC, Or.inr ⟨by omega, ?_, ?_, ?_⟩⟩, by omega, c2, d4⟩
      · refine Eq.trans a1 ?_
        unfold f_X2_placeFor
        rw [iL0, p3, mb1_v, c1, mb4_v, mg_t (by decide)]
      · rcases hloop with ⟨b1, b2⟩ | ⟨b1, k, b2, b3, b4⟩
        · exact b1
        · exfalso
          rcases b4 with q | q
          · exact z3 k (by omega) q
          · exact a2 k (by omega) (by omega) q
      · rw [inA_g (by omega)]; exact hl1
      · rw [inA_g (by omega)]; exact hl2
      · rcases hst with ⟨q1, q⟩ | ⟨q1, q⟩
        · exact Or.inl ⟨q1, by omega⟩
        · exact Or.inr ⟨q1, by omega⟩
  · subst j2
    have e1 : nI c - 1 = nI (c - 1) := nI_s1 hc1
    rw [if_m1F (by omega), e1]
    unfold g_X2_tell_40
    by_cases q : td = false ∧ j = c - 1
    · obtain ⟨q1, q2⟩ := q
      subst q1 q2
      have hn1 : np + 1 = c := by rcases hst with ⟨_, q⟩ | ⟨q, _⟩
                                  · exact q
                                  · cases q
      have hnl : np = c - 1 := by omega
      have hx0 : x = 0 := by rw [← j3]; exact hl1
      have hy0 : y = C - 1 := by rw [← j4]; exact hl2
      have k1 : ∀ k, k < np → Y k - X k < y - x ∨ (Y k - X k = y - x ∧ X k < x) := by
        intro k hk
        have := (v2 k (c - 1) (by omega) (by omega)).1
        rw [hl1, hl2] at this
        omega
      obtain ⟨Mpf', Mpt', d1, d2, d3, d4⟩ := keep_ok (F := F) (p := np) hF hs (show np ≤ 21 by omega) hr (by omega) (fun k hk => (v1 k (by omega)).1) hR hxy (show y < 100 by omega) (fun k hk => by have := k1 k hk; omega) (fun k h1 h2 => by omega)
      refine Or.inl ⟨c, true, X, Y, pf, pl, Mpf', Mpt', ?_, ?_, d1, d2, d3, ⟨PV0, by omega, hC, Or.inr ⟨by omega, hl1, hl2, Or.inr ⟨rfl, by omega⟩⟩⟩, hc1, hR0, fun k hk => ?_⟩
      · rw [if_eqT rfl, bI_f, if00, if00, if10, mg_t (by decide)]; rfl
      · rcases hloop with ⟨b1, b2⟩ | ⟨b1, k, b2, b3, b4⟩
        · exact b1
        · exfalso
          have a1 := k1 k b3
          have a2 := v1 k (by omega)
          rcases b4 with q | q
          · omega
          · unfold cr at q
            omega
      · have := d4 k hk
        rw [inA_np hk (by rw [hnl]; exact j3), inA_np hk (by rw [hnl]; exact j4)] at this
        exact this
    · refine Or.inr ⟨?_, ?_⟩
      · cases td with
        | false =>
          rw [if_eqF (fun e => q ⟨rfl, e⟩) (by omega) (by omega), bI_f, if00, if00, mg_t (by decide)]
        | true =>
          rw [bI_t]
          by_cases e : j = c - 1
          · rw [if_eqT e, if10, if10, mg_t (by decide)]
          · rw [if_eqF e (by omega) (by omega), if10, mg_t (by decide)]
      · rcases hloop with ⟨b1, b2⟩ | ⟨b1, b2⟩
        · exfalso
          have hj : j < np := by
            rcases hst with ⟨q1, q2⟩ | ⟨q1, q2⟩
            · have : ¬ j = c - 1 := fun e => q ⟨q1, e⟩
              omega
            · omega
          exact (b2 j (by omega) hj).1 ⟨j3, j4⟩
        · exact b1
theorem isp_1 {F s np : Nat} {v1 v2 : Int32} {Mpr f g : Nat → Int32} (hs : s ≤ 1) (hnp : np ≤ 21) (hr : Mpr s = nI np) : ∀ (r j fu : Nat), j + r = np → r < fu → g_X7_isPress_34 F fu v1 v2 1 (nI (22 * s + j)) Mpr f g (nI s) = some 1 := by
  intro r
  induction r with
  | zero =>
    intro j fu he hf
    obtain ⟨fu, rfl⟩ : ∃ z, fu = z + 1 := ⟨fu - 1, by omega⟩
    rw [g_X7_isPress_34_s, mg_t (c := vp_nar .boolean 1 = 1) (by decide)]
    simp (disch := omega) only [mg_in, if10, if00, if_true, if_false, nI_1, nI_s1, mn_e, mb1_v, mb2_v, mb3_v, mb4_v, nI_clamp, nI_add, pk_mul, if_leT, if_leF, if_ltT, if_ltF, if_eqT, if_eqF, if_m1F, if_m1F2, if_m1T, if_m1ltT, if_m1leT, if_m1leF, if_m1ltF, if_e1T, if_e1F, if_1eT, if_1eF, if_le1T, if_le1F, if_1ltT, if_1ltF, iL0, iL2, iL3, iL4, iL5, iL6, iL7, iL8, iL9, iL10, iL20, iL21, iL22, iL31, iL32, iL40, iL46, iL48, iL57, iL64, iL65, iL80, iL81, iL90, iL96, iL97, iL100, iL122, iL126, iL127, iL500, iL1000, iL3000, iL9999999, hr]
  | succ r ih =>
    intro j fu he hf
    obtain ⟨fu, rfl⟩ : ∃ z, fu = z + 1 := ⟨fu - 1, by omega⟩
    have i1 := ih (j + 1) fu (by omega) (by omega)
    rw [g_X7_isPress_34_s]
    have ea : 22 * s + j + 1 = 22 * s + (j + 1) := by omega
    simp (disch := omega) only [mg_in, if10, if00, if_true, if_false, nI_1, nI_s1, mn_e, mb1_v, mb2_v, mb3_v, mb4_v, nI_clamp, nI_add, pk_mul, if_leT, if_leF, if_ltT, if_ltF, if_eqT, if_eqF, if_m1F, if_m1F2, if_m1T, if_m1ltT, if_m1leT, if_m1leF, if_m1ltF, if_e1T, if_e1F, if_1eT, if_1eF, if_le1T, if_le1F, if_1ltT, if_1ltF, iL0, iL2, iL3, iL4, iL5, iL6, iL7, iL8, iL9, iL10, iL20, iL21, iL22, iL31, iL32, iL40, iL46, iL48, iL57, iL64, iL65, iL80, iL81, iL90, iL96, iL97, iL100, iL122, iL126, iL127, iL500, iL1000, iL3000, iL9999999, hr, ea, i1]
theorem isp_0 {F s np x y : Nat} {X Y : Nat → Nat} {Mpr f g : Nat → Int32} (hs : s ≤ 1) (hnp : np ≤ 21) (hr : Mpr s = nI np) (hR : SR (22 * s) np X Y f g) (hx : x < 100) (hy : y < 100) : ∀ (r j fu : Nat), j + r = np → r < fu →
    (g_X7_isPress_34 F fu (nI x) (nI y) 0 (nI (22 * s + j)) Mpr f g (nI s) = some 0 ∧ ∀ k, j ≤ k → k < np → ¬ (X k = x ∧ Y k = y)) ∨ (g_X7_isPress_34 F fu (nI x) (nI y) 0 (nI (22 * s + j)) Mpr f g (nI s) = some 1 ∧ ∃ k, j ≤ k ∧ k < np ∧ X k = x ∧ Y k = y) := by
  intro r
  induction r with
  | zero =>
    intro j fu he hf
    obtain ⟨fu, rfl⟩ : ∃ z, fu = z + 1 := ⟨fu - 1, by omega⟩
    refine Or.inl ⟨?_, fun k h1 h2 => by omega⟩
    rw [g_X7_isPress_34_s, mg_t (c := vp_nar .boolean 0 = 0) (by decide)]
    simp (disch := omega) only [mg_in, if10, if00, if_true, if_false, nI_1, nI_s1, mn_e, mb1_v, mb2_v, mb3_v, mb4_v, nI_clamp, nI_add, pk_mul, if_leT, if_leF, if_ltT, if_ltF, if_eqT, if_eqF, if_m1F, if_m1F2, if_m1T, if_m1ltT, if_m1leT, if_m1leF, if_m1ltF, if_e1T, if_e1F, if_1eT, if_1eF, if_le1T, if_le1F, if_1ltT, if_1ltF, iL0, iL2, iL3, iL4, iL5, iL6, iL7, iL8, iL9, iL10, iL20, iL21, iL22, iL31, iL32, iL40, iL46, iL48, iL57, iL64, iL65, iL80, iL81, iL90, iL96, iL97, iL100, iL122, iL126, iL127, iL500, iL1000, iL3000, iL9999999, hr]
  | succ r ih =>
    intro j fu he hf
    obtain ⟨fu, rfl⟩ : ∃ z, fu = z + 1 := ⟨fu - 1, by omega⟩
    obtain ⟨h1, h2, h3, h4⟩ := hR j (by omega)
    have i1 := isp_1 (F := F) (v1 := nI x) (v2 := nI y) (f := f) (g := g) hs hnp hr r (j + 1) fu (by omega) (by omega)
    have ea : 22 * s + j + 1 = 22 * s + (j + 1) := by omega
    by_cases q : X j = x ∧ Y j = y
    · refine Or.inr ⟨?_, j, by omega, by omega, q⟩
      obtain ⟨q1, q2⟩ := q
      rw [g_X7_isPress_34_s]
      simp (disch := omega) only [mg_in, if10, if00, if_true, if_false, nI_1, nI_s1, mn_e, mb1_v, mb2_v, mb3_v, mb4_v, nI_clamp, nI_add, pk_mul, if_leT, if_leF, if_ltT, if_ltF, if_eqT, if_eqF, if_m1F, if_m1F2, if_m1T, if_m1ltT, if_m1leT, if_m1leF, if_m1ltF, if_e1T, if_e1F, if_1eT, if_1eF, if_le1T, if_le1F, if_1ltT, if_1ltF, iL0, iL2, iL3, iL4, iL5, iL6, iL7, iL8, iL9, iL10, iL20, iL21, iL22, iL31, iL32, iL40, iL46, iL48, iL57, iL64, iL65, iL80, iL81, iL90, iL96, iL97, iL100, iL122, iL126, iL127, iL500, iL1000, iL3000, iL9999999, hr, ea, h1, h2, i1]
    · have st : g_X7_isPress_34 F (fu + 1) (nI x) (nI y) 0 (nI (22 * s + j)) Mpr f g (nI s) = g_X7_isPress_34 F fu (nI x) (nI y) 0 (nI (22 * s + (j + 1))) Mpr f g (nI s) := by
        rw [g_X7_isPress_34_s]
        by_cases q1 : X j = x
        · have q2 : Y j ≠ y := fun w => q ⟨q1, w⟩
          simp (disch := omega) only [mg_in, if10, if00, if_true, if_false, nI_1, nI_s1, mn_e, mb1_v, mb2_v, mb3_v, mb4_v, nI_clamp, nI_add, pk_mul, if_leT, if_leF, if_ltT, if_ltF, if_eqT, if_eqF, if_m1F, if_m1F2, if_m1T, if_m1ltT, if_m1leT, if_m1leF, if_m1ltF, if_e1T, if_e1F, if_1eT, if_1eF, if_le1T, if_le1F, if_1ltT, if_1ltF, iL0, iL2, iL3, iL4, iL5, iL6, iL7, iL8, iL9, iL10, iL20, iL21, iL22, iL31, iL32, iL40, iL46, iL48, iL57, iL64, iL65, iL80, iL81, iL90, iL96, iL97, iL100, iL122, iL126, iL127, iL500, iL1000, iL3000, iL9999999, hr, ea, h1, h2]
        · simp (disch := omega) only [mg_in, if10, if00, if_true, if_false, nI_1, nI_s1, mn_e, mb1_v, mb2_v, mb3_v, mb4_v, nI_clamp, nI_add, pk_mul, if_leT, if_leF, if_ltT, if_ltF, if_eqT, if_eqF, if_m1F, if_m1F2, if_m1T, if_m1ltT, if_m1leT, if_m1leF, if_m1ltF, if_e1T, if_e1F, if_1eT, if_1eF, if_le1T, if_le1F, if_1ltT, if_1ltF, iL0, iL2, iL3, iL4, iL5, iL6, iL7, iL8, iL9, iL10, iL20, iL21, iL22, iL31, iL32, iL40, iL46, iL48, iL57, iL64, iL65, iL80, iL81, iL90, iL96, iL97, iL100, iL122, iL126, iL127, iL500, iL1000, iL3000, iL9999999, hr, ea, h1, h2]
      rw [st]
      rcases ih (j + 1) fu (by omega) (by omega) with ⟨w1, w2⟩ | ⟨w1, k, w2, w3, w4⟩
      · refine Or.inl ⟨w1, fun k k1 k2 => ?_⟩
        by_cases e : k = j
        · rw [e]; exact q
        · exact w2 k (by omega) k2
      · exact Or.inr ⟨w1, k, by omega, w3, w4⟩
theorem isv_1 {F s np : Nat} {v1 v2 : Int32} {Mpr f g : Nat → Int32} (hs : s ≤ 1) (hnp : np ≤ 40) (hr : Mpr s = nI np) : ∀ (r j fu : Nat), j + r = np → r < fu → g_X7_isVia_11 F fu v1 v2 1 (nI (40 * s + j)) Mpr f g (nI s) = some 1 := by
  intro r
  induction r with
  | zero =>
    intro j fu he hf
    obtain ⟨fu, rfl⟩ : ∃ z, fu = z + 1 := ⟨fu - 1, by omega⟩
    rw [g_X7_isVia_11_s, mg_t (c := vp_nar .boolean 1 = 1) (by decide)]
    simp (disch := omega) only [mg_in, if10, if00, if_true, if_false, nI_1, nI_s1, mn_e, mb1_v, mb2_v, mb3_v, mb4_v, nI_clamp, nI_add, pk_mul, if_leT, if_leF, if_ltT, if_ltF, if_eqT, if_eqF, if_m1F, if_m1F2, if_m1T, if_m1ltT, if_m1leT, if_m1leF, if_m1ltF, if_e1T, if_e1F, if_1eT, if_1eF, if_le1T, if_le1F, if_1ltT, if_1ltF, iL0, iL2, iL3, iL4, iL5, iL6, iL7, iL8, iL9, iL10, iL20, iL21, iL22, iL31, iL32, iL40, iL46, iL48, iL57, iL64, iL65, iL80, iL81, iL90, iL96, iL97, iL100, iL122, iL126, iL127, iL500, iL1000, iL3000, iL9999999, hr]
  | succ r ih =>
    intro j fu he hf
    obtain ⟨fu, rfl⟩ : ∃ z, fu = z + 1 := ⟨fu - 1, by omega⟩
    have i1 := ih (j + 1) fu (by omega) (by omega)
    rw [g_X7_isVia_11_s]
    have ea : 40 * s + j + 1 = 40 * s + (j + 1) := by omega
    simp (disch := omega) only [mg_in, if10, if00, if_true, if_false, nI_1, nI_s1, mn_e, mb1_v, mb2_v, mb3_v, mb4_v, nI_clamp, nI_add, pk_mul, if_leT, if_leF, if_ltT, if_ltF, if_eqT, if_eqF, if_m1F, if_m1F2, if_m1T, if_m1ltT, if_m1leT, if_m1leF, if_m1ltF, if_e1T, if_e1F, if_1eT, if_1eF, if_le1T, if_le1F, if_1ltT, if_1ltF, iL0, iL2, iL3, iL4, iL5, iL6, iL7, iL8, iL9, iL10, iL20, iL21, iL22, iL31, iL32, iL40, iL46, iL48, iL57, iL64, iL65, iL80, iL81, iL90, iL96, iL97, iL100, iL122, iL126, iL127, iL500, iL1000, iL3000, iL9999999, hr, ea, i1]
theorem isv_0 {F s np x y : Nat} {X Y : Nat → Nat} {Mpr f g : Nat → Int32} (hs : s ≤ 1) (hnp : np ≤ 40) (hr : Mpr s = nI np) (hR : SR (40 * s) np X Y f g) (hx : x < 100) (hy : y < 100) : ∀ (r j fu : Nat), j + r = np → r < fu →
    (g_X7_isVia_11 F fu (nI x) (nI y) 0 (nI (40 * s + j)) Mpr f g (nI s) = some 0 ∧ ∀ k, j ≤ k → k < np → ¬ (X k = x ∧ Y k = y)) ∨ (g_X7_isVia_11 F fu (nI x) (nI y) 0 (nI (40 * s + j)) Mpr f g (nI s) = some 1 ∧ ∃ k, j ≤ k ∧ k < np ∧ X k = x ∧ Y k = y) := by
  intro r
  induction r with
  | zero =>
    intro j fu he hf
    obtain ⟨fu, rfl⟩ : ∃ z, fu = z + 1 := ⟨fu - 1, by omega⟩
    refine Or.inl ⟨?_, fun k h1 h2 => by omega⟩
    rw [g_X7_isVia_11_s, mg_t (c := vp_nar .boolean 0 = 0) (by decide)]
    simp (disch := omega) only [mg_in, if10, if00, if_true, if_false, nI_1, nI_s1, mn_e, mb1_v, mb2_v, mb3_v, mb4_v, nI_clamp, nI_add, pk_mul, if_leT, if_leF, if_ltT, if_ltF, if_eqT, if_eqF, if_m1F, if_m1F2, if_m1T, if_m1ltT, if_m1leT, if_m1leF, if_m1ltF, if_e1T, if_e1F, if_1eT, if_1eF, if_le1T, if_le1F, if_1ltT, if_1ltF, iL0, iL2, iL3, iL4, iL5, iL6, iL7, iL8, iL9, iL10, iL20, iL21, iL22, iL31, iL32, iL40, iL46, iL48, iL57, iL64, iL65, iL80, iL81, iL90, iL96, iL97, iL100, iL122, iL126, iL127, iL500, iL1000, iL3000, iL9999999, hr]
  | succ r ih =>
    intro j fu he hf
    obtain ⟨fu, rfl⟩ : ∃ z, fu = z + 1 := ⟨fu - 1, by omega⟩
    obtain ⟨h1, h2, h3, h4⟩ := hR j (by omega)
    have i1 := isv_1 (F := F) (v1 := nI x) (v2 := nI y) (f := f) (g := g) hs hnp hr r (j + 1) fu (by omega) (by omega)
    have ea : 40 * s + j + 1 = 40 * s + (j + 1) := by omega
    by_cases q : X j = x ∧ Y j = y
    · refine Or.inr ⟨?_, j, by omega, by omega, q⟩
      obtain ⟨q1, q2⟩ := q
      rw [g_X7_isVia_11_s]
      simp (disch := omega) only [mg_in, if10, if00, if_true, if_false, nI_1, nI_s1, mn_e, mb1_v, mb2_v, mb3_v, mb4_v, nI_clamp, nI_add, pk_mul, if_leT, if_leF, if_ltT, if_ltF, if_eqT, if_eqF, if_m1F, if_m1F2, if_m1T, if_m1ltT, if_m1leT, if_m1leF, if_m1ltF, if_e1T, if_e1F, if_1eT, if_1eF, if_le1T, if_le1F, if_1ltT, if_1ltF, iL0, iL2, iL3, iL4, iL5, iL6, iL7, iL8, iL9, iL10, iL20, iL21, iL22, iL31, iL32, iL40, iL46, iL48, iL57, iL64, iL65, iL80, iL81, iL90, iL96, iL97, iL100, iL122, iL126, iL127, iL500, iL1000, iL3000, iL9999999, hr, ea, h1, h2, i1]
    · have st : g_X7_isVia_11 F (fu + 1) (nI x) (nI y) 0 (nI (40 * s + j)) Mpr f g (nI s) = g_X7_isVia_11 F fu (nI x) (nI y) 0 (nI (40 * s + (j + 1))) Mpr f g (nI s) := by
        rw [g_X7_isVia_11_s]
        by_cases q1 : X j = x
        · have q2 : Y j ≠ y := fun w => q ⟨q1, w⟩
          simp (disch := omega) only [mg_in, if10, if00, if_true, if_false, nI_1, nI_s1, mn_e, mb1_v, mb2_v, mb3_v, mb4_v, nI_clamp, nI_add, pk_mul, if_leT, if_leF, if_ltT, if_ltF, if_eqT, if_eqF, if_m1F, if_m1F2, if_m1T, if_m1ltT, if_m1leT, if_m1leF, if_m1ltF, if_e1T, if_e1F, if_1eT, if_1eF, if_le1T, if_le1F, if_1ltT, if_1ltF, iL0, iL2, iL3, iL4, iL5, iL6, iL7, iL8, iL9, iL10, iL20, iL21, iL22, iL31, iL32, iL40, iL46, iL48, iL57, iL64, iL65, iL80, iL81, iL90, iL96, iL97, iL100, iL122, iL126, iL127, iL500, iL1000, iL3000, iL9999999, hr, ea, h1, h2]
        · simp (disch := omega) only [mg_in, if10, if00, if_true, if_false, nI_1, nI_s1, mn_e, mb1_v, mb2_v, mb3_v, mb4_v, nI_clamp, nI_add, pk_mul, if_leT, if_leF, if_ltT, if_ltF, if_eqT, if_eqF, if_m1F, if_m1F2, if_m1T, if_m1ltT, if_m1leT, if_m1leF, if_m1ltF, if_e1T, if_e1F, if_1eT, if_1eF, if_le1T, if_le1F, if_1ltT, if_1ltF, iL0, iL2, iL3, iL4, iL5, iL6, iL7, iL8, iL9, iL10, iL20, iL21, iL22, iL31, iL32, iL40, iL46, iL48, iL57, iL64, iL65, iL80, iL81, iL90, iL96, iL97, iL100, iL122, iL126, iL127, iL500, iL1000, iL3000, iL9999999, hr, ea, h1, h2]
      rw [st]
      rcases ih (j + 1) fu (by omega) (by omega) with ⟨w1, w2⟩ | ⟨w1, k, w2, w3, w4⟩
      · refine Or.inl ⟨w1, fun k k1 k2 => ?_⟩
        by_cases e : k = j
        · rw [e]; exact q
        · exact w2 k (by omega) k2
      · exact Or.inr ⟨w1, k, by omega, w3, w4⟩
theorem isvia_ok {F s nv x y : Nat} {U V : Nat → Nat} {Mvi f g : Nat → Int32} (hF : 4000 ≤ F) (hs : s ≤ 1) (hnv : nv ≤ 40) (hr : Mvi s = nI nv) (hR : SR (40 * s) nv U V f g) (hx : x < 100) (hy : y < 100) :
    (f_X7_isVia F (nI x) (nI y) Mvi f g (nI s) = some 0 ∧ ∀ k, k < nv → ¬ (U k = x ∧ V k = y)) ∨ (f_X7_isVia F (nI x) (nI y) Mvi f g (nI s) = some 1 ∧ ∃ k, k < nv ∧ U k = x ∧ V k = y) := by
  have e : f_X7_isVia F (nI x) (nI y) Mvi f g (nI s) = g_X7_isVia_11 F F (nI x) (nI y) 0 (nI (40 * s + 0)) Mvi f g (nI s) := by
    unfold f_X7_isVia
    rw [mn_e, iL40, pk_mul, Nat.add_zero]
  rw [e]
  rcases isv_0 (F := F) hs hnv hr hR hx hy nv 0 F (by omega) (by omega) with ⟨a1, a2⟩ | ⟨a1, k, _, a2, a3⟩
  · exact Or.inl ⟨a1, fun k hk => a2 k (by omega) hk⟩
  · exact Or.inr ⟨a1, k, a2, a3⟩
theorem ispress_ok {F C c np s x y : Nat} {td : Bool} {X Y : Nat → Nat} {Mcop Mpr f g : Nat → Int32} (hF : 4000 ≤ F) (hs : s ≤ 1) (P : PST C c np td X Y) (hc1 : 1 ≤ c) (hcop : Mcop s = nI C) (hC2 : 2 ≤ C) (hr : Mpr s = nI np) (hR : SR (22 * s) np X Y f g) (hx : x < 100) (hy : y < 100) :
    (f_X7_isPress F (nI x) (nI y) Mcop Mpr f g (nI s) = some 0 ∧ ∀ k, k < c → ¬ (X k = x ∧ Y k = y)) ∨ (f_X7_isPress F (nI x) (nI y) Mcop Mpr f g (nI s) = some 1 ∧ ∃ k, k < c ∧ X k = x ∧ Y k = y) := by
  obtain ⟨PV0, hnp2, hC, hst⟩ := P
  obtain ⟨_, hl1, hl2, hst⟩ := hst.resolve_left (by omega)
  have hnc : np ≤ c ∧ c ≤ np + 1 := by rcases hst with ⟨_, q⟩ | ⟨_, q⟩ <;> omega
  by_cases q : x = 0 ∧ y = C - 1
  · obtain ⟨q1, q2⟩ := q
    refine Or.inr ⟨?_, c - 1, by omega, by rw [hl1, q1], by rw [hl2, q2]⟩
    have i1 := isp_1 (F := F) (v1 := nI x) (v2 := nI y) (f := f) (g := g) hs (show np ≤ 21 by omega) hr np 0 F (by omega) (by omega)
    rw [Nat.add_zero] at i1
    unfold f_X7_isPress
    simp (disch := omega) only [mg_in, if10, if00, if_true, if_false, nI_1, nI_s1, mn_e, mb1_v, mb2_v, mb3_v, mb4_v, nI_clamp, nI_add, pk_mul, if_leT, if_leF, if_ltT, if_ltF, if_eqT, if_eqF, if_m1F, if_m1F2, if_m1T, if_m1ltT, if_m1leT, if_m1leF, if_m1ltF, if_e1T, if_e1F, if_1eT, if_1eF, if_le1T, if_le1F, if_1ltT, if_1ltF, iL0, iL2, iL3, iL4, iL5, iL6, iL7, iL8, iL9, iL10, iL20, iL21, iL22, iL31, iL32, iL40, iL46, iL48, iL57, iL64, iL65, iL80, iL81, iL90, iL96, iL97, iL100, iL122, iL126, iL127, iL500, iL1000, iL3000, iL9999999, hcop, i1]
  · have e : f_X7_isPress F (nI x) (nI y) Mcop Mpr f g (nI s) = g_X7_isPress_34 F F (nI x) (nI y) 0 (nI (22 * s + 0)) Mpr f g (nI s) := by
      unfold f_X7_isPress
      rw [Nat.add_zero]
      by_cases q1 : x = 0
      · have q2 : y ≠ C - 1 := fun w => q ⟨q1, w⟩
        simp (disch := omega) only [mg_in, if10, if00, if_true, if_false, nI_1, nI_s1, mn_e, mb1_v, mb2_v, mb3_v, mb4_v, nI_clamp, nI_add, pk_mul, if_leT, if_leF, if_ltT, if_ltF, if_eqT, if_eqF, if_m1F, if_m1F2, if_m1T, if_m1ltT, if_m1leT, if_m1leF, if_m1ltF, if_e1T, if_e1F, if_1eT, if_1eF, if_le1T, if_le1F, if_1ltT, if_1ltF, iL0, iL2, iL3, iL4, iL5, iL6, iL7, iL8, iL9, iL10, iL20, iL21, iL22, iL31, iL32, iL40, iL46, iL48, iL57, iL64, iL65, iL80, iL81, iL90, iL96, iL97, iL100, iL122, iL126, iL127, iL500, iL1000, iL3000, iL9999999, hcop]
      · simp (disch := omega) only [mg_in, if10, if00, if_true, if_false, nI_1, nI_s1, mn_e, mb1_v, mb2_v, mb3_v, mb4_v, nI_clamp, nI_add, pk_mul, if_leT, if_leF, if_ltT, if_ltF, if_eqT, if_eqF, if_m1F, if_m1F2, if_m1T, if_m1ltT, if_m1leT, if_m1leF, if_m1ltF, if_e1T, if_e1F, if_1eT, if_1eF, if_le1T, if_le1F, if_1ltT, if_1ltF, iL0, iL2, iL3, iL4, iL5, iL6, iL7, iL8, iL9, iL10, iL20, iL21, iL22, iL31, iL32, iL40, iL46, iL48, iL57, iL64, iL65, iL80, iL81, iL90, iL96, iL97, iL100, iL122, iL126, iL127, iL500, iL1000, iL3000, iL9999999, hcop]
    rw [e]
    rcases isp_0 (F := F) hs (show np ≤ 21 by omega) hr hR hx hy np 0 F (by omega) (by omega) with ⟨a1, a2⟩ | ⟨a1, k, _, a2, a3⟩
    · refine Or.inl ⟨a1, fun k hk w => ?_⟩
      by_cases hk2 : k < np
      · exact a2 k (by omega) hk2 w
      · obtain rfl : k = c - 1 := by omega
        rw [hl1, hl2] at w
        exact q ⟨w.1.symm, w.2.symm⟩
    · exact Or.inr ⟨a1, k, by omega, a3⟩
theorem SR_add {s nv x y : Nat} {U V : Nat → Nat} {f g : Nat → Int32} (h : SR (40 * s) nv U V f g) (hx : x < 100) (hy : y < 100) : SR (40 * s) (nv + 1) (inA U nv x) (inA V nv y) (upd f (40 * s + nv) (nI x)) (upd g (40 * s + nv) (nI y)) := by
  intro k hk
  by_cases q : k < nv
  · rw [inA_l q, inA_l q, pk_un (by omega), pk_un (by omega)]
    exact h k q
  · obtain rfl : k = nv := by omega
    rw [inA_e rfl, inA_e rfl, pk_us, pk_us]
    exact ⟨rfl, rfl, hx, hy⟩
theorem via_sim {F C c np nv s x y : Nat} {td : Bool} {X Y U V : Nat → Nat} {pf pl vf vl Mcop Mpr Mpf Mpt Mvi Mvf Mvt : Nat → Int32} (hF : 4000 ≤ F) (hs : s ≤ 1) (P : PST C c np td X Y) (hc1 : 1 ≤ c) (hcop : Mcop s = nI C) (hC2 : 2 ≤ C) (hr : Mpr s = nI np) (hR0 : SR 0 c X Y pf pl) (hR : SR (22 * s) np X Y Mpf Mpt) (hnv : nv < 40) (hV0 : SR 0 nv U V vf vl) (hV : SR (40 * s) nv U V Mvf Mvt) (hvr : Mvi s = nI nv) (hx : x < 100) (hy : y < 100) :
    (∃ vf' vl', f_X0_tell F (nI 6) (nI x) (nI y) pf pl (nI c) (bI td) vf vl (nI nv) = some (1, pf, pl, nI c, bI td, vf', vl', nI (nv + 1)) ∧ SR 0 (nv + 1) (inA U nv x) (inA V nv y) vf' vl' ∧ f_X7_isPress F (nI x) (nI y) Mcop Mpr Mpf Mpt (nI s) = some 1 ∧ f_X7_isVia F (nI x) (nI y) Mvi Mvf Mvt (nI s) = some 0) ∨
    (f_X0_tell F (nI 6) (nI x) (nI y) pf pl (nI c) (bI td) vf vl (nI nv) = some (0, pf, pl, nI c, bI td, vf, vl, nI nv) ∧ (f_X7_isPress F (nI x) (nI y) Mcop Mpr Mpf Mpt (nI s) = some 0 ∨ (f_X7_isPress F (nI x) (nI y) Mcop Mpr Mpf Mpt (nI s) = some 1 ∧ f_X7_isVia F (nI x) (nI y) Mvi Mvf Mvt (nI s) = some 1))) := by
  have hc : c ≤ 21 := by
    obtain ⟨_, q, _, q2⟩ := P
    rcases q2 with ⟨q2, _⟩ | ⟨_, _, _, ⟨_, q2⟩ | ⟨_, q2⟩⟩ <;> omega
  obtain ⟨z, z1, z2⟩ := find_ok (F := F) hF (show 21 ≤ 100 by omega) hc hR0 hx hy
  obtain ⟨u, u1, u2⟩ := find_ok (F := F) hF (show 40 ≤ 100 by omega) (show nv ≤ 40 by omega) hV0 hx hy
  have hp := ispress_ok (F := F) hF hs P hc1 hcop hC2 hr hR hx hy
  have hv := isvia_ok (F := F) hF hs (show nv ≤ 40 by omega) hvr hV hx hy
  unfold f_X0_tell g_X0_tell_36
  rw [if_neg (show ¬ nI 6 = 5 by decide), z1, mb1_v]
  rcases z2 with ⟨z2, z3⟩ | ⟨j, j1, j2, j3, j4⟩
  · refine Or.inr ⟨?_, ?_⟩
    · rw [if_pos z2, if00]
    · rcases hp with ⟨q, _⟩ | ⟨_, k, q1, q2⟩
      · exact Or.inl q
      · exact absurd q2 (z3 k q1)
  · have hz : ¬ z = -1 := by rw [j2]; exact nI_m1 (by omega)
    have hp1 : f_X7_isPress F (nI x) (nI y) Mcop Mpr Mpf Mpt (nI s) = some 1 := by
      rcases hp with ⟨_, q⟩ | ⟨q, _⟩
      · exact absurd ⟨j3, j4⟩ (q j j1)
      · exact q
    rw [if_neg hz, if10, u1, mb1_v]
    rcases u2 with ⟨u2, u3⟩ | ⟨i, i1, i2, i3, i4⟩
    · obtain ⟨vf', vl', c1, c2⟩ := ins_ok (F := F) (N := 40) (p := nv) hF (by omega) hnv (by omega) hV0 hx hy
      refine Or.inl ⟨vf', vl', ?_, c2, hp1, ?_⟩
      · rw [if_pos u2, c1, mb4_v, if10]
      · rcases hv with ⟨q, _⟩ | ⟨_, k, q1, q2⟩
        · exact q
        · exact absurd q2 (u3 k q1)
    · have hz2 : ¬ u = -1 := by rw [i2]; exact nI_m1 (by omega)
      refine Or.inr ⟨?_, Or.inr ⟨hp1, ?_⟩⟩
      · rw [if_neg hz2]
      · rcases hv with ⟨_, q⟩ | ⟨q, _⟩
        · exact absurd ⟨i3, i4⟩ (q i i1)
        · exact q
