theorem dif_sim {F h L C c nv : Nat} {hs : Bool} {X Y U V : Nat → Nat} {bk : Nat → Int32} {bn : Nat → Int64} {bh bd bu bY pf pl vf vl Ml Mk : Nat → Int32} {Mn : Nat → Int64} {Mz : Nat → Int32} {Mt : Nat → Int64} {Msp Mcop Mca Mpr Mpf Mpt Mvi Mvf Mvt : Nat → Int32} {br Msh : Nat → Int32} {j : Nat} (hF : 4000 ≤ F) (W : QW hs h L C c nv X Y U V bk bn bh bd bu bY pf pl vf vl Ml Mk Mn Mz Mt Msp Mcop Mca Mpr Mpf Mpt Mvi Mvf Mvt) (S : SHR L C bk br bY Msh) (hj : j < L) :
    ∃ z, (z = 0 ∨ z = 1) ∧ f_X0_differ F (nI j) (nI (L - 1 - j)) bk bn bh bd br = some z ∧ f_X7_isSkew F (nI j) (nI h) Ml Mk Mn Mz Mt Msp Mcop Mca Msh = some z := by
  obtain ⟨B, ⟨hl, hcop, hr, hvr⟩, PV0, c21, R0, R1, hnv, V0, V1, h0, h1⟩ := W
  obtain ⟨hh, hL, hC⟩ := B.1
  have hf1 := cof_ok (F := F) (j := j) hF B hcop hj
  have hf2 := cof_ok (F := F) (j := L - 1 - j) hF B hcop (by omega)
  obtain ⟨a1, a2, a3, a4, ⟨kd, a5, a6⟩, ⟨m, a7, a8⟩, ⟨T, a9, a10⟩, ⟨D, a11, a12⟩, _⟩ := B.2.1 j hj
  obtain ⟨b1, b2, b3, b4, ⟨kd', b5, b6⟩, ⟨m', b7, b8⟩, ⟨T', b9, b10⟩, ⟨D', b11, b12⟩, _⟩ := B.2.1 (L - 1 - j) (by omega)
  obtain ⟨q, q1, q2, q3⟩ := shr_at B S hj
  obtain ⟨q', w1, w2, w3⟩ := shr_at B S (show L - 1 - j < L by omega)
  have eo : nI (L - 1) - nI j = nI (L - 1 - j) := nI_sub (by omega)
  rw [a10, nI_l (by omega)] at a3
  rw [b10, nI_l (by omega)] at b3
  have ng : ∀ u v : Nat, u < 2 ^ 62 → v < 2 ^ 62 → u ≠ v → ¬ lg_cmp (lN u) (lN v) = nI 0 := fun u v hu hv hne e => hne (lN_inj ((lg_cmp_eq _ _).mp e) (by omega) (by omega))
  have pg : ∀ u : Nat, lg_cmp (lN u) (lN u) = nI 0 := fun u => (lg_cmp_eq _ _).mpr rfl
  generalize ho : L - 1 - j = o at *
  have ho80 : o < 80 := by omega
  have hj80 : j < 80 := by omega
  unfold f_X0_differ f_X7_isSkew g_X0_differ_40
  by_cases c1 : kd = kd'
  · subst c1
    by_cases c2 : T = T'
    · subst c2
      by_cases c3 : D = D'
      · subst c3
        by_cases c4 : kd = 0
        · subst c4
          rcases q3 with ⟨_, c', g1, g2, g3⟩ | ⟨g1, _⟩
          · rcases w3 with ⟨_, c'', g4, g5, g6⟩ | ⟨g4, _⟩
            · rw [g2] at hf1
              rw [g5] at hf2
              by_cases c5 : q = q'
              · refine ⟨0, Or.inl rfl, ?_, ?_⟩
                · simp (disch := omega) only [mg_in, if10, if00, if_true, if_false, nI_1, nI_s1, mn_e, mb1_v, mb2_v, mb3_v, mb4_v, nI_clamp, nI_add, pk_mul, if_leT, if_leF, if_ltT, if_ltF, if_eqT, if_eqF, if_m1F, if_m1F2, if_m1T, if_m1ltT, if_m1leT, if_m1leF, if_m1ltF, if_e1T, if_e1F, if_1eT, if_1eF, if_le1T, if_le1F, if_1ltT, if_1ltF, iL0, iL2, iL3, iL4, iL5, iL6, iL7, iL8, iL9, iL10, iL20, iL21, iL22, iL31, iL32, iL40, iL46, iL48, iL57, iL64, iL65, iL80, iL81, iL90, iL96, iL97, iL100, iL122, iL126, iL127, iL500, iL1000, iL3000, iL9999999, a6, b6, a10, b10, a12, b12, q2, w2]
                · simp (disch := omega) only [mg_in, if10, if00, if_true, if_false, nI_1, nI_s1, mn_e, mb1_v, mb2_v, mb3_v, mb4_v, nI_clamp, nI_add, pk_mul, if_leT, if_leF, if_ltT, if_ltF, if_eqT, if_eqF, if_m1F, if_m1F2, if_m1T, if_m1ltT, if_m1leT, if_m1leF, if_m1ltF, if_e1T, if_e1F, if_1eT, if_1eF, if_le1T, if_le1F, if_1ltT, if_1ltF, iL0, iL2, iL3, iL4, iL5, iL6, iL7, iL8, iL9, iL10, iL20, iL21, iL22, iL31, iL32, iL40, iL46, iL48, iL57, iL64, iL65, iL80, iL81, iL90, iL96, iL97, iL100, iL122, iL126, iL127, iL500, iL1000, iL3000, iL9999999, hl, eo, a1, b1, a3, b3, a4, b4, a6, b6, a12, b12, pg, hf1, hf2, g3, g6]
              · refine ⟨1, Or.inr rfl, ?_, ?_⟩
                · simp (disch := omega) only [mg_in, if10, if00, if_true, if_false, nI_1, nI_s1, mn_e, mb1_v, mb2_v, mb3_v, mb4_v, nI_clamp, nI_add, pk_mul, if_leT, if_leF, if_ltT, if_ltF, if_eqT, if_eqF, if_m1F, if_m1F2, if_m1T, if_m1ltT, if_m1leT, if_m1leF, if_m1ltF, if_e1T, if_e1F, if_1eT, if_1eF, if_le1T, if_le1F, if_1ltT, if_1ltF, iL0, iL2, iL3, iL4, iL5, iL6, iL7, iL8, iL9, iL10, iL20, iL21, iL22, iL31, iL32, iL40, iL46, iL48, iL57, iL64, iL65, iL80, iL81, iL90, iL96, iL97, iL100, iL122, iL126, iL127, iL500, iL1000, iL3000, iL9999999, a6, b6, a10, b10, a12, b12, q2, w2]
                · simp (disch := omega) only [mg_in, if10, if00, if_true, if_false, nI_1, nI_s1, mn_e, mb1_v, mb2_v, mb3_v, mb4_v, nI_clamp, nI_add, pk_mul, if_leT, if_leF, if_ltT, if_ltF, if_eqT, if_eqF, if_m1F, if_m1F2, if_m1T, if_m1ltT, if_m1leT, if_m1leF, if_m1ltF, if_e1T, if_e1F, if_1eT, if_1eF, if_le1T, if_le1F, if_1ltT, if_1ltF, iL0, iL2, iL3, iL4, iL5, iL6, iL7, iL8, iL9, iL10, iL20, iL21, iL22, iL31, iL32, iL40, iL46, iL48, iL57, iL64, iL65, iL80, iL81, iL90, iL96, iL97, iL100, iL122, iL126, iL127, iL500, iL1000, iL3000, iL9999999, hl, eo, a1, b1, a3, b3, a4, b4, a6, b6, a12, b12, pg, hf1, hf2, g3, g6]
            · exact absurd b6 g4
          · exact absurd a6 g1
        · have hq : q = q' := by
            rcases q3 with ⟨g1, _⟩ | ⟨_, g1⟩
            · rw [a6] at g1; exact absurd (nI_inj g1 (by omega) (by omega)) c4
            · rcases w3 with ⟨g2, _⟩ | ⟨_, g2⟩
              · rw [b6] at g2; exact absurd (nI_inj g2 (by omega) (by omega)) c4
              · omega
          subst hq
          by_cases c5 : bn j = bn o
          · have em : m = m' := NM_same (by rw [c5] at a8; exact a8) b8
            have e1 : lg_cmp (bn o) (bn o) = nI 0 := (lg_cmp_eq _ _).mpr rfl
            refine ⟨0, Or.inl rfl, ?_, ?_⟩
            · simp (disch := omega) only [mg_in, if10, if00, if_true, if_false, nI_1, nI_s1, mn_e, mb1_v, mb2_v, mb3_v, mb4_v, nI_clamp, nI_add, pk_mul, if_leT, if_leF, if_ltT, if_ltF, if_eqT, if_eqF, if_m1F, if_m1F2, if_m1T, if_m1ltT, if_m1leT, if_m1leF, if_m1ltF, if_e1T, if_e1F, if_1eT, if_1eF, if_le1T, if_le1F, if_1ltT, if_1ltF, iL0, iL2, iL3, iL4, iL5, iL6, iL7, iL8, iL9, iL10, iL20, iL21, iL22, iL31, iL32, iL40, iL46, iL48, iL57, iL64, iL65, iL80, iL81, iL90, iL96, iL97, iL100, iL122, iL126, iL127, iL500, iL1000, iL3000, iL9999999, a6, b6, a10, b10, a12, b12, q2, w2, c5, e1]
            · obtain ⟨_, _, _, m8, _⟩ := a8
              simp (disch := omega) only [mg_in, if10, if00, if_true, if_false, nI_1, nI_s1, mn_e, mb1_v, mb2_v, mb3_v, mb4_v, nI_clamp, nI_add, pk_mul, if_leT, if_leF, if_ltT, if_ltF, if_eqT, if_eqF, if_m1F, if_m1F2, if_m1T, if_m1ltT, if_m1leT, if_m1leF, if_m1ltF, if_e1T, if_e1F, if_1eT, if_1eF, if_le1T, if_le1F, if_1ltT, if_1ltF, iL0, iL2, iL3, iL4, iL5, iL6, iL7, iL8, iL9, iL10, iL20, iL21, iL22, iL31, iL32, iL40, iL46, iL48, iL57, iL64, iL65, iL80, iL81, iL90, iL96, iL97, iL100, iL122, iL126, iL127, iL500, iL1000, iL3000, iL9999999, hl, eo, a1, b1, a2, b2, a3, b3, a4, b4, a6, b6, a7, b7, a12, b12, pg, c5, e1]
          · have e1 : ¬ lg_cmp (bn j) (bn o) = nI 0 := fun e => c5 ((lg_cmp_eq _ _).mp e)
            refine ⟨1, Or.inr rfl, ?_, ?_⟩
            · simp (disch := omega) only [mg_in, if10, if00, if_true, if_false, nI_1, nI_s1, mn_e, mb1_v, mb2_v, mb3_v, mb4_v, nI_clamp, nI_add, pk_mul, if_leT, if_leF, if_ltT, if_ltF, if_eqT, if_eqF, if_m1F, if_m1F2, if_m1T, if_m1ltT, if_m1leT, if_m1leF, if_m1ltF, if_e1T, if_e1F, if_1eT, if_1eF, if_le1T, if_le1F, if_1ltT, if_1ltF, iL0, iL2, iL3, iL4, iL5, iL6, iL7, iL8, iL9, iL10, iL20, iL21, iL22, iL31, iL32, iL40, iL46, iL48, iL57, iL64, iL65, iL80, iL81, iL90, iL96, iL97, iL100, iL122, iL126, iL127, iL500, iL1000, iL3000, iL9999999, a6, b6, a10, b10, a12, b12, q2, w2, if_neg e1]
            · simp (disch := omega) only [mg_in, if10, if00, if_true, if_false, nI_1, nI_s1, mn_e, mb1_v, mb2_v, mb3_v, mb4_v, nI_clamp, nI_add, pk_mul, if_leT, if_leF, if_ltT, if_ltF, if_eqT, if_eqF, if_m1F, if_m1F2, if_m1T, if_m1ltT, if_m1leT, if_m1leF, if_m1ltF, if_e1T, if_e1F, if_1eT, if_1eF, if_le1T, if_le1F, if_1ltT, if_1ltF, iL0, iL2, iL3, iL4, iL5, iL6, iL7, iL8, iL9, iL10, iL20, iL21, iL22, iL31, iL32, iL40, iL46, iL48, iL57, iL64, iL65, iL80, iL81, iL90, iL96, iL97, iL100, iL122, iL126, iL127, iL500, iL1000, iL3000, iL9999999, hl, eo, a1, b1, a2, b2, a3, b3, a4, b4, a6, b6, a7, b7, a12, b12, pg, if_neg e1]
      · clear q3 w3
        refine ⟨1, Or.inr rfl, ?_, ?_⟩
        · simp (disch := omega) only [mg_in, if10, if00, if_true, if_false, nI_1, nI_s1, mn_e, mb1_v, mb2_v, mb3_v, mb4_v, nI_clamp, nI_add, pk_mul, if_leT, if_leF, if_ltT, if_ltF, if_eqT, if_eqF, if_m1F, if_m1F2, if_m1T, if_m1ltT, if_m1leT, if_m1leF, if_m1ltF, if_e1T, if_e1F, if_1eT, if_1eF, if_le1T, if_le1F, if_1ltT, if_1ltF, iL0, iL2, iL3, iL4, iL5, iL6, iL7, iL8, iL9, iL10, iL20, iL21, iL22, iL31, iL32, iL40, iL46, iL48, iL57, iL64, iL65, iL80, iL81, iL90, iL96, iL97, iL100, iL122, iL126, iL127, iL500, iL1000, iL3000, iL9999999, a6, b6, a10, b10, a12, b12, q2, w2]
          try (split <;> first | rfl | (split <;> rfl))
        · simp (disch := omega) only [mg_in, if10, if00, if_true, if_false, nI_1, nI_s1, mn_e, mb1_v, mb2_v, mb3_v, mb4_v, nI_clamp, nI_add, pk_mul, if_leT, if_leF, if_ltT, if_ltF, if_eqT, if_eqF, if_m1F, if_m1F2, if_m1T, if_m1ltT, if_m1leT, if_m1leF, if_m1ltF, if_e1T, if_e1F, if_1eT, if_1eF, if_le1T, if_le1F, if_1ltT, if_1ltF, iL0, iL2, iL3, iL4, iL5, iL6, iL7, iL8, iL9, iL10, iL20, iL21, iL22, iL31, iL32, iL40, iL46, iL48, iL57, iL64, iL65, iL80, iL81, iL90, iL96, iL97, iL100, iL122, iL126, iL127, iL500, iL1000, iL3000, iL9999999, hl, eo, a1, b1, a3, b3, a4, b4, a6, b6, a12, b12, pg]
    · clear q3 w3
      refine ⟨1, Or.inr rfl, ?_, ?_⟩
      · simp (disch := omega) only [mg_in, if10, if00, if_true, if_false, nI_1, nI_s1, mn_e, mb1_v, mb2_v, mb3_v, mb4_v, nI_clamp, nI_add, pk_mul, if_leT, if_leF, if_ltT, if_ltF, if_eqT, if_eqF, if_m1F, if_m1F2, if_m1T, if_m1ltT, if_m1leT, if_m1leF, if_m1ltF, if_e1T, if_e1F, if_1eT, if_1eF, if_le1T, if_le1F, if_1ltT, if_1ltF, iL0, iL2, iL3, iL4, iL5, iL6, iL7, iL8, iL9, iL10, iL20, iL21, iL22, iL31, iL32, iL40, iL46, iL48, iL57, iL64, iL65, iL80, iL81, iL90, iL96, iL97, iL100, iL122, iL126, iL127, iL500, iL1000, iL3000, iL9999999, a6, b6, a10, b10, a12, b12, q2, w2]
        try (split <;> first | rfl | (split <;> rfl))
      · have e1 := ng T T' (by omega) (by omega) c2
        simp (disch := omega) only [mg_in, if10, if00, if_true, if_false, nI_1, nI_s1, mn_e, mb1_v, mb2_v, mb3_v, mb4_v, nI_clamp, nI_add, pk_mul, if_leT, if_leF, if_ltT, if_ltF, if_eqT, if_eqF, if_m1F, if_m1F2, if_m1T, if_m1ltT, if_m1leT, if_m1leF, if_m1ltF, if_e1T, if_e1F, if_1eT, if_1eF, if_le1T, if_le1F, if_1ltT, if_1ltF, iL0, iL2, iL3, iL4, iL5, iL6, iL7, iL8, iL9, iL10, iL20, iL21, iL22, iL31, iL32, iL40, iL46, iL48, iL57, iL64, iL65, iL80, iL81, iL90, iL96, iL97, iL100, iL122, iL126, iL127, iL500, iL1000, iL3000, iL9999999, hl, eo, a1, b1, a3, b3, a4, b4, a6, b6, a12, b12, if_neg e1]
  · clear q3 w3
    refine ⟨1, Or.inr rfl, ?_, ?_⟩
    · simp (disch := omega) only [mg_in, if10, if00, if_true, if_false, nI_1, nI_s1, mn_e, mb1_v, mb2_v, mb3_v, mb4_v, nI_clamp, nI_add, pk_mul, if_leT, if_leF, if_ltT, if_ltF, if_eqT, if_eqF, if_m1F, if_m1F2, if_m1T, if_m1ltT, if_m1leT, if_m1leF, if_m1ltF, if_e1T, if_e1F, if_1eT, if_1eF, if_le1T, if_le1F, if_1ltT, if_1ltF, iL0, iL2, iL3, iL4, iL5, iL6, iL7, iL8, iL9, iL10, iL20, iL21, iL22, iL31, iL32, iL40, iL46, iL48, iL57, iL64, iL65, iL80, iL81, iL90, iL96, iL97, iL100, iL122, iL126, iL127, iL500, iL1000, iL3000, iL9999999, a6, b6]
    · simp (disch := omega) only [mg_in, if10, if00, if_true, if_false, nI_1, nI_s1, mn_e, mb1_v, mb2_v, mb3_v, mb4_v, nI_clamp, nI_add, pk_mul, if_leT, if_leF, if_ltT, if_ltF, if_eqT, if_eqF, if_m1F, if_m1F2, if_m1T, if_m1ltT, if_m1leT, if_m1leF, if_m1ltF, if_e1T, if_e1F, if_1eT, if_1eF, if_le1T, if_le1F, if_1ltT, if_1ltF, iL0, iL2, iL3, iL4, iL5, iL6, iL7, iL8, iL9, iL10, iL20, iL21, iL22, iL31, iL32, iL40, iL46, iL48, iL57, iL64, iL65, iL80, iL81, iL90, iL96, iL97, iL100, iL122, iL126, iL127, iL500, iL1000, iL3000, iL9999999, hl, eo, a1, b1, a6, b6]
theorem skw_loop {F h L C c nv : Nat} {hs : Bool} {X Y U V : Nat → Nat} {bk : Nat → Int32} {bn : Nat → Int64} {bh bd bu bY pf pl vf vl Ml Mk : Nat → Int32} {Mn : Nat → Int64} {Mz : Nat → Int32} {Mt : Nat → Int64} {Msp Mcop Mca Mpr Mpf Mpt Mvi Mvf Mvt : Nat → Int32} {br Msh : Nat → Int32} {kk : Nat} {thr : Int32} (hF : 4000 ≤ F) (W : QW hs h L C c nv X Y U V bk bn bh bd bu bY pf pl vf vl Ml Mk Mn Mz Mt Msp Mcop Mca Mpr Mpf Mpt Mvi Mvf Mvt) (S : SHR L C bk br bY Msh) (ht : hs = true) (hk : kk < 2 ^ 31) :
    ∀ (r j m fu1 fu2 : Nat), j + r = L → m ≤ kk → m ≤ j → r < fu1 → r < fu2 → ∃ z, g_X0_findSkew_4 F fu1 (nI kk) (nI m) (nI j) bk bn bh bd br (nI L) = some z ∧ g_X7_skew_9 F fu2 (nI kk) (nI (kk - m)) (nI j) thr (bI hs) (nI h) Ml Mk Mn Mz Mt Msp Mcop Mca Msh = some (z, thr) := by
  have W2 := W
  obtain ⟨B, ⟨hl, hcop, hr, hvr⟩, PV0, c21, R0, R1, hnv, V0, V1, h0, h1⟩ := W2
  obtain ⟨hh, hL, hC⟩ := B.1
  have hk0 : ¬ nI kk < 0 := nI_pos hk
  have hb : bI hs = 1 := by rw [ht]; rfl
  intro r
  induction r with
  | zero =>
    intro j m fu1 fu2 he hm hmj f1 f2
    obtain ⟨fu1, rfl⟩ : ∃ z, fu1 = z + 1 := ⟨fu1 - 1, by omega⟩
    obtain ⟨fu2, rfl⟩ : ∃ z, fu2 = z + 1 := ⟨fu2 - 1, by omega⟩
    refine ⟨-1, ?_, ?_⟩
    · rw [g_X0_findSkew_4_s, if_leT (by omega) (by omega)]
    · rw [g_X7_skew_9_s, hb, if10, if_neg hk0, mg_in (by omega) (by omega), nI_clamp (by omega), hl, if_leT (by omega) (by omega)]
  | succ r ih =>
    intro j m fu1 fu2 he hm hmj f1 f2
    obtain ⟨fu1, rfl⟩ : ∃ z, fu1 = z + 1 := ⟨fu1 - 1, by omega⟩
    obtain ⟨fu2, rfl⟩ : ∃ z, fu2 = z + 1 := ⟨fu2 - 1, by omega⟩
    obtain ⟨d, d1, d2, d3⟩ := dif_sim (F := F) (j := j) hF W S (by omega)
    have eo : nI L - 1 - nI j = nI (L - 1 - j) := by rw [nI_s1 (by omega), nI_sub (by omega)]
    rw [g_X0_findSkew_4_s, g_X7_skew_9_s, hb, if10, if_neg hk0, mg_in (by omega) (by omega), nI_clamp (by omega), hl, if_leF (by omega) (by omega), if_leF (by omega) (by omega), eo, d2, d3, mb1_v, mb1_v]
    rcases d1 with rfl | rfl
    · rw [if00, if00, mn_e, mn_e, nI_1]
      have i1 := ih (j + 1) m fu1 fu2 (by omega) hm (by omega) (by omega) (by omega)
      rw [hb] at i1
      exact i1
    · rw [if10, if10]
      by_cases q : m = kk
      · refine ⟨nI j, ?_, ?_⟩
        · rw [if_eqT q]
        · rw [if_pos (by rw [q, Nat.sub_self]; rfl)]
      · have e9 : ¬ nI (kk - m) = 0 := fun e => by have := nI_inj (b := 0) e (by omega) (by omega); omega
        rw [if_eqF q (by omega) hk, if_neg e9, mn_e, mn_e, mn_e, mn_e, nI_1, nI_1, show kk - m = kk - (m + 1) + 1 by omega, pk_m1]
        have i1 := ih (j + 1) (m + 1) fu1 fu2 (by omega) (by omega) (by omega) (by omega) (by omega)
        rw [hb] at i1
        exact i1
theorem skw_neg {F h L C c nv : Nat} {hs : Bool} {X Y U V : Nat → Nat} {bk : Nat → Int32} {bn : Nat → Int64} {bh bd bu bY pf pl vf vl Ml Mk : Nat → Int32} {Mn : Nat → Int64} {Mz : Nat → Int32} {Mt : Nat → Int64} {Msp Mcop Mca Mpr Mpf Mpt Mvi Mvf Mvt : Nat → Int32} {br Msh : Nat → Int32} {x : Int32} (hF : 4000 ≤ F) (W : QW hs h L C c nv X Y U V bk bn bh bd bu bY pf pl vf vl Ml Mk Mn Mz Mt Msp Mcop Mca Mpr Mpf Mpt Mvi Mvf Mvt) (S : SHR L C bk br bY Msh) (hx : x < 0) :
    ∀ (r j m fu1 : Nat), j + r = L → m ≤ j → r < fu1 → g_X0_findSkew_4 F fu1 x (nI m) (nI j) bk bn bh bd br (nI L) = some (-1) := by
  have W2 := W
  obtain ⟨B, ⟨hl, hcop, hr, hvr⟩, PV0, c21, R0, R1, hnv, V0, V1, h0, h1⟩ := W2
  obtain ⟨hh, hL, hC⟩ := B.1
  intro r
  induction r with
  | zero =>
    intro j m fu1 he hmj f1
    obtain ⟨fu1, rfl⟩ : ∃ z, fu1 = z + 1 := ⟨fu1 - 1, by omega⟩
    rw [g_X0_findSkew_4_s, if_leT (by omega) (by omega)]
  | succ r ih =>
    intro j m fu1 he hmj f1
    obtain ⟨fu1, rfl⟩ : ∃ z, fu1 = z + 1 := ⟨fu1 - 1, by omega⟩
    obtain ⟨d, d1, d2, d3⟩ := dif_sim (F := F) (j := j) hF W S (by omega)
    have eo : nI L - 1 - nI j = nI (L - 1 - j) := by rw [nI_s1 (by omega), nI_sub (by omega)]
    rw [g_X0_findSkew_4_s, if_leF (by omega) (by omega), eo, d2, mb1_v]
    rcases d1 with rfl | rfl
    · rw [if00, mn_e, nI_1]
      exact ih (j + 1) m fu1 (by omega) (by omega) (by omega)
    · have e9 : ¬ nI m = x := fun e => by rw [← e] at hx; exact nI_pos (show m < 2 ^ 31 by omega) hx
      rw [if10, if_neg e9, mn_e, mn_e, nI_1, nI_1]
      exact ih (j + 1) (m + 1) fu1 (by omega) (by omega) (by omega)
theorem skew_ask {F h L C c nv : Nat} {hs : Bool} {X Y U V : Nat → Nat} {bk : Nat → Int32} {bn : Nat → Int64} {bh bd bu bY pf pl vf vl Ml Mk : Nat → Int32} {Mn : Nat → Int64} {Mz : Nat → Int32} {Mt : Nat → Int64} {Msp Mcop Mca Mpr Mpf Mpt Mvi Mvf Mvt : Nat → Int32} {br Msh : Nat → Int32} {x thr : Int32} (hF : 4000 ≤ F) (W : QW hs h L C c nv X Y U V bk bn bh bd bu bY pf pl vf vl Ml Mk Mn Mz Mt Msp Mcop Mca Mpr Mpf Mpt Mvi Mvf Mvt) (S : SHR L C bk br bY Msh) :
    ∃ z, f_X6_skew F x bk bn bh bd br (nI L) = some z ∧ f_X7_skew F x thr (bI hs) (nI h) Ml Mk Mn Mz Mt Msp Mcop Mca Msh = some (z, 0) := by
  have W2 := W
  obtain ⟨B, ⟨hl, hcop, hr, hvr⟩, PV0, c21, R0, R1, hnv, V0, V1, h0, h1⟩ := W2
  obtain ⟨hh, hL, hC⟩ := B.1
  unfold f_X6_skew f_X0_findSkew f_X7_skew
  have m1 : (bI hs = 0 ∨ x < 0) → g_X7_skew_9 F F x x 0 0 (bI hs) (nI h) Ml Mk Mn Mz Mt Msp Mcop Mca Msh = some (-1, 0) := by
    intro q
    obtain ⟨fu, hfu⟩ : ∃ z, F = z + 1 := ⟨F - 1, by omega⟩
    have : ∀ G, G = fu + 1 → g_X7_skew_9 F G x x 0 0 (bI hs) (nI h) Ml Mk Mn Mz Mt Msp Mcop Mca Msh = some (-1, 0) := by
      intro G hG
      subst hG
      rw [g_X7_skew_9_s]
      by_cases w : bI hs = 0
      · rw [if_pos w]
      · rw [if_neg w, if_pos (q.resolve_left w)]
    exact this F hfu
  rcases i_cases x with q | ⟨kk, k1, rfl⟩
  · have s1 := skw_neg (F := F) (x := x) hF W S q L 0 0 F (by omega) (by omega) (by omega)
    rw [show g_X0_findSkew_4 F F x 0 0 bk bn bh bd br (nI L) = _ from s1, mb1_v]
    exact ⟨-1, rfl, m1 (Or.inr q)⟩
  · cases hs with
    | false =>
      have l0 := (h0 rfl).1
      subst l0
      have s1 : ∀ G, 1 ≤ G → g_X0_findSkew_4 F G (nI kk) 0 0 bk bn bh bd br (nI 0) = some (-1) := by
        intro G hG
        obtain ⟨fu, rfl⟩ : ∃ z, G = z + 1 := ⟨G - 1, by omega⟩
        rw [g_X0_findSkew_4_s, if_pos (by decide)]
      rw [s1 F (by omega), mb1_v]
      exact ⟨-1, rfl, m1 (Or.inl rfl)⟩
    | true =>
      obtain ⟨z, z1, z2⟩ := skw_loop (F := F) (kk := kk) (thr := 0) hF W S rfl k1 L 0 0 F F (by omega) (by omega) (by omega) (by omega) (by omega)
      rw [show g_X0_findSkew_4 F F (nI kk) 0 0 bk bn bh bd br (nI L) = _ from z1, mb1_v]
      exact ⟨z, rfl, z2⟩
