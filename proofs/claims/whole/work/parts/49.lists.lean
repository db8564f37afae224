def KR (kc : Nat) (lo hi : Nat → Nat → Int64) (Mh : Nat → Int32) (Mlo Mhi : Nat → Int64) : Prop := kc ≤ 8 ∧ ∀ i k, i < kc → k < 80 → (Mh (80 * i + k) = nI 0 ∧ lo i k = -1) ∨ (Mh (80 * i + k) = nI 1 ∧ ¬ lo i k = -1 ∧ Mlo (80 * i + k) = lo i k ∧ Mhi (80 * i + k) = hi i k)
theorem up2_s {g : Nat → Nat → Int64} {k : Nat} {r : Nat → Int64} : up2 g k r k = r := if_pos rfl
theorem up2_n {g : Nat → Nat → Int64} {k j : Nat} {r : Nat → Int64} (h : j ≠ k) : up2 g k r j = g j := if_neg h
theorem fil_loop {F : Nat} : ∀ (r k fu : Nat) (a : Nat → Int64), k + r = 80 → r < fu → (∀ j, j < k → a j = -1) → ∃ a', g_J7_fill_d0a16_6 F 80 fu (-1) (nI k) (nI 80) a = some a' ∧ ∀ j, j < 80 → a' j = -1 := by
  intro r
  induction r with
  | zero =>
    intro k fu a he hf h
    obtain ⟨fu, rfl⟩ : ∃ z, fu = z + 1 := ⟨fu - 1, by omega⟩
    refine ⟨a, ?_, fun j hj => h j (by omega)⟩
    rw [g_J7_fill_d0a16_6_s, if_leT (by omega) (by omega)]
  | succ r ih =>
    intro k fu a he hf h
    obtain ⟨fu, rfl⟩ : ∃ z, fu = z + 1 := ⟨fu - 1, by omega⟩
    obtain ⟨a', a1, a2⟩ := ih (k + 1) fu (vp_updL a k (-1)) (by omega) (by omega) (fun j hj => by
      by_cases e : j = k
      · rw [e, pk_uLs]
      · rw [pk_uLn e]; exact h j (by omega))
    refine ⟨a', ?_, a2⟩
    rw [g_J7_fill_d0a16_6_s, if_leF (by omega) (by omega), mg_in (by omega) (by omega), mn_e, nI_1, nI_clamp (by omega), a1]
theorem lst_loop {F li : Nat} {thr : Int32} (hl : li < 8) : ∀ (r k fu : Nat) (m : Nat → Int32) (m0 : Nat → Int32), k + r = 80 → r < fu → (∀ j, j < k → m (80 * li + j) = nI 0) → (∀ j, j < 80 * li → m j = m0 j) → ∃ m', g_X7_list_44 F fu (nI (80 * li + k)) thr (nI li) m = some (nI li, thr, nI (li + 1), m') ∧ (∀ j, j < 80 → m' (80 * li + j) = nI 0) ∧ ∀ j, j < 80 * li → m' j = m0 j := by
  intro r
  induction r with
  | zero =>
    intro k fu m m0 he hf h h2
    obtain ⟨fu, rfl⟩ : ∃ z, fu = z + 1 := ⟨fu - 1, by omega⟩
    refine ⟨m, ?_, fun j hj => h j (by omega), h2⟩
    have e : nI (li + 1) - 1 = nI li := by rw [nI_s1 (by omega)]; rfl
    rw [g_X7_list_44_s, iL80, pk_mul, nI_add, if_leT (by omega) (by omega), nI_1, e]
  | succ r ih =>
    intro k fu m m0 he hf h h2
    obtain ⟨fu, rfl⟩ : ∃ z, fu = z + 1 := ⟨fu - 1, by omega⟩
    obtain ⟨m', a1, a2⟩ := ih (k + 1) fu (upd m (80 * li + k) (nI 0)) m0 (by omega) (by omega) (fun j hj => by
      by_cases e : j = k
      · rw [e, pk_us]
      · rw [pk_un (by omega)]; exact h j (by omega)) (fun j hj => by rw [pk_un (by omega)]; exact h2 j hj)
    refine ⟨m', ?_, a2⟩
    have en : vp_nar .boolean (0 : Int32) = nI 0 := by decide
    rw [g_X7_list_44_s, iL80, pk_mul, nI_add, if_leF (by omega) (by omega), mg_in (by omega) (by omega), en, mn_e, nI_1, nI_clamp (by omega), show 80 * li + k + 1 = 80 * li + (k + 1) by omega, a1]
theorem list_ask {F h L C c nv : Nat} {hs : Bool} {X Y U V : Nat → Nat} {bk : Nat → Int32} {bn : Nat → Int64} {bh bd bu bY pf pl vf vl Ml Mk : Nat → Int32} {Mn : Nat → Int64} {Mz : Nat → Int32} {Mt : Nat → Int64} {Msp Mcop Mca Mpr Mpf Mpt Mvi Mvf Mvt : Nat → Int32} {thr : Int32} {a : Nat → Int64} {kc : Nat} {lo hi : Nat → Nat → Int64} {Mh : Nat → Int32} {Mlo Mhi : Nat → Int64} (hF : 4000 ≤ F) (W : QW hs h L C c nv X Y U V bk bn bh bd bu bY pf pl vf vl Ml Mk Mn Mz Mt Msp Mcop Mca Mpr Mpf Mpt Mvi Mvf Mvt) (K : KR kc lo hi Mh Mlo Mhi) :
    ∃ (k b : Int32) (a' : Nat → Int64) (kc' : Nat) (lo' : Nat → Nat → Int64) (Mh' : Nat → Int32), f_L_list F lo (nI kc) (nI L) a = some (k, lo', nI kc', a') ∧ f_X7_list F thr (bI hs) (nI kc) Mh = some (b, k, nI kc', Mh') ∧ (k = 0 → a' 0 = b.toInt64) ∧ KR kc' lo' hi Mh' Mlo Mhi ∧ (hs = false → kc' = kc) := by
  obtain ⟨B, ⟨hl, hcop, hr, hvr⟩, PV0, c21, R0, R1, hnv, V0, V1, h0, h1⟩ := W
  obtain ⟨hh, hL, hC⟩ := B.1
  obtain ⟨k8, kr⟩ := K
  unfold f_L_list f_X6_list f_X6_requireStack f_X7_list g_X7_list_13
  cases hs with
  | false =>
    have l0 := (h0 rfl).1
    subst l0
    rw [bI_f, if00, if10, if_pos (show nI 0 = 0 from rfl), mb1_v, if_neg (by decide), mb4_v, if_neg (by decide), if_pos rfl]
    exact ⟨1, 0, a, kc, lo, Mh, rfl, rfl, fun e => absurd e (by decide), ⟨k8, kr⟩, fun _ => rfl⟩
  | true =>
    have lv := h1 rfl
    have l1 : 1 ≤ L := lv.2.2.2.1.2.2.2.2.2.1
    have e0 : ¬ nI L = 0 := fun e => by have := nI_inj (b := 0) e (by omega) (by omega); omega
    rw [bI_t, if10, if00, if_neg e0, mb1_v, if_pos rfl]
    unfold f_X1_open
    by_cases q : kc = 8
    · subst q
      rw [iL8, if_ltF (by omega) (by omega), if_eqT rfl, mb3_v, mb4_v, if_pos rfl, in01]
      exact ⟨0, -1, _, 8, lo, Mh, rfl, rfl, fun _ => up0, ⟨k8, kr⟩, fun e => by cases e⟩
    · obtain ⟨a', f1, f2⟩ := fil_loop (F := F) 80 0 F (lo kc) (by omega) (by omega) (fun j hj => by omega)
      obtain ⟨m', g1, g2, g3⟩ := lst_loop (F := F) (li := kc) (thr := 0) (by omega) 80 0 F Mh Mh (by omega) (by omega) (fun j hj => by omega) (fun j hj => rfl)
      have ef : f_J7_fill_d0a16 F 80 (-1) (lo kc) = some a' := f1
      rw [Nat.add_zero] at g1
      have e : nI (kc + 1) - 1 = nI kc := by rw [nI_s1 (by omega)]; rfl
      rw [iL8, if_ltT (by omega) (by omega), if_eqF q (by omega) (by omega), mg_in (by omega) (by omega), nI_clamp (by omega), ef, mb1_v, mb3_v, mb4_v, if_pos rfl, in01, iL80, pk_mul, mn_e, g1, nI_1, e]
      refine ⟨0, nI kc, _, kc + 1, up2 lo kc a', m', rfl, rfl, fun _ => up0, ⟨by omega, fun i k hi hk => ?_⟩, fun e => by cases e⟩
      by_cases w : i = kc
      · subst w
        rw [up2_s]
        exact Or.inl ⟨g2 k hk, f2 k hk⟩
      · rw [up2_n w, g3 (80 * i + k) (by omega)]
        exact kr i k (by omega) hk
theorem row_ask {F h L C c nv : Nat} {hs : Bool} {X Y U V : Nat → Nat} {bk : Nat → Int32} {bn : Nat → Int64} {bh bd bu bY pf pl vf vl Ml Mk : Nat → Int32} {Mn : Nat → Int64} {Mz : Nat → Int32} {Mt : Nat → Int64} {Msp Mcop Mca Mpr Mpf Mpt Mvi Mvf Mvt : Nat → Int32} {x y thr : Int32} {v3 v5 : Int64} {a : Nat → Int64} {kc : Nat} {lo hi : Nat → Nat → Int64} {Mh : Nat → Int32} {Mlo Mhi : Nat → Int64} (hF : 4000 ≤ F) (W : QW hs h L C c nv X Y U V bk bn bh bd bu bY pf pl vf vl Ml Mk Mn Mz Mt Msp Mcop Mca Mpr Mpf Mpt Mvi Mvf Mvt) (K : KR kc lo hi Mh Mlo Mhi) :
    ∃ (k b : Int32) (a' : Nat → Int64) (lo' hi' : Nat → Nat → Int64) (Mh' : Nat → Int32) (Mlo' Mhi' : Nat → Int64), f_L_row F x y v3 v5 lo hi (nI kc) bk (nI L) a = some (k, lo', hi', a') ∧ f_X7_row F x y v3 v5 thr (bI hs) (nI h) Ml Mk (nI kc) Mh Mlo Mhi = some (b, k, Mh', Mlo', Mhi') ∧ qB k b a' ∧ KR kc lo' hi' Mh' Mlo' Mhi' := by
  obtain ⟨B, ⟨hl, hcop, hr, hvr⟩, PV0, c21, R0, R1, hnv, V0, V1, h0, h1⟩ := W
  obtain ⟨hh, hL, hC⟩ := B.1
  have K2 := K
  obtain ⟨k8, kr⟩ := K
  have st1 : g_X7_row_39 F x y v3 v5 1 thr (nI h) Mk Mh Mlo Mhi = some (0, 1, Mh, Mlo, Mhi) := by
    unfold g_X7_row_39
    rw [if10]
  have st2 : g_X7_row_39 F x y v3 v5 2 thr (nI h) Mk Mh Mlo Mhi = some (0, 2, Mh, Mlo, Mhi) := by
    unfold g_X7_row_39
    rw [if_neg (by decide)]
  have fin : ∀ (cd : Nat) (kk : Int32), (cd = 1 ∧ kk = 1 ∨ cd = 3 ∧ kk = 2) → ∃ (k b : Int32) (a' : Nat → Int64) (lo' hi' : Nat → Nat → Int64) (Mh' : Nat → Int32) (Mlo' Mhi' : Nat → Int64), mb4 (some (cd, (0 : Int32), lo, hi)) (fun cd_1 r_2 x_K_lo_3 x_K_hi_4 => (if cd_1 = 0 then (if r_2 = 0 then mg (inb (0 : Int32) 1) (some ((0 : Int32), x_K_lo_3, x_K_hi_4, (vp_updL a ((0 : Int32)).toNatClampNeg (0 : Int64)))) else mg (inb (0 : Int32) 1) (some ((0 : Int32), x_K_lo_3, x_K_hi_4, (vp_updL a ((0 : Int32)).toNatClampNeg (1 : Int64))))) else (if cd_1 = 1 then some ((1 : Int32), x_K_lo_3, x_K_hi_4, a) else (if cd_1 = 3 then some ((2 : Int32), x_K_lo_3, x_K_hi_4, a) else none)))) = some (k, lo', hi', a') ∧ some ((0 : Int32), kk, Mh, Mlo, Mhi) = some (b, k, Mh', Mlo', Mhi') ∧ qB k b a' ∧ KR kc lo' hi' Mh' Mlo' Mhi' := by
    intro cd kk q
    rcases q with ⟨rfl, rfl⟩ | ⟨rfl, rfl⟩
    · exact ⟨1, 0, a, lo, hi, Mh, Mlo, Mhi, rfl, rfl, fun e => absurd e (by decide), K2⟩
    · exact ⟨2, 0, a, lo, hi, Mh, Mlo, Mhi, rfl, rfl, fun e => absurd e (by decide), K2⟩
  unfold f_L_row f_X6_row f_X7_row
  rw [st1, st2]
  rcases pk_ix x (n := kc) (by omega) with q | q | ⟨i, i1, i2⟩
  · rw [rqK_b (Or.inl q), isK_b (Or.inl q)]; exact fin 1 1 (Or.inl ⟨rfl, rfl⟩)
  · rw [rqK_b (Or.inr q), isK_b (Or.inr q)]; exact fin 1 1 (Or.inl ⟨rfl, rfl⟩)
  subst i2
  rw [rqK_o i1 (by omega), isK_o i1 (by omega), mb1_v, mb1_v, if_pos rfl, if10]
  rcases pk_ix y (n := L) (by omega) with q | q | ⟨j, j1, j2⟩
  · rw [rqL_b (Or.inl q), isL_b hh hl (Or.inl q)]; exact fin 1 1 (Or.inl ⟨rfl, rfl⟩)
  · rw [rqL_b (Or.inr q), isL_b hh hl (Or.inr q)]; exact fin 1 1 (Or.inl ⟨rfl, rfl⟩)
  subst j2
  rw [rqL_o j1 (by omega), isL_o hh hl j1 (by omega) (fun e => (h0 e).1), mb1_v, mb1_v, if_pos rfl, if10]
  by_cases c1 : lg_cmp v3 0 < 0
  · rw [if_pos c1, if_pos c1]; exact fin 3 2 (Or.inr ⟨rfl, rfl⟩)
  rw [if_neg c1, if_neg c1]
  by_cases c2 : ¬ lg_cmp v3 v5 ≤ 0
  · rw [if_neg c2, if_neg c2]; exact fin 3 2 (Or.inr ⟨rfl, rfl⟩)
  have c2 := Classical.not_not.mp c2
  rw [if_pos c2, if_pos c2]
  have hv3 : ¬ v3 = -1 := fun e => by
    subst e
    exact c1 (by decide)
  obtain ⟨b1, b2, b3, b4, ⟨kd, k1, k2⟩, _⟩ := B.2.1 j j1
  unfold g_X7_row_39 f_X1_addRow
  by_cases q4 : kd = 4
  · simp (disch := omega) only [mg_in, if10, if00, if_true, if_false, nI_1, nI_s1, mn_e, mb1_v, mb2_v, mb3_v, mb4_v, nI_clamp, nI_add, pk_mul, if_leT, if_leF, if_ltT, if_ltF, if_eqT, if_eqF, if_m1F, if_m1F2, if_m1T, if_m1ltT, if_m1leT, if_m1leF, if_m1ltF, if_e1T, if_e1F, if_1eT, if_1eF, if_le1T, if_le1F, if_1ltT, if_1ltF, iL0, iL2, iL3, iL4, iL5, iL6, iL7, iL8, iL9, iL10, iL20, iL21, iL22, iL31, iL32, iL40, iL46, iL48, iL57, iL64, iL65, iL80, iL81, iL90, iL96, iL97, iL100, iL122, iL126, iL127, iL500, iL1000, iL3000, iL9999999, b1, k2]
    exact ⟨0, 0, _, lo, hi, Mh, Mlo, Mhi, rfl, rfl, fun _ => Or.inl ⟨rfl, pk_uLs⟩, K2⟩
  · rcases kr i j i1 (by omega) with ⟨r1, r2⟩ | ⟨r1, r2, r3, r4⟩
    · have e1 : lg_cmp (lo i j) (-1) = nI 0 := (lg_cmp_eq _ _).mpr r2
      have e2 : vp_nar .boolean (1 : Int32) = nI 1 := by decide
      simp (disch := omega) only [mg_in, if10, if00, if_true, if_false, nI_1, nI_s1, mn_e, mb1_v, mb2_v, mb3_v, mb4_v, nI_clamp, nI_add, pk_mul, if_leT, if_leF, if_ltT, if_ltF, if_eqT, if_eqF, if_m1F, if_m1F2, if_m1T, if_m1ltT, if_m1leT, if_m1leF, if_m1ltF, if_e1T, if_e1F, if_1eT, if_1eF, if_le1T, if_le1F, if_1ltT, if_1ltF, iL0, iL2, iL3, iL4, iL5, iL6, iL7, iL8, iL9, iL10, iL20, iL21, iL22, iL31, iL32, iL40, iL46, iL48, iL57, iL64, iL65, iL80, iL81, iL90, iL96, iL97, iL100, iL122, iL126, iL127, iL500, iL1000, iL3000, iL9999999, b1, k2, e1, r1, e2, mb3_v]
      refine ⟨0, 1, _, _, _, _, _, _, rfl, rfl, fun _ => Or.inr ⟨rfl, pk_uLs⟩, k8, fun i' k' hi' hk' => ?_⟩
      by_cases w : i' = i
      · subst w
        rw [up2_s, up2_s]
        by_cases w2 : k' = j
        · subst w2
          rw [pk_us, pk_uLs, pk_uLs, pk_uLs, pk_uLs]
          exact Or.inr ⟨rfl, hv3, rfl, rfl⟩
        · rw [pk_un (by omega), pk_uLn (by omega), pk_uLn (by omega), pk_uLn (by omega), pk_uLn (by omega)]
          exact kr i' k' hi' hk'
      · rw [up2_n w, up2_n w, pk_un (by omega), pk_uLn (by omega), pk_uLn (by omega)]
        exact kr i' k' hi' hk'
    · have e1 : ¬ lg_cmp (lo i j) (-1) = nI 0 := fun e => r2 ((lg_cmp_eq _ _).mp e)
      have e3 : nI 1 = (1 : Int32) := rfl
      rw [e3] at r1
      simp (disch := omega) only [mg_in, if10, if00, if_true, if_false, nI_1, nI_s1, mn_e, mb1_v, mb2_v, mb3_v, mb4_v, nI_clamp, nI_add, pk_mul, if_leT, if_leF, if_ltT, if_ltF, if_eqT, if_eqF, if_m1F, if_m1F2, if_m1T, if_m1ltT, if_m1leT, if_m1leF, if_m1ltF, if_e1T, if_e1F, if_1eT, if_1eF, if_le1T, if_le1F, if_1ltT, if_1ltF, iL0, iL2, iL3, iL4, iL5, iL6, iL7, iL8, iL9, iL10, iL20, iL21, iL22, iL31, iL32, iL40, iL46, iL48, iL57, iL64, iL65, iL80, iL81, iL90, iL96, iL97, iL100, iL122, iL126, iL127, iL500, iL1000, iL3000, iL9999999, b1, k2, if_neg e1, r1, mb3_v]
      exact ⟨0, 0, _, lo, hi, Mh, Mlo, Mhi, rfl, rfl, fun _ => Or.inl ⟨rfl, pk_uLs⟩, K2⟩
theorem chg_loop {F h L C c nv : Nat} {hs : Bool} {X Y U V : Nat → Nat} {bk : Nat → Int32} {bn : Nat → Int64} {bh bd bu bY pf pl vf vl Ml Mk : Nat → Int32} {Mn : Nat → Int64} {Mz : Nat → Int32} {Mt : Nat → Int64} {Msp Mcop Mca Mpr Mpf Mpt Mvi Mvf Mvt : Nat → Int32} {i kc : Nat} {lo hi : Nat → Nat → Int64} {Mh : Nat → Int32} {Mlo Mhi : Nat → Int64} (hF : 4000 ≤ F) (W : QW hs h L C c nv X Y U V bk bn bh bd bu bY pf pl vf vl Ml Mk Mn Mz Mt Msp Mcop Mca Mpr Mpf Mpt Mvi Mvf Mvt) (K : KR kc lo hi Mh Mlo Mhi) (hi' : i < kc) :
    ∀ (r j n fu1 fu2 : Nat), j + r = L → n ≤ j → r < fu1 → r < fu2 → ∃ z, z ≤ 80 ∧ g_X1_countChanges_5 F fu1 (nI i) (nI n) (nI j) lo hi bk bh (nI L) = some (nI z) ∧ g_X7_changesOf_4 F fu2 (nI i) (nI n) (nI j) (nI h) Ml Mk Mt Mh Mlo Mhi = some (nI z) := by
  obtain ⟨B, ⟨hl, hcop, hr, hvr⟩, PV0, c21, R0, R1, hnv, V0, V1, h0, h1⟩ := W
  obtain ⟨hh, hL, hC⟩ := B.1
  obtain ⟨k8, kr⟩ := K
  intro r
  induction r with
  | zero =>
    intro j n fu1 fu2 he hn f1 f2
    obtain ⟨fu1, rfl⟩ : ∃ z, fu1 = z + 1 := ⟨fu1 - 1, by omega⟩
    obtain ⟨fu2, rfl⟩ : ∃ z, fu2 = z + 1 := ⟨fu2 - 1, by omega⟩
    refine ⟨n, by omega, ?_, ?_⟩
    · rw [g_X1_countChanges_5_s, if_leT (by omega) (by omega)]
    · rw [g_X7_changesOf_4_s, mg_in (by omega) (by omega), nI_clamp (by omega), hl, if_leT (by omega) (by omega)]
  | succ r ih =>
    intro j n fu1 fu2 he hn f1 f2
    obtain ⟨fu1, rfl⟩ : ∃ z, fu1 = z + 1 := ⟨fu1 - 1, by omega⟩
    obtain ⟨fu2, rfl⟩ : ∃ z, fu2 = z + 1 := ⟨fu2 - 1, by omega⟩
    obtain ⟨b1, b2, b3, b4, ⟨kd, k1, k2⟩, _, ⟨T, t1, t2⟩, _⟩ := B.2.1 j (by omega)
    rw [t2, nI_l (by omega)] at b3
    obtain ⟨z0, y1, y2, y3⟩ := ih (j + 1) n fu1 fu2 (by omega) (by omega) (by omega) (by omega)
    obtain ⟨z1, x1, x2, x3⟩ := ih (j + 1) (n + 1) fu1 fu2 (by omega) (by omega) (by omega) (by omega)
    have e0 : nI n + nI 0 = nI n := by rw [nI_add, Nat.add_zero]
    have cS : kd = 4 → g_X1_countChanges_5 F (fu1 + 1) (nI i) (nI n) (nI j) lo hi bk bh (nI L) = some (nI z0) := by
      intro q
      rw [g_X1_countChanges_5_s]
      simp (disch := omega) only [mg_in, if10, if00, if_true, if_false, nI_1, nI_s1, mn_e, mb1_v, mb2_v, mb3_v, mb4_v, nI_clamp, nI_add, pk_mul, if_leT, if_leF, if_ltT, if_ltF, if_eqT, if_eqF, if_m1F, if_m1F2, if_m1T, if_m1ltT, if_m1leT, if_m1leF, if_m1ltF, if_e1T, if_e1F, if_1eT, if_1eF, if_le1T, if_le1F, if_1ltT, if_1ltF, iL0, iL2, iL3, iL4, iL5, iL6, iL7, iL8, iL9, iL10, iL20, iL21, iL22, iL31, iL32, iL40, iL46, iL48, iL57, iL64, iL65, iL80, iL81, iL90, iL96, iL97, iL100, iL122, iL126, iL127, iL500, iL1000, iL3000, iL9999999, k2, y2]
    have cF : ∀ f : Int32, (f = 0 ∨ f = 1) → kd ≠ 4 → f_X1_fits F (nI i) (nI j) (lN T) lo hi = some f → g_X1_countChanges_5 F (fu1 + 1) (nI i) (nI n) (nI j) lo hi bk bh (nI L) = some (nI (if f = 0 then z1 else z0)) := by
      intro f hf q hfit
      rw [g_X1_countChanges_5_s]
      rcases hf with rfl | rfl
      · simp (disch := omega) only [mg_in, if10, if00, if_true, if_false, nI_1, nI_s1, mn_e, mb1_v, mb2_v, mb3_v, mb4_v, nI_clamp, nI_add, pk_mul, if_leT, if_leF, if_ltT, if_ltF, if_eqT, if_eqF, if_m1F, if_m1F2, if_m1T, if_m1ltT, if_m1leT, if_m1leF, if_m1ltF, if_e1T, if_e1F, if_1eT, if_1eF, if_le1T, if_le1F, if_1ltT, if_1ltF, iL0, iL2, iL3, iL4, iL5, iL6, iL7, iL8, iL9, iL10, iL20, iL21, iL22, iL31, iL32, iL40, iL46, iL48, iL57, iL64, iL65, iL80, iL81, iL90, iL96, iL97, iL100, iL122, iL126, iL127, iL500, iL1000, iL3000, iL9999999, k2, t2, nI_l, hfit, x2]
      · simp (disch := omega) only [mg_in, if10, if00, if_true, if_false, nI_1, nI_s1, mn_e, mb1_v, mb2_v, mb3_v, mb4_v, nI_clamp, nI_add, pk_mul, if_leT, if_leF, if_ltT, if_ltF, if_eqT, if_eqF, if_m1F, if_m1F2, if_m1T, if_m1ltT, if_m1leT, if_m1leF, if_m1ltF, if_e1T, if_e1F, if_1eT, if_1eF, if_le1T, if_le1F, if_1ltT, if_1ltF, iL0, iL2, iL3, iL4, iL5, iL6, iL7, iL8, iL9, iL10, iL20, iL21, iL22, iL31, iL32, iL40, iL46, iL48, iL57, iL64, iL65, iL80, iL81, iL90, iL96, iL97, iL100, iL122, iL126, iL127, iL500, iL1000, iL3000, iL9999999, k2, t2, nI_l, hfit, y2]
    have m82 : ∀ f : Int32, (f = 0 ∨ f = 1) → g_X7_changesOf_82 F (g_X7_changesOf_4 F fu2) (nI i) (nI n) (nI j) f (nI h) Ml Mk Mt Mh Mlo Mhi = some (nI (if kd = 4 then z0 else if f = 0 then z1 else z0)) := by
      intro f hf
      unfold g_X7_changesOf_82
      by_cases q : kd = 4
      · simp (disch := omega) only [mg_in, if10, if00, if_true, if_false, nI_1, nI_s1, mn_e, mb1_v, mb2_v, mb3_v, mb4_v, nI_clamp, nI_add, pk_mul, if_leT, if_leF, if_ltT, if_ltF, if_eqT, if_eqF, if_m1F, if_m1F2, if_m1T, if_m1ltT, if_m1leT, if_m1leF, if_m1ltF, if_e1T, if_e1F, if_1eT, if_1eF, if_le1T, if_le1F, if_1ltT, if_1ltF, iL0, iL2, iL3, iL4, iL5, iL6, iL7, iL8, iL9, iL10, iL20, iL21, iL22, iL31, iL32, iL40, iL46, iL48, iL57, iL64, iL65, iL80, iL81, iL90, iL96, iL97, iL100, iL122, iL126, iL127, iL500, iL1000, iL3000, iL9999999, b1, k2, e0, y3, if_pos q]
      · rcases hf with rfl | rfl
        · simp (disch := omega) only [mg_in, if10, if00, if_true, if_false, nI_1, nI_s1, mn_e, mb1_v, mb2_v, mb3_v, mb4_v, nI_clamp, nI_add, pk_mul, if_leT, if_leF, if_ltT, if_ltF, if_eqT, if_eqF, if_m1F, if_m1F2, if_m1T, if_m1ltT, if_m1leT, if_m1leF, if_m1ltF, if_e1T, if_e1F, if_1eT, if_1eF, if_le1T, if_le1F, if_1ltT, if_1ltF, iL0, iL2, iL3, iL4, iL5, iL6, iL7, iL8, iL9, iL10, iL20, iL21, iL22, iL31, iL32, iL40, iL46, iL48, iL57, iL64, iL65, iL80, iL81, iL90, iL96, iL97, iL100, iL122, iL126, iL127, iL500, iL1000, iL3000, iL9999999, b1, k2, x3, if_neg q]
        · simp (disch := omega) only [mg_in, if10, if00, if_true, if_false, nI_1, nI_s1, mn_e, mb1_v, mb2_v, mb3_v, mb4_v, nI_clamp, nI_add, pk_mul, if_leT, if_leF, if_ltT, if_ltF, if_eqT, if_eqF, if_m1F, if_m1F2, if_m1T, if_m1ltT, if_m1leT, if_m1leF, if_m1ltF, if_e1T, if_e1F, if_1eT, if_1eF, if_le1T, if_le1F, if_1ltT, if_1ltF, iL0, iL2, iL3, iL4, iL5, iL6, iL7, iL8, iL9, iL10, iL20, iL21, iL22, iL31, iL32, iL40, iL46, iL48, iL57, iL64, iL65, iL80, iL81, iL90, iL96, iL97, iL100, iL122, iL126, iL127, iL500, iL1000, iL3000, iL9999999, b1, k2, e0, y3, if_neg q]
    have key : ∃ f : Int32, (f = 0 ∨ f = 1) ∧ f_X1_fits F (nI i) (nI j) (lN T) lo hi = some f ∧ g_X7_changesOf_4 F (fu2 + 1) (nI i) (nI n) (nI j) (nI h) Ml Mk Mt Mh Mlo Mhi = g_X7_changesOf_82 F (g_X7_changesOf_4 F fu2) (nI i) (nI n) (nI j) f (nI h) Ml Mk Mt Mh Mlo Mhi := by
      unfold f_X1_fits
      rw [g_X7_changesOf_4_s]
      rcases kr i j hi' (by omega) with ⟨r1, r2⟩ | ⟨r1, r2, r3, r4⟩
      · have e1 : lg_cmp (lo i j) (-1) = nI 0 := (lg_cmp_eq _ _).mpr r2
        refine ⟨0, Or.inl rfl, ?_, ?_⟩
        · simp (disch := omega) only [mg_in, if10, if00, if_true, if_false, nI_1, nI_s1, mn_e, mb1_v, mb2_v, mb3_v, mb4_v, nI_clamp, nI_add, pk_mul, if_leT, if_leF, if_ltT, if_ltF, if_eqT, if_eqF, if_m1F, if_m1F2, if_m1T, if_m1ltT, if_m1leT, if_m1leF, if_m1ltF, if_e1T, if_e1F, if_1eT, if_1eF, if_le1T, if_le1F, if_1ltT, if_1ltF, iL0, iL2, iL3, iL4, iL5, iL6, iL7, iL8, iL9, iL10, iL20, iL21, iL22, iL31, iL32, iL40, iL46, iL48, iL57, iL64, iL65, iL80, iL81, iL90, iL96, iL97, iL100, iL122, iL126, iL127, iL500, iL1000, iL3000, iL9999999, e1]
        · simp (disch := omega) only [mg_in, if10, if00, if_true, if_false, nI_1, nI_s1, mn_e, mb1_v, mb2_v, mb3_v, mb4_v, nI_clamp, nI_add, pk_mul, if_leT, if_leF, if_ltT, if_ltF, if_eqT, if_eqF, if_m1F, if_m1F2, if_m1T, if_m1ltT, if_m1leT, if_m1leF, if_m1ltF, if_e1T, if_e1F, if_1eT, if_1eF, if_le1T, if_le1F, if_1ltT, if_1ltF, iL0, iL2, iL3, iL4, iL5, iL6, iL7, iL8, iL9, iL10, iL20, iL21, iL22, iL31, iL32, iL40, iL46, iL48, iL57, iL64, iL65, iL80, iL81, iL90, iL96, iL97, iL100, iL122, iL126, iL127, iL500, iL1000, iL3000, iL9999999, hl, b3, r1]
      · have e1 : ¬ lg_cmp (lo i j) (-1) = nI 0 := fun e => r2 ((lg_cmp_eq _ _).mp e)
        have e3 : nI 1 = (1 : Int32) := rfl
        rw [e3] at r1
        by_cases c1 : lN T < lo i j
        · have e4 : nI 0 < lg_cmp (lo i j) (lN T) := (lg_cmp_gt _ _).mpr c1
          have e5 : lg_cmp (lN T) (lo i j) < nI 0 := (lg_cmp_lt _ _).mpr c1
          refine ⟨0, Or.inl rfl, ?_, ?_⟩
          · simp (disch := omega) only [mg_in, if10, if00, if_true, if_false, nI_1, nI_s1, mn_e, mb1_v, mb2_v, mb3_v, mb4_v, nI_clamp, nI_add, pk_mul, if_leT, if_leF, if_ltT, if_ltF, if_eqT, if_eqF, if_m1F, if_m1F2, if_m1T, if_m1ltT, if_m1leT, if_m1leF, if_m1ltF, if_e1T, if_e1F, if_1eT, if_1eF, if_le1T, if_le1F, if_1ltT, if_1ltF, iL0, iL2, iL3, iL4, iL5, iL6, iL7, iL8, iL9, iL10, iL20, iL21, iL22, iL31, iL32, iL40, iL46, iL48, iL57, iL64, iL65, iL80, iL81, iL90, iL96, iL97, iL100, iL122, iL126, iL127, iL500, iL1000, iL3000, iL9999999, if_neg e1, if_pos e4]
          · simp (disch := omega) only [mg_in, if10, if00, if_true, if_false, nI_1, nI_s1, mn_e, mb1_v, mb2_v, mb3_v, mb4_v, nI_clamp, nI_add, pk_mul, if_leT, if_leF, if_ltT, if_ltF, if_eqT, if_eqF, if_m1F, if_m1F2, if_m1T, if_m1ltT, if_m1leT, if_m1leF, if_m1ltF, if_e1T, if_e1F, if_1eT, if_1eF, if_le1T, if_le1F, if_1ltT, if_1ltF, iL0, iL2, iL3, iL4, iL5, iL6, iL7, iL8, iL9, iL10, iL20, iL21, iL22, iL31, iL32, iL40, iL46, iL48, iL57, iL64, iL65, iL80, iL81, iL90, iL96, iL97, iL100, iL122, iL126, iL127, iL500, iL1000, iL3000, iL9999999, hl, b3, r1, r3, if_pos e5]
        · have e4 : ¬ nI 0 < lg_cmp (lo i j) (lN T) := fun e => c1 ((lg_cmp_gt _ _).mp e)
          have e5 : ¬ lg_cmp (lN T) (lo i j) < nI 0 := fun e => c1 ((lg_cmp_lt _ _).mp e)
          by_cases c2 : nI 0 < lg_cmp (lN T) (hi i j)
          · refine ⟨0, Or.inl rfl, ?_, ?_⟩
            · simp (disch := omega) only [mg_in, if10, if00, if_true, if_false, nI_1, nI_s1, mn_e, mb1_v, mb2_v, mb3_v, mb4_v, nI_clamp, nI_add, pk_mul, if_leT, if_leF, if_ltT, if_ltF, if_eqT, if_eqF, if_m1F, if_m1F2, if_m1T, if_m1ltT, if_m1leT, if_m1leF, if_m1ltF, if_e1T, if_e1F, if_1eT, if_1eF, if_le1T, if_le1F, if_1ltT, if_1ltF, iL0, iL2, iL3, iL4, iL5, iL6, iL7, iL8, iL9, iL10, iL20, iL21, iL22, iL31, iL32, iL40, iL46, iL48, iL57, iL64, iL65, iL80, iL81, iL90, iL96, iL97, iL100, iL122, iL126, iL127, iL500, iL1000, iL3000, iL9999999, if_neg e1, if_neg e4, if_pos c2]
            · simp (disch := omega) only [mg_in, if10, if00, if_true, if_false, nI_1, nI_s1, mn_e, mb1_v, mb2_v, mb3_v, mb4_v, nI_clamp, nI_add, pk_mul, if_leT, if_leF, if_ltT, if_ltF, if_eqT, if_eqF, if_m1F, if_m1F2, if_m1T, if_m1ltT, if_m1leT, if_m1leF, if_m1ltF, if_e1T, if_e1F, if_1eT, if_1eF, if_le1T, if_le1F, if_1ltT, if_1ltF, iL0, iL2, iL3, iL4, iL5, iL6, iL7, iL8, iL9, iL10, iL20, iL21, iL22, iL31, iL32, iL40, iL46, iL48, iL57, iL64, iL65, iL80, iL81, iL90, iL96, iL97, iL100, iL122, iL126, iL127, iL500, iL1000, iL3000, iL9999999, hl, b3, r1, r3, r4, if_neg e5, if_pos c2]
          · refine ⟨1, Or.inr rfl, ?_, ?_⟩
            · simp (disch := omega) only [mg_in, if10, if00, if_true, if_false, nI_1, nI_s1, mn_e, mb1_v, mb2_v, mb3_v, mb4_v, nI_clamp, nI_add, pk_mul, if_leT, if_leF, if_ltT, if_ltF, if_eqT, if_eqF, if_m1F, if_m1F2, if_m1T, if_m1ltT, if_m1leT, if_m1leF, if_m1ltF, if_e1T, if_e1F, if_1eT, if_1eF, if_le1T, if_le1F, if_1ltT, if_1ltF, iL0, iL2, iL3, iL4, iL5, iL6, iL7, iL8, iL9, iL10, iL20, iL21, iL22, iL31, iL32, iL40, iL46, iL48, iL57, iL64, iL65, iL80, iL81, iL90, iL96, iL97, iL100, iL122, iL126, iL127, iL500, iL1000, iL3000, iL9999999, if_neg e1, if_neg e4, if_neg c2]
            · simp (disch := omega) only [mg_in, if10, if00, if_true, if_false, nI_1, nI_s1, mn_e, mb1_v, mb2_v, mb3_v, mb4_v, nI_clamp, nI_add, pk_mul, if_leT, if_leF, if_ltT, if_ltF, if_eqT, if_eqF, if_m1F, if_m1F2, if_m1T, if_m1ltT, if_m1leT, if_m1leF, if_m1ltF, if_e1T, if_e1F, if_1eT, if_1eF, if_le1T, if_le1F, if_1ltT, if_1ltF, iL0, iL2, iL3, iL4, iL5, iL6, iL7, iL8, iL9, iL10, iL20, iL21, iL22, iL31, iL32, iL40, iL46, iL48, iL57, iL64, iL65, iL80, iL81, iL90, iL96, iL97, iL100, iL122, iL126, iL127, iL500, iL1000, iL3000, iL9999999, hl, b3, r1, r3, r4, if_neg e5, if_neg c2]
    obtain ⟨f, f3, f4, f5⟩ := key
    rw [f5, m82 f f3]
    by_cases q : kd = 4
    · exact ⟨z0, y1, cS q, by rw [if_pos q]⟩
    · refine ⟨if f = 0 then z1 else z0, ?_, cF f f3 q f4, by rw [if_neg q]⟩
      split <;> omega
theorem chg_ok {F h L C c nv : Nat} {hs : Bool} {X Y U V : Nat → Nat} {bk : Nat → Int32} {bn : Nat → Int64} {bh bd bu bY pf pl vf vl Ml Mk : Nat → Int32} {Mn : Nat → Int64} {Mz : Nat → Int32} {Mt : Nat → Int64} {Msp Mcop Mca Mpr Mpf Mpt Mvi Mvf Mvt : Nat → Int32} {i kc : Nat} {lo hi : Nat → Nat → Int64} {Mh : Nat → Int32} {Mlo Mhi : Nat → Int64} (hF : 4000 ≤ F) (W : QW hs h L C c nv X Y U V bk bn bh bd bu bY pf pl vf vl Ml Mk Mn Mz Mt Msp Mcop Mca Mpr Mpf Mpt Mvi Mvf Mvt) (K : KR kc lo hi Mh Mlo Mhi) (hi' : i < kc) :
    ∃ z, z ≤ 80 ∧ f_X1_countChanges F (nI i) lo hi bk bh (nI L) = some (nI z) ∧ f_X7_changesOf F (nI i) (nI h) Ml Mk Mt Mh Mlo Mhi = some (nI z) := by
  have hL := W.1.1.2.1
  exact chg_loop (F := F) hF W K hi' L 0 0 F F (by omega) (by omega) (by omega) (by omega)
theorem changes_ask {F h L C c nv : Nat} {hs : Bool} {X Y U V : Nat → Nat} {bk : Nat → Int32} {bn : Nat → Int64} {bh bd bu bY pf pl vf vl Ml Mk : Nat → Int32} {Mn : Nat → Int64} {Mz : Nat → Int32} {Mt : Nat → Int64} {Msp Mcop Mca Mpr Mpf Mpt Mvi Mvf Mvt : Nat → Int32} {x thr : Int32} {a : Nat → Int64} {kc : Nat} {lo hi : Nat → Nat → Int64} {Mh : Nat → Int32} {Mlo Mhi : Nat → Int64} (hF : 4000 ≤ F) (W : QW hs h L C c nv X Y U V bk bn bh bd bu bY pf pl vf vl Ml Mk Mn Mz Mt Msp Mcop Mca Mpr Mpf Mpt Mvi Mvf Mvt) (K : KR kc lo hi Mh Mlo Mhi) :
    qI (f_L_changes F x lo hi (nI kc) bk bh (nI L) a) (f_X7_changes F x thr (nI h) Ml Mk Mt (nI kc) Mh Mlo Mhi) := by
  have k8 := K.1
  unfold f_L_changes f_X6_changes f_X7_changes
  rcases pk_ix x (n := kc) (by omega) with q | q | ⟨i, i1, i2⟩
  · rw [rqK_b (Or.inl q), isK_b (Or.inl q)]; exact ⟨1, 0, a, rfl, rfl, fun e => absurd e (by decide)⟩
  · rw [rqK_b (Or.inr q), isK_b (Or.inr q)]; exact ⟨1, 0, a, rfl, rfl, fun e => absurd e (by decide)⟩
  subst i2
  obtain ⟨z, z1, z2, z3⟩ := chg_ok (F := F) hF W K i1
  rw [rqK_o i1 (by omega), isK_o i1 (by omega), mb1_v, mb1_v, if_pos rfl, if10, z2, z3, mb1_v, mb1_v, mb2_v, if_pos rfl, in01]
  exact ⟨0, nI z, _, rfl, rfl, fun _ => up0⟩
theorem mat_loop {F h L C c nv : Nat} {hs : Bool} {X Y U V : Nat → Nat} {bk : Nat → Int32} {bn : Nat → Int64} {bh bd bu bY pf pl vf vl Ml Mk : Nat → Int32} {Mn : Nat → Int64} {Mz : Nat → Int32} {Mt : Nat → Int64} {Msp Mcop Mca Mpr Mpf Mpt Mvi Mvf Mvt : Nat → Int32} {kc : Nat} {thr : Int32} {lo hi : Nat → Nat → Int64} {Mh : Nat → Int32} {Mlo Mhi : Nat → Int64} (hF : 4000 ≤ F) (W : QW hs h L C c nv X Y U V bk bn bh bd bu bY pf pl vf vl Ml Mk Mn Mz Mt Msp Mcop Mca Mpr Mpf Mpt Mvi Mvf Mvt) (K : KR kc lo hi Mh Mlo Mhi) :
    ∀ (r i fu1 fu2 : Nat) (best : Int32) (least : Nat), i + r = kc → r < fu1 → r < fu2 → ((best = -1 ∧ least = 81 ∧ i = 0) ∨ ∃ b, b < i ∧ best = nI b ∧ least ≤ 80 ∧ f_X7_changesOf F (nI b) (nI h) Ml Mk Mt Mh Mlo Mhi = some (nI least)) → ∃ z, g_X1_findLeastChanged_8 F fu1 best (nI least) (nI i) lo hi (nI kc) bk bh (nI L) = some z ∧ g_X7_match_9 F fu2 best (nI i) thr (nI h) Ml Mk Mt (nI kc) Mh Mlo Mhi = some (z, thr) := by
  have k8 := K.1
  intro r
  induction r with
  | zero =>
    intro i fu1 fu2 best least he f1 f2 inv
    obtain ⟨fu1, rfl⟩ : ∃ z, fu1 = z + 1 := ⟨fu1 - 1, by omega⟩
    obtain ⟨fu2, rfl⟩ : ∃ z, fu2 = z + 1 := ⟨fu2 - 1, by omega⟩
    refine ⟨best, ?_, ?_⟩
    · rw [g_X1_findLeastChanged_8_s, if_leT (by omega) (by omega)]
    · rw [g_X7_match_9_s, if_leT (by omega) (by omega)]
  | succ r ih =>
    intro i fu1 fu2 best least he f1 f2 inv
    obtain ⟨fu1, rfl⟩ : ∃ z, fu1 = z + 1 := ⟨fu1 - 1, by omega⟩
    obtain ⟨fu2, rfl⟩ : ∃ z, fu2 = z + 1 := ⟨fu2 - 1, by omega⟩
    obtain ⟨z, z1, z2, z3⟩ := chg_ok (F := F) (i := i) hF W K (by omega)
    rw [g_X1_findLeastChanged_8_s, g_X7_match_9_s, if_leF (by omega) (by omega), if_leF (by omega) (by omega), z2, mb1_v]
    rcases inv with ⟨v1, v2, v3⟩ | ⟨b, v1, v2, v3, v4⟩
    · subst v1 v2
      rw [if_leF (by omega) (by omega), if_m1T, mn_e, mn_e, nI_1]
      exact ih (i + 1) fu1 fu2 (nI i) z (by omega) (by omega) (by omega) (Or.inr ⟨i, by omega, rfl, z1, z3⟩)
    · subst v2
      rw [if_m1F (by omega), z3, v4, mb1_v, mb1_v]
      by_cases q : least ≤ z
      · rw [if_leT q (by omega), if_leT q (by omega), mn_e, mn_e, nI_1]
        exact ih (i + 1) fu1 fu2 (nI b) least (by omega) (by omega) (by omega) (Or.inr ⟨b, by omega, rfl, v3, v4⟩)
      · rw [if_leF (by omega) (by omega), if_leF (by omega) (by omega), mn_e, mn_e, nI_1]
        exact ih (i + 1) fu1 fu2 (nI i) z (by omega) (by omega) (by omega) (Or.inr ⟨i, by omega, rfl, z1, z3⟩)
theorem match_ask {F h L C c nv : Nat} {hs : Bool} {X Y U V : Nat → Nat} {bk : Nat → Int32} {bn : Nat → Int64} {bh bd bu bY pf pl vf vl Ml Mk : Nat → Int32} {Mn : Nat → Int64} {Mz : Nat → Int32} {Mt : Nat → Int64} {Msp Mcop Mca Mpr Mpf Mpt Mvi Mvf Mvt : Nat → Int32} {thr : Int32} {kc : Nat} {lo hi : Nat → Nat → Int64} {Mh : Nat → Int32} {Mlo Mhi : Nat → Int64} (hF : 4000 ≤ F) (W : QW hs h L C c nv X Y U V bk bn bh bd bu bY pf pl vf vl Ml Mk Mn Mz Mt Msp Mcop Mca Mpr Mpf Mpt Mvi Mvf Mvt) (K : KR kc lo hi Mh Mlo Mhi) :
    ∃ z, f_X6_match F lo hi (nI kc) bk bh (nI L) = some z ∧ f_X7_match F thr (nI h) Ml Mk Mt (nI kc) Mh Mlo Mhi = some (z, 0) := by
  have k8 := K.1
  obtain ⟨z, z1, z2⟩ := mat_loop (F := F) (thr := 0) hF W K kc 0 F F (-1) 81 (by omega) (by omega) (by omega) (Or.inl ⟨rfl, rfl, rfl⟩)
  unfold f_X6_match f_X1_findLeastChanged f_X7_match
  rw [iL81, show g_X1_findLeastChanged_8 F F (-1) (nI 81) 0 lo hi (nI kc) bk bh (nI L) = _ from z1, mb1_v]
  exact ⟨z, rfl, z2⟩
