theorem end_sim {F s L C c np : Nat} {td : Bool} {X Y : Nat → Nat} {bk : Nat → Int32} {bn : Nat → Int64} {bh bd bu bY pf pl : Nat → Int32} {Mk : Nat → Int32} {Mn : Nat → Int64} {Mz : Nat → Int32} {Mt : Nat → Int64} {Msp Mca Ml Mcop Mpf Mpt : Nat → Int32} (hF : 4000 ≤ F) (B : BR s L C bk bn bh bd bu bY Mk Mn Mz Mt Msp Mca) (hl : Ml s = nI L) (hcop : Mcop s = nI C) (P : PST C c np td X Y) (hR0 : SR 0 c X Y pf pl) (hR : SR (22 * s) np X Y Mpf Mpt) :
    (∃ (c' : Nat) (X' Y' : Nat → Nat) (pf' pl' : Nat → Int32), f_X0_endLayers F bk pf pl (nI c) (nI L) (nI C) = some (1, pf', pl', nI c') ∧ f_X7_isWhole F Ml Mk Mcop (nI s) = some 1 ∧ 1 ≤ c' ∧ 2 ≤ C ∧ 1 ≤ L ∧ PST C c' np td X' Y' ∧ SR 0 c' X' Y' pf' pl' ∧ SR (22 * s) np X' Y' Mpf Mpt) ∨
    (f_X0_endLayers F bk pf pl (nI c) (nI L) (nI C) = some (0, pf, pl, nI c) ∧ f_X7_isWhole F Ml Mk Mcop (nI s) = some 0) := by
  have P2 := P
  obtain ⟨PV0, hnp2, hC3, hst⟩ := P
  obtain ⟨⟨hs, hL, hC⟩, hlk, _, _⟩ := B
  have g40 : 2 ≤ C → ∃ (c' : Nat) (X' Y' : Nat → Nat) (pf' pl' : Nat → Int32), g_X0_endLayers_40 F pf pl (nI c) (nI C) = some (1, pf', pl', nI c') ∧ 1 ≤ c' ∧ PST C c' np td X' Y' ∧ SR 0 c' X' Y' pf' pl' ∧ SR (22 * s) np X' Y' Mpf Mpt := by
    intro hC2
    unfold g_X0_endLayers_40
    by_cases q : c = 0
    · subst q
      have hst := hst.resolve_right (by omega)
      obtain ⟨_, q2, q3⟩ := hst
      subst q2 q3
      obtain ⟨pf', pl', c1, c2⟩ := ins_ok (F := F) (N := 21) (p := 0) (x := 0) (y := C - 1) hF (by omega) (show 0 < 21 by omega) (by omega) hR0 (by omega) (by omega)
      refine ⟨1, inA X 0 0, inA Y 0 (C - 1), pf', pl', ?_, by omega, ⟨⟨fun k hk => ?_, fun i j h1 h2 => by omega⟩, by omega, hC3, Or.inr ⟨by omega, inA_e rfl, inA_e rfl, Or.inl ⟨rfl, rfl⟩⟩⟩, c2, fun k hk => by omega⟩
      · unfold f_X2_addLast
        have e1 : nI C - 1 = nI (C - 1) := nI_s1 (by omega)
        rw [if_pos (show nI 0 = 0 from rfl), e1, iL0, c1, mb4_v, mb3_v]
      · rw [inA_e (by omega), inA_e (by omega)]
        omega
    · have hc : c ≤ 21 := by rcases hst with ⟨q2, _⟩ | ⟨_, _, _, ⟨_, q2⟩ | ⟨_, q2⟩⟩ <;> omega
      refine ⟨c, X, Y, pf, pl, ?_, by omega, P2, hR0, hR⟩
      simp (disch := omega) only [mg_in, if10, if00, if_true, if_false, nI_1, nI_s1, mn_e, mb1_v, mb2_v, mb3_v, mb4_v, nI_clamp, nI_add, pk_mul, if_leT, if_leF, if_ltT, if_ltF, if_eqT, if_eqF, if_m1F, if_m1F2, if_m1T, if_m1ltT, if_m1leT, if_m1leF, if_m1ltF, if_e1T, if_e1F, if_1eT, if_1eF, if_le1T, if_le1F, if_1ltT, if_1ltF, iL0, iL2, iL3, iL4, iL5, iL6, iL7, iL8, iL9, iL10, iL20, iL21, iL22, iL31, iL32, iL40, iL46, iL48, iL57, iL64, iL65, iL80, iL81, iL90, iL96, iL97, iL100, iL122, iL126, iL127, iL500, iL1000, iL3000, iL9999999]
  unfold f_X0_endLayers f_X7_isWhole f_X7_layerAt g_X7_isWhole_36
  by_cases h1 : C < 2
  · right
    constructor
    · simp (disch := omega) only [mg_in, if10, if00, if_true, if_false, nI_1, nI_s1, mn_e, mb1_v, mb2_v, mb3_v, mb4_v, nI_clamp, nI_add, pk_mul, if_leT, if_leF, if_ltT, if_ltF, if_eqT, if_eqF, if_m1F, if_m1F2, if_m1T, if_m1ltT, if_m1leT, if_m1leF, if_m1ltF, if_e1T, if_e1F, if_1eT, if_1eF, if_le1T, if_le1F, if_1ltT, if_1ltF, iL0, iL2, iL3, iL4, iL5, iL6, iL7, iL8, iL9, iL10, iL20, iL21, iL22, iL31, iL32, iL40, iL46, iL48, iL57, iL64, iL65, iL80, iL81, iL90, iL96, iL97, iL100, iL122, iL126, iL127, iL500, iL1000, iL3000, iL9999999]
    · by_cases h2 : L = 0
      · simp (disch := omega) only [mg_in, if10, if00, if_true, if_false, nI_1, nI_s1, mn_e, mb1_v, mb2_v, mb3_v, mb4_v, nI_clamp, nI_add, pk_mul, if_leT, if_leF, if_ltT, if_ltF, if_eqT, if_eqF, if_m1F, if_m1F2, if_m1T, if_m1ltT, if_m1leT, if_m1leF, if_m1ltF, if_e1T, if_e1F, if_1eT, if_1eF, if_le1T, if_le1F, if_1ltT, if_1ltF, iL0, iL2, iL3, iL4, iL5, iL6, iL7, iL8, iL9, iL10, iL20, iL21, iL22, iL31, iL32, iL40, iL46, iL48, iL57, iL64, iL65, iL80, iL81, iL90, iL96, iL97, iL100, iL122, iL126, iL127, iL500, iL1000, iL3000, iL9999999, hl, hcop]
      · simp (disch := omega) only [mg_in, if10, if00, if_true, if_false, nI_1, nI_s1, mn_e, mb1_v, mb2_v, mb3_v, mb4_v, nI_clamp, nI_add, pk_mul, if_leT, if_leF, if_ltT, if_ltF, if_eqT, if_eqF, if_m1F, if_m1F2, if_m1T, if_m1ltT, if_m1leT, if_m1leF, if_m1ltF, if_e1T, if_e1F, if_1eT, if_1eF, if_le1T, if_le1F, if_1ltT, if_1ltF, iL0, iL2, iL3, iL4, iL5, iL6, iL7, iL8, iL9, iL10, iL20, iL21, iL22, iL31, iL32, iL40, iL46, iL48, iL57, iL64, iL65, iL80, iL81, iL90, iL96, iL97, iL100, iL122, iL126, iL127, iL500, iL1000, iL3000, iL9999999, hl, hcop]
  by_cases h2 : L = 0
  · right
    constructor
    · simp (disch := omega) only [mg_in, if10, if00, if_true, if_false, nI_1, nI_s1, mn_e, mb1_v, mb2_v, mb3_v, mb4_v, nI_clamp, nI_add, pk_mul, if_leT, if_leF, if_ltT, if_ltF, if_eqT, if_eqF, if_m1F, if_m1F2, if_m1T, if_m1ltT, if_m1leT, if_m1leF, if_m1ltF, if_e1T, if_e1F, if_1eT, if_1eF, if_le1T, if_le1F, if_1ltT, if_1ltF, iL0, iL2, iL3, iL4, iL5, iL6, iL7, iL8, iL9, iL10, iL20, iL21, iL22, iL31, iL32, iL40, iL46, iL48, iL57, iL64, iL65, iL80, iL81, iL90, iL96, iL97, iL100, iL122, iL126, iL127, iL500, iL1000, iL3000, iL9999999]
    · simp (disch := omega) only [mg_in, if10, if00, if_true, if_false, nI_1, nI_s1, mn_e, mb1_v, mb2_v, mb3_v, mb4_v, nI_clamp, nI_add, pk_mul, if_leT, if_leF, if_ltT, if_ltF, if_eqT, if_eqF, if_m1F, if_m1F2, if_m1T, if_m1ltT, if_m1leT, if_m1leF, if_m1ltF, if_e1T, if_e1F, if_1eT, if_1eF, if_le1T, if_le1F, if_1ltT, if_1ltF, iL0, iL2, iL3, iL4, iL5, iL6, iL7, iL8, iL9, iL10, iL20, iL21, iL22, iL31, iL32, iL40, iL46, iL48, iL57, iL64, iL65, iL80, iL81, iL90, iL96, iL97, iL100, iL122, iL126, iL127, iL500, iL1000, iL3000, iL9999999, hl, hcop]
  have e := (hlk (L - 1) (by omega)).1
  by_cases h3 : bk (L - 1) = nI 0
  · left
    obtain ⟨c', X', Y', pf', pl', a1, a2, a3⟩ := g40 (by omega)
    refine ⟨c', X', Y', pf', pl', ?_, ?_, a2, by omega, by omega, a3⟩
    · simp (disch := omega) only [mg_in, if10, if00, if_true, if_false, nI_1, nI_s1, mn_e, mb1_v, mb2_v, mb3_v, mb4_v, nI_clamp, nI_add, pk_mul, if_leT, if_leF, if_ltT, if_ltF, if_eqT, if_eqF, if_m1F, if_m1F2, if_m1T, if_m1ltT, if_m1leT, if_m1leF, if_m1ltF, if_e1T, if_e1F, if_1eT, if_1eF, if_le1T, if_le1F, if_1ltT, if_1ltF, iL0, iL2, iL3, iL4, iL5, iL6, iL7, iL8, iL9, iL10, iL20, iL21, iL22, iL31, iL32, iL40, iL46, iL48, iL57, iL64, iL65, iL80, iL81, iL90, iL96, iL97, iL100, iL122, iL126, iL127, iL500, iL1000, iL3000, iL9999999, h3, a1]
    · simp (disch := omega) only [mg_in, if10, if00, if_true, if_false, nI_1, nI_s1, mn_e, mb1_v, mb2_v, mb3_v, mb4_v, nI_clamp, nI_add, pk_mul, if_leT, if_leF, if_ltT, if_ltF, if_eqT, if_eqF, if_m1F, if_m1F2, if_m1T, if_m1ltT, if_m1leT, if_m1leF, if_m1ltF, if_e1T, if_e1F, if_1eT, if_1eF, if_le1T, if_le1F, if_1ltT, if_1ltF, iL0, iL2, iL3, iL4, iL5, iL6, iL7, iL8, iL9, iL10, iL20, iL21, iL22, iL31, iL32, iL40, iL46, iL48, iL57, iL64, iL65, iL80, iL81, iL90, iL96, iL97, iL100, iL122, iL126, iL127, iL500, iL1000, iL3000, iL9999999, hl, hcop, e, h3]
  by_cases h4 : bk (L - 1) = nI 3
  · left
    obtain ⟨c', X', Y', pf', pl', a1, a2, a3⟩ := g40 (by omega)
    refine ⟨c', X', Y', pf', pl', ?_, ?_, a2, by omega, by omega, a3⟩
    · simp (disch := omega) only [mg_in, if10, if00, if_true, if_false, nI_1, nI_s1, mn_e, mb1_v, mb2_v, mb3_v, mb4_v, nI_clamp, nI_add, pk_mul, if_leT, if_leF, if_ltT, if_ltF, if_eqT, if_eqF, if_m1F, if_m1F2, if_m1T, if_m1ltT, if_m1leT, if_m1leF, if_m1ltF, if_e1T, if_e1F, if_1eT, if_1eF, if_le1T, if_le1F, if_1ltT, if_1ltF, iL0, iL2, iL3, iL4, iL5, iL6, iL7, iL8, iL9, iL10, iL20, iL21, iL22, iL31, iL32, iL40, iL46, iL48, iL57, iL64, iL65, iL80, iL81, iL90, iL96, iL97, iL100, iL122, iL126, iL127, iL500, iL1000, iL3000, iL9999999, h4, a1]
    · simp (disch := omega) only [mg_in, if10, if00, if_true, if_false, nI_1, nI_s1, mn_e, mb1_v, mb2_v, mb3_v, mb4_v, nI_clamp, nI_add, pk_mul, if_leT, if_leF, if_ltT, if_ltF, if_eqT, if_eqF, if_m1F, if_m1F2, if_m1T, if_m1ltT, if_m1leT, if_m1leF, if_m1ltF, if_e1T, if_e1F, if_1eT, if_1eF, if_le1T, if_le1F, if_1ltT, if_1ltF, iL0, iL2, iL3, iL4, iL5, iL6, iL7, iL8, iL9, iL10, iL20, iL21, iL22, iL31, iL32, iL40, iL46, iL48, iL57, iL64, iL65, iL80, iL81, iL90, iL96, iL97, iL100, iL122, iL126, iL127, iL500, iL1000, iL3000, iL9999999, hl, hcop, e, h4]
  · right
    constructor
    · simp (disch := omega) only [mg_in, if10, if00, if_true, if_false, nI_1, nI_s1, mn_e, mb1_v, mb2_v, mb3_v, mb4_v, nI_clamp, nI_add, pk_mul, if_leT, if_leF, if_ltT, if_ltF, if_eqT, if_eqF, if_m1F, if_m1F2, if_m1T, if_m1ltT, if_m1leT, if_m1leF, if_m1ltF, if_e1T, if_e1F, if_1eT, if_1eF, if_le1T, if_le1F, if_1ltT, if_1ltF, iL0, iL2, iL3, iL4, iL5, iL6, iL7, iL8, iL9, iL10, iL20, iL21, iL22, iL31, iL32, iL40, iL46, iL48, iL57, iL64, iL65, iL80, iL81, iL90, iL96, iL97, iL100, iL122, iL126, iL127, iL500, iL1000, iL3000, iL9999999, if_neg h3, if_neg h4]
    · simp (disch := omega) only [mg_in, if10, if00, if_true, if_false, nI_1, nI_s1, mn_e, mb1_v, mb2_v, mb3_v, mb4_v, nI_clamp, nI_add, pk_mul, if_leT, if_leF, if_ltT, if_ltF, if_eqT, if_eqF, if_m1F, if_m1F2, if_m1T, if_m1ltT, if_m1leT, if_m1leF, if_m1ltF, if_e1T, if_e1F, if_1eT, if_1eF, if_le1T, if_le1F, if_1ltT, if_1ltF, iL0, iL2, iL3, iL4, iL5, iL6, iL7, iL8, iL9, iL10, iL20, iL21, iL22, iL31, iL32, iL40, iL46, iL48, iL57, iL64, iL65, iL80, iL81, iL90, iL96, iL97, iL100, iL122, iL126, iL127, iL500, iL1000, iL3000, iL9999999, hl, hcop, e, if_neg h3, if_neg h4]
theorem t72_b {F e : Nat} {v1 v2 st p : Int32} {w : Int64} {ws so : Int32} (he : e < 2 ^ 31) : g_X7_twoNames_72 F v1 v2 st p (nI e) w ws so = some (v2, p, nI e, w, ws, st) := by
  unfold g_X7_twoNames_72
  rw [gd_f he, mb1_v, if00]
theorem t41_b {F e : Nat} {v2 sz p s : Int32} {w : Int64} {ws so : Int32} {tx : Nat → Int32} {Mn : Nat → Int64} {Mz Mcop Mca : Nat → Int32} (hF : 4000 ≤ F) (he : e < 2 ^ 31) : g_X7_twoNames_41 F v2 tx sz Mn Mz Mcop Mca p s (nI e) w ws so = some (v2, p, nI e, 0, 0, 0) := by
  unfold g_X7_twoNames_41
  rw [exM_b he, mb2_v, name_bad hF he, mb4_v, gd_f he, mb1_v, if00, t72_b he]
theorem two_sim {F n a s L C : Nat} {ch tx : Nat → Int32} {fa : Int32} {w0 : Int64} {ws0 so0 : Int32} {bk : Nat → Int32} {bn : Nat → Int64} {bh bd bu bY : Nat → Int32} {Mk : Nat → Int32} {Mn : Nat → Int64} {Mz : Nat → Int32} {Mt : Nat → Int64} {Msp Mca Mcop : Nat → Int32} (hF : 4000 ≤ F) (T : TX n ch tx) (B : BR s L C bk bn bh bd bu bY Mk Mn Mz Mt Msp Mca) (hcop : Mcop s = nI C) (ha : a ≤ n) :
    (∃ (x y a1 a2 : Nat) (w : Int64) (ws : Int32), x < y ∧ y < C ∧ a + 4 ≤ a2 ∧ a2 ≤ n ∧ f_X4_readCopper F (-1) ch (nI n) (nI a) fa bn bY (nI C) = some (nI x, nI a1, fa) ∧ f_X4_readCopper F (nI x) ch (nI n) (nI a1) fa bn bY (nI C) = some (nI y, nI a2, fa) ∧ f_X7_twoNames F tx (nI n) Mn Mz Mcop Mca (nI a) (nI s) (-1) w0 ws0 so0 = some (nI x, nI a2, -1, w, ws, nI y)) ∨
    (∃ (e : Nat) (r p : Int32) (w : Int64) (ws so p1 : Int32), e ≤ n ∧ f_X7_twoNames F tx (nI n) Mn Mz Mcop Mca (nI a) (nI s) (-1) w0 ws0 so0 = some (r, p, nI e, w, ws, so) ∧ (f_X4_readCopper F (-1) ch (nI n) (nI a) fa bn bY (nI C) = some (-1, p1, nI e) ∨ ∃ (x a1 : Nat), x < C ∧ f_X4_readCopper F (-1) ch (nI n) (nI a) fa bn bY (nI C) = some (nI x, nI a1, fa) ∧ f_X4_readCopper F (nI x) ch (nI n) (nI a1) fa bn bY (nI C) = some (-1, p1, nI e))) := by
  have hn := T.1
  obtain ⟨hs, hL2, hC2⟩ := B.1
  have one : ∀ (b : Nat) (ah : Int32), b ≤ n →
      (∃ (m : Nat) (v : Int64) (z : Int32), NM v m ∧ cat n ch b = 32 ∧ b + 1 + m ≤ n ∧ 1 ≤ m ∧ (z = -1 ∨ ∃ j, j < C ∧ z = nI j) ∧ f_X4_readCopper F ah ch (nI n) (nI b) fa bn bY (nI C) = (if ah < z then some (z, nI (b + 1 + m), fa) else some (-1, nI (b + 1 + m), nI (b + 1))) ∧ (∀ w ws, f_X7_name F tx (nI n) (nI (b + 1)) (-1) w ws = some (nI (b + 1 + m), -1, v, nI m)) ∧ f_X7_copperNamed F Mn Mz Mcop Mca (nI s) v (nI m) = some z) ∨
      (∃ (e : Nat) (p1 : Int32), e ≤ n ∧ f_X4_readCopper F ah ch (nI n) (nI b) fa bn bY (nI C) = some (-1, p1, nI e) ∧ ((¬ cat n ch b = 32 ∧ e = b) ∨ (cat n ch b = 32 ∧ ∃ G : Int64 → Int32 → Int32 × Int64 × Int32, ∀ w ws, f_X7_name F tx (nI n) (nI (b + 1)) (-1) w ws = some ((G w ws).1, nI e, (G w ws).2.1, (G w ws).2.2)))) := by
    intro b ah hb
    by_cases hx : cat n ch b = 32
    · have han := cat_in hx (by decide)
      have hnm : ∀ w ws, f_X7_name F tx (nI n) (nI (b + 1)) (-1) w ws = f_X7_name F tx (nI n) (nI (b + 1)) (-1) 0 0 := fun w ws => rfl
      rcases name_sim (F := F) (fa := fa) (w := 0) (ws := 0) hF T (show b + 1 ≤ n by omega) with ⟨m, v, h1, h2, o1, o2⟩ | ⟨e, p1, p2, w, ws, h1, o1, o2⟩
      · obtain ⟨z, z1, z2, z3⟩ := cop_sim (F := F) hF B hcop h1
        have hv0 : ¬ lg_cmp v 0 = 0 := fun q => NM_ne h1 ((lg_cmp_eq _ _).mp q)
        have hm := h1
        obtain ⟨_, _, hm1, _⟩ := hm
        refine Or.inl ⟨m, v, z, h1, hx, h2, hm1, z3, ?_, fun w ws => by rw [hnm w ws]; exact o2, z2⟩
        unfold f_X4_readCopper f_X4_faultAt
        rw [exA_t T (by omega) hx, mb3_v, if10, o1, mb3_v, if_neg hv0, z1, mb1_v, mb2_v]
      · refine Or.inr ⟨e, p1, h1, ?_, Or.inr ⟨hx, fun _ _ => (p2, w, ws), fun w' ws' => by rw [hnm w' ws']; exact o2⟩⟩
        unfold f_X4_readCopper
        rw [exA_t T (by omega) hx, mb3_v, if10, o1, mb3_v, if_pos (show lg_cmp 0 0 = 0 by decide)]
    · refine Or.inr ⟨b, nI b, hb, ?_, Or.inl ⟨hx, rfl⟩⟩
      unfold f_X4_readCopper
      rw [exA_f T (by omega) hx, mb3_v, if00]
  unfold f_X7_twoNames
  rcases one a (-1) ha with ⟨m, v, z, h1, h2, h3, h4, h5, h6, h7, h8⟩ | ⟨e, p1, h1, h2, h3⟩
  · rw [exM_t T (by omega) h2, mb2_v, h7, mb4_v, gd_t, mb1_v, if10, h8, mb1_v]
    rcases h5 with h5 | ⟨x, hx, h5⟩
    · rw [if_pos h5, fl_t, mb1_v, t41_b hF (by omega)]
      subst h5
      rw [if_neg (by decide)] at h6
      exact Or.inr ⟨a + 1, _, _, _, _, _, _, by omega, rfl, Or.inl h6⟩
    · have h9 : ¬ z = -1 := by rw [h5]; exact nI_m1 (by omega)
      subst h5
      rw [if_pos (m1_lt (by omega))] at h6
      rw [if_neg h9]
      unfold g_X7_twoNames_41
      rcases one (a + 1 + m) (nI x) h3 with ⟨m2, v2, z2, k1, k2, k3, k4, k5, k6, k7, k8⟩ | ⟨e, p1, k1, k2, k3⟩
      · rw [exM_t T (by omega) k2, mb2_v, k7, mb4_v, gd_t, mb1_v, if10, k8, mb1_v]
        unfold g_X7_twoNames_72
        rcases k5 with k5 | ⟨y, hy, k5⟩
        · subst k5
          rw [gd_t, mb1_v, if10, if_m1T, fl_t, mb1_v]
          rw [if_neg (m1_nlt (by omega))] at k6
          exact Or.inr ⟨a + 1 + m + 1, _, _, _, _, _, _, by omega, rfl, Or.inr ⟨x, _, hx, h6, k6⟩⟩
        · subst k5
          by_cases q : x < y
          · rw [gd_t, mb1_v, if10, if_m1F (by omega), if_ltT q (by omega)]
            rw [if_ltT q (by omega)] at k6
            exact Or.inl ⟨x, y, _, _, _, _, q, hy, by omega, k3, h6, k6, rfl⟩
          · rw [gd_t, mb1_v, if10, if_m1F (by omega), if_ltF (by omega) (by omega), fl_t, mb1_v]
            rw [if_ltF (by omega) (by omega)] at k6
            exact Or.inr ⟨a + 1 + m + 1, _, _, _, _, _, _, by omega, rfl, Or.inr ⟨x, _, hx, h6, k6⟩⟩
      · rcases k3 with ⟨k3, k4⟩ | ⟨k3, G, k4⟩
        · subst k4
          rw [exM_f T (by omega) k3, mb2_v, name_bad hF (by omega), mb4_v, gd_f (by omega), mb1_v, if00, t72_b (by omega)]
          exact Or.inr ⟨_, _, _, _, _, _, _, k1, rfl, Or.inr ⟨x, _, hx, h6, k2⟩⟩
        · rw [exM_t T (by omega) k3, mb2_v, k4, mb4_v, gd_f (by omega), mb1_v, if00, t72_b (by omega)]
          exact Or.inr ⟨_, _, _, _, _, _, _, k1, rfl, Or.inr ⟨x, _, hx, h6, k2⟩⟩
  · rcases h3 with ⟨h3, h4⟩ | ⟨h3, G, h4⟩
    · subst h4
      rw [exM_f T (by omega) h3, mb2_v, name_bad hF (by omega), mb4_v, gd_f (by omega), mb1_v, if00, t41_b hF (by omega)]
      exact Or.inr ⟨_, _, _, _, _, _, _, h1, rfl, Or.inl h2⟩
    · rw [exM_t T (by omega) h3, mb2_v, h4, mb4_v, gd_f (by omega), mb1_v, if00, t41_b hF (by omega)]
      exact Or.inr ⟨_, _, _, _, _, _, _, h1, rfl, Or.inl h2⟩
theorem sp_none {F : Nat} {kd : Int32} {ch : Nat → Int32} {n a g fa : Int32} {bk : Nat → Int32} {bn : Nat → Int64} {bY pf0 pl0 vf vl pf pl : Nat → Int32} {c0 c td nv L C : Int32} (he : f_X0_endLayers F bk pf0 pl0 c0 L C = some (1, pf, pl, c)) (ht : f_X0_canTell F kd c td nv = some 0) : f_X4_readSpan F kd ch n a g fa bk bn bY pf0 pl0 c0 td vf vl nv L C = some (0, a, g, pf, pl, c, td, vf, vl, nv) := by
  unfold f_X4_readSpan f_X4_faultAt
  rw [he, mb4_v, if10, ht, mb1_v, if00, mb2_v, mg_t (by decide)]
theorem sp_bad {F e : Nat} {kd p1 : Int32} {ch : Nat → Int32} {n a g fa : Int32} {bk : Nat → Int32} {bn : Nat → Int64} {bY pf0 pl0 vf vl pf pl : Nat → Int32} {c0 c td nv L C : Int32} (he : f_X0_endLayers F bk pf0 pl0 c0 L C = some (1, pf, pl, c)) (ht : f_X0_canTell F kd c td nv = some 1) (h : f_X4_readCopper F (-1) ch n a fa bn bY C = some (-1, p1, nI e) ∨ ∃ (x a1 : Nat), x < 100 ∧ f_X4_readCopper F (-1) ch n a fa bn bY C = some (nI x, nI a1, fa) ∧ f_X4_readCopper F (nI x) ch n (nI a1) fa bn bY C = some (-1, p1, nI e)) : f_X4_readSpan F kd ch n a g fa bk bn bY pf0 pl0 c0 td vf vl nv L C = some (0, p1, nI e, pf, pl, c, td, vf, vl, nv) := by
  unfold f_X4_readSpan g_X4_readSpan_46
  rw [he, mb4_v, if10, ht, mb1_v, if10]
  rcases h with h | ⟨x, a1, hx, h1, h2⟩
  · rw [h, mb3_v, if_m1T, if_m1T]
  · rw [h1, mb3_v, if_m1F (by omega), h2, mb3_v, if_m1T]
theorem sp_good {F x y a1 a2 : Nat} {kd r : Int32} {ch : Nat → Int32} {n a g fa : Int32} {bk : Nat → Int32} {bn : Nat → Int64} {bY pf0 pl0 vf vl pf pl pf' pl' vf' vl' : Nat → Int32} {c0 c td nv L C c' td' nv' : Int32} (he : f_X0_endLayers F bk pf0 pl0 c0 L C = some (1, pf, pl, c)) (ht : f_X0_canTell F kd c td nv = some 1) (hx : x < 100) (hy : y < 100) (h1 : f_X4_readCopper F (-1) ch n a fa bn bY C = some (nI x, nI a1, fa)) (h2 : f_X4_readCopper F (nI x) ch n (nI a1) fa bn bY C = some (nI y, nI a2, fa)) (h3 : f_X0_tell F kd (nI x) (nI y) pf pl c td vf vl nv = some (r, pf', pl', c', td', vf', vl', nv')) : f_X4_readSpan F kd ch n a g fa bk bn bY pf0 pl0 c0 td vf vl nv L C = if r = 0 then some (0, nI a2, g, pf', pl', c', td', vf', vl', nv') else some (1, nI a2, fa, pf', pl', c', td', vf', vl', nv') := by
  unfold f_X4_readSpan g_X4_readSpan_46 f_X4_faultAt
  rw [he, mb4_v, if10, ht, mb1_v, if10, h1, mb3_v, if_m1F (by omega), h2, mb3_v, if_m1F (by omega), h3, mb8_v, mb2_v, if00]
theorem press_sim {F n a g s L C c0 c np nv : Nat} {td : Bool} {X Y : Nat → Nat} {ch tx : Nat → Int32} {fa : Int32} {w0 : Int64} {ws0 so0 : Int32} {bk : Nat → Int32} {bn : Nat → Int64} {bh bd bu bY pf0 pl0 pf pl vf vl : Nat → Int32} {Mk : Nat → Int32} {Mn : Nat → Int64} {Mz : Nat → Int32} {Mt : Nat → Int64} {Msp Mca Mcop Mpr Mpf Mpt Mvi : Nat → Int32} (hF : 4000 ≤ F) (T : TX n ch tx) (B : BR s L C bk bn bh bd bu bY Mk Mn Mz Mt Msp Mca) (hcop : Mcop s = nI C) (he : f_X0_endLayers F bk pf0 pl0 (nI c0) (nI L) (nI C) = some (1, pf, pl, nI c)) (P : PST C c np td X Y) (hc1 : 1 ≤ c) (hR0 : SR 0 c X Y pf pl) (hR : SR (22 * s) np X Y Mpf Mpt) (hr : Mpr s = nI np) (hnv : nv ≤ 40) (hvr : Mvi s = nI nv) (ha : a ≤ n) (hg : g ≤ n) :
    ∃ (Mpr' Mpf' Mpt' : Nat → Int32) (p f : Int32) (w : Int64) (ws so : Int32), f_X7_pressLine F (nI g) tx (nI n) Mn Mz Mcop Mca Mpr Mpf Mpt Mvi (nI a) (nI s) (-1) w0 ws0 so0 = some (Mpr', Mpf', Mpt', p, f, w, ws, so) ∧ fr 1 s Mpr' Mpr ∧ fr 22 s Mpf' Mpf ∧ fr 22 s Mpt' Mpt ∧
      ((∃ (a' c' : Nat) (td' : Bool) (X' Y' : Nat → Nat) (pf' pl' : Nat → Int32), a + 4 ≤ a' ∧ a' ≤ n ∧ f_X4_readSpan F (nI 5) ch (nI n) (nI a) (nI g) fa bk bn bY pf0 pl0 (nI c0) (bI td) vf vl (nI nv) (nI L) (nI C) = some (1, nI a', fa, pf', pl', nI c', bI td', vf, vl, nI nv) ∧ PST C c' (np + 1) td' X' Y' ∧ 1 ≤ c' ∧ SR 0 c' X' Y' pf' pl' ∧ ((cat n ch a' = 10 ∧ f = -1 ∧ p = nI (a' + 1) ∧ Mpr' s = nI (np + 1) ∧ SR (22 * s) (np + 1) X' Y' Mpf' Mpt') ∨ (¬ cat n ch a' = 10 ∧ f = nI a'))) ∨
       (∃ (e : Nat) (p1 : Int32) (pf' pl' : Nat → Int32) (c' td' : Int32), e ≤ n ∧ f_X4_readSpan F (nI 5) ch (nI n) (nI a) (nI g) fa bk bn bY pf0 pl0 (nI c0) (bI td) vf vl (nI nv) (nI L) (nI C) = some (0, p1, nI e, pf', pl', c', td', vf, vl, nI nv) ∧ f = nI e)) := by
  have hn := T.1
  obtain ⟨hs, hL2, hC2⟩ := B.1
  have hnp := P.2.1
  have told := told_ok (F := F) P
  unfold f_X7_pressLine
  by_cases hv : 0 < nv
  · have ht : f_X0_canTell F (nI 5) (nI c) (bI td) (nI nv) = some 0 := by
      unfold f_X0_canTell
      rw [if_pos (show nI 5 = 5 from rfl)]
      simp (disch := omega) only [mg_in, if10, if00, if_true, if_false, nI_1, nI_s1, mn_e, mb1_v, mb2_v, mb3_v, mb4_v, nI_clamp, nI_add, pk_mul, if_leT, if_leF, if_ltT, if_ltF, if_eqT, if_eqF, if_m1F, if_m1F2, if_m1T, if_m1ltT, if_m1leT, if_m1leF, if_m1ltF, if_e1T, if_e1F, if_1eT, if_1eF, if_le1T, if_le1F, if_1ltT, if_1ltF, iL0, iL2, iL3, iL4, iL5, iL6, iL7, iL8, iL9, iL10, iL20, iL21, iL22, iL31, iL32, iL40, iL46, iL48, iL57, iL64, iL65, iL80, iL81, iL90, iL96, iL97, iL100, iL122, iL126, iL127, iL500, iL1000, iL3000, iL9999999]
    simp (disch := omega) only [mg_in, if10, if00, if_true, if_false, nI_1, nI_s1, mn_e, mb1_v, mb2_v, mb3_v, mb4_v, nI_clamp, nI_add, pk_mul, if_leT, if_leF, if_ltT, if_ltF, if_eqT, if_eqF, if_m1F, if_m1F2, if_m1T, if_m1ltT, if_m1leT, if_m1leF, if_m1ltF, if_e1T, if_e1F, if_1eT, if_1eF, if_le1T, if_le1F, if_1ltT, if_1ltF, iL0, iL2, iL3, iL4, iL5, iL6, iL7, iL8, iL9, iL10, iL20, iL21, iL22, iL31, iL32, iL40, iL46, iL48, iL57, iL64, iL65, iL80, iL81, iL90, iL96, iL97, iL100, iL122, iL126, iL127, iL500, iL1000, iL3000, iL9999999, hvr, fl_t]
    exact ⟨_, _, _, _, _, _, _, _, rfl, fr_r, fr_r, fr_r, Or.inr ⟨g, _, _, _, _, _, hg, sp_none he ht, rfl⟩⟩
  have hv0 : nv = 0 := by omega
  subst hv0
  by_cases hp : np = 20
  · have ht : f_X0_canTell F (nI 5) (nI c) (bI td) (nI 0) = some 0 := by
      unfold f_X0_canTell
      rw [if_pos (show nI 5 = 5 from rfl), told]
      simp (disch := omega) only [mg_in, if10, if00, if_true, if_false, nI_1, nI_s1, mn_e, mb1_v, mb2_v, mb3_v, mb4_v, nI_clamp, nI_add, pk_mul, if_leT, if_leF, if_ltT, if_ltF, if_eqT, if_eqF, if_m1F, if_m1F2, if_m1T, if_m1ltT, if_m1leT, if_m1leF, if_m1ltF, if_e1T, if_e1F, if_1eT, if_1eF, if_le1T, if_le1F, if_1ltT, if_1ltF, iL0, iL2, iL3, iL4, iL5, iL6, iL7, iL8, iL9, iL10, iL20, iL21, iL22, iL31, iL32, iL40, iL46, iL48, iL57, iL64, iL65, iL80, iL81, iL90, iL96, iL97, iL100, iL122, iL126, iL127, iL500, iL1000, iL3000, iL9999999]
    simp (disch := omega) only [mg_in, if10, if00, if_true, if_false, nI_1, nI_s1, mn_e, mb1_v, mb2_v, mb3_v, mb4_v, nI_clamp, nI_add, pk_mul, if_leT, if_leF, if_ltT, if_ltF, if_eqT, if_eqF, if_m1F, if_m1F2, if_m1T, if_m1ltT, if_m1leT, if_m1leF, if_m1ltF, if_e1T, if_e1F, if_1eT, if_1eF, if_le1T, if_le1F, if_1ltT, if_1ltF, iL0, iL2, iL3, iL4, iL5, iL6, iL7, iL8, iL9, iL10, iL20, iL21, iL22, iL31, iL32, iL40, iL46, iL48, iL57, iL64, iL65, iL80, iL81, iL90, iL96, iL97, iL100, iL122, iL126, iL127, iL500, iL1000, iL3000, iL9999999, hvr, hr, fl_t]
    exact ⟨_, _, _, _, _, _, _, _, rfl, fr_r, fr_r, fr_r, Or.inr ⟨g, _, _, _, _, _, hg, sp_none he ht, rfl⟩⟩
  have ht : f_X0_canTell F (nI 5) (nI c) (bI td) (nI 0) = some 1 := by
    unfold f_X0_canTell
    rw [if_pos (show nI 5 = 5 from rfl), told]
    simp (disch := omega) only [mg_in, if10, if00, if_true, if_false, nI_1, nI_s1, mn_e, mb1_v, mb2_v, mb3_v, mb4_v, nI_clamp, nI_add, pk_mul, if_leT, if_leF, if_ltT, if_ltF, if_eqT, if_eqF, if_m1F, if_m1F2, if_m1T, if_m1ltT, if_m1leT, if_m1leF, if_m1ltF, if_e1T, if_e1F, if_1eT, if_1eF, if_le1T, if_le1F, if_1ltT, if_1ltF, iL0, iL2, iL3, iL4, iL5, iL6, iL7, iL8, iL9, iL10, iL20, iL21, iL22, iL31, iL32, iL40, iL46, iL48, iL57, iL64, iL65, iL80, iL81, iL90, iL96, iL97, iL100, iL122, iL126, iL127, iL500, iL1000, iL3000, iL9999999]
  rcases two_sim (F := F) (fa := fa) (w0 := w0) (ws0 := ws0) (so0 := so0) hF T B hcop ha with ⟨x, y, a1, a2, w, ws, h1, h2, h3, h4, h5, h6, h7⟩ | ⟨e, r, p, w, ws, so, p1, h1, h2, h3⟩
  · simp (disch := omega) only [mg_in, if10, if00, if_true, if_false, nI_1, nI_s1, mn_e, mb1_v, mb2_v, mb3_v, mb4_v, nI_clamp, nI_add, pk_mul, if_leT, if_leF, if_ltT, if_ltF, if_eqT, if_eqF, if_m1F, if_m1F2, if_m1T, if_m1ltT, if_m1leT, if_m1leF, if_m1ltF, if_e1T, if_e1F, if_1eT, if_1eF, if_le1T, if_le1F, if_1ltT, if_1ltF, iL0, iL2, iL3, iL4, iL5, iL6, iL7, iL8, iL9, iL10, iL20, iL21, iL22, iL31, iL32, iL40, iL46, iL48, iL57, iL64, iL65, iL80, iL81, iL90, iL96, iL97, iL100, iL122, iL126, iL127, iL500, iL1000, iL3000, iL9999999, hvr, hr, h7, mb6_v]
    rcases tell_sim (F := F) (sz := nI n) (p := nI a2) (w := w) (ws := ws) (so := nI y) (tx := tx) hF hs P hc1 (show np < 20 by omega) hR0 hR hr h1 h2 (show g < 2 ^ 31 by omega) with ⟨c', td', X', Y', pf', pl', Mpf', Mpt', k1, k2, k3, k4, k5, k6, k7, k8, k9⟩ | ⟨k1, k2⟩
    · have hte : f_X0_tell F (nI 5) (nI x) (nI y) pf pl (nI c) (bI td) vf vl (nI 0) = some (1, pf', pl', nI c', bI td', vf, vl, nI 0) := by
        unfold f_X0_tell
        rw [if_pos (show nI 5 = 5 from rfl), k1, mb5_v, mg_t (by decide)]
      have hcl := sp_good (g := nI g) he ht (show x < 100 by omega) (show y < 100 by omega) h5 h6 hte
      rw [if10] at hcl
      rw [k2]
      unfold g_X7_pressLine_215
      by_cases hx : cat n ch a2 = 10
      · rw [exM_t T (by omega) hx, mb2_v, gd_t, mb1_v, if10, k3, mb3_v]
        exact ⟨_, _, _, _, _, _, _, _, rfl, fr_u ⟨by omega, by omega⟩, k4, k5, Or.inl ⟨a2, c', td', X', Y', pf', pl', h3, h4, hcl, k6, k7, k8, Or.inl ⟨hx, rfl, rfl, pk_us, k9⟩⟩⟩
      · rw [exM_f T (by omega) hx, mb2_v, gd_f (by omega), mb1_v, if00]
        exact ⟨_, _, _, _, _, _, _, _, rfl, fr_r, fr_r, fr_r, Or.inl ⟨a2, c', td', X', Y', pf', pl', h3, h4, hcl, k6, k7, k8, Or.inr ⟨hx, rfl⟩⟩⟩
    · have hte : f_X0_tell F (nI 5) (nI x) (nI y) pf pl (nI c) (bI td) vf vl (nI 0) = some (0, pf, pl, nI c, bI td, vf, vl, nI 0) := by
        unfold f_X0_tell
        rw [if_pos (show nI 5 = 5 from rfl), k1, mb5_v, mg_t (by decide)]
      have hcl := sp_good (g := nI g) he ht (show x < 100 by omega) (show y < 100 by omega) h5 h6 hte
      rw [if00] at hcl
      rw [k2]
      exact ⟨_, _, _, _, _, _, _, _, rfl, fr_r, fr_r, fr_r, Or.inr ⟨g, _, _, _, _, _, hg, hcl, rfl⟩⟩
  · simp (disch := omega) only [mg_in, if10, if00, if_true, if_false, nI_1, nI_s1, mn_e, mb1_v, mb2_v, mb3_v, mb4_v, nI_clamp, nI_add, pk_mul, if_leT, if_leF, if_ltT, if_ltF, if_eqT, if_eqF, if_m1F, if_m1F2, if_m1T, if_m1ltT, if_m1leT, if_m1leF, if_m1ltF, if_e1T, if_e1F, if_1eT, if_1eF, if_le1T, if_le1F, if_1ltT, if_1ltF, iL0, iL2, iL3, iL4, iL5, iL6, iL7, iL8, iL9, iL10, iL20, iL21, iL22, iL31, iL32, iL40, iL46, iL48, iL57, iL64, iL65, iL80, iL81, iL90, iL96, iL97, iL100, iL122, iL126, iL127, iL500, iL1000, iL3000, iL9999999, hvr, hr, h2, mb6_v]
    have hb : ∀ G, 1 ≤ G → g_X7_pressLine_51 F G (nI g) r so (nI (22 * s)) tx (nI n) Mpr Mpf Mpt p (nI s) (nI e) w ws so = some (Mpr, Mpf, Mpt, p, nI e, w, ws, so) := by
      intro G hG
      obtain ⟨fu, rfl⟩ : ∃ z, G = z + 1 := ⟨G - 1, by omega⟩
      have := p51_b (F := F) (fu := fu) (e := e) (s := s) (j := 0) (np := np) (v1 := nI g) (v2 := r) (v3 := so) (sz := nI n) (p := p) (w := w) (ws := ws) (so := so) (tx := tx) (f := Mpf) (g := Mpt) (by omega) hs hnp (by omega) hr
      rw [Nat.add_zero] at this
      exact this
    rw [hb F (by omega)]
    refine ⟨_, _, _, _, _, _, _, _, rfl, fr_r, fr_r, fr_r, Or.inr ⟨e, p1, _, _, _, _, h1, sp_bad he ht ?_, rfl⟩⟩
    rcases h3 with h3 | ⟨x, b1, h3, h4⟩
    · exact Or.inl h3
    · exact Or.inr ⟨x, b1, by omega, h4⟩
theorem v61_b {F e : Nat} {v2 sz p s : Int32} {w : Int64} {ws so : Int32} {tx Mvi f g : Nat → Int32} (he : e < 2 ^ 31) : g_X7_viaLine_61 F v2 tx sz Mvi f g p s (nI e) w ws so = some (Mvi, f, g, p, nI e, w, ws, so) := by
  unfold g_X7_viaLine_61
  rw [exM_b he, mb2_v, gd_f he, mb1_v, if00]
theorem vial_sim {F n a g s L C c0 c np nv : Nat} {td : Bool} {X Y U V : Nat → Nat} {ch tx : Nat → Int32} {fa : Int32} {w0 : Int64} {ws0 so0 : Int32} {bk : Nat → Int32} {bn : Nat → Int64} {bh bd bu bY pf0 pl0 pf pl vf vl : Nat → Int32} {Mk : Nat → Int32} {Mn : Nat → Int64} {Mz : Nat → Int32} {Mt : Nat → Int64} {Msp Mca Mcop Mpr Mpf Mpt Mvi Mvf Mvt : Nat → Int32} (hF : 4000 ≤ F) (T : TX n ch tx) (B : BR s L C bk bn bh bd bu bY Mk Mn Mz Mt Msp Mca) (hcop : Mcop s = nI C) (hC2 : 2 ≤ C) (he : f_X0_endLayers F bk pf0 pl0 (nI c0) (nI L) (nI C) = some (1, pf, pl, nI c)) (P : PST C c np td X Y) (hc1 : 1 ≤ c) (hR0 : SR 0 c X Y pf pl) (hR : SR (22 * s) np X Y Mpf Mpt) (hr : Mpr s = nI np) (hnv : nv ≤ 40) (hvr : Mvi s = nI nv) (hV0 : SR 0 nv U V vf vl) (hV : SR (40 * s) nv U V Mvf Mvt) (ha : a ≤ n) (hg : g ≤ n) :
    ∃ (Mvi' Mvf' Mvt' : Nat → Int32) (p f : Int32) (w : Int64) (ws so : Int32), f_X7_viaLine F (nI g) tx (nI n) Mn Mz Mcop Mca Mpr Mpf Mpt Mvi Mvf Mvt (nI a) (nI s) (-1) w0 ws0 so0 = some (Mvi', Mvf', Mvt', p, f, w, ws, so) ∧ fr 1 s Mvi' Mvi ∧ fr 40 s Mvf' Mvf ∧ fr 40 s Mvt' Mvt ∧
      ((∃ (a' x y : Nat) (vf' vl' : Nat → Int32), a + 4 ≤ a' ∧ a' ≤ n ∧ x < C ∧ y < C ∧ nv < 40 ∧ f_X4_readSpan F (nI 6) ch (nI n) (nI a) (nI g) fa bk bn bY pf0 pl0 (nI c0) (bI td) vf vl (nI nv) (nI L) (nI C) = some (1, nI a', fa, pf, pl, nI c, bI td, vf', vl', nI (nv + 1)) ∧ SR 0 (nv + 1) (inA U nv x) (inA V nv y) vf' vl' ∧ ((cat n ch a' = 10 ∧ f = -1 ∧ p = nI (a' + 1) ∧ Mvi' s = nI (nv + 1) ∧ SR (40 * s) (nv + 1) (inA U nv x) (inA V nv y) Mvf' Mvt') ∨ (¬ cat n ch a' = 10 ∧ f = nI a'))) ∨
       (∃ (e : Nat) (p1 : Int32) (pf' pl' : Nat → Int32) (c' td' : Int32), e ≤ n ∧ f_X4_readSpan F (nI 6) ch (nI n) (nI a) (nI g) fa bk bn bY pf0 pl0 (nI c0) (bI td) vf vl (nI nv) (nI L) (nI C) = some (0, p1, nI e, pf', pl', c', td', vf, vl, nI nv) ∧ f = nI e)) := by
  have hn := T.1
  obtain ⟨hs, hL2, hC3⟩ := B.1
  unfold f_X7_viaLine
  by_cases hv : nv = 40
  · have ht : f_X0_canTell F (nI 6) (nI c) (bI td) (nI nv) = some 0 := by
      unfold f_X0_canTell
      rw [if_neg (show ¬ nI 6 = 5 by decide)]
      simp (disch := omega) only [mg_in, if10, if00, if_true, if_false, nI_1, nI_s1, mn_e, mb1_v, mb2_v, mb3_v, mb4_v, nI_clamp, nI_add, pk_mul, if_leT, if_leF, if_ltT, if_ltF, if_eqT, if_eqF, if_m1F, if_m1F2, if_m1T, if_m1ltT, if_m1leT, if_m1leF, if_m1ltF, if_e1T, if_e1F, if_1eT, if_1eF, if_le1T, if_le1F, if_1ltT, if_1ltF, iL0, iL2, iL3, iL4, iL5, iL6, iL7, iL8, iL9, iL10, iL20, iL21, iL22, iL31, iL32, iL40, iL46, iL48, iL57, iL64, iL65, iL80, iL81, iL90, iL96, iL97, iL100, iL122, iL126, iL127, iL500, iL1000, iL3000, iL9999999]
    simp (disch := omega) only [mg_in, if10, if00, if_true, if_false, nI_1, nI_s1, mn_e, mb1_v, mb2_v, mb3_v, mb4_v, nI_clamp, nI_add, pk_mul, if_leT, if_leF, if_ltT, if_ltF, if_eqT, if_eqF, if_m1F, if_m1F2, if_m1T, if_m1ltT, if_m1leT, if_m1leF, if_m1ltF, if_e1T, if_e1F, if_1eT, if_1eF, if_le1T, if_le1F, if_1ltT, if_1ltF, iL0, iL2, iL3, iL4, iL5, iL6, iL7, iL8, iL9, iL10, iL20, iL21, iL22, iL31, iL32, iL40, iL46, iL48, iL57, iL64, iL65, iL80, iL81, iL90, iL96, iL97, iL100, iL122, iL126, iL127, iL500, iL1000, iL3000, iL9999999, hvr, fl_t]
    exact ⟨_, _, _, _, _, _, _, _, rfl, fr_r, fr_r, fr_r, Or.inr ⟨g, _, _, _, _, _, hg, sp_none he ht, rfl⟩⟩
  have ht : f_X0_canTell F (nI 6) (nI c) (bI td) (nI nv) = some 1 := by
    unfold f_X0_canTell
    rw [if_neg (show ¬ nI 6 = 5 by decide)]
    simp (disch := omega) only [mg_in, if10, if00, if_true, if_false, nI_1, nI_s1, mn_e, mb1_v, mb2_v, mb3_v, mb4_v, nI_clamp, nI_add, pk_mul, if_leT, if_leF, if_ltT, if_ltF, if_eqT, if_eqF, if_m1F, if_m1F2, if_m1T, if_m1ltT, if_m1leT, if_m1leF, if_m1ltF, if_e1T, if_e1F, if_1eT, if_1eF, if_le1T, if_le1F, if_1ltT, if_1ltF, iL0, iL2, iL3, iL4, iL5, iL6, iL7, iL8, iL9, iL10, iL20, iL21, iL22, iL31, iL32, iL40, iL46, iL48, iL57, iL64, iL65, iL80, iL81, iL90, iL96, iL97, iL100, iL122, iL126, iL127, iL500, iL1000, iL3000, iL9999999]
  rcases two_sim (F := F) (fa := fa) (w0 := w0) (ws0 := ws0) (so0 := so0) hF T B hcop ha with ⟨x, y, a1, a2, w, ws, h1, h2, h3, h4, h5, h6, h7⟩ | ⟨e, r, p, w, ws, so, p1, h1, h2, h3⟩
  · simp (disch := omega) only [mg_in, if10, if00, if_true, if_false, nI_1, nI_s1, mn_e, mb1_v, mb2_v, mb3_v, mb4_v, nI_clamp, nI_add, pk_mul, if_leT, if_leF, if_ltT, if_ltF, if_eqT, if_eqF, if_m1F, if_m1F2, if_m1T, if_m1ltT, if_m1leT, if_m1leF, if_m1ltF, if_e1T, if_e1F, if_1eT, if_1eF, if_le1T, if_le1F, if_1ltT, if_1ltF, iL0, iL2, iL3, iL4, iL5, iL6, iL7, iL8, iL9, iL10, iL20, iL21, iL22, iL31, iL32, iL40, iL46, iL48, iL57, iL64, iL65, iL80, iL81, iL90, iL96, iL97, iL100, iL122, iL126, iL127, iL500, iL1000, iL3000, iL9999999, hvr, h7, mb6_v, gd_t]
    rcases via_sim (F := F) hF hs P hc1 hcop hC2 hr hR0 hR (show nv < 40 by omega) hV0 hV hvr (show x < 100 by omega) (show y < 100 by omega) with ⟨vf', vl', k1, k2, k3, k4⟩ | ⟨k1, k2⟩
    · have hcl := sp_good (g := nI g) he ht (show x < 100 by omega) (show y < 100 by omega) h5 h6 k1
      rw [if10] at hcl
      rw [k3, k4]
      simp (disch := omega) only [mg_in, if10, if00, if_true, if_false, nI_1, nI_s1, mn_e, mb1_v, mb2_v, mb3_v, mb4_v, nI_clamp, nI_add, pk_mul, if_leT, if_leF, if_ltT, if_ltF, if_eqT, if_eqF, if_m1F, if_m1F2, if_m1T, if_m1ltT, if_m1leT, if_m1leF, if_m1ltF, if_e1T, if_e1F, if_1eT, if_1eF, if_le1T, if_le1F, if_1ltT, if_1ltF, iL0, iL2, iL3, iL4, iL5, iL6, iL7, iL8, iL9, iL10, iL20, iL21, iL22, iL31, iL32, iL40, iL46, iL48, iL57, iL64, iL65, iL80, iL81, iL90, iL96, iL97, iL100, iL122, iL126, iL127, iL500, iL1000, iL3000, iL9999999]
      unfold g_X7_viaLine_61
      by_cases hx : cat n ch a2 = 10
      · rw [← iL10, exM_t T (by omega) hx, mb2_v, gd_t]
        simp (disch := omega) only [mg_in, if10, if00, if_true, if_false, nI_1, nI_s1, mn_e, mb1_v, mb2_v, mb3_v, mb4_v, nI_clamp, nI_add, pk_mul, if_leT, if_leF, if_ltT, if_ltF, if_eqT, if_eqF, if_m1F, if_m1F2, if_m1T, if_m1ltT, if_m1leT, if_m1leF, if_m1ltF, if_e1T, if_e1F, if_1eT, if_1eF, if_le1T, if_le1F, if_1ltT, if_1ltF, iL0, iL2, iL3, iL4, iL5, iL6, iL7, iL8, iL9, iL10, iL20, iL21, iL22, iL31, iL32, iL40, iL46, iL48, iL57, iL64, iL65, iL80, iL81, iL90, iL96, iL97, iL100, iL122, iL126, iL127, iL500, iL1000, iL3000, iL9999999, hvr]
        exact ⟨_, _, _, _, _, _, _, _, rfl, fr_u ⟨by omega, by omega⟩, fr_u ⟨by omega, by omega⟩, fr_u ⟨by omega, by omega⟩, Or.inl ⟨a2, x, y, vf', vl', h3, h4, by omega, h2, by omega, hcl, k2, Or.inl ⟨hx, rfl, rfl, pk_us, SR_add hV (by omega) (by omega)⟩⟩⟩
      · rw [← iL10, exM_f T (by omega) hx, mb2_v, gd_f (by omega), mb1_v, if00]
        exact ⟨_, _, _, _, _, _, _, _, rfl, fr_r, fr_r, fr_r, Or.inl ⟨a2, x, y, vf', vl', h3, h4, by omega, h2, by omega, hcl, k2, Or.inr ⟨hx, rfl⟩⟩⟩
    · have hcl := sp_good (g := nI g) he ht (show x < 100 by omega) (show y < 100 by omega) h5 h6 k1
      rw [if00] at hcl
      rcases k2 with k2 | ⟨k2, k3⟩
      · rw [k2]
        simp (disch := omega) only [mg_in, if10, if00, if_true, if_false, nI_1, nI_s1, mn_e, mb1_v, mb2_v, mb3_v, mb4_v, nI_clamp, nI_add, pk_mul, if_leT, if_leF, if_ltT, if_ltF, if_eqT, if_eqF, if_m1F, if_m1F2, if_m1T, if_m1ltT, if_m1leT, if_m1leF, if_m1ltF, if_e1T, if_e1F, if_1eT, if_1eF, if_le1T, if_le1F, if_1ltT, if_1ltF, iL0, iL2, iL3, iL4, iL5, iL6, iL7, iL8, iL9, iL10, iL20, iL21, iL22, iL31, iL32, iL40, iL46, iL48, iL57, iL64, iL65, iL80, iL81, iL90, iL96, iL97, iL100, iL122, iL126, iL127, iL500, iL1000, iL3000, iL9999999, fl_t]
        rw [v61_b (by omega)]
        exact ⟨_, _, _, _, _, _, _, _, rfl, fr_r, fr_r, fr_r, Or.inr ⟨g, _, _, _, _, _, hg, hcl, rfl⟩⟩
      · rw [k2, k3]
        simp (disch := omega) only [mg_in, if10, if00, if_true, if_false, nI_1, nI_s1, mn_e, mb1_v, mb2_v, mb3_v, mb4_v, nI_clamp, nI_add, pk_mul, if_leT, if_leF, if_ltT, if_ltF, if_eqT, if_eqF, if_m1F, if_m1F2, if_m1T, if_m1ltT, if_m1leT, if_m1leF, if_m1ltF, if_e1T, if_e1F, if_1eT, if_1eF, if_le1T, if_le1F, if_1ltT, if_1ltF, iL0, iL2, iL3, iL4, iL5, iL6, iL7, iL8, iL9, iL10, iL20, iL21, iL22, iL31, iL32, iL40, iL46, iL48, iL57, iL64, iL65, iL80, iL81, iL90, iL96, iL97, iL100, iL122, iL126, iL127, iL500, iL1000, iL3000, iL9999999, fl_t]
        rw [v61_b (by omega)]
        exact ⟨_, _, _, _, _, _, _, _, rfl, fr_r, fr_r, fr_r, Or.inr ⟨g, _, _, _, _, _, hg, hcl, rfl⟩⟩
  · simp (disch := omega) only [mg_in, if10, if00, if_true, if_false, nI_1, nI_s1, mn_e, mb1_v, mb2_v, mb3_v, mb4_v, nI_clamp, nI_add, pk_mul, if_leT, if_leF, if_ltT, if_ltF, if_eqT, if_eqF, if_m1F, if_m1F2, if_m1T, if_m1ltT, if_m1leT, if_m1leF, if_m1ltF, if_e1T, if_e1F, if_1eT, if_1eF, if_le1T, if_le1F, if_1ltT, if_1ltF, iL0, iL2, iL3, iL4, iL5, iL6, iL7, iL8, iL9, iL10, iL20, iL21, iL22, iL31, iL32, iL40, iL46, iL48, iL57, iL64, iL65, iL80, iL81, iL90, iL96, iL97, iL100, iL122, iL126, iL127, iL500, iL1000, iL3000, iL9999999, hvr, h2, mb6_v]
    rw [gd_f (by omega), mb1_v]
    simp (disch := omega) only [mg_in, if10, if00, if_true, if_false, nI_1, nI_s1, mn_e, mb1_v, mb2_v, mb3_v, mb4_v, nI_clamp, nI_add, pk_mul, if_leT, if_leF, if_ltT, if_ltF, if_eqT, if_eqF, if_m1F, if_m1F2, if_m1T, if_m1ltT, if_m1leT, if_m1leF, if_m1ltF, if_e1T, if_e1F, if_1eT, if_1eF, if_le1T, if_le1F, if_1ltT, if_1ltF, iL0, iL2, iL3, iL4, iL5, iL6, iL7, iL8, iL9, iL10, iL20, iL21, iL22, iL31, iL32, iL40, iL46, iL48, iL57, iL64, iL65, iL80, iL81, iL90, iL96, iL97, iL100, iL122, iL126, iL127, iL500, iL1000, iL3000, iL9999999]
    rw [v61_b (by omega)]
    refine ⟨_, _, _, _, _, _, _, _, rfl, fr_r, fr_r, fr_r, Or.inr ⟨e, p1, _, _, _, _, h1, sp_bad he ht ?_, rfl⟩⟩
    rcases h3 with h3 | ⟨x, b1, h3, h4⟩
    · exact Or.inl h3
    · exact Or.inr ⟨x, b1, by omega, h4⟩
