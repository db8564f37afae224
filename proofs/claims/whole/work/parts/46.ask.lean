def qB (k b : Int32) (a : Nat → Int64) : Prop := k = 0 → (b = 0 ∧ a 0 = 0) ∨ (b = 1 ∧ a 0 = 1)
theorem via_ask {F h L C c nv : Nat} {hs : Bool} {X Y U V : Nat → Nat} {bk : Nat → Int32} {bn : Nat → Int64} {bh bd bu bY pf pl vf vl Ml Mk : Nat → Int32} {Mn : Nat → Int64} {Mz : Nat → Int32} {Mt : Nat → Int64} {Msp Mcop Mca Mpr Mpf Mpt Mvi Mvf Mvt : Nat → Int32} {x y thr s0 : Int32} {a : Nat → Int64} (hF : 4000 ≤ F) (W : QW hs h L C c nv X Y U V bk bn bh bd bu bY pf pl vf vl Ml Mk Mn Mz Mt Msp Mcop Mca Mpr Mpf Mpt Mvi Mvf Mvt) :
    ∃ (k b : Int32) (a' : Nat → Int64) (s' : Int32), f_L_via F x y vf vl (nI nv) (nI C) a = some (k, a') ∧ f_X7_via F x y thr (bI hs) (nI h) Mcop Mvi Mvf Mvt s0 = some (b, k, s') ∧ qB k b a' := by
  obtain ⟨B, ⟨hl, hcop, hr, hvr⟩, PV0, c21, R0, R1, hnv, V0, V1, h0, h1⟩ := W
  obtain ⟨hh, hL, hC⟩ := B.1
  unfold f_L_via f_X6_via f_X7_via
  have st1 : g_X7_via_22 F x y 1 thr (nI h) Mvi Mvf Mvt s0 = some (0, 1, s0) := by
    unfold g_X7_via_22
    rw [if10]
  have bad : ∀ z : Int32, (z < 0 ∨ nI C ≤ z) → f_X6_requireCopper F z (nI C) = some 1 ∧ f_X7_isCopper F z (bI hs) (nI h) Mcop = some 0 := fun z q => ⟨rqC_b q, isC_b hh hcop q⟩
  rcases pk_ix x (n := C) (by omega) with q | q | ⟨i, q1, q2⟩
  · rw [(bad x (Or.inl q)).1, (bad x (Or.inl q)).2, st1]
    exact ⟨1, 0, a, s0, rfl, rfl, fun e => absurd e (by decide)⟩
  · rw [(bad x (Or.inr q)).1, (bad x (Or.inr q)).2, st1]
    exact ⟨1, 0, a, s0, rfl, rfl, fun e => absurd e (by decide)⟩
  subst q2
  rw [rqC_o q1 (by omega), isC_o hh hcop q1 (by omega) (fun e => (h0 e).2.1), mb1_v, mb1_v, if_pos rfl, if10]
  rcases pk_ix y (n := C) (by omega) with q | q | ⟨j, w1, w2⟩
  · rw [(bad y (Or.inl q)).1, (bad y (Or.inl q)).2, st1]
    exact ⟨1, 0, a, s0, rfl, rfl, fun e => absurd e (by decide)⟩
  · rw [(bad y (Or.inr q)).1, (bad y (Or.inr q)).2, st1]
    exact ⟨1, 0, a, s0, rfl, rfl, fun e => absurd e (by decide)⟩
  subst w2
  rw [rqC_o w1 (by omega), isC_o hh hcop w1 (by omega) (fun e => (h0 e).2.1), mb1_v, mb1_v, if_pos rfl, if10]
  have fin : ∀ u v : Nat, u < 100 → v < 100 → (if nI j < nI i then nI j else nI i) = nI u → (if nI i < nI j then nI j else nI i) = nI v → g_X7_via_22 F (nI i) (nI j) 0 thr (nI h) Mvi Mvf Mvt s0 = mb1 (f_X7_isVia F (nI u) (nI v) Mvi Mvf Mvt (nI h)) (fun r => mg (vp_nar .boolean r = r) (some (r, 0, nI h))) →
      ∃ (k b : Int32) (a' : Nat → Int64) (s' : Int32), mb2 (mb1 (f_X3_find F 40 40 (if nI j < nI i then nI j else nI i) (if nI i < nI j then nI j else nI i) vf vl (nI nv)) (fun r_5 => (if r_5 = (-1 : Int32) then some (0, (0 : Int32)) else some (0, (1 : Int32))))) (fun cd_1 r_2 => (if cd_1 = 0 then (if r_2 = 0 then mg (inb (0 : Int32) 1) (some ((0 : Int32), (vp_updL a ((0 : Int32)).toNatClampNeg (0 : Int64)))) else mg (inb (0 : Int32) 1) (some ((0 : Int32), (vp_updL a ((0 : Int32)).toNatClampNeg (1 : Int64))))) else (if cd_1 = 1 then some ((1 : Int32), a) else none))) = some (k, a') ∧ g_X7_via_22 F (nI i) (nI j) 0 thr (nI h) Mvi Mvf Mvt s0 = some (b, k, s') ∧ qB k b a' := by
    intro u v hu hv e1 e2 e3
    rw [e1, e2, e3]
    obtain ⟨z, z1, z2⟩ := find_ok (F := F) hF (show 40 ≤ 100 by omega) hnv V0 hu hv
    have iv := isvia_ok (F := F) hF hh hnv hvr V1 hu hv
    rw [z1, mb1_v]
    rcases z2 with ⟨z2, z3⟩ | ⟨t, t1, t2, t3⟩
    · have hm : f_X7_isVia F (nI u) (nI v) Mvi Mvf Mvt (nI h) = some 0 := by
        rcases iv with ⟨w, _⟩ | ⟨_, t, w1, w2⟩
        · exact w
        · exact absurd w2 (z3 t w1)
      rw [if_pos z2, hm, mb1_v, mb2_v, if_pos rfl, if00, in01, mg_t (by decide)]
      exact ⟨0, 0, _, nI h, rfl, rfl, fun _ => Or.inl ⟨rfl, up0⟩⟩
    · have hz : ¬ z = -1 := by rw [t2]; exact nI_m1 (by omega)
      have hm : f_X7_isVia F (nI u) (nI v) Mvi Mvf Mvt (nI h) = some 1 := by
        rcases iv with ⟨_, w⟩ | ⟨w, _⟩
        · exact absurd t3 (w t t1)
        · exact w
      rw [if_neg hz, hm, mb1_v, mb2_v, if_pos rfl, if10, in01, mg_t (by decide)]
      exact ⟨0, 1, _, nI h, rfl, rfl, fun _ => Or.inr ⟨rfl, up0⟩⟩
  by_cases q : i < j
  · refine fin i j (by omega) (by omega) (by rw [if_ltF (by omega) (by omega)]) (by rw [if_ltT q (by omega)]) ?_
    unfold g_X7_via_22
    rw [if00, if_leF q (by omega), if_leF q (by omega)]
  · refine fin j i (by omega) (by omega) ?_ (by rw [if_ltF (by omega) (by omega)]) ?_
    · by_cases w : j = i
      · subst w; rw [if_ltF (by omega) (by omega)]
      · rw [if_ltT (by omega) (by omega)]
    · unfold g_X7_via_22
      rw [if00, if_leT (by omega) (by omega), if_leT (by omega) (by omega)]
theorem copper_ask {F h L C c nv : Nat} {hs : Bool} {X Y U V : Nat → Nat} {bk : Nat → Int32} {bn : Nat → Int64} {bh bd bu bY pf pl vf vl Ml Mk : Nat → Int32} {Mn : Nat → Int64} {Mz : Nat → Int32} {Mt : Nat → Int64} {Msp Mcop Mca Mpr Mpf Mpt Mvi Mvf Mvt : Nat → Int32} {x thr : Int32} {v2 v4 : Int64} {a : Nat → Int64} {br Msh : Nat → Int32} (hF : 4000 ≤ F) (W : QW hs h L C c nv X Y U V bk bn bh bd bu bY pf pl vf vl Ml Mk Mn Mz Mt Msp Mcop Mca Mpr Mpf Mpt Mvi Mvf Mvt) (S : SHR L C bk br bY Msh) :
    ∃ (k b : Int32) (a' : Nat → Int64) (br' Msh' : Nat → Int32), f_L_copper F x v2 v4 br bY (nI C) a = some (k, br', a') ∧ f_X7_copper F x v2 v4 thr (bI hs) (nI h) Mcop Msh = some (b, k, Msh') ∧ qB k b a' ∧ SHR L C bk br' bY Msh' := by
  obtain ⟨B, ⟨hl, hcop, hr, hvr⟩, PV0, c21, R0, R1, hnv, V0, V1, h0, h1⟩ := W
  obtain ⟨hh, hL, hC⟩ := B.1
  have bad : ∀ z : Int32, (z < 0 ∨ nI C ≤ z) → f_X6_requireCopper F z (nI C) = some 1 ∧ f_X7_isCopper F z (bI hs) (nI h) Mcop = some 0 := fun z q => ⟨rqC_b q, isC_b hh hcop q⟩
  have badm : ∀ st, f_X7_isCopper F x (bI hs) (nI h) Mcop = some 0 → g_X7_copper_34 F x v2 v4 st thr (bI hs) (nI h) Mcop Msh = some (0, 1, Msh) := by
    intro st e
    unfold g_X7_copper_34 g_X7_copper_59
    rw [e, mb1_v, if00, if10]
  have nocop : (x < 0 ∨ nI C ≤ x) → ∃ (k b : Int32) (a' : Nat → Int64) (br' Msh' : Nat → Int32), f_L_copper F x v2 v4 br bY (nI C) a = some (k, br', a') ∧ f_X7_copper F x v2 v4 thr (bI hs) (nI h) Mcop Msh = some (b, k, Msh') ∧ qB k b a' ∧ SHR L C bk br' bY Msh' := by
    intro q
    unfold f_L_copper f_X6_copper f_X7_copper
    rw [(bad x q).1, badm _ (bad x q).2, badm _ (bad x q).2, ite_self, ite_self, ite_self, ite_self]
    exact ⟨1, 0, a, br, Msh, rfl, rfl, fun e => absurd e (by decide), S⟩
  rcases pk_ix x (n := C) (by omega) with q | q | ⟨i, q1, q2⟩
  · exact nocop (Or.inl q)
  · exact nocop (Or.inr q)
  subst q2
  have ic : f_X7_isCopper F (nI i) (bI hs) (nI h) Mcop = some 1 := isC_o hh hcop q1 (by omega) (fun e => (h0 e).2.1)
  have b0 : g_X7_copper_34 F (nI i) v2 v4 0 thr (bI hs) (nI h) Mcop Msh = some (0, 2, Msh) := by
    unfold g_X7_copper_34 g_X7_copper_59
    rw [ic, mb1_v, if10, if00, if_neg (by decide)]
  have b1 : g_X7_copper_34 F (nI i) v2 v4 1 thr (bI hs) (nI h) Mcop Msh = g_X7_copper_59 F (nI i) v2 v4 0 thr Msh := by
    unfold g_X7_copper_34
    rw [ic, mb1_v, if10, if10]
  have no3 : ∃ (k b : Int32) (a' : Nat → Int64) (br' Msh' : Nat → Int32), mb3 (some (3, (0 : Int32), br)) (fun cd_1 r_2 x_B_r_3 => (if cd_1 = 0 then (if r_2 = 0 then mg (inb (0 : Int32) 1) (some ((0 : Int32), x_B_r_3, (vp_updL a ((0 : Int32)).toNatClampNeg (0 : Int64)))) else mg (inb (0 : Int32) 1) (some ((0 : Int32), x_B_r_3, (vp_updL a ((0 : Int32)).toNatClampNeg (1 : Int64))))) else (if cd_1 = 1 then some ((1 : Int32), x_B_r_3, a) else (if cd_1 = 3 then some ((2 : Int32), x_B_r_3, a) else none)))) = some (k, br', a') ∧ some ((0 : Int32), (2 : Int32), Msh) = some (b, k, Msh') ∧ qB k b a' ∧ SHR L C bk br' bY Msh' := ⟨2, 0, a, br, Msh, rfl, rfl, fun e => absurd e (by decide), S⟩
  unfold f_L_copper f_X6_copper f_X7_copper
  rw [rqC_o q1 (by omega), mb1_v, if_pos rfl, b0, b1]
  by_cases c1 : lg_cmp v4 1 < 0
  · rw [if_pos c1, if_pos c1]; exact no3
  rw [if_neg c1, if_neg c1]
  by_cases c2 : 0 < lg_cmp v4 1000000000000000
  · rw [if_pos c2, if_pos c2]; exact no3
  rw [if_neg c2, if_neg c2]
  by_cases c3 : lg_cmp v2 0 < 0
  · rw [if_pos c3, if_pos c3]; exact no3
  rw [if_neg c3, if_neg c3]
  by_cases c4 : 0 < lg_cmp v2 v4
  · rw [if_neg (Int32.not_le.mpr c4), if_pos c4]; exact no3
  rw [if_pos (Int32.not_lt.mp c4), if_neg c4]
  have d3 : ¬ v2 < 0 := fun e => c3 ((lg_cmp_lt _ _).mpr e)
  obtain ⟨ar, ar1, rfl⟩ := pk_lOf d3
  have d1 : ¬ v4 < 1 := fun e => c1 ((lg_cmp_lt _ _).mpr e)
  have d0 : ¬ v4 < 0 := fun e => d1 (Int64.lt_trans e (by decide))
  obtain ⟨wh, wh1, rfl⟩ := pk_lOf d0
  rw [lL1, pk_lLT wh1 (by omega)] at d1
  have d2 : ¬ lN 1000000000000000 < lN wh := fun e => c2 ((lg_cmp_gt _ _).mpr e)
  rw [pk_lLT (by omega) wh1] at d2
  have d4 : ¬ lN wh < lN ar := fun e => c4 ((lg_cmp_gt _ _).mpr e)
  rw [pk_lLT wh1 ar1] at d4
  have hsh : ar * 1000 / wh ≤ 1000 := Nat.div_le_of_le_mul (by have : ar * 1000 ≤ wh * 1000 := Nat.mul_le_mul_right _ (by omega); omega)
  have esh : ((lN ar * (1000 : Int64)) / lN wh).toInt32 = nI (ar * 1000 / wh) := by
    rw [lL1000, lN_mul, pk_lDiv (by omega) (by omega) wh1, lN_i]
  rw [mg_t (lz (by omega) wh1), esh]
  unfold g_X7_copper_59
  rw [if00, mg_t (lz (by omega) wh1), esh, mn_e, mg_in (show i < 32 by omega) (by omega)]
  obtain ⟨e1, l, e2, e3, e4, e5⟩ := B.2.2.1 i q1
  obtain ⟨qq, g1, g2, g3⟩ := S.2 i l q1 e3 (by omega)
  have hS : ∀ sh, sh ≤ 1000 → SHR L C bk (upd br l (nI sh)) bY (upd Msh i (nI sh)) := by
    intro sh hs9
    refine ⟨fun k hk hk0 => ?_, fun k l' hk hl' hl80 => ?_⟩
    · by_cases w : k = l
      · subst w; exact absurd e4 hk0
      · rw [pk_un w]; exact S.1 k hk hk0
    · by_cases w : k = i
      · subst w
        rw [e3] at hl'
        obtain rfl := nI_inj hl' (by omega) (by omega)
        exact ⟨sh, hs9, pk_us, pk_us⟩
      · have w2 : l' ≠ l := by
          intro e
          subst e
          obtain ⟨_, l2, f2, f3, f4, f5⟩ := B.2.2.1 k hk
          rw [hl'] at f3
          obtain rfl := nI_inj f3 (by omega) (by omega)
          rw [e5] at f5
          exact w (nI_inj f5 (by omega) (by omega)).symm
        rw [pk_un w, pk_un w2]
        exact S.2 k l' hk hl' hl80
  unfold f_X0_changeShare
  by_cases w : qq = ar * 1000 / wh
  · simp (disch := omega) only [mg_in, if10, if00, if_true, if_false, nI_1, nI_s1, mn_e, mb1_v, mb2_v, mb3_v, mb4_v, nI_clamp, nI_add, pk_mul, if_leT, if_leF, if_ltT, if_ltF, if_eqT, if_eqF, if_m1F, if_m1F2, if_m1T, if_m1ltT, if_m1leT, if_m1leF, if_m1ltF, if_e1T, if_e1F, if_1eT, if_1eF, if_le1T, if_le1F, if_1ltT, if_1ltF, iL0, iL2, iL3, iL4, iL5, iL6, iL7, iL8, iL9, iL10, iL20, iL21, iL22, iL31, iL32, iL40, iL46, iL48, iL57, iL64, iL65, iL80, iL81, iL90, iL96, iL97, iL100, iL122, iL126, iL127, iL500, iL1000, iL3000, iL9999999, e3, g2, g3, mb2_v]
    rw [mg_t (by decide), mb3_v, if_pos rfl, if_pos (by decide)]
    exact ⟨0, 0, _, _, _, rfl, rfl, fun _ => Or.inl ⟨rfl, pk_uLs⟩, hS _ hsh⟩
  · simp (disch := omega) only [mg_in, if10, if00, if_true, if_false, nI_1, nI_s1, mn_e, mb1_v, mb2_v, mb3_v, mb4_v, nI_clamp, nI_add, pk_mul, if_leT, if_leF, if_ltT, if_ltF, if_eqT, if_eqF, if_m1F, if_m1F2, if_m1T, if_m1ltT, if_m1leT, if_m1leF, if_m1ltF, if_e1T, if_e1F, if_1eT, if_1eF, if_le1T, if_le1F, if_1ltT, if_1ltF, iL0, iL2, iL3, iL4, iL5, iL6, iL7, iL8, iL9, iL10, iL20, iL21, iL22, iL31, iL32, iL40, iL46, iL48, iL57, iL64, iL65, iL80, iL81, iL90, iL96, iL97, iL100, iL122, iL126, iL127, iL500, iL1000, iL3000, iL9999999, e3, g2, g3, mb2_v]
    rw [mg_t (by decide), mb3_v, if_pos rfl, if_neg (by decide)]
    exact ⟨0, 1, _, _, _, rfl, rfl, fun _ => Or.inr ⟨rfl, pk_uLs⟩, hS _ hsh⟩
