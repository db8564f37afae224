theorem p7 : (10 : Nat) ^ 4 * 10 ^ 3 = 10000000 := by decide
theorem p3 : (10 : Nat) ^ 2 * 10 ^ 1 = 1000 := by decide
theorem lay_rest {F n a s L C kd a1 : Nat} {ch tx : Nat → Int32} {fa : Int32} {v : Int64} {m : Nat} {bk : Nat → Int32} {bn : Nat → Int64} {bh bd br bu bY : Nat → Int32} {Ml Mk : Nat → Int32} {Mn : Nat → Int64} {Mz : Nat → Int32} {Mt : Nat → Int64} {Msp Mcop Mca : Nat → Int32}
    (hF : 4000 ≤ F) (T : TX n ch tx) (B : BR s L C bk bn bh bd bu bY Mk Mn Mz Mt Msp Mca) (hl : Ml s = nI L) (hc : Mcop s = nI C) (hL : L < 80) (hC : kd = 0 → C < 32) (hkd : kd ≤ 4) (hfi : L = 0 → kd = 0 ∨ kd = 3) (hfi2 : L = 0 ∨ 1 ≤ C ∨ (L = 1 ∧ bk 0 = nI 3 ∧ kd = 0)) (hv : NM v m) (ha1 : a + 2 ≤ a1) (ha2 : a1 ≤ n) :
    layO n a s L C ch fa Ml Mk Mn Mz Mt Msp Mcop Mca bk bn bh bd br bu bY (bI (ins bk L))
      (g_X4_readLayer_68 F (nI kd) v ch (nI n) (nI a1) fa bk bn bh bd br bu bY (nI L) (nI C) (bI (ins bk L)))
      (g_X7_layerLine_53 F (nI kd) tx (nI n) Ml Mk Mn Mz Mt Msp Mcop Mca (nI a1) (nI s) (-1) v (nI m)) := by
  have hn := T.1
  obtain ⟨hs, hL2, hC2⟩ := B.1
  have g53 : g_X7_layerLine_53 F (nI kd) tx (nI n) Ml Mk Mn Mz Mt Msp Mcop Mca (nI a1) (nI s) (-1) v (nI m) = g_X7_layerLine_121 F (nI kd) (nI (80 * s + L)) tx (nI n) Ml (upd Mk (80 * s + L) (nI kd)) (vp_updL Mn (80 * s + L) v) (upd Mz (80 * s + L) (nI m)) (vp_updL Mt (80 * s + L) 0) (upd Msp (80 * s + L) (nI 0)) Mcop Mca (nI a1) (nI s) (-1) v (nI m) := by
    unfold g_X7_layerLine_53 f_X7_layerAt
    simp (disch := omega) only [mg_in, if10, if00, if_true, if_false, nI_1, nI_s1, mn_e, mb1_v, mb2_v, mb3_v, mb4_v, nI_clamp, nI_add, pk_mul, if_leT, if_leF, if_ltT, if_ltF, if_eqT, if_eqF, if_m1F, if_m1F2, if_m1T, if_m1ltT, if_m1leT, if_m1leF, if_m1ltF, if_e1T, if_e1F, if_1eT, if_1eF, if_le1T, if_le1F, if_1ltT, if_1ltF, iL0, iL2, iL3, iL4, iL5, iL6, iL7, iL8, iL9, iL10, iL20, iL21, iL22, iL31, iL32, iL40, iL46, iL48, iL57, iL64, iL65, iL80, iL81, iL90, iL96, iL97, iL100, iL122, iL126, iL127, iL500, iL1000, iL3000, iL9999999, gd_t, hl]
  rw [g53]
  have f1 : fr 80 s (upd Mk (80 * s + L) (nI kd)) Mk := fr_u ⟨by omega, by omega⟩
  have f2 : fr 80 s (vp_updL Mn (80 * s + L) v) Mn := fr_uL ⟨by omega, by omega⟩
  have f3 : fr 80 s (upd Mz (80 * s + L) (nI m)) Mz := fr_u ⟨by omega, by omega⟩
  have f4 : fr 80 s (vp_updL Mt (80 * s + L) 0) Mt := fr_uL ⟨by omega, by omega⟩
  have f5 : fr 80 s (upd Msp (80 * s + L) (nI 0)) Msp := fr_u ⟨by omega, by omega⟩
  by_cases h4 : kd = 4
  · subst h4
    have gA : g_X4_readLayer_68 F (nI 4) v ch (nI n) (nI a1) fa bk bn bh bd br bu bY (nI L) (nI C) (bI (ins bk L)) = mb10 (f_X0_addLayer F (nI 4) v (nI 0) (nI 0) bk bn bh bd br bu bY (nI L) (nI C) (bI (ins bk L))) (fun b1 b2 b3 b4 b5 b6 b7 b8 b9 b10 => some ((1 : Int32), nI a1, fa, b1, b2, b3, b4, b5, b6, b7, b8, b9, b10)) := rfl
    have gM : g_X7_layerLine_121 F (nI 4) (nI (80 * s + L)) tx (nI n) Ml (upd Mk (80 * s + L) (nI 4)) (vp_updL Mn (80 * s + L) v) (upd Mz (80 * s + L) (nI m)) (vp_updL Mt (80 * s + L) 0) (upd Msp (80 * s + L) (nI 0)) Mcop Mca (nI a1) (nI s) (-1) v (nI m) = g_X7_layerLine_206 F (nI 4) tx (nI n) Ml (upd Mk (80 * s + L) (nI 4)) (vp_updL Mn (80 * s + L) v) (upd Mz (80 * s + L) (nI m)) (vp_updL Mt (80 * s + L) 0) (upd Msp (80 * s + L) (nI 0)) Mcop Mca (nI a1) (nI s) (-1) v (nI m) := rfl
    rw [gA, gM]
    refine fin_sim (th := nI 0) (sp := nI 0) T B hl hc hL hC hkd hfi hfi2 ⟨⟨4, by omega, rfl⟩, ⟨m, rfl, hv⟩, ⟨0, by omega, rfl⟩, ⟨0, by omega, rfl⟩, fun _ => ⟨rfl, rfl⟩⟩ ha1 ha2 (fun k hk => ⟨pk_un (by omega), pk_uLn (by omega), pk_un (by omega), pk_uLn (by omega), pk_un (by omega)⟩) ⟨pk_us, pk_uLs, pk_us, ?_, pk_us⟩ f1 f2 f3 f4 f5
    rw [pk_uLs]; rfl
  · unfold g_X4_readLayer_68 g_X7_layerLine_121
    have h4' : ¬ nI kd = 4 := fun q => h4 (nI_inj (b := 4) q (by omega) (by omega))
    rw [if_neg h4', if_neg h4']
    rcases num_sim (F := F) (a := a1) (D := 4) (B := 3) (mo := 9999999) (fa := fa) hF T (by omega) (by omega) ha2 with ⟨V, a2, q1, q2, q3, o1, o2, o3⟩ | ⟨e, p1, q, f2', p2, w, q1, o1, o2, o3⟩
    · rw [p7] at q1
      rw [iL9999999, if_leT (by omega) (by omega)] at o1
      rw [iL4, iL3, iL9999999, o1, mb3_v, if_m1F (by omega), o2, mb2_v]
      rw [show (fun p f => f_X7_number F (nI 4) (nI 3) tx (nI n) p f) (nI (a1 + 1)) (-1) = f_X7_number F (nI 4) (nI 3) tx (nI n) (nI (a1 + 1)) (-1) from rfl] at o3
      rw [o3, mb3_v]
      rcases num_sim (F := F) (a := a2) (D := 2) (B := 1) (mo := 500) (fa := fa) hF T (by omega) (by omega) q3 with ⟨V2, a3, r1, r2, r3, u1, u2, u3⟩ | ⟨e, p1, q, f2', p2, w, r1, u1, u2, u3⟩
      · rw [p3] at r1
        rw [show (fun p f => f_X7_number F (nI 2) (nI 1) tx (nI n) p f) (nI (a2 + 1)) (-1) = f_X7_number F (nI 2) (nI 1) tx (nI n) (nI (a2 + 1)) (-1) from rfl] at u3
        rw [show nI 1 = (1 : Int32) from rfl] at u1 u3
        rw [iL2, u1, u2, mb2_v, u3, mb3_v, gd_t, mb1_v, if10, lL500]
        by_cases h5 : V2 ≤ 500
        · have e1 : lg_cmp (lN V2) (lN 500) ≤ 0 := (lg_cmp_le _ _).mpr ((pk_lLE (by omega) (by omega)).mpr h5)
          have e2 : g_X7_layerLine_180 F (nI kd) (nI (80 * s + L)) (lN V) (lN V2) tx (nI n) Ml (upd Mk (80 * s + L) (nI kd)) (vp_updL Mn (80 * s + L) v) (upd Mz (80 * s + L) (nI m)) (vp_updL Mt (80 * s + L) 0) (upd Msp (80 * s + L) (nI 0)) Mcop Mca (nI a3) (nI s) (-1) v (nI m) = g_X7_layerLine_206 F (nI kd) tx (nI n) Ml (upd Mk (80 * s + L) (nI kd)) (vp_updL Mn (80 * s + L) v) (upd Mz (80 * s + L) (nI m)) (vp_updL (vp_updL Mt (80 * s + L) 0) (80 * s + L) (lN V)) (upd (upd Msp (80 * s + L) (nI 0)) (80 * s + L) (nI V2)) Mcop Mca (nI a3) (nI s) (-1) v (nI m) := by
            unfold g_X7_layerLine_180
            simp (disch := omega) only [mg_in, if10, if00, if_true, if_false, nI_1, nI_s1, mn_e, mb1_v, mb2_v, mb3_v, mb4_v, nI_clamp, nI_add, pk_mul, if_leT, if_leF, if_ltT, if_ltF, if_eqT, if_eqF, if_m1F, if_m1F2, if_m1T, if_m1ltT, if_m1leT, if_m1leF, if_m1ltF, if_e1T, if_e1F, if_1eT, if_1eF, if_le1T, if_le1F, if_1ltT, if_1ltF, iL0, iL2, iL3, iL4, iL5, iL6, iL7, iL8, iL9, iL10, iL20, iL21, iL22, iL31, iL32, iL40, iL46, iL48, iL57, iL64, iL65, iL80, iL81, iL90, iL96, iL97, iL100, iL122, iL126, iL127, iL500, iL1000, iL3000, iL9999999, gd_t, lN_i]
          rw [if_pos e1, e2, iL500, if_leT h5 (by omega), mb3_v, if_m1F (by omega)]
          refine fin_sim (th := nI V) (sp := nI V2) T B hl hc hL hC hkd hfi hfi2 ⟨⟨kd, hkd, rfl⟩, ⟨m, rfl, hv⟩, ⟨V, by omega, rfl⟩, ⟨V2, h5, rfl⟩, fun q => absurd (nI_inj q (by omega) (by omega)) h4⟩ (by omega) r3 (fun k hk => ⟨pk_un (by omega), pk_uLn (by omega), pk_un (by omega), ?_, ?_⟩) ⟨pk_us, pk_uLs, pk_us, ?_, pk_us⟩ f1 f2 f3 (fr_uL2 ⟨by omega, by omega⟩ f4) (fr_u2 ⟨by omega, by omega⟩ f5)
          · rw [pk_uLn (by omega), pk_uLn (by omega)]
          · rw [pk_un (by omega), pk_un (by omega)]
          · rw [pk_uLs, nI_l (by omega)]
        · have e1 : ¬ lg_cmp (lN V2) (lN 500) ≤ 0 := fun q => h5 ((pk_lLE (by omega) (by omega)).mp ((lg_cmp_le _ _).mp q))
          rw [if_neg e1, fl_t, mb1_v, l180_b (by omega), iL500, if_leF (by omega) (by omega), mb3_v, if_m1T]
          exact ⟨_, _, _, _, _, _, _, _, _, _, _, _, rfl, ⟨fr_r, f1, f2, f3, f4, f5, fr_r, fr_r⟩, Or.inr ⟨a2 + 1, _, by omega, rfl, rfl⟩⟩
      · rw [show (fun p f => f_X7_number F (nI 2) (nI 1) tx (nI n) p f) q f2' = f_X7_number F (nI 2) (nI 1) tx (nI n) q f2' from rfl] at u3
        rw [show nI 1 = (1 : Int32) from rfl] at u1 u3
        rw [iL2, u1, mb3_v, if_m1T, u2, mb2_v, u3, mb3_v, gd_f (by omega), mb1_v, if00, l180_b (by omega)]
        exact ⟨_, _, _, _, _, _, _, _, _, _, _, _, rfl, ⟨fr_r, f1, f2, f3, f4, f5, fr_r, fr_r⟩, Or.inr ⟨e, _, r1, rfl, rfl⟩⟩
    · rw [show (fun p f => f_X7_number F (nI 4) (nI 3) tx (nI n) p f) q f2' = f_X7_number F (nI 4) (nI 3) tx (nI n) q f2' from rfl] at o3
      obtain ⟨w2, hw2⟩ := num_bad (F := F) (e := e) (B := 1) (tx := tx) (n := nI n) (p := p2) (D := nI 2) hF (by omega) (by omega)
      rw [iL4, iL3, o1, mb3_v, if_m1T, o2, mb2_v, o3, mb3_v, exM_b (by omega), mb2_v, iL2, show (1 : Int32) = nI 1 from rfl, hw2, mb3_v, gd_f (by omega), mb1_v, if00, l180_b (by omega)]
      exact ⟨_, _, _, _, _, _, _, _, _, _, _, _, rfl, ⟨fr_r, f1, f2, f3, f4, f5, fr_r, fr_r⟩, Or.inr ⟨e, _, q1, rfl, rfl⟩⟩
theorem lay_sim {F n a g s L C kd np nv : Nat} {psc pt : Int32} {ch tx : Nat → Int32} {fa : Int32} {w0 : Int64} {ws0 : Int32} {bk : Nat → Int32} {bn : Nat → Int64} {bh bd br bu bY : Nat → Int32} {Ml Mk : Nat → Int32} {Mn : Nat → Int64} {Mz : Nat → Int32} {Mt : Nat → Int64} {Msp Mcop Mca Mpr Mvi : Nat → Int32}
    (hF : 4000 ≤ F) (T : TX n ch tx) (B : BR s L C bk bn bh bd bu bY Mk Mn Mz Mt Msp Mca) (hl : Ml s = nI L) (hc : Mcop s = nI C) (hp : Mpr s = nI np) (hv : Mvi s = nI nv) (ht : f_X2_countTold F psc pt = some (nI np)) (hnp : np ≤ 20) (hnv : nv ≤ 40) (hkd : kd ≤ 4) (hfi : L = 0 ∨ 1 ≤ C ∨ (L = 1 ∧ bk 0 = nI 3)) (ha : a ≤ n) (hg : g ≤ n) :
    layO n a s L C ch fa Ml Mk Mn Mz Mt Msp Mcop Mca bk bn bh bd br bu bY (bI (ins bk L))
      (f_X4_readLayer F (nI kd) ch (nI n) (nI a) (nI g) fa bk bn bh bd br bu bY psc pt (nI nv) (nI L) (nI C) (bI (ins bk L)))
      (f_X7_layerLine F (nI kd) (nI g) tx (nI n) Ml Mk Mn Mz Mt Msp Mcop Mca Mpr Mvi (nI a) (nI s) (-1) w0 ws0) ∧
    (¬ (np = 0 ∧ nv = 0) → ∃ (p1 : Int32) (e : Nat), e ≤ n ∧ f_X4_readLayer F (nI kd) ch (nI n) (nI a) (nI g) fa bk bn bh bd br bu bY psc pt (nI nv) (nI L) (nI C) (bI (ins bk L)) = some (0, p1, nI e, bk, bn, bh, bd, br, bu, bY, nI L, nI C, bI (ins bk L))) := by
  have hn := T.1
  obtain ⟨hs, hL2, hC2⟩ := B.1
  have t1 := take_C (F := F) (L := L) (C := C) (kd := kd) (np := np) (nv := nv) (psc := psc) (pt := pt) (bk := bk) (i := ins bk L) hL2 hC2 hnp hnv hkd ht
  have t2 := take_M (F := F) hF B hl hc hp hv hnp hnv hkd hfi
  obtain ⟨c0, c1⟩ := BR_C0 B
  have Z : layO n a s L C ch fa Ml Mk Mn Mz Mt Msp Mcop Mca bk bn bh bd br bu bY (bI (ins bk L))
      (some (0, nI a, nI g, bk, bn, bh, bd, br, bu, bY, nI L, nI C, bI (ins bk L))) (some (Ml, Mk, Mn, Mz, Mt, Msp, Mcop, Mca, nI a, nI g, w0, ws0)) := ⟨_, _, _, _, _, _, _, _, _, _, _, _, rfl, ⟨fr_r, fr_r, fr_r, fr_r, fr_r, fr_r, fr_r, fr_r⟩, Or.inr ⟨g, _, hg, rfl, rfl⟩⟩
  unfold f_X4_readLayer f_X7_layerLine
  cases htk : tk L C np nv kd (bk (L - 1)) (ins bk L) with
  | false =>
    rw [htk] at t1 t2
    have e1 : ∀ (o : Option (Int32 × Int32 × Int32 × (Nat → Int32) × (Nat → Int64) × (Nat → Int32) × (Nat → Int32) × (Nat → Int32) × (Nat → Int32) × (Nat → Int32) × Int32 × Int32 × Int32)), (if bI false = 0 then mb2 (f_X4_faultAt F (nI g) fa) (fun r_22 t_fa_23 => mg (vp_nar .boolean r_22 = r_22) (some (r_22, nI a, t_fa_23, bk, bn, bh, bd, br, bu, bY, nI L, nI C, bI (ins bk L)))) else o) = some (0, nI a, nI g, bk, bn, bh, bd, br, bu, bY, nI L, nI C, bI (ins bk L)) := fun _ => rfl
    rw [t1, t2, mb1_v, mb1_v, e1, bI_f, if00, fl_t, mb1_v]
    exact ⟨Z, fun _ => ⟨_, _, hg, rfl⟩⟩
  | true =>
    rw [htk] at t1 t2
    obtain ⟨b1, b2, b3, b4, b5⟩ := tk_of htk c0 c1
    rw [t1, t2, mb1_v, mb1_v, bI_t, if10, if10]
    refine ⟨?_, fun q => absurd ⟨b2, b3⟩ q⟩
    by_cases hx : cat n ch a = 32
    · have han := cat_in hx (by decide)
      rw [exA_t T (by omega) hx, mb3_v, if10, exM_t T (by omega) hx, mb2_v]
      rcases name_sim (F := F) (fa := fa) (w := w0) (ws := ws0) hF T (show a + 1 ≤ n by omega) with ⟨m, v, h1, h2, o1, o2⟩ | ⟨e, p1, p2, w, ws, h1, o1, o2⟩
      · have hv0 : ¬ lg_cmp v 0 = 0 := fun q => NM_ne h1 ((lg_cmp_eq _ _).mp q)
        have hm := h1
        obtain ⟨x, _, hm1, hm2, _⟩ := hm
        rw [o1, mb3_v, if_neg hv0, o2, mb4_v, gd_t, mb1_v, if10]
        by_cases h0 : kd = 0
        · have h0' : nI kd = 0 := by rw [h0]; rfl
          have hfi2 : L = 0 ∨ 1 ≤ C ∨ (L = 1 ∧ bk 0 = nI 3 ∧ kd = 0) := by
            rcases hfi with q | q | q
            · exact Or.inl q
            · exact Or.inr (Or.inl q)
            · exact Or.inr (Or.inr ⟨q.1, q.2, h0⟩)
          obtain ⟨z, z1, z2, z3⟩ := cop_sim (F := F) hF B hc h1
          rw [if_pos h0', if_pos h0', z1, z2, mb1_v, mb1_v]
          rcases z3 with z3 | ⟨j, z3, z4⟩
          · rw [if_pos z3, if_pos z3]
            exact lay_rest hF T B hl hc b1 b4 hkd b5 hfi2 h1 (by omega) h2
          · have z5 : ¬ z = -1 := by rw [z4]; exact nI_m1 (by omega)
            rw [if_neg z5, if_neg z5, fl_t, mb1_v, l53_b hF hs (by omega)]
            exact ⟨_, _, _, _, _, _, _, _, _, _, _, _, rfl, ⟨fr_r, fr_r, fr_r, fr_r, fr_r, fr_r, fr_r, fr_r⟩, Or.inr ⟨a + 1, _, by omega, rfl, rfl⟩⟩
        · have h0' : ¬ nI kd = 0 := fun q => h0 (nI_inj (b := 0) q (by omega) (by omega))
          rw [if_neg h0', if_neg h0']
          have hfi2 : L = 0 ∨ 1 ≤ C ∨ (L = 1 ∧ bk 0 = nI 3 ∧ kd = 0) := by
            rcases hfi with q | q | ⟨q1, q2⟩
            · exact Or.inl q
            · exact Or.inr (Or.inl q)
            · exfalso
              subst q1
              rw [tk, if_neg (by omega), if_neg (by omega), if_neg (by omega), if_neg (by omega), show bk (1 - 1) = nI 3 from q2, if_pos rfl, if_pos rfl, if_neg h0] at htk
              cases htk
          exact lay_rest hF T B hl hc b1 b4 hkd b5 hfi2 h1 (by omega) h2
      · rw [o1, mb3_v, if_pos (show lg_cmp 0 0 = 0 by decide), o2, mb4_v, gd_f (by omega), mb1_v, if00, l53_b hF hs (by omega)]
        exact ⟨_, _, _, _, _, _, _, _, _, _, _, _, rfl, ⟨fr_r, fr_r, fr_r, fr_r, fr_r, fr_r, fr_r, fr_r⟩, Or.inr ⟨e, _, h1, rfl, rfl⟩⟩
    · rw [exA_f T (by omega) hx, mb3_v, if00, exM_f T (by omega) hx, mb2_v, name_bad hF (by omega), mb4_v, gd_f (by omega), mb1_v, if00, l53_b hF hs (by omega)]
      exact ⟨_, _, _, _, _, _, _, _, _, _, _, _, rfl, ⟨fr_r, fr_r, fr_r, fr_r, fr_r, fr_r, fr_r, fr_r⟩, Or.inr ⟨a, _, ha, rfl, rfl⟩⟩
