def FP (s : Nat) (Mpr Mpr' Mpf Mpf' Mpt Mpt' Mvi Mvi' Mvf Mvf' Mvt Mvt' : Nat → Int32) : Prop := fr 1 s Mpr' Mpr ∧ fr 22 s Mpf' Mpf ∧ fr 22 s Mpt' Mpt ∧ fr 1 s Mvi' Mvi ∧ fr 40 s Mvf' Mvf ∧ fr 40 s Mvt' Mvt
theorem FP_r {s : Nat} {Mpr Mpf Mpt Mvi Mvf Mvt : Nat → Int32} : FP s Mpr Mpr Mpf Mpf Mpt Mpt Mvi Mvi Mvf Mvf Mvt Mvt := ⟨fr_r, fr_r, fr_r, fr_r, fr_r, fr_r⟩
theorem FL_r {s : Nat} {Ml Mk : Nat → Int32} {Mn : Nat → Int64} {Mz : Nat → Int32} {Mt : Nat → Int64} {Msp Mcop Mca : Nat → Int32} : FL s Ml Ml Mk Mk Mn Mn Mz Mz Mt Mt Msp Msp Mcop Mcop Mca Mca := ⟨fr_r, fr_r, fr_r, fr_r, fr_r, fr_r, fr_r, fr_r⟩
def RS (n s a L C c np nv : Nat) (td : Bool) (X Y U V : Nat → Nat) (bk : Nat → Int32) (bn : Nat → Int64) (bh bd br bu bY pf pl vf vl Ml Mk : Nat → Int32) (Mn : Nat → Int64) (Mz : Nat → Int32) (Mt : Nat → Int64) (Msp Mcop Mca Mpr Mpf Mpt Mvi Mvf Mvt : Nat → Int32) : Prop :=
  BR s L C bk bn bh bd bu bY Mk Mn Mz Mt Msp Mca ∧ (Ml s = nI L ∧ Mcop s = nI C ∧ Mpr s = nI np ∧ Mvi s = nI nv) ∧ PST C c np td X Y ∧ SR 0 c X Y pf pl ∧ SR (22 * s) np X Y Mpf Mpt ∧ nv ≤ 40 ∧ SR 0 nv U V vf vl ∧ SR (40 * s) nv U V Mvf Mvt ∧ (∀ k, k < nv → U k < C ∧ V k < C) ∧ (∀ k, k < L → br k = 1000) ∧ (L = 0 ∨ 1 ≤ C ∨ (L = 1 ∧ bk 0 = nI 3)) ∧ (c = 0 ∨ 1 ≤ np + nv) ∧ 6 * (L + np + nv) ≤ a ∧ a ≤ n
theorem sp_end0 {F : Nat} {kd : Int32} {ch : Nat → Int32} {n a g fa : Int32} {bk : Nat → Int32} {bn : Nat → Int64} {bY pf pl vf vl : Nat → Int32} {c td nv L C : Int32} (he : f_X0_endLayers F bk pf pl c L C = some (0, pf, pl, c)) : f_X4_readSpan F kd ch n a g fa bk bn bY pf pl c td vf vl nv L C = some (0, a, g, pf, pl, c, td, vf, vl, nv) := by
  unfold f_X4_readSpan f_X4_faultAt
  rw [he, mb4_v, if00, mb2_v, mg_t (by decide)]
def lineO (n s a : Nat) (fa : Int32) (Ml Mk : Nat → Int32) (Mn : Nat → Int64) (Mz : Nat → Int32) (Mt : Nat → Int64) (Msp Mcop Mca Mpr Mpf Mpt Mvi Mvf Mvt : Nat → Int32)
    (oc : Option (Int32 × Int32 × Int32 × Int32 × (Nat → Int32) × (Nat → Int64) × (Nat → Int32) × (Nat → Int32) × (Nat → Int32) × (Nat → Int32) × (Nat → Int32) × (Nat → Int32) × (Nat → Int32) × Int32 × Int32 × (Nat → Int32) × (Nat → Int32) × Int32 × Int32 × Int32 × Int32))
    (om : Option ((Nat → Int32) × (Nat → Int32) × (Nat → Int64) × (Nat → Int32) × (Nat → Int64) × (Nat → Int32) × (Nat → Int32) × (Nat → Int32) × (Nat → Int32) × (Nat → Int32) × (Nat → Int32) × (Nat → Int32) × (Nat → Int32) × (Nat → Int32) × Int32 × Int32 × Int64 × Int32 × Int32)) : Prop :=
  ∃ (Ml' Mk' : Nat → Int32) (Mn' : Nat → Int64) (Mz' : Nat → Int32) (Mt' : Nat → Int64) (Msp' Mcop' Mca' Mpr' Mpf' Mpt' Mvi' Mvf' Mvt' : Nat → Int32) (p f : Int32) (w : Int64) (ws so : Int32),
    om = some (Ml', Mk', Mn', Mz', Mt', Msp', Mcop', Mca', Mpr', Mpf', Mpt', Mvi', Mvf', Mvt', p, f, w, ws, so) ∧ FL s Ml Ml' Mk Mk' Mn Mn' Mz Mz' Mt Mt' Msp Msp' Mcop Mcop' Mca Mca' ∧ FP s Mpr Mpr' Mpf Mpf' Mpt Mpt' Mvi Mvi' Mvf Mvf' Mvt Mvt' ∧
    ((∃ (a' L' C' c' np' nv' : Nat) (td' : Bool) (X' Y' U' V' : Nat → Nat) (bk' : Nat → Int32) (bn' : Nat → Int64) (bh' bd' br' bu' bY' pf' pl' vf' vl' : Nat → Int32) (ls' : Int32), a < a' ∧ f = -1 ∧ p = nI a' ∧
        oc = some (1, nI a', ls', fa, bk', bn', bh', bd', br', bu', bY', pf', pl', nI c', bI td', vf', vl', nI nv', nI L', nI C', bI (ins bk' L')) ∧ RS n s a' L' C' c' np' nv' td' X' Y' U' V' bk' bn' bh' bd' br' bu' bY' pf' pl' vf' vl' Ml' Mk' Mn' Mz' Mt' Msp' Mcop' Mca' Mpr' Mpf' Mpt' Mvi' Mvf' Mvt') ∨
     (∃ (e : Nat) (p1 ls' : Int32) (bk' : Nat → Int32) (bn' : Nat → Int64) (bh' bd' br' bu' bY' pf' pl' : Nat → Int32) (c' td' : Int32) (vf' vl' : Nat → Int32) (nv' L' C' I' : Int32), e ≤ n ∧ f = nI e ∧ oc = some (0, p1, ls', nI e, bk', bn', bh', bd', br', bu', bY', pf', pl', c', td', vf', vl', nv', L', C', I')))
theorem l46_0 {F : Nat} {ch : Nat → Int32} {len at' ls fa : Int32} {bk : Nat → Int32} {bn : Nat → Int64} {bh bd br bu bY pf pl vf vl : Nat → Int32} {c td nv L C I : Int32} : g_X4_readLine_46 F 0 ch len at' ls fa bk bn bh bd br bu bY pf pl c td vf vl nv L C I = some (0, at', ls, fa, bk, bn, bh, bd, br, bu, bY, pf, pl, c, td, vf, vl, nv, L, C, I) := by
  unfold g_X4_readLine_46
  rw [if00]
theorem l46_t {F n a : Nat} {ch tx : Nat → Int32} {ls fa : Int32} {bk : Nat → Int32} {bn : Nat → Int64} {bh bd br bu bY pf pl vf vl : Nat → Int32} {c td nv L C I : Int32} (T : TX n ch tx) (ha : a ≤ 2000) (h : cat n ch a = 10) : g_X4_readLine_46 F 1 ch (nI n) (nI a) ls fa bk bn bh bd br bu bY pf pl c td vf vl nv L C I = some (1, nI (a + 1), ls, fa, bk, bn, bh, bd, br, bu, bY, pf, pl, c, td, vf, vl, nv, L, C, I) := by
  unfold g_X4_readLine_46
  rw [if10, exA_t T ha h, mb3_v, if10]
theorem l46_f {F n a : Nat} {ch tx : Nat → Int32} {ls fa : Int32} {bk : Nat → Int32} {bn : Nat → Int64} {bh bd br bu bY pf pl vf vl : Nat → Int32} {c td nv L C I : Int32} (T : TX n ch tx) (ha : a ≤ 2000) (h : ¬ cat n ch a = 10) : g_X4_readLine_46 F 1 ch (nI n) (nI a) ls fa bk bn bh bd br bu bY pf pl c td vf vl nv L C I = some (0, nI a, ls, nI a, bk, bn, bh, bd, br, bu, bY, pf, pl, c, td, vf, vl, nv, L, C, I) := by
  unfold g_X4_readLine_46
  rw [if10, exA_f T ha h, mb3_v, if00]
set_option maxHeartbeats 4000000 in
theorem line_sim {F n s a L C c np nv : Nat} {td : Bool} {X Y U V : Nat → Nat} {ch tx : Nat → Int32} {ls fa : Int32} {w0 : Int64} {ws0 so0 : Int32} {bk : Nat → Int32} {bn : Nat → Int64} {bh bd br bu bY pf pl vf vl Ml Mk : Nat → Int32} {Mn : Nat → Int64} {Mz : Nat → Int32} {Mt : Nat → Int64} {Msp Mcop Mca Mpr Mpf Mpt Mvi Mvf Mvt : Nat → Int32} (hF : 4000 ≤ F) (T : TX n ch tx)
    (R : RS n s a L C c np nv td X Y U V bk bn bh bd br bu bY pf pl vf vl Ml Mk Mn Mz Mt Msp Mcop Mca Mpr Mpf Mpt Mvi Mvf Mvt) :
    lineO n s a fa Ml Mk Mn Mz Mt Msp Mcop Mca Mpr Mpf Mpt Mvi Mvf Mvt
      (f_X4_readLine F ch (nI n) (nI a) ls fa bk bn bh bd br bu bY pf pl (nI c) (bI td) vf vl (nI nv) (nI L) (nI C) (bI (ins bk L)))
      (f_X7_line F tx (nI n) Ml Mk Mn Mz Mt Msp Mcop Mca Mpr Mpf Mpt Mvi Mvf Mvt (nI a) (nI s) (-1) w0 ws0 so0) := by
  have hn := T.1
  obtain ⟨B, ⟨hl, hcop, hr, hvr⟩, P, R0, R1, hnv, V0, V1, UV, sh, fi, cn, len, an⟩ := R
  obtain ⟨hs, hL2, hC2⟩ := B.1
  have hnp := P.2.1
  unfold f_X4_readLine f_X7_line
  rcases word_sim (F := F) (fa := fa) hF T an with ⟨k, m, k6, m3, am, oc, om⟩ | ⟨e, e1, oc, om⟩
  · rw [oc, om, mb3_v, mb3_v, if_m1F (by omega), gd_t, mb1_v, if10]
    by_cases h5 : k < 5
    · rw [iL5, iL6, if_eqF (by omega) (by omega) (by omega), if_eqF (by omega) (by omega) (by omega), if_leF (by omega) (by omega)]
      obtain ⟨lo, l0⟩ := lay_sim (F := F) (g := a) (fa := fa) (w0 := w0) (ws0 := ws0) (br := br) hF T B hl hcop hr hvr (told_ok (F := F) P) hnp hnv (show k ≤ 4 by omega) fi am an
      obtain ⟨Ml', Mk', Mn', Mz', Mt', Msp', Mcop', Mca', p, f, w, ws, o1, o2, o3⟩ := lo
      rw [o1, mb12_v]
      rcases o3 with ⟨a', C', bk', bn', bh', bd', br', bu', bY', q1, q2, q3, q4, q5, q6⟩ | ⟨e, p1, q1, q2, q3⟩
      · rw [q3, mb13_v]
        have hz : np = 0 ∧ nv = 0 := by
          apply Classical.byContradiction
          intro q
          obtain ⟨p1, e, _, z⟩ := l0 q
          rw [q3] at z
          exact one_ne (congrArg Prod.fst (Option.some.inj z))
        obtain ⟨z1, z2⟩ := hz
        subst z1 z2
        have c0 : c = 0 := by omega
        subst c0
        have htd : td = false := by
          rcases P.2.2.2 with ⟨_, _, q⟩ | ⟨q, _⟩
          · exact q
          · omega
        subst htd
        rcases q6 with ⟨r1, r2, r3, r4, r5, r6⟩ | ⟨r1, r2⟩
        · rw [l46_t T (by omega) r1]
          have hC' := r6.1.2.2
          have an' := cat_in r1 (by decide)
          refine ⟨_, _, _, _, _, _, _, _, _, _, _, _, _, _, _, _, _, _, _, rfl, o2, FP_r, Or.inl ⟨a' + 1, L + 1, C', 0, 0, 0, false, X, Y, U, V, bk', bn', bh', bd', br', bu', bY', pf, pl, vf, vl, _, by omega, r2, r3, rfl, r6, ⟨r4, r5, hr, hvr⟩, ⟨⟨fun k hk => by omega, fun i j _ hj => by omega⟩, by omega, hC', Or.inl ⟨rfl, rfl, rfl⟩⟩, R0, R1, hnv, V0, V1, fun k hk => by omega, q4 sh, ?_, Or.inl rfl, by omega, by omega⟩⟩
          rcases q5 with q | ⟨q, q'⟩
          · exact Or.inr (Or.inl q)
          · exact Or.inr (Or.inr ⟨by omega, q'⟩)
        · rw [l46_f T (by omega) r1]
          exact ⟨_, _, _, _, _, _, _, _, _, _, _, _, _, _, _, _, _, _, _, rfl, o2, FP_r, Or.inr ⟨a', _, _, _, _, _, _, _, _, _, _, _, _, _, _, _, _, _, _, _, q2, r2, rfl⟩⟩
      · rw [q2, mb13_v, l46_0]
        exact ⟨_, _, _, _, _, _, _, _, _, _, _, _, _, _, _, _, _, _, _, rfl, o2, FP_r, Or.inr ⟨e, _, _, _, _, _, _, _, _, _, _, _, _, _, _, _, _, _, _, _, q1, q3, rfl⟩⟩
    · rw [iL5, if_leT (by omega) (by omega)]
      rcases end_sim (F := F) hF B hl hcop P R0 R1 with ⟨c', X', Y', pf', pl', e1, e2, e3, e4, e5, e6, e7, e8⟩ | ⟨e1, e2⟩
      · rw [e2, mb1_v, if10]
        by_cases h6 : k = 5
        · subst h6
          rw [if_eqT rfl, if_eqT rfl]
          obtain ⟨Mpr', Mpf', Mpt', p, f, w, ws, so, o1, o2, o3, o4, o5⟩ := press_sim (F := F) (g := a) (fa := fa) (w0 := w0) (ws0 := ws0) (so0 := so0) (vf := vf) (vl := vl) hF T B hcop e1 e6 e3 e7 e8 hr hnv hvr am an
          rw [o1, mb8_v]
          rcases o5 with ⟨a', c'', td', X'', Y'', pf'', pl'', q1, q2, q3, q4, q5, q6, q7⟩ | ⟨e, p1, pf'', pl'', c'', td', q1, q2, q3⟩
          · rw [q3, mb10_v]
            rcases q7 with ⟨r1, r2, r3, r4, r5⟩ | ⟨r1, r2⟩
            · rw [l46_t T (by omega) r1]
              have an' := cat_in r1 (by decide)
              exact ⟨_, _, _, _, _, _, _, _, _, _, _, _, _, _, _, _, _, _, _, rfl, FL_r, ⟨o2, o3, o4, fr_r, fr_r, fr_r⟩, Or.inl ⟨a' + 1, L, C, c'', np + 1, nv, td', X'', Y'', U, V, bk, bn, bh, bd, br, bu, bY, pf'', pl'', vf, vl, _, by omega, r2, r3, rfl, B, ⟨hl, hcop, r4, hvr⟩, q4, q6, r5, hnv, V0, V1, UV, sh, fi, Or.inr (by omega), by omega, by omega⟩⟩
            · rw [l46_f T (by omega) r1]
              exact ⟨_, _, _, _, _, _, _, _, _, _, _, _, _, _, _, _, _, _, _, rfl, FL_r, ⟨o2, o3, o4, fr_r, fr_r, fr_r⟩, Or.inr ⟨a', _, _, _, _, _, _, _, _, _, _, _, _, _, _, _, _, _, _, _, q2, r2, rfl⟩⟩
          · rw [q2, mb10_v, l46_0]
            exact ⟨_, _, _, _, _, _, _, _, _, _, _, _, _, _, _, _, _, _, _, rfl, FL_r, ⟨o2, o3, o4, fr_r, fr_r, fr_r⟩, Or.inr ⟨e, _, _, _, _, _, _, _, _, _, _, _, _, _, _, _, _, _, _, _, q1, q3, rfl⟩⟩
        · obtain rfl : k = 6 := by omega
          rw [if_eqF (by omega) (by omega) (by omega), if_eqF (by omega) (by omega) (by omega), iL6, if_eqT rfl]
          obtain ⟨Mvi', Mvf', Mvt', p, f, w, ws, so, o1, o2, o3, o4, o5⟩ := vial_sim (F := F) (g := a) (fa := fa) (w0 := w0) (ws0 := ws0) (so0 := so0) (vf := vf) (vl := vl) hF T B hcop e4 e1 e6 e3 e7 e8 hr hnv hvr V0 V1 am an
          rw [o1, mb8_v]
          rcases o5 with ⟨a', x, y, vf'', vl'', q1, q2, q3, q4, q5, q6, q7, q8⟩ | ⟨e, p1, pf'', pl'', c'', td', q1, q2, q3⟩
          · rw [q6, mb10_v]
            rcases q8 with ⟨r1, r2, r3, r4, r5⟩ | ⟨r1, r2⟩
            · rw [l46_t T (by omega) r1]
              have an' := cat_in r1 (by decide)
              refine ⟨_, _, _, _, _, _, _, _, _, _, _, _, _, _, _, _, _, _, _, rfl, FL_r, ⟨fr_r, fr_r, fr_r, o2, o3, o4⟩, Or.inl ⟨a' + 1, L, C, c', np, nv + 1, td, X', Y', inA U nv x, inA V nv y, bk, bn, bh, bd, br, bu, bY, pf', pl', vf'', vl'', _, by omega, r2, r3, rfl, B, ⟨hl, hcop, hr, r4⟩, e6, e7, e8, by omega, q7, r5, fun k hk => ?_, sh, fi, Or.inr (by omega), by omega, by omega⟩⟩
              by_cases q : k < nv
              · rw [inA_l q, inA_l q]; exact UV k q
              · rw [inA_e (by omega), inA_e (by omega)]; exact ⟨q3, q4⟩
            · rw [l46_f T (by omega) r1]
              exact ⟨_, _, _, _, _, _, _, _, _, _, _, _, _, _, _, _, _, _, _, rfl, FL_r, ⟨fr_r, fr_r, fr_r, o2, o3, o4⟩, Or.inr ⟨a', _, _, _, _, _, _, _, _, _, _, _, _, _, _, _, _, _, _, _, q2, r2, rfl⟩⟩
          · rw [q2, mb10_v, l46_0]
            exact ⟨_, _, _, _, _, _, _, _, _, _, _, _, _, _, _, _, _, _, _, rfl, FL_r, ⟨fr_r, fr_r, fr_r, o2, o3, o4⟩, Or.inr ⟨e, _, _, _, _, _, _, _, _, _, _, _, _, _, _, _, _, _, _, _, q1, q3, rfl⟩⟩
      · rw [e2, mb1_v, if00, fl_t, mb1_v]
        have hk : ∀ {α : Type} (u v : α), (if nI k = nI 5 then u else if nI k = nI 6 then u else v) = u := by
          intro α u v
          rcases (show k = 5 ∨ k = 6 by omega) with q | q
          · rw [if_eqT q]
          · rw [if_eqF (by omega) (by omega) (by omega), if_eqT q]
        rw [sp_end0 e1, mb10_v, l46_0, iL6, hk]
        exact ⟨_, _, _, _, _, _, _, _, _, _, _, _, _, _, _, _, _, _, _, rfl, FL_r, FP_r, Or.inr ⟨a, _, _, _, _, _, _, _, _, _, _, _, _, _, _, _, _, _, _, _, an, rfl, rfl⟩⟩
  · rw [oc, om, mb3_v, mb3_v, if_m1T, gd_f (by omega), mb1_v, if00]
    exact ⟨_, _, _, _, _, _, _, _, _, _, _, _, _, _, _, _, _, _, _, rfl, FL_r, FP_r, Or.inr ⟨e, _, _, _, _, _, _, _, _, _, _, _, _, _, _, _, _, _, _, _, e1, rfl, rfl⟩⟩
