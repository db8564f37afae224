def fr {α : Type} (b s : Nat) (f g : Nat → α) : Prop := ∀ j, (j < b * s ∨ b * s + b ≤ j) → f j = g j
theorem fr_r {α : Type} {b s : Nat} {f : Nat → α} : fr b s f f := fun _ _ => rfl
theorem fr_t {α : Type} {b s : Nat} {f g h : Nat → α} (h1 : fr b s f g) (h2 : fr b s g h) : fr b s f h := fun j hj => (h1 j hj).trans (h2 j hj)
theorem fr_u {b s k : Nat} {x : Int32} {f : Nat → Int32} (h : b * s ≤ k ∧ k < b * s + b) : fr b s (upd f k x) f := fun j hj => pk_un (by omega)
theorem fr_uL {b s k : Nat} {x : Int64} {f : Nat → Int64} (h : b * s ≤ k ∧ k < b * s + b) : fr b s (vp_updL f k x) f := fun j hj => pk_uLn (by omega)
theorem fr_u2 {b s k : Nat} {x : Int32} {f g : Nat → Int32} (h : b * s ≤ k ∧ k < b * s + b) (q : fr b s f g) : fr b s (upd f k x) g := fr_t (fr_u h) q
theorem fr_uL2 {b s k : Nat} {x : Int64} {f g : Nat → Int64} (h : b * s ≤ k ∧ k < b * s + b) (q : fr b s f g) : fr b s (vp_updL f k x) g := fr_t (fr_uL h) q
def FL (s : Nat) (Ml Ml' Mk Mk' : Nat → Int32) (Mn Mn' : Nat → Int64) (Mz Mz' : Nat → Int32) (Mt Mt' : Nat → Int64) (Msp Msp' Mcop Mcop' Mca Mca' : Nat → Int32) : Prop :=
  fr 1 s Ml' Ml ∧ fr 80 s Mk' Mk ∧ fr 80 s Mn' Mn ∧ fr 80 s Mz' Mz ∧ fr 80 s Mt' Mt ∧ fr 80 s Msp' Msp ∧ fr 1 s Mcop' Mcop ∧ fr 32 s Mca' Mca
theorem l206_b {F e : Nat} {v1 sz p s : Int32} {w : Int64} {ws : Int32} {tx Ml Mk : Nat → Int32} {Mn : Nat → Int64} {Mz : Nat → Int32} {Mt : Nat → Int64} {Msp Mcop Mca : Nat → Int32} (he : e < 2 ^ 31) : g_X7_layerLine_206 F v1 tx sz Ml Mk Mn Mz Mt Msp Mcop Mca p s (nI e) w ws = some (Ml, Mk, Mn, Mz, Mt, Msp, Mcop, Mca, p, nI e, w, ws) := by
  unfold g_X7_layerLine_206
  rw [exM_b he, mb2_v, gd_f he, mb1_v, if00]
theorem l180_b {F e : Nat} {v1 v4 sz p s : Int32} {v5 v7 w : Int64} {ws : Int32} {tx Ml Mk : Nat → Int32} {Mn : Nat → Int64} {Mz : Nat → Int32} {Mt : Nat → Int64} {Msp Mcop Mca : Nat → Int32} (he : e < 2 ^ 31) : g_X7_layerLine_180 F v1 v4 v5 v7 tx sz Ml Mk Mn Mz Mt Msp Mcop Mca p s (nI e) w ws = some (Ml, Mk, Mn, Mz, Mt, Msp, Mcop, Mca, p, nI e, w, ws) := by
  unfold g_X7_layerLine_180
  rw [gd_f he, mb1_v, if00, l206_b he]
theorem l121_b {F e : Nat} {v1 v4 sz p s : Int32} {w : Int64} {ws : Int32} {tx Ml Mk : Nat → Int32} {Mn : Nat → Int64} {Mz : Nat → Int32} {Mt : Nat → Int64} {Msp Mcop Mca : Nat → Int32} (hF : 4000 ≤ F) (he : e < 2 ^ 31) : g_X7_layerLine_121 F v1 v4 tx sz Ml Mk Mn Mz Mt Msp Mcop Mca p s (nI e) w ws = some (Ml, Mk, Mn, Mz, Mt, Msp, Mcop, Mca, p, nI e, w, ws) := by
  unfold g_X7_layerLine_121
  by_cases h : v1 = 4
  · rw [if_pos h, l206_b he]
  · obtain ⟨w1, h1⟩ := num_bad (F := F) (e := e) (B := 3) (tx := tx) (n := sz) (p := p) (D := 4) hF (by omega) he
    obtain ⟨w2, h2⟩ := num_bad (F := F) (e := e) (B := 1) (tx := tx) (n := sz) (p := p) (D := 2) hF (by omega) he
    rw [if_neg h, exM_b he, mb2_v, iL3, h1, mb3_v, exM_b he, mb2_v, show (1 : Int32) = nI 1 from rfl, h2, mb3_v, gd_f he, mb1_v, if00, l180_b he]
theorem l53_b {F e s : Nat} {v1 sz p : Int32} {w : Int64} {ws : Int32} {tx Ml Mk : Nat → Int32} {Mn : Nat → Int64} {Mz : Nat → Int32} {Mt : Nat → Int64} {Msp Mcop Mca : Nat → Int32} (hF : 4000 ≤ F) (hs : s ≤ 1) (he : e < 2 ^ 31) : g_X7_layerLine_53 F v1 tx sz Ml Mk Mn Mz Mt Msp Mcop Mca p (nI s) (nI e) w ws = some (Ml, Mk, Mn, Mz, Mt, Msp, Mcop, Mca, p, nI e, w, ws) := by
  unfold g_X7_layerLine_53 f_X7_layerAt
  rw [mg_in (by omega) (by omega), mb1_v, gd_f he, mb1_v, if00, l121_b hF he]
theorem add_ok {F L C kd : Nat} {v : Int64} {th sp : Int32} {bk : Nat → Int32} {bn : Nat → Int64} {bh bd br bu bY : Nat → Int32} (hL : L < 80) (hC2 : C ≤ 32) (hC : kd = 0 → C < 32) (hkd : kd ≤ 4) :
    f_X0_addLayer F (nI kd) v th sp bk bn bh bd br bu bY (nI L) (nI C) (bI (ins bk L)) = some (upd bk L (nI kd), vp_updL bn L v, upd bh L th, upd bd L sp, upd br L 1000, (if kd = 0 then upd (upd bu L (-1)) L (nI C) else upd bu L (-1)), (if kd = 0 then upd bY C (nI L) else bY), nI (L + 1), nI (if kd = 0 then C + 1 else C), bI (ins (upd bk L (nI kd)) (L + 1))) := by
  have i1 : ins (upd bk L (nI kd)) L = ins bk L := ins_same L (fun k hk => pk_un (by omega))
  unfold f_X0_addLayer g_X0_addLayer_23
  rw [ins, i1, pk_us]
  by_cases h0 : kd = 0
  · have := hC h0
    simp (disch := omega) only [mg_in, if10, if00, if_true, if_false, nI_1, nI_s1, mn_e, mb1_v, mb2_v, mb3_v, mb4_v, nI_clamp, nI_add, pk_mul, if_leT, if_leF, if_ltT, if_ltF, if_eqT, if_eqF, if_m1F, if_m1F2, if_m1T, if_m1ltT, if_m1leT, if_m1leF, if_m1ltF, if_e1T, if_e1F, if_1eT, if_1eF, if_le1T, if_le1F, if_1ltT, if_1ltF, iL0, iL2, iL3, iL4, iL5, iL6, iL7, iL8, iL9, iL10, iL20, iL21, iL22, iL31, iL32, iL40, iL46, iL48, iL57, iL64, iL65, iL80, iL81, iL90, iL96, iL97, iL100, iL122, iL126, iL127, iL500, iL1000, iL3000, iL9999999, if_pos h0, bI_f]
  · by_cases h1 : kd = 1
    · by_cases hC3 : C < 32
      · simp (disch := omega) only [mg_in, if10, if00, if_true, if_false, nI_1, nI_s1, mn_e, mb1_v, mb2_v, mb3_v, mb4_v, nI_clamp, nI_add, pk_mul, if_leT, if_leF, if_ltT, if_ltF, if_eqT, if_eqF, if_m1F, if_m1F2, if_m1T, if_m1ltT, if_m1leT, if_m1leF, if_m1ltF, if_e1T, if_e1F, if_1eT, if_1eF, if_le1T, if_le1F, if_1ltT, if_1ltF, iL0, iL2, iL3, iL4, iL5, iL6, iL7, iL8, iL9, iL10, iL20, iL21, iL22, iL31, iL32, iL40, iL46, iL48, iL57, iL64, iL65, iL80, iL81, iL90, iL96, iL97, iL100, iL122, iL126, iL127, iL500, iL1000, iL3000, iL9999999, if_neg h0, show nI 1 = (1 : Int32) from rfl, bI_t]
      · simp (disch := omega) only [mg_in, if10, if00, if_true, if_false, nI_1, nI_s1, mn_e, mb1_v, mb2_v, mb3_v, mb4_v, nI_clamp, nI_add, pk_mul, if_leT, if_leF, if_ltT, if_ltF, if_eqT, if_eqF, if_m1F, if_m1F2, if_m1T, if_m1ltT, if_m1leT, if_m1leF, if_m1ltF, if_e1T, if_e1F, if_1eT, if_1eF, if_le1T, if_le1F, if_1ltT, if_1ltF, iL0, iL2, iL3, iL4, iL5, iL6, iL7, iL8, iL9, iL10, iL20, iL21, iL22, iL31, iL32, iL40, iL46, iL48, iL57, iL64, iL65, iL80, iL81, iL90, iL96, iL97, iL100, iL122, iL126, iL127, iL500, iL1000, iL3000, iL9999999, if_neg h0, show nI 1 = (1 : Int32) from rfl, bI_t]
    · by_cases h2 : kd = 2
      · by_cases hC3 : C < 32
        · simp (disch := omega) only [mg_in, if10, if00, if_true, if_false, nI_1, nI_s1, mn_e, mb1_v, mb2_v, mb3_v, mb4_v, nI_clamp, nI_add, pk_mul, if_leT, if_leF, if_ltT, if_ltF, if_eqT, if_eqF, if_m1F, if_m1F2, if_m1T, if_m1ltT, if_m1leT, if_m1leF, if_m1ltF, if_e1T, if_e1F, if_1eT, if_1eF, if_le1T, if_le1F, if_1ltT, if_1ltF, iL0, iL2, iL3, iL4, iL5, iL6, iL7, iL8, iL9, iL10, iL20, iL21, iL22, iL31, iL32, iL40, iL46, iL48, iL57, iL64, iL65, iL80, iL81, iL90, iL96, iL97, iL100, iL122, iL126, iL127, iL500, iL1000, iL3000, iL9999999, if_neg h0, bI_t]
        · simp (disch := omega) only [mg_in, if10, if00, if_true, if_false, nI_1, nI_s1, mn_e, mb1_v, mb2_v, mb3_v, mb4_v, nI_clamp, nI_add, pk_mul, if_leT, if_leF, if_ltT, if_ltF, if_eqT, if_eqF, if_m1F, if_m1F2, if_m1T, if_m1ltT, if_m1leT, if_m1leF, if_m1ltF, if_e1T, if_e1F, if_1eT, if_1eF, if_le1T, if_le1F, if_1ltT, if_1ltF, iL0, iL2, iL3, iL4, iL5, iL6, iL7, iL8, iL9, iL10, iL20, iL21, iL22, iL31, iL32, iL40, iL46, iL48, iL57, iL64, iL65, iL80, iL81, iL90, iL96, iL97, iL100, iL122, iL126, iL127, iL500, iL1000, iL3000, iL9999999, if_neg h0, bI_t]
      · by_cases hC3 : C < 32
        · simp (disch := omega) only [mg_in, if10, if00, if_true, if_false, nI_1, nI_s1, mn_e, mb1_v, mb2_v, mb3_v, mb4_v, nI_clamp, nI_add, pk_mul, if_leT, if_leF, if_ltT, if_ltF, if_eqT, if_eqF, if_m1F, if_m1F2, if_m1T, if_m1ltT, if_m1leT, if_m1leF, if_m1ltF, if_e1T, if_e1F, if_1eT, if_1eF, if_le1T, if_le1F, if_1ltT, if_1ltF, iL0, iL2, iL3, iL4, iL5, iL6, iL7, iL8, iL9, iL10, iL20, iL21, iL22, iL31, iL32, iL40, iL46, iL48, iL57, iL64, iL65, iL80, iL81, iL90, iL96, iL97, iL100, iL122, iL126, iL127, iL500, iL1000, iL3000, iL9999999, if_neg h0, bI_t]
        · simp (disch := omega) only [mg_in, if10, if00, if_true, if_false, nI_1, nI_s1, mn_e, mb1_v, mb2_v, mb3_v, mb4_v, nI_clamp, nI_add, pk_mul, if_leT, if_leF, if_ltT, if_ltF, if_eqT, if_eqF, if_m1F, if_m1F2, if_m1T, if_m1ltT, if_m1leT, if_m1leF, if_m1ltF, if_e1T, if_e1F, if_1eT, if_1eF, if_le1T, if_le1F, if_1ltT, if_1ltF, iL0, iL2, iL3, iL4, iL5, iL6, iL7, iL8, iL9, iL10, iL20, iL21, iL22, iL31, iL32, iL40, iL46, iL48, iL57, iL64, iL65, iL80, iL81, iL90, iL96, iL97, iL100, iL122, iL126, iL127, iL500, iL1000, iL3000, iL9999999, if_neg h0, bI_t]
def layO (n a s L C : Nat) (ch : Nat → Int32) (fa : Int32) (Ml Mk : Nat → Int32) (Mn : Nat → Int64) (Mz : Nat → Int32) (Mt : Nat → Int64) (Msp Mcop Mca : Nat → Int32) (bk : Nat → Int32) (bn : Nat → Int64) (bh bd br bu bY : Nat → Int32) (I : Int32)
    (oc : Option (Int32 × Int32 × Int32 × (Nat → Int32) × (Nat → Int64) × (Nat → Int32) × (Nat → Int32) × (Nat → Int32) × (Nat → Int32) × (Nat → Int32) × Int32 × Int32 × Int32))
    (om : Option ((Nat → Int32) × (Nat → Int32) × (Nat → Int64) × (Nat → Int32) × (Nat → Int64) × (Nat → Int32) × (Nat → Int32) × (Nat → Int32) × Int32 × Int32 × Int64 × Int32)) : Prop :=
  ∃ (Ml' Mk' : Nat → Int32) (Mn' : Nat → Int64) (Mz' : Nat → Int32) (Mt' : Nat → Int64) (Msp' Mcop' Mca' : Nat → Int32) (p f : Int32) (w : Int64) (ws : Int32),
    om = some (Ml', Mk', Mn', Mz', Mt', Msp', Mcop', Mca', p, f, w, ws) ∧ FL s Ml Ml' Mk Mk' Mn Mn' Mz Mz' Mt Mt' Msp Msp' Mcop Mcop' Mca Mca' ∧
    ((∃ (a' C' : Nat) (bk' : Nat → Int32) (bn' : Nat → Int64) (bh' bd' br' bu' bY' : Nat → Int32), a + 2 ≤ a' ∧ a' ≤ n ∧ oc = some (1, nI a', fa, bk', bn', bh', bd', br', bu', bY', nI (L + 1), nI C', bI (ins bk' (L + 1))) ∧ ((∀ k, k < L → br k = 1000) → ∀ k, k < L + 1 → br' k = 1000) ∧ (1 ≤ C' ∨ (L = 0 ∧ bk' 0 = nI 3)) ∧
      ((cat n ch a' = 10 ∧ f = -1 ∧ p = nI (a' + 1) ∧ Ml' s = nI (L + 1) ∧ Mcop' s = nI C' ∧ BR s (L + 1) C' bk' bn' bh' bd' bu' bY' Mk' Mn' Mz' Mt' Msp' Mca') ∨ (¬ cat n ch a' = 10 ∧ f = nI a'))) ∨
     (∃ (e : Nat) (p1 : Int32), e ≤ n ∧ oc = some (0, p1, nI e, bk, bn, bh, bd, br, bu, bY, nI L, nI C, I) ∧ f = nI e))
theorem fin_sim {F n a s L C kd a' : Nat} {ch tx : Nat → Int32} {fa : Int32} {v : Int64} {m : Nat} {th sp : Int32} {bk : Nat → Int32} {bn : Nat → Int64} {bh bd br bu bY : Nat → Int32} {Ml Mk : Nat → Int32} {Mn : Nat → Int64} {Mz : Nat → Int32} {Mt : Nat → Int64} {Msp Mcop Mca Mk' : Nat → Int32} {Mn' : Nat → Int64} {Mz' : Nat → Int32} {Mt' : Nat → Int64} {Msp' : Nat → Int32} {I : Int32}
    (T : TX n ch tx) (B : BR s L C bk bn bh bd bu bY Mk Mn Mz Mt Msp Mca) (hl : Ml s = nI L) (hc : Mcop s = nI C) (hL : L < 80) (hC : kd = 0 → C < 32) (hkd : kd ≤ 4) (hfi : L = 0 → kd = 0 ∨ kd = 3) (hfi2 : L = 0 ∨ 1 ≤ C ∨ (L = 1 ∧ bk 0 = nI 3 ∧ kd = 0)) (hlok : LOK (nI kd) v (nI m) th sp) (ha1 : a + 2 ≤ a') (ha2 : a' ≤ n)
    (e5 : ∀ k, k < L → Mk' (80 * s + k) = Mk (80 * s + k) ∧ Mn' (80 * s + k) = Mn (80 * s + k) ∧ Mz' (80 * s + k) = Mz (80 * s + k) ∧ Mt' (80 * s + k) = Mt (80 * s + k) ∧ Msp' (80 * s + k) = Msp (80 * s + k))
    (e6 : Mk' (80 * s + L) = nI kd ∧ Mn' (80 * s + L) = v ∧ Mz' (80 * s + L) = nI m ∧ Mt' (80 * s + L) = th.toInt64 ∧ Msp' (80 * s + L) = sp)
    (f1 : fr 80 s Mk' Mk) (f2 : fr 80 s Mn' Mn) (f3 : fr 80 s Mz' Mz) (f4 : fr 80 s Mt' Mt) (f5 : fr 80 s Msp' Msp) :
    layO n a s L C ch fa Ml Mk Mn Mz Mt Msp Mcop Mca bk bn bh bd br bu bY I
      (mb10 (f_X0_addLayer F (nI kd) v th sp bk bn bh bd br bu bY (nI L) (nI C) (bI (ins bk L))) (fun b1 b2 b3 b4 b5 b6 b7 b8 b9 b10 => some ((1 : Int32), nI a', fa, b1, b2, b3, b4, b5, b6, b7, b8, b9, b10)))
      (g_X7_layerLine_206 F (nI kd) tx (nI n) Ml Mk' Mn' Mz' Mt' Msp' Mcop Mca (nI a') (nI s) (-1) v (nI m)) := by
  have hn := T.1
  obtain ⟨hs, hL2, hC2⟩ := B.1
  rw [add_ok hL hC2 hC hkd, mb10_v]
  unfold g_X7_layerLine_206
  have hbr : (∀ k, k < L → br k = 1000) → ∀ k, k < L + 1 → upd br L 1000 k = 1000 := by
    intro h k hk
    by_cases q : k = L
    · rw [q, pk_us]
    · rw [pk_un q]; exact h k (by omega)
  have hfi3 : 1 ≤ (if kd = 0 then C + 1 else C) ∨ (L = 0 ∧ upd bk L (nI kd) 0 = nI 3) := by
    by_cases k0 : kd = 0
    · rw [if_pos k0]; exact Or.inl (by omega)
    · rw [if_neg k0]
      rcases hfi2 with q | q | q
      · rcases hfi q with q2 | q2
        · exact absurd q2 k0
        · subst q; subst q2
          exact Or.inr ⟨rfl, pk_us⟩
      · exact Or.inl q
      · exact absurd q.2.2 k0
  by_cases hx : cat n ch a' = 10
  · rw [exM_t T (by omega) hx, mb2_v, gd_t, mb1_v, if10]
    have hB : ∀ (Mca' : Nat → Int32), (∀ c, c < C → Mca' (32 * s + c) = Mca (32 * s + c)) → (kd = 0 → Mca' (32 * s + C) = nI L) → BR s (L + 1) (if kd = 0 then C + 1 else C) (upd bk L (nI kd)) (vp_updL bn L v) (upd bh L th) (upd bd L sp) (if kd = 0 then upd (upd bu L (-1)) L (nI C) else upd bu L (-1)) (if kd = 0 then upd bY C (nI L) else bY) Mk' Mn' Mz' Mt' Msp' Mca' := by
      intro Mca' m1 m2
      refine BR_add (th := th) (sp := sp) (sz := nI m) (v := v) B hL hC hlok hkd (fun k hk => ?_) ?_ (fun c hc => ?_) (fun k0 => ?_) e5 e6
      · refine ⟨pk_un (by omega), pk_uLn (by omega), pk_un (by omega), pk_un (by omega), ?_⟩
        by_cases k0 : kd = 0
        · rw [if_pos k0, pk_un (by omega), pk_un (by omega)]
        · rw [if_neg k0, pk_un (by omega)]
      · refine ⟨pk_us, pk_uLs, pk_us, pk_us, ?_⟩
        by_cases k0 : kd = 0
        · rw [if_pos k0, if_pos k0, pk_us]
        · rw [if_neg k0, if_neg k0, pk_us]
      · refine ⟨?_, m1 c hc⟩
        by_cases k0 : kd = 0
        · rw [if_pos k0, pk_un (by omega)]
        · rw [if_neg k0]
      · rw [if_pos k0, pk_us]
        exact ⟨rfl, m2 k0⟩
    by_cases h0 : kd = 0
    · have hC3 := hC h0
      have hb := hB (upd Mca (32 * s + C) (nI L)) (fun c hc => pk_un (by omega)) (fun _ => pk_us)
      have er : (if nI kd = 0 then mg (inb (nI s) 2) (mg (inb (nI s) 2) (mg (inb (((32 : Int32) * (nI s)) + (Mcop (nI s).toNatClampNeg)) 64) (mg (inb (nI s) 2) (mg (inb (nI s) 2) (mg (inb (nI s) 2) (mg (inb (nI s) 2) (some ((upd Ml (nI s).toNatClampNeg ((Ml (nI s).toNatClampNeg) + (1 : Int32))), Mk', Mn', Mz', Mt', Msp', (upd Mcop (nI s).toNatClampNeg ((Mcop (nI s).toNatClampNeg) + (1 : Int32))), (upd Mca ((((32 : Int32) * (nI s)) + (Mcop (nI s).toNatClampNeg))).toNatClampNeg (Ml (nI s).toNatClampNeg)), nI (a' + 1), (-1 : Int32), v, nI m)))))))) else mg (inb (nI s) 2) (mg (inb (nI s) 2) (some ((upd Ml (nI s).toNatClampNeg ((Ml (nI s).toNatClampNeg) + (1 : Int32))), Mk', Mn', Mz', Mt', Msp', Mcop, Mca, nI (a' + 1), (-1 : Int32), v, nI m)))) = some (upd Ml s (nI (L + 1)), Mk', Mn', Mz', Mt', Msp', upd Mcop s (nI (C + 1)), upd Mca (32 * s + C) (nI L), nI (a' + 1), -1, v, nI m) := by
        simp (disch := omega) only [mg_in, if10, if00, if_true, if_false, nI_1, nI_s1, mn_e, mb1_v, mb2_v, mb3_v, mb4_v, nI_clamp, nI_add, pk_mul, if_leT, if_leF, if_ltT, if_ltF, if_eqT, if_eqF, if_m1F, if_m1F2, if_m1T, if_m1ltT, if_m1leT, if_m1leF, if_m1ltF, if_e1T, if_e1F, if_1eT, if_1eF, if_le1T, if_le1F, if_1ltT, if_1ltF, iL0, iL2, iL3, iL4, iL5, iL6, iL7, iL8, iL9, iL10, iL20, iL21, iL22, iL31, iL32, iL40, iL46, iL48, iL57, iL64, iL65, iL80, iL81, iL90, iL96, iL97, iL100, iL122, iL126, iL127, iL500, iL1000, iL3000, iL9999999, hl, hc]
      rw [er]
      refine ⟨_, _, _, _, _, _, _, _, _, _, _, _, rfl, ⟨fr_u ⟨by omega, by omega⟩, f1, f2, f3, f4, f5, fr_u ⟨by omega, by omega⟩, fr_u ⟨by omega, by omega⟩⟩, Or.inl ⟨a', _, _, _, _, _, _, _, _, ha1, ha2, rfl, hbr, hfi3, Or.inl ⟨hx, rfl, rfl, pk_us, ?_, hb⟩⟩⟩
      rw [pk_us, if_pos h0]
    · have hb := hB Mca (fun c hc => rfl) (fun k0 => absurd k0 h0)
      have er : (if nI kd = 0 then mg (inb (nI s) 2) (mg (inb (nI s) 2) (mg (inb (((32 : Int32) * (nI s)) + (Mcop (nI s).toNatClampNeg)) 64) (mg (inb (nI s) 2) (mg (inb (nI s) 2) (mg (inb (nI s) 2) (mg (inb (nI s) 2) (some ((upd Ml (nI s).toNatClampNeg ((Ml (nI s).toNatClampNeg) + (1 : Int32))), Mk', Mn', Mz', Mt', Msp', (upd Mcop (nI s).toNatClampNeg ((Mcop (nI s).toNatClampNeg) + (1 : Int32))), (upd Mca ((((32 : Int32) * (nI s)) + (Mcop (nI s).toNatClampNeg))).toNatClampNeg (Ml (nI s).toNatClampNeg)), nI (a' + 1), (-1 : Int32), v, nI m)))))))) else mg (inb (nI s) 2) (mg (inb (nI s) 2) (some ((upd Ml (nI s).toNatClampNeg ((Ml (nI s).toNatClampNeg) + (1 : Int32))), Mk', Mn', Mz', Mt', Msp', Mcop, Mca, nI (a' + 1), (-1 : Int32), v, nI m)))) = some (upd Ml s (nI (L + 1)), Mk', Mn', Mz', Mt', Msp', Mcop, Mca, nI (a' + 1), -1, v, nI m) := by
        simp (disch := omega) only [mg_in, if10, if00, if_true, if_false, nI_1, nI_s1, mn_e, mb1_v, mb2_v, mb3_v, mb4_v, nI_clamp, nI_add, pk_mul, if_leT, if_leF, if_ltT, if_ltF, if_eqT, if_eqF, if_m1F, if_m1F2, if_m1T, if_m1ltT, if_m1leT, if_m1leF, if_m1ltF, if_e1T, if_e1F, if_1eT, if_1eF, if_le1T, if_le1F, if_1ltT, if_1ltF, iL0, iL2, iL3, iL4, iL5, iL6, iL7, iL8, iL9, iL10, iL20, iL21, iL22, iL31, iL32, iL40, iL46, iL48, iL57, iL64, iL65, iL80, iL81, iL90, iL96, iL97, iL100, iL122, iL126, iL127, iL500, iL1000, iL3000, iL9999999, hl, hc]
      rw [er]
      refine ⟨_, _, _, _, _, _, _, _, _, _, _, _, rfl, ⟨fr_u ⟨by omega, by omega⟩, f1, f2, f3, f4, f5, fr_r, fr_r⟩, Or.inl ⟨a', _, _, _, _, _, _, _, _, ha1, ha2, rfl, hbr, hfi3, Or.inl ⟨hx, rfl, rfl, pk_us, ?_, hb⟩⟩⟩
      rw [if_neg h0]; exact hc
  · rw [exM_f T (by omega) hx, mb2_v, gd_f (by omega), mb1_v, if00]
    exact ⟨_, _, _, _, _, _, _, _, _, _, _, _, rfl, ⟨fr_r, f1, f2, f3, f4, f5, fr_r, fr_r⟩, Or.inl ⟨a', _, _, _, _, _, _, _, _, ha1, ha2, rfl, hbr, hfi3, Or.inr ⟨hx, rfl⟩⟩⟩
