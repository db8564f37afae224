theorem rqL_b {F L : Nat} {x : Int32} (h : x < 0 ∨ nI L ≤ x) : f_X6_requireLayer F x (nI L) = some 1 := by
  unfold f_X6_requireLayer
  by_cases q : x < 0
  · rw [if_pos q]
  · rw [if_neg q, if_neg (fun e => absurd (h.resolve_left q) (Int32.not_le.mpr e))]
theorem rqL_o {F L j : Nat} (h : j < L) (hL : L < 2 ^ 31) : f_X6_requireLayer F (nI j) (nI L) = some 0 := by
  unfold f_X6_requireLayer
  have e : ¬ nI j < 0 := nI_pos (by omega)
  rw [if_neg e, if_ltT h hL]
theorem rqC_b {F L : Nat} {x : Int32} (h : x < 0 ∨ nI L ≤ x) : f_X6_requireCopper F x (nI L) = some 1 := rqL_b (F := F) h
theorem rqC_o {F L j : Nat} (h : j < L) (hL : L < 2 ^ 31) : f_X6_requireCopper F (nI j) (nI L) = some 0 := rqL_o (F := F) h hL
theorem rqK_b {F L : Nat} {x : Int32} (h : x < 0 ∨ nI L ≤ x) : f_X6_requireList F x (nI L) = some 1 := rqL_b (F := F) h
theorem rqK_o {F L j : Nat} (h : j < L) (hL : L < 2 ^ 31) : f_X6_requireList F (nI j) (nI L) = some 0 := rqL_o (F := F) h hL
theorem isK_b {F L : Nat} {x : Int32} (h : x < 0 ∨ nI L ≤ x) : f_X7_isList F x (nI L) = some 0 := by
  unfold f_X7_isList
  by_cases q : x < 0
  · rw [if_pos q]
  · rw [if_neg q, if_pos (h.resolve_left q)]
theorem isK_o {F L j : Nat} (h : j < L) (hL : L < 2 ^ 31) : f_X7_isList F (nI j) (nI L) = some 1 := by
  unfold f_X7_isList
  have e : ¬ nI j < 0 := nI_pos (by omega)
  rw [if_neg e, if_leF h hL]
theorem isL_b {F L h : Nat} {hs : Bool} {Ml : Nat → Int32} {x : Int32} (hh : h ≤ 1) (hl : Ml h = nI L) (q : x < 0 ∨ nI L ≤ x) : f_X7_isLayer F x (bI hs) (nI h) Ml = some 0 := by
  unfold f_X7_isLayer
  cases hs with
  | false => rw [bI_f, if00]
  | true =>
    rw [bI_t, if10, mg_in (by omega) (by omega), nI_clamp (by omega), hl]
    by_cases w : x < 0
    · rw [if_pos w]
    · rw [if_neg w, if_pos (q.resolve_left w)]
theorem isL_o {F L h j : Nat} {hs : Bool} {Ml : Nat → Int32} (hh : h ≤ 1) (hl : Ml h = nI L) (hj : j < L) (hL : L < 2 ^ 31) (h0 : hs = false → L = 0) : f_X7_isLayer F (nI j) (bI hs) (nI h) Ml = some 1 := by
  unfold f_X7_isLayer
  cases hs with
  | false => have := h0 rfl; omega
  | true =>
    have e : ¬ nI j < 0 := nI_pos (by omega)
    rw [bI_t, if10, if_neg e, mg_in (by omega) (by omega), nI_clamp (by omega), hl, if_leF hj hL]
theorem isC_b {F L h : Nat} {hs : Bool} {Ml : Nat → Int32} {x : Int32} (hh : h ≤ 1) (hl : Ml h = nI L) (q : x < 0 ∨ nI L ≤ x) : f_X7_isCopper F x (bI hs) (nI h) Ml = some 0 := isL_b (F := F) hh hl q
theorem isC_o {F L h j : Nat} {hs : Bool} {Ml : Nat → Int32} (hh : h ≤ 1) (hl : Ml h = nI L) (hj : j < L) (hL : L < 2 ^ 31) (h0 : hs = false → L = 0) : f_X7_isCopper F (nI j) (bI hs) (nI h) Ml = some 1 := isL_o (F := F) hh hl hj hL h0
theorem ep_cases (F : Nat) (x y : Int32) : (f_X6_requireEndAndPart F x y = some 1 ∧ (f_X7_isBit F x = some 0 ∨ (f_X7_isBit F x = some 1 ∧ f_X7_isBit F y = some 0))) ∨ (∃ e p : Nat, e ≤ 1 ∧ p ≤ 1 ∧ x = nI e ∧ y = nI p ∧ f_X6_requireEndAndPart F x y = some 0 ∧ f_X7_isBit F x = some 1 ∧ f_X7_isBit F y = some 1) := by
  have bit : ∀ z : Int32, ((z < 0 ∨ (1 : Int32) < z) ∧ f_X7_isBit F z = some 0) ∨ ∃ e : Nat, e ≤ 1 ∧ z = nI e ∧ f_X7_isBit F z = some 1 := by
    intro z
    rcases pk_ix z (n := 2) (by omega) with h | h | ⟨j, h1, h2⟩
    · refine Or.inl ⟨Or.inl h, ?_⟩
      unfold f_X7_isBit
      have e0 : ¬ z = 0 := fun e => by subst e; exact absurd h (by decide)
      have e1 : ¬ z = 1 := fun e => by subst e; exact absurd h (by decide)
      rw [if_neg e0, if_neg e1]
    · have h3 : (1 : Int32) < z := Int32.lt_of_lt_of_le (by decide : (1 : Int32) < nI 2) h
      refine Or.inl ⟨Or.inr h3, ?_⟩
      unfold f_X7_isBit
      have e0 : ¬ z = 0 := fun e => by subst e; exact absurd h3 (by decide)
      have e1 : ¬ z = 1 := fun e => by subst e; exact absurd h3 (by decide)
      rw [if_neg e0, if_neg e1]
    · refine Or.inr ⟨j, by omega, h2, ?_⟩
      subst h2
      rcases (show j = 0 ∨ j = 1 by omega) with q | q <;> subst q <;> rfl
  unfold f_X6_requireEndAndPart
  rcases bit x with ⟨h1, h2⟩ | ⟨e, h1, h2, h3⟩
  · refine Or.inl ⟨?_, Or.inl h2⟩
    by_cases q : x < 0
    · rw [if_pos q]
    · rw [if_neg q, if_pos (h1.resolve_left q)]
  · have a1 : ¬ x < 0 := by rw [h2]; exact nI_pos (by omega)
    have a2 : ¬ (1 : Int32) < x := by rw [h2]; exact nI_nlt (a := 1) h1 (by omega)
    rcases bit y with ⟨k1, k2⟩ | ⟨p, k1, k2, k3⟩
    · refine Or.inl ⟨?_, Or.inr ⟨h3, k2⟩⟩
      rw [if_neg a1, if_neg a2]
      by_cases q : y < 0
      · rw [if_pos q]
      · rw [if_neg q, if_neg (Int32.not_le.mpr (k1.resolve_left q))]
    · refine Or.inr ⟨e, p, h1, k1, h2, k2, ?_, h3, k3⟩
      have b1 : ¬ y < 0 := by rw [k2]; exact nI_pos (by omega)
      have b2 : y ≤ (1 : Int32) := by rw [k2]; exact nI_le (b := 1) k1 (by omega)
      rw [if_neg a1, if_neg a2, if_neg b1, if_pos b2]
theorem gcd_sim {F : Nat} : ∀ (n a b st fu1 fu2 : Nat), b < 2 ^ n → a < 2 ^ 63 → b < 2 ^ 63 → st + 2 * n ≤ 98 → 2 * n + 1 < fu1 → 2 * n + 1 < fu2 → (0 < a ∨ 0 < b) → ∃ g : Nat, 0 < g ∧ g < 2 ^ 63 ∧ g_X6_commonDivisor_9 F fu1 (lN a) (lN b) (nI st) = some (lN g) ∧ g_X7_common_6 F fu2 (lN a) (lN b) = some (lN g) := by
  have stop : ∀ (a st fu1 fu2 : Nat), st < 100 → g_X6_commonDivisor_9 F (fu1 + 1) (lN a) (lN 0) (nI st) = some (lN a) ∧ g_X7_common_6 F (fu2 + 1) (lN a) (lN 0) = some (lN a) := by
    intro a st fu1 fu2 h
    have e : lg_cmp (lN 0) 0 = 0 := by decide
    constructor
    · rw [g_X6_commonDivisor_9_s, iL100, if_leF h (by omega), if_pos e]
    · rw [g_X7_common_6_s, if_pos e]
  have step : ∀ (a b st fu1 fu2 : Nat), st < 100 → 0 < b → a < 2 ^ 63 → b < 2 ^ 63 → g_X6_commonDivisor_9 F (fu1 + 1) (lN a) (lN b) (nI st) = g_X6_commonDivisor_9 F fu1 (lN b) (lN (a % b)) (nI (st + 1)) ∧ g_X7_common_6 F (fu2 + 1) (lN a) (lN b) = g_X7_common_6 F fu2 (lN b) (lN (a % b)) := by
    intro a b st fu1 fu2 h h0 ha hb
    have e : ¬ lg_cmp (lN b) 0 = 0 := fun q => lz h0 hb ((lg_cmp_eq _ _).mp q)
    constructor
    · rw [g_X6_commonDivisor_9_s, iL100, if_leF h (by omega), if_neg e, mg_t (lz h0 hb), pk_lRem ha h0 hb, mn_e, mn_e, nI_1]
    · rw [g_X7_common_6_s, if_neg e, mg_t (lz h0 hb), pk_lRem ha h0 hb, mn_e]
  intro n
  induction n with
  | zero =>
    intro a b st fu1 fu2 hb ha hb2 hst h1 h2 hp
    obtain ⟨fu1, rfl⟩ : ∃ z, fu1 = z + 1 := ⟨fu1 - 1, by omega⟩
    obtain ⟨fu2, rfl⟩ : ∃ z, fu2 = z + 1 := ⟨fu2 - 1, by omega⟩
    obtain rfl : b = 0 := by omega
    obtain ⟨e1, e2⟩ := stop a st fu1 fu2 (by omega)
    exact ⟨a, by omega, ha, e1, e2⟩
  | succ n ih =>
    intro a b st fu1 fu2 hb ha hb2 hst h1 h2 hp
    obtain ⟨fu1, rfl⟩ : ∃ z, fu1 = z + 2 := ⟨fu1 - 2, by omega⟩
    obtain ⟨fu2, rfl⟩ : ∃ z, fu2 = z + 2 := ⟨fu2 - 2, by omega⟩
    by_cases q : b = 0
    · subst q
      obtain ⟨e1, e2⟩ := stop a st (fu1 + 1) (fu2 + 1) (by omega)
      exact ⟨a, by omega, ha, e1, e2⟩
    · obtain ⟨e1, e2⟩ := step a b st (fu1 + 1) (fu2 + 1) (by omega) (by omega) ha hb2
      rw [e1, e2]
      have hr : a % b < b := Nat.mod_lt _ (by omega)
      by_cases q2 : a % b = 0
      · rw [q2]
        obtain ⟨e1, e2⟩ := stop b (st + 1) fu1 fu2 (by omega)
        exact ⟨b, by omega, hb2, e1, e2⟩
      · obtain ⟨e3, e4⟩ := step b (a % b) (st + 1) fu1 fu2 (by omega) (by omega) hb2 (by omega)
        rw [e3, e4]
        have hr2 : b % (a % b) < a % b := Nat.mod_lt _ (by omega)
        have hr3 : b % (a % b) + a % b ≤ b := by
          have := Nat.mod_add_div b (a % b)
          have h9 : 1 ≤ b / (a % b) := (Nat.le_div_iff_mul_le (by omega)).mpr (by omega)
          have h8 : a % b * 1 ≤ a % b * (b / (a % b)) := Nat.mul_le_mul_left _ h9
          omega
        exact ih (a % b) (b % (a % b)) (st + 1 + 1) fu1 fu2 (by rw [Nat.pow_succ] at hb; omega) (by omega) (by omega) (by omega) (by omega) (by omega) (by omega)
theorem part_sim {F a b p : Nat} (hF : 4000 ≤ F) (ha : a < 2 ^ 63) (hb : b < 2 ^ 20) (hb0 : 0 < b) (hp : p ≤ 1) : ∃ z : Int64, f_X6_partOfFraction F (lN a) (lN b) (nI p) = some z ∧ f_X7_partOf F (lN a) (lN b) (nI p) = some z := by
  obtain ⟨g, g1, g2, g3, g4⟩ := gcd_sim (F := F) 20 a b 0 F F hb ha (by omega) (by omega) (by omega) (by omega) (Or.inr hb0)
  have e : ∀ x : Nat, x < 2 ^ 63 → g_X6_partOfFraction_10 F (lN a) (lN b) (lN x) = some (lN x / lN g) := by
    intro x hx
    unfold g_X6_partOfFraction_10 f_X6_commonDivisor
    rw [show g_X6_commonDivisor_9 F F (lN a) (lN b) 0 = _ from g3, mb1_v]
    by_cases q : g ≤ 1
    · obtain rfl : g = 1 := by omega
      rw [if_pos (by decide), pk_lDiv hx (by omega) (by omega), Nat.div_one]
    · have e9 : ¬ lg_cmp (lN g) 1 ≤ 0 := fun h => by
        have h := (lg_cmp_le _ _).mp h
        rw [lL1] at h
        have := (pk_lLE (by omega) (by omega)).mp h
        omega
      rw [if_neg e9, mg_t (lz g1 g2)]
  unfold f_X6_partOfFraction f_X7_partOf f_X7_common
  rw [g4, mb1_v, mg_t (lz g1 g2), mg_t (lz g1 g2), e a ha, e b (by omega)]
  by_cases q : nI p = 0
  · rw [if_pos q]; exact ⟨_, rfl, rfl⟩
  · rw [if_neg q]; exact ⟨_, rfl, rfl⟩
def QW (hs : Bool) (h L C c nv : Nat) (X Y U V : Nat → Nat) (bk : Nat → Int32) (bn : Nat → Int64) (bh bd bu bY pf pl vf vl Ml Mk : Nat → Int32) (Mn : Nat → Int64) (Mz : Nat → Int32) (Mt : Nat → Int64) (Msp Mcop Mca Mpr Mpf Mpt Mvi Mvf Mvt : Nat → Int32) : Prop :=
  BR h L C bk bn bh bd bu bY Mk Mn Mz Mt Msp Mca ∧ (Ml h = nI L ∧ Mcop h = nI C ∧ Mpr h = nI c ∧ Mvi h = nI nv) ∧ PV C c X Y ∧ c ≤ 21 ∧ SR 0 c X Y pf pl ∧ SR (22 * h) c X Y Mpf Mpt ∧ nv ≤ 40 ∧ SR 0 nv U V vf vl ∧ SR (40 * h) nv U V Mvf Mvt ∧ (hs = false → L = 0 ∧ C = 0 ∧ c = 0 ∧ nv = 0) ∧ (hs = true → LV h L C c nv X Y U V bk bn bh bd bu bY pf pl vf vl Ml Mk Mn Mz Mt Msp Mcop Mca Mpr Mpf Mpt Mvi Mvf Mvt)
def qI (oc : Option (Int32 × (Nat → Int64))) (om : Option (Int32 × Int32)) : Prop := ∃ (k b : Int32) (a : Nat → Int64), oc = some (k, a) ∧ om = some (b, k) ∧ (k = 0 → a 0 = b.toInt64)
def qL (oc : Option (Int32 × (Nat → Int64))) (om : Option (Int64 × Int32)) : Prop := ∃ (k : Int32) (b : Int64) (a : Nat → Int64), oc = some (k, a) ∧ om = some (b, k) ∧ (k = 0 → a 0 = b)
theorem in01p : inb (0 : Int32) 1 := by decide
theorem in01 {β : Type} {o : Option β} {inst : Decidable (inb (0 : Int32) 1)} : @mg β (inb (0 : Int32) 1) inst o = o := mg_t in01p
theorem up0 {a : Nat → Int64} {z : Int64} : vp_updL a ((0 : Int32)).toNatClampNeg z 0 = z := pk_uLs
theorem kind_sim {F h L C c nv : Nat} {hs : Bool} {X Y U V : Nat → Nat} {x thr : Int32} {bk : Nat → Int32} {bn : Nat → Int64} {bh bd bu bY pf pl vf vl Ml Mk : Nat → Int32} {Mn : Nat → Int64} {Mz : Nat → Int32} {Mt : Nat → Int64} {Msp Mcop Mca Mpr Mpf Mpt Mvi Mvf Mvt : Nat → Int32} {a : Nat → Int64} (W : QW hs h L C c nv X Y U V bk bn bh bd bu bY pf pl vf vl Ml Mk Mn Mz Mt Msp Mcop Mca Mpr Mpf Mpt Mvi Mvf Mvt) :
    qI (f_L_kind F x bk (nI L) a) (f_X7_kind F x thr (bI hs) (nI h) Ml Mk) := by
  obtain ⟨⟨⟨hh, hL, hC⟩, hlk, hc, hu⟩, ⟨hl, hcop, hr, hvr⟩, PV0, c21, R0, R1, hnv, V0, V1, h0, h1⟩ := W
  unfold f_L_kind f_X6_kind f_X7_kind g_X7_kind_14
  rcases pk_ix x (n := L) (by omega) with q | q | ⟨j, q1, q2⟩
  · rw [rqL_b (Or.inl q), isL_b hh hl (Or.inl q)]
    exact ⟨1, 0, a, rfl, rfl, fun e => absurd e (by decide)⟩
  · rw [rqL_b (Or.inr q), isL_b hh hl (Or.inr q)]
    exact ⟨1, 0, a, rfl, rfl, fun e => absurd e (by decide)⟩
  · subst q2
    rw [rqL_o q1 (by omega), isL_o hh hl q1 (by omega) (fun e => (h0 e).1), mb1_v, mb1_v, if_pos rfl, if10, if00]
    have e := (hlk j q1).1
    simp (disch := omega) only [mg_in, if10, if00, if_true, if_false, nI_1, nI_s1, mn_e, mb1_v, mb2_v, mb3_v, mb4_v, nI_clamp, nI_add, pk_mul, if_leT, if_leF, if_ltT, if_ltF, if_eqT, if_eqF, if_m1F, if_m1F2, if_m1T, if_m1ltT, if_m1leT, if_m1leF, if_m1ltF, if_e1T, if_e1F, if_1eT, if_1eF, if_le1T, if_le1F, if_1ltT, if_1ltF, iL0, iL2, iL3, iL4, iL5, iL6, iL7, iL8, iL9, iL10, iL20, iL21, iL22, iL31, iL32, iL40, iL46, iL48, iL57, iL64, iL65, iL80, iL81, iL90, iL96, iL97, iL100, iL122, iL126, iL127, iL500, iL1000, iL3000, iL9999999, e, mb2_v, in01]
    exact ⟨0, bk j, _, rfl, rfl, fun _ => up0⟩
theorem cof_loop {F h L C j : Nat} {bk : Nat → Int32} {bn : Nat → Int64} {bh bd bu bY : Nat → Int32} {Mk : Nat → Int32} {Mn : Nat → Int64} {Mz : Nat → Int32} {Mt : Nat → Int64} {Msp Mca Mcop : Nat → Int32} (B : BR h L C bk bn bh bd bu bY Mk Mn Mz Mt Msp Mca) (hcop : Mcop h = nI C) (hj : j < L) :
    ∀ (r c fu : Nat), c + r = C → r < fu → (∀ c', c' < c → ¬ bY c' = nI j) → g_X7_copperOf_2 F fu (nI j) (nI c) (nI h) Mcop Mca = some (bu j) := by
  obtain ⟨⟨hh, hL, hC⟩, hlk, hc, hu⟩ := B
  intro r
  induction r with
  | zero =>
    intro c fu he hf hn
    obtain ⟨fu, rfl⟩ : ∃ z, fu = z + 1 := ⟨fu - 1, by omega⟩
    have e : bu j = -1 := by
      rcases hu j hj with ⟨_, c', q1, _, q2⟩ | ⟨_, q⟩
      · exact absurd q2 (hn c' (by omega))
      · exact q
    rw [g_X7_copperOf_2_s, e]
    simp (disch := omega) only [mg_in, if10, if00, if_true, if_false, nI_1, nI_s1, mn_e, mb1_v, mb2_v, mb3_v, mb4_v, nI_clamp, nI_add, pk_mul, if_leT, if_leF, if_ltT, if_ltF, if_eqT, if_eqF, if_m1F, if_m1F2, if_m1T, if_m1ltT, if_m1leT, if_m1leF, if_m1ltF, if_e1T, if_e1F, if_1eT, if_1eF, if_le1T, if_le1F, if_1ltT, if_1ltF, iL0, iL2, iL3, iL4, iL5, iL6, iL7, iL8, iL9, iL10, iL20, iL21, iL22, iL31, iL32, iL40, iL46, iL48, iL57, iL64, iL65, iL80, iL81, iL90, iL96, iL97, iL100, iL122, iL126, iL127, iL500, iL1000, iL3000, iL9999999, hcop]
  | succ r ih =>
    intro c fu he hf hn
    obtain ⟨fu, rfl⟩ : ∃ z, fu = z + 1 := ⟨fu - 1, by omega⟩
    obtain ⟨a1, l, a2, a3, a4, a5⟩ := hc c (by omega)
    by_cases q : l = j
    · subst q
      rw [g_X7_copperOf_2_s]
      simp (disch := omega) only [mg_in, if10, if00, if_true, if_false, nI_1, nI_s1, mn_e, mb1_v, mb2_v, mb3_v, mb4_v, nI_clamp, nI_add, pk_mul, if_leT, if_leF, if_ltT, if_ltF, if_eqT, if_eqF, if_m1F, if_m1F2, if_m1T, if_m1ltT, if_m1leT, if_m1leF, if_m1ltF, if_e1T, if_e1F, if_1eT, if_1eF, if_le1T, if_le1F, if_1ltT, if_1ltF, iL0, iL2, iL3, iL4, iL5, iL6, iL7, iL8, iL9, iL10, iL20, iL21, iL22, iL31, iL32, iL40, iL46, iL48, iL57, iL64, iL65, iL80, iL81, iL90, iL96, iL97, iL100, iL122, iL126, iL127, iL500, iL1000, iL3000, iL9999999, hcop, a1, a3, a5]
    · have i1 := ih (c + 1) fu (by omega) (by omega) (fun c' hc' => by
        by_cases e : c' = c
        · subst e; rw [a3]; exact fun w => q (nI_inj w (by omega) (by omega))
        · exact hn c' (by omega))
      rw [g_X7_copperOf_2_s]
      simp (disch := omega) only [mg_in, if10, if00, if_true, if_false, nI_1, nI_s1, mn_e, mb1_v, mb2_v, mb3_v, mb4_v, nI_clamp, nI_add, pk_mul, if_leT, if_leF, if_ltT, if_ltF, if_eqT, if_eqF, if_m1F, if_m1F2, if_m1T, if_m1ltT, if_m1leT, if_m1leF, if_m1ltF, if_e1T, if_e1F, if_1eT, if_1eF, if_le1T, if_le1F, if_1ltT, if_1ltF, iL0, iL2, iL3, iL4, iL5, iL6, iL7, iL8, iL9, iL10, iL20, iL21, iL22, iL31, iL32, iL40, iL46, iL48, iL57, iL64, iL65, iL80, iL81, iL90, iL96, iL97, iL100, iL122, iL126, iL127, iL500, iL1000, iL3000, iL9999999, hcop, a1, a3, i1]
theorem cof_ok {F h L C j : Nat} {bk : Nat → Int32} {bn : Nat → Int64} {bh bd bu bY : Nat → Int32} {Mk : Nat → Int32} {Mn : Nat → Int64} {Mz : Nat → Int32} {Mt : Nat → Int64} {Msp Mca Mcop : Nat → Int32} (hF : 4000 ≤ F) (B : BR h L C bk bn bh bd bu bY Mk Mn Mz Mt Msp Mca) (hcop : Mcop h = nI C) (hj : j < L) : f_X7_copperOf F (nI j) (nI h) Mcop Mca = some (bu j) := by
  have hC := B.1.2.2
  exact cof_loop (F := F) B hcop hj C 0 F (by omega) (by omega) (fun c' hc' => by omega)
theorem role_sim {F h L C c nv : Nat} {hs : Bool} {X Y U V : Nat → Nat} {x thr : Int32} {bk : Nat → Int32} {bn : Nat → Int64} {bh bd bu bY pf pl vf vl Ml Mk : Nat → Int32} {Mn : Nat → Int64} {Mz : Nat → Int32} {Mt : Nat → Int64} {Msp Mcop Mca Mpr Mpf Mpt Mvi Mvf Mvt : Nat → Int32} {a : Nat → Int64} (hF : 4000 ≤ F) (W : QW hs h L C c nv X Y U V bk bn bh bd bu bY pf pl vf vl Ml Mk Mn Mz Mt Msp Mcop Mca Mpr Mpf Mpt Mvi Mvf Mvt) :
    qI (f_L_role F x bu (nI L) a) (f_X7_role F x thr (bI hs) (nI h) Ml Mcop Mca) := by
  obtain ⟨B, ⟨hl, hcop, hr, hvr⟩, PV0, c21, R0, R1, hnv, V0, V1, h0, h1⟩ := W
  obtain ⟨hh, hL, hC⟩ := B.1
  unfold f_L_role f_X6_role f_X7_role
  rcases pk_ix x (n := L) (by omega) with q | q | ⟨j, q1, q2⟩
  · rw [rqL_b (Or.inl q), isL_b hh hl (Or.inl q)]
    exact ⟨1, 0, a, rfl, rfl, fun e => absurd e (by decide)⟩
  · rw [rqL_b (Or.inr q), isL_b hh hl (Or.inr q)]
    exact ⟨1, 0, a, rfl, rfl, fun e => absurd e (by decide)⟩
  · subst q2
    rw [rqL_o q1 (by omega), isL_o hh hl q1 (by omega) (fun e => (h0 e).1), mb1_v, mb1_v, if_pos rfl, if10, cof_ok hF B hcop q1, mb1_v]
    simp (disch := omega) only [mg_in, if10, if00, if_true, if_false, nI_1, nI_s1, mn_e, mb1_v, mb2_v, mb3_v, mb4_v, nI_clamp, nI_add, pk_mul, if_leT, if_leF, if_ltT, if_ltF, if_eqT, if_eqF, if_m1F, if_m1F2, if_m1T, if_m1ltT, if_m1leT, if_m1leF, if_m1ltF, if_e1T, if_e1F, if_1eT, if_1eF, if_le1T, if_le1F, if_1ltT, if_1ltF, iL0, iL2, iL3, iL4, iL5, iL6, iL7, iL8, iL9, iL10, iL20, iL21, iL22, iL31, iL32, iL40, iL46, iL48, iL57, iL64, iL65, iL80, iL81, iL90, iL96, iL97, iL100, iL122, iL126, iL127, iL500, iL1000, iL3000, iL9999999, mb2_v, in01]
    exact ⟨0, bu j, _, rfl, rfl, fun _ => up0⟩
theorem eoT_ok {F j e V D : Nat} {bh bd : Nat → Int32} (hj : j < 80) (he : e ≤ 1) (h1 : bh j = nI V) (h2 : bd j = nI D) (hV : V ≤ 9999999) (hD : D ≤ 500) : f_X0_endInThousandths F (nI j) (nI e) bh bd = some (lN (V * (if e = 0 then 1000 - D else 1000 + D))) := by
  unfold f_X0_endInThousandths
  have es : nI 1000 - nI D = nI (1000 - D) := nI_sub (by omega)
  by_cases q : e = 0
  · simp (disch := omega) only [mg_in, if10, if00, if_true, if_false, nI_1, nI_s1, mn_e, mb1_v, mb2_v, mb3_v, mb4_v, nI_clamp, nI_add, pk_mul, if_leT, if_leF, if_ltT, if_ltF, if_eqT, if_eqF, if_m1F, if_m1F2, if_m1T, if_m1ltT, if_m1leT, if_m1leF, if_m1ltF, if_e1T, if_e1F, if_1eT, if_1eF, if_le1T, if_le1F, if_1ltT, if_1ltF, iL0, iL2, iL3, iL4, iL5, iL6, iL7, iL8, iL9, iL10, iL20, iL21, iL22, iL31, iL32, iL40, iL46, iL48, iL57, iL64, iL65, iL80, iL81, iL90, iL96, iL97, iL100, iL122, iL126, iL127, iL500, iL1000, iL3000, iL9999999, h1, h2, es, nI_l, lN_mul, if_pos q]
  · simp (disch := omega) only [mg_in, if10, if00, if_true, if_false, nI_1, nI_s1, mn_e, mb1_v, mb2_v, mb3_v, mb4_v, nI_clamp, nI_add, pk_mul, if_leT, if_leF, if_ltT, if_ltF, if_eqT, if_eqF, if_m1F, if_m1F2, if_m1T, if_m1ltT, if_m1leT, if_m1leF, if_m1ltF, if_e1T, if_e1F, if_1eT, if_1eF, if_le1T, if_le1F, if_1ltT, if_1ltF, iL0, iL2, iL3, iL4, iL5, iL6, iL7, iL8, iL9, iL10, iL20, iL21, iL22, iL31, iL32, iL40, iL46, iL48, iL57, iL64, iL65, iL80, iL81, iL90, iL96, iL97, iL100, iL122, iL126, iL127, iL500, iL1000, iL3000, iL9999999, h1, h2, nI_l, lN_mul, if_neg q]
theorem eoM_ok {F h j e V D : Nat} {Mt : Nat → Int64} {Msp : Nat → Int32} (hh : h ≤ 1) (hj : j < 80) (he : e ≤ 1) (h1 : Mt (80 * h + j) = lN V) (h2 : Msp (80 * h + j) = nI D) (hV : V ≤ 9999999) (hD : D ≤ 500) : f_X7_endOf F (nI j) (nI e) (nI h) Mt Msp = some (lN (V * (if e = 0 then 1000 - D else 1000 + D))) := by
  unfold f_X7_endOf
  have es : lN 1000 - lN D = lN (1000 - D) := lN_sub (by omega)
  by_cases q : e = 0
  · simp (disch := omega) only [mg_in, if10, if00, if_true, if_false, nI_1, nI_s1, mn_e, mb1_v, mb2_v, mb3_v, mb4_v, nI_clamp, nI_add, pk_mul, if_leT, if_leF, if_ltT, if_ltF, if_eqT, if_eqF, if_m1F, if_m1F2, if_m1T, if_m1ltT, if_m1leT, if_m1leF, if_m1ltF, if_e1T, if_e1F, if_1eT, if_1eF, if_le1T, if_le1F, if_1ltT, if_1ltF, iL0, iL2, iL3, iL4, iL5, iL6, iL7, iL8, iL9, iL10, iL20, iL21, iL22, iL31, iL32, iL40, iL46, iL48, iL57, iL64, iL65, iL80, iL81, iL90, iL96, iL97, iL100, iL122, iL126, iL127, iL500, iL1000, iL3000, iL9999999, lL1000, h1, h2, es, nI_l, lN_mul, if_pos q]
  · simp (disch := omega) only [mg_in, if10, if00, if_true, if_false, nI_1, nI_s1, mn_e, mb1_v, mb2_v, mb3_v, mb4_v, nI_clamp, nI_add, pk_mul, if_leT, if_leF, if_ltT, if_ltF, if_eqT, if_eqF, if_m1F, if_m1F2, if_m1T, if_m1ltT, if_m1leT, if_m1leF, if_m1ltF, if_e1T, if_e1F, if_1eT, if_1eF, if_le1T, if_le1F, if_1ltT, if_1ltF, iL0, iL2, iL3, iL4, iL5, iL6, iL7, iL8, iL9, iL10, iL20, iL21, iL22, iL31, iL32, iL40, iL46, iL48, iL57, iL64, iL65, iL80, iL81, iL90, iL96, iL97, iL100, iL122, iL126, iL127, iL500, iL1000, iL3000, iL9999999, lL1000, h1, h2, nI_l, lN_add, lN_mul, if_neg q]
theorem thick_sim {F h L C c nv : Nat} {hs : Bool} {X Y U V : Nat → Nat} {bk : Nat → Int32} {bn : Nat → Int64} {bh bd bu bY pf pl vf vl Ml Mk : Nat → Int32} {Mn : Nat → Int64} {Mz : Nat → Int32} {Mt : Nat → Int64} {Msp Mcop Mca Mpr Mpf Mpt Mvi Mvf Mvt : Nat → Int32} {x y z thr : Int32} {a : Nat → Int64} (hF : 4000 ≤ F) (W : QW hs h L C c nv X Y U V bk bn bh bd bu bY pf pl vf vl Ml Mk Mn Mz Mt Msp Mcop Mca Mpr Mpf Mpt Mvi Mvf Mvt) :
    qL (f_L_thick F x y z bk bh bd (nI L) a) (f_X7_thick F x y z thr (bI hs) (nI h) Ml Mk Mt Msp) := by
  obtain ⟨B, ⟨hl, hcop, hr, hvr⟩, PV0, c21, R0, R1, hnv, V0, V1, h0, h1⟩ := W
  obtain ⟨hh, hL, hC⟩ := B.1
  unfold f_L_thick f_X6_thick f_X7_thick
  have st1 : g_X7_thick_50 F x y z 1 thr (nI h) Mt Msp = some (0, 1) := by
    unfold g_X7_thick_50
    rw [if10]
  have st2 : g_X7_thick_50 F x y z 2 thr (nI h) Mt Msp = some (0, 2) := by
    unfold g_X7_thick_50
    rw [if_neg (by decide)]
  rcases pk_ix x (n := L) (by omega) with q | q | ⟨j, q1, q2⟩
  · rw [rqL_b (Or.inl q), isL_b hh hl (Or.inl q), st1]
    exact ⟨1, 0, a, rfl, rfl, fun e => absurd e (by decide)⟩
  · rw [rqL_b (Or.inr q), isL_b hh hl (Or.inr q), st1]
    exact ⟨1, 0, a, rfl, rfl, fun e => absurd e (by decide)⟩
  · subst q2
    rw [rqL_o q1 (by omega), isL_o hh hl q1 (by omega) (fun e => (h0 e).1), mb1_v, mb1_v, if_pos rfl, if10, st1, st2]
    rcases ep_cases F y z with ⟨a1, a2⟩ | ⟨e, p, e1, p1, e2, p2, a1, a2, a3⟩
    · rw [a1]
      rcases a2 with a2 | ⟨a2, a3⟩
      · rw [a2]
        exact ⟨1, 0, a, rfl, rfl, fun e => absurd e (by decide)⟩
      · rw [a2, a3]
        exact ⟨1, 0, a, rfl, rfl, fun e => absurd e (by decide)⟩
    · rw [a1, a2, a3, mb1_v, mb1_v, mb1_v, if_pos rfl, if10, if10]
      obtain ⟨b1, b2, b3, b4, ⟨kd, k1, k2⟩, _, ⟨T, t1, t2⟩, ⟨D, d1, d2⟩, _⟩ := B.2.1 j q1
      subst e2 p2
      have eT := eoT_ok (F := F) (j := j) (e := e) (bh := bh) (bd := bd) (by omega) e1 t2 d2 t1 d1
      have eM := eoM_ok (F := F) (h := h) (j := j) (e := e) (Mt := Mt) (Msp := Msp) hh (by omega) e1 (by rw [b3, t2, nI_l (by omega)]) (by rw [b4, d2]) t1 d1
      have hb : T * (if e = 0 then 1000 - D else 1000 + D) < 2 ^ 63 := by
        have h9 : (if e = 0 then 1000 - D else 1000 + D) ≤ 1500 := by split <;> omega
        have := Nat.mul_le_mul t1 h9
        omega
      obtain ⟨zz, z1, z2⟩ := part_sim (F := F) (b := 1000) (p := p) hF hb (by omega) (by omega) p1
      unfold g_X7_thick_50
      by_cases q4 : kd = 4
      · simp (disch := omega) only [mg_in, if10, if00, if_true, if_false, nI_1, nI_s1, mn_e, mb1_v, mb2_v, mb3_v, mb4_v, nI_clamp, nI_add, pk_mul, if_leT, if_leF, if_ltT, if_ltF, if_eqT, if_eqF, if_m1F, if_m1F2, if_m1T, if_m1ltT, if_m1leT, if_m1leF, if_m1ltF, if_e1T, if_e1F, if_1eT, if_1eF, if_le1T, if_le1F, if_1ltT, if_1ltF, iL0, iL2, iL3, iL4, iL5, iL6, iL7, iL8, iL9, iL10, iL20, iL21, iL22, iL31, iL32, iL40, iL46, iL48, iL57, iL64, iL65, iL80, iL81, iL90, iL96, iL97, iL100, iL122, iL126, iL127, iL500, iL1000, iL3000, iL9999999, b1, k2, mb2_v]
        exact ⟨2, 0, a, rfl, rfl, fun e => absurd e (by decide)⟩
      · simp (disch := omega) only [mg_in, if10, if00, if_true, if_false, nI_1, nI_s1, mn_e, mb1_v, mb2_v, mb3_v, mb4_v, nI_clamp, nI_add, pk_mul, if_leT, if_leF, if_ltT, if_ltF, if_eqT, if_eqF, if_m1F, if_m1F2, if_m1T, if_m1ltT, if_m1leT, if_m1leF, if_m1ltF, if_e1T, if_e1F, if_1eT, if_1eF, if_le1T, if_le1F, if_1ltT, if_1ltF, iL0, iL2, iL3, iL4, iL5, iL6, iL7, iL8, iL9, iL10, iL20, iL21, iL22, iL31, iL32, iL40, iL46, iL48, iL57, iL64, iL65, iL80, iL81, iL90, iL96, iL97, iL100, iL122, iL126, iL127, iL500, iL1000, iL3000, iL9999999, b1, k2, eT, eM, lL1000, z1, z2, mb2_v, in01, if_pos]
        exact ⟨0, zz, _, rfl, rfl, fun _ => up0⟩
def SHR (L C : Nat) (bk br bY Msh : Nat → Int32) : Prop := (∀ k, k < L → ¬ bk k = nI 0 → br k = nI 1000) ∧ ∀ k l, k < C → bY k = nI l → l < 80 → ∃ q, q ≤ 1000 ∧ br l = nI q ∧ Msh k = nI q
theorem shr_at {h L C j : Nat} {bk : Nat → Int32} {bn : Nat → Int64} {bh bd br bu bY : Nat → Int32} {Mk : Nat → Int32} {Mn : Nat → Int64} {Mz : Nat → Int32} {Mt : Nat → Int64} {Msp Mca Msh : Nat → Int32} (B : BR h L C bk bn bh bd bu bY Mk Mn Mz Mt Msp Mca) (S : SHR L C bk br bY Msh) (hj : j < L) : ∃ q, q ≤ 1000 ∧ br j = nI q ∧ ((bk j = nI 0 ∧ ∃ c, c < C ∧ bu j = nI c ∧ Msh c = nI q) ∨ (¬ bk j = nI 0 ∧ q = 1000)) := by
  have hL := B.1.2.1
  rcases B.2.2.2 j hj with ⟨a1, c, a2, a3, a4⟩ | ⟨a1, a2⟩
  · obtain ⟨q, q1, q2, q3⟩ := S.2 c j a2 a4 (by omega)
    exact ⟨q, q1, q2, Or.inl ⟨a1, c, a2, a3, q3⟩⟩
  · exact ⟨1000, by omega, S.1 j hj a1, Or.inr ⟨a1, rfl⟩⟩
theorem sum_loop {F h L C c nv : Nat} {hs : Bool} {X Y U V : Nat → Nat} {bk : Nat → Int32} {bn : Nat → Int64} {bh bd bu bY pf pl vf vl Ml Mk : Nat → Int32} {Mn : Nat → Int64} {Mz : Nat → Int32} {Mt : Nat → Int64} {Msp Mcop Mca Mpr Mpf Mpt Mvi Mvf Mvt : Nat → Int32} {e p thr : Nat} {br Msh : Nat → Int32} (hF : 4000 ≤ F) (W : QW hs h L C c nv X Y U V bk bn bh bd bu bY pf pl vf vl Ml Mk Mn Mz Mt Msp Mcop Mca Mpr Mpf Mpt Mvi Mvf Mvt) (S : SHR L C bk br bY Msh) (ht : hs = true) (he : e ≤ 1) :
    ∀ (r j acc fu1 fu2 : Nat), j + r = L → acc + r * 15000000000000 < 2 ^ 62 → r < fu1 → r < fu2 → ∃ s, s < 2 ^ 62 ∧ g_X0_sumInMillionths_5 F fu1 (nI e) (lN acc) (nI j) bh bd br (nI L) = some (lN s) ∧ g_X7_sum_37 F fu2 (nI e) (nI p) (lN acc) (nI j) (nI thr) (bI hs) (nI h) Ml Mk Mt Msp Mcop Mca Msh = mb1 (f_X7_partOf F (lN s) (1000000 : Int64) (nI p)) (fun r_6 => some (r_6, nI thr)) := by
  obtain ⟨B, ⟨hl, hcop, hr, hvr⟩, PV0, c21, R0, R1, hnv, V0, V1, h0, h1⟩ := W
  obtain ⟨hh, hL, hC⟩ := B.1
  subst ht
  intro r
  induction r with
  | zero =>
    intro j acc fu1 fu2 hj hb f1 f2
    obtain ⟨fu1, rfl⟩ : ∃ z, fu1 = z + 1 := ⟨fu1 - 1, by omega⟩
    obtain ⟨fu2, rfl⟩ : ∃ z, fu2 = z + 1 := ⟨fu2 - 1, by omega⟩
    refine ⟨acc, by omega, ?_, ?_⟩
    · rw [g_X0_sumInMillionths_5_s, if_leT (by omega) (by omega)]
    · rw [g_X7_sum_37_s, bI_t]
      simp (disch := omega) only [mg_in, if10, if00, if_true, if_false, nI_1, nI_s1, mn_e, mb1_v, mb2_v, mb3_v, mb4_v, nI_clamp, nI_add, pk_mul, if_leT, if_leF, if_ltT, if_ltF, if_eqT, if_eqF, if_m1F, if_m1F2, if_m1T, if_m1ltT, if_m1leT, if_m1leF, if_m1ltF, if_e1T, if_e1F, if_1eT, if_1eF, if_le1T, if_le1F, if_1ltT, if_1ltF, iL0, iL2, iL3, iL4, iL5, iL6, iL7, iL8, iL9, iL10, iL20, iL21, iL22, iL31, iL32, iL40, iL46, iL48, iL57, iL64, iL65, iL80, iL81, iL90, iL96, iL97, iL100, iL122, iL126, iL127, iL500, iL1000, iL3000, iL9999999, hl]
  | succ r ih =>
    intro j acc fu1 fu2 hj hb f1 f2
    obtain ⟨fu1, rfl⟩ : ∃ z, fu1 = z + 1 := ⟨fu1 - 1, by omega⟩
    obtain ⟨fu2, rfl⟩ : ∃ z, fu2 = z + 1 := ⟨fu2 - 1, by omega⟩
    obtain ⟨b1, b2, b3, b4, ⟨kd, k1, k2⟩, _, ⟨T, t1, t2⟩, ⟨D, d1, d2⟩, _⟩ := B.2.1 j (by omega)
    have eT := eoT_ok (F := F) (j := j) (e := e) (bh := bh) (bd := bd) (by omega) he t2 d2 t1 d1
    have eM := eoM_ok (F := F) (h := h) (j := j) (e := e) (Mt := Mt) (Msp := Msp) hh (by omega) he (by rw [b3, t2, nI_l (by omega)]) (by rw [b4, d2]) t1 d1
    obtain ⟨q, q1, q2, q3⟩ := shr_at B S (show j < L by omega)
    have hb2 : T * (if e = 0 then 1000 - D else 1000 + D) * q ≤ 15000000000000 := by
      have h9 : (if e = 0 then 1000 - D else 1000 + D) ≤ 1500 := by split <;> omega
      have := Nat.mul_le_mul (Nat.mul_le_mul t1 h9) q1
      omega
    obtain ⟨s, s1, s2, s3⟩ := ih (j + 1) (acc + T * (if e = 0 then 1000 - D else 1000 + D) * q) fu1 fu2 (by omega) (by omega) (by omega) (by omega)
    refine ⟨s, s1, ?_, ?_⟩
    · rw [g_X0_sumInMillionths_5_s]
      simp (disch := omega) only [mg_in, if10, if00, if_true, if_false, nI_1, nI_s1, mn_e, mb1_v, mb2_v, mb3_v, mb4_v, nI_clamp, nI_add, pk_mul, if_leT, if_leF, if_ltT, if_ltF, if_eqT, if_eqF, if_m1F, if_m1F2, if_m1T, if_m1ltT, if_m1leT, if_m1leF, if_m1ltF, if_e1T, if_e1F, if_1eT, if_1eF, if_le1T, if_le1F, if_1ltT, if_1ltF, iL0, iL2, iL3, iL4, iL5, iL6, iL7, iL8, iL9, iL10, iL20, iL21, iL22, iL31, iL32, iL40, iL46, iL48, iL57, iL64, iL65, iL80, iL81, iL90, iL96, iL97, iL100, iL122, iL126, iL127, iL500, iL1000, iL3000, iL9999999, eT, q2, nI_l, lN_mul, lN_add, s2]
    · rw [bI_t] at s3 ⊢
      rw [g_X7_sum_37_s]
      rcases q3 with ⟨w1, c', w2, w3, w4⟩ | ⟨w1, w2⟩
      · have hc := cof_ok (F := F) (j := j) hF B hcop (by omega)
        simp (disch := omega) only [mg_in, if10, if00, if_true, if_false, nI_1, nI_s1, mn_e, mb1_v, mb2_v, mb3_v, mb4_v, nI_clamp, nI_add, pk_mul, if_leT, if_leF, if_ltT, if_ltF, if_eqT, if_eqF, if_m1F, if_m1F2, if_m1T, if_m1ltT, if_m1leT, if_m1leF, if_m1ltF, if_e1T, if_e1F, if_1eT, if_1eF, if_le1T, if_le1F, if_1ltT, if_1ltF, iL0, iL2, iL3, iL4, iL5, iL6, iL7, iL8, iL9, iL10, iL20, iL21, iL22, iL31, iL32, iL40, iL46, iL48, iL57, iL64, iL65, iL80, iL81, iL90, iL96, iL97, iL100, iL122, iL126, iL127, iL500, iL1000, iL3000, iL9999999, hl, eM, b1, w1, hc, w3, w4, nI_l, lN_mul, lN_add, s3]
      · subst w2
        simp (disch := omega) only [mg_in, if10, if00, if_true, if_false, nI_1, nI_s1, mn_e, mb1_v, mb2_v, mb3_v, mb4_v, nI_clamp, nI_add, pk_mul, if_leT, if_leF, if_ltT, if_ltF, if_eqT, if_eqF, if_m1F, if_m1F2, if_m1T, if_m1ltT, if_m1leT, if_m1leF, if_m1ltF, if_e1T, if_e1F, if_1eT, if_1eF, if_le1T, if_le1F, if_1ltT, if_1ltF, iL0, iL2, iL3, iL4, iL5, iL6, iL7, iL8, iL9, iL10, iL20, iL21, iL22, iL31, iL32, iL40, iL46, iL48, iL57, iL64, iL65, iL80, iL81, iL90, iL96, iL97, iL100, iL122, iL126, iL127, iL500, iL1000, iL3000, iL9999999, hl, eM, b1, if_neg w1, lL1000, lN_mul, lN_add, s3]
theorem sum_sim {F h L C c nv : Nat} {hs : Bool} {X Y U V : Nat → Nat} {bk : Nat → Int32} {bn : Nat → Int64} {bh bd bu bY pf pl vf vl Ml Mk : Nat → Int32} {Mn : Nat → Int64} {Mz : Nat → Int32} {Mt : Nat → Int64} {Msp Mcop Mca Mpr Mpf Mpt Mvi Mvf Mvt : Nat → Int32} {x y thr : Int32} {a : Nat → Int64} {br Msh : Nat → Int32} (hF : 4000 ≤ F) (W : QW hs h L C c nv X Y U V bk bn bh bd bu bY pf pl vf vl Ml Mk Mn Mz Mt Msp Mcop Mca Mpr Mpf Mpt Mvi Mvf Mvt) (S : SHR L C bk br bY Msh) :
    qL (f_L_sum F x y bh bd br (nI L) a) (f_X7_sum F x y thr (bI hs) (nI h) Ml Mk Mt Msp Mcop Mca Msh) := by
  have W2 := W
  obtain ⟨B, ⟨hl, hcop, hr, hvr⟩, PV0, c21, R0, R1, hnv, V0, V1, h0, h1⟩ := W2
  obtain ⟨hh, hL, hC⟩ := B.1
  unfold f_L_sum f_X6_sum f_X7_sum
  rcases ep_cases F x y with ⟨a1, a2⟩ | ⟨e, p, e1, p1, e2, p2, a1, a2, a3⟩
  · rw [a1]
    rcases a2 with a2 | ⟨a2, a3⟩
    · rw [a2]
      exact ⟨1, 0, a, rfl, rfl, fun e => absurd e (by decide)⟩
    · rw [a2, a3]
      exact ⟨1, 0, a, rfl, rfl, fun e => absurd e (by decide)⟩
  · rw [a1, a2, a3, mb1_v, mb1_v, mb1_v, if_pos rfl, if10, if10]
    subst e2 p2
    unfold f_X0_sumInMillionths
    cases hs with
    | false =>
      obtain ⟨l0, _⟩ := h0 rfl
      subst l0
      have hc : ∀ G, 1 ≤ G → g_X0_sumInMillionths_5 F G (nI e) 0 0 bh bd br (nI 0) = some (lN 0) := by
        intro G hG
        obtain ⟨fu, rfl⟩ : ∃ z, G = z + 1 := ⟨G - 1, by omega⟩
        rw [g_X0_sumInMillionths_5_s, if_pos (by decide)]
        rfl
      have hm : ∀ G, 1 ≤ G → g_X7_sum_37 F G (nI e) (nI p) 0 0 0 (bI false) (nI h) Ml Mk Mt Msp Mcop Mca Msh = mb1 (f_X7_partOf F (lN 0) (1000000 : Int64) (nI p)) (fun r_6 => some (r_6, 0)) := by
        intro G hG
        obtain ⟨fu, rfl⟩ : ∃ z, G = z + 1 := ⟨G - 1, by omega⟩
        rw [g_X7_sum_37_s, bI_f, if00]
        rfl
      obtain ⟨zz, z1, z2⟩ := part_sim (F := F) (a := 0) (b := 1000000) (p := p) hF (by omega) (by omega) (by omega) p1
      rw [hc F (by omega), hm F (by omega), mb1_v, lL1000000, z1, z2, mb1_v, mb1_v, mb2_v, if_pos rfl, in01]
      exact ⟨0, zz, _, rfl, rfl, fun _ => up0⟩
    | true =>
      obtain ⟨s, s1, s2, s3⟩ := sum_loop (F := F) (e := e) (p := p) (thr := 0) hF W S rfl e1 L 0 0 F F (by omega) (by omega) (by omega) (by omega)
      obtain ⟨zz, z1, z2⟩ := part_sim (F := F) (a := s) (b := 1000000) (p := p) hF (by omega) (by omega) (by omega) p1
      rw [show g_X0_sumInMillionths_5 F F (nI e) 0 0 bh bd br (nI L) = _ from s2, mb1_v, show g_X7_sum_37 F F (nI e) (nI p) 0 0 0 (bI true) (nI h) Ml Mk Mt Msp Mcop Mca Msh = _ from s3, lL1000000, z1, z2, mb1_v, mb1_v, mb2_v, if_pos rfl, in01]
      exact ⟨0, zz, _, rfl, rfl, fun _ => up0⟩
