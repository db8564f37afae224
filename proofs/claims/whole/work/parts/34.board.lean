def LOK (kd : Int32) (nm : Int64) (sz th sp : Int32) : Prop := (∃ q, q ≤ 4 ∧ kd = nI q) ∧ (∃ m, sz = nI m ∧ NM nm m) ∧ (∃ t, t ≤ 9999999 ∧ th = nI t) ∧ (∃ d, d ≤ 500 ∧ sp = nI d) ∧ (kd = nI 4 → th = nI 0 ∧ sp = nI 0)
def BR (s L C : Nat) (bk : Nat → Int32) (bn : Nat → Int64) (bh bd bu bY : Nat → Int32) (Mk : Nat → Int32) (Mn : Nat → Int64) (Mz : Nat → Int32) (Mt : Nat → Int64) (Msp Mca : Nat → Int32) : Prop :=
  (s ≤ 1 ∧ L ≤ 80 ∧ C ≤ 32) ∧
  (∀ k, k < L → Mk (80 * s + k) = bk k ∧ Mn (80 * s + k) = bn k ∧ Mt (80 * s + k) = (bh k).toInt64 ∧ Msp (80 * s + k) = bd k ∧ LOK (bk k) (bn k) (Mz (80 * s + k)) (bh k) (bd k)) ∧
  (∀ c, c < C → Mca (32 * s + c) = bY c ∧ ∃ l, l < L ∧ bY c = nI l ∧ bk l = nI 0 ∧ bu l = nI c) ∧
  (∀ k, k < L → (bk k = nI 0 ∧ ∃ c, c < C ∧ bu k = nI c ∧ bY c = nI k) ∨ (¬ bk k = nI 0 ∧ bu k = -1))
theorem cop_loop {F s L C m : Nat} {v : Int64} {bk : Nat → Int32} {bn : Nat → Int64} {bh bd bu bY : Nat → Int32} {Mk : Nat → Int32} {Mn : Nat → Int64} {Mz : Nat → Int32} {Mt : Nat → Int64} {Msp Mca Mcop : Nat → Int32} (B : BR s L C bk bn bh bd bu bY Mk Mn Mz Mt Msp Mca) (hC : Mcop s = nI C) (hv : NM v m) :
    ∀ (r c fu1 fu2 : Nat), c + r = C → r < fu1 → r < fu2 → ∃ z, g_X0_findCopper_2 F fu1 v (nI c) bn bY (nI C) = some z ∧ g_X7_copperNamed_2 F fu2 (nI c) Mn Mz Mcop Mca (nI s) v (nI m) = some z ∧ (z = -1 ∨ ∃ j, j < C ∧ z = nI j) := by
  obtain ⟨⟨hs, hL, hC2⟩, hl, hc, _⟩ := B
  intro r
  induction r with
  | zero =>
    intro c fu1 fu2 he h1 h2
    obtain ⟨fu1, rfl⟩ : ∃ z, fu1 = z + 1 := ⟨fu1 - 1, by omega⟩
    obtain ⟨fu2, rfl⟩ : ∃ z, fu2 = z + 1 := ⟨fu2 - 1, by omega⟩
    refine ⟨-1, ?_, ?_, Or.inl rfl⟩
    · rw [g_X0_findCopper_2_s, if_leT (by omega) (by omega)]
    · rw [g_X7_copperNamed_2_s, mg_in (by omega) (by omega), nI_clamp (by omega), hC, if_leT (by omega) (by omega)]
  | succ r ih =>
    intro c fu1 fu2 he h1 h2
    obtain ⟨fu1, rfl⟩ : ∃ z, fu1 = z + 1 := ⟨fu1 - 1, by omega⟩
    obtain ⟨fu2, rfl⟩ : ∃ z, fu2 = z + 1 := ⟨fu2 - 1, by omega⟩
    obtain ⟨hca, l, hl1, hl2, hl3, hl4⟩ := hc c (by omega)
    obtain ⟨_, hn2, _, _, _, ⟨m2, hm2, hm3⟩, _⟩ := hl l hl1
    obtain ⟨z, z1, z2, z3⟩ := ih (c + 1) fu1 fu2 (by omega) (by omega) (by omega)
    have hA : g_X0_findCopper_2 F (fu1 + 1) v (nI c) bn bY (nI C) = (if bn l = v then some (nI c) else some z) := by
      rw [g_X0_findCopper_2_s]
      simp (disch := omega) only [mg_in, if10, if00, if_true, if_false, nI_1, nI_s1, mn_e, mb1_v, mb2_v, mb3_v, mb4_v, nI_clamp, nI_add, pk_mul, if_leT, if_leF, if_ltT, if_ltF, if_eqT, if_eqF, if_m1F, if_m1F2, if_m1T, if_m1ltT, if_m1leT, if_m1leF, if_m1ltF, if_e1T, if_e1F, if_1eT, if_1eF, if_le1T, if_le1F, if_1ltT, if_1ltF, iL0, iL2, iL3, iL4, iL5, iL6, iL7, iL8, iL9, iL10, iL20, iL21, iL22, iL31, iL32, iL40, iL46, iL48, iL57, iL64, iL65, iL80, iL81, iL90, iL96, iL97, iL100, iL122, iL126, iL127, iL500, iL1000, iL3000, iL9999999, hl2, z1, lgE]
    have hM : g_X7_copperNamed_2 F (fu2 + 1) (nI c) Mn Mz Mcop Mca (nI s) v (nI m) = (if bn l = v then (if nI m2 = nI m then some (nI c) else some z) else some z) := by
      rw [g_X7_copperNamed_2_s]
      unfold f_X7_layerAt
      simp (disch := omega) only [mg_in, if10, if00, if_true, if_false, nI_1, nI_s1, mn_e, mb1_v, mb2_v, mb3_v, mb4_v, nI_clamp, nI_add, pk_mul, if_leT, if_leF, if_ltT, if_ltF, if_eqT, if_eqF, if_m1F, if_m1F2, if_m1T, if_m1ltT, if_m1leT, if_m1leF, if_m1ltF, if_e1T, if_e1F, if_1eT, if_1eF, if_le1T, if_le1F, if_1ltT, if_1ltF, iL0, iL2, iL3, iL4, iL5, iL6, iL7, iL8, iL9, iL10, iL20, iL21, iL22, iL31, iL32, iL40, iL46, iL48, iL57, iL64, iL65, iL80, iL81, iL90, iL96, iL97, iL100, iL122, iL126, iL127, iL500, iL1000, iL3000, iL9999999, hC, hca, hl2, hn2, hm2, z2, lgE]
    rw [hA, hM]
    by_cases hq : bn l = v
    · have e := NM_same (by rw [hq] at hm3; exact hm3) hv
      rw [if_pos hq, if_pos hq, if_eqT e]
      exact ⟨nI c, rfl, rfl, Or.inr ⟨c, by omega, rfl⟩⟩
    · rw [if_neg hq, if_neg hq]
      exact ⟨z, rfl, rfl, z3⟩
theorem cop_sim {F s L C m : Nat} {v : Int64} {bk : Nat → Int32} {bn : Nat → Int64} {bh bd bu bY : Nat → Int32} {Mk : Nat → Int32} {Mn : Nat → Int64} {Mz : Nat → Int32} {Mt : Nat → Int64} {Msp Mca Mcop : Nat → Int32} (hF : 4000 ≤ F) (B : BR s L C bk bn bh bd bu bY Mk Mn Mz Mt Msp Mca) (hC : Mcop s = nI C) (hv : NM v m) :
    ∃ z, f_X0_findCopper F v bn bY (nI C) = some z ∧ f_X7_copperNamed F Mn Mz Mcop Mca (nI s) v (nI m) = some z ∧ (z = -1 ∨ ∃ j, j < C ∧ z = nI j) := by
  have hC3 := B.1.2.2
  exact cop_loop (F := F) B hC hv C 0 F F (by omega) (by omega) (by omega)
def ins (bk : Nat → Int32) : Nat → Bool
  | 0 => false
  | n + 1 => if bk n = nI 0 then false else if bk n = nI 1 then true else if bk n = nI 2 then true else ins bk n
def bI (b : Bool) : Int32 := if b = true then 1 else 0
theorem bI_t : bI true = 1 := rfl
theorem bI_f : bI false = 0 := rfl
theorem ins_same {f g : Nat → Int32} : ∀ (n : Nat), (∀ k, k < n → f k = g k) → ins f n = ins g n := by
  intro n
  induction n with
  | zero => intro _; rfl
  | succ n ih =>
    intro h
    rw [ins, ins, h n (by omega), ih (fun k hk => h k (by omega))]
theorem g212 {F s C : Nat} {Mcop : Nat → Int32} {b : Bool} (hs : s ≤ 1) (hC : C ≤ 32) (h : Mcop s = nI C) : g_X7_mayStand_212 F (bI b) Mcop (nI s) = some (if b = true then if C < 32 then 1 else 0 else 0) := by
  unfold g_X7_mayStand_212
  rw [mg_in (by omega) (by omega), nI_clamp (by omega), h, iL32]
  cases b with
  | false => rfl
  | true =>
    by_cases q : C < 32
    · rw [if_leF q (by omega), if_pos rfl, if_pos q]; rfl
    · rw [if_leT (by omega) (by omega), if_pos rfl, if_neg q]; rfl
theorem g145 {F s L C : Nat} {bk : Nat → Int32} {bn : Nat → Int64} {bh bd bu bY : Nat → Int32} {Mk : Nat → Int32} {Mn : Nat → Int64} {Mz : Nat → Int32} {Mt : Nat → Int64} {Msp Mca Mcop : Nat → Int32} (B : BR s L C bk bn bh bd bu bY Mk Mn Mz Mt Msp Mca) :
    ∀ (k fu : Nat) (b : Bool), k ≤ L → k < fu → g_X7_mayStand_145 F fu (bI b) (nI k + (-1)) Mk Mcop (nI s) = g_X7_mayStand_212 F (bI (b || ins bk k)) Mcop (nI s) := by
  obtain ⟨⟨hs, hL, hC2⟩, hl, hc, _⟩ := B
  intro k
  induction k with
  | zero =>
    intro fu b _ hf
    obtain ⟨fu, rfl⟩ : ∃ z, fu = z + 1 := ⟨fu - 1, by omega⟩
    rw [g_X7_mayStand_145_s, if_pos (by decide), ins, Bool.or_false]
  | succ k ih =>
    intro fu b hk hf
    obtain ⟨fu, rfl⟩ : ∃ z, fu = z + 1 := ⟨fu - 1, by omega⟩
    have e := (hl k (by omega)).1
    have i1 := ih fu true (by omega) (by omega)
    have i0 := ih fu false (by omega) (by omega)
    rw [Bool.true_or, bI_t] at i1
    rw [Bool.false_or, bI_f, iL0] at i0
    rw [g_X7_mayStand_145_s, ins]
    unfold f_X7_layerAt
    by_cases h0 : bk k = nI 0
    · simp (disch := omega) only [mg_in, if10, if00, if_true, if_false, nI_1, nI_s1, mn_e, mb1_v, mb2_v, mb3_v, mb4_v, nI_clamp, nI_add, pk_mul, if_leT, if_leF, if_ltT, if_ltF, if_eqT, if_eqF, if_m1F, if_m1F2, if_m1T, if_m1ltT, if_m1leT, if_m1leF, if_m1ltF, if_e1T, if_e1F, if_1eT, if_1eF, if_le1T, if_le1F, if_1ltT, if_1ltF, iL0, iL2, iL3, iL4, iL5, iL6, iL7, iL8, iL9, iL10, iL20, iL21, iL22, iL31, iL32, iL40, iL46, iL48, iL57, iL64, iL65, iL80, iL81, iL90, iL96, iL97, iL100, iL122, iL126, iL127, iL500, iL1000, iL3000, iL9999999, pk_m1, e, h0, Bool.or_false]
    · cases b with
      | true => simp (disch := omega) only [mg_in, if10, if00, if_true, if_false, nI_1, nI_s1, mn_e, mb1_v, mb2_v, mb3_v, mb4_v, nI_clamp, nI_add, pk_mul, if_leT, if_leF, if_ltT, if_ltF, if_eqT, if_eqF, if_m1F, if_m1F2, if_m1T, if_m1ltT, if_m1leT, if_m1leF, if_m1ltF, if_e1T, if_e1F, if_1eT, if_1eF, if_le1T, if_le1F, if_1ltT, if_1ltF, iL0, iL2, iL3, iL4, iL5, iL6, iL7, iL8, iL9, iL10, iL20, iL21, iL22, iL31, iL32, iL40, iL46, iL48, iL57, iL64, iL65, iL80, iL81, iL90, iL96, iL97, iL100, iL122, iL126, iL127, iL500, iL1000, iL3000, iL9999999, pk_m1, e, h0, i1, bI_t, Bool.true_or]
      | false =>
        by_cases h1 : bk k = nI 1
        · simp (disch := omega) only [mg_in, if10, if00, if_true, if_false, nI_1, nI_s1, mn_e, mb1_v, mb2_v, mb3_v, mb4_v, nI_clamp, nI_add, pk_mul, if_leT, if_leF, if_ltT, if_ltF, if_eqT, if_eqF, if_m1F, if_m1F2, if_m1T, if_m1ltT, if_m1leT, if_m1leF, if_m1ltF, if_e1T, if_e1F, if_1eT, if_1eF, if_le1T, if_le1F, if_1ltT, if_1ltF, iL0, iL2, iL3, iL4, iL5, iL6, iL7, iL8, iL9, iL10, iL20, iL21, iL22, iL31, iL32, iL40, iL46, iL48, iL57, iL64, iL65, iL80, iL81, iL90, iL96, iL97, iL100, iL122, iL126, iL127, iL500, iL1000, iL3000, iL9999999, pk_m1, e, h1, i1, bI_t, bI_f, Bool.true_or, Bool.false_or]
        · by_cases h2 : bk k = nI 2
          · simp (disch := omega) only [mg_in, if10, if00, if_true, if_false, nI_1, nI_s1, mn_e, mb1_v, mb2_v, mb3_v, mb4_v, nI_clamp, nI_add, pk_mul, if_leT, if_leF, if_ltT, if_ltF, if_eqT, if_eqF, if_m1F, if_m1F2, if_m1T, if_m1ltT, if_m1leT, if_m1leF, if_m1ltF, if_e1T, if_e1F, if_1eT, if_1eF, if_le1T, if_le1F, if_1ltT, if_1ltF, iL0, iL2, iL3, iL4, iL5, iL6, iL7, iL8, iL9, iL10, iL20, iL21, iL22, iL31, iL32, iL40, iL46, iL48, iL57, iL64, iL65, iL80, iL81, iL90, iL96, iL97, iL100, iL122, iL126, iL127, iL500, iL1000, iL3000, iL9999999, pk_m1, e, h2, i1, bI_t, bI_f, Bool.true_or, Bool.false_or]
          · have h1' : ¬ bk k = 1 := h1
            simp (disch := omega) only [mg_in, if10, if00, if_true, if_false, nI_1, nI_s1, mn_e, mb1_v, mb2_v, mb3_v, mb4_v, nI_clamp, nI_add, pk_mul, if_leT, if_leF, if_ltT, if_ltF, if_eqT, if_eqF, if_m1F, if_m1F2, if_m1T, if_m1ltT, if_m1leT, if_m1leF, if_m1ltF, if_e1T, if_e1F, if_1eT, if_1eF, if_le1T, if_le1F, if_1ltT, if_1ltF, iL0, iL2, iL3, iL4, iL5, iL6, iL7, iL8, iL9, iL10, iL20, iL21, iL22, iL31, iL32, iL40, iL46, iL48, iL57, iL64, iL65, iL80, iL81, iL90, iL96, iL97, iL100, iL122, iL126, iL127, iL500, iL1000, iL3000, iL9999999, pk_m1, e, h0, h1, h1', h2, i0, bI_t, bI_f, Bool.true_or, Bool.false_or]
def tk (L C np nv kd : Nat) (last : Int32) (i : Bool) : Bool :=
  if 80 ≤ L then false else if 0 < np then false else if 0 < nv then false else if L = 0 then (if kd = 3 then true else if kd = 0 then true else false)
  else if last = nI 3 then (if L = 1 then (if kd = 0 then true else false) else false) else if kd = 3 then (if last = nI 0 then true else false) else if kd = 0 then (if i = true then (if 32 ≤ C then false else true) else false) else true
theorem if_bI {c : Prop} [Decidable c] {x y : Bool} : bI (if c then x else y) = if c then bI x else bI y := by split <;> rfl
theorem if_so {c : Prop} [Decidable c] {x y : Int32} : some (if c then x else y) = if c then some x else some y := by split <;> rfl
theorem cond_bI {b : Bool} : (bI b = nI 0) ↔ ¬ b = true := by cases b <;> decide
theorem one_nI : (1 : Int32) = nI 1 := by decide
theorem take_C {F L C kd np nv : Nat} {psc pt : Int32} {bk : Nat → Int32} {i : Bool} (hL : L ≤ 80) (hC : C ≤ 32) (hnp : np ≤ 20) (hnv : nv ≤ 40) (hkd : kd ≤ 4) (ht : f_X2_countTold F psc pt = some (nI np)) :
    f_X0_canTake F (nI kd) bk psc pt (nI nv) (nI L) (nI C) (bI i) = some (bI (tk L C np nv kd (bk (L - 1)) i)) := by
  unfold f_X0_canTake tk
  by_cases h80 : 80 ≤ L
  · simp (disch := omega) only [mg_in, if10, if00, if_true, if_false, nI_1, nI_s1, mn_e, mb1_v, mb2_v, mb3_v, mb4_v, nI_clamp, nI_add, pk_mul, if_leT, if_leF, if_ltT, if_ltF, if_eqT, if_eqF, if_m1F, if_m1F2, if_m1T, if_m1ltT, if_m1leT, if_m1leF, if_m1ltF, if_e1T, if_e1F, if_1eT, if_1eF, if_le1T, if_le1F, if_1ltT, if_1ltF, iL0, iL2, iL3, iL4, iL5, iL6, iL7, iL8, iL9, iL10, iL20, iL21, iL22, iL31, iL32, iL40, iL46, iL48, iL57, iL64, iL65, iL80, iL81, iL90, iL96, iL97, iL100, iL122, iL126, iL127, iL500, iL1000, iL3000, iL9999999, if_pos h80, bI_f]
  by_cases hp : 0 < np
  · simp (disch := omega) only [mg_in, if10, if00, if_true, if_false, nI_1, nI_s1, mn_e, mb1_v, mb2_v, mb3_v, mb4_v, nI_clamp, nI_add, pk_mul, if_leT, if_leF, if_ltT, if_ltF, if_eqT, if_eqF, if_m1F, if_m1F2, if_m1T, if_m1ltT, if_m1leT, if_m1leF, if_m1ltF, if_e1T, if_e1F, if_1eT, if_1eF, if_le1T, if_le1F, if_1ltT, if_1ltF, iL0, iL2, iL3, iL4, iL5, iL6, iL7, iL8, iL9, iL10, iL20, iL21, iL22, iL31, iL32, iL40, iL46, iL48, iL57, iL64, iL65, iL80, iL81, iL90, iL96, iL97, iL100, iL122, iL126, iL127, iL500, iL1000, iL3000, iL9999999, ht, if_neg h80, if_pos hp, bI_f]
  by_cases hv : 0 < nv
  · simp (disch := omega) only [mg_in, if10, if00, if_true, if_false, nI_1, nI_s1, mn_e, mb1_v, mb2_v, mb3_v, mb4_v, nI_clamp, nI_add, pk_mul, if_leT, if_leF, if_ltT, if_ltF, if_eqT, if_eqF, if_m1F, if_m1F2, if_m1T, if_m1ltT, if_m1leT, if_m1leF, if_m1ltF, if_e1T, if_e1F, if_1eT, if_1eF, if_le1T, if_le1F, if_1ltT, if_1ltF, iL0, iL2, iL3, iL4, iL5, iL6, iL7, iL8, iL9, iL10, iL20, iL21, iL22, iL31, iL32, iL40, iL46, iL48, iL57, iL64, iL65, iL80, iL81, iL90, iL96, iL97, iL100, iL122, iL126, iL127, iL500, iL1000, iL3000, iL9999999, ht, if_neg h80, if_neg hp, if_pos hv, bI_f]
  by_cases h0 : L = 0
  · simp (disch := omega) only [mg_in, if10, if00, if_true, if_false, nI_1, nI_s1, mn_e, mb1_v, mb2_v, mb3_v, mb4_v, nI_clamp, nI_add, pk_mul, if_leT, if_leF, if_ltT, if_ltF, if_eqT, if_eqF, if_m1F, if_m1F2, if_m1T, if_m1ltT, if_m1leT, if_m1leF, if_m1ltF, if_e1T, if_e1F, if_1eT, if_1eF, if_le1T, if_le1F, if_1ltT, if_1ltF, iL0, iL2, iL3, iL4, iL5, iL6, iL7, iL8, iL9, iL10, iL20, iL21, iL22, iL31, iL32, iL40, iL46, iL48, iL57, iL64, iL65, iL80, iL81, iL90, iL96, iL97, iL100, iL122, iL126, iL127, iL500, iL1000, iL3000, iL9999999, ht, if_neg h80, if_neg hp, if_neg hv, if_pos h0]
    by_cases hk3 : kd = 3
    · simp (disch := omega) only [mg_in, if10, if00, if_true, if_false, nI_1, nI_s1, mn_e, mb1_v, mb2_v, mb3_v, mb4_v, nI_clamp, nI_add, pk_mul, if_leT, if_leF, if_ltT, if_ltF, if_eqT, if_eqF, if_m1F, if_m1F2, if_m1T, if_m1ltT, if_m1leT, if_m1leF, if_m1ltF, if_e1T, if_e1F, if_1eT, if_1eF, if_le1T, if_le1F, if_1ltT, if_1ltF, iL0, iL2, iL3, iL4, iL5, iL6, iL7, iL8, iL9, iL10, iL20, iL21, iL22, iL31, iL32, iL40, iL46, iL48, iL57, iL64, iL65, iL80, iL81, iL90, iL96, iL97, iL100, iL122, iL126, iL127, iL500, iL1000, iL3000, iL9999999, if_pos hk3, bI_t]
    by_cases hk0 : kd = 0
    · simp (disch := omega) only [mg_in, if10, if00, if_true, if_false, nI_1, nI_s1, mn_e, mb1_v, mb2_v, mb3_v, mb4_v, nI_clamp, nI_add, pk_mul, if_leT, if_leF, if_ltT, if_ltF, if_eqT, if_eqF, if_m1F, if_m1F2, if_m1T, if_m1ltT, if_m1leT, if_m1leF, if_m1ltF, if_e1T, if_e1F, if_1eT, if_1eF, if_le1T, if_le1F, if_1ltT, if_1ltF, iL0, iL2, iL3, iL4, iL5, iL6, iL7, iL8, iL9, iL10, iL20, iL21, iL22, iL31, iL32, iL40, iL46, iL48, iL57, iL64, iL65, iL80, iL81, iL90, iL96, iL97, iL100, iL122, iL126, iL127, iL500, iL1000, iL3000, iL9999999, if_neg hk3, if_pos hk0, bI_t]
    simp (disch := omega) only [mg_in, if10, if00, if_true, if_false, nI_1, nI_s1, mn_e, mb1_v, mb2_v, mb3_v, mb4_v, nI_clamp, nI_add, pk_mul, if_leT, if_leF, if_ltT, if_ltF, if_eqT, if_eqF, if_m1F, if_m1F2, if_m1T, if_m1ltT, if_m1leT, if_m1leF, if_m1ltF, if_e1T, if_e1F, if_1eT, if_1eF, if_le1T, if_le1F, if_1ltT, if_1ltF, iL0, iL2, iL3, iL4, iL5, iL6, iL7, iL8, iL9, iL10, iL20, iL21, iL22, iL31, iL32, iL40, iL46, iL48, iL57, iL64, iL65, iL80, iL81, iL90, iL96, iL97, iL100, iL122, iL126, iL127, iL500, iL1000, iL3000, iL9999999, if_neg hk3, if_neg hk0, bI_f]
  simp (disch := omega) only [mg_in, if10, if00, if_true, if_false, nI_1, nI_s1, mn_e, mb1_v, mb2_v, mb3_v, mb4_v, nI_clamp, nI_add, pk_mul, if_leT, if_leF, if_ltT, if_ltF, if_eqT, if_eqF, if_m1F, if_m1F2, if_m1T, if_m1ltT, if_m1leT, if_m1leF, if_m1ltF, if_e1T, if_e1F, if_1eT, if_1eF, if_le1T, if_le1F, if_1ltT, if_1ltF, iL0, iL2, iL3, iL4, iL5, iL6, iL7, iL8, iL9, iL10, iL20, iL21, iL22, iL31, iL32, iL40, iL46, iL48, iL57, iL64, iL65, iL80, iL81, iL90, iL96, iL97, iL100, iL122, iL126, iL127, iL500, iL1000, iL3000, iL9999999, ht, if_neg h80, if_neg hp, if_neg hv, if_neg h0]
  generalize bk (L - 1) = la
  by_cases hm : la = nI 3
  · simp only [if_pos hm]
    by_cases h1 : L = 1
    · by_cases hk0 : kd = 0
      · simp (disch := omega) only [mg_in, if10, if00, if_true, if_false, nI_1, nI_s1, mn_e, mb1_v, mb2_v, mb3_v, mb4_v, nI_clamp, nI_add, pk_mul, if_leT, if_leF, if_ltT, if_ltF, if_eqT, if_eqF, if_m1F, if_m1F2, if_m1T, if_m1ltT, if_m1leT, if_m1leF, if_m1ltF, if_e1T, if_e1F, if_1eT, if_1eF, if_le1T, if_le1F, if_1ltT, if_1ltF, iL0, iL2, iL3, iL4, iL5, iL6, iL7, iL8, iL9, iL10, iL20, iL21, iL22, iL31, iL32, iL40, iL46, iL48, iL57, iL64, iL65, iL80, iL81, iL90, iL96, iL97, iL100, iL122, iL126, iL127, iL500, iL1000, iL3000, iL9999999, if_pos h1, if_pos hk0, bI_t]
      · simp (disch := omega) only [mg_in, if10, if00, if_true, if_false, nI_1, nI_s1, mn_e, mb1_v, mb2_v, mb3_v, mb4_v, nI_clamp, nI_add, pk_mul, if_leT, if_leF, if_ltT, if_ltF, if_eqT, if_eqF, if_m1F, if_m1F2, if_m1T, if_m1ltT, if_m1leT, if_m1leF, if_m1ltF, if_e1T, if_e1F, if_1eT, if_1eF, if_le1T, if_le1F, if_1ltT, if_1ltF, iL0, iL2, iL3, iL4, iL5, iL6, iL7, iL8, iL9, iL10, iL20, iL21, iL22, iL31, iL32, iL40, iL46, iL48, iL57, iL64, iL65, iL80, iL81, iL90, iL96, iL97, iL100, iL122, iL126, iL127, iL500, iL1000, iL3000, iL9999999, if_pos h1, if_neg hk0, bI_f]
    · simp (disch := omega) only [mg_in, if10, if00, if_true, if_false, nI_1, nI_s1, mn_e, mb1_v, mb2_v, mb3_v, mb4_v, nI_clamp, nI_add, pk_mul, if_leT, if_leF, if_ltT, if_ltF, if_eqT, if_eqF, if_m1F, if_m1F2, if_m1T, if_m1ltT, if_m1leT, if_m1leF, if_m1ltF, if_e1T, if_e1F, if_1eT, if_1eF, if_le1T, if_le1F, if_1ltT, if_1ltF, iL0, iL2, iL3, iL4, iL5, iL6, iL7, iL8, iL9, iL10, iL20, iL21, iL22, iL31, iL32, iL40, iL46, iL48, iL57, iL64, iL65, iL80, iL81, iL90, iL96, iL97, iL100, iL122, iL126, iL127, iL500, iL1000, iL3000, iL9999999, if_neg h1, bI_f]
  simp only [if_neg hm]
  by_cases hk3 : kd = 3
  · simp (disch := omega) only [mg_in, if10, if00, if_true, if_false, nI_1, nI_s1, mn_e, mb1_v, mb2_v, mb3_v, mb4_v, nI_clamp, nI_add, pk_mul, if_leT, if_leF, if_ltT, if_ltF, if_eqT, if_eqF, if_m1F, if_m1F2, if_m1T, if_m1ltT, if_m1leT, if_m1leF, if_m1ltF, if_e1T, if_e1F, if_1eT, if_1eF, if_le1T, if_le1F, if_1ltT, if_1ltF, iL0, iL2, iL3, iL4, iL5, iL6, iL7, iL8, iL9, iL10, iL20, iL21, iL22, iL31, iL32, iL40, iL46, iL48, iL57, iL64, iL65, iL80, iL81, iL90, iL96, iL97, iL100, iL122, iL126, iL127, iL500, iL1000, iL3000, iL9999999, if_pos hk3, if_bI, if_so, bI_t, bI_f]
  by_cases hk0 : kd = 0
  · cases i with
    | false => simp (disch := omega) only [mg_in, if10, if00, if_true, if_false, nI_1, nI_s1, mn_e, mb1_v, mb2_v, mb3_v, mb4_v, nI_clamp, nI_add, pk_mul, if_leT, if_leF, if_ltT, if_ltF, if_eqT, if_eqF, if_m1F, if_m1F2, if_m1T, if_m1ltT, if_m1leT, if_m1leF, if_m1ltF, if_e1T, if_e1F, if_1eT, if_1eF, if_le1T, if_le1F, if_1ltT, if_1ltF, iL0, iL2, iL3, iL4, iL5, iL6, iL7, iL8, iL9, iL10, iL20, iL21, iL22, iL31, iL32, iL40, iL46, iL48, iL57, iL64, iL65, iL80, iL81, iL90, iL96, iL97, iL100, iL122, iL126, iL127, iL500, iL1000, iL3000, iL9999999, if_neg hk3, if_pos hk0, bI_f, Bool.false_eq_true]
    | true =>
      by_cases h32 : 32 ≤ C
      · simp (disch := omega) only [mg_in, if10, if00, if_true, if_false, nI_1, nI_s1, mn_e, mb1_v, mb2_v, mb3_v, mb4_v, nI_clamp, nI_add, pk_mul, if_leT, if_leF, if_ltT, if_ltF, if_eqT, if_eqF, if_m1F, if_m1F2, if_m1T, if_m1ltT, if_m1leT, if_m1leF, if_m1ltF, if_e1T, if_e1F, if_1eT, if_1eF, if_le1T, if_le1F, if_1ltT, if_1ltF, iL0, iL2, iL3, iL4, iL5, iL6, iL7, iL8, iL9, iL10, iL20, iL21, iL22, iL31, iL32, iL40, iL46, iL48, iL57, iL64, iL65, iL80, iL81, iL90, iL96, iL97, iL100, iL122, iL126, iL127, iL500, iL1000, iL3000, iL9999999, if_neg hk3, if_pos hk0, if_pos h32, bI_t, bI_f]
      · simp (disch := omega) only [mg_in, if10, if00, if_true, if_false, nI_1, nI_s1, mn_e, mb1_v, mb2_v, mb3_v, mb4_v, nI_clamp, nI_add, pk_mul, if_leT, if_leF, if_ltT, if_ltF, if_eqT, if_eqF, if_m1F, if_m1F2, if_m1T, if_m1ltT, if_m1leT, if_m1leF, if_m1ltF, if_e1T, if_e1F, if_1eT, if_1eF, if_le1T, if_le1F, if_1ltT, if_1ltF, iL0, iL2, iL3, iL4, iL5, iL6, iL7, iL8, iL9, iL10, iL20, iL21, iL22, iL31, iL32, iL40, iL46, iL48, iL57, iL64, iL65, iL80, iL81, iL90, iL96, iL97, iL100, iL122, iL126, iL127, iL500, iL1000, iL3000, iL9999999, if_neg hk3, if_pos hk0, if_neg h32, bI_t, bI_f]
  simp (disch := omega) only [mg_in, if10, if00, if_true, if_false, nI_1, nI_s1, mn_e, mb1_v, mb2_v, mb3_v, mb4_v, nI_clamp, nI_add, pk_mul, if_leT, if_leF, if_ltT, if_ltF, if_eqT, if_eqF, if_m1F, if_m1F2, if_m1T, if_m1ltT, if_m1leT, if_m1leF, if_m1ltF, if_e1T, if_e1F, if_1eT, if_1eF, if_le1T, if_le1F, if_1ltT, if_1ltF, iL0, iL2, iL3, iL4, iL5, iL6, iL7, iL8, iL9, iL10, iL20, iL21, iL22, iL31, iL32, iL40, iL46, iL48, iL57, iL64, iL65, iL80, iL81, iL90, iL96, iL97, iL100, iL122, iL126, iL127, iL500, iL1000, iL3000, iL9999999, if_neg hk3, if_neg hk0, bI_t]
theorem take_M {F s L C kd np nv : Nat} {bk : Nat → Int32} {bn : Nat → Int64} {bh bd bu bY : Nat → Int32} {Mk : Nat → Int32} {Mn : Nat → Int64} {Mz : Nat → Int32} {Mt : Nat → Int64} {Msp Mca Mcop Ml Mpr Mvi : Nat → Int32} (hF : 4000 ≤ F) (B : BR s L C bk bn bh bd bu bY Mk Mn Mz Mt Msp Mca) (hl : Ml s = nI L) (hC : Mcop s = nI C) (hp2 : Mpr s = nI np) (hv2 : Mvi s = nI nv) (hnp : np ≤ 20) (hnv : nv ≤ 40) (hkd : kd ≤ 4) (hfi : L = 0 ∨ 1 ≤ C ∨ (L = 1 ∧ bk 0 = nI 3)) :
    f_X7_mayStand F (nI kd) Ml Mk Mcop Mpr Mvi (nI s) = some (bI (tk L C np nv kd (bk (L - 1)) (ins bk L))) := by
  have B2 := B
  obtain ⟨⟨hs, hL, hC2⟩, hlk, hc, _⟩ := B
  have q0 : ∀ st, g_X7_mayStand_30 F (nI kd) (nI L) st Mk Mcop Mpr Mvi (nI s) = some (bI (tk L C np nv kd (bk (L - 1)) (ins bk L))) ∨ ¬ (L = 0 ∨ st = bk (L - 1)) := by
    intro st
    by_cases hst : ¬ (L = 0 ∨ st = bk (L - 1))
    · exact Or.inr hst
    have hst := Classical.not_not.mp hst
    left
    unfold g_X7_mayStand_30 tk
    by_cases h80 : 80 ≤ L
    · simp (disch := omega) only [mg_in, if10, if00, if_true, if_false, nI_1, nI_s1, mn_e, mb1_v, mb2_v, mb3_v, mb4_v, nI_clamp, nI_add, pk_mul, if_leT, if_leF, if_ltT, if_ltF, if_eqT, if_eqF, if_m1F, if_m1F2, if_m1T, if_m1ltT, if_m1leT, if_m1leF, if_m1ltF, if_e1T, if_e1F, if_1eT, if_1eF, if_le1T, if_le1F, if_1ltT, if_1ltF, iL0, iL2, iL3, iL4, iL5, iL6, iL7, iL8, iL9, iL10, iL20, iL21, iL22, iL31, iL32, iL40, iL46, iL48, iL57, iL64, iL65, iL80, iL81, iL90, iL96, iL97, iL100, iL122, iL126, iL127, iL500, iL1000, iL3000, iL9999999, if_pos h80, bI_f]
    by_cases hp : 0 < np
    · simp (disch := omega) only [mg_in, if10, if00, if_true, if_false, nI_1, nI_s1, mn_e, mb1_v, mb2_v, mb3_v, mb4_v, nI_clamp, nI_add, pk_mul, if_leT, if_leF, if_ltT, if_ltF, if_eqT, if_eqF, if_m1F, if_m1F2, if_m1T, if_m1ltT, if_m1leT, if_m1leF, if_m1ltF, if_e1T, if_e1F, if_1eT, if_1eF, if_le1T, if_le1F, if_1ltT, if_1ltF, iL0, iL2, iL3, iL4, iL5, iL6, iL7, iL8, iL9, iL10, iL20, iL21, iL22, iL31, iL32, iL40, iL46, iL48, iL57, iL64, iL65, iL80, iL81, iL90, iL96, iL97, iL100, iL122, iL126, iL127, iL500, iL1000, iL3000, iL9999999, hp2, hv2, if_neg h80, if_pos hp, bI_f]
    by_cases hv : 0 < nv
    · simp (disch := omega) only [mg_in, if10, if00, if_true, if_false, nI_1, nI_s1, mn_e, mb1_v, mb2_v, mb3_v, mb4_v, nI_clamp, nI_add, pk_mul, if_leT, if_leF, if_ltT, if_ltF, if_eqT, if_eqF, if_m1F, if_m1F2, if_m1T, if_m1ltT, if_m1leT, if_m1leF, if_m1ltF, if_e1T, if_e1F, if_1eT, if_1eF, if_le1T, if_le1F, if_1ltT, if_1ltF, iL0, iL2, iL3, iL4, iL5, iL6, iL7, iL8, iL9, iL10, iL20, iL21, iL22, iL31, iL32, iL40, iL46, iL48, iL57, iL64, iL65, iL80, iL81, iL90, iL96, iL97, iL100, iL122, iL126, iL127, iL500, iL1000, iL3000, iL9999999, hp2, hv2, if_neg h80, if_neg hp, if_pos hv, bI_f]
    by_cases h0 : L = 0
    · simp (disch := omega) only [mg_in, if10, if00, if_true, if_false, nI_1, nI_s1, mn_e, mb1_v, mb2_v, mb3_v, mb4_v, nI_clamp, nI_add, pk_mul, if_leT, if_leF, if_ltT, if_ltF, if_eqT, if_eqF, if_m1F, if_m1F2, if_m1T, if_m1ltT, if_m1leT, if_m1leF, if_m1ltF, if_e1T, if_e1F, if_1eT, if_1eF, if_le1T, if_le1F, if_1ltT, if_1ltF, iL0, iL2, iL3, iL4, iL5, iL6, iL7, iL8, iL9, iL10, iL20, iL21, iL22, iL31, iL32, iL40, iL46, iL48, iL57, iL64, iL65, iL80, iL81, iL90, iL96, iL97, iL100, iL122, iL126, iL127, iL500, iL1000, iL3000, iL9999999, hp2, hv2, if_neg h80, if_neg hp, if_neg hv, if_pos h0]
      by_cases hk3 : kd = 3
      · simp (disch := omega) only [mg_in, if10, if00, if_true, if_false, nI_1, nI_s1, mn_e, mb1_v, mb2_v, mb3_v, mb4_v, nI_clamp, nI_add, pk_mul, if_leT, if_leF, if_ltT, if_ltF, if_eqT, if_eqF, if_m1F, if_m1F2, if_m1T, if_m1ltT, if_m1leT, if_m1leF, if_m1ltF, if_e1T, if_e1F, if_1eT, if_1eF, if_le1T, if_le1F, if_1ltT, if_1ltF, iL0, iL2, iL3, iL4, iL5, iL6, iL7, iL8, iL9, iL10, iL20, iL21, iL22, iL31, iL32, iL40, iL46, iL48, iL57, iL64, iL65, iL80, iL81, iL90, iL96, iL97, iL100, iL122, iL126, iL127, iL500, iL1000, iL3000, iL9999999, if_pos hk3, bI_t]
      by_cases hk0 : kd = 0
      · simp (disch := omega) only [mg_in, if10, if00, if_true, if_false, nI_1, nI_s1, mn_e, mb1_v, mb2_v, mb3_v, mb4_v, nI_clamp, nI_add, pk_mul, if_leT, if_leF, if_ltT, if_ltF, if_eqT, if_eqF, if_m1F, if_m1F2, if_m1T, if_m1ltT, if_m1leT, if_m1leF, if_m1ltF, if_e1T, if_e1F, if_1eT, if_1eF, if_le1T, if_le1F, if_1ltT, if_1ltF, iL0, iL2, iL3, iL4, iL5, iL6, iL7, iL8, iL9, iL10, iL20, iL21, iL22, iL31, iL32, iL40, iL46, iL48, iL57, iL64, iL65, iL80, iL81, iL90, iL96, iL97, iL100, iL122, iL126, iL127, iL500, iL1000, iL3000, iL9999999, if_neg hk3, if_pos hk0, bI_t]
      simp (disch := omega) only [mg_in, if10, if00, if_true, if_false, nI_1, nI_s1, mn_e, mb1_v, mb2_v, mb3_v, mb4_v, nI_clamp, nI_add, pk_mul, if_leT, if_leF, if_ltT, if_ltF, if_eqT, if_eqF, if_m1F, if_m1F2, if_m1T, if_m1ltT, if_m1leT, if_m1leF, if_m1ltF, if_e1T, if_e1F, if_1eT, if_1eF, if_le1T, if_le1F, if_1ltT, if_1ltF, iL0, iL2, iL3, iL4, iL5, iL6, iL7, iL8, iL9, iL10, iL20, iL21, iL22, iL31, iL32, iL40, iL46, iL48, iL57, iL64, iL65, iL80, iL81, iL90, iL96, iL97, iL100, iL122, iL126, iL127, iL500, iL1000, iL3000, iL9999999, if_neg hk3, if_neg hk0, bI_f]
    have hst2 : st = bk (L - 1) := hst.resolve_left h0
    have g := g145 (F := F) (Mcop := Mcop) B2 L F false (by omega) (by omega)
    rw [show nI L + (-1) = nI (L - 1) by rw [show L = L - 1 + 1 by omega, pk_m1]; rfl, bI_f, iL0, Bool.false_or, g212 hs hC2 hC] at g
    have hC1 : bk (L - 1) = nI 3 ∨ 1 ≤ C := by
      rcases hfi with q | q | ⟨q1, q2⟩
      · omega
      · exact Or.inr q
      · subst q1; exact Or.inl q2
    simp (disch := omega) only [mg_in, if10, if00, if_true, if_false, nI_1, nI_s1, mn_e, mb1_v, mb2_v, mb3_v, mb4_v, nI_clamp, nI_add, pk_mul, if_leT, if_leF, if_ltT, if_ltF, if_eqT, if_eqF, if_m1F, if_m1F2, if_m1T, if_m1ltT, if_m1leT, if_m1leF, if_m1ltF, if_e1T, if_e1F, if_1eT, if_1eF, if_le1T, if_le1F, if_1ltT, if_1ltF, iL0, iL2, iL3, iL4, iL5, iL6, iL7, iL8, iL9, iL10, iL20, iL21, iL22, iL31, iL32, iL40, iL46, iL48, iL57, iL64, iL65, iL80, iL81, iL90, iL96, iL97, iL100, iL122, iL126, iL127, iL500, iL1000, iL3000, iL9999999, hp2, hv2, hC, if_neg h80, if_neg hp, if_neg hv, if_neg h0, hst2, g]
    generalize bk (L - 1) = la at *
    by_cases hm : la = nI 3
    · simp only [if_pos hm]
      by_cases h1 : L = 1
      · by_cases hk0 : kd = 0
        · simp (disch := omega) only [mg_in, if10, if00, if_true, if_false, nI_1, nI_s1, mn_e, mb1_v, mb2_v, mb3_v, mb4_v, nI_clamp, nI_add, pk_mul, if_leT, if_leF, if_ltT, if_ltF, if_eqT, if_eqF, if_m1F, if_m1F2, if_m1T, if_m1ltT, if_m1leT, if_m1leF, if_m1ltF, if_e1T, if_e1F, if_1eT, if_1eF, if_le1T, if_le1F, if_1ltT, if_1ltF, iL0, iL2, iL3, iL4, iL5, iL6, iL7, iL8, iL9, iL10, iL20, iL21, iL22, iL31, iL32, iL40, iL46, iL48, iL57, iL64, iL65, iL80, iL81, iL90, iL96, iL97, iL100, iL122, iL126, iL127, iL500, iL1000, iL3000, iL9999999, if_pos h1, if_pos hk0, bI_t]
        · simp (disch := omega) only [mg_in, if10, if00, if_true, if_false, nI_1, nI_s1, mn_e, mb1_v, mb2_v, mb3_v, mb4_v, nI_clamp, nI_add, pk_mul, if_leT, if_leF, if_ltT, if_ltF, if_eqT, if_eqF, if_m1F, if_m1F2, if_m1T, if_m1ltT, if_m1leT, if_m1leF, if_m1ltF, if_e1T, if_e1F, if_1eT, if_1eF, if_le1T, if_le1F, if_1ltT, if_1ltF, iL0, iL2, iL3, iL4, iL5, iL6, iL7, iL8, iL9, iL10, iL20, iL21, iL22, iL31, iL32, iL40, iL46, iL48, iL57, iL64, iL65, iL80, iL81, iL90, iL96, iL97, iL100, iL122, iL126, iL127, iL500, iL1000, iL3000, iL9999999, if_pos h1, if_neg hk0, bI_f]
      · simp (disch := omega) only [mg_in, if10, if00, if_true, if_false, nI_1, nI_s1, mn_e, mb1_v, mb2_v, mb3_v, mb4_v, nI_clamp, nI_add, pk_mul, if_leT, if_leF, if_ltT, if_ltF, if_eqT, if_eqF, if_m1F, if_m1F2, if_m1T, if_m1ltT, if_m1leT, if_m1leF, if_m1ltF, if_e1T, if_e1F, if_1eT, if_1eF, if_le1T, if_le1F, if_1ltT, if_1ltF, iL0, iL2, iL3, iL4, iL5, iL6, iL7, iL8, iL9, iL10, iL20, iL21, iL22, iL31, iL32, iL40, iL46, iL48, iL57, iL64, iL65, iL80, iL81, iL90, iL96, iL97, iL100, iL122, iL126, iL127, iL500, iL1000, iL3000, iL9999999, if_neg h1, bI_f]
    have hC3 : 1 ≤ C := hC1.resolve_left hm
    simp only [if_neg hm]
    by_cases hk3 : kd = 3
    · simp (disch := omega) only [mg_in, if10, if00, if_true, if_false, nI_1, nI_s1, mn_e, mb1_v, mb2_v, mb3_v, mb4_v, nI_clamp, nI_add, pk_mul, if_leT, if_leF, if_ltT, if_ltF, if_eqT, if_eqF, if_m1F, if_m1F2, if_m1T, if_m1ltT, if_m1leT, if_m1leF, if_m1ltF, if_e1T, if_e1F, if_1eT, if_1eF, if_le1T, if_le1F, if_1ltT, if_1ltF, iL0, iL2, iL3, iL4, iL5, iL6, iL7, iL8, iL9, iL10, iL20, iL21, iL22, iL31, iL32, iL40, iL46, iL48, iL57, iL64, iL65, iL80, iL81, iL90, iL96, iL97, iL100, iL122, iL126, iL127, iL500, iL1000, iL3000, iL9999999, if_pos hk3, if_bI, if_so, bI_t, bI_f]
    by_cases hk0 : kd = 0
    · cases hi : ins bk L with
      | false => simp (disch := omega) only [mg_in, if10, if00, if_true, if_false, nI_1, nI_s1, mn_e, mb1_v, mb2_v, mb3_v, mb4_v, nI_clamp, nI_add, pk_mul, if_leT, if_leF, if_ltT, if_ltF, if_eqT, if_eqF, if_m1F, if_m1F2, if_m1T, if_m1ltT, if_m1leT, if_m1leF, if_m1ltF, if_e1T, if_e1F, if_1eT, if_1eF, if_le1T, if_le1F, if_1ltT, if_1ltF, iL0, iL2, iL3, iL4, iL5, iL6, iL7, iL8, iL9, iL10, iL20, iL21, iL22, iL31, iL32, iL40, iL46, iL48, iL57, iL64, iL65, iL80, iL81, iL90, iL96, iL97, iL100, iL122, iL126, iL127, iL500, iL1000, iL3000, iL9999999, if_neg hk3, if_pos hk0, bI_f, Bool.false_eq_true]
      | true =>
        by_cases h32 : 32 ≤ C
        · simp (disch := omega) only [mg_in, if10, if00, if_true, if_false, nI_1, nI_s1, mn_e, mb1_v, mb2_v, mb3_v, mb4_v, nI_clamp, nI_add, pk_mul, if_leT, if_leF, if_ltT, if_ltF, if_eqT, if_eqF, if_m1F, if_m1F2, if_m1T, if_m1ltT, if_m1leT, if_m1leF, if_m1ltF, if_e1T, if_e1F, if_1eT, if_1eF, if_le1T, if_le1F, if_1ltT, if_1ltF, iL0, iL2, iL3, iL4, iL5, iL6, iL7, iL8, iL9, iL10, iL20, iL21, iL22, iL31, iL32, iL40, iL46, iL48, iL57, iL64, iL65, iL80, iL81, iL90, iL96, iL97, iL100, iL122, iL126, iL127, iL500, iL1000, iL3000, iL9999999, if_neg hk3, if_pos hk0, if_pos h32, if_neg (show ¬ C < 32 by omega), bI_t, bI_f]
        · simp (disch := omega) only [mg_in, if10, if00, if_true, if_false, nI_1, nI_s1, mn_e, mb1_v, mb2_v, mb3_v, mb4_v, nI_clamp, nI_add, pk_mul, if_leT, if_leF, if_ltT, if_ltF, if_eqT, if_eqF, if_m1F, if_m1F2, if_m1T, if_m1ltT, if_m1leT, if_m1leF, if_m1ltF, if_e1T, if_e1F, if_1eT, if_1eF, if_le1T, if_le1F, if_1ltT, if_1ltF, iL0, iL2, iL3, iL4, iL5, iL6, iL7, iL8, iL9, iL10, iL20, iL21, iL22, iL31, iL32, iL40, iL46, iL48, iL57, iL64, iL65, iL80, iL81, iL90, iL96, iL97, iL100, iL122, iL126, iL127, iL500, iL1000, iL3000, iL9999999, if_neg hk3, if_pos hk0, if_neg h32, if_pos (show C < 32 by omega), bI_t, bI_f]
    simp (disch := omega) only [mg_in, if10, if00, if_true, if_false, nI_1, nI_s1, mn_e, mb1_v, mb2_v, mb3_v, mb4_v, nI_clamp, nI_add, pk_mul, if_leT, if_leF, if_ltT, if_ltF, if_eqT, if_eqF, if_m1F, if_m1F2, if_m1T, if_m1ltT, if_m1leT, if_m1leF, if_m1ltF, if_e1T, if_e1F, if_1eT, if_1eF, if_le1T, if_le1F, if_1ltT, if_1ltF, iL0, iL2, iL3, iL4, iL5, iL6, iL7, iL8, iL9, iL10, iL20, iL21, iL22, iL31, iL32, iL40, iL46, iL48, iL57, iL64, iL65, iL80, iL81, iL90, iL96, iL97, iL100, iL122, iL126, iL127, iL500, iL1000, iL3000, iL9999999, if_neg hk3, if_neg hk0, bI_t]
  unfold f_X7_mayStand f_X7_layerAt
  by_cases h0 : L = 0
  · simp (disch := omega) only [mg_in, if10, if00, if_true, if_false, nI_1, nI_s1, mn_e, mb1_v, mb2_v, mb3_v, mb4_v, nI_clamp, nI_add, pk_mul, if_leT, if_leF, if_ltT, if_ltF, if_eqT, if_eqF, if_m1F, if_m1F2, if_m1T, if_m1ltT, if_m1leT, if_m1leF, if_m1ltF, if_e1T, if_e1F, if_1eT, if_1eF, if_le1T, if_le1F, if_1ltT, if_1ltF, iL0, iL2, iL3, iL4, iL5, iL6, iL7, iL8, iL9, iL10, iL20, iL21, iL22, iL31, iL32, iL40, iL46, iL48, iL57, iL64, iL65, iL80, iL81, iL90, iL96, iL97, iL100, iL122, iL126, iL127, iL500, iL1000, iL3000, iL9999999, hl]
    exact (q0 _).resolve_right (fun h => h (Or.inl h0))
  · have e := (hlk (L - 1) (by omega)).1
    simp (disch := omega) only [mg_in, if10, if00, if_true, if_false, nI_1, nI_s1, mn_e, mb1_v, mb2_v, mb3_v, mb4_v, nI_clamp, nI_add, pk_mul, if_leT, if_leF, if_ltT, if_ltF, if_eqT, if_eqF, if_m1F, if_m1F2, if_m1T, if_m1ltT, if_m1leT, if_m1leF, if_m1ltF, if_e1T, if_e1F, if_1eT, if_1eF, if_le1T, if_le1F, if_1ltT, if_1ltF, iL0, iL2, iL3, iL4, iL5, iL6, iL7, iL8, iL9, iL10, iL20, iL21, iL22, iL31, iL32, iL40, iL46, iL48, iL57, iL64, iL65, iL80, iL81, iL90, iL96, iL97, iL100, iL122, iL126, iL127, iL500, iL1000, iL3000, iL9999999, hl, e]
    exact (q0 _).resolve_right (fun h => h (Or.inr rfl))
theorem tk_of {L C np nv kd : Nat} {la : Int32} {i : Bool} (h : tk L C np nv kd la i = true) (hL0 : L = 0 → C = 0) (hLC : L = 1 → la = nI 3 → C = 0) : L < 80 ∧ np = 0 ∧ nv = 0 ∧ (kd = 0 → C < 32) ∧ (L = 0 → kd = 0 ∨ kd = 3) := by
  unfold tk at h
  by_cases h80 : 80 ≤ L
  · rw [if_pos h80] at h; cases h
  rw [if_neg h80] at h
  by_cases hp : 0 < np
  · rw [if_pos hp] at h; cases h
  rw [if_neg hp] at h
  by_cases hv : 0 < nv
  · rw [if_pos hv] at h; cases h
  rw [if_neg hv] at h
  refine ⟨by omega, by omega, by omega, fun k0 => ?_, fun l0 => ?_⟩
  · by_cases l0 : L = 0
    · have := hL0 l0; omega
    rw [if_neg l0] at h
    by_cases hm : la = nI 3
    · rw [if_pos hm] at h
      by_cases l1 : L = 1
      · have := hLC l1 hm; omega
      · rw [if_neg l1] at h; cases h
    · rw [if_neg hm, if_neg (by omega), if_pos k0] at h
      by_cases hi : i = true
      · rw [if_pos hi] at h
        by_cases hc : 32 ≤ C
        · rw [if_pos hc] at h; cases h
        · omega
      · rw [if_neg hi] at h; cases h
  · rw [if_pos l0] at h
    by_cases h3 : kd = 3
    · exact Or.inr h3
    · rw [if_neg h3] at h
      by_cases h0 : kd = 0
      · exact Or.inl h0
      · rw [if_neg h0] at h; cases h
theorem BR_C0 {s L C : Nat} {bk : Nat → Int32} {bn : Nat → Int64} {bh bd bu bY : Nat → Int32} {Mk : Nat → Int32} {Mn : Nat → Int64} {Mz : Nat → Int32} {Mt : Nat → Int64} {Msp Mca : Nat → Int32} (B : BR s L C bk bn bh bd bu bY Mk Mn Mz Mt Msp Mca) : (L = 0 → C = 0) ∧ (L = 1 → bk (L - 1) = nI 3 → C = 0) := by
  obtain ⟨⟨hs, hL, hC2⟩, hlk, hc, _⟩ := B
  refine ⟨fun h => ?_, fun h h3 => ?_⟩
  · apply Nat.eq_zero_of_not_pos
    intro q
    obtain ⟨_, l, l1, _⟩ := hc 0 q
    omega
  · apply Nat.eq_zero_of_not_pos
    intro q
    obtain ⟨_, l, l1, l2, l3, l4⟩ := hc 0 q
    rw [show l = L - 1 by omega, h3] at l3
    exact absurd l3 (by decide)
theorem BR_add {s L C kd : Nat} {v : Int64} {sz th sp : Int32} {bk bk' : Nat → Int32} {bn bn' : Nat → Int64} {bh bd bu bY bh' bd' bu' bY' : Nat → Int32} {Mk Mk' : Nat → Int32} {Mn Mn' : Nat → Int64} {Mz Mz' : Nat → Int32} {Mt Mt' : Nat → Int64} {Msp Mca Msp' Mca' : Nat → Int32} (B : BR s L C bk bn bh bd bu bY Mk Mn Mz Mt Msp Mca) (hL : L < 80) (hC : kd = 0 → C < 32) (hlok : LOK (nI kd) v sz th sp) (hkd : kd ≤ 4)
    (e1 : ∀ k, k < L → bk' k = bk k ∧ bn' k = bn k ∧ bh' k = bh k ∧ bd' k = bd k ∧ bu' k = bu k) (e2 : bk' L = nI kd ∧ bn' L = v ∧ bh' L = th ∧ bd' L = sp ∧ bu' L = if kd = 0 then nI C else -1)
    (e3 : ∀ c, c < C → bY' c = bY c ∧ Mca' (32 * s + c) = Mca (32 * s + c)) (e4 : kd = 0 → bY' C = nI L ∧ Mca' (32 * s + C) = nI L)
    (e5 : ∀ k, k < L → Mk' (80 * s + k) = Mk (80 * s + k) ∧ Mn' (80 * s + k) = Mn (80 * s + k) ∧ Mz' (80 * s + k) = Mz (80 * s + k) ∧ Mt' (80 * s + k) = Mt (80 * s + k) ∧ Msp' (80 * s + k) = Msp (80 * s + k))
    (e6 : Mk' (80 * s + L) = nI kd ∧ Mn' (80 * s + L) = v ∧ Mz' (80 * s + L) = sz ∧ Mt' (80 * s + L) = th.toInt64 ∧ Msp' (80 * s + L) = sp) :
    BR s (L + 1) (if kd = 0 then C + 1 else C) bk' bn' bh' bd' bu' bY' Mk' Mn' Mz' Mt' Msp' Mca' := by
  obtain ⟨⟨hs, hL2, hC2⟩, hlk, hc, hu⟩ := B
  obtain ⟨a1, a2, a3, a4, a5⟩ := e2
  obtain ⟨b1, b2, b3, b4, b5⟩ := e6
  have hk1 : ∀ k, k < L + 1 → Mk' (80 * s + k) = bk' k ∧ Mn' (80 * s + k) = bn' k ∧ Mt' (80 * s + k) = (bh' k).toInt64 ∧ Msp' (80 * s + k) = bd' k ∧ LOK (bk' k) (bn' k) (Mz' (80 * s + k)) (bh' k) (bd' k) := by
    intro k hk
    by_cases q : k = L
    · subst q
      rw [a1, a2, a3, a4, b1, b2, b3, b4, b5]
      exact ⟨rfl, rfl, rfl, rfl, hlok⟩
    · obtain ⟨c1, c2, c3, c4, c5⟩ := e1 k (by omega)
      obtain ⟨d1, d2, d3, d4, d5⟩ := e5 k (by omega)
      rw [c1, c2, c3, c4, d1, d2, d3, d4, d5]
      exact hlk k (by omega)
  have hc1 : ∀ c, c < C → Mca' (32 * s + c) = bY' c ∧ ∃ l, l < L + 1 ∧ bY' c = nI l ∧ bk' l = nI 0 ∧ bu' l = nI c := by
    intro c h
    obtain ⟨c1, c2⟩ := e3 c h
    obtain ⟨d1, l, d2, d3, d4, d5⟩ := hc c h
    obtain ⟨f1, f2, f3, f4, f5⟩ := e1 l d2
    exact ⟨by rw [c1, c2]; exact d1, l, by omega, by rw [c1]; exact d3, by rw [f1]; exact d4, by rw [f5]; exact d5⟩
  by_cases h0 : kd = 0
  · rw [if_pos h0] at a5 ⊢
    obtain ⟨g1, g2⟩ := e4 h0
    subst h0
    refine ⟨⟨hs, by omega, by have := hC rfl; omega⟩, hk1, fun c h => ?_, fun k hk => ?_⟩
    · by_cases q : c = C
      · subst q
        exact ⟨by rw [g1, g2], L, by omega, g1, a1, a5⟩
      · exact hc1 c (by omega)
    · by_cases q : k = L
      · subst q
        exact Or.inl ⟨a1, C, by omega, a5, g1⟩
      · obtain ⟨c1, c2, c3, c4, c5⟩ := e1 k (by omega)
        rcases hu k (by omega) with ⟨d1, c, d2, d3, d4⟩ | ⟨d1, d2⟩
        · exact Or.inl ⟨by rw [c1]; exact d1, c, by omega, by rw [c5]; exact d3, by rw [(e3 c d2).1]; exact d4⟩
        · exact Or.inr ⟨by rw [c1]; exact d1, by rw [c5]; exact d2⟩
  · rw [if_neg h0] at a5 ⊢
    refine ⟨⟨hs, by omega, hC2⟩, hk1, hc1, fun k hk => ?_⟩
    by_cases q : k = L
    · subst q
      exact Or.inr ⟨by rw [a1]; exact fun q => h0 (nI_inj q (by omega) (by omega)), a5⟩
    · obtain ⟨c1, c2, c3, c4, c5⟩ := e1 k (by omega)
      rcases hu k (by omega) with ⟨d1, c, d2, d3, d4⟩ | ⟨d1, d2⟩
      · exact Or.inl ⟨by rw [c1]; exact d1, c, by omega, by rw [c5]; exact d3, by rw [(e3 c d2).1]; exact d4⟩
      · exact Or.inr ⟨by rw [c1]; exact d1, by rw [c5]; exact d2⟩
