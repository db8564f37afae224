theorem FL_t {s : Nat} {Ml Mk : Nat → Int32} {Mn : Nat → Int64} {Mz : Nat → Int32} {Mt : Nat → Int64} {Msp Mcop Mca : Nat → Int32} {Ml' Mk' : Nat → Int32} {Mn' : Nat → Int64} {Mz' : Nat → Int32} {Mt' : Nat → Int64} {Msp' Mcop' Mca' : Nat → Int32} {Ml'' Mk'' : Nat → Int32} {Mn'' : Nat → Int64} {Mz'' : Nat → Int32} {Mt'' : Nat → Int64} {Msp'' Mcop'' Mca'' : Nat → Int32} (h : FL s Ml Ml' Mk Mk' Mn Mn' Mz Mz' Mt Mt' Msp Msp' Mcop Mcop' Mca Mca') (h2 : FL s Ml' Ml'' Mk' Mk'' Mn' Mn'' Mz' Mz'' Mt' Mt'' Msp' Msp'' Mcop' Mcop'' Mca' Mca'') : FL s Ml Ml'' Mk Mk'' Mn Mn'' Mz Mz'' Mt Mt'' Msp Msp'' Mcop Mcop'' Mca Mca'' := by
  obtain ⟨a1, a2, a3, a4, a5, a6, a7, a8⟩ := h
  obtain ⟨b1, b2, b3, b4, b5, b6, b7, b8⟩ := h2
  exact ⟨fr_t b1 a1, fr_t b2 a2, fr_t b3 a3, fr_t b4 a4, fr_t b5 a5, fr_t b6 a6, fr_t b7 a7, fr_t b8 a8⟩
theorem FP_t {s : Nat} {Mpr Mpf Mpt Mvi Mvf Mvt : Nat → Int32} {Mpr' Mpf' Mpt' Mvi' Mvf' Mvt' : Nat → Int32} {Mpr'' Mpf'' Mpt'' Mvi'' Mvf'' Mvt'' : Nat → Int32} (h : FP s Mpr Mpr' Mpf Mpf' Mpt Mpt' Mvi Mvi' Mvf Mvf' Mvt Mvt') (h2 : FP s Mpr' Mpr'' Mpf' Mpf'' Mpt' Mpt'' Mvi' Mvi'' Mvf' Mvf'' Mvt' Mvt'') : FP s Mpr Mpr'' Mpf Mpf'' Mpt Mpt'' Mvi Mvi'' Mvf Mvf'' Mvt Mvt'' := by
  obtain ⟨a1, a2, a3, a4, a5, a6⟩ := h
  obtain ⟨b1, b2, b3, b4, b5, b6⟩ := h2
  exact ⟨fr_t b1 a1, fr_t b2 a2, fr_t b3 a3, fr_t b4 a4, fr_t b5 a5, fr_t b6 a6⟩
def LV (s L C c nv : Nat) (X Y U V : Nat → Nat) (bk : Nat → Int32) (bn : Nat → Int64) (bh bd bu bY pf pl vf vl : Nat → Int32) (Ml Mk : Nat → Int32) (Mn : Nat → Int64) (Mz : Nat → Int32) (Mt : Nat → Int64) (Msp Mcop Mca Mpr Mpf Mpt Mvi Mvf Mvt : Nat → Int32) : Prop :=
  BR s L C bk bn bh bd bu bY Mk Mn Mz Mt Msp Mca ∧ (Ml s = nI L ∧ Mcop s = nI C ∧ Mpr s = nI c ∧ Mvi s = nI nv) ∧ PV C c X Y ∧ (1 ≤ c ∧ c ≤ 21 ∧ X (c - 1) = 0 ∧ Y (c - 1) = C - 1 ∧ 2 ≤ C ∧ 1 ≤ L ∧ L + c + nv ≤ 87) ∧ SR 0 c X Y pf pl ∧ SR (22 * s) c X Y Mpf Mpt ∧ nv ≤ 40 ∧ SR 0 nv U V vf vl ∧ SR (40 * s) nv U V Mvf Mvt ∧ (∀ k, k < nv → U k < C ∧ V k < C)
theorem sh_loop {F s L : Nat} {thr sz has hand li p f : Int32} {w : Int64} {ws so : Int32} {Ml Mk : Nat → Int32} {Mn : Nat → Int64} {Mz : Nat → Int32} {Mt : Nat → Int64} {Msp Mcop Mca Mpr Mpf Mpt Mvi Mvf Mvt : Nat → Int32} (hs : s ≤ 1) (hl : Ml s = nI L) : ∀ (r k fu : Nat) (Msh : Nat → Int32), k + r = 32 → r < fu → (∀ j, j < k → Msh j = 1000) → ∃ Msh' : Nat → Int32, g_X7_read_245 F fu (nI k) thr sz has hand Ml Mk Mn Mz Mt Msp Mcop Mca Mpr Mpf Mpt Mvi Mvf Mvt Msh li p (nI s) f w ws so = some (nI L, thr, sz, has, hand, Ml, Mk, Mn, Mz, Mt, Msp, Mcop, Mca, Mpr, Mpf, Mpt, Mvi, Mvf, Mvt, Msh', li, p, nI s, f, w, ws, so) ∧ ∀ j, j < 32 → Msh' j = 1000 := by
  intro r
  induction r with
  | zero =>
    intro k fu Msh he hf h
    obtain ⟨fu, rfl⟩ : ∃ z, fu = z + 1 := ⟨fu - 1, by omega⟩
    refine ⟨Msh, ?_, fun j hj => h j (by omega)⟩
    rw [g_X7_read_245_s, iL32, if_leT (by omega) (by omega), mg_in (by omega) (by omega), nI_clamp (by omega), hl]
  | succ r ih =>
    intro k fu Msh he hf h
    obtain ⟨fu, rfl⟩ : ∃ z, fu = z + 1 := ⟨fu - 1, by omega⟩
    obtain ⟨Msh', h1, h2⟩ := ih (k + 1) fu (upd Msh k 1000) (by omega) (by omega) (fun j hj => by
      by_cases q : j = k
      · rw [q, pk_us]
      · rw [pk_un q]; exact h j (by omega))
    refine ⟨Msh', ?_, h2⟩
    rw [g_X7_read_245_s, iL32, if_leF (by omega) (by omega), mg_in (by omega) (by omega), mn_e, nI_1, nI_clamp (by omega)]
    exact h1
theorem a136_1 {F s np : Nat} {thr sz has hand li p f : Int32} {w : Int64} {ws so : Int32} {Ml Mk : Nat → Int32} {Mn : Nat → Int64} {Mz : Nat → Int32} {Mt : Nat → Int64} {Msp Mcop Mca Mpr Mpf Mpt Mvi Mvf Mvt : Nat → Int32} {Msh : Nat → Int32} (hs : s ≤ 1) (hnp : np ≤ 20) (hr : Mpr s = nI np) : ∀ (r j fu : Nat), j + r = np → r < fu → g_X7_read_136 F fu 1 (nI (22 * s + j)) thr sz has hand Ml Mk Mn Mz Mt Msp Mcop Mca Mpr Mpf Mpt Mvi Mvf Mvt Msh li p (nI s) f w ws so = g_X7_read_220 F thr sz has hand Ml Mk Mn Mz Mt Msp Mcop Mca Mpr Mpf Mpt Mvi Mvf Mvt Msh li p (nI s) f w ws so := by
  intro r
  induction r with
  | zero =>
    intro j fu he hf
    obtain ⟨fu, rfl⟩ : ∃ z, fu = z + 1 := ⟨fu - 1, by omega⟩
    rw [g_X7_read_136_s]
    simp (disch := omega) only [mg_in, if10, if00, if_true, if_false, nI_1, nI_s1, mn_e, mb1_v, mb2_v, mb3_v, mb4_v, nI_clamp, nI_add, pk_mul, if_leT, if_leF, if_ltT, if_ltF, if_eqT, if_eqF, if_m1F, if_m1F2, if_m1T, if_m1ltT, if_m1leT, if_m1leF, if_m1ltF, if_e1T, if_e1F, if_1eT, if_1eF, if_le1T, if_le1F, if_1ltT, if_1ltF, iL0, iL2, iL3, iL4, iL5, iL6, iL7, iL8, iL9, iL10, iL20, iL21, iL22, iL31, iL32, iL40, iL46, iL48, iL57, iL64, iL65, iL80, iL81, iL90, iL96, iL97, iL100, iL122, iL126, iL127, iL500, iL1000, iL3000, iL9999999, hr]
  | succ r ih =>
    intro j fu he hf
    obtain ⟨fu, rfl⟩ : ∃ z, fu = z + 1 := ⟨fu - 1, by omega⟩
    have i1 := ih (j + 1) fu (by omega) (by omega)
    have ea : 22 * s + j + 1 = 22 * s + (j + 1) := by omega
    rw [g_X7_read_136_s]
    simp (disch := omega) only [mg_in, if10, if00, if_true, if_false, nI_1, nI_s1, mn_e, mb1_v, mb2_v, mb3_v, mb4_v, nI_clamp, nI_add, pk_mul, if_leT, if_leF, if_ltT, if_ltF, if_eqT, if_eqF, if_m1F, if_m1F2, if_m1T, if_m1ltT, if_m1leT, if_m1leF, if_m1ltF, if_e1T, if_e1F, if_1eT, if_1eF, if_le1T, if_le1F, if_1ltT, if_1ltF, iL0, iL2, iL3, iL4, iL5, iL6, iL7, iL8, iL9, iL10, iL20, iL21, iL22, iL31, iL32, iL40, iL46, iL48, iL57, iL64, iL65, iL80, iL81, iL90, iL96, iL97, iL100, iL122, iL126, iL127, iL500, iL1000, iL3000, iL9999999, hr, ea, i1]
theorem a136_0 {F s C np : Nat} {X Y : Nat → Nat} {thr sz has hand li p f : Int32} {w : Int64} {ws so : Int32} {Ml Mk : Nat → Int32} {Mn : Nat → Int64} {Mz : Nat → Int32} {Mt : Nat → Int64} {Msp Mcop Mca Mpr Mpf Mpt Mvi Mvf Mvt : Nat → Int32} {Msh : Nat → Int32} (hs : s ≤ 1) (hnp : np ≤ 20) (hr : Mpr s = nI np) (hcop : Mcop s = nI C) (hC : 2 ≤ C ∧ C ≤ 32) (hR : SR (22 * s) np X Y Mpf Mpt) (hX : ∀ k, k < np → X k < Y k) : ∀ (r j fu : Nat), j + r = np → r < fu →
    (g_X7_read_136 F fu 0 (nI (22 * s + j)) thr sz has hand Ml Mk Mn Mz Mt Msp Mcop Mca Mpr Mpf Mpt Mvi Mvf Mvt Msh li p (nI s) f w ws so = mb3 (f_X7_keepPress F 0 (nI (C - 1)) Mpr Mpf Mpt (nI s)) (fun M_presses_5 M_pressFrom_6 M_pressTo_7 => g_X7_read_220 F thr sz has hand Ml Mk Mn Mz Mt Msp Mcop Mca M_presses_5 M_pressFrom_6 M_pressTo_7 Mvi Mvf Mvt Msh li p (nI s) f w ws so) ∧ ∀ k, j ≤ k → k < np → ¬ Y k - X k = C - 1) ∨ (g_X7_read_136 F fu 0 (nI (22 * s + j)) thr sz has hand Ml Mk Mn Mz Mt Msp Mcop Mca Mpr Mpf Mpt Mvi Mvf Mvt Msh li p (nI s) f w ws so = g_X7_read_220 F thr sz has hand Ml Mk Mn Mz Mt Msp Mcop Mca Mpr Mpf Mpt Mvi Mvf Mvt Msh li p (nI s) f w ws so ∧ ∃ k, j ≤ k ∧ k < np ∧ Y k - X k = C - 1) := by
  intro r
  have e9 : nI C - 1 = nI (C - 1) := nI_s1 (by omega)
  induction r with
  | zero =>
    intro j fu he hf
    obtain ⟨fu, rfl⟩ : ∃ z, fu = z + 1 := ⟨fu - 1, by omega⟩
    refine Or.inl ⟨?_, fun k h1 h2 => by omega⟩
    rw [g_X7_read_136_s]
    simp (disch := omega) only [mg_in, if10, if00, if_true, if_false, nI_1, nI_s1, mn_e, mb1_v, mb2_v, mb3_v, mb4_v, nI_clamp, nI_add, pk_mul, if_leT, if_leF, if_ltT, if_ltF, if_eqT, if_eqF, if_m1F, if_m1F2, if_m1T, if_m1ltT, if_m1leT, if_m1leF, if_m1ltF, if_e1T, if_e1F, if_1eT, if_1eF, if_le1T, if_le1F, if_1ltT, if_1ltF, iL0, iL2, iL3, iL4, iL5, iL6, iL7, iL8, iL9, iL10, iL20, iL21, iL22, iL31, iL32, iL40, iL46, iL48, iL57, iL64, iL65, iL80, iL81, iL90, iL96, iL97, iL100, iL122, iL126, iL127, iL500, iL1000, iL3000, iL9999999, hr, hcop]
  | succ r ih =>
    intro j fu he hf
    obtain ⟨fu, rfl⟩ : ∃ z, fu = z + 1 := ⟨fu - 1, by omega⟩
    obtain ⟨h1, h2, h3, h4⟩ := hR j (by omega)
    have hX1 := hX j (by omega)
    have e8 : nI (Y j) - nI (X j) = nI (Y j - X j) := nI_sub (by omega)
    have ea : 22 * s + j + 1 = 22 * s + (j + 1) := by omega
    rw [g_X7_read_136_s]
    by_cases q : Y j - X j = C - 1
    · have i1 := a136_1 (F := F) (thr := thr) (sz := sz) (has := has) (hand := hand) (li := li) (p := p) (f := f) (w := w) (ws := ws) (so := so) (Ml := Ml) (Mk := Mk) (Mn := Mn) (Mz := Mz) (Mt := Mt) (Msp := Msp) (Mcop := Mcop) (Mca := Mca) (Mpf := Mpf) (Mpt := Mpt) (Mvi := Mvi) (Mvf := Mvf) (Mvt := Mvt) (Msh := Msh) hs hnp hr r (j + 1) fu (by omega) (by omega)
      refine Or.inr ⟨?_, j, by omega, by omega, q⟩
      simp (disch := omega) only [mg_in, if10, if00, if_true, if_false, nI_1, nI_s1, mn_e, mb1_v, mb2_v, mb3_v, mb4_v, nI_clamp, nI_add, pk_mul, if_leT, if_leF, if_ltT, if_ltF, if_eqT, if_eqF, if_m1F, if_m1F2, if_m1T, if_m1ltT, if_m1leT, if_m1leF, if_m1ltF, if_e1T, if_e1F, if_1eT, if_1eF, if_le1T, if_le1F, if_1ltT, if_1ltF, iL0, iL2, iL3, iL4, iL5, iL6, iL7, iL8, iL9, iL10, iL20, iL21, iL22, iL31, iL32, iL40, iL46, iL48, iL57, iL64, iL65, iL80, iL81, iL90, iL96, iL97, iL100, iL122, iL126, iL127, iL500, iL1000, iL3000, iL9999999, hr, hcop, h1, h2, e8, e9, ea, i1]
    · have st : ∀ (u v : Option (Int32 × Int32 × Int32 × Int32 × Int32 × (Nat → Int32) × (Nat → Int32) × (Nat → Int64) × (Nat → Int32) × (Nat → Int64) × (Nat → Int32) × (Nat → Int32) × (Nat → Int32) × (Nat → Int32) × (Nat → Int32) × (Nat → Int32) × (Nat → Int32) × (Nat → Int32) × (Nat → Int32) × (Nat → Int32) × Int32 × Int32 × Int32 × Int32 × Int64 × Int32 × Int32)), mg (inb (nI s) 2) (if ((22 : Int32) * (nI s)) + (Mpr (nI s).toNatClampNeg) ≤ nI (22 * s + j) then u else v) = v := by
        intro u v
        simp (disch := omega) only [mg_in, if10, if00, if_true, if_false, nI_1, nI_s1, mn_e, mb1_v, mb2_v, mb3_v, mb4_v, nI_clamp, nI_add, pk_mul, if_leT, if_leF, if_ltT, if_ltF, if_eqT, if_eqF, if_m1F, if_m1F2, if_m1T, if_m1ltT, if_m1leT, if_m1leF, if_m1ltF, if_e1T, if_e1F, if_1eT, if_1eF, if_le1T, if_le1F, if_1ltT, if_1ltF, iL0, iL2, iL3, iL4, iL5, iL6, iL7, iL8, iL9, iL10, iL20, iL21, iL22, iL31, iL32, iL40, iL46, iL48, iL57, iL64, iL65, iL80, iL81, iL90, iL96, iL97, iL100, iL122, iL126, iL127, iL500, iL1000, iL3000, iL9999999, hr]
      rw [st]
      simp (disch := omega) only [mg_in, if10, if00, if_true, if_false, nI_1, nI_s1, mn_e, mb1_v, mb2_v, mb3_v, mb4_v, nI_clamp, nI_add, pk_mul, if_leT, if_leF, if_ltT, if_ltF, if_eqT, if_eqF, if_m1F, if_m1F2, if_m1T, if_m1ltT, if_m1leT, if_m1leF, if_m1ltF, if_e1T, if_e1F, if_1eT, if_1eF, if_le1T, if_le1F, if_1ltT, if_1ltF, iL0, iL2, iL3, iL4, iL5, iL6, iL7, iL8, iL9, iL10, iL20, iL21, iL22, iL31, iL32, iL40, iL46, iL48, iL57, iL64, iL65, iL80, iL81, iL90, iL96, iL97, iL100, iL122, iL126, iL127, iL500, iL1000, iL3000, iL9999999, hcop, h1, h2, e8, e9, ea]
      rcases ih (j + 1) fu (by omega) (by omega) with ⟨w1, w2⟩ | ⟨w1, k, w2, w3, w4⟩
      · refine Or.inl ⟨w1, fun k k1 k2 => ?_⟩
        by_cases e : k = j
        · rw [e]; exact q
        · exact w2 k (by omega) k2
      · exact Or.inr ⟨w1, k, by omega, w3, w4⟩
def readO (n s : Nat) (has hand li : Int32) (Msh : Nat → Int32) (Ml0 Mk0 : Nat → Int32) (Mn0 : Nat → Int64) (Mz0 : Nat → Int32) (Mt0 : Nat → Int64) (Msp0 Mcop0 Mca0 Mpr0 Mpf0 Mpt0 Mvi0 Mvf0 Mvt0 : Nat → Int32) (oc : Option (Int32 × Int32 × Int32 × Int32 × (Nat → Int32) × (Nat → Int64) × (Nat → Int32) × (Nat → Int32) × (Nat → Int32) × (Nat → Int32) × (Nat → Int32) × (Nat → Int32) × (Nat → Int32) × Int32 × Int32 × (Nat → Int32) × (Nat → Int32) × Int32 × Int32 × Int32 × Int32)) (om : Option (Int32 × Int32 × Int32 × Int32 × Int32 × (Nat → Int32) × (Nat → Int32) × (Nat → Int64) × (Nat → Int32) × (Nat → Int64) × (Nat → Int32) × (Nat → Int32) × (Nat → Int32) × (Nat → Int32) × (Nat → Int32) × (Nat → Int32) × (Nat → Int32) × (Nat → Int32) × (Nat → Int32) × (Nat → Int32) × Int32 × Int32 × Int32 × Int32 × Int64 × Int32 × Int32)) : Prop :=
  ∃ (Ml' Mk' : Nat → Int32) (Mn' : Nat → Int64) (Mz' : Nat → Int32) (Mt' : Nat → Int64) (Msp' Mcop' Mca' Mpr' Mpf' Mpt' Mvi' Mvf' Mvt' : Nat → Int32) (Msh' : Nat → Int32) (p f : Int32) (w : Int64) (ws so : Int32), FL s Ml0 Ml' Mk0 Mk' Mn0 Mn' Mz0 Mz' Mt0 Mt' Msp0 Msp' Mcop0 Mcop' Mca0 Mca' ∧ FP s Mpr0 Mpr' Mpf0 Mpf' Mpt0 Mpt' Mvi0 Mvi' Mvf0 Mvf' Mvt0 Mvt' ∧
    ((∃ (L C c nv : Nat) (X Y U V : Nat → Nat) (bk' : Nat → Int32) (bn' : Nat → Int64) (bh' bd' br' bu' bY' pf' pl' : Nat → Int32) (td' : Int32) (vf' vl' : Nat → Int32) (at' ls' fa' I' : Int32), oc = some (-1, at', ls', fa', bk', bn', bh', bd', br', bu', bY', pf', pl', nI c, td', vf', vl', nI nv, nI L, nI C, I') ∧ om = some (nI L, 0, 0, 1, nI s, Ml', Mk', Mn', Mz', Mt', Msp', Mcop', Mca', Mpr', Mpf', Mpt', Mvi', Mvf', Mvt', Msh', 0, p, nI s, f, w, ws, so) ∧ LV s L C c nv X Y U V bk' bn' bh' bd' bu' bY' pf' pl' vf' vl' Ml' Mk' Mn' Mz' Mt' Msp' Mcop' Mca' Mpr' Mpf' Mpt' Mvi' Mvf' Mvt' ∧ (∀ k, k < L → br' k = 1000) ∧ ∀ k, k < 32 → Msh' k = 1000) ∨
     (∃ (e : Nat) (at' ls' fa' : Int32) (bk' : Nat → Int32) (bn' : Nat → Int64) (bh' bd' br' bu' bY' pf' pl' : Nat → Int32) (c' td' : Int32) (vf' vl' : Nat → Int32) (nv' L' C' I' : Int32), e ≤ n ∧ oc = some (nI e, at', ls', fa', bk', bn', bh', bd', br', bu', bY', pf', pl', c', td', vf', vl', nv', L', C', I') ∧ om = some (-1 - nI e, 0, nI n, has, hand, Ml', Mk', Mn', Mz', Mt', Msp', Mcop', Mca', Mpr', Mpf', Mpt', Mvi', Mvf', Mvt', Msh', li, p, nI s, f, w, ws, so) ∧ Msh' = Msh))
theorem end_r {F n s a L C c np nv : Nat} {td : Bool} {X Y U V : Nat → Nat} {at' ls fa has hand li p : Int32} {w : Int64} {ws so : Int32} {bk : Nat → Int32} {bn : Nat → Int64} {bh bd br bu bY pf pl vf vl : Nat → Int32} {Ml Mk : Nat → Int32} {Mn : Nat → Int64} {Mz : Nat → Int32} {Mt : Nat → Int64} {Msp Mcop Mca Mpr Mpf Mpt Mvi Mvf Mvt : Nat → Int32} {Ml0 Mk0 : Nat → Int32} {Mn0 : Nat → Int64} {Mz0 : Nat → Int32} {Mt0 : Nat → Int64} {Msp0 Mcop0 Mca0 Mpr0 Mpf0 Mpt0 Mvi0 Mvf0 Mvt0 : Nat → Int32} {Msh : Nat → Int32} (hF : 4000 ≤ F) (hn : n ≤ 512) (R : RS n s a L C c np nv td X Y U V bk bn bh bd br bu bY pf pl vf vl Ml Mk Mn Mz Mt Msp Mcop Mca Mpr Mpf Mpt Mvi Mvf Mvt) (f1 : FL s Ml0 Ml Mk0 Mk Mn0 Mn Mz0 Mz Mt0 Mt Msp0 Msp Mcop0 Mcop Mca0 Mca) (f2 : FP s Mpr0 Mpr Mpf0 Mpf Mpt0 Mpt Mvi0 Mvi Mvf0 Mvf Mvt0 Mvt) :
    readO n s has hand li Msh Ml0 Mk0 Mn0 Mz0 Mt0 Msp0 Mcop0 Mca0 Mpr0 Mpf0 Mpt0 Mvi0 Mvf0 Mvt0 (mb4 (f_X0_endLayers F bk pf pl (nI c) (nI L) (nI C)) (fun r_9 b_p_s_f_10 b_p_s_l_11 b_p_s_c_12 => (if r_9 = 0 then some (nI n, at', ls, fa, bk, bn, bh, bd, br, bu, bY, b_p_s_f_10, b_p_s_l_11, b_p_s_c_12, bI td, vf, vl, nI nv, nI L, nI C, bI (ins bk L)) else some ((-1 : Int32), at', ls, fa, bk, bn, bh, bd, br, bu, bY, b_p_s_f_10, b_p_s_l_11, b_p_s_c_12, bI td, vf, vl, nI nv, nI L, nI C, bI (ins bk L)))))
      (g_X7_read_90 F 0 (nI n) has hand Ml Mk Mn Mz Mt Msp Mcop Mca Mpr Mpf Mpt Mvi Mvf Mvt Msh li p (nI s) (-1) w ws so) := by
  obtain ⟨B, ⟨hl, hcop, hr, hvr⟩, P, R0, R1, hnv, V0, V1, UV, sh, fi, cn, len, an⟩ := R
  obtain ⟨hs, hL2, hC2⟩ := B.1
  unfold g_X7_read_90
  rw [gd_t, mb1_v, if10]
  rcases end_sim (F := F) hF B hl hcop P R0 R1 with ⟨c', X', Y', pf', pl', e1, e2, e3, e4, e5, e6, e7, e8⟩ | ⟨e1, e2⟩
  · rw [e1, e2, mb4_v, mb1_v, if10, if10]
    unfold g_X7_read_112
    rw [gd_t, mb1_v, if10, mn_e, iL22, pk_mul]
    have e6' := e6
    obtain ⟨PV0, hnp2, hC3, hst⟩ := e6
    have hst := hst.resolve_left (by omega)
    obtain ⟨_, hl1, hl2, hst⟩ := hst
    have hnc : np ≤ c' ∧ c' ≤ np + 1 := by rcases hst with ⟨_, q⟩ | ⟨_, q⟩ <;> omega
    have v1 := PV0.1
    have fin : ∀ Mpr9 Mpf9 Mpt9 : Nat → Int32, Mpr9 s = nI c' → SR (22 * s) c' X' Y' Mpf9 Mpt9 → fr 1 s Mpr9 Mpr → fr 22 s Mpf9 Mpf → fr 22 s Mpt9 Mpt → readO n s has hand li Msh Ml0 Mk0 Mn0 Mz0 Mt0 Msp0 Mcop0 Mca0 Mpr0 Mpf0 Mpt0 Mvi0 Mvf0 Mvt0 (some ((-1 : Int32), at', ls, fa, bk, bn, bh, bd, br, bu, bY, pf', pl', nI c', bI td, vf, vl, nI nv, nI L, nI C, bI (ins bk L))) (g_X7_read_220 F 0 (nI n) has hand Ml Mk Mn Mz Mt Msp Mcop Mca Mpr9 Mpf9 Mpt9 Mvi Mvf Mvt Msh li p (nI s) (-1) w ws so) := by
      intro Mpr9 Mpf9 Mpt9 g1 g2 g3 g4 g5
      unfold g_X7_read_220
      obtain ⟨Msh', h1, h2⟩ := sh_loop (F := F) (thr := 0) (sz := 0) (has := 1) (hand := nI s) (li := 0) (p := p) (f := -1) (w := w) (ws := ws) (so := so) (Mk := Mk) (Mn := Mn) (Mz := Mz) (Mt := Mt) (Msp := Msp) (Mcop := Mcop) (Mca := Mca) (Mpr := Mpr9) (Mpf := Mpf9) (Mpt := Mpt9) (Mvi := Mvi) (Mvf := Mvf) (Mvt := Mvt) hs hl 32 0 F Msh (by omega) (by omega) (fun j hj => by omega)
      obtain ⟨q1, q2, q3, q4⟩ := f2
      exact ⟨_, _, _, _, _, _, _, _, _, _, _, _, _, _, _, _, _, _, _, _, f1, ⟨fr_t g3 q1, fr_t g4 q2, fr_t g5 q3, q4⟩, Or.inl ⟨L, C, c', nv, X', Y', U, V, bk, bn, bh, bd, br, bu, bY, pf', pl', _, vf, vl, _, _, _, _, rfl, h1, ⟨B, ⟨hl, hcop, g1, hvr⟩, PV0, ⟨e3, by omega, hl1, hl2, e4, e5, by omega⟩, e7, g2, hnv, V0, V1, UV⟩, sh, h2⟩⟩
    have lp := a136_0 (F := F) (thr := 0) (sz := nI n) (has := has) (hand := hand) (li := li) (p := p) (f := -1) (w := w) (ws := ws) (so := so) (Ml := Ml) (Mk := Mk) (Mn := Mn) (Mz := Mz) (Mt := Mt) (Msp := Msp) (Mca := Mca) (Mvi := Mvi) (Mvf := Mvf) (Mvt := Mvt) (Msh := Msh) hs hnp2 hr hcop ⟨e4, hC2⟩ e8 (fun k hk => (v1 k (by omega)).1) np 0 F (by omega) (by omega)
    rw [Nat.add_zero] at lp
    rcases lp with ⟨w1, w2⟩ | ⟨w1, k, w2, w3, w4⟩
    · rw [show g_X7_read_136 F F 0 (nI (22 * s)) 0 (nI n) has hand Ml Mk Mn Mz Mt Msp Mcop Mca Mpr Mpf Mpt Mvi Mvf Mvt Msh li p (nI s) (-1) w ws so = _ from w1]
      have hn1 : np + 1 = c' := by
        rcases hst with ⟨_, q⟩ | ⟨_, q⟩
        · exact q
        · have := w2 (c' - 1) (by omega) (by omega)
          rw [hl1, hl2] at this
          omega
      obtain ⟨Mpf', Mpt', d1, d2, d3, d4⟩ := keep_ok (F := F) (p := np) (x := 0) (y := C - 1) hF hs (show np ≤ 21 by omega) hr (by omega) (fun k hk => (v1 k (by omega)).1) e8 (by omega) (show C - 1 < 100 by omega) (fun k hk => by have := v1 k (by omega); omega) (fun k h1 h2 => by omega)
      rw [iL0, d1, mb3_v]
      refine fin _ _ _ (by rw [pk_us, hn1]) ?_ (fr_u ⟨by omega, by omega⟩) d2 d3
      intro k hk
      have := d4 k (by omega)
      rw [inA_np (by omega) (by rw [show np = c' - 1 by omega]; exact hl1), inA_np (by omega) (by rw [show np = c' - 1 by omega]; exact hl2)] at this
      exact this
    · rw [show g_X7_read_136 F F 0 (nI (22 * s)) 0 (nI n) has hand Ml Mk Mn Mz Mt Msp Mcop Mca Mpr Mpf Mpt Mvi Mvf Mvt Msh li p (nI s) (-1) w ws so = _ from w1]
      have hn1 : np = c' := by
        rcases hst with ⟨_, q⟩ | ⟨_, q⟩
        · exfalso
          have a1 := (PV0.2 k (c' - 1) (by omega) (by omega)).1
          rw [hl1, hl2] at a1
          have a2 := v1 k (by omega)
          omega
        · exact q
      exact fin _ _ _ (by rw [hr, hn1]) (by rw [← hn1]; exact e8) fr_r fr_r fr_r
  · rw [e1, e2, mb4_v, mb1_v, if00, if00, fl_t, mb1_v]
    unfold g_X7_read_112
    rw [gd_f (by omega), mb1_v, if00]
    exact ⟨_, _, _, _, _, _, _, _, _, _, _, _, _, _, _, _, _, _, _, _, f1, f2, Or.inr ⟨n, _, _, _, _, _, _, _, _, _, _, _, _, _, _, _, _, _, _, _, _, by omega, rfl, rfl, rfl⟩⟩
theorem rd_loop {F n s : Nat} {ch tx : Nat → Int32} {has hand li : Int32} {Ml0 Mk0 : Nat → Int32} {Mn0 : Nat → Int64} {Mz0 : Nat → Int32} {Mt0 : Nat → Int64} {Msp0 Mcop0 Mca0 Mpr0 Mpf0 Mpt0 Mvi0 Mvf0 Mvt0 : Nat → Int32} {Msh : Nat → Int32} (hF : 4000 ≤ F) (T : TX n ch tx) :
    ∀ (r a v2 fu1 fu2 L C c np nv : Nat) (td : Bool) (X Y U V : Nat → Nat) (ls fa : Int32) (w : Int64) (ws so : Int32) (bk : Nat → Int32) (bn : Nat → Int64) (bh bd br bu bY pf pl vf vl : Nat → Int32) (Ml Mk : Nat → Int32) (Mn : Nat → Int64) (Mz : Nat → Int32) (Mt : Nat → Int64) (Msp Mcop Mca Mpr Mpf Mpt Mvi Mvf Mvt : Nat → Int32), n ≤ a + r → r < fu1 → r < fu2 → v2 ≤ a → RS n s a L C c np nv td X Y U V bk bn bh bd br bu bY pf pl vf vl Ml Mk Mn Mz Mt Msp Mcop Mca Mpr Mpf Mpt Mvi Mvf Mvt → FL s Ml0 Ml Mk0 Mk Mn0 Mn Mz0 Mz Mt0 Mt Msp0 Msp Mcop0 Mcop Mca0 Mca → FP s Mpr0 Mpr Mpf0 Mpf Mpt0 Mpt Mvi0 Mvi Mvf0 Mvf Mvt0 Mvt →
    readO n s has hand li Msh Ml0 Mk0 Mn0 Mz0 Mt0 Msp0 Mcop0 Mca0 Mpr0 Mpf0 Mpt0 Mvi0 Mvf0 Mvt0 (g_X4_readInto_16 F fu1 (nI v2) ch (nI n) (nI a) ls fa bk bn bh bd br bu bY pf pl (nI c) (bI td) vf vl (nI nv) (nI L) (nI C) (bI (ins bk L))) (g_X7_read_65 F fu2 0 tx (nI n) has hand Ml Mk Mn Mz Mt Msp Mcop Mca Mpr Mpf Mpt Mvi Mvf Mvt Msh li (nI a) (nI s) (-1) w ws so) := by
  have hn := T.1
  intro r
  induction r with
  | zero =>
    intro a v2 fu1 fu2 L C c np nv td X Y U V ls fa w ws so bk bn bh bd br bu bY pf pl vf vl Ml Mk Mn Mz Mt Msp Mcop Mca Mpr Mpf Mpt Mvi Mvf Mvt ha h1 h2 hv R f1 f2
    obtain ⟨fu1, rfl⟩ : ∃ z, fu1 = z + 1 := ⟨fu1 - 1, by omega⟩
    obtain ⟨fu2, rfl⟩ : ∃ z, fu2 = z + 1 := ⟨fu2 - 1, by omega⟩
    have an : a ≤ n := R.2.2.2.2.2.2.2.2.2.2.2.2.2
    rw [g_X4_readInto_16_s, g_X7_read_65_s, iL3000, if_leF (by omega) (by omega), if_leT (by omega) (by omega), gd_t, mb1_v, if10, if_leT (by omega) (by omega)]
    exact end_r hF hn R f1 f2
  | succ r ih =>
    intro a v2 fu1 fu2 L C c np nv td X Y U V ls fa w ws so bk bn bh bd br bu bY pf pl vf vl Ml Mk Mn Mz Mt Msp Mcop Mca Mpr Mpf Mpt Mvi Mvf Mvt ha h1 h2 hv R f1 f2
    obtain ⟨fu1, rfl⟩ : ∃ z, fu1 = z + 1 := ⟨fu1 - 1, by omega⟩
    obtain ⟨fu2, rfl⟩ : ∃ z, fu2 = z + 1 := ⟨fu2 - 1, by omega⟩
    have an : a ≤ n := R.2.2.2.2.2.2.2.2.2.2.2.2.2
    by_cases q : n ≤ a
    · rw [g_X4_readInto_16_s, g_X7_read_65_s, iL3000, if_leF (by omega) (by omega), if_leT (by omega) (by omega), gd_t, mb1_v, if10, if_leT (by omega) (by omega)]
      exact end_r hF hn R f1 f2
    · have ln := line_sim (F := F) (ls := ls) (fa := fa) (w0 := w) (ws0 := ws) (so0 := so) hF T R
      obtain ⟨Ml', Mk', Mn', Mz', Mt', Msp', Mcop', Mca', Mpr', Mpf', Mpt', Mvi', Mvf', Mvt', p', f', w', ws', so', o1, o2, o3, o4⟩ := ln
      rw [g_X4_readInto_16_s, g_X7_read_65_s, iL3000, if_leF (by omega) (by omega), if_leF (by omega) (by omega), gd_t, mb1_v, if10, if_leF (by omega) (by omega), o1, mb19_v]
      rcases o4 with ⟨a', L', C', c', np', nv', td', X', Y', U', V', bk', bn', bh', bd', br', bu', bY', pf', pl', vf', vl', ls', q1, q2, q3, q4, q5⟩ | ⟨e, p1, ls', bk', bn', bh', bd', br', bu', bY', pf', pl', c', td', vf', vl', nv', L', C', I', q1, q2, q3⟩
      · rw [q4, mb21_v, if10, mn_e, nI_1]
        subst q2 q3
        exact ih a' (v2 + 1) fu1 fu2 L' C' c' np' nv' td' X' Y' U' V' ls' fa w' ws' so' bk' bn' bh' bd' br' bu' bY' pf' pl' vf' vl' Ml' Mk' Mn' Mz' Mt' Msp' Mcop' Mca' Mpr' Mpf' Mpt' Mvi' Mvf' Mvt' (by omega) (by omega) (by omega) (by omega) q5 (FL_t f1 o2) (FP_t f2 o3)
      · rw [q3, mb21_v, if00]
        subst q2
        have hb : ∀ G, 1 ≤ G → g_X7_read_65 F G 0 tx (nI n) has hand Ml' Mk' Mn' Mz' Mt' Msp' Mcop' Mca' Mpr' Mpf' Mpt' Mvi' Mvf' Mvt' Msh li p' (nI s) (nI e) w' ws' so' = some (-1 - nI e, 0, nI n, has, hand, Ml', Mk', Mn', Mz', Mt', Msp', Mcop', Mca', Mpr', Mpf', Mpt', Mvi', Mvf', Mvt', Msh, li, p', nI s, nI e, w', ws', so') := by
          intro G hG
          obtain ⟨fu, rfl⟩ : ∃ z, G = z + 1 := ⟨G - 1, by omega⟩
          rw [g_X7_read_65_s, gd_f (by omega), mb1_v, if00]
          unfold g_X7_read_90
          rw [gd_f (by omega), mb1_v, if00]
          unfold g_X7_read_112
          rw [gd_f (by omega), mb1_v, if00]
        rw [hb fu2 (by omega)]
        exact ⟨_, _, _, _, _, _, _, _, _, _, _, _, _, _, _, _, _, _, _, _, FL_t f1 o2, FP_t f2 o3, Or.inr ⟨e, _, _, _, _, _, _, _, _, _, _, _, _, _, _, _, _, _, _, _, _, q1, rfl, rfl, rfl⟩⟩
theorem read_sim {F n h : Nat} {ch tx : Nat → Int32} {at0 ls fa c0 td0 nv0 L0 C0 I0 thr has li p0 s0 f0 : Int32} {w : Int64} {ws so : Int32} {bk : Nat → Int32} {bn : Nat → Int64} {bh bd br bu bY pf pl vf vl : Nat → Int32} {Ml Mk : Nat → Int32} {Mn : Nat → Int64} {Mz : Nat → Int32} {Mt : Nat → Int64} {Msp Mcop Mca Mpr Mpf Mpt Mvi Mvf Mvt : Nat → Int32} {Msh : Nat → Int32} (hF : 4000 ≤ F) (T : TX n ch tx) (hh : h ≤ 1) :
    readO n (1 - h) has (nI h) li Msh Ml Mk Mn Mz Mt Msp Mcop Mca Mpr Mpf Mpt Mvi Mvf Mvt (f_X4_readInto F ch (nI n) at0 ls fa bk bn bh bd br bu bY pf pl c0 td0 vf vl nv0 L0 C0 I0) (f_X7_read F thr tx (nI n) has (nI h) Ml Mk Mn Mz Mt Msp Mcop Mca Mpr Mpf Mpt Mvi Mvf Mvt Msh li p0 s0 f0 w ws so) := by
  have hn := T.1
  have e1 : (1 : Int32) - nI h = nI (1 - h) := nI_sub (a := 1) hh
  have hs : 1 - h ≤ 1 := by omega
  generalize 1 - h = s at *
  have u : ∀ g : Nat → Int32, fr 1 s (upd g s 0) g := fun g => fr_u ⟨by omega, by omega⟩
  have R : RS n s 0 0 0 0 0 0 false (fun _ => 0) (fun _ => 0) (fun _ => 0) (fun _ => 0) bk bn bh bd br bu bY pf pl vf vl (upd Ml s 0) Mk Mn Mz Mt Msp (upd Mcop s 0) Mca (upd Mpr s 0) Mpf Mpt (upd Mvi s 0) Mvf Mvt :=
    ⟨⟨⟨hs, by omega, by omega⟩, fun k hk => by omega, fun k hk => by omega, fun k hk => by omega⟩, ⟨pk_us, pk_us, pk_us, pk_us⟩, ⟨⟨fun k hk => by omega, fun i j _ hj => by omega⟩, by omega, by omega, Or.inl ⟨rfl, rfl, rfl⟩⟩, fun k hk => by omega, fun k hk => by omega, by omega, fun k hk => by omega, fun k hk => by omega, fun k hk => by omega, fun k hk => by omega, Or.inl rfl, Or.inl rfl, by omega, by omega⟩
  have lp := rd_loop (F := F) (has := has) (hand := nI h) (li := li) (Msh := Msh) hF T n 0 0 F F 0 0 0 0 0 false (fun _ => 0) (fun _ => 0) (fun _ => 0) (fun _ => 0) ls (-1) w ws so bk bn bh bd br bu bY pf pl vf vl (upd Ml s 0) Mk Mn Mz Mt Msp (upd Mcop s 0) Mca (upd Mpr s 0) Mpf Mpt (upd Mvi s 0) Mvf Mvt (by omega) (by omega) (by omega) (by omega) R ⟨u Ml, fr_r, fr_r, fr_r, fr_r, fr_r, u Mcop, fr_r⟩ ⟨u Mpr, fr_r, fr_r, u Mvi, fr_r, fr_r⟩
  unfold f_X4_readInto f_X7_read f_X0_clear f_X2_clear
  rw [e1]
  simp (disch := omega) only [mg_in, nI_clamp, mb2_v, mb6_v]
  exact lp
