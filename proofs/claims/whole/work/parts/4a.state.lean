theorem fr_at {α : Type} {b h k : Nat} {f g : Nat → α} (hh : h ≤ 1) (hk : k < b) (H : fr b (1 - h) f g) : f (b * h + k) = g (b * h + k) := by
  rcases (show h = 0 ∨ h = 1 by omega) with rfl | rfl
  · exact H _ (Or.inl (by rw [Nat.mul_zero, Nat.zero_add]; show k < b * 1; rw [Nat.mul_one]; exact hk))
  · exact H _ (Or.inr (by show b * 0 + b ≤ b * 1 + k; rw [Nat.mul_zero, Nat.mul_one, Nat.zero_add]; exact Nat.le_add_right _ _))
theorem fr_at1 {h : Nat} {f g : Nat → Int32} (hh : h ≤ 1) (H : fr 1 (1 - h) f g) : f h = g h := by
  have e := fr_at (k := 0) hh (by omega) H
  rw [Nat.one_mul, Nat.add_zero] at e
  exact e
theorem BR_fr {h L C : Nat} {bk : Nat → Int32} {bn : Nat → Int64} {bh bd bu bY : Nat → Int32} {Ml Mk : Nat → Int32} {Mn : Nat → Int64} {Mz : Nat → Int32} {Mt : Nat → Int64} {Msp Mcop Mca : Nat → Int32} {Ml' Mk' : Nat → Int32} {Mn' : Nat → Int64} {Mz' : Nat → Int32} {Mt' : Nat → Int64} {Msp' Mcop' Mca' : Nat → Int32} (B : BR h L C bk bn bh bd bu bY Mk Mn Mz Mt Msp Mca) (f1 : FL (1 - h) Ml Ml' Mk Mk' Mn Mn' Mz Mz' Mt Mt' Msp Msp' Mcop Mcop' Mca Mca') : BR h L C bk bn bh bd bu bY Mk' Mn' Mz' Mt' Msp' Mca' := by
  obtain ⟨⟨hh, hL, hC⟩, hlk, hc, hu⟩ := B
  obtain ⟨_, e2, e3, e4, e5, e6, _, e8⟩ := f1
  refine ⟨⟨hh, hL, hC⟩, fun k hk => ?_, fun c hc' => ?_, hu⟩
  · rw [fr_at hh (show k < 80 by omega) e2, fr_at hh (show k < 80 by omega) e3, fr_at hh (show k < 80 by omega) e4, fr_at hh (show k < 80 by omega) e5, fr_at hh (show k < 80 by omega) e6]
    exact hlk k hk
  · rw [fr_at hh (show c < 32 by omega) e8]
    exact hc c hc'
theorem SR_fr {b h c : Nat} {X Y : Nat → Nat} {f g f' g' : Nat → Int32} (hh : h ≤ 1) (hc : c ≤ b) (R : SR (b * h) c X Y f g) (e1 : fr b (1 - h) f' f) (e2 : fr b (1 - h) g' g) : SR (b * h) c X Y f' g' := by
  intro k hk
  rw [fr_at hh (show k < b by omega) e1, fr_at hh (show k < b by omega) e2]
  exact R k hk
theorem LV_fr {h L C c nv : Nat} {X Y U V : Nat → Nat} {bk : Nat → Int32} {bn : Nat → Int64} {bh bd bu bY pf pl vf vl : Nat → Int32} {Ml Mk : Nat → Int32} {Mn : Nat → Int64} {Mz : Nat → Int32} {Mt : Nat → Int64} {Msp Mcop Mca Mpr Mpf Mpt Mvi Mvf Mvt : Nat → Int32} {Ml' Mk' : Nat → Int32} {Mn' : Nat → Int64} {Mz' : Nat → Int32} {Mt' : Nat → Int64} {Msp' Mcop' Mca' Mpr' Mpf' Mpt' Mvi' Mvf' Mvt' : Nat → Int32} (W : LV h L C c nv X Y U V bk bn bh bd bu bY pf pl vf vl Ml Mk Mn Mz Mt Msp Mcop Mca Mpr Mpf Mpt Mvi Mvf Mvt) (f1 : FL (1 - h) Ml Ml' Mk Mk' Mn Mn' Mz Mz' Mt Mt' Msp Msp' Mcop Mcop' Mca Mca') (f2 : FP (1 - h) Mpr Mpr' Mpf Mpf' Mpt Mpt' Mvi Mvi' Mvf Mvf' Mvt Mvt') : LV h L C c nv X Y U V bk bn bh bd bu bY pf pl vf vl Ml' Mk' Mn' Mz' Mt' Msp' Mcop' Mca' Mpr' Mpf' Mpt' Mvi' Mvf' Mvt' := by
  obtain ⟨B, ⟨hl, hcop, hr, hvr⟩, PV0, hm, R0, R1, hnv, V0, V1, UV⟩ := W
  have hh := B.1.1
  have g1 := f1
  obtain ⟨e1, _, _, _, _, _, e7, _⟩ := g1
  obtain ⟨d1, d2, d3, d4, d5, d6⟩ := f2
  exact ⟨BR_fr B f1, ⟨by rw [fr_at1 hh e1]; exact hl, by rw [fr_at1 hh e7]; exact hcop, by rw [fr_at1 hh d1]; exact hr, by rw [fr_at1 hh d4]; exact hvr⟩, PV0, hm, R0, SR_fr hh (by omega) R1 d2 d3, hnv, V0, SR_fr hh hnv V1 d5 d6, UV⟩
theorem QW_fr {h L C c nv : Nat} {hs : Bool} {X Y U V : Nat → Nat} {bk : Nat → Int32} {bn : Nat → Int64} {bh bd bu bY pf pl vf vl : Nat → Int32} {Ml Mk : Nat → Int32} {Mn : Nat → Int64} {Mz : Nat → Int32} {Mt : Nat → Int64} {Msp Mcop Mca Mpr Mpf Mpt Mvi Mvf Mvt : Nat → Int32} {Ml' Mk' : Nat → Int32} {Mn' : Nat → Int64} {Mz' : Nat → Int32} {Mt' : Nat → Int64} {Msp' Mcop' Mca' Mpr' Mpf' Mpt' Mvi' Mvf' Mvt' : Nat → Int32} (W : QW hs h L C c nv X Y U V bk bn bh bd bu bY pf pl vf vl Ml Mk Mn Mz Mt Msp Mcop Mca Mpr Mpf Mpt Mvi Mvf Mvt) (f1 : FL (1 - h) Ml Ml' Mk Mk' Mn Mn' Mz Mz' Mt Mt' Msp Msp' Mcop Mcop' Mca Mca') (f2 : FP (1 - h) Mpr Mpr' Mpf Mpf' Mpt Mpt' Mvi Mvi' Mvf Mvf' Mvt Mvt') : QW hs h L C c nv X Y U V bk bn bh bd bu bY pf pl vf vl Ml' Mk' Mn' Mz' Mt' Msp' Mcop' Mca' Mpr' Mpf' Mpt' Mvi' Mvf' Mvt' := by
  obtain ⟨B, ⟨hl, hcop, hr, hvr⟩, PV0, c21, R0, R1, hnv, V0, V1, h0, h1⟩ := W
  have hh := B.1.1
  have g1 := f1
  obtain ⟨e1, _, _, _, _, _, e7, _⟩ := g1
  have g2 := f2
  obtain ⟨d1, d2, d3, d4, d5, d6⟩ := g2
  exact ⟨BR_fr B f1, ⟨by rw [fr_at1 hh e1]; exact hl, by rw [fr_at1 hh e7]; exact hcop, by rw [fr_at1 hh d1]; exact hr, by rw [fr_at1 hh d4]; exact hvr⟩, PV0, c21, R0, SR_fr hh (by omega) R1 d2 d3, hnv, V0, SR_fr hh hnv V1 d5 d6, h0, fun e => LV_fr (h1 e) f1 f2⟩
theorem QW_LV {h L C c nv : Nat} {X Y U V : Nat → Nat} {bk : Nat → Int32} {bn : Nat → Int64} {bh bd bu bY pf pl vf vl : Nat → Int32} {Ml Mk : Nat → Int32} {Mn : Nat → Int64} {Mz : Nat → Int32} {Mt : Nat → Int64} {Msp Mcop Mca Mpr Mpf Mpt Mvi Mvf Mvt : Nat → Int32} (W : LV h L C c nv X Y U V bk bn bh bd bu bY pf pl vf vl Ml Mk Mn Mz Mt Msp Mcop Mca Mpr Mpf Mpt Mvi Mvf Mvt) : QW true h L C c nv X Y U V bk bn bh bd bu bY pf pl vf vl Ml Mk Mn Mz Mt Msp Mcop Mca Mpr Mpf Mpt Mvi Mvf Mvt := by
  have W2 := W
  obtain ⟨B, hc, PV0, hm, R0, R1, hnv, V0, V1, UV⟩ := W2
  exact ⟨B, hc, PV0, hm.2.1, R0, R1, hnv, V0, V1, fun e => (by cases e), fun _ => W⟩
theorem write_ask {F h L C c nv : Nat} {hs : Bool} {X Y U V : Nat → Nat} {bk : Nat → Int32} {bn : Nat → Int64} {bh bd bu bY pf pl vf vl : Nat → Int32} {Ml Mk : Nat → Int32} {Mn : Nat → Int64} {Mz : Nat → Int32} {Mt : Nat → Int64} {Msp Mcop Mca Mpr Mpf Mpt Mvi Mvf Mvt : Nat → Int32} {x thr : Int32} {a : Nat → Int64} {Wch Mo : Nat → Int32} {Wlen Mw : Int32} (hF : 4000 ≤ F) (W : QW hs h L C c nv X Y U V bk bn bh bd bu bY pf pl vf vl Ml Mk Mn Mz Mt Msp Mcop Mca Mpr Mpf Mpt Mvi Mvf Mvt) (HW : hs = true → ∃ (f0 dg0 : Nat → Int32) (w0 : Int32) (dg1 : Nat → Int32), f_X5_putBoard F f0 dg0 w0 bk bn bh bd bY pf pl (nI c) vf vl (nI nv) (nI L) = some (Wch, dg1, Wlen)) :
    ∃ (k b : Int32) (a' : Nat → Int64) (Mo' : Nat → Int32) (Mw' : Int32), f_L_write F x Wch Wlen (nI L) a = some (k, a') ∧ f_X7_write F x thr (bI hs) (nI h) Ml Mk Mn Mz Mt Msp Mca Mpr Mpf Mpt Mvi Mvf Mvt Mo Mw = some (b, k, Mo', Mw') ∧ (k = 0 → a' 0 = b.toInt64) := by
  obtain ⟨B, ⟨hl, hcop, hr, hvr⟩, PV0, c21, R0, R1, hnv, V0, V1, h0, h1⟩ := W
  obtain ⟨hh, hL, hC⟩ := B.1
  unfold f_L_write f_X6_write f_X6_requireStack f_X7_write g_X7_write_21
  by_cases hx : (0 : Int32) ≤ x
  · rw [if_pos hx, if_pos hx]
    cases hs with
    | false =>
      have l0 := (h0 rfl).1
      subst l0
      rw [bI_f, if00, if_neg (show ¬ (2 : Int32) = 0 by decide), if_pos (show nI 0 = 0 from rfl), mb1_v, if_neg (by decide), mb2_v, if_neg (by decide), if_neg (by decide), if_pos rfl]
      exact ⟨2, 0, a, Mo, Mw, rfl, rfl, fun e => absurd e (by decide)⟩
    | true =>
      have lv := h1 rfl
      have l1 : 1 ≤ L := lv.2.2.2.1.2.2.2.2.2.1
      have e0 : ¬ nI L = 0 := fun e => by have := nI_inj (b := 0) e (by omega) (by omega); omega
      obtain ⟨l, l3, lc, lm⟩ := board_w (F := F) hF lv
      obtain ⟨f0, dg0, w0, dg1, hp⟩ := HW rfl
      obtain ⟨dg2, hp2⟩ := lc f0 dg0 w0
      rw [hp] at hp2
      have hp3 := Option.some.inj hp2
      have ew : Wch = ap f0 0 l := congrArg Prod.fst hp3
      have el : Wlen = nI l.length := congrArg (fun z => z.2.2) hp3
      rw [bI_t, if10, if00, if_neg e0, mb1_v, if_pos rfl, lm, mb2_v]
      unfold f_X5_characterAt
      have hx0 : ¬ x < 0 := Int32.not_lt.mpr hx
      obtain ⟨i, i1, rfl⟩ := nI_of hx0
      rw [if_neg hx0, el]
      by_cases q : i < l.length
      · have ec : ap f0 0 l i = nI (l.getD i 0) := by have := ap_get (f := f0) (w := 0) q; rw [Nat.zero_add] at this; exact this
        have em : ap Mo 0 l i = nI (l.getD i 0) := by have := ap_get (f := Mo) (w := 0) q; rw [Nat.zero_add] at this; exact this
        rw [if_leF q (by omega), iL3000, if_leF (by omega) (by omega), mg_in (by omega) (by omega), mb1_v, mb2_v, if_pos rfl, in01, if_leF q (by omega), mg_in (by omega) (by omega), nI_clamp (by omega), ew, ec, em]
        exact ⟨0, _, _, _, _, rfl, rfl, fun _ => up0⟩
      · rw [if_leT (by omega) (by omega), mb1_v, mb2_v, if_pos rfl, in01, if_leT (by omega) (by omega)]
        exact ⟨0, _, _, _, _, rfl, rfl, fun _ => up0⟩
  · rw [if_neg hx, if_neg hx, mb2_v, if_neg (by decide), if_pos rfl, if10]
    exact ⟨1, 0, a, Mo, Mw, rfl, rfl, fun e => absurd e (by decide)⟩
theorem unit_ask {F n : Nat} {ch tx : Nat → Int32} {x thr : Int32} (T : TX n ch tx) (hn : n < 512) : ∃ (r : Int32) (ch' tx' : Nat → Int32) (n' : Nat), f_X6_unit F x ch (nI n) = some (r, ch', nI n') ∧ f_X7_unit F x thr tx (nI n) = some (r, 0, tx', nI n') ∧ n' ≤ n + 1 ∧ TX n' ch' tx' := by
  have no : f_X6_unit F x ch (nI n) = some (0, ch, nI n) → f_X7_unit F x thr tx (nI n) = some (0, 0, tx, nI n) → ∃ (r : Int32) (ch' tx' : Nat → Int32) (n' : Nat), f_X6_unit F x ch (nI n) = some (r, ch', nI n') ∧ f_X7_unit F x thr tx (nI n) = some (r, 0, tx', nI n') ∧ n' ≤ n + 1 ∧ TX n' ch' tx' := fun e1 e2 => ⟨0, ch, tx, n, e1, e2, by omega, T⟩
  have c0 : g_X4_append_23 F x 0 ch (nI n) = some (0, ch, nI n) := by unfold g_X4_append_23; rw [if00]
  have m0 : g_X7_unit_28 F x 0 0 tx (nI n) = some (0, 0, tx, nI n) := by unfold g_X7_unit_28; rw [if00]
  have fin : ∀ j, x = nI j → 10 ≤ j → j ≤ 126 → f_X4_append F x ch (nI n) = g_X4_append_23 F x 1 ch (nI n) → f_X7_unit F x thr tx (nI n) = g_X7_unit_28 F x 1 0 tx (nI n) → ∃ (r : Int32) (ch' tx' : Nat → Int32) (n' : Nat), f_X6_unit F x ch (nI n) = some (r, ch', nI n') ∧ f_X7_unit F x thr tx (nI n) = some (r, 0, tx', nI n') ∧ n' ≤ n + 1 ∧ TX n' ch' tx' := by
    intro j ej j1 j2 e1 e2
    subst ej
    refine ⟨1, upd ch n (nI j), upd tx n (nI j), n + 1, ?_, ?_, by omega, by omega, fun k hk => ?_⟩
    · unfold f_X6_unit
      rw [e1]
      unfold g_X4_append_23
      rw [if10, iL3000, if_ltT (by omega) (by omega), mg_in (by omega) (by omega), nI_clamp (by omega), char_N (by omega), nar_c (by omega), mb3_v, mg_t (by decide), nI_1]
    · rw [e2]
      unfold g_X7_unit_28
      rw [if10, iL3000, if_eqF (by omega) (by omega) (by omega), mg_in (by omega) (by omega), nI_clamp (by omega), nI_1]
    · by_cases q : k = n
      · subst q
        rw [pk_us, pk_us]
        exact ⟨rfl, j, j1, j2, rfl⟩
      · rw [pk_un q, pk_un q]
        exact T.2 k (by omega)
  rcases pk_ix x (n := 127) (by omega) with q | q | ⟨j, j1, j2⟩
  · have a1 : ¬ x = 10 := fun e => by subst e; exact absurd q (by decide)
    have a2 : x < 32 := Int32.lt_trans q (by decide)
    apply no
    · unfold f_X6_unit f_X4_append
      rw [if_neg a1, if_pos a2, c0]; rfl
    · unfold f_X7_unit
      rw [if_pos a2, if_neg a1, m0]
  · have a0 : (126 : Int32) < x := Int32.lt_of_lt_of_le (by decide : (126 : Int32) < nI 127) q
    have a1 : ¬ x = 10 := fun e => by subst e; exact absurd a0 (by decide)
    have a2 : ¬ x < 32 := fun e => absurd (Int32.lt_trans a0 e) (by decide)
    apply no
    · unfold f_X6_unit f_X4_append
      rw [if_neg a1, if_neg a2, if_pos a0, c0]; rfl
    · unfold f_X7_unit
      rw [if_neg a2, if_neg (Int32.not_le.mpr a0), if_neg a1, m0]
  · by_cases q : j = 10
    · have a1 : x = 10 := by rw [j2, q]; rfl
      have a2 : x < 32 := by rw [a1]; decide
      refine fin j j2 (by omega) (by omega) ?_ ?_
      · unfold f_X4_append; rw [if_pos a1]
      · unfold f_X7_unit; rw [if_pos a2, if_pos a1]
    · have a1 : ¬ x = 10 := fun e => q (nI_inj (a := j) (b := 10) (by rw [← j2]; exact e) (by omega) (by omega))
      by_cases w : j < 32
      · have a2 : x < 32 := by rw [j2]; exact nI_lt (b := 32) w (by omega)
        apply no
        · unfold f_X6_unit f_X4_append
          rw [if_neg a1, if_pos a2, c0]; rfl
        · unfold f_X7_unit
          rw [if_pos a2, if_neg a1, m0]
      · have a2 : ¬ x < 32 := by rw [j2]; exact nI_nlt (b := 32) (by omega) (by omega)
        have a3 : ¬ (126 : Int32) < x := by rw [j2]; exact nI_nlt (a := 126) (by omega) (by omega)
        refine fin j j2 (by omega) (by omega) ?_ ?_
        · unfold f_X4_append; rw [if_neg a1, if_neg a2, if_neg a3]
        · unfold f_X7_unit; rw [if_neg a2, if_pos (Int32.not_lt.mp a3)]
def INV (F N : Nat) (Rch : Nat → Int32) (Rlen : Int32) (Wch : Nat → Int32) (Wlen : Int32) (Klo Khi : Nat → Nat → Int64) (Kc : Int32) (Bk : Nat → Int32) (Bn : Nat → Int64) (Bh Bd Br Bu By Bpf Bpl : Nat → Int32) (Bpc : Int32) (Bvf Bvl : Nat → Int32) (Bvc BL BC : Int32) (Mtext : Nat → Int32) (Msize Mhas Mhand : Int32) (Ml Mk : Nat → Int32) (Mn : Nat → Int64) (Mz : Nat → Int32) (Mt : Nat → Int64) (Msp Mcop Mca Mpr Mpf Mpt Mvi Mvf Mvt : Nat → Int32) (Msh : Nat → Int32) (Mli : Int32) (Mh : Nat → Int32) (Mlo Mhi : Nat → Int64) : Prop :=
  ∃ (n : Nat) (hs : Bool) (h L C c nv kc : Nat) (X Y U V : Nat → Nat), (Rlen = nI n ∧ Msize = nI n ∧ n ≤ N ∧ TX n Rch Mtext) ∧ (Mhas = bI hs ∧ Mhand = nI h ∧ BL = nI L ∧ BC = nI C ∧ Bpc = nI c ∧ Bvc = nI nv ∧ Kc = nI kc ∧ Mli = nI kc) ∧ QW hs h L C c nv X Y U V Bk Bn Bh Bd Bu By Bpf Bpl Bvf Bvl Ml Mk Mn Mz Mt Msp Mcop Mca Mpr Mpf Mpt Mvi Mvf Mvt ∧ SHR L C Bk Br By Msh ∧ KR kc Klo Khi Mh Mlo Mhi ∧ (hs = true → ∃ (f0 dg0 : Nat → Int32) (w0 : Int32) (dg1 : Nat → Int32), f_X5_putBoard F f0 dg0 w0 Bk Bn Bh Bd By Bpf Bpl Bpc Bvf Bvl Bvc BL = some (Wch, dg1, Wlen))
theorem I_up {F N N' : Nat} {Rch : Nat → Int32} {Rlen : Int32} {Wch : Nat → Int32} {Wlen : Int32} {Klo Khi : Nat → Nat → Int64} {Kc : Int32} {Bk : Nat → Int32} {Bn : Nat → Int64} {Bh Bd Br Bu By Bpf Bpl : Nat → Int32} {Bpc : Int32} {Bvf Bvl : Nat → Int32} {Bvc BL BC : Int32} {Mtext : Nat → Int32} {Msize Mhas Mhand : Int32} {Ml Mk : Nat → Int32} {Mn : Nat → Int64} {Mz : Nat → Int32} {Mt : Nat → Int64} {Msp Mcop Mca Mpr Mpf Mpt Mvi Mvf Mvt : Nat → Int32} {Msh : Nat → Int32} {Mli : Int32} {Mh : Nat → Int32} {Mlo Mhi : Nat → Int64} (I : INV F N Rch Rlen Wch Wlen Klo Khi Kc Bk Bn Bh Bd Br Bu By Bpf Bpl Bpc Bvf Bvl Bvc BL BC Mtext Msize Mhas Mhand Ml Mk Mn Mz Mt Msp Mcop Mca Mpr Mpf Mpt Mvi Mvf Mvt Msh Mli Mh Mlo Mhi) (h : N ≤ N') : INV F N' Rch Rlen Wch Wlen Klo Khi Kc Bk Bn Bh Bd Br Bu By Bpf Bpl Bpc Bvf Bvl Bvc BL BC Mtext Msize Mhas Mhand Ml Mk Mn Mz Mt Msp Mcop Mca Mpr Mpf Mpt Mvi Mvf Mvt Msh Mli Mh Mlo Mhi := by
  obtain ⟨n, hs, h', L, C, c, nv, kc, X, Y, U, V, ⟨a1, a2, a3, a4⟩, b, W, S, K, HW⟩ := I
  exact ⟨n, hs, h', L, C, c, nv, kc, X, Y, U, V, ⟨a1, a2, by omega, a4⟩, b, W, S, K, HW⟩
theorem s_unit {F N : Nat} {Rch : Nat → Int32} {Rlen : Int32} {Wch : Nat → Int32} {Wlen : Int32} {Klo Khi : Nat → Nat → Int64} {Kc : Int32} {Bk : Nat → Int32} {Bn : Nat → Int64} {Bh Bd Br Bu By Bpf Bpl : Nat → Int32} {Bpc : Int32} {Bvf Bvl : Nat → Int32} {Bvc BL BC : Int32} {Mtext : Nat → Int32} {Msize Mhas Mhand : Int32} {Ml Mk : Nat → Int32} {Mn : Nat → Int64} {Mz : Nat → Int32} {Mt : Nat → Int64} {Msp Mcop Mca Mpr Mpf Mpt Mvi Mvf Mvt : Nat → Int32} {Msh : Nat → Int32} {Mli : Int32} {Mh : Nat → Int32} {Mlo Mhi : Nat → Int64} (hF : 4000 ≤ F) (I : INV F N Rch Rlen Wch Wlen Klo Khi Kc Bk Bn Bh Bd Br Bu By Bpf Bpl Bpc Bvf Bvl Bvc BL BC Mtext Msize Mhas Mhand Ml Mk Mn Mz Mt Msp Mcop Mca Mpr Mpf Mpt Mvi Mvf Mvt Msh Mli Mh Mlo Mhi) (hN : N < 512) (x thr : Int32) : ∃ (r : Int32) (Rch' : Nat → Int32) (Rlen' : Int32) (Mtext' : Nat → Int32) (Msize' : Int32), f_X6_unit F x Rch Rlen = some (r, Rch', Rlen') ∧ f_X7_unit F x thr Mtext Msize = some (r, 0, Mtext', Msize') ∧ INV F (N + 1) Rch' Rlen' Wch Wlen Klo Khi Kc Bk Bn Bh Bd Br Bu By Bpf Bpl Bpc Bvf Bvl Bvc BL BC Mtext' Msize' Mhas Mhand Ml Mk Mn Mz Mt Msp Mcop Mca Mpr Mpf Mpt Mvi Mvf Mvt Msh Mli Mh Mlo Mhi := by
  obtain ⟨n, hs, h, L, C, c, nv, kc, X, Y, U, V, ⟨rfl, rfl, hn, T⟩, ⟨rfl, rfl, rfl, rfl, rfl, rfl, rfl, rfl⟩, W, S, K, HW⟩ := I
  obtain ⟨r, ch', tx', n', a1, a2, a3, a4⟩ := unit_ask (F := F) (x := x) (thr := thr) T (by omega)
  exact ⟨r, ch', nI n', tx', nI n', a1, a2, n', hs, h, L, C, c, nv, kc, X, Y, U, V, ⟨rfl, rfl, by omega, a4⟩, ⟨rfl, rfl, rfl, rfl, rfl, rfl, rfl, rfl⟩, W, S, K, HW⟩
theorem s_thick {F N : Nat} {Rch : Nat → Int32} {Rlen : Int32} {Wch : Nat → Int32} {Wlen : Int32} {Klo Khi : Nat → Nat → Int64} {Kc : Int32} {Bk : Nat → Int32} {Bn : Nat → Int64} {Bh Bd Br Bu By Bpf Bpl : Nat → Int32} {Bpc : Int32} {Bvf Bvl : Nat → Int32} {Bvc BL BC : Int32} {Mtext : Nat → Int32} {Msize Mhas Mhand : Int32} {Ml Mk : Nat → Int32} {Mn : Nat → Int64} {Mz : Nat → Int32} {Mt : Nat → Int64} {Msp Mcop Mca Mpr Mpf Mpt Mvi Mvf Mvt : Nat → Int32} {Msh : Nat → Int32} {Mli : Int32} {Mh : Nat → Int32} {Mlo Mhi : Nat → Int64} (hF : 4000 ≤ F) (I : INV F N Rch Rlen Wch Wlen Klo Khi Kc Bk Bn Bh Bd Br Bu By Bpf Bpl Bpc Bvf Bvl Bvc BL BC Mtext Msize Mhas Mhand Ml Mk Mn Mz Mt Msp Mcop Mca Mpr Mpf Mpt Mvi Mvf Mvt Msh Mli Mh Mlo Mhi) (x y z thr : Int32) (a : Nat → Int64) : qL (f_L_thick F x y z Bk Bh Bd BL a) (f_X7_thick F x y z thr Mhas Mhand Ml Mk Mt Msp) := by
  obtain ⟨n, hs, h, L, C, c, nv, kc, X, Y, U, V, ⟨rfl, rfl, hn, T⟩, ⟨rfl, rfl, rfl, rfl, rfl, rfl, rfl, rfl⟩, W, S, K, HW⟩ := I
  exact thick_sim hF W
theorem s_kind {F N : Nat} {Rch : Nat → Int32} {Rlen : Int32} {Wch : Nat → Int32} {Wlen : Int32} {Klo Khi : Nat → Nat → Int64} {Kc : Int32} {Bk : Nat → Int32} {Bn : Nat → Int64} {Bh Bd Br Bu By Bpf Bpl : Nat → Int32} {Bpc : Int32} {Bvf Bvl : Nat → Int32} {Bvc BL BC : Int32} {Mtext : Nat → Int32} {Msize Mhas Mhand : Int32} {Ml Mk : Nat → Int32} {Mn : Nat → Int64} {Mz : Nat → Int32} {Mt : Nat → Int64} {Msp Mcop Mca Mpr Mpf Mpt Mvi Mvf Mvt : Nat → Int32} {Msh : Nat → Int32} {Mli : Int32} {Mh : Nat → Int32} {Mlo Mhi : Nat → Int64} (hF : 4000 ≤ F) (I : INV F N Rch Rlen Wch Wlen Klo Khi Kc Bk Bn Bh Bd Br Bu By Bpf Bpl Bpc Bvf Bvl Bvc BL BC Mtext Msize Mhas Mhand Ml Mk Mn Mz Mt Msp Mcop Mca Mpr Mpf Mpt Mvi Mvf Mvt Msh Mli Mh Mlo Mhi) (x thr : Int32) (a : Nat → Int64) : qI (f_L_kind F x Bk BL a) (f_X7_kind F x thr Mhas Mhand Ml Mk) := by
  obtain ⟨n, hs, h, L, C, c, nv, kc, X, Y, U, V, ⟨rfl, rfl, hn, T⟩, ⟨rfl, rfl, rfl, rfl, rfl, rfl, rfl, rfl⟩, W, S, K, HW⟩ := I
  exact kind_sim W
theorem s_pressed {F N : Nat} {Rch : Nat → Int32} {Rlen : Int32} {Wch : Nat → Int32} {Wlen : Int32} {Klo Khi : Nat → Nat → Int64} {Kc : Int32} {Bk : Nat → Int32} {Bn : Nat → Int64} {Bh Bd Br Bu By Bpf Bpl : Nat → Int32} {Bpc : Int32} {Bvf Bvl : Nat → Int32} {Bvc BL BC : Int32} {Mtext : Nat → Int32} {Msize Mhas Mhand : Int32} {Ml Mk : Nat → Int32} {Mn : Nat → Int64} {Mz : Nat → Int32} {Mt : Nat → Int64} {Msp Mcop Mca Mpr Mpf Mpt Mvi Mvf Mvt : Nat → Int32} {Msh : Nat → Int32} {Mli : Int32} {Mh : Nat → Int32} {Mlo Mhi : Nat → Int64} (hF : 4000 ≤ F) (I : INV F N Rch Rlen Wch Wlen Klo Khi Kc Bk Bn Bh Bd Br Bu By Bpf Bpl Bpc Bvf Bvl Bvc BL BC Mtext Msize Mhas Mhand Ml Mk Mn Mz Mt Msp Mcop Mca Mpr Mpf Mpt Mvi Mvf Mvt Msh Mli Mh Mlo Mhi) (x y thr : Int32) (a : Nat → Int64) : qI (f_L_pressed F x y Bpf Bpl Bpc a) (f_X7_pressed F x y thr Mhas Mhand Mpr Mpf Mpt) := by
  obtain ⟨n, hs, h, L, C, c, nv, kc, X, Y, U, V, ⟨rfl, rfl, hn, T⟩, ⟨rfl, rfl, rfl, rfl, rfl, rfl, rfl, rfl⟩, W, S, K, HW⟩ := I
  exact pressed_ask hF W
theorem s_changes {F N : Nat} {Rch : Nat → Int32} {Rlen : Int32} {Wch : Nat → Int32} {Wlen : Int32} {Klo Khi : Nat → Nat → Int64} {Kc : Int32} {Bk : Nat → Int32} {Bn : Nat → Int64} {Bh Bd Br Bu By Bpf Bpl : Nat → Int32} {Bpc : Int32} {Bvf Bvl : Nat → Int32} {Bvc BL BC : Int32} {Mtext : Nat → Int32} {Msize Mhas Mhand : Int32} {Ml Mk : Nat → Int32} {Mn : Nat → Int64} {Mz : Nat → Int32} {Mt : Nat → Int64} {Msp Mcop Mca Mpr Mpf Mpt Mvi Mvf Mvt : Nat → Int32} {Msh : Nat → Int32} {Mli : Int32} {Mh : Nat → Int32} {Mlo Mhi : Nat → Int64} (hF : 4000 ≤ F) (I : INV F N Rch Rlen Wch Wlen Klo Khi Kc Bk Bn Bh Bd Br Bu By Bpf Bpl Bpc Bvf Bvl Bvc BL BC Mtext Msize Mhas Mhand Ml Mk Mn Mz Mt Msp Mcop Mca Mpr Mpf Mpt Mvi Mvf Mvt Msh Mli Mh Mlo Mhi) (x thr : Int32) (a : Nat → Int64) : qI (f_L_changes F x Klo Khi Kc Bk Bh BL a) (f_X7_changes F x thr Mhand Ml Mk Mt Mli Mh Mlo Mhi) := by
  obtain ⟨n, hs, h, L, C, c, nv, kc, X, Y, U, V, ⟨rfl, rfl, hn, T⟩, ⟨rfl, rfl, rfl, rfl, rfl, rfl, rfl, rfl⟩, W, S, K, HW⟩ := I
  exact changes_ask hF W K
theorem s_role {F N : Nat} {Rch : Nat → Int32} {Rlen : Int32} {Wch : Nat → Int32} {Wlen : Int32} {Klo Khi : Nat → Nat → Int64} {Kc : Int32} {Bk : Nat → Int32} {Bn : Nat → Int64} {Bh Bd Br Bu By Bpf Bpl : Nat → Int32} {Bpc : Int32} {Bvf Bvl : Nat → Int32} {Bvc BL BC : Int32} {Mtext : Nat → Int32} {Msize Mhas Mhand : Int32} {Ml Mk : Nat → Int32} {Mn : Nat → Int64} {Mz : Nat → Int32} {Mt : Nat → Int64} {Msp Mcop Mca Mpr Mpf Mpt Mvi Mvf Mvt : Nat → Int32} {Msh : Nat → Int32} {Mli : Int32} {Mh : Nat → Int32} {Mlo Mhi : Nat → Int64} (hF : 4000 ≤ F) (I : INV F N Rch Rlen Wch Wlen Klo Khi Kc Bk Bn Bh Bd Br Bu By Bpf Bpl Bpc Bvf Bvl Bvc BL BC Mtext Msize Mhas Mhand Ml Mk Mn Mz Mt Msp Mcop Mca Mpr Mpf Mpt Mvi Mvf Mvt Msh Mli Mh Mlo Mhi) (x thr : Int32) (a : Nat → Int64) : qI (f_L_role F x Bu BL a) (f_X7_role F x thr Mhas Mhand Ml Mcop Mca) := by
  obtain ⟨n, hs, h, L, C, c, nv, kc, X, Y, U, V, ⟨rfl, rfl, hn, T⟩, ⟨rfl, rfl, rfl, rfl, rfl, rfl, rfl, rfl⟩, W, S, K, HW⟩ := I
  exact role_sim hF W
theorem s_sum {F N : Nat} {Rch : Nat → Int32} {Rlen : Int32} {Wch : Nat → Int32} {Wlen : Int32} {Klo Khi : Nat → Nat → Int64} {Kc : Int32} {Bk : Nat → Int32} {Bn : Nat → Int64} {Bh Bd Br Bu By Bpf Bpl : Nat → Int32} {Bpc : Int32} {Bvf Bvl : Nat → Int32} {Bvc BL BC : Int32} {Mtext : Nat → Int32} {Msize Mhas Mhand : Int32} {Ml Mk : Nat → Int32} {Mn : Nat → Int64} {Mz : Nat → Int32} {Mt : Nat → Int64} {Msp Mcop Mca Mpr Mpf Mpt Mvi Mvf Mvt : Nat → Int32} {Msh : Nat → Int32} {Mli : Int32} {Mh : Nat → Int32} {Mlo Mhi : Nat → Int64} (hF : 4000 ≤ F) (I : INV F N Rch Rlen Wch Wlen Klo Khi Kc Bk Bn Bh Bd Br Bu By Bpf Bpl Bpc Bvf Bvl Bvc BL BC Mtext Msize Mhas Mhand Ml Mk Mn Mz Mt Msp Mcop Mca Mpr Mpf Mpt Mvi Mvf Mvt Msh Mli Mh Mlo Mhi) (x y thr : Int32) (a : Nat → Int64) : qL (f_L_sum F x y Bh Bd Br BL a) (f_X7_sum F x y thr Mhas Mhand Ml Mk Mt Msp Mcop Mca Msh) := by
  obtain ⟨n, hs, h, L, C, c, nv, kc, X, Y, U, V, ⟨rfl, rfl, hn, T⟩, ⟨rfl, rfl, rfl, rfl, rfl, rfl, rfl, rfl⟩, W, S, K, HW⟩ := I
  exact sum_sim hF W S
theorem s_via {F N : Nat} {Rch : Nat → Int32} {Rlen : Int32} {Wch : Nat → Int32} {Wlen : Int32} {Klo Khi : Nat → Nat → Int64} {Kc : Int32} {Bk : Nat → Int32} {Bn : Nat → Int64} {Bh Bd Br Bu By Bpf Bpl : Nat → Int32} {Bpc : Int32} {Bvf Bvl : Nat → Int32} {Bvc BL BC : Int32} {Mtext : Nat → Int32} {Msize Mhas Mhand : Int32} {Ml Mk : Nat → Int32} {Mn : Nat → Int64} {Mz : Nat → Int32} {Mt : Nat → Int64} {Msp Mcop Mca Mpr Mpf Mpt Mvi Mvf Mvt : Nat → Int32} {Msh : Nat → Int32} {Mli : Int32} {Mh : Nat → Int32} {Mlo Mhi : Nat → Int64} (hF : 4000 ≤ F) (I : INV F N Rch Rlen Wch Wlen Klo Khi Kc Bk Bn Bh Bd Br Bu By Bpf Bpl Bpc Bvf Bvl Bvc BL BC Mtext Msize Mhas Mhand Ml Mk Mn Mz Mt Msp Mcop Mca Mpr Mpf Mpt Mvi Mvf Mvt Msh Mli Mh Mlo Mhi) (x y thr s0 : Int32) (a : Nat → Int64) : ∃ (k b : Int32) (a' : Nat → Int64) (s' : Int32), f_L_via F x y Bvf Bvl Bvc BC a = some (k, a') ∧ f_X7_via F x y thr Mhas Mhand Mcop Mvi Mvf Mvt s0 = some (b, k, s') ∧ qB k b a' := by
  obtain ⟨n, hs, h, L, C, c, nv, kc, X, Y, U, V, ⟨rfl, rfl, hn, T⟩, ⟨rfl, rfl, rfl, rfl, rfl, rfl, rfl, rfl⟩, W, S, K, HW⟩ := I
  exact via_ask hF W
theorem s_skew {F N : Nat} {Rch : Nat → Int32} {Rlen : Int32} {Wch : Nat → Int32} {Wlen : Int32} {Klo Khi : Nat → Nat → Int64} {Kc : Int32} {Bk : Nat → Int32} {Bn : Nat → Int64} {Bh Bd Br Bu By Bpf Bpl : Nat → Int32} {Bpc : Int32} {Bvf Bvl : Nat → Int32} {Bvc BL BC : Int32} {Mtext : Nat → Int32} {Msize Mhas Mhand : Int32} {Ml Mk : Nat → Int32} {Mn : Nat → Int64} {Mz : Nat → Int32} {Mt : Nat → Int64} {Msp Mcop Mca Mpr Mpf Mpt Mvi Mvf Mvt : Nat → Int32} {Msh : Nat → Int32} {Mli : Int32} {Mh : Nat → Int32} {Mlo Mhi : Nat → Int64} (hF : 4000 ≤ F) (I : INV F N Rch Rlen Wch Wlen Klo Khi Kc Bk Bn Bh Bd Br Bu By Bpf Bpl Bpc Bvf Bvl Bvc BL BC Mtext Msize Mhas Mhand Ml Mk Mn Mz Mt Msp Mcop Mca Mpr Mpf Mpt Mvi Mvf Mvt Msh Mli Mh Mlo Mhi) (x thr : Int32) : ∃ z, f_X6_skew F x Bk Bn Bh Bd Br BL = some z ∧ f_X7_skew F x thr Mhas Mhand Ml Mk Mn Mz Mt Msp Mcop Mca Msh = some (z, 0) := by
  obtain ⟨n, hs, h, L, C, c, nv, kc, X, Y, U, V, ⟨rfl, rfl, hn, T⟩, ⟨rfl, rfl, rfl, rfl, rfl, rfl, rfl, rfl⟩, W, S, K, HW⟩ := I
  exact skew_ask hF W S
theorem s_match {F N : Nat} {Rch : Nat → Int32} {Rlen : Int32} {Wch : Nat → Int32} {Wlen : Int32} {Klo Khi : Nat → Nat → Int64} {Kc : Int32} {Bk : Nat → Int32} {Bn : Nat → Int64} {Bh Bd Br Bu By Bpf Bpl : Nat → Int32} {Bpc : Int32} {Bvf Bvl : Nat → Int32} {Bvc BL BC : Int32} {Mtext : Nat → Int32} {Msize Mhas Mhand : Int32} {Ml Mk : Nat → Int32} {Mn : Nat → Int64} {Mz : Nat → Int32} {Mt : Nat → Int64} {Msp Mcop Mca Mpr Mpf Mpt Mvi Mvf Mvt : Nat → Int32} {Msh : Nat → Int32} {Mli : Int32} {Mh : Nat → Int32} {Mlo Mhi : Nat → Int64} (hF : 4000 ≤ F) (I : INV F N Rch Rlen Wch Wlen Klo Khi Kc Bk Bn Bh Bd Br Bu By Bpf Bpl Bpc Bvf Bvl Bvc BL BC Mtext Msize Mhas Mhand Ml Mk Mn Mz Mt Msp Mcop Mca Mpr Mpf Mpt Mvi Mvf Mvt Msh Mli Mh Mlo Mhi) (thr : Int32) : ∃ z, f_X6_match F Klo Khi Kc Bk Bh BL = some z ∧ f_X7_match F thr Mhand Ml Mk Mt Mli Mh Mlo Mhi = some (z, 0) := by
  obtain ⟨n, hs, h, L, C, c, nv, kc, X, Y, U, V, ⟨rfl, rfl, hn, T⟩, ⟨rfl, rfl, rfl, rfl, rfl, rfl, rfl, rfl⟩, W, S, K, HW⟩ := I
  exact match_ask hF W K
theorem s_write {F N : Nat} {Rch : Nat → Int32} {Rlen : Int32} {Wch : Nat → Int32} {Wlen : Int32} {Klo Khi : Nat → Nat → Int64} {Kc : Int32} {Bk : Nat → Int32} {Bn : Nat → Int64} {Bh Bd Br Bu By Bpf Bpl : Nat → Int32} {Bpc : Int32} {Bvf Bvl : Nat → Int32} {Bvc BL BC : Int32} {Mtext : Nat → Int32} {Msize Mhas Mhand : Int32} {Ml Mk : Nat → Int32} {Mn : Nat → Int64} {Mz : Nat → Int32} {Mt : Nat → Int64} {Msp Mcop Mca Mpr Mpf Mpt Mvi Mvf Mvt : Nat → Int32} {Msh : Nat → Int32} {Mli : Int32} {Mh : Nat → Int32} {Mlo Mhi : Nat → Int64} (hF : 4000 ≤ F) (I : INV F N Rch Rlen Wch Wlen Klo Khi Kc Bk Bn Bh Bd Br Bu By Bpf Bpl Bpc Bvf Bvl Bvc BL BC Mtext Msize Mhas Mhand Ml Mk Mn Mz Mt Msp Mcop Mca Mpr Mpf Mpt Mvi Mvf Mvt Msh Mli Mh Mlo Mhi) (x thr : Int32) (a : Nat → Int64) (Mo : Nat → Int32) (Mw : Int32) : ∃ (k b : Int32) (a' : Nat → Int64) (Mo' : Nat → Int32) (Mw' : Int32), f_L_write F x Wch Wlen BL a = some (k, a') ∧ f_X7_write F x thr Mhas Mhand Ml Mk Mn Mz Mt Msp Mca Mpr Mpf Mpt Mvi Mvf Mvt Mo Mw = some (b, k, Mo', Mw') ∧ (k = 0 → a' 0 = b.toInt64) := by
  obtain ⟨n, hs, h, L, C, c, nv, kc, X, Y, U, V, ⟨rfl, rfl, hn, T⟩, ⟨rfl, rfl, rfl, rfl, rfl, rfl, rfl, rfl⟩, W, S, K, HW⟩ := I
  exact write_ask hF W HW
theorem s_copper {F N : Nat} {Rch : Nat → Int32} {Rlen : Int32} {Wch : Nat → Int32} {Wlen : Int32} {Klo Khi : Nat → Nat → Int64} {Kc : Int32} {Bk : Nat → Int32} {Bn : Nat → Int64} {Bh Bd Br Bu By Bpf Bpl : Nat → Int32} {Bpc : Int32} {Bvf Bvl : Nat → Int32} {Bvc BL BC : Int32} {Mtext : Nat → Int32} {Msize Mhas Mhand : Int32} {Ml Mk : Nat → Int32} {Mn : Nat → Int64} {Mz : Nat → Int32} {Mt : Nat → Int64} {Msp Mcop Mca Mpr Mpf Mpt Mvi Mvf Mvt : Nat → Int32} {Msh : Nat → Int32} {Mli : Int32} {Mh : Nat → Int32} {Mlo Mhi : Nat → Int64} (hF : 4000 ≤ F) (I : INV F N Rch Rlen Wch Wlen Klo Khi Kc Bk Bn Bh Bd Br Bu By Bpf Bpl Bpc Bvf Bvl Bvc BL BC Mtext Msize Mhas Mhand Ml Mk Mn Mz Mt Msp Mcop Mca Mpr Mpf Mpt Mvi Mvf Mvt Msh Mli Mh Mlo Mhi) (x thr : Int32) (v2 v4 : Int64) (a : Nat → Int64) : ∃ (k b : Int32) (a' : Nat → Int64) (Br' Msh' : Nat → Int32), f_L_copper F x v2 v4 Br By BC a = some (k, Br', a') ∧ f_X7_copper F x v2 v4 thr Mhas Mhand Mcop Msh = some (b, k, Msh') ∧ qB k b a' ∧ INV F N Rch Rlen Wch Wlen Klo Khi Kc Bk Bn Bh Bd Br' Bu By Bpf Bpl Bpc Bvf Bvl Bvc BL BC Mtext Msize Mhas Mhand Ml Mk Mn Mz Mt Msp Mcop Mca Mpr Mpf Mpt Mvi Mvf Mvt Msh' Mli Mh Mlo Mhi := by
  obtain ⟨n, hs, h, L, C, c, nv, kc, X, Y, U, V, ⟨rfl, rfl, hn, T⟩, ⟨rfl, rfl, rfl, rfl, rfl, rfl, rfl, rfl⟩, W, S, K, HW⟩ := I
  obtain ⟨k, b, a', br', msh', a1, a2, a3, a4⟩ := copper_ask (F := F) (x := x) (thr := thr) (v2 := v2) (v4 := v4) (a := a) hF W S
  exact ⟨k, b, a', br', msh', a1, a2, a3, n, hs, h, L, C, c, nv, kc, X, Y, U, V, ⟨rfl, rfl, hn, T⟩, ⟨rfl, rfl, rfl, rfl, rfl, rfl, rfl, rfl⟩, W, a4, K, HW⟩
theorem s_list {F N : Nat} {Rch : Nat → Int32} {Rlen : Int32} {Wch : Nat → Int32} {Wlen : Int32} {Klo Khi : Nat → Nat → Int64} {Kc : Int32} {Bk : Nat → Int32} {Bn : Nat → Int64} {Bh Bd Br Bu By Bpf Bpl : Nat → Int32} {Bpc : Int32} {Bvf Bvl : Nat → Int32} {Bvc BL BC : Int32} {Mtext : Nat → Int32} {Msize Mhas Mhand : Int32} {Ml Mk : Nat → Int32} {Mn : Nat → Int64} {Mz : Nat → Int32} {Mt : Nat → Int64} {Msp Mcop Mca Mpr Mpf Mpt Mvi Mvf Mvt : Nat → Int32} {Msh : Nat → Int32} {Mli : Int32} {Mh : Nat → Int32} {Mlo Mhi : Nat → Int64} (hF : 4000 ≤ F) (I : INV F N Rch Rlen Wch Wlen Klo Khi Kc Bk Bn Bh Bd Br Bu By Bpf Bpl Bpc Bvf Bvl Bvc BL BC Mtext Msize Mhas Mhand Ml Mk Mn Mz Mt Msp Mcop Mca Mpr Mpf Mpt Mvi Mvf Mvt Msh Mli Mh Mlo Mhi) (thr : Int32) (a : Nat → Int64) : ∃ (k b : Int32) (a' : Nat → Int64) (Klo' : Nat → Nat → Int64) (Kc' : Int32) (Mh' : Nat → Int32), f_L_list F Klo Kc BL a = some (k, Klo', Kc', a') ∧ f_X7_list F thr Mhas Mli Mh = some (b, k, Kc', Mh') ∧ (k = 0 → a' 0 = b.toInt64) ∧ INV F N Rch Rlen Wch Wlen Klo' Khi Kc' Bk Bn Bh Bd Br Bu By Bpf Bpl Bpc Bvf Bvl Bvc BL BC Mtext Msize Mhas Mhand Ml Mk Mn Mz Mt Msp Mcop Mca Mpr Mpf Mpt Mvi Mvf Mvt Msh Kc' Mh' Mlo Mhi := by
  obtain ⟨n, hs, h, L, C, c, nv, kc, X, Y, U, V, ⟨rfl, rfl, hn, T⟩, ⟨rfl, rfl, rfl, rfl, rfl, rfl, rfl, rfl⟩, W, S, K, HW⟩ := I
  obtain ⟨k, b, a', kc', lo', mh', a1, a2, a3, a4, _⟩ := list_ask (F := F) (thr := thr) (a := a) hF W K
  exact ⟨k, b, a', lo', nI kc', mh', a1, a2, a3, n, hs, h, L, C, c, nv, kc', X, Y, U, V, ⟨rfl, rfl, hn, T⟩, ⟨rfl, rfl, rfl, rfl, rfl, rfl, rfl, rfl⟩, W, S, a4, HW⟩
theorem s_row {F N : Nat} {Rch : Nat → Int32} {Rlen : Int32} {Wch : Nat → Int32} {Wlen : Int32} {Klo Khi : Nat → Nat → Int64} {Kc : Int32} {Bk : Nat → Int32} {Bn : Nat → Int64} {Bh Bd Br Bu By Bpf Bpl : Nat → Int32} {Bpc : Int32} {Bvf Bvl : Nat → Int32} {Bvc BL BC : Int32} {Mtext : Nat → Int32} {Msize Mhas Mhand : Int32} {Ml Mk : Nat → Int32} {Mn : Nat → Int64} {Mz : Nat → Int32} {Mt : Nat → Int64} {Msp Mcop Mca Mpr Mpf Mpt Mvi Mvf Mvt : Nat → Int32} {Msh : Nat → Int32} {Mli : Int32} {Mh : Nat → Int32} {Mlo Mhi : Nat → Int64} (hF : 4000 ≤ F) (I : INV F N Rch Rlen Wch Wlen Klo Khi Kc Bk Bn Bh Bd Br Bu By Bpf Bpl Bpc Bvf Bvl Bvc BL BC Mtext Msize Mhas Mhand Ml Mk Mn Mz Mt Msp Mcop Mca Mpr Mpf Mpt Mvi Mvf Mvt Msh Mli Mh Mlo Mhi) (x y thr : Int32) (v3 v5 : Int64) (a : Nat → Int64) : ∃ (k b : Int32) (a' : Nat → Int64) (Klo' Khi' : Nat → Nat → Int64) (Mh' : Nat → Int32) (Mlo' Mhi' : Nat → Int64), f_L_row F x y v3 v5 Klo Khi Kc Bk BL a = some (k, Klo', Khi', a') ∧ f_X7_row F x y v3 v5 thr Mhas Mhand Ml Mk Mli Mh Mlo Mhi = some (b, k, Mh', Mlo', Mhi') ∧ qB k b a' ∧ INV F N Rch Rlen Wch Wlen Klo' Khi' Kc Bk Bn Bh Bd Br Bu By Bpf Bpl Bpc Bvf Bvl Bvc BL BC Mtext Msize Mhas Mhand Ml Mk Mn Mz Mt Msp Mcop Mca Mpr Mpf Mpt Mvi Mvf Mvt Msh Mli Mh' Mlo' Mhi' := by
  obtain ⟨n, hs, h, L, C, c, nv, kc, X, Y, U, V, ⟨rfl, rfl, hn, T⟩, ⟨rfl, rfl, rfl, rfl, rfl, rfl, rfl, rfl⟩, W, S, K, HW⟩ := I
  obtain ⟨k, b, a', lo', hi', mh', mlo', mhi', a1, a2, a3, a4⟩ := row_ask (F := F) (x := x) (y := y) (thr := thr) (v3 := v3) (v5 := v5) (a := a) hF W K
  exact ⟨k, b, a', lo', hi', mh', mlo', mhi', a1, a2, a3, n, hs, h, L, C, c, nv, kc, X, Y, U, V, ⟨rfl, rfl, hn, T⟩, ⟨rfl, rfl, rfl, rfl, rfl, rfl, rfl, rfl⟩, W, S, a4, HW⟩
set_option maxHeartbeats 4000000 in
theorem s_read {F N : Nat} {Rch : Nat → Int32} {Rlen : Int32} {Wch : Nat → Int32} {Wlen : Int32} {Klo Khi : Nat → Nat → Int64} {Kc : Int32} {Bk : Nat → Int32} {Bn : Nat → Int64} {Bh Bd Br Bu By Bpf Bpl : Nat → Int32} {Bpc : Int32} {Bvf Bvl : Nat → Int32} {Bvc BL BC : Int32} {Bpt BI : Int32} {Dk : Nat → Int32} {Dn : Nat → Int64} {Dh : Nat → Int32} {Dd : Nat → Int32} {Dr : Nat → Int32} {Du : Nat → Int32} {Dy : Nat → Int32} {Dpf : Nat → Int32} {Dpl : Nat → Int32} {Dpc : Int32} {Dpt : Int32} {Dvf : Nat → Int32} {Dvl : Nat → Int32} {Dvc : Int32} {DL : Int32} {DC : Int32} {DI : Int32} {Mtext : Nat → Int32} {Msize Mhas Mhand : Int32} {Ml Mk : Nat → Int32} {Mn : Nat → Int64} {Mz : Nat → Int32} {Mt : Nat → Int64} {Msp Mcop Mca Mpr Mpf Mpt Mvi Mvf Mvt : Nat → Int32} {Msh : Nat → Int32} {Mli : Int32} {Mh : Nat → Int32} {Mlo Mhi : Nat → Int64} {Rat Rls Rfa : Int32} {Wdg : Nat → Int32} {thr p0 s0 f0 : Int32} {w0 : Int64} {ws0 so0 : Int32} (hF : 4000 ≤ F) (I : INV F N Rch Rlen Wch Wlen Klo Khi Kc Bk Bn Bh Bd Br Bu By Bpf Bpl Bpc Bvf Bvl Bvc BL BC Mtext Msize Mhas Mhand Ml Mk Mn Mz Mt Msp Mcop Mca Mpr Mpf Mpt Mvi Mvf Mvt Msh Mli Mh Mlo Mhi) :
    ∃ (r : Int32) (sw : Bool) (Rlen' Rat' Rls' Rfa' : Int32) (Wch' Wdg' : Nat → Int32) (Wlen' Kc' : Int32) (Bk' : Nat → Int32) (Bn' : Nat → Int64) (Bh' : Nat → Int32) (Bd' : Nat → Int32) (Br' : Nat → Int32) (Bu' : Nat → Int32) (By' : Nat → Int32) (Bpf' : Nat → Int32) (Bpl' : Nat → Int32) (Bpc' : Int32) (Bpt' : Int32) (Bvf' : Nat → Int32) (Bvl' : Nat → Int32) (Bvc' : Int32) (BL' : Int32) (BC' : Int32) (BI' : Int32) (Dk' : Nat → Int32) (Dn' : Nat → Int64) (Dh' : Nat → Int32) (Dd' : Nat → Int32) (Dr' : Nat → Int32) (Du' : Nat → Int32) (Dy' : Nat → Int32) (Dpf' : Nat → Int32) (Dpl' : Nat → Int32) (Dpc' : Int32) (Dpt' : Int32) (Dvf' : Nat → Int32) (Dvl' : Nat → Int32) (Dvc' : Int32) (DL' : Int32) (DC' : Int32) (DI' : Int32) (thr' Msize' Mhas' Mhand' : Int32) (Ml' Mk' : Nat → Int32) (Mn' : Nat → Int64) (Mz' : Nat → Int32) (Mt' : Nat → Int64) (Msp' Mcop' Mca' Mpr' Mpf' Mpt' Mvi' Mvf' Mvt' : Nat → Int32) (Msh' : Nat → Int32) (Mli' p' s' f' : Int32) (w' : Int64) (ws' so' : Int32),
      f_X6_read F Rch Rlen Rat Rls Rfa Wch Wdg Wlen Kc Bk Bn Bh Bd Br Bu By Bpf Bpl Bpc Bpt Bvf Bvl Bvc BL BC BI Dk Dn Dh Dd Dr Du Dy Dpf Dpl Dpc Dpt Dvf Dvl Dvc DL DC DI = some (r, sw, Rlen', Rat', Rls', Rfa', Wch', Wdg', Wlen', Kc', Bk', Bn', Bh', Bd', Br', Bu', By', Bpf', Bpl', Bpc', Bpt', Bvf', Bvl', Bvc', BL', BC', BI', Dk', Dn', Dh', Dd', Dr', Du', Dy', Dpf', Dpl', Dpc', Dpt', Dvf', Dvl', Dvc', DL', DC', DI') ∧
      f_X7_read F thr Mtext Msize Mhas Mhand Ml Mk Mn Mz Mt Msp Mcop Mca Mpr Mpf Mpt Mvi Mvf Mvt Msh Mli p0 s0 f0 w0 ws0 so0 = some (r, thr', Msize', Mhas', Mhand', Ml', Mk', Mn', Mz', Mt', Msp', Mcop', Mca', Mpr', Mpf', Mpt', Mvi', Mvf', Mvt', Msh', Mli', p', s', f', w', ws', so') ∧
      INV F N Rch Rlen' Wch' Wlen' Klo Khi Kc' Bk' Bn' Bh' Bd' Br' Bu' By' Bpf' Bpl' Bpc' Bvf' Bvl' Bvc' BL' BC' Mtext Msize' Mhas' Mhand' Ml' Mk' Mn' Mz' Mt' Msp' Mcop' Mca' Mpr' Mpf' Mpt' Mvi' Mvf' Mvt' Msh' Mli' Mh Mlo Mhi := by
  obtain ⟨n, hs, h, L, C, c, nv, kc, X, Y, U, V, ⟨rfl, rfl, hn, T⟩, ⟨rfl, rfl, rfl, rfl, rfl, rfl, rfl, rfl⟩, W, S, K, HW⟩ := I
  have hh := W.1.1.1
  have rd := read_sim (F := F) (n := n) (h := h) (ch := Rch) (tx := Mtext) (at0 := Rat) (ls := Rls) (fa := Rfa) (c0 := Dpc) (td0 := Dpt) (nv0 := Dvc) (L0 := DL) (C0 := DC) (I0 := DI) (thr := thr) (has := bI hs) (li := nI kc) (p0 := p0) (s0 := s0) (f0 := f0) (w := w0) (ws := ws0) (so := so0) (bk := Dk) (bn := Dn) (bh := Dh) (bd := Dd) (br := Dr) (bu := Du) (bY := Dy) (pf := Dpf) (pl := Dpl) (vf := Dvf) (vl := Dvl) (Ml := Ml) (Mk := Mk) (Mn := Mn) (Mz := Mz) (Mt := Mt) (Msp := Msp) (Mcop := Mcop) (Mca := Mca) (Mpr := Mpr) (Mpf := Mpf) (Mpt := Mpt) (Mvi := Mvi) (Mvf := Mvf) (Mvt := Mvt) (Msh := Msh) hF T hh
  obtain ⟨Ml', Mk', Mn', Mz', Mt', Msp', Mcop', Mca', Mpr', Mpf', Mpt', Mvi', Mvf', Mvt', Msh', p', f', w', ws', so', f1, f2, rd⟩ := rd
  unfold f_X6_read
  rcases rd with ⟨L', C', c', nv', X', Y', U', V', bk', bn', bh', bd', br', bu', bY', pf', pl', td', vf', vl', at', ls', fa', I', o1, o2, o3, o4, o5⟩ | ⟨e, at', ls', fa', bk', bn', bh', bd', br', bu', bY', pf', pl', c', td', vf', vl', nv', L', C', I', e1, o1, o2, o3⟩
  · obtain ⟨l, l1, lc, lm⟩ := board_w (F := F) hF o3
    obtain ⟨dg, hp⟩ := lc Wch Wdg Wlen
    rw [o1, mb21_v, if_m1T]
    unfold f_X4_forget f_X1_forget
    rw [mb1_v, mb1_v, hp, mb3_v]
    refine ⟨_, _, _, _, _, _, _, _, _, _, _, _, _, _, _, _, _, _, _, _, _, _, _, _, _, _, _, _, _, _, _, _, _, _, _, _, _, _, _, _, _, _, _, _, _, _, _, _, _, _, _, _, _, _, _, _, _, _, _, _, _, _, _, _, _, _, _, _, _, _, rfl, o2, 0, true, 1 - h, L', C', c', nv', 0, X', Y', U', V', ⟨rfl, rfl, by omega, ⟨by omega, fun k hk => by omega⟩⟩, ⟨rfl, rfl, rfl, rfl, rfl, rfl, rfl, rfl⟩, QW_LV o3, ⟨fun k hk _ => o4 k hk, fun k l9 hk hl9 h80 => ?_⟩, ⟨by omega, fun i k hi _ => by omega⟩, fun _ => ⟨Wch, Wdg, Wlen, dg, hp⟩⟩
    obtain ⟨_, l2, a2, a3, _, _⟩ := o3.1.2.2.1 k hk
    rw [hl9] at a3
    have hL80 := o3.1.1.2.1
    have hC32 := o3.1.1.2.2
    obtain rfl := nI_inj a3 (by omega) (by omega)
    exact ⟨1000, by omega, o4 l9 a2, o5 k (by omega)⟩
  · have hm : ¬ nI e = -1 := nI_m1 (by have := T.1; omega)
    rw [o1, mb21_v, if_neg hm]
    subst o3
    exact ⟨_, _, _, _, _, _, _, _, _, _, _, _, _, _, _, _, _, _, _, _, _, _, _, _, _, _, _, _, _, _, _, _, _, _, _, _, _, _, _, _, _, _, _, _, _, _, _, _, _, _, _, _, _, _, _, _, _, _, _, _, _, _, _, _, _, _, _, _, _, _, rfl, o2, n, hs, h, L, C, c, nv, kc, X, Y, U, V, ⟨rfl, rfl, hn, T⟩, ⟨rfl, rfl, rfl, rfl, rfl, rfl, rfl, rfl⟩, QW_fr W f1 f2, S, K, HW⟩
theorem I_0 {F : Nat} {Rch Wch : Nat → Int32} {Wlen : Int32} {Klo Khi : Nat → Nat → Int64} {Bk : Nat → Int32} {Bn : Nat → Int64} {Bh Bd Br Bu By Bpf Bpl Bvf Bvl Mtext Ml Mk : Nat → Int32} {Mn : Nat → Int64} {Mz : Nat → Int32} {Mt : Nat → Int64} {Msp Mcop Mca Mpr Mpf Mpt Mvi Mvf Mvt Msh Mh : Nat → Int32} {Mlo Mhi : Nat → Int64} (h1 : Ml 0 = 0) (h2 : Mcop 0 = 0) (h3 : Mpr 0 = 0) (h4 : Mvi 0 = 0) : INV F 0 Rch 0 Wch Wlen Klo Khi 0 Bk Bn Bh Bd Br Bu By Bpf Bpl 0 Bvf Bvl 0 0 0 Mtext 0 0 0 Ml Mk Mn Mz Mt Msp Mcop Mca Mpr Mpf Mpt Mvi Mvf Mvt Msh 0 Mh Mlo Mhi :=
  ⟨0, false, 0, 0, 0, 0, 0, 0, fun _ => 0, fun _ => 0, fun _ => 0, fun _ => 0, ⟨rfl, rfl, by omega, ⟨by omega, fun k hk => by omega⟩⟩, ⟨rfl, rfl, rfl, rfl, rfl, rfl, rfl, rfl⟩, ⟨⟨⟨by omega, by omega, by omega⟩, fun k hk => by omega, fun k hk => by omega, fun k hk => by omega⟩, ⟨h1, h2, h3, h4⟩, ⟨fun k hk => by omega, fun i j _ hj => by omega⟩, by omega, fun k hk => by omega, fun k hk => by omega, by omega, fun k hk => by omega, fun k hk => by omega, fun _ => ⟨rfl, rfl, rfl, rfl⟩, fun e => by cases e⟩, ⟨fun k hk => by omega, fun k l hk => by omega⟩, ⟨by omega, fun i k hi => by omega⟩, fun e => by cases e⟩
