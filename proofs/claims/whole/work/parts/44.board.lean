theorem lay_w {F s j kd m V V2 : Nat} {v : Int64} {bk : Nat → Int32} {bn : Nat → Int64} {bh bd : Nat → Int32} {Mk : Nat → Int32} {Mn : Nat → Int64} {Mz : Nat → Int32} {Mt : Nat → Int64} {Msp : Nat → Int32} (hF : 4000 ≤ F) (hs : s ≤ 1) (hj : j < 80) (hkd : kd ≤ 4) (h1 : bk j = nI kd) (h2 : bn j = v) (h3 : bh j = nI V) (h4 : bd j = nI V2) (hV : V ≤ 9999999) (hV2 : V2 ≤ 500) (g1 : Mk (80 * s + j) = nI kd) (g2 : Mn (80 * s + j) = v) (g3 : Mz (80 * s + j) = nI m) (g4 : Mt (80 * s + j) = lN V) (g5 : Msp (80 * s + j) = nI V2) (hv : NM v m) :
    ∃ l : List Nat, l.length ≤ 31 ∧ (∀ (f dg : Nat → Int32) (w : Nat), w + l.length ≤ 3000 → ∃ dg', f_X5_putLayer F (nI j) f dg (nI w) bk bn bh bd = some (ap f w l, dg', nI (w + l.length))) ∧
      (∀ (L fu w : Nat) (f Ml Mca Mpr Mpf Mpt Mvi Mvf Mvt : Nat → Int32), Ml s = nI L → j < L → L ≤ 80 → w + l.length ≤ 3000 → g_X7_writeAll_7 F (fu + 1) (nI j) (nI s) Ml Mk Mn Mz Mt Msp Mca Mpr Mpf Mpt Mvi Mvf Mvt f (nI w) = g_X7_writeAll_7 F fu (nI (j + 1)) (nI s) Ml Mk Mn Mz Mt Msp Mca Mpr Mpf Mpt Mvi Mvf Mvt (ap f w l) (nI (w + l.length))) := by
  obtain ⟨x, hvx, m1, m2, hx, ep⟩ := name_put (F := F) hF hv
  have es := name_say (F := F) (Mn := Mn) (Mz := Mz) hF hs hj hx (by rw [g2, hvx]) g3 m1 m2
  have wp := word_put (F := F) hF (show kd < 7 by omega)
  have wsy := word_say (F := F) hF (show kd < 7 by omega)
  have hwl := wl_len (show kd < 7 by omega)
  have hspl := wl_spl (show kd < 7 by omega)
  have hnl := nl_len (x := x) m
  by_cases q4 : kd = 4
  · refine ⟨wl kd ++ ([32] ++ (nl x m ++ [10])), ?_, fun f dg w hw => ?_, fun L fu w f Ml Mca Mpr Mpf Mpt Mvi Mvf Mvt hl hjL hL hw => ?_⟩
    · simp only [List.length_append, List.length_cons, List.length_nil, hnl]; omega
    · have hlen : (wl kd ++ ([32] ++ (nl x m ++ [10]))).length = (wl kd).length + (1 + (m + 1)) := by simp only [List.length_append, List.length_cons, List.length_nil, hnl]
      rw [hlen] at hw ⊢
      have a1 := wp f w (by omega)
      have a2 := put_ok (F := F) (c := 32) (by omega) (ap f w (wl kd)) (w + (wl kd).length) (by show w + (wl kd).length + 1 ≤ 3000; omega)
      have a3 := ep (ap (ap f w (wl kd)) (w + (wl kd).length) [32]) (w + (wl kd).length + 1) (by rw [hnl]; omega)
      have a4 := put_ok (F := F) (c := 10) (by omega) (ap (ap (ap f w (wl kd)) (w + (wl kd).length) [32]) (w + (wl kd).length + 1) (nl x m)) (w + (wl kd).length + 1 + (nl x m).length) (by show w + (wl kd).length + 1 + (nl x m).length + 1 ≤ 3000; rw [hnl]; omega)
      refine ⟨dg, ?_⟩
      unfold f_X5_putLayer
      simp (disch := omega) only [mg_in, nI_clamp, h1, hspl, h2, iL32, iL4, if_eqT, iL10]
      rw [show f_X5_putWord F kd f (nI w) = _ from a1, mb2_v]
      rw [show f_X5_put F (nI 32) (ap f w (wl kd)) (nI (w + (wl kd).length)) = _ from a2, mb2_v]
      rw [show f_X5_putName F v (ap (ap f w (wl kd)) (w + (wl kd).length) [32]) (nI (w + (wl kd).length + [32].length)) = _ from a3, mb2_v]
      rw [show f_X5_put F (nI 10) (ap (ap (ap f w (wl kd)) (w + (wl kd).length) [32]) (w + (wl kd).length + 1) (nl x m)) (nI (w + (wl kd).length + 1 + (nl x m).length)) = _ from a4, mb2_v]
      rw [ap_app (f := f), ap_app (f := f), ap_app (f := f), hnl, show w + (wl kd).length + 1 + m + [10].length = w + ((wl kd).length + (1 + (m + 1))) by show w + (wl kd).length + 1 + m + 1 = _; omega]
      rfl
    · have hlen : (wl kd ++ ([32] ++ (nl x m ++ [10]))).length = (wl kd).length + (1 + (m + 1)) := by simp only [List.length_append, List.length_cons, List.length_nil, hnl]
      rw [hlen] at hw ⊢
      have hl3 : (32 :: nl x m).length = m + 1 := by show (nl x m).length + 1 = m + 1; rw [hnl]
      have a1 := wsy f w (by omega)
      have a2 := es (ap f w (wl kd)) (w + (wl kd).length) (by rw [hl3]; omega)
      have a4 := say_ok (F := F) (c := 10) (ap (ap f w (wl kd)) (w + (wl kd).length) (32 :: nl x m)) (w + (wl kd).length + (32 :: nl x m).length) (by show w + (wl kd).length + (32 :: nl x m).length + 1 ≤ 3000; rw [hl3]; omega)
      rw [g_X7_writeAll_7_s]
      simp (disch := omega) only [mg_in, nI_clamp, hl, if_leF, iL80, pk_mul, nI_add, mn_e, g1, iL4, if_eqT, iL10]
      rw [show f_X7_sayWord F (nI kd) f (nI w) = _ from a1, mb2_v]
      rw [show f_X7_sayName F (nI j) (nI s) Mn Mz (ap f w (wl kd)) (nI (w + (wl kd).length)) = _ from a2, mb2_v]
      rw [show f_X7_say F (nI 10) (ap (ap f w (wl kd)) (w + (wl kd).length) (32 :: nl x m)) (nI (w + (wl kd).length + (32 :: nl x m).length)) = _ from a4, mb2_v, nI_1]
      rw [ap_app (f := f), show w + (wl kd).length + (32 :: nl x m).length + [10].length = w + ((wl kd).length + (1 + (m + 1))) by rw [hl3]; show w + (wl kd).length + (m + 1) + 1 = _; omega]
      rw [show ([32] ++ (nl x m ++ [10])) = (32 :: nl x m) ++ [10] from rfl, ap_app (f := f)]
  · obtain ⟨n1, b1, b2, b3⟩ := num_em (F := F) (V := V) (D := 3) hF (Or.inr rfl) hV (by omega)
    obtain ⟨n2, c1, c2, c3⟩ := num_em (F := F) (V := V2) (D := 1) hF (Or.inl rfl) (by omega) (by omega)
    have b1 := b1 3 (by omega) (by omega)
    have c1 := c1 1 (by omega) (by omega)
    refine ⟨wl kd ++ ([32] ++ (nl x m ++ ([32] ++ (n1 ++ ([32] ++ (n2 ++ [10])))))), ?_, fun f dg w hw => ?_, fun L fu w f Ml Mca Mpr Mpf Mpt Mvi Mvf Mvt hl hjL hL hw => ?_⟩
    · simp only [List.length_append, List.length_cons, List.length_nil, hnl]; omega
    · have hlen : (wl kd ++ ([32] ++ (nl x m ++ ([32] ++ (n1 ++ ([32] ++ (n2 ++ [10]))))))).length = (wl kd).length + (1 + (m + (1 + (n1.length + (1 + (n2.length + 1)))))) := by simp only [List.length_append, List.length_cons, List.length_nil, hnl]
      rw [hlen] at hw ⊢
      have a1 := wp f w (by omega)
      generalize hf1 : ap f w (wl kd) = f1 at a1
      generalize hw1 : w + (wl kd).length = w1 at a1
      have a2 := put_ok (F := F) (c := 32) (by omega) f1 w1 (by show w1 + 1 ≤ 3000; omega)
      generalize hf2 : ap f1 w1 [32] = f2 at a2
      have a3 := ep f2 (w1 + 1) (by rw [hnl]; omega)
      rw [hnl] at a3
      generalize hf3 : ap f2 (w1 + 1) (nl x m) = f3 at a3
      have a4 := put_ok (F := F) (c := 32) (by omega) f3 (w1 + 1 + m) (by show w1 + 1 + m + 1 ≤ 3000; omega)
      generalize hf4 : ap f3 (w1 + 1 + m) [32] = f4 at a4
      obtain ⟨dg1, a5⟩ := b2 f4 dg (w1 + 1 + m + 1) (by omega)
      generalize hf5 : ap f4 (w1 + 1 + m + 1) n1 = f5 at a5
      have a6 := put_ok (F := F) (c := 32) (by omega) f5 (w1 + 1 + m + 1 + n1.length) (by show w1 + 1 + m + 1 + n1.length + 1 ≤ 3000; omega)
      generalize hf6 : ap f5 (w1 + 1 + m + 1 + n1.length) [32] = f6 at a6
      obtain ⟨dg2, a7⟩ := c2 f6 dg1 (w1 + 1 + m + 1 + n1.length + 1) (by omega)
      generalize hf7 : ap f6 (w1 + 1 + m + 1 + n1.length + 1) n2 = f7 at a7
      have a8 := put_ok (F := F) (c := 10) (by omega) f7 (w1 + 1 + m + 1 + n1.length + 1 + n2.length) (by show w1 + 1 + m + 1 + n1.length + 1 + n2.length + 1 ≤ 3000; omega)
      refine ⟨dg2, ?_⟩
      unfold f_X5_putLayer
      simp (disch := omega) only [mg_in, nI_clamp, h1, hspl, h2, h3, h4, iL32, iL4, if_eqF, iL10, iL3]
      rw [show f_X5_putWord F kd f (nI w) = _ from a1, mb2_v]
      rw [show f_X5_put F (nI 32) f1 (nI w1) = some (f2, nI (w1 + 1)) from a2, mb2_v]
      rw [show f_X5_putName F v f2 (nI (w1 + 1)) = _ from a3, mb2_v]
      rw [show f_X5_put F (nI 32) f3 (nI (w1 + 1 + m)) = some (f4, nI (w1 + 1 + m + 1)) from a4, mb2_v]
      rw [a5, mb3_v]
      rw [show f_X5_put F (nI 32) f5 (nI (w1 + 1 + m + 1 + n1.length)) = some (f6, nI (w1 + 1 + m + 1 + n1.length + 1)) from a6, mb2_v]
      rw [show (1 : Int32) = nI 1 from rfl, a7, mb3_v]
      rw [show f_X5_put F (nI 10) f7 (nI (w1 + 1 + m + 1 + n1.length + 1 + n2.length)) = some (ap f7 (w1 + 1 + m + 1 + n1.length + 1 + n2.length) [10], nI (w1 + 1 + m + 1 + n1.length + 1 + n2.length + 1)) from a8, mb2_v]
      rw [ap_app (f := f), hf1, hw1, ap_app (f := f), hf2, ap_app (f := f), show w1 + [32].length = w1 + 1 from rfl, hf3, hnl, ap_app (f := f), hf4, ap_app (f := f), show w1 + 1 + m + [32].length = w1 + 1 + m + 1 from rfl, hf5, ap_app (f := f), hf6, ap_app (f := f), show w1 + 1 + m + 1 + n1.length + [32].length = w1 + 1 + m + 1 + n1.length + 1 from rfl, hf7]
      rw [show w1 + 1 + m + 1 + n1.length + 1 + n2.length + 1 = w + ((wl kd).length + (1 + (m + (1 + (n1.length + (1 + (n2.length + 1))))))) by omega]
    · have hlen : (wl kd ++ ([32] ++ (nl x m ++ ([32] ++ (n1 ++ ([32] ++ (n2 ++ [10]))))))).length = (wl kd).length + (1 + (m + (1 + (n1.length + (1 + (n2.length + 1)))))) := by simp only [List.length_append, List.length_cons, List.length_nil, hnl]
      rw [hlen] at hw ⊢
      have hl3 : (32 :: nl x m).length = m + 1 := by show (nl x m).length + 1 = m + 1; rw [hnl]
      have a1 := wsy f w (by omega)
      generalize hf1 : ap f w (wl kd) = f1 at a1
      generalize hw1 : w + (wl kd).length = w1 at a1
      have a2 := es f1 w1 (by rw [hl3]; omega)
      rw [hl3] at a2
      generalize hf3 : ap f1 w1 (32 :: nl x m) = f3 at a2
      have a5 := b3 f3 (w1 + (m + 1)) (by show w1 + (m + 1) + (n1.length + 1) ≤ 3000; omega)
      generalize hf5 : ap f3 (w1 + (m + 1)) (32 :: n1) = f5 at a5
      have a7 := c3 f5 (w1 + (m + 1) + (n1.length + 1)) (by show w1 + (m + 1) + (n1.length + 1) + (n2.length + 1) ≤ 3000; omega)
      generalize hf7 : ap f5 (w1 + (m + 1) + (n1.length + 1)) (32 :: n2) = f7 at a7
      have a8 := say_ok (F := F) (c := 10) f7 (w1 + (m + 1) + (n1.length + 1) + (n2.length + 1)) (by show w1 + (m + 1) + (n1.length + 1) + (n2.length + 1) + 1 ≤ 3000; omega)
      rw [g_X7_writeAll_7_s]
      simp (disch := omega) only [mg_in, nI_clamp, hl, if_leF, iL80, pk_mul, nI_add, mn_e, g1, iL4, if_eqF, iL10, g4, g5, nI_l]
      rw [show (1000 : Int64) = lN (10 ^ 3) from by decide, show (10 : Int64) = lN (10 ^ 1) from by decide]
      rw [show f_X7_sayWord F (nI kd) f (nI w) = _ from a1, mb2_v]
      rw [show f_X7_sayName F (nI j) (nI s) Mn Mz f1 (nI w1) = _ from a2, mb2_v]
      rw [show f_X7_sayNumber F (lN V) (lN (10 ^ 3)) f3 (nI (w1 + (m + 1))) = some (f5, nI (w1 + (m + 1) + (n1.length + 1))) from a5, mb2_v]
      rw [show f_X7_sayNumber F (lN V2) (lN (10 ^ 1)) f5 (nI (w1 + (m + 1) + (n1.length + 1))) = some (f7, nI (w1 + (m + 1) + (n1.length + 1) + (n2.length + 1))) from a7, mb2_v]
      rw [show f_X7_say F (nI 10) f7 (nI (w1 + (m + 1) + (n1.length + 1) + (n2.length + 1))) = some (ap f7 (w1 + (m + 1) + (n1.length + 1) + (n2.length + 1)) [10], nI (w1 + (m + 1) + (n1.length + 1) + (n2.length + 1) + 1)) from a8, mb2_v, nI_1]
      rw [show ([32] ++ (nl x m ++ ([32] ++ (n1 ++ ([32] ++ (n2 ++ [10])))))) = (32 :: nl x m) ++ ((32 :: n1) ++ ((32 :: n2) ++ [10])) from rfl]
      rw [ap_app (f := f), hf1, hw1, ap_app (f := f), hf3, hl3, ap_app (f := f), hf5, show w1 + (m + 1) + (32 :: n1).length = w1 + (m + 1) + (n1.length + 1) from rfl, ap_app (f := f), hf7]
      rw [show w1 + (m + 1) + (n1.length + 1) + (n2.length + 1) + 1 = w + ((wl kd).length + (1 + (m + (1 + (n1.length + (1 + (n2.length + 1))))))) by omega]
      rfl
theorem span_w {F s k x y l1 l2 m1 m2 : Nat} {v1 v2 : Int64} {bn : Nat → Int64} {bY : Nat → Int32} {Mn : Nat → Int64} {Mz Mca : Nat → Int32} (hF : 4000 ≤ F) (hs : s ≤ 1) (hk : k < 7) (hx : x < 32) (hy : y < 32) (hl1 : l1 < 80) (hl2 : l2 < 80) (h1 : bY x = nI l1) (h2 : bY y = nI l2) (h3 : bn l1 = v1) (h4 : bn l2 = v2) (g1 : Mca (32 * s + x) = nI l1) (g2 : Mca (32 * s + y) = nI l2) (g3 : Mn (80 * s + l1) = v1) (g4 : Mn (80 * s + l2) = v2) (g5 : Mz (80 * s + l1) = nI m1) (g6 : Mz (80 * s + l2) = nI m2) (hv1 : NM v1 m1) (hv2 : NM v2 m2) :
    ∃ l : List Nat, l.length ≤ 31 ∧ EM l (fun f w => f_X5_putSpan F (nI k) (nI x) (nI y) f w bn bY) ∧ EM l (fun f w => f_X7_sayTwo F (nI k) (nI x) (nI y) (nI s) Mn Mz Mca f w) := by
  obtain ⟨x1, hvx, a1, a2, hx1, ep1⟩ := name_put (F := F) hF hv1
  obtain ⟨x2, hvx2, c1, c2, hx2, ep2⟩ := name_put (F := F) hF hv2
  have es1 := name_say (F := F) (Mn := Mn) (Mz := Mz) hF hs hl1 hx1 (by rw [g3, hvx]) g5 a1 a2
  have es2 := name_say (F := F) (Mn := Mn) (Mz := Mz) hF hs hl2 hx2 (by rw [g4, hvx2]) g6 c1 c2
  have wp := word_put (F := F) hF hk
  have wsy := word_say (F := F) hF hk
  have hwl := wl_len hk
  have hspl := wl_spl hk
  have hn1 := nl_len (x := x1) m1
  have hn2 := nl_len (x := x2) m2
  have q1 : EM (32 :: nl x1 m1) (fun f w => mb2 (f_X5_put F (nI 32) f w) (fun f w => f_X5_putName F v1 f w)) := EM_seq (put_ok (c := 32) (by omega)) ep1
  have q2 : EM (32 :: nl x2 m2) (fun f w => mb2 (f_X5_put F (nI 32) f w) (fun f w => f_X5_putName F v2 f w)) := EM_seq (put_ok (c := 32) (by omega)) ep2
  have pc := EM_seq wp (EM_seq q1 (EM_seq q2 (put_ok (F := F) (c := 10) (by omega))))
  have ps := EM_seq wsy (EM_seq es1 (EM_seq es2 (say_ok (F := F) (c := 10))))
  have mbA : ∀ {o : Option ((Nat → Int32) × Int32)} {g h : (Nat → Int32) → Int32 → Option ((Nat → Int32) × Int32)}, mb2 (mb2 o g) h = mb2 o (fun a b => mb2 (g a b) h) := by
    intro o g h
    rcases o with _ | ⟨a, b⟩ <;> rfl
  have mbE : ∀ {o : Option ((Nat → Int32) × Int32)}, mb2 o (fun a b => some (a, b)) = o := by
    intro o
    rcases o with _ | ⟨a, b⟩ <;> rfl
  refine ⟨wl k ++ ((32 :: nl x1 m1) ++ ((32 :: nl x2 m2) ++ [10])), ?_, fun f w hw => ?_, fun f w hw => ?_⟩
  · simp only [List.length_append, List.length_cons, List.length_nil, hn1, hn2]; omega
  · have := pc f w hw
    show f_X5_putSpan F (nI k) (nI x) (nI y) f (nI w) bn bY = _
    unfold f_X5_putSpan
    rw [← this, hspl, iL32, iL10]
    simp (disch := omega) only [mg_in, nI_clamp, h1, h2, h3, h4, mbA, mbE]
  · have := ps f w hw
    show f_X7_sayTwo F (nI k) (nI x) (nI y) (nI s) Mn Mz Mca f (nI w) = _
    unfold f_X7_sayTwo
    rw [← this, iL32, iL10]
    simp (disch := omega) only [pk_mul, nI_add, mg_in, nI_clamp, g1, g2, mbA, mbE]
theorem br_cop {s L C x : Nat} {bk : Nat → Int32} {bn : Nat → Int64} {bh bd bu bY : Nat → Int32} {Mk : Nat → Int32} {Mn : Nat → Int64} {Mz : Nat → Int32} {Mt : Nat → Int64} {Msp Mca : Nat → Int32} (B : BR s L C bk bn bh bd bu bY Mk Mn Mz Mt Msp Mca) (hx : x < C) : ∃ (l m : Nat) (v : Int64), x < 32 ∧ l < 80 ∧ bY x = nI l ∧ bn l = v ∧ Mca (32 * s + x) = nI l ∧ Mn (80 * s + l) = v ∧ Mz (80 * s + l) = nI m ∧ NM v m := by
  obtain ⟨⟨hs, hL, hC⟩, hlk, hc, _⟩ := B
  obtain ⟨a1, l, a2, a3, _, _⟩ := hc x hx
  obtain ⟨_, b2, _, _, _, ⟨m, b3, b4⟩, _⟩ := hlk l a2
  exact ⟨l, m, bn l, by omega, by omega, a3, rfl, by rw [a1, a3], b2, b3, b4⟩
theorem via_w {F s L C nv : Nat} {U V : Nat → Nat} {bk : Nat → Int32} {bn : Nat → Int64} {bh bd bu bY vf vl : Nat → Int32} {Mk : Nat → Int32} {Mn : Nat → Int64} {Mz : Nat → Int32} {Mt : Nat → Int64} {Msp Mca Mvi Mvf Mvt : Nat → Int32} (hF : 4000 ≤ F) (B : BR s L C bk bn bh bd bu bY Mk Mn Mz Mt Msp Mca) (hnv : nv ≤ 40) (hvr : Mvi s = nI nv) (V0 : SR 0 nv U V vf vl) (V1 : SR (40 * s) nv U V Mvf Mvt) (UV : ∀ k, k < nv → U k < C ∧ V k < C) :
    ∀ (r j : Nat), j + r = nv → ∃ l : List Nat, l.length ≤ 31 * r ∧ (∀ (fu w : Nat) (f dg : Nat → Int32), r < fu → w + l.length ≤ 3000 → g_X5_putBoard_73 F fu (nI j) f dg (nI w) bn bY vf vl (nI nv) = some (ap f w l, dg, nI (w + l.length))) ∧ (∀ (fu w : Nat) (f : Nat → Int32), r < fu → w + l.length ≤ 3000 → g_X7_writeAll_156 F fu (nI (40 * s + j)) (nI s) Mn Mz Mca Mvi Mvf Mvt f (nI w) = some (ap f w l, nI (w + l.length))) := by
  have hs := B.1.1
  intro r
  induction r with
  | zero =>
    intro j he
    refine ⟨[], by simp, fun fu w f dg hf hw => ?_, fun fu w f hf hw => ?_⟩
    · obtain ⟨fu, rfl⟩ : ∃ z, fu = z + 1 := ⟨fu - 1, by omega⟩
      rw [g_X5_putBoard_73_s, if_leT (by omega) (by omega)]; rfl
    · obtain ⟨fu, rfl⟩ : ∃ z, fu = z + 1 := ⟨fu - 1, by omega⟩
      rw [g_X7_writeAll_156_s]
      simp (disch := omega) only [mg_in, if10, if00, if_true, if_false, nI_1, nI_s1, mn_e, mb1_v, mb2_v, mb3_v, mb4_v, nI_clamp, nI_add, pk_mul, if_leT, if_leF, if_ltT, if_ltF, if_eqT, if_eqF, if_m1F, if_m1F2, if_m1T, if_m1ltT, if_m1leT, if_m1leF, if_m1ltF, if_e1T, if_e1F, if_1eT, if_1eF, if_le1T, if_le1F, if_1ltT, if_1ltF, iL0, iL2, iL3, iL4, iL5, iL6, iL7, iL8, iL9, iL10, iL20, iL21, iL22, iL31, iL32, iL40, iL46, iL48, iL57, iL64, iL65, iL80, iL81, iL90, iL96, iL97, iL100, iL122, iL126, iL127, iL500, iL1000, iL3000, iL9999999, hvr]
      rfl
  | succ r ih =>
    intro j he
    obtain ⟨h1, h2⟩ := UV j (by omega)
    obtain ⟨l1, m1, v1, a1, a2, a3, a4, a5, a6, a7, a8⟩ := br_cop B h1
    obtain ⟨l2, m2, v2, b1, b2, b3, b4, b5, b6, b7, b8⟩ := br_cop B h2
    obtain ⟨l, c1, c2, c3⟩ := span_w (F := F) (k := 6) (bn := bn) (bY := bY) (Mn := Mn) (Mz := Mz) (Mca := Mca) hF hs (by omega) a1 b1 a2 b2 a3 b3 a4 b4 a5 b5 a6 b6 a7 b7 a8 b8
    obtain ⟨l', d1, d2, d3⟩ := ih (j + 1) (by omega)
    obtain ⟨e1, e2, _, _⟩ := SR_0 V0 (k := j) (by omega)
    obtain ⟨e3, e4, _, _⟩ := V1 j (by omega)
    have ea : 40 * s + j + 1 = 40 * s + (j + 1) := by omega
    refine ⟨l ++ l', by rw [List.length_append]; omega, fun fu w f dg hf hw => ?_, fun fu w f hf hw => ?_⟩
    · obtain ⟨fu, rfl⟩ : ∃ z, fu = z + 1 := ⟨fu - 1, by omega⟩
      rw [List.length_append] at hw ⊢
      have p1 := c2 f w (by omega)
      have p2 := d2 fu (w + l.length) (ap f w l) dg (by omega) (by omega)
      rw [g_X5_putBoard_73_s]
      simp (disch := omega) only [if_leF, mg_in, nI_clamp, e1, e2, iL6]
      rw [show f_X5_putSpan F (nI 6) (nI (U j)) (nI (V j)) f (nI w) bn bY = _ from p1, mb2_v, mn_e, nI_1, p2, ap_app (f := f), Nat.add_assoc]
    · obtain ⟨fu, rfl⟩ : ∃ z, fu = z + 1 := ⟨fu - 1, by omega⟩
      rw [List.length_append] at hw ⊢
      have p1 := c3 f w (by omega)
      have p2 := d3 fu (w + l.length) (ap f w l) (by omega) (by omega)
      rw [g_X7_writeAll_156_s]
      simp (disch := omega) only [if_leF, mg_in, nI_clamp, hvr, iL40, pk_mul, nI_add, e3, e4, iL6]
      rw [show f_X7_sayTwo F (nI 6) (nI (U j)) (nI (V j)) (nI s) Mn Mz Mca f (nI w) = _ from p1, mb2_v, mn_e, nI_1, ea, p2, ap_app (f := f), Nat.add_assoc]
theorem prs_w {F s L C c nv : Nat} {X Y U V : Nat → Nat} {bk : Nat → Int32} {bn : Nat → Int64} {bh bd bu bY pf pl vf vl : Nat → Int32} {Mk : Nat → Int32} {Mn : Nat → Int64} {Mz : Nat → Int32} {Mt : Nat → Int64} {Msp Mca Mpr Mpf Mpt Mvi Mvf Mvt : Nat → Int32} (hF : 4000 ≤ F) (B : BR s L C bk bn bh bd bu bY Mk Mn Mz Mt Msp Mca) (hc1 : 1 ≤ c) (hc : c ≤ 21) (hr : Mpr s = nI c) (R0 : SR 0 c X Y pf pl) (R1 : SR (22 * s) c X Y Mpf Mpt) (PV0 : PV C c X Y) (hnv : nv ≤ 40) (hvr : Mvi s = nI nv) (V0 : SR 0 nv U V vf vl) (V1 : SR (40 * s) nv U V Mvf Mvt) (UV : ∀ k, k < nv → U k < C ∧ V k < C) :
    ∀ (r j : Nat), j + r = c - 1 → ∃ l : List Nat, l.length ≤ 31 * (r + nv) ∧ (∀ (fu w : Nat) (f dg : Nat → Int32), r < fu → w + l.length ≤ 3000 → g_X5_putBoard_37 F fu (nI j) f dg (nI w) bn bY pf pl (nI c) vf vl (nI nv) = some (ap f w l, dg, nI (w + l.length))) ∧ (∀ (fu w : Nat) (f : Nat → Int32), r < fu → w + l.length ≤ 3000 → g_X7_writeAll_102 F fu (nI (22 * s + j)) (nI s) Mn Mz Mca Mpr Mpf Mpt Mvi Mvf Mvt f (nI w) = some (ap f w l, nI (w + l.length))) := by
  have hs := B.1.1
  have hC3 := B.1.2.2
  have ec : nI c - 1 = nI (c - 1) := nI_s1 hc1
  have ec2 : nI (22 * s + c) - 1 = nI (22 * s + (c - 1)) := by rw [nI_s1 (by omega)]; congr 1; omega
  intro r
  induction r with
  | zero =>
    intro j he
    obtain ⟨l, c1, c2, c3⟩ := via_w (F := F) hF B hnv hvr V0 V1 UV nv 0 (by omega)
    refine ⟨l, by omega, fun fu w f dg hf hw => ?_, fun fu w f hf hw => ?_⟩
    · obtain ⟨fu, rfl⟩ : ∃ z, fu = z + 1 := ⟨fu - 1, by omega⟩
      rw [g_X5_putBoard_37_s, ec, if_leT (by omega) (by omega)]
      exact c2 F w f dg (by omega) hw
    · obtain ⟨fu, rfl⟩ : ∃ z, fu = z + 1 := ⟨fu - 1, by omega⟩
      rw [g_X7_writeAll_102_s]
      simp (disch := omega) only [mg_in, nI_clamp, hr, iL22, pk_mul, nI_add, ec2, if_leT, mn_e, iL40]
      exact c3 F w f (by omega) hw
  | succ r ih =>
    intro j he
    obtain ⟨h0, h2⟩ := PV0.1 j (by omega)
    have h1 : X j < C := by omega
    obtain ⟨l1, m1, v1, a1, a2, a3, a4, a5, a6, a7, a8⟩ := br_cop B h1
    obtain ⟨l2, m2, v2, b1, b2, b3, b4, b5, b6, b7, b8⟩ := br_cop B h2
    obtain ⟨l, c1, c2, c3⟩ := span_w (F := F) (k := 5) (bn := bn) (bY := bY) (Mn := Mn) (Mz := Mz) (Mca := Mca) hF hs (by omega) a1 b1 a2 b2 a3 b3 a4 b4 a5 b5 a6 b6 a7 b7 a8 b8
    obtain ⟨l', d1, d2, d3⟩ := ih (j + 1) (by omega)
    obtain ⟨e1, e2, _, _⟩ := SR_0 R0 (k := j) (by omega)
    obtain ⟨e3, e4, _, _⟩ := R1 j (by omega)
    have ea : 22 * s + j + 1 = 22 * s + (j + 1) := by omega
    refine ⟨l ++ l', by rw [List.length_append]; omega, fun fu w f dg hf hw => ?_, fun fu w f hf hw => ?_⟩
    · obtain ⟨fu, rfl⟩ : ∃ z, fu = z + 1 := ⟨fu - 1, by omega⟩
      rw [List.length_append] at hw ⊢
      have p1 := c2 f w (by omega)
      have p2 := d2 fu (w + l.length) (ap f w l) dg (by omega) (by omega)
      rw [g_X5_putBoard_37_s]
      simp (disch := omega) only [ec, if_leF, mg_in, nI_clamp, e1, e2, iL5]
      rw [show f_X5_putSpan F (nI 5) (nI (X j)) (nI (Y j)) f (nI w) bn bY = _ from p1, mb2_v, mn_e, nI_1, p2, ap_app (f := f), Nat.add_assoc]
    · obtain ⟨fu, rfl⟩ : ∃ z, fu = z + 1 := ⟨fu - 1, by omega⟩
      rw [List.length_append] at hw ⊢
      have p1 := c3 f w (by omega)
      have p2 := d3 fu (w + l.length) (ap f w l) (by omega) (by omega)
      rw [g_X7_writeAll_102_s]
      simp (disch := omega) only [mg_in, nI_clamp, hr, iL22, pk_mul, nI_add, ec2, if_leF, e3, e4, iL5]
      rw [show f_X7_sayTwo F (nI 5) (nI (X j)) (nI (Y j)) (nI s) Mn Mz Mca f (nI w) = _ from p1, mb2_v, mn_e, nI_1, ea, p2, ap_app (f := f), Nat.add_assoc]
theorem all_w {F s L C c nv : Nat} {X Y U V : Nat → Nat} {bk : Nat → Int32} {bn : Nat → Int64} {bh bd bu bY pf pl vf vl Ml Mk : Nat → Int32} {Mn : Nat → Int64} {Mz : Nat → Int32} {Mt : Nat → Int64} {Msp Mcop Mca Mpr Mpf Mpt Mvi Mvf Mvt : Nat → Int32} (hF : 4000 ≤ F) (W : LV s L C c nv X Y U V bk bn bh bd bu bY pf pl vf vl Ml Mk Mn Mz Mt Msp Mcop Mca Mpr Mpf Mpt Mvi Mvf Mvt) :
    ∀ (r j : Nat), j + r = L → ∃ l : List Nat, l.length ≤ 31 * (r + (c - 1 + nv)) ∧ (∀ (fu w : Nat) (f dg : Nat → Int32), r < fu → w + l.length ≤ 3000 → ∃ dg', g_X5_putBoard_7 F fu (nI j) f dg (nI w) bk bn bh bd bY pf pl (nI c) vf vl (nI nv) (nI L) = some (ap f w l, dg', nI (w + l.length))) ∧ (∀ (fu w : Nat) (f : Nat → Int32), r < fu → w + l.length ≤ 3000 → g_X7_writeAll_7 F fu (nI j) (nI s) Ml Mk Mn Mz Mt Msp Mca Mpr Mpf Mpt Mvi Mvf Mvt f (nI w) = some (ap f w l, nI (w + l.length))) := by
  obtain ⟨B, ⟨hl, hcop, hr, hvr⟩, PV0, ⟨c1, c21, hl1, hl2, hC2, hL1, hsum⟩, R0, R1, hnv, V0, V1, UV⟩ := W
  obtain ⟨hs, hL, hC3⟩ := B.1
  intro r
  induction r with
  | zero =>
    intro j he
    obtain ⟨l, d1, d2, d3⟩ := prs_w (F := F) hF B c1 c21 hr R0 R1 PV0 hnv hvr V0 V1 UV (c - 1) 0 (by omega)
    refine ⟨l, by omega, fun fu w f dg hf hw => ⟨dg, ?_⟩, fun fu w f hf hw => ?_⟩
    · obtain ⟨fu, rfl⟩ : ∃ z, fu = z + 1 := ⟨fu - 1, by omega⟩
      rw [g_X5_putBoard_7_s, if_leT (by omega) (by omega)]
      exact d2 F w f dg (by omega) hw
    · obtain ⟨fu, rfl⟩ : ∃ z, fu = z + 1 := ⟨fu - 1, by omega⟩
      rw [g_X7_writeAll_7_s]
      simp (disch := omega) only [mg_in, nI_clamp, hl, iL22, pk_mul, if_leT, mn_e]
      exact d3 F w f (by omega) hw
  | succ r ih =>
    intro j he
    obtain ⟨a1, a2, a3, a4, ⟨kd, k1, k2⟩, ⟨m, m1, m2⟩, ⟨V', v1, v2⟩, ⟨D', e1, e2⟩, _⟩ := B.2.1 j (by omega)
    obtain ⟨l, b1, b2, b3⟩ := lay_w (F := F) (s := s) (j := j) (kd := kd) (m := m) (V := V') (V2 := D') (v := bn j) (bk := bk) (bn := bn) (bh := bh) (bd := bd) (Mk := Mk) (Mn := Mn) (Mz := Mz) (Mt := Mt) (Msp := Msp) hF hs (by omega) k1 k2 rfl v2 e2 v1 e1 (by rw [a1, k2]) a2 m1 (by rw [a3, v2, nI_l (by omega)]) (by rw [a4, e2]) m2
    obtain ⟨l', d1, d2, d3⟩ := ih (j + 1) (by omega)
    refine ⟨l ++ l', by rw [List.length_append]; omega, fun fu w f dg hf hw => ?_, fun fu w f hf hw => ?_⟩
    · obtain ⟨fu, rfl⟩ : ∃ z, fu = z + 1 := ⟨fu - 1, by omega⟩
      rw [List.length_append] at hw ⊢
      obtain ⟨dg1, p1⟩ := b2 f dg w (by omega)
      obtain ⟨dg2, p2⟩ := d2 fu (w + l.length) (ap f w l) dg1 (by omega) (by omega)
      refine ⟨dg2, ?_⟩
      rw [g_X5_putBoard_7_s, if_leF (by omega) (by omega), p1, mb3_v, mn_e, nI_1, p2, ap_app (f := f), Nat.add_assoc]
    · obtain ⟨fu, rfl⟩ : ∃ z, fu = z + 1 := ⟨fu - 1, by omega⟩
      rw [List.length_append] at hw ⊢
      rw [b3 L fu w f Ml Mca Mpr Mpf Mpt Mvi Mvf Mvt hl (by omega) hL (by omega), d3 fu (w + l.length) (ap f w l) (by omega) (by omega), ap_app (f := f), Nat.add_assoc]
theorem board_w {F s L C c nv : Nat} {X Y U V : Nat → Nat} {bk : Nat → Int32} {bn : Nat → Int64} {bh bd bu bY pf pl vf vl Ml Mk : Nat → Int32} {Mn : Nat → Int64} {Mz : Nat → Int32} {Mt : Nat → Int64} {Msp Mcop Mca Mpr Mpf Mpt Mvi Mvf Mvt : Nat → Int32} (hF : 4000 ≤ F) (W : LV s L C c nv X Y U V bk bn bh bd bu bY pf pl vf vl Ml Mk Mn Mz Mt Msp Mcop Mca Mpr Mpf Mpt Mvi Mvf Mvt) :
    ∃ l : List Nat, l.length ≤ 3000 ∧ (∀ (f dg : Nat → Int32) (w : Int32), ∃ dg', f_X5_putBoard F f dg w bk bn bh bd bY pf pl (nI c) vf vl (nI nv) (nI L) = some (ap f 0 l, dg', nI l.length)) ∧ (∀ (f : Nat → Int32) (w : Int32), f_X7_writeAll F (nI s) Ml Mk Mn Mz Mt Msp Mca Mpr Mpf Mpt Mvi Mvf Mvt f w = some (ap f 0 l, nI l.length)) := by
  have W2 := W
  obtain ⟨B, _, _, ⟨c1, c21, hl1, hl2, hC2, hL1, hsum⟩, _⟩ := W2
  have hL := B.1.2.1
  obtain ⟨l, a1, a2, a3⟩ := all_w (F := F) hF W L 0 (by omega)
  refine ⟨l, by omega, fun f dg w => ?_, fun f w => ?_⟩
  · obtain ⟨dg', h⟩ := a2 F 0 f dg (by omega) (by omega)
    rw [Nat.zero_add] at h
    exact ⟨dg', h⟩
  · have h := a3 F 0 f (by omega) (by omega)
    rw [Nat.zero_add] at h
    exact h
