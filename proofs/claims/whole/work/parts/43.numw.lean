def pw (n : Nat) : Nat → List Nat
  | 0 => []
  | j + 1 => (48 + n / 10 ^ j % 10) :: pw n j
def pl (r d : Nat) : Nat → List Nat
  | 0 => []
  | i + 1 => (48 + r / 10 ^ i % 10) :: ((if 0 < i ∧ i = d then [46] else []) ++ pl r d i)
def pfr : Nat → Nat → List Nat
  | _, 0 => []
  | p, e + 1 => if p = 0 then [] else (48 + p / 10 ^ e) :: pfr (p % 10 ^ e) e
theorem pw_len {n : Nat} : ∀ k, (pw n k).length = k := by
  intro k
  induction k with
  | zero => rfl
  | succ k ih => show (pw n k).length + 1 = k + 1; rw [ih]
theorem pl_lo {r d : Nat} : ∀ i, i ≤ d → pl r d i = pw r i := by
  intro i
  induction i with
  | zero => intro _; rfl
  | succ i ih =>
    intro h
    show (48 + r / 10 ^ i % 10) :: ((if 0 < i ∧ i = d then [46] else []) ++ pl r d i) = (48 + r / 10 ^ i % 10) :: pw r i
    rw [if_neg (by omega), ih (by omega)]
    rfl
theorem pl_hi {r d : Nat} : ∀ q, pl r d (d + (q + 1)) = pw (r / 10 ^ d) (q + 1) ++ (if d = 0 then [] else 46 :: pw r d) := by
  have e : ∀ q, r / 10 ^ (d + q) = r / 10 ^ d / 10 ^ q := fun q => by rw [Nat.div_div_eq_div_mul, Nat.pow_add]
  intro q
  induction q with
  | zero =>
    show (48 + r / 10 ^ d % 10) :: ((if 0 < d ∧ d = d then [46] else []) ++ pl r d d) = (48 + r / 10 ^ d / 10 ^ 0 % 10) :: ([] ++ (if d = 0 then [] else 46 :: pw r d))
    rw [Nat.pow_zero, Nat.div_one, pl_lo d (Nat.le_refl _)]
    by_cases h : d = 0
    · subst h; rfl
    · rw [if_pos ⟨by omega, rfl⟩, if_neg h]; rfl
  | succ q ih =>
    show (48 + r / 10 ^ (d + (q + 1)) % 10) :: ((if 0 < d + (q + 1) ∧ d + (q + 1) = d then [46] else []) ++ pl r d (d + (q + 1))) = (48 + r / 10 ^ d / 10 ^ (q + 1) % 10) :: (pw (r / 10 ^ d) (q + 1) ++ (if d = 0 then [] else 46 :: pw r d))
    rw [if_neg (by omega), ih, e]
    rfl
theorem q_ex (n : Nat) (h : n ≤ 9999) : ∃ q, q ≤ 3 ∧ n < 10 ^ (q + 1) ∧ (q = 0 ∨ 10 ^ q ≤ n) := by
  by_cases h1 : n < 10
  · exact ⟨0, by omega, by omega, by omega⟩
  by_cases h2 : n < 100
  · exact ⟨1, by omega, by omega, by omega⟩
  by_cases h3 : n < 1000
  · exact ⟨2, by omega, by omega, by omega⟩
  · exact ⟨3, by omega, by omega, by omega⟩
theorem dgt {p : Nat} (hp : p < 2 ^ 31) : vp_nar .char (((((48 : Int32) + (nI p - nI p / (10 : Int32) * (10 : Int32)))).toUInt32 % 65536).toInt32) = nI (48 + p % 10) := by
  have e : nI p - nI p / (10 : Int32) * (10 : Int32) = nI (p % 10) := by
    rw [iL10]
    exact pk_rem hp (by omega) (by omega)
  rw [e, iL48, nI_add, char_N (by omega), nar_c (by omega)]
theorem n81 {F r d : Nat} {dg : Nat → Int32} (hd : d ≤ 3) : ∀ (i fu w : Nat) (f : Nat → Int32), i ≤ 8 → (∀ j, j < i → dg j = nI (48 + r / 10 ^ j % 10)) → i < fu → w + (pl r d i).length ≤ 3000 → g_X5_putNumber_81 F fu (nI d) (nI i + (-1)) f dg (nI w) = some (ap f w (pl r d i), dg, nI (w + (pl r d i).length)) := by
  intro i
  induction i with
  | zero =>
    intro fu w f _ hg hf hw
    obtain ⟨fu, rfl⟩ : ∃ z, fu = z + 1 := ⟨fu - 1, by omega⟩
    rw [g_X5_putNumber_81_s, if_pos (by decide)]
    rfl
  | succ i ih =>
    intro fu w f h8 hg hf hw
    obtain ⟨fu, rfl⟩ : ∃ z, fu = z + 1 := ⟨fu - 1, by omega⟩
    have e0 : ¬ nI i < 0 := nI_pos (by omega)
    have pt := put_ok (F := F) (c := 48 + r / 10 ^ i % 10) (by omega) f w
    by_cases q : 0 < i ∧ i = d
    · have el : pl r d (i + 1) = (48 + r / 10 ^ i % 10) :: 46 :: pl r d i := by
        show (48 + r / 10 ^ i % 10) :: ((if 0 < i ∧ i = d then [46] else []) ++ pl r d i) = _
        rw [if_pos q]; rfl
      rw [el] at hw ⊢
      have hw2 : w + ((pl r d i).length + 1 + 1) ≤ 3000 := hw
      have pt2 := put_ok (F := F) (c := 46) (by omega) (upd f w (nI (48 + r / 10 ^ i % 10))) (w + 1) (by show w + 1 + 1 ≤ 3000; omega)
      have i1 := ih fu (w + 1 + 1) (upd (upd f w (nI (48 + r / 10 ^ i % 10))) (w + 1) (nI 46)) (by omega) (fun j hj => hg j (by omega)) (by omega) (by omega)
      have ez : ¬ nI i ≤ 0 := nI_ge (a := 0) (by omega) (by omega)
      rw [g_X5_putNumber_81_s, pk_m1, if_neg e0, mg_in (by omega) (by omega), nI_clamp (by omega), hg i (by omega), show f_X5_put F (nI (48 + r / 10 ^ i % 10)) f (nI w) = _ from pt (by show w + 1 ≤ 3000; omega), mb2_v, if_neg ez, if_eqT q.2, iL46]
      rw [show f_X5_put F (nI 46) (ap f w [48 + r / 10 ^ i % 10]) (nI (w + [48 + r / 10 ^ i % 10].length)) = _ from pt2, mb2_v, mn_e]
      rw [show w + ((48 + r / 10 ^ i % 10) :: 46 :: pl r d i).length = w + 1 + 1 + (pl r d i).length by show w + ((pl r d i).length + 1 + 1) = _; omega]
      exact i1
    · have el : pl r d (i + 1) = (48 + r / 10 ^ i % 10) :: pl r d i := by
        show (48 + r / 10 ^ i % 10) :: ((if 0 < i ∧ i = d then [46] else []) ++ pl r d i) = _
        rw [if_neg q]; rfl
      rw [el] at hw ⊢
      have hw2 : w + ((pl r d i).length + 1) ≤ 3000 := hw
      have i1 := ih fu (w + 1) (upd f w (nI (48 + r / 10 ^ i % 10))) (by omega) (fun j hj => hg j (by omega)) (by omega) (by omega)
      rw [g_X5_putNumber_81_s, pk_m1, if_neg e0, mg_in (by omega) (by omega), nI_clamp (by omega), hg i (by omega), show f_X5_put F (nI (48 + r / 10 ^ i % 10)) f (nI w) = _ from pt (by show w + 1 ≤ 3000; omega), mb2_v]
      rw [show w + ((48 + r / 10 ^ i % 10) :: pl r d i).length = w + 1 + (pl r d i).length by show w + ((pl r d i).length + 1) = _; omega]
      by_cases q2 : i = 0
      · subst q2
        rw [if_pos (show nI 0 ≤ 0 by decide), mn_e]
        exact i1
      · have ez : ¬ nI i ≤ 0 := nI_ge (a := 0) (by omega) (by omega)
        rw [if_neg ez, if_eqF (fun e => q ⟨by omega, e⟩) (by omega) (by omega), mn_e]
        exact i1
theorem n31 {F r d q : Nat} (hr : r < 2 ^ 31) (hd : d ≤ 3) (hq : q ≤ 3) (h1 : r < 10 ^ (d + (q + 1))) (h2 : q = 0 ∨ 10 ^ (d + q) ≤ r) (hF : 4000 ≤ F) : ∀ (t u fu w : Nat) (f dg : Nat → Int32), u + t = d + (q + 1) → (∀ j, j < u → dg j = nI (48 + r / 10 ^ j % 10)) → t < fu → w + (pl r d (d + (q + 1))).length ≤ 3000 → ∃ dg', g_X5_putNumber_31 F fu (nI (r / 10 ^ u)) (nI d) (nI u) f dg (nI w) = some (ap f w (pl r d (d + (q + 1))), dg', nI (w + (pl r d (d + (q + 1))).length)) := by
  intro t
  induction t with
  | zero =>
    intro u fu w f dg he hg hf hw
    obtain ⟨fu, rfl⟩ : ∃ z, fu = z + 1 := ⟨fu - 1, by omega⟩
    obtain rfl : u = d + (q + 1) := by omega
    have ez : r / 10 ^ (d + (q + 1)) = 0 := Nat.div_eq_of_lt h1
    have l8 := n81 (F := F) (dg := dg) hd (d + (q + 1)) F w f (by omega) hg (by omega) hw
    refine ⟨dg, ?_⟩
    have em : nI (d + (q + 1)) - 1 = nI (d + (q + 1)) + (-1) := by
      rw [show d + (q + 1) = d + q + 1 by omega, pk_m1, nI_s1 (by omega)]; rfl
    rw [g_X5_putNumber_31_s, iL8, if_leF (by omega) (by omega), ez, if_neg (show ¬ (0 : Int32) < nI 0 by decide), if_ltT (by omega) (by omega), mn_e, em]
    exact l8
  | succ t ih =>
    intro u fu w f dg he hg hf hw
    obtain ⟨fu, rfl⟩ : ∃ z, fu = z + 1 := ⟨fu - 1, by omega⟩
    have hlt : r / 10 ^ u ≤ r := Nat.div_le_self _ _
    have ed : nI (r / 10 ^ u) / (10 : Int32) = nI (r / 10 ^ (u + 1)) := by
      rw [iL10, pk_div (by omega) (by omega) (by omega), Nat.div_div_eq_div_mul, ← Nat.pow_succ]
    have st : g_X5_putNumber_49 F (g_X5_putNumber_31 F fu) (nI (r / 10 ^ u)) (nI d) (nI u) f dg (nI w) = g_X5_putNumber_31 F fu (nI (r / 10 ^ (u + 1))) (nI d) (nI (u + 1)) f (upd dg u (nI (48 + r / 10 ^ u % 10))) (nI w) := by
      unfold g_X5_putNumber_49
      rw [mg_in (by omega) (by omega), dgt (by omega), nI_clamp (by omega), ed, mn_e, mn_e, nI_1]
    obtain ⟨dg', i1⟩ := ih (u + 1) fu w f (upd dg u (nI (48 + r / 10 ^ u % 10))) (by omega) (fun j hj => by
      by_cases e : j = u
      · rw [e, pk_us]
      · rw [pk_un e]; exact hg j (by omega)) (by omega) hw
    refine ⟨dg', ?_⟩
    rw [g_X5_putNumber_31_s, iL8, if_leF (by omega) (by omega), st]
    by_cases hu : u ≤ d
    · rw [if_ltF hu (by omega), ite_self]
      exact i1
    · have hp : 0 < r / 10 ^ u := by
        have h3 : 10 ^ (d + q) ≤ r := h2.resolve_left (by omega)
        have h4 := Nat.pow_le_pow_right (n := 10) (by decide) (show u ≤ d + q by omega)
        exact Nat.div_pos (by omega) (Nat.pow_pos (by decide))
      rw [if_pos (show (0 : Int32) < nI (r / 10 ^ u) from nI_lt (a := 0) hp (by omega))]
      exact i1
theorem n5 {F : Nat} : ∀ (D V fu : Nat) (f dg : Nat → Int32) (w : Int32), D ≤ 3 → V < 2 ^ 31 → D < fu → ∃ r d, d ≤ D ∧ V = r * 10 ^ (D - d) ∧ (d = 0 ∨ ¬ r % 10 = 0) ∧ g_X5_putNumber_5 F fu (nI V) (nI D) f dg w = g_X5_putNumber_31 F F (nI r) (nI d) 0 f dg w := by
  intro D
  induction D with
  | zero =>
    intro V fu f dg w _ hV hf
    obtain ⟨fu, rfl⟩ : ∃ z, fu = z + 1 := ⟨fu - 1, by omega⟩
    refine ⟨V, 0, by omega, by rw [Nat.sub_self, Nat.pow_zero, Nat.mul_one], Or.inl rfl, ?_⟩
    rw [g_X5_putNumber_5_s, if_pos (by decide)]
  | succ D ih =>
    intro V fu f dg w hD hV hf
    obtain ⟨fu, rfl⟩ : ∃ z, fu = z + 1 := ⟨fu - 1, by omega⟩
    have e : nI V - nI V / (10 : Int32) * (10 : Int32) = nI (V % 10) := by
      rw [iL10]
      exact pk_rem hV (by omega) (by omega)
    have e2 : nI V / (10 : Int32) = nI (V / 10) := by
      rw [iL10]
      exact pk_div hV (by omega) (by omega)
    have ez : ¬ nI (D + 1) ≤ 0 := nI_ge (a := 0) (by omega) (by omega)
    rw [g_X5_putNumber_5_s, if_neg ez, e]
    by_cases q : V % 10 = 0
    · obtain ⟨r, d, h1, h2, h3, h4⟩ := ih (V / 10) fu f dg w (by omega) (by omega) (by omega)
      refine ⟨r, d, by omega, ?_, h3, ?_⟩
      · rw [show D + 1 - d = D - d + 1 by omega, Nat.pow_succ, ← Nat.mul_assoc, ← h2]
        omega
      · rw [if_pos (by rw [q]; rfl), mn_e, mn_e, pk_m1, e2]
        exact h4
    · refine ⟨V, D + 1, by omega, by rw [Nat.sub_self, Nat.pow_zero, Nat.mul_one], Or.inr q, ?_⟩
      have e9 : ¬ nI (V % 10) = 0 := fun e => q (nI_inj (b := 0) e (by omega) (by omega))
      rw [if_neg e9]
def sc : Nat → Nat
  | 0 => 0
  | t + 1 => 10 ^ t
theorem sc_d (t : Nat) : sc (t + 1) / 10 = sc t := by
  cases t with
  | zero => rfl
  | succ t => show 10 ^ (t + 1) / 10 = 10 ^ t; rw [Nat.pow_succ, Nat.mul_div_cancel _ (by decide)]
theorem p10b {t : Nat} (h : t ≤ 4) : 1 ≤ 10 ^ t ∧ 10 ^ t ≤ 10000 := by
  have h1 := Nat.pow_le_pow_right (n := 10) (by decide) h
  have h2 : 0 < 10 ^ t := Nat.pow_pos (by decide)
  omega
theorem lz {k : Nat} (h : 0 < k) (h2 : k < 2 ^ 63) : ¬ lN k = 0 := fun e => by
  have := lN_inj (b := 0) e h2 (by omega)
  omega
theorem m97 {F : Nat} : ∀ (e p fu w : Nat) (f : Nat → Int32), e ≤ 3 → p < 10 ^ e → e < fu → w + (pfr p e).length ≤ 3000 → g_X7_sayNumber_97 F fu (lN (sc e)) (lN p) f (nI w) = some (ap f w (pfr p e), nI (w + (pfr p e).length)) := by
  intro e
  induction e with
  | zero =>
    intro p fu w f _ hp hf hw
    obtain ⟨fu, rfl⟩ : ∃ z, fu = z + 1 := ⟨fu - 1, by omega⟩
    obtain rfl : p = 0 := by omega
    rw [g_X7_sayNumber_97_s, if_pos (by decide)]
    rfl
  | succ e ih =>
    intro p fu w f he hp hf hw
    obtain ⟨fu, rfl⟩ : ∃ z, fu = z + 1 := ⟨fu - 1, by omega⟩
    have hs := p10b (t := e) (by omega)
    have hs2 := p10b (t := e + 1) (by omega)
    by_cases q : p = 0
    · subst q
      rw [g_X7_sayNumber_97_s, if_pos (by decide)]
      rfl
    · have el : pfr p (e + 1) = (48 + p / 10 ^ e) :: pfr (p % 10 ^ e) e := if_neg q
      rw [el] at hw ⊢
      have hw2 : w + ((pfr (p % 10 ^ e) e).length + 1) ≤ 3000 := hw
      have hq : p / 10 ^ e < 10 := Nat.div_lt_of_lt_mul (by rw [Nat.pow_succ] at hp; omega)
      have pt := say_ok (F := F) (c := 48 + p / 10 ^ e) f w (by show w + 1 ≤ 3000; omega)
      have i1 := ih (p % 10 ^ e) fu (w + 1) (upd f w (nI (48 + p / 10 ^ e))) (by omega) (Nat.mod_lt _ (by omega)) (by omega) (by omega)
      have eg : ¬ lg_cmp (lN p) 0 ≤ 0 := fun h => by
        have h := (lg_cmp_le _ _).mp h
        rw [lL0] at h
        have := (pk_lLE (by omega) (by omega)).mp h
        omega
      have ec : ((lN p / lN (10 ^ e))).toInt32 + (48 : Int32) = nI (48 + p / 10 ^ e) := by
        rw [pk_lDiv (by omega) (by omega) (by omega), lN_i, iL48, nI_add, Nat.add_comm]
      have es : lN (10 ^ e) / (10 : Int64) = lN (sc e) := by
        rw [lL10, pk_lDiv (by omega) (by omega) (by omega)]
        congr 1
        exact sc_d e
      rw [g_X7_sayNumber_97_s, if_neg eg]
      rw [show sc (e + 1) = 10 ^ e from rfl]
      rw [mg_t (lz (by omega) (by omega)), ec, show f_X7_say F (nI (48 + p / 10 ^ e)) f (nI w) = _ from pt, mb2_v, mg_t (lz (by omega) (by omega)), pk_lRem (by omega) (by omega) (by omega), mn_e, es, mn_e]
      rw [show w + ((48 + p / 10 ^ e) :: pfr (p % 10 ^ e) e).length = w + 1 + (pfr (p % 10 ^ e) e).length by show w + ((pfr (p % 10 ^ e) e).length + 1) = _; omega]
      exact i1
theorem m37 {F V D n : Nat} (hF : 4000 ≤ F) (hD : 1 ≤ D ∧ D ≤ 3) (hV : V ≤ 9999999) (hn : n ≤ 9999) : ∀ (t fu w : Nat) (f : Nat → Int32), t ≤ 4 → t < fu → w + (pw n t ++ (if V % 10 ^ D = 0 then [] else 46 :: pfr (V % 10 ^ D) D)).length ≤ 3000 →
    g_X7_sayNumber_37 F fu (lN V) (lN (10 ^ D)) (lN n) (lN (sc t)) f (nI w) = some (ap f w (pw n t ++ (if V % 10 ^ D = 0 then [] else 46 :: pfr (V % 10 ^ D) D)), nI (w + (pw n t ++ (if V % 10 ^ D = 0 then [] else 46 :: pfr (V % 10 ^ D) D)).length)) := by
  have hP := p10b (t := D) (by omega)
  intro t
  induction t with
  | zero =>
    intro fu w f _ hf hw
    obtain ⟨fu, rfl⟩ : ∃ z, fu = z + 1 := ⟨fu - 1, by omega⟩
    have es : lN (10 ^ D) / (10 : Int64) = lN (sc D) := by
      rw [lL10, pk_lDiv (by omega) (by omega) (by omega)]
      congr 1
      obtain ⟨E, rfl⟩ : ∃ E, D = E + 1 := ⟨D - 1, by omega⟩
      show 10 ^ (E + 1) / 10 = 10 ^ E
      rw [Nat.pow_succ, Nat.mul_div_cancel _ (by decide)]
    have hm : V % 10 ^ D < 10 ^ D := Nat.mod_lt _ (by omega)
    rw [g_X7_sayNumber_37_s, if_pos (by decide), mg_t (lz (by omega) (by omega)), pk_lRem (by omega) (by omega) (by omega), mn_e, es]
    rw [show pw n 0 ++ (if V % 10 ^ D = 0 then [] else 46 :: pfr (V % 10 ^ D) D) = (if V % 10 ^ D = 0 then [] else 46 :: pfr (V % 10 ^ D) D) from rfl] at hw ⊢
    by_cases q : V % 10 ^ D = 0
    · rw [if_pos q] at hw ⊢
      have l9 := m97 (F := F) D 0 F w f (by omega) (by omega) (by omega) (by
        obtain ⟨E, rfl⟩ : ∃ E, D = E + 1 := ⟨D - 1, by omega⟩
        exact hw)
      rw [q, if_pos (by decide), mn_e, l9]
      obtain ⟨E, rfl⟩ : ∃ E, D = E + 1 := ⟨D - 1, by omega⟩
      rfl
    · rw [if_neg q] at hw ⊢
      have hw2 : w + ((pfr (V % 10 ^ D) D).length + 1) ≤ 3000 := hw
      have eg : ¬ lg_cmp (lN (V % 10 ^ D)) 0 ≤ 0 := fun h => by
        have h := (lg_cmp_le _ _).mp h
        rw [lL0] at h
        have := (pk_lLE (by omega) (by omega)).mp h
        omega
      have pt := say_ok (F := F) (c := 46) f w (by show w + 1 ≤ 3000; omega)
      have l9 := m97 (F := F) D (V % 10 ^ D) F (w + 1) (upd f w (nI 46)) (by omega) hm (by omega) (by omega)
      rw [if_neg eg, iL46, show f_X7_say F (nI 46) f (nI w) = _ from pt, mb2_v, mn_e]
      rw [show w + (46 :: pfr (V % 10 ^ D) D).length = w + 1 + (pfr (V % 10 ^ D) D).length by show w + ((pfr (V % 10 ^ D) D).length + 1) = _; omega]
      exact l9
  | succ t ih =>
    intro fu w f h4 hf hw
    obtain ⟨fu, rfl⟩ : ∃ z, fu = z + 1 := ⟨fu - 1, by omega⟩
    have hs := p10b (t := t) (by omega)
    have hw2 : w + ((pw n t ++ (if V % 10 ^ D = 0 then [] else 46 :: pfr (V % 10 ^ D) D)).length + 1) ≤ 3000 := hw
    have pt := say_ok (F := F) (c := 48 + n / 10 ^ t % 10) f w (by show w + 1 ≤ 3000; omega)
    have i1 := ih fu (w + 1) (upd f w (nI (48 + n / 10 ^ t % 10))) (by omega) (by omega) (by omega)
    have eg : ¬ lg_cmp (lN (10 ^ t)) 0 ≤ 0 := fun h => by
      have h := (lg_cmp_le _ _).mp h
      rw [lL0] at h
      have := (pk_lLE (by omega) (by omega)).mp h
      omega
    have hdl : n / 10 ^ t ≤ n := Nat.div_le_self _ _
    have ec : (((lN n / lN (10 ^ t)) - (lN n / lN (10 ^ t)) / (10 : Int64) * (10 : Int64))).toInt32 + (48 : Int32) = nI (48 + n / 10 ^ t % 10) := by
      rw [pk_lDiv (by omega) (by omega) (by omega), lL10, pk_lRem (by omega) (by omega) (by omega), lN_i, iL48, nI_add, Nat.add_comm]
    have es : lN (10 ^ t) / (10 : Int64) = lN (sc t) := by
      rw [lL10, pk_lDiv (by omega) (by omega) (by omega)]
      congr 1
      exact sc_d t
    rw [g_X7_sayNumber_37_s, show sc (t + 1) = 10 ^ t from rfl, if_neg eg, mg_t (lz (by omega) (by omega)), ec, show f_X7_say F (nI (48 + n / 10 ^ t % 10)) f (nI w) = _ from pt, mb2_v, mn_e, es]
    rw [show w + (pw n (t + 1) ++ (if V % 10 ^ D = 0 then [] else 46 :: pfr (V % 10 ^ D) D)).length = w + 1 + (pw n t ++ (if V % 10 ^ D = 0 then [] else 46 :: pfr (V % 10 ^ D) D)).length by show w + ((pw n t ++ (if V % 10 ^ D = 0 then [] else 46 :: pfr (V % 10 ^ D) D)).length + 1) = _; omega]
    exact i1
theorem m14 {F V P n q : Nat} {f : Nat → Int32} {w : Int32} (hn : n ≤ 9999) (hq : q ≤ 3) (h1 : n < 10 ^ (q + 1)) (h2 : q = 0 ∨ 10 ^ q ≤ n) : ∀ (r j fu : Nat), j + r = q → r < fu → g_X7_sayNumber_14 F fu (lN V) (lN P) (lN n) (lN (10 ^ j)) f w = g_X7_sayNumber_37 F F (lN V) (lN P) (lN n) (lN (sc (q + 1))) f w := by
  intro r
  induction r with
  | zero =>
    intro j fu he hf
    obtain ⟨fu, rfl⟩ : ∃ z, fu = z + 1 := ⟨fu - 1, by omega⟩
    obtain rfl : j = q := by omega
    have hs := p10b (t := j) (by omega)
    have hd : n / 10 ^ j < 10 := Nat.div_lt_of_lt_mul (by rw [Nat.pow_succ] at h1; omega)
    have eg : lg_cmp (lN n / lN (10 ^ j)) (10 : Int64) < 0 := by
      apply (lg_cmp_lt _ _).mpr
      rw [lL10, pk_lDiv (by omega) (by omega) (by omega)]
      exact (pk_lLT (by omega) (by omega)).mpr hd
    rw [g_X7_sayNumber_14_s, mg_t (lz (by omega) (by omega)), if_pos eg]
    rfl
  | succ r ih =>
    intro j fu he hf
    obtain ⟨fu, rfl⟩ : ∃ z, fu = z + 1 := ⟨fu - 1, by omega⟩
    have hs := p10b (t := j) (by omega)
    have hge : 10 ≤ n / 10 ^ j := by
      have h3 : 10 ^ q ≤ n := h2.resolve_left (by omega)
      have h4 := Nat.pow_le_pow_right (n := 10) (by decide) (show j + 1 ≤ q by omega)
      rw [Nat.pow_succ] at h4
      exact (Nat.le_div_iff_mul_le (by omega)).mpr (by omega)
    have hdl : n / 10 ^ j ≤ n := Nat.div_le_self _ _
    have eg : ¬ lg_cmp (lN n / lN (10 ^ j)) (10 : Int64) < 0 := fun h => by
      have h := (lg_cmp_lt _ _).mp h
      rw [lL10, pk_lDiv (by omega) (by omega) (by omega)] at h
      have := (pk_lLT (by omega) (by omega)).mp h
      omega
    have em : (10 : Int64) * lN (10 ^ j) = lN (10 ^ (j + 1)) := by
      rw [lL10, lN_mul, Nat.pow_succ, Nat.mul_comm]
    rw [g_X7_sayNumber_14_s, mg_t (lz (by omega) (by omega)), if_neg eg, mn_e, em]
    exact ih (j + 1) fu (by omega) (by omega)
theorem fr_3 {V r d : Nat} (hd : d ≤ 3) (hV : V = r * 10 ^ (3 - d)) (h : d = 0 ∨ ¬ r % 10 = 0) : (if d = 0 then [] else 46 :: pw r d) = (if V % 10 ^ 3 = 0 then [] else 46 :: pfr (V % 10 ^ 3) 3) := by
  rcases (show d = 0 ∨ d = 1 ∨ d = 2 ∨ d = 3 by omega) with q | q | q | q
  · subst q
    rw [if_pos rfl, if_pos (by omega)]
  · subst q
    have h1 : ¬ V % 10 ^ 3 = 0 := by omega
    rw [if_neg (by decide), if_neg h1]
    show 46 :: [48 + r / 10 ^ 0 % 10] = 46 :: (if V % 10 ^ 3 = 0 then [] else (48 + V % 10 ^ 3 / 10 ^ 2) :: pfr (V % 10 ^ 3 % 10 ^ 2) 2)
    rw [if_neg h1, show V % 10 ^ 3 % 10 ^ 2 = 0 by omega, show 48 + r / 10 ^ 0 % 10 = 48 + V % 10 ^ 3 / 10 ^ 2 by omega]
    rfl
  · subst q
    have h1 : ¬ V % 10 ^ 3 = 0 := by omega
    have h2 : ¬ V % 10 ^ 3 % 10 ^ 2 = 0 := by omega
    rw [if_neg (by decide), if_neg h1]
    show 46 :: [48 + r / 10 ^ 1 % 10, 48 + r / 10 ^ 0 % 10] = 46 :: (if V % 10 ^ 3 = 0 then [] else (48 + V % 10 ^ 3 / 10 ^ 2) :: (if V % 10 ^ 3 % 10 ^ 2 = 0 then [] else (48 + V % 10 ^ 3 % 10 ^ 2 / 10 ^ 1) :: pfr (V % 10 ^ 3 % 10 ^ 2 % 10 ^ 1) 1))
    rw [if_neg h1, if_neg h2, show V % 10 ^ 3 % 10 ^ 2 % 10 ^ 1 = 0 by omega, show 48 + r / 10 ^ 1 % 10 = 48 + V % 10 ^ 3 / 10 ^ 2 by omega, show 48 + r / 10 ^ 0 % 10 = 48 + V % 10 ^ 3 % 10 ^ 2 / 10 ^ 1 by omega]
    rfl
  · subst q
    have h1 : ¬ V % 10 ^ 3 = 0 := by omega
    have h2 : ¬ V % 10 ^ 3 % 10 ^ 2 = 0 := by omega
    have h3 : ¬ V % 10 ^ 3 % 10 ^ 2 % 10 ^ 1 = 0 := by omega
    rw [if_neg (by decide), if_neg h1]
    show 46 :: [48 + r / 10 ^ 2 % 10, 48 + r / 10 ^ 1 % 10, 48 + r / 10 ^ 0 % 10] = 46 :: (if V % 10 ^ 3 = 0 then [] else (48 + V % 10 ^ 3 / 10 ^ 2) :: (if V % 10 ^ 3 % 10 ^ 2 = 0 then [] else (48 + V % 10 ^ 3 % 10 ^ 2 / 10 ^ 1) :: (if V % 10 ^ 3 % 10 ^ 2 % 10 ^ 1 = 0 then [] else (48 + V % 10 ^ 3 % 10 ^ 2 % 10 ^ 1 / 10 ^ 0) :: [])))
    rw [if_neg h1, if_neg h2, if_neg h3, show 48 + r / 10 ^ 2 % 10 = 48 + V % 10 ^ 3 / 10 ^ 2 by omega, show 48 + r / 10 ^ 1 % 10 = 48 + V % 10 ^ 3 % 10 ^ 2 / 10 ^ 1 by omega, show 48 + r / 10 ^ 0 % 10 = 48 + V % 10 ^ 3 % 10 ^ 2 % 10 ^ 1 / 10 ^ 0 by omega]
theorem fr_1 {V r d : Nat} (hd : d ≤ 1) (hV : V = r * 10 ^ (1 - d)) (h : d = 0 ∨ ¬ r % 10 = 0) : (if d = 0 then [] else 46 :: pw r d) = (if V % 10 ^ 1 = 0 then [] else 46 :: pfr (V % 10 ^ 1) 1) := by
  rcases (show d = 0 ∨ d = 1 by omega) with q | q
  · subst q
    rw [if_pos rfl, if_pos (by omega)]
  · subst q
    have h1 : ¬ V % 10 ^ 1 = 0 := by omega
    rw [if_neg (by decide), if_neg h1]
    show 46 :: [48 + r / 10 ^ 0 % 10] = 46 :: (if V % 10 ^ 1 = 0 then [] else (48 + V % 10 ^ 1 / 10 ^ 0) :: [])
    rw [if_neg h1, show 48 + r / 10 ^ 0 % 10 = 48 + V % 10 ^ 1 / 10 ^ 0 by omega]
theorem num_em {F V D : Nat} (hF : 4000 ≤ F) (hD : D = 1 ∨ D = 3) (hV : V ≤ 9999999) (hn : V / 10 ^ D ≤ 9999) : ∃ l : List Nat, (∀ k, V / 10 ^ D < 10 ^ (k + 1) → k ≤ 3 → l.length ≤ k + 2 + D) ∧ (∀ (f dg : Nat → Int32) (w : Nat), w + l.length ≤ 3000 → ∃ dg', f_X5_putNumber F (nI V) (nI D) f dg (nI w) = some (ap f w l, dg', nI (w + l.length))) ∧ EM (32 :: l) (fun f w => f_X7_sayNumber F (lN V) (lN (10 ^ D)) f w) := by
  obtain ⟨q, q3, q1, q2⟩ := q_ex (V / 10 ^ D) hn
  have hD3 : 1 ≤ D ∧ D ≤ 3 := by omega
  have hP := p10b (t := D) (by omega)
  have key : ∀ r d, d ≤ D → V = r * 10 ^ (D - d) → (d = 0 ∨ ¬ r % 10 = 0) → pl r d (d + (q + 1)) = pw (V / 10 ^ D) (q + 1) ++ (if V % 10 ^ D = 0 then [] else 46 :: pfr (V % 10 ^ D) D) ∧ r < 10 ^ (d + (q + 1)) ∧ (q = 0 ∨ 10 ^ (d + q) ≤ r) ∧ r < 2 ^ 31 ∧ d ≤ 3 := by
    intro r d h1 h2 h3
    have e1 : V / 10 ^ D = r / 10 ^ d := by
      have : 10 ^ D = 10 ^ (D - d) * 10 ^ d := by rw [← Nat.pow_add]; congr 1; omega
      rw [this, ← Nat.div_div_eq_div_mul, h2, Nat.mul_div_cancel _ (Nat.pow_pos (by decide))]
    have hp : 0 < 10 ^ d := Nat.pow_pos (by decide)
    have hrV : r ≤ V := by rw [h2]; exact Nat.le_mul_of_pos_right _ (Nat.pow_pos (by decide))
    refine ⟨?_, ?_, ?_, by omega, by omega⟩
    · rw [pl_hi, ← e1]
      congr 1
      rcases hD with rfl | rfl
      · exact fr_1 h1 h2 h3
      · exact fr_3 h1 h2 h3
    · rw [e1] at q1
      rw [Nat.pow_add]
      have := (Nat.div_lt_iff_lt_mul hp).mp q1
      rw [Nat.mul_comm]; exact this
    · rcases q2 with q2 | q2
      · exact Or.inl q2
      · refine Or.inr ?_
        rw [e1] at q2
        have := (Nat.le_div_iff_mul_le hp).mp q2
        rw [Nat.pow_add, Nat.mul_comm]; exact this
  refine ⟨pw (V / 10 ^ D) (q + 1) ++ (if V % 10 ^ D = 0 then [] else 46 :: pfr (V % 10 ^ D) D), fun k hk hk3 => ?_, fun f dg w hw => ?_, fun f w hw => ?_⟩
  · have hqk : q ≤ k := by
      apply Nat.le_of_not_lt
      intro hh
      have h3 : 10 ^ q ≤ V / 10 ^ D := q2.resolve_left (by omega)
      have h4 := Nat.pow_le_pow_right (n := 10) (by decide) (show k + 1 ≤ q by omega)
      omega
    rw [List.length_append, pw_len]
    have hpf : ∀ e p, (pfr p e).length ≤ e := by
      intro e
      induction e with
      | zero => intro p; exact Nat.le_refl _
      | succ e ih =>
        intro p
        show (if p = 0 then [] else (48 + p / 10 ^ e) :: pfr (p % 10 ^ e) e).length ≤ e + 1
        by_cases h : p = 0
        · rw [if_pos h]; exact Nat.zero_le _
        · rw [if_neg h]; exact Nat.succ_le_succ (ih _)
    by_cases h : V % 10 ^ D = 0
    · rw [if_pos h]
      show q + 1 + 0 ≤ _
      omega
    · rw [if_neg h]
      have := hpf D (V % 10 ^ D)
      show q + 1 + ((pfr (V % 10 ^ D) D).length + 1) ≤ _
      omega
  · obtain ⟨r, d, h1, h2, h3, h4⟩ := n5 (F := F) D V F f dg (nI w) (by omega) (by omega) (by omega)
    obtain ⟨k1, k2, k3, k4, k5⟩ := key r d h1 h2 h3
    rw [← k1] at hw ⊢
    obtain ⟨dg', l3⟩ := n31 (F := F) k4 k5 q3 k2 k3 hF (d + (q + 1)) 0 F w f dg (by omega) (fun j hj => by omega) (by omega) hw
    refine ⟨dg', ?_⟩
    unfold f_X5_putNumber
    rw [h4]
    rw [Nat.pow_zero, Nat.div_one] at l3
    exact l3
  · have hw2 : w + ((pw (V / 10 ^ D) (q + 1) ++ (if V % 10 ^ D = 0 then [] else 46 :: pfr (V % 10 ^ D) D)).length + 1) ≤ 3000 := hw
    have pt := say_ok (F := F) (c := 32) f w (by show w + 1 ≤ 3000; omega)
    show f_X7_sayNumber F (lN V) (lN (10 ^ D)) f (nI w) = _
    unfold f_X7_sayNumber
    rw [iL32, show f_X7_say F (nI 32) f (nI w) = _ from pt, mb2_v, mg_t (lz (by omega) (by omega)), pk_lDiv (by omega) (by omega) (by omega), mn_e]
    have a1 := m14 (F := F) (V := V) (P := 10 ^ D) (f := ap f w [32]) (w := nI (w + [32].length)) hn q3 q1 q2 q 0 F (by omega) (by omega)
    rw [show (10 : Nat) ^ 0 = 1 from rfl, ← lL1] at a1
    rw [a1]
    rw [show w + (32 :: (pw (V / 10 ^ D) (q + 1) ++ (if V % 10 ^ D = 0 then [] else 46 :: pfr (V % 10 ^ D) D))).length = w + 1 + (pw (V / 10 ^ D) (q + 1) ++ (if V % 10 ^ D = 0 then [] else 46 :: pfr (V % 10 ^ D) D)).length by show w + ((pw (V / 10 ^ D) (q + 1) ++ (if V % 10 ^ D = 0 then [] else 46 :: pfr (V % 10 ^ D) D)).length + 1) = _; omega]
    exact m37 (F := F) hF hD3 hV hn (q + 1) F (w + 1) (upd f w (nI 32)) (by omega) (by omega) (by omega)
