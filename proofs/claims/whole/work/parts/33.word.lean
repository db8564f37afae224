def wW : List (List Nat) := [[3, 15, 16, 16, 5, 18], [3, 15, 18, 5], [16, 18, 5, 16, 18, 5, 7], [13, 1, 19, 11], [19, 16, 1, 18, 5], [16, 18, 5, 19, 19], [22, 9, 1]]
def Wd (k i : Nat) : Nat := (wW.getD k []).getD i 0
theorem k7 {k : Nat} (h : k < 7) : k = 0 ∨ k = 1 ∨ k = 2 ∨ k = 3 ∨ k = 4 ∨ k = 5 ∨ k = 6 := by omega
theorem let_t : ∀ k : Fin 7, ∀ i : Fin 9, f_X7_letter 0 (nI k.val) (nI i.val) = some (nI (Wd k.val i.val)) := by decide +kernel
theorem let_ok {F k i : Nat} (hk : k < 7) (hi : i < 9) : f_X7_letter F (nI k) (nI i) = some (nI (Wd k i)) := let_t ⟨k, hk⟩ ⟨i, hi⟩
theorem wd_t : ∀ k : Fin 7, ∀ i : Fin 9, Wd k.val i.val < 27 := by decide +kernel
theorem wd_lt {k i : Nat} (hk : k < 7) (hi : i < 9) : Wd k i < 27 := wd_t ⟨k, hk⟩ ⟨i, hi⟩
theorem bit_t : ∀ M : Fin 128, ∀ k : Fin 7, (((nI M.val >>> (nI k.val &&& 31)) &&& (1 : Int32)) = 1) ↔ M.val.testBit k.val = true := by decide +kernel
theorem bit_ok {M k : Nat} (hM : M < 128) (hk : k < 7) : (((nI M >>> (nI k &&& 31)) &&& (1 : Int32)) = 1) ↔ M.testBit k = true := bit_t ⟨M, hM⟩ ⟨k, hk⟩
theorem or_t : ∀ k : Fin 7, ∀ N : Fin 128, N.val < 2 ^ k.val → (nI N.val ||| ((1 : Int32) <<< (nI k.val &&& 31))) = nI (N.val + 2 ^ k.val) := by decide +kernel
theorem pw_t : ∀ k : Fin 7, 2 ^ k.val ≤ 64 := by decide
theorem or_ok {N k : Nat} (hk : k < 7) (h : N < 2 ^ k) : (nI N ||| ((1 : Int32) <<< (nI k &&& 31))) = nI (N + 2 ^ k) := or_t ⟨k, hk⟩ ⟨N, by have := pw_t ⟨k, hk⟩; dsimp only at this; omega⟩ h
def hit (M i k : Nat) (u : Int32) : Prop := M.testBit k = true ∧ 0 < Wd k i ∧ u = nI (96 + Wd k i)
def hitD (M i k : Nat) (u : Int32) : Nat := if M.testBit k = true then if 0 < Wd k i then if u = nI (96 + Wd k i) then 2 ^ k else 0 else 0 else 0
def nxf (M i : Nat) (u : Int32) : Nat → Nat → Nat → Nat
  | 0, _, N => N
  | r + 1, k, N => nxf M i u r (k + 1) (N + hitD M i k u)
def nx (M i : Nat) (u : Int32) : Nat := nxf M i u 7 0 0
theorem hitD_le (M i k : Nat) (u : Int32) : hitD M i k u = 0 ∨ hitD M i k u = 2 ^ k := by
  unfold hitD
  repeat' split
  all_goals simp
theorem nxf_lt {M i : Nat} {u : Int32} : ∀ (r k N : Nat), N < 2 ^ k → nxf M i u r k N < 2 ^ (k + r) := by
  intro r
  induction r with
  | zero => intro k N h; exact h
  | succ r ih =>
    intro k N h
    have q := ih (k + 1) (N + hitD M i k u) (by rw [Nat.pow_succ]; rcases hitD_le M i k u with e | e <;> omega)
    rw [show k + (r + 1) = k + 1 + r by omega]
    exact q
def dnf (N i : Nat) : Nat → Nat → Option Nat
  | 0, _ => none
  | r + 1, k => if N.testBit k = true then if Wd k i = 0 then some k else dnf N i r (k + 1) else dnf N i r (k + 1)
def wA (n : Nat) (ch : Nat → Int32) (a : Nat) : Nat → Nat → Nat → Bool × Nat × Nat
  | 0, _, _ => (false, 999, 0)
  | f + 1, M, i => if nx M i (cat n ch (a + i)) = 0 then (false, i, 0) else match dnf (nx M i (cat n ch (a + i))) (i + 1) 7 0 with
    | some k => (true, k, i + 1)
    | none => wA n ch a f (nx M i (cat n ch (a + i))) (i + 1)
theorem g129 {F i N : Nat} {K : Int32 → Int32 → (Nat → Int32) → Int32 → Int32 → Int32 → Option (Int32 × Int32 × Int32)} {tx : Nat → Int32} {v1 sz p f : Int32} (hi : i < 9) (hN : N < 128) : ∀ (r k fu : Nat), k + r = 7 → r < fu → g_X7_firstWord_129 F K fu v1 (nI i) (nI N) (nI k) tx sz p f = (match dnf N i r k with | some j => some (nI j, p, f) | none => K v1 (nI i) tx sz p f) := by
  intro r
  induction r with
  | zero =>
    intro k fu hk hf
    obtain ⟨fu, rfl⟩ : ∃ z, fu = z + 1 := ⟨fu - 1, by omega⟩
    rw [g_X7_firstWord_129_s, iL7, if_leT (by omega) (by omega)]
    rfl
  | succ r ih =>
    intro k fu hk hf
    obtain ⟨fu, rfl⟩ : ∃ z, fu = z + 1 := ⟨fu - 1, by omega⟩
    have e := ih (k + 1) fu (by omega) (by omega)
    have wl := wd_lt (show k < 7 by omega) hi
    rw [g_X7_firstWord_129_s, iL7, if_leF (by omega) (by omega), let_ok (by omega) hi, mb1_v, mn_e, nI_1, e, dnf]
    by_cases hb : N.testBit k = true
    · rw [if_pos ((bit_ok hN (by omega)).mpr hb), if_pos hb, iL0]
      by_cases hw : Wd k i = 0
      · rw [if_eqT hw, if_pos hw]
      · rw [if_eqF hw (by omega) (by omega), if_neg hw]
    · rw [if_neg (fun q => hb ((bit_ok hN (by omega)).mp q)), if_neg hb]
theorem g23 {F M i : Nat} {K : Int32 → Int32 → (Nat → Int32) → Int32 → Int32 → Int32 → Option (Int32 × Int32 × Int32)} {tx : Nat → Int32} {u sz p : Int32} (hi : i < 9) (hM : M < 128) : ∀ (r k N fu : Nat), k + r = 7 → r < fu → N < 2 ^ k → g_X7_firstWord_23 F K fu (nI M) (nI i) u (nI N) (nI k) tx sz p (-1) = (if nxf M i u r k N = 0 then K (nI M) (nI i) tx sz p p else g_X7_firstWord_129 F K F (nI (nxf M i u r k N)) (nI (i + 1)) (nI (nxf M i u r k N)) (nI 0) tx sz (p + 1) (-1)) := by
  intro r
  induction r with
  | zero =>
    intro k N fu hk hf hN
    obtain ⟨fu, rfl⟩ : ∃ z, fu = z + 1 := ⟨fu - 1, by omega⟩
    have q : (2 : Nat) ^ k ≤ 2 ^ 7 := Nat.pow_le_pow_right (by decide) (by omega)
    rw [g_X7_firstWord_23_s, iL7, if_leT (by omega) (by omega), fl_t, mb1_v, mn_e, nI_1, nxf, iL0]
    by_cases h0 : N = 0
    · rw [if_eqT h0, if_pos h0]
    · rw [if_eqF h0 (by omega) (by omega), if_neg h0]
  | succ r ih =>
    intro k N fu hk hf hN
    obtain ⟨fu, rfl⟩ : ∃ z, fu = z + 1 := ⟨fu - 1, by omega⟩
    have wl := wd_lt (show k < 7 by omega) hi
    have q1 := ih (k + 1) N fu (by omega) (by omega) (by rw [Nat.pow_succ]; omega)
    have q2 := ih (k + 1) (N + 2 ^ k) fu (by omega) (by omega) (by rw [Nat.pow_succ]; omega)
    rw [g_X7_firstWord_23_s, iL7, if_leF (by omega) (by omega), let_ok (by omega) hi, mb1_v, nxf]
    unfold g_X7_firstWord_67
    simp only [if00, if10, if_true, if_false, mn_e, nI_1, or_ok (show k < 7 by omega) hN]
    unfold hitD
    by_cases hb : M.testBit k = true
    · rw [if_pos ((bit_ok hM (by omega)).mpr hb), if_pos hb, iL0]
      by_cases hw : 0 < Wd k i
      · rw [if_leF hw (by omega), if_pos hw, iL96, nI_add]
        by_cases hu : u = nI (96 + Wd k i)
        · rw [if_pos hu, if_pos hu, q2]
        · rw [if_neg hu, if_neg hu]; exact q1
      · rw [if_leT (by omega) (by omega), if_neg hw]; exact q1
    · rw [if_neg (fun q => hb ((bit_ok hM (by omega)).mp q)), if_neg hb]; exact q1
def wR (a : Nat) (z : Bool × Nat × Nat) (o : Option (Int32 × Int32 × Int32)) : Prop := match z with
  | (true, k, m) => o = some (nI k, nI (a + m), -1)
  | (false, j, _) => j < 100 → o = some (-1, nI (a + j), nI (a + j))
theorem wA_ok {F n a : Nat} {ch tx : Nat → Int32} (hF : 4000 ≤ F) (T : TX n ch tx) (ha : a ≤ n) : ∀ (f M i fu : Nat), f + 1 < fu → i + f ≤ 8 → M < 128 → wR a (wA n ch a f M i) (g_X7_firstWord_5 F fu (nI M) (nI i) tx (nI n) (nI (a + i)) (-1)) := by
  have hn := T.1
  intro f
  induction f with
  | zero => intro M i fu _ _ _ h; exact absurd h (by decide)
  | succ f ih =>
    intro M i fu hf hi hM
    obtain ⟨fu, rfl⟩ : ∃ z, fu = z + 1 := ⟨fu - 1, by omega⟩
    have q := g23 (F := F) (K := g_X7_firstWord_5 F fu) (tx := tx) (u := cat n ch (a + i)) (sz := nI n) (p := nI (a + i)) (show i < 9 by omega) hM 7 0 0 F (by omega) (by omega) (by decide)
    have l := nxf_lt (M := M) (i := i) (u := cat n ch (a + i)) 7 0 0 (by decide)
    have q2 := g129 (F := F) (K := g_X7_firstWord_5 F fu) (v1 := nI (nx M i (cat n ch (a + i)))) (N := nx M i (cat n ch (a + i))) (tx := tx) (sz := nI n) (p := nI (a + i) + 1) (f := -1) (show i + 1 < 9 by omega) l 7 0 F (by omega) (by omega)
    rw [g_X7_firstWord_5_s, gd_t, mb1_v, if10, cM T (by omega), mb1_v, iL0, q]
    rw [show nxf M i (cat n ch (a + i)) 7 0 0 = nx M i (cat n ch (a + i)) from rfl] at l ⊢
    rw [q2, wA]
    by_cases h0 : nx M i (cat n ch (a + i)) = 0
    · rw [if_pos h0, if_pos h0]
      intro _
      obtain ⟨fu, rfl⟩ : ∃ z, fu = z + 1 := ⟨fu - 1, by omega⟩
      rw [g_X7_firstWord_5_s, gd_f (by omega), mb1_v, if00]
    · rw [if_neg h0, if_neg h0]
      cases hd : dnf (nx M i (cat n ch (a + i))) (i + 1) 7 0 with
      | some k =>
        dsimp only
        rw [nI_1]
        rfl
      | none =>
        dsimp only
        rw [nI_1]
        exact ih (nx M i (cat n ch (a + i))) (i + 1) fu (by omega) (by omega) l
theorem nx_0 {M i : Nat} {u : Int32} (h : ∀ k, k < 7 → M.testBit k = true → 0 < Wd k i → u = nI (96 + Wd k i) → False) : nx M i u = 0 := by
  have e : ∀ k, k < 7 → hitD M i k u = 0 := by
    intro k hk
    unfold hitD
    by_cases h1 : M.testBit k = true
    · rw [if_pos h1]
      by_cases h2 : 0 < Wd k i
      · rw [if_pos h2]
        by_cases h3 : u = nI (96 + Wd k i)
        · exact absurd (h k hk h1 h2 h3) id
        · rw [if_neg h3]
      · rw [if_neg h2]
    · rw [if_neg h1]
  unfold nx
  simp only [nxf]
  rw [e 0 (by decide), e 1 (by decide), e 2 (by decide), e 3 (by decide), e 4 (by decide), e 5 (by decide), e 6 (by decide)]
theorem wA_root {n a f : Nat} {ch : Nat → Int32} : wA n ch a (f + 1) 127 0 = (if cat n ch (a + 0) = 99 then wA n ch a f 3 1 else if cat n ch (a + 0) = 112 then wA n ch a f 36 1 else if cat n ch (a + 0) = 109 then wA n ch a f 8 1 else if cat n ch (a + 0) = 115 then wA n ch a f 16 1 else if cat n ch (a + 0) = 118 then wA n ch a f 64 1 else (false, 0, 0)) := by
  rw [wA]
  generalize cat n ch (a + 0) = u
  by_cases h0 : u = 99
  · have e : nx 127 0 u = 3 := by rw [h0]; decide +kernel
    have e2 : dnf 3 1 7 0 = none := by decide +kernel
    rw [e, e2, if_neg (by decide), if_pos h0]
  · skip
    by_cases h1 : u = 112
    · have e : nx 127 0 u = 36 := by rw [h1]; decide +kernel
      have e2 : dnf 36 1 7 0 = none := by decide +kernel
      rw [e, e2, if_neg (by decide), if_neg h0, if_pos h1]
    · skip
      by_cases h2 : u = 109
      · have e : nx 127 0 u = 8 := by rw [h2]; decide +kernel
        have e2 : dnf 8 1 7 0 = none := by decide +kernel
        rw [e, e2, if_neg (by decide), if_neg h0, if_neg h1, if_pos h2]
      · skip
        by_cases h3 : u = 115
        · have e : nx 127 0 u = 16 := by rw [h3]; decide +kernel
          have e2 : dnf 16 1 7 0 = none := by decide +kernel
          rw [e, e2, if_neg (by decide), if_neg h0, if_neg h1, if_neg h2, if_pos h3]
        · skip
          by_cases h4 : u = 118
          · have e : nx 127 0 u = 64 := by rw [h4]; decide +kernel
            have e2 : dnf 64 1 7 0 = none := by decide +kernel
            rw [e, e2, if_neg (by decide), if_neg h0, if_neg h1, if_neg h2, if_neg h3, if_pos h4]
          · skip
            have e : nx 127 0 u = 0 := nx_0 (fun k hk g1 g2 g3 => by
              rcases k7 hk with rfl | rfl | rfl | rfl | rfl | rfl | rfl
              all_goals first | exact absurd g1 (by decide) | exact absurd g2 (by decide) | exact h0 g3 | exact h1 g3 | exact h2 g3 | exact h3 g3 | exact h4 g3)
            rw [e, if_pos rfl, if_neg h0, if_neg h1, if_neg h2, if_neg h3, if_neg h4]
theorem wA_c {n a f : Nat} {ch : Nat → Int32} : wA n ch a (f + 1) 3 1 = (if cat n ch (a + 1) = 111 then wA n ch a f 3 2 else (false, 1, 0)) := by
  rw [wA]
  generalize cat n ch (a + 1) = u
  by_cases h0 : u = 111
  · have e : nx 3 1 u = 3 := by rw [h0]; decide +kernel
    have e2 : dnf 3 2 7 0 = none := by decide +kernel
    rw [e, e2, if_neg (by decide), if_pos h0]
  · skip
    have e : nx 3 1 u = 0 := nx_0 (fun k hk g1 g2 g3 => by
      rcases k7 hk with rfl | rfl | rfl | rfl | rfl | rfl | rfl
      all_goals first | exact absurd g1 (by decide) | exact absurd g2 (by decide) | exact h0 g3)
    rw [e, if_pos rfl, if_neg h0]
theorem wA_m {n a f : Nat} {ch : Nat → Int32} : wA n ch a (f + 1) 8 1 = (if cat n ch (a + 1) = 97 then wA n ch a f 8 2 else (false, 1, 0)) := by
  rw [wA]
  generalize cat n ch (a + 1) = u
  by_cases h0 : u = 97
  · have e : nx 8 1 u = 8 := by rw [h0]; decide +kernel
    have e2 : dnf 8 2 7 0 = none := by decide +kernel
    rw [e, e2, if_neg (by decide), if_pos h0]
  · skip
    have e : nx 8 1 u = 0 := nx_0 (fun k hk g1 g2 g3 => by
      rcases k7 hk with rfl | rfl | rfl | rfl | rfl | rfl | rfl
      all_goals first | exact absurd g1 (by decide) | exact absurd g2 (by decide) | exact h0 g3)
    rw [e, if_pos rfl, if_neg h0]
theorem wA_p {n a f : Nat} {ch : Nat → Int32} : wA n ch a (f + 1) 36 1 = (if cat n ch (a + 1) = 114 then wA n ch a f 36 2 else (false, 1, 0)) := by
  rw [wA]
  generalize cat n ch (a + 1) = u
  by_cases h0 : u = 114
  · have e : nx 36 1 u = 36 := by rw [h0]; decide +kernel
    have e2 : dnf 36 2 7 0 = none := by decide +kernel
    rw [e, e2, if_neg (by decide), if_pos h0]
  · skip
    have e : nx 36 1 u = 0 := nx_0 (fun k hk g1 g2 g3 => by
      rcases k7 hk with rfl | rfl | rfl | rfl | rfl | rfl | rfl
      all_goals first | exact absurd g1 (by decide) | exact absurd g2 (by decide) | exact h0 g3)
    rw [e, if_pos rfl, if_neg h0]
theorem wA_s {n a f : Nat} {ch : Nat → Int32} : wA n ch a (f + 1) 16 1 = (if cat n ch (a + 1) = 112 then wA n ch a f 16 2 else (false, 1, 0)) := by
  rw [wA]
  generalize cat n ch (a + 1) = u
  by_cases h0 : u = 112
  · have e : nx 16 1 u = 16 := by rw [h0]; decide +kernel
    have e2 : dnf 16 2 7 0 = none := by decide +kernel
    rw [e, e2, if_neg (by decide), if_pos h0]
  · skip
    have e : nx 16 1 u = 0 := nx_0 (fun k hk g1 g2 g3 => by
      rcases k7 hk with rfl | rfl | rfl | rfl | rfl | rfl | rfl
      all_goals first | exact absurd g1 (by decide) | exact absurd g2 (by decide) | exact h0 g3)
    rw [e, if_pos rfl, if_neg h0]
theorem wA_v {n a f : Nat} {ch : Nat → Int32} : wA n ch a (f + 1) 64 1 = (if cat n ch (a + 1) = 105 then wA n ch a f 64 2 else (false, 1, 0)) := by
  rw [wA]
  generalize cat n ch (a + 1) = u
  by_cases h0 : u = 105
  · have e : nx 64 1 u = 64 := by rw [h0]; decide +kernel
    have e2 : dnf 64 2 7 0 = none := by decide +kernel
    rw [e, e2, if_neg (by decide), if_pos h0]
  · skip
    have e : nx 64 1 u = 0 := nx_0 (fun k hk g1 g2 g3 => by
      rcases k7 hk with rfl | rfl | rfl | rfl | rfl | rfl | rfl
      all_goals first | exact absurd g1 (by decide) | exact absurd g2 (by decide) | exact h0 g3)
    rw [e, if_pos rfl, if_neg h0]
theorem wA_co {n a f : Nat} {ch : Nat → Int32} : wA n ch a (f + 1) 3 2 = (if cat n ch (a + 2) = 112 then wA n ch a f 1 3 else if cat n ch (a + 2) = 114 then wA n ch a f 2 3 else (false, 2, 0)) := by
  rw [wA]
  generalize cat n ch (a + 2) = u
  by_cases h0 : u = 112
  · have e : nx 3 2 u = 1 := by rw [h0]; decide +kernel
    have e2 : dnf 1 3 7 0 = none := by decide +kernel
    rw [e, e2, if_neg (by decide), if_pos h0]
  · skip
    by_cases h1 : u = 114
    · have e : nx 3 2 u = 2 := by rw [h1]; decide +kernel
      have e2 : dnf 2 3 7 0 = none := by decide +kernel
      rw [e, e2, if_neg (by decide), if_neg h0, if_pos h1]
    · skip
      have e : nx 3 2 u = 0 := nx_0 (fun k hk g1 g2 g3 => by
        rcases k7 hk with rfl | rfl | rfl | rfl | rfl | rfl | rfl
        all_goals first | exact absurd g1 (by decide) | exact absurd g2 (by decide) | exact h0 g3 | exact h1 g3)
      rw [e, if_pos rfl, if_neg h0, if_neg h1]
theorem wA_ma {n a f : Nat} {ch : Nat → Int32} : wA n ch a (f + 1) 8 2 = (if cat n ch (a + 2) = 115 then wA n ch a f 8 3 else (false, 2, 0)) := by
  rw [wA]
  generalize cat n ch (a + 2) = u
  by_cases h0 : u = 115
  · have e : nx 8 2 u = 8 := by rw [h0]; decide +kernel
    have e2 : dnf 8 3 7 0 = none := by decide +kernel
    rw [e, e2, if_neg (by decide), if_pos h0]
  · skip
    have e : nx 8 2 u = 0 := nx_0 (fun k hk g1 g2 g3 => by
      rcases k7 hk with rfl | rfl | rfl | rfl | rfl | rfl | rfl
      all_goals first | exact absurd g1 (by decide) | exact absurd g2 (by decide) | exact h0 g3)
    rw [e, if_pos rfl, if_neg h0]
theorem wA_pr {n a f : Nat} {ch : Nat → Int32} : wA n ch a (f + 1) 36 2 = (if cat n ch (a + 2) = 101 then wA n ch a f 36 3 else (false, 2, 0)) := by
  rw [wA]
  generalize cat n ch (a + 2) = u
  by_cases h0 : u = 101
  · have e : nx 36 2 u = 36 := by rw [h0]; decide +kernel
    have e2 : dnf 36 3 7 0 = none := by decide +kernel
    rw [e, e2, if_neg (by decide), if_pos h0]
  · skip
    have e : nx 36 2 u = 0 := nx_0 (fun k hk g1 g2 g3 => by
      rcases k7 hk with rfl | rfl | rfl | rfl | rfl | rfl | rfl
      all_goals first | exact absurd g1 (by decide) | exact absurd g2 (by decide) | exact h0 g3)
    rw [e, if_pos rfl, if_neg h0]
theorem wA_sp {n a f : Nat} {ch : Nat → Int32} : wA n ch a (f + 1) 16 2 = (if cat n ch (a + 2) = 97 then wA n ch a f 16 3 else (false, 2, 0)) := by
  rw [wA]
  generalize cat n ch (a + 2) = u
  by_cases h0 : u = 97
  · have e : nx 16 2 u = 16 := by rw [h0]; decide +kernel
    have e2 : dnf 16 3 7 0 = none := by decide +kernel
    rw [e, e2, if_neg (by decide), if_pos h0]
  · skip
    have e : nx 16 2 u = 0 := nx_0 (fun k hk g1 g2 g3 => by
      rcases k7 hk with rfl | rfl | rfl | rfl | rfl | rfl | rfl
      all_goals first | exact absurd g1 (by decide) | exact absurd g2 (by decide) | exact h0 g3)
    rw [e, if_pos rfl, if_neg h0]
theorem wA_vi {n a f : Nat} {ch : Nat → Int32} : wA n ch a (f + 1) 64 2 = (if cat n ch (a + 2) = 97 then (true, 6, 3) else (false, 2, 0)) := by
  rw [wA]
  generalize cat n ch (a + 2) = u
  by_cases h0 : u = 97
  · have e : nx 64 2 u = 64 := by rw [h0]; decide +kernel
    have e2 : dnf 64 3 7 0 = some 6 := by decide +kernel
    rw [e, e2, if_neg (by decide), if_pos h0]
  · skip
    have e : nx 64 2 u = 0 := nx_0 (fun k hk g1 g2 g3 => by
      rcases k7 hk with rfl | rfl | rfl | rfl | rfl | rfl | rfl
      all_goals first | exact absurd g1 (by decide) | exact absurd g2 (by decide) | exact h0 g3)
    rw [e, if_pos rfl, if_neg h0]
theorem wA_cop {n a f : Nat} {ch : Nat → Int32} : wA n ch a (f + 1) 1 3 = (if cat n ch (a + 3) = 112 then wA n ch a f 1 4 else (false, 3, 0)) := by
  rw [wA]
  generalize cat n ch (a + 3) = u
  by_cases h0 : u = 112
  · have e : nx 1 3 u = 1 := by rw [h0]; decide +kernel
    have e2 : dnf 1 4 7 0 = none := by decide +kernel
    rw [e, e2, if_neg (by decide), if_pos h0]
  · skip
    have e : nx 1 3 u = 0 := nx_0 (fun k hk g1 g2 g3 => by
      rcases k7 hk with rfl | rfl | rfl | rfl | rfl | rfl | rfl
      all_goals first | exact absurd g1 (by decide) | exact absurd g2 (by decide) | exact h0 g3)
    rw [e, if_pos rfl, if_neg h0]
theorem wA_cor {n a f : Nat} {ch : Nat → Int32} : wA n ch a (f + 1) 2 3 = (if cat n ch (a + 3) = 101 then (true, 1, 4) else (false, 3, 0)) := by
  rw [wA]
  generalize cat n ch (a + 3) = u
  by_cases h0 : u = 101
  · have e : nx 2 3 u = 2 := by rw [h0]; decide +kernel
    have e2 : dnf 2 4 7 0 = some 1 := by decide +kernel
    rw [e, e2, if_neg (by decide), if_pos h0]
  · skip
    have e : nx 2 3 u = 0 := nx_0 (fun k hk g1 g2 g3 => by
      rcases k7 hk with rfl | rfl | rfl | rfl | rfl | rfl | rfl
      all_goals first | exact absurd g1 (by decide) | exact absurd g2 (by decide) | exact h0 g3)
    rw [e, if_pos rfl, if_neg h0]
theorem wA_mas {n a f : Nat} {ch : Nat → Int32} : wA n ch a (f + 1) 8 3 = (if cat n ch (a + 3) = 107 then (true, 3, 4) else (false, 3, 0)) := by
  rw [wA]
  generalize cat n ch (a + 3) = u
  by_cases h0 : u = 107
  · have e : nx 8 3 u = 8 := by rw [h0]; decide +kernel
    have e2 : dnf 8 4 7 0 = some 3 := by decide +kernel
    rw [e, e2, if_neg (by decide), if_pos h0]
  · skip
    have e : nx 8 3 u = 0 := nx_0 (fun k hk g1 g2 g3 => by
      rcases k7 hk with rfl | rfl | rfl | rfl | rfl | rfl | rfl
      all_goals first | exact absurd g1 (by decide) | exact absurd g2 (by decide) | exact h0 g3)
    rw [e, if_pos rfl, if_neg h0]
theorem wA_pre {n a f : Nat} {ch : Nat → Int32} : wA n ch a (f + 1) 36 3 = (if cat n ch (a + 3) = 112 then wA n ch a f 4 4 else if cat n ch (a + 3) = 115 then wA n ch a f 32 4 else (false, 3, 0)) := by
  rw [wA]
  generalize cat n ch (a + 3) = u
  by_cases h0 : u = 112
  · have e : nx 36 3 u = 4 := by rw [h0]; decide +kernel
    have e2 : dnf 4 4 7 0 = none := by decide +kernel
    rw [e, e2, if_neg (by decide), if_pos h0]
  · skip
    by_cases h1 : u = 115
    · have e : nx 36 3 u = 32 := by rw [h1]; decide +kernel
      have e2 : dnf 32 4 7 0 = none := by decide +kernel
      rw [e, e2, if_neg (by decide), if_neg h0, if_pos h1]
    · skip
      have e : nx 36 3 u = 0 := nx_0 (fun k hk g1 g2 g3 => by
        rcases k7 hk with rfl | rfl | rfl | rfl | rfl | rfl | rfl
        all_goals first | exact absurd g1 (by decide) | exact absurd g2 (by decide) | exact h0 g3 | exact h1 g3)
      rw [e, if_pos rfl, if_neg h0, if_neg h1]
theorem wA_spa {n a f : Nat} {ch : Nat → Int32} : wA n ch a (f + 1) 16 3 = (if cat n ch (a + 3) = 114 then wA n ch a f 16 4 else (false, 3, 0)) := by
  rw [wA]
  generalize cat n ch (a + 3) = u
  by_cases h0 : u = 114
  · have e : nx 16 3 u = 16 := by rw [h0]; decide +kernel
    have e2 : dnf 16 4 7 0 = none := by decide +kernel
    rw [e, e2, if_neg (by decide), if_pos h0]
  · skip
    have e : nx 16 3 u = 0 := nx_0 (fun k hk g1 g2 g3 => by
      rcases k7 hk with rfl | rfl | rfl | rfl | rfl | rfl | rfl
      all_goals first | exact absurd g1 (by decide) | exact absurd g2 (by decide) | exact h0 g3)
    rw [e, if_pos rfl, if_neg h0]
theorem wA_copp {n a f : Nat} {ch : Nat → Int32} : wA n ch a (f + 1) 1 4 = (if cat n ch (a + 4) = 101 then wA n ch a f 1 5 else (false, 4, 0)) := by
  rw [wA]
  generalize cat n ch (a + 4) = u
  by_cases h0 : u = 101
  · have e : nx 1 4 u = 1 := by rw [h0]; decide +kernel
    have e2 : dnf 1 5 7 0 = none := by decide +kernel
    rw [e, e2, if_neg (by decide), if_pos h0]
  · skip
    have e : nx 1 4 u = 0 := nx_0 (fun k hk g1 g2 g3 => by
      rcases k7 hk with rfl | rfl | rfl | rfl | rfl | rfl | rfl
      all_goals first | exact absurd g1 (by decide) | exact absurd g2 (by decide) | exact h0 g3)
    rw [e, if_pos rfl, if_neg h0]
theorem wA_prep {n a f : Nat} {ch : Nat → Int32} : wA n ch a (f + 1) 4 4 = (if cat n ch (a + 4) = 114 then wA n ch a f 4 5 else (false, 4, 0)) := by
  rw [wA]
  generalize cat n ch (a + 4) = u
  by_cases h0 : u = 114
  · have e : nx 4 4 u = 4 := by rw [h0]; decide +kernel
    have e2 : dnf 4 5 7 0 = none := by decide +kernel
    rw [e, e2, if_neg (by decide), if_pos h0]
  · skip
    have e : nx 4 4 u = 0 := nx_0 (fun k hk g1 g2 g3 => by
      rcases k7 hk with rfl | rfl | rfl | rfl | rfl | rfl | rfl
      all_goals first | exact absurd g1 (by decide) | exact absurd g2 (by decide) | exact h0 g3)
    rw [e, if_pos rfl, if_neg h0]
theorem wA_pres {n a f : Nat} {ch : Nat → Int32} : wA n ch a (f + 1) 32 4 = (if cat n ch (a + 4) = 115 then (true, 5, 5) else (false, 4, 0)) := by
  rw [wA]
  generalize cat n ch (a + 4) = u
  by_cases h0 : u = 115
  · have e : nx 32 4 u = 32 := by rw [h0]; decide +kernel
    have e2 : dnf 32 5 7 0 = some 5 := by decide +kernel
    rw [e, e2, if_neg (by decide), if_pos h0]
  · skip
    have e : nx 32 4 u = 0 := nx_0 (fun k hk g1 g2 g3 => by
      rcases k7 hk with rfl | rfl | rfl | rfl | rfl | rfl | rfl
      all_goals first | exact absurd g1 (by decide) | exact absurd g2 (by decide) | exact h0 g3)
    rw [e, if_pos rfl, if_neg h0]
theorem wA_spar {n a f : Nat} {ch : Nat → Int32} : wA n ch a (f + 1) 16 4 = (if cat n ch (a + 4) = 101 then (true, 4, 5) else (false, 4, 0)) := by
  rw [wA]
  generalize cat n ch (a + 4) = u
  by_cases h0 : u = 101
  · have e : nx 16 4 u = 16 := by rw [h0]; decide +kernel
    have e2 : dnf 16 5 7 0 = some 4 := by decide +kernel
    rw [e, e2, if_neg (by decide), if_pos h0]
  · skip
    have e : nx 16 4 u = 0 := nx_0 (fun k hk g1 g2 g3 => by
      rcases k7 hk with rfl | rfl | rfl | rfl | rfl | rfl | rfl
      all_goals first | exact absurd g1 (by decide) | exact absurd g2 (by decide) | exact h0 g3)
    rw [e, if_pos rfl, if_neg h0]
theorem wA_coppe {n a f : Nat} {ch : Nat → Int32} : wA n ch a (f + 1) 1 5 = (if cat n ch (a + 5) = 114 then (true, 0, 6) else (false, 5, 0)) := by
  rw [wA]
  generalize cat n ch (a + 5) = u
  by_cases h0 : u = 114
  · have e : nx 1 5 u = 1 := by rw [h0]; decide +kernel
    have e2 : dnf 1 6 7 0 = some 0 := by decide +kernel
    rw [e, e2, if_neg (by decide), if_pos h0]
  · skip
    have e : nx 1 5 u = 0 := nx_0 (fun k hk g1 g2 g3 => by
      rcases k7 hk with rfl | rfl | rfl | rfl | rfl | rfl | rfl
      all_goals first | exact absurd g1 (by decide) | exact absurd g2 (by decide) | exact h0 g3)
    rw [e, if_pos rfl, if_neg h0]
theorem wA_prepr {n a f : Nat} {ch : Nat → Int32} : wA n ch a (f + 1) 4 5 = (if cat n ch (a + 5) = 101 then wA n ch a f 4 6 else (false, 5, 0)) := by
  rw [wA]
  generalize cat n ch (a + 5) = u
  by_cases h0 : u = 101
  · have e : nx 4 5 u = 4 := by rw [h0]; decide +kernel
    have e2 : dnf 4 6 7 0 = none := by decide +kernel
    rw [e, e2, if_neg (by decide), if_pos h0]
  · skip
    have e : nx 4 5 u = 0 := nx_0 (fun k hk g1 g2 g3 => by
      rcases k7 hk with rfl | rfl | rfl | rfl | rfl | rfl | rfl
      all_goals first | exact absurd g1 (by decide) | exact absurd g2 (by decide) | exact h0 g3)
    rw [e, if_pos rfl, if_neg h0]
theorem wA_prepre {n a f : Nat} {ch : Nat → Int32} : wA n ch a (f + 1) 4 6 = (if cat n ch (a + 6) = 103 then (true, 2, 7) else (false, 6, 0)) := by
  rw [wA]
  generalize cat n ch (a + 6) = u
  by_cases h0 : u = 103
  · have e : nx 4 6 u = 4 := by rw [h0]; decide +kernel
    have e2 : dnf 4 7 7 0 = some 2 := by decide +kernel
    rw [e, e2, if_neg (by decide), if_pos h0]
  · skip
    have e : nx 4 6 u = 0 := nx_0 (fun k hk g1 g2 g3 => by
      rcases k7 hk with rfl | rfl | rfl | rfl | rfl | rfl | rfl
      all_goals first | exact absurd g1 (by decide) | exact absurd g2 (by decide) | exact h0 g3)
    rw [e, if_pos rfl, if_neg h0]
def pm (n : Nat) (ch : Nat → Int32) : List Int32 → Nat → Nat
  | [], _ => 0
  | c :: l, a => if cat n ch a = c then pm n ch l (a + 1) + 1 else 0
theorem drop_cons {l l' : List Int32} {j : Nat} {c : Int32} (h : l.drop j = c :: l') : j < l.length ∧ l.getD j 0 = c ∧ l.drop (j + 1) = l' := by
  have hj : j < l.length := by
    apply Nat.lt_of_not_le
    intro q
    rw [List.drop_eq_nil_of_le q] at h
    cases h
  rw [List.drop_eq_getElem_cons hj] at h
  injection h with h1 h2
  exact ⟨hj, by rw [List.getD_eq_getElem?_getD, List.getElem?_eq_getElem hj]; exact h1, h2⟩
theorem sch_t : ∀ i : Fin 7, ∀ j : Fin 7, j.val < sLen.getD i.val 0 → sCh i.val (nI j.val) = (sByt.getD i.val []).getD j.val 0 := by decide +kernel
theorem sln_t : ∀ i : Fin 7, (sByt.getD i.val []).length = sLen.getD i.val 0 ∧ sLen.getD i.val 0 ≤ 7 := by decide +kernel
theorem pm_le {n : Nat} {ch : Nat → Int32} : ∀ (l : List Int32) (a : Nat), pm n ch l a ≤ l.length := by
  intro l
  induction l with
  | nil => intro a; exact Nat.le_refl _
  | cons c l ih =>
    intro a
    unfold pm
    split
    · have := ih (a + 1); rw [List.length_cons]; omega
    · omega
theorem csl {F n a i : Nat} {ch tx : Nat → Int32} (T : TX n ch tx) (ha : a ≤ n) (hi : i < 7) : ∀ (l : List Int32) (j fu : Nat), (sByt.getD i []).drop j = l → l.length < fu → j ≤ sLen.getD i 0 → g_X4_countSameLetters_2 F i fu (nI j) ch (nI n) (nI a) = some (nI (j + pm n ch l (a + j))) := by
  have hn := T.1
  obtain ⟨hs1, hs2⟩ := sln_t ⟨i, hi⟩
  dsimp only at hs1 hs2
  intro l
  induction l with
  | nil =>
    intro j fu hd hf hj
    obtain ⟨fu, rfl⟩ : ∃ z, fu = z + 1 := ⟨fu - 1, by omega⟩
    have hl := congrArg List.length hd
    rw [List.length_drop, List.length_nil, hs1] at hl
    rw [g_X4_countSameLetters_2_s, show Int32.ofNat (sLen.getD i 0) = nI (sLen.getD i 0) from rfl, if_leT (by omega) (by omega)]
    rfl
  | cons c l ih =>
    intro j fu hd hf hj
    obtain ⟨fu, rfl⟩ : ∃ z, fu = z + 1 := ⟨fu - 1, by omega⟩
    obtain ⟨h1, h2, h3⟩ := drop_cons hd
    rw [hs1] at h1
    have e := sch_t ⟨i, hi⟩ ⟨j, by omega⟩ h1
    dsimp only at e
    have q := ih (j + 1) fu h3 (by rw [List.length_cons] at hf; omega) (by omega)
    rw [g_X4_countSameLetters_2_s, show Int32.ofNat (sLen.getD i 0) = nI (sLen.getD i 0) from rfl, if_leF (by omega) (by omega), nI_add, cA T (by omega), mb1_v, mg_in (by omega) (by omega), mn_e, nI_1, e, h2, q, pm]
    by_cases hc : cat n ch (a + j) = c
    · rw [if_pos hc, if_pos hc, show a + (j + 1) = a + j + 1 by omega, show j + 1 + pm n ch l (a + j + 1) = j + (pm n ch l (a + j + 1) + 1) by omega]
    · rw [if_neg hc, if_neg hc, Nat.add_zero]
def cwf (n : Nat) (ch : Nat → Int32) (a : Nat) : List (List Int32) → Nat → Nat → Bool × Nat × Nat
  | [], _, f => (false, f, 0)
  | l :: ls, w, f => if pm n ch l a = l.length then (true, w, l.length) else cwf n ch a ls (w + 1) (if f < pm n ch l a then pm n ch l a else f)
def wC (a : Nat) (fa : Int32) (z : Bool × Nat × Nat) (o : Option (Int32 × Int32 × Int32)) : Prop := match z with
  | (true, k, m) => o = some (nI k, nI (a + m), fa)
  | (false, j, _) => o = some (-1, nI a, nI (a + j))
theorem spl_t : ∀ w : Fin 7, spl (nI w.val) = w.val := by decide +kernel
theorem wC_ok {F n a : Nat} {ch tx : Nat → Int32} {fa : Int32} (hF : 4000 ≤ F) (T : TX n ch tx) (ha : a ≤ n) : ∀ (ls : List (List Int32)) (w f fu : Nat), w + ls.length = 7 → sByt.drop w = ls → ls.length < fu → f ≤ 7 → wC a fa (cwf n ch a ls w f) (g_X4_readWord_4 F fu (nI f) (nI w) ch (nI n) (nI a) fa) := by
  have hn := T.1
  intro ls
  induction ls with
  | nil =>
    intro w f fu hw hd hf hf7
    obtain ⟨fu, rfl⟩ : ∃ z, fu = z + 1 := ⟨fu - 1, by omega⟩
    rw [List.length_nil] at hw
    rw [g_X4_readWord_4_s, iL7, if_leT (by omega) (by omega), nI_add]
    rfl
  | cons l ls ih =>
    intro w f fu hw hd hf hf7
    obtain ⟨fu, rfl⟩ : ∃ z, fu = z + 1 := ⟨fu - 1, by omega⟩
    rw [List.length_cons] at hw hf
    have hw7 : w < 7 := by omega
    have hj : w < sByt.length := hw7
    rw [List.drop_eq_getElem_cons hj] at hd
    injection hd with h1 h2
    have h1 : sByt.getD w [] = l := by rw [List.getD_eq_getElem?_getD, List.getElem?_eq_getElem hj]; exact h1
    obtain ⟨hs1, hs2⟩ := sln_t ⟨w, hw7⟩
    dsimp only at hs1 hs2
    have e := spl_t ⟨w, hw7⟩
    dsimp only at e
    have c := csl (F := F) T ha hw7 l 0 F (by rw [List.drop_zero]; exact h1) (by rw [← h1]; omega) (by omega)
    rw [Nat.add_zero, Nat.zero_add] at c
    have pl := pm_le (n := n) (ch := ch) l a
    rw [h1] at hs1
    rw [g_X4_readWord_4_s, iL7, if_leF (by omega) (by omega), e]
    unfold f_X4_countSameLetters
    rw [iL0, c, mb1_v, show Int32.ofNat (sLen.getD w 0) = nI (sLen.getD w 0) from rfl, cwf, mn_e, mn_e, nI_1, nI_add]
    by_cases hp : pm n ch l a = l.length
    · rw [if_eqT (by omega), if_pos hp, hp]
      rfl
    · rw [if_eqF (by omega) (by omega) (by omega), if_neg hp]
      by_cases hm : f < pm n ch l a
      · rw [if_ltT hm (by omega), if_pos hm]
        exact ih (w + 1) _ fu (by omega) h2 (by omega) (by omega)
      · rw [if_ltF (by omega) (by omega), if_neg hm]
        exact ih (w + 1) _ fu (by omega) h2 (by omega) (by omega)
theorem cat_in {n a : Nat} {ch : Nat → Int32} {u : Int32} (h : cat n ch a = u) (hu : ¬ u = -1) : a < n := by
  apply Nat.lt_of_not_le
  intro q
  rw [cat, if_neg (by omega)] at h
  exact hu h.symm
def wSame (n a : Nat) (z1 z2 : Bool × Nat × Nat) : Prop := z1 = z2 ∧ ((z1.1 = true ∧ z1.2.1 ≤ 6 ∧ 3 ≤ z1.2.2 ∧ z1.2.2 ≤ 7 ∧ a + z1.2.2 ≤ n) ∨ (z1.1 = false ∧ z1.2.1 < 100 ∧ a + z1.2.1 ≤ n))
set_option maxHeartbeats 4000000 in
theorem w_same {n a : Nat} {ch : Nat → Int32} (ha : a ≤ n) : wSame n a (cwf n ch a sByt 0 0) (wA n ch a 8 127 0) := by
  rw [wA_root]
  by_cases h0_0 : cat n ch (a + 0) = 99
  · rw [if_pos h0_0]
    have gh0_0 : cat n ch a = 99 := h0_0
    have b0 := cat_in h0_0 (by decide)
    rw [wA_c]
    by_cases h1_0 : cat n ch (a + 1) = 111
    · rw [if_pos h1_0]
      have b1 := cat_in h1_0 (by decide)
      rw [wA_co]
      by_cases h2_0 : cat n ch (a + 2) = 112
      · rw [if_pos h2_0]
        have b2 := cat_in h2_0 (by decide)
        rw [wA_cop]
        by_cases h3_0 : cat n ch (a + 3) = 112
        · rw [if_pos h3_0]
          have b3 := cat_in h3_0 (by decide)
          rw [wA_copp]
          by_cases h4_0 : cat n ch (a + 4) = 101
          · rw [if_pos h4_0]
            have b4 := cat_in h4_0 (by decide)
            rw [wA_coppe]
            by_cases h5_0 : cat n ch (a + 5) = 114
            · rw [if_pos h5_0]
              have b5 := cat_in h5_0 (by decide)
              have ez : cwf n ch a sByt 0 0 = (true, 0, 6) := by simp [cwf, pm, sByt, List.length_cons, List.length_nil, gh0_0, h1_0, h2_0, h3_0, h4_0, h5_0]
              rw [ez]
              exact ⟨rfl, Or.inl ⟨rfl, by decide, by decide, by decide, show a + 6 ≤ n by omega⟩⟩
            rw [if_neg h5_0]
            have ez : cwf n ch a sByt 0 0 = (false, 5, 0) := by simp [cwf, pm, sByt, List.length_cons, List.length_nil, gh0_0, h1_0, h2_0, h3_0, h4_0, h5_0]
            rw [ez]
            exact ⟨rfl, Or.inr ⟨rfl, by decide, show a + 5 ≤ n by omega⟩⟩
          rw [if_neg h4_0]
          have ez : cwf n ch a sByt 0 0 = (false, 4, 0) := by simp [cwf, pm, sByt, List.length_cons, List.length_nil, gh0_0, h1_0, h2_0, h3_0, h4_0]
          rw [ez]
          exact ⟨rfl, Or.inr ⟨rfl, by decide, show a + 4 ≤ n by omega⟩⟩
        rw [if_neg h3_0]
        have ez : cwf n ch a sByt 0 0 = (false, 3, 0) := by simp [cwf, pm, sByt, List.length_cons, List.length_nil, gh0_0, h1_0, h2_0, h3_0]
        rw [ez]
        exact ⟨rfl, Or.inr ⟨rfl, by decide, show a + 3 ≤ n by omega⟩⟩
      rw [if_neg h2_0]
      by_cases h2_1 : cat n ch (a + 2) = 114
      · rw [if_pos h2_1]
        have b2 := cat_in h2_1 (by decide)
        rw [wA_cor]
        by_cases h3_0 : cat n ch (a + 3) = 101
        · rw [if_pos h3_0]
          have b3 := cat_in h3_0 (by decide)
          have ez : cwf n ch a sByt 0 0 = (true, 1, 4) := by simp [cwf, pm, sByt, List.length_cons, List.length_nil, gh0_0, h1_0, h2_0, h2_1, h3_0]
          rw [ez]
          exact ⟨rfl, Or.inl ⟨rfl, by decide, by decide, by decide, show a + 4 ≤ n by omega⟩⟩
        rw [if_neg h3_0]
        have ez : cwf n ch a sByt 0 0 = (false, 3, 0) := by simp [cwf, pm, sByt, List.length_cons, List.length_nil, gh0_0, h1_0, h2_0, h2_1, h3_0]
        rw [ez]
        exact ⟨rfl, Or.inr ⟨rfl, by decide, show a + 3 ≤ n by omega⟩⟩
      rw [if_neg h2_1]
      have ez : cwf n ch a sByt 0 0 = (false, 2, 0) := by simp [cwf, pm, sByt, List.length_cons, List.length_nil, gh0_0, h1_0, h2_0, h2_1]
      rw [ez]
      exact ⟨rfl, Or.inr ⟨rfl, by decide, show a + 2 ≤ n by omega⟩⟩
    rw [if_neg h1_0]
    have ez : cwf n ch a sByt 0 0 = (false, 1, 0) := by simp [cwf, pm, sByt, List.length_cons, List.length_nil, gh0_0, h1_0]
    rw [ez]
    exact ⟨rfl, Or.inr ⟨rfl, by decide, show a + 1 ≤ n by omega⟩⟩
  rw [if_neg h0_0]
  have gh0_0 : ¬ cat n ch a = 99 := h0_0
  by_cases h0_1 : cat n ch (a + 0) = 112
  · rw [if_pos h0_1]
    have gh0_1 : cat n ch a = 112 := h0_1
    have b0 := cat_in h0_1 (by decide)
    rw [wA_p]
    by_cases h1_0 : cat n ch (a + 1) = 114
    · rw [if_pos h1_0]
      have b1 := cat_in h1_0 (by decide)
      rw [wA_pr]
      by_cases h2_0 : cat n ch (a + 2) = 101
      · rw [if_pos h2_0]
        have b2 := cat_in h2_0 (by decide)
        rw [wA_pre]
        by_cases h3_0 : cat n ch (a + 3) = 112
        · rw [if_pos h3_0]
          have b3 := cat_in h3_0 (by decide)
          rw [wA_prep]
          by_cases h4_0 : cat n ch (a + 4) = 114
          · rw [if_pos h4_0]
            have b4 := cat_in h4_0 (by decide)
            rw [wA_prepr]
            by_cases h5_0 : cat n ch (a + 5) = 101
            · rw [if_pos h5_0]
              have b5 := cat_in h5_0 (by decide)
              rw [wA_prepre]
              by_cases h6_0 : cat n ch (a + 6) = 103
              · rw [if_pos h6_0]
                have b6 := cat_in h6_0 (by decide)
                have ez : cwf n ch a sByt 0 0 = (true, 2, 7) := by simp [cwf, pm, sByt, List.length_cons, List.length_nil, gh0_0, gh0_1, h1_0, h2_0, h3_0, h4_0, h5_0, h6_0]
                rw [ez]
                exact ⟨rfl, Or.inl ⟨rfl, by decide, by decide, by decide, show a + 7 ≤ n by omega⟩⟩
              rw [if_neg h6_0]
              have ez : cwf n ch a sByt 0 0 = (false, 6, 0) := by simp [cwf, pm, sByt, List.length_cons, List.length_nil, gh0_0, gh0_1, h1_0, h2_0, h3_0, h4_0, h5_0, h6_0]
              rw [ez]
              exact ⟨rfl, Or.inr ⟨rfl, by decide, show a + 6 ≤ n by omega⟩⟩
            rw [if_neg h5_0]
            have ez : cwf n ch a sByt 0 0 = (false, 5, 0) := by simp [cwf, pm, sByt, List.length_cons, List.length_nil, gh0_0, gh0_1, h1_0, h2_0, h3_0, h4_0, h5_0]
            rw [ez]
            exact ⟨rfl, Or.inr ⟨rfl, by decide, show a + 5 ≤ n by omega⟩⟩
          rw [if_neg h4_0]
          have ez : cwf n ch a sByt 0 0 = (false, 4, 0) := by simp [cwf, pm, sByt, List.length_cons, List.length_nil, gh0_0, gh0_1, h1_0, h2_0, h3_0, h4_0]
          rw [ez]
          exact ⟨rfl, Or.inr ⟨rfl, by decide, show a + 4 ≤ n by omega⟩⟩
        rw [if_neg h3_0]
        by_cases h3_1 : cat n ch (a + 3) = 115
        · rw [if_pos h3_1]
          have b3 := cat_in h3_1 (by decide)
          rw [wA_pres]
          by_cases h4_0 : cat n ch (a + 4) = 115
          · rw [if_pos h4_0]
            have b4 := cat_in h4_0 (by decide)
            have ez : cwf n ch a sByt 0 0 = (true, 5, 5) := by simp [cwf, pm, sByt, List.length_cons, List.length_nil, gh0_0, gh0_1, h1_0, h2_0, h3_0, h3_1, h4_0]
            rw [ez]
            exact ⟨rfl, Or.inl ⟨rfl, by decide, by decide, by decide, show a + 5 ≤ n by omega⟩⟩
          rw [if_neg h4_0]
          have ez : cwf n ch a sByt 0 0 = (false, 4, 0) := by simp [cwf, pm, sByt, List.length_cons, List.length_nil, gh0_0, gh0_1, h1_0, h2_0, h3_0, h3_1, h4_0]
          rw [ez]
          exact ⟨rfl, Or.inr ⟨rfl, by decide, show a + 4 ≤ n by omega⟩⟩
        rw [if_neg h3_1]
        have ez : cwf n ch a sByt 0 0 = (false, 3, 0) := by simp [cwf, pm, sByt, List.length_cons, List.length_nil, gh0_0, gh0_1, h1_0, h2_0, h3_0, h3_1]
        rw [ez]
        exact ⟨rfl, Or.inr ⟨rfl, by decide, show a + 3 ≤ n by omega⟩⟩
      rw [if_neg h2_0]
      have ez : cwf n ch a sByt 0 0 = (false, 2, 0) := by simp [cwf, pm, sByt, List.length_cons, List.length_nil, gh0_0, gh0_1, h1_0, h2_0]
      rw [ez]
      exact ⟨rfl, Or.inr ⟨rfl, by decide, show a + 2 ≤ n by omega⟩⟩
    rw [if_neg h1_0]
    have ez : cwf n ch a sByt 0 0 = (false, 1, 0) := by simp [cwf, pm, sByt, List.length_cons, List.length_nil, gh0_0, gh0_1, h1_0]
    rw [ez]
    exact ⟨rfl, Or.inr ⟨rfl, by decide, show a + 1 ≤ n by omega⟩⟩
  rw [if_neg h0_1]
  have gh0_1 : ¬ cat n ch a = 112 := h0_1
  by_cases h0_2 : cat n ch (a + 0) = 109
  · rw [if_pos h0_2]
    have gh0_2 : cat n ch a = 109 := h0_2
    have b0 := cat_in h0_2 (by decide)
    rw [wA_m]
    by_cases h1_0 : cat n ch (a + 1) = 97
    · rw [if_pos h1_0]
      have b1 := cat_in h1_0 (by decide)
      rw [wA_ma]
      by_cases h2_0 : cat n ch (a + 2) = 115
      · rw [if_pos h2_0]
        have b2 := cat_in h2_0 (by decide)
        rw [wA_mas]
        by_cases h3_0 : cat n ch (a + 3) = 107
        · rw [if_pos h3_0]
          have b3 := cat_in h3_0 (by decide)
          have ez : cwf n ch a sByt 0 0 = (true, 3, 4) := by simp [cwf, pm, sByt, List.length_cons, List.length_nil, gh0_0, gh0_1, gh0_2, h1_0, h2_0, h3_0]
          rw [ez]
          exact ⟨rfl, Or.inl ⟨rfl, by decide, by decide, by decide, show a + 4 ≤ n by omega⟩⟩
        rw [if_neg h3_0]
        have ez : cwf n ch a sByt 0 0 = (false, 3, 0) := by simp [cwf, pm, sByt, List.length_cons, List.length_nil, gh0_0, gh0_1, gh0_2, h1_0, h2_0, h3_0]
        rw [ez]
        exact ⟨rfl, Or.inr ⟨rfl, by decide, show a + 3 ≤ n by omega⟩⟩
      rw [if_neg h2_0]
      have ez : cwf n ch a sByt 0 0 = (false, 2, 0) := by simp [cwf, pm, sByt, List.length_cons, List.length_nil, gh0_0, gh0_1, gh0_2, h1_0, h2_0]
      rw [ez]
      exact ⟨rfl, Or.inr ⟨rfl, by decide, show a + 2 ≤ n by omega⟩⟩
    rw [if_neg h1_0]
    have ez : cwf n ch a sByt 0 0 = (false, 1, 0) := by simp [cwf, pm, sByt, List.length_cons, List.length_nil, gh0_0, gh0_1, gh0_2, h1_0]
    rw [ez]
    exact ⟨rfl, Or.inr ⟨rfl, by decide, show a + 1 ≤ n by omega⟩⟩
  rw [if_neg h0_2]
  have gh0_2 : ¬ cat n ch a = 109 := h0_2
  by_cases h0_3 : cat n ch (a + 0) = 115
  · rw [if_pos h0_3]
    have gh0_3 : cat n ch a = 115 := h0_3
    have b0 := cat_in h0_3 (by decide)
    rw [wA_s]
    by_cases h1_0 : cat n ch (a + 1) = 112
    · rw [if_pos h1_0]
      have b1 := cat_in h1_0 (by decide)
      rw [wA_sp]
      by_cases h2_0 : cat n ch (a + 2) = 97
      · rw [if_pos h2_0]
        have b2 := cat_in h2_0 (by decide)
        rw [wA_spa]
        by_cases h3_0 : cat n ch (a + 3) = 114
        · rw [if_pos h3_0]
          have b3 := cat_in h3_0 (by decide)
          rw [wA_spar]
          by_cases h4_0 : cat n ch (a + 4) = 101
          · rw [if_pos h4_0]
            have b4 := cat_in h4_0 (by decide)
            have ez : cwf n ch a sByt 0 0 = (true, 4, 5) := by simp [cwf, pm, sByt, List.length_cons, List.length_nil, gh0_0, gh0_1, gh0_2, gh0_3, h1_0, h2_0, h3_0, h4_0]
            rw [ez]
            exact ⟨rfl, Or.inl ⟨rfl, by decide, by decide, by decide, show a + 5 ≤ n by omega⟩⟩
          rw [if_neg h4_0]
          have ez : cwf n ch a sByt 0 0 = (false, 4, 0) := by simp [cwf, pm, sByt, List.length_cons, List.length_nil, gh0_0, gh0_1, gh0_2, gh0_3, h1_0, h2_0, h3_0, h4_0]
          rw [ez]
          exact ⟨rfl, Or.inr ⟨rfl, by decide, show a + 4 ≤ n by omega⟩⟩
        rw [if_neg h3_0]
        have ez : cwf n ch a sByt 0 0 = (false, 3, 0) := by simp [cwf, pm, sByt, List.length_cons, List.length_nil, gh0_0, gh0_1, gh0_2, gh0_3, h1_0, h2_0, h3_0]
        rw [ez]
        exact ⟨rfl, Or.inr ⟨rfl, by decide, show a + 3 ≤ n by omega⟩⟩
      rw [if_neg h2_0]
      have ez : cwf n ch a sByt 0 0 = (false, 2, 0) := by simp [cwf, pm, sByt, List.length_cons, List.length_nil, gh0_0, gh0_1, gh0_2, gh0_3, h1_0, h2_0]
      rw [ez]
      exact ⟨rfl, Or.inr ⟨rfl, by decide, show a + 2 ≤ n by omega⟩⟩
    rw [if_neg h1_0]
    have ez : cwf n ch a sByt 0 0 = (false, 1, 0) := by simp [cwf, pm, sByt, List.length_cons, List.length_nil, gh0_0, gh0_1, gh0_2, gh0_3, h1_0]
    rw [ez]
    exact ⟨rfl, Or.inr ⟨rfl, by decide, show a + 1 ≤ n by omega⟩⟩
  rw [if_neg h0_3]
  have gh0_3 : ¬ cat n ch a = 115 := h0_3
  by_cases h0_4 : cat n ch (a + 0) = 118
  · rw [if_pos h0_4]
    have gh0_4 : cat n ch a = 118 := h0_4
    have b0 := cat_in h0_4 (by decide)
    rw [wA_v]
    by_cases h1_0 : cat n ch (a + 1) = 105
    · rw [if_pos h1_0]
      have b1 := cat_in h1_0 (by decide)
      rw [wA_vi]
      by_cases h2_0 : cat n ch (a + 2) = 97
      · rw [if_pos h2_0]
        have b2 := cat_in h2_0 (by decide)
        have ez : cwf n ch a sByt 0 0 = (true, 6, 3) := by simp [cwf, pm, sByt, List.length_cons, List.length_nil, gh0_0, gh0_1, gh0_2, gh0_3, gh0_4, h1_0, h2_0]
        rw [ez]
        exact ⟨rfl, Or.inl ⟨rfl, by decide, by decide, by decide, show a + 3 ≤ n by omega⟩⟩
      rw [if_neg h2_0]
      have ez : cwf n ch a sByt 0 0 = (false, 2, 0) := by simp [cwf, pm, sByt, List.length_cons, List.length_nil, gh0_0, gh0_1, gh0_2, gh0_3, gh0_4, h1_0, h2_0]
      rw [ez]
      exact ⟨rfl, Or.inr ⟨rfl, by decide, show a + 2 ≤ n by omega⟩⟩
    rw [if_neg h1_0]
    have ez : cwf n ch a sByt 0 0 = (false, 1, 0) := by simp [cwf, pm, sByt, List.length_cons, List.length_nil, gh0_0, gh0_1, gh0_2, gh0_3, gh0_4, h1_0]
    rw [ez]
    exact ⟨rfl, Or.inr ⟨rfl, by decide, show a + 1 ≤ n by omega⟩⟩
  rw [if_neg h0_4]
  have gh0_4 : ¬ cat n ch a = 118 := h0_4
  have ez : cwf n ch a sByt 0 0 = (false, 0, 0) := by simp [cwf, pm, sByt, List.length_cons, List.length_nil, gh0_0, gh0_1, gh0_2, gh0_3, gh0_4]
  rw [ez]
  exact ⟨rfl, Or.inr ⟨rfl, by decide, show a + 0 ≤ n by omega⟩⟩
def wordO (n a : Nat) (fa : Int32) (oc om : Option (Int32 × Int32 × Int32)) : Prop :=
  (∃ (k m : Nat), k ≤ 6 ∧ 3 ≤ m ∧ a + m ≤ n ∧ oc = some (nI k, nI (a + m), fa) ∧ om = some (nI k, nI (a + m), -1)) ∨
  (∃ (e : Nat), e ≤ n ∧ oc = some (-1, nI a, nI e) ∧ om = some (-1, nI e, nI e))
theorem word_sim {F n a : Nat} {ch tx : Nat → Int32} {fa : Int32} (hF : 4000 ≤ F) (T : TX n ch tx) (ha : a ≤ n) : wordO n a fa (f_X4_readWord F ch (nI n) (nI a) fa) (f_X7_firstWord F tx (nI n) (nI a) (-1)) := by
  obtain ⟨h1, h2⟩ := w_same (n := n) (a := a) (ch := ch) ha
  have c := wC_ok (F := F) (fa := fa) hF T ha sByt 0 0 F (by decide) rfl (by have : sByt.length = 7 := rfl; omega) (by decide)
  have m := wA_ok (F := F) hF T ha 8 127 0 F (by omega) (by decide) (by decide)
  rw [← h1] at m
  revert c m h2
  generalize cwf n ch a sByt 0 0 = z
  obtain ⟨b, k, j⟩ := z
  intro h2 c m
  rcases h2 with ⟨g1, g2, g3, g4, g5⟩ | ⟨g1, g2, g3⟩
  · dsimp only at g1 g2 g3 g4 g5
    subst g1
    exact Or.inl ⟨k, j, g2, g3, g5, c, m⟩
  · dsimp only at g1 g2 g3
    subst g1
    exact Or.inr ⟨a + k, g3, c, m g2⟩
