abbrev inb (i : Int32) (n : Nat) : Prop := ¬ (i < 0 ∨ n ≤ i.toNatClampNeg)
theorem it_of {β : Type} {c : Prop} [Decidable c] {a b : Option β} {z : β} (h : (if c then a else b) = some z) (hc : c) : a = some z := by rw [if_pos hc] at h; exact h
theorem ie_of {β : Type} {c : Prop} [Decidable c] {a b : Option β} {z : β} (h : (if c then a else b) = some z) (hc : ¬ c) : b = some z := by rw [if_neg hc] at h; exact h
section TS
variable {p : Program} {l : Launch} {e : Env} {R : Room} {s : State} {m : MethodId} {args : Array Value} {below : List Frame} {meth : Method} {c : Code} {H : Heap} {locs : List Loc} {cells slots : Nat} {Q : State → Prop} {cc : ByteArray} {pc : Nat} {ls : Array Slot} {rest : List Value}
theorem ts_in (hexec : p.tables.exec = Jvm.exec) (hb : c.code = cc) {dflt lo hi : Int} {offs : Array Int} {len : Nat} {x k : Int32} {off : Int} {tgt : Nat} (hdg : decode cc pc = .ok (.tableswitch dflt lo hi offs, len)) (h : x = k) (h1 : ¬ k.toInt < lo) (h2 : ¬ hi < k.toInt) (ho : offs[(k.toInt - lo).toNat]? = some off) (ht : (pc : Int) + off = (tgt : Int))
    (kk : W p l e R s m args below meth c H locs cells slots Q (F0 m tgt ls rest)) : W p l e R s m args below meth c H locs cells slots Q (F0 m pc ls (.int x :: rest)) := by
  subst h
  exact lv_tableIn hexec hb hdg h1 h2 ho ht kk
end TS
theorem ts_out6 {x : Int32} (h0 : ¬ x = (0 : Int32)) (h1 : ¬ x = (1 : Int32)) (h2 : ¬ x = (2 : Int32)) (h3 : ¬ x = (3 : Int32)) (h4 : ¬ x = (4 : Int32)) (h5 : ¬ x = (5 : Int32)) : x.toInt < 0 ∨ 5 < x.toInt := by
  have q0 := lv_neT h0 (a := 0) (by decide)
  have q1 := lv_neT h1 (a := 1) (by decide)
  have q2 := lv_neT h2 (a := 2) (by decide)
  have q3 := lv_neT h3 (a := 3) (by decide)
  have q4 := lv_neT h4 (a := 4) (by decide)
  have q5 := lv_neT h5 (a := 5) (by decide)
  omega
theorem ts_out15 {x : Int32} (h0 : ¬ x = (0 : Int32)) (h1 : ¬ x = (1 : Int32)) (h2 : ¬ x = (2 : Int32)) (h3 : ¬ x = (3 : Int32)) (h4 : ¬ x = (4 : Int32)) (h5 : ¬ x = (5 : Int32)) (h6 : ¬ x = (6 : Int32)) (h7 : ¬ x = (7 : Int32)) (h8 : ¬ x = (8 : Int32)) (h9 : ¬ x = (9 : Int32)) (h10 : ¬ x = (10 : Int32)) (h11 : ¬ x = (11 : Int32)) (h12 : ¬ x = (12 : Int32)) (h13 : ¬ x = (13 : Int32)) (h14 : ¬ x = (14 : Int32)) : x.toInt < 0 ∨ 14 < x.toInt := by
  have q0 := lv_neT h0 (a := 0) (by decide)
  have q1 := lv_neT h1 (a := 1) (by decide)
  have q2 := lv_neT h2 (a := 2) (by decide)
  have q3 := lv_neT h3 (a := 3) (by decide)
  have q4 := lv_neT h4 (a := 4) (by decide)
  have q5 := lv_neT h5 (a := 5) (by decide)
  have q6 := lv_neT h6 (a := 6) (by decide)
  have q7 := lv_neT h7 (a := 7) (by decide)
  have q8 := lv_neT h8 (a := 8) (by decide)
  have q9 := lv_neT h9 (a := 9) (by decide)
  have q10 := lv_neT h10 (a := 10) (by decide)
  have q11 := lv_neT h11 (a := 11) (by decide)
  have q12 := lv_neT h12 (a := 12) (by decide)
  have q13 := lv_neT h13 (a := 13) (by decide)
  have q14 := lv_neT h14 (a := 14) (by decide)
  omega
abbrev wdX3 (q : Nat → Nat) (y : Nat → ClassId) (s_fn : Nat) (s_ln : Nat) (s_f : Nat → Int32) (s_l : Nat → Int32) (s_c : Int32) : va_W := [(q 0, .inr (3, [.ref (q 1), .ref (q 2), .int s_c])), (q 1, .inl (y 0, s_fn, .inl s_f)), (q 2, .inl (y 0, s_ln, .inl s_l))]
abbrev wdX2 (q : Nat → Nat) (y : Nat → ClassId) (p_s_f : Nat → Int32) (p_s_l : Nat → Int32) (p_s_c : Int32) (p_t : Int32) : va_W := [(q 0, .inr (2, [.ref (q 1), .int p_t])), (q 1, .inr (3, [.ref (q 2), .ref (q 3), .int p_s_c])), (q 2, .inl (y 0, 21, .inl p_s_f)), (q 3, .inl (y 0, 21, .inl p_s_l))]
abbrev wdX0 (q : Nat → Nat) (y : Nat → ClassId) (b_k : Nat → Int32) (b_n : Nat → Int64) (b_h : Nat → Int32) (b_d : Nat → Int32) (b_r : Nat → Int32) (b_u : Nat → Int32) (b_y : Nat → Int32) (b_p_s_f : Nat → Int32) (b_p_s_l : Nat → Int32) (b_p_s_c : Int32) (b_p_t : Int32) (b_v_f : Nat → Int32) (b_v_l : Nat → Int32) (b_v_c : Int32) (b_L : Int32) (b_C : Int32) (b_I : Int32) : va_W := [(q 0, .inr (0, [.ref (q 1), .ref (q 2), .ref (q 3), .ref (q 4), .ref (q 5), .ref (q 6), .ref (q 7), .ref (q 8), .ref (q 12), .int b_L, .int b_C, .int b_I])), (q 1, .inl (y 0, 80, .inl b_k)), (q 2, .inl (y 1, 80, .inr (.inl b_n))), (q 3, .inl (y 0, 80, .inl b_h)), (q 4, .inl (y 0, 80, .inl b_d)), (q 5, .inl (y 0, 80, .inl b_r)), (q 6, .inl (y 0, 80, .inl b_u)), (q 7, .inl (y 0, 32, .inl b_y)), (q 8, .inr (2, [.ref (q 9), .int b_p_t])), (q 9, .inr (3, [.ref (q 10), .ref (q 11), .int b_p_s_c])), (q 10, .inl (y 0, 21, .inl b_p_s_f)), (q 11, .inl (y 0, 21, .inl b_p_s_l)), (q 12, .inr (3, [.ref (q 13), .ref (q 14), .int b_v_c])), (q 13, .inl (y 0, 40, .inl b_v_f)), (q 14, .inl (y 0, 40, .inl b_v_l))]
abbrev wdX4 (q : Nat → Nat) (y : Nat → ClassId) (t_ch : Nat → Int32) (t_len : Int32) (t_at : Int32) (t_ls : Int32) (t_fa : Int32) : va_W := [(q 0, .inr (4, [.ref (q 1), .int t_len, .int t_at, .int t_ls, .int t_fa])), (q 1, .inl (y 2, 3000, .inl t_ch))]
abbrev wdX5 (q : Nat → Nat) (y : Nat → ClassId) (w_ch : Nat → Int32) (w_dg : Nat → Int32) (w_len : Int32) : va_W := [(q 0, .inr (5, [.ref (q 1), .ref (q 2), .int w_len])), (q 1, .inl (y 2, 3000, .inl w_ch)), (q 2, .inl (y 2, 8, .inl w_dg))]
abbrev wdX7 (q : Nat → Nat) (y : Nat → ClassId) (M_thrown : Int32) (M_text : Nat → Int32) (M_size : Int32) (M_has : Int32) (M_hand : Int32) (M_layers : Nat → Int32) (M_kinds : Nat → Int32) (M_names : Nat → Int64) (M_nameSizes : Nat → Int32) (M_thicknesses : Nat → Int64) (M_spreads : Nat → Int32) (M_coppers : Nat → Int32) (M_copperAt : Nat → Int32) (M_presses : Nat → Int32) (M_pressFrom : Nat → Int32) (M_pressTo : Nat → Int32) (M_vias : Nat → Int32) (M_viaFrom : Nat → Int32) (M_viaTo : Nat → Int32) (M_shares : Nat → Int32) (M_lists : Int32) (M_hasRow : Nat → Int32) (M_rowLow : Nat → Int64) (M_rowHigh : Nat → Int64) (M_p : Int32) (M_s : Int32) (M_fault : Int32) (M_lines : Int32) (M_word : Int64) (M_wordSize : Int32) (M_out : Nat → Int32) (M_written : Int32) (M_secondOne : Int32) : va_W := [(q 0, .inr (7, [.int M_thrown, .ref (q 1), .int M_size, .int M_has, .int M_hand, .ref (q 2), .ref (q 3), .ref (q 4), .ref (q 5), .ref (q 6), .ref (q 7), .ref (q 8), .ref (q 9), .ref (q 10), .ref (q 11), .ref (q 12), .ref (q 13), .ref (q 14), .ref (q 15), .ref (q 16), .int M_lists, .ref (q 17), .ref (q 18), .ref (q 19), .int M_p, .int M_s, .int M_fault, .int M_lines, .long M_word, .int M_wordSize, .ref (q 20), .int M_written, .int M_secondOne])), (q 1, .inl (y 0, 3000, .inl M_text)), (q 2, .inl (y 0, 2, .inl M_layers)), (q 3, .inl (y 0, 160, .inl M_kinds)), (q 4, .inl (y 1, 160, .inr (.inl M_names))), (q 5, .inl (y 0, 160, .inl M_nameSizes)), (q 6, .inl (y 1, 160, .inr (.inl M_thicknesses))), (q 7, .inl (y 0, 160, .inl M_spreads)), (q 8, .inl (y 0, 2, .inl M_coppers)), (q 9, .inl (y 0, 64, .inl M_copperAt)), (q 10, .inl (y 0, 2, .inl M_presses)), (q 11, .inl (y 0, 44, .inl M_pressFrom)), (q 12, .inl (y 0, 44, .inl M_pressTo)), (q 13, .inl (y 0, 2, .inl M_vias)), (q 14, .inl (y 0, 80, .inl M_viaFrom)), (q 15, .inl (y 0, 80, .inl M_viaTo)), (q 16, .inl (y 0, 32, .inl M_shares)), (q 17, .inl (y 3, 640, .inl M_hasRow)), (q 18, .inl (y 1, 640, .inr (.inl M_rowLow))), (q 19, .inl (y 1, 640, .inr (.inl M_rowHigh))), (q 20, .inl (y 0, 6000, .inl M_out))]
abbrev wdX1 (q : Nat → Nat) (y : Nat → ClassId) (k_lo : Nat → Nat → Int64) (k_hi : Nat → Nat → Int64) (k_c : Int32) : va_W := [(q 0, .inr (1, [.ref (q 1), .ref (q 10), .int k_c])), (q 1, .inl (y 4, 8, .inr (.inr (.inr (.inr (fun i => if i < 8 then some (q (i + 2)) else none)))))), (q 2, .inl (y 1, 80, .inr (.inl (k_lo 0)))), (q 3, .inl (y 1, 80, .inr (.inl (k_lo 1)))), (q 4, .inl (y 1, 80, .inr (.inl (k_lo 2)))), (q 5, .inl (y 1, 80, .inr (.inl (k_lo 3)))), (q 6, .inl (y 1, 80, .inr (.inl (k_lo 4)))), (q 7, .inl (y 1, 80, .inr (.inl (k_lo 5)))), (q 8, .inl (y 1, 80, .inr (.inl (k_lo 6)))), (q 9, .inl (y 1, 80, .inr (.inl (k_lo 7)))), (q 10, .inl (y 4, 8, .inr (.inr (.inr (.inr (fun i => if i < 8 then some (q (i + 11)) else none)))))), (q 11, .inl (y 1, 80, .inr (.inl (k_hi 0)))), (q 12, .inl (y 1, 80, .inr (.inl (k_hi 1)))), (q 13, .inl (y 1, 80, .inr (.inl (k_hi 2)))), (q 14, .inl (y 1, 80, .inr (.inl (k_hi 3)))), (q 15, .inl (y 1, 80, .inr (.inl (k_hi 4)))), (q 16, .inl (y 1, 80, .inr (.inl (k_hi 5)))), (q 17, .inl (y 1, 80, .inr (.inl (k_hi 6)))), (q 18, .inl (y 1, 80, .inr (.inl (k_hi 7))))]
def up2 (g : Nat → Nat → Int64) (k : Nat) (r : Nat → Int64) : Nat → Nat → Int64 := fun a => if a = k then r else g a
theorem inb_lt {i : Int32} {n : Nat} (h : inb i n) : i.toNatClampNeg < n := Nat.not_le.mp fun q => h (Or.inr q)
theorem k8 {P : Nat → Prop} (h0 : P 0) (h1 : P 1) (h2 : P 2) (h3 : P 3) (h4 : P 4) (h5 : P 5) (h6 : P 6) (h7 : P 7) (k : Nat) (hk : k < 8) : P k := by
  match k, hk with
  | 0, _ => exact h0
  | 1, _ => exact h1
  | 2, _ => exact h2
  | 3, _ => exact h3
  | 4, _ => exact h4
  | 5, _ => exact h5
  | 6, _ => exact h6
  | 7, _ => exact h7
section ALD2
variable {p : Program} {l : Launch} {e : Env} {R : Room} {s : State} {m : MethodId} {args : Array Value} {below : List Frame} {meth : Method} {c : Code} {H : Heap} {locs : List Loc} {cells slots : Nat} {Q : State → Prop} {cc : ByteArray} {pc : Nat} {ls : Array Slot} {rest : List Value} {D : va_G} {cl : List vw_C} {a : Nat} {tys : List (ClassId × FieldType)} {ws : va_W}
theorem va_ald2 (hexec : p.tables.exec = Jvm.exec) (hb : c.code = cc) (hK : va_K D cl tys s) (hP : va_P D cl ws H) (q0 t0 : Nat) {cA : ClassId} {r : Nat → Nat} (ha : ws[q0]? = some (a, .inl (cA, 8, .inr (.inr (.inr (.inr (fun i => if i < 8 then some (r i) else none))))))) (ht : tys[t0]? = some (cA, .array .long)) {i : Int32} (hin : vp_in i 8) (hdg : decode cc pc = .ok (.aaload, 1))
    (kk : W p l e R s m args below meth c H locs cells slots Q (F0 m (pc + 1) ls (.ref (r i.toNatClampNeg) :: rest))) : W p l e R s m args below meth c H locs cells slots Q (F0 m pc ls (.int i :: .ref a :: rest)) := by
  have hlt : i.toNatClampNeg < 8 := Nat.not_le.mp fun q => hin (Or.inr q)
  exact W.aald (v := .ref (r i.toNatClampNeg)) (ty := .array .long) hexec hb (hP q0 _ ha) ((hK.2 t0 _ ht).1 8 (fun j => va_rf (if j < 8 then some (r j) else none))) rfl (fun q => by cases q) (by show ¬ (i < 0 ∨ (arrV _ _ _).slots.size ≤ _); rw [arrV_size]; exact hin) (by show (arrV _ _ _).slots[_]? = _; rw [arrV_read _ _ hlt]; show some (va_rf (if i.toNatClampNeg < 8 then some (r i.toNatClampNeg) else none)) = _; rw [if_pos hlt]; rfl) rfl rfl hdg kk
end ALD2
theorem row_k_lo {q : Nat → Nat} {y : Nat → ClassId} {k_lo : Nat → Nat → Int64} {k_hi : Nat → Nat → Int64} {k_c : Int32} (k : Nat) (hk : k < 8) : (wdX1 q y k_lo k_hi k_c)[k + 2]? = some (q (k + 2), .inl (y 1, 80, .inr (.inl (k_lo k)))) := k8 (P := fun k => (wdX1 q y k_lo k_hi k_c)[k + 2]? = some (q (k + 2), .inl (y 1, 80, .inr (.inl (k_lo k))))) rfl rfl rfl rfl rfl rfl rfl rfl k hk
theorem set_k_lo {q : Nat → Nat} {y : Nat → ClassId} {k_lo : Nat → Nat → Int64} {k_hi : Nat → Nat → Int64} {k_c : Int32} {r : Nat → Int64} (k : Nat) (hk : k < 8) : (wdX1 q y k_lo k_hi k_c).set (k + 2) (q (k + 2), .inl (y 1, 80, .inr (.inl r))) = wdX1 q y (up2 k_lo k r) k_hi k_c := k8 (P := fun k => (wdX1 q y k_lo k_hi k_c).set (k + 2) (q (k + 2), .inl (y 1, 80, .inr (.inl r))) = wdX1 q y (up2 k_lo k r) k_hi k_c) rfl rfl rfl rfl rfl rfl rfl rfl k hk
theorem row_k_hi {q : Nat → Nat} {y : Nat → ClassId} {k_lo : Nat → Nat → Int64} {k_hi : Nat → Nat → Int64} {k_c : Int32} (k : Nat) (hk : k < 8) : (wdX1 q y k_lo k_hi k_c)[k + 11]? = some (q (k + 11), .inl (y 1, 80, .inr (.inl (k_hi k)))) := k8 (P := fun k => (wdX1 q y k_lo k_hi k_c)[k + 11]? = some (q (k + 11), .inl (y 1, 80, .inr (.inl (k_hi k))))) rfl rfl rfl rfl rfl rfl rfl rfl k hk
theorem set_k_hi {q : Nat → Nat} {y : Nat → ClassId} {k_lo : Nat → Nat → Int64} {k_hi : Nat → Nat → Int64} {k_c : Int32} {r : Nat → Int64} (k : Nat) (hk : k < 8) : (wdX1 q y k_lo k_hi k_c).set (k + 11) (q (k + 11), .inl (y 1, 80, .inr (.inl r))) = wdX1 q y k_lo (up2 k_hi k r) k_c := k8 (P := fun k => (wdX1 q y k_lo k_hi k_c).set (k + 11) (q (k + 11), .inl (y 1, 80, .inr (.inl r))) = wdX1 q y k_lo (up2 k_hi k r) k_c) rfl rfl rfl rfl rfl rfl rfl rfl k hk
