set_option maxHeartbeats 8000000 in
set_option maxRecDepth 100000 in
theorem law_loop {p : Program} {l : Launch} {e : Env} {s : State} {m : MethodId} {below : List Frame} {meth : Method} {c : Code} {D : va_G} {y : Nat → ClassId} {qm qo : Nat → Nat} {b F : Nat} {aK aV tA : Nat → Nat} {L : Nat} {xs : Nat → Int32} (hF : 4000 ≤ F) (hst : l.stackTraces = false) (C : CX p s m #[Value.ref b] meth c wsL_law RL cL_law 8 ret) (hX : va_X b L xs s s.heap) (hbl : b < s.heap.size) (hL3 : L ≤ 3584) (hJ : SJ aK aV (fun q : Nat => s.heap.size ≤ q) s s.heap) (hT : TJ tA (fun q : Nat => s.heap.size ≤ q) s s.heap) (hLJ : LJ s) (hK : va_K D vwCl (tyl y) s) :
    ∀ (n i N : Nat), i = 7 * N → i ≤ L → L < i + n → ∀ (q : Nat → Nat) (x_R_ch : Nat → Int32) (x_R_len : Int32) (x_R_at : Int32) (x_R_ls : Int32) (x_R_fa : Int32) (x_W_ch : Nat → Int32) (x_W_dg : Nat → Int32) (x_W_len : Int32) (x_K_lo : Nat → Nat → Int64) (x_K_hi : Nat → Nat → Int64) (x_K_c : Int32) (x_B_k : Nat → Int32) (x_B_n : Nat → Int64) (x_B_h : Nat → Int32) (x_B_d : Nat → Int32) (x_B_r : Nat → Int32) (x_B_u : Nat → Int32) (x_B_y : Nat → Int32) (x_B_p_s_f : Nat → Int32) (x_B_p_s_l : Nat → Int32) (x_B_p_s_c : Int32) (x_B_p_t : Int32) (x_B_v_f : Nat → Int32) (x_B_v_l : Nat → Int32) (x_B_v_c : Int32) (x_B_L : Int32) (x_B_C : Int32) (x_B_I : Int32) (x_D_k : Nat → Int32) (x_D_n : Nat → Int64) (x_D_h : Nat → Int32) (x_D_d : Nat → Int32) (x_D_r : Nat → Int32) (x_D_u : Nat → Int32) (x_D_y : Nat → Int32) (x_D_p_s_f : Nat → Int32) (x_D_p_s_l : Nat → Int32) (x_D_p_s_c : Int32) (x_D_p_t : Int32) (x_D_v_f : Nat → Int32) (x_D_v_l : Nat → Int32) (x_D_v_c : Int32) (x_D_L : Int32) (x_D_C : Int32) (x_D_I : Int32) (M_thrown : Int32) (M_text : Nat → Int32) (M_size : Int32) (M_has : Int32) (M_hand : Int32) (M_layers : Nat → Int32) (M_kinds : Nat → Int32) (M_names : Nat → Int64) (M_nameSizes : Nat → Int32) (M_thicknesses : Nat → Int64) (M_spreads : Nat → Int32) (M_coppers : Nat → Int32) (M_copperAt : Nat → Int32) (M_presses : Nat → Int32) (M_pressFrom : Nat → Int32) (M_pressTo : Nat → Int32) (M_vias : Nat → Int32) (M_viaFrom : Nat → Int32) (M_viaTo : Nat → Int32) (M_shares : Nat → Int32) (M_lists : Int32) (M_hasRow : Nat → Int32) (M_rowLow : Nat → Int64) (M_rowHigh : Nat → Int64) (M_p : Int32) (M_s : Int32) (M_fault : Int32) (M_lines : Int32) (M_word : Int64) (M_wordSize : Int32) (M_out : Nat → Int32) (M_written : Int32) (M_secondOne : Int32) (a : Nat → Int64) (H : Heap) (locs : List Loc) (ls : Array Slot), INV F N x_R_ch x_R_len x_W_ch x_W_len x_K_lo x_K_hi x_K_c x_B_k x_B_n x_B_h x_B_d x_B_r x_B_u x_B_y x_B_p_s_f x_B_p_s_l x_B_p_s_c x_B_v_f x_B_v_l x_B_v_c x_B_L x_B_C M_text M_size M_has M_hand M_layers M_kinds M_names M_nameSizes M_thicknesses M_spreads M_coppers M_copperAt M_presses M_pressFrom M_pressTo M_vias M_viaFrom M_viaTo M_shares M_lists M_hasRow M_rowLow M_rowHigh → va_P D vwCl ((wdX6 q (q 25) (q 40) y x_R_ch x_R_len x_R_at x_R_ls x_R_fa x_W_ch x_W_dg x_W_len x_K_lo x_K_hi x_K_c x_B_k x_B_n x_B_h x_B_d x_B_r x_B_u x_B_y x_B_p_s_f x_B_p_s_l x_B_p_s_c x_B_p_t x_B_v_f x_B_v_l x_B_v_c x_B_L x_B_C x_B_I x_D_k x_D_n x_D_h x_D_d x_D_r x_D_u x_D_y x_D_p_s_f x_D_p_s_l x_D_p_s_c x_D_p_t x_D_v_f x_D_v_l x_D_v_c x_D_L x_D_C x_D_I) ++ ((wdX7 qm y M_thrown M_text M_size M_has M_hand M_layers M_kinds M_names M_nameSizes M_thicknesses M_spreads M_coppers M_copperAt M_presses M_pressFrom M_pressTo M_vias M_viaFrom M_viaTo M_shares M_lists M_hasRow M_rowLow M_rowHigh M_p M_s M_fault M_lines M_word M_wordSize M_out M_written M_secondOne) ++ (wdAJ qo y 1 a))) H → va_D (fun q : Nat => s.heap.size ≤ q) ((wdX6 q (q 25) (q 40) y x_R_ch x_R_len x_R_at x_R_ls x_R_fa x_W_ch x_W_dg x_W_len x_K_lo x_K_hi x_K_c x_B_k x_B_n x_B_h x_B_d x_B_r x_B_u x_B_y x_B_p_s_f x_B_p_s_l x_B_p_s_c x_B_p_t x_B_v_f x_B_v_l x_B_v_c x_B_L x_B_C x_B_I x_D_k x_D_n x_D_h x_D_d x_D_r x_D_u x_D_y x_D_p_s_f x_D_p_s_l x_D_p_s_c x_D_p_t x_D_v_f x_D_v_l x_D_v_c x_D_L x_D_C x_D_I) ++ ((wdX7 qm y M_thrown M_text M_size M_has M_hand M_layers M_kinds M_names M_nameSizes M_thicknesses M_spreads M_coppers M_copperAt M_presses M_pressFrom M_pressTo M_vias M_viaFrom M_viaTo M_shares M_lists M_hasRow M_rowLow M_rowHigh M_p M_s M_fault M_lines M_word M_wordSize M_out M_written M_secondOne) ++ (wdAJ qo y 1 a))) → va_S (fun q : Nat => s.heap.size ≤ q) s.heap H locs → lv_has ls 8 [(0, .ref b), (1, .ref (q 0)), (2, .ref (qm 0)), (3, .ref (qo 0)), (4, .int (nI i))] → W p l e room_1 s m #[Value.ref b] below meth c H locs (100 + 3 * N) (30000 + 18 * N) (lw_Z below #[Value.ref b] s) (F0 m 23 ls []) := by
  obtain ⟨⟨hx, hb, hml, hown, hts⟩, hr, hlocks⟩ := id C
  have hA : ∀ q : Nat, s.heap.size ≤ q → (fun q : Nat => s.heap.size ≤ q) q := fun _ h => h
  have hbA : ¬ (fun q : Nat => s.heap.size ≤ q) b := Nat.not_le.mpr hbl
  intro n
  induction n with
  | zero =>
    intro i N h1 h2 h3
    exact absurd h3 (by omega)
  | succ n ih =>
    intro i N h1 h2 h3 q x_R_ch x_R_len x_R_at x_R_ls x_R_fa x_W_ch x_W_dg x_W_len x_K_lo x_K_hi x_K_c x_B_k x_B_n x_B_h x_B_d x_B_r x_B_u x_B_y x_B_p_s_f x_B_p_s_l x_B_p_s_c x_B_p_t x_B_v_f x_B_v_l x_B_v_c x_B_L x_B_C x_B_I x_D_k x_D_n x_D_h x_D_d x_D_r x_D_u x_D_y x_D_p_s_f x_D_p_s_l x_D_p_s_c x_D_p_t x_D_v_f x_D_v_l x_D_v_c x_D_L x_D_C x_D_I M_thrown M_text M_size M_has M_hand M_layers M_kinds M_names M_nameSizes M_thicknesses M_spreads M_coppers M_copperAt M_presses M_pressFrom M_pressTo M_vias M_viaFrom M_viaTo M_shares M_lists M_hasRow M_rowLow M_rowHigh M_p M_s M_fault M_lines M_word M_wordSize M_out M_written M_secondOne a H locs ls I hP hD hS hl
    refine lv_iload hx hb dL_law_23 (lv_at hl 4 rfl) ?_
    refine lv_aload_n hx hb dL_law_25 rfl (lv_at hl 0 rfl) ?_
    refine va_slen hx hb hX hbl hbA hS dL_law_26 ?_
    refine lv_bipush (v := (7 : Int32)) hx hb dL_law_27 (by decide) ?_
    refine lv_isub hx hb dL_law_29 ?_
    refine lv_icmp_gt (tgt := 1071) hx hb dL_law_30 (by decide) (fun c1 => ?_) (fun c1 => ?_)
    · refine lv_iconst (v := (1 : Int32)) hx hb dL_law_1071 (by decide) ?_
      refine va_forget (fun q hq => hS.2.2 q hq) ?_
      refine W.widen (k := 601024) (n := 7293034) (by omega) (by omega) ?_
      exact lw_ret hx hb hr hlocks dL_law_1072
    · have hlt : i + 6 < L := by
        apply Classical.byContradiction
        intro h9
        apply c1
        show nI L - nI 7 < nI i
        by_cases h8 : L < 7
        · have e1 : nI L - nI 7 < 0 := pk_sneg (by omega) h8
          exact Int32.lt_of_lt_of_le e1 (nI_le (a := 0) (by omega) (by omega))
        · rw [nI_sub (by omega)]
          exact nI_lt (by omega) (by omega)
      have kk : LK p l e s m below meth c D y qm qo b F i (N + 1) (100 + 3 * N + 3) (30000 + 18 * N + 18) := by
        intro q x_R_ch x_R_len x_R_at x_R_ls x_R_fa x_W_ch x_W_dg x_W_len x_K_lo x_K_hi x_K_c x_B_k x_B_n x_B_h x_B_d x_B_r x_B_u x_B_y x_B_p_s_f x_B_p_s_l x_B_p_s_c x_B_p_t x_B_v_f x_B_v_l x_B_v_c x_B_L x_B_C x_B_I x_D_k x_D_n x_D_h x_D_d x_D_r x_D_u x_D_y x_D_p_s_f x_D_p_s_l x_D_p_s_c x_D_p_t x_D_v_f x_D_v_l x_D_v_c x_D_L x_D_C x_D_I M_thrown M_text M_size M_has M_hand M_layers M_kinds M_names M_nameSizes M_thicknesses M_spreads M_coppers M_copperAt M_presses M_pressFrom M_pressTo M_vias M_viaFrom M_viaTo M_shares M_lists M_hasRow M_rowLow M_rowHigh M_p M_s M_fault M_lines M_word M_wordSize M_out M_written M_secondOne a H locs ls I hP hD hS hl
        refine lv_iinc (v := nI (i + 7)) (lv' := [(4, .int (nI (i + 7))), (0, .ref b), (1, .ref (q 0)), (2, .ref (qm 0)), (3, .ref (qo 0))]) hx hb dL_law_1065 hl (k := 4) rfl (show nI i + nI 7 = nI (i + 7) from nI_add _ _) (by decide) rfl (fun ls hl => ?_)
        refine lv_goto (tgt := 23) hx hb dL_law_1068 (by decide) ?_
        exact ih (i + 7) (N + 1) (by omega) (by omega) (by omega) q x_R_ch x_R_len x_R_at x_R_ls x_R_fa x_W_ch x_W_dg x_W_len x_K_lo x_K_hi x_K_c x_B_k x_B_n x_B_h x_B_d x_B_r x_B_u x_B_y x_B_p_s_f x_B_p_s_l x_B_p_s_c x_B_p_t x_B_v_f x_B_v_l x_B_v_c x_B_L x_B_C x_B_I x_D_k x_D_n x_D_h x_D_d x_D_r x_D_u x_D_y x_D_p_s_f x_D_p_s_l x_D_p_s_c x_D_p_t x_D_v_f x_D_v_l x_D_v_c x_D_L x_D_C x_D_I M_thrown M_text M_size M_has M_hand M_layers M_kinds M_names M_nameSizes M_thicknesses M_spreads M_coppers M_copperAt M_presses M_pressFrom M_pressTo M_vias M_viaFrom M_viaTo M_shares M_lists M_hasRow M_rowLow M_rowHigh M_p M_s M_fault M_lines M_word M_wordSize M_out M_written M_secondOne a H locs ls I hP hD hS (lv_sub hl [1, 2, 3, 4, 0] rfl)
      refine lv_aload_n hx hb dL_law_33 rfl (lv_at hl 0 rfl) ?_
      refine lv_iload hx hb dL_law_34 (lv_at hl 4 rfl) ?_
      refine va_sld hx hb hX hbl hbA hS (vp_in_nI (by omega) (by omega)) dL_law_36 ?_
      refine lv_bipush (v := (15 : Int32)) hx hb dL_law_37 (by decide) ?_
      refine lv_iand hx hb dL_law_39 ?_
      refine lv_topi (fun v ev => ?_)
      obtain ⟨t, t1, t2⟩ := pk_andE (xs (nI i).toNatClampNeg) (m := 15) 4 (by decide)
      obtain rfl : v = nI t := ev.trans t2
      clear ev t2
      rcases (show t = 0 ∨ t = 1 ∨ t = 2 ∨ t = 3 ∨ t = 4 ∨ t = 5 ∨ t = 6 ∨ t = 7 ∨ t = 8 ∨ t = 9 ∨ t = 10 ∨ t = 11 ∨ t = 12 ∨ t = 13 ∨ t = 14 ∨ t = 15 by omega) with rfl | rfl | rfl | rfl | rfl | rfl | rfl | rfl | rfl | rfl | rfl | rfl | rfl | rfl | rfl | rfl
      · refine lv_tableIn (off := 76) (tgt := 116) hx hb dL_law_40 (by decide) (by decide) (by decide) (by decide) ?_
        exact b_unit hF hst C hX hbl hL3 (by omega) (by omega) (by omega) (by omega) hJ hT hLJ hK I hP hD hS hl kk
      · refine lv_tableIn (off := 101) (tgt := 141) hx hb dL_law_40 (by decide) (by decide) (by decide) (by decide) ?_
        exact b_read hF hst C hX hbl hL3 (by omega) (by omega) (by omega) (by omega) hJ hT hLJ hK I hP hD hS hl kk
      · refine lv_tableIn (off := 114) (tgt := 154) hx hb dL_law_40 (by decide) (by decide) (by decide) (by decide) ?_
        exact b_thick hF hst C hX hbl hL3 (by omega) (by omega) (by omega) (by omega) hJ hT hLJ hK I hP hD hS hl kk
      · refine lv_tableIn (off := 193) (tgt := 233) hx hb dL_law_40 (by decide) (by decide) (by decide) (by decide) ?_
        exact b_kind hF hst C hX hbl hL3 (by omega) (by omega) (by omega) (by omega) hJ hT hLJ hK I hP hD hS hl kk
      · refine lv_tableIn (off := 249) (tgt := 289) hx hb dL_law_40 (by decide) (by decide) (by decide) (by decide) ?_
        exact b_via hF hst C hX hbl hL3 (by omega) (by omega) (by omega) (by omega) hJ hT hLJ hK I hP hD hS hl kk
      · refine lv_tableIn (off := 324) (tgt := 364) hx hb dL_law_40 (by decide) (by decide) (by decide) (by decide) ?_
        exact b_pressed hF hst C hX hbl hL3 (by omega) (by omega) (by omega) (by omega) hJ hT hLJ hK I hP hD hS hl kk
      · refine lv_tableIn (off := 392) (tgt := 432) hx hb dL_law_40 (by decide) (by decide) (by decide) (by decide) ?_
        exact b_skew hF hst C hX hbl hL3 (by omega) (by omega) (by omega) (by omega) hJ hT hLJ hK I hP hD hS hl kk
      · refine lv_tableIn (off := 417) (tgt := 457) hx hb dL_law_40 (by decide) (by decide) (by decide) (by decide) ?_
        exact b_copper hF hst C hX hbl hL3 (by omega) (by omega) (by omega) (by omega) hJ hT hLJ hK I hP hD hS hl kk
      · refine lv_tableIn (off := 568) (tgt := 608) hx hb dL_law_40 (by decide) (by decide) (by decide) (by decide) ?_
        exact b_list hF hst C hX hbl hL3 (by omega) (by omega) (by omega) (by omega) hJ hT hLJ hK I hP hD hS hl kk
      · refine lv_tableIn (off := 612) (tgt := 652) hx hb dL_law_40 (by decide) (by decide) (by decide) (by decide) ?_
        exact b_row hF hst C hX hbl hL3 (by omega) (by omega) (by omega) (by omega) hJ hT hLJ hK I hP hD hS hl kk
      · refine lv_tableIn (off := 777) (tgt := 817) hx hb dL_law_40 (by decide) (by decide) (by decide) (by decide) ?_
        exact b_match hF hst C hX hbl hL3 (by omega) (by omega) (by omega) (by omega) hJ hT hLJ hK I hP hD hS hl kk
      · refine lv_tableIn (off := 790) (tgt := 830) hx hb dL_law_40 (by decide) (by decide) (by decide) (by decide) ?_
        exact b_changes hF hst C hX hbl hL3 (by omega) (by omega) (by omega) (by omega) hJ hT hLJ hK I hP hD hS hl kk
      · refine lv_tableIn (off := 846) (tgt := 886) hx hb dL_law_40 (by decide) (by decide) (by decide) (by decide) ?_
        exact b_role hF hst C hX hbl hL3 (by omega) (by omega) (by omega) (by omega) hJ hT hLJ hK I hP hD hS hl kk
      · refine lv_tableIn (off := 902) (tgt := 942) hx hb dL_law_40 (by decide) (by decide) (by decide) (by decide) ?_
        exact b_sum hF hst C hX hbl hL3 (by omega) (by omega) (by omega) (by omega) hJ hT hLJ hK I hP hD hS hl kk
      · refine lv_tableIn (off := 969) (tgt := 1009) hx hb dL_law_40 (by decide) (by decide) (by decide) (by decide) ?_
        exact b_write hF hst C hX hbl hL3 (by omega) (by omega) (by omega) (by omega) hJ hT hLJ hK I hP hD hS hl kk
      · refine lv_tableOut (tgt := 1065) hx hb dL_law_40 (by decide) (by decide) ?_
        refine W.widen (k := 100 + 3 * N + 3) (n := 30000 + 18 * N + 18) (by omega) (by omega) ?_
        exact kk q x_R_ch x_R_len x_R_at x_R_ls x_R_fa x_W_ch x_W_dg x_W_len x_K_lo x_K_hi x_K_c x_B_k x_B_n x_B_h x_B_d x_B_r x_B_u x_B_y x_B_p_s_f x_B_p_s_l x_B_p_s_c x_B_p_t x_B_v_f x_B_v_l x_B_v_c x_B_L x_B_C x_B_I x_D_k x_D_n x_D_h x_D_d x_D_r x_D_u x_D_y x_D_p_s_f x_D_p_s_l x_D_p_s_c x_D_p_t x_D_v_f x_D_v_l x_D_v_c x_D_L x_D_C x_D_I M_thrown M_text M_size M_has M_hand M_layers M_kinds M_names M_nameSizes M_thicknesses M_spreads M_coppers M_copperAt M_presses M_pressFrom M_pressTo M_vias M_viaFrom M_viaTo M_shares M_lists M_hasRow M_rowLow M_rowHigh M_p M_s M_fault M_lines M_word M_wordSize M_out M_written M_secondOne a H locs ls (I_up I (Nat.le_succ N)) hP hD hS hl
