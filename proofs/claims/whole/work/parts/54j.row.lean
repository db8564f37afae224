set_option maxHeartbeats 8000000 in
set_option maxRecDepth 100000 in
theorem b_row {p : Program} {l : Launch} {e : Env} {s : State} {m : MethodId} {below : List Frame} {meth : Method} {c : Code} {D : va_G} {y : Nat → ClassId} {qm qo : Nat → Nat} {b F : Nat} {aK aV tA : Nat → Nat} {q : Nat → Nat} {L i N cells slots : Nat} {xs : Nat → Int32} {x_R_ch : Nat → Int32} {x_R_len : Int32} {x_R_at : Int32} {x_R_ls : Int32} {x_R_fa : Int32} {x_W_ch : Nat → Int32} {x_W_dg : Nat → Int32} {x_W_len : Int32} {x_K_lo : Nat → Nat → Int64} {x_K_hi : Nat → Nat → Int64} {x_K_c : Int32} {x_B_k : Nat → Int32} {x_B_n : Nat → Int64} {x_B_h : Nat → Int32} {x_B_d : Nat → Int32} {x_B_r : Nat → Int32} {x_B_u : Nat → Int32} {x_B_y : Nat → Int32} {x_B_p_s_f : Nat → Int32} {x_B_p_s_l : Nat → Int32} {x_B_p_s_c : Int32} {x_B_p_t : Int32} {x_B_v_f : Nat → Int32} {x_B_v_l : Nat → Int32} {x_B_v_c : Int32} {x_B_L : Int32} {x_B_C : Int32} {x_B_I : Int32} {x_D_k : Nat → Int32} {x_D_n : Nat → Int64} {x_D_h : Nat → Int32} {x_D_d : Nat → Int32} {x_D_r : Nat → Int32} {x_D_u : Nat → Int32} {x_D_y : Nat → Int32} {x_D_p_s_f : Nat → Int32} {x_D_p_s_l : Nat → Int32} {x_D_p_s_c : Int32} {x_D_p_t : Int32} {x_D_v_f : Nat → Int32} {x_D_v_l : Nat → Int32} {x_D_v_c : Int32} {x_D_L : Int32} {x_D_C : Int32} {x_D_I : Int32} {M_thrown : Int32} {M_text : Nat → Int32} {M_size : Int32} {M_has : Int32} {M_hand : Int32} {M_layers : Nat → Int32} {M_kinds : Nat → Int32} {M_names : Nat → Int64} {M_nameSizes : Nat → Int32} {M_thicknesses : Nat → Int64} {M_spreads : Nat → Int32} {M_coppers : Nat → Int32} {M_copperAt : Nat → Int32} {M_presses : Nat → Int32} {M_pressFrom : Nat → Int32} {M_pressTo : Nat → Int32} {M_vias : Nat → Int32} {M_viaFrom : Nat → Int32} {M_viaTo : Nat → Int32} {M_shares : Nat → Int32} {M_lists : Int32} {M_hasRow : Nat → Int32} {M_rowLow : Nat → Int64} {M_rowHigh : Nat → Int64} {M_p : Int32} {M_s : Int32} {M_fault : Int32} {M_lines : Int32} {M_word : Int64} {M_wordSize : Int32} {M_out : Nat → Int32} {M_written : Int32} {M_secondOne : Int32} {a : Nat → Int64} {H : Heap} {locs : List Loc} {ls : Array Slot} (hF : 4000 ≤ F) (hst : l.stackTraces = false) (C : CX p s m #[Value.ref b] meth c wsL_law RL cL_law 8 ret) (hX : va_X b L xs s s.heap) (hbl : b < s.heap.size) (hL3 : L ≤ 3584) (hi : i + 6 < L) (hN : N < 512) (hcl : cells + 3 ≤ 601024) (hsl : slots + 18 ≤ 7293034) (hJ : SJ aK aV (fun q : Nat => s.heap.size ≤ q) s s.heap) (hT : TJ tA (fun q : Nat => s.heap.size ≤ q) s s.heap) (hLJ : LJ s) (hK : va_K D vwCl (tyl y) s) (I : INV F N x_R_ch x_R_len x_W_ch x_W_len x_K_lo x_K_hi x_K_c x_B_k x_B_n x_B_h x_B_d x_B_r x_B_u x_B_y x_B_p_s_f x_B_p_s_l x_B_p_s_c x_B_v_f x_B_v_l x_B_v_c x_B_L x_B_C M_text M_size M_has M_hand M_layers M_kinds M_names M_nameSizes M_thicknesses M_spreads M_coppers M_copperAt M_presses M_pressFrom M_pressTo M_vias M_viaFrom M_viaTo M_shares M_lists M_hasRow M_rowLow M_rowHigh) (hP : va_P D vwCl ((wdX6 q (q 25) (q 40) y x_R_ch x_R_len x_R_at x_R_ls x_R_fa x_W_ch x_W_dg x_W_len x_K_lo x_K_hi x_K_c x_B_k x_B_n x_B_h x_B_d x_B_r x_B_u x_B_y x_B_p_s_f x_B_p_s_l x_B_p_s_c x_B_p_t x_B_v_f x_B_v_l x_B_v_c x_B_L x_B_C x_B_I x_D_k x_D_n x_D_h x_D_d x_D_r x_D_u x_D_y x_D_p_s_f x_D_p_s_l x_D_p_s_c x_D_p_t x_D_v_f x_D_v_l x_D_v_c x_D_L x_D_C x_D_I) ++ ((wdX7 qm y M_thrown M_text M_size M_has M_hand M_layers M_kinds M_names M_nameSizes M_thicknesses M_spreads M_coppers M_copperAt M_presses M_pressFrom M_pressTo M_vias M_viaFrom M_viaTo M_shares M_lists M_hasRow M_rowLow M_rowHigh M_p M_s M_fault M_lines M_word M_wordSize M_out M_written M_secondOne) ++ (wdAJ qo y 1 a))) H) (hD : va_D (fun q : Nat => s.heap.size ≤ q) ((wdX6 q (q 25) (q 40) y x_R_ch x_R_len x_R_at x_R_ls x_R_fa x_W_ch x_W_dg x_W_len x_K_lo x_K_hi x_K_c x_B_k x_B_n x_B_h x_B_d x_B_r x_B_u x_B_y x_B_p_s_f x_B_p_s_l x_B_p_s_c x_B_p_t x_B_v_f x_B_v_l x_B_v_c x_B_L x_B_C x_B_I x_D_k x_D_n x_D_h x_D_d x_D_r x_D_u x_D_y x_D_p_s_f x_D_p_s_l x_D_p_s_c x_D_p_t x_D_v_f x_D_v_l x_D_v_c x_D_L x_D_C x_D_I) ++ ((wdX7 qm y M_thrown M_text M_size M_has M_hand M_layers M_kinds M_names M_nameSizes M_thicknesses M_spreads M_coppers M_copperAt M_presses M_pressFrom M_pressTo M_vias M_viaFrom M_viaTo M_shares M_lists M_hasRow M_rowLow M_rowHigh M_p M_s M_fault M_lines M_word M_wordSize M_out M_written M_secondOne) ++ (wdAJ qo y 1 a)))) (hS : va_S (fun q : Nat => s.heap.size ≤ q) s.heap H locs) (hl : lv_has ls 8 [(0, .ref b), (1, .ref (q 0)), (2, .ref (qm 0)), (3, .ref (qo 0)), (4, .int (nI i))]) (kk : LK p l e s m below meth c D y qm qo b F i (N + 1) (cells + 3) (slots + 18)) : W p l e room_1 s m #[Value.ref b] below meth c H locs cells slots (lw_Z below #[Value.ref b] s) (F0 m 652 ls []) := by
  obtain ⟨⟨hx, hb, hml, hown, hts⟩, hr, hlocks⟩ := id C
  have hA : ∀ q : Nat, s.heap.size ≤ q → (fun q : Nat => s.heap.size ≤ q) q := fun _ h => h
  have hbA : ¬ (fun q : Nat => s.heap.size ≤ q) b := Nat.not_le.mpr hbl
  refine lv_aload_n hx hb dL_law_652 rfl (lv_at hl 1 rfl) ?_
  refine lv_aload_n hx hb dL_law_653 rfl (lv_at hl 0 rfl) ?_
  refine lv_iload hx hb dL_law_654 (lv_at hl 4 rfl) ?_
  refine lv_iconst (v := (1 : Int32)) hx hb dL_law_656 (by decide) ?_
  refine lv_iadd hx hb dL_law_657 ?_
  refine lv_topi (fun j1 ej1 => ?_)
  refine va_sld hx hb hX hbl hbA hS (vin (k := 1) ej1 (by omega) hL3) dL_law_658 ?_
  refine lv_topi (fun v1 ev1 => ?_)
  refine lv_aload_n hx hb dL_law_659 rfl (lv_at hl 0 rfl) ?_
  refine lv_iload hx hb dL_law_660 (lv_at hl 4 rfl) ?_
  refine lv_iconst (v := (2 : Int32)) hx hb dL_law_662 (by decide) ?_
  refine lv_iadd hx hb dL_law_663 ?_
  refine lv_topi (fun j2 ej2 => ?_)
  refine va_sld hx hb hX hbl hbA hS (vin (k := 2) ej2 (by omega) hL3) dL_law_664 ?_
  refine lv_topi (fun v2 ev2 => ?_)
  refine lv_aload_n hx hb dL_law_665 rfl (lv_at hl 0 rfl) ?_
  refine lv_iload hx hb dL_law_666 (lv_at hl 4 rfl) ?_
  refine lv_iconst (v := (3 : Int32)) hx hb dL_law_668 (by decide) ?_
  refine lv_iadd hx hb dL_law_669 ?_
  refine lv_topi (fun j3 ej3 => ?_)
  refine va_sld hx hb hX hbl hbA hS (vin (k := 3) ej3 (by omega) hL3) dL_law_670 ?_
  refine lv_topi (fun v3 ev3 => ?_)
  refine lv_i2l (v := (v3).toInt64) hx hb dL_law_671 rfl ?_
  refine lv_bipush (v := (32 : Int32)) hx hb dL_law_672 (by decide) ?_
  refine lv_lshl (v := ((v3).toInt64 <<< (((32 : Int32)).toInt64 &&& 63))) hx hb dL_law_674 rfl ?_
  refine lv_aload_n hx hb dL_law_675 rfl (lv_at hl 0 rfl) ?_
  refine lv_iload hx hb dL_law_676 (lv_at hl 4 rfl) ?_
  refine lv_iconst (v := (4 : Int32)) hx hb dL_law_678 (by decide) ?_
  refine lv_iadd hx hb dL_law_679 ?_
  refine lv_topi (fun j4 ej4 => ?_)
  refine va_sld hx hb hX hbl hbA hS (vin (k := 4) ej4 (by omega) hL3) dL_law_680 ?_
  refine lv_topi (fun v4 ev4 => ?_)
  refine lv_i2l (v := (v4).toInt64) hx hb dL_law_681 rfl ?_
  refine lv_ldc2 (v := (4294967295 : Int64)) hx hb hown (hts _ w_L_law_k93) dL_law_682 ?_
  refine lv_land hx hb dL_law_685 ?_
  refine lv_lor hx hb dL_law_686 ?_
  refine lv_topl (fun w34 ew34 => ?_)
  refine lv_aload_n hx hb dL_law_687 rfl (lv_at hl 0 rfl) ?_
  refine lv_iload hx hb dL_law_688 (lv_at hl 4 rfl) ?_
  refine lv_iconst (v := (5 : Int32)) hx hb dL_law_690 (by decide) ?_
  refine lv_iadd hx hb dL_law_691 ?_
  refine lv_topi (fun j5 ej5 => ?_)
  refine va_sld hx hb hX hbl hbA hS (vin (k := 5) ej5 (by omega) hL3) dL_law_692 ?_
  refine lv_topi (fun v5 ev5 => ?_)
  refine lv_i2l (v := (v5).toInt64) hx hb dL_law_693 rfl ?_
  refine lv_bipush (v := (32 : Int32)) hx hb dL_law_694 (by decide) ?_
  refine lv_lshl (v := ((v5).toInt64 <<< (((32 : Int32)).toInt64 &&& 63))) hx hb dL_law_696 rfl ?_
  refine lv_aload_n hx hb dL_law_697 rfl (lv_at hl 0 rfl) ?_
  refine lv_iload hx hb dL_law_698 (lv_at hl 4 rfl) ?_
  refine lv_bipush (v := (6 : Int32)) hx hb dL_law_700 (by decide) ?_
  refine lv_iadd hx hb dL_law_702 ?_
  refine lv_topi (fun j6 ej6 => ?_)
  refine va_sld hx hb hX hbl hbA hS (vin (k := 6) ej6 (by omega) hL3) dL_law_703 ?_
  refine lv_topi (fun v6 ev6 => ?_)
  refine lv_i2l (v := (v6).toInt64) hx hb dL_law_704 rfl ?_
  refine lv_ldc2 (v := (4294967295 : Int64)) hx hb hown (hts _ w_L_law_k93) dL_law_705 ?_
  refine lv_land hx hb dL_law_708 ?_
  refine lv_lor hx hb dL_law_709 ?_
  refine lv_topl (fun w56 ew56 => ?_)
  obtain ⟨k, b0, a', lo', hi', mh', mlo', mhi', e1, e2, e3, I'⟩ := s_row hF I v1 v2 M_thrown w34 w56 a
  refine lv_aload_n hx hb dL_law_710 rfl (lv_at hl 3 rfl) ?_
  refine callS_i (wc := (wdX6 q (q 25) (q 40) y x_R_ch x_R_len x_R_at x_R_ls x_R_fa x_W_ch x_W_dg x_W_len x_K_lo x_K_hi x_K_c x_B_k x_B_n x_B_h x_B_d x_B_r x_B_u x_B_y x_B_p_s_f x_B_p_s_l x_B_p_s_c x_B_p_t x_B_v_f x_B_v_l x_B_v_c x_B_L x_B_C x_B_I x_D_k x_D_n x_D_h x_D_d x_D_r x_D_u x_D_y x_D_p_s_f x_D_p_s_l x_D_p_s_c x_D_p_t x_D_v_f x_D_v_l x_D_v_c x_D_L x_D_C x_D_I) ++ (wdAJ qo y 1 a)) (wr := (wdX7 qm y M_thrown M_text M_size M_has M_hand M_layers M_kinds M_names M_nameSizes M_thicknesses M_spreads M_coppers M_copperAt M_presses M_pressFrom M_pressTo M_vias M_viaFrom M_viaTo M_shares M_lists M_hasRow M_rowLow M_rowHigh M_p M_s M_fault M_lines M_word M_wordSize M_out M_written M_secondOne)) (As := [.ref (q 0), .int v1, .int v2, .long w34, .long w56, .ref (qo 0)]) (rest := []) C.1 (c_L_row l D y aK aV tA q qo _ F hst e1) (vx_cwSW 6 hts gL_law_L_row rfl rfl rfl (by decide +kernel) ⟨Nat.le_of_ble_eq_true rfl, Nat.le_of_ble_eq_true rfl⟩) hJ hT hLJ hK hP hD hS hA [0, 1, 2, 3, 4, 5, 6, 7, 8, 9, 10, 11, 12, 13, 14, 15, 16, 17, 18, 19, 20, 21, 22, 23, 24, 25, 26, 27, 28, 29, 30, 31, 32, 33, 34, 35, 36, 37, 38, 39, 40, 41, 42, 43, 44, 45, 46, 47, 48, 49, 50, 51, 52, 53, 54, 76] [55, 56, 57, 58, 59, 60, 61, 62, 63, 64, 65, 66, 67, 68, 69, 70, 71, 72, 73, 74, 75] rfl rfl rfl rfl rfl (by decide) rfl hl.1 (Nat.le_of_ble_eq_true rfl) dL_law_711 ⟨(show cells + 3 ≤ 601024 by omega), (show slots + 18 ≤ 7293034 by omega)⟩ (fun H locs hP hD hS => ?_)
  refine W.widen (k := cells + 3) (n := slots + 18) (by omega) (by omega) ?_
  have hP : va_P D vwCl ((wdX6 q (q 25) (q 40) y x_R_ch x_R_len x_R_at x_R_ls x_R_fa x_W_ch x_W_dg x_W_len lo' hi' x_K_c x_B_k x_B_n x_B_h x_B_d x_B_r x_B_u x_B_y x_B_p_s_f x_B_p_s_l x_B_p_s_c x_B_p_t x_B_v_f x_B_v_l x_B_v_c x_B_L x_B_C x_B_I x_D_k x_D_n x_D_h x_D_d x_D_r x_D_u x_D_y x_D_p_s_f x_D_p_s_l x_D_p_s_c x_D_p_t x_D_v_f x_D_v_l x_D_v_c x_D_L x_D_C x_D_I) ++ ((wdX7 qm y M_thrown M_text M_size M_has M_hand M_layers M_kinds M_names M_nameSizes M_thicknesses M_spreads M_coppers M_copperAt M_presses M_pressFrom M_pressTo M_vias M_viaFrom M_viaTo M_shares M_lists M_hasRow M_rowLow M_rowHigh M_p M_s M_fault M_lines M_word M_wordSize M_out M_written M_secondOne) ++ (wdAJ qo y 1 a'))) H := hP.sub [21, 22, 23, 24, 25, 26, 27, 28, 29, 30, 31, 32, 33, 34, 35, 36, 37, 38, 39, 40, 41, 42, 43, 44, 45, 46, 47, 48, 49, 50, 51, 52, 53, 54, 55, 56, 57, 58, 59, 60, 61, 62, 63, 64, 65, 66, 67, 68, 69, 70, 71, 72, 73, 74, 75, 0, 1, 2, 3, 4, 5, 6, 7, 8, 9, 10, 11, 12, 13, 14, 15, 16, 17, 18, 19, 20, 76] rfl
  have hD : va_D (fun q : Nat => s.heap.size ≤ q) ((wdX6 q (q 25) (q 40) y x_R_ch x_R_len x_R_at x_R_ls x_R_fa x_W_ch x_W_dg x_W_len lo' hi' x_K_c x_B_k x_B_n x_B_h x_B_d x_B_r x_B_u x_B_y x_B_p_s_f x_B_p_s_l x_B_p_s_c x_B_p_t x_B_v_f x_B_v_l x_B_v_c x_B_L x_B_C x_B_I x_D_k x_D_n x_D_h x_D_d x_D_r x_D_u x_D_y x_D_p_s_f x_D_p_s_l x_D_p_s_c x_D_p_t x_D_v_f x_D_v_l x_D_v_c x_D_L x_D_C x_D_I) ++ ((wdX7 qm y M_thrown M_text M_size M_has M_hand M_layers M_kinds M_names M_nameSizes M_thicknesses M_spreads M_coppers M_copperAt M_presses M_pressFrom M_pressTo M_vias M_viaFrom M_viaTo M_shares M_lists M_hasRow M_rowLow M_rowHigh M_p M_s M_fault M_lines M_word M_wordSize M_out M_written M_secondOne) ++ (wdAJ qo y 1 a'))) := hD.sub [21, 22, 23, 24, 25, 26, 27, 28, 29, 30, 31, 32, 33, 34, 35, 36, 37, 38, 39, 40, 41, 42, 43, 44, 45, 46, 47, 48, 49, 50, 51, 52, 53, 54, 55, 56, 57, 58, 59, 60, 61, 62, 63, 64, 65, 66, 67, 68, 69, 70, 71, 72, 73, 74, 75, 0, 1, 2, 3, 4, 5, 6, 7, 8, 9, 10, 11, 12, 13, 14, 15, 16, 17, 18, 19, 20, 76] (by decide) rfl
  refine W.eq (g2 := F0 m 714 ls [.int k]) rfl ?_
  refine lv_istore (lv' := [(5, .int k), (0, .ref b), (1, .ref (q 0)), (2, .ref (qm 0)), (3, .ref (qo 0)), (4, .int (nI i))]) hx hb dL_law_714 hl (by decide) rfl (fun ls hl => ?_)
  refine lv_aload_n hx hb dL_law_716 rfl (lv_at hl 3 rfl) ?_
  refine lv_aload_n hx hb dL_law_717 rfl (lv_at hl 1 rfl) ?_
  refine lv_iload hx hb dL_law_718 (lv_at hl 5 rfl) ?_
  refine lv_iconst (v := (1 : Int32)) hx hb dL_law_720 (by decide) ?_
  refine lv_iadd hx hb dL_law_721 ?_
  refine lv_topi (fun j9 ej9 => ?_)
  obtain rfl : j1 = j9 := ej1.trans ej9.symm
  refine va_sld hx hb hX hbl hbA hS (vin (k := 1) ej1 (by omega) hL3) dL_law_722 ?_
  refine lv_topi (fun v9 ev9 => ?_)
  obtain rfl : v1 = v9 := ev1.trans ev9.symm
  refine lv_aload_n hx hb dL_law_723 rfl (lv_at hl 1 rfl) ?_
  refine lv_iload hx hb dL_law_724 (lv_at hl 5 rfl) ?_
  refine lv_iconst (v := (2 : Int32)) hx hb dL_law_726 (by decide) ?_
  refine lv_iadd hx hb dL_law_727 ?_
  refine lv_topi (fun j9 ej9 => ?_)
  obtain rfl : j2 = j9 := ej2.trans ej9.symm
  refine va_sld hx hb hX hbl hbA hS (vin (k := 2) ej2 (by omega) hL3) dL_law_728 ?_
  refine lv_topi (fun v9 ev9 => ?_)
  obtain rfl : v2 = v9 := ev2.trans ev9.symm
  refine lv_aload_n hx hb dL_law_729 rfl (lv_at hl 1 rfl) ?_
  refine lv_iload hx hb dL_law_730 (lv_at hl 5 rfl) ?_
  refine lv_iconst (v := (3 : Int32)) hx hb dL_law_732 (by decide) ?_
  refine lv_iadd hx hb dL_law_733 ?_
  refine lv_topi (fun j9 ej9 => ?_)
  obtain rfl : j3 = j9 := ej3.trans ej9.symm
  refine va_sld hx hb hX hbl hbA hS (vin (k := 3) ej3 (by omega) hL3) dL_law_734 ?_
  refine lv_topi (fun v9 ev9 => ?_)
  obtain rfl : v3 = v9 := ev3.trans ev9.symm
  refine lv_i2l (v := (v3).toInt64) hx hb dL_law_735 rfl ?_
  refine lv_bipush (v := (32 : Int32)) hx hb dL_law_736 (by decide) ?_
  refine lv_lshl (v := ((v3).toInt64 <<< (((32 : Int32)).toInt64 &&& 63))) hx hb dL_law_738 rfl ?_
  refine lv_aload_n hx hb dL_law_739 rfl (lv_at hl 1 rfl) ?_
  refine lv_iload hx hb dL_law_740 (lv_at hl 5 rfl) ?_
  refine lv_iconst (v := (4 : Int32)) hx hb dL_law_742 (by decide) ?_
  refine lv_iadd hx hb dL_law_743 ?_
  refine lv_topi (fun j9 ej9 => ?_)
  obtain rfl : j4 = j9 := ej4.trans ej9.symm
  refine va_sld hx hb hX hbl hbA hS (vin (k := 4) ej4 (by omega) hL3) dL_law_744 ?_
  refine lv_topi (fun v9 ev9 => ?_)
  obtain rfl : v4 = v9 := ev4.trans ev9.symm
  refine lv_i2l (v := (v4).toInt64) hx hb dL_law_745 rfl ?_
  refine lv_ldc2 (v := (4294967295 : Int64)) hx hb hown (hts _ w_L_law_k93) dL_law_746 ?_
  refine lv_land hx hb dL_law_749 ?_
  refine lv_lor hx hb dL_law_750 ?_
  refine lv_topl (fun w9 ew9 => ?_)
  obtain rfl : w34 = w9 := ew34.trans ew9.symm
  refine lv_aload_n hx hb dL_law_751 rfl (lv_at hl 1 rfl) ?_
  refine lv_iload hx hb dL_law_752 (lv_at hl 5 rfl) ?_
  refine lv_iconst (v := (5 : Int32)) hx hb dL_law_754 (by decide) ?_
  refine lv_iadd hx hb dL_law_755 ?_
  refine lv_topi (fun j9 ej9 => ?_)
  obtain rfl : j5 = j9 := ej5.trans ej9.symm
  refine va_sld hx hb hX hbl hbA hS (vin (k := 5) ej5 (by omega) hL3) dL_law_756 ?_
  refine lv_topi (fun v9 ev9 => ?_)
  obtain rfl : v5 = v9 := ev5.trans ev9.symm
  refine lv_i2l (v := (v5).toInt64) hx hb dL_law_757 rfl ?_
  refine lv_bipush (v := (32 : Int32)) hx hb dL_law_758 (by decide) ?_
  refine lv_lshl (v := ((v5).toInt64 <<< (((32 : Int32)).toInt64 &&& 63))) hx hb dL_law_760 rfl ?_
  refine lv_aload_n hx hb dL_law_761 rfl (lv_at hl 1 rfl) ?_
  refine lv_iload hx hb dL_law_762 (lv_at hl 5 rfl) ?_
  refine lv_bipush (v := (6 : Int32)) hx hb dL_law_764 (by decide) ?_
  refine lv_iadd hx hb dL_law_766 ?_
  refine lv_topi (fun j9 ej9 => ?_)
  obtain rfl : j6 = j9 := ej6.trans ej9.symm
  refine va_sld hx hb hX hbl hbA hS (vin (k := 6) ej6 (by omega) hL3) dL_law_767 ?_
  refine lv_topi (fun v9 ev9 => ?_)
  obtain rfl : v6 = v9 := ev6.trans ev9.symm
  refine lv_i2l (v := (v6).toInt64) hx hb dL_law_768 rfl ?_
  refine lv_ldc2 (v := (4294967295 : Int64)) hx hb hown (hts _ w_L_law_k93) dL_law_769 ?_
  refine lv_land hx hb dL_law_772 ?_
  refine lv_lor hx hb dL_law_773 ?_
  refine lv_topl (fun w9 ew9 => ?_)
  obtain rfl : w56 = w9 := ew56.trans ew9.symm
  refine callXP_vi (wc := (wdX7 qm y M_thrown M_text M_size M_has M_hand M_layers M_kinds M_names M_nameSizes M_thicknesses M_spreads M_coppers M_copperAt M_presses M_pressFrom M_pressTo M_vias M_viaFrom M_viaTo M_shares M_lists M_hasRow M_rowLow M_rowHigh M_p M_s M_fault M_lines M_word M_wordSize M_out M_written M_secondOne)) (wr := (wdX6 q (q 25) (q 40) y x_R_ch x_R_len x_R_at x_R_ls x_R_fa x_W_ch x_W_dg x_W_len lo' hi' x_K_c x_B_k x_B_n x_B_h x_B_d x_B_r x_B_u x_B_y x_B_p_s_f x_B_p_s_l x_B_p_s_c x_B_p_t x_B_v_f x_B_v_l x_B_v_c x_B_L x_B_C x_B_I x_D_k x_D_n x_D_h x_D_d x_D_r x_D_u x_D_y x_D_p_s_f x_D_p_s_l x_D_p_s_c x_D_p_t x_D_v_f x_D_v_l x_D_v_c x_D_L x_D_C x_D_I) ++ (wdAJ qo y 1 a')) (As := [.int v1, .int v2, .long w34, .long w56]) (rest := []) C (c_X7_row l D y qm _ F e2) (cwV 4 hts gL_law_X7_row rfl rfl rfl (by decide +kernel) ⟨Nat.le_of_ble_eq_true rfl, Nat.le_of_ble_eq_true rfl⟩) hK hP hD hS hA [55, 56, 57, 58, 59, 60, 61, 62, 63, 64, 65, 66, 67, 68, 69, 70, 71, 72, 73, 74, 75] [0, 1, 2, 3, 4, 5, 6, 7, 8, 9, 10, 11, 12, 13, 14, 15, 16, 17, 18, 19, 20, 21, 22, 23, 24, 25, 26, 27, 28, 29, 30, 31, 32, 33, 34, 35, 36, 37, 38, 39, 40, 41, 42, 43, 44, 45, 46, 47, 48, 49, 50, 51, 52, 53, 54, 76] rfl rfl rfl rfl rfl (by decide) (va_recv hK hP (ci := 7) (q0 := 55) rfl rfl) rfl hl.1 (Nat.le_of_ble_eq_true rfl) dL_law_774 ⟨(show cells + 3 + 0 ≤ 601024 by omega), (show slots + 18 + 0 ≤ 7293034 by omega)⟩ (fun H locs hP hD hS => ?_)
  have hP : va_P D vwCl ((wdX6 q (q 25) (q 40) y x_R_ch x_R_len x_R_at x_R_ls x_R_fa x_W_ch x_W_dg x_W_len lo' hi' x_K_c x_B_k x_B_n x_B_h x_B_d x_B_r x_B_u x_B_y x_B_p_s_f x_B_p_s_l x_B_p_s_c x_B_p_t x_B_v_f x_B_v_l x_B_v_c x_B_L x_B_C x_B_I x_D_k x_D_n x_D_h x_D_d x_D_r x_D_u x_D_y x_D_p_s_f x_D_p_s_l x_D_p_s_c x_D_p_t x_D_v_f x_D_v_l x_D_v_c x_D_L x_D_C x_D_I) ++ ((wdX7 qm y k M_text M_size M_has M_hand M_layers M_kinds M_names M_nameSizes M_thicknesses M_spreads M_coppers M_copperAt M_presses M_pressFrom M_pressTo M_vias M_viaFrom M_viaTo M_shares M_lists mh' mlo' mhi' M_p M_s M_fault M_lines M_word M_wordSize M_out M_written M_secondOne) ++ (wdAJ qo y 1 a'))) H := hP.sub [0, 1, 2, 3, 4, 5, 6, 7, 8, 9, 10, 11, 12, 13, 14, 15, 16, 17, 18, 19, 20, 21, 22, 23, 24, 25, 26, 27, 28, 29, 30, 31, 32, 33, 34, 35, 36, 37, 38, 39, 40, 41, 42, 43, 44, 45, 46, 47, 48, 49, 50, 51, 52, 53, 54, 56, 57, 58, 59, 60, 61, 62, 63, 64, 65, 66, 67, 68, 69, 70, 71, 72, 73, 74, 75, 76, 55] rfl
  have hD : va_D (fun q : Nat => s.heap.size ≤ q) ((wdX6 q (q 25) (q 40) y x_R_ch x_R_len x_R_at x_R_ls x_R_fa x_W_ch x_W_dg x_W_len lo' hi' x_K_c x_B_k x_B_n x_B_h x_B_d x_B_r x_B_u x_B_y x_B_p_s_f x_B_p_s_l x_B_p_s_c x_B_p_t x_B_v_f x_B_v_l x_B_v_c x_B_L x_B_C x_B_I x_D_k x_D_n x_D_h x_D_d x_D_r x_D_u x_D_y x_D_p_s_f x_D_p_s_l x_D_p_s_c x_D_p_t x_D_v_f x_D_v_l x_D_v_c x_D_L x_D_C x_D_I) ++ ((wdX7 qm y k M_text M_size M_has M_hand M_layers M_kinds M_names M_nameSizes M_thicknesses M_spreads M_coppers M_copperAt M_presses M_pressFrom M_pressTo M_vias M_viaFrom M_viaTo M_shares M_lists mh' mlo' mhi' M_p M_s M_fault M_lines M_word M_wordSize M_out M_written M_secondOne) ++ (wdAJ qo y 1 a'))) := hD.sub [0, 1, 2, 3, 4, 5, 6, 7, 8, 9, 10, 11, 12, 13, 14, 15, 16, 17, 18, 19, 20, 21, 22, 23, 24, 25, 26, 27, 28, 29, 30, 31, 32, 33, 34, 35, 36, 37, 38, 39, 40, 41, 42, 43, 44, 45, 46, 47, 48, 49, 50, 51, 52, 53, 54, 56, 57, 58, 59, 60, 61, 62, 63, 64, 65, 66, 67, 68, 69, 70, 71, 72, 73, 74, 75, 76, 55] (by decide) rfl
  refine W.eq (g2 := F0 m 777 ls [.int b0]) rfl ?_
  refine lv_istore (lv' := [(6, .int b0), (5, .int k), (0, .ref b), (1, .ref (q 0)), (2, .ref (qm 0)), (3, .ref (qo 0)), (4, .int (nI i))]) hx hb dL_law_777 hl (by decide) rfl (fun ls hl => ?_)
  refine lv_aload_n hx hb dL_law_779 rfl (lv_at hl 4 rfl) ?_
  refine callXP_vi (wc := (wdX7 qm y k M_text M_size M_has M_hand M_layers M_kinds M_names M_nameSizes M_thicknesses M_spreads M_coppers M_copperAt M_presses M_pressFrom M_pressTo M_vias M_viaFrom M_viaTo M_shares M_lists mh' mlo' mhi' M_p M_s M_fault M_lines M_word M_wordSize M_out M_written M_secondOne)) (wr := (wdX6 q (q 25) (q 40) y x_R_ch x_R_len x_R_at x_R_ls x_R_fa x_W_ch x_W_dg x_W_len lo' hi' x_K_c x_B_k x_B_n x_B_h x_B_d x_B_r x_B_u x_B_y x_B_p_s_f x_B_p_s_l x_B_p_s_c x_B_p_t x_B_v_f x_B_v_l x_B_v_c x_B_L x_B_C x_B_I x_D_k x_D_n x_D_h x_D_d x_D_r x_D_u x_D_y x_D_p_s_f x_D_p_s_l x_D_p_s_c x_D_p_t x_D_v_f x_D_v_l x_D_v_c x_D_L x_D_C x_D_I) ++ (wdAJ qo y 1 a')) (As := []) (rest := []) C (c_X7_thrown l D y qm _ F rfl) (cwV 0 hts gL_law_X7_thrown rfl rfl rfl (by decide +kernel) ⟨Nat.le_of_ble_eq_true rfl, Nat.le_of_ble_eq_true rfl⟩) hK hP hD hS hA [55, 56, 57, 58, 59, 60, 61, 62, 63, 64, 65, 66, 67, 68, 69, 70, 71, 72, 73, 74, 75] [0, 1, 2, 3, 4, 5, 6, 7, 8, 9, 10, 11, 12, 13, 14, 15, 16, 17, 18, 19, 20, 21, 22, 23, 24, 25, 26, 27, 28, 29, 30, 31, 32, 33, 34, 35, 36, 37, 38, 39, 40, 41, 42, 43, 44, 45, 46, 47, 48, 49, 50, 51, 52, 53, 54, 76] rfl rfl rfl rfl rfl (by decide) (va_recv hK hP (ci := 7) (q0 := 55) rfl rfl) rfl hl.1 (Nat.le_of_ble_eq_true rfl) dL_law_780 ⟨(show cells + 3 + 0 ≤ 601024 by omega), (show slots + 18 + 0 ≤ 7293034 by omega)⟩ (fun H locs hP hD hS => ?_)
  have hP : va_P D vwCl ((wdX6 q (q 25) (q 40) y x_R_ch x_R_len x_R_at x_R_ls x_R_fa x_W_ch x_W_dg x_W_len lo' hi' x_K_c x_B_k x_B_n x_B_h x_B_d x_B_r x_B_u x_B_y x_B_p_s_f x_B_p_s_l x_B_p_s_c x_B_p_t x_B_v_f x_B_v_l x_B_v_c x_B_L x_B_C x_B_I x_D_k x_D_n x_D_h x_D_d x_D_r x_D_u x_D_y x_D_p_s_f x_D_p_s_l x_D_p_s_c x_D_p_t x_D_v_f x_D_v_l x_D_v_c x_D_L x_D_C x_D_I) ++ ((wdX7 qm y k M_text M_size M_has M_hand M_layers M_kinds M_names M_nameSizes M_thicknesses M_spreads M_coppers M_copperAt M_presses M_pressFrom M_pressTo M_vias M_viaFrom M_viaTo M_shares M_lists mh' mlo' mhi' M_p M_s M_fault M_lines M_word M_wordSize M_out M_written M_secondOne) ++ (wdAJ qo y 1 a'))) H := hP.sub [0, 1, 2, 3, 4, 5, 6, 7, 8, 9, 10, 11, 12, 13, 14, 15, 16, 17, 18, 19, 20, 21, 22, 23, 24, 25, 26, 27, 28, 29, 30, 31, 32, 33, 34, 35, 36, 37, 38, 39, 40, 41, 42, 43, 44, 45, 46, 47, 48, 49, 50, 51, 52, 53, 54, 56, 57, 58, 59, 60, 61, 62, 63, 64, 65, 66, 67, 68, 69, 70, 71, 72, 73, 74, 75, 76, 55] rfl
  have hD : va_D (fun q : Nat => s.heap.size ≤ q) ((wdX6 q (q 25) (q 40) y x_R_ch x_R_len x_R_at x_R_ls x_R_fa x_W_ch x_W_dg x_W_len lo' hi' x_K_c x_B_k x_B_n x_B_h x_B_d x_B_r x_B_u x_B_y x_B_p_s_f x_B_p_s_l x_B_p_s_c x_B_p_t x_B_v_f x_B_v_l x_B_v_c x_B_L x_B_C x_B_I x_D_k x_D_n x_D_h x_D_d x_D_r x_D_u x_D_y x_D_p_s_f x_D_p_s_l x_D_p_s_c x_D_p_t x_D_v_f x_D_v_l x_D_v_c x_D_L x_D_C x_D_I) ++ ((wdX7 qm y k M_text M_size M_has M_hand M_layers M_kinds M_names M_nameSizes M_thicknesses M_spreads M_coppers M_copperAt M_presses M_pressFrom M_pressTo M_vias M_viaFrom M_viaTo M_shares M_lists mh' mlo' mhi' M_p M_s M_fault M_lines M_word M_wordSize M_out M_written M_secondOne) ++ (wdAJ qo y 1 a'))) := hD.sub [0, 1, 2, 3, 4, 5, 6, 7, 8, 9, 10, 11, 12, 13, 14, 15, 16, 17, 18, 19, 20, 21, 22, 23, 24, 25, 26, 27, 28, 29, 30, 31, 32, 33, 34, 35, 36, 37, 38, 39, 40, 41, 42, 43, 44, 45, 46, 47, 48, 49, 50, 51, 52, 53, 54, 56, 57, 58, 59, 60, 61, 62, 63, 64, 65, 66, 67, 68, 69, 70, 71, 72, 73, 74, 75, 76, 55] (by decide) rfl
  refine W.eq (g2 := F0 m 783 ls [.int k]) rfl ?_
  refine lv_iload hx hb dL_law_783 (lv_at hl 1 rfl) ?_
  refine lv_icmp_eq (tgt := 790) hx hb dL_law_785 (by decide) (fun h9 => ?_) (fun h9 => absurd rfl h9)
  refine lv_iload hx hb dL_law_790 (lv_at hl 1 rfl) ?_
  refine lv_if_ne (tgt := 814) hx hb dL_law_792 (by decide) (fun h9 => ?_) (fun h9 => ?_)
  · skip
    refine lv_goto (tgt := 1065) hx hb dL_law_814 (by decide) ?_
    exact kk q _ _ _ _ _ _ _ _ _ _ _ _ _ _ _ _ _ _ _ _ _ _ _ _ _ _ _ _ _ _ _ _ _ _ _ _ _ _ _ _ _ _ _ _ _ _ _ _ _ _ _ _ _ _ _ _ _ _ _ _ _ _ _ _ _ _ _ _ _ _ _ _ _ _ _ _ _ _ _ _ _ _ (I_up I' (Nat.le_succ N)) hP hD hS (lv_sub hl [2, 3, 4, 5, 6] rfl)
  · skip
    have h8 : k = 0 := h9
    refine lv_aload_n hx hb dL_law_795 rfl (lv_at hl 5 rfl) ?_
    refine lv_iconst (v := (0 : Int32)) hx hb dL_law_796 (by decide) ?_
    refine va_lald hx hb hK hP 76 1 rfl rfl in01p dL_law_797 ?_
    refine lv_iload hx hb dL_law_798 (lv_at hl 0 rfl) ?_
    refine lv_if_eq (tgt := 807) hx hb dL_law_800 (by decide) (fun h6 => ?_) (fun h6 => ?_)
    · skip
      refine lv_lconst (v := (0 : Int64)) hx hb dL_law_807 (by decide) ?_
      have h5 : a' 0 = 0 := (e3 h8).elim (fun z => z.2) (fun z => absurd (h6.symm.trans z.1) (by decide))
      refine W.lcmp hx hb dL_law_808 ?_
      refine lv_if_eq (tgt := 814) hx hb dL_law_809 (by decide) (fun h7 => ?_) (fun h7 => absurd ((lg_cmp_eq _ _).mpr h5) h7)
      refine lv_goto (tgt := 1065) hx hb dL_law_814 (by decide) ?_
      exact kk q _ _ _ _ _ _ _ _ _ _ _ _ _ _ _ _ _ _ _ _ _ _ _ _ _ _ _ _ _ _ _ _ _ _ _ _ _ _ _ _ _ _ _ _ _ _ _ _ _ _ _ _ _ _ _ _ _ _ _ _ _ _ _ _ _ _ _ _ _ _ _ _ _ _ _ _ _ _ _ _ _ _ (I_up I' (Nat.le_succ N)) hP hD hS (lv_sub hl [2, 3, 4, 5, 6] rfl)
    · skip
      refine lv_lconst (v := (1 : Int64)) hx hb dL_law_803 (by decide) ?_
      refine lv_goto (tgt := 808) hx hb dL_law_804 (by decide) ?_
      have h5 : a' 0 = 1 := (e3 h8).elim (fun z => absurd z.1 h6) (fun z => z.2)
      refine W.lcmp hx hb dL_law_808 ?_
      refine lv_if_eq (tgt := 814) hx hb dL_law_809 (by decide) (fun h7 => ?_) (fun h7 => absurd ((lg_cmp_eq _ _).mpr h5) h7)
      refine lv_goto (tgt := 1065) hx hb dL_law_814 (by decide) ?_
      exact kk q _ _ _ _ _ _ _ _ _ _ _ _ _ _ _ _ _ _ _ _ _ _ _ _ _ _ _ _ _ _ _ _ _ _ _ _ _ _ _ _ _ _ _ _ _ _ _ _ _ _ _ _ _ _ _ _ _ _ _ _ _ _ _ _ _ _ _ _ _ _ _ _ _ _ _ _ _ _ _ _ _ _ (I_up I' (Nat.le_succ N)) hP hD hS (lv_sub hl [2, 3, 4, 5, 6] rfl)
