set_option maxHeartbeats 8000000 in
set_option maxRecDepth 100000 in
theorem b_copper {p : Program} {l : Launch} {e : Env} {s : State} {m : MethodId} {below : List Frame} {meth : Method} {c : Code} {D : va_G} {y : Nat → ClassId} {qm qo : Nat → Nat} {b F : Nat} {aK aV tA : Nat → Nat} {q : Nat → Nat} {L i N cells slots : Nat} {xs : Nat → Int32} {x_R_ch : Nat → Int32} {x_R_len : Int32} {x_R_at : Int32} {x_R_ls : Int32} {x_R_fa : Int32} {x_W_ch : Nat → Int32} {x_W_dg : Nat → Int32} {x_W_len : Int32} {x_K_lo : Nat → Nat → Int64} {x_K_hi : Nat → Nat → Int64} {x_K_c : Int32} {x_B_k : Nat → Int32} {x_B_n : Nat → Int64} {x_B_h : Nat → Int32} {x_B_d : Nat → Int32} {x_B_r : Nat → Int32} {x_B_u : Nat → Int32} {x_B_y : Nat → Int32} {x_B_p_s_f : Nat → Int32} {x_B_p_s_l : Nat → Int32} {x_B_p_s_c : Int32} {x_B_p_t : Int32} {x_B_v_f : Nat → Int32} {x_B_v_l : Nat → Int32} {x_B_v_c : Int32} {x_B_L : Int32} {x_B_C : Int32} {x_B_I : Int32} {x_D_k : Nat → Int32} {x_D_n : Nat → Int64} {x_D_h : Nat → Int32} {x_D_d : Nat → Int32} {x_D_r : Nat → Int32} {x_D_u : Nat → Int32} {x_D_y : Nat → Int32} {x_D_p_s_f : Nat → Int32} {x_D_p_s_l : Nat → Int32} {x_D_p_s_c : Int32} {x_D_p_t : Int32} {x_D_v_f : Nat → Int32} {x_D_v_l : Nat → Int32} {x_D_v_c : Int32} {x_D_L : Int32} {x_D_C : Int32} {x_D_I : Int32} {M_thrown : Int32} {M_text : Nat → Int32} {M_size : Int32} {M_has : Int32} {M_hand : Int32} {M_layers : Nat → Int32} {M_kinds : Nat → Int32} {M_names : Nat → Int64} {M_nameSizes : Nat → Int32} {M_thicknesses : Nat → Int64} {M_spreads : Nat → Int32} {M_coppers : Nat → Int32} {M_copperAt : Nat → Int32} {M_presses : Nat → Int32} {M_pressFrom : Nat → Int32} {M_pressTo : Nat → Int32} {M_vias : Nat → Int32} {M_viaFrom : Nat → Int32} {M_viaTo : Nat → Int32} {M_shares : Nat → Int32} {M_lists : Int32} {M_hasRow : Nat → Int32} {M_rowLow : Nat → Int64} {M_rowHigh : Nat → Int64} {M_p : Int32} {M_s : Int32} {M_fault : Int32} {M_lines : Int32} {M_word : Int64} {M_wordSize : Int32} {M_out : Nat → Int32} {M_written : Int32} {M_secondOne : Int32} {a : Nat → Int64} {H : Heap} {locs : List Loc} {ls : Array Slot} (hF : 4000 ≤ F) (hst : l.stackTraces = false) (C : CX p s m #[Value.ref b] meth c wsL_law RL cL_law 8 ret) (hX : va_X b L xs s s.heap) (hbl : b < s.heap.size) (hL3 : L ≤ 3584) (hi : i + 6 < L) (hN : N < 512) (hcl : cells + 3 ≤ 601024) (hsl : slots + 18 ≤ 7293034) (hJ : SJ aK aV (fun q : Nat => s.heap.size ≤ q) s s.heap) (hT : TJ tA (fun q : Nat => s.heap.size ≤ q) s s.heap) (hLJ : LJ s) (hK : va_K D vwCl (tyl y) s) (I : INV F N x_R_ch x_R_len x_W_ch x_W_len x_K_lo x_K_hi x_K_c x_B_k x_B_n x_B_h x_B_d x_B_r x_B_u x_B_y x_B_p_s_f x_B_p_s_l x_B_p_s_c x_B_v_f x_B_v_l x_B_v_c x_B_L x_B_C M_text M_size M_has M_hand M_layers M_kinds M_names M_nameSizes M_thicknesses M_spreads M_coppers M_copperAt M_presses M_pressFrom M_pressTo M_vias M_viaFrom M_viaTo M_shares M_lists M_hasRow M_rowLow M_rowHigh) (hP : va_P D vwCl ((wdX6 q (q 25) (q 40) y x_R_ch x_R_len x_R_at x_R_ls x_R_fa x_W_ch x_W_dg x_W_len x_K_lo x_K_hi x_K_c x_B_k x_B_n x_B_h x_B_d x_B_r x_B_u x_B_y x_B_p_s_f x_B_p_s_l x_B_p_s_c x_B_p_t x_B_v_f x_B_v_l x_B_v_c x_B_L x_B_C x_B_I x_D_k x_D_n x_D_h x_D_d x_D_r x_D_u x_D_y x_D_p_s_f x_D_p_s_l x_D_p_s_c x_D_p_t x_D_v_f x_D_v_l x_D_v_c x_D_L x_D_C x_D_I) ++ ((wdX7 qm y M_thrown M_text M_size M_has M_hand M_layers M_kinds M_names M_nameSizes M_thicknesses M_spreads M_coppers M_copperAt M_presses M_pressFrom M_pressTo M_vias M_viaFrom M_viaTo M_shares M_lists M_hasRow M_rowLow M_rowHigh M_p M_s M_fault M_lines M_word M_wordSize M_out M_written M_secondOne) ++ (wdAJ qo y 1 a))) H) (hD : va_D (fun q : Nat => s.heap.size ≤ q) ((wdX6 q (q 25) (q 40) y x_R_ch x_R_len x_R_at x_R_ls x_R_fa x_W_ch x_W_dg x_W_len x_K_lo x_K_hi x_K_c x_B_k x_B_n x_B_h x_B_d x_B_r x_B_u x_B_y x_B_p_s_f x_B_p_s_l x_B_p_s_c x_B_p_t x_B_v_f x_B_v_l x_B_v_c x_B_L x_B_C x_B_I x_D_k x_D_n x_D_h x_D_d x_D_r x_D_u x_D_y x_D_p_s_f x_D_p_s_l x_D_p_s_c x_D_p_t x_D_v_f x_D_v_l x_D_v_c x_D_L x_D_C x_D_I) ++ ((wdX7 qm y M_thrown M_text M_size M_has M_hand M_layers M_kinds M_names M_nameSizes M_thicknesses M_spreads M_coppers M_copperAt M_presses M_pressFrom M_pressTo M_vias M_viaFrom M_viaTo M_shares M_lists M_hasRow M_rowLow M_rowHigh M_p M_s M_fault M_lines M_word M_wordSize M_out M_written M_secondOne) ++ (wdAJ qo y 1 a)))) (hS : va_S (fun q : Nat => s.heap.size ≤ q) s.heap H locs) (hl : lv_has ls 8 [(0, .ref b), (1, .ref (q 0)), (2, .ref (qm 0)), (3, .ref (qo 0)), (4, .int (nI i))]) (kk : LK p l e s m below meth c D y qm qo b F i (N + 1) (cells + 3) (slots + 18)) : W p l e room_1 s m #[Value.ref b] below meth c H locs cells slots (lw_Z below #[Value.ref b] s) (F0 m 457 ls []) := by
  obtain ⟨⟨hx, hb, hml, hown, hts⟩, hr, hlocks⟩ := id C
  have hA : ∀ q : Nat, s.heap.size ≤ q → (fun q : Nat => s.heap.size ≤ q) q := fun _ h => h
  have hbA : ¬ (fun q : Nat => s.heap.size ≤ q) b := Nat.not_le.mpr hbl
  refine lv_aload_n hx hb dL_law_457 rfl (lv_at hl 1 rfl) ?_
  refine lv_aload_n hx hb dL_law_458 rfl (lv_at hl 0 rfl) ?_
  refine lv_iload hx hb dL_law_459 (lv_at hl 4 rfl) ?_
  refine lv_iconst (v := (1 : Int32)) hx hb dL_law_461 (by decide) ?_
  refine lv_iadd hx hb dL_law_462 ?_
  refine lv_topi (fun j1 ej1 => ?_)
  refine va_sld hx hb hX hbl hbA hS (vin (k := 1) ej1 (by omega) hL3) dL_law_463 ?_
  refine lv_topi (fun v1 ev1 => ?_)
  refine lv_aload_n hx hb dL_law_464 rfl (lv_at hl 0 rfl) ?_
  refine lv_iload hx hb dL_law_465 (lv_at hl 4 rfl) ?_
  refine lv_iconst (v := (2 : Int32)) hx hb dL_law_467 (by decide) ?_
  refine lv_iadd hx hb dL_law_468 ?_
  refine lv_topi (fun j2 ej2 => ?_)
  refine va_sld hx hb hX hbl hbA hS (vin (k := 2) ej2 (by omega) hL3) dL_law_469 ?_
  refine lv_topi (fun v2 ev2 => ?_)
  refine lv_i2l (v := (v2).toInt64) hx hb dL_law_470 rfl ?_
  refine lv_bipush (v := (32 : Int32)) hx hb dL_law_471 (by decide) ?_
  refine lv_lshl (v := ((v2).toInt64 <<< (((32 : Int32)).toInt64 &&& 63))) hx hb dL_law_473 rfl ?_
  refine lv_aload_n hx hb dL_law_474 rfl (lv_at hl 0 rfl) ?_
  refine lv_iload hx hb dL_law_475 (lv_at hl 4 rfl) ?_
  refine lv_iconst (v := (3 : Int32)) hx hb dL_law_477 (by decide) ?_
  refine lv_iadd hx hb dL_law_478 ?_
  refine lv_topi (fun j3 ej3 => ?_)
  refine va_sld hx hb hX hbl hbA hS (vin (k := 3) ej3 (by omega) hL3) dL_law_479 ?_
  refine lv_topi (fun v3 ev3 => ?_)
  refine lv_i2l (v := (v3).toInt64) hx hb dL_law_480 rfl ?_
  refine lv_ldc2 (v := (4294967295 : Int64)) hx hb hown (hts _ w_L_law_k93) dL_law_481 ?_
  refine lv_land hx hb dL_law_484 ?_
  refine lv_lor hx hb dL_law_485 ?_
  refine lv_topl (fun w23 ew23 => ?_)
  refine lv_aload_n hx hb dL_law_486 rfl (lv_at hl 0 rfl) ?_
  refine lv_iload hx hb dL_law_487 (lv_at hl 4 rfl) ?_
  refine lv_iconst (v := (4 : Int32)) hx hb dL_law_489 (by decide) ?_
  refine lv_iadd hx hb dL_law_490 ?_
  refine lv_topi (fun j4 ej4 => ?_)
  refine va_sld hx hb hX hbl hbA hS (vin (k := 4) ej4 (by omega) hL3) dL_law_491 ?_
  refine lv_topi (fun v4 ev4 => ?_)
  refine lv_i2l (v := (v4).toInt64) hx hb dL_law_492 rfl ?_
  refine lv_bipush (v := (32 : Int32)) hx hb dL_law_493 (by decide) ?_
  refine lv_lshl (v := ((v4).toInt64 <<< (((32 : Int32)).toInt64 &&& 63))) hx hb dL_law_495 rfl ?_
  refine lv_aload_n hx hb dL_law_496 rfl (lv_at hl 0 rfl) ?_
  refine lv_iload hx hb dL_law_497 (lv_at hl 4 rfl) ?_
  refine lv_iconst (v := (5 : Int32)) hx hb dL_law_499 (by decide) ?_
  refine lv_iadd hx hb dL_law_500 ?_
  refine lv_topi (fun j5 ej5 => ?_)
  refine va_sld hx hb hX hbl hbA hS (vin (k := 5) ej5 (by omega) hL3) dL_law_501 ?_
  refine lv_topi (fun v5 ev5 => ?_)
  refine lv_i2l (v := (v5).toInt64) hx hb dL_law_502 rfl ?_
  refine lv_ldc2 (v := (4294967295 : Int64)) hx hb hown (hts _ w_L_law_k93) dL_law_503 ?_
  refine lv_land hx hb dL_law_506 ?_
  refine lv_lor hx hb dL_law_507 ?_
  refine lv_topl (fun w45 ew45 => ?_)
  obtain ⟨k, b0, a', br', sh', e1, e2, e3, I'⟩ := s_copper hF I v1 M_thrown w23 w45 a
  refine lv_aload_n hx hb dL_law_508 rfl (lv_at hl 3 rfl) ?_
  refine callS_i (wc := (wdX6 q (q 25) (q 40) y x_R_ch x_R_len x_R_at x_R_ls x_R_fa x_W_ch x_W_dg x_W_len x_K_lo x_K_hi x_K_c x_B_k x_B_n x_B_h x_B_d x_B_r x_B_u x_B_y x_B_p_s_f x_B_p_s_l x_B_p_s_c x_B_p_t x_B_v_f x_B_v_l x_B_v_c x_B_L x_B_C x_B_I x_D_k x_D_n x_D_h x_D_d x_D_r x_D_u x_D_y x_D_p_s_f x_D_p_s_l x_D_p_s_c x_D_p_t x_D_v_f x_D_v_l x_D_v_c x_D_L x_D_C x_D_I) ++ (wdAJ qo y 1 a)) (wr := (wdX7 qm y M_thrown M_text M_size M_has M_hand M_layers M_kinds M_names M_nameSizes M_thicknesses M_spreads M_coppers M_copperAt M_presses M_pressFrom M_pressTo M_vias M_viaFrom M_viaTo M_shares M_lists M_hasRow M_rowLow M_rowHigh M_p M_s M_fault M_lines M_word M_wordSize M_out M_written M_secondOne)) (As := [.ref (q 0), .int v1, .long w23, .long w45, .ref (qo 0)]) (rest := []) C.1 (c_L_copper l D y aK aV tA q qo _ F hst e1) (vx_cwSW 5 hts gL_law_L_copper rfl rfl rfl (by decide +kernel) ⟨Nat.le_of_ble_eq_true rfl, Nat.le_of_ble_eq_true rfl⟩) hJ hT hLJ hK hP hD hS hA [0, 1, 2, 3, 4, 5, 6, 7, 8, 9, 10, 11, 12, 13, 14, 15, 16, 17, 18, 19, 20, 21, 22, 23, 24, 25, 26, 27, 28, 29, 30, 31, 32, 33, 34, 35, 36, 37, 38, 39, 40, 41, 42, 43, 44, 45, 46, 47, 48, 49, 50, 51, 52, 53, 54, 76] [55, 56, 57, 58, 59, 60, 61, 62, 63, 64, 65, 66, 67, 68, 69, 70, 71, 72, 73, 74, 75] rfl rfl rfl rfl rfl (by decide) rfl hl.1 (Nat.le_of_ble_eq_true rfl) dL_law_509 ⟨(show cells + 2 ≤ 601024 by omega), (show slots + 12 ≤ 7293034 by omega)⟩ (fun H locs hP hD hS => ?_)
  refine W.widen (k := cells + 3) (n := slots + 18) (by omega) (by omega) ?_
  have hP : va_P D vwCl ((wdX6 q (q 25) (q 40) y x_R_ch x_R_len x_R_at x_R_ls x_R_fa x_W_ch x_W_dg x_W_len x_K_lo x_K_hi x_K_c x_B_k x_B_n x_B_h x_B_d br' x_B_u x_B_y x_B_p_s_f x_B_p_s_l x_B_p_s_c x_B_p_t x_B_v_f x_B_v_l x_B_v_c x_B_L x_B_C x_B_I x_D_k x_D_n x_D_h x_D_d x_D_r x_D_u x_D_y x_D_p_s_f x_D_p_s_l x_D_p_s_c x_D_p_t x_D_v_f x_D_v_l x_D_v_c x_D_L x_D_C x_D_I) ++ ((wdX7 qm y M_thrown M_text M_size M_has M_hand M_layers M_kinds M_names M_nameSizes M_thicknesses M_spreads M_coppers M_copperAt M_presses M_pressFrom M_pressTo M_vias M_viaFrom M_viaTo M_shares M_lists M_hasRow M_rowLow M_rowHigh M_p M_s M_fault M_lines M_word M_wordSize M_out M_written M_secondOne) ++ (wdAJ qo y 1 a'))) H := hP.sub [21, 22, 23, 24, 25, 26, 27, 28, 29, 30, 31, 32, 33, 34, 35, 36, 37, 38, 39, 40, 41, 42, 43, 44, 45, 46, 47, 48, 49, 50, 51, 52, 53, 54, 55, 56, 57, 58, 59, 60, 61, 62, 63, 64, 65, 66, 67, 68, 69, 70, 71, 72, 73, 74, 75, 0, 1, 2, 3, 4, 5, 6, 7, 8, 9, 10, 11, 12, 13, 14, 15, 16, 17, 18, 19, 20, 76] rfl
  have hD : va_D (fun q : Nat => s.heap.size ≤ q) ((wdX6 q (q 25) (q 40) y x_R_ch x_R_len x_R_at x_R_ls x_R_fa x_W_ch x_W_dg x_W_len x_K_lo x_K_hi x_K_c x_B_k x_B_n x_B_h x_B_d br' x_B_u x_B_y x_B_p_s_f x_B_p_s_l x_B_p_s_c x_B_p_t x_B_v_f x_B_v_l x_B_v_c x_B_L x_B_C x_B_I x_D_k x_D_n x_D_h x_D_d x_D_r x_D_u x_D_y x_D_p_s_f x_D_p_s_l x_D_p_s_c x_D_p_t x_D_v_f x_D_v_l x_D_v_c x_D_L x_D_C x_D_I) ++ ((wdX7 qm y M_thrown M_text M_size M_has M_hand M_layers M_kinds M_names M_nameSizes M_thicknesses M_spreads M_coppers M_copperAt M_presses M_pressFrom M_pressTo M_vias M_viaFrom M_viaTo M_shares M_lists M_hasRow M_rowLow M_rowHigh M_p M_s M_fault M_lines M_word M_wordSize M_out M_written M_secondOne) ++ (wdAJ qo y 1 a'))) := hD.sub [21, 22, 23, 24, 25, 26, 27, 28, 29, 30, 31, 32, 33, 34, 35, 36, 37, 38, 39, 40, 41, 42, 43, 44, 45, 46, 47, 48, 49, 50, 51, 52, 53, 54, 55, 56, 57, 58, 59, 60, 61, 62, 63, 64, 65, 66, 67, 68, 69, 70, 71, 72, 73, 74, 75, 0, 1, 2, 3, 4, 5, 6, 7, 8, 9, 10, 11, 12, 13, 14, 15, 16, 17, 18, 19, 20, 76] (by decide) rfl
  refine W.eq (g2 := F0 m 512 ls [.int k]) rfl ?_
  refine lv_istore (lv' := [(5, .int k), (0, .ref b), (1, .ref (q 0)), (2, .ref (qm 0)), (3, .ref (qo 0)), (4, .int (nI i))]) hx hb dL_law_512 hl (by decide) rfl (fun ls hl => ?_)
  refine lv_aload_n hx hb dL_law_514 rfl (lv_at hl 3 rfl) ?_
  refine lv_aload_n hx hb dL_law_515 rfl (lv_at hl 1 rfl) ?_
  refine lv_iload hx hb dL_law_516 (lv_at hl 5 rfl) ?_
  refine lv_iconst (v := (1 : Int32)) hx hb dL_law_518 (by decide) ?_
  refine lv_iadd hx hb dL_law_519 ?_
  refine lv_topi (fun j9 ej9 => ?_)
  obtain rfl : j1 = j9 := ej1.trans ej9.symm
  refine va_sld hx hb hX hbl hbA hS (vin (k := 1) ej1 (by omega) hL3) dL_law_520 ?_
  refine lv_topi (fun v9 ev9 => ?_)
  obtain rfl : v1 = v9 := ev1.trans ev9.symm
  refine lv_aload_n hx hb dL_law_521 rfl (lv_at hl 1 rfl) ?_
  refine lv_iload hx hb dL_law_522 (lv_at hl 5 rfl) ?_
  refine lv_iconst (v := (2 : Int32)) hx hb dL_law_524 (by decide) ?_
  refine lv_iadd hx hb dL_law_525 ?_
  refine lv_topi (fun j9 ej9 => ?_)
  obtain rfl : j2 = j9 := ej2.trans ej9.symm
  refine va_sld hx hb hX hbl hbA hS (vin (k := 2) ej2 (by omega) hL3) dL_law_526 ?_
  refine lv_topi (fun v9 ev9 => ?_)
  obtain rfl : v2 = v9 := ev2.trans ev9.symm
  refine lv_i2l (v := (v2).toInt64) hx hb dL_law_527 rfl ?_
  refine lv_bipush (v := (32 : Int32)) hx hb dL_law_528 (by decide) ?_
  refine lv_lshl (v := ((v2).toInt64 <<< (((32 : Int32)).toInt64 &&& 63))) hx hb dL_law_530 rfl ?_
  refine lv_aload_n hx hb dL_law_531 rfl (lv_at hl 1 rfl) ?_
  refine lv_iload hx hb dL_law_532 (lv_at hl 5 rfl) ?_
  refine lv_iconst (v := (3 : Int32)) hx hb dL_law_534 (by decide) ?_
  refine lv_iadd hx hb dL_law_535 ?_
  refine lv_topi (fun j9 ej9 => ?_)
  obtain rfl : j3 = j9 := ej3.trans ej9.symm
  refine va_sld hx hb hX hbl hbA hS (vin (k := 3) ej3 (by omega) hL3) dL_law_536 ?_
  refine lv_topi (fun v9 ev9 => ?_)
  obtain rfl : v3 = v9 := ev3.trans ev9.symm
  refine lv_i2l (v := (v3).toInt64) hx hb dL_law_537 rfl ?_
  refine lv_ldc2 (v := (4294967295 : Int64)) hx hb hown (hts _ w_L_law_k93) dL_law_538 ?_
  refine lv_land hx hb dL_law_541 ?_
  refine lv_lor hx hb dL_law_542 ?_
  refine lv_topl (fun w9 ew9 => ?_)
  obtain rfl : w23 = w9 := ew23.trans ew9.symm
  refine lv_aload_n hx hb dL_law_543 rfl (lv_at hl 1 rfl) ?_
  refine lv_iload hx hb dL_law_544 (lv_at hl 5 rfl) ?_
  refine lv_iconst (v := (4 : Int32)) hx hb dL_law_546 (by decide) ?_
  refine lv_iadd hx hb dL_law_547 ?_
  refine lv_topi (fun j9 ej9 => ?_)
  obtain rfl : j4 = j9 := ej4.trans ej9.symm
  refine va_sld hx hb hX hbl hbA hS (vin (k := 4) ej4 (by omega) hL3) dL_law_548 ?_
  refine lv_topi (fun v9 ev9 => ?_)
  obtain rfl : v4 = v9 := ev4.trans ev9.symm
  refine lv_i2l (v := (v4).toInt64) hx hb dL_law_549 rfl ?_
  refine lv_bipush (v := (32 : Int32)) hx hb dL_law_550 (by decide) ?_
  refine lv_lshl (v := ((v4).toInt64 <<< (((32 : Int32)).toInt64 &&& 63))) hx hb dL_law_552 rfl ?_
  refine lv_aload_n hx hb dL_law_553 rfl (lv_at hl 1 rfl) ?_
  refine lv_iload hx hb dL_law_554 (lv_at hl 5 rfl) ?_
  refine lv_iconst (v := (5 : Int32)) hx hb dL_law_556 (by decide) ?_
  refine lv_iadd hx hb dL_law_557 ?_
  refine lv_topi (fun j9 ej9 => ?_)
  obtain rfl : j5 = j9 := ej5.trans ej9.symm
  refine va_sld hx hb hX hbl hbA hS (vin (k := 5) ej5 (by omega) hL3) dL_law_558 ?_
  refine lv_topi (fun v9 ev9 => ?_)
  obtain rfl : v5 = v9 := ev5.trans ev9.symm
  refine lv_i2l (v := (v5).toInt64) hx hb dL_law_559 rfl ?_
  refine lv_ldc2 (v := (4294967295 : Int64)) hx hb hown (hts _ w_L_law_k93) dL_law_560 ?_
  refine lv_land hx hb dL_law_563 ?_
  refine lv_lor hx hb dL_law_564 ?_
  refine lv_topl (fun w9 ew9 => ?_)
  obtain rfl : w45 = w9 := ew45.trans ew9.symm
  refine callXP_vi (wc := (wdX7 qm y M_thrown M_text M_size M_has M_hand M_layers M_kinds M_names M_nameSizes M_thicknesses M_spreads M_coppers M_copperAt M_presses M_pressFrom M_pressTo M_vias M_viaFrom M_viaTo M_shares M_lists M_hasRow M_rowLow M_rowHigh M_p M_s M_fault M_lines M_word M_wordSize M_out M_written M_secondOne)) (wr := (wdX6 q (q 25) (q 40) y x_R_ch x_R_len x_R_at x_R_ls x_R_fa x_W_ch x_W_dg x_W_len x_K_lo x_K_hi x_K_c x_B_k x_B_n x_B_h x_B_d br' x_B_u x_B_y x_B_p_s_f x_B_p_s_l x_B_p_s_c x_B_p_t x_B_v_f x_B_v_l x_B_v_c x_B_L x_B_C x_B_I x_D_k x_D_n x_D_h x_D_d x_D_r x_D_u x_D_y x_D_p_s_f x_D_p_s_l x_D_p_s_c x_D_p_t x_D_v_f x_D_v_l x_D_v_c x_D_L x_D_C x_D_I) ++ (wdAJ qo y 1 a')) (As := [.int v1, .long w23, .long w45]) (rest := []) C (c_X7_copper l D y qm _ F e2) (cwV 3 hts gL_law_X7_copper rfl rfl rfl (by decide +kernel) ⟨Nat.le_of_ble_eq_true rfl, Nat.le_of_ble_eq_true rfl⟩) hK hP hD hS hA [55, 56, 57, 58, 59, 60, 61, 62, 63, 64, 65, 66, 67, 68, 69, 70, 71, 72, 73, 74, 75] [0, 1, 2, 3, 4, 5, 6, 7, 8, 9, 10, 11, 12, 13, 14, 15, 16, 17, 18, 19, 20, 21, 22, 23, 24, 25, 26, 27, 28, 29, 30, 31, 32, 33, 34, 35, 36, 37, 38, 39, 40, 41, 42, 43, 44, 45, 46, 47, 48, 49, 50, 51, 52, 53, 54, 76] rfl rfl rfl rfl rfl (by decide) (va_recv hK hP (ci := 7) (q0 := 55) rfl rfl) rfl hl.1 (Nat.le_of_ble_eq_true rfl) dL_law_565 ⟨(show cells + 3 + 0 ≤ 601024 by omega), (show slots + 18 + 0 ≤ 7293034 by omega)⟩ (fun H locs hP hD hS => ?_)
  have hP : va_P D vwCl ((wdX6 q (q 25) (q 40) y x_R_ch x_R_len x_R_at x_R_ls x_R_fa x_W_ch x_W_dg x_W_len x_K_lo x_K_hi x_K_c x_B_k x_B_n x_B_h x_B_d br' x_B_u x_B_y x_B_p_s_f x_B_p_s_l x_B_p_s_c x_B_p_t x_B_v_f x_B_v_l x_B_v_c x_B_L x_B_C x_B_I x_D_k x_D_n x_D_h x_D_d x_D_r x_D_u x_D_y x_D_p_s_f x_D_p_s_l x_D_p_s_c x_D_p_t x_D_v_f x_D_v_l x_D_v_c x_D_L x_D_C x_D_I) ++ ((wdX7 qm y k M_text M_size M_has M_hand M_layers M_kinds M_names M_nameSizes M_thicknesses M_spreads M_coppers M_copperAt M_presses M_pressFrom M_pressTo M_vias M_viaFrom M_viaTo sh' M_lists M_hasRow M_rowLow M_rowHigh M_p M_s M_fault M_lines M_word M_wordSize M_out M_written M_secondOne) ++ (wdAJ qo y 1 a'))) H := hP.sub [0, 1, 2, 3, 4, 5, 6, 7, 8, 9, 10, 11, 12, 13, 14, 15, 16, 17, 18, 19, 20, 21, 22, 23, 24, 25, 26, 27, 28, 29, 30, 31, 32, 33, 34, 35, 36, 37, 38, 39, 40, 41, 42, 43, 44, 45, 46, 47, 48, 49, 50, 51, 52, 53, 54, 56, 57, 58, 59, 60, 61, 62, 63, 64, 65, 66, 67, 68, 69, 70, 71, 72, 73, 74, 75, 76, 55] rfl
  have hD : va_D (fun q : Nat => s.heap.size ≤ q) ((wdX6 q (q 25) (q 40) y x_R_ch x_R_len x_R_at x_R_ls x_R_fa x_W_ch x_W_dg x_W_len x_K_lo x_K_hi x_K_c x_B_k x_B_n x_B_h x_B_d br' x_B_u x_B_y x_B_p_s_f x_B_p_s_l x_B_p_s_c x_B_p_t x_B_v_f x_B_v_l x_B_v_c x_B_L x_B_C x_B_I x_D_k x_D_n x_D_h x_D_d x_D_r x_D_u x_D_y x_D_p_s_f x_D_p_s_l x_D_p_s_c x_D_p_t x_D_v_f x_D_v_l x_D_v_c x_D_L x_D_C x_D_I) ++ ((wdX7 qm y k M_text M_size M_has M_hand M_layers M_kinds M_names M_nameSizes M_thicknesses M_spreads M_coppers M_copperAt M_presses M_pressFrom M_pressTo M_vias M_viaFrom M_viaTo sh' M_lists M_hasRow M_rowLow M_rowHigh M_p M_s M_fault M_lines M_word M_wordSize M_out M_written M_secondOne) ++ (wdAJ qo y 1 a'))) := hD.sub [0, 1, 2, 3, 4, 5, 6, 7, 8, 9, 10, 11, 12, 13, 14, 15, 16, 17, 18, 19, 20, 21, 22, 23, 24, 25, 26, 27, 28, 29, 30, 31, 32, 33, 34, 35, 36, 37, 38, 39, 40, 41, 42, 43, 44, 45, 46, 47, 48, 49, 50, 51, 52, 53, 54, 56, 57, 58, 59, 60, 61, 62, 63, 64, 65, 66, 67, 68, 69, 70, 71, 72, 73, 74, 75, 76, 55] (by decide) rfl
  refine W.eq (g2 := F0 m 568 ls [.int b0]) rfl ?_
  refine lv_istore (lv' := [(6, .int b0), (5, .int k), (0, .ref b), (1, .ref (q 0)), (2, .ref (qm 0)), (3, .ref (qo 0)), (4, .int (nI i))]) hx hb dL_law_568 hl (by decide) rfl (fun ls hl => ?_)
  refine lv_aload_n hx hb dL_law_570 rfl (lv_at hl 4 rfl) ?_
  refine callXP_vi (wc := (wdX7 qm y k M_text M_size M_has M_hand M_layers M_kinds M_names M_nameSizes M_thicknesses M_spreads M_coppers M_copperAt M_presses M_pressFrom M_pressTo M_vias M_viaFrom M_viaTo sh' M_lists M_hasRow M_rowLow M_rowHigh M_p M_s M_fault M_lines M_word M_wordSize M_out M_written M_secondOne)) (wr := (wdX6 q (q 25) (q 40) y x_R_ch x_R_len x_R_at x_R_ls x_R_fa x_W_ch x_W_dg x_W_len x_K_lo x_K_hi x_K_c x_B_k x_B_n x_B_h x_B_d br' x_B_u x_B_y x_B_p_s_f x_B_p_s_l x_B_p_s_c x_B_p_t x_B_v_f x_B_v_l x_B_v_c x_B_L x_B_C x_B_I x_D_k x_D_n x_D_h x_D_d x_D_r x_D_u x_D_y x_D_p_s_f x_D_p_s_l x_D_p_s_c x_D_p_t x_D_v_f x_D_v_l x_D_v_c x_D_L x_D_C x_D_I) ++ (wdAJ qo y 1 a')) (As := []) (rest := []) C (c_X7_thrown l D y qm _ F rfl) (cwV 0 hts gL_law_X7_thrown rfl rfl rfl (by decide +kernel) ⟨Nat.le_of_ble_eq_true rfl, Nat.le_of_ble_eq_true rfl⟩) hK hP hD hS hA [55, 56, 57, 58, 59, 60, 61, 62, 63, 64, 65, 66, 67, 68, 69, 70, 71, 72, 73, 74, 75] [0, 1, 2, 3, 4, 5, 6, 7, 8, 9, 10, 11, 12, 13, 14, 15, 16, 17, 18, 19, 20, 21, 22, 23, 24, 25, 26, 27, 28, 29, 30, 31, 32, 33, 34, 35, 36, 37, 38, 39, 40, 41, 42, 43, 44, 45, 46, 47, 48, 49, 50, 51, 52, 53, 54, 76] rfl rfl rfl rfl rfl (by decide) (va_recv hK hP (ci := 7) (q0 := 55) rfl rfl) rfl hl.1 (Nat.le_of_ble_eq_true rfl) dL_law_571 ⟨(show cells + 3 + 0 ≤ 601024 by omega), (show slots + 18 + 0 ≤ 7293034 by omega)⟩ (fun H locs hP hD hS => ?_)
  have hP : va_P D vwCl ((wdX6 q (q 25) (q 40) y x_R_ch x_R_len x_R_at x_R_ls x_R_fa x_W_ch x_W_dg x_W_len x_K_lo x_K_hi x_K_c x_B_k x_B_n x_B_h x_B_d br' x_B_u x_B_y x_B_p_s_f x_B_p_s_l x_B_p_s_c x_B_p_t x_B_v_f x_B_v_l x_B_v_c x_B_L x_B_C x_B_I x_D_k x_D_n x_D_h x_D_d x_D_r x_D_u x_D_y x_D_p_s_f x_D_p_s_l x_D_p_s_c x_D_p_t x_D_v_f x_D_v_l x_D_v_c x_D_L x_D_C x_D_I) ++ ((wdX7 qm y k M_text M_size M_has M_hand M_layers M_kinds M_names M_nameSizes M_thicknesses M_spreads M_coppers M_copperAt M_presses M_pressFrom M_pressTo M_vias M_viaFrom M_viaTo sh' M_lists M_hasRow M_rowLow M_rowHigh M_p M_s M_fault M_lines M_word M_wordSize M_out M_written M_secondOne) ++ (wdAJ qo y 1 a'))) H := hP.sub [0, 1, 2, 3, 4, 5, 6, 7, 8, 9, 10, 11, 12, 13, 14, 15, 16, 17, 18, 19, 20, 21, 22, 23, 24, 25, 26, 27, 28, 29, 30, 31, 32, 33, 34, 35, 36, 37, 38, 39, 40, 41, 42, 43, 44, 45, 46, 47, 48, 49, 50, 51, 52, 53, 54, 56, 57, 58, 59, 60, 61, 62, 63, 64, 65, 66, 67, 68, 69, 70, 71, 72, 73, 74, 75, 76, 55] rfl
  have hD : va_D (fun q : Nat => s.heap.size ≤ q) ((wdX6 q (q 25) (q 40) y x_R_ch x_R_len x_R_at x_R_ls x_R_fa x_W_ch x_W_dg x_W_len x_K_lo x_K_hi x_K_c x_B_k x_B_n x_B_h x_B_d br' x_B_u x_B_y x_B_p_s_f x_B_p_s_l x_B_p_s_c x_B_p_t x_B_v_f x_B_v_l x_B_v_c x_B_L x_B_C x_B_I x_D_k x_D_n x_D_h x_D_d x_D_r x_D_u x_D_y x_D_p_s_f x_D_p_s_l x_D_p_s_c x_D_p_t x_D_v_f x_D_v_l x_D_v_c x_D_L x_D_C x_D_I) ++ ((wdX7 qm y k M_text M_size M_has M_hand M_layers M_kinds M_names M_nameSizes M_thicknesses M_spreads M_coppers M_copperAt M_presses M_pressFrom M_pressTo M_vias M_viaFrom M_viaTo sh' M_lists M_hasRow M_rowLow M_rowHigh M_p M_s M_fault M_lines M_word M_wordSize M_out M_written M_secondOne) ++ (wdAJ qo y 1 a'))) := hD.sub [0, 1, 2, 3, 4, 5, 6, 7, 8, 9, 10, 11, 12, 13, 14, 15, 16, 17, 18, 19, 20, 21, 22, 23, 24, 25, 26, 27, 28, 29, 30, 31, 32, 33, 34, 35, 36, 37, 38, 39, 40, 41, 42, 43, 44, 45, 46, 47, 48, 49, 50, 51, 52, 53, 54, 56, 57, 58, 59, 60, 61, 62, 63, 64, 65, 66, 67, 68, 69, 70, 71, 72, 73, 74, 75, 76, 55] (by decide) rfl
  refine W.eq (g2 := F0 m 574 ls [.int k]) rfl ?_
  refine lv_iload hx hb dL_law_574 (lv_at hl 1 rfl) ?_
  refine lv_icmp_eq (tgt := 581) hx hb dL_law_576 (by decide) (fun h9 => ?_) (fun h9 => absurd rfl h9)
  refine lv_iload hx hb dL_law_581 (lv_at hl 1 rfl) ?_
  refine lv_if_ne (tgt := 605) hx hb dL_law_583 (by decide) (fun h9 => ?_) (fun h9 => ?_)
  · skip
    refine lv_goto (tgt := 1065) hx hb dL_law_605 (by decide) ?_
    exact kk q _ _ _ _ _ _ _ _ _ _ _ _ _ _ _ _ _ _ _ _ _ _ _ _ _ _ _ _ _ _ _ _ _ _ _ _ _ _ _ _ _ _ _ _ _ _ _ _ _ _ _ _ _ _ _ _ _ _ _ _ _ _ _ _ _ _ _ _ _ _ _ _ _ _ _ _ _ _ _ _ _ _ (I_up I' (Nat.le_succ N)) hP hD hS (lv_sub hl [2, 3, 4, 5, 6] rfl)
  · skip
    have h8 : k = 0 := h9
    refine lv_aload_n hx hb dL_law_586 rfl (lv_at hl 5 rfl) ?_
    refine lv_iconst (v := (0 : Int32)) hx hb dL_law_587 (by decide) ?_
    refine va_lald hx hb hK hP 76 1 rfl rfl in01p dL_law_588 ?_
    refine lv_iload hx hb dL_law_589 (lv_at hl 0 rfl) ?_
    refine lv_if_eq (tgt := 598) hx hb dL_law_591 (by decide) (fun h6 => ?_) (fun h6 => ?_)
    · skip
      refine lv_lconst (v := (0 : Int64)) hx hb dL_law_598 (by decide) ?_
      have h5 : a' 0 = 0 := (e3 h8).elim (fun z => z.2) (fun z => absurd (h6.symm.trans z.1) (by decide))
      refine W.lcmp hx hb dL_law_599 ?_
      refine lv_if_eq (tgt := 605) hx hb dL_law_600 (by decide) (fun h7 => ?_) (fun h7 => absurd ((lg_cmp_eq _ _).mpr h5) h7)
      refine lv_goto (tgt := 1065) hx hb dL_law_605 (by decide) ?_
      exact kk q _ _ _ _ _ _ _ _ _ _ _ _ _ _ _ _ _ _ _ _ _ _ _ _ _ _ _ _ _ _ _ _ _ _ _ _ _ _ _ _ _ _ _ _ _ _ _ _ _ _ _ _ _ _ _ _ _ _ _ _ _ _ _ _ _ _ _ _ _ _ _ _ _ _ _ _ _ _ _ _ _ _ (I_up I' (Nat.le_succ N)) hP hD hS (lv_sub hl [2, 3, 4, 5, 6] rfl)
    · skip
      refine lv_lconst (v := (1 : Int64)) hx hb dL_law_594 (by decide) ?_
      refine lv_goto (tgt := 599) hx hb dL_law_595 (by decide) ?_
      have h5 : a' 0 = 1 := (e3 h8).elim (fun z => absurd z.1 h6) (fun z => z.2)
      refine W.lcmp hx hb dL_law_599 ?_
      refine lv_if_eq (tgt := 605) hx hb dL_law_600 (by decide) (fun h7 => ?_) (fun h7 => absurd ((lg_cmp_eq _ _).mpr h5) h7)
      refine lv_goto (tgt := 1065) hx hb dL_law_605 (by decide) ?_
      exact kk q _ _ _ _ _ _ _ _ _ _ _ _ _ _ _ _ _ _ _ _ _ _ _ _ _ _ _ _ _ _ _ _ _ _ _ _ _ _ _ _ _ _ _ _ _ _ _ _ _ _ _ _ _ _ _ _ _ _ _ _ _ _ _ _ _ _ _ _ _ _ _ _ _ _ _ _ _ _ _ _ _ _ (I_up I' (Nat.le_succ N)) hP hD hS (lv_sub hl [2, 3, 4, 5, 6] rfl)
