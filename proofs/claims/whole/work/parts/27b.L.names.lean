set_option maxRecDepth 20000 in
theorem ggL_thick_X6_thick : GoodIn wsL_thick wsX6_thick := goodIn_ca (goodIn_ca (goodIn_r _ [7, 8, 9, 10, 11, 12, 13, 14, 15, 6, 16, 17, 18, 19, 20, 21, 22, 23, 24, 25, 26, 27, 28, 29, 30, 31, 32, 33, 34, 35, 36, 37, 38, 39, 40, 41, 42, 43, 44, 45, 46, 47, 48, 49, 50, 51, 52] (by decide +kernel) (by decide +kernel)) (goodIn_sub (fun _ h => List.mem_cons_of_mem _ (List.mem_append_left _ (List.mem_append_right _ h))) (by decide +kernel))) (goodIn_sub (fun _ h => List.mem_cons_of_mem _ (List.mem_append_right _ h)) (by decide +kernel))
set_option maxRecDepth 20000 in
theorem gL_thick_X6_thick : GoodIn wsL_thick (wsV RL 7 RX6 yX6_thick wsX6_thick) := goodIn_app (goodIn_of _ (by decide +kernel)) ggL_thick_X6_thick
theorem dL_thick_0 : decode cL_thick 0 = .ok (.aload 4, 2) := by decide +kernel
theorem dL_thick_2 : decode cL_thick 2 = .ok (.iconst 0, 1) := by decide +kernel
theorem dL_thick_3 : decode cL_thick 3 = .ok (.aload_n 0, 1) := by decide +kernel
theorem dL_thick_4 : decode cL_thick 4 = .ok (.iload_n 1, 1) := by decide +kernel
theorem dL_thick_5 : decode cL_thick 5 = .ok (.iload_n 2, 1) := by decide +kernel
theorem dL_thick_6 : decode cL_thick 6 = .ok (.iload_n 3, 1) := by decide +kernel
theorem dL_thick_7 : decode cL_thick 7 = .ok (.invokevirtual 7, 3) := by decide +kernel
theorem dL_thick_10 : decode cL_thick 10 = .ok (.lastore, 1) := by decide +kernel
theorem dL_thick_11 : decode cL_thick 11 = .ok (.goto 11, 3) := by decide +kernel
theorem dL_thick_14 : decode cL_thick 14 = .ok (.astore 5, 2) := by decide +kernel
theorem dL_thick_16 : decode cL_thick 16 = .ok (.iconst 1, 1) := by decide +kernel
theorem dL_thick_17 : decode cL_thick 17 = .ok (.ireturn, 1) := by decide +kernel
theorem dL_thick_18 : decode cL_thick 18 = .ok (.astore 5, 2) := by decide +kernel
theorem dL_thick_20 : decode cL_thick 20 = .ok (.iconst 2, 1) := by decide +kernel
theorem dL_thick_21 : decode cL_thick 21 = .ok (.ireturn, 1) := by decide +kernel
theorem dL_thick_22 : decode cL_thick 22 = .ok (.iconst 0, 1) := by decide +kernel
theorem dL_thick_23 : decode cL_thick 23 = .ok (.ireturn, 1) := by decide +kernel
set_option maxRecDepth 20000 in
theorem ggL_kind_X6_kind : GoodIn wsL_kind wsX6_kind := goodIn_ca (goodIn_r _ [6, 7, 8, 9, 10, 11, 5, 12, 13, 14, 15, 16, 17, 18, 19, 20, 21, 22, 23, 24, 25, 26, 27, 28, 29, 30, 31, 32] (by decide +kernel) (by decide +kernel)) (goodIn_sub (fun _ h => List.mem_cons_of_mem _ (List.mem_append_right _ h)) (by decide +kernel))
set_option maxRecDepth 20000 in
theorem gL_kind_X6_kind : GoodIn wsL_kind (wsV RL 17 RX6 yX6_kind wsX6_kind) := goodIn_app (goodIn_of _ (by decide +kernel)) ggL_kind_X6_kind
theorem dL_kind_0 : decode cL_kind 0 = .ok (.aload_n 2, 1) := by decide +kernel
theorem dL_kind_1 : decode cL_kind 1 = .ok (.iconst 0, 1) := by decide +kernel
theorem dL_kind_2 : decode cL_kind 2 = .ok (.aload_n 0, 1) := by decide +kernel
theorem dL_kind_3 : decode cL_kind 3 = .ok (.iload_n 1, 1) := by decide +kernel
theorem dL_kind_4 : decode cL_kind 4 = .ok (.invokevirtual 17, 3) := by decide +kernel
theorem dL_kind_7 : decode cL_kind 7 = .ok (.i2l, 1) := by decide +kernel
theorem dL_kind_8 : decode cL_kind 8 = .ok (.lastore, 1) := by decide +kernel
theorem dL_kind_9 : decode cL_kind 9 = .ok (.goto 6, 3) := by decide +kernel
theorem dL_kind_12 : decode cL_kind 12 = .ok (.astore_n 3, 1) := by decide +kernel
theorem dL_kind_13 : decode cL_kind 13 = .ok (.iconst 1, 1) := by decide +kernel
theorem dL_kind_14 : decode cL_kind 14 = .ok (.ireturn, 1) := by decide +kernel
theorem dL_kind_15 : decode cL_kind 15 = .ok (.iconst 0, 1) := by decide +kernel
theorem dL_kind_16 : decode cL_kind 16 = .ok (.ireturn, 1) := by decide +kernel
set_option maxRecDepth 20000 in
theorem ggL_via_X6_via : GoodIn wsL_via wsX6_via := goodIn_ca (goodIn_r _ [6, 7, 8, 9, 10, 11, 12, 13, 14, 15, 16, 17, 18, 5, 19, 20, 21, 22, 23, 24, 25, 26, 27, 28, 29, 30, 31, 32, 33, 34, 35, 36, 37, 38, 39, 40, 41, 42, 43, 44, 45, 46, 47, 48, 49, 50] (by decide +kernel) (by decide +kernel)) (goodIn_sub (fun _ h => List.mem_cons_of_mem _ (List.mem_append_right _ h)) (by decide +kernel))
set_option maxRecDepth 20000 in
theorem gL_via_X6_via : GoodIn wsL_via (wsV RL 21 RX6 yX6_via wsX6_via) := goodIn_app (goodIn_of _ (by decide +kernel)) ggL_via_X6_via
theorem dL_via_0 : decode cL_via 0 = .ok (.aload_n 3, 1) := by decide +kernel
theorem dL_via_1 : decode cL_via 1 = .ok (.iconst 0, 1) := by decide +kernel
theorem dL_via_2 : decode cL_via 2 = .ok (.aload_n 0, 1) := by decide +kernel
theorem dL_via_3 : decode cL_via 3 = .ok (.iload_n 1, 1) := by decide +kernel
theorem dL_via_4 : decode cL_via 4 = .ok (.iload_n 2, 1) := by decide +kernel
theorem dL_via_5 : decode cL_via 5 = .ok (.invokevirtual 21, 3) := by decide +kernel
theorem dL_via_8 : decode cL_via 8 = .ok (.ifCond .eq 7, 3) := by decide +kernel
theorem dL_via_11 : decode cL_via 11 = .ok (.lconst 1, 1) := by decide +kernel
theorem dL_via_12 : decode cL_via 12 = .ok (.goto 4, 3) := by decide +kernel
theorem dL_via_15 : decode cL_via 15 = .ok (.lconst 0, 1) := by decide +kernel
theorem dL_via_16 : decode cL_via 16 = .ok (.lastore, 1) := by decide +kernel
theorem dL_via_17 : decode cL_via 17 = .ok (.goto 7, 3) := by decide +kernel
theorem dL_via_20 : decode cL_via 20 = .ok (.astore 4, 2) := by decide +kernel
theorem dL_via_22 : decode cL_via 22 = .ok (.iconst 1, 1) := by decide +kernel
theorem dL_via_23 : decode cL_via 23 = .ok (.ireturn, 1) := by decide +kernel
theorem dL_via_24 : decode cL_via 24 = .ok (.iconst 0, 1) := by decide +kernel
theorem dL_via_25 : decode cL_via 25 = .ok (.ireturn, 1) := by decide +kernel
set_option maxRecDepth 20000 in
theorem ggL_pressed_X6_pressed : GoodIn wsL_pressed wsX6_pressed := goodIn_ca (goodIn_r _ [6, 7, 8, 9, 10, 11, 12, 13, 14, 15, 16, 17, 18, 19, 20, 21, 22, 23, 24, 25, 26, 27, 28, 29, 30, 31, 32, 33, 34, 35, 36, 37, 38, 39, 40, 41, 42, 43, 44, 45, 46, 47, 48, 49, 50, 51, 52, 53, 54] (by decide +kernel) (by decide +kernel)) (goodIn_sub (fun _ h => List.mem_cons_of_mem _ (List.mem_append_right _ h)) (by decide +kernel))
set_option maxRecDepth 20000 in
theorem gL_pressed_X6_pressed : GoodIn wsL_pressed (wsV RL 25 RX6 yX6_pressed wsX6_pressed) := goodIn_app (goodIn_of _ (by decide +kernel)) ggL_pressed_X6_pressed
theorem dL_pressed_0 : decode cL_pressed 0 = .ok (.aload_n 3, 1) := by decide +kernel
theorem dL_pressed_1 : decode cL_pressed 1 = .ok (.iconst 0, 1) := by decide +kernel
theorem dL_pressed_2 : decode cL_pressed 2 = .ok (.aload_n 0, 1) := by decide +kernel
theorem dL_pressed_3 : decode cL_pressed 3 = .ok (.iload_n 1, 1) := by decide +kernel
theorem dL_pressed_4 : decode cL_pressed 4 = .ok (.iload_n 2, 1) := by decide +kernel
theorem dL_pressed_5 : decode cL_pressed 5 = .ok (.invokevirtual 25, 3) := by decide +kernel
theorem dL_pressed_8 : decode cL_pressed 8 = .ok (.i2l, 1) := by decide +kernel
theorem dL_pressed_9 : decode cL_pressed 9 = .ok (.lastore, 1) := by decide +kernel
theorem dL_pressed_10 : decode cL_pressed 10 = .ok (.goto 7, 3) := by decide +kernel
theorem dL_pressed_13 : decode cL_pressed 13 = .ok (.astore 4, 2) := by decide +kernel
theorem dL_pressed_15 : decode cL_pressed 15 = .ok (.iconst 1, 1) := by decide +kernel
theorem dL_pressed_16 : decode cL_pressed 16 = .ok (.ireturn, 1) := by decide +kernel
theorem dL_pressed_17 : decode cL_pressed 17 = .ok (.iconst 0, 1) := by decide +kernel
theorem dL_pressed_18 : decode cL_pressed 18 = .ok (.ireturn, 1) := by decide +kernel
set_option maxRecDepth 20000 in
theorem ggL_copper_X6_copper : GoodIn wsL_copper wsX6_copper := goodIn_ca (goodIn_ca (goodIn_r _ [7, 8, 9, 10, 11, 12, 13, 14, 15, 6, 16, 17, 18, 19, 20, 21, 22, 23, 24, 25, 26, 27, 28, 29, 30, 31, 32, 33, 34, 35, 36, 37, 38, 39, 40, 41, 42, 43] (by decide +kernel) (by decide +kernel)) (goodIn_sub (fun _ h => List.mem_cons_of_mem _ (List.mem_append_left _ (List.mem_append_right _ h))) (by decide +kernel))) (goodIn_sub (fun _ h => List.mem_cons_of_mem _ (List.mem_append_right _ h)) (by decide +kernel))
set_option maxRecDepth 20000 in
theorem gL_copper_X6_copper : GoodIn wsL_copper (wsV RL 29 RX6 yX6_copper wsX6_copper) := goodIn_app (goodIn_of _ (by decide +kernel)) ggL_copper_X6_copper
theorem dL_copper_0 : decode cL_copper 0 = .ok (.aload 6, 2) := by decide +kernel
theorem dL_copper_2 : decode cL_copper 2 = .ok (.iconst 0, 1) := by decide +kernel
theorem dL_copper_3 : decode cL_copper 3 = .ok (.aload_n 0, 1) := by decide +kernel
theorem dL_copper_4 : decode cL_copper 4 = .ok (.iload_n 1, 1) := by decide +kernel
theorem dL_copper_5 : decode cL_copper 5 = .ok (.lload_n 2, 1) := by decide +kernel
theorem dL_copper_6 : decode cL_copper 6 = .ok (.lload 4, 2) := by decide +kernel
theorem dL_copper_8 : decode cL_copper 8 = .ok (.invokevirtual 29, 3) := by decide +kernel
theorem dL_copper_11 : decode cL_copper 11 = .ok (.ifCond .eq 7, 3) := by decide +kernel
theorem dL_copper_14 : decode cL_copper 14 = .ok (.lconst 1, 1) := by decide +kernel
theorem dL_copper_15 : decode cL_copper 15 = .ok (.goto 4, 3) := by decide +kernel
theorem dL_copper_18 : decode cL_copper 18 = .ok (.lconst 0, 1) := by decide +kernel
theorem dL_copper_19 : decode cL_copper 19 = .ok (.lastore, 1) := by decide +kernel
theorem dL_copper_20 : decode cL_copper 20 = .ok (.goto 11, 3) := by decide +kernel
theorem dL_copper_23 : decode cL_copper 23 = .ok (.astore 7, 2) := by decide +kernel
theorem dL_copper_25 : decode cL_copper 25 = .ok (.iconst 1, 1) := by decide +kernel
theorem dL_copper_26 : decode cL_copper 26 = .ok (.ireturn, 1) := by decide +kernel
theorem dL_copper_27 : decode cL_copper 27 = .ok (.astore 7, 2) := by decide +kernel
theorem dL_copper_29 : decode cL_copper 29 = .ok (.iconst 2, 1) := by decide +kernel
theorem dL_copper_30 : decode cL_copper 30 = .ok (.ireturn, 1) := by decide +kernel
theorem dL_copper_31 : decode cL_copper 31 = .ok (.iconst 0, 1) := by decide +kernel
theorem dL_copper_32 : decode cL_copper 32 = .ok (.ireturn, 1) := by decide +kernel
set_option maxRecDepth 20000 in
theorem ggL_list_X6_list : GoodIn wsL_list wsX6_list := goodIn_ca (goodIn_r _ [6, 7, 8, 9, 10, 5, 11, 12, 13, 14, 15, 16, 17, 18, 19, 20, 21, 22, 23, 24, 25, 26, 27, 28, 29, 30, 31, 32, 33, 34, 35, 36, 37, 38, 39, 40, 41, 42, 43, 44, 45, 46, 47] (by decide +kernel) (by decide +kernel)) (goodIn_sub (fun _ h => List.mem_cons_of_mem _ (List.mem_append_right _ h)) (by decide +kernel))
set_option maxRecDepth 20000 in
theorem gL_list_X6_list : GoodIn wsL_list (wsV RL 35 RX6 yX6_list wsX6_list) := goodIn_app (goodIn_of _ (by decide +kernel)) ggL_list_X6_list
theorem dL_list_0 : decode cL_list 0 = .ok (.aload_n 1, 1) := by decide +kernel
theorem dL_list_1 : decode cL_list 1 = .ok (.iconst 0, 1) := by decide +kernel
theorem dL_list_2 : decode cL_list 2 = .ok (.aload_n 0, 1) := by decide +kernel
theorem dL_list_3 : decode cL_list 3 = .ok (.invokevirtual 35, 3) := by decide +kernel
theorem dL_list_6 : decode cL_list 6 = .ok (.i2l, 1) := by decide +kernel
theorem dL_list_7 : decode cL_list 7 = .ok (.lastore, 1) := by decide +kernel
theorem dL_list_8 : decode cL_list 8 = .ok (.goto 6, 3) := by decide +kernel
theorem dL_list_11 : decode cL_list 11 = .ok (.astore_n 2, 1) := by decide +kernel
theorem dL_list_12 : decode cL_list 12 = .ok (.iconst 1, 1) := by decide +kernel
theorem dL_list_13 : decode cL_list 13 = .ok (.ireturn, 1) := by decide +kernel
theorem dL_list_14 : decode cL_list 14 = .ok (.iconst 0, 1) := by decide +kernel
theorem dL_list_15 : decode cL_list 15 = .ok (.ireturn, 1) := by decide +kernel
set_option maxRecDepth 20000 in
theorem ggL_row_X6_row : GoodIn wsL_row wsX6_row := goodIn_ca (goodIn_ca (goodIn_r _ [7, 8, 9, 10, 11, 12, 13, 14, 15, 6, 16, 17, 18, 19, 20, 21, 22, 23, 24, 25, 26, 27, 28, 29, 30, 31, 32, 33, 34, 35, 36, 37, 38, 39, 40, 41, 42, 43, 44, 45, 46, 47, 48, 49, 50, 51, 52] (by decide +kernel) (by decide +kernel)) (goodIn_sub (fun _ h => List.mem_cons_of_mem _ (List.mem_append_left _ (List.mem_append_right _ h))) (by decide +kernel))) (goodIn_sub (fun _ h => List.mem_cons_of_mem _ (List.mem_append_right _ h)) (by decide +kernel))
set_option maxRecDepth 20000 in
theorem gL_row_X6_row : GoodIn wsL_row (wsV RL 39 RX6 yX6_row wsX6_row) := goodIn_app (goodIn_of _ (by decide +kernel)) ggL_row_X6_row
theorem dL_row_0 : decode cL_row 0 = .ok (.aload 7, 2) := by decide +kernel
theorem dL_row_2 : decode cL_row 2 = .ok (.iconst 0, 1) := by decide +kernel
theorem dL_row_3 : decode cL_row 3 = .ok (.aload_n 0, 1) := by decide +kernel
theorem dL_row_4 : decode cL_row 4 = .ok (.iload_n 1, 1) := by decide +kernel
theorem dL_row_5 : decode cL_row 5 = .ok (.iload_n 2, 1) := by decide +kernel
theorem dL_row_6 : decode cL_row 6 = .ok (.lload_n 3, 1) := by decide +kernel
theorem dL_row_7 : decode cL_row 7 = .ok (.lload 5, 2) := by decide +kernel
theorem dL_row_9 : decode cL_row 9 = .ok (.invokevirtual 39, 3) := by decide +kernel
theorem dL_row_12 : decode cL_row 12 = .ok (.ifCond .eq 7, 3) := by decide +kernel
theorem dL_row_15 : decode cL_row 15 = .ok (.lconst 1, 1) := by decide +kernel
theorem dL_row_16 : decode cL_row 16 = .ok (.goto 4, 3) := by decide +kernel
theorem dL_row_19 : decode cL_row 19 = .ok (.lconst 0, 1) := by decide +kernel
theorem dL_row_20 : decode cL_row 20 = .ok (.lastore, 1) := by decide +kernel
theorem dL_row_21 : decode cL_row 21 = .ok (.goto 11, 3) := by decide +kernel
theorem dL_row_24 : decode cL_row 24 = .ok (.astore 8, 2) := by decide +kernel
theorem dL_row_26 : decode cL_row 26 = .ok (.iconst 1, 1) := by decide +kernel
theorem dL_row_27 : decode cL_row 27 = .ok (.ireturn, 1) := by decide +kernel
theorem dL_row_28 : decode cL_row 28 = .ok (.astore 8, 2) := by decide +kernel
theorem dL_row_30 : decode cL_row 30 = .ok (.iconst 2, 1) := by decide +kernel
theorem dL_row_31 : decode cL_row 31 = .ok (.ireturn, 1) := by decide +kernel
theorem dL_row_32 : decode cL_row 32 = .ok (.iconst 0, 1) := by decide +kernel
theorem dL_row_33 : decode cL_row 33 = .ok (.ireturn, 1) := by decide +kernel
set_option maxRecDepth 20000 in
theorem ggL_changes_X6_changes : GoodIn wsL_changes wsX6_changes := goodIn_ca (goodIn_r _ [6, 7, 8, 9, 10, 11, 5, 12, 13, 14, 15, 16, 17, 18, 19, 20, 21, 22, 23, 24, 25, 26, 27, 28, 29, 30, 31, 32, 33, 34, 35, 36, 37, 38, 39, 40, 41, 42, 43, 44, 45, 46, 47, 48, 49, 50] (by decide +kernel) (by decide +kernel)) (goodIn_sub (fun _ h => List.mem_cons_of_mem _ (List.mem_append_right _ h)) (by decide +kernel))
set_option maxRecDepth 20000 in
theorem gL_changes_X6_changes : GoodIn wsL_changes (wsV RL 43 RX6 yX6_changes wsX6_changes) := goodIn_app (goodIn_of _ (by decide +kernel)) ggL_changes_X6_changes
theorem dL_changes_0 : decode cL_changes 0 = .ok (.aload_n 2, 1) := by decide +kernel
theorem dL_changes_1 : decode cL_changes 1 = .ok (.iconst 0, 1) := by decide +kernel
theorem dL_changes_2 : decode cL_changes 2 = .ok (.aload_n 0, 1) := by decide +kernel
theorem dL_changes_3 : decode cL_changes 3 = .ok (.iload_n 1, 1) := by decide +kernel
theorem dL_changes_4 : decode cL_changes 4 = .ok (.invokevirtual 43, 3) := by decide +kernel
theorem dL_changes_7 : decode cL_changes 7 = .ok (.i2l, 1) := by decide +kernel
theorem dL_changes_8 : decode cL_changes 8 = .ok (.lastore, 1) := by decide +kernel
theorem dL_changes_9 : decode cL_changes 9 = .ok (.goto 6, 3) := by decide +kernel
theorem dL_changes_12 : decode cL_changes 12 = .ok (.astore_n 3, 1) := by decide +kernel
theorem dL_changes_13 : decode cL_changes 13 = .ok (.iconst 1, 1) := by decide +kernel
theorem dL_changes_14 : decode cL_changes 14 = .ok (.ireturn, 1) := by decide +kernel
theorem dL_changes_15 : decode cL_changes 15 = .ok (.iconst 0, 1) := by decide +kernel
theorem dL_changes_16 : decode cL_changes 16 = .ok (.ireturn, 1) := by decide +kernel
set_option maxRecDepth 20000 in
theorem ggL_role_X6_role : GoodIn wsL_role wsX6_role := goodIn_ca (goodIn_r _ [6, 7, 8, 9, 10, 11, 5, 12, 13, 14, 15, 16, 17, 18, 19, 20, 21, 22, 23, 24, 25, 26, 27, 28, 29, 30, 31, 32] (by decide +kernel) (by decide +kernel)) (goodIn_sub (fun _ h => List.mem_cons_of_mem _ (List.mem_append_right _ h)) (by decide +kernel))
set_option maxRecDepth 20000 in
theorem gL_role_X6_role : GoodIn wsL_role (wsV RL 46 RX6 yX6_role wsX6_role) := goodIn_app (goodIn_of _ (by decide +kernel)) ggL_role_X6_role
theorem dL_role_0 : decode cL_role 0 = .ok (.aload_n 2, 1) := by decide +kernel
theorem dL_role_1 : decode cL_role 1 = .ok (.iconst 0, 1) := by decide +kernel
theorem dL_role_2 : decode cL_role 2 = .ok (.aload_n 0, 1) := by decide +kernel
theorem dL_role_3 : decode cL_role 3 = .ok (.iload_n 1, 1) := by decide +kernel
theorem dL_role_4 : decode cL_role 4 = .ok (.invokevirtual 46, 3) := by decide +kernel
theorem dL_role_7 : decode cL_role 7 = .ok (.i2l, 1) := by decide +kernel
theorem dL_role_8 : decode cL_role 8 = .ok (.lastore, 1) := by decide +kernel
theorem dL_role_9 : decode cL_role 9 = .ok (.goto 6, 3) := by decide +kernel
theorem dL_role_12 : decode cL_role 12 = .ok (.astore_n 3, 1) := by decide +kernel
theorem dL_role_13 : decode cL_role 13 = .ok (.iconst 1, 1) := by decide +kernel
theorem dL_role_14 : decode cL_role 14 = .ok (.ireturn, 1) := by decide +kernel
theorem dL_role_15 : decode cL_role 15 = .ok (.iconst 0, 1) := by decide +kernel
theorem dL_role_16 : decode cL_role 16 = .ok (.ireturn, 1) := by decide +kernel
set_option maxRecDepth 20000 in
theorem ggL_sum_X6_sum : GoodIn wsL_sum wsX6_sum := goodIn_ca (goodIn_r _ [6, 7, 8, 9, 10, 5, 11, 12, 13, 14, 15, 16, 17, 18, 19, 20, 21, 22, 23, 24, 25, 26, 27, 28, 29, 30, 31, 32, 33, 34, 35, 36, 37, 38, 39, 40, 41, 42, 43, 44, 45, 46, 47, 48, 49] (by decide +kernel) (by decide +kernel)) (goodIn_sub (fun _ h => List.mem_cons_of_mem _ (List.mem_append_right _ h)) (by decide +kernel))
set_option maxRecDepth 20000 in
theorem gL_sum_X6_sum : GoodIn wsL_sum (wsV RL 49 RX6 yX6_sum wsX6_sum) := goodIn_app (goodIn_of _ (by decide +kernel)) ggL_sum_X6_sum
theorem dL_sum_0 : decode cL_sum 0 = .ok (.aload_n 3, 1) := by decide +kernel
theorem dL_sum_1 : decode cL_sum 1 = .ok (.iconst 0, 1) := by decide +kernel
theorem dL_sum_2 : decode cL_sum 2 = .ok (.aload_n 0, 1) := by decide +kernel
theorem dL_sum_3 : decode cL_sum 3 = .ok (.iload_n 1, 1) := by decide +kernel
theorem dL_sum_4 : decode cL_sum 4 = .ok (.iload_n 2, 1) := by decide +kernel
theorem dL_sum_5 : decode cL_sum 5 = .ok (.invokevirtual 49, 3) := by decide +kernel
theorem dL_sum_8 : decode cL_sum 8 = .ok (.lastore, 1) := by decide +kernel
theorem dL_sum_9 : decode cL_sum 9 = .ok (.goto 7, 3) := by decide +kernel
theorem dL_sum_12 : decode cL_sum 12 = .ok (.astore 4, 2) := by decide +kernel
theorem dL_sum_14 : decode cL_sum 14 = .ok (.iconst 1, 1) := by decide +kernel
theorem dL_sum_15 : decode cL_sum 15 = .ok (.ireturn, 1) := by decide +kernel
theorem dL_sum_16 : decode cL_sum 16 = .ok (.iconst 0, 1) := by decide +kernel
theorem dL_sum_17 : decode cL_sum 17 = .ok (.ireturn, 1) := by decide +kernel
set_option maxRecDepth 20000 in
theorem ggL_write_X6_write : GoodIn wsL_write wsX6_write := goodIn_ca (goodIn_ca (goodIn_r _ [7, 8, 9, 10, 11, 12, 13, 6, 14, 15, 16, 17, 18, 19, 20, 21, 22, 23, 24, 25, 26, 27, 28, 29, 30, 31, 32, 33, 34, 35, 36, 37, 38, 39, 40, 41, 42, 43, 44, 45] (by decide +kernel) (by decide +kernel)) (goodIn_sub (fun _ h => List.mem_cons_of_mem _ (List.mem_append_left _ (List.mem_append_right _ h))) (by decide +kernel))) (goodIn_sub (fun _ h => List.mem_cons_of_mem _ (List.mem_append_right _ h)) (by decide +kernel))
set_option maxRecDepth 20000 in
theorem gL_write_X6_write : GoodIn wsL_write (wsV RL 53 RX6 yX6_write wsX6_write) := goodIn_app (goodIn_of _ (by decide +kernel)) ggL_write_X6_write
theorem dL_write_0 : decode cL_write 0 = .ok (.aload_n 2, 1) := by decide +kernel
theorem dL_write_1 : decode cL_write 1 = .ok (.iconst 0, 1) := by decide +kernel
theorem dL_write_2 : decode cL_write 2 = .ok (.aload_n 0, 1) := by decide +kernel
theorem dL_write_3 : decode cL_write 3 = .ok (.iload_n 1, 1) := by decide +kernel
theorem dL_write_4 : decode cL_write 4 = .ok (.invokevirtual 53, 3) := by decide +kernel
theorem dL_write_7 : decode cL_write 7 = .ok (.i2l, 1) := by decide +kernel
theorem dL_write_8 : decode cL_write 8 = .ok (.lastore, 1) := by decide +kernel
theorem dL_write_9 : decode cL_write 9 = .ok (.goto 9, 3) := by decide +kernel
theorem dL_write_12 : decode cL_write 12 = .ok (.astore_n 3, 1) := by decide +kernel
theorem dL_write_13 : decode cL_write 13 = .ok (.iconst 1, 1) := by decide +kernel
theorem dL_write_14 : decode cL_write 14 = .ok (.ireturn, 1) := by decide +kernel
theorem dL_write_15 : decode cL_write 15 = .ok (.astore_n 3, 1) := by decide +kernel
theorem dL_write_16 : decode cL_write 16 = .ok (.iconst 2, 1) := by decide +kernel
theorem dL_write_17 : decode cL_write 17 = .ok (.ireturn, 1) := by decide +kernel
theorem dL_write_18 : decode cL_write 18 = .ok (.iconst 0, 1) := by decide +kernel
theorem dL_write_19 : decode cL_write 19 = .ok (.ireturn, 1) := by decide +kernel
