def wsX6_requireLayer : List Cond := .code yX6_requireLayer cX6_requireLayer 2 none :: ([.classLink RX6 122 "java/lang/IndexOutOfBoundsException", .initialized "java/lang/IndexOutOfBoundsException", .fieldLink RX6 33 "LayerStacks" "board" "LLayerStacks$Board;", .fieldLink RX6 56 "LayerStacks$Board" "layers" "I"] ++ wsX60 ++ wsX00 ++ (vx_atS RX6 126 "java/lang/IndexOutOfBoundsException" ["java/lang/RuntimeException", "java/lang/Exception"]).filter goodWord)
def wsX6_requireEndAndPart : List Cond := .code yX6_requireEndAndPart cX6_requireEndAndPart 2 none :: ([.classLink RX6 122 "java/lang/IndexOutOfBoundsException", .initialized "java/lang/IndexOutOfBoundsException"] ++ (vx_atS RX6 126 "java/lang/IndexOutOfBoundsException" ["java/lang/RuntimeException", "java/lang/Exception"]).filter goodWord)
def wsX6_thick : List Cond := .code yX6_thick cX6_thick 4 (some .long) :: ((wsX6_thick_r1 ++ wsX6_thick_r2) ++ wsX60 ++ wsX00 ++ (vx_atS RX6 76 "java/lang/IllegalStateException" ["java/lang/RuntimeException", "java/lang/Exception"]).filter goodWord ++ (vx_atS RX6 126 "java/lang/IndexOutOfBoundsException" ["java/lang/RuntimeException", "java/lang/Exception"]).filter goodWord)
def wsX6_kind : List Cond := .code yX6_kind cX6_kind 2 (some .int) :: ([.fieldLink RX6 33 "LayerStacks" "board" "LLayerStacks$Board;", .fieldLink RX6 68 "LayerStacks$Board" "kinds" "[I", .methodLink RX6 60 yX6_requireLayer, .instanceMethod yX6_requireLayer, .selects RX6 yX6_requireLayer yX6_requireLayer, .initialized RX6, .code yX6_requireLayer cX6_requireLayer 2 none, .classLink RX6 122 "java/lang/IndexOutOfBoundsException", .initialized "java/lang/IndexOutOfBoundsException", .fieldLink RX6 56 "LayerStacks$Board" "layers" "I"] ++ wsX60 ++ wsX00 ++ (vx_atS RX6 126 "java/lang/IndexOutOfBoundsException" ["java/lang/RuntimeException", "java/lang/Exception"]).filter goodWord)
def wsX6_requireCopper : List Cond := .code yX6_requireCopper cX6_requireCopper 2 none :: ([.classLink RX6 122 "java/lang/IndexOutOfBoundsException", .initialized "java/lang/IndexOutOfBoundsException", .fieldLink RX6 33 "LayerStacks" "board" "LLayerStacks$Board;", .fieldLink RX6 192 "LayerStacks$Board" "coppers" "I"] ++ wsX60 ++ wsX00 ++ (vx_atS RX6 126 "java/lang/IndexOutOfBoundsException" ["java/lang/RuntimeException", "java/lang/Exception"]).filter goodWord)
def wsX6_via : List Cond := .code yX6_via cX6_via 3 (some .boolean) :: ((wsX6_via_r1 ++ wsX6_via_r2) ++ wsX60 ++ wsX00 ++ wsX30 ++ (vx_atS RX6 126 "java/lang/IndexOutOfBoundsException" ["java/lang/RuntimeException", "java/lang/Exception"]).filter goodWord)
def wsX6_pressed : List Cond := .code yX6_pressed cX6_pressed 4 (some .int) :: ((wsX6_pressed_r1 ++ wsX6_pressed_r2) ++ wsX60 ++ wsX00 ++ wsX20 ++ wsX30 ++ (vx_atS RX6 126 "java/lang/IndexOutOfBoundsException" ["java/lang/RuntimeException", "java/lang/Exception"]).filter goodWord)
def wsX6_copper : List Cond := .code yX6_copper cX6_copper 6 (some .boolean) :: ([.classLink RX6 142 "java/lang/IllegalArgumentException", .initialized "java/lang/IllegalArgumentException", .constantLong RX6 140 (1000000000000000), .fieldLink RX6 33 "LayerStacks" "board" "LLayerStacks$Board;", .constantLong RX6 83 (1000), .methodLink RX6 89 yX6_requireCopper, .instanceMethod yX6_requireCopper, .selects RX6 yX6_requireCopper yX6_requireCopper, .initialized RX6, .code yX6_requireCopper cX6_requireCopper 2 none, .classLink RX6 122 "java/lang/IndexOutOfBoundsException", .initialized "java/lang/IndexOutOfBoundsException", .fieldLink RX6 192 "LayerStacks$Board" "coppers" "I", .methodLink RX6 147 yX0_changeShare, .instanceMethod yX0_changeShare, .selects RX0 yX0_changeShare yX0_changeShare, .initialized RX0, .code yX0_changeShare cX0_changeShare 5 (some .boolean), .fieldLink RX0 31 "LayerStacks$Board" "copperLayers" "[I", .fieldLink RX0 25 "LayerStacks$Board" "shares" "[I"] ++ wsX60 ++ wsX00 ++ (vx_atS RX6 146 "java/lang/IllegalArgumentException" ["java/lang/RuntimeException", "java/lang/Exception"]).filter goodWord ++ (vx_atS RX6 126 "java/lang/IndexOutOfBoundsException" ["java/lang/RuntimeException", "java/lang/Exception"]).filter goodWord)
def wsX6_requireStack : List Cond := .code yX6_requireStack cX6_requireStack 1 none :: ([.classLink RX6 72 "java/lang/IllegalStateException", .initialized "java/lang/IllegalStateException", .fieldLink RX6 33 "LayerStacks" "board" "LLayerStacks$Board;", .fieldLink RX6 56 "LayerStacks$Board" "layers" "I"] ++ wsX60 ++ wsX00 ++ (vx_atS RX6 76 "java/lang/IllegalStateException" ["java/lang/RuntimeException", "java/lang/Exception"]).filter goodWord)
def wsX6_list : List Cond := .code yX6_list cX6_list 1 (some .int) :: ([.fieldLink RX6 26 "LayerStacks" "makers" "LLayerStacks$MakerLists;", .methodLink RX6 151 yX6_requireStack, .instanceMethod yX6_requireStack, .selects RX6 yX6_requireStack yX6_requireStack, .initialized RX6, .code yX6_requireStack cX6_requireStack 1 none, .classLink RX6 72 "java/lang/IllegalStateException", .initialized "java/lang/IllegalStateException", .fieldLink RX6 33 "LayerStacks" "board" "LLayerStacks$Board;", .fieldLink RX6 56 "LayerStacks$Board" "layers" "I", .methodLink RX6 154 yX1_open, .instanceMethod yX1_open, .selects RX1 yX1_open yX1_open, .initialized RX1, .code yX1_open cX1_open 1 (some .int), .fieldLink RX1 19 "LayerStacks$MakerLists" "count" "I", .fieldLink RX1 11 "LayerStacks$MakerLists" "lows" "[[J", .constantLong RX1 23 (-1), .methodLink RX1 25 yJ7_fill_d0a16, .static yJ7_fill_d0a16, .initialized RJ7, .code yJ7_fill_d0a16 cJ7_fill_d0a16 5 none] ++ wsX60 ++ wsX00 ++ wsX10 ++ (vx_atS RX6 76 "java/lang/IllegalStateException" ["java/lang/RuntimeException", "java/lang/Exception"]).filter goodWord)
def wsX6_requireList : List Cond := .code yX6_requireList cX6_requireList 2 none :: ([.classLink RX6 122 "java/lang/IndexOutOfBoundsException", .initialized "java/lang/IndexOutOfBoundsException", .fieldLink RX6 26 "LayerStacks" "makers" "LLayerStacks$MakerLists;", .fieldLink RX6 197 "LayerStacks$MakerLists" "count" "I"] ++ wsX60 ++ wsX10 ++ (vx_atS RX6 126 "java/lang/IndexOutOfBoundsException" ["java/lang/RuntimeException", "java/lang/Exception"]).filter goodWord)
def wsX6_row : List Cond := .code yX6_row cX6_row 7 (some .boolean) :: ((wsX6_row_r1 ++ wsX6_row_r2) ++ wsX60 ++ wsX00 ++ wsX10 ++ (vx_atS RX6 146 "java/lang/IllegalArgumentException" ["java/lang/RuntimeException", "java/lang/Exception"]).filter goodWord ++ (vx_atS RX6 126 "java/lang/IndexOutOfBoundsException" ["java/lang/RuntimeException", "java/lang/Exception"]).filter goodWord)
def wsX6_changes : List Cond := .code yX6_changes cX6_changes 2 (some .int) :: ((wsX6_changes_r1 ++ wsX6_changes_r2) ++ wsX60 ++ wsX10 ++ wsX00 ++ (vx_atS RX6 126 "java/lang/IndexOutOfBoundsException" ["java/lang/RuntimeException", "java/lang/Exception"]).filter goodWord)
def wsX6_role : List Cond := .code yX6_role cX6_role 2 (some .int) :: ([.fieldLink RX6 33 "LayerStacks" "board" "LLayerStacks$Board;", .fieldLink RX6 174 "LayerStacks$Board" "copperNumbers" "[I", .methodLink RX6 60 yX6_requireLayer, .instanceMethod yX6_requireLayer, .selects RX6 yX6_requireLayer yX6_requireLayer, .initialized RX6, .code yX6_requireLayer cX6_requireLayer 2 none, .classLink RX6 122 "java/lang/IndexOutOfBoundsException", .initialized "java/lang/IndexOutOfBoundsException", .fieldLink RX6 56 "LayerStacks$Board" "layers" "I"] ++ wsX60 ++ wsX00 ++ (vx_atS RX6 126 "java/lang/IndexOutOfBoundsException" ["java/lang/RuntimeException", "java/lang/Exception"]).filter goodWord)
def wsX6_sum : List Cond := .code yX6_sum cX6_sum 3 (some .long) :: ((wsX6_sum_r1 ++ wsX6_sum_r2) ++ wsX60 ++ wsX00 ++ (vx_atS RX6 126 "java/lang/IndexOutOfBoundsException" ["java/lang/RuntimeException", "java/lang/Exception"]).filter goodWord)
def wsX6_write : List Cond := .code yX6_write cX6_write 2 (some .int) :: ([.classLink RX6 122 "java/lang/IndexOutOfBoundsException", .initialized "java/lang/IndexOutOfBoundsException", .fieldLink RX6 19 "LayerStacks" "writing" "LLayerStacks$Writing;", .methodLink RX6 151 yX6_requireStack, .instanceMethod yX6_requireStack, .selects RX6 yX6_requireStack yX6_requireStack, .initialized RX6, .code yX6_requireStack cX6_requireStack 1 none, .classLink RX6 72 "java/lang/IllegalStateException", .initialized "java/lang/IllegalStateException", .fieldLink RX6 33 "LayerStacks" "board" "LLayerStacks$Board;", .fieldLink RX6 56 "LayerStacks$Board" "layers" "I", .methodLink RX6 185 yX5_characterAt, .instanceMethod yX5_characterAt, .selects RX5 yX5_characterAt yX5_characterAt, .initialized RX5, .code yX5_characterAt cX5_characterAt 2 (some .int), .fieldLink RX5 18 "LayerStacks$Writing" "length" "I", .fieldLink RX5 9 "LayerStacks$Writing" "characters" "[C"] ++ wsX60 ++ wsX00 ++ wsX50 ++ (vx_atS RX6 126 "java/lang/IndexOutOfBoundsException" ["java/lang/RuntimeException", "java/lang/Exception"]).filter goodWord ++ (vx_atS RX6 76 "java/lang/IllegalStateException" ["java/lang/RuntimeException", "java/lang/Exception"]).filter goodWord)
set_option maxRecDepth 20000 in
theorem ggX6_thick_X6_requireLayer : GoodIn wsX6_thick wsX6_requireLayer := goodIn_ca (goodIn_r _ [10, 11, 12, 3, 13, 30, 31, 32, 33, 34, 35, 36, 37, 38, 39, 40, 41, 42, 43, 44, 45, 46] (by decide +kernel) (by decide +kernel)) (goodIn_sub (fun _ h => List.mem_cons_of_mem _ (List.mem_append_right _ h)) (by decide +kernel))
set_option maxRecDepth 20000 in
theorem gX6_thick_X6_requireLayer : GoodIn wsX6_thick (wsV RX6 60 RX6 yX6_requireLayer wsX6_requireLayer) := goodIn_app (goodIn_of _ (by decide +kernel)) ggX6_thick_X6_requireLayer
set_option maxRecDepth 20000 in
theorem ggX6_thick_X6_requireEndAndPart : GoodIn wsX6_thick wsX6_requireEndAndPart := goodIn_ca (goodIn_r _ [16, 11, 12] (by decide +kernel) (by decide +kernel)) (goodIn_sub (fun _ h => List.mem_cons_of_mem _ (List.mem_append_right _ h)) (by decide +kernel))
set_option maxRecDepth 20000 in
theorem gX6_thick_X6_requireEndAndPart : GoodIn wsX6_thick (va_wsS RX6 64 yX6_requireEndAndPart wsX6_requireEndAndPart) := goodIn_app (goodIn_of _ (by decide +kernel)) ggX6_thick_X6_requireEndAndPart
set_option maxRecDepth 20000 in
theorem ggX6_thick_X0_endInThousandths : GoodIn wsX6_thick wsX0_endInThousandths := goodIn_r _ [21, 22, 23, 35, 36, 37, 38, 39, 40, 41, 42, 43, 44, 45, 46] (by decide +kernel) (by decide +kernel)
set_option maxRecDepth 20000 in
theorem gX6_thick_X0_endInThousandths : GoodIn wsX6_thick (wsV RX6 79 RX0 yX0_endInThousandths wsX0_endInThousandths) := goodIn_app (goodIn_of _ (by decide +kernel)) ggX6_thick_X0_endInThousandths
set_option maxRecDepth 20000 in
theorem ggX6_thick_X6_partOfFraction : GoodIn wsX6_thick wsX6_partOfFraction := goodIn_r _ [26, 27, 28, 9, 29] (by decide +kernel) (by decide +kernel)
set_option maxRecDepth 20000 in
theorem gX6_thick_X6_partOfFraction : GoodIn wsX6_thick (va_wsS RX6 85 yX6_partOfFraction wsX6_partOfFraction) := goodIn_app (goodIn_of _ (by decide +kernel)) ggX6_thick_X6_partOfFraction
set_option maxRecDepth 20000 in
theorem ggX6_kind_X6_requireLayer : GoodIn wsX6_kind wsX6_requireLayer := goodIn_ca (goodIn_r _ [7, 8, 9, 1, 10, 11, 12, 13, 14, 15, 16, 17, 18, 19, 20, 21, 22, 23, 24, 25, 26, 27] (by decide +kernel) (by decide +kernel)) (goodIn_sub (fun _ h => List.mem_cons_of_mem _ (List.mem_append_right _ h)) (by decide +kernel))
set_option maxRecDepth 20000 in
theorem gX6_kind_X6_requireLayer : GoodIn wsX6_kind (wsV RX6 60 RX6 yX6_requireLayer wsX6_requireLayer) := goodIn_app (goodIn_of _ (by decide +kernel)) ggX6_kind_X6_requireLayer
set_option maxRecDepth 20000 in
theorem ggX6_via_X6_requireCopper : GoodIn wsX6_via wsX6_requireCopper := goodIn_ca (goodIn_r _ [14, 15, 16, 1, 17, 26, 27, 28, 29, 30, 31, 32, 33, 34, 35, 36, 37, 38, 39, 40, 41, 42] (by decide +kernel) (by decide +kernel)) (goodIn_sub (fun _ h => List.mem_cons_of_mem _ (List.mem_append_right _ h)) (by decide +kernel))
set_option maxRecDepth 20000 in
theorem gX6_via_X6_requireCopper : GoodIn wsX6_via (wsV RX6 89 RX6 yX6_requireCopper wsX6_requireCopper) := goodIn_app (goodIn_of _ (by decide +kernel)) ggX6_via_X6_requireCopper
set_option maxRecDepth 20000 in
theorem ggX6_via_X3_find : GoodIn wsX6_via wsX3_find := goodIn_r _ [22, 23, 24, 25, 43, 44, 45] (by decide +kernel) (by decide +kernel)
set_option maxRecDepth 20000 in
theorem gX6_via_X3_find : GoodIn wsX6_via (wsV RX6 105 RX3 yX3_find wsX3_find) := goodIn_app (goodIn_of _ (by decide +kernel)) ggX6_via_X3_find
set_option maxRecDepth 20000 in
theorem ggX6_pressed_X2_countRightInside : GoodIn wsX6_pressed wsX2_countRightInside := goodIn_r _ [13, 14, 15, 16, 12, 17, 18, 19, 20, 21, 22, 23, 24, 25, 26, 44, 45, 46, 47, 48] (by decide +kernel) (by decide +kernel)
set_option maxRecDepth 20000 in
theorem gX6_pressed_X2_countRightInside : GoodIn wsX6_pressed (wsV RX6 133 RX2 yX2_countRightInside wsX2_countRightInside) := goodIn_app (goodIn_of _ (by decide +kernel)) ggX6_pressed_X2_countRightInside
set_option maxRecDepth 20000 in
theorem ggX6_copper_X6_requireCopper : GoodIn wsX6_copper wsX6_requireCopper := goodIn_ca (goodIn_r _ [10, 11, 12, 4, 13, 21, 22, 23, 24, 25, 26, 27, 28, 29, 30, 31, 32, 33, 34, 35, 36, 37] (by decide +kernel) (by decide +kernel)) (goodIn_sub (fun _ h => List.mem_cons_of_mem _ (List.mem_append_right _ h)) (by decide +kernel))
set_option maxRecDepth 20000 in
theorem gX6_copper_X6_requireCopper : GoodIn wsX6_copper (wsV RX6 89 RX6 yX6_requireCopper wsX6_requireCopper) := goodIn_app (goodIn_of _ (by decide +kernel)) ggX6_copper_X6_requireCopper
set_option maxRecDepth 20000 in
theorem ggX6_copper_X0_changeShare : GoodIn wsX6_copper wsX0_changeShare := goodIn_r _ [18, 19, 20, 26, 27, 28, 29, 30, 31, 32, 33, 34, 35, 36, 37] (by decide +kernel) (by decide +kernel)
set_option maxRecDepth 20000 in
theorem gX6_copper_X0_changeShare : GoodIn wsX6_copper (wsV RX6 147 RX0 yX0_changeShare wsX0_changeShare) := goodIn_app (goodIn_of _ (by decide +kernel)) ggX6_copper_X0_changeShare
set_option maxRecDepth 20000 in
theorem ggX6_list_X6_requireStack : GoodIn wsX6_list wsX6_requireStack := goodIn_ca (goodIn_r _ [6, 7, 8, 9, 10, 23, 24, 25, 26, 27, 28, 29, 30, 31, 32, 33, 34, 35, 36, 37, 38, 39] (by decide +kernel) (by decide +kernel)) (goodIn_sub (fun _ h => List.mem_cons_of_mem _ (List.mem_append_right _ h)) (by decide +kernel))
set_option maxRecDepth 20000 in
theorem gX6_list_X6_requireStack : GoodIn wsX6_list (wsV RX6 151 RX6 yX6_requireStack wsX6_requireStack) := goodIn_app (goodIn_of _ (by decide +kernel)) ggX6_list_X6_requireStack
set_option maxRecDepth 20000 in
theorem ggX6_list_X1_open : GoodIn wsX6_list wsX1_open := goodIn_r _ [15, 16, 17, 18, 19, 20, 21, 22, 40, 41, 42] (by decide +kernel) (by decide +kernel)
set_option maxRecDepth 20000 in
theorem gX6_list_X1_open : GoodIn wsX6_list (wsV RX6 154 RX1 yX1_open wsX1_open) := goodIn_app (goodIn_of _ (by decide +kernel)) ggX6_list_X1_open
set_option maxRecDepth 20000 in
theorem ggX6_row_X6_requireList : GoodIn wsX6_row wsX6_requireList := goodIn_ca (goodIn_r _ [10, 11, 12, 5, 13, 27, 28, 29, 30, 31, 44, 45, 46] (by decide +kernel) (by decide +kernel)) (goodIn_sub (fun _ h => List.mem_cons_of_mem _ (List.mem_append_right _ h)) (by decide +kernel))
set_option maxRecDepth 20000 in
theorem gX6_row_X6_requireList : GoodIn wsX6_row (wsV RX6 158 RX6 yX6_requireList wsX6_requireList) := goodIn_app (goodIn_of _ (by decide +kernel)) ggX6_row_X6_requireList
set_option maxRecDepth 20000 in
theorem ggX6_row_X6_requireLayer : GoodIn wsX6_row wsX6_requireLayer := goodIn_ca (goodIn_r _ [17, 11, 12, 3, 18, 27, 28, 29, 30, 31, 32, 33, 34, 35, 36, 37, 38, 39, 40, 41, 42, 43] (by decide +kernel) (by decide +kernel)) (goodIn_sub (fun _ h => List.mem_cons_of_mem _ (List.mem_append_right _ h)) (by decide +kernel))
set_option maxRecDepth 20000 in
theorem gX6_row_X6_requireLayer : GoodIn wsX6_row (wsV RX6 60 RX6 yX6_requireLayer wsX6_requireLayer) := goodIn_app (goodIn_of _ (by decide +kernel)) ggX6_row_X6_requireLayer
set_option maxRecDepth 20000 in
theorem ggX6_row_X1_addRow : GoodIn wsX6_row wsX1_addRow := goodIn_r _ [23, 24, 25, 26, 44, 45, 46] (by decide +kernel) (by decide +kernel)
set_option maxRecDepth 20000 in
theorem gX6_row_X1_addRow : GoodIn wsX6_row (wsV RX6 163 RX1 yX1_addRow wsX1_addRow) := goodIn_app (goodIn_of _ (by decide +kernel)) ggX6_row_X1_addRow
set_option maxRecDepth 20000 in
theorem ggX6_changes_X6_requireList : GoodIn wsX6_changes wsX6_requireList := goodIn_ca (goodIn_r _ [7, 8, 9, 1, 10, 26, 27, 28, 29, 30, 31, 32, 33] (by decide +kernel) (by decide +kernel)) (goodIn_sub (fun _ h => List.mem_cons_of_mem _ (List.mem_append_right _ h)) (by decide +kernel))
set_option maxRecDepth 20000 in
theorem gX6_changes_X6_requireList : GoodIn wsX6_changes (wsV RX6 158 RX6 yX6_requireList wsX6_requireList) := goodIn_app (goodIn_of _ (by decide +kernel)) ggX6_changes_X6_requireList
set_option maxRecDepth 20000 in
theorem ggX6_changes_X1_countChanges : GoodIn wsX6_changes wsX1_countChanges := goodIn_r _ [15, 16, 17, 18, 19, 20, 21, 14, 22, 23, 24, 25, 34, 35, 36, 37, 38, 39, 40, 41, 42, 43, 44, 45, 31, 32, 33] (by decide +kernel) (by decide +kernel)
set_option maxRecDepth 20000 in
theorem gX6_changes_X1_countChanges : GoodIn wsX6_changes (wsV RX6 170 RX1 yX1_countChanges wsX1_countChanges) := goodIn_app (goodIn_of _ (by decide +kernel)) ggX6_changes_X1_countChanges
set_option maxRecDepth 20000 in
theorem ggX6_role_X6_requireLayer : GoodIn wsX6_role wsX6_requireLayer := goodIn_ca (goodIn_r _ [7, 8, 9, 1, 10, 11, 12, 13, 14, 15, 16, 17, 18, 19, 20, 21, 22, 23, 24, 25, 26, 27] (by decide +kernel) (by decide +kernel)) (goodIn_sub (fun _ h => List.mem_cons_of_mem _ (List.mem_append_right _ h)) (by decide +kernel))
set_option maxRecDepth 20000 in
theorem gX6_role_X6_requireLayer : GoodIn wsX6_role (wsV RX6 60 RX6 yX6_requireLayer wsX6_requireLayer) := goodIn_app (goodIn_of _ (by decide +kernel)) ggX6_role_X6_requireLayer
set_option maxRecDepth 20000 in
theorem ggX6_sum_X6_requireEndAndPart : GoodIn wsX6_sum wsX6_requireEndAndPart := goodIn_ca (goodIn_r _ [6, 7, 8] (by decide +kernel) (by decide +kernel)) (goodIn_sub (fun _ h => List.mem_cons_of_mem _ (List.mem_append_right _ h)) (by decide +kernel))
set_option maxRecDepth 20000 in
theorem gX6_sum_X6_requireEndAndPart : GoodIn wsX6_sum (va_wsS RX6 64 yX6_requireEndAndPart wsX6_requireEndAndPart) := goodIn_app (goodIn_of _ (by decide +kernel)) ggX6_sum_X6_requireEndAndPart
set_option maxRecDepth 20000 in
theorem ggX6_sum_X0_sumInMillionths : GoodIn wsX6_sum wsX0_sumInMillionths := goodIn_r _ [13, 14, 15, 16, 17, 18, 12, 19, 20, 21, 33, 34, 35, 36, 37, 38, 39, 40, 41, 42, 43, 44] (by decide +kernel) (by decide +kernel)
set_option maxRecDepth 20000 in
theorem gX6_sum_X0_sumInMillionths : GoodIn wsX6_sum (wsV RX6 177 RX0 yX0_sumInMillionths wsX0_sumInMillionths) := goodIn_app (goodIn_of _ (by decide +kernel)) ggX6_sum_X0_sumInMillionths
set_option maxRecDepth 20000 in
theorem ggX6_sum_X6_partOfFraction : GoodIn wsX6_sum wsX6_partOfFraction := goodIn_r _ [24, 25, 26, 5, 27] (by decide +kernel) (by decide +kernel)
set_option maxRecDepth 20000 in
theorem gX6_sum_X6_partOfFraction : GoodIn wsX6_sum (va_wsS RX6 85 yX6_partOfFraction wsX6_partOfFraction) := goodIn_app (goodIn_of _ (by decide +kernel)) ggX6_sum_X6_partOfFraction
set_option maxRecDepth 20000 in
theorem ggX6_write_X6_requireStack : GoodIn wsX6_write wsX6_requireStack := goodIn_ca (goodIn_r _ [8, 9, 10, 11, 12, 20, 21, 22, 23, 24, 25, 26, 27, 28, 29, 30, 31, 32, 33, 34, 35, 36] (by decide +kernel) (by decide +kernel)) (goodIn_sub (fun _ h => List.mem_cons_of_mem _ (List.mem_append_right _ h)) (by decide +kernel))
set_option maxRecDepth 20000 in
theorem gX6_write_X6_requireStack : GoodIn wsX6_write (wsV RX6 151 RX6 yX6_requireStack wsX6_requireStack) := goodIn_app (goodIn_of _ (by decide +kernel)) ggX6_write_X6_requireStack
set_option maxRecDepth 20000 in
theorem ggX6_write_X5_characterAt : GoodIn wsX6_write wsX5_characterAt := goodIn_r _ [17, 18, 19, 37, 38, 39] (by decide +kernel) (by decide +kernel)
set_option maxRecDepth 20000 in
theorem gX6_write_X5_characterAt : GoodIn wsX6_write (wsV RX6 185 RX5 yX5_characterAt wsX5_characterAt) := goodIn_app (goodIn_of _ (by decide +kernel)) ggX6_write_X5_characterAt
