set_option maxRecDepth 20000 in
theorem ggX9_copy_X2_init : GoodIn wsX9_copy wsX2_init := goodIn_r _ [10, 11, 12, 13, 14, 15, 16, 17, 18, 198, 199] (by decide +kernel) (by decide +kernel)
set_option maxRecDepth 20000 in
theorem gX9_copy_X2_init : GoodIn wsX9_copy (wsX2_init) := ggX9_copy_X2_init
set_option maxRecDepth 20000 in
theorem ggX9_copy_X9_changeReferences : GoodIn wsX9_copy wsX9_changeReferences := goodIn_r _ [23, 24, 25, 26, 27, 28, 22, 29, 30, 31, 32, 33, 34, 35, 36, 37, 38, 39, 40, 41, 42, 43, 44, 45, 46, 47, 48, 49, 50, 51, 52, 53, 54, 55, 56, 57, 58, 59, 60, 61, 62, 63, 64, 65, 66, 67, 68, 69, 7, 70, 71, 72, 11, 73, 12, 74, 75, 76, 77, 78, 79, 80, 81, 82, 83, 84, 85, 86, 87, 88, 89, 90, 91, 92, 93, 94, 95, 96, 97, 98, 99, 100, 101, 102, 103, 104, 105, 106, 107, 108, 109, 110, 111, 112, 113, 114, 115, 116, 117, 118, 119, 120, 121, 122, 123, 124, 125, 126, 127, 128, 129, 130, 131, 132, 133, 134, 135, 136, 137, 138, 139, 140, 141, 142, 143, 144, 145, 146, 147, 148, 149, 150, 151, 152, 153, 154, 155, 156, 157, 158, 159, 160, 161, 162, 163, 164, 165, 166, 167, 168, 169, 170, 171, 172, 173, 174, 175, 176, 177, 178, 179, 180, 181, 182, 183, 184, 185, 186, 187, 188, 189, 190, 191, 192, 193, 194, 195, 196, 197, 200, 201, 202, 203, 204, 205, 206, 207, 208, 209, 210, 211, 212, 213, 198, 199, 214, 215, 216, 217, 218, 219, 220, 221, 222, 223, 224, 225, 226, 227, 228, 229, 230, 231, 232] (by decide +kernel) (by decide +kernel)
set_option maxRecDepth 20000 in
theorem gX9_copy_X9_changeReferences : GoodIn wsX9_copy (wsV RX9 77 RX9 yX9_changeReferences wsX9_changeReferences) := goodIn_app (goodIn_of _ (by decide +kernel)) ggX9_copy_X9_changeReferences
set_option maxRecDepth 20000 in
theorem ggX9_insert_X9_checkLines : GoodIn wsX9_insert wsX9_checkLines := goodIn_ca (goodIn_r _ [7, 8, 9, 10, 11, 12, 6, 13, 14, 15, 16] (by decide +kernel) (by decide +kernel)) (goodIn_sub (fun _ h => List.mem_cons_of_mem _ (List.mem_append_right _ h)) (by decide +kernel))
set_option maxRecDepth 20000 in
theorem gX9_insert_X9_checkLines : GoodIn wsX9_insert (va_wsS RX9 81 yX9_checkLines wsX9_checkLines) := goodIn_app (goodIn_of _ (by decide +kernel)) ggX9_insert_X9_checkLines
set_option maxRecDepth 20000 in
theorem ggX9_insert_X4_init : GoodIn wsX9_insert wsX4_init := goodIn_r _ [19, 20, 21, 22, 23, 24, 25, 26, 27, 28, 29, 30, 31, 32, 33, 34, 209, 210, 211, 212, 213, 214, 215, 216, 217, 218] (by decide +kernel) (by decide +kernel)
set_option maxRecDepth 20000 in
theorem gX9_insert_X4_init : GoodIn wsX9_insert (wsX4_init) := ggX9_insert_X4_init
set_option maxRecDepth 20000 in
theorem ggX9_insert_X9_changeReferences : GoodIn wsX9_insert wsX9_changeReferences := goodIn_r _ [38, 39, 40, 41, 42, 43, 6, 44, 45, 46, 47, 48, 49, 50, 51, 52, 53, 54, 55, 56, 57, 58, 59, 60, 61, 62, 63, 64, 65, 66, 67, 68, 69, 70, 71, 72, 73, 74, 75, 76, 77, 78, 79, 80, 81, 82, 83, 84, 85, 86, 87, 88, 89, 90, 91, 92, 93, 94, 95, 96, 15, 16, 97, 98, 99, 100, 101, 102, 103, 104, 22, 105, 24, 25, 26, 106, 107, 108, 109, 110, 111, 112, 113, 114, 115, 116, 117, 3, 118, 119, 120, 121, 122, 123, 124, 125, 126, 127, 128, 129, 130, 131, 132, 133, 134, 135, 136, 137, 138, 139, 140, 141, 142, 143, 144, 145, 146, 147, 148, 149, 150, 151, 152, 153, 154, 155, 156, 157, 158, 159, 160, 161, 162, 163, 164, 165, 166, 167, 168, 169, 170, 171, 172, 173, 174, 175, 176, 177, 178, 179, 180, 181, 182, 183, 184, 185, 186, 187, 188, 189, 190, 191, 192, 193, 194, 195, 196, 197, 198, 199, 200, 201, 202, 203, 204, 205, 206, 207, 208, 219, 220, 221, 222, 223, 224, 225, 226, 227, 228, 229, 230, 231, 232, 233, 234, 209, 210, 211, 212, 213, 214, 215, 216, 217, 218, 235, 236, 237, 238, 239, 240, 241, 242, 243] (by decide +kernel) (by decide +kernel)
set_option maxRecDepth 20000 in
theorem gX9_insert_X9_changeReferences : GoodIn wsX9_insert (wsV RX9 77 RX9 yX9_changeReferences wsX9_changeReferences) := goodIn_app (goodIn_of _ (by decide +kernel)) ggX9_insert_X9_changeReferences
set_option maxRecDepth 20000 in
theorem ggX9_delete_X9_checkLines : GoodIn wsX9_delete wsX9_checkLines := goodIn_ca (goodIn_r _ [7, 8, 9, 10, 11, 12, 6, 13, 14, 15, 16] (by decide +kernel) (by decide +kernel)) (goodIn_sub (fun _ h => List.mem_cons_of_mem _ (List.mem_append_right _ h)) (by decide +kernel))
set_option maxRecDepth 20000 in
theorem gX9_delete_X9_checkLines : GoodIn wsX9_delete (va_wsS RX9 81 yX9_checkLines wsX9_checkLines) := goodIn_app (goodIn_of _ (by decide +kernel)) ggX9_delete_X9_checkLines
set_option maxRecDepth 20000 in
theorem ggX9_delete_X5_init : GoodIn wsX9_delete wsX5_init := goodIn_r _ [19, 20, 21, 22, 23, 24, 25, 26, 27, 28, 29, 30, 31, 32, 33, 34, 214, 215, 216, 217, 218, 209, 210, 211, 212, 213] (by decide +kernel) (by decide +kernel)
set_option maxRecDepth 20000 in
theorem gX9_delete_X5_init : GoodIn wsX9_delete (wsX5_init) := ggX9_delete_X5_init
set_option maxRecDepth 20000 in
theorem ggX9_delete_X9_changeReferences : GoodIn wsX9_delete wsX9_changeReferences := goodIn_r _ [38, 39, 40, 41, 42, 43, 6, 44, 45, 46, 47, 48, 49, 50, 51, 52, 53, 54, 55, 56, 57, 58, 59, 60, 61, 62, 63, 64, 65, 66, 67, 68, 69, 70, 71, 72, 73, 74, 75, 76, 77, 78, 79, 80, 81, 82, 83, 84, 85, 86, 87, 88, 89, 90, 91, 92, 93, 94, 95, 96, 15, 16, 97, 98, 99, 100, 101, 102, 103, 104, 22, 105, 24, 25, 26, 106, 107, 108, 109, 110, 111, 112, 113, 114, 115, 116, 117, 118, 119, 120, 121, 122, 123, 124, 125, 126, 127, 128, 129, 130, 131, 132, 133, 134, 135, 3, 136, 137, 138, 139, 140, 141, 142, 143, 144, 145, 146, 147, 148, 149, 150, 151, 152, 153, 154, 155, 156, 157, 158, 159, 160, 161, 162, 163, 164, 165, 166, 167, 168, 169, 170, 171, 172, 173, 174, 175, 176, 177, 178, 179, 180, 181, 182, 183, 184, 185, 186, 187, 188, 189, 190, 191, 192, 193, 194, 195, 196, 197, 198, 199, 200, 201, 202, 203, 204, 205, 206, 207, 208, 219, 220, 221, 222, 223, 224, 225, 226, 227, 228, 229, 230, 231, 232, 233, 234, 214, 215, 216, 217, 218, 209, 210, 211, 212, 213, 235, 236, 237, 238, 239, 240, 241, 242, 243] (by decide +kernel) (by decide +kernel)
set_option maxRecDepth 20000 in
theorem gX9_delete_X9_changeReferences : GoodIn wsX9_delete (wsV RX9 77 RX9 yX9_changeReferences wsX9_changeReferences) := goodIn_app (goodIn_of _ (by decide +kernel)) ggX9_delete_X9_changeReferences
set_option maxRecDepth 20000 in
theorem ggX9_move_X9_isSheet : GoodIn wsX9_move wsX9_isSheet := goodIn_r _ [18] (by decide +kernel) (by decide +kernel)
set_option maxRecDepth 20000 in
theorem gX9_move_X9_isSheet : GoodIn wsX9_move (va_wsS RX9 92 yX9_isSheet wsX9_isSheet) := goodIn_app (goodIn_of _ (by decide +kernel)) ggX9_move_X9_isSheet
set_option maxRecDepth 20000 in
theorem ggX9_move_X9_isLine : GoodIn wsX9_move wsX9_isLine := goodIn_r _ [21] (by decide +kernel) (by decide +kernel)
set_option maxRecDepth 20000 in
theorem gX9_move_X9_isLine : GoodIn wsX9_move (va_wsS RX9 49 yX9_isLine wsX9_isLine) := goodIn_app (goodIn_of _ (by decide +kernel)) ggX9_move_X9_isLine
set_option maxRecDepth 20000 in
theorem ggX9_move_X0_init : GoodIn wsX9_move wsX0_init := goodIn_r _ [24, 25, 26, 27, 28, 29, 30, 31, 32, 216, 217, 218, 219, 220] (by decide +kernel) (by decide +kernel)
set_option maxRecDepth 20000 in
theorem gX9_move_X0_init : GoodIn wsX9_move (wsX0_init) := ggX9_move_X0_init
set_option maxRecDepth 20000 in
theorem ggX9_move_X6_init : GoodIn wsX9_move wsX6_init := goodIn_r _ [35, 36, 37, 38, 39, 40, 41, 42, 43, 26, 27, 221, 222, 223, 224] (by decide +kernel) (by decide +kernel)
set_option maxRecDepth 20000 in
theorem gX9_move_X6_init : GoodIn wsX9_move (wsX6_init) := ggX9_move_X6_init
set_option maxRecDepth 20000 in
theorem ggX9_move_X9_changeReferences : GoodIn wsX9_move wsX9_changeReferences := goodIn_r _ [47, 48, 49, 50, 51, 52, 17, 53, 54, 55, 56, 57, 58, 59, 60, 61, 62, 63, 64, 65, 66, 67, 68, 69, 70, 71, 72, 73, 74, 75, 76, 77, 78, 79, 80, 81, 82, 83, 84, 85, 86, 87, 88, 89, 90, 91, 92, 93, 94, 95, 96, 97, 98, 99, 100, 101, 102, 103, 104, 105, 20, 21, 106, 107, 108, 109, 110, 111, 112, 113, 114, 115, 116, 117, 118, 119, 120, 121, 122, 123, 124, 125, 126, 127, 128, 129, 130, 131, 132, 133, 134, 135, 136, 137, 138, 139, 140, 141, 142, 143, 144, 145, 146, 147, 148, 149, 150, 151, 152, 153, 154, 155, 156, 157, 158, 159, 160, 161, 14, 162, 36, 38, 163, 39, 164, 165, 166, 167, 168, 37, 169, 170, 171, 172, 11, 173, 28, 174, 29, 31, 175, 30, 32, 176, 177, 178, 179, 180, 181, 182, 183, 184, 185, 186, 187, 188, 189, 190, 191, 192, 193, 194, 195, 196, 197, 198, 199, 200, 201, 202, 203, 204, 205, 206, 207, 208, 209, 210, 211, 212, 213, 214, 215, 225, 226, 227, 228, 229, 230, 231, 232, 233, 234, 235, 236, 237, 238, 239, 240, 241, 242, 243, 244, 245, 246, 221, 222, 223, 224, 216, 217, 218, 219, 220] (by decide +kernel) (by decide +kernel)
set_option maxRecDepth 20000 in
theorem gX9_move_X9_changeReferences : GoodIn wsX9_move (wsV RX9 77 RX9 yX9_changeReferences wsX9_changeReferences) := goodIn_app (goodIn_of _ (by decide +kernel)) ggX9_move_X9_changeReferences
set_option maxRecDepth 20000 in
theorem ggX9_checkLines_X9_isSheet : GoodIn wsX9_checkLines wsX9_isSheet := goodIn_r _ [7] (by decide +kernel) (by decide +kernel)
set_option maxRecDepth 20000 in
theorem gX9_checkLines_X9_isSheet : GoodIn wsX9_checkLines (va_wsS RX9 92 yX9_isSheet wsX9_isSheet) := goodIn_app (goodIn_of _ (by decide +kernel)) ggX9_checkLines_X9_isSheet
set_option maxRecDepth 20000 in
theorem ggX9_checkLines_X9_isLine : GoodIn wsX9_checkLines wsX9_isLine := goodIn_r _ [10] (by decide +kernel) (by decide +kernel)
set_option maxRecDepth 20000 in
theorem gX9_checkLines_X9_isLine : GoodIn wsX9_checkLines (va_wsS RX9 49 yX9_isLine wsX9_isLine) := goodIn_app (goodIn_of _ (by decide +kernel)) ggX9_checkLines_X9_isLine
theorem dJ9_min_7cf53_0 : decode cJ9_min_7cf53 0 = .ok (.iload_n 0, 1) := by decide +kernel
theorem dJ9_min_7cf53_1 : decode cJ9_min_7cf53 1 = .ok (.iload_n 1, 1) := by decide +kernel
theorem dJ9_min_7cf53_2 : decode cJ9_min_7cf53 2 = .ok (.if_icmp .gt 7, 3) := by decide +kernel
theorem dJ9_min_7cf53_5 : decode cJ9_min_7cf53 5 = .ok (.iload_n 0, 1) := by decide +kernel
theorem dJ9_min_7cf53_6 : decode cJ9_min_7cf53 6 = .ok (.goto 4, 3) := by decide +kernel
theorem dJ9_min_7cf53_9 : decode cJ9_min_7cf53 9 = .ok (.iload_n 1, 1) := by decide +kernel
theorem dJ9_min_7cf53_10 : decode cJ9_min_7cf53 10 = .ok (.ireturn, 1) := by decide +kernel
