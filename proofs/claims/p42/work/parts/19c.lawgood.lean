set_option maxRecDepth 20000 in
theorem ggL_init_X1_init : GoodIn wsL_init wsX1_init := goodIn_r _ [10, 11, 2, 3, 12, 13, 14, 15, 16, 17, 18, 19, 20, 21, 22, 23, 24, 25, 26, 27, 28, 29, 30, 31, 36, 37, 38, 39, 40, 41, 42, 43] (by decide +kernel) (by decide +kernel)
set_option maxRecDepth 20000 in
theorem gL_init_X1_init : GoodIn wsL_init (wsX1_init) := ggL_init_X1_init
set_option maxRecDepth 20000 in
theorem ggL_draw_L_stirred : GoodIn wsL_draw wsL_stirred := goodIn_r _ [8, 9, 10] (by decide +kernel) (by decide +kernel)
set_option maxRecDepth 20000 in
theorem gL_draw_L_stirred : GoodIn wsL_draw (va_wsS RL 25 yL_stirred wsL_stirred) := goodIn_app (goodIn_of _ (by decide +kernel)) ggL_draw_L_stirred
set_option maxRecDepth 20000 in
theorem ggL_draw_L_cell : GoodIn wsL_draw wsL_cell := goodIn_r _ [13, 9] (by decide +kernel) (by decide +kernel)
set_option maxRecDepth 20000 in
theorem gL_draw_L_cell : GoodIn wsL_draw (va_wsS RL 32 yL_cell wsL_cell) := goodIn_app (goodIn_of _ (by decide +kernel)) ggL_draw_L_cell
set_option maxRecDepth 20000 in
theorem ggL_draw_L_mixed : GoodIn wsL_draw wsL_mixed := goodIn_r _ [16, 17, 18, 19] (by decide +kernel) (by decide +kernel)
set_option maxRecDepth 20000 in
theorem gL_draw_L_mixed : GoodIn wsL_draw (va_wsS RL 36 yL_mixed wsL_mixed) := goodIn_app (goodIn_of _ (by decide +kernel)) ggL_draw_L_mixed
set_option maxRecDepth 20000 in
theorem ggL_anyKind_L_draw : GoodIn wsL_anyKind wsL_draw := goodIn_r _ [5, 6, 7, 8, 9, 10, 11, 4, 12, 13, 14, 15, 16, 17, 18, 19, 20, 21, 22, 23, 24, 25, 26, 27] (by decide +kernel) (by decide +kernel)
set_option maxRecDepth 20000 in
theorem gL_anyKind_L_draw : GoodIn wsL_anyKind (wsV RL 45 RL yL_draw wsL_draw) := goodIn_app (goodIn_of _ (by decide +kernel)) ggL_anyKind_L_draw
set_option maxRecDepth 20000 in
theorem ggL_isSeen_L_anyKind : GoodIn wsL_isSeen wsL_anyKind := goodIn_r _ [8, 9, 10, 11, 7, 12, 13, 14, 15, 16, 17, 18, 19, 20, 21, 22, 23, 24, 25, 26, 27, 28, 29, 30, 214, 215, 216, 217] (by decide +kernel) (by decide +kernel)
set_option maxRecDepth 20000 in
theorem gL_isSeen_L_anyKind : GoodIn wsL_isSeen (wsV RL 51 RL yL_anyKind wsL_anyKind) := goodIn_app (goodIn_of _ (by decide +kernel)) ggL_isSeen_L_anyKind
set_option maxRecDepth 20000 in
theorem ggL_isSeen_L_draw : GoodIn wsL_isSeen wsL_draw := goodIn_r _ [12, 13, 14, 15, 16, 17, 18, 7, 19, 20, 21, 22, 23, 24, 25, 26, 27, 28, 29, 30, 214, 215, 216, 217] (by decide +kernel) (by decide +kernel)
set_option maxRecDepth 20000 in
theorem gL_isSeen_L_draw : GoodIn wsL_isSeen (wsV RL 45 RL yL_draw wsL_draw) := goodIn_app (goodIn_of _ (by decide +kernel)) ggL_isSeen_L_draw
set_option maxRecDepth 20000 in
theorem ggL_isSeen_X1_allocate : GoodIn wsL_isSeen wsX1_allocate := goodIn_ca (goodIn_ca (goodIn_r _ [35, 36, 37, 38, 39, 34, 40, 41, 42, 43, 44, 45, 46, 47, 48, 49, 50, 51, 52, 53, 54, 55, 56, 57, 58, 59, 60, 61, 62, 63, 64, 65, 66, 67, 68, 69, 70, 71, 72, 73, 74, 75, 218, 219, 220, 221, 222, 223, 224, 225, 226, 227, 228, 229] (by decide +kernel) (by decide +kernel)) (goodIn_sub (fun _ h => List.mem_cons_of_mem _ (List.mem_append_left _ (List.mem_append_left _ (List.mem_append_left _ (List.mem_append_right _ h))))) (by decide +kernel))) (goodIn_sub (fun _ h => List.mem_cons_of_mem _ (List.mem_append_left _ (List.mem_append_left _ (List.mem_append_right _ h)))) (by decide +kernel))
set_option maxRecDepth 20000 in
theorem gL_isSeen_X1_allocate : GoodIn wsL_isSeen (wsV RL 55 RX1 yX1_allocate wsX1_allocate) := goodIn_app (goodIn_of _ (by decide +kernel)) ggL_isSeen_X1_allocate
set_option maxRecDepth 20000 in
theorem ggL_isSeen_X1_fill : GoodIn wsL_isSeen wsX1_fill := goodIn_ca (goodIn_ca (goodIn_ca (goodIn_ca (goodIn_r _ [79, 80, 81, 82, 83, 34, 84, 45, 46, 37, 38, 39, 40, 41, 42, 43, 44, 55, 56, 57, 58, 59, 60, 85, 86, 87, 50, 51, 88, 89, 90, 91, 92, 93, 94, 95, 96, 97, 98, 99, 100, 101, 102, 74, 73, 103, 104, 105, 106, 107, 108, 109, 110, 66, 67, 111, 112, 113, 114, 115, 222, 223, 224, 225, 226, 227, 228, 229, 218, 219, 220, 221] (by decide +kernel) (by decide +kernel)) (goodIn_sub (fun _ h => List.mem_cons_of_mem _ (List.mem_append_left _ (List.mem_append_left _ (List.mem_append_left _ (List.mem_append_right _ h))))) (by decide +kernel))) (goodIn_sub (fun _ h => List.mem_cons_of_mem _ (List.mem_append_left _ (List.mem_append_left _ (List.mem_append_right _ h)))) (by decide +kernel))) (goodIn_sub (fun _ h => List.mem_cons_of_mem _ (List.mem_append_left _ (List.mem_append_right _ h))) (by decide +kernel))) (goodIn_sub (fun _ h => List.mem_cons_of_mem _ (List.mem_append_right _ h)) (by decide +kernel))
set_option maxRecDepth 20000 in
theorem gL_isSeen_X1_fill : GoodIn wsL_isSeen (wsV RL 59 RX1 yX1_fill wsX1_fill) := goodIn_app (goodIn_of _ (by decide +kernel)) ggL_isSeen_X1_fill
set_option maxRecDepth 20000 in
theorem ggL_isSeen_X1_flip : GoodIn wsL_isSeen wsX1_flip := goodIn_ca (goodIn_r _ [119, 80, 120, 81, 82, 83, 34, 84, 45, 46, 37, 38, 39, 40, 41, 42, 43, 44, 55, 56, 57, 58, 59, 60, 121, 70, 71, 72, 73, 74, 75, 222, 223, 224, 225, 226, 227, 228, 229, 218, 219, 220, 221] (by decide +kernel) (by decide +kernel)) (goodIn_sub (fun _ h => List.mem_cons_of_mem _ (List.mem_append_left _ (List.mem_append_left _ (List.mem_append_left _ (List.mem_append_right _ h))))) (by decide +kernel))
set_option maxRecDepth 20000 in
theorem gL_isSeen_X1_flip : GoodIn wsL_isSeen (wsV RL 63 RX1 yX1_flip wsX1_flip) := goodIn_app (goodIn_of _ (by decide +kernel)) ggL_isSeen_X1_flip
set_option maxRecDepth 20000 in
theorem ggL_isSeen_X1_duplicate : GoodIn wsL_isSeen wsX1_duplicate := goodIn_ca (goodIn_r _ [125, 81, 82, 83, 34, 84, 45, 46, 37, 38, 39, 40, 41, 42, 43, 44, 55, 56, 57, 58, 59, 60, 126, 127, 128, 129, 65, 66, 67, 68, 73, 74, 75, 99, 100, 101, 102, 218, 219, 220, 221, 222, 223, 224, 225, 226, 227, 228, 229] (by decide +kernel) (by decide +kernel)) (goodIn_sub (fun _ h => List.mem_cons_of_mem _ (List.mem_append_left _ (List.mem_append_left _ (List.mem_append_left _ (List.mem_append_right _ h))))) (by decide +kernel))
set_option maxRecDepth 20000 in
theorem gL_isSeen_X1_duplicate : GoodIn wsL_isSeen (wsV RL 66 RX1 yX1_duplicate wsX1_duplicate) := goodIn_app (goodIn_of _ (by decide +kernel)) ggL_isSeen_X1_duplicate
set_option maxRecDepth 20000 in
theorem ggL_isSeen_X1_readOnly : GoodIn wsL_isSeen wsX1_readOnly := goodIn_ca (goodIn_r _ [133, 93, 81, 82, 83, 34, 84, 45, 46, 37, 38, 39, 40, 41, 42, 43, 44, 55, 56, 57, 58, 59, 60, 126, 127, 128, 129, 65, 66, 67, 68, 73, 74, 75, 99, 100, 101, 102, 222, 223, 224, 225, 226, 227, 228, 229, 218, 219, 220, 221] (by decide +kernel) (by decide +kernel)) (goodIn_sub (fun _ h => List.mem_cons_of_mem _ (List.mem_append_left _ (List.mem_append_left _ (List.mem_append_left _ (List.mem_append_right _ h))))) (by decide +kernel))
set_option maxRecDepth 20000 in
theorem gL_isSeen_X1_readOnly : GoodIn wsL_isSeen (wsV RL 69 RX1 yX1_readOnly wsX1_readOnly) := goodIn_app (goodIn_of _ (by decide +kernel)) ggL_isSeen_X1_readOnly
set_option maxRecDepth 20000 in
theorem ggL_isSeen_X1_placeAt : GoodIn wsL_isSeen wsX1_placeAt := goodIn_ca (goodIn_ca (goodIn_r _ [137, 120, 80, 81, 82, 83, 34, 84, 45, 46, 37, 38, 39, 40, 41, 42, 43, 44, 55, 56, 57, 58, 59, 60, 138, 139, 140, 50, 51, 141, 142, 143, 144, 75, 222, 223, 224, 225, 226, 227, 228, 229, 218, 219, 220, 221] (by decide +kernel) (by decide +kernel)) (goodIn_sub (fun _ h => List.mem_cons_of_mem _ (List.mem_append_left _ (List.mem_append_left _ (List.mem_append_left _ (List.mem_append_right _ h))))) (by decide +kernel))) (goodIn_sub (fun _ h => List.mem_cons_of_mem _ (List.mem_append_left _ (List.mem_append_left _ (List.mem_append_right _ h)))) (by decide +kernel))
set_option maxRecDepth 20000 in
theorem gL_isSeen_X1_placeAt : GoodIn wsL_isSeen (wsV RL 72 RX1 yX1_placeAt wsX1_placeAt) := goodIn_app (goodIn_of _ (by decide +kernel)) ggL_isSeen_X1_placeAt
set_option maxRecDepth 20000 in
theorem ggL_isSeen_X1_slice : GoodIn wsL_isSeen wsX1_slice := goodIn_ca (goodIn_r _ [148, 80, 149, 81, 82, 83, 34, 84, 45, 46, 37, 38, 39, 40, 41, 42, 43, 44, 55, 56, 57, 58, 59, 60, 99, 100, 101, 102, 74, 73, 150, 151, 152, 153, 65, 66, 67, 68, 69, 70, 71, 72, 75, 222, 223, 224, 225, 226, 227, 228, 229, 218, 219, 220, 221] (by decide +kernel) (by decide +kernel)) (goodIn_sub (fun _ h => List.mem_cons_of_mem _ (List.mem_append_left _ (List.mem_append_left _ (List.mem_append_left _ (List.mem_append_right _ h))))) (by decide +kernel))
set_option maxRecDepth 20000 in
theorem gL_isSeen_X1_slice : GoodIn wsL_isSeen (wsV RL 75 RX1 yX1_slice wsX1_slice) := goodIn_app (goodIn_of _ (by decide +kernel)) ggL_isSeen_X1_slice
set_option maxRecDepth 20000 in
theorem ggL_isSeen_X1_sliceAt : GoodIn wsL_isSeen wsX1_sliceAt := goodIn_ca (goodIn_r _ [157, 120, 149, 81, 82, 83, 34, 84, 45, 46, 37, 38, 39, 40, 41, 42, 43, 44, 55, 56, 57, 58, 59, 60, 158, 159, 160, 150, 151, 152, 153, 65, 66, 67, 68, 69, 70, 71, 72, 73, 74, 75, 222, 223, 224, 225, 226, 227, 228, 229, 218, 219, 220, 221] (by decide +kernel) (by decide +kernel)) (goodIn_sub (fun _ h => List.mem_cons_of_mem _ (List.mem_append_left _ (List.mem_append_left _ (List.mem_append_left _ (List.mem_append_right _ h))))) (by decide +kernel))
set_option maxRecDepth 20000 in
theorem gL_isSeen_X1_sliceAt : GoodIn wsL_isSeen (wsV RL 78 RX1 yX1_sliceAt wsX1_sliceAt) := goodIn_app (goodIn_of _ (by decide +kernel)) ggL_isSeen_X1_sliceAt
set_option maxRecDepth 20000 in
theorem ggL_isSeen_X1_getAt : GoodIn wsL_isSeen wsX1_getAt := goodIn_ca (goodIn_r _ [164, 120, 81, 82, 83, 34, 84, 45, 46, 37, 38, 39, 40, 41, 42, 43, 44, 55, 56, 57, 58, 59, 60, 165, 166, 167, 168, 66, 67, 222, 223, 224, 225, 226, 227, 228, 229, 218, 219, 220, 221] (by decide +kernel) (by decide +kernel)) (goodIn_sub (fun _ h => List.mem_cons_of_mem _ (List.mem_append_left _ (List.mem_append_left _ (List.mem_append_left _ (List.mem_append_right _ h))))) (by decide +kernel))
set_option maxRecDepth 20000 in
theorem gL_isSeen_X1_getAt : GoodIn wsL_isSeen (wsV RL 85 RX1 yX1_getAt wsX1_getAt) := goodIn_app (goodIn_of _ (by decide +kernel)) ggL_isSeen_X1_getAt
set_option maxRecDepth 20000 in
theorem ggL_isSeen_X1_putAt : GoodIn wsL_isSeen wsX1_putAt := goodIn_ca (goodIn_ca (goodIn_r _ [172, 120, 81, 82, 83, 34, 84, 45, 46, 37, 38, 39, 40, 41, 42, 43, 44, 55, 56, 57, 58, 59, 60, 88, 89, 90, 91, 92, 93, 165, 166, 167, 168, 66, 67, 173, 108, 109, 110, 111, 112, 113, 114, 115, 222, 223, 224, 225, 226, 227, 228, 229, 218, 219, 220, 221] (by decide +kernel) (by decide +kernel)) (goodIn_sub (fun _ h => List.mem_cons_of_mem _ (List.mem_append_left _ (List.mem_append_left _ (List.mem_append_left _ (List.mem_append_right _ h))))) (by decide +kernel))) (goodIn_sub (fun _ h => List.mem_cons_of_mem _ (List.mem_append_left _ (List.mem_append_right _ h))) (by decide +kernel))
set_option maxRecDepth 20000 in
theorem gL_isSeen_X1_putAt : GoodIn wsL_isSeen (wsV RL 89 RX1 yX1_putAt wsX1_putAt) := goodIn_app (goodIn_of _ (by decide +kernel)) ggL_isSeen_X1_putAt
set_option maxRecDepth 20000 in
theorem ggL_isSeen_L_cut : GoodIn wsL_isSeen wsL_cut := goodIn_r _ [176, 177] (by decide +kernel) (by decide +kernel)
set_option maxRecDepth 20000 in
theorem gL_isSeen_L_cut : GoodIn wsL_isSeen (va_wsS RL 93 yL_cut wsL_cut) := goodIn_app (goodIn_of _ (by decide +kernel)) ggL_isSeen_L_cut
set_option maxRecDepth 20000 in
theorem ggL_isSeen_L_isRefused : GoodIn wsL_isSeen wsL_isRefused := goodIn_ca (goodIn_ca (goodIn_ca (goodIn_r _ [181, 182, 1, 183, 184, 185, 34, 186, 187, 41, 188, 189, 190, 191, 58, 192, 60, 73, 74, 68, 193, 194, 195, 196, 56, 57, 59, 197, 198, 199, 200, 201, 166, 167, 168, 66, 67, 202, 203, 204, 205, 206, 207, 208, 209, 80, 81, 82, 83, 84, 45, 46, 37, 38, 39, 40, 42, 43, 44, 55, 88, 89, 90, 91, 92, 93, 94, 95, 96, 97, 98, 99, 100, 101, 102, 103, 104, 105, 106, 107, 108, 109, 110, 111, 112, 113, 114, 115, 214, 215, 216, 217, 218, 219, 220, 221, 222, 223, 224, 225, 226, 227, 228, 229] (by decide +kernel) (by decide +kernel)) (goodIn_sub (fun _ h => List.mem_cons_of_mem _ (List.mem_append_left _ (List.mem_append_left _ (List.mem_append_left _ (List.mem_append_right _ h))))) (by decide +kernel))) (goodIn_sub (fun _ h => List.mem_cons_of_mem _ (List.mem_append_left _ (List.mem_append_right _ h))) (by decide +kernel))) (goodIn_sub (fun _ h => List.mem_cons_of_mem _ (List.mem_append_right _ h)) (by decide +kernel))
set_option maxRecDepth 20000 in
theorem gL_isSeen_L_isRefused : GoodIn wsL_isSeen (wsV RL 97 RL yL_isRefused wsL_isRefused) := goodIn_app (goodIn_of _ (by decide +kernel)) ggL_isSeen_L_isRefused
set_option maxRecDepth 20000 in
theorem ggL_isSeen_X1_isReadOnly : GoodIn wsL_isSeen wsX1_isReadOnly := goodIn_ca (goodIn_r _ [213, 93, 81, 82, 83, 34, 84, 45, 46, 37, 38, 39, 40, 41, 42, 43, 44, 55, 56, 57, 58, 59, 60, 222, 223, 224, 225, 226, 227, 228, 229, 218, 219, 220, 221] (by decide +kernel) (by decide +kernel)) (goodIn_sub (fun _ h => List.mem_cons_of_mem _ (List.mem_append_left _ (List.mem_append_left _ (List.mem_append_left _ (List.mem_append_right _ h))))) (by decide +kernel))
set_option maxRecDepth 20000 in
theorem gL_isSeen_X1_isReadOnly : GoodIn wsL_isSeen (wsV RL 101 RX1 yX1_isReadOnly wsX1_isReadOnly) := goodIn_app (goodIn_of _ (by decide +kernel)) ggL_isSeen_X1_isReadOnly
set_option maxRecDepth 20000 in
theorem ggL_isRefused_X1_checksum : GoodIn wsL_isRefused wsX1_checksum := goodIn_r _ [7, 8, 9, 10, 11, 12, 13, 14, 15, 16, 17, 18, 19, 20, 6, 21, 22, 23, 24, 25, 26, 27, 28, 29, 30, 31, 32, 33, 34, 35, 36, 37, 38, 39, 40, 92, 93, 94, 95, 96, 97, 98, 99, 100, 101, 102, 103] (by decide +kernel) (by decide +kernel)
set_option maxRecDepth 20000 in
theorem gL_isRefused_X1_checksum : GoodIn wsL_isRefused (wsV RL 104 RX1 yX1_checksum wsX1_checksum) := goodIn_app (goodIn_of _ (by decide +kernel)) ggL_isRefused_X1_checksum
set_option maxRecDepth 20000 in
theorem ggL_isRefused_X1_put : GoodIn wsL_isRefused wsX1_put := goodIn_ca (goodIn_ca (goodIn_ca (goodIn_r _ [44, 45, 46, 47, 48, 6, 49, 50, 51, 52, 53, 54, 55, 9, 56, 57, 58, 59, 24, 25, 14, 26, 16, 60, 61, 62, 63, 64, 65, 66, 67, 68, 69, 70, 71, 72, 73, 74, 18, 17, 75, 76, 77, 78, 79, 80, 81, 82, 35, 36, 83, 84, 85, 86, 87, 96, 97, 98, 99, 100, 101, 102, 103, 92, 93, 94, 95] (by decide +kernel) (by decide +kernel)) (goodIn_sub (fun _ h => List.mem_cons_of_mem _ (List.mem_append_left _ (List.mem_append_left _ (List.mem_append_right _ h)))) (by decide +kernel))) (goodIn_sub (fun _ h => List.mem_cons_of_mem _ (List.mem_append_left _ (List.mem_append_right _ h))) (by decide +kernel))) (goodIn_sub (fun _ h => List.mem_cons_of_mem _ (List.mem_append_right _ h)) (by decide +kernel))
set_option maxRecDepth 20000 in
theorem gL_isRefused_X1_put : GoodIn wsL_isRefused (wsV RL 108 RX1 yX1_put wsX1_put) := goodIn_app (goodIn_of _ (by decide +kernel)) ggL_isRefused_X1_put
set_option maxRecDepth 20000 in
theorem ggL_isKept_L_anyKind : GoodIn wsL_isKept wsL_anyKind := goodIn_r _ [6, 7, 8, 9, 5, 10, 11, 12, 13, 14, 15, 16, 17, 18, 19, 20, 21, 22, 23, 24, 25, 26, 27, 28, 165, 166, 167, 168] (by decide +kernel) (by decide +kernel)
set_option maxRecDepth 20000 in
theorem gL_isKept_L_anyKind : GoodIn wsL_isKept (wsV RL 51 RL yL_anyKind wsL_anyKind) := goodIn_app (goodIn_of _ (by decide +kernel)) ggL_isKept_L_anyKind
set_option maxRecDepth 20000 in
theorem ggL_isKept_L_draw : GoodIn wsL_isKept wsL_draw := goodIn_r _ [10, 11, 12, 13, 14, 15, 16, 5, 17, 18, 19, 20, 21, 22, 23, 24, 25, 26, 27, 28, 165, 166, 167, 168] (by decide +kernel) (by decide +kernel)
set_option maxRecDepth 20000 in
theorem gL_isKept_L_draw : GoodIn wsL_isKept (wsV RL 45 RL yL_draw wsL_draw) := goodIn_app (goodIn_of _ (by decide +kernel)) ggL_isKept_L_draw
set_option maxRecDepth 20000 in
theorem ggL_isKept_X1_allocate : GoodIn wsL_isKept wsX1_allocate := goodIn_ca (goodIn_ca (goodIn_r _ [33, 34, 35, 36, 37, 32, 38, 39, 40, 41, 42, 43, 44, 45, 46, 47, 48, 49, 50, 51, 52, 53, 54, 55, 56, 57, 58, 59, 60, 61, 62, 63, 64, 65, 66, 67, 68, 69, 70, 71, 72, 73, 169, 170, 171, 172, 173, 174, 175, 176, 177, 178, 179, 180] (by decide +kernel) (by decide +kernel)) (goodIn_sub (fun _ h => List.mem_cons_of_mem _ (List.mem_append_left _ (List.mem_append_left _ (List.mem_append_left _ (List.mem_append_left _ (List.mem_append_right _ h)))))) (by decide +kernel))) (goodIn_sub (fun _ h => List.mem_cons_of_mem _ (List.mem_append_left _ (List.mem_append_left _ (List.mem_append_left _ (List.mem_append_right _ h))))) (by decide +kernel))
set_option maxRecDepth 20000 in
theorem gL_isKept_X1_allocate : GoodIn wsL_isKept (wsV RL 55 RX1 yX1_allocate wsX1_allocate) := goodIn_app (goodIn_of _ (by decide +kernel)) ggL_isKept_X1_allocate
set_option maxRecDepth 20000 in
theorem ggL_isKept_X1_put : GoodIn wsL_isKept wsX1_put := goodIn_ca (goodIn_ca (goodIn_ca (goodIn_r _ [77, 78, 79, 80, 81, 32, 82, 43, 44, 35, 36, 37, 38, 39, 40, 41, 42, 53, 54, 55, 56, 57, 58, 83, 84, 85, 86, 87, 88, 89, 90, 91, 92, 93, 94, 95, 96, 97, 72, 71, 98, 99, 100, 101, 102, 103, 104, 105, 64, 65, 106, 107, 108, 109, 110, 173, 174, 175, 176, 177, 178, 179, 180, 169, 170, 171, 172] (by decide +kernel) (by decide +kernel)) (goodIn_sub (fun _ h => List.mem_cons_of_mem _ (List.mem_append_left _ (List.mem_append_left _ (List.mem_append_left _ (List.mem_append_left _ (List.mem_append_right _ h)))))) (by decide +kernel))) (goodIn_sub (fun _ h => List.mem_cons_of_mem _ (List.mem_append_left _ (List.mem_append_left _ (List.mem_append_right _ h)))) (by decide +kernel))) (goodIn_sub (fun _ h => List.mem_cons_of_mem _ (List.mem_append_left _ (List.mem_append_right _ h))) (by decide +kernel))
set_option maxRecDepth 20000 in
theorem gL_isKept_X1_put : GoodIn wsL_isKept (wsV RL 108 RX1 yX1_put wsX1_put) := goodIn_app (goodIn_of _ (by decide +kernel)) ggL_isKept_X1_put
set_option maxRecDepth 20000 in
theorem ggL_isKept_X1_flip : GoodIn wsL_isKept wsX1_flip := goodIn_ca (goodIn_r _ [114, 78, 115, 79, 80, 81, 32, 82, 43, 44, 35, 36, 37, 38, 39, 40, 41, 42, 53, 54, 55, 56, 57, 58, 116, 68, 69, 70, 71, 72, 73, 173, 174, 175, 176, 177, 178, 179, 180, 169, 170, 171, 172] (by decide +kernel) (by decide +kernel)) (goodIn_sub (fun _ h => List.mem_cons_of_mem _ (List.mem_append_left _ (List.mem_append_left _ (List.mem_append_left _ (List.mem_append_left _ (List.mem_append_right _ h)))))) (by decide +kernel))
set_option maxRecDepth 20000 in
theorem gL_isKept_X1_flip : GoodIn wsL_isKept (wsV RL 63 RX1 yX1_flip wsX1_flip) := goodIn_app (goodIn_of _ (by decide +kernel)) ggL_isKept_X1_flip
set_option maxRecDepth 20000 in
theorem ggL_isKept_X1_place : GoodIn wsL_isKept wsX1_place := goodIn_ca (goodIn_r _ [120, 78, 79, 80, 81, 32, 82, 43, 44, 35, 36, 37, 38, 39, 40, 41, 42, 53, 54, 55, 56, 57, 58, 173, 174, 175, 176, 177, 178, 179, 180, 169, 170, 171, 172] (by decide +kernel) (by decide +kernel)) (goodIn_sub (fun _ h => List.mem_cons_of_mem _ (List.mem_append_left _ (List.mem_append_left _ (List.mem_append_left _ (List.mem_append_left _ (List.mem_append_right _ h)))))) (by decide +kernel))
set_option maxRecDepth 20000 in
theorem gL_isKept_X1_place : GoodIn wsL_isKept (wsV RL 114 RX1 yX1_place wsX1_place) := goodIn_app (goodIn_of _ (by decide +kernel)) ggL_isKept_X1_place
set_option maxRecDepth 20000 in
theorem ggL_isKept_X1_get : GoodIn wsL_isKept wsX1_get := goodIn_ca (goodIn_ca (goodIn_r _ [124, 79, 80, 81, 32, 82, 43, 44, 35, 36, 37, 38, 39, 40, 41, 42, 53, 54, 55, 56, 57, 58, 125, 126, 127, 128, 129, 94, 95, 96, 97, 72, 71, 130, 131, 132, 133, 134, 135, 136, 137, 64, 65, 169, 170, 171, 172, 173, 174, 175, 176, 177, 178, 179, 180] (by decide +kernel) (by decide +kernel)) (goodIn_sub (fun _ h => List.mem_cons_of_mem _ (List.mem_append_left _ (List.mem_append_left _ (List.mem_append_left _ (List.mem_append_left _ (List.mem_append_right _ h)))))) (by decide +kernel))) (goodIn_sub (fun _ h => List.mem_cons_of_mem _ (List.mem_append_right _ h)) (by decide +kernel))
set_option maxRecDepth 20000 in
theorem gL_isKept_X1_get : GoodIn wsL_isKept (wsV RL 117 RX1 yX1_get wsX1_get) := goodIn_app (goodIn_of _ (by decide +kernel)) ggL_isKept_X1_get
set_option maxRecDepth 20000 in
theorem ggL_isKept_L_cut : GoodIn wsL_isKept wsL_cut := goodIn_r _ [140, 141] (by decide +kernel) (by decide +kernel)
set_option maxRecDepth 20000 in
theorem gL_isKept_L_cut : GoodIn wsL_isKept (va_wsS RL 93 yL_cut wsL_cut) := goodIn_app (goodIn_of _ (by decide +kernel)) ggL_isKept_L_cut
set_option maxRecDepth 20000 in
theorem ggL_isKept_X1_left : GoodIn wsL_isKept wsX1_left := goodIn_ca (goodIn_r _ [145, 79, 80, 81, 32, 82, 43, 44, 35, 36, 37, 38, 39, 40, 41, 42, 53, 54, 55, 56, 57, 58, 94, 95, 96, 97, 72, 71, 169, 170, 171, 172, 173, 174, 175, 176, 177, 178, 179, 180] (by decide +kernel) (by decide +kernel)) (goodIn_sub (fun _ h => List.mem_cons_of_mem _ (List.mem_append_left _ (List.mem_append_left _ (List.mem_append_left _ (List.mem_append_left _ (List.mem_append_right _ h)))))) (by decide +kernel))
set_option maxRecDepth 20000 in
theorem gL_isKept_X1_left : GoodIn wsL_isKept (wsV RL 121 RX1 yX1_left wsX1_left) := goodIn_app (goodIn_of _ (by decide +kernel)) ggL_isKept_X1_left
set_option maxRecDepth 20000 in
theorem ggL_isKept_X1_compact : GoodIn wsL_isKept wsX1_compact := goodIn_ca (goodIn_ca (goodIn_r _ [149, 150, 151, 78, 152, 153, 154, 155, 156, 79, 80, 81, 32, 82, 43, 44, 35, 36, 37, 38, 39, 40, 41, 42, 53, 54, 55, 56, 57, 58, 83, 84, 85, 86, 87, 88, 94, 95, 96, 97, 72, 71, 116, 68, 69, 70, 73, 173, 174, 175, 176, 177, 178, 179, 180, 169, 170, 171, 172] (by decide +kernel) (by decide +kernel)) (goodIn_sub (fun _ h => List.mem_cons_of_mem _ (List.mem_append_left _ (List.mem_append_left _ (List.mem_append_left _ (List.mem_append_left _ (List.mem_append_right _ h)))))) (by decide +kernel))) (goodIn_sub (fun _ h => List.mem_cons_of_mem _ (List.mem_append_left _ (List.mem_append_left _ (List.mem_append_right _ h)))) (by decide +kernel))
set_option maxRecDepth 20000 in
theorem gL_isKept_X1_compact : GoodIn wsL_isKept (wsV RL 124 RX1 yX1_compact wsX1_compact) := goodIn_app (goodIn_of _ (by decide +kernel)) ggL_isKept_X1_compact
set_option maxRecDepth 20000 in
theorem ggL_isKept_X1_end : GoodIn wsL_isKept wsX1_end := goodIn_ca (goodIn_r _ [160, 115, 79, 80, 81, 32, 82, 43, 44, 35, 36, 37, 38, 39, 40, 41, 42, 53, 54, 55, 56, 57, 58, 173, 174, 175, 176, 177, 178, 179, 180, 169, 170, 171, 172] (by decide +kernel) (by decide +kernel)) (goodIn_sub (fun _ h => List.mem_cons_of_mem _ (List.mem_append_left _ (List.mem_append_left _ (List.mem_append_left _ (List.mem_append_left _ (List.mem_append_right _ h)))))) (by decide +kernel))
set_option maxRecDepth 20000 in
theorem gL_isKept_X1_end : GoodIn wsL_isKept (wsV RL 127 RX1 yX1_end wsX1_end) := goodIn_app (goodIn_of _ (by decide +kernel)) ggL_isKept_X1_end
set_option maxRecDepth 20000 in
theorem ggL_isKept_X1_hasLeft : GoodIn wsL_isKept wsX1_hasLeft := goodIn_ca (goodIn_r _ [164, 79, 80, 81, 32, 82, 43, 44, 35, 36, 37, 38, 39, 40, 41, 42, 53, 54, 55, 56, 57, 58, 94, 95, 96, 97, 72, 71, 169, 170, 171, 172, 173, 174, 175, 176, 177, 178, 179, 180] (by decide +kernel) (by decide +kernel)) (goodIn_sub (fun _ h => List.mem_cons_of_mem _ (List.mem_append_left _ (List.mem_append_left _ (List.mem_append_left _ (List.mem_append_left _ (List.mem_append_right _ h)))))) (by decide +kernel))
set_option maxRecDepth 20000 in
theorem gL_isKept_X1_hasLeft : GoodIn wsL_isKept (wsV RL 130 RX1 yX1_hasLeft wsX1_hasLeft) := goodIn_app (goodIn_of _ (by decide +kernel)) ggL_isKept_X1_hasLeft
set_option maxRecDepth 20000 in
theorem ggL_isStill_L_draw : GoodIn wsL_isStill wsL_draw := goodIn_r _ [7, 8, 9, 10, 11, 12, 13, 6, 14, 15, 16, 17, 18, 19, 20, 21, 22, 23, 24, 25, 190, 191, 192, 193] (by decide +kernel) (by decide +kernel)
set_option maxRecDepth 20000 in
theorem gL_isStill_L_draw : GoodIn wsL_isStill (wsV RL 45 RL yL_draw wsL_draw) := goodIn_app (goodIn_of _ (by decide +kernel)) ggL_isStill_L_draw
set_option maxRecDepth 20000 in
theorem ggL_isStill_X1_allocate : GoodIn wsL_isStill wsX1_allocate := goodIn_ca (goodIn_ca (goodIn_r _ [30, 31, 32, 33, 34, 29, 35, 36, 37, 38, 39, 40, 41, 42, 43, 44, 45, 46, 47, 48, 49, 50, 51, 52, 53, 54, 55, 56, 57, 58, 59, 60, 61, 62, 63, 64, 65, 66, 67, 68, 69, 70, 194, 195, 196, 197, 198, 199, 200, 201, 202, 203, 204, 205] (by decide +kernel) (by decide +kernel)) (goodIn_sub (fun _ h => List.mem_cons_of_mem _ (List.mem_append_left _ (List.mem_append_left _ (List.mem_append_left _ (List.mem_append_right _ h))))) (by decide +kernel))) (goodIn_sub (fun _ h => List.mem_cons_of_mem _ (List.mem_append_left _ (List.mem_append_left _ (List.mem_append_right _ h)))) (by decide +kernel))
set_option maxRecDepth 20000 in
theorem gL_isStill_X1_allocate : GoodIn wsL_isStill (wsV RL 55 RX1 yX1_allocate wsX1_allocate) := goodIn_app (goodIn_of _ (by decide +kernel)) ggL_isStill_X1_allocate
set_option maxRecDepth 20000 in
theorem ggL_isStill_X1_fill : GoodIn wsL_isStill wsX1_fill := goodIn_ca (goodIn_ca (goodIn_ca (goodIn_ca (goodIn_r _ [74, 75, 76, 77, 78, 29, 79, 40, 41, 32, 33, 34, 35, 36, 37, 38, 39, 50, 51, 52, 53, 54, 55, 80, 81, 82, 45, 46, 83, 84, 85, 86, 87, 88, 89, 90, 91, 92, 93, 94, 95, 96, 97, 69, 68, 98, 99, 100, 101, 102, 103, 104, 105, 61, 62, 106, 107, 108, 109, 110, 198, 199, 200, 201, 202, 203, 204, 205, 194, 195, 196, 197] (by decide +kernel) (by decide +kernel)) (goodIn_sub (fun _ h => List.mem_cons_of_mem _ (List.mem_append_left _ (List.mem_append_left _ (List.mem_append_left _ (List.mem_append_right _ h))))) (by decide +kernel))) (goodIn_sub (fun _ h => List.mem_cons_of_mem _ (List.mem_append_left _ (List.mem_append_left _ (List.mem_append_right _ h)))) (by decide +kernel))) (goodIn_sub (fun _ h => List.mem_cons_of_mem _ (List.mem_append_left _ (List.mem_append_right _ h))) (by decide +kernel))) (goodIn_sub (fun _ h => List.mem_cons_of_mem _ (List.mem_append_right _ h)) (by decide +kernel))
set_option maxRecDepth 20000 in
theorem gL_isStill_X1_fill : GoodIn wsL_isStill (wsV RL 59 RX1 yX1_fill wsX1_fill) := goodIn_app (goodIn_of _ (by decide +kernel)) ggL_isStill_X1_fill
set_option maxRecDepth 20000 in
theorem ggL_isStill_X1_duplicate : GoodIn wsL_isStill wsX1_duplicate := goodIn_ca (goodIn_r _ [114, 76, 77, 78, 29, 79, 40, 41, 32, 33, 34, 35, 36, 37, 38, 39, 50, 51, 52, 53, 54, 55, 115, 116, 117, 118, 60, 61, 62, 63, 68, 69, 70, 94, 95, 96, 97, 194, 195, 196, 197, 198, 199, 200, 201, 202, 203, 204, 205] (by decide +kernel) (by decide +kernel)) (goodIn_sub (fun _ h => List.mem_cons_of_mem _ (List.mem_append_left _ (List.mem_append_left _ (List.mem_append_left _ (List.mem_append_right _ h))))) (by decide +kernel))
set_option maxRecDepth 20000 in
theorem gL_isStill_X1_duplicate : GoodIn wsL_isStill (wsV RL 66 RX1 yX1_duplicate wsX1_duplicate) := goodIn_app (goodIn_of _ (by decide +kernel)) ggL_isStill_X1_duplicate
set_option maxRecDepth 20000 in
theorem ggL_isStill_X1_clear : GoodIn wsL_isStill wsX1_clear := goodIn_ca (goodIn_r _ [122, 123, 124, 76, 77, 78, 29, 79, 40, 41, 32, 33, 34, 35, 36, 37, 38, 39, 50, 51, 52, 53, 54, 55, 125, 65, 66, 67, 68, 69, 70, 198, 199, 200, 201, 202, 203, 204, 205, 194, 195, 196, 197] (by decide +kernel) (by decide +kernel)) (goodIn_sub (fun _ h => List.mem_cons_of_mem _ (List.mem_append_left _ (List.mem_append_left _ (List.mem_append_left _ (List.mem_append_right _ h))))) (by decide +kernel))
set_option maxRecDepth 20000 in
theorem gL_isStill_X1_clear : GoodIn wsL_isStill (wsV RL 135 RX1 yX1_clear wsX1_clear) := goodIn_app (goodIn_of _ (by decide +kernel)) ggL_isStill_X1_clear
set_option maxRecDepth 20000 in
theorem ggL_isStill_X1_end : GoodIn wsL_isStill wsX1_end := goodIn_ca (goodIn_r _ [129, 124, 76, 77, 78, 29, 79, 40, 41, 32, 33, 34, 35, 36, 37, 38, 39, 50, 51, 52, 53, 54, 55, 198, 199, 200, 201, 202, 203, 204, 205, 194, 195, 196, 197] (by decide +kernel) (by decide +kernel)) (goodIn_sub (fun _ h => List.mem_cons_of_mem _ (List.mem_append_left _ (List.mem_append_left _ (List.mem_append_left _ (List.mem_append_right _ h))))) (by decide +kernel))
set_option maxRecDepth 20000 in
theorem gL_isStill_X1_end : GoodIn wsL_isStill (wsV RL 127 RX1 yX1_end wsX1_end) := goodIn_app (goodIn_of _ (by decide +kernel)) ggL_isStill_X1_end
set_option maxRecDepth 20000 in
theorem ggL_isStill_X1_placeAt : GoodIn wsL_isStill wsX1_placeAt := goodIn_ca (goodIn_ca (goodIn_r _ [133, 124, 75, 76, 77, 78, 29, 79, 40, 41, 32, 33, 34, 35, 36, 37, 38, 39, 50, 51, 52, 53, 54, 55, 134, 135, 136, 45, 46, 137, 138, 139, 140, 70, 198, 199, 200, 201, 202, 203, 204, 205, 194, 195, 196, 197] (by decide +kernel) (by decide +kernel)) (goodIn_sub (fun _ h => List.mem_cons_of_mem _ (List.mem_append_left _ (List.mem_append_left _ (List.mem_append_left _ (List.mem_append_right _ h))))) (by decide +kernel))) (goodIn_sub (fun _ h => List.mem_cons_of_mem _ (List.mem_append_left _ (List.mem_append_left _ (List.mem_append_right _ h)))) (by decide +kernel))
set_option maxRecDepth 20000 in
theorem gL_isStill_X1_placeAt : GoodIn wsL_isStill (wsV RL 72 RX1 yX1_placeAt wsX1_placeAt) := goodIn_app (goodIn_of _ (by decide +kernel)) ggL_isStill_X1_placeAt
set_option maxRecDepth 20000 in
theorem ggL_isStill_X1_endAt : GoodIn wsL_isStill wsX1_endAt := goodIn_ca (goodIn_ca (goodIn_r _ [144, 123, 124, 75, 145, 146, 147, 148, 76, 77, 78, 29, 79, 40, 41, 32, 33, 34, 35, 36, 37, 38, 39, 50, 51, 52, 53, 54, 55, 134, 135, 136, 45, 46, 137, 138, 139, 140, 70, 198, 199, 200, 201, 202, 203, 204, 205, 194, 195, 196, 197] (by decide +kernel) (by decide +kernel)) (goodIn_sub (fun _ h => List.mem_cons_of_mem _ (List.mem_append_left _ (List.mem_append_left _ (List.mem_append_left _ (List.mem_append_right _ h))))) (by decide +kernel))) (goodIn_sub (fun _ h => List.mem_cons_of_mem _ (List.mem_append_left _ (List.mem_append_left _ (List.mem_append_right _ h)))) (by decide +kernel))
set_option maxRecDepth 20000 in
theorem gL_isStill_X1_endAt : GoodIn wsL_isStill (wsV RL 138 RX1 yX1_endAt wsX1_endAt) := goodIn_app (goodIn_of _ (by decide +kernel)) ggL_isStill_X1_endAt
set_option maxRecDepth 20000 in
theorem ggL_isStill_X1_mark : GoodIn wsL_isStill wsX1_mark := goodIn_ca (goodIn_r _ [152, 75, 153, 76, 77, 78, 29, 79, 40, 41, 32, 33, 34, 35, 36, 37, 38, 39, 50, 51, 52, 53, 54, 55, 198, 199, 200, 201, 202, 203, 204, 205, 194, 195, 196, 197] (by decide +kernel) (by decide +kernel)) (goodIn_sub (fun _ h => List.mem_cons_of_mem _ (List.mem_append_left _ (List.mem_append_left _ (List.mem_append_left _ (List.mem_append_right _ h))))) (by decide +kernel))
set_option maxRecDepth 20000 in
theorem gL_isStill_X1_mark : GoodIn wsL_isStill (wsV RL 141 RX1 yX1_mark wsX1_mark) := goodIn_app (goodIn_of _ (by decide +kernel)) ggL_isStill_X1_mark
set_option maxRecDepth 20000 in
theorem ggL_isStill_X1_place : GoodIn wsL_isStill wsX1_place := goodIn_ca (goodIn_r _ [157, 75, 76, 77, 78, 29, 79, 40, 41, 32, 33, 34, 35, 36, 37, 38, 39, 50, 51, 52, 53, 54, 55, 198, 199, 200, 201, 202, 203, 204, 205, 194, 195, 196, 197] (by decide +kernel) (by decide +kernel)) (goodIn_sub (fun _ h => List.mem_cons_of_mem _ (List.mem_append_left _ (List.mem_append_left _ (List.mem_append_left _ (List.mem_append_right _ h))))) (by decide +kernel))
set_option maxRecDepth 20000 in
theorem gL_isStill_X1_place : GoodIn wsL_isStill (wsV RL 114 RX1 yX1_place wsX1_place) := goodIn_app (goodIn_of _ (by decide +kernel)) ggL_isStill_X1_place
set_option maxRecDepth 20000 in
theorem ggL_isStill_X1_back : GoodIn wsL_isStill wsX1_back := goodIn_ca (goodIn_ca (goodIn_r _ [161, 92, 93, 153, 75, 76, 77, 78, 29, 79, 40, 41, 32, 33, 34, 35, 36, 37, 38, 39, 50, 51, 52, 53, 54, 55, 198, 199, 200, 201, 202, 203, 204, 205, 194, 195, 196, 197] (by decide +kernel) (by decide +kernel)) (goodIn_sub (fun _ h => List.mem_cons_of_mem _ (List.mem_append_right _ h)) (by decide +kernel))) (goodIn_sub (fun _ h => List.mem_cons_of_mem _ (List.mem_append_left _ (List.mem_append_left _ (List.mem_append_left _ (List.mem_append_right _ h))))) (by decide +kernel))
set_option maxRecDepth 20000 in
theorem gL_isStill_X1_back : GoodIn wsL_isStill (wsV RL 144 RX1 yX1_back wsX1_back) := goodIn_app (goodIn_of _ (by decide +kernel)) ggL_isStill_X1_back
set_option maxRecDepth 20000 in
theorem ggL_isStill_X1_rewind : GoodIn wsL_isStill wsX1_rewind := goodIn_ca (goodIn_r _ [165, 124, 76, 77, 78, 29, 79, 40, 41, 32, 33, 34, 35, 36, 37, 38, 39, 50, 51, 52, 53, 54, 55, 125, 65, 66, 67, 68, 69, 70, 94, 95, 96, 97, 198, 199, 200, 201, 202, 203, 204, 205, 194, 195, 196, 197] (by decide +kernel) (by decide +kernel)) (goodIn_sub (fun _ h => List.mem_cons_of_mem _ (List.mem_append_left _ (List.mem_append_left _ (List.mem_append_left _ (List.mem_append_right _ h))))) (by decide +kernel))
set_option maxRecDepth 20000 in
theorem gL_isStill_X1_rewind : GoodIn wsL_isStill (wsV RL 147 RX1 yX1_rewind wsX1_rewind) := goodIn_app (goodIn_of _ (by decide +kernel)) ggL_isStill_X1_rewind
set_option maxRecDepth 20000 in
theorem ggL_isStill_X1_flip : GoodIn wsL_isStill wsX1_flip := goodIn_ca (goodIn_r _ [169, 75, 124, 76, 77, 78, 29, 79, 40, 41, 32, 33, 34, 35, 36, 37, 38, 39, 50, 51, 52, 53, 54, 55, 125, 65, 66, 67, 68, 69, 70, 198, 199, 200, 201, 202, 203, 204, 205, 194, 195, 196, 197] (by decide +kernel) (by decide +kernel)) (goodIn_sub (fun _ h => List.mem_cons_of_mem _ (List.mem_append_left _ (List.mem_append_left _ (List.mem_append_left _ (List.mem_append_right _ h))))) (by decide +kernel))
set_option maxRecDepth 20000 in
theorem gL_isStill_X1_flip : GoodIn wsL_isStill (wsV RL 63 RX1 yX1_flip wsX1_flip) := goodIn_app (goodIn_of _ (by decide +kernel)) ggL_isStill_X1_flip
set_option maxRecDepth 20000 in
theorem ggL_isStill_X1_capacity : GoodIn wsL_isStill wsX1_capacity := goodIn_ca (goodIn_r _ [173, 123, 76, 77, 78, 29, 79, 40, 41, 32, 33, 34, 35, 36, 37, 38, 39, 50, 51, 52, 53, 54, 55, 198, 199, 200, 201, 202, 203, 204, 205, 194, 195, 196, 197] (by decide +kernel) (by decide +kernel)) (goodIn_sub (fun _ h => List.mem_cons_of_mem _ (List.mem_append_left _ (List.mem_append_left _ (List.mem_append_left _ (List.mem_append_right _ h))))) (by decide +kernel))
set_option maxRecDepth 20000 in
theorem gL_isStill_X1_capacity : GoodIn wsL_isStill (wsV RL 150 RX1 yX1_capacity wsX1_capacity) := goodIn_app (goodIn_of _ (by decide +kernel)) ggL_isStill_X1_capacity
set_option maxRecDepth 20000 in
theorem ggL_isStill_X1_left : GoodIn wsL_isStill wsX1_left := goodIn_ca (goodIn_r _ [177, 76, 77, 78, 29, 79, 40, 41, 32, 33, 34, 35, 36, 37, 38, 39, 50, 51, 52, 53, 54, 55, 94, 95, 96, 97, 69, 68, 194, 195, 196, 197, 198, 199, 200, 201, 202, 203, 204, 205] (by decide +kernel) (by decide +kernel)) (goodIn_sub (fun _ h => List.mem_cons_of_mem _ (List.mem_append_left _ (List.mem_append_left _ (List.mem_append_left _ (List.mem_append_right _ h))))) (by decide +kernel))
set_option maxRecDepth 20000 in
theorem gL_isStill_X1_left : GoodIn wsL_isStill (wsV RL 121 RX1 yX1_left wsX1_left) := goodIn_app (goodIn_of _ (by decide +kernel)) ggL_isStill_X1_left
set_option maxRecDepth 20000 in
theorem ggL_isStill_X1_isAlike : GoodIn wsL_isStill wsX1_isAlike := goodIn_ca (goodIn_r _ [181, 75, 76, 77, 78, 29, 79, 40, 41, 32, 33, 34, 35, 36, 37, 38, 39, 50, 51, 52, 53, 54, 55, 94, 95, 96, 97, 69, 68, 182, 183, 184, 185, 61, 62, 198, 199, 200, 201, 202, 203, 204, 205, 194, 195, 196, 197] (by decide +kernel) (by decide +kernel)) (goodIn_sub (fun _ h => List.mem_cons_of_mem _ (List.mem_append_left _ (List.mem_append_left _ (List.mem_append_left _ (List.mem_append_right _ h))))) (by decide +kernel))
set_option maxRecDepth 20000 in
theorem gL_isStill_X1_isAlike : GoodIn wsL_isStill (wsV RL 153 RX1 yX1_isAlike wsX1_isAlike) := goodIn_app (goodIn_of _ (by decide +kernel)) ggL_isStill_X1_isAlike
set_option maxRecDepth 20000 in
theorem ggL_isStill_X1_getAt : GoodIn wsL_isStill wsX1_getAt := goodIn_ca (goodIn_r _ [189, 124, 76, 77, 78, 29, 79, 40, 41, 32, 33, 34, 35, 36, 37, 38, 39, 50, 51, 52, 53, 54, 55, 182, 183, 184, 185, 61, 62, 198, 199, 200, 201, 202, 203, 204, 205, 194, 195, 196, 197] (by decide +kernel) (by decide +kernel)) (goodIn_sub (fun _ h => List.mem_cons_of_mem _ (List.mem_append_left _ (List.mem_append_left _ (List.mem_append_left _ (List.mem_append_right _ h))))) (by decide +kernel))
set_option maxRecDepth 20000 in
theorem gL_isStill_X1_getAt : GoodIn wsL_isStill (wsV RL 85 RX1 yX1_getAt wsX1_getAt) := goodIn_app (goodIn_of _ (by decide +kernel)) ggL_isStill_X1_getAt
set_option maxRecDepth 20000 in
theorem ggL_isWrapped_L_draw : GoodIn wsL_isWrapped wsL_draw := goodIn_r _ [8, 9, 10, 11, 12, 13, 14, 7, 15, 16, 17, 18, 19, 20, 21, 22, 23, 24, 25, 26, 119, 120, 121, 122] (by decide +kernel) (by decide +kernel)
set_option maxRecDepth 20000 in
theorem gL_isWrapped_L_draw : GoodIn wsL_isWrapped (wsV RL 45 RL yL_draw wsL_draw) := goodIn_app (goodIn_of _ (by decide +kernel)) ggL_isWrapped_L_draw
set_option maxRecDepth 20000 in
theorem ggL_isWrapped_X1_make : GoodIn wsL_isWrapped wsX1_make := goodIn_ca (goodIn_ca (goodIn_r _ [31, 32, 33, 34, 35, 36, 30, 37, 38, 39, 40, 41, 42, 43, 44, 45, 46, 47, 123, 124, 125, 126] (by decide +kernel) (by decide +kernel)) (goodIn_sub (fun _ h => List.mem_cons_of_mem _ (List.mem_append_left _ (List.mem_append_left _ (List.mem_append_right _ h)))) (by decide +kernel))) (goodIn_sub (fun _ h => List.mem_cons_of_mem _ (List.mem_append_left _ (List.mem_append_right _ h))) (by decide +kernel))
set_option maxRecDepth 20000 in
theorem gL_isWrapped_X1_make : GoodIn wsL_isWrapped (wsV RL 157 RX1 yX1_make wsX1_make) := goodIn_app (goodIn_of _ (by decide +kernel)) ggL_isWrapped_X1_make
set_option maxRecDepth 20000 in
theorem ggL_isWrapped_X1_wrap : GoodIn wsL_isWrapped wsX1_wrap := goodIn_ca (goodIn_r _ [51, 52, 53, 54, 55, 30, 56, 57, 38, 39, 40, 41, 42, 34, 35, 36, 37, 32, 58, 59, 60, 61, 62, 63, 64, 65, 66, 67, 68, 69, 70, 71, 72, 73, 74, 127, 128, 129, 130, 131, 132, 133, 134, 123, 124, 125, 126] (by decide +kernel) (by decide +kernel)) (goodIn_sub (fun _ h => List.mem_cons_of_mem _ (List.mem_append_left _ (List.mem_append_left _ (List.mem_append_right _ h)))) (by decide +kernel))
set_option maxRecDepth 20000 in
theorem gL_isWrapped_X1_wrap : GoodIn wsL_isWrapped (wsV RL 160 RX1 yX1_wrap wsX1_wrap) := goodIn_app (goodIn_of _ (by decide +kernel)) ggL_isWrapped_X1_wrap
set_option maxRecDepth 20000 in
theorem ggL_isWrapped_X1_rowPut : GoodIn wsL_isWrapped wsX1_rowPut := goodIn_ca (goodIn_r _ [78, 34, 35, 36, 30, 37, 32, 38, 39, 40, 41, 42, 123, 124, 125, 126] (by decide +kernel) (by decide +kernel)) (goodIn_sub (fun _ h => List.mem_cons_of_mem _ (List.mem_append_left _ (List.mem_append_left _ (List.mem_append_right _ h)))) (by decide +kernel))
set_option maxRecDepth 20000 in
theorem gL_isWrapped_X1_rowPut : GoodIn wsL_isWrapped (wsV RL 163 RX1 yX1_rowPut wsX1_rowPut) := goodIn_app (goodIn_of _ (by decide +kernel)) ggL_isWrapped_X1_rowPut
set_option maxRecDepth 20000 in
theorem ggL_isWrapped_X1_getAt : GoodIn wsL_isWrapped wsX1_getAt := goodIn_ca (goodIn_r _ [82, 83, 84, 85, 86, 30, 87, 41, 42, 53, 54, 55, 56, 57, 38, 39, 40, 88, 89, 90, 61, 91, 63, 92, 93, 94, 95, 65, 66, 127, 128, 129, 130, 131, 132, 133, 134, 123, 124, 125, 126] (by decide +kernel) (by decide +kernel)) (goodIn_sub (fun _ h => List.mem_cons_of_mem _ (List.mem_append_left _ (List.mem_append_left _ (List.mem_append_right _ h)))) (by decide +kernel))
set_option maxRecDepth 20000 in
theorem gL_isWrapped_X1_getAt : GoodIn wsL_isWrapped (wsV RL 85 RX1 yX1_getAt wsX1_getAt) := goodIn_app (goodIn_of _ (by decide +kernel)) ggL_isWrapped_X1_getAt
set_option maxRecDepth 20000 in
theorem ggL_isWrapped_X1_putAt : GoodIn wsL_isWrapped wsX1_putAt := goodIn_ca (goodIn_ca (goodIn_r _ [99, 83, 84, 85, 86, 30, 87, 41, 42, 53, 54, 55, 56, 57, 38, 39, 40, 88, 89, 90, 61, 91, 63, 100, 101, 102, 103, 104, 105, 92, 93, 94, 95, 65, 66, 106, 107, 108, 109, 110, 111, 112, 113, 114, 127, 128, 129, 130, 131, 132, 133, 134, 123, 124, 125, 126] (by decide +kernel) (by decide +kernel)) (goodIn_sub (fun _ h => List.mem_cons_of_mem _ (List.mem_append_left _ (List.mem_append_left _ (List.mem_append_right _ h)))) (by decide +kernel))) (goodIn_sub (fun _ h => List.mem_cons_of_mem _ (List.mem_append_right _ h)) (by decide +kernel))
set_option maxRecDepth 20000 in
theorem gL_isWrapped_X1_putAt : GoodIn wsL_isWrapped (wsV RL 89 RX1 yX1_putAt wsX1_putAt) := goodIn_app (goodIn_of _ (by decide +kernel)) ggL_isWrapped_X1_putAt
set_option maxRecDepth 20000 in
theorem ggL_isWrapped_X1_rowAt : GoodIn wsL_isWrapped wsX1_rowAt := goodIn_ca (goodIn_r _ [118, 34, 35, 36, 30, 37, 32, 38, 39, 40, 41, 42, 123, 124, 125, 126] (by decide +kernel) (by decide +kernel)) (goodIn_sub (fun _ h => List.mem_cons_of_mem _ (List.mem_append_left _ (List.mem_append_left _ (List.mem_append_right _ h)))) (by decide +kernel))
set_option maxRecDepth 20000 in
theorem gL_isWrapped_X1_rowAt : GoodIn wsL_isWrapped (wsV RL 169 RX1 yX1_rowAt wsX1_rowAt) := goodIn_app (goodIn_of _ (by decide +kernel)) ggL_isWrapped_X1_rowAt
set_option maxRecDepth 20000 in
theorem ggL_holdsAll_L_draw : GoodIn wsL_holdsAll wsL_draw := goodIn_r _ [7, 8, 1, 9, 10, 11, 12, 6, 13, 14, 15, 16, 17, 18, 19, 20, 21, 22, 23, 24, 344, 345, 346, 347] (by decide +kernel) (by decide +kernel)
set_option maxRecDepth 20000 in
theorem gL_holdsAll_L_draw : GoodIn wsL_holdsAll (wsV RL 45 RL yL_draw wsL_draw) := goodIn_app (goodIn_of _ (by decide +kernel)) ggL_holdsAll_L_draw
set_option maxRecDepth 20000 in
theorem ggL_holdsAll_L_isSeen : GoodIn wsL_holdsAll wsL_isSeen := goodIn_ca (goodIn_ca (goodIn_ca (goodIn_ca (goodIn_r _ [28, 2, 29, 30, 31, 32, 33, 6, 34, 3, 4, 5, 7, 8, 1, 9, 10, 11, 12, 13, 14, 15, 16, 17, 18, 19, 20, 21, 22, 23, 24, 35, 36, 37, 38, 39, 40, 41, 42, 43, 44, 45, 46, 47, 48, 49, 50, 51, 52, 53, 54, 55, 56, 57, 58, 59, 60, 61, 62, 63, 64, 65, 66, 67, 68, 69, 70, 71, 72, 73, 74, 75, 76, 77, 78, 79, 80, 81, 82, 83, 84, 85, 86, 87, 88, 89, 90, 91, 92, 93, 94, 95, 96, 97, 98, 99, 100, 101, 102, 103, 104, 105, 106, 107, 108, 109, 110, 111, 112, 113, 114, 115, 116, 117, 118, 119, 120, 121, 122, 123, 124, 125, 126, 127, 128, 129, 130, 131, 132, 133, 134, 135, 136, 137, 138, 139, 140, 141, 142, 143, 144, 145, 146, 147, 148, 149, 150, 151, 152, 153, 154, 155, 156, 157, 158, 159, 160, 161, 162, 163, 164, 165, 166, 167, 168, 169, 170, 171, 172, 173, 174, 175, 176, 177, 178, 179, 180, 181, 182, 183, 184, 185, 186, 187, 188, 189, 190, 191, 192, 193, 194, 195, 196, 197, 198, 199, 200, 201, 202, 203, 204, 205, 206, 207, 208, 209, 210, 211, 212, 213, 214, 215, 216, 217, 344, 345, 346, 347, 348, 349, 350, 351, 352, 353, 354, 355, 356, 357, 358, 359] (by decide +kernel) (by decide +kernel)) (goodIn_sub (fun _ h => List.mem_cons_of_mem _ (List.mem_append_left _ (List.mem_append_left _ (List.mem_append_left _ (List.mem_append_left _ (List.mem_append_right _ h)))))) (by decide +kernel))) (goodIn_sub (fun _ h => List.mem_cons_of_mem _ (List.mem_append_left _ (List.mem_append_left _ (List.mem_append_left _ (List.mem_append_right _ h))))) (by decide +kernel))) (goodIn_sub (fun _ h => List.mem_cons_of_mem _ (List.mem_append_left _ (List.mem_append_left _ (List.mem_append_right _ h)))) (by decide +kernel))) (goodIn_sub (fun _ h => List.mem_cons_of_mem _ (List.mem_append_left _ (List.mem_append_right _ h))) (by decide +kernel))
set_option maxRecDepth 20000 in
theorem gL_holdsAll_L_isSeen : GoodIn wsL_holdsAll (wsV RL 172 RL yL_isSeen wsL_isSeen) := goodIn_app (goodIn_of _ (by decide +kernel)) ggL_holdsAll_L_isSeen
set_option maxRecDepth 20000 in
theorem ggL_holdsAll_L_isKept : GoodIn wsL_holdsAll wsL_isKept := goodIn_ca (goodIn_ca (goodIn_ca (goodIn_ca (goodIn_ca (goodIn_r _ [221, 2, 31, 32, 33, 6, 34, 3, 4, 5, 7, 8, 1, 9, 10, 11, 12, 13, 14, 15, 16, 17, 18, 19, 20, 21, 22, 23, 24, 35, 36, 37, 38, 39, 40, 41, 42, 43, 44, 45, 46, 47, 48, 49, 50, 51, 52, 53, 54, 55, 56, 57, 58, 59, 60, 61, 62, 63, 64, 65, 66, 67, 68, 69, 70, 71, 72, 73, 74, 75, 76, 77, 78, 79, 210, 211, 212, 213, 84, 85, 86, 87, 88, 92, 93, 94, 95, 96, 97, 98, 99, 100, 101, 102, 103, 104, 105, 106, 107, 108, 109, 110, 111, 112, 113, 114, 115, 116, 117, 118, 119, 120, 121, 122, 123, 124, 125, 222, 223, 224, 225, 226, 227, 228, 229, 230, 231, 232, 233, 234, 235, 236, 237, 238, 205, 170, 171, 172, 178, 179, 180, 181, 239, 240, 241, 242, 243, 244, 245, 246, 247, 248, 249, 250, 251, 252, 153, 253, 254, 255, 256, 257, 258, 259, 260, 344, 345, 346, 347, 348, 349, 350, 351, 352, 353, 354, 355, 356, 357, 358, 359] (by decide +kernel) (by decide +kernel)) (goodIn_sub (fun _ h => List.mem_cons_of_mem _ (List.mem_append_left _ (List.mem_append_left _ (List.mem_append_left _ (List.mem_append_left _ (List.mem_append_right _ h)))))) (by decide +kernel))) (goodIn_sub (fun _ h => List.mem_cons_of_mem _ (List.mem_append_left _ (List.mem_append_left _ (List.mem_append_left _ (List.mem_append_right _ h))))) (by decide +kernel))) (goodIn_sub (fun _ h => List.mem_cons_of_mem _ (List.mem_append_left _ (List.mem_append_left _ (List.mem_append_right _ h)))) (by decide +kernel))) (goodIn_sub (fun _ h => List.mem_cons_of_mem _ (List.mem_append_left _ (List.mem_append_right _ h))) (by decide +kernel))) (goodIn_sub (fun _ h => List.mem_cons_of_mem _ (List.mem_append_right _ h)) (by decide +kernel))
set_option maxRecDepth 20000 in
theorem gL_holdsAll_L_isKept : GoodIn wsL_holdsAll (wsV RL 176 RL yL_isKept wsL_isKept) := goodIn_app (goodIn_of _ (by decide +kernel)) ggL_holdsAll_L_isKept
set_option maxRecDepth 20000 in
theorem ggL_holdsAll_L_isStill : GoodIn wsL_holdsAll wsL_isStill := goodIn_ca (goodIn_ca (goodIn_ca (goodIn_ca (goodIn_r _ [264, 2, 265, 3, 4, 5, 6, 7, 8, 1, 9, 10, 11, 12, 13, 14, 15, 16, 17, 18, 19, 20, 21, 22, 23, 24, 35, 36, 37, 38, 39, 40, 41, 42, 43, 44, 45, 46, 47, 48, 49, 50, 51, 52, 53, 54, 55, 56, 57, 58, 59, 60, 61, 62, 63, 64, 65, 66, 67, 68, 69, 70, 71, 72, 73, 74, 75, 76, 77, 78, 79, 80, 81, 82, 83, 84, 85, 86, 87, 88, 89, 90, 91, 92, 93, 94, 95, 96, 97, 98, 99, 100, 101, 102, 103, 104, 105, 106, 107, 108, 109, 110, 111, 112, 113, 114, 115, 116, 117, 118, 119, 126, 127, 128, 129, 130, 131, 132, 133, 266, 267, 268, 269, 153, 124, 125, 253, 254, 255, 256, 138, 139, 140, 141, 142, 143, 144, 145, 146, 147, 148, 270, 271, 272, 273, 274, 275, 276, 277, 278, 279, 280, 281, 282, 222, 223, 224, 225, 283, 284, 285, 286, 287, 288, 289, 290, 120, 121, 122, 123, 291, 292, 293, 294, 239, 240, 241, 242, 295, 296, 297, 298, 169, 170, 171, 172, 165, 166, 167, 168, 344, 345, 346, 347, 348, 349, 350, 351, 352, 353, 354, 355, 356, 357, 358, 359] (by decide +kernel) (by decide +kernel)) (goodIn_sub (fun _ h => List.mem_cons_of_mem _ (List.mem_append_left _ (List.mem_append_left _ (List.mem_append_left _ (List.mem_append_left _ (List.mem_append_right _ h)))))) (by decide +kernel))) (goodIn_sub (fun _ h => List.mem_cons_of_mem _ (List.mem_append_left _ (List.mem_append_left _ (List.mem_append_left _ (List.mem_append_right _ h))))) (by decide +kernel))) (goodIn_sub (fun _ h => List.mem_cons_of_mem _ (List.mem_append_left _ (List.mem_append_left _ (List.mem_append_right _ h)))) (by decide +kernel))) (goodIn_sub (fun _ h => List.mem_cons_of_mem _ (List.mem_append_left _ (List.mem_append_right _ h))) (by decide +kernel))
set_option maxRecDepth 20000 in
theorem gL_holdsAll_L_isStill : GoodIn wsL_holdsAll (wsV RL 179 RL yL_isStill wsL_isStill) := goodIn_app (goodIn_of _ (by decide +kernel)) ggL_holdsAll_L_isStill
set_option maxRecDepth 20000 in
theorem ggL_holdsAll_L_isWrapped : GoodIn wsL_holdsAll wsL_isWrapped := goodIn_ca (goodIn_ca (goodIn_ca (goodIn_r _ [302, 2, 29, 303, 3, 4, 5, 6, 7, 8, 1, 9, 10, 11, 12, 13, 14, 15, 16, 17, 18, 19, 20, 21, 22, 23, 24, 304, 305, 306, 38, 307, 192, 40, 308, 309, 310, 311, 46, 47, 48, 49, 50, 56, 57, 58, 54, 55, 312, 313, 314, 315, 153, 41, 42, 43, 44, 45, 65, 66, 67, 62, 68, 64, 69, 70, 71, 72, 73, 74, 75, 76, 77, 78, 79, 316, 317, 318, 319, 165, 166, 167, 168, 124, 85, 86, 87, 88, 59, 60, 61, 63, 169, 170, 171, 172, 173, 174, 175, 176, 92, 93, 94, 95, 96, 97, 177, 112, 113, 114, 115, 116, 117, 118, 119, 320, 321, 322, 323, 344, 345, 346, 347, 348, 349, 350, 351, 352, 353, 354, 355, 356, 357, 358, 359] (by decide +kernel) (by decide +kernel)) (goodIn_sub (fun _ h => List.mem_cons_of_mem _ (List.mem_append_left _ (List.mem_append_left _ (List.mem_append_left _ (List.mem_append_left _ (List.mem_append_right _ h)))))) (by decide +kernel))) (goodIn_sub (fun _ h => List.mem_cons_of_mem _ (List.mem_append_left _ (List.mem_append_left _ (List.mem_append_left _ (List.mem_append_right _ h))))) (by decide +kernel))) (goodIn_sub (fun _ h => List.mem_cons_of_mem _ (List.mem_append_left _ (List.mem_append_left _ (List.mem_append_right _ h)))) (by decide +kernel))
set_option maxRecDepth 20000 in
theorem gL_holdsAll_L_isWrapped : GoodIn wsL_holdsAll (wsV RL 182 RL yL_isWrapped wsL_isWrapped) := goodIn_app (goodIn_of _ (by decide +kernel)) ggL_holdsAll_L_isWrapped
set_option maxRecDepth 20000 in
theorem ggL_holdsAll_X1_isTrue : GoodIn wsL_holdsAll wsX1_isTrue := goodIn_r _ [327, 45, 59, 60, 61, 62, 63, 64, 328, 329, 330, 38, 331, 97, 332, 84, 333, 334, 335, 336, 337, 77, 78, 72, 71, 70, 103, 104, 105, 106, 154, 155, 156, 157, 69, 73, 74, 75, 76, 79, 130, 131, 132, 133, 338, 339, 340, 341, 342, 169, 170, 171, 172, 343, 116, 117, 118, 119, 177, 112, 113, 114, 115, 348, 349, 350, 351, 352, 353, 354, 355, 356, 357, 358, 359] (by decide +kernel) (by decide +kernel)
set_option maxRecDepth 20000 in
theorem gL_holdsAll_X1_isTrue : GoodIn wsL_holdsAll (wsV RL 185 RX1 yX1_isTrue wsX1_isTrue) := goodIn_app (goodIn_of _ (by decide +kernel)) ggL_holdsAll_X1_isTrue
