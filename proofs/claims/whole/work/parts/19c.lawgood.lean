set_option maxRecDepth 20000 in
theorem ggL_make_X1_make : GoodIn wsL_make wsX1_make := goodIn_ca (goodIn_ca (goodIn_r _ [7, 8, 9, 10, 11, 12, 6, 13, 14, 15, 16, 17, 18, 19, 20, 21, 22, 23, 24, 25, 26, 27] (by decide +kernel) (by decide +kernel)) (goodIn_sub (fun _ h => List.mem_cons_of_mem _ (List.mem_append_left _ (List.mem_append_right _ h))) (by decide +kernel))) (goodIn_sub (fun _ h => List.mem_cons_of_mem _ (List.mem_append_right _ h)) (by decide +kernel))
set_option maxRecDepth 20000 in
theorem gL_make_X1_make : GoodIn wsL_make (wsV RL 7 RX1 yX1_make wsX1_make) := goodIn_app (goodIn_of _ (by decide +kernel)) ggL_make_X1_make
theorem dL_make_0 : decode cL_make 0 = .ok (.aload_n 3, 1) := by decide +kernel
theorem dL_make_1 : decode cL_make 1 = .ok (.iconst 0, 1) := by decide +kernel
theorem dL_make_2 : decode cL_make 2 = .ok (.aload_n 0, 1) := by decide +kernel
theorem dL_make_3 : decode cL_make 3 = .ok (.iload_n 1, 1) := by decide +kernel
theorem dL_make_4 : decode cL_make 4 = .ok (.iload_n 2, 1) := by decide +kernel
theorem dL_make_5 : decode cL_make 5 = .ok (.invokevirtual 7, 3) := by decide +kernel
theorem dL_make_8 : decode cL_make 8 = .ok (.i2l, 1) := by decide +kernel
theorem dL_make_9 : decode cL_make 9 = .ok (.lastore, 1) := by decide +kernel
theorem dL_make_10 : decode cL_make 10 = .ok (.goto 11, 3) := by decide +kernel
theorem dL_make_13 : decode cL_make 13 = .ok (.astore 4, 2) := by decide +kernel
theorem dL_make_15 : decode cL_make 15 = .ok (.iconst 1, 1) := by decide +kernel
theorem dL_make_16 : decode cL_make 16 = .ok (.ireturn, 1) := by decide +kernel
theorem dL_make_17 : decode cL_make 17 = .ok (.astore 4, 2) := by decide +kernel
theorem dL_make_19 : decode cL_make 19 = .ok (.iconst 2, 1) := by decide +kernel
theorem dL_make_20 : decode cL_make 20 = .ok (.ireturn, 1) := by decide +kernel
theorem dL_make_21 : decode cL_make 21 = .ok (.iconst 0, 1) := by decide +kernel
theorem dL_make_22 : decode cL_make 22 = .ok (.ireturn, 1) := by decide +kernel
set_option maxRecDepth 20000 in
theorem ggL_rowAt_X1_rowAt : GoodIn wsL_rowAt wsX1_rowAt := goodIn_ca (goodIn_ca (goodIn_r _ [6, 7, 8, 9, 5, 10, 11, 12, 13, 14, 15, 16, 17, 18, 19, 20] (by decide +kernel) (by decide +kernel)) (goodIn_sub (fun _ h => List.mem_cons_of_mem _ (List.mem_append_left _ (List.mem_append_right _ h))) (by decide +kernel))) (goodIn_sub (fun _ h => List.mem_cons_of_mem _ (List.mem_append_right _ h)) (by decide +kernel))
set_option maxRecDepth 20000 in
theorem gL_rowAt_X1_rowAt : GoodIn wsL_rowAt (wsV RL 17 RX1 yX1_rowAt wsX1_rowAt) := goodIn_app (goodIn_of _ (by decide +kernel)) ggL_rowAt_X1_rowAt
theorem dL_rowAt_0 : decode cL_rowAt 0 = .ok (.aload_n 3, 1) := by decide +kernel
theorem dL_rowAt_1 : decode cL_rowAt 1 = .ok (.iconst 0, 1) := by decide +kernel
theorem dL_rowAt_2 : decode cL_rowAt 2 = .ok (.aload_n 0, 1) := by decide +kernel
theorem dL_rowAt_3 : decode cL_rowAt 3 = .ok (.iload_n 1, 1) := by decide +kernel
theorem dL_rowAt_4 : decode cL_rowAt 4 = .ok (.iload_n 2, 1) := by decide +kernel
theorem dL_rowAt_5 : decode cL_rowAt 5 = .ok (.invokevirtual 17, 3) := by decide +kernel
theorem dL_rowAt_8 : decode cL_rowAt 8 = .ok (.i2l, 1) := by decide +kernel
theorem dL_rowAt_9 : decode cL_rowAt 9 = .ok (.lastore, 1) := by decide +kernel
theorem dL_rowAt_10 : decode cL_rowAt 10 = .ok (.goto 7, 3) := by decide +kernel
theorem dL_rowAt_13 : decode cL_rowAt 13 = .ok (.astore 4, 2) := by decide +kernel
theorem dL_rowAt_15 : decode cL_rowAt 15 = .ok (.iconst 1, 1) := by decide +kernel
theorem dL_rowAt_16 : decode cL_rowAt 16 = .ok (.ireturn, 1) := by decide +kernel
theorem dL_rowAt_17 : decode cL_rowAt 17 = .ok (.iconst 0, 1) := by decide +kernel
theorem dL_rowAt_18 : decode cL_rowAt 18 = .ok (.ireturn, 1) := by decide +kernel
set_option maxRecDepth 20000 in
theorem ggL_rowPut_X1_rowPut : GoodIn wsL_rowPut wsX1_rowPut := goodIn_ca (goodIn_ca (goodIn_r _ [6, 7, 8, 9, 5, 10, 11, 12, 13, 14, 15, 16, 17, 18, 19, 20] (by decide +kernel) (by decide +kernel)) (goodIn_sub (fun _ h => List.mem_cons_of_mem _ (List.mem_append_left _ (List.mem_append_right _ h))) (by decide +kernel))) (goodIn_sub (fun _ h => List.mem_cons_of_mem _ (List.mem_append_right _ h)) (by decide +kernel))
set_option maxRecDepth 20000 in
theorem gL_rowPut_X1_rowPut : GoodIn wsL_rowPut (wsV RL 20 RX1 yX1_rowPut wsX1_rowPut) := goodIn_app (goodIn_of _ (by decide +kernel)) ggL_rowPut_X1_rowPut
theorem dL_rowPut_0 : decode cL_rowPut 0 = .ok (.aload 4, 2) := by decide +kernel
theorem dL_rowPut_2 : decode cL_rowPut 2 = .ok (.iconst 0, 1) := by decide +kernel
theorem dL_rowPut_3 : decode cL_rowPut 3 = .ok (.aload_n 0, 1) := by decide +kernel
theorem dL_rowPut_4 : decode cL_rowPut 4 = .ok (.iload_n 1, 1) := by decide +kernel
theorem dL_rowPut_5 : decode cL_rowPut 5 = .ok (.iload_n 2, 1) := by decide +kernel
theorem dL_rowPut_6 : decode cL_rowPut 6 = .ok (.iload_n 3, 1) := by decide +kernel
theorem dL_rowPut_7 : decode cL_rowPut 7 = .ok (.invokevirtual 20, 3) := by decide +kernel
theorem dL_rowPut_10 : decode cL_rowPut 10 = .ok (.i2l, 1) := by decide +kernel
theorem dL_rowPut_11 : decode cL_rowPut 11 = .ok (.lastore, 1) := by decide +kernel
theorem dL_rowPut_12 : decode cL_rowPut 12 = .ok (.goto 7, 3) := by decide +kernel
theorem dL_rowPut_15 : decode cL_rowPut 15 = .ok (.astore 5, 2) := by decide +kernel
theorem dL_rowPut_17 : decode cL_rowPut 17 = .ok (.iconst 1, 1) := by decide +kernel
theorem dL_rowPut_18 : decode cL_rowPut 18 = .ok (.ireturn, 1) := by decide +kernel
theorem dL_rowPut_19 : decode cL_rowPut 19 = .ok (.iconst 0, 1) := by decide +kernel
theorem dL_rowPut_20 : decode cL_rowPut 20 = .ok (.ireturn, 1) := by decide +kernel
set_option maxRecDepth 20000 in
theorem ggL_allocate_X1_allocate : GoodIn wsL_allocate wsX1_allocate := goodIn_ca (goodIn_ca (goodIn_r _ [7, 8, 9, 10, 11, 6, 12, 13, 14, 15, 16, 17, 18, 19, 20, 21, 22, 23, 24, 25, 26, 27, 28, 29, 30, 31, 32, 33, 34, 35, 36, 37, 38, 39, 40, 41, 42, 43, 44, 45, 46, 47, 48, 49, 50, 51, 52, 53, 54, 55, 56, 57, 58, 59] (by decide +kernel) (by decide +kernel)) (goodIn_sub (fun _ h => List.mem_cons_of_mem _ (List.mem_append_left _ (List.mem_append_right _ h))) (by decide +kernel))) (goodIn_sub (fun _ h => List.mem_cons_of_mem _ (List.mem_append_right _ h)) (by decide +kernel))
set_option maxRecDepth 20000 in
theorem gL_allocate_X1_allocate : GoodIn wsL_allocate (wsV RL 24 RX1 yX1_allocate wsX1_allocate) := goodIn_app (goodIn_of _ (by decide +kernel)) ggL_allocate_X1_allocate
theorem dL_allocate_0 : decode cL_allocate 0 = .ok (.aload 4, 2) := by decide +kernel
theorem dL_allocate_2 : decode cL_allocate 2 = .ok (.iconst 0, 1) := by decide +kernel
theorem dL_allocate_3 : decode cL_allocate 3 = .ok (.aload_n 0, 1) := by decide +kernel
theorem dL_allocate_4 : decode cL_allocate 4 = .ok (.iload_n 1, 1) := by decide +kernel
theorem dL_allocate_5 : decode cL_allocate 5 = .ok (.iload_n 2, 1) := by decide +kernel
theorem dL_allocate_6 : decode cL_allocate 6 = .ok (.iload_n 3, 1) := by decide +kernel
theorem dL_allocate_7 : decode cL_allocate 7 = .ok (.invokevirtual 24, 3) := by decide +kernel
theorem dL_allocate_10 : decode cL_allocate 10 = .ok (.ifCond .eq 7, 3) := by decide +kernel
theorem dL_allocate_13 : decode cL_allocate 13 = .ok (.lconst 1, 1) := by decide +kernel
theorem dL_allocate_14 : decode cL_allocate 14 = .ok (.goto 4, 3) := by decide +kernel
theorem dL_allocate_17 : decode cL_allocate 17 = .ok (.lconst 0, 1) := by decide +kernel
theorem dL_allocate_18 : decode cL_allocate 18 = .ok (.lastore, 1) := by decide +kernel
theorem dL_allocate_19 : decode cL_allocate 19 = .ok (.goto 11, 3) := by decide +kernel
theorem dL_allocate_22 : decode cL_allocate 22 = .ok (.astore 5, 2) := by decide +kernel
theorem dL_allocate_24 : decode cL_allocate 24 = .ok (.iconst 1, 1) := by decide +kernel
theorem dL_allocate_25 : decode cL_allocate 25 = .ok (.ireturn, 1) := by decide +kernel
theorem dL_allocate_26 : decode cL_allocate 26 = .ok (.astore 5, 2) := by decide +kernel
theorem dL_allocate_28 : decode cL_allocate 28 = .ok (.iconst 2, 1) := by decide +kernel
theorem dL_allocate_29 : decode cL_allocate 29 = .ok (.ireturn, 1) := by decide +kernel
theorem dL_allocate_30 : decode cL_allocate 30 = .ok (.iconst 0, 1) := by decide +kernel
theorem dL_allocate_31 : decode cL_allocate 31 = .ok (.ireturn, 1) := by decide +kernel
set_option maxRecDepth 20000 in
theorem ggL_wrap_X1_wrap : GoodIn wsL_wrap wsX1_wrap := goodIn_ca (goodIn_r _ [6, 7, 8, 9, 10, 5, 11, 12, 13, 14, 15, 16, 17, 18, 19, 20, 21, 22, 23, 24, 25, 26, 27, 28, 29, 30, 31, 32, 33, 34, 35, 36, 37, 38, 39, 40, 41, 42, 43, 44, 45, 46, 47, 48, 49, 50, 51] (by decide +kernel) (by decide +kernel)) (goodIn_sub (fun _ h => List.mem_cons_of_mem _ (List.mem_append_right _ h)) (by decide +kernel))
set_option maxRecDepth 20000 in
theorem gL_wrap_X1_wrap : GoodIn wsL_wrap (wsV RL 28 RX1 yX1_wrap wsX1_wrap) := goodIn_app (goodIn_of _ (by decide +kernel)) ggL_wrap_X1_wrap
theorem dL_wrap_0 : decode cL_wrap 0 = .ok (.aload_n 3, 1) := by decide +kernel
theorem dL_wrap_1 : decode cL_wrap 1 = .ok (.iconst 0, 1) := by decide +kernel
theorem dL_wrap_2 : decode cL_wrap 2 = .ok (.aload_n 0, 1) := by decide +kernel
theorem dL_wrap_3 : decode cL_wrap 3 = .ok (.iload_n 1, 1) := by decide +kernel
theorem dL_wrap_4 : decode cL_wrap 4 = .ok (.iload_n 2, 1) := by decide +kernel
theorem dL_wrap_5 : decode cL_wrap 5 = .ok (.invokevirtual 28, 3) := by decide +kernel
theorem dL_wrap_8 : decode cL_wrap 8 = .ok (.i2l, 1) := by decide +kernel
theorem dL_wrap_9 : decode cL_wrap 9 = .ok (.lastore, 1) := by decide +kernel
theorem dL_wrap_10 : decode cL_wrap 10 = .ok (.goto 7, 3) := by decide +kernel
theorem dL_wrap_13 : decode cL_wrap 13 = .ok (.astore 4, 2) := by decide +kernel
theorem dL_wrap_15 : decode cL_wrap 15 = .ok (.iconst 1, 1) := by decide +kernel
theorem dL_wrap_16 : decode cL_wrap 16 = .ok (.ireturn, 1) := by decide +kernel
theorem dL_wrap_17 : decode cL_wrap 17 = .ok (.iconst 0, 1) := by decide +kernel
theorem dL_wrap_18 : decode cL_wrap 18 = .ok (.ireturn, 1) := by decide +kernel
set_option maxRecDepth 20000 in
theorem ggL_kind_X1_kind : GoodIn wsL_kind wsX1_kind := goodIn_ca (goodIn_r _ [6, 7, 8, 9, 10, 5, 11, 12, 13, 14, 15, 16, 17, 18, 19, 20, 21, 22, 23, 24, 25, 26, 27, 28, 29] (by decide +kernel) (by decide +kernel)) (goodIn_sub (fun _ h => List.mem_cons_of_mem _ (List.mem_append_right _ h)) (by decide +kernel))
set_option maxRecDepth 20000 in
theorem gL_kind_X1_kind : GoodIn wsL_kind (wsV RL 31 RX1 yX1_kind wsX1_kind) := goodIn_app (goodIn_of _ (by decide +kernel)) ggL_kind_X1_kind
theorem dL_kind_0 : decode cL_kind 0 = .ok (.aload_n 2, 1) := by decide +kernel
theorem dL_kind_1 : decode cL_kind 1 = .ok (.iconst 0, 1) := by decide +kernel
theorem dL_kind_2 : decode cL_kind 2 = .ok (.aload_n 0, 1) := by decide +kernel
theorem dL_kind_3 : decode cL_kind 3 = .ok (.iload_n 1, 1) := by decide +kernel
theorem dL_kind_4 : decode cL_kind 4 = .ok (.invokevirtual 31, 3) := by decide +kernel
theorem dL_kind_7 : decode cL_kind 7 = .ok (.i2l, 1) := by decide +kernel
theorem dL_kind_8 : decode cL_kind 8 = .ok (.lastore, 1) := by decide +kernel
theorem dL_kind_9 : decode cL_kind 9 = .ok (.goto 6, 3) := by decide +kernel
theorem dL_kind_12 : decode cL_kind 12 = .ok (.astore_n 3, 1) := by decide +kernel
theorem dL_kind_13 : decode cL_kind 13 = .ok (.iconst 1, 1) := by decide +kernel
theorem dL_kind_14 : decode cL_kind 14 = .ok (.ireturn, 1) := by decide +kernel
theorem dL_kind_15 : decode cL_kind 15 = .ok (.iconst 0, 1) := by decide +kernel
theorem dL_kind_16 : decode cL_kind 16 = .ok (.ireturn, 1) := by decide +kernel
set_option maxRecDepth 20000 in
theorem ggL_capacity_X1_capacity : GoodIn wsL_capacity wsX1_capacity := goodIn_ca (goodIn_r _ [6, 7, 8, 9, 10, 5, 11, 12, 13, 14, 15, 16, 17, 18, 19, 20, 21, 22, 23, 24, 25, 26, 27, 28, 29, 30, 31, 32, 33, 34, 35, 36, 37, 38, 39] (by decide +kernel) (by decide +kernel)) (goodIn_sub (fun _ h => List.mem_cons_of_mem _ (List.mem_append_right _ h)) (by decide +kernel))
set_option maxRecDepth 20000 in
theorem gL_capacity_X1_capacity : GoodIn wsL_capacity (wsV RL 35 RX1 yX1_capacity wsX1_capacity) := goodIn_app (goodIn_of _ (by decide +kernel)) ggL_capacity_X1_capacity
theorem dL_capacity_0 : decode cL_capacity 0 = .ok (.aload_n 2, 1) := by decide +kernel
theorem dL_capacity_1 : decode cL_capacity 1 = .ok (.iconst 0, 1) := by decide +kernel
theorem dL_capacity_2 : decode cL_capacity 2 = .ok (.aload_n 0, 1) := by decide +kernel
theorem dL_capacity_3 : decode cL_capacity 3 = .ok (.iload_n 1, 1) := by decide +kernel
theorem dL_capacity_4 : decode cL_capacity 4 = .ok (.invokevirtual 35, 3) := by decide +kernel
theorem dL_capacity_7 : decode cL_capacity 7 = .ok (.i2l, 1) := by decide +kernel
theorem dL_capacity_8 : decode cL_capacity 8 = .ok (.lastore, 1) := by decide +kernel
theorem dL_capacity_9 : decode cL_capacity 9 = .ok (.goto 6, 3) := by decide +kernel
theorem dL_capacity_12 : decode cL_capacity 12 = .ok (.astore_n 3, 1) := by decide +kernel
theorem dL_capacity_13 : decode cL_capacity 13 = .ok (.iconst 1, 1) := by decide +kernel
theorem dL_capacity_14 : decode cL_capacity 14 = .ok (.ireturn, 1) := by decide +kernel
theorem dL_capacity_15 : decode cL_capacity 15 = .ok (.iconst 0, 1) := by decide +kernel
theorem dL_capacity_16 : decode cL_capacity 16 = .ok (.ireturn, 1) := by decide +kernel
set_option maxRecDepth 20000 in
theorem ggL_place_X1_place : GoodIn wsL_place wsX1_place := goodIn_ca (goodIn_r _ [6, 7, 8, 9, 10, 5, 11, 12, 13, 14, 15, 16, 17, 18, 19, 20, 21, 22, 23, 24, 25, 26, 27, 28, 29, 30, 31, 32, 33, 34, 35, 36, 37, 38, 39] (by decide +kernel) (by decide +kernel)) (goodIn_sub (fun _ h => List.mem_cons_of_mem _ (List.mem_append_right _ h)) (by decide +kernel))
set_option maxRecDepth 20000 in
theorem gL_place_X1_place : GoodIn wsL_place (wsV RL 39 RX1 yX1_place wsX1_place) := goodIn_app (goodIn_of _ (by decide +kernel)) ggL_place_X1_place
theorem dL_place_0 : decode cL_place 0 = .ok (.aload_n 2, 1) := by decide +kernel
theorem dL_place_1 : decode cL_place 1 = .ok (.iconst 0, 1) := by decide +kernel
theorem dL_place_2 : decode cL_place 2 = .ok (.aload_n 0, 1) := by decide +kernel
theorem dL_place_3 : decode cL_place 3 = .ok (.iload_n 1, 1) := by decide +kernel
theorem dL_place_4 : decode cL_place 4 = .ok (.invokevirtual 39, 3) := by decide +kernel
theorem dL_place_7 : decode cL_place 7 = .ok (.i2l, 1) := by decide +kernel
theorem dL_place_8 : decode cL_place 8 = .ok (.lastore, 1) := by decide +kernel
theorem dL_place_9 : decode cL_place 9 = .ok (.goto 6, 3) := by decide +kernel
theorem dL_place_12 : decode cL_place 12 = .ok (.astore_n 3, 1) := by decide +kernel
theorem dL_place_13 : decode cL_place 13 = .ok (.iconst 1, 1) := by decide +kernel
theorem dL_place_14 : decode cL_place 14 = .ok (.ireturn, 1) := by decide +kernel
theorem dL_place_15 : decode cL_place 15 = .ok (.iconst 0, 1) := by decide +kernel
theorem dL_place_16 : decode cL_place 16 = .ok (.ireturn, 1) := by decide +kernel
set_option maxRecDepth 20000 in
theorem ggL_end_X1_end : GoodIn wsL_end wsX1_end := goodIn_ca (goodIn_r _ [6, 7, 8, 9, 10, 5, 11, 12, 13, 14, 15, 16, 17, 18, 19, 20, 21, 22, 23, 24, 25, 26, 27, 28, 29, 30, 31, 32, 33, 34, 35, 36, 37, 38, 39] (by decide +kernel) (by decide +kernel)) (goodIn_sub (fun _ h => List.mem_cons_of_mem _ (List.mem_append_right _ h)) (by decide +kernel))
set_option maxRecDepth 20000 in
theorem gL_end_X1_end : GoodIn wsL_end (wsV RL 42 RX1 yX1_end wsX1_end) := goodIn_app (goodIn_of _ (by decide +kernel)) ggL_end_X1_end
theorem dL_end_0 : decode cL_end 0 = .ok (.aload_n 2, 1) := by decide +kernel
theorem dL_end_1 : decode cL_end 1 = .ok (.iconst 0, 1) := by decide +kernel
theorem dL_end_2 : decode cL_end 2 = .ok (.aload_n 0, 1) := by decide +kernel
theorem dL_end_3 : decode cL_end 3 = .ok (.iload_n 1, 1) := by decide +kernel
theorem dL_end_4 : decode cL_end 4 = .ok (.invokevirtual 42, 3) := by decide +kernel
theorem dL_end_7 : decode cL_end 7 = .ok (.i2l, 1) := by decide +kernel
theorem dL_end_8 : decode cL_end 8 = .ok (.lastore, 1) := by decide +kernel
theorem dL_end_9 : decode cL_end 9 = .ok (.goto 6, 3) := by decide +kernel
theorem dL_end_12 : decode cL_end 12 = .ok (.astore_n 3, 1) := by decide +kernel
theorem dL_end_13 : decode cL_end 13 = .ok (.iconst 1, 1) := by decide +kernel
theorem dL_end_14 : decode cL_end 14 = .ok (.ireturn, 1) := by decide +kernel
theorem dL_end_15 : decode cL_end 15 = .ok (.iconst 0, 1) := by decide +kernel
theorem dL_end_16 : decode cL_end 16 = .ok (.ireturn, 1) := by decide +kernel
set_option maxRecDepth 20000 in
theorem ggL_left_X1_left : GoodIn wsL_left wsX1_left := goodIn_ca (goodIn_r _ [6, 7, 8, 9, 5, 10, 11, 12, 13, 14, 15, 16, 17, 18, 19, 20, 21, 22, 23, 24, 25, 26, 27, 28, 29, 30, 31, 32, 33, 34, 35, 36, 37, 38, 39, 40, 41, 42, 43, 44] (by decide +kernel) (by decide +kernel)) (goodIn_sub (fun _ h => List.mem_cons_of_mem _ (List.mem_append_right _ h)) (by decide +kernel))
set_option maxRecDepth 20000 in
theorem gL_left_X1_left : GoodIn wsL_left (wsV RL 45 RX1 yX1_left wsX1_left) := goodIn_app (goodIn_of _ (by decide +kernel)) ggL_left_X1_left
theorem dL_left_0 : decode cL_left 0 = .ok (.aload_n 2, 1) := by decide +kernel
theorem dL_left_1 : decode cL_left 1 = .ok (.iconst 0, 1) := by decide +kernel
theorem dL_left_2 : decode cL_left 2 = .ok (.aload_n 0, 1) := by decide +kernel
theorem dL_left_3 : decode cL_left 3 = .ok (.iload_n 1, 1) := by decide +kernel
theorem dL_left_4 : decode cL_left 4 = .ok (.invokevirtual 45, 3) := by decide +kernel
theorem dL_left_7 : decode cL_left 7 = .ok (.i2l, 1) := by decide +kernel
theorem dL_left_8 : decode cL_left 8 = .ok (.lastore, 1) := by decide +kernel
theorem dL_left_9 : decode cL_left 9 = .ok (.goto 6, 3) := by decide +kernel
theorem dL_left_12 : decode cL_left 12 = .ok (.astore_n 3, 1) := by decide +kernel
theorem dL_left_13 : decode cL_left 13 = .ok (.iconst 1, 1) := by decide +kernel
theorem dL_left_14 : decode cL_left 14 = .ok (.ireturn, 1) := by decide +kernel
theorem dL_left_15 : decode cL_left 15 = .ok (.iconst 0, 1) := by decide +kernel
theorem dL_left_16 : decode cL_left 16 = .ok (.ireturn, 1) := by decide +kernel
set_option maxRecDepth 20000 in
theorem ggL_hasLeft_X1_hasLeft : GoodIn wsL_hasLeft wsX1_hasLeft := goodIn_ca (goodIn_r _ [6, 7, 8, 9, 5, 10, 11, 12, 13, 14, 15, 16, 17, 18, 19, 20, 21, 22, 23, 24, 25, 26, 27, 28, 29, 30, 31, 32, 33, 34, 35, 36, 37, 38, 39, 40, 41, 42, 43, 44] (by decide +kernel) (by decide +kernel)) (goodIn_sub (fun _ h => List.mem_cons_of_mem _ (List.mem_append_right _ h)) (by decide +kernel))
set_option maxRecDepth 20000 in
theorem gL_hasLeft_X1_hasLeft : GoodIn wsL_hasLeft (wsV RL 48 RX1 yX1_hasLeft wsX1_hasLeft) := goodIn_app (goodIn_of _ (by decide +kernel)) ggL_hasLeft_X1_hasLeft
theorem dL_hasLeft_0 : decode cL_hasLeft 0 = .ok (.aload_n 2, 1) := by decide +kernel
theorem dL_hasLeft_1 : decode cL_hasLeft 1 = .ok (.iconst 0, 1) := by decide +kernel
theorem dL_hasLeft_2 : decode cL_hasLeft 2 = .ok (.aload_n 0, 1) := by decide +kernel
theorem dL_hasLeft_3 : decode cL_hasLeft 3 = .ok (.iload_n 1, 1) := by decide +kernel
theorem dL_hasLeft_4 : decode cL_hasLeft 4 = .ok (.invokevirtual 48, 3) := by decide +kernel
theorem dL_hasLeft_7 : decode cL_hasLeft 7 = .ok (.ifCond .eq 7, 3) := by decide +kernel
theorem dL_hasLeft_10 : decode cL_hasLeft 10 = .ok (.lconst 1, 1) := by decide +kernel
theorem dL_hasLeft_11 : decode cL_hasLeft 11 = .ok (.goto 4, 3) := by decide +kernel
theorem dL_hasLeft_14 : decode cL_hasLeft 14 = .ok (.lconst 0, 1) := by decide +kernel
theorem dL_hasLeft_15 : decode cL_hasLeft 15 = .ok (.lastore, 1) := by decide +kernel
theorem dL_hasLeft_16 : decode cL_hasLeft 16 = .ok (.goto 6, 3) := by decide +kernel
theorem dL_hasLeft_19 : decode cL_hasLeft 19 = .ok (.astore_n 3, 1) := by decide +kernel
theorem dL_hasLeft_20 : decode cL_hasLeft 20 = .ok (.iconst 1, 1) := by decide +kernel
theorem dL_hasLeft_21 : decode cL_hasLeft 21 = .ok (.ireturn, 1) := by decide +kernel
theorem dL_hasLeft_22 : decode cL_hasLeft 22 = .ok (.iconst 0, 1) := by decide +kernel
theorem dL_hasLeft_23 : decode cL_hasLeft 23 = .ok (.ireturn, 1) := by decide +kernel
set_option maxRecDepth 20000 in
theorem ggL_isReadOnly_X1_isReadOnly : GoodIn wsL_isReadOnly wsX1_isReadOnly := goodIn_ca (goodIn_r _ [6, 7, 8, 9, 10, 5, 11, 12, 13, 14, 15, 16, 17, 18, 19, 20, 21, 22, 23, 24, 25, 26, 27, 28, 29, 30, 31, 32, 33, 34, 35, 36, 37, 38, 39] (by decide +kernel) (by decide +kernel)) (goodIn_sub (fun _ h => List.mem_cons_of_mem _ (List.mem_append_right _ h)) (by decide +kernel))
set_option maxRecDepth 20000 in
theorem gL_isReadOnly_X1_isReadOnly : GoodIn wsL_isReadOnly (wsV RL 52 RX1 yX1_isReadOnly wsX1_isReadOnly) := goodIn_app (goodIn_of _ (by decide +kernel)) ggL_isReadOnly_X1_isReadOnly
theorem dL_isReadOnly_0 : decode cL_isReadOnly 0 = .ok (.aload_n 2, 1) := by decide +kernel
theorem dL_isReadOnly_1 : decode cL_isReadOnly 1 = .ok (.iconst 0, 1) := by decide +kernel
theorem dL_isReadOnly_2 : decode cL_isReadOnly 2 = .ok (.aload_n 0, 1) := by decide +kernel
theorem dL_isReadOnly_3 : decode cL_isReadOnly 3 = .ok (.iload_n 1, 1) := by decide +kernel
theorem dL_isReadOnly_4 : decode cL_isReadOnly 4 = .ok (.invokevirtual 52, 3) := by decide +kernel
theorem dL_isReadOnly_7 : decode cL_isReadOnly 7 = .ok (.ifCond .eq 7, 3) := by decide +kernel
theorem dL_isReadOnly_10 : decode cL_isReadOnly 10 = .ok (.lconst 1, 1) := by decide +kernel
theorem dL_isReadOnly_11 : decode cL_isReadOnly 11 = .ok (.goto 4, 3) := by decide +kernel
theorem dL_isReadOnly_14 : decode cL_isReadOnly 14 = .ok (.lconst 0, 1) := by decide +kernel
theorem dL_isReadOnly_15 : decode cL_isReadOnly 15 = .ok (.lastore, 1) := by decide +kernel
theorem dL_isReadOnly_16 : decode cL_isReadOnly 16 = .ok (.goto 6, 3) := by decide +kernel
theorem dL_isReadOnly_19 : decode cL_isReadOnly 19 = .ok (.astore_n 3, 1) := by decide +kernel
theorem dL_isReadOnly_20 : decode cL_isReadOnly 20 = .ok (.iconst 1, 1) := by decide +kernel
theorem dL_isReadOnly_21 : decode cL_isReadOnly 21 = .ok (.ireturn, 1) := by decide +kernel
theorem dL_isReadOnly_22 : decode cL_isReadOnly 22 = .ok (.iconst 0, 1) := by decide +kernel
theorem dL_isReadOnly_23 : decode cL_isReadOnly 23 = .ok (.ireturn, 1) := by decide +kernel
set_option maxRecDepth 20000 in
theorem ggL_placeAt_X1_placeAt : GoodIn wsL_placeAt wsX1_placeAt := goodIn_ca (goodIn_ca (goodIn_r _ [7, 8, 9, 10, 11, 12, 6, 13, 14, 15, 16, 17, 18, 19, 20, 21, 22, 23, 24, 25, 26, 27, 28, 29, 30, 31, 32, 33, 34, 35, 36, 37, 38, 39, 40, 41, 42, 43, 44, 45, 46, 47, 48, 49, 50, 51] (by decide +kernel) (by decide +kernel)) (goodIn_sub (fun _ h => List.mem_cons_of_mem _ (List.mem_append_left _ (List.mem_append_right _ h))) (by decide +kernel))) (goodIn_sub (fun _ h => List.mem_cons_of_mem _ (List.mem_append_right _ h)) (by decide +kernel))
set_option maxRecDepth 20000 in
theorem gL_placeAt_X1_placeAt : GoodIn wsL_placeAt (wsV RL 55 RX1 yX1_placeAt wsX1_placeAt) := goodIn_app (goodIn_of _ (by decide +kernel)) ggL_placeAt_X1_placeAt
theorem dL_placeAt_0 : decode cL_placeAt 0 = .ok (.aload_n 3, 1) := by decide +kernel
theorem dL_placeAt_1 : decode cL_placeAt 1 = .ok (.iconst 0, 1) := by decide +kernel
theorem dL_placeAt_2 : decode cL_placeAt 2 = .ok (.aload_n 0, 1) := by decide +kernel
theorem dL_placeAt_3 : decode cL_placeAt 3 = .ok (.iload_n 1, 1) := by decide +kernel
theorem dL_placeAt_4 : decode cL_placeAt 4 = .ok (.iload_n 2, 1) := by decide +kernel
theorem dL_placeAt_5 : decode cL_placeAt 5 = .ok (.invokevirtual 55, 3) := by decide +kernel
theorem dL_placeAt_8 : decode cL_placeAt 8 = .ok (.i2l, 1) := by decide +kernel
theorem dL_placeAt_9 : decode cL_placeAt 9 = .ok (.lastore, 1) := by decide +kernel
theorem dL_placeAt_10 : decode cL_placeAt 10 = .ok (.goto 11, 3) := by decide +kernel
theorem dL_placeAt_13 : decode cL_placeAt 13 = .ok (.astore 4, 2) := by decide +kernel
theorem dL_placeAt_15 : decode cL_placeAt 15 = .ok (.iconst 1, 1) := by decide +kernel
theorem dL_placeAt_16 : decode cL_placeAt 16 = .ok (.ireturn, 1) := by decide +kernel
theorem dL_placeAt_17 : decode cL_placeAt 17 = .ok (.astore 4, 2) := by decide +kernel
theorem dL_placeAt_19 : decode cL_placeAt 19 = .ok (.iconst 2, 1) := by decide +kernel
theorem dL_placeAt_20 : decode cL_placeAt 20 = .ok (.ireturn, 1) := by decide +kernel
theorem dL_placeAt_21 : decode cL_placeAt 21 = .ok (.iconst 0, 1) := by decide +kernel
theorem dL_placeAt_22 : decode cL_placeAt 22 = .ok (.ireturn, 1) := by decide +kernel
set_option maxRecDepth 20000 in
theorem ggL_endAt_X1_endAt : GoodIn wsL_endAt wsX1_endAt := goodIn_ca (goodIn_ca (goodIn_r _ [7, 8, 9, 10, 11, 12, 13, 14, 15, 16, 17, 6, 18, 19, 20, 21, 22, 23, 24, 25, 26, 27, 28, 29, 30, 31, 32, 33, 34, 35, 36, 37, 38, 39, 40, 41, 42, 43, 44, 45, 46, 47, 48, 49, 50, 51, 52, 53, 54, 55, 56] (by decide +kernel) (by decide +kernel)) (goodIn_sub (fun _ h => List.mem_cons_of_mem _ (List.mem_append_left _ (List.mem_append_right _ h))) (by decide +kernel))) (goodIn_sub (fun _ h => List.mem_cons_of_mem _ (List.mem_append_right _ h)) (by decide +kernel))
set_option maxRecDepth 20000 in
theorem gL_endAt_X1_endAt : GoodIn wsL_endAt (wsV RL 58 RX1 yX1_endAt wsX1_endAt) := goodIn_app (goodIn_of _ (by decide +kernel)) ggL_endAt_X1_endAt
theorem dL_endAt_0 : decode cL_endAt 0 = .ok (.aload_n 3, 1) := by decide +kernel
theorem dL_endAt_1 : decode cL_endAt 1 = .ok (.iconst 0, 1) := by decide +kernel
theorem dL_endAt_2 : decode cL_endAt 2 = .ok (.aload_n 0, 1) := by decide +kernel
theorem dL_endAt_3 : decode cL_endAt 3 = .ok (.iload_n 1, 1) := by decide +kernel
theorem dL_endAt_4 : decode cL_endAt 4 = .ok (.iload_n 2, 1) := by decide +kernel
theorem dL_endAt_5 : decode cL_endAt 5 = .ok (.invokevirtual 58, 3) := by decide +kernel
theorem dL_endAt_8 : decode cL_endAt 8 = .ok (.i2l, 1) := by decide +kernel
theorem dL_endAt_9 : decode cL_endAt 9 = .ok (.lastore, 1) := by decide +kernel
theorem dL_endAt_10 : decode cL_endAt 10 = .ok (.goto 11, 3) := by decide +kernel
theorem dL_endAt_13 : decode cL_endAt 13 = .ok (.astore 4, 2) := by decide +kernel
theorem dL_endAt_15 : decode cL_endAt 15 = .ok (.iconst 1, 1) := by decide +kernel
theorem dL_endAt_16 : decode cL_endAt 16 = .ok (.ireturn, 1) := by decide +kernel
theorem dL_endAt_17 : decode cL_endAt 17 = .ok (.astore 4, 2) := by decide +kernel
theorem dL_endAt_19 : decode cL_endAt 19 = .ok (.iconst 2, 1) := by decide +kernel
theorem dL_endAt_20 : decode cL_endAt 20 = .ok (.ireturn, 1) := by decide +kernel
theorem dL_endAt_21 : decode cL_endAt 21 = .ok (.iconst 0, 1) := by decide +kernel
theorem dL_endAt_22 : decode cL_endAt 22 = .ok (.ireturn, 1) := by decide +kernel
set_option maxRecDepth 20000 in
theorem ggL_mark_X1_mark : GoodIn wsL_mark wsX1_mark := goodIn_ca (goodIn_r _ [6, 7, 8, 9, 10, 11, 5, 12, 13, 14, 15, 16, 17, 18, 19, 20, 21, 22, 23, 24, 25, 26, 27, 28, 29, 30, 31, 32, 33, 34, 35, 36, 37, 38, 39, 40] (by decide +kernel) (by decide +kernel)) (goodIn_sub (fun _ h => List.mem_cons_of_mem _ (List.mem_append_right _ h)) (by decide +kernel))
set_option maxRecDepth 20000 in
theorem gL_mark_X1_mark : GoodIn wsL_mark (wsV RL 61 RX1 yX1_mark wsX1_mark) := goodIn_app (goodIn_of _ (by decide +kernel)) ggL_mark_X1_mark
theorem dL_mark_0 : decode cL_mark 0 = .ok (.aload_n 2, 1) := by decide +kernel
theorem dL_mark_1 : decode cL_mark 1 = .ok (.iconst 0, 1) := by decide +kernel
theorem dL_mark_2 : decode cL_mark 2 = .ok (.aload_n 0, 1) := by decide +kernel
theorem dL_mark_3 : decode cL_mark 3 = .ok (.iload_n 1, 1) := by decide +kernel
theorem dL_mark_4 : decode cL_mark 4 = .ok (.invokevirtual 61, 3) := by decide +kernel
theorem dL_mark_7 : decode cL_mark 7 = .ok (.i2l, 1) := by decide +kernel
theorem dL_mark_8 : decode cL_mark 8 = .ok (.lastore, 1) := by decide +kernel
theorem dL_mark_9 : decode cL_mark 9 = .ok (.goto 6, 3) := by decide +kernel
theorem dL_mark_12 : decode cL_mark 12 = .ok (.astore_n 3, 1) := by decide +kernel
theorem dL_mark_13 : decode cL_mark 13 = .ok (.iconst 1, 1) := by decide +kernel
theorem dL_mark_14 : decode cL_mark 14 = .ok (.ireturn, 1) := by decide +kernel
theorem dL_mark_15 : decode cL_mark 15 = .ok (.iconst 0, 1) := by decide +kernel
theorem dL_mark_16 : decode cL_mark 16 = .ok (.ireturn, 1) := by decide +kernel
set_option maxRecDepth 20000 in
theorem ggL_back_X1_back : GoodIn wsL_back wsX1_back := goodIn_ca (goodIn_ca (goodIn_r _ [7, 8, 9, 10, 11, 12, 13, 14, 6, 15, 16, 17, 18, 19, 20, 21, 22, 23, 24, 25, 26, 27, 28, 29, 30, 31, 32, 33, 34, 35, 36, 37, 38, 39, 40, 41, 42, 43] (by decide +kernel) (by decide +kernel)) (goodIn_sub (fun _ h => List.mem_cons_of_mem _ (List.mem_append_left _ (List.mem_append_right _ h))) (by decide +kernel))) (goodIn_sub (fun _ h => List.mem_cons_of_mem _ (List.mem_append_right _ h)) (by decide +kernel))
set_option maxRecDepth 20000 in
theorem gL_back_X1_back : GoodIn wsL_back (wsV RL 64 RX1 yX1_back wsX1_back) := goodIn_app (goodIn_of _ (by decide +kernel)) ggL_back_X1_back
theorem dL_back_0 : decode cL_back 0 = .ok (.aload_n 2, 1) := by decide +kernel
theorem dL_back_1 : decode cL_back 1 = .ok (.iconst 0, 1) := by decide +kernel
theorem dL_back_2 : decode cL_back 2 = .ok (.aload_n 0, 1) := by decide +kernel
theorem dL_back_3 : decode cL_back 3 = .ok (.iload_n 1, 1) := by decide +kernel
theorem dL_back_4 : decode cL_back 4 = .ok (.invokevirtual 64, 3) := by decide +kernel
theorem dL_back_7 : decode cL_back 7 = .ok (.i2l, 1) := by decide +kernel
theorem dL_back_8 : decode cL_back 8 = .ok (.lastore, 1) := by decide +kernel
theorem dL_back_9 : decode cL_back 9 = .ok (.goto 9, 3) := by decide +kernel
theorem dL_back_12 : decode cL_back 12 = .ok (.astore_n 3, 1) := by decide +kernel
theorem dL_back_13 : decode cL_back 13 = .ok (.iconst 1, 1) := by decide +kernel
theorem dL_back_14 : decode cL_back 14 = .ok (.ireturn, 1) := by decide +kernel
theorem dL_back_15 : decode cL_back 15 = .ok (.astore_n 3, 1) := by decide +kernel
theorem dL_back_16 : decode cL_back 16 = .ok (.iconst 2, 1) := by decide +kernel
theorem dL_back_17 : decode cL_back 17 = .ok (.ireturn, 1) := by decide +kernel
theorem dL_back_18 : decode cL_back 18 = .ok (.iconst 0, 1) := by decide +kernel
theorem dL_back_19 : decode cL_back 19 = .ok (.ireturn, 1) := by decide +kernel
set_option maxRecDepth 20000 in
theorem ggL_clear_X1_clear : GoodIn wsL_clear wsX1_clear := goodIn_ca (goodIn_r _ [6, 7, 8, 9, 10, 11, 5, 12, 13, 14, 15, 16, 17, 18, 19, 20, 21, 22, 23, 24, 25, 26, 27, 28, 29, 30, 31, 32, 33, 34, 35, 36, 37, 38, 39, 40, 41, 42, 43, 44, 45, 46, 47] (by decide +kernel) (by decide +kernel)) (goodIn_sub (fun _ h => List.mem_cons_of_mem _ (List.mem_append_right _ h)) (by decide +kernel))
set_option maxRecDepth 20000 in
theorem gL_clear_X1_clear : GoodIn wsL_clear (wsV RL 69 RX1 yX1_clear wsX1_clear) := goodIn_app (goodIn_of _ (by decide +kernel)) ggL_clear_X1_clear
theorem dL_clear_0 : decode cL_clear 0 = .ok (.aload_n 2, 1) := by decide +kernel
theorem dL_clear_1 : decode cL_clear 1 = .ok (.iconst 0, 1) := by decide +kernel
theorem dL_clear_2 : decode cL_clear 2 = .ok (.aload_n 0, 1) := by decide +kernel
theorem dL_clear_3 : decode cL_clear 3 = .ok (.iload_n 1, 1) := by decide +kernel
theorem dL_clear_4 : decode cL_clear 4 = .ok (.invokevirtual 69, 3) := by decide +kernel
theorem dL_clear_7 : decode cL_clear 7 = .ok (.i2l, 1) := by decide +kernel
theorem dL_clear_8 : decode cL_clear 8 = .ok (.lastore, 1) := by decide +kernel
theorem dL_clear_9 : decode cL_clear 9 = .ok (.goto 6, 3) := by decide +kernel
theorem dL_clear_12 : decode cL_clear 12 = .ok (.astore_n 3, 1) := by decide +kernel
theorem dL_clear_13 : decode cL_clear 13 = .ok (.iconst 1, 1) := by decide +kernel
theorem dL_clear_14 : decode cL_clear 14 = .ok (.ireturn, 1) := by decide +kernel
theorem dL_clear_15 : decode cL_clear 15 = .ok (.iconst 0, 1) := by decide +kernel
theorem dL_clear_16 : decode cL_clear 16 = .ok (.ireturn, 1) := by decide +kernel
set_option maxRecDepth 20000 in
theorem ggL_flip_X1_flip : GoodIn wsL_flip wsX1_flip := goodIn_ca (goodIn_r _ [6, 7, 8, 9, 10, 11, 5, 12, 13, 14, 15, 16, 17, 18, 19, 20, 21, 22, 23, 24, 25, 26, 27, 28, 29, 30, 31, 32, 33, 34, 35, 36, 37, 38, 39, 40, 41, 42, 43, 44, 45, 46, 47] (by decide +kernel) (by decide +kernel)) (goodIn_sub (fun _ h => List.mem_cons_of_mem _ (List.mem_append_right _ h)) (by decide +kernel))
set_option maxRecDepth 20000 in
theorem gL_flip_X1_flip : GoodIn wsL_flip (wsV RL 72 RX1 yX1_flip wsX1_flip) := goodIn_app (goodIn_of _ (by decide +kernel)) ggL_flip_X1_flip
theorem dL_flip_0 : decode cL_flip 0 = .ok (.aload_n 2, 1) := by decide +kernel
theorem dL_flip_1 : decode cL_flip 1 = .ok (.iconst 0, 1) := by decide +kernel
theorem dL_flip_2 : decode cL_flip 2 = .ok (.aload_n 0, 1) := by decide +kernel
theorem dL_flip_3 : decode cL_flip 3 = .ok (.iload_n 1, 1) := by decide +kernel
theorem dL_flip_4 : decode cL_flip 4 = .ok (.invokevirtual 72, 3) := by decide +kernel
theorem dL_flip_7 : decode cL_flip 7 = .ok (.i2l, 1) := by decide +kernel
theorem dL_flip_8 : decode cL_flip 8 = .ok (.lastore, 1) := by decide +kernel
theorem dL_flip_9 : decode cL_flip 9 = .ok (.goto 6, 3) := by decide +kernel
theorem dL_flip_12 : decode cL_flip 12 = .ok (.astore_n 3, 1) := by decide +kernel
theorem dL_flip_13 : decode cL_flip 13 = .ok (.iconst 1, 1) := by decide +kernel
theorem dL_flip_14 : decode cL_flip 14 = .ok (.ireturn, 1) := by decide +kernel
theorem dL_flip_15 : decode cL_flip 15 = .ok (.iconst 0, 1) := by decide +kernel
theorem dL_flip_16 : decode cL_flip 16 = .ok (.ireturn, 1) := by decide +kernel
set_option maxRecDepth 20000 in
theorem ggL_rewind_X1_rewind : GoodIn wsL_rewind wsX1_rewind := goodIn_ca (goodIn_r _ [6, 7, 8, 9, 10, 5, 11, 12, 13, 14, 15, 16, 17, 18, 19, 20, 21, 22, 23, 24, 25, 26, 27, 28, 29, 30, 31, 32, 33, 34, 35, 36, 37, 38, 39, 40, 41, 42, 43, 44, 45, 46, 47, 48, 49, 50] (by decide +kernel) (by decide +kernel)) (goodIn_sub (fun _ h => List.mem_cons_of_mem _ (List.mem_append_right _ h)) (by decide +kernel))
set_option maxRecDepth 20000 in
theorem gL_rewind_X1_rewind : GoodIn wsL_rewind (wsV RL 75 RX1 yX1_rewind wsX1_rewind) := goodIn_app (goodIn_of _ (by decide +kernel)) ggL_rewind_X1_rewind
theorem dL_rewind_0 : decode cL_rewind 0 = .ok (.aload_n 2, 1) := by decide +kernel
theorem dL_rewind_1 : decode cL_rewind 1 = .ok (.iconst 0, 1) := by decide +kernel
theorem dL_rewind_2 : decode cL_rewind 2 = .ok (.aload_n 0, 1) := by decide +kernel
theorem dL_rewind_3 : decode cL_rewind 3 = .ok (.iload_n 1, 1) := by decide +kernel
theorem dL_rewind_4 : decode cL_rewind 4 = .ok (.invokevirtual 75, 3) := by decide +kernel
theorem dL_rewind_7 : decode cL_rewind 7 = .ok (.i2l, 1) := by decide +kernel
theorem dL_rewind_8 : decode cL_rewind 8 = .ok (.lastore, 1) := by decide +kernel
theorem dL_rewind_9 : decode cL_rewind 9 = .ok (.goto 6, 3) := by decide +kernel
theorem dL_rewind_12 : decode cL_rewind 12 = .ok (.astore_n 3, 1) := by decide +kernel
theorem dL_rewind_13 : decode cL_rewind 13 = .ok (.iconst 1, 1) := by decide +kernel
theorem dL_rewind_14 : decode cL_rewind 14 = .ok (.ireturn, 1) := by decide +kernel
theorem dL_rewind_15 : decode cL_rewind 15 = .ok (.iconst 0, 1) := by decide +kernel
theorem dL_rewind_16 : decode cL_rewind 16 = .ok (.ireturn, 1) := by decide +kernel
set_option maxRecDepth 20000 in
theorem ggL_compact_X1_compact : GoodIn wsL_compact wsX1_compact := goodIn_ca (goodIn_ca (goodIn_r _ [7, 8, 9, 10, 11, 12, 13, 14, 15, 16, 17, 18, 6, 19, 20, 21, 22, 23, 24, 25, 26, 27, 28, 29, 30, 31, 32, 33, 34, 35, 36, 37, 38, 39, 40, 41, 42, 43, 44, 45, 46, 47, 48, 49, 50, 51, 52, 53, 54, 55, 56, 57, 58, 59, 60, 61, 62, 63, 64] (by decide +kernel) (by decide +kernel)) (goodIn_sub (fun _ h => List.mem_cons_of_mem _ (List.mem_append_left _ (List.mem_append_right _ h))) (by decide +kernel))) (goodIn_sub (fun _ h => List.mem_cons_of_mem _ (List.mem_append_right _ h)) (by decide +kernel))
set_option maxRecDepth 20000 in
theorem gL_compact_X1_compact : GoodIn wsL_compact (wsV RL 78 RX1 yX1_compact wsX1_compact) := goodIn_app (goodIn_of _ (by decide +kernel)) ggL_compact_X1_compact
theorem dL_compact_0 : decode cL_compact 0 = .ok (.aload_n 2, 1) := by decide +kernel
theorem dL_compact_1 : decode cL_compact 1 = .ok (.iconst 0, 1) := by decide +kernel
theorem dL_compact_2 : decode cL_compact 2 = .ok (.aload_n 0, 1) := by decide +kernel
theorem dL_compact_3 : decode cL_compact 3 = .ok (.iload_n 1, 1) := by decide +kernel
theorem dL_compact_4 : decode cL_compact 4 = .ok (.invokevirtual 78, 3) := by decide +kernel
theorem dL_compact_7 : decode cL_compact 7 = .ok (.i2l, 1) := by decide +kernel
theorem dL_compact_8 : decode cL_compact 8 = .ok (.lastore, 1) := by decide +kernel
theorem dL_compact_9 : decode cL_compact 9 = .ok (.goto 9, 3) := by decide +kernel
theorem dL_compact_12 : decode cL_compact 12 = .ok (.astore_n 3, 1) := by decide +kernel
theorem dL_compact_13 : decode cL_compact 13 = .ok (.iconst 1, 1) := by decide +kernel
theorem dL_compact_14 : decode cL_compact 14 = .ok (.ireturn, 1) := by decide +kernel
theorem dL_compact_15 : decode cL_compact 15 = .ok (.astore_n 3, 1) := by decide +kernel
theorem dL_compact_16 : decode cL_compact 16 = .ok (.iconst 2, 1) := by decide +kernel
theorem dL_compact_17 : decode cL_compact 17 = .ok (.ireturn, 1) := by decide +kernel
theorem dL_compact_18 : decode cL_compact 18 = .ok (.iconst 0, 1) := by decide +kernel
theorem dL_compact_19 : decode cL_compact 19 = .ok (.ireturn, 1) := by decide +kernel
set_option maxRecDepth 20000 in
theorem ggL_get_X1_get : GoodIn wsL_get wsX1_get := goodIn_ca (goodIn_ca (goodIn_ca (goodIn_r _ [7, 8, 9, 10, 6, 11, 12, 13, 14, 15, 16, 17, 18, 19, 20, 21, 22, 23, 24, 25, 26, 27, 28, 29, 30, 31, 32, 33, 34, 35, 36, 37, 38, 39, 40, 41, 42, 43, 44, 45, 46, 47, 48, 49, 50, 51, 52, 53, 54, 55, 56, 57, 58, 59, 60] (by decide +kernel) (by decide +kernel)) (goodIn_sub (fun _ h => List.mem_cons_of_mem _ (List.mem_append_left _ (List.mem_append_right _ h))) (by decide +kernel))) (goodIn_sub (fun _ h => List.mem_cons_of_mem _ (List.mem_append_right _ h)) (by decide +kernel))) (goodIn_sub (fun _ h => List.mem_cons_of_mem _ (List.mem_append_left _ (List.mem_append_left _ (List.mem_append_right _ h)))) (by decide +kernel))
set_option maxRecDepth 20000 in
theorem gL_get_X1_get : GoodIn wsL_get (wsV RL 83 RX1 yX1_get wsX1_get) := goodIn_app (goodIn_of _ (by decide +kernel)) ggL_get_X1_get
theorem dL_get_0 : decode cL_get 0 = .ok (.aload_n 2, 1) := by decide +kernel
theorem dL_get_1 : decode cL_get 1 = .ok (.iconst 0, 1) := by decide +kernel
theorem dL_get_2 : decode cL_get 2 = .ok (.aload_n 0, 1) := by decide +kernel
theorem dL_get_3 : decode cL_get 3 = .ok (.iload_n 1, 1) := by decide +kernel
theorem dL_get_4 : decode cL_get 4 = .ok (.invokevirtual 83, 3) := by decide +kernel
theorem dL_get_7 : decode cL_get 7 = .ok (.lastore, 1) := by decide +kernel
theorem dL_get_8 : decode cL_get 8 = .ok (.goto 9, 3) := by decide +kernel
theorem dL_get_11 : decode cL_get 11 = .ok (.astore_n 3, 1) := by decide +kernel
theorem dL_get_12 : decode cL_get 12 = .ok (.iconst 1, 1) := by decide +kernel
theorem dL_get_13 : decode cL_get 13 = .ok (.ireturn, 1) := by decide +kernel
theorem dL_get_14 : decode cL_get 14 = .ok (.astore_n 3, 1) := by decide +kernel
theorem dL_get_15 : decode cL_get 15 = .ok (.iconst 2, 1) := by decide +kernel
theorem dL_get_16 : decode cL_get 16 = .ok (.ireturn, 1) := by decide +kernel
theorem dL_get_17 : decode cL_get 17 = .ok (.iconst 0, 1) := by decide +kernel
theorem dL_get_18 : decode cL_get 18 = .ok (.ireturn, 1) := by decide +kernel
set_option maxRecDepth 20000 in
theorem ggL_put_X1_put : GoodIn wsL_put wsX1_put := goodIn_ca (goodIn_ca (goodIn_ca (goodIn_ca (goodIn_r _ [8, 9, 10, 11, 12, 7, 13, 14, 15, 16, 17, 18, 19, 20, 21, 22, 23, 24, 25, 26, 27, 28, 29, 30, 31, 32, 33, 34, 35, 36, 37, 38, 39, 40, 41, 42, 43, 44, 45, 46, 47, 48, 49, 50, 51, 52, 53, 54, 55, 56, 57, 58, 59, 60, 61, 62, 63, 64, 65, 66, 67, 68, 69, 70, 71, 72, 73] (by decide +kernel) (by decide +kernel)) (goodIn_sub (fun _ h => List.mem_cons_of_mem _ (List.mem_append_left _ (List.mem_append_left _ (List.mem_append_right _ h)))) (by decide +kernel))) (goodIn_sub (fun _ h => List.mem_cons_of_mem _ (List.mem_append_left _ (List.mem_append_right _ h))) (by decide +kernel))) (goodIn_sub (fun _ h => List.mem_cons_of_mem _ (List.mem_append_right _ h)) (by decide +kernel))) (goodIn_sub (fun _ h => List.mem_cons_of_mem _ (List.mem_append_left _ (List.mem_append_left _ (List.mem_append_left _ (List.mem_append_right _ h))))) (by decide +kernel))
set_option maxRecDepth 20000 in
theorem gL_put_X1_put : GoodIn wsL_put (wsV RL 89 RX1 yX1_put wsX1_put) := goodIn_app (goodIn_of _ (by decide +kernel)) ggL_put_X1_put
theorem dL_put_0 : decode cL_put 0 = .ok (.aload 4, 2) := by decide +kernel
theorem dL_put_2 : decode cL_put 2 = .ok (.iconst 0, 1) := by decide +kernel
theorem dL_put_3 : decode cL_put 3 = .ok (.aload_n 0, 1) := by decide +kernel
theorem dL_put_4 : decode cL_put 4 = .ok (.iload_n 1, 1) := by decide +kernel
theorem dL_put_5 : decode cL_put 5 = .ok (.lload_n 2, 1) := by decide +kernel
theorem dL_put_6 : decode cL_put 6 = .ok (.invokevirtual 89, 3) := by decide +kernel
theorem dL_put_9 : decode cL_put 9 = .ok (.i2l, 1) := by decide +kernel
theorem dL_put_10 : decode cL_put 10 = .ok (.lastore, 1) := by decide +kernel
theorem dL_put_11 : decode cL_put 11 = .ok (.goto 15, 3) := by decide +kernel
theorem dL_put_14 : decode cL_put 14 = .ok (.astore 5, 2) := by decide +kernel
theorem dL_put_16 : decode cL_put 16 = .ok (.iconst 1, 1) := by decide +kernel
theorem dL_put_17 : decode cL_put 17 = .ok (.ireturn, 1) := by decide +kernel
theorem dL_put_18 : decode cL_put 18 = .ok (.astore 5, 2) := by decide +kernel
theorem dL_put_20 : decode cL_put 20 = .ok (.iconst 2, 1) := by decide +kernel
theorem dL_put_21 : decode cL_put 21 = .ok (.ireturn, 1) := by decide +kernel
theorem dL_put_22 : decode cL_put 22 = .ok (.astore 5, 2) := by decide +kernel
theorem dL_put_24 : decode cL_put 24 = .ok (.iconst 3, 1) := by decide +kernel
theorem dL_put_25 : decode cL_put 25 = .ok (.ireturn, 1) := by decide +kernel
theorem dL_put_26 : decode cL_put 26 = .ok (.iconst 0, 1) := by decide +kernel
theorem dL_put_27 : decode cL_put 27 = .ok (.ireturn, 1) := by decide +kernel
set_option maxRecDepth 20000 in
theorem ggL_getAt_X1_getAt : GoodIn wsL_getAt wsX1_getAt := goodIn_ca (goodIn_ca (goodIn_r _ [6, 7, 8, 9, 10, 5, 11, 12, 13, 14, 15, 16, 17, 18, 19, 20, 21, 22, 23, 24, 25, 26, 27, 28, 29, 30, 31, 32, 33, 34, 35, 36, 37, 38, 39, 40, 41, 42, 43, 44, 45] (by decide +kernel) (by decide +kernel)) (goodIn_sub (fun _ h => List.mem_cons_of_mem _ (List.mem_append_right _ h)) (by decide +kernel))) (goodIn_sub (fun _ h => List.mem_cons_of_mem _ (List.mem_append_left _ (List.mem_append_right _ h))) (by decide +kernel))
set_option maxRecDepth 20000 in
theorem gL_getAt_X1_getAt : GoodIn wsL_getAt (wsV RL 93 RX1 yX1_getAt wsX1_getAt) := goodIn_app (goodIn_of _ (by decide +kernel)) ggL_getAt_X1_getAt
theorem dL_getAt_0 : decode cL_getAt 0 = .ok (.aload_n 3, 1) := by decide +kernel
theorem dL_getAt_1 : decode cL_getAt 1 = .ok (.iconst 0, 1) := by decide +kernel
theorem dL_getAt_2 : decode cL_getAt 2 = .ok (.aload_n 0, 1) := by decide +kernel
theorem dL_getAt_3 : decode cL_getAt 3 = .ok (.iload_n 1, 1) := by decide +kernel
theorem dL_getAt_4 : decode cL_getAt 4 = .ok (.iload_n 2, 1) := by decide +kernel
theorem dL_getAt_5 : decode cL_getAt 5 = .ok (.invokevirtual 93, 3) := by decide +kernel
theorem dL_getAt_8 : decode cL_getAt 8 = .ok (.lastore, 1) := by decide +kernel
theorem dL_getAt_9 : decode cL_getAt 9 = .ok (.goto 7, 3) := by decide +kernel
theorem dL_getAt_12 : decode cL_getAt 12 = .ok (.astore 4, 2) := by decide +kernel
theorem dL_getAt_14 : decode cL_getAt 14 = .ok (.iconst 1, 1) := by decide +kernel
theorem dL_getAt_15 : decode cL_getAt 15 = .ok (.ireturn, 1) := by decide +kernel
theorem dL_getAt_16 : decode cL_getAt 16 = .ok (.iconst 0, 1) := by decide +kernel
theorem dL_getAt_17 : decode cL_getAt 17 = .ok (.ireturn, 1) := by decide +kernel
set_option maxRecDepth 20000 in
theorem ggL_putAt_X1_putAt : GoodIn wsL_putAt wsX1_putAt := goodIn_ca (goodIn_ca (goodIn_ca (goodIn_r _ [7, 8, 9, 10, 11, 6, 12, 13, 14, 15, 16, 17, 18, 19, 20, 21, 22, 23, 24, 25, 26, 27, 28, 29, 30, 31, 32, 33, 34, 35, 36, 37, 38, 39, 40, 41, 42, 43, 44, 45, 46, 47, 48, 49, 50, 51, 52, 53, 54, 55, 56, 57, 58, 59, 60, 61] (by decide +kernel) (by decide +kernel)) (goodIn_sub (fun _ h => List.mem_cons_of_mem _ (List.mem_append_left _ (List.mem_append_right _ h))) (by decide +kernel))) (goodIn_sub (fun _ h => List.mem_cons_of_mem _ (List.mem_append_right _ h)) (by decide +kernel))) (goodIn_sub (fun _ h => List.mem_cons_of_mem _ (List.mem_append_left _ (List.mem_append_left _ (List.mem_append_right _ h)))) (by decide +kernel))
set_option maxRecDepth 20000 in
theorem gL_putAt_X1_putAt : GoodIn wsL_putAt (wsV RL 97 RX1 yX1_putAt wsX1_putAt) := goodIn_app (goodIn_of _ (by decide +kernel)) ggL_putAt_X1_putAt
theorem dL_putAt_0 : decode cL_putAt 0 = .ok (.aload 5, 2) := by decide +kernel
theorem dL_putAt_2 : decode cL_putAt 2 = .ok (.iconst 0, 1) := by decide +kernel
theorem dL_putAt_3 : decode cL_putAt 3 = .ok (.aload_n 0, 1) := by decide +kernel
theorem dL_putAt_4 : decode cL_putAt 4 = .ok (.iload_n 1, 1) := by decide +kernel
theorem dL_putAt_5 : decode cL_putAt 5 = .ok (.iload_n 2, 1) := by decide +kernel
theorem dL_putAt_6 : decode cL_putAt 6 = .ok (.lload_n 3, 1) := by decide +kernel
theorem dL_putAt_7 : decode cL_putAt 7 = .ok (.invokevirtual 97, 3) := by decide +kernel
theorem dL_putAt_10 : decode cL_putAt 10 = .ok (.lastore, 1) := by decide +kernel
theorem dL_putAt_11 : decode cL_putAt 11 = .ok (.goto 11, 3) := by decide +kernel
theorem dL_putAt_14 : decode cL_putAt 14 = .ok (.astore 6, 2) := by decide +kernel
theorem dL_putAt_16 : decode cL_putAt 16 = .ok (.iconst 1, 1) := by decide +kernel
theorem dL_putAt_17 : decode cL_putAt 17 = .ok (.ireturn, 1) := by decide +kernel
theorem dL_putAt_18 : decode cL_putAt 18 = .ok (.astore 6, 2) := by decide +kernel
theorem dL_putAt_20 : decode cL_putAt 20 = .ok (.iconst 2, 1) := by decide +kernel
theorem dL_putAt_21 : decode cL_putAt 21 = .ok (.ireturn, 1) := by decide +kernel
theorem dL_putAt_22 : decode cL_putAt 22 = .ok (.iconst 0, 1) := by decide +kernel
theorem dL_putAt_23 : decode cL_putAt 23 = .ok (.ireturn, 1) := by decide +kernel
set_option maxRecDepth 20000 in
theorem ggL_fill_X1_fill : GoodIn wsL_fill wsX1_fill := goodIn_ca (goodIn_ca (goodIn_ca (goodIn_ca (goodIn_ca (goodIn_r _ [9, 10, 11, 12, 13, 8, 14, 15, 16, 17, 18, 19, 20, 21, 22, 23, 24, 25, 26, 27, 28, 29, 30, 31, 32, 33, 34, 35, 36, 37, 38, 39, 40, 41, 42, 43, 44, 45, 46, 47, 48, 49, 50, 51, 52, 53, 54, 55, 56, 57, 58, 59, 60, 61, 62, 63, 64, 65, 66, 67, 68, 69, 70, 71, 72, 73, 74, 75, 76, 77, 78, 79] (by decide +kernel) (by decide +kernel)) (goodIn_sub (fun _ h => List.mem_cons_of_mem _ (List.mem_append_left _ (List.mem_append_left _ (List.mem_append_left _ (List.mem_append_right _ h))))) (by decide +kernel))) (goodIn_sub (fun _ h => List.mem_cons_of_mem _ (List.mem_append_left _ (List.mem_append_left _ (List.mem_append_right _ h)))) (by decide +kernel))) (goodIn_sub (fun _ h => List.mem_cons_of_mem _ (List.mem_append_left _ (List.mem_append_right _ h))) (by decide +kernel))) (goodIn_sub (fun _ h => List.mem_cons_of_mem _ (List.mem_append_right _ h)) (by decide +kernel))) (goodIn_sub (fun _ h => List.mem_cons_of_mem _ (List.mem_append_left _ (List.mem_append_left _ (List.mem_append_left _ (List.mem_append_left _ (List.mem_append_right _ h)))))) (by decide +kernel))
set_option maxRecDepth 20000 in
theorem gL_fill_X1_fill : GoodIn wsL_fill (wsV RL 101 RX1 yX1_fill wsX1_fill) := goodIn_app (goodIn_of _ (by decide +kernel)) ggL_fill_X1_fill
theorem dL_fill_0 : decode cL_fill 0 = .ok (.aload 7, 2) := by decide +kernel
theorem dL_fill_2 : decode cL_fill 2 = .ok (.iconst 0, 1) := by decide +kernel
theorem dL_fill_3 : decode cL_fill 3 = .ok (.aload_n 0, 1) := by decide +kernel
theorem dL_fill_4 : decode cL_fill 4 = .ok (.iload_n 1, 1) := by decide +kernel
theorem dL_fill_5 : decode cL_fill 5 = .ok (.iload_n 2, 1) := by decide +kernel
theorem dL_fill_6 : decode cL_fill 6 = .ok (.lload_n 3, 1) := by decide +kernel
theorem dL_fill_7 : decode cL_fill 7 = .ok (.lload 5, 2) := by decide +kernel
theorem dL_fill_9 : decode cL_fill 9 = .ok (.invokevirtual 101, 3) := by decide +kernel
theorem dL_fill_12 : decode cL_fill 12 = .ok (.i2l, 1) := by decide +kernel
theorem dL_fill_13 : decode cL_fill 13 = .ok (.lastore, 1) := by decide +kernel
theorem dL_fill_14 : decode cL_fill 14 = .ok (.goto 19, 3) := by decide +kernel
theorem dL_fill_17 : decode cL_fill 17 = .ok (.astore 8, 2) := by decide +kernel
theorem dL_fill_19 : decode cL_fill 19 = .ok (.iconst 1, 1) := by decide +kernel
theorem dL_fill_20 : decode cL_fill 20 = .ok (.ireturn, 1) := by decide +kernel
theorem dL_fill_21 : decode cL_fill 21 = .ok (.astore 8, 2) := by decide +kernel
theorem dL_fill_23 : decode cL_fill 23 = .ok (.iconst 2, 1) := by decide +kernel
theorem dL_fill_24 : decode cL_fill 24 = .ok (.ireturn, 1) := by decide +kernel
theorem dL_fill_25 : decode cL_fill 25 = .ok (.astore 8, 2) := by decide +kernel
theorem dL_fill_27 : decode cL_fill 27 = .ok (.iconst 3, 1) := by decide +kernel
theorem dL_fill_28 : decode cL_fill 28 = .ok (.ireturn, 1) := by decide +kernel
theorem dL_fill_29 : decode cL_fill 29 = .ok (.astore 8, 2) := by decide +kernel
theorem dL_fill_31 : decode cL_fill 31 = .ok (.iconst 4, 1) := by decide +kernel
theorem dL_fill_32 : decode cL_fill 32 = .ok (.ireturn, 1) := by decide +kernel
theorem dL_fill_33 : decode cL_fill 33 = .ok (.iconst 0, 1) := by decide +kernel
theorem dL_fill_34 : decode cL_fill 34 = .ok (.ireturn, 1) := by decide +kernel
set_option maxRecDepth 20000 in
theorem ggL_pour_X1_pour : GoodIn wsL_pour wsX1_pour := goodIn_ca (goodIn_ca (goodIn_ca (goodIn_ca (goodIn_ca (goodIn_ca (goodIn_r _ [10, 11, 12, 13, 14, 15, 16, 9, 17, 18, 19, 20, 21, 22, 23, 24, 25, 26, 27, 28, 29, 30, 31, 32, 33, 34, 35, 36, 37, 38, 39, 40, 41, 42, 43, 44, 45, 46, 47, 48, 49, 50, 51, 52, 53, 54, 55, 56, 57, 58, 59, 60, 61, 62, 63, 64, 65, 66, 67, 68, 69, 70, 71, 72, 73, 74, 75, 76, 77, 78, 79, 80, 81, 82, 83, 84, 85, 86, 87, 88, 89, 90, 91, 92, 93] (by decide +kernel) (by decide +kernel)) (goodIn_sub (fun _ h => List.mem_cons_of_mem _ (List.mem_append_left _ (List.mem_append_left _ (List.mem_append_left _ (List.mem_append_left _ (List.mem_append_right _ h)))))) (by decide +kernel))) (goodIn_sub (fun _ h => List.mem_cons_of_mem _ (List.mem_append_left _ (List.mem_append_left _ (List.mem_append_left _ (List.mem_append_right _ h))))) (by decide +kernel))) (goodIn_sub (fun _ h => List.mem_cons_of_mem _ (List.mem_append_left _ (List.mem_append_left _ (List.mem_append_right _ h)))) (by decide +kernel))) (goodIn_sub (fun _ h => List.mem_cons_of_mem _ (List.mem_append_left _ (List.mem_append_right _ h))) (by decide +kernel))) (goodIn_sub (fun _ h => List.mem_cons_of_mem _ (List.mem_append_right _ h)) (by decide +kernel))) (goodIn_sub (fun _ h => List.mem_cons_of_mem _ (List.mem_append_left _ (List.mem_append_left _ (List.mem_append_left _ (List.mem_append_left _ (List.mem_append_left _ (List.mem_append_right _ h))))))) (by decide +kernel))
set_option maxRecDepth 20000 in
theorem gL_pour_X1_pour : GoodIn wsL_pour (wsV RL 105 RX1 yX1_pour wsX1_pour) := goodIn_app (goodIn_of _ (by decide +kernel)) ggL_pour_X1_pour
theorem dL_pour_0 : decode cL_pour 0 = .ok (.aload 4, 2) := by decide +kernel
theorem dL_pour_2 : decode cL_pour 2 = .ok (.iconst 0, 1) := by decide +kernel
theorem dL_pour_3 : decode cL_pour 3 = .ok (.aload_n 0, 1) := by decide +kernel
theorem dL_pour_4 : decode cL_pour 4 = .ok (.iload_n 1, 1) := by decide +kernel
theorem dL_pour_5 : decode cL_pour 5 = .ok (.iload_n 2, 1) := by decide +kernel
theorem dL_pour_6 : decode cL_pour 6 = .ok (.iload_n 3, 1) := by decide +kernel
theorem dL_pour_7 : decode cL_pour 7 = .ok (.invokevirtual 105, 3) := by decide +kernel
theorem dL_pour_10 : decode cL_pour 10 = .ok (.i2l, 1) := by decide +kernel
theorem dL_pour_11 : decode cL_pour 11 = .ok (.lastore, 1) := by decide +kernel
theorem dL_pour_12 : decode cL_pour 12 = .ok (.goto 23, 3) := by decide +kernel
theorem dL_pour_15 : decode cL_pour 15 = .ok (.astore 5, 2) := by decide +kernel
theorem dL_pour_17 : decode cL_pour 17 = .ok (.iconst 1, 1) := by decide +kernel
theorem dL_pour_18 : decode cL_pour 18 = .ok (.ireturn, 1) := by decide +kernel
theorem dL_pour_19 : decode cL_pour 19 = .ok (.astore 5, 2) := by decide +kernel
theorem dL_pour_21 : decode cL_pour 21 = .ok (.iconst 2, 1) := by decide +kernel
theorem dL_pour_22 : decode cL_pour 22 = .ok (.ireturn, 1) := by decide +kernel
theorem dL_pour_23 : decode cL_pour 23 = .ok (.astore 5, 2) := by decide +kernel
theorem dL_pour_25 : decode cL_pour 25 = .ok (.iconst 3, 1) := by decide +kernel
theorem dL_pour_26 : decode cL_pour 26 = .ok (.ireturn, 1) := by decide +kernel
theorem dL_pour_27 : decode cL_pour 27 = .ok (.astore 5, 2) := by decide +kernel
theorem dL_pour_29 : decode cL_pour 29 = .ok (.iconst 4, 1) := by decide +kernel
theorem dL_pour_30 : decode cL_pour 30 = .ok (.ireturn, 1) := by decide +kernel
theorem dL_pour_31 : decode cL_pour 31 = .ok (.astore 5, 2) := by decide +kernel
theorem dL_pour_33 : decode cL_pour 33 = .ok (.iconst 5, 1) := by decide +kernel
theorem dL_pour_34 : decode cL_pour 34 = .ok (.ireturn, 1) := by decide +kernel
theorem dL_pour_35 : decode cL_pour 35 = .ok (.iconst 0, 1) := by decide +kernel
theorem dL_pour_36 : decode cL_pour 36 = .ok (.ireturn, 1) := by decide +kernel
set_option maxRecDepth 20000 in
theorem ggL_slice_X1_slice : GoodIn wsL_slice wsX1_slice := goodIn_ca (goodIn_r _ [6, 7, 8, 9, 10, 11, 5, 12, 13, 14, 15, 16, 17, 18, 19, 20, 21, 22, 23, 24, 25, 26, 27, 28, 29, 30, 31, 32, 33, 34, 35, 36, 37, 38, 39, 40, 41, 42, 43, 44, 45, 46, 47, 48, 49, 50, 51, 52, 53, 54, 55, 56, 57, 58, 59] (by decide +kernel) (by decide +kernel)) (goodIn_sub (fun _ h => List.mem_cons_of_mem _ (List.mem_append_right _ h)) (by decide +kernel))
set_option maxRecDepth 20000 in
theorem gL_slice_X1_slice : GoodIn wsL_slice (wsV RL 108 RX1 yX1_slice wsX1_slice) := goodIn_app (goodIn_of _ (by decide +kernel)) ggL_slice_X1_slice
theorem dL_slice_0 : decode cL_slice 0 = .ok (.aload_n 3, 1) := by decide +kernel
theorem dL_slice_1 : decode cL_slice 1 = .ok (.iconst 0, 1) := by decide +kernel
theorem dL_slice_2 : decode cL_slice 2 = .ok (.aload_n 0, 1) := by decide +kernel
theorem dL_slice_3 : decode cL_slice 3 = .ok (.iload_n 1, 1) := by decide +kernel
theorem dL_slice_4 : decode cL_slice 4 = .ok (.iload_n 2, 1) := by decide +kernel
theorem dL_slice_5 : decode cL_slice 5 = .ok (.invokevirtual 108, 3) := by decide +kernel
theorem dL_slice_8 : decode cL_slice 8 = .ok (.i2l, 1) := by decide +kernel
theorem dL_slice_9 : decode cL_slice 9 = .ok (.lastore, 1) := by decide +kernel
theorem dL_slice_10 : decode cL_slice 10 = .ok (.goto 7, 3) := by decide +kernel
theorem dL_slice_13 : decode cL_slice 13 = .ok (.astore 4, 2) := by decide +kernel
theorem dL_slice_15 : decode cL_slice 15 = .ok (.iconst 1, 1) := by decide +kernel
theorem dL_slice_16 : decode cL_slice 16 = .ok (.ireturn, 1) := by decide +kernel
theorem dL_slice_17 : decode cL_slice 17 = .ok (.iconst 0, 1) := by decide +kernel
theorem dL_slice_18 : decode cL_slice 18 = .ok (.ireturn, 1) := by decide +kernel
set_option maxRecDepth 20000 in
theorem ggL_sliceAt_X1_sliceAt : GoodIn wsL_sliceAt wsX1_sliceAt := goodIn_ca (goodIn_r _ [6, 7, 8, 9, 10, 11, 5, 12, 13, 14, 15, 16, 17, 18, 19, 20, 21, 22, 23, 24, 25, 26, 27, 28, 29, 30, 31, 32, 33, 34, 35, 36, 37, 38, 39, 40, 41, 42, 43, 44, 45, 46, 47, 48, 49, 50, 51, 52, 53, 54, 55, 56, 57, 58] (by decide +kernel) (by decide +kernel)) (goodIn_sub (fun _ h => List.mem_cons_of_mem _ (List.mem_append_right _ h)) (by decide +kernel))
set_option maxRecDepth 20000 in
theorem gL_sliceAt_X1_sliceAt : GoodIn wsL_sliceAt (wsV RL 111 RX1 yX1_sliceAt wsX1_sliceAt) := goodIn_app (goodIn_of _ (by decide +kernel)) ggL_sliceAt_X1_sliceAt
theorem dL_sliceAt_0 : decode cL_sliceAt 0 = .ok (.aload 5, 2) := by decide +kernel
theorem dL_sliceAt_2 : decode cL_sliceAt 2 = .ok (.iconst 0, 1) := by decide +kernel
theorem dL_sliceAt_3 : decode cL_sliceAt 3 = .ok (.aload_n 0, 1) := by decide +kernel
theorem dL_sliceAt_4 : decode cL_sliceAt 4 = .ok (.iload_n 1, 1) := by decide +kernel
theorem dL_sliceAt_5 : decode cL_sliceAt 5 = .ok (.iload_n 2, 1) := by decide +kernel
theorem dL_sliceAt_6 : decode cL_sliceAt 6 = .ok (.iload_n 3, 1) := by decide +kernel
theorem dL_sliceAt_7 : decode cL_sliceAt 7 = .ok (.iload 4, 2) := by decide +kernel
theorem dL_sliceAt_9 : decode cL_sliceAt 9 = .ok (.invokevirtual 111, 3) := by decide +kernel
theorem dL_sliceAt_12 : decode cL_sliceAt 12 = .ok (.i2l, 1) := by decide +kernel
theorem dL_sliceAt_13 : decode cL_sliceAt 13 = .ok (.lastore, 1) := by decide +kernel
theorem dL_sliceAt_14 : decode cL_sliceAt 14 = .ok (.goto 7, 3) := by decide +kernel
theorem dL_sliceAt_17 : decode cL_sliceAt 17 = .ok (.astore 6, 2) := by decide +kernel
theorem dL_sliceAt_19 : decode cL_sliceAt 19 = .ok (.iconst 1, 1) := by decide +kernel
theorem dL_sliceAt_20 : decode cL_sliceAt 20 = .ok (.ireturn, 1) := by decide +kernel
theorem dL_sliceAt_21 : decode cL_sliceAt 21 = .ok (.iconst 0, 1) := by decide +kernel
theorem dL_sliceAt_22 : decode cL_sliceAt 22 = .ok (.ireturn, 1) := by decide +kernel
set_option maxRecDepth 20000 in
theorem ggL_duplicate_X1_duplicate : GoodIn wsL_duplicate wsX1_duplicate := goodIn_ca (goodIn_r _ [6, 7, 8, 9, 5, 10, 11, 12, 13, 14, 15, 16, 17, 18, 19, 20, 21, 22, 23, 24, 25, 26, 27, 28, 29, 30, 31, 32, 33, 34, 35, 36, 37, 38, 39, 40, 41, 42, 43, 44, 45, 46, 47, 48, 49, 50, 51, 52, 53] (by decide +kernel) (by decide +kernel)) (goodIn_sub (fun _ h => List.mem_cons_of_mem _ (List.mem_append_right _ h)) (by decide +kernel))
set_option maxRecDepth 20000 in
theorem gL_duplicate_X1_duplicate : GoodIn wsL_duplicate (wsV RL 115 RX1 yX1_duplicate wsX1_duplicate) := goodIn_app (goodIn_of _ (by decide +kernel)) ggL_duplicate_X1_duplicate
theorem dL_duplicate_0 : decode cL_duplicate 0 = .ok (.aload_n 3, 1) := by decide +kernel
theorem dL_duplicate_1 : decode cL_duplicate 1 = .ok (.iconst 0, 1) := by decide +kernel
theorem dL_duplicate_2 : decode cL_duplicate 2 = .ok (.aload_n 0, 1) := by decide +kernel
theorem dL_duplicate_3 : decode cL_duplicate 3 = .ok (.iload_n 1, 1) := by decide +kernel
theorem dL_duplicate_4 : decode cL_duplicate 4 = .ok (.iload_n 2, 1) := by decide +kernel
theorem dL_duplicate_5 : decode cL_duplicate 5 = .ok (.invokevirtual 115, 3) := by decide +kernel
theorem dL_duplicate_8 : decode cL_duplicate 8 = .ok (.i2l, 1) := by decide +kernel
theorem dL_duplicate_9 : decode cL_duplicate 9 = .ok (.lastore, 1) := by decide +kernel
theorem dL_duplicate_10 : decode cL_duplicate 10 = .ok (.goto 7, 3) := by decide +kernel
theorem dL_duplicate_13 : decode cL_duplicate 13 = .ok (.astore 4, 2) := by decide +kernel
theorem dL_duplicate_15 : decode cL_duplicate 15 = .ok (.iconst 1, 1) := by decide +kernel
theorem dL_duplicate_16 : decode cL_duplicate 16 = .ok (.ireturn, 1) := by decide +kernel
theorem dL_duplicate_17 : decode cL_duplicate 17 = .ok (.iconst 0, 1) := by decide +kernel
theorem dL_duplicate_18 : decode cL_duplicate 18 = .ok (.ireturn, 1) := by decide +kernel
set_option maxRecDepth 20000 in
theorem ggL_readOnly_X1_readOnly : GoodIn wsL_readOnly wsX1_readOnly := goodIn_ca (goodIn_r _ [6, 7, 8, 9, 10, 5, 11, 12, 13, 14, 15, 16, 17, 18, 19, 20, 21, 22, 23, 24, 25, 26, 27, 28, 29, 30, 31, 32, 33, 34, 35, 36, 37, 38, 39, 40, 41, 42, 43, 44, 45, 46, 47, 48, 49, 50, 51, 52, 53, 54] (by decide +kernel) (by decide +kernel)) (goodIn_sub (fun _ h => List.mem_cons_of_mem _ (List.mem_append_right _ h)) (by decide +kernel))
set_option maxRecDepth 20000 in
theorem gL_readOnly_X1_readOnly : GoodIn wsL_readOnly (wsV RL 118 RX1 yX1_readOnly wsX1_readOnly) := goodIn_app (goodIn_of _ (by decide +kernel)) ggL_readOnly_X1_readOnly
theorem dL_readOnly_0 : decode cL_readOnly 0 = .ok (.aload_n 3, 1) := by decide +kernel
theorem dL_readOnly_1 : decode cL_readOnly 1 = .ok (.iconst 0, 1) := by decide +kernel
theorem dL_readOnly_2 : decode cL_readOnly 2 = .ok (.aload_n 0, 1) := by decide +kernel
theorem dL_readOnly_3 : decode cL_readOnly 3 = .ok (.iload_n 1, 1) := by decide +kernel
theorem dL_readOnly_4 : decode cL_readOnly 4 = .ok (.iload_n 2, 1) := by decide +kernel
theorem dL_readOnly_5 : decode cL_readOnly 5 = .ok (.invokevirtual 118, 3) := by decide +kernel
theorem dL_readOnly_8 : decode cL_readOnly 8 = .ok (.i2l, 1) := by decide +kernel
theorem dL_readOnly_9 : decode cL_readOnly 9 = .ok (.lastore, 1) := by decide +kernel
theorem dL_readOnly_10 : decode cL_readOnly 10 = .ok (.goto 7, 3) := by decide +kernel
theorem dL_readOnly_13 : decode cL_readOnly 13 = .ok (.astore 4, 2) := by decide +kernel
theorem dL_readOnly_15 : decode cL_readOnly 15 = .ok (.iconst 1, 1) := by decide +kernel
theorem dL_readOnly_16 : decode cL_readOnly 16 = .ok (.ireturn, 1) := by decide +kernel
theorem dL_readOnly_17 : decode cL_readOnly 17 = .ok (.iconst 0, 1) := by decide +kernel
theorem dL_readOnly_18 : decode cL_readOnly 18 = .ok (.ireturn, 1) := by decide +kernel
set_option maxRecDepth 20000 in
theorem ggL_signAt_X1_signAt : GoodIn wsL_signAt wsX1_signAt := goodIn_ca (goodIn_ca (goodIn_ca (goodIn_ca (goodIn_r _ [8, 9, 10, 11, 12, 13, 14, 7, 15, 16, 17, 18, 19, 20, 21, 22, 23, 24, 25, 26, 27, 28, 29, 30, 31, 32, 33, 34, 35, 36, 37, 38, 39, 40, 41, 42, 43, 44, 45, 46, 47, 48, 49, 50, 51, 52, 53, 54, 55, 56, 57, 58, 59, 60, 61] (by decide +kernel) (by decide +kernel)) (goodIn_sub (fun _ h => List.mem_cons_of_mem _ (List.mem_append_left _ (List.mem_append_left _ (List.mem_append_right _ h)))) (by decide +kernel))) (goodIn_sub (fun _ h => List.mem_cons_of_mem _ (List.mem_append_left _ (List.mem_append_right _ h))) (by decide +kernel))) (goodIn_sub (fun _ h => List.mem_cons_of_mem _ (List.mem_append_right _ h)) (by decide +kernel))) (goodIn_sub (fun _ h => List.mem_cons_of_mem _ (List.mem_append_left _ (List.mem_append_left _ (List.mem_append_left _ (List.mem_append_right _ h))))) (by decide +kernel))
set_option maxRecDepth 20000 in
theorem gL_signAt_X1_signAt : GoodIn wsL_signAt (wsV RL 121 RX1 yX1_signAt wsX1_signAt) := goodIn_app (goodIn_of _ (by decide +kernel)) ggL_signAt_X1_signAt
theorem dL_signAt_0 : decode cL_signAt 0 = .ok (.aload_n 3, 1) := by decide +kernel
theorem dL_signAt_1 : decode cL_signAt 1 = .ok (.iconst 0, 1) := by decide +kernel
theorem dL_signAt_2 : decode cL_signAt 2 = .ok (.aload_n 0, 1) := by decide +kernel
theorem dL_signAt_3 : decode cL_signAt 3 = .ok (.iload_n 1, 1) := by decide +kernel
theorem dL_signAt_4 : decode cL_signAt 4 = .ok (.iload_n 2, 1) := by decide +kernel
theorem dL_signAt_5 : decode cL_signAt 5 = .ok (.invokevirtual 121, 3) := by decide +kernel
theorem dL_signAt_8 : decode cL_signAt 8 = .ok (.i2l, 1) := by decide +kernel
theorem dL_signAt_9 : decode cL_signAt 9 = .ok (.lastore, 1) := by decide +kernel
theorem dL_signAt_10 : decode cL_signAt 10 = .ok (.goto 15, 3) := by decide +kernel
theorem dL_signAt_13 : decode cL_signAt 13 = .ok (.astore 4, 2) := by decide +kernel
theorem dL_signAt_15 : decode cL_signAt 15 = .ok (.iconst 1, 1) := by decide +kernel
theorem dL_signAt_16 : decode cL_signAt 16 = .ok (.ireturn, 1) := by decide +kernel
theorem dL_signAt_17 : decode cL_signAt 17 = .ok (.astore 4, 2) := by decide +kernel
theorem dL_signAt_19 : decode cL_signAt 19 = .ok (.iconst 2, 1) := by decide +kernel
theorem dL_signAt_20 : decode cL_signAt 20 = .ok (.ireturn, 1) := by decide +kernel
theorem dL_signAt_21 : decode cL_signAt 21 = .ok (.astore 4, 2) := by decide +kernel
theorem dL_signAt_23 : decode cL_signAt 23 = .ok (.iconst 3, 1) := by decide +kernel
theorem dL_signAt_24 : decode cL_signAt 24 = .ok (.ireturn, 1) := by decide +kernel
theorem dL_signAt_25 : decode cL_signAt 25 = .ok (.iconst 0, 1) := by decide +kernel
theorem dL_signAt_26 : decode cL_signAt 26 = .ok (.ireturn, 1) := by decide +kernel
set_option maxRecDepth 20000 in
theorem ggL_signsLeft_X1_signsLeft : GoodIn wsL_signsLeft wsX1_signsLeft := goodIn_ca (goodIn_ca (goodIn_r _ [7, 8, 9, 10, 6, 11, 12, 13, 14, 15, 16, 17, 18, 19, 20, 21, 22, 23, 24, 25, 26, 27, 28, 29, 30, 31, 32, 33, 34, 35, 36, 37, 38, 39, 40, 41, 42, 43, 44, 45, 46, 47, 48, 49, 50, 51] (by decide +kernel) (by decide +kernel)) (goodIn_sub (fun _ h => List.mem_cons_of_mem _ (List.mem_append_left _ (List.mem_append_right _ h))) (by decide +kernel))) (goodIn_sub (fun _ h => List.mem_cons_of_mem _ (List.mem_append_right _ h)) (by decide +kernel))
set_option maxRecDepth 20000 in
theorem gL_signsLeft_X1_signsLeft : GoodIn wsL_signsLeft (wsV RL 125 RX1 yX1_signsLeft wsX1_signsLeft) := goodIn_app (goodIn_of _ (by decide +kernel)) ggL_signsLeft_X1_signsLeft
theorem dL_signsLeft_0 : decode cL_signsLeft 0 = .ok (.aload_n 2, 1) := by decide +kernel
theorem dL_signsLeft_1 : decode cL_signsLeft 1 = .ok (.iconst 0, 1) := by decide +kernel
theorem dL_signsLeft_2 : decode cL_signsLeft 2 = .ok (.aload_n 0, 1) := by decide +kernel
theorem dL_signsLeft_3 : decode cL_signsLeft 3 = .ok (.iload_n 1, 1) := by decide +kernel
theorem dL_signsLeft_4 : decode cL_signsLeft 4 = .ok (.invokevirtual 125, 3) := by decide +kernel
theorem dL_signsLeft_7 : decode cL_signsLeft 7 = .ok (.i2l, 1) := by decide +kernel
theorem dL_signsLeft_8 : decode cL_signsLeft 8 = .ok (.lastore, 1) := by decide +kernel
theorem dL_signsLeft_9 : decode cL_signsLeft 9 = .ok (.goto 9, 3) := by decide +kernel
theorem dL_signsLeft_12 : decode cL_signsLeft 12 = .ok (.astore_n 3, 1) := by decide +kernel
theorem dL_signsLeft_13 : decode cL_signsLeft 13 = .ok (.iconst 1, 1) := by decide +kernel
theorem dL_signsLeft_14 : decode cL_signsLeft 14 = .ok (.ireturn, 1) := by decide +kernel
theorem dL_signsLeft_15 : decode cL_signsLeft 15 = .ok (.astore_n 3, 1) := by decide +kernel
theorem dL_signsLeft_16 : decode cL_signsLeft 16 = .ok (.iconst 2, 1) := by decide +kernel
theorem dL_signsLeft_17 : decode cL_signsLeft 17 = .ok (.ireturn, 1) := by decide +kernel
theorem dL_signsLeft_18 : decode cL_signsLeft 18 = .ok (.iconst 0, 1) := by decide +kernel
theorem dL_signsLeft_19 : decode cL_signsLeft 19 = .ok (.ireturn, 1) := by decide +kernel
set_option maxRecDepth 20000 in
theorem ggL_append_X1_append : GoodIn wsL_append wsX1_append := goodIn_ca (goodIn_ca (goodIn_ca (goodIn_ca (goodIn_r _ [8, 9, 10, 11, 12, 7, 13, 14, 15, 16, 17, 18, 19, 20, 21, 22, 23, 24, 25, 26, 27, 28, 29, 30, 31, 32, 33, 34, 35, 36, 37, 38, 39, 40, 41, 42, 43, 44, 45, 46, 47, 48, 49, 50, 51, 52, 53, 54, 55, 56, 57, 58, 59, 60, 61, 62, 63, 64, 65, 66, 67, 68, 69, 70, 71, 72, 73, 74, 75, 76, 77] (by decide +kernel) (by decide +kernel)) (goodIn_sub (fun _ h => List.mem_cons_of_mem _ (List.mem_append_left _ (List.mem_append_left _ (List.mem_append_right _ h)))) (by decide +kernel))) (goodIn_sub (fun _ h => List.mem_cons_of_mem _ (List.mem_append_left _ (List.mem_append_right _ h))) (by decide +kernel))) (goodIn_sub (fun _ h => List.mem_cons_of_mem _ (List.mem_append_right _ h)) (by decide +kernel))) (goodIn_sub (fun _ h => List.mem_cons_of_mem _ (List.mem_append_left _ (List.mem_append_left _ (List.mem_append_left _ (List.mem_append_right _ h))))) (by decide +kernel))
set_option maxRecDepth 20000 in
theorem gL_append_X1_append : GoodIn wsL_append (wsV RL 128 RX1 yX1_append wsX1_append) := goodIn_app (goodIn_of _ (by decide +kernel)) ggL_append_X1_append
theorem dL_append_0 : decode cL_append 0 = .ok (.aload_n 3, 1) := by decide +kernel
theorem dL_append_1 : decode cL_append 1 = .ok (.iconst 0, 1) := by decide +kernel
theorem dL_append_2 : decode cL_append 2 = .ok (.aload_n 0, 1) := by decide +kernel
theorem dL_append_3 : decode cL_append 3 = .ok (.iload_n 1, 1) := by decide +kernel
theorem dL_append_4 : decode cL_append 4 = .ok (.iload_n 2, 1) := by decide +kernel
theorem dL_append_5 : decode cL_append 5 = .ok (.invokevirtual 128, 3) := by decide +kernel
theorem dL_append_8 : decode cL_append 8 = .ok (.i2l, 1) := by decide +kernel
theorem dL_append_9 : decode cL_append 9 = .ok (.lastore, 1) := by decide +kernel
theorem dL_append_10 : decode cL_append 10 = .ok (.goto 15, 3) := by decide +kernel
theorem dL_append_13 : decode cL_append 13 = .ok (.astore 4, 2) := by decide +kernel
theorem dL_append_15 : decode cL_append 15 = .ok (.iconst 1, 1) := by decide +kernel
theorem dL_append_16 : decode cL_append 16 = .ok (.ireturn, 1) := by decide +kernel
theorem dL_append_17 : decode cL_append 17 = .ok (.astore 4, 2) := by decide +kernel
theorem dL_append_19 : decode cL_append 19 = .ok (.iconst 2, 1) := by decide +kernel
theorem dL_append_20 : decode cL_append 20 = .ok (.ireturn, 1) := by decide +kernel
theorem dL_append_21 : decode cL_append 21 = .ok (.astore 4, 2) := by decide +kernel
theorem dL_append_23 : decode cL_append 23 = .ok (.iconst 3, 1) := by decide +kernel
theorem dL_append_24 : decode cL_append 24 = .ok (.ireturn, 1) := by decide +kernel
theorem dL_append_25 : decode cL_append 25 = .ok (.iconst 0, 1) := by decide +kernel
theorem dL_append_26 : decode cL_append 26 = .ok (.ireturn, 1) := by decide +kernel
set_option maxRecDepth 20000 in
theorem ggL_text_X1_text : GoodIn wsL_text wsX1_text := goodIn_ca (goodIn_ca (goodIn_ca (goodIn_r _ [7, 8, 9, 10, 11, 12, 6, 13, 14, 15, 16, 17, 18, 19, 20, 21, 22, 23, 24, 25, 26, 27, 28, 29, 30, 31, 32, 33, 34, 35, 36, 37, 38, 39, 40, 41, 42, 43, 44, 45, 46, 47, 48, 49, 50, 51, 52, 53, 54, 55, 56, 57, 58, 59, 60, 61] (by decide +kernel) (by decide +kernel)) (goodIn_sub (fun _ h => List.mem_cons_of_mem _ (List.mem_append_left _ (List.mem_append_right _ h))) (by decide +kernel))) (goodIn_sub (fun _ h => List.mem_cons_of_mem _ (List.mem_append_right _ h)) (by decide +kernel))) (goodIn_sub (fun _ h => List.mem_cons_of_mem _ (List.mem_append_left _ (List.mem_append_left _ (List.mem_append_right _ h)))) (by decide +kernel))
set_option maxRecDepth 20000 in
theorem gL_text_X1_text : GoodIn wsL_text (wsV RL 132 RX1 yX1_text wsX1_text) := goodIn_app (goodIn_of _ (by decide +kernel)) ggL_text_X1_text
theorem dL_text_0 : decode cL_text 0 = .ok (.aload_n 2, 1) := by decide +kernel
theorem dL_text_1 : decode cL_text 1 = .ok (.iconst 0, 1) := by decide +kernel
theorem dL_text_2 : decode cL_text 2 = .ok (.aload_n 0, 1) := by decide +kernel
theorem dL_text_3 : decode cL_text 3 = .ok (.iload_n 1, 1) := by decide +kernel
theorem dL_text_4 : decode cL_text 4 = .ok (.invokevirtual 132, 3) := by decide +kernel
theorem dL_text_7 : decode cL_text 7 = .ok (.lastore, 1) := by decide +kernel
theorem dL_text_8 : decode cL_text 8 = .ok (.goto 9, 3) := by decide +kernel
theorem dL_text_11 : decode cL_text 11 = .ok (.astore_n 3, 1) := by decide +kernel
theorem dL_text_12 : decode cL_text 12 = .ok (.iconst 1, 1) := by decide +kernel
theorem dL_text_13 : decode cL_text 13 = .ok (.ireturn, 1) := by decide +kernel
theorem dL_text_14 : decode cL_text 14 = .ok (.astore_n 3, 1) := by decide +kernel
theorem dL_text_15 : decode cL_text 15 = .ok (.iconst 2, 1) := by decide +kernel
theorem dL_text_16 : decode cL_text 16 = .ok (.ireturn, 1) := by decide +kernel
theorem dL_text_17 : decode cL_text 17 = .ok (.iconst 0, 1) := by decide +kernel
theorem dL_text_18 : decode cL_text 18 = .ok (.ireturn, 1) := by decide +kernel
set_option maxRecDepth 20000 in
theorem ggL_isAlike_X1_isAlike : GoodIn wsL_isAlike wsX1_isAlike := goodIn_ca (goodIn_ca (goodIn_r _ [6, 7, 8, 9, 10, 5, 11, 12, 13, 14, 15, 16, 17, 18, 19, 20, 21, 22, 23, 24, 25, 26, 27, 28, 29, 30, 31, 32, 33, 34, 35, 36, 37, 38, 39, 40, 41, 42, 43, 44, 45, 46, 47, 48, 49, 50, 51] (by decide +kernel) (by decide +kernel)) (goodIn_sub (fun _ h => List.mem_cons_of_mem _ (List.mem_append_right _ h)) (by decide +kernel))) (goodIn_sub (fun _ h => List.mem_cons_of_mem _ (List.mem_append_left _ (List.mem_append_right _ h))) (by decide +kernel))
set_option maxRecDepth 20000 in
theorem gL_isAlike_X1_isAlike : GoodIn wsL_isAlike (wsV RL 135 RX1 yX1_isAlike wsX1_isAlike) := goodIn_app (goodIn_of _ (by decide +kernel)) ggL_isAlike_X1_isAlike
theorem dL_isAlike_0 : decode cL_isAlike 0 = .ok (.aload_n 3, 1) := by decide +kernel
theorem dL_isAlike_1 : decode cL_isAlike 1 = .ok (.iconst 0, 1) := by decide +kernel
theorem dL_isAlike_2 : decode cL_isAlike 2 = .ok (.aload_n 0, 1) := by decide +kernel
theorem dL_isAlike_3 : decode cL_isAlike 3 = .ok (.iload_n 1, 1) := by decide +kernel
theorem dL_isAlike_4 : decode cL_isAlike 4 = .ok (.iload_n 2, 1) := by decide +kernel
theorem dL_isAlike_5 : decode cL_isAlike 5 = .ok (.invokevirtual 135, 3) := by decide +kernel
theorem dL_isAlike_8 : decode cL_isAlike 8 = .ok (.ifCond .eq 7, 3) := by decide +kernel
theorem dL_isAlike_11 : decode cL_isAlike 11 = .ok (.lconst 1, 1) := by decide +kernel
theorem dL_isAlike_12 : decode cL_isAlike 12 = .ok (.goto 4, 3) := by decide +kernel
theorem dL_isAlike_15 : decode cL_isAlike 15 = .ok (.lconst 0, 1) := by decide +kernel
theorem dL_isAlike_16 : decode cL_isAlike 16 = .ok (.lastore, 1) := by decide +kernel
theorem dL_isAlike_17 : decode cL_isAlike 17 = .ok (.goto 7, 3) := by decide +kernel
theorem dL_isAlike_20 : decode cL_isAlike 20 = .ok (.astore 4, 2) := by decide +kernel
theorem dL_isAlike_22 : decode cL_isAlike 22 = .ok (.iconst 1, 1) := by decide +kernel
theorem dL_isAlike_23 : decode cL_isAlike 23 = .ok (.ireturn, 1) := by decide +kernel
theorem dL_isAlike_24 : decode cL_isAlike 24 = .ok (.iconst 0, 1) := by decide +kernel
theorem dL_isAlike_25 : decode cL_isAlike 25 = .ok (.ireturn, 1) := by decide +kernel
set_option maxRecDepth 20000 in
theorem ggL_fullShare_X1_fullShare : GoodIn wsL_fullShare wsX1_fullShare := goodIn_ca (goodIn_ca (goodIn_r _ [7, 8, 9, 10, 11, 12, 13, 14, 6, 15, 16, 17, 18, 19, 20, 21, 22, 23, 24, 25, 26, 27, 28, 29, 30, 31, 32, 33, 34, 35, 36, 37, 38, 39, 40, 41, 42, 43] (by decide +kernel) (by decide +kernel)) (goodIn_sub (fun _ h => List.mem_cons_of_mem _ (List.mem_append_left _ (List.mem_append_right _ h))) (by decide +kernel))) (goodIn_sub (fun _ h => List.mem_cons_of_mem _ (List.mem_append_right _ h)) (by decide +kernel))
set_option maxRecDepth 20000 in
theorem gL_fullShare_X1_fullShare : GoodIn wsL_fullShare (wsV RL 139 RX1 yX1_fullShare wsX1_fullShare) := goodIn_app (goodIn_of _ (by decide +kernel)) ggL_fullShare_X1_fullShare
theorem dL_fullShare_0 : decode cL_fullShare 0 = .ok (.aload_n 2, 1) := by decide +kernel
theorem dL_fullShare_1 : decode cL_fullShare 1 = .ok (.iconst 0, 1) := by decide +kernel
theorem dL_fullShare_2 : decode cL_fullShare 2 = .ok (.aload_n 0, 1) := by decide +kernel
theorem dL_fullShare_3 : decode cL_fullShare 3 = .ok (.iload_n 1, 1) := by decide +kernel
theorem dL_fullShare_4 : decode cL_fullShare 4 = .ok (.invokevirtual 139, 3) := by decide +kernel
theorem dL_fullShare_7 : decode cL_fullShare 7 = .ok (.f2d, 1) := by decide +kernel
theorem dL_fullShare_8 : decode cL_fullShare 8 = .ok (.dastore, 1) := by decide +kernel
theorem dL_fullShare_9 : decode cL_fullShare 9 = .ok (.goto 9, 3) := by decide +kernel
theorem dL_fullShare_12 : decode cL_fullShare 12 = .ok (.astore_n 3, 1) := by decide +kernel
theorem dL_fullShare_13 : decode cL_fullShare 13 = .ok (.iconst 1, 1) := by decide +kernel
theorem dL_fullShare_14 : decode cL_fullShare 14 = .ok (.ireturn, 1) := by decide +kernel
theorem dL_fullShare_15 : decode cL_fullShare 15 = .ok (.astore_n 3, 1) := by decide +kernel
theorem dL_fullShare_16 : decode cL_fullShare 16 = .ok (.iconst 2, 1) := by decide +kernel
theorem dL_fullShare_17 : decode cL_fullShare 17 = .ok (.ireturn, 1) := by decide +kernel
theorem dL_fullShare_18 : decode cL_fullShare 18 = .ok (.iconst 0, 1) := by decide +kernel
theorem dL_fullShare_19 : decode cL_fullShare 19 = .ok (.ireturn, 1) := by decide +kernel
set_option maxRecDepth 20000 in
theorem ggL_meanLeft_X1_meanLeft : GoodIn wsL_meanLeft wsX1_meanLeft := goodIn_ca (goodIn_r _ [6, 7, 8, 9, 10, 11, 12, 13, 14, 15, 16, 17, 18, 19, 20, 21, 22, 23, 24, 25, 26, 27, 28, 29, 30, 31, 32, 33] (by decide +kernel) (by decide +kernel)) (goodIn_sub (fun _ h => List.mem_cons_of_mem _ (List.mem_append_right _ h)) (by decide +kernel))
set_option maxRecDepth 20000 in
theorem gL_meanLeft_X1_meanLeft : GoodIn wsL_meanLeft (wsV RL 145 RX1 yX1_meanLeft wsX1_meanLeft) := goodIn_app (goodIn_of _ (by decide +kernel)) ggL_meanLeft_X1_meanLeft
theorem dL_meanLeft_0 : decode cL_meanLeft 0 = .ok (.aload_n 1, 1) := by decide +kernel
theorem dL_meanLeft_1 : decode cL_meanLeft 1 = .ok (.iconst 0, 1) := by decide +kernel
theorem dL_meanLeft_2 : decode cL_meanLeft 2 = .ok (.aload_n 0, 1) := by decide +kernel
theorem dL_meanLeft_3 : decode cL_meanLeft 3 = .ok (.invokevirtual 145, 3) := by decide +kernel
theorem dL_meanLeft_6 : decode cL_meanLeft 6 = .ok (.dastore, 1) := by decide +kernel
theorem dL_meanLeft_7 : decode cL_meanLeft 7 = .ok (.goto 6, 3) := by decide +kernel
theorem dL_meanLeft_10 : decode cL_meanLeft 10 = .ok (.astore_n 2, 1) := by decide +kernel
theorem dL_meanLeft_11 : decode cL_meanLeft 11 = .ok (.iconst 1, 1) := by decide +kernel
theorem dL_meanLeft_12 : decode cL_meanLeft 12 = .ok (.ireturn, 1) := by decide +kernel
theorem dL_meanLeft_13 : decode cL_meanLeft 13 = .ok (.iconst 0, 1) := by decide +kernel
theorem dL_meanLeft_14 : decode cL_meanLeft 14 = .ok (.ireturn, 1) := by decide +kernel
set_option maxRecDepth 20000 in
theorem ggL_law_X1_init : GoodIn wsL_law wsX1_init := goodIn_r _ [11, 12, 13, 14, 15, 6, 16, 17, 18, 19, 20, 21, 22, 23, 24, 25, 26, 27, 28, 29, 684, 685, 686, 687, 701, 702, 703, 704, 705, 706, 707, 708] (by decide +kernel) (by decide +kernel)
set_option maxRecDepth 20000 in
theorem gL_law_X1_init : GoodIn wsL_law (wsX1_init) := ggL_law_X1_init
set_option maxRecDepth 20000 in
theorem ggL_law_X2_init : GoodIn wsL_law wsX2_init := goodIn_ca (goodIn_r _ [32, 33, 13, 14, 6, 34, 35, 36, 37, 38, 39, 40, 41, 42, 43, 44, 45, 46, 47, 688, 689, 690, 691, 692, 693, 694, 695, 696, 697, 698, 699, 700] (by decide +kernel) (by decide +kernel)) (goodIn_sub (fun _ h => List.mem_append_left _ (List.mem_append_left _ (List.mem_append_left _ (List.mem_append_left _ (List.mem_append_left _ (List.mem_append_left _ (List.mem_append_right _ h))))))) (by decide +kernel))
set_option maxRecDepth 20000 in
theorem gL_law_X2_init : GoodIn wsL_law (wsX2_init) := ggL_law_X2_init
set_option maxRecDepth 20000 in
theorem ggL_law_L_make : GoodIn wsL_law wsL_make := goodIn_ca (goodIn_ca (goodIn_ca (goodIn_r _ [51, 52, 53, 54, 55, 56, 2, 57, 16, 6, 58, 59, 60, 61, 62, 63, 64, 65, 66, 67, 68, 69, 70, 71, 684, 685, 686, 687] (by decide +kernel) (by decide +kernel)) (goodIn_sub (fun _ h => List.mem_append_left _ (List.mem_append_left _ (List.mem_append_left _ (List.mem_append_left _ (List.mem_append_left _ (List.mem_append_left _ (List.mem_append_right _ h))))))) (by decide +kernel))) (goodIn_sub (fun _ h => List.mem_append_left _ (List.mem_append_left _ (List.mem_append_left _ (List.mem_append_left _ (List.mem_append_left _ (List.mem_append_right _ h)))))) (by decide +kernel))) (goodIn_sub (fun _ h => List.mem_append_left _ (List.mem_append_left _ (List.mem_append_left _ (List.mem_append_left _ (List.mem_append_right _ h))))) (by decide +kernel))
set_option maxRecDepth 20000 in
theorem gL_law_L_make : GoodIn wsL_law (va_wsS RL 153 yL_make wsL_make) := goodIn_app (goodIn_of _ (by decide +kernel)) ggL_law_L_make
set_option maxRecDepth 20000 in
theorem ggL_law_X2_make : GoodIn wsL_law wsX2_make := goodIn_ca (goodIn_r _ [75, 76, 46, 45, 77, 78, 5, 79, 80, 81, 82, 83, 36, 37, 34, 688, 689, 690, 691, 692, 693, 694, 695, 696, 697, 698, 699, 700] (by decide +kernel) (by decide +kernel)) (goodIn_sub (fun _ h => List.mem_append_left _ (List.mem_append_left _ (List.mem_append_left _ (List.mem_append_left _ (List.mem_append_left _ (List.mem_append_left _ (List.mem_append_right _ h))))))) (by decide +kernel))
set_option maxRecDepth 20000 in
theorem gL_law_X2_make : GoodIn wsL_law (wsV RL 158 RX2 yX2_make wsX2_make) := goodIn_app (goodIn_of _ (by decide +kernel)) ggL_law_X2_make
set_option maxRecDepth 20000 in
theorem ggL_law_X2_thrown : GoodIn wsL_law wsX2_thrown := goodIn_r _ [87, 76, 688, 689, 690, 691, 692, 693, 694, 695, 696, 697, 698, 699, 700] (by decide +kernel) (by decide +kernel)
set_option maxRecDepth 20000 in
theorem gL_law_X2_thrown : GoodIn wsL_law (wsV RL 159 RX2 yX2_thrown wsX2_thrown) := goodIn_app (goodIn_of _ (by decide +kernel)) ggL_law_X2_thrown
set_option maxRecDepth 20000 in
theorem ggL_law_L_rowAt : GoodIn wsL_law wsL_rowAt := goodIn_ca (goodIn_ca (goodIn_r _ [90, 52, 91, 92, 93, 2, 94, 58, 59, 60, 61, 16, 62, 63, 64, 65, 66, 684, 685, 686, 687] (by decide +kernel) (by decide +kernel)) (goodIn_sub (fun _ h => List.mem_append_left _ (List.mem_append_left _ (List.mem_append_left _ (List.mem_append_left _ (List.mem_append_left _ (List.mem_append_left _ (List.mem_append_right _ h))))))) (by decide +kernel))) (goodIn_sub (fun _ h => List.mem_append_left _ (List.mem_append_left _ (List.mem_append_left _ (List.mem_append_left _ (List.mem_append_left _ (List.mem_append_right _ h)))))) (by decide +kernel))
set_option maxRecDepth 20000 in
theorem gL_law_L_rowAt : GoodIn wsL_law (va_wsS RL 163 yL_rowAt wsL_rowAt) := goodIn_app (goodIn_of _ (by decide +kernel)) ggL_law_L_rowAt
set_option maxRecDepth 20000 in
theorem ggL_law_X2_rowAt : GoodIn wsL_law wsX2_rowAt := goodIn_ca (goodIn_r _ [98, 34, 45, 99, 100, 101, 5, 102, 46, 76, 77, 78, 79, 688, 689, 690, 691, 692, 693, 694, 695, 696, 697, 698, 699, 700] (by decide +kernel) (by decide +kernel)) (goodIn_sub (fun _ h => List.mem_append_left _ (List.mem_append_left _ (List.mem_append_left _ (List.mem_append_left _ (List.mem_append_left _ (List.mem_append_left _ (List.mem_append_right _ h))))))) (by decide +kernel))
set_option maxRecDepth 20000 in
theorem gL_law_X2_rowAt : GoodIn wsL_law (wsV RL 165 RX2 yX2_rowAt wsX2_rowAt) := goodIn_app (goodIn_of _ (by decide +kernel)) ggL_law_X2_rowAt
set_option maxRecDepth 20000 in
theorem ggL_law_L_rowPut : GoodIn wsL_law wsL_rowPut := goodIn_ca (goodIn_ca (goodIn_r _ [105, 52, 106, 107, 108, 2, 109, 58, 59, 60, 61, 16, 62, 63, 64, 65, 66, 684, 685, 686, 687] (by decide +kernel) (by decide +kernel)) (goodIn_sub (fun _ h => List.mem_append_left _ (List.mem_append_left _ (List.mem_append_left _ (List.mem_append_left _ (List.mem_append_left _ (List.mem_append_left _ (List.mem_append_right _ h))))))) (by decide +kernel))) (goodIn_sub (fun _ h => List.mem_append_left _ (List.mem_append_left _ (List.mem_append_left _ (List.mem_append_left _ (List.mem_append_left _ (List.mem_append_right _ h)))))) (by decide +kernel))
set_option maxRecDepth 20000 in
theorem gL_law_L_rowPut : GoodIn wsL_law (va_wsS RL 166 yL_rowPut wsL_rowPut) := goodIn_app (goodIn_of _ (by decide +kernel)) ggL_law_L_rowPut
set_option maxRecDepth 20000 in
theorem ggL_law_X2_rowPut : GoodIn wsL_law wsX2_rowPut := goodIn_ca (goodIn_r _ [113, 34, 45, 99, 100, 101, 5, 102, 46, 76, 77, 78, 79, 688, 689, 690, 691, 692, 693, 694, 695, 696, 697, 698, 699, 700] (by decide +kernel) (by decide +kernel)) (goodIn_sub (fun _ h => List.mem_append_left _ (List.mem_append_left _ (List.mem_append_left _ (List.mem_append_left _ (List.mem_append_left _ (List.mem_append_left _ (List.mem_append_right _ h))))))) (by decide +kernel))
set_option maxRecDepth 20000 in
theorem gL_law_X2_rowPut : GoodIn wsL_law (wsV RL 169 RX2 yX2_rowPut wsX2_rowPut) := goodIn_app (goodIn_of _ (by decide +kernel)) ggL_law_X2_rowPut
set_option maxRecDepth 20000 in
theorem ggL_law_L_allocate : GoodIn wsL_law wsL_allocate := goodIn_ca (goodIn_ca (goodIn_ca (goodIn_r _ [116, 52, 53, 117, 118, 119, 2, 120, 6, 121, 122, 123, 124, 18, 62, 63, 64, 65, 66, 125, 126, 127, 70, 71, 67, 68, 69, 128, 129, 130, 20, 131, 27, 132, 133, 134, 135, 136, 28, 137, 138, 139, 140, 141, 142, 143, 144, 29, 684, 685, 686, 687, 701, 702, 703, 704, 705, 706, 707, 708] (by decide +kernel) (by decide +kernel)) (goodIn_sub (fun _ h => List.mem_append_left _ (List.mem_append_left _ (List.mem_append_left _ (List.mem_append_left _ (List.mem_append_left _ (List.mem_append_left _ (List.mem_append_right _ h))))))) (by decide +kernel))) (goodIn_sub (fun _ h => List.mem_append_left _ (List.mem_append_left _ (List.mem_append_left _ (List.mem_append_left _ (List.mem_append_left _ (List.mem_append_right _ h)))))) (by decide +kernel))) (goodIn_sub (fun _ h => List.mem_append_left _ (List.mem_append_left _ (List.mem_append_left _ (List.mem_append_left _ (List.mem_append_right _ h))))) (by decide +kernel))
set_option maxRecDepth 20000 in
theorem gL_law_L_allocate : GoodIn wsL_law (va_wsS RL 170 yL_allocate wsL_allocate) := goodIn_app (goodIn_of _ (by decide +kernel)) ggL_law_L_allocate
set_option maxRecDepth 20000 in
theorem ggL_law_X2_allocate : GoodIn wsL_law wsX2_allocate := goodIn_ca (goodIn_r _ [148, 76, 36, 77, 78, 5, 79, 80, 81, 82, 83, 45, 37, 34, 149, 150, 151, 152, 38, 39, 40, 41, 42, 44, 688, 689, 690, 691, 692, 693, 694, 695, 696, 697, 698, 699, 700] (by decide +kernel) (by decide +kernel)) (goodIn_sub (fun _ h => List.mem_append_left _ (List.mem_append_left _ (List.mem_append_left _ (List.mem_append_left _ (List.mem_append_left _ (List.mem_append_left _ (List.mem_append_right _ h))))))) (by decide +kernel))
set_option maxRecDepth 20000 in
theorem gL_law_X2_allocate : GoodIn wsL_law (wsV RL 173 RX2 yX2_allocate wsX2_allocate) := goodIn_app (goodIn_of _ (by decide +kernel)) ggL_law_X2_allocate
set_option maxRecDepth 20000 in
theorem ggL_law_L_wrap : GoodIn wsL_law wsL_wrap := goodIn_ca (goodIn_ca (goodIn_r _ [155, 52, 156, 157, 158, 2, 159, 160, 121, 122, 123, 124, 18, 62, 63, 64, 65, 66, 58, 59, 60, 61, 16, 132, 133, 134, 20, 135, 27, 136, 28, 137, 138, 139, 140, 141, 142, 143, 144, 29, 701, 702, 703, 704, 705, 706, 707, 708, 684, 685, 686, 687] (by decide +kernel) (by decide +kernel)) (goodIn_sub (fun _ h => List.mem_append_left _ (List.mem_append_left _ (List.mem_append_left _ (List.mem_append_left _ (List.mem_append_left _ (List.mem_append_left _ (List.mem_append_right _ h))))))) (by decide +kernel))) (goodIn_sub (fun _ h => List.mem_append_left _ (List.mem_append_left _ (List.mem_append_left _ (List.mem_append_left _ (List.mem_append_left _ (List.mem_append_right _ h)))))) (by decide +kernel))
set_option maxRecDepth 20000 in
theorem gL_law_L_wrap : GoodIn wsL_law (va_wsS RL 174 yL_wrap wsL_wrap) := goodIn_app (goodIn_of _ (by decide +kernel)) ggL_law_L_wrap
set_option maxRecDepth 20000 in
theorem ggL_law_X2_wrap : GoodIn wsL_law wsX2_wrap := goodIn_ca (goodIn_r _ [164, 76, 45, 46, 77, 78, 5, 79, 149, 150, 151, 152, 36, 37, 38, 39, 40, 41, 42, 44, 688, 689, 690, 691, 692, 693, 694, 695, 696, 697, 698, 699, 700] (by decide +kernel) (by decide +kernel)) (goodIn_sub (fun _ h => List.mem_append_left _ (List.mem_append_left _ (List.mem_append_left _ (List.mem_append_left _ (List.mem_append_left _ (List.mem_append_left _ (List.mem_append_right _ h))))))) (by decide +kernel))
set_option maxRecDepth 20000 in
theorem gL_law_X2_wrap : GoodIn wsL_law (wsV RL 176 RX2 yX2_wrap wsX2_wrap) := goodIn_app (goodIn_of _ (by decide +kernel)) ggL_law_X2_wrap
set_option maxRecDepth 20000 in
theorem ggL_law_L_kind : GoodIn wsL_law wsL_kind := goodIn_ca (goodIn_ca (goodIn_r _ [167, 52, 168, 169, 170, 2, 171, 172, 121, 122, 123, 124, 18, 62, 63, 64, 65, 66, 701, 702, 703, 704, 705, 706, 707, 708, 684, 685, 686, 687] (by decide +kernel) (by decide +kernel)) (goodIn_sub (fun _ h => List.mem_append_left _ (List.mem_append_left _ (List.mem_append_left _ (List.mem_append_left _ (List.mem_append_left _ (List.mem_append_left _ (List.mem_append_right _ h))))))) (by decide +kernel))) (goodIn_sub (fun _ h => List.mem_append_left _ (List.mem_append_left _ (List.mem_append_left _ (List.mem_append_left _ (List.mem_append_left _ (List.mem_append_right _ h)))))) (by decide +kernel))
set_option maxRecDepth 20000 in
theorem gL_law_L_kind : GoodIn wsL_law (va_wsS RL 177 yL_kind wsL_kind) := goodIn_app (goodIn_of _ (by decide +kernel)) ggL_law_L_kind
set_option maxRecDepth 20000 in
theorem ggL_law_X2_kind : GoodIn wsL_law wsX2_kind := goodIn_ca (goodIn_r _ [176, 76, 36, 77, 78, 5, 79, 688, 689, 690, 691, 692, 693, 694, 695, 696, 697, 698, 699, 700] (by decide +kernel) (by decide +kernel)) (goodIn_sub (fun _ h => List.mem_append_left _ (List.mem_append_left _ (List.mem_append_left _ (List.mem_append_left _ (List.mem_append_left _ (List.mem_append_left _ (List.mem_append_right _ h))))))) (by decide +kernel))
set_option maxRecDepth 20000 in
theorem gL_law_X2_kind : GoodIn wsL_law (wsV RL 180 RX2 yX2_kind wsX2_kind) := goodIn_app (goodIn_of _ (by decide +kernel)) ggL_law_X2_kind
set_option maxRecDepth 20000 in
theorem ggL_law_L_capacity : GoodIn wsL_law wsL_capacity := goodIn_ca (goodIn_ca (goodIn_r _ [179, 52, 180, 181, 182, 2, 183, 160, 184, 185, 186, 187, 65, 66, 121, 122, 123, 124, 18, 62, 63, 64, 128, 129, 130, 20, 131, 27, 701, 702, 703, 704, 705, 706, 707, 708, 684, 685, 686, 687] (by decide +kernel) (by decide +kernel)) (goodIn_sub (fun _ h => List.mem_append_left _ (List.mem_append_left _ (List.mem_append_left _ (List.mem_append_left _ (List.mem_append_left _ (List.mem_append_left _ (List.mem_append_right _ h))))))) (by decide +kernel))) (goodIn_sub (fun _ h => List.mem_append_left _ (List.mem_append_left _ (List.mem_append_left _ (List.mem_append_left _ (List.mem_append_left _ (List.mem_append_right _ h)))))) (by decide +kernel))
set_option maxRecDepth 20000 in
theorem gL_law_L_capacity : GoodIn wsL_law (va_wsS RL 181 yL_capacity wsL_capacity) := goodIn_app (goodIn_of _ (by decide +kernel)) ggL_law_L_capacity
set_option maxRecDepth 20000 in
theorem ggL_law_X2_capacity : GoodIn wsL_law wsX2_capacity := goodIn_ca (goodIn_r _ [191, 39, 192, 193, 194, 5, 195, 76, 196, 197, 198, 199, 36, 77, 78, 79, 688, 689, 690, 691, 692, 693, 694, 695, 696, 697, 698, 699, 700] (by decide +kernel) (by decide +kernel)) (goodIn_sub (fun _ h => List.mem_append_left _ (List.mem_append_left _ (List.mem_append_left _ (List.mem_append_left _ (List.mem_append_left _ (List.mem_append_left _ (List.mem_append_right _ h))))))) (by decide +kernel))
set_option maxRecDepth 20000 in
theorem gL_law_X2_capacity : GoodIn wsL_law (wsV RL 183 RX2 yX2_capacity wsX2_capacity) := goodIn_app (goodIn_of _ (by decide +kernel)) ggL_law_X2_capacity
set_option maxRecDepth 20000 in
theorem ggL_law_L_place : GoodIn wsL_law wsL_place := goodIn_ca (goodIn_ca (goodIn_r _ [202, 52, 203, 204, 205, 2, 206, 207, 184, 185, 186, 187, 65, 66, 121, 122, 123, 124, 18, 62, 63, 64, 128, 129, 130, 20, 131, 27, 701, 702, 703, 704, 705, 706, 707, 708, 684, 685, 686, 687] (by decide +kernel) (by decide +kernel)) (goodIn_sub (fun _ h => List.mem_append_left _ (List.mem_append_left _ (List.mem_append_left _ (List.mem_append_left _ (List.mem_append_left _ (List.mem_append_left _ (List.mem_append_right _ h))))))) (by decide +kernel))) (goodIn_sub (fun _ h => List.mem_append_left _ (List.mem_append_left _ (List.mem_append_left _ (List.mem_append_left _ (List.mem_append_left _ (List.mem_append_right _ h)))))) (by decide +kernel))
set_option maxRecDepth 20000 in
theorem gL_law_L_place : GoodIn wsL_law (va_wsS RL 184 yL_place wsL_place) := goodIn_app (goodIn_of _ (by decide +kernel)) ggL_law_L_place
set_option maxRecDepth 20000 in
theorem ggL_law_X2_place : GoodIn wsL_law wsX2_place := goodIn_ca (goodIn_r _ [211, 40, 192, 193, 194, 5, 195, 76, 196, 197, 198, 199, 36, 77, 78, 79, 688, 689, 690, 691, 692, 693, 694, 695, 696, 697, 698, 699, 700] (by decide +kernel) (by decide +kernel)) (goodIn_sub (fun _ h => List.mem_append_left _ (List.mem_append_left _ (List.mem_append_left _ (List.mem_append_left _ (List.mem_append_left _ (List.mem_append_left _ (List.mem_append_right _ h))))))) (by decide +kernel))
set_option maxRecDepth 20000 in
theorem gL_law_X2_place : GoodIn wsL_law (wsV RL 186 RX2 yX2_place wsX2_place) := goodIn_app (goodIn_of _ (by decide +kernel)) ggL_law_X2_place
set_option maxRecDepth 20000 in
theorem ggL_law_L_end : GoodIn wsL_law wsL_end := goodIn_ca (goodIn_ca (goodIn_r _ [214, 52, 215, 216, 217, 2, 218, 219, 184, 185, 186, 187, 65, 66, 121, 122, 123, 124, 18, 62, 63, 64, 128, 129, 130, 20, 131, 27, 701, 702, 703, 704, 705, 706, 707, 708, 684, 685, 686, 687] (by decide +kernel) (by decide +kernel)) (goodIn_sub (fun _ h => List.mem_append_left _ (List.mem_append_left _ (List.mem_append_left _ (List.mem_append_left _ (List.mem_append_left _ (List.mem_append_left _ (List.mem_append_right _ h))))))) (by decide +kernel))) (goodIn_sub (fun _ h => List.mem_append_left _ (List.mem_append_left _ (List.mem_append_left _ (List.mem_append_left _ (List.mem_append_left _ (List.mem_append_right _ h)))))) (by decide +kernel))
set_option maxRecDepth 20000 in
theorem gL_law_L_end : GoodIn wsL_law (va_wsS RL 187 yL_end wsL_end) := goodIn_app (goodIn_of _ (by decide +kernel)) ggL_law_L_end
set_option maxRecDepth 20000 in
theorem ggL_law_X2_end : GoodIn wsL_law wsX2_end := goodIn_ca (goodIn_r _ [223, 41, 192, 193, 194, 5, 195, 76, 196, 197, 198, 199, 36, 77, 78, 79, 688, 689, 690, 691, 692, 693, 694, 695, 696, 697, 698, 699, 700] (by decide +kernel) (by decide +kernel)) (goodIn_sub (fun _ h => List.mem_append_left _ (List.mem_append_left _ (List.mem_append_left _ (List.mem_append_left _ (List.mem_append_left _ (List.mem_append_left _ (List.mem_append_right _ h))))))) (by decide +kernel))
set_option maxRecDepth 20000 in
theorem gL_law_X2_end : GoodIn wsL_law (wsV RL 189 RX2 yX2_end wsX2_end) := goodIn_app (goodIn_of _ (by decide +kernel)) ggL_law_X2_end
set_option maxRecDepth 20000 in
theorem ggL_law_L_left : GoodIn wsL_law wsL_left := goodIn_ca (goodIn_ca (goodIn_r _ [226, 52, 227, 228, 229, 2, 230, 184, 185, 186, 187, 65, 66, 121, 122, 123, 124, 18, 62, 63, 64, 128, 129, 130, 20, 131, 27, 231, 232, 233, 234, 144, 143, 684, 685, 686, 687, 701, 702, 703, 704, 705, 706, 707, 708] (by decide +kernel) (by decide +kernel)) (goodIn_sub (fun _ h => List.mem_append_left _ (List.mem_append_left _ (List.mem_append_left _ (List.mem_append_left _ (List.mem_append_left _ (List.mem_append_left _ (List.mem_append_right _ h))))))) (by decide +kernel))) (goodIn_sub (fun _ h => List.mem_append_left _ (List.mem_append_left _ (List.mem_append_left _ (List.mem_append_left _ (List.mem_append_left _ (List.mem_append_right _ h)))))) (by decide +kernel))
set_option maxRecDepth 20000 in
theorem gL_law_L_left : GoodIn wsL_law (va_wsS RL 190 yL_left wsL_left) := goodIn_app (goodIn_of _ (by decide +kernel)) ggL_law_L_left
set_option maxRecDepth 20000 in
theorem ggL_law_X2_left : GoodIn wsL_law wsX2_left := goodIn_ca (goodIn_r _ [238, 41, 40, 192, 193, 194, 5, 195, 76, 196, 197, 198, 199, 36, 77, 78, 79, 688, 689, 690, 691, 692, 693, 694, 695, 696, 697, 698, 699, 700] (by decide +kernel) (by decide +kernel)) (goodIn_sub (fun _ h => List.mem_append_left _ (List.mem_append_left _ (List.mem_append_left _ (List.mem_append_left _ (List.mem_append_left _ (List.mem_append_left _ (List.mem_append_right _ h))))))) (by decide +kernel))
set_option maxRecDepth 20000 in
theorem gL_law_X2_left : GoodIn wsL_law (wsV RL 192 RX2 yX2_left wsX2_left) := goodIn_app (goodIn_of _ (by decide +kernel)) ggL_law_X2_left
set_option maxRecDepth 20000 in
theorem ggL_law_L_hasLeft : GoodIn wsL_law wsL_hasLeft := goodIn_ca (goodIn_ca (goodIn_r _ [241, 52, 242, 243, 244, 2, 245, 184, 185, 186, 187, 65, 66, 121, 122, 123, 124, 18, 62, 63, 64, 128, 129, 130, 20, 131, 27, 231, 232, 233, 234, 144, 143, 684, 685, 686, 687, 701, 702, 703, 704, 705, 706, 707, 708] (by decide +kernel) (by decide +kernel)) (goodIn_sub (fun _ h => List.mem_append_left _ (List.mem_append_left _ (List.mem_append_left _ (List.mem_append_left _ (List.mem_append_left _ (List.mem_append_left _ (List.mem_append_right _ h))))))) (by decide +kernel))) (goodIn_sub (fun _ h => List.mem_append_left _ (List.mem_append_left _ (List.mem_append_left _ (List.mem_append_left _ (List.mem_append_left _ (List.mem_append_right _ h)))))) (by decide +kernel))
set_option maxRecDepth 20000 in
theorem gL_law_L_hasLeft : GoodIn wsL_law (va_wsS RL 193 yL_hasLeft wsL_hasLeft) := goodIn_app (goodIn_of _ (by decide +kernel)) ggL_law_L_hasLeft
set_option maxRecDepth 20000 in
theorem ggL_law_X2_hasLeft : GoodIn wsL_law wsX2_hasLeft := goodIn_ca (goodIn_r _ [249, 41, 40, 192, 193, 194, 5, 195, 76, 196, 197, 198, 199, 36, 77, 78, 79, 688, 689, 690, 691, 692, 693, 694, 695, 696, 697, 698, 699, 700] (by decide +kernel) (by decide +kernel)) (goodIn_sub (fun _ h => List.mem_append_left _ (List.mem_append_left _ (List.mem_append_left _ (List.mem_append_left _ (List.mem_append_left _ (List.mem_append_left _ (List.mem_append_right _ h))))))) (by decide +kernel))
set_option maxRecDepth 20000 in
theorem gL_law_X2_hasLeft : GoodIn wsL_law (wsV RL 195 RX2 yX2_hasLeft wsX2_hasLeft) := goodIn_app (goodIn_of _ (by decide +kernel)) ggL_law_X2_hasLeft
set_option maxRecDepth 20000 in
theorem ggL_law_L_isReadOnly : GoodIn wsL_law wsL_isReadOnly := goodIn_ca (goodIn_ca (goodIn_r _ [252, 52, 253, 254, 255, 2, 256, 257, 184, 185, 186, 187, 65, 66, 121, 122, 123, 124, 18, 62, 63, 64, 128, 129, 130, 20, 131, 27, 701, 702, 703, 704, 705, 706, 707, 708, 684, 685, 686, 687] (by decide +kernel) (by decide +kernel)) (goodIn_sub (fun _ h => List.mem_append_left _ (List.mem_append_left _ (List.mem_append_left _ (List.mem_append_left _ (List.mem_append_left _ (List.mem_append_left _ (List.mem_append_right _ h))))))) (by decide +kernel))) (goodIn_sub (fun _ h => List.mem_append_left _ (List.mem_append_left _ (List.mem_append_left _ (List.mem_append_left _ (List.mem_append_left _ (List.mem_append_right _ h)))))) (by decide +kernel))
set_option maxRecDepth 20000 in
theorem gL_law_L_isReadOnly : GoodIn wsL_law (va_wsS RL 196 yL_isReadOnly wsL_isReadOnly) := goodIn_app (goodIn_of _ (by decide +kernel)) ggL_law_L_isReadOnly
set_option maxRecDepth 20000 in
theorem ggL_law_X2_isReadOnly : GoodIn wsL_law wsX2_isReadOnly := goodIn_ca (goodIn_r _ [261, 44, 192, 193, 194, 5, 195, 76, 196, 197, 198, 199, 36, 77, 78, 79, 688, 689, 690, 691, 692, 693, 694, 695, 696, 697, 698, 699, 700] (by decide +kernel) (by decide +kernel)) (goodIn_sub (fun _ h => List.mem_append_left _ (List.mem_append_left _ (List.mem_append_left _ (List.mem_append_left _ (List.mem_append_left _ (List.mem_append_left _ (List.mem_append_right _ h))))))) (by decide +kernel))
set_option maxRecDepth 20000 in
theorem gL_law_X2_isReadOnly : GoodIn wsL_law (wsV RL 198 RX2 yX2_isReadOnly wsX2_isReadOnly) := goodIn_app (goodIn_of _ (by decide +kernel)) ggL_law_X2_isReadOnly
set_option maxRecDepth 20000 in
theorem ggL_law_L_placeAt : GoodIn wsL_law wsL_placeAt := goodIn_ca (goodIn_ca (goodIn_ca (goodIn_r _ [264, 52, 53, 265, 266, 267, 2, 268, 219, 207, 184, 185, 186, 187, 65, 66, 121, 122, 123, 124, 18, 62, 63, 64, 128, 129, 130, 20, 131, 27, 269, 270, 271, 70, 71, 272, 273, 274, 275, 29, 701, 702, 703, 704, 705, 706, 707, 708, 684, 685, 686, 687] (by decide +kernel) (by decide +kernel)) (goodIn_sub (fun _ h => List.mem_append_left _ (List.mem_append_left _ (List.mem_append_left _ (List.mem_append_left _ (List.mem_append_left _ (List.mem_append_left _ (List.mem_append_right _ h))))))) (by decide +kernel))) (goodIn_sub (fun _ h => List.mem_append_left _ (List.mem_append_left _ (List.mem_append_left _ (List.mem_append_left _ (List.mem_append_left _ (List.mem_append_right _ h)))))) (by decide +kernel))) (goodIn_sub (fun _ h => List.mem_append_left _ (List.mem_append_left _ (List.mem_append_left _ (List.mem_append_left _ (List.mem_append_right _ h))))) (by decide +kernel))
set_option maxRecDepth 20000 in
theorem gL_law_L_placeAt : GoodIn wsL_law (va_wsS RL 199 yL_placeAt wsL_placeAt) := goodIn_app (goodIn_of _ (by decide +kernel)) ggL_law_L_placeAt
set_option maxRecDepth 20000 in
theorem ggL_law_X2_placeAt : GoodIn wsL_law wsX2_placeAt := goodIn_ca (goodIn_r _ [279, 41, 76, 40, 42, 196, 197, 198, 5, 199, 36, 77, 78, 79, 688, 689, 690, 691, 692, 693, 694, 695, 696, 697, 698, 699, 700] (by decide +kernel) (by decide +kernel)) (goodIn_sub (fun _ h => List.mem_append_left _ (List.mem_append_left _ (List.mem_append_left _ (List.mem_append_left _ (List.mem_append_left _ (List.mem_append_left _ (List.mem_append_right _ h))))))) (by decide +kernel))
set_option maxRecDepth 20000 in
theorem gL_law_X2_placeAt : GoodIn wsL_law (wsV RL 201 RX2 yX2_placeAt wsX2_placeAt) := goodIn_app (goodIn_of _ (by decide +kernel)) ggL_law_X2_placeAt
set_option maxRecDepth 20000 in
theorem ggL_law_L_endAt : GoodIn wsL_law wsL_endAt := goodIn_ca (goodIn_ca (goodIn_ca (goodIn_r _ [282, 52, 53, 283, 284, 285, 2, 286, 160, 219, 207, 287, 288, 289, 290, 184, 185, 186, 187, 65, 66, 121, 122, 123, 124, 18, 62, 63, 64, 128, 129, 130, 20, 131, 27, 269, 270, 271, 70, 71, 272, 273, 274, 275, 29, 701, 702, 703, 704, 705, 706, 707, 708, 684, 685, 686, 687] (by decide +kernel) (by decide +kernel)) (goodIn_sub (fun _ h => List.mem_append_left _ (List.mem_append_left _ (List.mem_append_left _ (List.mem_append_left _ (List.mem_append_left _ (List.mem_append_left _ (List.mem_append_right _ h))))))) (by decide +kernel))) (goodIn_sub (fun _ h => List.mem_append_left _ (List.mem_append_left _ (List.mem_append_left _ (List.mem_append_left _ (List.mem_append_left _ (List.mem_append_right _ h)))))) (by decide +kernel))) (goodIn_sub (fun _ h => List.mem_append_left _ (List.mem_append_left _ (List.mem_append_left _ (List.mem_append_left _ (List.mem_append_right _ h))))) (by decide +kernel))
set_option maxRecDepth 20000 in
theorem gL_law_L_endAt : GoodIn wsL_law (va_wsS RL 202 yL_endAt wsL_endAt) := goodIn_app (goodIn_of _ (by decide +kernel)) ggL_law_L_endAt
set_option maxRecDepth 20000 in
theorem ggL_law_X2_endAt : GoodIn wsL_law wsX2_endAt := goodIn_ca (goodIn_r _ [294, 39, 76, 41, 40, 42, 196, 197, 198, 5, 199, 36, 77, 78, 79, 688, 689, 690, 691, 692, 693, 694, 695, 696, 697, 698, 699, 700] (by decide +kernel) (by decide +kernel)) (goodIn_sub (fun _ h => List.mem_append_left _ (List.mem_append_left _ (List.mem_append_left _ (List.mem_append_left _ (List.mem_append_left _ (List.mem_append_left _ (List.mem_append_right _ h))))))) (by decide +kernel))
set_option maxRecDepth 20000 in
theorem gL_law_X2_endAt : GoodIn wsL_law (wsV RL 204 RX2 yX2_endAt wsX2_endAt) := goodIn_app (goodIn_of _ (by decide +kernel)) ggL_law_X2_endAt
set_option maxRecDepth 20000 in
theorem ggL_law_L_mark : GoodIn wsL_law wsL_mark := goodIn_ca (goodIn_ca (goodIn_r _ [297, 52, 298, 299, 300, 2, 301, 207, 302, 184, 185, 186, 187, 65, 66, 121, 122, 123, 124, 18, 62, 63, 64, 128, 129, 130, 20, 131, 27, 701, 702, 703, 704, 705, 706, 707, 708, 684, 685, 686, 687] (by decide +kernel) (by decide +kernel)) (goodIn_sub (fun _ h => List.mem_append_left _ (List.mem_append_left _ (List.mem_append_left _ (List.mem_append_left _ (List.mem_append_left _ (List.mem_append_left _ (List.mem_append_right _ h))))))) (by decide +kernel))) (goodIn_sub (fun _ h => List.mem_append_left _ (List.mem_append_left _ (List.mem_append_left _ (List.mem_append_left _ (List.mem_append_left _ (List.mem_append_right _ h)))))) (by decide +kernel))
set_option maxRecDepth 20000 in
theorem gL_law_L_mark : GoodIn wsL_law (va_wsS RL 205 yL_mark wsL_mark) := goodIn_app (goodIn_of _ (by decide +kernel)) ggL_law_L_mark
set_option maxRecDepth 20000 in
theorem ggL_law_X2_mark : GoodIn wsL_law wsX2_mark := goodIn_ca (goodIn_r _ [306, 42, 40, 192, 193, 194, 5, 195, 76, 196, 197, 198, 199, 36, 77, 78, 79, 688, 689, 690, 691, 692, 693, 694, 695, 696, 697, 698, 699, 700] (by decide +kernel) (by decide +kernel)) (goodIn_sub (fun _ h => List.mem_append_left _ (List.mem_append_left _ (List.mem_append_left _ (List.mem_append_left _ (List.mem_append_left _ (List.mem_append_left _ (List.mem_append_right _ h))))))) (by decide +kernel))
set_option maxRecDepth 20000 in
theorem gL_law_X2_mark : GoodIn wsL_law (wsV RL 207 RX2 yX2_mark wsX2_mark) := goodIn_app (goodIn_of _ (by decide +kernel)) ggL_law_X2_mark
set_option maxRecDepth 20000 in
theorem ggL_law_L_back : GoodIn wsL_law wsL_back := goodIn_ca (goodIn_ca (goodIn_ca (goodIn_r _ [309, 52, 310, 311, 312, 313, 2, 314, 315, 316, 302, 207, 184, 185, 186, 187, 65, 66, 121, 122, 123, 124, 18, 62, 63, 64, 128, 129, 130, 20, 131, 27, 701, 702, 703, 704, 705, 706, 707, 708, 684, 685, 686, 687] (by decide +kernel) (by decide +kernel)) (goodIn_sub (fun _ h => List.mem_append_left _ (List.mem_append_left _ (List.mem_append_left _ (List.mem_append_left _ (List.mem_append_left _ (List.mem_append_left _ (List.mem_append_right _ h))))))) (by decide +kernel))) (goodIn_sub (fun _ h => List.mem_append_left _ (List.mem_append_left _ (List.mem_append_left _ (List.mem_append_right _ h)))) (by decide +kernel))) (goodIn_sub (fun _ h => List.mem_append_left _ (List.mem_append_left _ (List.mem_append_left _ (List.mem_append_left _ (List.mem_append_left _ (List.mem_append_right _ h)))))) (by decide +kernel))
set_option maxRecDepth 20000 in
theorem gL_law_L_back : GoodIn wsL_law (va_wsS RL 208 yL_back wsL_back) := goodIn_app (goodIn_of _ (by decide +kernel)) ggL_law_L_back
set_option maxRecDepth 20000 in
theorem ggL_law_X2_back : GoodIn wsL_law wsX2_back := goodIn_ca (goodIn_r _ [320, 42, 76, 40, 196, 197, 198, 5, 199, 36, 77, 78, 79, 688, 689, 690, 691, 692, 693, 694, 695, 696, 697, 698, 699, 700] (by decide +kernel) (by decide +kernel)) (goodIn_sub (fun _ h => List.mem_append_left _ (List.mem_append_left _ (List.mem_append_left _ (List.mem_append_left _ (List.mem_append_left _ (List.mem_append_left _ (List.mem_append_right _ h))))))) (by decide +kernel))
set_option maxRecDepth 20000 in
theorem gL_law_X2_back : GoodIn wsL_law (wsV RL 210 RX2 yX2_back wsX2_back) := goodIn_app (goodIn_of _ (by decide +kernel)) ggL_law_X2_back
set_option maxRecDepth 20000 in
theorem ggL_law_L_clear : GoodIn wsL_law wsL_clear := goodIn_ca (goodIn_ca (goodIn_r _ [323, 52, 324, 325, 326, 2, 327, 160, 219, 184, 185, 186, 187, 65, 66, 121, 122, 123, 124, 18, 62, 63, 64, 128, 129, 130, 20, 131, 27, 328, 140, 141, 142, 143, 144, 29, 701, 702, 703, 704, 705, 706, 707, 708, 684, 685, 686, 687] (by decide +kernel) (by decide +kernel)) (goodIn_sub (fun _ h => List.mem_append_left _ (List.mem_append_left _ (List.mem_append_left _ (List.mem_append_left _ (List.mem_append_left _ (List.mem_append_left _ (List.mem_append_right _ h))))))) (by decide +kernel))) (goodIn_sub (fun _ h => List.mem_append_left _ (List.mem_append_left _ (List.mem_append_left _ (List.mem_append_left _ (List.mem_append_left _ (List.mem_append_right _ h)))))) (by decide +kernel))
set_option maxRecDepth 20000 in
theorem gL_law_L_clear : GoodIn wsL_law (va_wsS RL 211 yL_clear wsL_clear) := goodIn_app (goodIn_of _ (by decide +kernel)) ggL_law_L_clear
set_option maxRecDepth 20000 in
theorem ggL_law_X2_clear : GoodIn wsL_law wsX2_clear := goodIn_ca (goodIn_r _ [332, 39, 41, 192, 193, 194, 5, 195, 76, 196, 197, 198, 199, 36, 77, 78, 79, 333, 334, 335, 336, 40, 42, 688, 689, 690, 691, 692, 693, 694, 695, 696, 697, 698, 699, 700] (by decide +kernel) (by decide +kernel)) (goodIn_sub (fun _ h => List.mem_append_left _ (List.mem_append_left _ (List.mem_append_left _ (List.mem_append_left _ (List.mem_append_left _ (List.mem_append_left _ (List.mem_append_right _ h))))))) (by decide +kernel))
set_option maxRecDepth 20000 in
theorem gL_law_X2_clear : GoodIn wsL_law (wsV RL 213 RX2 yX2_clear wsX2_clear) := goodIn_app (goodIn_of _ (by decide +kernel)) ggL_law_X2_clear
set_option maxRecDepth 20000 in
theorem ggL_law_L_flip : GoodIn wsL_law wsL_flip := goodIn_ca (goodIn_ca (goodIn_r _ [339, 52, 340, 341, 342, 2, 343, 207, 219, 184, 185, 186, 187, 65, 66, 121, 122, 123, 124, 18, 62, 63, 64, 128, 129, 130, 20, 131, 27, 328, 140, 141, 142, 143, 144, 29, 701, 702, 703, 704, 705, 706, 707, 708, 684, 685, 686, 687] (by decide +kernel) (by decide +kernel)) (goodIn_sub (fun _ h => List.mem_append_left _ (List.mem_append_left _ (List.mem_append_left _ (List.mem_append_left _ (List.mem_append_left _ (List.mem_append_left _ (List.mem_append_right _ h))))))) (by decide +kernel))) (goodIn_sub (fun _ h => List.mem_append_left _ (List.mem_append_left _ (List.mem_append_left _ (List.mem_append_left _ (List.mem_append_left _ (List.mem_append_right _ h)))))) (by decide +kernel))
set_option maxRecDepth 20000 in
theorem gL_law_L_flip : GoodIn wsL_law (va_wsS RL 214 yL_flip wsL_flip) := goodIn_app (goodIn_of _ (by decide +kernel)) ggL_law_L_flip
set_option maxRecDepth 20000 in
theorem ggL_law_X2_flip : GoodIn wsL_law wsX2_flip := goodIn_ca (goodIn_r _ [347, 40, 41, 192, 193, 194, 5, 195, 76, 196, 197, 198, 199, 36, 77, 78, 79, 333, 334, 335, 336, 42, 688, 689, 690, 691, 692, 693, 694, 695, 696, 697, 698, 699, 700] (by decide +kernel) (by decide +kernel)) (goodIn_sub (fun _ h => List.mem_append_left _ (List.mem_append_left _ (List.mem_append_left _ (List.mem_append_left _ (List.mem_append_left _ (List.mem_append_left _ (List.mem_append_right _ h))))))) (by decide +kernel))
set_option maxRecDepth 20000 in
theorem gL_law_X2_flip : GoodIn wsL_law (wsV RL 216 RX2 yX2_flip wsX2_flip) := goodIn_app (goodIn_of _ (by decide +kernel)) ggL_law_X2_flip
set_option maxRecDepth 20000 in
theorem ggL_law_L_rewind : GoodIn wsL_law wsL_rewind := goodIn_ca (goodIn_ca (goodIn_r _ [350, 52, 351, 352, 353, 2, 354, 219, 184, 185, 186, 187, 65, 66, 121, 122, 123, 124, 18, 62, 63, 64, 128, 129, 130, 20, 131, 27, 328, 140, 141, 142, 143, 144, 29, 231, 232, 233, 234, 701, 702, 703, 704, 705, 706, 707, 708, 684, 685, 686, 687] (by decide +kernel) (by decide +kernel)) (goodIn_sub (fun _ h => List.mem_append_left _ (List.mem_append_left _ (List.mem_append_left _ (List.mem_append_left _ (List.mem_append_left _ (List.mem_append_left _ (List.mem_append_right _ h))))))) (by decide +kernel))) (goodIn_sub (fun _ h => List.mem_append_left _ (List.mem_append_left _ (List.mem_append_left _ (List.mem_append_left _ (List.mem_append_left _ (List.mem_append_right _ h)))))) (by decide +kernel))
set_option maxRecDepth 20000 in
theorem gL_law_L_rewind : GoodIn wsL_law (va_wsS RL 217 yL_rewind wsL_rewind) := goodIn_app (goodIn_of _ (by decide +kernel)) ggL_law_L_rewind
set_option maxRecDepth 20000 in
theorem ggL_law_X2_rewind : GoodIn wsL_law wsX2_rewind := goodIn_ca (goodIn_r _ [358, 41, 192, 193, 194, 5, 195, 76, 196, 197, 198, 199, 36, 77, 78, 79, 333, 334, 335, 336, 40, 42, 688, 689, 690, 691, 692, 693, 694, 695, 696, 697, 698, 699, 700] (by decide +kernel) (by decide +kernel)) (goodIn_sub (fun _ h => List.mem_append_left _ (List.mem_append_left _ (List.mem_append_left _ (List.mem_append_left _ (List.mem_append_left _ (List.mem_append_left _ (List.mem_append_right _ h))))))) (by decide +kernel))
set_option maxRecDepth 20000 in
theorem gL_law_X2_rewind : GoodIn wsL_law (wsV RL 219 RX2 yX2_rewind wsX2_rewind) := goodIn_app (goodIn_of _ (by decide +kernel)) ggL_law_X2_rewind
set_option maxRecDepth 20000 in
theorem ggL_law_L_compact : GoodIn wsL_law wsL_compact := goodIn_ca (goodIn_ca (goodIn_ca (goodIn_r _ [361, 52, 362, 363, 364, 365, 2, 366, 367, 368, 207, 369, 370, 371, 372, 160, 184, 185, 186, 187, 65, 66, 121, 122, 123, 124, 18, 62, 63, 64, 128, 129, 130, 20, 131, 27, 373, 374, 375, 376, 377, 257, 231, 232, 233, 234, 144, 143, 328, 140, 141, 142, 29, 701, 702, 703, 704, 705, 706, 707, 708, 684, 685, 686, 687] (by decide +kernel) (by decide +kernel)) (goodIn_sub (fun _ h => List.mem_append_left _ (List.mem_append_left _ (List.mem_append_left _ (List.mem_append_left _ (List.mem_append_left _ (List.mem_append_left _ (List.mem_append_right _ h))))))) (by decide +kernel))) (goodIn_sub (fun _ h => List.mem_append_left _ (List.mem_append_left _ (List.mem_append_left _ (List.mem_append_left _ (List.mem_append_left _ (List.mem_append_right _ h)))))) (by decide +kernel))) (goodIn_sub (fun _ h => List.mem_append_left _ (List.mem_append_left _ (List.mem_append_right _ h))) (by decide +kernel))
set_option maxRecDepth 20000 in
theorem gL_law_L_compact : GoodIn wsL_law (va_wsS RL 220 yL_compact wsL_compact) := goodIn_app (goodIn_of _ (by decide +kernel)) ggL_law_L_compact
set_option maxRecDepth 20000 in
theorem ggL_law_X2_compact : GoodIn wsL_law wsX2_compact := goodIn_ca (goodIn_r _ [381, 44, 76, 41, 40, 47, 39, 196, 197, 198, 5, 199, 36, 77, 78, 79, 382, 383, 384, 385, 34, 37, 38, 386, 387, 388, 389, 390, 333, 334, 335, 336, 42, 688, 689, 690, 691, 692, 693, 694, 695, 696, 697, 698, 699, 700] (by decide +kernel) (by decide +kernel)) (goodIn_sub (fun _ h => List.mem_append_left _ (List.mem_append_left _ (List.mem_append_left _ (List.mem_append_left _ (List.mem_append_left _ (List.mem_append_left _ (List.mem_append_right _ h))))))) (by decide +kernel))
set_option maxRecDepth 20000 in
theorem gL_law_X2_compact : GoodIn wsL_law (wsV RL 222 RX2 yX2_compact wsX2_compact) := goodIn_app (goodIn_of _ (by decide +kernel)) ggL_law_X2_compact
set_option maxRecDepth 20000 in
theorem ggL_law_L_get : GoodIn wsL_law wsL_get := goodIn_ca (goodIn_ca (goodIn_ca (goodIn_r _ [393, 52, 394, 395, 396, 397, 2, 398, 184, 185, 186, 187, 65, 66, 121, 122, 123, 124, 18, 62, 63, 64, 128, 129, 130, 20, 131, 27, 399, 400, 401, 402, 403, 231, 232, 233, 234, 144, 143, 404, 405, 406, 407, 408, 409, 410, 411, 28, 137, 684, 685, 686, 687, 701, 702, 703, 704, 705, 706, 707, 708] (by decide +kernel) (by decide +kernel)) (goodIn_sub (fun _ h => List.mem_append_left _ (List.mem_append_left _ (List.mem_append_left _ (List.mem_append_left _ (List.mem_append_left _ (List.mem_append_left _ (List.mem_append_right _ h))))))) (by decide +kernel))) (goodIn_sub (fun _ h => List.mem_append_left _ (List.mem_append_left _ (List.mem_append_left _ (List.mem_append_left _ (List.mem_append_left _ (List.mem_append_right _ h)))))) (by decide +kernel))) (goodIn_sub (fun _ h => List.mem_append_left _ (List.mem_append_right _ h)) (by decide +kernel))
set_option maxRecDepth 20000 in
theorem gL_law_L_get : GoodIn wsL_law (va_wsS RL 223 yL_get wsL_get) := goodIn_app (goodIn_of _ (by decide +kernel)) ggL_law_L_get
set_option maxRecDepth 20000 in
theorem ggL_law_X2_get : GoodIn wsL_law wsX2_get := goodIn_ca (goodIn_r _ [415, 40, 41, 76, 196, 197, 198, 5, 199, 36, 77, 78, 79, 382, 383, 384, 385, 34, 37, 38, 688, 689, 690, 691, 692, 693, 694, 695, 696, 697, 698, 699, 700] (by decide +kernel) (by decide +kernel)) (goodIn_sub (fun _ h => List.mem_append_left _ (List.mem_append_left _ (List.mem_append_left _ (List.mem_append_left _ (List.mem_append_left _ (List.mem_append_left _ (List.mem_append_right _ h))))))) (by decide +kernel))
set_option maxRecDepth 20000 in
theorem gL_law_X2_get : GoodIn wsL_law (wsV RL 225 RX2 yX2_get wsX2_get) := goodIn_app (goodIn_of _ (by decide +kernel)) ggL_law_X2_get
set_option maxRecDepth 20000 in
theorem ggL_law_L_put : GoodIn wsL_law wsL_put := goodIn_ca (goodIn_ca (goodIn_ca (goodIn_ca (goodIn_r _ [418, 52, 362, 310, 419, 420, 421, 2, 422, 207, 184, 185, 186, 187, 65, 66, 121, 122, 123, 124, 18, 62, 63, 64, 128, 129, 130, 20, 131, 27, 373, 374, 375, 376, 377, 257, 423, 424, 425, 315, 316, 231, 232, 233, 234, 144, 143, 426, 427, 428, 429, 430, 431, 432, 433, 28, 137, 434, 435, 436, 437, 438, 701, 702, 703, 704, 705, 706, 707, 708, 684, 685, 686, 687] (by decide +kernel) (by decide +kernel)) (goodIn_sub (fun _ h => List.mem_append_left _ (List.mem_append_left _ (List.mem_append_left _ (List.mem_append_left _ (List.mem_append_left _ (List.mem_append_left _ (List.mem_append_right _ h))))))) (by decide +kernel))) (goodIn_sub (fun _ h => List.mem_append_left _ (List.mem_append_left _ (List.mem_append_left _ (List.mem_append_left _ (List.mem_append_left _ (List.mem_append_right _ h)))))) (by decide +kernel))) (goodIn_sub (fun _ h => List.mem_append_left _ (List.mem_append_left _ (List.mem_append_right _ h))) (by decide +kernel))) (goodIn_sub (fun _ h => List.mem_append_left _ (List.mem_append_left _ (List.mem_append_left _ (List.mem_append_right _ h)))) (by decide +kernel))
set_option maxRecDepth 20000 in
theorem gL_law_L_put : GoodIn wsL_law (va_wsS RL 228 yL_put wsL_put) := goodIn_app (goodIn_of _ (by decide +kernel)) ggL_law_L_put
set_option maxRecDepth 20000 in
theorem ggL_law_X2_put : GoodIn wsL_law wsX2_put := goodIn_ca (goodIn_r _ [442, 44, 40, 41, 76, 196, 197, 198, 5, 199, 36, 77, 78, 79, 386, 387, 388, 389, 390, 34, 37, 38, 688, 689, 690, 691, 692, 693, 694, 695, 696, 697, 698, 699, 700] (by decide +kernel) (by decide +kernel)) (goodIn_sub (fun _ h => List.mem_append_left _ (List.mem_append_left _ (List.mem_append_left _ (List.mem_append_left _ (List.mem_append_left _ (List.mem_append_left _ (List.mem_append_right _ h))))))) (by decide +kernel))
set_option maxRecDepth 20000 in
theorem gL_law_X2_put : GoodIn wsL_law (wsV RL 231 RX2 yX2_put wsX2_put) := goodIn_app (goodIn_of _ (by decide +kernel)) ggL_law_X2_put
set_option maxRecDepth 20000 in
theorem ggL_law_L_getAt : GoodIn wsL_law wsL_getAt := goodIn_ca (goodIn_ca (goodIn_r _ [445, 52, 446, 447, 448, 2, 449, 219, 184, 185, 186, 187, 65, 66, 121, 122, 123, 124, 18, 62, 63, 64, 128, 129, 130, 20, 131, 27, 450, 409, 410, 411, 28, 137, 701, 702, 703, 704, 705, 706, 707, 708, 684, 685, 686, 687] (by decide +kernel) (by decide +kernel)) (goodIn_sub (fun _ h => List.mem_append_left _ (List.mem_append_left _ (List.mem_append_left _ (List.mem_append_left _ (List.mem_append_left _ (List.mem_append_left _ (List.mem_append_right _ h))))))) (by decide +kernel))) (goodIn_sub (fun _ h => List.mem_append_left _ (List.mem_append_left _ (List.mem_append_left _ (List.mem_append_left _ (List.mem_append_left _ (List.mem_append_right _ h)))))) (by decide +kernel))
set_option maxRecDepth 20000 in
theorem gL_law_L_getAt : GoodIn wsL_law (va_wsS RL 232 yL_getAt wsL_getAt) := goodIn_app (goodIn_of _ (by decide +kernel)) ggL_law_L_getAt
set_option maxRecDepth 20000 in
theorem ggL_law_X2_getAt : GoodIn wsL_law wsX2_getAt := goodIn_ca (goodIn_r _ [454, 41, 76, 196, 197, 198, 5, 199, 36, 77, 78, 79, 382, 383, 384, 385, 34, 37, 38, 688, 689, 690, 691, 692, 693, 694, 695, 696, 697, 698, 699, 700] (by decide +kernel) (by decide +kernel)) (goodIn_sub (fun _ h => List.mem_append_left _ (List.mem_append_left _ (List.mem_append_left _ (List.mem_append_left _ (List.mem_append_left _ (List.mem_append_left _ (List.mem_append_right _ h))))))) (by decide +kernel))
set_option maxRecDepth 20000 in
theorem gL_law_X2_getAt : GoodIn wsL_law (wsV RL 234 RX2 yX2_getAt wsX2_getAt) := goodIn_app (goodIn_of _ (by decide +kernel)) ggL_law_X2_getAt
set_option maxRecDepth 20000 in
theorem ggL_law_L_putAt : GoodIn wsL_law wsL_putAt := goodIn_ca (goodIn_ca (goodIn_ca (goodIn_r _ [457, 52, 362, 458, 459, 460, 2, 461, 219, 184, 185, 186, 187, 65, 66, 121, 122, 123, 124, 18, 62, 63, 64, 128, 129, 130, 20, 131, 27, 373, 374, 375, 376, 377, 257, 450, 409, 410, 411, 28, 137, 462, 431, 432, 433, 434, 435, 436, 437, 438, 701, 702, 703, 704, 705, 706, 707, 708, 684, 685, 686, 687] (by decide +kernel) (by decide +kernel)) (goodIn_sub (fun _ h => List.mem_append_left _ (List.mem_append_left _ (List.mem_append_left _ (List.mem_append_left _ (List.mem_append_left _ (List.mem_append_left _ (List.mem_append_right _ h))))))) (by decide +kernel))) (goodIn_sub (fun _ h => List.mem_append_left _ (List.mem_append_left _ (List.mem_append_left _ (List.mem_append_left _ (List.mem_append_left _ (List.mem_append_right _ h)))))) (by decide +kernel))) (goodIn_sub (fun _ h => List.mem_append_left _ (List.mem_append_left _ (List.mem_append_right _ h))) (by decide +kernel))
set_option maxRecDepth 20000 in
theorem gL_law_L_putAt : GoodIn wsL_law (va_wsS RL 235 yL_putAt wsL_putAt) := goodIn_app (goodIn_of _ (by decide +kernel)) ggL_law_L_putAt
set_option maxRecDepth 20000 in
theorem ggL_law_X2_putAt : GoodIn wsL_law wsX2_putAt := goodIn_ca (goodIn_r _ [466, 41, 44, 76, 196, 197, 198, 5, 199, 36, 77, 78, 79, 382, 383, 384, 385, 34, 37, 38, 386, 387, 388, 389, 390, 688, 689, 690, 691, 692, 693, 694, 695, 696, 697, 698, 699, 700] (by decide +kernel) (by decide +kernel)) (goodIn_sub (fun _ h => List.mem_append_left _ (List.mem_append_left _ (List.mem_append_left _ (List.mem_append_left _ (List.mem_append_left _ (List.mem_append_left _ (List.mem_append_right _ h))))))) (by decide +kernel))
set_option maxRecDepth 20000 in
theorem gL_law_X2_putAt : GoodIn wsL_law (wsV RL 238 RX2 yX2_putAt wsX2_putAt) := goodIn_app (goodIn_of _ (by decide +kernel)) ggL_law_X2_putAt
set_option maxRecDepth 20000 in
theorem ggL_law_L_fill : GoodIn wsL_law wsL_fill := goodIn_ca (goodIn_ca (goodIn_ca (goodIn_ca (goodIn_ca (goodIn_r _ [469, 52, 53, 362, 310, 470, 471, 472, 2, 473, 207, 184, 185, 186, 187, 65, 66, 121, 122, 123, 124, 18, 62, 63, 64, 128, 129, 130, 20, 131, 27, 474, 475, 476, 70, 71, 373, 374, 375, 376, 377, 257, 423, 424, 425, 315, 316, 231, 232, 233, 234, 144, 143, 426, 427, 428, 429, 430, 431, 432, 433, 28, 137, 434, 435, 436, 437, 438, 701, 702, 703, 704, 705, 706, 707, 708, 684, 685, 686, 687] (by decide +kernel) (by decide +kernel)) (goodIn_sub (fun _ h => List.mem_append_left _ (List.mem_append_left _ (List.mem_append_left _ (List.mem_append_left _ (List.mem_append_left _ (List.mem_append_left _ (List.mem_append_right _ h))))))) (by decide +kernel))) (goodIn_sub (fun _ h => List.mem_append_left _ (List.mem_append_left _ (List.mem_append_left _ (List.mem_append_left _ (List.mem_append_left _ (List.mem_append_right _ h)))))) (by decide +kernel))) (goodIn_sub (fun _ h => List.mem_append_left _ (List.mem_append_left _ (List.mem_append_left _ (List.mem_append_left _ (List.mem_append_right _ h))))) (by decide +kernel))) (goodIn_sub (fun _ h => List.mem_append_left _ (List.mem_append_left _ (List.mem_append_right _ h))) (by decide +kernel))) (goodIn_sub (fun _ h => List.mem_append_left _ (List.mem_append_left _ (List.mem_append_left _ (List.mem_append_right _ h)))) (by decide +kernel))
set_option maxRecDepth 20000 in
theorem gL_law_L_fill : GoodIn wsL_law (va_wsS RL 239 yL_fill wsL_fill) := goodIn_app (goodIn_of _ (by decide +kernel)) ggL_law_L_fill
set_option maxRecDepth 20000 in
theorem ggL_law_X2_fill : GoodIn wsL_law wsX2_fill := goodIn_ca (goodIn_r _ [480, 44, 41, 40, 76, 196, 197, 198, 5, 199, 36, 77, 78, 79, 386, 387, 388, 389, 390, 34, 37, 38, 688, 689, 690, 691, 692, 693, 694, 695, 696, 697, 698, 699, 700] (by decide +kernel) (by decide +kernel)) (goodIn_sub (fun _ h => List.mem_append_left _ (List.mem_append_left _ (List.mem_append_left _ (List.mem_append_left _ (List.mem_append_left _ (List.mem_append_left _ (List.mem_append_right _ h))))))) (by decide +kernel))
set_option maxRecDepth 20000 in
theorem gL_law_X2_fill : GoodIn wsL_law (wsV RL 242 RX2 yX2_fill wsX2_fill) := goodIn_app (goodIn_of _ (by decide +kernel)) ggL_law_X2_fill
set_option maxRecDepth 20000 in
theorem ggL_law_L_pour : GoodIn wsL_law wsL_pour := goodIn_ca (goodIn_ca (goodIn_ca (goodIn_ca (goodIn_ca (goodIn_ca (goodIn_r _ [483, 52, 53, 362, 394, 310, 484, 485, 486, 2, 487, 70, 71, 207, 184, 185, 186, 187, 65, 66, 121, 122, 123, 124, 18, 62, 63, 64, 128, 129, 130, 20, 131, 27, 474, 475, 476, 373, 374, 375, 376, 377, 257, 399, 400, 401, 402, 403, 231, 232, 233, 234, 144, 143, 423, 424, 425, 315, 316, 404, 405, 406, 407, 408, 409, 410, 411, 28, 137, 426, 427, 428, 429, 430, 431, 432, 433, 434, 435, 436, 437, 438, 701, 702, 703, 704, 705, 706, 707, 708, 684, 685, 686, 687] (by decide +kernel) (by decide +kernel)) (goodIn_sub (fun _ h => List.mem_append_left _ (List.mem_append_left _ (List.mem_append_left _ (List.mem_append_left _ (List.mem_append_left _ (List.mem_append_left _ (List.mem_append_right _ h))))))) (by decide +kernel))) (goodIn_sub (fun _ h => List.mem_append_left _ (List.mem_append_left _ (List.mem_append_left _ (List.mem_append_left _ (List.mem_append_right _ h))))) (by decide +kernel))) (goodIn_sub (fun _ h => List.mem_append_left _ (List.mem_append_left _ (List.mem_append_left _ (List.mem_append_left _ (List.mem_append_left _ (List.mem_append_right _ h)))))) (by decide +kernel))) (goodIn_sub (fun _ h => List.mem_append_left _ (List.mem_append_left _ (List.mem_append_right _ h))) (by decide +kernel))) (goodIn_sub (fun _ h => List.mem_append_left _ (List.mem_append_right _ h)) (by decide +kernel))) (goodIn_sub (fun _ h => List.mem_append_left _ (List.mem_append_left _ (List.mem_append_left _ (List.mem_append_right _ h)))) (by decide +kernel))
set_option maxRecDepth 20000 in
theorem gL_law_L_pour : GoodIn wsL_law (va_wsS RL 243 yL_pour wsL_pour) := goodIn_app (goodIn_of _ (by decide +kernel)) ggL_law_L_pour
set_option maxRecDepth 20000 in
theorem ggL_law_X2_pour : GoodIn wsL_law wsX2_pour := goodIn_ca (goodIn_r _ [491, 44, 41, 40, 76, 196, 197, 198, 5, 199, 36, 77, 78, 79, 382, 383, 384, 385, 34, 37, 38, 386, 387, 388, 389, 390, 688, 689, 690, 691, 692, 693, 694, 695, 696, 697, 698, 699, 700] (by decide +kernel) (by decide +kernel)) (goodIn_sub (fun _ h => List.mem_append_left _ (List.mem_append_left _ (List.mem_append_left _ (List.mem_append_left _ (List.mem_append_left _ (List.mem_append_left _ (List.mem_append_right _ h))))))) (by decide +kernel))
set_option maxRecDepth 20000 in
theorem gL_law_X2_pour : GoodIn wsL_law (wsV RL 245 RX2 yX2_pour wsX2_pour) := goodIn_app (goodIn_of _ (by decide +kernel)) ggL_law_X2_pour
set_option maxRecDepth 20000 in
theorem ggL_law_L_slice : GoodIn wsL_law wsL_slice := goodIn_ca (goodIn_ca (goodIn_r _ [494, 52, 495, 496, 497, 2, 498, 207, 160, 184, 185, 186, 187, 65, 66, 121, 122, 123, 124, 18, 62, 63, 64, 128, 129, 130, 20, 131, 27, 231, 232, 233, 234, 144, 143, 499, 500, 501, 502, 136, 28, 137, 138, 139, 140, 141, 142, 29, 701, 702, 703, 704, 705, 706, 707, 708, 684, 685, 686, 687] (by decide +kernel) (by decide +kernel)) (goodIn_sub (fun _ h => List.mem_append_left _ (List.mem_append_left _ (List.mem_append_left _ (List.mem_append_left _ (List.mem_append_left _ (List.mem_append_left _ (List.mem_append_right _ h))))))) (by decide +kernel))) (goodIn_sub (fun _ h => List.mem_append_left _ (List.mem_append_left _ (List.mem_append_left _ (List.mem_append_left _ (List.mem_append_left _ (List.mem_append_right _ h)))))) (by decide +kernel))
set_option maxRecDepth 20000 in
theorem gL_law_L_slice : GoodIn wsL_law (va_wsS RL 246 yL_slice wsL_slice) := goodIn_app (goodIn_of _ (by decide +kernel)) ggL_law_L_slice
set_option maxRecDepth 20000 in
theorem ggL_law_X2_slice : GoodIn wsL_law wsX2_slice := goodIn_ca (goodIn_r _ [506, 76, 36, 37, 38, 40, 41, 44, 39, 196, 197, 198, 5, 199, 77, 78, 79, 149, 150, 151, 152, 42, 688, 689, 690, 691, 692, 693, 694, 695, 696, 697, 698, 699, 700] (by decide +kernel) (by decide +kernel)) (goodIn_sub (fun _ h => List.mem_append_left _ (List.mem_append_left _ (List.mem_append_left _ (List.mem_append_left _ (List.mem_append_left _ (List.mem_append_left _ (List.mem_append_right _ h))))))) (by decide +kernel))
set_option maxRecDepth 20000 in
theorem gL_law_X2_slice : GoodIn wsL_law (wsV RL 248 RX2 yX2_slice wsX2_slice) := goodIn_app (goodIn_of _ (by decide +kernel)) ggL_law_X2_slice
set_option maxRecDepth 20000 in
theorem ggL_law_L_sliceAt : GoodIn wsL_law wsL_sliceAt := goodIn_ca (goodIn_ca (goodIn_r _ [509, 52, 510, 511, 512, 2, 513, 219, 160, 184, 185, 186, 187, 65, 66, 121, 122, 123, 124, 18, 62, 63, 64, 128, 129, 130, 20, 131, 27, 514, 515, 516, 499, 500, 501, 502, 136, 28, 137, 138, 139, 140, 141, 142, 143, 144, 29, 701, 702, 703, 704, 705, 706, 707, 708, 684, 685, 686, 687] (by decide +kernel) (by decide +kernel)) (goodIn_sub (fun _ h => List.mem_append_left _ (List.mem_append_left _ (List.mem_append_left _ (List.mem_append_left _ (List.mem_append_left _ (List.mem_append_left _ (List.mem_append_right _ h))))))) (by decide +kernel))) (goodIn_sub (fun _ h => List.mem_append_left _ (List.mem_append_left _ (List.mem_append_left _ (List.mem_append_left _ (List.mem_append_left _ (List.mem_append_right _ h)))))) (by decide +kernel))
set_option maxRecDepth 20000 in
theorem gL_law_L_sliceAt : GoodIn wsL_law (va_wsS RL 249 yL_sliceAt wsL_sliceAt) := goodIn_app (goodIn_of _ (by decide +kernel)) ggL_law_L_sliceAt
set_option maxRecDepth 20000 in
theorem ggL_law_X2_sliceAt : GoodIn wsL_law wsX2_sliceAt := goodIn_ca (goodIn_r _ [520, 41, 76, 36, 37, 38, 44, 196, 197, 198, 5, 199, 77, 78, 79, 149, 150, 151, 152, 39, 40, 42, 688, 689, 690, 691, 692, 693, 694, 695, 696, 697, 698, 699, 700] (by decide +kernel) (by decide +kernel)) (goodIn_sub (fun _ h => List.mem_append_left _ (List.mem_append_left _ (List.mem_append_left _ (List.mem_append_left _ (List.mem_append_left _ (List.mem_append_left _ (List.mem_append_right _ h))))))) (by decide +kernel))
set_option maxRecDepth 20000 in
theorem gL_law_X2_sliceAt : GoodIn wsL_law (wsV RL 252 RX2 yX2_sliceAt wsX2_sliceAt) := goodIn_app (goodIn_of _ (by decide +kernel)) ggL_law_X2_sliceAt
set_option maxRecDepth 20000 in
theorem ggL_law_L_duplicate : GoodIn wsL_law wsL_duplicate := goodIn_ca (goodIn_ca (goodIn_r _ [523, 52, 524, 525, 526, 2, 527, 184, 185, 186, 187, 65, 66, 121, 122, 123, 124, 18, 62, 63, 64, 128, 129, 130, 20, 131, 27, 528, 529, 530, 531, 136, 28, 137, 138, 143, 144, 29, 231, 232, 233, 234, 684, 685, 686, 687, 701, 702, 703, 704, 705, 706, 707, 708] (by decide +kernel) (by decide +kernel)) (goodIn_sub (fun _ h => List.mem_append_left _ (List.mem_append_left _ (List.mem_append_left _ (List.mem_append_left _ (List.mem_append_left _ (List.mem_append_left _ (List.mem_append_right _ h))))))) (by decide +kernel))) (goodIn_sub (fun _ h => List.mem_append_left _ (List.mem_append_left _ (List.mem_append_left _ (List.mem_append_left _ (List.mem_append_left _ (List.mem_append_right _ h)))))) (by decide +kernel))
set_option maxRecDepth 20000 in
theorem gL_law_L_duplicate : GoodIn wsL_law (va_wsS RL 253 yL_duplicate wsL_duplicate) := goodIn_app (goodIn_of _ (by decide +kernel)) ggL_law_L_duplicate
set_option maxRecDepth 20000 in
theorem ggL_law_X2_duplicate : GoodIn wsL_law wsX2_duplicate := goodIn_ca (goodIn_r _ [535, 536, 537, 538, 5, 539, 76, 40, 41, 42, 36, 37, 38, 39, 44, 196, 197, 198, 199, 77, 78, 79, 149, 150, 151, 152, 688, 689, 690, 691, 692, 693, 694, 695, 696, 697, 698, 699, 700] (by decide +kernel) (by decide +kernel)) (goodIn_sub (fun _ h => List.mem_append_left _ (List.mem_append_left _ (List.mem_append_left _ (List.mem_append_left _ (List.mem_append_left _ (List.mem_append_left _ (List.mem_append_right _ h))))))) (by decide +kernel))
set_option maxRecDepth 20000 in
theorem gL_law_X2_duplicate : GoodIn wsL_law (wsV RL 255 RX2 yX2_duplicate wsX2_duplicate) := goodIn_app (goodIn_of _ (by decide +kernel)) ggL_law_X2_duplicate
set_option maxRecDepth 20000 in
theorem ggL_law_L_readOnly : GoodIn wsL_law wsL_readOnly := goodIn_ca (goodIn_ca (goodIn_r _ [542, 52, 543, 544, 545, 2, 546, 257, 184, 185, 186, 187, 65, 66, 121, 122, 123, 124, 18, 62, 63, 64, 128, 129, 130, 20, 131, 27, 528, 529, 530, 531, 136, 28, 137, 138, 143, 144, 29, 231, 232, 233, 234, 701, 702, 703, 704, 705, 706, 707, 708, 684, 685, 686, 687] (by decide +kernel) (by decide +kernel)) (goodIn_sub (fun _ h => List.mem_append_left _ (List.mem_append_left _ (List.mem_append_left _ (List.mem_append_left _ (List.mem_append_left _ (List.mem_append_left _ (List.mem_append_right _ h))))))) (by decide +kernel))) (goodIn_sub (fun _ h => List.mem_append_left _ (List.mem_append_left _ (List.mem_append_left _ (List.mem_append_left _ (List.mem_append_left _ (List.mem_append_right _ h)))))) (by decide +kernel))
set_option maxRecDepth 20000 in
theorem gL_law_L_readOnly : GoodIn wsL_law (va_wsS RL 256 yL_readOnly wsL_readOnly) := goodIn_app (goodIn_of _ (by decide +kernel)) ggL_law_L_readOnly
set_option maxRecDepth 20000 in
theorem ggL_law_X2_readOnly : GoodIn wsL_law wsX2_readOnly := goodIn_ca (goodIn_r _ [550, 536, 537, 538, 5, 539, 76, 40, 41, 42, 36, 37, 38, 39, 44, 196, 197, 198, 199, 77, 78, 79, 149, 150, 151, 152, 688, 689, 690, 691, 692, 693, 694, 695, 696, 697, 698, 699, 700] (by decide +kernel) (by decide +kernel)) (goodIn_sub (fun _ h => List.mem_append_left _ (List.mem_append_left _ (List.mem_append_left _ (List.mem_append_left _ (List.mem_append_left _ (List.mem_append_left _ (List.mem_append_right _ h))))))) (by decide +kernel))
set_option maxRecDepth 20000 in
theorem gL_law_X2_readOnly : GoodIn wsL_law (wsV RL 258 RX2 yX2_readOnly wsX2_readOnly) := goodIn_app (goodIn_of _ (by decide +kernel)) ggL_law_X2_readOnly
set_option maxRecDepth 20000 in
theorem ggL_law_L_signAt : GoodIn wsL_law wsL_signAt := goodIn_ca (goodIn_ca (goodIn_ca (goodIn_ca (goodIn_r _ [553, 52, 362, 394, 554, 555, 556, 2, 557, 402, 403, 207, 184, 185, 186, 187, 65, 66, 121, 122, 123, 124, 18, 62, 63, 64, 128, 129, 130, 20, 131, 27, 558, 559, 560, 376, 377, 172, 231, 232, 233, 234, 144, 143, 450, 409, 410, 411, 28, 137, 701, 702, 703, 704, 705, 706, 707, 708, 684, 685, 686, 687] (by decide +kernel) (by decide +kernel)) (goodIn_sub (fun _ h => List.mem_append_left _ (List.mem_append_left _ (List.mem_append_left _ (List.mem_append_left _ (List.mem_append_left _ (List.mem_append_left _ (List.mem_append_right _ h))))))) (by decide +kernel))) (goodIn_sub (fun _ h => List.mem_append_left _ (List.mem_append_right _ h)) (by decide +kernel))) (goodIn_sub (fun _ h => List.mem_append_left _ (List.mem_append_left _ (List.mem_append_left _ (List.mem_append_left _ (List.mem_append_left _ (List.mem_append_right _ h)))))) (by decide +kernel))) (goodIn_sub (fun _ h => List.mem_append_left _ (List.mem_append_left _ (List.mem_append_right _ h))) (by decide +kernel))
set_option maxRecDepth 20000 in
theorem gL_law_L_signAt : GoodIn wsL_law (va_wsS RL 259 yL_signAt wsL_signAt) := goodIn_app (goodIn_of _ (by decide +kernel)) ggL_law_L_signAt
set_option maxRecDepth 20000 in
theorem ggL_law_X2_signAt : GoodIn wsL_law wsX2_signAt := goodIn_ca (goodIn_r _ [564, 36, 41, 40, 76, 196, 197, 198, 5, 199, 77, 78, 79, 382, 383, 384, 385, 34, 37, 38, 688, 689, 690, 691, 692, 693, 694, 695, 696, 697, 698, 699, 700] (by decide +kernel) (by decide +kernel)) (goodIn_sub (fun _ h => List.mem_append_left _ (List.mem_append_left _ (List.mem_append_left _ (List.mem_append_left _ (List.mem_append_left _ (List.mem_append_left _ (List.mem_append_right _ h))))))) (by decide +kernel))
set_option maxRecDepth 20000 in
theorem gL_law_X2_signAt : GoodIn wsL_law (wsV RL 261 RX2 yX2_signAt wsX2_signAt) := goodIn_app (goodIn_of _ (by decide +kernel)) ggL_law_X2_signAt
set_option maxRecDepth 20000 in
theorem ggL_law_L_signsLeft : GoodIn wsL_law wsL_signsLeft := goodIn_ca (goodIn_ca (goodIn_ca (goodIn_r _ [567, 52, 362, 568, 569, 570, 2, 571, 184, 185, 186, 187, 65, 66, 121, 122, 123, 124, 18, 62, 63, 64, 128, 129, 130, 20, 131, 27, 558, 559, 560, 376, 377, 172, 231, 232, 233, 234, 144, 143, 684, 685, 686, 687, 701, 702, 703, 704, 705, 706, 707, 708] (by decide +kernel) (by decide +kernel)) (goodIn_sub (fun _ h => List.mem_append_left _ (List.mem_append_left _ (List.mem_append_left _ (List.mem_append_left _ (List.mem_append_left _ (List.mem_append_left _ (List.mem_append_right _ h))))))) (by decide +kernel))) (goodIn_sub (fun _ h => List.mem_append_left _ (List.mem_append_left _ (List.mem_append_left _ (List.mem_append_left _ (List.mem_append_left _ (List.mem_append_right _ h)))))) (by decide +kernel))) (goodIn_sub (fun _ h => List.mem_append_left _ (List.mem_append_left _ (List.mem_append_right _ h))) (by decide +kernel))
set_option maxRecDepth 20000 in
theorem gL_law_L_signsLeft : GoodIn wsL_law (va_wsS RL 262 yL_signsLeft wsL_signsLeft) := goodIn_app (goodIn_of _ (by decide +kernel)) ggL_law_L_signsLeft
set_option maxRecDepth 20000 in
theorem ggL_law_X2_signsLeft : GoodIn wsL_law wsX2_signsLeft := goodIn_ca (goodIn_r _ [575, 36, 76, 41, 40, 196, 197, 198, 5, 199, 77, 78, 79, 688, 689, 690, 691, 692, 693, 694, 695, 696, 697, 698, 699, 700] (by decide +kernel) (by decide +kernel)) (goodIn_sub (fun _ h => List.mem_append_left _ (List.mem_append_left _ (List.mem_append_left _ (List.mem_append_left _ (List.mem_append_left _ (List.mem_append_left _ (List.mem_append_right _ h))))))) (by decide +kernel))
set_option maxRecDepth 20000 in
theorem gL_law_X2_signsLeft : GoodIn wsL_law (wsV RL 264 RX2 yX2_signsLeft wsX2_signsLeft) := goodIn_app (goodIn_of _ (by decide +kernel)) ggL_law_X2_signsLeft
set_option maxRecDepth 20000 in
theorem ggL_law_L_append : GoodIn wsL_law wsL_append := goodIn_ca (goodIn_ca (goodIn_ca (goodIn_ca (goodIn_r _ [578, 52, 362, 310, 579, 580, 581, 2, 582, 207, 184, 185, 186, 187, 65, 66, 121, 122, 123, 124, 18, 62, 63, 64, 128, 129, 130, 20, 131, 27, 558, 559, 560, 376, 377, 172, 373, 374, 375, 257, 423, 424, 425, 315, 316, 231, 232, 233, 234, 144, 143, 426, 427, 428, 429, 430, 431, 432, 433, 28, 137, 434, 435, 436, 437, 438, 701, 702, 703, 704, 705, 706, 707, 708, 684, 685, 686, 687] (by decide +kernel) (by decide +kernel)) (goodIn_sub (fun _ h => List.mem_append_left _ (List.mem_append_left _ (List.mem_append_left _ (List.mem_append_left _ (List.mem_append_left _ (List.mem_append_left _ (List.mem_append_right _ h))))))) (by decide +kernel))) (goodIn_sub (fun _ h => List.mem_append_left _ (List.mem_append_left _ (List.mem_append_left _ (List.mem_append_left _ (List.mem_append_left _ (List.mem_append_right _ h)))))) (by decide +kernel))) (goodIn_sub (fun _ h => List.mem_append_left _ (List.mem_append_left _ (List.mem_append_right _ h))) (by decide +kernel))) (goodIn_sub (fun _ h => List.mem_append_left _ (List.mem_append_left _ (List.mem_append_left _ (List.mem_append_right _ h)))) (by decide +kernel))
set_option maxRecDepth 20000 in
theorem gL_law_L_append : GoodIn wsL_law (va_wsS RL 265 yL_append wsL_append) := goodIn_app (goodIn_of _ (by decide +kernel)) ggL_law_L_append
set_option maxRecDepth 20000 in
theorem ggL_law_X2_append : GoodIn wsL_law wsX2_append := goodIn_ca (goodIn_r _ [586, 36, 44, 40, 41, 76, 196, 197, 198, 5, 199, 77, 78, 79, 386, 387, 388, 389, 390, 34, 37, 38, 688, 689, 690, 691, 692, 693, 694, 695, 696, 697, 698, 699, 700] (by decide +kernel) (by decide +kernel)) (goodIn_sub (fun _ h => List.mem_append_left _ (List.mem_append_left _ (List.mem_append_left _ (List.mem_append_left _ (List.mem_append_left _ (List.mem_append_left _ (List.mem_append_right _ h))))))) (by decide +kernel))
set_option maxRecDepth 20000 in
theorem gL_law_X2_append : GoodIn wsL_law (wsV RL 268 RX2 yX2_append wsX2_append) := goodIn_app (goodIn_of _ (by decide +kernel)) ggL_law_X2_append
set_option maxRecDepth 20000 in
theorem ggL_law_L_text : GoodIn wsL_law wsL_text := goodIn_ca (goodIn_ca (goodIn_ca (goodIn_r _ [589, 52, 362, 590, 591, 592, 2, 593, 594, 207, 184, 185, 186, 187, 65, 66, 121, 122, 123, 124, 18, 62, 63, 64, 128, 129, 130, 20, 131, 27, 558, 559, 560, 376, 377, 172, 595, 596, 597, 598, 144, 408, 409, 410, 411, 28, 137, 599, 600, 601, 701, 702, 703, 704, 705, 706, 707, 708, 684, 685, 686, 687] (by decide +kernel) (by decide +kernel)) (goodIn_sub (fun _ h => List.mem_append_left _ (List.mem_append_left _ (List.mem_append_left _ (List.mem_append_left _ (List.mem_append_left _ (List.mem_append_left _ (List.mem_append_right _ h))))))) (by decide +kernel))) (goodIn_sub (fun _ h => List.mem_append_left _ (List.mem_append_left _ (List.mem_append_left _ (List.mem_append_left _ (List.mem_append_left _ (List.mem_append_right _ h)))))) (by decide +kernel))) (goodIn_sub (fun _ h => List.mem_append_left _ (List.mem_append_left _ (List.mem_append_right _ h))) (by decide +kernel))
set_option maxRecDepth 20000 in
theorem gL_law_L_text : GoodIn wsL_law (va_wsS RL 269 yL_text wsL_text) := goodIn_app (goodIn_of _ (by decide +kernel)) ggL_law_L_text
set_option maxRecDepth 20000 in
theorem ggL_law_X2_text : GoodIn wsL_law wsX2_text := goodIn_ca (goodIn_r _ [605, 36, 76, 606, 40, 41, 607, 196, 197, 198, 5, 199, 77, 78, 79, 382, 383, 384, 385, 34, 37, 38, 688, 689, 690, 691, 692, 693, 694, 695, 696, 697, 698, 699, 700] (by decide +kernel) (by decide +kernel)) (goodIn_sub (fun _ h => List.mem_append_left _ (List.mem_append_left _ (List.mem_append_left _ (List.mem_append_left _ (List.mem_append_left _ (List.mem_append_left _ (List.mem_append_right _ h))))))) (by decide +kernel))
set_option maxRecDepth 20000 in
theorem gL_law_X2_text : GoodIn wsL_law (wsV RL 271 RX2 yX2_text wsX2_text) := goodIn_app (goodIn_of _ (by decide +kernel)) ggL_law_X2_text
set_option maxRecDepth 20000 in
theorem ggL_law_L_isAlike : GoodIn wsL_law wsL_isAlike := goodIn_ca (goodIn_ca (goodIn_r _ [610, 52, 611, 612, 613, 2, 614, 207, 184, 185, 186, 187, 65, 66, 121, 122, 123, 124, 18, 62, 63, 64, 128, 129, 130, 20, 131, 27, 231, 232, 233, 234, 144, 143, 450, 409, 410, 411, 28, 137, 701, 702, 703, 704, 705, 706, 707, 708, 684, 685, 686, 687] (by decide +kernel) (by decide +kernel)) (goodIn_sub (fun _ h => List.mem_append_left _ (List.mem_append_left _ (List.mem_append_left _ (List.mem_append_left _ (List.mem_append_left _ (List.mem_append_left _ (List.mem_append_right _ h))))))) (by decide +kernel))) (goodIn_sub (fun _ h => List.mem_append_left _ (List.mem_append_left _ (List.mem_append_left _ (List.mem_append_left _ (List.mem_append_left _ (List.mem_append_right _ h)))))) (by decide +kernel))
set_option maxRecDepth 20000 in
theorem gL_law_L_isAlike : GoodIn wsL_law (va_wsS RL 272 yL_isAlike wsL_isAlike) := goodIn_app (goodIn_of _ (by decide +kernel)) ggL_law_L_isAlike
set_option maxRecDepth 20000 in
theorem ggL_law_X2_isAlike : GoodIn wsL_law wsX2_isAlike := goodIn_ca (goodIn_r _ [618, 76, 41, 40, 196, 197, 198, 5, 199, 36, 77, 78, 79, 382, 383, 384, 385, 34, 37, 38, 688, 689, 690, 691, 692, 693, 694, 695, 696, 697, 698, 699, 700] (by decide +kernel) (by decide +kernel)) (goodIn_sub (fun _ h => List.mem_append_left _ (List.mem_append_left _ (List.mem_append_left _ (List.mem_append_left _ (List.mem_append_left _ (List.mem_append_left _ (List.mem_append_right _ h))))))) (by decide +kernel))
set_option maxRecDepth 20000 in
theorem gL_law_X2_isAlike : GoodIn wsL_law (wsV RL 274 RX2 yX2_isAlike wsX2_isAlike) := goodIn_app (goodIn_of _ (by decide +kernel)) ggL_law_X2_isAlike
set_option maxRecDepth 20000 in
theorem ggL_law_L_fullShare : GoodIn wsL_law wsL_fullShare := goodIn_ca (goodIn_ca (goodIn_ca (goodIn_r _ [621, 52, 622, 623, 624, 625, 2, 626, 627, 628, 160, 207, 184, 185, 186, 187, 65, 66, 121, 122, 123, 124, 18, 62, 63, 64, 128, 129, 130, 20, 131, 27, 701, 702, 703, 704, 705, 706, 707, 708, 684, 685, 686, 687] (by decide +kernel) (by decide +kernel)) (goodIn_sub (fun _ h => List.mem_append_left _ (List.mem_append_left _ (List.mem_append_left _ (List.mem_append_left _ (List.mem_append_left _ (List.mem_append_left _ (List.mem_append_right _ h))))))) (by decide +kernel))) (goodIn_sub (fun _ h => List.mem_append_right _ h) (by decide +kernel))) (goodIn_sub (fun _ h => List.mem_append_left _ (List.mem_append_left _ (List.mem_append_left _ (List.mem_append_left _ (List.mem_append_left _ (List.mem_append_right _ h)))))) (by decide +kernel))
set_option maxRecDepth 20000 in
theorem gL_law_L_fullShare : GoodIn wsL_law (va_wsS RL 275 yL_fullShare wsL_fullShare) := goodIn_app (goodIn_of _ (by decide +kernel)) ggL_law_L_fullShare
set_option maxRecDepth 20000 in
theorem ggL_law_X2_fullShare : GoodIn wsL_law wsX2_fullShare := goodIn_ca (goodIn_r _ [632, 39, 76, 40, 196, 197, 198, 5, 199, 36, 77, 78, 79, 688, 689, 690, 691, 692, 693, 694, 695, 696, 697, 698, 699, 700] (by decide +kernel) (by decide +kernel)) (goodIn_sub (fun _ h => List.mem_append_left _ (List.mem_append_left _ (List.mem_append_left _ (List.mem_append_left _ (List.mem_append_left _ (List.mem_append_left _ (List.mem_append_right _ h))))))) (by decide +kernel))
set_option maxRecDepth 20000 in
theorem gL_law_X2_fullShare : GoodIn wsL_law (wsV RL 278 RX2 yX2_fullShare wsX2_fullShare) := goodIn_app (goodIn_of _ (by decide +kernel)) ggL_law_X2_fullShare
set_option maxRecDepth 20000 in
theorem ggL_law_L_meanLeft : GoodIn wsL_law wsL_meanLeft := goodIn_ca (goodIn_ca (goodIn_r _ [635, 622, 636, 637, 638, 2, 639, 627, 628, 18, 128, 129, 130, 20, 131, 27, 231, 232, 233, 234, 144, 143, 684, 685, 686, 687, 701, 702, 703, 704, 705, 706, 707, 708] (by decide +kernel) (by decide +kernel)) (goodIn_sub (fun _ h => List.mem_append_left _ (List.mem_append_left _ (List.mem_append_left _ (List.mem_append_left _ (List.mem_append_left _ (List.mem_append_left _ (List.mem_append_right _ h))))))) (by decide +kernel))) (goodIn_sub (fun _ h => List.mem_append_right _ h) (by decide +kernel))
set_option maxRecDepth 20000 in
theorem gL_law_L_meanLeft : GoodIn wsL_law (va_wsS RL 279 yL_meanLeft wsL_meanLeft) := goodIn_app (goodIn_of _ (by decide +kernel)) ggL_law_L_meanLeft
set_option maxRecDepth 20000 in
theorem ggL_law_X2_meanLeft : GoodIn wsL_law wsX2_meanLeft := goodIn_ca (goodIn_r _ [643, 41, 40, 76, 196, 197, 198, 5, 199, 36, 77, 78, 79, 688, 689, 690, 691, 692, 693, 694, 695, 696, 697, 698, 699, 700] (by decide +kernel) (by decide +kernel)) (goodIn_sub (fun _ h => List.mem_append_left _ (List.mem_append_left _ (List.mem_append_left _ (List.mem_append_left _ (List.mem_append_left _ (List.mem_append_left _ (List.mem_append_right _ h))))))) (by decide +kernel))
set_option maxRecDepth 20000 in
theorem gL_law_X2_meanLeft : GoodIn wsL_law (wsV RL 282 RX2 yX2_meanLeft wsX2_meanLeft) := goodIn_app (goodIn_of _ (by decide +kernel)) ggL_law_X2_meanLeft
set_option maxRecDepth 20000 in
theorem ggL_law_X1_checksum : GoodIn wsL_law wsX1_checksum := goodIn_ca (goodIn_r _ [647, 594, 18, 16, 648, 649, 650, 20, 651, 27, 143, 144, 138, 599, 2, 600, 601, 652, 129, 130, 131, 653, 596, 597, 598, 408, 409, 410, 411, 28, 137, 654, 655, 656, 657, 684, 685, 686, 687, 701, 702, 703, 704, 705, 706, 707, 708] (by decide +kernel) (by decide +kernel)) (goodIn_sub (fun _ h => List.mem_append_left _ (List.mem_append_left _ (List.mem_append_left _ (List.mem_append_left _ (List.mem_append_left _ (List.mem_append_left _ (List.mem_append_right _ h))))))) (by decide +kernel))
set_option maxRecDepth 20000 in
theorem gL_law_X1_checksum : GoodIn wsL_law (wsV RL 283 RX1 yX1_checksum wsX1_checksum) := goodIn_app (goodIn_of _ (by decide +kernel)) ggL_law_X1_checksum
set_option maxRecDepth 20000 in
theorem ggL_law_X2_checksum : GoodIn wsL_law wsX2_checksum := goodIn_ca (goodIn_r _ [661, 76, 606, 607, 36, 40, 41, 39, 46, 34, 45, 382, 383, 384, 5, 385, 37, 38, 688, 689, 690, 691, 692, 693, 694, 695, 696, 697, 698, 699, 700] (by decide +kernel) (by decide +kernel)) (goodIn_sub (fun _ h => List.mem_append_left _ (List.mem_append_left _ (List.mem_append_left _ (List.mem_append_left _ (List.mem_append_left _ (List.mem_append_left _ (List.mem_append_right _ h))))))) (by decide +kernel))
set_option maxRecDepth 20000 in
theorem gL_law_X2_checksum : GoodIn wsL_law (wsV RL 287 RX2 yX2_checksum wsX2_checksum) := goodIn_app (goodIn_of _ (by decide +kernel)) ggL_law_X2_checksum
set_option maxRecDepth 20000 in
theorem ggL_law_X1_isTrue : GoodIn wsL_law wsX1_isTrue := goodIn_ca (goodIn_r _ [665, 18, 128, 129, 130, 20, 131, 27, 666, 667, 668, 2, 669, 257, 21, 207, 22, 670, 671, 672, 673, 143, 144, 138, 137, 28, 231, 232, 233, 234, 499, 500, 501, 502, 136, 139, 140, 141, 142, 29, 528, 529, 530, 531, 674, 675, 676, 677, 678, 450, 409, 410, 411, 679, 435, 436, 437, 438, 462, 431, 432, 433, 434, 684, 685, 686, 687, 701, 702, 703, 704, 705, 706, 707, 708] (by decide +kernel) (by decide +kernel)) (goodIn_sub (fun _ h => List.mem_append_left _ (List.mem_append_left _ (List.mem_append_left _ (List.mem_append_left _ (List.mem_append_left _ (List.mem_append_left _ (List.mem_append_right _ h))))))) (by decide +kernel))
set_option maxRecDepth 20000 in
theorem gL_law_X1_isTrue : GoodIn wsL_law (wsV RL 288 RX1 yX1_isTrue wsX1_isTrue) := goodIn_app (goodIn_of _ (by decide +kernel)) ggL_law_X1_isTrue
set_option maxRecDepth 20000 in
theorem ggL_law_X2_isTrue : GoodIn wsL_law wsX2_isTrue := goodIn_r _ [683, 76, 688, 689, 690, 691, 692, 693, 694, 695, 696, 697, 698, 699, 700] (by decide +kernel) (by decide +kernel)
set_option maxRecDepth 20000 in
theorem gL_law_X2_isTrue : GoodIn wsL_law (wsV RL 292 RX2 yX2_isTrue wsX2_isTrue) := goodIn_app (goodIn_of _ (by decide +kernel)) ggL_law_X2_isTrue
