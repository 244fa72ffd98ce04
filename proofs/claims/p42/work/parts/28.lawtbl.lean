set_option maxRecDepth 20000 in
theorem tg_wsL_init_1 : GoodIn lw_tbl wsL_init_r1 := goodIn_sub (by decide +kernel) (by decide +kernel)
set_option maxRecDepth 20000 in
theorem tg_wsL_init_2 : GoodIn lw_tbl wsL_init_r2 := goodIn_sub (by decide +kernel) (by decide +kernel)
set_option maxRecDepth 20000 in
theorem tg_wsL_init_3 : GoodIn lw_tbl wsX10 := goodIn_sub (by decide +kernel) (by decide +kernel)
set_option maxRecDepth 20000 in
theorem tg_wsL_init_4 : GoodIn lw_tbl wsL0 := goodIn_sub (by decide +kernel) (by decide +kernel)
set_option maxRecDepth 20000 in
theorem tg_wsL_init_5 : GoodIn lw_tbl wsX00 := goodIn_sub (by decide +kernel) (by decide +kernel)
set_option maxRecDepth 20000 in
theorem tg_wsL_init_c : GoodIn lw_tbl [.code yL_init cL_init 1 none] := goodIn_sub (by decide +kernel) (by decide +kernel)
set_option maxRecDepth 20000 in
theorem tg_wsL_init : GoodIn lw_tbl wsL_init := goodIn_app tg_wsL_init_c (goodIn_app (goodIn_app (goodIn_app (goodIn_app tg_wsL_init_1 tg_wsL_init_2) tg_wsL_init_3) tg_wsL_init_4) tg_wsL_init_5)
set_option maxRecDepth 20000 in
theorem tg_wsL_holdsAll_1 : GoodIn lw_tbl wsL_holdsAll_r1 := goodIn_sub (by decide +kernel) (by decide +kernel)
set_option maxRecDepth 20000 in
theorem tg_wsL_holdsAll_2 : GoodIn lw_tbl wsL_holdsAll_r2 := goodIn_sub (by decide +kernel) (by decide +kernel)
set_option maxRecDepth 20000 in
theorem tg_wsL_holdsAll_3 : GoodIn lw_tbl wsL_holdsAll_r3 := goodIn_sub (by decide +kernel) (by decide +kernel)
set_option maxRecDepth 20000 in
theorem tg_wsL_holdsAll_4 : GoodIn lw_tbl wsL_holdsAll_r4 := goodIn_sub (by decide +kernel) (by decide +kernel)
set_option maxRecDepth 20000 in
theorem tg_wsL_holdsAll_5 : GoodIn lw_tbl wsL_holdsAll_r5 := goodIn_sub (by decide +kernel) (by decide +kernel)
set_option maxRecDepth 20000 in
theorem tg_wsL_holdsAll_6 : GoodIn lw_tbl wsL_holdsAll_r6 := goodIn_sub (by decide +kernel) (by decide +kernel)
set_option maxRecDepth 20000 in
theorem tg_wsL_holdsAll_7 : GoodIn lw_tbl wsL_holdsAll_r7 := goodIn_sub (by decide +kernel) (by decide +kernel)
set_option maxRecDepth 20000 in
theorem tg_wsL_holdsAll_8 : GoodIn lw_tbl wsL_holdsAll_r8 := goodIn_sub (by decide +kernel) (by decide +kernel)
set_option maxRecDepth 20000 in
theorem tg_wsL_holdsAll_9 : GoodIn lw_tbl wsL_holdsAll_r9 := goodIn_sub (by decide +kernel) (by decide +kernel)
set_option maxRecDepth 20000 in
theorem tg_wsL_holdsAll_10 : GoodIn lw_tbl wsL_holdsAll_r10 := goodIn_sub (by decide +kernel) (by decide +kernel)
set_option maxRecDepth 20000 in
theorem tg_wsL_holdsAll_11 : GoodIn lw_tbl wsL_holdsAll_r11 := goodIn_sub (by decide +kernel) (by decide +kernel)
set_option maxRecDepth 20000 in
theorem tg_wsL_holdsAll_12 : GoodIn lw_tbl wsL_holdsAll_r12 := goodIn_sub (by decide +kernel) (by decide +kernel)
set_option maxRecDepth 20000 in
theorem tg_wsL_holdsAll_13 : GoodIn lw_tbl wsL_holdsAll_r13 := goodIn_sub (by decide +kernel) (by decide +kernel)
set_option maxRecDepth 20000 in
theorem tg_wsL_holdsAll_14 : GoodIn lw_tbl wsL_holdsAll_r14 := goodIn_sub (by decide +kernel) (by decide +kernel)
set_option maxRecDepth 20000 in
theorem tg_wsL_holdsAll_15 : GoodIn lw_tbl wsL_holdsAll_r15 := goodIn_sub (by decide +kernel) (by decide +kernel)
set_option maxRecDepth 20000 in
theorem tg_wsL_holdsAll_16 : GoodIn lw_tbl wsL0 := goodIn_sub (by decide +kernel) (by decide +kernel)
set_option maxRecDepth 20000 in
theorem tg_wsL_holdsAll_17 : GoodIn lw_tbl wsX10 := goodIn_sub (by decide +kernel) (by decide +kernel)
set_option maxRecDepth 20000 in
theorem tg_wsL_holdsAll_18 : GoodIn lw_tbl wsX00 := goodIn_sub (by decide +kernel) (by decide +kernel)
set_option maxRecDepth 20000 in
theorem tg_wsL_holdsAll_19 : GoodIn lw_tbl ((vx_atS RX1 220 "java/lang/IndexOutOfBoundsException" ["java/lang/RuntimeException", "java/lang/Exception"]).filter goodWord) := goodIn_sub (by decide +kernel) (by decide +kernel)
set_option maxRecDepth 20000 in
theorem tg_wsL_holdsAll_20 : GoodIn lw_tbl ((vx_atS RX1 164 "java/lang/IllegalArgumentException" ["java/lang/RuntimeException", "java/lang/Exception"]).filter goodWord) := goodIn_sub (by decide +kernel) (by decide +kernel)
set_option maxRecDepth 20000 in
theorem tg_wsL_holdsAll_21 : GoodIn lw_tbl ((vx_atS RX1 237 "java/lang/UnsupportedOperationException" ["java/lang/RuntimeException", "java/lang/Exception"]).filter goodWord) := goodIn_sub (by decide +kernel) (by decide +kernel)
set_option maxRecDepth 20000 in
theorem tg_wsL_holdsAll_22 : GoodIn lw_tbl ((vx_atS RX1 112 "java/lang/IllegalStateException" ["java/lang/RuntimeException", "java/lang/Exception"]).filter goodWord) := goodIn_sub (by decide +kernel) (by decide +kernel)
set_option maxRecDepth 20000 in
theorem tg_wsL_holdsAll_23 : GoodIn lw_tbl ((zx_at RX1 172 "java/util/NoSuchElementException" ["java/lang/RuntimeException", "java/lang/Exception"]).filter goodWord) := goodIn_sub (by decide +kernel) (by decide +kernel)
set_option maxRecDepth 20000 in
theorem tg_wsL_holdsAll_c : GoodIn lw_tbl [.code yL_holdsAll cL_holdsAll 5 (some .boolean)] := goodIn_sub (by decide +kernel) (by decide +kernel)
set_option maxRecDepth 20000 in
theorem tg_wsL_holdsAll : GoodIn lw_tbl wsL_holdsAll := goodIn_app tg_wsL_holdsAll_c (goodIn_app (goodIn_app (goodIn_app (goodIn_app (goodIn_app (goodIn_app (goodIn_app (goodIn_app (goodIn_app tg_wsL_holdsAll_1 (goodIn_app tg_wsL_holdsAll_2 (goodIn_app tg_wsL_holdsAll_3 (goodIn_app tg_wsL_holdsAll_4 (goodIn_app tg_wsL_holdsAll_5 (goodIn_app tg_wsL_holdsAll_6 (goodIn_app tg_wsL_holdsAll_7 (goodIn_app tg_wsL_holdsAll_8 (goodIn_app tg_wsL_holdsAll_9 (goodIn_app tg_wsL_holdsAll_10 (goodIn_app tg_wsL_holdsAll_11 (goodIn_app tg_wsL_holdsAll_12 (goodIn_app tg_wsL_holdsAll_13 (goodIn_app tg_wsL_holdsAll_14 tg_wsL_holdsAll_15)))))))))))))) tg_wsL_holdsAll_16) tg_wsL_holdsAll_17) tg_wsL_holdsAll_18) tg_wsL_holdsAll_19) tg_wsL_holdsAll_20) tg_wsL_holdsAll_21) tg_wsL_holdsAll_22) tg_wsL_holdsAll_23)
set_option maxRecDepth 20000 in
theorem gT_holdsAll : GoodIn lw_tbl (wsV RL 189 RL yL_holdsAll wsL_holdsAll) := goodIn_app (goodIn_of _ (by decide +kernel)) tg_wsL_holdsAll
set_option maxRecDepth 20000 in
theorem inT_X0 : ∀ w ∈ wsX00, w ∈ lw_tbl := by decide +kernel
set_option maxRecDepth 20000 in
theorem inT_X1 : ∀ w ∈ wsX10, w ∈ lw_tbl := by decide +kernel
set_option maxRecDepth 20000 in
theorem inT_L : ∀ w ∈ wsL0, w ∈ lw_tbl := by decide +kernel
