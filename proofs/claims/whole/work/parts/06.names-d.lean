set_option maxRecDepth 20000 in
theorem ggX6_init_X9_init : GoodIn wsX6_init wsX9_init := goodIn_r _ [20, 21, 2, 3, 22, 23, 24, 25, 26, 96, 97, 98] (by decide +kernel) (by decide +kernel)
set_option maxRecDepth 20000 in
theorem gX6_init_X9_init : GoodIn wsX6_init (wsX9_init) := ggX6_init_X9_init
set_option maxRecDepth 20000 in
theorem ggX6_init_X9_add : GoodIn wsX6_init wsX9_add := goodIn_ca (goodIn_r _ [33, 26, 22, 25, 23, 34, 35, 36, 37, 38, 39, 40, 41, 42, 43, 24, 44, 45, 46, 47, 48, 49, 50, 51, 52, 53, 54, 55, 56, 57, 58, 59, 60, 61, 62, 63, 64, 65, 66, 7, 67, 96, 97, 98, 106, 107, 108, 109, 110, 111, 112, 113, 114, 115] (by decide +kernel) (by decide +kernel)) (goodIn_sub (fun _ h => List.mem_cons_of_mem _ (List.mem_append_right _ h)) (by decide +kernel))
set_option maxRecDepth 20000 in
theorem gX6_init_X9_add : GoodIn wsX6_init (wsV RX6 28 RX9 yX9_add wsX9_add) := goodIn_app (goodIn_of _ (by decide +kernel)) ggX6_init_X9_add
set_option maxRecDepth 20000 in
theorem ggX6_init_Jx4a65c_init_da8c8 : GoodIn wsX6_init wsJx4a65c_init_da8c8 := goodIn_r _ [70, 71, 72, 73, 74, 75, 76, 77, 78, 79, 80, 81, 82, 2, 3, 99, 100, 101] (by decide +kernel) (by decide +kernel)
set_option maxRecDepth 20000 in
theorem gX6_init_Jx4a65c_init_da8c8 : GoodIn wsX6_init (wsJx4a65c_init_da8c8) := ggX6_init_Jx4a65c_init_da8c8
set_option maxRecDepth 20000 in
theorem ggX10_constructorCount_X9_count : GoodIn wsX10_constructorCount wsX9_count := goodIn_r _ [6, 7, 13, 14, 15] (by decide +kernel) (by decide +kernel)
set_option maxRecDepth 20000 in
theorem gX10_constructorCount_X9_count : GoodIn wsX10_constructorCount (wsV RX10 38 RX9 yX9_count wsX9_count) := goodIn_app (goodIn_of _ (by decide +kernel)) ggX10_constructorCount_X9_count
set_option maxRecDepth 20000 in
theorem ggX10_termCount_X9_count : GoodIn wsX10_termCount wsX9_count := goodIn_r _ [6, 7, 13, 14, 15] (by decide +kernel) (by decide +kernel)
set_option maxRecDepth 20000 in
theorem gX10_termCount_X9_count : GoodIn wsX10_termCount (wsV RX10 38 RX9 yX9_count wsX9_count) := goodIn_app (goodIn_of _ (by decide +kernel)) ggX10_termCount_X9_count
set_option maxRecDepth 20000 in
theorem ggX10_hasConstructor_X9_count : GoodIn wsX10_hasConstructor wsX9_count := goodIn_r _ [6, 7, 13, 14, 15] (by decide +kernel) (by decide +kernel)
set_option maxRecDepth 20000 in
theorem gX10_hasConstructor_X9_count : GoodIn wsX10_hasConstructor (wsV RX10 38 RX9 yX9_count wsX9_count) := goodIn_app (goodIn_of _ (by decide +kernel)) ggX10_hasConstructor_X9_count
set_option maxRecDepth 20000 in
theorem ggX10_hasTerm_X9_count : GoodIn wsX10_hasTerm wsX9_count := goodIn_r _ [6, 7, 13, 14, 15] (by decide +kernel) (by decide +kernel)
set_option maxRecDepth 20000 in
theorem gX10_hasTerm_X9_count : GoodIn wsX10_hasTerm (wsV RX10 38 RX9 yX9_count wsX9_count) := goodIn_app (goodIn_of _ (by decide +kernel)) ggX10_hasTerm_X9_count
