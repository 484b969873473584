theorem dX7_analyse_97 : decode cX7_analyse 97 = .ok (.iload_n 2, 1) := by decide +kernel
theorem dX7_analyse_98 : decode cX7_analyse 98 = .ok (.ifCond .eq 14, 3) := by decide +kernel
theorem dX7_analyse_101 : decode cX7_analyse 101 = .ok (.aload_n 0, 1) := by decide +kernel
theorem dX7_analyse_102 : decode cX7_analyse 102 = .ok (.invokevirtual 94, 3) := by decide +kernel
theorem dX7_analyse_105 : decode cX7_analyse 105 = .ok (.istore_n 2, 1) := by decide +kernel
theorem dX7_analyse_106 : decode cX7_analyse 106 = .ok (.iinc 3 1, 3) := by decide +kernel
theorem dX7_analyse_109 : decode cX7_analyse 109 = .ok (.goto (-23), 3) := by decide +kernel
theorem dX7_analyse_112 : decode cX7_analyse 112 = .ok (.iconst 1, 1) := by decide +kernel
theorem dX7_analyse_113 : decode cX7_analyse 113 = .ok (.istore_n 2, 1) := by decide +kernel
theorem dX7_analyse_114 : decode cX7_analyse 114 = .ok (.iconst 0, 1) := by decide +kernel
theorem dX7_analyse_115 : decode cX7_analyse 115 = .ok (.istore_n 3, 1) := by decide +kernel
theorem dX7_analyse_116 : decode cX7_analyse 116 = .ok (.iload_n 3, 1) := by decide +kernel
theorem dX7_analyse_117 : decode cX7_analyse 117 = .ok (.iconst 2, 1) := by decide +kernel
theorem dX7_analyse_118 : decode cX7_analyse 118 = .ok (.aload_n 0, 1) := by decide +kernel
theorem dX7_analyse_119 : decode cX7_analyse 119 = .ok (.getfield 18, 3) := by decide +kernel
theorem dX7_analyse_122 : decode cX7_analyse 122 = .ok (.invokevirtual 24, 3) := by decide +kernel
theorem dX7_analyse_125 : decode cX7_analyse 125 = .ok (.imul, 1) := by decide +kernel
theorem dX7_analyse_126 : decode cX7_analyse 126 = .ok (.if_icmp .gt 19, 3) := by decide +kernel
theorem dX7_analyse_129 : decode cX7_analyse 129 = .ok (.iload_n 2, 1) := by decide +kernel
theorem dX7_analyse_130 : decode cX7_analyse 130 = .ok (.ifCond .eq 15, 3) := by decide +kernel
theorem dX7_analyse_133 : decode cX7_analyse 133 = .ok (.aload_n 0, 1) := by decide +kernel
theorem dX7_analyse_134 : decode cX7_analyse 134 = .ok (.aload_n 1, 1) := by decide +kernel
theorem dX7_analyse_135 : decode cX7_analyse 135 = .ok (.invokevirtual 98, 3) := by decide +kernel
theorem dX7_analyse_138 : decode cX7_analyse 138 = .ok (.istore_n 2, 1) := by decide +kernel
theorem dX7_analyse_139 : decode cX7_analyse 139 = .ok (.iinc 3 1, 3) := by decide +kernel
theorem dX7_analyse_142 : decode cX7_analyse 142 = .ok (.goto (-26), 3) := by decide +kernel
theorem dX7_analyse_145 : decode cX7_analyse 145 = .ok (.return_, 1) := by decide +kernel
set_option maxRecDepth 20000 in
theorem ggX7_spreadFaults_Jx4a65c_size_8abf5 : GoodIn wsX7_spreadFaults wsJx4a65c_size_8abf5 := goodIn_r _ [7, 8, 70, 71, 72] (by decide +kernel) (by decide +kernel)
set_option maxRecDepth 20000 in
theorem gX7_spreadFaults_Jx4a65c_size_8abf5 : GoodIn wsX7_spreadFaults (wsV RX7 24 RJx4a65c yJx4a65c_size_8abf5 wsJx4a65c_size_8abf5) := goodIn_app (goodIn_of _ (by decide +kernel)) ggX7_spreadFaults_Jx4a65c_size_8abf5
theorem dX7_spreadFaults_0 : decode cX7_spreadFaults 0 = .ok (.iconst 0, 1) := by decide +kernel
theorem dX7_spreadFaults_1 : decode cX7_spreadFaults 1 = .ok (.istore_n 1, 1) := by decide +kernel
theorem dX7_spreadFaults_2 : decode cX7_spreadFaults 2 = .ok (.iconst 0, 1) := by decide +kernel
theorem dX7_spreadFaults_3 : decode cX7_spreadFaults 3 = .ok (.istore_n 2, 1) := by decide +kernel
theorem dX7_spreadFaults_4 : decode cX7_spreadFaults 4 = .ok (.iload_n 2, 1) := by decide +kernel
theorem dX7_spreadFaults_5 : decode cX7_spreadFaults 5 = .ok (.aload_n 0, 1) := by decide +kernel
theorem dX7_spreadFaults_6 : decode cX7_spreadFaults 6 = .ok (.getfield 18, 3) := by decide +kernel
theorem dX7_spreadFaults_9 : decode cX7_spreadFaults 9 = .ok (.invokevirtual 24, 3) := by decide +kernel
theorem dX7_spreadFaults_12 : decode cX7_spreadFaults 12 = .ok (.if_icmp .ge 42, 3) := by decide +kernel
theorem dX7_spreadFaults_54 : decode cX7_spreadFaults 54 = .ok (.iload_n 1, 1) := by decide +kernel
theorem dX7_spreadFaults_55 : decode cX7_spreadFaults 55 = .ok (.ireturn, 1) := by decide +kernel
set_option maxRecDepth 20000 in
theorem ggX7_spreadFound_Jx4a65c_size_8abf5 : GoodIn wsX7_spreadFound wsJx4a65c_size_8abf5 := goodIn_r _ [7, 8, 138, 139, 140] (by decide +kernel) (by decide +kernel)
set_option maxRecDepth 20000 in
theorem gX7_spreadFound_Jx4a65c_size_8abf5 : GoodIn wsX7_spreadFound (wsV RX7 24 RJx4a65c yJx4a65c_size_8abf5 wsJx4a65c_size_8abf5) := goodIn_app (goodIn_of _ (by decide +kernel)) ggX7_spreadFound_Jx4a65c_size_8abf5
theorem dX7_spreadFound_0 : decode cX7_spreadFound 0 = .ok (.iconst 0, 1) := by decide +kernel
theorem dX7_spreadFound_1 : decode cX7_spreadFound 1 = .ok (.istore_n 2, 1) := by decide +kernel
theorem dX7_spreadFound_2 : decode cX7_spreadFound 2 = .ok (.iconst 0, 1) := by decide +kernel
theorem dX7_spreadFound_3 : decode cX7_spreadFound 3 = .ok (.istore_n 3, 1) := by decide +kernel
theorem dX7_spreadFound_4 : decode cX7_spreadFound 4 = .ok (.iload_n 3, 1) := by decide +kernel
theorem dX7_spreadFound_5 : decode cX7_spreadFound 5 = .ok (.aload_n 0, 1) := by decide +kernel
theorem dX7_spreadFound_6 : decode cX7_spreadFound 6 = .ok (.getfield 18, 3) := by decide +kernel
theorem dX7_spreadFound_9 : decode cX7_spreadFound 9 = .ok (.invokevirtual 24, 3) := by decide +kernel
theorem dX7_spreadFound_12 : decode cX7_spreadFound 12 = .ok (.if_icmp .ge 121, 3) := by decide +kernel
theorem dX7_spreadFound_133 : decode cX7_spreadFound 133 = .ok (.iload_n 2, 1) := by decide +kernel
theorem dX7_spreadFound_134 : decode cX7_spreadFound 134 = .ok (.ireturn, 1) := by decide +kernel
set_option maxRecDepth 20000 in
theorem ggX8_init_X9_init : GoodIn wsX8_init wsX9_init := goodIn_r _ [14, 15, 2, 3, 16, 17, 18, 19, 20, 31, 32, 33] (by decide +kernel) (by decide +kernel)
set_option maxRecDepth 20000 in
theorem gX8_init_X9_init : GoodIn wsX8_init (wsX9_init) := ggX8_init_X9_init
theorem dX8_init_0 : decode cX8_init 0 = .ok (.aload_n 0, 1) := by decide +kernel
theorem dX8_init_1 : decode cX8_init 1 = .ok (.invokespecial 3, 3) := by decide +kernel
theorem dX8_init_4 : decode cX8_init 4 = .ok (.aload_n 0, 1) := by decide +kernel
theorem dX8_init_5 : decode cX8_init 5 = .ok (.aconst_null, 1) := by decide +kernel
theorem dX8_init_6 : decode cX8_init 6 = .ok (.putfield 9, 3) := by decide +kernel
theorem dX8_init_9 : decode cX8_init 9 = .ok (.aload_n 0, 1) := by decide +kernel
theorem dX8_init_10 : decode cX8_init 10 = .ok (.new 15, 3) := by decide +kernel
theorem dX8_init_13 : decode cX8_init 13 = .ok (.dup, 1) := by decide +kernel
theorem dX8_init_14 : decode cX8_init 14 = .ok (.iconst 1, 1) := by decide +kernel
theorem dX8_init_15 : decode cX8_init 15 = .ok (.iconst 3, 1) := by decide +kernel
theorem dX8_init_16 : decode cX8_init 16 = .ok (.invokespecial 17, 3) := by decide +kernel
theorem dX8_init_19 : decode cX8_init 19 = .ok (.putfield 20, 3) := by decide +kernel
theorem dX8_init_22 : decode cX8_init 22 = .ok (.aload_n 0, 1) := by decide +kernel
theorem dX8_init_23 : decode cX8_init 23 = .ok (.new 15, 3) := by decide +kernel
theorem dX8_init_26 : decode cX8_init 26 = .ok (.dup, 1) := by decide +kernel
theorem dX8_init_27 : decode cX8_init 27 = .ok (.iconst 3, 1) := by decide +kernel
theorem dX8_init_28 : decode cX8_init 28 = .ok (.bipush 50, 2) := by decide +kernel
theorem dX8_init_30 : decode cX8_init 30 = .ok (.invokespecial 17, 3) := by decide +kernel
theorem dX8_init_33 : decode cX8_init 33 = .ok (.putfield 24, 3) := by decide +kernel
theorem dX8_init_36 : decode cX8_init 36 = .ok (.aload_n 0, 1) := by decide +kernel
theorem dX8_init_37 : decode cX8_init 37 = .ok (.new 15, 3) := by decide +kernel
theorem dX8_init_40 : decode cX8_init 40 = .ok (.dup, 1) := by decide +kernel
theorem dX8_init_41 : decode cX8_init 41 = .ok (.iconst 2, 1) := by decide +kernel
theorem dX8_init_42 : decode cX8_init 42 = .ok (.bipush 80, 2) := by decide +kernel
theorem dX8_init_44 : decode cX8_init 44 = .ok (.invokespecial 17, 3) := by decide +kernel
theorem dX8_init_47 : decode cX8_init 47 = .ok (.putfield 27, 3) := by decide +kernel
theorem dX8_init_50 : decode cX8_init 50 = .ok (.aload_n 0, 1) := by decide +kernel
theorem dX8_init_51 : decode cX8_init 51 = .ok (.bipush 101, 2) := by decide +kernel
theorem dX8_init_53 : decode cX8_init 53 = .ok (.putfield 30, 3) := by decide +kernel
theorem dX8_init_56 : decode cX8_init 56 = .ok (.return_, 1) := by decide +kernel
theorem dX9_init_0 : decode cX9_init 0 = .ok (.aload_n 0, 1) := by decide +kernel
theorem dX9_init_1 : decode cX9_init 1 = .ok (.invokespecial 3, 3) := by decide +kernel
theorem dX9_init_4 : decode cX9_init 4 = .ok (.aload_n 0, 1) := by decide +kernel
theorem dX9_init_5 : decode cX9_init 5 = .ok (.iload_n 1, 1) := by decide +kernel
theorem dX9_init_6 : decode cX9_init 6 = .ok (.ifCond .le 7, 3) := by decide +kernel
theorem dX9_init_9 : decode cX9_init 9 = .ok (.iload_n 1, 1) := by decide +kernel
theorem dX9_init_10 : decode cX9_init 10 = .ok (.goto 4, 3) := by decide +kernel
theorem dX9_init_14 : decode cX9_init 14 = .ok (.putfield 9, 3) := by decide +kernel
theorem dX9_init_17 : decode cX9_init 17 = .ok (.aload_n 0, 1) := by decide +kernel
theorem dX9_init_18 : decode cX9_init 18 = .ok (.iload_n 2, 1) := by decide +kernel
theorem dX9_init_19 : decode cX9_init 19 = .ok (.ifCond .le 18, 3) := by decide +kernel
theorem dX9_init_22 : decode cX9_init 22 = .ok (.iload_n 2, 1) := by decide +kernel
theorem dX9_init_23 : decode cX9_init 23 = .ok (.ldc 15, 2) := by decide +kernel
theorem dX9_init_25 : decode cX9_init 25 = .ok (.if_icmp .ge 12, 3) := by decide +kernel
theorem dX9_init_28 : decode cX9_init 28 = .ok (.aload_n 0, 1) := by decide +kernel
theorem dX9_init_29 : decode cX9_init 29 = .ok (.getfield 9, 3) := by decide +kernel
theorem dX9_init_32 : decode cX9_init 32 = .ok (.iload_n 2, 1) := by decide +kernel
theorem dX9_init_33 : decode cX9_init 33 = .ok (.imul, 1) := by decide +kernel
theorem dX9_init_34 : decode cX9_init 34 = .ok (.goto 7, 3) := by decide +kernel
theorem dX9_init_41 : decode cX9_init 41 = .ok (.newarray .int, 2) := by decide +kernel
theorem dX9_init_43 : decode cX9_init 43 = .ok (.putfield 16, 3) := by decide +kernel
theorem dX9_init_46 : decode cX9_init 46 = .ok (.aload_n 0, 1) := by decide +kernel
theorem dX9_init_47 : decode cX9_init 47 = .ok (.iconst 0, 1) := by decide +kernel
theorem dX9_init_48 : decode cX9_init 48 = .ok (.putfield 20, 3) := by decide +kernel
theorem dX9_init_51 : decode cX9_init 51 = .ok (.return_, 1) := by decide +kernel
theorem dX9_count_0 : decode cX9_count 0 = .ok (.aload_n 0, 1) := by decide +kernel
theorem dX9_count_1 : decode cX9_count 1 = .ok (.getfield 20, 3) := by decide +kernel
theorem dX9_count_4 : decode cX9_count 4 = .ok (.ireturn, 1) := by decide +kernel
theorem dX9_set_0 : decode cX9_set 0 = .ok (.iload_n 1, 1) := by decide +kernel
theorem dX9_set_1 : decode cX9_set 1 = .ok (.aload_n 0, 1) := by decide +kernel
theorem dX9_set_2 : decode cX9_set 2 = .ok (.getfield 9, 3) := by decide +kernel
theorem dX9_set_5 : decode cX9_set 5 = .ok (.imul, 1) := by decide +kernel
theorem dX9_set_6 : decode cX9_set 6 = .ok (.iload_n 2, 1) := by decide +kernel
theorem dX9_set_7 : decode cX9_set 7 = .ok (.iadd, 1) := by decide +kernel
theorem dX9_set_8 : decode cX9_set 8 = .ok (.istore 4, 2) := by decide +kernel
theorem dX9_set_10 : decode cX9_set 10 = .ok (.iload_n 1, 1) := by decide +kernel
theorem dX9_set_11 : decode cX9_set 11 = .ok (.ifCond .lt 27, 3) := by decide +kernel
theorem dX9_set_14 : decode cX9_set 14 = .ok (.iload_n 1, 1) := by decide +kernel
theorem dX9_set_15 : decode cX9_set 15 = .ok (.aload_n 0, 1) := by decide +kernel
theorem dX9_set_16 : decode cX9_set 16 = .ok (.getfield 20, 3) := by decide +kernel
theorem dX9_set_19 : decode cX9_set 19 = .ok (.if_icmp .ge 19, 3) := by decide +kernel
theorem dX9_set_22 : decode cX9_set 22 = .ok (.iload_n 2, 1) := by decide +kernel
theorem dX9_set_23 : decode cX9_set 23 = .ok (.ifCond .lt 15, 3) := by decide +kernel
theorem dX9_set_26 : decode cX9_set 26 = .ok (.iload_n 2, 1) := by decide +kernel
theorem dX9_set_27 : decode cX9_set 27 = .ok (.aload_n 0, 1) := by decide +kernel
theorem dX9_set_28 : decode cX9_set 28 = .ok (.getfield 9, 3) := by decide +kernel
theorem dX9_set_31 : decode cX9_set 31 = .ok (.if_icmp .ge 7, 3) := by decide +kernel
theorem dX9_set_34 : decode cX9_set 34 = .ok (.iconst 1, 1) := by decide +kernel
theorem dX9_set_35 : decode cX9_set 35 = .ok (.goto 4, 3) := by decide +kernel
theorem dX9_set_38 : decode cX9_set 38 = .ok (.iconst 0, 1) := by decide +kernel
theorem dX9_set_39 : decode cX9_set 39 = .ok (.istore 5, 2) := by decide +kernel
theorem dX9_set_41 : decode cX9_set 41 = .ok (.iload 5, 2) := by decide +kernel
theorem dX9_set_43 : decode cX9_set 43 = .ok (.ifCond .eq 26, 3) := by decide +kernel
theorem dX9_set_46 : decode cX9_set 46 = .ok (.iload 4, 2) := by decide +kernel
theorem dX9_set_48 : decode cX9_set 48 = .ok (.ifCond .lt 21, 3) := by decide +kernel
theorem dX9_set_51 : decode cX9_set 51 = .ok (.iload 4, 2) := by decide +kernel
theorem dX9_set_53 : decode cX9_set 53 = .ok (.aload_n 0, 1) := by decide +kernel
theorem dX9_set_54 : decode cX9_set 54 = .ok (.getfield 16, 3) := by decide +kernel
theorem dX9_set_57 : decode cX9_set 57 = .ok (.arraylength, 1) := by decide +kernel
theorem dX9_set_58 : decode cX9_set 58 = .ok (.if_icmp .ge 11, 3) := by decide +kernel
theorem dX9_set_61 : decode cX9_set 61 = .ok (.aload_n 0, 1) := by decide +kernel
theorem dX9_set_62 : decode cX9_set 62 = .ok (.getfield 16, 3) := by decide +kernel
theorem dX9_set_65 : decode cX9_set 65 = .ok (.iload 4, 2) := by decide +kernel
theorem dX9_set_67 : decode cX9_set 67 = .ok (.iload_n 3, 1) := by decide +kernel
theorem dX9_set_68 : decode cX9_set 68 = .ok (.iastore, 1) := by decide +kernel
theorem dX9_set_69 : decode cX9_set 69 = .ok (.return_, 1) := by decide +kernel
set_option maxRecDepth 20000 in
theorem ggX9_add_J7_fill_fda19 : GoodIn wsX9_add wsJ7_fill_fda19 := goodIn_r _ [26, 27, 28, 7, 29, 30, 31, 32, 33, 34, 35, 44, 45, 46, 47, 48, 49, 50, 51, 52, 53] (by decide +kernel) (by decide +kernel)
set_option maxRecDepth 20000 in
theorem gX9_add_J7_fill_fda19 : GoodIn wsX9_add (va_wsS RX9 29 yJ7_fill_fda19 wsJ7_fill_fda19) := goodIn_app (goodIn_of _ (by decide +kernel)) ggX9_add_J7_fill_fda19
set_option maxRecDepth 20000 in
theorem ggX9_add_X9_set : GoodIn wsX9_add wsX9_set := goodIn_ca (goodIn_r _ [40, 2, 1, 3, 41, 42, 43] (by decide +kernel) (by decide +kernel)) (goodIn_sub (fun _ h => List.mem_cons_of_mem _ (List.mem_append_right _ h)) (by decide +kernel))
set_option maxRecDepth 20000 in
theorem gX9_add_X9_set : GoodIn wsX9_add (wsV RX9 33 RX9 yX9_set wsX9_set) := goodIn_app (goodIn_of _ (by decide +kernel)) ggX9_add_X9_set
theorem dX9_add_0 : decode cX9_add 0 = .ok (.aload_n 0, 1) := by decide +kernel
theorem dX9_add_1 : decode cX9_add 1 = .ok (.getfield 20, 3) := by decide +kernel
theorem dX9_add_4 : decode cX9_add 4 = .ok (.aload_n 0, 1) := by decide +kernel
theorem dX9_add_5 : decode cX9_add 5 = .ok (.getfield 9, 3) := by decide +kernel
theorem dX9_add_8 : decode cX9_add 8 = .ok (.imul, 1) := by decide +kernel
theorem dX9_add_9 : decode cX9_add 9 = .ok (.istore 4, 2) := by decide +kernel
theorem dX9_add_11 : decode cX9_add 11 = .ok (.iload 4, 2) := by decide +kernel
theorem dX9_add_13 : decode cX9_add 13 = .ok (.aload_n 0, 1) := by decide +kernel
theorem dX9_add_14 : decode cX9_add 14 = .ok (.getfield 9, 3) := by decide +kernel
theorem dX9_add_17 : decode cX9_add 17 = .ok (.iadd, 1) := by decide +kernel
theorem dX9_add_18 : decode cX9_add 18 = .ok (.istore 5, 2) := by decide +kernel
theorem dX9_add_20 : decode cX9_add 20 = .ok (.iload 5, 2) := by decide +kernel
theorem dX9_add_22 : decode cX9_add 22 = .ok (.aload_n 0, 1) := by decide +kernel
theorem dX9_add_23 : decode cX9_add 23 = .ok (.getfield 16, 3) := by decide +kernel
theorem dX9_add_26 : decode cX9_add 26 = .ok (.arraylength, 1) := by decide +kernel
theorem dX9_add_27 : decode cX9_add 27 = .ok (.if_icmp .le 25, 3) := by decide +kernel
theorem dX9_add_52 : decode cX9_add 52 = .ok (.iload 4, 2) := by decide +kernel
theorem dX9_add_54 : decode cX9_add 54 = .ok (.ifCond .lt 13, 3) := by decide +kernel
theorem dX9_add_57 : decode cX9_add 57 = .ok (.iload 5, 2) := by decide +kernel
theorem dX9_add_59 : decode cX9_add 59 = .ok (.aload_n 0, 1) := by decide +kernel
theorem dX9_add_60 : decode cX9_add 60 = .ok (.getfield 16, 3) := by decide +kernel
theorem dX9_add_63 : decode cX9_add 63 = .ok (.arraylength, 1) := by decide +kernel
theorem dX9_add_64 : decode cX9_add 64 = .ok (.if_icmp .le 5, 3) := by decide +kernel
theorem dX9_add_69 : decode cX9_add 69 = .ok (.aload_n 0, 1) := by decide +kernel
theorem dX9_add_70 : decode cX9_add 70 = .ok (.getfield 16, 3) := by decide +kernel
theorem dX9_add_73 : decode cX9_add 73 = .ok (.iload 4, 2) := by decide +kernel
theorem dX9_add_75 : decode cX9_add 75 = .ok (.iload 5, 2) := by decide +kernel
theorem dX9_add_77 : decode cX9_add 77 = .ok (.iconst (-1), 1) := by decide +kernel
theorem dX9_add_78 : decode cX9_add 78 = .ok (.invokestatic 29, 3) := by decide +kernel
theorem dX9_add_81 : decode cX9_add 81 = .ok (.aload_n 0, 1) := by decide +kernel
theorem dX9_add_82 : decode cX9_add 82 = .ok (.dup, 1) := by decide +kernel
theorem dX9_add_83 : decode cX9_add 83 = .ok (.getfield 20, 3) := by decide +kernel
theorem dX9_add_86 : decode cX9_add 86 = .ok (.iconst 1, 1) := by decide +kernel
theorem dX9_add_87 : decode cX9_add 87 = .ok (.iadd, 1) := by decide +kernel
theorem dX9_add_88 : decode cX9_add 88 = .ok (.putfield 20, 3) := by decide +kernel
theorem dX9_add_91 : decode cX9_add 91 = .ok (.aload_n 0, 1) := by decide +kernel
theorem dX9_add_92 : decode cX9_add 92 = .ok (.aload_n 0, 1) := by decide +kernel
theorem dX9_add_93 : decode cX9_add 93 = .ok (.getfield 20, 3) := by decide +kernel
theorem dX9_add_96 : decode cX9_add 96 = .ok (.iconst 1, 1) := by decide +kernel
theorem dX9_add_97 : decode cX9_add 97 = .ok (.isub, 1) := by decide +kernel
theorem dX9_add_98 : decode cX9_add 98 = .ok (.iconst 0, 1) := by decide +kernel
theorem dX9_add_99 : decode cX9_add 99 = .ok (.iload_n 1, 1) := by decide +kernel
theorem dX9_add_100 : decode cX9_add 100 = .ok (.invokevirtual 33, 3) := by decide +kernel
theorem dX9_add_103 : decode cX9_add 103 = .ok (.aload_n 0, 1) := by decide +kernel
theorem dX9_add_104 : decode cX9_add 104 = .ok (.aload_n 0, 1) := by decide +kernel
theorem dX9_add_105 : decode cX9_add 105 = .ok (.getfield 20, 3) := by decide +kernel
theorem dX9_add_108 : decode cX9_add 108 = .ok (.iconst 1, 1) := by decide +kernel
theorem dX9_add_109 : decode cX9_add 109 = .ok (.isub, 1) := by decide +kernel
theorem dX9_add_110 : decode cX9_add 110 = .ok (.iconst 1, 1) := by decide +kernel
theorem dX9_add_111 : decode cX9_add 111 = .ok (.iload_n 2, 1) := by decide +kernel
theorem dX9_add_112 : decode cX9_add 112 = .ok (.invokevirtual 33, 3) := by decide +kernel
theorem dX9_add_115 : decode cX9_add 115 = .ok (.aload_n 0, 1) := by decide +kernel
theorem dX9_add_116 : decode cX9_add 116 = .ok (.aload_n 0, 1) := by decide +kernel
theorem dX9_add_117 : decode cX9_add 117 = .ok (.getfield 20, 3) := by decide +kernel
theorem dX9_add_120 : decode cX9_add 120 = .ok (.iconst 1, 1) := by decide +kernel
theorem dX9_add_121 : decode cX9_add 121 = .ok (.isub, 1) := by decide +kernel
theorem dX9_add_122 : decode cX9_add 122 = .ok (.iconst 2, 1) := by decide +kernel
theorem dX9_add_123 : decode cX9_add 123 = .ok (.iload_n 3, 1) := by decide +kernel
theorem dX9_add_124 : decode cX9_add 124 = .ok (.invokevirtual 33, 3) := by decide +kernel
theorem dX9_add_127 : decode cX9_add 127 = .ok (.aload_n 0, 1) := by decide +kernel
theorem dX9_add_128 : decode cX9_add 128 = .ok (.getfield 20, 3) := by decide +kernel
theorem dX9_add_131 : decode cX9_add 131 = .ok (.iconst 1, 1) := by decide +kernel
theorem dX9_add_132 : decode cX9_add 132 = .ok (.isub, 1) := by decide +kernel
theorem dX9_add_133 : decode cX9_add 133 = .ok (.ireturn, 1) := by decide +kernel
set_option maxRecDepth 20000 in
theorem ggX10_init_X9_init : GoodIn wsX10_init wsX9_init := goodIn_r _ [15, 16, 2, 3, 17, 18, 19, 20, 21, 65, 66, 67] (by decide +kernel) (by decide +kernel)
set_option maxRecDepth 20000 in
theorem gX10_init_X9_init : GoodIn wsX10_init (wsX9_init) := ggX10_init_X9_init
set_option maxRecDepth 20000 in
theorem ggX10_init_X9_add : GoodIn wsX10_init wsX9_add := goodIn_ca (goodIn_r _ [25, 21, 17, 20, 18, 26, 27, 28, 29, 30, 31, 32, 33, 34, 35, 19, 36, 37, 38, 39, 40, 41, 42, 43, 44, 45, 46, 47, 48, 49, 50, 51, 52, 53, 54, 55, 56, 57, 58, 7, 59, 65, 66, 67, 68, 69, 70, 71, 72, 73, 74, 75, 76, 77] (by decide +kernel) (by decide +kernel)) (goodIn_sub (fun _ h => List.mem_cons_of_mem _ (List.mem_append_right _ h)) (by decide +kernel))
set_option maxRecDepth 20000 in
theorem gX10_init_X9_add : GoodIn wsX10_init (wsV RX10 30 RX9 yX9_add wsX9_add) := goodIn_app (goodIn_of _ (by decide +kernel)) ggX10_init_X9_add
theorem dX10_init_0 : decode cX10_init 0 = .ok (.aload_n 0, 1) := by decide +kernel
theorem dX10_init_1 : decode cX10_init 1 = .ok (.invokespecial 3, 3) := by decide +kernel
theorem dX10_init_4 : decode cX10_init 4 = .ok (.aload_n 0, 1) := by decide +kernel
theorem dX10_init_5 : decode cX10_init 5 = .ok (.iconst 0, 1) := by decide +kernel
theorem dX10_init_6 : decode cX10_init 6 = .ok (.putfield 9, 3) := by decide +kernel
theorem dX10_init_9 : decode cX10_init 9 = .ok (.aload_n 0, 1) := by decide +kernel
theorem dX10_init_10 : decode cX10_init 10 = .ok (.new 15, 3) := by decide +kernel
theorem dX10_init_13 : decode cX10_init 13 = .ok (.dup, 1) := by decide +kernel
theorem dX10_init_14 : decode cX10_init 14 = .ok (.iconst 3, 1) := by decide +kernel
theorem dX10_init_15 : decode cX10_init 15 = .ok (.bipush 10, 2) := by decide +kernel
theorem dX10_init_17 : decode cX10_init 17 = .ok (.invokespecial 17, 3) := by decide +kernel
theorem dX10_init_20 : decode cX10_init 20 = .ok (.putfield 20, 3) := by decide +kernel
theorem dX10_init_23 : decode cX10_init 23 = .ok (.aload_n 0, 1) := by decide +kernel
theorem dX10_init_24 : decode cX10_init 24 = .ok (.new 15, 3) := by decide +kernel
theorem dX10_init_27 : decode cX10_init 27 = .ok (.dup, 1) := by decide +kernel
theorem dX10_init_28 : decode cX10_init 28 = .ok (.iconst 4, 1) := by decide +kernel
theorem dX10_init_29 : decode cX10_init 29 = .ok (.sipush 200, 3) := by decide +kernel
theorem dX10_init_32 : decode cX10_init 32 = .ok (.invokespecial 17, 3) := by decide +kernel
theorem dX10_init_35 : decode cX10_init 35 = .ok (.putfield 24, 3) := by decide +kernel
theorem dX10_init_38 : decode cX10_init 38 = .ok (.aload_n 0, 1) := by decide +kernel
theorem dX10_init_39 : decode cX10_init 39 = .ok (.new 15, 3) := by decide +kernel
theorem dX10_init_42 : decode cX10_init 42 = .ok (.dup, 1) := by decide +kernel
theorem dX10_init_43 : decode cX10_init 43 = .ok (.iconst 1, 1) := by decide +kernel
theorem dX10_init_44 : decode cX10_init 44 = .ok (.bipush 64, 2) := by decide +kernel
theorem dX10_init_46 : decode cX10_init 46 = .ok (.invokespecial 17, 3) := by decide +kernel
theorem dX10_init_49 : decode cX10_init 49 = .ok (.putfield 27, 3) := by decide +kernel
theorem dX10_init_52 : decode cX10_init 52 = .ok (.iconst 0, 1) := by decide +kernel
theorem dX10_init_53 : decode cX10_init 53 = .ok (.istore_n 1, 1) := by decide +kernel
theorem dX10_init_54 : decode cX10_init 54 = .ok (.iload_n 1, 1) := by decide +kernel
theorem dX10_init_55 : decode cX10_init 55 = .ok (.bipush 64, 2) := by decide +kernel
theorem dX10_init_57 : decode cX10_init 57 = .ok (.if_icmp .ge 20, 3) := by decide +kernel
theorem dX10_init_60 : decode cX10_init 60 = .ok (.aload_n 0, 1) := by decide +kernel
theorem dX10_init_61 : decode cX10_init 61 = .ok (.getfield 27, 3) := by decide +kernel
theorem dX10_init_64 : decode cX10_init 64 = .ok (.iconst (-1), 1) := by decide +kernel
theorem dX10_init_65 : decode cX10_init 65 = .ok (.iconst (-1), 1) := by decide +kernel
theorem dX10_init_66 : decode cX10_init 66 = .ok (.iconst (-1), 1) := by decide +kernel
theorem dX10_init_67 : decode cX10_init 67 = .ok (.invokevirtual 30, 3) := by decide +kernel
theorem dX10_init_70 : decode cX10_init 70 = .ok (.pop, 1) := by decide +kernel
theorem dX10_init_71 : decode cX10_init 71 = .ok (.iinc 1 1, 3) := by decide +kernel
theorem dX10_init_74 : decode cX10_init 74 = .ok (.goto (-20), 3) := by decide +kernel
theorem dX10_init_77 : decode cX10_init 77 = .ok (.aload_n 0, 1) := by decide +kernel
theorem dX10_init_78 : decode cX10_init 78 = .ok (.sipush 200, 3) := by decide +kernel
theorem dX10_init_81 : decode cX10_init 81 = .ok (.newarray .long, 2) := by decide +kernel
theorem dX10_init_83 : decode cX10_init 83 = .ok (.putfield 34, 3) := by decide +kernel
theorem dX10_init_86 : decode cX10_init 86 = .ok (.return_, 1) := by decide +kernel
theorem dX10_typeCount_0 : decode cX10_typeCount 0 = .ok (.aload_n 0, 1) := by decide +kernel
theorem dX10_typeCount_1 : decode cX10_typeCount 1 = .ok (.getfield 9, 3) := by decide +kernel
theorem dX10_typeCount_4 : decode cX10_typeCount 4 = .ok (.ireturn, 1) := by decide +kernel
set_option maxRecDepth 20000 in
theorem ggX10_termCount_X9_count : GoodIn wsX10_termCount wsX9_count := goodIn_r _ [6, 7, 13, 14, 15] (by decide +kernel) (by decide +kernel)
set_option maxRecDepth 20000 in
theorem gX10_termCount_X9_count : GoodIn wsX10_termCount (wsV RX10 38 RX9 yX9_count wsX9_count) := goodIn_app (goodIn_of _ (by decide +kernel)) ggX10_termCount_X9_count
theorem dX10_termCount_0 : decode cX10_termCount 0 = .ok (.aload_n 0, 1) := by decide +kernel
theorem dX10_termCount_1 : decode cX10_termCount 1 = .ok (.getfield 24, 3) := by decide +kernel
theorem dX10_termCount_4 : decode cX10_termCount 4 = .ok (.invokevirtual 38, 3) := by decide +kernel
theorem dX10_termCount_7 : decode cX10_termCount 7 = .ok (.ireturn, 1) := by decide +kernel
theorem dX10_hasType_0 : decode cX10_hasType 0 = .ok (.iload_n 1, 1) := by decide +kernel
theorem dX10_hasType_1 : decode cX10_hasType 1 = .ok (.ifCond .lt 15, 3) := by decide +kernel
theorem dX10_hasType_4 : decode cX10_hasType 4 = .ok (.iload_n 1, 1) := by decide +kernel
theorem dX10_hasType_5 : decode cX10_hasType 5 = .ok (.aload_n 0, 1) := by decide +kernel
theorem dX10_hasType_6 : decode cX10_hasType 6 = .ok (.getfield 9, 3) := by decide +kernel
theorem dX10_hasType_9 : decode cX10_hasType 9 = .ok (.if_icmp .ge 7, 3) := by decide +kernel
theorem dX10_hasType_16 : decode cX10_hasType 16 = .ok (.iconst 0, 1) := by decide +kernel
theorem dX10_hasType_17 : decode cX10_hasType 17 = .ok (.ireturn, 1) := by decide +kernel
set_option maxRecDepth 20000 in
theorem ggX10_hasConstructor_X9_count : GoodIn wsX10_hasConstructor wsX9_count := goodIn_r _ [6, 7, 13, 14, 15] (by decide +kernel) (by decide +kernel)
set_option maxRecDepth 20000 in
theorem gX10_hasConstructor_X9_count : GoodIn wsX10_hasConstructor (wsV RX10 38 RX9 yX9_count wsX9_count) := goodIn_app (goodIn_of _ (by decide +kernel)) ggX10_hasConstructor_X9_count
theorem dX10_hasConstructor_0 : decode cX10_hasConstructor 0 = .ok (.iload_n 1, 1) := by decide +kernel
theorem dX10_hasConstructor_1 : decode cX10_hasConstructor 1 = .ok (.ifCond .lt 18, 3) := by decide +kernel
theorem dX10_hasConstructor_4 : decode cX10_hasConstructor 4 = .ok (.iload_n 1, 1) := by decide +kernel
theorem dX10_hasConstructor_5 : decode cX10_hasConstructor 5 = .ok (.aload_n 0, 1) := by decide +kernel
theorem dX10_hasConstructor_6 : decode cX10_hasConstructor 6 = .ok (.getfield 20, 3) := by decide +kernel
theorem dX10_hasConstructor_9 : decode cX10_hasConstructor 9 = .ok (.invokevirtual 38, 3) := by decide +kernel
theorem dX10_hasConstructor_12 : decode cX10_hasConstructor 12 = .ok (.if_icmp .ge 7, 3) := by decide +kernel
theorem dX10_hasConstructor_19 : decode cX10_hasConstructor 19 = .ok (.iconst 0, 1) := by decide +kernel
theorem dX10_hasConstructor_20 : decode cX10_hasConstructor 20 = .ok (.ireturn, 1) := by decide +kernel
set_option maxRecDepth 20000 in
theorem ggX10_hasTerm_X9_count : GoodIn wsX10_hasTerm wsX9_count := goodIn_r _ [6, 7, 13, 14, 15] (by decide +kernel) (by decide +kernel)
set_option maxRecDepth 20000 in
theorem gX10_hasTerm_X9_count : GoodIn wsX10_hasTerm (wsV RX10 38 RX9 yX9_count wsX9_count) := goodIn_app (goodIn_of _ (by decide +kernel)) ggX10_hasTerm_X9_count
theorem dX10_hasTerm_0 : decode cX10_hasTerm 0 = .ok (.iload_n 1, 1) := by decide +kernel
theorem dX10_hasTerm_1 : decode cX10_hasTerm 1 = .ok (.ifCond .lt 18, 3) := by decide +kernel
theorem dX10_hasTerm_4 : decode cX10_hasTerm 4 = .ok (.iload_n 1, 1) := by decide +kernel
theorem dX10_hasTerm_5 : decode cX10_hasTerm 5 = .ok (.aload_n 0, 1) := by decide +kernel
theorem dX10_hasTerm_6 : decode cX10_hasTerm 6 = .ok (.getfield 24, 3) := by decide +kernel
theorem dX10_hasTerm_9 : decode cX10_hasTerm 9 = .ok (.invokevirtual 38, 3) := by decide +kernel
theorem dX10_hasTerm_12 : decode cX10_hasTerm 12 = .ok (.if_icmp .ge 7, 3) := by decide +kernel
theorem dX10_hasTerm_19 : decode cX10_hasTerm 19 = .ok (.iconst 0, 1) := by decide +kernel
theorem dX10_hasTerm_20 : decode cX10_hasTerm 20 = .ok (.ireturn, 1) := by decide +kernel
theorem dX10_newType_0 : decode cX10_newType 0 = .ok (.aload_n 0, 1) := by decide +kernel
theorem dX10_newType_1 : decode cX10_newType 1 = .ok (.dup, 1) := by decide +kernel
theorem dX10_newType_2 : decode cX10_newType 2 = .ok (.getfield 9, 3) := by decide +kernel
theorem dX10_newType_5 : decode cX10_newType 5 = .ok (.iconst 1, 1) := by decide +kernel
theorem dX10_newType_6 : decode cX10_newType 6 = .ok (.iadd, 1) := by decide +kernel
theorem dX10_newType_7 : decode cX10_newType 7 = .ok (.putfield 9, 3) := by decide +kernel
theorem dX10_newType_10 : decode cX10_newType 10 = .ok (.aload_n 0, 1) := by decide +kernel
theorem dX10_newType_11 : decode cX10_newType 11 = .ok (.getfield 9, 3) := by decide +kernel
theorem dX10_newType_14 : decode cX10_newType 14 = .ok (.iconst 1, 1) := by decide +kernel
theorem dX10_newType_15 : decode cX10_newType 15 = .ok (.isub, 1) := by decide +kernel
theorem dX10_newType_16 : decode cX10_newType 16 = .ok (.ireturn, 1) := by decide +kernel
set_option maxRecDepth 20000 in
theorem ggX11_init_X10_init : GoodIn wsX11_init wsX10_init := goodIn_ca (goodIn_r _ [30, 31, 2, 3, 32, 33, 34, 35, 36, 37, 38, 39, 40, 41, 42, 43, 44, 45, 46, 47, 48, 49, 50, 51, 52, 53, 54, 55, 56, 57, 58, 59, 60, 61, 62, 63, 64, 65, 66, 67, 68, 69, 70, 71, 72, 73, 74, 75, 76, 77, 78, 79, 80, 81, 82, 83, 84, 85, 86, 87, 153, 154, 155, 156, 157, 207, 208, 209, 210, 211, 212, 213, 214, 215, 216, 217, 218, 219] (by decide +kernel) (by decide +kernel)) (goodIn_sub (fun _ h => List.mem_cons_of_mem _ (List.mem_append_right _ h)) (by decide +kernel))
set_option maxRecDepth 20000 in
theorem gX11_init_X10_init : GoodIn wsX11_init (wsX10_init) := ggX11_init_X10_init
set_option maxRecDepth 20000 in
theorem ggX11_init_X7_init : GoodIn wsX11_init wsX7_init := goodIn_r _ [90, 91, 2, 3, 92, 93, 94, 95, 96, 97, 98, 99, 100, 101, 102, 103, 104, 105, 106, 107, 108, 109, 110, 111, 112, 220, 221, 222, 167, 168, 169] (by decide +kernel) (by decide +kernel)
set_option maxRecDepth 20000 in
theorem gX11_init_X7_init : GoodIn wsX11_init (wsX7_init) := ggX11_init_X7_init
set_option maxRecDepth 20000 in
theorem ggX11_init_X8_init : GoodIn wsX11_init wsX8_init := goodIn_r _ [115, 116, 2, 3, 117, 118, 34, 35, 119, 120, 121, 122, 123, 42, 43, 44, 45, 46, 47, 48, 49, 170, 171, 172, 173, 174, 175, 176, 177, 178, 179, 207, 208, 209] (by decide +kernel) (by decide +kernel)
set_option maxRecDepth 20000 in
theorem gX11_init_X8_init : GoodIn wsX11_init (wsX8_init) := ggX11_init_X8_init
set_option maxRecDepth 20000 in
theorem ggX11_init_X4_init : GoodIn wsX11_init wsX4_init := goodIn_r _ [126, 127, 2, 3, 128, 129, 130, 93, 94, 131, 132, 34, 35, 133, 134, 135, 99, 100, 101, 102, 103, 104, 105, 106, 107, 108, 109, 110, 111, 112, 136, 42, 43, 44, 45, 46, 47, 48, 49, 180, 181, 182, 183, 184, 185, 186, 187, 188, 189, 190, 191, 220, 221, 222, 207, 208, 209] (by decide +kernel) (by decide +kernel)
set_option maxRecDepth 20000 in
theorem gX11_init_X4_init : GoodIn wsX11_init (wsX4_init) := ggX11_init_X4_init
set_option maxRecDepth 20000 in
theorem ggX11_init_X0_init : GoodIn wsX11_init wsX0_init := goodIn_r _ [139, 140, 2, 3, 141, 142, 143, 34, 35, 144, 145, 146, 147, 148, 149, 150, 151, 152, 42, 43, 44, 45, 46, 47, 48, 49, 192, 193, 194, 195, 196, 197, 198, 199, 200, 201, 202, 203, 204, 205, 206, 207, 208, 209] (by decide +kernel) (by decide +kernel)
set_option maxRecDepth 20000 in
theorem gX11_init_X0_init : GoodIn wsX11_init (wsX0_init) := ggX11_init_X0_init
theorem dX11_init_0 : decode cX11_init 0 = .ok (.aload_n 0, 1) := by decide +kernel
theorem dX11_init_1 : decode cX11_init 1 = .ok (.invokespecial 1, 3) := by decide +kernel
theorem dX11_init_4 : decode cX11_init 4 = .ok (.aload_n 0, 1) := by decide +kernel
theorem dX11_init_5 : decode cX11_init 5 = .ok (.new 7, 3) := by decide +kernel
theorem dX11_init_8 : decode cX11_init 8 = .ok (.dup, 1) := by decide +kernel
theorem dX11_init_9 : decode cX11_init 9 = .ok (.invokespecial 9, 3) := by decide +kernel
theorem dX11_init_12 : decode cX11_init 12 = .ok (.putfield 10, 3) := by decide +kernel
theorem dX11_init_15 : decode cX11_init 15 = .ok (.aload_n 0, 1) := by decide +kernel
theorem dX11_init_16 : decode cX11_init 16 = .ok (.new 16, 3) := by decide +kernel
theorem dX11_init_19 : decode cX11_init 19 = .ok (.dup, 1) := by decide +kernel
theorem dX11_init_20 : decode cX11_init 20 = .ok (.invokespecial 18, 3) := by decide +kernel
theorem dX11_init_23 : decode cX11_init 23 = .ok (.putfield 19, 3) := by decide +kernel
theorem dX11_init_26 : decode cX11_init 26 = .ok (.aload_n 0, 1) := by decide +kernel
theorem dX11_init_27 : decode cX11_init 27 = .ok (.new 23, 3) := by decide +kernel
theorem dX11_init_30 : decode cX11_init 30 = .ok (.dup, 1) := by decide +kernel
theorem dX11_init_31 : decode cX11_init 31 = .ok (.invokespecial 25, 3) := by decide +kernel
theorem dX11_init_34 : decode cX11_init 34 = .ok (.putfield 26, 3) := by decide +kernel
theorem dX11_init_37 : decode cX11_init 37 = .ok (.aload_n 0, 1) := by decide +kernel
theorem dX11_init_38 : decode cX11_init 38 = .ok (.new 23, 3) := by decide +kernel
theorem dX11_init_41 : decode cX11_init 41 = .ok (.dup, 1) := by decide +kernel
theorem dX11_init_42 : decode cX11_init 42 = .ok (.invokespecial 25, 3) := by decide +kernel
theorem dX11_init_45 : decode cX11_init 45 = .ok (.putfield 30, 3) := by decide +kernel
theorem dX11_init_48 : decode cX11_init 48 = .ok (.aload_n 0, 1) := by decide +kernel
theorem dX11_init_49 : decode cX11_init 49 = .ok (.new 33, 3) := by decide +kernel
theorem dX11_init_52 : decode cX11_init 52 = .ok (.dup, 1) := by decide +kernel
theorem dX11_init_53 : decode cX11_init 53 = .ok (.aload_n 0, 1) := by decide +kernel
theorem dX11_init_54 : decode cX11_init 54 = .ok (.getfield 10, 3) := by decide +kernel
theorem dX11_init_57 : decode cX11_init 57 = .ok (.aload_n 0, 1) := by decide +kernel
theorem dX11_init_58 : decode cX11_init 58 = .ok (.getfield 30, 3) := by decide +kernel
theorem dX11_init_61 : decode cX11_init 61 = .ok (.invokespecial 35, 3) := by decide +kernel
theorem dX11_init_64 : decode cX11_init 64 = .ok (.putfield 38, 3) := by decide +kernel
theorem dX11_init_67 : decode cX11_init 67 = .ok (.aload_n 0, 1) := by decide +kernel
theorem dX11_init_68 : decode cX11_init 68 = .ok (.new 42, 3) := by decide +kernel
theorem dX11_init_71 : decode cX11_init 71 = .ok (.dup, 1) := by decide +kernel
theorem dX11_init_72 : decode cX11_init 72 = .ok (.aload_n 0, 1) := by decide +kernel
theorem dX11_init_73 : decode cX11_init 73 = .ok (.getfield 19, 3) := by decide +kernel
theorem dX11_init_76 : decode cX11_init 76 = .ok (.aload_n 0, 1) := by decide +kernel
theorem dX11_init_77 : decode cX11_init 77 = .ok (.getfield 10, 3) := by decide +kernel
theorem dX11_init_80 : decode cX11_init 80 = .ok (.invokespecial 44, 3) := by decide +kernel
theorem dX11_init_83 : decode cX11_init 83 = .ok (.putfield 47, 3) := by decide +kernel
theorem dX11_init_86 : decode cX11_init 86 = .ok (.aload_n 0, 1) := by decide +kernel
theorem dX11_init_87 : decode cX11_init 87 = .ok (.iconst 0, 1) := by decide +kernel
theorem dX11_init_88 : decode cX11_init 88 = .ok (.putfield 51, 3) := by decide +kernel
theorem dX11_init_91 : decode cX11_init 91 = .ok (.aload_n 0, 1) := by decide +kernel
theorem dX11_init_92 : decode cX11_init 92 = .ok (.iconst 0, 1) := by decide +kernel
theorem dX11_init_93 : decode cX11_init 93 = .ok (.putfield 55, 3) := by decide +kernel
theorem dX11_init_96 : decode cX11_init 96 = .ok (.aload_n 0, 1) := by decide +kernel
theorem dX11_init_97 : decode cX11_init 97 = .ok (.lconst 0, 1) := by decide +kernel
theorem dX11_init_98 : decode cX11_init 98 = .ok (.putfield 59, 3) := by decide +kernel
theorem dX11_init_101 : decode cX11_init 101 = .ok (.return_, 1) := by decide +kernel
set_option maxRecDepth 20000 in
theorem ggX11_addType_X10_typeCount : GoodIn wsX11_addType wsX10_typeCount := goodIn_r _ [9, 10, 24, 25, 26, 27, 28] (by decide +kernel) (by decide +kernel)
set_option maxRecDepth 20000 in
theorem gX11_addType_X10_typeCount : GoodIn wsX11_addType (wsV RX11 63 RX10 yX10_typeCount wsX10_typeCount) := goodIn_app (goodIn_of _ (by decide +kernel)) ggX11_addType_X10_typeCount
set_option maxRecDepth 20000 in
theorem ggX11_addType_X10_newType : GoodIn wsX11_addType wsX10_newType := goodIn_r _ [14, 10, 24, 25, 26, 27, 28] (by decide +kernel) (by decide +kernel)
set_option maxRecDepth 20000 in
theorem gX11_addType_X10_newType : GoodIn wsX11_addType (wsV RX11 70 RX10 yX10_newType wsX10_newType) := goodIn_app (goodIn_of _ (by decide +kernel)) ggX11_addType_X10_newType
theorem dX11_addType_0 : decode cX11_addType 0 = .ok (.aload_n 0, 1) := by decide +kernel
theorem dX11_addType_1 : decode cX11_addType 1 = .ok (.getfield 10, 3) := by decide +kernel
theorem dX11_addType_4 : decode cX11_addType 4 = .ok (.invokevirtual 63, 3) := by decide +kernel
theorem dX11_addType_7 : decode cX11_addType 7 = .ok (.iconst 3, 1) := by decide +kernel
theorem dX11_addType_8 : decode cX11_addType 8 = .ok (.if_icmp .ge 10, 3) := by decide +kernel
theorem dX11_addType_11 : decode cX11_addType 11 = .ok (.aload_n 0, 1) := by decide +kernel
theorem dX11_addType_12 : decode cX11_addType 12 = .ok (.getfield 51, 3) := by decide +kernel
theorem dX11_addType_15 : decode cX11_addType 15 = .ok (.ifCond .eq 11, 3) := by decide +kernel
theorem dX11_addType_26 : decode cX11_addType 26 = .ok (.aload_n 0, 1) := by decide +kernel
theorem dX11_addType_27 : decode cX11_addType 27 = .ok (.getfield 10, 3) := by decide +kernel
theorem dX11_addType_30 : decode cX11_addType 30 = .ok (.invokevirtual 70, 3) := by decide +kernel
theorem dX11_addType_33 : decode cX11_addType 33 = .ok (.ireturn, 1) := by decide +kernel
set_option maxRecDepth 20000 in
theorem ggX11_addConstructor_X10_hasType : GoodIn wsX11_addConstructor wsX10_hasType := goodIn_r _ [13, 14, 86, 87, 88, 89, 90] (by decide +kernel) (by decide +kernel)
set_option maxRecDepth 20000 in
theorem gX11_addConstructor_X10_hasType : GoodIn wsX11_addConstructor (wsV RX11 73 RX10 yX10_hasType wsX10_hasType) := goodIn_app (goodIn_of _ (by decide +kernel)) ggX11_addConstructor_X10_hasType
theorem dX11_addConstructor_0 : decode cX11_addConstructor 0 = .ok (.aload_n 0, 1) := by decide +kernel
theorem dX11_addConstructor_1 : decode cX11_addConstructor 1 = .ok (.getfield 10, 3) := by decide +kernel
theorem dX11_addConstructor_4 : decode cX11_addConstructor 4 = .ok (.iload_n 1, 1) := by decide +kernel
theorem dX11_addConstructor_5 : decode cX11_addConstructor 5 = .ok (.invokevirtual 73, 3) := by decide +kernel
theorem dX11_addConstructor_8 : decode cX11_addConstructor 8 = .ok (.ifCond .eq 19, 3) := by decide +kernel
theorem dX11_addConstructor_27 : decode cX11_addConstructor 27 = .ok (.new 80, 3) := by decide +kernel
theorem dX11_addConstructor_30 : decode cX11_addConstructor 30 = .ok (.dup, 1) := by decide +kernel
theorem dX11_addConstructor_31 : decode cX11_addConstructor 31 = .ok (.invokespecial 82, 3) := by decide +kernel
theorem dX11_addConstructor_34 : decode cX11_addConstructor 34 = .ok (.athrow, 1) := by decide +kernel
set_option maxRecDepth 20000 in
theorem ggX11_term_X10_hasConstructor : GoodIn wsX11_term wsX10_hasConstructor := goodIn_r _ [12, 13, 14, 15, 16, 17, 18, 19, 126, 127, 128, 129, 130, 131, 132, 133] (by decide +kernel) (by decide +kernel)
set_option maxRecDepth 20000 in
theorem gX11_term_X10_hasConstructor : GoodIn wsX11_term (wsV RX11 93 RX10 yX10_hasConstructor wsX10_hasConstructor) := goodIn_app (goodIn_of _ (by decide +kernel)) ggX11_term_X10_hasConstructor
theorem dX11_term_0 : decode cX11_term 0 = .ok (.aload_n 0, 1) := by decide +kernel
theorem dX11_term_1 : decode cX11_term 1 = .ok (.getfield 10, 3) := by decide +kernel
theorem dX11_term_4 : decode cX11_term 4 = .ok (.iload_n 1, 1) := by decide +kernel
theorem dX11_term_5 : decode cX11_term 5 = .ok (.invokevirtual 93, 3) := by decide +kernel
theorem dX11_term_8 : decode cX11_term 8 = .ok (.ifCond .eq 16, 3) := by decide +kernel
theorem dX11_term_24 : decode cX11_term 24 = .ok (.new 80, 3) := by decide +kernel
theorem dX11_term_27 : decode cX11_term 27 = .ok (.dup, 1) := by decide +kernel
theorem dX11_term_28 : decode cX11_term 28 = .ok (.invokespecial 82, 3) := by decide +kernel
theorem dX11_term_31 : decode cX11_term 31 = .ok (.athrow, 1) := by decide +kernel
set_option maxRecDepth 20000 in
theorem ggX11_constructorOf_X11_refuseMissingTerm : GoodIn wsX11_constructorOf wsX11_refuseMissingTerm := goodIn_ca (goodIn_r _ [6, 7, 8, 1, 9, 10, 11, 12, 13, 14, 15, 16, 17, 18, 19, 20, 31, 32, 33, 34, 35, 36, 37, 38, 39, 40, 41, 42, 43, 44, 45, 46, 47] (by decide +kernel) (by decide +kernel)) (goodIn_sub (fun _ h => List.mem_cons_of_mem _ (List.mem_append_left _ (List.mem_append_right _ h))) (by decide +kernel))
set_option maxRecDepth 20000 in
theorem gX11_constructorOf_X11_refuseMissingTerm : GoodIn wsX11_constructorOf (wsV RX11 106 RX11 yX11_refuseMissingTerm wsX11_refuseMissingTerm) := goodIn_app (goodIn_of _ (by decide +kernel)) ggX11_constructorOf_X11_refuseMissingTerm
theorem dX11_constructorOf_0 : decode cX11_constructorOf 0 = .ok (.aload_n 0, 1) := by decide +kernel
theorem dX11_constructorOf_1 : decode cX11_constructorOf 1 = .ok (.iload_n 1, 1) := by decide +kernel
theorem dX11_constructorOf_2 : decode cX11_constructorOf 2 = .ok (.invokevirtual 106, 3) := by decide +kernel
set_option maxRecDepth 20000 in
theorem ggX11_partOf_X11_refuseMissingTerm : GoodIn wsX11_partOf wsX11_refuseMissingTerm := goodIn_ca (goodIn_r _ [8, 9, 10, 3, 11, 12, 13, 14, 15, 16, 17, 18, 19, 20, 21, 22, 42, 43, 44, 45, 46, 47, 48, 49, 50, 51, 52, 53, 54, 55, 56, 57, 58] (by decide +kernel) (by decide +kernel)) (goodIn_sub (fun _ h => List.mem_cons_of_mem _ (List.mem_append_left _ (List.mem_append_right _ h))) (by decide +kernel))
set_option maxRecDepth 20000 in
theorem gX11_partOf_X11_refuseMissingTerm : GoodIn wsX11_partOf (wsV RX11 106 RX11 yX11_refuseMissingTerm wsX11_refuseMissingTerm) := goodIn_app (goodIn_of _ (by decide +kernel)) ggX11_partOf_X11_refuseMissingTerm
theorem dX11_partOf_0 : decode cX11_partOf 0 = .ok (.aload_n 0, 1) := by decide +kernel
theorem dX11_partOf_1 : decode cX11_partOf 1 = .ok (.iload_n 1, 1) := by decide +kernel
theorem dX11_partOf_2 : decode cX11_partOf 2 = .ok (.invokevirtual 106, 3) := by decide +kernel
set_option maxRecDepth 20000 in
theorem ggX11_sizeOf_X11_refuseMissingTerm : GoodIn wsX11_sizeOf wsX11_refuseMissingTerm := goodIn_ca (goodIn_r _ [6, 7, 8, 1, 9, 10, 11, 12, 13, 14, 15, 16, 17, 18, 19, 20, 26, 27, 28, 29, 30, 31, 32, 33, 34, 35, 36, 37, 38, 39, 40, 41, 42] (by decide +kernel) (by decide +kernel)) (goodIn_sub (fun _ h => List.mem_cons_of_mem _ (List.mem_append_left _ (List.mem_append_right _ h))) (by decide +kernel))
set_option maxRecDepth 20000 in
theorem gX11_sizeOf_X11_refuseMissingTerm : GoodIn wsX11_sizeOf (wsV RX11 106 RX11 yX11_refuseMissingTerm wsX11_refuseMissingTerm) := goodIn_app (goodIn_of _ (by decide +kernel)) ggX11_sizeOf_X11_refuseMissingTerm
theorem dX11_sizeOf_0 : decode cX11_sizeOf 0 = .ok (.aload_n 0, 1) := by decide +kernel
theorem dX11_sizeOf_1 : decode cX11_sizeOf 1 = .ok (.iload_n 1, 1) := by decide +kernel
theorem dX11_sizeOf_2 : decode cX11_sizeOf 2 = .ok (.invokevirtual 106, 3) := by decide +kernel
set_option maxRecDepth 20000 in
theorem ggX11_addPredicate_X11_isTypeOrNone : GoodIn wsX11_addPredicate wsX11_isTypeOrNone := goodIn_r _ [13, 14, 15, 16, 17, 18, 19, 20, 174, 175, 176, 177, 178, 179, 180, 181, 182, 183, 184, 185, 186, 187] (by decide +kernel) (by decide +kernel)
set_option maxRecDepth 20000 in
theorem gX11_addPredicate_X11_isTypeOrNone : GoodIn wsX11_addPredicate (wsV RX11 77 RX11 yX11_isTypeOrNone wsX11_isTypeOrNone) := goodIn_app (goodIn_of _ (by decide +kernel)) ggX11_addPredicate_X11_isTypeOrNone
set_option maxRecDepth 20000 in
theorem ggX11_addPredicate_X7_predicateCount : GoodIn wsX11_addPredicate wsX7_predicateCount := goodIn_r _ [25, 26, 27, 28, 29, 30, 31, 32, 188, 189, 190, 191, 192, 193] (by decide +kernel) (by decide +kernel)
set_option maxRecDepth 20000 in
theorem gX11_addPredicate_X7_predicateCount : GoodIn wsX11_addPredicate (wsV RX11 128 RX7 yX7_predicateCount wsX7_predicateCount) := goodIn_app (goodIn_of _ (by decide +kernel)) ggX11_addPredicate_X7_predicateCount
set_option maxRecDepth 20000 in
theorem ggX11_addPredicate_X7_newPredicate : GoodIn wsX11_addPredicate wsX7_newPredicate := goodIn_ca (goodIn_r _ [36, 26, 37, 38, 39, 27, 28, 29, 30, 31, 32, 40, 41, 42, 43, 44, 45, 46, 47, 48, 49, 50, 51, 52, 53, 54, 55, 56, 57, 58, 59, 60, 61, 62, 63, 64, 65, 66, 67, 68, 12, 69, 70, 71, 72, 73, 74, 75, 76, 77, 78, 79, 80, 81, 82, 83, 84, 85, 86, 87, 88, 89, 90, 91, 92, 93, 94, 95, 96, 97, 98, 99, 100, 101, 102, 103, 104, 105, 106, 107, 108, 109, 110, 111, 112, 113, 114, 115, 116, 117, 118, 119, 120, 121, 122, 123, 124, 125, 126, 127, 128, 129, 130, 131, 132, 133, 134, 135, 136, 137, 138, 139, 140, 141, 142, 143, 144, 145, 146, 147, 148, 149, 150, 151, 152, 153, 154, 155, 156, 157, 158, 159, 160, 161, 162, 163, 164, 165, 166, 167, 168, 169, 170, 171, 172, 173, 188, 189, 190, 194, 195, 196, 197, 198, 191, 192, 193, 199, 200, 201, 202, 203, 204, 205, 206, 207, 208, 209, 210, 211, 212, 213, 214, 215] (by decide +kernel) (by decide +kernel)) (goodIn_sub (fun _ h => List.mem_cons_of_mem _ (List.mem_append_right _ h)) (by decide +kernel))
set_option maxRecDepth 20000 in
theorem gX11_addPredicate_X7_newPredicate : GoodIn wsX11_addPredicate (wsV RX11 131 RX7 yX7_newPredicate wsX7_newPredicate) := goodIn_app (goodIn_of _ (by decide +kernel)) ggX11_addPredicate_X7_newPredicate
theorem dX11_addPredicate_0 : decode cX11_addPredicate 0 = .ok (.aload_n 0, 1) := by decide +kernel
theorem dX11_addPredicate_1 : decode cX11_addPredicate 1 = .ok (.iload_n 1, 1) := by decide +kernel
theorem dX11_addPredicate_2 : decode cX11_addPredicate 2 = .ok (.invokevirtual 77, 3) := by decide +kernel
theorem dX11_addPredicate_5 : decode cX11_addPredicate 5 = .ok (.ifCond .eq 19, 3) := by decide +kernel
theorem dX11_addPredicate_8 : decode cX11_addPredicate 8 = .ok (.aload_n 0, 1) := by decide +kernel
theorem dX11_addPredicate_9 : decode cX11_addPredicate 9 = .ok (.iload_n 2, 1) := by decide +kernel
theorem dX11_addPredicate_10 : decode cX11_addPredicate 10 = .ok (.invokevirtual 77, 3) := by decide +kernel
theorem dX11_addPredicate_13 : decode cX11_addPredicate 13 = .ok (.ifCond .eq 11, 3) := by decide +kernel
theorem dX11_addPredicate_16 : decode cX11_addPredicate 16 = .ok (.aload_n 0, 1) := by decide +kernel
theorem dX11_addPredicate_17 : decode cX11_addPredicate 17 = .ok (.iload_n 3, 1) := by decide +kernel
theorem dX11_addPredicate_18 : decode cX11_addPredicate 18 = .ok (.invokevirtual 77, 3) := by decide +kernel
theorem dX11_addPredicate_21 : decode cX11_addPredicate 21 = .ok (.ifCond .ne 11, 3) := by decide +kernel
theorem dX11_addPredicate_24 : decode cX11_addPredicate 24 = .ok (.new 80, 3) := by decide +kernel
theorem dX11_addPredicate_27 : decode cX11_addPredicate 27 = .ok (.dup, 1) := by decide +kernel
theorem dX11_addPredicate_28 : decode cX11_addPredicate 28 = .ok (.invokespecial 82, 3) := by decide +kernel
theorem dX11_addPredicate_31 : decode cX11_addPredicate 31 = .ok (.athrow, 1) := by decide +kernel
theorem dX11_addPredicate_32 : decode cX11_addPredicate 32 = .ok (.iload_n 1, 1) := by decide +kernel
theorem dX11_addPredicate_33 : decode cX11_addPredicate 33 = .ok (.iconst (-1), 1) := by decide +kernel
theorem dX11_addPredicate_34 : decode cX11_addPredicate 34 = .ok (.if_icmp .ne 8, 3) := by decide +kernel
theorem dX11_addPredicate_37 : decode cX11_addPredicate 37 = .ok (.iload_n 2, 1) := by decide +kernel
theorem dX11_addPredicate_38 : decode cX11_addPredicate 38 = .ok (.iconst (-1), 1) := by decide +kernel
theorem dX11_addPredicate_39 : decode cX11_addPredicate 39 = .ok (.if_icmp .ne 13, 3) := by decide +kernel
theorem dX11_addPredicate_42 : decode cX11_addPredicate 42 = .ok (.iload_n 2, 1) := by decide +kernel
theorem dX11_addPredicate_43 : decode cX11_addPredicate 43 = .ok (.iconst (-1), 1) := by decide +kernel
theorem dX11_addPredicate_44 : decode cX11_addPredicate 44 = .ok (.if_icmp .ne 16, 3) := by decide +kernel
theorem dX11_addPredicate_47 : decode cX11_addPredicate 47 = .ok (.iload_n 3, 1) := by decide +kernel
theorem dX11_addPredicate_48 : decode cX11_addPredicate 48 = .ok (.iconst (-1), 1) := by decide +kernel
theorem dX11_addPredicate_49 : decode cX11_addPredicate 49 = .ok (.if_icmp .eq 11, 3) := by decide +kernel
theorem dX11_addPredicate_60 : decode cX11_addPredicate 60 = .ok (.aload_n 0, 1) := by decide +kernel
theorem dX11_addPredicate_61 : decode cX11_addPredicate 61 = .ok (.getfield 19, 3) := by decide +kernel
theorem dX11_addPredicate_64 : decode cX11_addPredicate 64 = .ok (.invokevirtual 128, 3) := by decide +kernel
theorem dX11_addPredicate_67 : decode cX11_addPredicate 67 = .ok (.iconst 5, 1) := by decide +kernel
theorem dX11_addPredicate_68 : decode cX11_addPredicate 68 = .ok (.if_icmp .ge 10, 3) := by decide +kernel
theorem dX11_addPredicate_71 : decode cX11_addPredicate 71 = .ok (.aload_n 0, 1) := by decide +kernel
theorem dX11_addPredicate_72 : decode cX11_addPredicate 72 = .ok (.getfield 51, 3) := by decide +kernel
theorem dX11_addPredicate_75 : decode cX11_addPredicate 75 = .ok (.ifCond .eq 11, 3) := by decide +kernel
theorem dX11_addPredicate_86 : decode cX11_addPredicate 86 = .ok (.aload_n 0, 1) := by decide +kernel
theorem dX11_addPredicate_87 : decode cX11_addPredicate 87 = .ok (.getfield 19, 3) := by decide +kernel
theorem dX11_addPredicate_90 : decode cX11_addPredicate 90 = .ok (.iload_n 1, 1) := by decide +kernel
theorem dX11_addPredicate_91 : decode cX11_addPredicate 91 = .ok (.iload_n 2, 1) := by decide +kernel
theorem dX11_addPredicate_92 : decode cX11_addPredicate 92 = .ok (.iload_n 3, 1) := by decide +kernel
theorem dX11_addPredicate_93 : decode cX11_addPredicate 93 = .ok (.invokevirtual 131, 3) := by decide +kernel
theorem dX11_addPredicate_96 : decode cX11_addPredicate 96 = .ok (.ireturn, 1) := by decide +kernel
set_option maxRecDepth 20000 in
theorem ggX11_addMode_X7_predicateAt : GoodIn wsX11_addMode wsX7_predicateAt := goodIn_r _ [13, 14, 15, 16, 17, 18, 19, 20, 21, 22, 23, 24, 25, 26, 27, 28, 29, 30, 31, 32, 33, 34, 35, 36, 37, 38, 142, 143, 144, 145, 146, 147] (by decide +kernel) (by decide +kernel)
set_option maxRecDepth 20000 in
theorem gX11_addMode_X7_predicateAt : GoodIn wsX11_addMode (wsV RX11 134 RX7 yX7_predicateAt wsX7_predicateAt) := goodIn_app (goodIn_of _ (by decide +kernel)) ggX11_addMode_X7_predicateAt
theorem dX11_addMode_0 : decode cX11_addMode 0 = .ok (.aload_n 0, 1) := by decide +kernel
theorem dX11_addMode_1 : decode cX11_addMode 1 = .ok (.getfield 19, 3) := by decide +kernel
theorem dX11_addMode_4 : decode cX11_addMode 4 = .ok (.iload_n 1, 1) := by decide +kernel
theorem dX11_addMode_5 : decode cX11_addMode 5 = .ok (.invokevirtual 134, 3) := by decide +kernel
theorem dX11_addMode_8 : decode cX11_addMode 8 = .ok (.astore 4, 2) := by decide +kernel
theorem dX11_addMode_10 : decode cX11_addMode 10 = .ok (.aload 4, 2) := by decide +kernel
theorem dX11_addMode_12 : decode cX11_addMode 12 = .ok (.ifnonnull 11, 3) := by decide +kernel
theorem dX11_addMode_15 : decode cX11_addMode 15 = .ok (.new 80, 3) := by decide +kernel
theorem dX11_addMode_18 : decode cX11_addMode 18 = .ok (.dup, 1) := by decide +kernel
theorem dX11_addMode_19 : decode cX11_addMode 19 = .ok (.invokespecial 82, 3) := by decide +kernel
theorem dX11_addMode_22 : decode cX11_addMode 22 = .ok (.athrow, 1) := by decide +kernel
set_option maxRecDepth 20000 in
theorem ggX11_addClause_X7_predicateAt : GoodIn wsX11_addClause wsX7_predicateAt := goodIn_r _ [11, 12, 13, 14, 15, 16, 17, 18, 19, 20, 21, 22, 23, 24, 25, 26, 27, 28, 29, 30, 31, 32, 33, 34, 35, 36, 194, 195, 196, 197, 198, 199] (by decide +kernel) (by decide +kernel)
set_option maxRecDepth 20000 in
theorem gX11_addClause_X7_predicateAt : GoodIn wsX11_addClause (wsV RX11 134 RX7 yX7_predicateAt wsX7_predicateAt) := goodIn_app (goodIn_of _ (by decide +kernel)) ggX11_addClause_X7_predicateAt
theorem dX11_addClause_0 : decode cX11_addClause 0 = .ok (.aload_n 0, 1) := by decide +kernel
theorem dX11_addClause_1 : decode cX11_addClause 1 = .ok (.getfield 19, 3) := by decide +kernel
theorem dX11_addClause_4 : decode cX11_addClause 4 = .ok (.iload_n 1, 1) := by decide +kernel
theorem dX11_addClause_5 : decode cX11_addClause 5 = .ok (.invokevirtual 134, 3) := by decide +kernel
theorem dX11_addClause_8 : decode cX11_addClause 8 = .ok (.astore_n 2, 1) := by decide +kernel
theorem dX11_addClause_9 : decode cX11_addClause 9 = .ok (.aload_n 2, 1) := by decide +kernel
theorem dX11_addClause_10 : decode cX11_addClause 10 = .ok (.ifnonnull 11, 3) := by decide +kernel
theorem dX11_addClause_13 : decode cX11_addClause 13 = .ok (.new 80, 3) := by decide +kernel
theorem dX11_addClause_16 : decode cX11_addClause 16 = .ok (.dup, 1) := by decide +kernel
theorem dX11_addClause_17 : decode cX11_addClause 17 = .ok (.invokespecial 82, 3) := by decide +kernel
theorem dX11_addClause_20 : decode cX11_addClause 20 = .ok (.athrow, 1) := by decide +kernel
set_option maxRecDepth 20000 in
theorem ggX11_addBuild_X7_clauseAt : GoodIn wsX11_addBuild wsX7_clauseAt := goodIn_r _ [12, 13, 14, 15, 16, 17, 18, 19, 20, 21, 22, 23, 24, 25, 26, 27, 28, 29, 30, 31, 32, 33, 34, 35, 36, 37, 194, 195, 196, 197, 198, 199] (by decide +kernel) (by decide +kernel)
set_option maxRecDepth 20000 in
theorem gX11_addBuild_X7_clauseAt : GoodIn wsX11_addBuild (wsV RX11 161 RX7 yX7_clauseAt wsX7_clauseAt) := goodIn_app (goodIn_of _ (by decide +kernel)) ggX11_addBuild_X7_clauseAt
theorem dX11_addBuild_0 : decode cX11_addBuild 0 = .ok (.aload_n 0, 1) := by decide +kernel
theorem dX11_addBuild_1 : decode cX11_addBuild 1 = .ok (.getfield 19, 3) := by decide +kernel
theorem dX11_addBuild_4 : decode cX11_addBuild 4 = .ok (.iload_n 1, 1) := by decide +kernel
theorem dX11_addBuild_5 : decode cX11_addBuild 5 = .ok (.invokevirtual 161, 3) := by decide +kernel
theorem dX11_addBuild_8 : decode cX11_addBuild 8 = .ok (.astore 6, 2) := by decide +kernel
theorem dX11_addBuild_10 : decode cX11_addBuild 10 = .ok (.aload 6, 2) := by decide +kernel
theorem dX11_addBuild_12 : decode cX11_addBuild 12 = .ok (.ifnull 25, 3) := by decide +kernel
theorem dX11_addBuild_37 : decode cX11_addBuild 37 = .ok (.new 80, 3) := by decide +kernel
theorem dX11_addBuild_40 : decode cX11_addBuild 40 = .ok (.dup, 1) := by decide +kernel
theorem dX11_addBuild_41 : decode cX11_addBuild 41 = .ok (.invokespecial 82, 3) := by decide +kernel
theorem dX11_addBuild_44 : decode cX11_addBuild 44 = .ok (.athrow, 1) := by decide +kernel
set_option maxRecDepth 20000 in
theorem ggX11_addSame_X7_clauseAt : GoodIn wsX11_addSame wsX7_clauseAt := goodIn_r _ [13, 14, 15, 16, 17, 18, 19, 20, 21, 22, 23, 24, 25, 26, 27, 28, 29, 30, 31, 32, 33, 34, 35, 36, 37, 38, 171, 172, 173, 174, 175, 176] (by decide +kernel) (by decide +kernel)
set_option maxRecDepth 20000 in
theorem gX11_addSame_X7_clauseAt : GoodIn wsX11_addSame (wsV RX11 161 RX7 yX7_clauseAt wsX7_clauseAt) := goodIn_app (goodIn_of _ (by decide +kernel)) ggX11_addSame_X7_clauseAt
theorem dX11_addSame_0 : decode cX11_addSame 0 = .ok (.aload_n 0, 1) := by decide +kernel
theorem dX11_addSame_1 : decode cX11_addSame 1 = .ok (.getfield 19, 3) := by decide +kernel
theorem dX11_addSame_4 : decode cX11_addSame 4 = .ok (.iload_n 1, 1) := by decide +kernel
theorem dX11_addSame_5 : decode cX11_addSame 5 = .ok (.invokevirtual 161, 3) := by decide +kernel
theorem dX11_addSame_8 : decode cX11_addSame 8 = .ok (.astore 4, 2) := by decide +kernel
theorem dX11_addSame_10 : decode cX11_addSame 10 = .ok (.aload 4, 2) := by decide +kernel
theorem dX11_addSame_12 : decode cX11_addSame 12 = .ok (.ifnull 12, 3) := by decide +kernel
theorem dX11_addSame_24 : decode cX11_addSame 24 = .ok (.new 80, 3) := by decide +kernel
theorem dX11_addSame_27 : decode cX11_addSame 27 = .ok (.dup, 1) := by decide +kernel
theorem dX11_addSame_28 : decode cX11_addSame 28 = .ok (.invokespecial 82, 3) := by decide +kernel
theorem dX11_addSame_31 : decode cX11_addSame 31 = .ok (.athrow, 1) := by decide +kernel
set_option maxRecDepth 20000 in
theorem ggX11_addCall_X7_clauseAt : GoodIn wsX11_addCall wsX7_clauseAt := goodIn_r _ [11, 12, 13, 14, 15, 16, 17, 18, 19, 20, 21, 22, 23, 24, 25, 26, 27, 28, 29, 30, 31, 32, 33, 34, 35, 36, 191, 192, 193, 194, 195, 196] (by decide +kernel) (by decide +kernel)
set_option maxRecDepth 20000 in
theorem gX11_addCall_X7_clauseAt : GoodIn wsX11_addCall (wsV RX11 161 RX7 yX7_clauseAt wsX7_clauseAt) := goodIn_app (goodIn_of _ (by decide +kernel)) ggX11_addCall_X7_clauseAt
set_option maxRecDepth 20000 in
theorem ggX11_addCall_X7_predicateAt : GoodIn wsX11_addCall wsX7_predicateAt := goodIn_r _ [40, 41, 42, 14, 15, 16, 17, 18, 19, 20, 21, 22, 23, 24, 25, 26, 27, 28, 29, 30, 31, 32, 33, 34, 35, 36, 191, 192, 193, 194, 195, 196] (by decide +kernel) (by decide +kernel)
set_option maxRecDepth 20000 in
theorem gX11_addCall_X7_predicateAt : GoodIn wsX11_addCall (wsV RX11 134 RX7 yX7_predicateAt wsX7_predicateAt) := goodIn_app (goodIn_of _ (by decide +kernel)) ggX11_addCall_X7_predicateAt
theorem dX11_addCall_0 : decode cX11_addCall 0 = .ok (.aload_n 0, 1) := by decide +kernel
theorem dX11_addCall_1 : decode cX11_addCall 1 = .ok (.getfield 19, 3) := by decide +kernel
theorem dX11_addCall_4 : decode cX11_addCall 4 = .ok (.iload_n 1, 1) := by decide +kernel
theorem dX11_addCall_5 : decode cX11_addCall 5 = .ok (.invokevirtual 161, 3) := by decide +kernel
theorem dX11_addCall_8 : decode cX11_addCall 8 = .ok (.astore 7, 2) := by decide +kernel
theorem dX11_addCall_10 : decode cX11_addCall 10 = .ok (.aload_n 0, 1) := by decide +kernel
theorem dX11_addCall_11 : decode cX11_addCall 11 = .ok (.getfield 19, 3) := by decide +kernel
theorem dX11_addCall_14 : decode cX11_addCall 14 = .ok (.iload_n 2, 1) := by decide +kernel
theorem dX11_addCall_15 : decode cX11_addCall 15 = .ok (.invokevirtual 134, 3) := by decide +kernel
theorem dX11_addCall_18 : decode cX11_addCall 18 = .ok (.astore 8, 2) := by decide +kernel
theorem dX11_addCall_20 : decode cX11_addCall 20 = .ok (.aload 7, 2) := by decide +kernel
theorem dX11_addCall_22 : decode cX11_addCall 22 = .ok (.ifnull 19, 3) := by decide +kernel
theorem dX11_addCall_41 : decode cX11_addCall 41 = .ok (.new 80, 3) := by decide +kernel
theorem dX11_addCall_44 : decode cX11_addCall 44 = .ok (.dup, 1) := by decide +kernel
theorem dX11_addCall_45 : decode cX11_addCall 45 = .ok (.invokespecial 82, 3) := by decide +kernel
theorem dX11_addCall_48 : decode cX11_addCall 48 = .ok (.athrow, 1) := by decide +kernel
set_option maxRecDepth 20000 in
theorem ggX11_compile_X7_analyse : GoodIn wsX11_compile wsX7_analyse := goodIn_ca (goodIn_r _ [10, 11, 12, 13, 14, 15, 16, 17, 18, 19, 20, 21, 22, 23, 24, 25, 26, 27, 28, 29, 30, 31, 32, 33, 34, 35, 36, 37, 38, 9, 39, 40, 41, 42, 43, 44, 45, 46, 47, 48, 49, 50, 51, 52, 53, 54, 55, 56, 57, 58, 59, 60, 61, 62, 63, 64, 65, 66, 67, 68, 69, 70, 71, 72, 73, 74, 75, 76, 77, 78, 79, 80, 81, 82, 83, 84, 85, 86, 87, 88, 89, 90, 91, 92, 93, 94, 95, 96, 97, 98, 99, 100, 101, 102, 103, 104, 105, 106, 107, 108, 109, 110, 111, 112, 113, 114, 115, 116, 117, 118, 119, 120, 121, 122, 123, 124, 125, 126, 127, 128, 129, 130, 131, 132, 133, 134, 135, 136, 137, 138, 139, 140, 141, 142, 143, 144, 145, 146, 147, 148, 149, 150, 151, 152, 153, 154, 155, 156, 157, 158, 159, 160, 161, 162, 163, 164, 165, 166, 167, 168, 169, 170, 171, 172, 173, 174, 175, 176, 177, 178, 179, 180, 181, 182, 183, 184, 185, 186, 187, 188, 189, 190, 191, 192, 193, 194, 195, 196, 197, 198, 199, 200, 201, 202, 203, 204, 205, 206, 207, 208, 209, 210, 211, 212, 213, 214, 215, 216, 217, 218, 219, 220, 221, 222, 223, 224, 225, 252, 253, 254, 255, 256, 257, 258, 259, 260, 261, 262, 263, 264, 265, 266, 267, 268, 269, 270, 271, 272, 273, 274, 275, 276, 277, 278, 279, 280, 281, 282, 283, 284, 285, 286, 287, 288, 289, 290, 291, 292] (by decide +kernel) (by decide +kernel)) (goodIn_sub (fun _ h => List.mem_cons_of_mem _ (List.mem_append_right _ h)) (by decide +kernel))
set_option maxRecDepth 20000 in
theorem gX11_compile_X7_analyse : GoodIn wsX11_compile (wsV RX11 192 RX7 yX7_analyse wsX7_analyse) := goodIn_app (goodIn_of _ (by decide +kernel)) ggX11_compile_X7_analyse
set_option maxRecDepth 20000 in
theorem ggX11_compile_X7_faultCount : GoodIn wsX11_compile wsX7_faultCount := goodIn_r _ [229, 11, 12, 13, 14, 15, 16, 17, 18, 19, 20, 21, 22, 23, 24, 25, 26, 27, 28, 29, 30, 31, 32, 33, 34, 35, 230, 231, 232, 111, 233, 234, 235, 236, 237, 238, 239, 240, 241, 242, 252, 253, 254, 264, 265, 266, 255, 256, 257, 258, 259, 260, 261, 262, 263] (by decide +kernel) (by decide +kernel)
set_option maxRecDepth 20000 in
theorem gX11_compile_X7_faultCount : GoodIn wsX11_compile (wsV RX11 196 RX7 yX7_faultCount wsX7_faultCount) := goodIn_app (goodIn_of _ (by decide +kernel)) ggX11_compile_X7_faultCount
theorem dX11_compile_0 : decode cX11_compile 0 = .ok (.aload_n 0, 1) := by decide +kernel
theorem dX11_compile_1 : decode cX11_compile 1 = .ok (.getfield 51, 3) := by decide +kernel
theorem dX11_compile_4 : decode cX11_compile 4 = .ok (.ifCond .eq 11, 3) := by decide +kernel
theorem dX11_compile_15 : decode cX11_compile 15 = .ok (.aload_n 0, 1) := by decide +kernel
theorem dX11_compile_16 : decode cX11_compile 16 = .ok (.getfield 19, 3) := by decide +kernel
theorem dX11_compile_19 : decode cX11_compile 19 = .ok (.aload_n 0, 1) := by decide +kernel
theorem dX11_compile_20 : decode cX11_compile 20 = .ok (.getfield 10, 3) := by decide +kernel
theorem dX11_compile_23 : decode cX11_compile 23 = .ok (.invokevirtual 192, 3) := by decide +kernel
theorem dX11_compile_26 : decode cX11_compile 26 = .ok (.aload_n 0, 1) := by decide +kernel
theorem dX11_compile_27 : decode cX11_compile 27 = .ok (.iconst 1, 1) := by decide +kernel
theorem dX11_compile_28 : decode cX11_compile 28 = .ok (.putfield 51, 3) := by decide +kernel
theorem dX11_compile_31 : decode cX11_compile 31 = .ok (.aload_n 0, 1) := by decide +kernel
theorem dX11_compile_32 : decode cX11_compile 32 = .ok (.getfield 19, 3) := by decide +kernel
theorem dX11_compile_35 : decode cX11_compile 35 = .ok (.invokevirtual 196, 3) := by decide +kernel
theorem dX11_compile_38 : decode cX11_compile 38 = .ok (.ireturn, 1) := by decide +kernel
set_option maxRecDepth 20000 in
theorem ggX11_open_X11_refuseUncompiled : GoodIn wsX11_open wsX11_refuseUncompiled := goodIn_ca (goodIn_r _ [8, 9, 10, 2, 11, 12, 13, 14, 15, 16, 17, 18, 19] (by decide +kernel) (by decide +kernel)) (goodIn_sub (fun _ h => List.mem_cons_of_mem _ (List.mem_append_right _ h)) (by decide +kernel))
set_option maxRecDepth 20000 in
theorem gX11_open_X11_refuseUncompiled : GoodIn wsX11_open (wsV RX11 199 RX11 yX11_refuseUncompiled wsX11_refuseUncompiled) := goodIn_app (goodIn_of _ (by decide +kernel)) ggX11_open_X11_refuseUncompiled
theorem dX11_open_0 : decode cX11_open 0 = .ok (.aload_n 0, 1) := by decide +kernel
theorem dX11_open_1 : decode cX11_open 1 = .ok (.invokevirtual 199, 3) := by decide +kernel
set_option maxRecDepth 20000 in
theorem ggX11_fault_X11_compiledMode : GoodIn wsX11_fault wsX11_compiledMode := goodIn_ca (goodIn_ca (goodIn_r _ [5, 6, 7, 8, 9, 10, 11, 12, 13, 14, 15, 16, 17, 18, 19, 20, 21, 22, 23, 24, 25, 26, 27, 28, 29, 30, 31, 32, 33, 34, 35, 36, 37, 38, 39, 40, 41, 42, 43, 44, 45, 46, 47, 48, 49, 50, 51, 52, 53, 54, 4, 55, 56, 57, 58, 73, 74, 75, 76, 77, 78, 79, 80, 81, 82, 83, 84, 85, 86, 87, 88, 89, 90, 91, 92] (by decide +kernel) (by decide +kernel)) (goodIn_sub (fun _ h => List.mem_cons_of_mem _ (List.mem_append_left _ (List.mem_append_right _ h))) (by decide +kernel))) (goodIn_sub (fun _ h => List.mem_cons_of_mem _ (List.mem_append_right _ h)) (by decide +kernel))
set_option maxRecDepth 20000 in
theorem gX11_fault_X11_compiledMode : GoodIn wsX11_fault (wsV RX11 202 RX11 yX11_compiledMode wsX11_compiledMode) := goodIn_app (goodIn_of _ (by decide +kernel)) ggX11_fault_X11_compiledMode
theorem dX11_fault_0 : decode cX11_fault 0 = .ok (.aload_n 0, 1) := by decide +kernel
theorem dX11_fault_1 : decode cX11_fault 1 = .ok (.iload_n 1, 1) := by decide +kernel
theorem dX11_fault_2 : decode cX11_fault 2 = .ok (.iload_n 2, 1) := by decide +kernel
theorem dX11_fault_3 : decode cX11_fault 3 = .ok (.invokevirtual 202, 3) := by decide +kernel
set_option maxRecDepth 20000 in
theorem ggX11_isGood_X11_compiledMode : GoodIn wsX11_isGood wsX11_compiledMode := goodIn_ca (goodIn_ca (goodIn_r _ [5, 6, 7, 8, 9, 10, 11, 12, 13, 14, 15, 16, 17, 18, 19, 20, 21, 22, 23, 24, 25, 26, 27, 28, 29, 30, 31, 32, 33, 34, 35, 36, 37, 38, 39, 40, 41, 42, 43, 44, 45, 46, 47, 48, 49, 50, 51, 52, 53, 54, 4, 55, 56, 57, 58, 68, 69, 70, 71, 72, 73, 74, 75, 76, 77, 78, 79, 80, 81, 82, 83, 84, 85, 86, 87] (by decide +kernel) (by decide +kernel)) (goodIn_sub (fun _ h => List.mem_cons_of_mem _ (List.mem_append_left _ (List.mem_append_right _ h))) (by decide +kernel))) (goodIn_sub (fun _ h => List.mem_cons_of_mem _ (List.mem_append_right _ h)) (by decide +kernel))
set_option maxRecDepth 20000 in
theorem gX11_isGood_X11_compiledMode : GoodIn wsX11_isGood (wsV RX11 202 RX11 yX11_compiledMode wsX11_compiledMode) := goodIn_app (goodIn_of _ (by decide +kernel)) ggX11_isGood_X11_compiledMode
theorem dX11_isGood_0 : decode cX11_isGood 0 = .ok (.aload_n 0, 1) := by decide +kernel
theorem dX11_isGood_1 : decode cX11_isGood 1 = .ok (.iload_n 1, 1) := by decide +kernel
theorem dX11_isGood_2 : decode cX11_isGood 2 = .ok (.iload_n 2, 1) := by decide +kernel
theorem dX11_isGood_3 : decode cX11_isGood 3 = .ok (.invokevirtual 202, 3) := by decide +kernel
set_option maxRecDepth 20000 in
theorem ggX11_found_X11_compiledMode : GoodIn wsX11_found wsX11_compiledMode := goodIn_ca (goodIn_ca (goodIn_r _ [7, 8, 9, 10, 11, 12, 13, 14, 15, 16, 17, 18, 19, 20, 21, 22, 23, 24, 25, 26, 27, 28, 29, 30, 31, 32, 33, 34, 35, 36, 37, 38, 39, 40, 41, 42, 43, 44, 45, 46, 47, 48, 49, 50, 51, 52, 53, 54, 55, 56, 6, 57, 58, 59, 60, 77, 78, 79, 80, 81, 82, 83, 84, 85, 86, 87, 88, 89, 90, 91, 92, 93, 94, 95, 96] (by decide +kernel) (by decide +kernel)) (goodIn_sub (fun _ h => List.mem_cons_of_mem _ (List.mem_append_left _ (List.mem_append_right _ h))) (by decide +kernel))) (goodIn_sub (fun _ h => List.mem_cons_of_mem _ (List.mem_append_right _ h)) (by decide +kernel))
set_option maxRecDepth 20000 in
theorem gX11_found_X11_compiledMode : GoodIn wsX11_found (wsV RX11 202 RX11 yX11_compiledMode wsX11_compiledMode) := goodIn_app (goodIn_of _ (by decide +kernel)) ggX11_found_X11_compiledMode
theorem dX11_found_0 : decode cX11_found 0 = .ok (.aload_n 0, 1) := by decide +kernel
theorem dX11_found_1 : decode cX11_found 1 = .ok (.iload_n 1, 1) := by decide +kernel
theorem dX11_found_2 : decode cX11_found 2 = .ok (.iload_n 2, 1) := by decide +kernel
theorem dX11_found_3 : decode cX11_found 3 = .ok (.invokevirtual 202, 3) := by decide +kernel
set_option maxRecDepth 20000 in
theorem ggX11_switchOf_X11_compiledMode : GoodIn wsX11_switchOf wsX11_compiledMode := goodIn_ca (goodIn_ca (goodIn_r _ [7, 8, 9, 10, 11, 12, 13, 14, 15, 16, 17, 18, 19, 20, 21, 22, 23, 24, 25, 26, 27, 28, 29, 30, 31, 32, 33, 34, 35, 36, 37, 38, 39, 40, 41, 42, 43, 44, 45, 46, 47, 48, 49, 50, 51, 52, 53, 54, 55, 56, 6, 57, 58, 59, 60, 70, 71, 72, 73, 74, 75, 76, 77, 78, 79, 80, 81, 82, 83, 84, 85, 86, 87, 88, 89] (by decide +kernel) (by decide +kernel)) (goodIn_sub (fun _ h => List.mem_cons_of_mem _ (List.mem_append_left _ (List.mem_append_right _ h))) (by decide +kernel))) (goodIn_sub (fun _ h => List.mem_cons_of_mem _ (List.mem_append_right _ h)) (by decide +kernel))
set_option maxRecDepth 20000 in
theorem gX11_switchOf_X11_compiledMode : GoodIn wsX11_switchOf (wsV RX11 202 RX11 yX11_compiledMode wsX11_compiledMode) := goodIn_app (goodIn_of _ (by decide +kernel)) ggX11_switchOf_X11_compiledMode
theorem dX11_switchOf_0 : decode cX11_switchOf 0 = .ok (.aload_n 0, 1) := by decide +kernel
theorem dX11_switchOf_1 : decode cX11_switchOf 1 = .ok (.iload_n 1, 1) := by decide +kernel
theorem dX11_switchOf_2 : decode cX11_switchOf 2 = .ok (.iload_n 2, 1) := by decide +kernel
theorem dX11_switchOf_3 : decode cX11_switchOf 3 = .ok (.invokevirtual 202, 3) := by decide +kernel
set_option maxRecDepth 20000 in
theorem ggX11_goalAt_X11_orderedClause : GoodIn wsX11_goalAt wsX11_orderedClause := goodIn_ca (goodIn_ca (goodIn_r _ [7, 8, 9, 10, 11, 12, 13, 14, 15, 16, 17, 18, 19, 20, 21, 22, 23, 24, 25, 26, 27, 28, 29, 30, 31, 32, 33, 34, 35, 36, 37, 38, 39, 40, 41, 42, 43, 44, 45, 46, 47, 48, 49, 50, 51, 52, 6, 53, 54, 55, 56, 68, 69, 70, 71, 72, 73, 74, 75, 76, 77, 78, 79, 80, 81, 82, 83, 84, 85, 86, 87, 88, 89, 90, 91, 92, 93, 94, 95, 96] (by decide +kernel) (by decide +kernel)) (goodIn_sub (fun _ h => List.mem_cons_of_mem _ (List.mem_append_left _ (List.mem_append_left _ (List.mem_append_right _ h)))) (by decide +kernel))) (goodIn_sub (fun _ h => List.mem_cons_of_mem _ (List.mem_append_left _ (List.mem_append_right _ h))) (by decide +kernel))
set_option maxRecDepth 20000 in
theorem gX11_goalAt_X11_orderedClause : GoodIn wsX11_goalAt (wsV RX11 224 RX11 yX11_orderedClause wsX11_orderedClause) := goodIn_app (goodIn_of _ (by decide +kernel)) ggX11_goalAt_X11_orderedClause
theorem dX11_goalAt_0 : decode cX11_goalAt 0 = .ok (.aload_n 0, 1) := by decide +kernel
theorem dX11_goalAt_1 : decode cX11_goalAt 1 = .ok (.iload_n 1, 1) := by decide +kernel
theorem dX11_goalAt_2 : decode cX11_goalAt 2 = .ok (.iload_n 2, 1) := by decide +kernel
theorem dX11_goalAt_3 : decode cX11_goalAt 3 = .ok (.invokevirtual 224, 3) := by decide +kernel
set_option maxRecDepth 20000 in
theorem ggX11_chosenAt_X11_orderedClause : GoodIn wsX11_chosenAt wsX11_orderedClause := goodIn_ca (goodIn_ca (goodIn_r _ [7, 8, 9, 10, 11, 12, 13, 14, 15, 16, 17, 18, 19, 20, 21, 22, 23, 24, 25, 26, 27, 28, 29, 30, 31, 32, 33, 34, 35, 36, 37, 38, 39, 40, 41, 42, 43, 44, 45, 46, 47, 48, 49, 50, 51, 52, 6, 53, 54, 55, 56, 77, 78, 79, 80, 81, 82, 83, 84, 85, 86, 87, 88, 89, 90, 91, 92, 93, 94, 95, 96, 97, 98, 99, 100, 101, 102, 103, 104, 105] (by decide +kernel) (by decide +kernel)) (goodIn_sub (fun _ h => List.mem_cons_of_mem _ (List.mem_append_left _ (List.mem_append_left _ (List.mem_append_right _ h)))) (by decide +kernel))) (goodIn_sub (fun _ h => List.mem_cons_of_mem _ (List.mem_append_left _ (List.mem_append_right _ h))) (by decide +kernel))
set_option maxRecDepth 20000 in
theorem gX11_chosenAt_X11_orderedClause : GoodIn wsX11_chosenAt (wsV RX11 224 RX11 yX11_orderedClause wsX11_orderedClause) := goodIn_app (goodIn_of _ (by decide +kernel)) ggX11_chosenAt_X11_orderedClause
theorem dX11_chosenAt_0 : decode cX11_chosenAt 0 = .ok (.aload_n 0, 1) := by decide +kernel
theorem dX11_chosenAt_1 : decode cX11_chosenAt 1 = .ok (.iload_n 1, 1) := by decide +kernel
theorem dX11_chosenAt_2 : decode cX11_chosenAt 2 = .ok (.iload_n 2, 1) := by decide +kernel
theorem dX11_chosenAt_3 : decode cX11_chosenAt 3 = .ok (.invokevirtual 224, 3) := by decide +kernel
set_option maxRecDepth 20000 in
theorem ggX11_ask_X7_modeAt : GoodIn wsX11_ask wsX7_modeAt := goodIn_r _ [17, 18, 19, 20, 16, 21, 22, 23, 24, 25, 26, 27, 28, 29, 30, 31, 32, 33, 34, 35, 36, 37, 38, 39, 40, 41, 42, 43, 44, 45, 46, 47, 48, 49, 50, 51, 52, 53, 54, 55, 481, 482, 483, 484, 485, 486, 487, 488, 489, 490, 491] (by decide +kernel) (by decide +kernel)
set_option maxRecDepth 20000 in
theorem gX11_ask_X7_modeAt : GoodIn wsX11_ask (wsV RX11 237 RX7 yX7_modeAt wsX7_modeAt) := goodIn_app (goodIn_of _ (by decide +kernel)) ggX11_ask_X7_modeAt
theorem dX11_ask_0 : decode cX11_ask 0 = .ok (.aload_n 0, 1) := by decide +kernel
theorem dX11_ask_1 : decode cX11_ask 1 = .ok (.getfield 19, 3) := by decide +kernel
theorem dX11_ask_4 : decode cX11_ask 4 = .ok (.iload_n 1, 1) := by decide +kernel
theorem dX11_ask_5 : decode cX11_ask 5 = .ok (.iload_n 2, 1) := by decide +kernel
theorem dX11_ask_6 : decode cX11_ask 6 = .ok (.invokevirtual 237, 3) := by decide +kernel
theorem dX11_ask_9 : decode cX11_ask 9 = .ok (.astore 6, 2) := by decide +kernel
theorem dX11_ask_11 : decode cX11_ask 11 = .ok (.aload 6, 2) := by decide +kernel
theorem dX11_ask_13 : decode cX11_ask 13 = .ok (.ifnull 17, 3) := by decide +kernel
theorem dX11_ask_30 : decode cX11_ask 30 = .ok (.new 80, 3) := by decide +kernel
theorem dX11_ask_33 : decode cX11_ask 33 = .ok (.dup, 1) := by decide +kernel
theorem dX11_ask_34 : decode cX11_ask 34 = .ok (.invokespecial 82, 3) := by decide +kernel
theorem dX11_ask_37 : decode cX11_ask 37 = .ok (.athrow, 1) := by decide +kernel
set_option maxRecDepth 20000 in
theorem ggX11_ending_X11_refuseUnasked : GoodIn wsX11_ending wsX11_refuseUnasked := goodIn_ca (goodIn_r _ [6, 7, 8, 9, 10, 11, 12, 13, 14, 15, 16, 17, 18] (by decide +kernel) (by decide +kernel)) (goodIn_sub (fun _ h => List.mem_cons_of_mem _ (List.mem_append_right _ h)) (by decide +kernel))
set_option maxRecDepth 20000 in
theorem gX11_ending_X11_refuseUnasked : GoodIn wsX11_ending (wsV RX11 264 RX11 yX11_refuseUnasked wsX11_refuseUnasked) := goodIn_app (goodIn_of _ (by decide +kernel)) ggX11_ending_X11_refuseUnasked
theorem dX11_ending_0 : decode cX11_ending 0 = .ok (.aload_n 0, 1) := by decide +kernel
theorem dX11_ending_1 : decode cX11_ending 1 = .ok (.invokevirtual 264, 3) := by decide +kernel
set_option maxRecDepth 20000 in
theorem ggX11_answerAt_X11_refuseUnasked : GoodIn wsX11_answerAt wsX11_refuseUnasked := goodIn_ca (goodIn_r _ [8, 9, 10, 11, 46, 47, 48, 49, 50, 51, 52, 53, 54] (by decide +kernel) (by decide +kernel)) (goodIn_sub (fun _ h => List.mem_cons_of_mem _ (List.mem_append_left _ (List.mem_append_right _ h))) (by decide +kernel))
set_option maxRecDepth 20000 in
theorem gX11_answerAt_X11_refuseUnasked : GoodIn wsX11_answerAt (wsV RX11 264 RX11 yX11_refuseUnasked wsX11_refuseUnasked) := goodIn_app (goodIn_of _ (by decide +kernel)) ggX11_answerAt_X11_refuseUnasked
theorem dX11_answerAt_0 : decode cX11_answerAt 0 = .ok (.aload_n 0, 1) := by decide +kernel
theorem dX11_answerAt_1 : decode cX11_answerAt 1 = .ok (.invokevirtual 264, 3) := by decide +kernel
set_option maxRecDepth 20000 in
theorem ggX11_multiplicity_X11_refuseUnasked : GoodIn wsX11_multiplicity wsX11_refuseUnasked := goodIn_ca (goodIn_r _ [8, 9, 10, 11, 34, 35, 36, 37, 38, 39, 40, 41, 42] (by decide +kernel) (by decide +kernel)) (goodIn_sub (fun _ h => List.mem_cons_of_mem _ (List.mem_append_left _ (List.mem_append_right _ h))) (by decide +kernel))
set_option maxRecDepth 20000 in
theorem gX11_multiplicity_X11_refuseUnasked : GoodIn wsX11_multiplicity (wsV RX11 264 RX11 yX11_refuseUnasked wsX11_refuseUnasked) := goodIn_app (goodIn_of _ (by decide +kernel)) ggX11_multiplicity_X11_refuseUnasked
theorem dX11_multiplicity_0 : decode cX11_multiplicity 0 = .ok (.aload_n 0, 1) := by decide +kernel
theorem dX11_multiplicity_1 : decode cX11_multiplicity 1 = .ok (.invokevirtual 264, 3) := by decide +kernel
set_option maxRecDepth 20000 in
theorem ggX11_answersByBreadth_X11_refuseUnasked : GoodIn wsX11_answersByBreadth wsX11_refuseUnasked := goodIn_ca (goodIn_r _ [9, 10, 11, 12, 303, 304, 305, 306, 307, 308, 309, 310, 311] (by decide +kernel) (by decide +kernel)) (goodIn_sub (fun _ h => List.mem_cons_of_mem _ (List.mem_append_left _ (List.mem_append_right _ h))) (by decide +kernel))
set_option maxRecDepth 20000 in
theorem gX11_answersByBreadth_X11_refuseUnasked : GoodIn wsX11_answersByBreadth (wsV RX11 264 RX11 yX11_refuseUnasked wsX11_refuseUnasked) := goodIn_app (goodIn_of _ (by decide +kernel)) ggX11_answersByBreadth_X11_refuseUnasked
theorem dX11_answersByBreadth_0 : decode cX11_answersByBreadth 0 = .ok (.aload_n 0, 1) := by decide +kernel
theorem dX11_answersByBreadth_1 : decode cX11_answersByBreadth 1 = .ok (.invokevirtual 264, 3) := by decide +kernel
set_option maxRecDepth 20000 in
theorem ggX11_steps_X11_refuseUnasked : GoodIn wsX11_steps wsX11_refuseUnasked := goodIn_ca (goodIn_r _ [6, 7, 8, 9, 10, 11, 12, 13, 14, 15, 16, 17, 18] (by decide +kernel) (by decide +kernel)) (goodIn_sub (fun _ h => List.mem_cons_of_mem _ (List.mem_append_right _ h)) (by decide +kernel))
set_option maxRecDepth 20000 in
theorem gX11_steps_X11_refuseUnasked : GoodIn wsX11_steps (wsV RX11 264 RX11 yX11_refuseUnasked wsX11_refuseUnasked) := goodIn_app (goodIn_of _ (by decide +kernel)) ggX11_steps_X11_refuseUnasked
theorem dX11_steps_0 : decode cX11_steps 0 = .ok (.aload_n 0, 1) := by decide +kernel
theorem dX11_steps_1 : decode cX11_steps 1 = .ok (.invokevirtual 264, 3) := by decide +kernel
set_option maxRecDepth 20000 in
theorem ggX11_choicePoints_X11_refuseUnasked : GoodIn wsX11_choicePoints wsX11_refuseUnasked := goodIn_ca (goodIn_r _ [6, 7, 8, 9, 10, 11, 12, 13, 14, 15, 16, 17, 18] (by decide +kernel) (by decide +kernel)) (goodIn_sub (fun _ h => List.mem_cons_of_mem _ (List.mem_append_right _ h)) (by decide +kernel))
set_option maxRecDepth 20000 in
theorem gX11_choicePoints_X11_refuseUnasked : GoodIn wsX11_choicePoints (wsV RX11 264 RX11 yX11_refuseUnasked wsX11_refuseUnasked) := goodIn_app (goodIn_of _ (by decide +kernel)) ggX11_choicePoints_X11_refuseUnasked
theorem dX11_choicePoints_0 : decode cX11_choicePoints 0 = .ok (.aload_n 0, 1) := by decide +kernel
theorem dX11_choicePoints_1 : decode cX11_choicePoints 1 = .ok (.invokevirtual 264, 3) := by decide +kernel
set_option maxRecDepth 20000 in
theorem ggX11_deepest_X11_refuseUnasked : GoodIn wsX11_deepest wsX11_refuseUnasked := goodIn_ca (goodIn_r _ [6, 7, 8, 9, 10, 11, 12, 13, 14, 15, 16, 17, 18] (by decide +kernel) (by decide +kernel)) (goodIn_sub (fun _ h => List.mem_cons_of_mem _ (List.mem_append_right _ h)) (by decide +kernel))
set_option maxRecDepth 20000 in
theorem gX11_deepest_X11_refuseUnasked : GoodIn wsX11_deepest (wsV RX11 264 RX11 yX11_refuseUnasked wsX11_refuseUnasked) := goodIn_app (goodIn_of _ (by decide +kernel)) ggX11_deepest_X11_refuseUnasked
theorem dX11_deepest_0 : decode cX11_deepest 0 = .ok (.aload_n 0, 1) := by decide +kernel
theorem dX11_deepest_1 : decode cX11_deepest 1 = .ok (.invokevirtual 264, 3) := by decide +kernel
set_option maxRecDepth 20000 in
theorem ggX11_recorded_X11_refuseUnasked : GoodIn wsX11_recorded wsX11_refuseUnasked := goodIn_ca (goodIn_r _ [6, 7, 8, 9, 22, 23, 24, 25, 26, 27, 28, 29, 30] (by decide +kernel) (by decide +kernel)) (goodIn_sub (fun _ h => List.mem_cons_of_mem _ (List.mem_append_right _ h)) (by decide +kernel))
set_option maxRecDepth 20000 in
theorem gX11_recorded_X11_refuseUnasked : GoodIn wsX11_recorded (wsV RX11 264 RX11 yX11_refuseUnasked wsX11_refuseUnasked) := goodIn_app (goodIn_of _ (by decide +kernel)) ggX11_recorded_X11_refuseUnasked
theorem dX11_recorded_0 : decode cX11_recorded 0 = .ok (.aload_n 0, 1) := by decide +kernel
theorem dX11_recorded_1 : decode cX11_recorded 1 = .ok (.invokevirtual 264, 3) := by decide +kernel
set_option maxRecDepth 20000 in
theorem ggX11_recordAt_X11_refuseMissingNote : GoodIn wsX11_recordAt wsX11_refuseMissingNote := goodIn_ca (goodIn_ca (goodIn_r _ [6, 7, 8, 1, 9, 10, 11, 5, 12, 13, 14, 15, 16, 17, 18, 19, 20, 21, 22, 23, 24, 25, 26, 27, 38, 39, 40, 41, 42, 43, 44, 45, 46, 47, 48, 49, 50, 51, 52, 53, 54, 55, 56, 57, 58, 59] (by decide +kernel) (by decide +kernel)) (goodIn_sub (fun _ h => List.mem_cons_of_mem _ (List.mem_append_left _ (List.mem_append_left _ (List.mem_append_right _ h)))) (by decide +kernel))) (goodIn_sub (fun _ h => List.mem_cons_of_mem _ (List.mem_append_left _ (List.mem_append_right _ h))) (by decide +kernel))
set_option maxRecDepth 20000 in
theorem gX11_recordAt_X11_refuseMissingNote : GoodIn wsX11_recordAt (wsV RX11 302 RX11 yX11_refuseMissingNote wsX11_refuseMissingNote) := goodIn_app (goodIn_of _ (by decide +kernel)) ggX11_recordAt_X11_refuseMissingNote
theorem dX11_recordAt_0 : decode cX11_recordAt 0 = .ok (.aload_n 0, 1) := by decide +kernel
theorem dX11_recordAt_1 : decode cX11_recordAt 1 = .ok (.iload_n 1, 1) := by decide +kernel
theorem dX11_recordAt_2 : decode cX11_recordAt 2 = .ok (.invokevirtual 302, 3) := by decide +kernel
set_option maxRecDepth 20000 in
theorem ggX11_whereAt_X11_refuseMissingNote : GoodIn wsX11_whereAt wsX11_refuseMissingNote := goodIn_ca (goodIn_ca (goodIn_r _ [6, 7, 8, 1, 9, 10, 11, 5, 12, 13, 14, 15, 16, 17, 18, 19, 20, 21, 22, 23, 24, 25, 26, 27, 38, 39, 40, 41, 42, 43, 44, 45, 46, 47, 48, 49, 50, 51, 52, 53, 54, 55, 56, 57, 58, 59] (by decide +kernel) (by decide +kernel)) (goodIn_sub (fun _ h => List.mem_cons_of_mem _ (List.mem_append_left _ (List.mem_append_left _ (List.mem_append_right _ h)))) (by decide +kernel))) (goodIn_sub (fun _ h => List.mem_cons_of_mem _ (List.mem_append_left _ (List.mem_append_right _ h))) (by decide +kernel))
set_option maxRecDepth 20000 in
theorem gX11_whereAt_X11_refuseMissingNote : GoodIn wsX11_whereAt (wsV RX11 302 RX11 yX11_refuseMissingNote wsX11_refuseMissingNote) := goodIn_app (goodIn_of _ (by decide +kernel)) ggX11_whereAt_X11_refuseMissingNote
theorem dX11_whereAt_0 : decode cX11_whereAt 0 = .ok (.aload_n 0, 1) := by decide +kernel
theorem dX11_whereAt_1 : decode cX11_whereAt 1 = .ok (.iload_n 1, 1) := by decide +kernel
theorem dX11_whereAt_2 : decode cX11_whereAt 2 = .ok (.invokevirtual 302, 3) := by decide +kernel
set_option maxRecDepth 20000 in
theorem ggX11_terms_X10_termCount : GoodIn wsX11_terms wsX10_termCount := goodIn_r _ [6, 7, 8, 9, 10, 11, 12, 13, 23, 24, 25, 26, 27, 28, 29, 30] (by decide +kernel) (by decide +kernel)
set_option maxRecDepth 20000 in
theorem gX11_terms_X10_termCount : GoodIn wsX11_terms (wsV RX11 312 RX10 yX10_termCount wsX10_termCount) := goodIn_app (goodIn_of _ (by decide +kernel)) ggX11_terms_X10_termCount
theorem dX11_terms_0 : decode cX11_terms 0 = .ok (.aload_n 0, 1) := by decide +kernel
theorem dX11_terms_1 : decode cX11_terms 1 = .ok (.getfield 10, 3) := by decide +kernel
theorem dX11_terms_4 : decode cX11_terms 4 = .ok (.invokevirtual 312, 3) := by decide +kernel
theorem dX11_terms_7 : decode cX11_terms 7 = .ok (.ireturn, 1) := by decide +kernel
set_option maxRecDepth 20000 in
theorem ggX11_onceShare_X11_refuseUncompiled : GoodIn wsX11_onceShare wsX11_refuseUncompiled := goodIn_ca (goodIn_r _ [8, 9, 10, 11, 46, 47, 48, 49, 50, 51, 52, 53, 54] (by decide +kernel) (by decide +kernel)) (goodIn_sub (fun _ h => List.mem_cons_of_mem _ (List.mem_append_right _ h)) (by decide +kernel))
set_option maxRecDepth 20000 in
theorem gX11_onceShare_X11_refuseUncompiled : GoodIn wsX11_onceShare (wsV RX11 199 RX11 yX11_refuseUncompiled wsX11_refuseUncompiled) := goodIn_app (goodIn_of _ (by decide +kernel)) ggX11_onceShare_X11_refuseUncompiled
theorem dX11_onceShare_0 : decode cX11_onceShare 0 = .ok (.aload_n 0, 1) := by decide +kernel
theorem dX11_onceShare_1 : decode cX11_onceShare 1 = .ok (.invokevirtual 199, 3) := by decide +kernel
theorem dX11_meanSteps_0 : decode cX11_meanSteps 0 = .ok (.aload_n 0, 1) := by decide +kernel
theorem dX11_meanSteps_1 : decode cX11_meanSteps 1 = .ok (.getfield 55, 3) := by decide +kernel
theorem dX11_meanSteps_4 : decode cX11_meanSteps 4 = .ok (.ifCond .ne 11, 3) := by decide +kernel
theorem dX11_meanSteps_7 : decode cX11_meanSteps 7 = .ok (.new 318, 3) := by decide +kernel
theorem dX11_meanSteps_10 : decode cX11_meanSteps 10 = .ok (.dup, 1) := by decide +kernel
theorem dX11_meanSteps_11 : decode cX11_meanSteps 11 = .ok (.invokespecial 320, 3) := by decide +kernel
theorem dX11_meanSteps_14 : decode cX11_meanSteps 14 = .ok (.athrow, 1) := by decide +kernel
set_option maxRecDepth 20000 in
theorem ggX11_isTypeOrNone_X10_hasType : GoodIn wsX11_isTypeOrNone wsX10_hasType := goodIn_r _ [6, 7, 17, 18, 19, 20, 21] (by decide +kernel) (by decide +kernel)
set_option maxRecDepth 20000 in
theorem gX11_isTypeOrNone_X10_hasType : GoodIn wsX11_isTypeOrNone (wsV RX11 73 RX10 yX10_hasType wsX10_hasType) := goodIn_app (goodIn_of _ (by decide +kernel)) ggX11_isTypeOrNone_X10_hasType
theorem dX11_isTypeOrNone_0 : decode cX11_isTypeOrNone 0 = .ok (.iload_n 1, 1) := by decide +kernel
theorem dX11_isTypeOrNone_1 : decode cX11_isTypeOrNone 1 = .ok (.iconst (-1), 1) := by decide +kernel
theorem dX11_isTypeOrNone_2 : decode cX11_isTypeOrNone 2 = .ok (.if_icmp .eq 14, 3) := by decide +kernel
theorem dX11_isTypeOrNone_5 : decode cX11_isTypeOrNone 5 = .ok (.aload_n 0, 1) := by decide +kernel
theorem dX11_isTypeOrNone_6 : decode cX11_isTypeOrNone 6 = .ok (.getfield 10, 3) := by decide +kernel
theorem dX11_isTypeOrNone_9 : decode cX11_isTypeOrNone 9 = .ok (.iload_n 1, 1) := by decide +kernel
theorem dX11_isTypeOrNone_10 : decode cX11_isTypeOrNone 10 = .ok (.invokevirtual 73, 3) := by decide +kernel
theorem dX11_isTypeOrNone_13 : decode cX11_isTypeOrNone 13 = .ok (.ifCond .eq 7, 3) := by decide +kernel
theorem dX11_isTypeOrNone_16 : decode cX11_isTypeOrNone 16 = .ok (.iconst 1, 1) := by decide +kernel
theorem dX11_isTypeOrNone_17 : decode cX11_isTypeOrNone 17 = .ok (.goto 4, 3) := by decide +kernel
theorem dX11_isTypeOrNone_20 : decode cX11_isTypeOrNone 20 = .ok (.iconst 0, 1) := by decide +kernel
theorem dX11_isTypeOrNone_21 : decode cX11_isTypeOrNone 21 = .ok (.ireturn, 1) := by decide +kernel
set_option maxRecDepth 20000 in
theorem ggX11_compiledMode_X7_modeAt : GoodIn wsX11_compiledMode wsX7_modeAt := goodIn_r _ [8, 9, 10, 11, 7, 12, 13, 14, 15, 16, 17, 18, 19, 20, 21, 22, 23, 24, 25, 26, 27, 28, 29, 30, 31, 32, 33, 34, 35, 36, 37, 38, 39, 40, 41, 42, 43, 44, 45, 46, 64, 65, 66, 67, 68, 69, 70, 71, 72, 73, 74] (by decide +kernel) (by decide +kernel)
set_option maxRecDepth 20000 in
theorem gX11_compiledMode_X7_modeAt : GoodIn wsX11_compiledMode (wsV RX11 237 RX7 yX7_modeAt wsX7_modeAt) := goodIn_app (goodIn_of _ (by decide +kernel)) ggX11_compiledMode_X7_modeAt
theorem dX11_compiledMode_0 : decode cX11_compiledMode 0 = .ok (.aload_n 0, 1) := by decide +kernel
theorem dX11_compiledMode_1 : decode cX11_compiledMode 1 = .ok (.getfield 19, 3) := by decide +kernel
theorem dX11_compiledMode_4 : decode cX11_compiledMode 4 = .ok (.iload_n 1, 1) := by decide +kernel
theorem dX11_compiledMode_5 : decode cX11_compiledMode 5 = .ok (.iload_n 2, 1) := by decide +kernel
theorem dX11_compiledMode_6 : decode cX11_compiledMode 6 = .ok (.invokevirtual 237, 3) := by decide +kernel
theorem dX11_compiledMode_9 : decode cX11_compiledMode 9 = .ok (.astore_n 3, 1) := by decide +kernel
theorem dX11_compiledMode_10 : decode cX11_compiledMode 10 = .ok (.aload_n 3, 1) := by decide +kernel
theorem dX11_compiledMode_11 : decode cX11_compiledMode 11 = .ok (.ifnonnull 11, 3) := by decide +kernel
theorem dX11_compiledMode_14 : decode cX11_compiledMode 14 = .ok (.new 80, 3) := by decide +kernel
theorem dX11_compiledMode_17 : decode cX11_compiledMode 17 = .ok (.dup, 1) := by decide +kernel
theorem dX11_compiledMode_18 : decode cX11_compiledMode 18 = .ok (.invokespecial 82, 3) := by decide +kernel
theorem dX11_compiledMode_21 : decode cX11_compiledMode 21 = .ok (.athrow, 1) := by decide +kernel
set_option maxRecDepth 20000 in
theorem ggX11_orderedClause_X7_clauseAt : GoodIn wsX11_orderedClause wsX7_clauseAt := goodIn_r _ [8, 9, 10, 11, 12, 13, 14, 15, 16, 17, 18, 19, 20, 21, 22, 23, 24, 25, 26, 27, 28, 29, 30, 31, 32, 33, 69, 70, 71, 72, 73, 74] (by decide +kernel) (by decide +kernel)
set_option maxRecDepth 20000 in
theorem gX11_orderedClause_X7_clauseAt : GoodIn wsX11_orderedClause (wsV RX11 161 RX7 yX7_clauseAt wsX7_clauseAt) := goodIn_app (goodIn_of _ (by decide +kernel)) ggX11_orderedClause_X7_clauseAt
theorem dX11_orderedClause_0 : decode cX11_orderedClause 0 = .ok (.aload_n 0, 1) := by decide +kernel
theorem dX11_orderedClause_1 : decode cX11_orderedClause 1 = .ok (.getfield 19, 3) := by decide +kernel
theorem dX11_orderedClause_4 : decode cX11_orderedClause 4 = .ok (.iload_n 1, 1) := by decide +kernel
theorem dX11_orderedClause_5 : decode cX11_orderedClause 5 = .ok (.invokevirtual 161, 3) := by decide +kernel
theorem dX11_orderedClause_8 : decode cX11_orderedClause 8 = .ok (.astore_n 3, 1) := by decide +kernel
theorem dX11_orderedClause_9 : decode cX11_orderedClause 9 = .ok (.aload_n 3, 1) := by decide +kernel
theorem dX11_orderedClause_10 : decode cX11_orderedClause 10 = .ok (.ifnull 14, 3) := by decide +kernel
theorem dX11_orderedClause_24 : decode cX11_orderedClause 24 = .ok (.new 80, 3) := by decide +kernel
theorem dX11_orderedClause_27 : decode cX11_orderedClause 27 = .ok (.dup, 1) := by decide +kernel
theorem dX11_orderedClause_28 : decode cX11_orderedClause 28 = .ok (.invokespecial 82, 3) := by decide +kernel
theorem dX11_orderedClause_31 : decode cX11_orderedClause 31 = .ok (.athrow, 1) := by decide +kernel
set_option maxRecDepth 20000 in
theorem ggX11_refuseMissingTerm_X10_hasTerm : GoodIn wsX11_refuseMissingTerm wsX10_hasTerm := goodIn_r _ [8, 9, 10, 11, 12, 13, 14, 15, 25, 26, 27, 28, 29, 30, 31, 32] (by decide +kernel) (by decide +kernel)
set_option maxRecDepth 20000 in
theorem gX11_refuseMissingTerm_X10_hasTerm : GoodIn wsX11_refuseMissingTerm (wsV RX11 346 RX10 yX10_hasTerm wsX10_hasTerm) := goodIn_app (goodIn_of _ (by decide +kernel)) ggX11_refuseMissingTerm_X10_hasTerm
theorem dX11_refuseMissingTerm_0 : decode cX11_refuseMissingTerm 0 = .ok (.aload_n 0, 1) := by decide +kernel
theorem dX11_refuseMissingTerm_1 : decode cX11_refuseMissingTerm 1 = .ok (.getfield 10, 3) := by decide +kernel
theorem dX11_refuseMissingTerm_4 : decode cX11_refuseMissingTerm 4 = .ok (.iload_n 1, 1) := by decide +kernel
theorem dX11_refuseMissingTerm_5 : decode cX11_refuseMissingTerm 5 = .ok (.invokevirtual 346, 3) := by decide +kernel
theorem dX11_refuseMissingTerm_8 : decode cX11_refuseMissingTerm 8 = .ok (.ifCond .ne 11, 3) := by decide +kernel
