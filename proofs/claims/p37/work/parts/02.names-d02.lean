theorem dX0_firstToResolve_61 : decode cX0_firstToResolve 61 = .ok (.iconst 2, 1) := by decide +kernel
theorem dX0_firstToResolve_62 : decode cX0_firstToResolve 62 = .ok (.invokevirtual 84, 3) := by decide +kernel
theorem dX0_firstToResolve_65 : decode cX0_firstToResolve 65 = .ok (.istore_n 2, 1) := by decide +kernel
theorem dX0_firstToResolve_66 : decode cX0_firstToResolve 66 = .ok (.iinc 3 1, 3) := by decide +kernel
theorem dX0_firstToResolve_69 : decode cX0_firstToResolve 69 = .ok (.goto (-65), 3) := by decide +kernel
theorem dX0_firstToResolve_72 : decode cX0_firstToResolve 72 = .ok (.iconst (-1), 1) := by decide +kernel
theorem dX0_firstToResolve_73 : decode cX0_firstToResolve 73 = .ok (.ireturn, 1) := by decide +kernel
theorem dX0_without_0 : decode cX0_without 0 = .ok (.aload_n 0, 1) := by decide +kernel
theorem dX0_without_1 : decode cX0_without 1 = .ok (.getfield 31, 3) := by decide +kernel
theorem dX0_without_4 : decode cX0_without 4 = .ok (.iload_n 2, 1) := by decide +kernel
theorem dX0_without_5 : decode cX0_without 5 = .ok (.iconst 2, 1) := by decide +kernel
theorem dX0_without_6 : decode cX0_without 6 = .ok (.invokevirtual 84, 3) := by decide +kernel
theorem dX0_without_9 : decode cX0_without 9 = .ok (.istore_n 3, 1) := by decide +kernel
theorem dX0_without_10 : decode cX0_without 10 = .ok (.iload_n 3, 1) := by decide +kernel
theorem dX0_without_11 : decode cX0_without 11 = .ok (.istore 4, 2) := by decide +kernel
theorem dX0_without_13 : decode cX0_without 13 = .ok (.iconst (-1), 1) := by decide +kernel
theorem dX0_without_14 : decode cX0_without 14 = .ok (.istore 5, 2) := by decide +kernel
theorem dX0_without_16 : decode cX0_without 16 = .ok (.iload_n 1, 1) := by decide +kernel
theorem dX0_without_17 : decode cX0_without 17 = .ok (.istore 6, 2) := by decide +kernel
theorem dX0_without_19 : decode cX0_without 19 = .ok (.iconst 0, 1) := by decide +kernel
theorem dX0_without_20 : decode cX0_without 20 = .ok (.istore 7, 2) := by decide +kernel
theorem dX0_without_22 : decode cX0_without 22 = .ok (.iload 7, 2) := by decide +kernel
theorem dX0_without_24 : decode cX0_without 24 = .ok (.ldc 65, 2) := by decide +kernel
theorem dX0_without_26 : decode cX0_without 26 = .ok (.if_icmp .ge 89, 3) := by decide +kernel
theorem dX0_without_29 : decode cX0_without 29 = .ok (.iload 6, 2) := by decide +kernel
theorem dX0_without_31 : decode cX0_without 31 = .ok (.iload_n 2, 1) := by decide +kernel
theorem dX0_without_32 : decode cX0_without 32 = .ok (.if_icmp .eq 83, 3) := by decide +kernel
theorem dX0_without_35 : decode cX0_without 35 = .ok (.iload 6, 2) := by decide +kernel
theorem dX0_without_37 : decode cX0_without 37 = .ok (.iconst (-1), 1) := by decide +kernel
theorem dX0_without_38 : decode cX0_without 38 = .ok (.if_icmp .eq 77, 3) := by decide +kernel
theorem dX0_without_41 : decode cX0_without 41 = .ok (.aload_n 0, 1) := by decide +kernel
theorem dX0_without_42 : decode cX0_without 42 = .ok (.getfield 31, 3) := by decide +kernel
theorem dX0_without_45 : decode cX0_without 45 = .ok (.aload_n 0, 1) := by decide +kernel
theorem dX0_without_46 : decode cX0_without 46 = .ok (.getfield 31, 3) := by decide +kernel
theorem dX0_without_49 : decode cX0_without 49 = .ok (.iload 6, 2) := by decide +kernel
theorem dX0_without_51 : decode cX0_without 51 = .ok (.iconst 0, 1) := by decide +kernel
theorem dX0_without_52 : decode cX0_without 52 = .ok (.invokevirtual 84, 3) := by decide +kernel
theorem dX0_without_55 : decode cX0_without 55 = .ok (.aload_n 0, 1) := by decide +kernel
theorem dX0_without_56 : decode cX0_without 56 = .ok (.getfield 31, 3) := by decide +kernel
theorem dX0_without_59 : decode cX0_without 59 = .ok (.iload 6, 2) := by decide +kernel
theorem dX0_without_61 : decode cX0_without 61 = .ok (.iconst 1, 1) := by decide +kernel
theorem dX0_without_62 : decode cX0_without 62 = .ok (.invokevirtual 84, 3) := by decide +kernel
theorem dX0_without_65 : decode cX0_without 65 = .ok (.iload_n 3, 1) := by decide +kernel
theorem dX0_without_66 : decode cX0_without 66 = .ok (.invokevirtual 113, 3) := by decide +kernel
theorem dX0_without_69 : decode cX0_without 69 = .ok (.istore 8, 2) := by decide +kernel
theorem dX0_without_71 : decode cX0_without 71 = .ok (.iload 5, 2) := by decide +kernel
theorem dX0_without_73 : decode cX0_without 73 = .ok (.iconst (-1), 1) := by decide +kernel
theorem dX0_without_74 : decode cX0_without 74 = .ok (.if_icmp .ne 7, 3) := by decide +kernel
theorem dX0_without_77 : decode cX0_without 77 = .ok (.iload 8, 2) := by decide +kernel
theorem dX0_without_79 : decode cX0_without 79 = .ok (.istore 4, 2) := by decide +kernel
theorem dX0_without_81 : decode cX0_without 81 = .ok (.aload_n 0, 1) := by decide +kernel
theorem dX0_without_82 : decode cX0_without 82 = .ok (.getfield 31, 3) := by decide +kernel
theorem dX0_without_85 : decode cX0_without 85 = .ok (.iload 5, 2) := by decide +kernel
theorem dX0_without_87 : decode cX0_without 87 = .ok (.iconst 2, 1) := by decide +kernel
theorem dX0_without_88 : decode cX0_without 88 = .ok (.iload 8, 2) := by decide +kernel
theorem dX0_without_90 : decode cX0_without 90 = .ok (.invokevirtual 142, 3) := by decide +kernel
theorem dX0_without_93 : decode cX0_without 93 = .ok (.iload 8, 2) := by decide +kernel
theorem dX0_without_95 : decode cX0_without 95 = .ok (.istore 5, 2) := by decide +kernel
theorem dX0_without_97 : decode cX0_without 97 = .ok (.aload_n 0, 1) := by decide +kernel
theorem dX0_without_98 : decode cX0_without 98 = .ok (.getfield 31, 3) := by decide +kernel
theorem dX0_without_101 : decode cX0_without 101 = .ok (.iload 6, 2) := by decide +kernel
theorem dX0_without_103 : decode cX0_without 103 = .ok (.iconst 2, 1) := by decide +kernel
theorem dX0_without_104 : decode cX0_without 104 = .ok (.invokevirtual 84, 3) := by decide +kernel
theorem dX0_without_107 : decode cX0_without 107 = .ok (.istore 6, 2) := by decide +kernel
theorem dX0_without_109 : decode cX0_without 109 = .ok (.iinc 7 1, 3) := by decide +kernel
theorem dX0_without_112 : decode cX0_without 112 = .ok (.goto (-90), 3) := by decide +kernel
theorem dX0_without_115 : decode cX0_without 115 = .ok (.iload 4, 2) := by decide +kernel
theorem dX0_without_117 : decode cX0_without 117 = .ok (.ireturn, 1) := by decide +kernel
theorem dX0_beginDenied_0 : decode cX0_beginDenied 0 = .ok (.aload_n 0, 1) := by decide +kernel
theorem dX0_beginDenied_1 : decode cX0_beginDenied 1 = .ok (.getfield 43, 3) := by decide +kernel
theorem dX0_beginDenied_4 : decode cX0_beginDenied 4 = .ok (.aload_n 0, 1) := by decide +kernel
theorem dX0_beginDenied_5 : decode cX0_beginDenied 5 = .ok (.getfield 66, 3) := by decide +kernel
theorem dX0_beginDenied_8 : decode cX0_beginDenied 8 = .ok (.aload_n 0, 1) := by decide +kernel
theorem dX0_beginDenied_9 : decode cX0_beginDenied 9 = .ok (.getfield 37, 3) := by decide +kernel
theorem dX0_beginDenied_12 : decode cX0_beginDenied 12 = .ok (.invokevirtual 70, 3) := by decide +kernel
theorem dX0_beginDenied_15 : decode cX0_beginDenied 15 = .ok (.iload_n 1, 1) := by decide +kernel
theorem dX0_beginDenied_16 : decode cX0_beginDenied 16 = .ok (.invokevirtual 113, 3) := by decide +kernel
theorem dX0_beginDenied_19 : decode cX0_beginDenied 19 = .ok (.istore 5, 2) := by decide +kernel
theorem dX0_beginDenied_21 : decode cX0_beginDenied 21 = .ok (.aload_n 0, 1) := by decide +kernel
theorem dX0_beginDenied_22 : decode cX0_beginDenied 22 = .ok (.getfield 43, 3) := by decide +kernel
theorem dX0_beginDenied_25 : decode cX0_beginDenied 25 = .ok (.iload 5, 2) := by decide +kernel
theorem dX0_beginDenied_27 : decode cX0_beginDenied 27 = .ok (.iconst 3, 1) := by decide +kernel
theorem dX0_beginDenied_28 : decode cX0_beginDenied 28 = .ok (.iload_n 2, 1) := by decide +kernel
theorem dX0_beginDenied_29 : decode cX0_beginDenied 29 = .ok (.invokevirtual 142, 3) := by decide +kernel
theorem dX0_beginDenied_32 : decode cX0_beginDenied 32 = .ok (.aload_n 0, 1) := by decide +kernel
theorem dX0_beginDenied_33 : decode cX0_beginDenied 33 = .ok (.aload_n 0, 1) := by decide +kernel
theorem dX0_beginDenied_34 : decode cX0_beginDenied 34 = .ok (.getfield 37, 3) := by decide +kernel
theorem dX0_beginDenied_37 : decode cX0_beginDenied 37 = .ok (.invokevirtual 70, 3) := by decide +kernel
theorem dX0_beginDenied_40 : decode cX0_beginDenied 40 = .ok (.putfield 66, 3) := by decide +kernel
theorem dX0_beginDenied_43 : decode cX0_beginDenied 43 = .ok (.aload_n 0, 1) := by decide +kernel
theorem dX0_beginDenied_44 : decode cX0_beginDenied 44 = .ok (.getfield 28, 3) := by decide +kernel
theorem dX0_beginDenied_47 : decode cX0_beginDenied 47 = .ok (.invokevirtual 70, 3) := by decide +kernel
theorem dX0_beginDenied_50 : decode cX0_beginDenied 50 = .ok (.istore 6, 2) := by decide +kernel
theorem dX0_beginDenied_52 : decode cX0_beginDenied 52 = .ok (.iconst 0, 1) := by decide +kernel
theorem dX0_beginDenied_53 : decode cX0_beginDenied 53 = .ok (.istore 7, 2) := by decide +kernel
theorem dX0_beginDenied_55 : decode cX0_beginDenied 55 = .ok (.iload 7, 2) := by decide +kernel
theorem dX0_beginDenied_57 : decode cX0_beginDenied 57 = .ok (.aload_n 3, 1) := by decide +kernel
theorem dX0_beginDenied_58 : decode cX0_beginDenied 58 = .ok (.getfield 184, 3) := by decide +kernel
theorem dX0_beginDenied_61 : decode cX0_beginDenied 61 = .ok (.if_icmp .ge 28, 3) := by decide +kernel
theorem dX0_beginDenied_64 : decode cX0_beginDenied 64 = .ok (.aload_n 0, 1) := by decide +kernel
theorem dX0_beginDenied_65 : decode cX0_beginDenied 65 = .ok (.getfield 28, 3) := by decide +kernel
theorem dX0_beginDenied_68 : decode cX0_beginDenied 68 = .ok (.aload_n 0, 1) := by decide +kernel
theorem dX0_beginDenied_69 : decode cX0_beginDenied 69 = .ok (.aload_n 3, 1) := by decide +kernel
theorem dX0_beginDenied_70 : decode cX0_beginDenied 70 = .ok (.iload 4, 2) := by decide +kernel
theorem dX0_beginDenied_72 : decode cX0_beginDenied 72 = .ok (.iload 7, 2) := by decide +kernel
theorem dX0_beginDenied_74 : decode cX0_beginDenied 74 = .ok (.invokevirtual 186, 3) := by decide +kernel
theorem dX0_beginDenied_77 : decode cX0_beginDenied 77 = .ok (.iconst (-1), 1) := by decide +kernel
theorem dX0_beginDenied_78 : decode cX0_beginDenied 78 = .ok (.iconst (-1), 1) := by decide +kernel
theorem dX0_beginDenied_79 : decode cX0_beginDenied 79 = .ok (.invokevirtual 113, 3) := by decide +kernel
theorem dX0_beginDenied_82 : decode cX0_beginDenied 82 = .ok (.pop, 1) := by decide +kernel
theorem dX0_beginDenied_83 : decode cX0_beginDenied 83 = .ok (.iinc 7 1, 3) := by decide +kernel
theorem dX0_beginDenied_86 : decode cX0_beginDenied 86 = .ok (.goto (-31), 3) := by decide +kernel
theorem dX0_beginDenied_89 : decode cX0_beginDenied 89 = .ok (.aload_n 0, 1) := by decide +kernel
theorem dX0_beginDenied_90 : decode cX0_beginDenied 90 = .ok (.aload_n 3, 1) := by decide +kernel
theorem dX0_beginDenied_91 : decode cX0_beginDenied 91 = .ok (.getfield 173, 3) := by decide +kernel
theorem dX0_beginDenied_94 : decode cX0_beginDenied 94 = .ok (.iload 6, 2) := by decide +kernel
theorem dX0_beginDenied_96 : decode cX0_beginDenied 96 = .ok (.iload_n 1, 1) := by decide +kernel
theorem dX0_beginDenied_97 : decode cX0_beginDenied 97 = .ok (.invokevirtual 134, 3) := by decide +kernel
theorem dX0_beginDenied_100 : decode cX0_beginDenied 100 = .ok (.return_, 1) := by decide +kernel
theorem dX0_endDenied_0 : decode cX0_endDenied 0 = .ok (.aload_n 0, 1) := by decide +kernel
theorem dX0_endDenied_1 : decode cX0_endDenied 1 = .ok (.getfield 43, 3) := by decide +kernel
theorem dX0_endDenied_4 : decode cX0_endDenied 4 = .ok (.invokevirtual 70, 3) := by decide +kernel
theorem dX0_endDenied_7 : decode cX0_endDenied 7 = .ok (.iconst 1, 1) := by decide +kernel
theorem dX0_endDenied_8 : decode cX0_endDenied 8 = .ok (.isub, 1) := by decide +kernel
theorem dX0_endDenied_9 : decode cX0_endDenied 9 = .ok (.istore_n 2, 1) := by decide +kernel
theorem dX0_endDenied_10 : decode cX0_endDenied 10 = .ok (.aload_n 0, 1) := by decide +kernel
theorem dX0_endDenied_11 : decode cX0_endDenied 11 = .ok (.getfield 37, 3) := by decide +kernel
theorem dX0_endDenied_14 : decode cX0_endDenied 14 = .ok (.aload_n 0, 1) := by decide +kernel
theorem dX0_endDenied_15 : decode cX0_endDenied 15 = .ok (.getfield 43, 3) := by decide +kernel
theorem dX0_endDenied_18 : decode cX0_endDenied 18 = .ok (.iload_n 2, 1) := by decide +kernel
theorem dX0_endDenied_19 : decode cX0_endDenied 19 = .ok (.iconst 1, 1) := by decide +kernel
theorem dX0_endDenied_20 : decode cX0_endDenied 20 = .ok (.invokevirtual 84, 3) := by decide +kernel
theorem dX0_endDenied_23 : decode cX0_endDenied 23 = .ok (.invokevirtual 92, 3) := by decide +kernel
theorem dX0_endDenied_26 : decode cX0_endDenied 26 = .ok (.aload_n 0, 1) := by decide +kernel
theorem dX0_endDenied_27 : decode cX0_endDenied 27 = .ok (.aload_n 0, 1) := by decide +kernel
theorem dX0_endDenied_28 : decode cX0_endDenied 28 = .ok (.getfield 43, 3) := by decide +kernel
theorem dX0_endDenied_31 : decode cX0_endDenied 31 = .ok (.iload_n 2, 1) := by decide +kernel
theorem dX0_endDenied_32 : decode cX0_endDenied 32 = .ok (.iconst 0, 1) := by decide +kernel
theorem dX0_endDenied_33 : decode cX0_endDenied 33 = .ok (.invokevirtual 84, 3) := by decide +kernel
theorem dX0_endDenied_36 : decode cX0_endDenied 36 = .ok (.putfield 66, 3) := by decide +kernel
theorem dX0_endDenied_39 : decode cX0_endDenied 39 = .ok (.iload_n 1, 1) := by decide +kernel
theorem dX0_endDenied_40 : decode cX0_endDenied 40 = .ok (.ifCond .eq 28, 3) := by decide +kernel
theorem dX0_endDenied_43 : decode cX0_endDenied 43 = .ok (.aload_n 0, 1) := by decide +kernel
theorem dX0_endDenied_44 : decode cX0_endDenied 44 = .ok (.aload_n 0, 1) := by decide +kernel
theorem dX0_endDenied_45 : decode cX0_endDenied 45 = .ok (.getfield 43, 3) := by decide +kernel
theorem dX0_endDenied_48 : decode cX0_endDenied 48 = .ok (.iload_n 2, 1) := by decide +kernel
theorem dX0_endDenied_49 : decode cX0_endDenied 49 = .ok (.iconst 2, 1) := by decide +kernel
theorem dX0_endDenied_50 : decode cX0_endDenied 50 = .ok (.invokevirtual 84, 3) := by decide +kernel
theorem dX0_endDenied_53 : decode cX0_endDenied 53 = .ok (.iconst 0, 1) := by decide +kernel
theorem dX0_endDenied_54 : decode cX0_endDenied 54 = .ok (.iconst 0, 1) := by decide +kernel
theorem dX0_endDenied_55 : decode cX0_endDenied 55 = .ok (.aload_n 0, 1) := by decide +kernel
theorem dX0_endDenied_56 : decode cX0_endDenied 56 = .ok (.getfield 43, 3) := by decide +kernel
theorem dX0_endDenied_59 : decode cX0_endDenied 59 = .ok (.iload_n 2, 1) := by decide +kernel
theorem dX0_endDenied_60 : decode cX0_endDenied 60 = .ok (.iconst 3, 1) := by decide +kernel
theorem dX0_endDenied_61 : decode cX0_endDenied 61 = .ok (.invokevirtual 84, 3) := by decide +kernel
theorem dX0_endDenied_64 : decode cX0_endDenied 64 = .ok (.iconst (-1), 1) := by decide +kernel
theorem dX0_endDenied_65 : decode cX0_endDenied 65 = .ok (.invokevirtual 138, 3) := by decide +kernel
theorem dX0_endDenied_68 : decode cX0_endDenied 68 = .ok (.aload_n 0, 1) := by decide +kernel
theorem dX0_endDenied_69 : decode cX0_endDenied 69 = .ok (.getfield 43, 3) := by decide +kernel
theorem dX0_endDenied_72 : decode cX0_endDenied 72 = .ok (.iload_n 2, 1) := by decide +kernel
theorem dX0_endDenied_73 : decode cX0_endDenied 73 = .ok (.invokevirtual 92, 3) := by decide +kernel
theorem dX0_endDenied_76 : decode cX0_endDenied 76 = .ok (.return_, 1) := by decide +kernel
theorem dX0_find_0 : decode cX0_find 0 = .ok (.iload_n 1, 1) := by decide +kernel
theorem dX0_find_1 : decode cX0_find 1 = .ok (.istore_n 2, 1) := by decide +kernel
theorem dX0_find_2 : decode cX0_find 2 = .ok (.aload_n 0, 1) := by decide +kernel
theorem dX0_find_3 : decode cX0_find 3 = .ok (.getfield 24, 3) := by decide +kernel
theorem dX0_find_6 : decode cX0_find 6 = .ok (.iload_n 2, 1) := by decide +kernel
theorem dX0_find_7 : decode cX0_find 7 = .ok (.iconst 3, 1) := by decide +kernel
theorem dX0_find_8 : decode cX0_find 8 = .ok (.invokevirtual 84, 3) := by decide +kernel
theorem dX0_find_11 : decode cX0_find 11 = .ok (.istore_n 3, 1) := by decide +kernel
theorem dX0_find_12 : decode cX0_find 12 = .ok (.iconst 0, 1) := by decide +kernel
theorem dX0_find_13 : decode cX0_find 13 = .ok (.istore 4, 2) := by decide +kernel
theorem dX0_find_15 : decode cX0_find 15 = .ok (.iload 4, 2) := by decide +kernel
theorem dX0_find_17 : decode cX0_find 17 = .ok (.ldc 65, 2) := by decide +kernel
theorem dX0_find_19 : decode cX0_find 19 = .ok (.if_icmp .ge 26, 3) := by decide +kernel
theorem dX0_find_22 : decode cX0_find 22 = .ok (.iload_n 3, 1) := by decide +kernel
theorem dX0_find_23 : decode cX0_find 23 = .ok (.iconst (-1), 1) := by decide +kernel
theorem dX0_find_24 : decode cX0_find 24 = .ok (.if_icmp .eq 21, 3) := by decide +kernel
theorem dX0_find_27 : decode cX0_find 27 = .ok (.iload_n 3, 1) := by decide +kernel
theorem dX0_find_28 : decode cX0_find 28 = .ok (.istore_n 2, 1) := by decide +kernel
theorem dX0_find_29 : decode cX0_find 29 = .ok (.aload_n 0, 1) := by decide +kernel
theorem dX0_find_30 : decode cX0_find 30 = .ok (.getfield 24, 3) := by decide +kernel
theorem dX0_find_33 : decode cX0_find 33 = .ok (.iload_n 2, 1) := by decide +kernel
theorem dX0_find_34 : decode cX0_find 34 = .ok (.iconst 3, 1) := by decide +kernel
theorem dX0_find_35 : decode cX0_find 35 = .ok (.invokevirtual 84, 3) := by decide +kernel
theorem dX0_find_38 : decode cX0_find 38 = .ok (.istore_n 3, 1) := by decide +kernel
theorem dX0_find_39 : decode cX0_find 39 = .ok (.iinc 4 1, 3) := by decide +kernel
theorem dX0_find_42 : decode cX0_find 42 = .ok (.goto (-27), 3) := by decide +kernel
theorem dX0_find_45 : decode cX0_find 45 = .ok (.iload_n 2, 1) := by decide +kernel
theorem dX0_find_46 : decode cX0_find 46 = .ok (.ireturn, 1) := by decide +kernel
theorem dX0_unify_0 : decode cX0_unify 0 = .ok (.aload_n 0, 1) := by decide +kernel
theorem dX0_unify_1 : decode cX0_unify 1 = .ok (.getfield 46, 3) := by decide +kernel
theorem dX0_unify_4 : decode cX0_unify 4 = .ok (.iconst 0, 1) := by decide +kernel
theorem dX0_unify_5 : decode cX0_unify 5 = .ok (.invokevirtual 92, 3) := by decide +kernel
theorem dX0_unify_8 : decode cX0_unify 8 = .ok (.aload_n 0, 1) := by decide +kernel
theorem dX0_unify_9 : decode cX0_unify 9 = .ok (.getfield 46, 3) := by decide +kernel
theorem dX0_unify_12 : decode cX0_unify 12 = .ok (.iload_n 1, 1) := by decide +kernel
theorem dX0_unify_13 : decode cX0_unify 13 = .ok (.iload_n 2, 1) := by decide +kernel
theorem dX0_unify_14 : decode cX0_unify 14 = .ok (.iconst (-1), 1) := by decide +kernel
theorem dX0_unify_15 : decode cX0_unify 15 = .ok (.invokevirtual 113, 3) := by decide +kernel
theorem dX0_unify_18 : decode cX0_unify 18 = .ok (.pop, 1) := by decide +kernel
theorem dX0_unify_19 : decode cX0_unify 19 = .ok (.iconst 0, 1) := by decide +kernel
theorem dX0_unify_20 : decode cX0_unify 20 = .ok (.istore_n 3, 1) := by decide +kernel
theorem dX0_unify_21 : decode cX0_unify 21 = .ok (.iload_n 3, 1) := by decide +kernel
theorem dX0_unify_22 : decode cX0_unify 22 = .ok (.ldc 65, 2) := by decide +kernel
theorem dX0_unify_24 : decode cX0_unify 24 = .ok (.if_icmp .ge 101, 3) := by decide +kernel
theorem dX0_unify_27 : decode cX0_unify 27 = .ok (.aload_n 0, 1) := by decide +kernel
theorem dX0_unify_28 : decode cX0_unify 28 = .ok (.getfield 46, 3) := by decide +kernel
theorem dX0_unify_31 : decode cX0_unify 31 = .ok (.invokevirtual 70, 3) := by decide +kernel
theorem dX0_unify_34 : decode cX0_unify 34 = .ok (.ifCond .le 91, 3) := by decide +kernel
theorem dX0_unify_37 : decode cX0_unify 37 = .ok (.aload_n 0, 1) := by decide +kernel
theorem dX0_unify_38 : decode cX0_unify 38 = .ok (.getfield 46, 3) := by decide +kernel
theorem dX0_unify_41 : decode cX0_unify 41 = .ok (.invokevirtual 70, 3) := by decide +kernel
theorem dX0_unify_44 : decode cX0_unify 44 = .ok (.iconst 1, 1) := by decide +kernel
theorem dX0_unify_45 : decode cX0_unify 45 = .ok (.isub, 1) := by decide +kernel
theorem dX0_unify_46 : decode cX0_unify 46 = .ok (.istore 4, 2) := by decide +kernel
theorem dX0_unify_48 : decode cX0_unify 48 = .ok (.aload_n 0, 1) := by decide +kernel
theorem dX0_unify_49 : decode cX0_unify 49 = .ok (.aload_n 0, 1) := by decide +kernel
theorem dX0_unify_50 : decode cX0_unify 50 = .ok (.getfield 46, 3) := by decide +kernel
theorem dX0_unify_53 : decode cX0_unify 53 = .ok (.iload 4, 2) := by decide +kernel
theorem dX0_unify_55 : decode cX0_unify 55 = .ok (.iconst 0, 1) := by decide +kernel
theorem dX0_unify_56 : decode cX0_unify 56 = .ok (.invokevirtual 84, 3) := by decide +kernel
theorem dX0_unify_59 : decode cX0_unify 59 = .ok (.invokevirtual 237, 3) := by decide +kernel
theorem dX0_unify_62 : decode cX0_unify 62 = .ok (.istore 5, 2) := by decide +kernel
theorem dX0_unify_64 : decode cX0_unify 64 = .ok (.aload_n 0, 1) := by decide +kernel
theorem dX0_unify_65 : decode cX0_unify 65 = .ok (.aload_n 0, 1) := by decide +kernel
theorem dX0_unify_66 : decode cX0_unify 66 = .ok (.getfield 46, 3) := by decide +kernel
theorem dX0_unify_69 : decode cX0_unify 69 = .ok (.iload 4, 2) := by decide +kernel
theorem dX0_unify_71 : decode cX0_unify 71 = .ok (.iconst 1, 1) := by decide +kernel
theorem dX0_unify_72 : decode cX0_unify 72 = .ok (.invokevirtual 84, 3) := by decide +kernel
theorem dX0_unify_75 : decode cX0_unify 75 = .ok (.invokevirtual 237, 3) := by decide +kernel
theorem dX0_unify_78 : decode cX0_unify 78 = .ok (.istore 6, 2) := by decide +kernel
theorem dX0_unify_80 : decode cX0_unify 80 = .ok (.aload_n 0, 1) := by decide +kernel
theorem dX0_unify_81 : decode cX0_unify 81 = .ok (.getfield 46, 3) := by decide +kernel
theorem dX0_unify_84 : decode cX0_unify 84 = .ok (.iload 4, 2) := by decide +kernel
theorem dX0_unify_86 : decode cX0_unify 86 = .ok (.invokevirtual 92, 3) := by decide +kernel
theorem dX0_unify_89 : decode cX0_unify 89 = .ok (.iload 5, 2) := by decide +kernel
theorem dX0_unify_91 : decode cX0_unify 91 = .ok (.iload 6, 2) := by decide +kernel
theorem dX0_unify_93 : decode cX0_unify 93 = .ok (.if_icmp .eq 26, 3) := by decide +kernel
theorem dX0_unify_96 : decode cX0_unify 96 = .ok (.aload_n 0, 1) := by decide +kernel
theorem dX0_unify_97 : decode cX0_unify 97 = .ok (.iload 5, 2) := by decide +kernel
theorem dX0_unify_99 : decode cX0_unify 99 = .ok (.iload 6, 2) := by decide +kernel
theorem dX0_unify_101 : decode cX0_unify 101 = .ok (.invokestatic 240, 3) := by decide +kernel
theorem dX0_unify_104 : decode cX0_unify 104 = .ok (.iload 5, 2) := by decide +kernel
theorem dX0_unify_106 : decode cX0_unify 106 = .ok (.iload 6, 2) := by decide +kernel
theorem dX0_unify_108 : decode cX0_unify 108 = .ok (.invokestatic 245, 3) := by decide +kernel
theorem dX0_unify_111 : decode cX0_unify 111 = .ok (.invokevirtual 248, 3) := by decide +kernel
theorem dX0_unify_114 : decode cX0_unify 114 = .ok (.ifCond .ne 5, 3) := by decide +kernel
theorem dX0_unify_117 : decode cX0_unify 117 = .ok (.iconst 0, 1) := by decide +kernel
theorem dX0_unify_118 : decode cX0_unify 118 = .ok (.ireturn, 1) := by decide +kernel
theorem dX0_unify_119 : decode cX0_unify 119 = .ok (.iinc 3 1, 3) := by decide +kernel
theorem dX0_unify_122 : decode cX0_unify 122 = .ok (.goto (-101), 3) := by decide +kernel
theorem dX0_unify_125 : decode cX0_unify 125 = .ok (.iconst 1, 1) := by decide +kernel
theorem dX0_unify_126 : decode cX0_unify 126 = .ok (.ireturn, 1) := by decide +kernel
theorem dX0_join_0 : decode cX0_join 0 = .ok (.aload_n 0, 1) := by decide +kernel
theorem dX0_join_1 : decode cX0_join 1 = .ok (.getfield 24, 3) := by decide +kernel
theorem dX0_join_4 : decode cX0_join 4 = .ok (.iload_n 1, 1) := by decide +kernel
theorem dX0_join_5 : decode cX0_join 5 = .ok (.iconst 0, 1) := by decide +kernel
theorem dX0_join_6 : decode cX0_join 6 = .ok (.invokevirtual 84, 3) := by decide +kernel
theorem dX0_join_9 : decode cX0_join 9 = .ok (.istore_n 3, 1) := by decide +kernel
theorem dX0_join_10 : decode cX0_join 10 = .ok (.aload_n 0, 1) := by decide +kernel
theorem dX0_join_11 : decode cX0_join 11 = .ok (.getfield 24, 3) := by decide +kernel
theorem dX0_join_14 : decode cX0_join 14 = .ok (.iload_n 2, 1) := by decide +kernel
theorem dX0_join_15 : decode cX0_join 15 = .ok (.iconst 0, 1) := by decide +kernel
theorem dX0_join_16 : decode cX0_join 16 = .ok (.invokevirtual 84, 3) := by decide +kernel
theorem dX0_join_19 : decode cX0_join 19 = .ok (.istore 4, 2) := by decide +kernel
theorem dX0_join_21 : decode cX0_join 21 = .ok (.iload_n 3, 1) := by decide +kernel
theorem dX0_join_22 : decode cX0_join 22 = .ok (.iconst (-1), 1) := by decide +kernel
theorem dX0_join_23 : decode cX0_join 23 = .ok (.if_icmp .eq 13, 3) := by decide +kernel
theorem dX0_join_26 : decode cX0_join 26 = .ok (.iload 4, 2) := by decide +kernel
theorem dX0_join_28 : decode cX0_join 28 = .ok (.iconst (-1), 1) := by decide +kernel
theorem dX0_join_29 : decode cX0_join 29 = .ok (.if_icmp .eq 7, 3) := by decide +kernel
theorem dX0_join_32 : decode cX0_join 32 = .ok (.iconst 1, 1) := by decide +kernel
theorem dX0_join_33 : decode cX0_join 33 = .ok (.goto 4, 3) := by decide +kernel
theorem dX0_join_36 : decode cX0_join 36 = .ok (.iconst 0, 1) := by decide +kernel
theorem dX0_join_37 : decode cX0_join 37 = .ok (.istore 5, 2) := by decide +kernel
theorem dX0_join_39 : decode cX0_join 39 = .ok (.iload 5, 2) := by decide +kernel
theorem dX0_join_41 : decode cX0_join 41 = .ok (.ifCond .eq 19, 3) := by decide +kernel
theorem dX0_join_44 : decode cX0_join 44 = .ok (.iload_n 3, 1) := by decide +kernel
theorem dX0_join_45 : decode cX0_join 45 = .ok (.iload 4, 2) := by decide +kernel
theorem dX0_join_47 : decode cX0_join 47 = .ok (.if_icmp .ne 11, 3) := by decide +kernel
theorem dX0_join_50 : decode cX0_join 50 = .ok (.iload_n 2, 1) := by decide +kernel
theorem dX0_join_51 : decode cX0_join 51 = .ok (.aload_n 0, 1) := by decide +kernel
theorem dX0_join_52 : decode cX0_join 52 = .ok (.getfield 117, 3) := by decide +kernel
theorem dX0_join_55 : decode cX0_join 55 = .ok (.if_icmp .ge 5, 3) := by decide +kernel
theorem dX0_join_58 : decode cX0_join 58 = .ok (.iconst 0, 1) := by decide +kernel
theorem dX0_join_59 : decode cX0_join 59 = .ok (.ireturn, 1) := by decide +kernel
theorem dX0_join_60 : decode cX0_join 60 = .ok (.iload_n 3, 1) := by decide +kernel
theorem dX0_join_61 : decode cX0_join 61 = .ok (.iconst (-1), 1) := by decide +kernel
theorem dX0_join_62 : decode cX0_join 62 = .ok (.if_icmp .ne 13, 3) := by decide +kernel
theorem dX0_join_65 : decode cX0_join 65 = .ok (.iload 4, 2) := by decide +kernel
theorem dX0_join_67 : decode cX0_join 67 = .ok (.iconst (-1), 1) := by decide +kernel
theorem dX0_join_68 : decode cX0_join 68 = .ok (.if_icmp .eq 7, 3) := by decide +kernel
theorem dX0_join_71 : decode cX0_join 71 = .ok (.iconst 1, 1) := by decide +kernel
theorem dX0_join_72 : decode cX0_join 72 = .ok (.goto 4, 3) := by decide +kernel
theorem dX0_join_75 : decode cX0_join 75 = .ok (.iconst 0, 1) := by decide +kernel
theorem dX0_join_76 : decode cX0_join 76 = .ok (.istore 6, 2) := by decide +kernel
theorem dX0_join_78 : decode cX0_join 78 = .ok (.iload 6, 2) := by decide +kernel
theorem dX0_join_80 : decode cX0_join 80 = .ok (.ifCond .eq 7, 3) := by decide +kernel
theorem dX0_join_83 : decode cX0_join 83 = .ok (.iload_n 1, 1) := by decide +kernel
theorem dX0_join_84 : decode cX0_join 84 = .ok (.goto 4, 3) := by decide +kernel
theorem dX0_join_87 : decode cX0_join 87 = .ok (.iload_n 2, 1) := by decide +kernel
theorem dX0_join_88 : decode cX0_join 88 = .ok (.istore 7, 2) := by decide +kernel
theorem dX0_join_90 : decode cX0_join 90 = .ok (.iload 6, 2) := by decide +kernel
theorem dX0_join_92 : decode cX0_join 92 = .ok (.ifCond .eq 7, 3) := by decide +kernel
theorem dX0_join_95 : decode cX0_join 95 = .ok (.iload_n 2, 1) := by decide +kernel
theorem dX0_join_96 : decode cX0_join 96 = .ok (.goto 4, 3) := by decide +kernel
theorem dX0_join_99 : decode cX0_join 99 = .ok (.iload_n 1, 1) := by decide +kernel
theorem dX0_join_100 : decode cX0_join 100 = .ok (.istore 8, 2) := by decide +kernel
theorem dX0_join_102 : decode cX0_join 102 = .ok (.aload_n 0, 1) := by decide +kernel
theorem dX0_join_103 : decode cX0_join 103 = .ok (.getfield 24, 3) := by decide +kernel
theorem dX0_join_106 : decode cX0_join 106 = .ok (.iload 7, 2) := by decide +kernel
theorem dX0_join_108 : decode cX0_join 108 = .ok (.iconst 3, 1) := by decide +kernel
theorem dX0_join_109 : decode cX0_join 109 = .ok (.iload 8, 2) := by decide +kernel
theorem dX0_join_111 : decode cX0_join 111 = .ok (.invokevirtual 142, 3) := by decide +kernel
theorem dX0_join_114 : decode cX0_join 114 = .ok (.aload_n 0, 1) := by decide +kernel
theorem dX0_join_115 : decode cX0_join 115 = .ok (.getfield 40, 3) := by decide +kernel
theorem dX0_join_118 : decode cX0_join 118 = .ok (.iload 7, 2) := by decide +kernel
theorem dX0_join_120 : decode cX0_join 120 = .ok (.iload 8, 2) := by decide +kernel
theorem dX0_join_122 : decode cX0_join 122 = .ok (.iconst (-1), 1) := by decide +kernel
theorem dX0_join_123 : decode cX0_join 123 = .ok (.invokevirtual 113, 3) := by decide +kernel
theorem dX0_join_126 : decode cX0_join 126 = .ok (.pop, 1) := by decide +kernel
theorem dX0_join_127 : decode cX0_join 127 = .ok (.iload 5, 2) := by decide +kernel
theorem dX0_join_129 : decode cX0_join 129 = .ok (.ifCond .eq 14, 3) := by decide +kernel
theorem dX0_join_132 : decode cX0_join 132 = .ok (.aload_n 0, 1) := by decide +kernel
theorem dX0_join_133 : decode cX0_join 133 = .ok (.getfield 15, 3) := by decide +kernel
theorem dX0_join_136 : decode cX0_join 136 = .ok (.iload_n 3, 1) := by decide +kernel
theorem dX0_join_137 : decode cX0_join 137 = .ok (.invokevirtual 251, 3) := by decide +kernel
theorem dX0_join_140 : decode cX0_join 140 = .ok (.goto 4, 3) := by decide +kernel
theorem dX0_join_143 : decode cX0_join 143 = .ok (.iconst 0, 1) := by decide +kernel
theorem dX0_join_144 : decode cX0_join 144 = .ok (.istore 9, 2) := by decide +kernel
theorem dX0_join_146 : decode cX0_join 146 = .ok (.iconst 0, 1) := by decide +kernel
theorem dX0_join_147 : decode cX0_join 147 = .ok (.istore 10, 2) := by decide +kernel
theorem dX0_join_149 : decode cX0_join 149 = .ok (.iload 10, 2) := by decide +kernel
theorem dX0_join_151 : decode cX0_join 151 = .ok (.iload 9, 2) := by decide +kernel
theorem dX0_join_153 : decode cX0_join 153 = .ok (.if_icmp .ge 50, 3) := by decide +kernel
theorem dX0_join_156 : decode cX0_join 156 = .ok (.iload 10, 2) := by decide +kernel
theorem dX0_join_158 : decode cX0_join 158 = .ok (.ifCond .ne 7, 3) := by decide +kernel
theorem dX0_join_161 : decode cX0_join 161 = .ok (.iconst 1, 1) := by decide +kernel
theorem dX0_join_162 : decode cX0_join 162 = .ok (.goto 4, 3) := by decide +kernel
theorem dX0_join_165 : decode cX0_join 165 = .ok (.iconst 2, 1) := by decide +kernel
theorem dX0_join_166 : decode cX0_join 166 = .ok (.istore 11, 2) := by decide +kernel
theorem dX0_join_168 : decode cX0_join 168 = .ok (.aload_n 0, 1) := by decide +kernel
theorem dX0_join_169 : decode cX0_join 169 = .ok (.getfield 46, 3) := by decide +kernel
theorem dX0_join_172 : decode cX0_join 172 = .ok (.aload_n 0, 1) := by decide +kernel
theorem dX0_join_173 : decode cX0_join 173 = .ok (.getfield 24, 3) := by decide +kernel
theorem dX0_join_176 : decode cX0_join 176 = .ok (.iload_n 1, 1) := by decide +kernel
theorem dX0_join_177 : decode cX0_join 177 = .ok (.iload 11, 2) := by decide +kernel
theorem dX0_join_179 : decode cX0_join 179 = .ok (.invokevirtual 84, 3) := by decide +kernel
theorem dX0_join_182 : decode cX0_join 182 = .ok (.aload_n 0, 1) := by decide +kernel
theorem dX0_join_183 : decode cX0_join 183 = .ok (.getfield 24, 3) := by decide +kernel
theorem dX0_join_186 : decode cX0_join 186 = .ok (.iload_n 2, 1) := by decide +kernel
theorem dX0_join_187 : decode cX0_join 187 = .ok (.iload 11, 2) := by decide +kernel
theorem dX0_join_189 : decode cX0_join 189 = .ok (.invokevirtual 84, 3) := by decide +kernel
theorem dX0_join_192 : decode cX0_join 192 = .ok (.iconst (-1), 1) := by decide +kernel
theorem dX0_join_193 : decode cX0_join 193 = .ok (.invokevirtual 113, 3) := by decide +kernel
theorem dX0_join_196 : decode cX0_join 196 = .ok (.pop, 1) := by decide +kernel
theorem dX0_join_197 : decode cX0_join 197 = .ok (.iinc 10 1, 3) := by decide +kernel
theorem dX0_join_200 : decode cX0_join 200 = .ok (.goto (-51), 3) := by decide +kernel
theorem dX0_join_203 : decode cX0_join 203 = .ok (.iconst 1, 1) := by decide +kernel
theorem dX0_join_204 : decode cX0_join 204 = .ok (.ireturn, 1) := by decide +kernel
theorem dX0_isGround_0 : decode cX0_isGround 0 = .ok (.iconst 0, 1) := by decide +kernel
theorem dX0_isGround_1 : decode cX0_isGround 1 = .ok (.istore_n 3, 1) := by decide +kernel
theorem dX0_isGround_2 : decode cX0_isGround 2 = .ok (.iload_n 3, 1) := by decide +kernel
theorem dX0_isGround_3 : decode cX0_isGround 3 = .ok (.aload_n 1, 1) := by decide +kernel
theorem dX0_isGround_4 : decode cX0_isGround 4 = .ok (.getfield 184, 3) := by decide +kernel
theorem dX0_isGround_7 : decode cX0_isGround 7 = .ok (.if_icmp .ge 51, 3) := by decide +kernel
theorem dX0_isGround_10 : decode cX0_isGround 10 = .ok (.aload_n 0, 1) := by decide +kernel
theorem dX0_isGround_11 : decode cX0_isGround 11 = .ok (.aload_n 0, 1) := by decide +kernel
theorem dX0_isGround_12 : decode cX0_isGround 12 = .ok (.aload_n 1, 1) := by decide +kernel
theorem dX0_isGround_13 : decode cX0_isGround 13 = .ok (.iload_n 2, 1) := by decide +kernel
theorem dX0_isGround_14 : decode cX0_isGround 14 = .ok (.iload_n 3, 1) := by decide +kernel
theorem dX0_isGround_15 : decode cX0_isGround 15 = .ok (.invokevirtual 186, 3) := by decide +kernel
theorem dX0_isGround_18 : decode cX0_isGround 18 = .ok (.invokevirtual 237, 3) := by decide +kernel
theorem dX0_isGround_21 : decode cX0_isGround 21 = .ok (.istore 4, 2) := by decide +kernel
theorem dX0_isGround_23 : decode cX0_isGround 23 = .ok (.aload_n 0, 1) := by decide +kernel
theorem dX0_isGround_24 : decode cX0_isGround 24 = .ok (.iload 4, 2) := by decide +kernel
theorem dX0_isGround_26 : decode cX0_isGround 26 = .ok (.invokevirtual 254, 3) := by decide +kernel
theorem dX0_isGround_29 : decode cX0_isGround 29 = .ok (.iconst (-1), 1) := by decide +kernel
theorem dX0_isGround_30 : decode cX0_isGround 30 = .ok (.if_icmp .ne 10, 3) := by decide +kernel
theorem dX0_isGround_33 : decode cX0_isGround 33 = .ok (.aload_n 0, 1) := by decide +kernel
theorem dX0_isGround_34 : decode cX0_isGround 34 = .ok (.iload 4, 2) := by decide +kernel
theorem dX0_isGround_36 : decode cX0_isGround 36 = .ok (.invokevirtual 257, 3) := by decide +kernel
theorem dX0_isGround_39 : decode cX0_isGround 39 = .ok (.pop, 1) := by decide +kernel
theorem dX0_isGround_40 : decode cX0_isGround 40 = .ok (.aload_n 0, 1) := by decide +kernel
theorem dX0_isGround_41 : decode cX0_isGround 41 = .ok (.iload 4, 2) := by decide +kernel
theorem dX0_isGround_43 : decode cX0_isGround 43 = .ok (.invokevirtual 254, 3) := by decide +kernel
theorem dX0_isGround_46 : decode cX0_isGround 46 = .ok (.iconst 1, 1) := by decide +kernel
theorem dX0_isGround_47 : decode cX0_isGround 47 = .ok (.if_icmp .eq 5, 3) := by decide +kernel
theorem dX0_isGround_50 : decode cX0_isGround 50 = .ok (.iconst 0, 1) := by decide +kernel
theorem dX0_isGround_51 : decode cX0_isGround 51 = .ok (.ireturn, 1) := by decide +kernel
theorem dX0_isGround_52 : decode cX0_isGround 52 = .ok (.iinc 3 1, 3) := by decide +kernel
theorem dX0_isGround_55 : decode cX0_isGround 55 = .ok (.goto (-53), 3) := by decide +kernel
theorem dX0_isGround_58 : decode cX0_isGround 58 = .ok (.iconst 1, 1) := by decide +kernel
theorem dX0_isGround_59 : decode cX0_isGround 59 = .ok (.ireturn, 1) := by decide +kernel
theorem dX0_isFinite_0 : decode cX0_isFinite 0 = .ok (.aload_n 0, 1) := by decide +kernel
theorem dX0_isFinite_1 : decode cX0_isFinite 1 = .ok (.dup, 1) := by decide +kernel
theorem dX0_isFinite_2 : decode cX0_isFinite 2 = .ok (.getfield 98, 3) := by decide +kernel
theorem dX0_isFinite_5 : decode cX0_isFinite 5 = .ok (.iconst 1, 1) := by decide +kernel
theorem dX0_isFinite_6 : decode cX0_isFinite 6 = .ok (.iadd, 1) := by decide +kernel
