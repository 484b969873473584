theorem dX4_build_78 : decode cX4_build 78 = .ok (.aload_n 0, 1) := by decide +kernel
theorem dX4_build_79 : decode cX4_build 79 = .ok (.aload_n 1, 1) := by decide +kernel
theorem dX4_build_80 : decode cX4_build 80 = .ok (.aload_n 2, 1) := by decide +kernel
theorem dX4_build_81 : decode cX4_build 81 = .ok (.iconst 0, 1) := by decide +kernel
theorem dX4_build_82 : decode cX4_build 82 = .ok (.invokevirtual 267, 3) := by decide +kernel
theorem dX4_build_85 : decode cX4_build 85 = .ok (.iload 5, 2) := by decide +kernel
theorem dX4_build_87 : decode cX4_build 87 = .ok (.invokevirtual 270, 3) := by decide +kernel
theorem dX4_build_90 : decode cX4_build 90 = .ok (.pop, 1) := by decide +kernel
theorem dX4_build_91 : decode cX4_build 91 = .ok (.return_, 1) := by decide +kernel
theorem dX4_comesApart_0 : decode cX4_comesApart 0 = .ok (.aload_n 0, 1) := by decide +kernel
theorem dX4_comesApart_1 : decode cX4_comesApart 1 = .ok (.getfield 9, 3) := by decide +kernel
theorem dX4_comesApart_4 : decode cX4_comesApart 4 = .ok (.iload_n 3, 1) := by decide +kernel
theorem dX4_comesApart_5 : decode cX4_comesApart 5 = .ok (.invokevirtual 206, 3) := by decide +kernel
theorem dX4_comesApart_8 : decode cX4_comesApart 8 = .ok (.aload_n 2, 1) := by decide +kernel
theorem dX4_comesApart_9 : decode cX4_comesApart 9 = .ok (.getfield 209, 3) := by decide +kernel
theorem dX4_comesApart_12 : decode cX4_comesApart 12 = .ok (.if_icmp .eq 5, 3) := by decide +kernel
theorem dX4_comesApart_15 : decode cX4_comesApart 15 = .ok (.iconst 0, 1) := by decide +kernel
theorem dX4_comesApart_16 : decode cX4_comesApart 16 = .ok (.ireturn, 1) := by decide +kernel
theorem dX4_comesApart_17 : decode cX4_comesApart 17 = .ok (.iconst 1, 1) := by decide +kernel
theorem dX4_comesApart_18 : decode cX4_comesApart 18 = .ok (.istore 4, 2) := by decide +kernel
theorem dX4_comesApart_20 : decode cX4_comesApart 20 = .ok (.iload 4, 2) := by decide +kernel
theorem dX4_comesApart_22 : decode cX4_comesApart 22 = .ok (.aload_n 2, 1) := by decide +kernel
theorem dX4_comesApart_23 : decode cX4_comesApart 23 = .ok (.getfield 261, 3) := by decide +kernel
theorem dX4_comesApart_26 : decode cX4_comesApart 26 = .ok (.if_icmp .ge 37, 3) := by decide +kernel
theorem dX4_comesApart_29 : decode cX4_comesApart 29 = .ok (.aload_n 0, 1) := by decide +kernel
theorem dX4_comesApart_30 : decode cX4_comesApart 30 = .ok (.aload_n 1, 1) := by decide +kernel
theorem dX4_comesApart_31 : decode cX4_comesApart 31 = .ok (.aload_n 2, 1) := by decide +kernel
theorem dX4_comesApart_32 : decode cX4_comesApart 32 = .ok (.iload 4, 2) := by decide +kernel
theorem dX4_comesApart_34 : decode cX4_comesApart 34 = .ok (.invokevirtual 267, 3) := by decide +kernel
theorem dX4_comesApart_37 : decode cX4_comesApart 37 = .ok (.aload_n 0, 1) := by decide +kernel
theorem dX4_comesApart_38 : decode cX4_comesApart 38 = .ok (.getfield 9, 3) := by decide +kernel
theorem dX4_comesApart_41 : decode cX4_comesApart 41 = .ok (.iload_n 3, 1) := by decide +kernel
theorem dX4_comesApart_42 : decode cX4_comesApart 42 = .ok (.iload 4, 2) := by decide +kernel
theorem dX4_comesApart_44 : decode cX4_comesApart 44 = .ok (.iconst 1, 1) := by decide +kernel
theorem dX4_comesApart_45 : decode cX4_comesApart 45 = .ok (.isub, 1) := by decide +kernel
theorem dX4_comesApart_46 : decode cX4_comesApart 46 = .ok (.invokevirtual 301, 3) := by decide +kernel
theorem dX4_comesApart_49 : decode cX4_comesApart 49 = .ok (.invokevirtual 270, 3) := by decide +kernel
theorem dX4_comesApart_52 : decode cX4_comesApart 52 = .ok (.ifCond .ne 5, 3) := by decide +kernel
theorem dX4_comesApart_55 : decode cX4_comesApart 55 = .ok (.iconst 0, 1) := by decide +kernel
theorem dX4_comesApart_56 : decode cX4_comesApart 56 = .ok (.ireturn, 1) := by decide +kernel
theorem dX4_comesApart_57 : decode cX4_comesApart 57 = .ok (.iinc 4 1, 3) := by decide +kernel
theorem dX4_comesApart_60 : decode cX4_comesApart 60 = .ok (.goto (-40), 3) := by decide +kernel
theorem dX4_comesApart_63 : decode cX4_comesApart 63 = .ok (.iconst 1, 1) := by decide +kernel
theorem dX4_comesApart_64 : decode cX4_comesApart 64 = .ok (.ireturn, 1) := by decide +kernel
theorem dX5_init_0 : decode cX5_init 0 = .ok (.aload_n 0, 1) := by decide +kernel
theorem dX5_init_1 : decode cX5_init 1 = .ok (.invokespecial 3, 3) := by decide +kernel
theorem dX5_init_4 : decode cX5_init 4 = .ok (.aload_n 0, 1) := by decide +kernel
theorem dX5_init_5 : decode cX5_init 5 = .ok (.aload_n 1, 1) := by decide +kernel
theorem dX5_init_6 : decode cX5_init 6 = .ok (.putfield 9, 3) := by decide +kernel
theorem dX5_init_9 : decode cX5_init 9 = .ok (.aload_n 0, 1) := by decide +kernel
theorem dX5_init_10 : decode cX5_init 10 = .ok (.iload_n 2, 1) := by decide +kernel
theorem dX5_init_11 : decode cX5_init 11 = .ok (.putfield 15, 3) := by decide +kernel
theorem dX5_init_14 : decode cX5_init 14 = .ok (.aload_n 0, 1) := by decide +kernel
theorem dX5_init_15 : decode cX5_init 15 = .ok (.iload_n 3, 1) := by decide +kernel
theorem dX5_init_16 : decode cX5_init 16 = .ok (.putfield 19, 3) := by decide +kernel
theorem dX5_init_19 : decode cX5_init 19 = .ok (.aload_n 0, 1) := by decide +kernel
theorem dX5_init_20 : decode cX5_init 20 = .ok (.iload 4, 2) := by decide +kernel
theorem dX5_init_22 : decode cX5_init 22 = .ok (.putfield 22, 3) := by decide +kernel
theorem dX5_init_25 : decode cX5_init 25 = .ok (.aload_n 0, 1) := by decide +kernel
theorem dX5_init_26 : decode cX5_init 26 = .ok (.iconst (-1), 1) := by decide +kernel
theorem dX5_init_27 : decode cX5_init 27 = .ok (.putfield 26, 3) := by decide +kernel
theorem dX5_init_30 : decode cX5_init 30 = .ok (.return_, 1) := by decide +kernel
theorem dX5_isInput_0 : decode cX5_isInput 0 = .ok (.iload_n 1, 1) := by decide +kernel
theorem dX5_isInput_1 : decode cX5_isInput 1 = .ok (.ifCond .lt 24, 3) := by decide +kernel
theorem dX5_isInput_4 : decode cX5_isInput 4 = .ok (.iload_n 1, 1) := by decide +kernel
theorem dX5_isInput_5 : decode cX5_isInput 5 = .ok (.iconst 3, 1) := by decide +kernel
theorem dX5_isInput_6 : decode cX5_isInput 6 = .ok (.if_icmp .ge 19, 3) := by decide +kernel
theorem dX5_isInput_9 : decode cX5_isInput 9 = .ok (.aload_n 0, 1) := by decide +kernel
theorem dX5_isInput_10 : decode cX5_isInput 10 = .ok (.getfield 19, 3) := by decide +kernel
theorem dX5_isInput_13 : decode cX5_isInput 13 = .ok (.iload_n 1, 1) := by decide +kernel
theorem dX5_isInput_14 : decode cX5_isInput 14 = .ok (.ishr, 1) := by decide +kernel
theorem dX5_isInput_15 : decode cX5_isInput 15 = .ok (.iconst 1, 1) := by decide +kernel
theorem dX5_isInput_16 : decode cX5_isInput 16 = .ok (.iand, 1) := by decide +kernel
theorem dX5_isInput_17 : decode cX5_isInput 17 = .ok (.iconst 1, 1) := by decide +kernel
theorem dX5_isInput_18 : decode cX5_isInput 18 = .ok (.if_icmp .ne 7, 3) := by decide +kernel
theorem dX5_isInput_21 : decode cX5_isInput 21 = .ok (.iconst 1, 1) := by decide +kernel
theorem dX5_isInput_22 : decode cX5_isInput 22 = .ok (.goto 4, 3) := by decide +kernel
theorem dX5_isInput_25 : decode cX5_isInput 25 = .ok (.iconst 0, 1) := by decide +kernel
theorem dX5_isInput_26 : decode cX5_isInput 26 = .ok (.ireturn, 1) := by decide +kernel
theorem dX5_foundSign_0 : decode cX5_foundSign 0 = .ok (.aload_n 0, 1) := by decide +kernel
theorem dX5_foundSign_1 : decode cX5_foundSign 1 = .ok (.getfield 29, 3) := by decide +kernel
theorem dX5_foundSign_4 : decode cX5_foundSign 4 = .ok (.ifCond .eq 18, 3) := by decide +kernel
theorem dX5_foundSign_7 : decode cX5_foundSign 7 = .ok (.aload_n 0, 1) := by decide +kernel
theorem dX5_foundSign_8 : decode cX5_foundSign 8 = .ok (.getfield 33, 3) := by decide +kernel
theorem dX5_foundSign_11 : decode cX5_foundSign 11 = .ok (.ifCond .eq 8, 3) := by decide +kernel
theorem dX5_foundSign_14 : decode cX5_foundSign 14 = .ok (.bipush 110, 2) := by decide +kernel
theorem dX5_foundSign_16 : decode cX5_foundSign 16 = .ok (.goto 5, 3) := by decide +kernel
theorem dX5_foundSign_19 : decode cX5_foundSign 19 = .ok (.bipush 109, 2) := by decide +kernel
theorem dX5_foundSign_21 : decode cX5_foundSign 21 = .ok (.ireturn, 1) := by decide +kernel
theorem dX5_foundSign_22 : decode cX5_foundSign 22 = .ok (.aload_n 0, 1) := by decide +kernel
theorem dX5_foundSign_23 : decode cX5_foundSign 23 = .ok (.getfield 33, 3) := by decide +kernel
theorem dX5_foundSign_26 : decode cX5_foundSign 26 = .ok (.ifCond .eq 8, 3) := by decide +kernel
theorem dX5_foundSign_29 : decode cX5_foundSign 29 = .ok (.bipush 115, 2) := by decide +kernel
theorem dX5_foundSign_31 : decode cX5_foundSign 31 = .ok (.goto 5, 3) := by decide +kernel
theorem dX5_foundSign_34 : decode cX5_foundSign 34 = .ok (.bipush 100, 2) := by decide +kernel
theorem dX5_foundSign_36 : decode cX5_foundSign 36 = .ok (.ireturn, 1) := by decide +kernel
theorem dX5_isBroken_0 : decode cX5_isBroken 0 = .ok (.aload_n 0, 1) := by decide +kernel
theorem dX5_isBroken_1 : decode cX5_isBroken 1 = .ok (.getfield 33, 3) := by decide +kernel
theorem dX5_isBroken_4 : decode cX5_isBroken 4 = .ok (.ifCond .eq 25, 3) := by decide +kernel
theorem dX5_isBroken_7 : decode cX5_isBroken 7 = .ok (.aload_n 0, 1) := by decide +kernel
theorem dX5_isBroken_8 : decode cX5_isBroken 8 = .ok (.getfield 22, 3) := by decide +kernel
theorem dX5_isBroken_11 : decode cX5_isBroken 11 = .ok (.bipush 100, 2) := by decide +kernel
theorem dX5_isBroken_13 : decode cX5_isBroken 13 = .ok (.if_icmp .eq 12, 3) := by decide +kernel
theorem dX5_isBroken_16 : decode cX5_isBroken 16 = .ok (.aload_n 0, 1) := by decide +kernel
theorem dX5_isBroken_17 : decode cX5_isBroken 17 = .ok (.getfield 22, 3) := by decide +kernel
theorem dX5_isBroken_20 : decode cX5_isBroken 20 = .ok (.bipush 109, 2) := by decide +kernel
theorem dX5_isBroken_22 : decode cX5_isBroken 22 = .ok (.if_icmp .ne 7, 3) := by decide +kernel
theorem dX5_isBroken_25 : decode cX5_isBroken 25 = .ok (.iconst 1, 1) := by decide +kernel
theorem dX5_isBroken_26 : decode cX5_isBroken 26 = .ok (.goto 4, 3) := by decide +kernel
theorem dX5_isBroken_29 : decode cX5_isBroken 29 = .ok (.iconst 0, 1) := by decide +kernel
theorem dX5_isBroken_30 : decode cX5_isBroken 30 = .ok (.istore_n 1, 1) := by decide +kernel
theorem dX5_isBroken_31 : decode cX5_isBroken 31 = .ok (.aload_n 0, 1) := by decide +kernel
theorem dX5_isBroken_32 : decode cX5_isBroken 32 = .ok (.getfield 29, 3) := by decide +kernel
theorem dX5_isBroken_35 : decode cX5_isBroken 35 = .ok (.ifCond .eq 25, 3) := by decide +kernel
theorem dX5_isBroken_38 : decode cX5_isBroken 38 = .ok (.aload_n 0, 1) := by decide +kernel
theorem dX5_isBroken_39 : decode cX5_isBroken 39 = .ok (.getfield 22, 3) := by decide +kernel
theorem dX5_isBroken_42 : decode cX5_isBroken 42 = .ok (.bipush 100, 2) := by decide +kernel
theorem dX5_isBroken_44 : decode cX5_isBroken 44 = .ok (.if_icmp .eq 12, 3) := by decide +kernel
theorem dX5_isBroken_47 : decode cX5_isBroken 47 = .ok (.aload_n 0, 1) := by decide +kernel
theorem dX5_isBroken_48 : decode cX5_isBroken 48 = .ok (.getfield 22, 3) := by decide +kernel
theorem dX5_isBroken_51 : decode cX5_isBroken 51 = .ok (.bipush 115, 2) := by decide +kernel
theorem dX5_isBroken_53 : decode cX5_isBroken 53 = .ok (.if_icmp .ne 7, 3) := by decide +kernel
theorem dX5_isBroken_56 : decode cX5_isBroken 56 = .ok (.iconst 1, 1) := by decide +kernel
theorem dX5_isBroken_57 : decode cX5_isBroken 57 = .ok (.goto 4, 3) := by decide +kernel
theorem dX5_isBroken_60 : decode cX5_isBroken 60 = .ok (.iconst 0, 1) := by decide +kernel
theorem dX5_isBroken_61 : decode cX5_isBroken 61 = .ok (.istore_n 2, 1) := by decide +kernel
theorem dX5_isBroken_62 : decode cX5_isBroken 62 = .ok (.iload_n 1, 1) := by decide +kernel
theorem dX5_isBroken_63 : decode cX5_isBroken 63 = .ok (.ifCond .ne 7, 3) := by decide +kernel
theorem dX5_isBroken_66 : decode cX5_isBroken 66 = .ok (.iload_n 2, 1) := by decide +kernel
theorem dX5_isBroken_67 : decode cX5_isBroken 67 = .ok (.ifCond .eq 7, 3) := by decide +kernel
theorem dX5_isBroken_70 : decode cX5_isBroken 70 = .ok (.iconst 1, 1) := by decide +kernel
theorem dX5_isBroken_71 : decode cX5_isBroken 71 = .ok (.goto 4, 3) := by decide +kernel
theorem dX5_isBroken_74 : decode cX5_isBroken 74 = .ok (.iconst 0, 1) := by decide +kernel
theorem dX5_isBroken_75 : decode cX5_isBroken 75 = .ok (.ireturn, 1) := by decide +kernel
theorem dX5_faultSign_0 : decode cX5_faultSign 0 = .ok (.aload_n 0, 1) := by decide +kernel
theorem dX5_faultSign_1 : decode cX5_faultSign 1 = .ok (.getfield 36, 3) := by decide +kernel
theorem dX5_faultSign_4 : decode cX5_faultSign 4 = .ok (.ifCond .eq 6, 3) := by decide +kernel
theorem dX5_faultSign_7 : decode cX5_faultSign 7 = .ok (.bipush 111, 2) := by decide +kernel
theorem dX5_faultSign_9 : decode cX5_faultSign 9 = .ok (.ireturn, 1) := by decide +kernel
theorem dX5_faultSign_10 : decode cX5_faultSign 10 = .ok (.aload_n 0, 1) := by decide +kernel
theorem dX5_faultSign_11 : decode cX5_faultSign 11 = .ok (.getfield 39, 3) := by decide +kernel
theorem dX5_faultSign_14 : decode cX5_faultSign 14 = .ok (.ifCond .eq 15, 3) := by decide +kernel
theorem dX5_faultSign_17 : decode cX5_faultSign 17 = .ok (.aload_n 0, 1) := by decide +kernel
theorem dX5_faultSign_18 : decode cX5_faultSign 18 = .ok (.invokevirtual 42, 3) := by decide +kernel
theorem dX5_faultSign_21 : decode cX5_faultSign 21 = .ok (.ifCond .eq 8, 3) := by decide +kernel
theorem dX5_faultSign_24 : decode cX5_faultSign 24 = .ok (.bipush 112, 2) := by decide +kernel
theorem dX5_faultSign_26 : decode cX5_faultSign 26 = .ok (.goto 5, 3) := by decide +kernel
theorem dX5_faultSign_29 : decode cX5_faultSign 29 = .ok (.bipush 45, 2) := by decide +kernel
theorem dX5_faultSign_31 : decode cX5_faultSign 31 = .ok (.ireturn, 1) := by decide +kernel
theorem dX6_init_0 : decode cX6_init 0 = .ok (.aload_n 0, 1) := by decide +kernel
theorem dX6_init_1 : decode cX6_init 1 = .ok (.invokespecial 3, 3) := by decide +kernel
theorem dX6_init_4 : decode cX6_init 4 = .ok (.aload_n 0, 1) := by decide +kernel
theorem dX6_init_5 : decode cX6_init 5 = .ok (.iload_n 1, 1) := by decide +kernel
theorem dX6_init_6 : decode cX6_init 6 = .ok (.putfield 9, 3) := by decide +kernel
theorem dX6_init_9 : decode cX6_init 9 = .ok (.iload_n 2, 1) := by decide +kernel
theorem dX6_init_10 : decode cX6_init 10 = .ok (.iconst (-1), 1) := by decide +kernel
theorem dX6_init_11 : decode cX6_init 11 = .ok (.if_icmp .ne 7, 3) := by decide +kernel
theorem dX6_init_14 : decode cX6_init 14 = .ok (.iconst 0, 1) := by decide +kernel
theorem dX6_init_15 : decode cX6_init 15 = .ok (.goto 23, 3) := by decide +kernel
theorem dX6_init_18 : decode cX6_init 18 = .ok (.iload_n 3, 1) := by decide +kernel
theorem dX6_init_19 : decode cX6_init 19 = .ok (.iconst (-1), 1) := by decide +kernel
theorem dX6_init_20 : decode cX6_init 20 = .ok (.if_icmp .ne 7, 3) := by decide +kernel
theorem dX6_init_23 : decode cX6_init 23 = .ok (.iconst 1, 1) := by decide +kernel
theorem dX6_init_24 : decode cX6_init 24 = .ok (.goto 14, 3) := by decide +kernel
theorem dX6_init_27 : decode cX6_init 27 = .ok (.iload 4, 2) := by decide +kernel
theorem dX6_init_29 : decode cX6_init 29 = .ok (.iconst (-1), 1) := by decide +kernel
theorem dX6_init_30 : decode cX6_init 30 = .ok (.if_icmp .ne 7, 3) := by decide +kernel
theorem dX6_init_33 : decode cX6_init 33 = .ok (.iconst 2, 1) := by decide +kernel
theorem dX6_init_34 : decode cX6_init 34 = .ok (.goto 4, 3) := by decide +kernel
theorem dX6_init_37 : decode cX6_init 37 = .ok (.iconst 3, 1) := by decide +kernel
theorem dX6_init_38 : decode cX6_init 38 = .ok (.istore 5, 2) := by decide +kernel
theorem dX6_init_40 : decode cX6_init 40 = .ok (.aload_n 0, 1) := by decide +kernel
theorem dX6_init_41 : decode cX6_init 41 = .ok (.new 15, 3) := by decide +kernel
theorem dX6_init_44 : decode cX6_init 44 = .ok (.dup, 1) := by decide +kernel
theorem dX6_init_45 : decode cX6_init 45 = .ok (.iconst 1, 1) := by decide +kernel
theorem dX6_init_46 : decode cX6_init 46 = .ok (.iconst 3, 1) := by decide +kernel
theorem dX6_init_47 : decode cX6_init 47 = .ok (.invokespecial 17, 3) := by decide +kernel
theorem dX6_init_50 : decode cX6_init 50 = .ok (.putfield 20, 3) := by decide +kernel
theorem dX6_init_53 : decode cX6_init 53 = .ok (.iconst 0, 1) := by decide +kernel
theorem dX6_init_54 : decode cX6_init 54 = .ok (.istore 6, 2) := by decide +kernel
theorem dX6_init_56 : decode cX6_init 56 = .ok (.iload 6, 2) := by decide +kernel
theorem dX6_init_58 : decode cX6_init 58 = .ok (.iload 5, 2) := by decide +kernel
theorem dX6_init_60 : decode cX6_init 60 = .ok (.if_icmp .ge 28, 3) := by decide +kernel
theorem dX6_init_63 : decode cX6_init 63 = .ok (.aload_n 0, 1) := by decide +kernel
theorem dX6_init_64 : decode cX6_init 64 = .ok (.getfield 20, 3) := by decide +kernel
theorem dX6_init_67 : decode cX6_init 67 = .ok (.iload 6, 2) := by decide +kernel
theorem dX6_init_69 : decode cX6_init 69 = .ok (.iload_n 2, 1) := by decide +kernel
theorem dX6_init_70 : decode cX6_init 70 = .ok (.iload_n 3, 1) := by decide +kernel
theorem dX6_init_71 : decode cX6_init 71 = .ok (.iload 4, 2) := by decide +kernel
theorem dX6_init_73 : decode cX6_init 73 = .ok (.invokestatic 24, 3) := by decide +kernel
theorem dX6_init_76 : decode cX6_init 76 = .ok (.iconst (-1), 1) := by decide +kernel
theorem dX6_init_77 : decode cX6_init 77 = .ok (.iconst (-1), 1) := by decide +kernel
theorem dX6_init_78 : decode cX6_init 78 = .ok (.invokevirtual 28, 3) := by decide +kernel
theorem dX6_init_81 : decode cX6_init 81 = .ok (.pop, 1) := by decide +kernel
theorem dX6_init_82 : decode cX6_init 82 = .ok (.iinc 6 1, 3) := by decide +kernel
theorem dX6_init_85 : decode cX6_init 85 = .ok (.goto (-29), 3) := by decide +kernel
theorem dX6_init_88 : decode cX6_init 88 = .ok (.aload_n 0, 1) := by decide +kernel
theorem dX6_init_89 : decode cX6_init 89 = .ok (.new 32, 3) := by decide +kernel
theorem dX6_init_92 : decode cX6_init 92 = .ok (.dup, 1) := by decide +kernel
theorem dX6_init_93 : decode cX6_init 93 = .ok (.invokespecial 34, 3) := by decide +kernel
theorem dX6_init_96 : decode cX6_init 96 = .ok (.putfield 35, 3) := by decide +kernel
theorem dX6_init_99 : decode cX6_init 99 = .ok (.aload_n 0, 1) := by decide +kernel
theorem dX6_init_100 : decode cX6_init 100 = .ok (.new 32, 3) := by decide +kernel
theorem dX6_init_103 : decode cX6_init 103 = .ok (.dup, 1) := by decide +kernel
theorem dX6_init_104 : decode cX6_init 104 = .ok (.invokespecial 34, 3) := by decide +kernel
theorem dX6_init_107 : decode cX6_init 107 = .ok (.putfield 39, 3) := by decide +kernel
theorem dX6_init_110 : decode cX6_init 110 = .ok (.aload_n 0, 1) := by decide +kernel
theorem dX6_init_111 : decode cX6_init 111 = .ok (.new 42, 3) := by decide +kernel
theorem dX6_init_114 : decode cX6_init 114 = .ok (.dup, 1) := by decide +kernel
theorem dX6_init_115 : decode cX6_init 115 = .ok (.iconst 2, 1) := by decide +kernel
theorem dX6_init_116 : decode cX6_init 116 = .ok (.iload_n 1, 1) := by decide +kernel
theorem dX6_init_117 : decode cX6_init 117 = .ok (.iload 5, 2) := by decide +kernel
theorem dX6_init_119 : decode cX6_init 119 = .ok (.iconst 0, 1) := by decide +kernel
theorem dX6_init_120 : decode cX6_init 120 = .ok (.iconst 1, 1) := by decide +kernel
theorem dX6_init_121 : decode cX6_init 121 = .ok (.iconst 2, 1) := by decide +kernel
theorem dX6_init_122 : decode cX6_init 122 = .ok (.invokespecial 44, 3) := by decide +kernel
theorem dX6_init_125 : decode cX6_init 125 = .ok (.putfield 47, 3) := by decide +kernel
theorem dX6_init_128 : decode cX6_init 128 = .ok (.return_, 1) := by decide +kernel
theorem dX6_arity_0 : decode cX6_arity 0 = .ok (.aload_n 0, 1) := by decide +kernel
theorem dX6_arity_1 : decode cX6_arity 1 = .ok (.getfield 20, 3) := by decide +kernel
theorem dX6_arity_4 : decode cX6_arity 4 = .ok (.invokevirtual 51, 3) := by decide +kernel
theorem dX6_arity_7 : decode cX6_arity 7 = .ok (.ireturn, 1) := by decide +kernel
theorem dX6_typeAt_0 : decode cX6_typeAt 0 = .ok (.aload_n 0, 1) := by decide +kernel
theorem dX6_typeAt_1 : decode cX6_typeAt 1 = .ok (.getfield 20, 3) := by decide +kernel
theorem dX6_typeAt_4 : decode cX6_typeAt 4 = .ok (.iload_n 1, 1) := by decide +kernel
theorem dX6_typeAt_5 : decode cX6_typeAt 5 = .ok (.iconst 0, 1) := by decide +kernel
theorem dX6_typeAt_6 : decode cX6_typeAt 6 = .ok (.invokevirtual 55, 3) := by decide +kernel
theorem dX6_typeAt_9 : decode cX6_typeAt 9 = .ok (.ireturn, 1) := by decide +kernel
theorem dX6_argumentSet_0 : decode cX6_argumentSet 0 = .ok (.iconst 1, 1) := by decide +kernel
theorem dX6_argumentSet_1 : decode cX6_argumentSet 1 = .ok (.aload_n 0, 1) := by decide +kernel
theorem dX6_argumentSet_2 : decode cX6_argumentSet 2 = .ok (.getfield 20, 3) := by decide +kernel
theorem dX6_argumentSet_5 : decode cX6_argumentSet 5 = .ok (.invokevirtual 51, 3) := by decide +kernel
theorem dX6_argumentSet_8 : decode cX6_argumentSet 8 = .ok (.ishl, 1) := by decide +kernel
theorem dX6_argumentSet_9 : decode cX6_argumentSet 9 = .ok (.iconst 1, 1) := by decide +kernel
theorem dX6_argumentSet_10 : decode cX6_argumentSet 10 = .ok (.isub, 1) := by decide +kernel
theorem dX6_argumentSet_11 : decode cX6_argumentSet 11 = .ok (.ireturn, 1) := by decide +kernel
theorem dX6_modeCount_0 : decode cX6_modeCount 0 = .ok (.aload_n 0, 1) := by decide +kernel
theorem dX6_modeCount_1 : decode cX6_modeCount 1 = .ok (.getfield 35, 3) := by decide +kernel
theorem dX6_modeCount_4 : decode cX6_modeCount 4 = .ok (.invokevirtual 59, 3) := by decide +kernel
theorem dX6_modeCount_7 : decode cX6_modeCount 7 = .ok (.ireturn, 1) := by decide +kernel
theorem dX6_modeAt_0 : decode cX6_modeAt 0 = .ok (.iload_n 1, 1) := by decide +kernel
theorem dX6_modeAt_1 : decode cX6_modeAt 1 = .ok (.ifCond .lt 28, 3) := by decide +kernel
theorem dX6_modeAt_4 : decode cX6_modeAt 4 = .ok (.iload_n 1, 1) := by decide +kernel
theorem dX6_modeAt_5 : decode cX6_modeAt 5 = .ok (.aload_n 0, 1) := by decide +kernel
theorem dX6_modeAt_6 : decode cX6_modeAt 6 = .ok (.getfield 35, 3) := by decide +kernel
theorem dX6_modeAt_9 : decode cX6_modeAt 9 = .ok (.invokevirtual 59, 3) := by decide +kernel
theorem dX6_modeAt_12 : decode cX6_modeAt 12 = .ok (.if_icmp .ge 17, 3) := by decide +kernel
theorem dX6_modeAt_15 : decode cX6_modeAt 15 = .ok (.aload_n 0, 1) := by decide +kernel
theorem dX6_modeAt_16 : decode cX6_modeAt 16 = .ok (.getfield 35, 3) := by decide +kernel
theorem dX6_modeAt_19 : decode cX6_modeAt 19 = .ok (.iload_n 1, 1) := by decide +kernel
theorem dX6_modeAt_20 : decode cX6_modeAt 20 = .ok (.invokevirtual 62, 3) := by decide +kernel
theorem dX6_modeAt_23 : decode cX6_modeAt 23 = .ok (.checkcast 65, 3) := by decide +kernel
theorem dX6_modeAt_26 : decode cX6_modeAt 26 = .ok (.goto 4, 3) := by decide +kernel
theorem dX6_modeAt_29 : decode cX6_modeAt 29 = .ok (.aconst_null, 1) := by decide +kernel
theorem dX6_modeAt_30 : decode cX6_modeAt 30 = .ok (.areturn, 1) := by decide +kernel
theorem dX6_clauseCount_0 : decode cX6_clauseCount 0 = .ok (.aload_n 0, 1) := by decide +kernel
theorem dX6_clauseCount_1 : decode cX6_clauseCount 1 = .ok (.getfield 39, 3) := by decide +kernel
theorem dX6_clauseCount_4 : decode cX6_clauseCount 4 = .ok (.invokevirtual 59, 3) := by decide +kernel
theorem dX6_clauseCount_7 : decode cX6_clauseCount 7 = .ok (.ireturn, 1) := by decide +kernel
theorem dX6_clauseAt_0 : decode cX6_clauseAt 0 = .ok (.iload_n 1, 1) := by decide +kernel
theorem dX6_clauseAt_1 : decode cX6_clauseAt 1 = .ok (.ifCond .lt 28, 3) := by decide +kernel
theorem dX6_clauseAt_4 : decode cX6_clauseAt 4 = .ok (.iload_n 1, 1) := by decide +kernel
theorem dX6_clauseAt_5 : decode cX6_clauseAt 5 = .ok (.aload_n 0, 1) := by decide +kernel
theorem dX6_clauseAt_6 : decode cX6_clauseAt 6 = .ok (.getfield 39, 3) := by decide +kernel
theorem dX6_clauseAt_9 : decode cX6_clauseAt 9 = .ok (.invokevirtual 59, 3) := by decide +kernel
theorem dX6_clauseAt_12 : decode cX6_clauseAt 12 = .ok (.if_icmp .ge 17, 3) := by decide +kernel
theorem dX6_clauseAt_15 : decode cX6_clauseAt 15 = .ok (.aload_n 0, 1) := by decide +kernel
theorem dX6_clauseAt_16 : decode cX6_clauseAt 16 = .ok (.getfield 39, 3) := by decide +kernel
theorem dX6_clauseAt_19 : decode cX6_clauseAt 19 = .ok (.iload_n 1, 1) := by decide +kernel
theorem dX6_clauseAt_20 : decode cX6_clauseAt 20 = .ok (.invokevirtual 62, 3) := by decide +kernel
theorem dX6_clauseAt_23 : decode cX6_clauseAt 23 = .ok (.checkcast 67, 3) := by decide +kernel
theorem dX6_clauseAt_26 : decode cX6_clauseAt 26 = .ok (.goto 4, 3) := by decide +kernel
theorem dX6_clauseAt_29 : decode cX6_clauseAt 29 = .ok (.aconst_null, 1) := by decide +kernel
theorem dX6_clauseAt_30 : decode cX6_clauseAt 30 = .ok (.areturn, 1) := by decide +kernel
theorem dX7_init_0 : decode cX7_init 0 = .ok (.aload_n 0, 1) := by decide +kernel
theorem dX7_init_1 : decode cX7_init 1 = .ok (.invokespecial 3, 3) := by decide +kernel
theorem dX7_init_4 : decode cX7_init 4 = .ok (.aload_n 0, 1) := by decide +kernel
theorem dX7_init_5 : decode cX7_init 5 = .ok (.new 9, 3) := by decide +kernel
theorem dX7_init_8 : decode cX7_init 8 = .ok (.dup, 1) := by decide +kernel
theorem dX7_init_9 : decode cX7_init 9 = .ok (.invokespecial 11, 3) := by decide +kernel
theorem dX7_init_12 : decode cX7_init 12 = .ok (.putfield 12, 3) := by decide +kernel
theorem dX7_init_15 : decode cX7_init 15 = .ok (.aload_n 0, 1) := by decide +kernel
theorem dX7_init_16 : decode cX7_init 16 = .ok (.new 9, 3) := by decide +kernel
theorem dX7_init_19 : decode cX7_init 19 = .ok (.dup, 1) := by decide +kernel
theorem dX7_init_20 : decode cX7_init 20 = .ok (.invokespecial 11, 3) := by decide +kernel
theorem dX7_init_23 : decode cX7_init 23 = .ok (.putfield 18, 3) := by decide +kernel
theorem dX7_init_26 : decode cX7_init 26 = .ok (.aload_n 0, 1) := by decide +kernel
theorem dX7_init_27 : decode cX7_init 27 = .ok (.new 9, 3) := by decide +kernel
theorem dX7_init_30 : decode cX7_init 30 = .ok (.dup, 1) := by decide +kernel
theorem dX7_init_31 : decode cX7_init 31 = .ok (.invokespecial 11, 3) := by decide +kernel
theorem dX7_init_34 : decode cX7_init 34 = .ok (.putfield 21, 3) := by decide +kernel
theorem dX7_init_37 : decode cX7_init 37 = .ok (.return_, 1) := by decide +kernel
theorem dX7_predicateCount_0 : decode cX7_predicateCount 0 = .ok (.aload_n 0, 1) := by decide +kernel
theorem dX7_predicateCount_1 : decode cX7_predicateCount 1 = .ok (.getfield 12, 3) := by decide +kernel
theorem dX7_predicateCount_4 : decode cX7_predicateCount 4 = .ok (.invokevirtual 24, 3) := by decide +kernel
theorem dX7_predicateCount_7 : decode cX7_predicateCount 7 = .ok (.ireturn, 1) := by decide +kernel
theorem dX7_clauseCount_0 : decode cX7_clauseCount 0 = .ok (.aload_n 0, 1) := by decide +kernel
theorem dX7_clauseCount_1 : decode cX7_clauseCount 1 = .ok (.getfield 21, 3) := by decide +kernel
theorem dX7_clauseCount_4 : decode cX7_clauseCount 4 = .ok (.invokevirtual 24, 3) := by decide +kernel
theorem dX7_clauseCount_7 : decode cX7_clauseCount 7 = .ok (.ireturn, 1) := by decide +kernel
theorem dX7_predicateAt_0 : decode cX7_predicateAt 0 = .ok (.iload_n 1, 1) := by decide +kernel
theorem dX7_predicateAt_1 : decode cX7_predicateAt 1 = .ok (.ifCond .lt 28, 3) := by decide +kernel
theorem dX7_predicateAt_4 : decode cX7_predicateAt 4 = .ok (.iload_n 1, 1) := by decide +kernel
theorem dX7_predicateAt_5 : decode cX7_predicateAt 5 = .ok (.aload_n 0, 1) := by decide +kernel
theorem dX7_predicateAt_6 : decode cX7_predicateAt 6 = .ok (.getfield 12, 3) := by decide +kernel
theorem dX7_predicateAt_9 : decode cX7_predicateAt 9 = .ok (.invokevirtual 24, 3) := by decide +kernel
theorem dX7_predicateAt_12 : decode cX7_predicateAt 12 = .ok (.if_icmp .ge 17, 3) := by decide +kernel
theorem dX7_predicateAt_15 : decode cX7_predicateAt 15 = .ok (.aload_n 0, 1) := by decide +kernel
theorem dX7_predicateAt_16 : decode cX7_predicateAt 16 = .ok (.getfield 12, 3) := by decide +kernel
theorem dX7_predicateAt_19 : decode cX7_predicateAt 19 = .ok (.iload_n 1, 1) := by decide +kernel
theorem dX7_predicateAt_20 : decode cX7_predicateAt 20 = .ok (.invokevirtual 28, 3) := by decide +kernel
theorem dX7_predicateAt_23 : decode cX7_predicateAt 23 = .ok (.checkcast 32, 3) := by decide +kernel
theorem dX7_predicateAt_26 : decode cX7_predicateAt 26 = .ok (.goto 4, 3) := by decide +kernel
theorem dX7_predicateAt_29 : decode cX7_predicateAt 29 = .ok (.aconst_null, 1) := by decide +kernel
theorem dX7_predicateAt_30 : decode cX7_predicateAt 30 = .ok (.areturn, 1) := by decide +kernel
theorem dX7_clauseAt_0 : decode cX7_clauseAt 0 = .ok (.iload_n 1, 1) := by decide +kernel
theorem dX7_clauseAt_1 : decode cX7_clauseAt 1 = .ok (.ifCond .lt 28, 3) := by decide +kernel
theorem dX7_clauseAt_4 : decode cX7_clauseAt 4 = .ok (.iload_n 1, 1) := by decide +kernel
theorem dX7_clauseAt_5 : decode cX7_clauseAt 5 = .ok (.aload_n 0, 1) := by decide +kernel
theorem dX7_clauseAt_6 : decode cX7_clauseAt 6 = .ok (.getfield 21, 3) := by decide +kernel
theorem dX7_clauseAt_9 : decode cX7_clauseAt 9 = .ok (.invokevirtual 24, 3) := by decide +kernel
theorem dX7_clauseAt_12 : decode cX7_clauseAt 12 = .ok (.if_icmp .ge 17, 3) := by decide +kernel
theorem dX7_clauseAt_15 : decode cX7_clauseAt 15 = .ok (.aload_n 0, 1) := by decide +kernel
theorem dX7_clauseAt_16 : decode cX7_clauseAt 16 = .ok (.getfield 21, 3) := by decide +kernel
theorem dX7_clauseAt_19 : decode cX7_clauseAt 19 = .ok (.iload_n 1, 1) := by decide +kernel
theorem dX7_clauseAt_20 : decode cX7_clauseAt 20 = .ok (.invokevirtual 28, 3) := by decide +kernel
theorem dX7_clauseAt_23 : decode cX7_clauseAt 23 = .ok (.checkcast 34, 3) := by decide +kernel
theorem dX7_clauseAt_26 : decode cX7_clauseAt 26 = .ok (.goto 4, 3) := by decide +kernel
theorem dX7_clauseAt_29 : decode cX7_clauseAt 29 = .ok (.aconst_null, 1) := by decide +kernel
theorem dX7_clauseAt_30 : decode cX7_clauseAt 30 = .ok (.areturn, 1) := by decide +kernel
theorem dX7_modeAt_0 : decode cX7_modeAt 0 = .ok (.aload_n 0, 1) := by decide +kernel
theorem dX7_modeAt_1 : decode cX7_modeAt 1 = .ok (.iload_n 1, 1) := by decide +kernel
theorem dX7_modeAt_2 : decode cX7_modeAt 2 = .ok (.invokevirtual 36, 3) := by decide +kernel
theorem dX7_modeAt_5 : decode cX7_modeAt 5 = .ok (.astore_n 3, 1) := by decide +kernel
theorem dX7_modeAt_6 : decode cX7_modeAt 6 = .ok (.aload_n 3, 1) := by decide +kernel
theorem dX7_modeAt_7 : decode cX7_modeAt 7 = .ok (.ifnonnull 7, 3) := by decide +kernel
theorem dX7_modeAt_10 : decode cX7_modeAt 10 = .ok (.aconst_null, 1) := by decide +kernel
theorem dX7_modeAt_11 : decode cX7_modeAt 11 = .ok (.goto 8, 3) := by decide +kernel
theorem dX7_modeAt_14 : decode cX7_modeAt 14 = .ok (.aload_n 3, 1) := by decide +kernel
theorem dX7_modeAt_15 : decode cX7_modeAt 15 = .ok (.iload_n 2, 1) := by decide +kernel
theorem dX7_modeAt_16 : decode cX7_modeAt 16 = .ok (.invokevirtual 40, 3) := by decide +kernel
theorem dX7_modeAt_19 : decode cX7_modeAt 19 = .ok (.areturn, 1) := by decide +kernel
theorem dX7_newPredicate_0 : decode cX7_newPredicate 0 = .ok (.aload_n 0, 1) := by decide +kernel
theorem dX7_newPredicate_1 : decode cX7_newPredicate 1 = .ok (.getfield 12, 3) := by decide +kernel
theorem dX7_newPredicate_4 : decode cX7_newPredicate 4 = .ok (.new 32, 3) := by decide +kernel
theorem dX7_newPredicate_7 : decode cX7_newPredicate 7 = .ok (.dup, 1) := by decide +kernel
theorem dX7_newPredicate_8 : decode cX7_newPredicate 8 = .ok (.aload_n 0, 1) := by decide +kernel
theorem dX7_newPredicate_9 : decode cX7_newPredicate 9 = .ok (.getfield 12, 3) := by decide +kernel
theorem dX7_newPredicate_12 : decode cX7_newPredicate 12 = .ok (.invokevirtual 24, 3) := by decide +kernel
theorem dX7_newPredicate_15 : decode cX7_newPredicate 15 = .ok (.iload_n 1, 1) := by decide +kernel
theorem dX7_newPredicate_16 : decode cX7_newPredicate 16 = .ok (.iload_n 2, 1) := by decide +kernel
theorem dX7_newPredicate_17 : decode cX7_newPredicate 17 = .ok (.iload_n 3, 1) := by decide +kernel
theorem dX7_newPredicate_18 : decode cX7_newPredicate 18 = .ok (.invokespecial 44, 3) := by decide +kernel
theorem dX7_newPredicate_21 : decode cX7_newPredicate 21 = .ok (.invokevirtual 47, 3) := by decide +kernel
theorem dX7_newPredicate_24 : decode cX7_newPredicate 24 = .ok (.pop, 1) := by decide +kernel
theorem dX7_newPredicate_25 : decode cX7_newPredicate 25 = .ok (.aload_n 0, 1) := by decide +kernel
theorem dX7_newPredicate_26 : decode cX7_newPredicate 26 = .ok (.getfield 12, 3) := by decide +kernel
theorem dX7_newPredicate_29 : decode cX7_newPredicate 29 = .ok (.invokevirtual 24, 3) := by decide +kernel
theorem dX7_newPredicate_32 : decode cX7_newPredicate 32 = .ok (.iconst 1, 1) := by decide +kernel
theorem dX7_newPredicate_33 : decode cX7_newPredicate 33 = .ok (.isub, 1) := by decide +kernel
theorem dX7_newPredicate_34 : decode cX7_newPredicate 34 = .ok (.ireturn, 1) := by decide +kernel
theorem dX7_newMode_0 : decode cX7_newMode 0 = .ok (.new 51, 3) := by decide +kernel
theorem dX7_newMode_3 : decode cX7_newMode 3 = .ok (.dup, 1) := by decide +kernel
theorem dX7_newMode_4 : decode cX7_newMode 4 = .ok (.aload_n 1, 1) := by decide +kernel
theorem dX7_newMode_5 : decode cX7_newMode 5 = .ok (.aload_n 1, 1) := by decide +kernel
theorem dX7_newMode_6 : decode cX7_newMode 6 = .ok (.getfield 53, 3) := by decide +kernel
theorem dX7_newMode_9 : decode cX7_newMode 9 = .ok (.invokevirtual 24, 3) := by decide +kernel
theorem dX7_newMode_12 : decode cX7_newMode 12 = .ok (.iload_n 2, 1) := by decide +kernel
theorem dX7_newMode_13 : decode cX7_newMode 13 = .ok (.iload_n 3, 1) := by decide +kernel
theorem dX7_newMode_14 : decode cX7_newMode 14 = .ok (.invokespecial 54, 3) := by decide +kernel
theorem dX7_newMode_17 : decode cX7_newMode 17 = .ok (.astore 4, 2) := by decide +kernel
theorem dX7_newMode_19 : decode cX7_newMode 19 = .ok (.aload_n 1, 1) := by decide +kernel
theorem dX7_newMode_20 : decode cX7_newMode 20 = .ok (.getfield 53, 3) := by decide +kernel
theorem dX7_newMode_23 : decode cX7_newMode 23 = .ok (.aload 4, 2) := by decide +kernel
theorem dX7_newMode_25 : decode cX7_newMode 25 = .ok (.invokevirtual 47, 3) := by decide +kernel
theorem dX7_newMode_28 : decode cX7_newMode 28 = .ok (.pop, 1) := by decide +kernel
theorem dX7_newMode_29 : decode cX7_newMode 29 = .ok (.aload_n 0, 1) := by decide +kernel
theorem dX7_newMode_30 : decode cX7_newMode 30 = .ok (.getfield 18, 3) := by decide +kernel
theorem dX7_newMode_33 : decode cX7_newMode 33 = .ok (.aload 4, 2) := by decide +kernel
theorem dX7_newMode_35 : decode cX7_newMode 35 = .ok (.invokevirtual 47, 3) := by decide +kernel
theorem dX7_newMode_38 : decode cX7_newMode 38 = .ok (.pop, 1) := by decide +kernel
theorem dX7_newMode_39 : decode cX7_newMode 39 = .ok (.aload 4, 2) := by decide +kernel
theorem dX7_newMode_41 : decode cX7_newMode 41 = .ok (.getfield 57, 3) := by decide +kernel
theorem dX7_newMode_44 : decode cX7_newMode 44 = .ok (.ireturn, 1) := by decide +kernel
theorem dX7_newClause_0 : decode cX7_newClause 0 = .ok (.new 34, 3) := by decide +kernel
theorem dX7_newClause_3 : decode cX7_newClause 3 = .ok (.dup, 1) := by decide +kernel
theorem dX7_newClause_4 : decode cX7_newClause 4 = .ok (.aload_n 0, 1) := by decide +kernel
theorem dX7_newClause_5 : decode cX7_newClause 5 = .ok (.getfield 21, 3) := by decide +kernel
theorem dX7_newClause_8 : decode cX7_newClause 8 = .ok (.invokevirtual 24, 3) := by decide +kernel
theorem dX7_newClause_11 : decode cX7_newClause 11 = .ok (.aload_n 1, 1) := by decide +kernel
theorem dX7_newClause_12 : decode cX7_newClause 12 = .ok (.invokespecial 61, 3) := by decide +kernel
theorem dX7_newClause_15 : decode cX7_newClause 15 = .ok (.astore_n 2, 1) := by decide +kernel
theorem dX7_newClause_16 : decode cX7_newClause 16 = .ok (.aload_n 1, 1) := by decide +kernel
theorem dX7_newClause_17 : decode cX7_newClause 17 = .ok (.getfield 64, 3) := by decide +kernel
theorem dX7_newClause_20 : decode cX7_newClause 20 = .ok (.aload_n 2, 1) := by decide +kernel
theorem dX7_newClause_21 : decode cX7_newClause 21 = .ok (.invokevirtual 47, 3) := by decide +kernel
theorem dX7_newClause_24 : decode cX7_newClause 24 = .ok (.pop, 1) := by decide +kernel
theorem dX7_newClause_25 : decode cX7_newClause 25 = .ok (.aload_n 0, 1) := by decide +kernel
theorem dX7_newClause_26 : decode cX7_newClause 26 = .ok (.getfield 21, 3) := by decide +kernel
theorem dX7_newClause_29 : decode cX7_newClause 29 = .ok (.aload_n 2, 1) := by decide +kernel
