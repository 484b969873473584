theorem dX7_findSwitch_62 : decode cX7_findSwitch 62 = .ok (.aload 5, 2) := by decide +kernel
theorem dX7_findSwitch_64 : decode cX7_findSwitch 64 = .ok (.iconst 0, 1) := by decide +kernel
theorem dX7_findSwitch_65 : decode cX7_findSwitch 65 = .ok (.invokevirtual 156, 3) := by decide +kernel
theorem dX7_findSwitch_68 : decode cX7_findSwitch 68 = .ok (.invokevirtual 177, 3) := by decide +kernel
theorem dX7_findSwitch_71 : decode cX7_findSwitch 71 = .ok (.ifCond .ne 5, 3) := by decide +kernel
theorem dX7_findSwitch_74 : decode cX7_findSwitch 74 = .ok (.iconst (-1), 1) := by decide +kernel
theorem dX7_findSwitch_75 : decode cX7_findSwitch 75 = .ok (.ireturn, 1) := by decide +kernel
theorem dX7_findSwitch_76 : decode cX7_findSwitch 76 = .ok (.iload_n 1, 1) := by decide +kernel
theorem dX7_findSwitch_77 : decode cX7_findSwitch 77 = .ok (.iconst (-1), 1) := by decide +kernel
theorem dX7_findSwitch_78 : decode cX7_findSwitch 78 = .ok (.if_icmp .eq 17, 3) := by decide +kernel
theorem dX7_findSwitch_81 : decode cX7_findSwitch 81 = .ok (.iload_n 1, 1) := by decide +kernel
theorem dX7_findSwitch_82 : decode cX7_findSwitch 82 = .ok (.aload 5, 2) := by decide +kernel
theorem dX7_findSwitch_84 : decode cX7_findSwitch 84 = .ok (.iconst 0, 1) := by decide +kernel
theorem dX7_findSwitch_85 : decode cX7_findSwitch 85 = .ok (.invokevirtual 156, 3) := by decide +kernel
theorem dX7_findSwitch_88 : decode cX7_findSwitch 88 = .ok (.if_icmp .eq 7, 3) := by decide +kernel
theorem dX7_findSwitch_91 : decode cX7_findSwitch 91 = .ok (.iconst 1, 1) := by decide +kernel
theorem dX7_findSwitch_92 : decode cX7_findSwitch 92 = .ok (.goto 4, 3) := by decide +kernel
theorem dX7_findSwitch_95 : decode cX7_findSwitch 95 = .ok (.iconst 0, 1) := by decide +kernel
theorem dX7_findSwitch_96 : decode cX7_findSwitch 96 = .ok (.istore 6, 2) := by decide +kernel
theorem dX7_findSwitch_98 : decode cX7_findSwitch 98 = .ok (.iload 6, 2) := by decide +kernel
theorem dX7_findSwitch_100 : decode cX7_findSwitch 100 = .ok (.ifCond .ne 16, 3) := by decide +kernel
theorem dX7_findSwitch_103 : decode cX7_findSwitch 103 = .ok (.iload_n 2, 1) := by decide +kernel
theorem dX7_findSwitch_104 : decode cX7_findSwitch 104 = .ok (.aload 5, 2) := by decide +kernel
theorem dX7_findSwitch_106 : decode cX7_findSwitch 106 = .ok (.getfield 165, 3) := by decide +kernel
theorem dX7_findSwitch_109 : decode cX7_findSwitch 109 = .ok (.ishr, 1) := by decide +kernel
theorem dX7_findSwitch_110 : decode cX7_findSwitch 110 = .ok (.iconst 1, 1) := by decide +kernel
theorem dX7_findSwitch_111 : decode cX7_findSwitch 111 = .ok (.iand, 1) := by decide +kernel
theorem dX7_findSwitch_112 : decode cX7_findSwitch 112 = .ok (.iconst 1, 1) := by decide +kernel
theorem dX7_findSwitch_113 : decode cX7_findSwitch 113 = .ok (.if_icmp .ne 5, 3) := by decide +kernel
theorem dX7_findSwitch_116 : decode cX7_findSwitch 116 = .ok (.iconst (-1), 1) := by decide +kernel
theorem dX7_findSwitch_117 : decode cX7_findSwitch 117 = .ok (.ireturn, 1) := by decide +kernel
theorem dX7_findSwitch_118 : decode cX7_findSwitch 118 = .ok (.aload 5, 2) := by decide +kernel
theorem dX7_findSwitch_120 : decode cX7_findSwitch 120 = .ok (.iconst 0, 1) := by decide +kernel
theorem dX7_findSwitch_121 : decode cX7_findSwitch 121 = .ok (.invokevirtual 156, 3) := by decide +kernel
theorem dX7_findSwitch_124 : decode cX7_findSwitch 124 = .ok (.istore_n 1, 1) := by decide +kernel
theorem dX7_findSwitch_125 : decode cX7_findSwitch 125 = .ok (.iload_n 2, 1) := by decide +kernel
theorem dX7_findSwitch_126 : decode cX7_findSwitch 126 = .ok (.iconst 1, 1) := by decide +kernel
theorem dX7_findSwitch_127 : decode cX7_findSwitch 127 = .ok (.aload 5, 2) := by decide +kernel
theorem dX7_findSwitch_129 : decode cX7_findSwitch 129 = .ok (.getfield 165, 3) := by decide +kernel
theorem dX7_findSwitch_132 : decode cX7_findSwitch 132 = .ok (.ishl, 1) := by decide +kernel
theorem dX7_findSwitch_133 : decode cX7_findSwitch 133 = .ok (.ior, 1) := by decide +kernel
theorem dX7_findSwitch_134 : decode cX7_findSwitch 134 = .ok (.istore_n 2, 1) := by decide +kernel
theorem dX7_findSwitch_135 : decode cX7_findSwitch 135 = .ok (.iinc 3 1, 3) := by decide +kernel
theorem dX7_findSwitch_138 : decode cX7_findSwitch 138 = .ok (.goto (-132), 3) := by decide +kernel
theorem dX7_findSwitch_141 : decode cX7_findSwitch 141 = .ok (.iload_n 1, 1) := by decide +kernel
theorem dX7_findSwitch_142 : decode cX7_findSwitch 142 = .ok (.ireturn, 1) := by decide +kernel
theorem dX7_spreadFaults_0 : decode cX7_spreadFaults 0 = .ok (.iconst 0, 1) := by decide +kernel
theorem dX7_spreadFaults_1 : decode cX7_spreadFaults 1 = .ok (.istore_n 1, 1) := by decide +kernel
theorem dX7_spreadFaults_2 : decode cX7_spreadFaults 2 = .ok (.iconst 0, 1) := by decide +kernel
theorem dX7_spreadFaults_3 : decode cX7_spreadFaults 3 = .ok (.istore_n 2, 1) := by decide +kernel
theorem dX7_spreadFaults_4 : decode cX7_spreadFaults 4 = .ok (.iload_n 2, 1) := by decide +kernel
theorem dX7_spreadFaults_5 : decode cX7_spreadFaults 5 = .ok (.aload_n 0, 1) := by decide +kernel
theorem dX7_spreadFaults_6 : decode cX7_spreadFaults 6 = .ok (.getfield 18, 3) := by decide +kernel
theorem dX7_spreadFaults_9 : decode cX7_spreadFaults 9 = .ok (.invokevirtual 24, 3) := by decide +kernel
theorem dX7_spreadFaults_12 : decode cX7_spreadFaults 12 = .ok (.if_icmp .ge 42, 3) := by decide +kernel
theorem dX7_spreadFaults_15 : decode cX7_spreadFaults 15 = .ok (.aload_n 0, 1) := by decide +kernel
theorem dX7_spreadFaults_16 : decode cX7_spreadFaults 16 = .ok (.getfield 18, 3) := by decide +kernel
theorem dX7_spreadFaults_19 : decode cX7_spreadFaults 19 = .ok (.iload_n 2, 1) := by decide +kernel
theorem dX7_spreadFaults_20 : decode cX7_spreadFaults 20 = .ok (.invokevirtual 28, 3) := by decide +kernel
theorem dX7_spreadFaults_23 : decode cX7_spreadFaults 23 = .ok (.checkcast 51, 3) := by decide +kernel
theorem dX7_spreadFaults_26 : decode cX7_spreadFaults 26 = .ok (.astore_n 3, 1) := by decide +kernel
theorem dX7_spreadFaults_27 : decode cX7_spreadFaults 27 = .ok (.aload_n 3, 1) := by decide +kernel
theorem dX7_spreadFaults_28 : decode cX7_spreadFaults 28 = .ok (.getfield 70, 3) := by decide +kernel
theorem dX7_spreadFaults_31 : decode cX7_spreadFaults 31 = .ok (.ifCond .eq 17, 3) := by decide +kernel
theorem dX7_spreadFaults_34 : decode cX7_spreadFaults 34 = .ok (.aload_n 3, 1) := by decide +kernel
theorem dX7_spreadFaults_35 : decode cX7_spreadFaults 35 = .ok (.invokestatic 185, 3) := by decide +kernel
theorem dX7_spreadFaults_38 : decode cX7_spreadFaults 38 = .ok (.ifCond .eq 10, 3) := by decide +kernel
theorem dX7_spreadFaults_41 : decode cX7_spreadFaults 41 = .ok (.aload_n 3, 1) := by decide +kernel
theorem dX7_spreadFaults_42 : decode cX7_spreadFaults 42 = .ok (.iconst 0, 1) := by decide +kernel
theorem dX7_spreadFaults_43 : decode cX7_spreadFaults 43 = .ok (.putfield 70, 3) := by decide +kernel
theorem dX7_spreadFaults_46 : decode cX7_spreadFaults 46 = .ok (.iconst 1, 1) := by decide +kernel
theorem dX7_spreadFaults_47 : decode cX7_spreadFaults 47 = .ok (.istore_n 1, 1) := by decide +kernel
theorem dX7_spreadFaults_48 : decode cX7_spreadFaults 48 = .ok (.iinc 2 1, 3) := by decide +kernel
theorem dX7_spreadFaults_51 : decode cX7_spreadFaults 51 = .ok (.goto (-47), 3) := by decide +kernel
theorem dX7_spreadFaults_54 : decode cX7_spreadFaults 54 = .ok (.iload_n 1, 1) := by decide +kernel
theorem dX7_spreadFaults_55 : decode cX7_spreadFaults 55 = .ok (.ireturn, 1) := by decide +kernel
theorem dX7_choosesBad_0 : decode cX7_choosesBad 0 = .ok (.iconst 0, 1) := by decide +kernel
theorem dX7_choosesBad_1 : decode cX7_choosesBad 1 = .ok (.istore_n 1, 1) := by decide +kernel
theorem dX7_choosesBad_2 : decode cX7_choosesBad 2 = .ok (.iload_n 1, 1) := by decide +kernel
theorem dX7_choosesBad_3 : decode cX7_choosesBad 3 = .ok (.aload_n 0, 1) := by decide +kernel
theorem dX7_choosesBad_4 : decode cX7_choosesBad 4 = .ok (.getfield 102, 3) := by decide +kernel
theorem dX7_choosesBad_7 : decode cX7_choosesBad 7 = .ok (.invokevirtual 106, 3) := by decide +kernel
theorem dX7_choosesBad_10 : decode cX7_choosesBad 10 = .ok (.if_icmp .ge 77, 3) := by decide +kernel
theorem dX7_choosesBad_13 : decode cX7_choosesBad 13 = .ok (.aload_n 0, 1) := by decide +kernel
theorem dX7_choosesBad_14 : decode cX7_choosesBad 14 = .ok (.getfield 102, 3) := by decide +kernel
theorem dX7_choosesBad_17 : decode cX7_choosesBad 17 = .ok (.iload_n 1, 1) := by decide +kernel
theorem dX7_choosesBad_18 : decode cX7_choosesBad 18 = .ok (.invokevirtual 109, 3) := by decide +kernel
theorem dX7_choosesBad_21 : decode cX7_choosesBad 21 = .ok (.astore_n 2, 1) := by decide +kernel
theorem dX7_choosesBad_22 : decode cX7_choosesBad 22 = .ok (.aload_n 2, 1) := by decide +kernel
theorem dX7_choosesBad_23 : decode cX7_choosesBad 23 = .ok (.ifnonnull 7, 3) := by decide +kernel
theorem dX7_choosesBad_26 : decode cX7_choosesBad 26 = .ok (.iconst 0, 1) := by decide +kernel
theorem dX7_choosesBad_27 : decode cX7_choosesBad 27 = .ok (.goto 11, 3) := by decide +kernel
theorem dX7_choosesBad_30 : decode cX7_choosesBad 30 = .ok (.aload_n 2, 1) := by decide +kernel
theorem dX7_choosesBad_31 : decode cX7_choosesBad 31 = .ok (.aload_n 0, 1) := by decide +kernel
theorem dX7_choosesBad_32 : decode cX7_choosesBad 32 = .ok (.getfield 57, 3) := by decide +kernel
theorem dX7_choosesBad_35 : decode cX7_choosesBad 35 = .ok (.invokevirtual 188, 3) := by decide +kernel
theorem dX7_choosesBad_38 : decode cX7_choosesBad 38 = .ok (.istore_n 3, 1) := by decide +kernel
theorem dX7_choosesBad_39 : decode cX7_choosesBad 39 = .ok (.iconst 0, 1) := by decide +kernel
theorem dX7_choosesBad_40 : decode cX7_choosesBad 40 = .ok (.istore 4, 2) := by decide +kernel
theorem dX7_choosesBad_42 : decode cX7_choosesBad 42 = .ok (.iload 4, 2) := by decide +kernel
theorem dX7_choosesBad_44 : decode cX7_choosesBad 44 = .ok (.iload_n 3, 1) := by decide +kernel
theorem dX7_choosesBad_45 : decode cX7_choosesBad 45 = .ok (.if_icmp .ge 36, 3) := by decide +kernel
theorem dX7_choosesBad_48 : decode cX7_choosesBad 48 = .ok (.aload_n 2, 1) := by decide +kernel
theorem dX7_choosesBad_49 : decode cX7_choosesBad 49 = .ok (.aload_n 0, 1) := by decide +kernel
theorem dX7_choosesBad_50 : decode cX7_choosesBad 50 = .ok (.getfield 57, 3) := by decide +kernel
theorem dX7_choosesBad_53 : decode cX7_choosesBad 53 = .ok (.iload 4, 2) := by decide +kernel
theorem dX7_choosesBad_55 : decode cX7_choosesBad 55 = .ok (.invokevirtual 191, 3) := by decide +kernel
theorem dX7_choosesBad_58 : decode cX7_choosesBad 58 = .ok (.astore 5, 2) := by decide +kernel
theorem dX7_choosesBad_60 : decode cX7_choosesBad 60 = .ok (.aload 5, 2) := by decide +kernel
theorem dX7_choosesBad_62 : decode cX7_choosesBad 62 = .ok (.ifnull 13, 3) := by decide +kernel
theorem dX7_choosesBad_65 : decode cX7_choosesBad 65 = .ok (.aload 5, 2) := by decide +kernel
theorem dX7_choosesBad_67 : decode cX7_choosesBad 67 = .ok (.getfield 70, 3) := by decide +kernel
theorem dX7_choosesBad_70 : decode cX7_choosesBad 70 = .ok (.ifCond .ne 5, 3) := by decide +kernel
theorem dX7_choosesBad_73 : decode cX7_choosesBad 73 = .ok (.iconst 1, 1) := by decide +kernel
theorem dX7_choosesBad_74 : decode cX7_choosesBad 74 = .ok (.ireturn, 1) := by decide +kernel
theorem dX7_choosesBad_75 : decode cX7_choosesBad 75 = .ok (.iinc 4 1, 3) := by decide +kernel
theorem dX7_choosesBad_78 : decode cX7_choosesBad 78 = .ok (.goto (-36), 3) := by decide +kernel
theorem dX7_choosesBad_81 : decode cX7_choosesBad 81 = .ok (.iinc 1 1, 3) := by decide +kernel
theorem dX7_choosesBad_84 : decode cX7_choosesBad 84 = .ok (.goto (-82), 3) := by decide +kernel
theorem dX7_choosesBad_87 : decode cX7_choosesBad 87 = .ok (.iconst 0, 1) := by decide +kernel
theorem dX7_choosesBad_88 : decode cX7_choosesBad 88 = .ok (.ireturn, 1) := by decide +kernel
theorem dX7_spreadFound_0 : decode cX7_spreadFound 0 = .ok (.iconst 0, 1) := by decide +kernel
theorem dX7_spreadFound_1 : decode cX7_spreadFound 1 = .ok (.istore_n 2, 1) := by decide +kernel
theorem dX7_spreadFound_2 : decode cX7_spreadFound 2 = .ok (.iconst 0, 1) := by decide +kernel
theorem dX7_spreadFound_3 : decode cX7_spreadFound 3 = .ok (.istore_n 3, 1) := by decide +kernel
theorem dX7_spreadFound_4 : decode cX7_spreadFound 4 = .ok (.iload_n 3, 1) := by decide +kernel
theorem dX7_spreadFound_5 : decode cX7_spreadFound 5 = .ok (.aload_n 0, 1) := by decide +kernel
theorem dX7_spreadFound_6 : decode cX7_spreadFound 6 = .ok (.getfield 18, 3) := by decide +kernel
theorem dX7_spreadFound_9 : decode cX7_spreadFound 9 = .ok (.invokevirtual 24, 3) := by decide +kernel
theorem dX7_spreadFound_12 : decode cX7_spreadFound 12 = .ok (.if_icmp .ge 121, 3) := by decide +kernel
theorem dX7_spreadFound_15 : decode cX7_spreadFound 15 = .ok (.aload_n 0, 1) := by decide +kernel
theorem dX7_spreadFound_16 : decode cX7_spreadFound 16 = .ok (.getfield 18, 3) := by decide +kernel
theorem dX7_spreadFound_19 : decode cX7_spreadFound 19 = .ok (.iload_n 3, 1) := by decide +kernel
theorem dX7_spreadFound_20 : decode cX7_spreadFound 20 = .ok (.invokevirtual 28, 3) := by decide +kernel
theorem dX7_spreadFound_23 : decode cX7_spreadFound 23 = .ok (.checkcast 51, 3) := by decide +kernel
theorem dX7_spreadFound_26 : decode cX7_spreadFound 26 = .ok (.astore 4, 2) := by decide +kernel
theorem dX7_spreadFound_28 : decode cX7_spreadFound 28 = .ok (.aload 4, 2) := by decide +kernel
theorem dX7_spreadFound_30 : decode cX7_spreadFound 30 = .ok (.getfield 70, 3) := by decide +kernel
theorem dX7_spreadFound_33 : decode cX7_spreadFound 33 = .ok (.ifCond .eq 24, 3) := by decide +kernel
theorem dX7_spreadFound_36 : decode cX7_spreadFound 36 = .ok (.aload 4, 2) := by decide +kernel
theorem dX7_spreadFound_38 : decode cX7_spreadFound 38 = .ok (.getfield 84, 3) := by decide +kernel
theorem dX7_spreadFound_41 : decode cX7_spreadFound 41 = .ok (.ifCond .ne 12, 3) := by decide +kernel
theorem dX7_spreadFound_44 : decode cX7_spreadFound 44 = .ok (.aload 4, 2) := by decide +kernel
theorem dX7_spreadFound_46 : decode cX7_spreadFound 46 = .ok (.aload_n 1, 1) := by decide +kernel
theorem dX7_spreadFound_47 : decode cX7_spreadFound 47 = .ok (.invokestatic 195, 3) := by decide +kernel
theorem dX7_spreadFound_50 : decode cX7_spreadFound 50 = .ok (.ifCond .eq 7, 3) := by decide +kernel
theorem dX7_spreadFound_53 : decode cX7_spreadFound 53 = .ok (.iconst 1, 1) := by decide +kernel
theorem dX7_spreadFound_54 : decode cX7_spreadFound 54 = .ok (.goto 4, 3) := by decide +kernel
theorem dX7_spreadFound_57 : decode cX7_spreadFound 57 = .ok (.iconst 0, 1) := by decide +kernel
theorem dX7_spreadFound_58 : decode cX7_spreadFound 58 = .ok (.istore 5, 2) := by decide +kernel
theorem dX7_spreadFound_60 : decode cX7_spreadFound 60 = .ok (.aload 4, 2) := by decide +kernel
theorem dX7_spreadFound_62 : decode cX7_spreadFound 62 = .ok (.getfield 70, 3) := by decide +kernel
theorem dX7_spreadFound_65 : decode cX7_spreadFound 65 = .ok (.ifCond .eq 23, 3) := by decide +kernel
theorem dX7_spreadFound_68 : decode cX7_spreadFound 68 = .ok (.aload 4, 2) := by decide +kernel
theorem dX7_spreadFound_70 : decode cX7_spreadFound 70 = .ok (.getfield 74, 3) := by decide +kernel
theorem dX7_spreadFound_73 : decode cX7_spreadFound 73 = .ok (.ifCond .ne 11, 3) := by decide +kernel
theorem dX7_spreadFound_76 : decode cX7_spreadFound 76 = .ok (.aload 4, 2) := by decide +kernel
theorem dX7_spreadFound_78 : decode cX7_spreadFound 78 = .ok (.invokestatic 199, 3) := by decide +kernel
theorem dX7_spreadFound_81 : decode cX7_spreadFound 81 = .ok (.ifCond .eq 7, 3) := by decide +kernel
theorem dX7_spreadFound_84 : decode cX7_spreadFound 84 = .ok (.iconst 1, 1) := by decide +kernel
theorem dX7_spreadFound_85 : decode cX7_spreadFound 85 = .ok (.goto 4, 3) := by decide +kernel
theorem dX7_spreadFound_88 : decode cX7_spreadFound 88 = .ok (.iconst 0, 1) := by decide +kernel
theorem dX7_spreadFound_89 : decode cX7_spreadFound 89 = .ok (.istore 6, 2) := by decide +kernel
theorem dX7_spreadFound_91 : decode cX7_spreadFound 91 = .ok (.iload 5, 2) := by decide +kernel
theorem dX7_spreadFound_93 : decode cX7_spreadFound 93 = .ok (.aload 4, 2) := by decide +kernel
theorem dX7_spreadFound_95 : decode cX7_spreadFound 95 = .ok (.getfield 84, 3) := by decide +kernel
theorem dX7_spreadFound_98 : decode cX7_spreadFound 98 = .ok (.if_icmp .ne 13, 3) := by decide +kernel
theorem dX7_spreadFound_101 : decode cX7_spreadFound 101 = .ok (.iload 6, 2) := by decide +kernel
theorem dX7_spreadFound_103 : decode cX7_spreadFound 103 = .ok (.aload 4, 2) := by decide +kernel
theorem dX7_spreadFound_105 : decode cX7_spreadFound 105 = .ok (.getfield 74, 3) := by decide +kernel
theorem dX7_spreadFound_108 : decode cX7_spreadFound 108 = .ok (.if_icmp .eq 5, 3) := by decide +kernel
theorem dX7_spreadFound_111 : decode cX7_spreadFound 111 = .ok (.iconst 1, 1) := by decide +kernel
theorem dX7_spreadFound_112 : decode cX7_spreadFound 112 = .ok (.istore_n 2, 1) := by decide +kernel
theorem dX7_spreadFound_113 : decode cX7_spreadFound 113 = .ok (.aload 4, 2) := by decide +kernel
theorem dX7_spreadFound_115 : decode cX7_spreadFound 115 = .ok (.iload 5, 2) := by decide +kernel
theorem dX7_spreadFound_117 : decode cX7_spreadFound 117 = .ok (.putfield 84, 3) := by decide +kernel
theorem dX7_spreadFound_120 : decode cX7_spreadFound 120 = .ok (.aload 4, 2) := by decide +kernel
theorem dX7_spreadFound_122 : decode cX7_spreadFound 122 = .ok (.iload 6, 2) := by decide +kernel
theorem dX7_spreadFound_124 : decode cX7_spreadFound 124 = .ok (.putfield 74, 3) := by decide +kernel
theorem dX7_spreadFound_127 : decode cX7_spreadFound 127 = .ok (.iinc 3 1, 3) := by decide +kernel
theorem dX7_spreadFound_130 : decode cX7_spreadFound 130 = .ok (.goto (-126), 3) := by decide +kernel
theorem dX7_spreadFound_133 : decode cX7_spreadFound 133 = .ok (.iload_n 2, 1) := by decide +kernel
theorem dX7_spreadFound_134 : decode cX7_spreadFound 134 = .ok (.ireturn, 1) := by decide +kernel
theorem dX7_canModeFail_0 : decode cX7_canModeFail 0 = .ok (.iconst 0, 1) := by decide +kernel
theorem dX7_canModeFail_1 : decode cX7_canModeFail 1 = .ok (.istore_n 2, 1) := by decide +kernel
theorem dX7_canModeFail_2 : decode cX7_canModeFail 2 = .ok (.iconst 0, 1) := by decide +kernel
theorem dX7_canModeFail_3 : decode cX7_canModeFail 3 = .ok (.istore_n 3, 1) := by decide +kernel
theorem dX7_canModeFail_4 : decode cX7_canModeFail 4 = .ok (.iload_n 3, 1) := by decide +kernel
theorem dX7_canModeFail_5 : decode cX7_canModeFail 5 = .ok (.aload_n 0, 1) := by decide +kernel
theorem dX7_canModeFail_6 : decode cX7_canModeFail 6 = .ok (.getfield 102, 3) := by decide +kernel
theorem dX7_canModeFail_9 : decode cX7_canModeFail 9 = .ok (.invokevirtual 106, 3) := by decide +kernel
theorem dX7_canModeFail_12 : decode cX7_canModeFail 12 = .ok (.if_icmp .ge 32, 3) := by decide +kernel
theorem dX7_canModeFail_15 : decode cX7_canModeFail 15 = .ok (.iload_n 2, 1) := by decide +kernel
theorem dX7_canModeFail_16 : decode cX7_canModeFail 16 = .ok (.aload_n 0, 1) := by decide +kernel
theorem dX7_canModeFail_17 : decode cX7_canModeFail 17 = .ok (.getfield 102, 3) := by decide +kernel
theorem dX7_canModeFail_20 : decode cX7_canModeFail 20 = .ok (.iload_n 3, 1) := by decide +kernel
theorem dX7_canModeFail_21 : decode cX7_canModeFail 21 = .ok (.invokevirtual 109, 3) := by decide +kernel
theorem dX7_canModeFail_24 : decode cX7_canModeFail 24 = .ok (.aload_n 0, 1) := by decide +kernel
theorem dX7_canModeFail_25 : decode cX7_canModeFail 25 = .ok (.invokestatic 202, 3) := by decide +kernel
theorem dX7_canModeFail_28 : decode cX7_canModeFail 28 = .ok (.ifCond .eq 7, 3) := by decide +kernel
theorem dX7_canModeFail_31 : decode cX7_canModeFail 31 = .ok (.iconst 1, 1) := by decide +kernel
theorem dX7_canModeFail_32 : decode cX7_canModeFail 32 = .ok (.goto 4, 3) := by decide +kernel
theorem dX7_canModeFail_35 : decode cX7_canModeFail 35 = .ok (.iconst 0, 1) := by decide +kernel
theorem dX7_canModeFail_36 : decode cX7_canModeFail 36 = .ok (.iadd, 1) := by decide +kernel
theorem dX7_canModeFail_37 : decode cX7_canModeFail 37 = .ok (.istore_n 2, 1) := by decide +kernel
theorem dX7_canModeFail_38 : decode cX7_canModeFail 38 = .ok (.iinc 3 1, 3) := by decide +kernel
theorem dX7_canModeFail_41 : decode cX7_canModeFail 41 = .ok (.goto (-37), 3) := by decide +kernel
theorem dX7_canModeFail_44 : decode cX7_canModeFail 44 = .ok (.aload_n 0, 1) := by decide +kernel
theorem dX7_canModeFail_45 : decode cX7_canModeFail 45 = .ok (.getfield 91, 3) := by decide +kernel
theorem dX7_canModeFail_48 : decode cX7_canModeFail 48 = .ok (.iconst (-1), 1) := by decide +kernel
theorem dX7_canModeFail_49 : decode cX7_canModeFail 49 = .ok (.if_icmp .eq 21, 3) := by decide +kernel
theorem dX7_canModeFail_52 : decode cX7_canModeFail 52 = .ok (.iload_n 2, 1) := by decide +kernel
theorem dX7_canModeFail_53 : decode cX7_canModeFail 53 = .ok (.ifCond .gt 11, 3) := by decide +kernel
theorem dX7_canModeFail_56 : decode cX7_canModeFail 56 = .ok (.aload_n 0, 1) := by decide +kernel
theorem dX7_canModeFail_57 : decode cX7_canModeFail 57 = .ok (.aload_n 1, 1) := by decide +kernel
theorem dX7_canModeFail_58 : decode cX7_canModeFail 58 = .ok (.invokestatic 205, 3) := by decide +kernel
theorem dX7_canModeFail_61 : decode cX7_canModeFail 61 = .ok (.ifCond .ne 7, 3) := by decide +kernel
theorem dX7_canModeFail_64 : decode cX7_canModeFail 64 = .ok (.iconst 1, 1) := by decide +kernel
theorem dX7_canModeFail_65 : decode cX7_canModeFail 65 = .ok (.goto 4, 3) := by decide +kernel
theorem dX7_canModeFail_68 : decode cX7_canModeFail 68 = .ok (.iconst 0, 1) := by decide +kernel
theorem dX7_canModeFail_69 : decode cX7_canModeFail 69 = .ok (.ireturn, 1) := by decide +kernel
theorem dX7_canModeFail_70 : decode cX7_canModeFail 70 = .ok (.iload_n 2, 1) := by decide +kernel
theorem dX7_canModeFail_71 : decode cX7_canModeFail 71 = .ok (.aload_n 0, 1) := by decide +kernel
theorem dX7_canModeFail_72 : decode cX7_canModeFail 72 = .ok (.getfield 102, 3) := by decide +kernel
theorem dX7_canModeFail_75 : decode cX7_canModeFail 75 = .ok (.invokevirtual 106, 3) := by decide +kernel
theorem dX7_canModeFail_78 : decode cX7_canModeFail 78 = .ok (.if_icmp .ne 7, 3) := by decide +kernel
theorem dX7_canModeFail_81 : decode cX7_canModeFail 81 = .ok (.iconst 1, 1) := by decide +kernel
theorem dX7_canModeFail_82 : decode cX7_canModeFail 82 = .ok (.goto 4, 3) := by decide +kernel
theorem dX7_canModeFail_85 : decode cX7_canModeFail 85 = .ok (.iconst 0, 1) := by decide +kernel
theorem dX7_canModeFail_86 : decode cX7_canModeFail 86 = .ok (.ireturn, 1) := by decide +kernel
theorem dX7_isTypeCovered_0 : decode cX7_isTypeCovered 0 = .ok (.aload_n 0, 1) := by decide +kernel
theorem dX7_isTypeCovered_1 : decode cX7_isTypeCovered 1 = .ok (.getfield 102, 3) := by decide +kernel
theorem dX7_isTypeCovered_4 : decode cX7_isTypeCovered 4 = .ok (.aload_n 0, 1) := by decide +kernel
theorem dX7_isTypeCovered_5 : decode cX7_isTypeCovered 5 = .ok (.getfield 91, 3) := by decide +kernel
theorem dX7_isTypeCovered_8 : decode cX7_isTypeCovered 8 = .ok (.invokevirtual 208, 3) := by decide +kernel
theorem dX7_isTypeCovered_11 : decode cX7_isTypeCovered 11 = .ok (.istore_n 2, 1) := by decide +kernel
theorem dX7_isTypeCovered_12 : decode cX7_isTypeCovered 12 = .ok (.iconst 0, 1) := by decide +kernel
theorem dX7_isTypeCovered_13 : decode cX7_isTypeCovered 13 = .ok (.istore_n 3, 1) := by decide +kernel
theorem dX7_isTypeCovered_14 : decode cX7_isTypeCovered 14 = .ok (.iconst 0, 1) := by decide +kernel
theorem dX7_isTypeCovered_15 : decode cX7_isTypeCovered 15 = .ok (.istore 4, 2) := by decide +kernel
theorem dX7_isTypeCovered_17 : decode cX7_isTypeCovered 17 = .ok (.iload 4, 2) := by decide +kernel
theorem dX7_isTypeCovered_19 : decode cX7_isTypeCovered 19 = .ok (.aload_n 1, 1) := by decide +kernel
theorem dX7_isTypeCovered_20 : decode cX7_isTypeCovered 20 = .ok (.invokevirtual 211, 3) := by decide +kernel
theorem dX7_isTypeCovered_23 : decode cX7_isTypeCovered 23 = .ok (.if_icmp .ge 27, 3) := by decide +kernel
theorem dX7_isTypeCovered_26 : decode cX7_isTypeCovered 26 = .ok (.iload_n 3, 1) := by decide +kernel
theorem dX7_isTypeCovered_27 : decode cX7_isTypeCovered 27 = .ok (.aload_n 1, 1) := by decide +kernel
theorem dX7_isTypeCovered_28 : decode cX7_isTypeCovered 28 = .ok (.iload 4, 2) := by decide +kernel
theorem dX7_isTypeCovered_30 : decode cX7_isTypeCovered 30 = .ok (.invokevirtual 216, 3) := by decide +kernel
theorem dX7_isTypeCovered_33 : decode cX7_isTypeCovered 33 = .ok (.iload_n 2, 1) := by decide +kernel
theorem dX7_isTypeCovered_34 : decode cX7_isTypeCovered 34 = .ok (.if_icmp .ne 7, 3) := by decide +kernel
theorem dX7_isTypeCovered_37 : decode cX7_isTypeCovered 37 = .ok (.iconst 1, 1) := by decide +kernel
theorem dX7_isTypeCovered_38 : decode cX7_isTypeCovered 38 = .ok (.goto 4, 3) := by decide +kernel
theorem dX7_isTypeCovered_41 : decode cX7_isTypeCovered 41 = .ok (.iconst 0, 1) := by decide +kernel
theorem dX7_isTypeCovered_42 : decode cX7_isTypeCovered 42 = .ok (.iadd, 1) := by decide +kernel
theorem dX7_isTypeCovered_43 : decode cX7_isTypeCovered 43 = .ok (.istore_n 3, 1) := by decide +kernel
theorem dX7_isTypeCovered_44 : decode cX7_isTypeCovered 44 = .ok (.iinc 4 1, 3) := by decide +kernel
theorem dX7_isTypeCovered_47 : decode cX7_isTypeCovered 47 = .ok (.goto (-30), 3) := by decide +kernel
theorem dX7_isTypeCovered_50 : decode cX7_isTypeCovered 50 = .ok (.iload_n 3, 1) := by decide +kernel
theorem dX7_isTypeCovered_51 : decode cX7_isTypeCovered 51 = .ok (.aload_n 0, 1) := by decide +kernel
theorem dX7_isTypeCovered_52 : decode cX7_isTypeCovered 52 = .ok (.getfield 102, 3) := by decide +kernel
theorem dX7_isTypeCovered_55 : decode cX7_isTypeCovered 55 = .ok (.invokevirtual 106, 3) := by decide +kernel
theorem dX7_isTypeCovered_58 : decode cX7_isTypeCovered 58 = .ok (.if_icmp .ne 7, 3) := by decide +kernel
theorem dX7_isTypeCovered_61 : decode cX7_isTypeCovered 61 = .ok (.iconst 1, 1) := by decide +kernel
theorem dX7_isTypeCovered_62 : decode cX7_isTypeCovered 62 = .ok (.goto 4, 3) := by decide +kernel
theorem dX7_isTypeCovered_65 : decode cX7_isTypeCovered 65 = .ok (.iconst 0, 1) := by decide +kernel
theorem dX7_isTypeCovered_66 : decode cX7_isTypeCovered 66 = .ok (.ireturn, 1) := by decide +kernel
theorem dX7_canModeRepeat_0 : decode cX7_canModeRepeat 0 = .ok (.aload_n 0, 1) := by decide +kernel
theorem dX7_canModeRepeat_1 : decode cX7_canModeRepeat 1 = .ok (.getfield 102, 3) := by decide +kernel
theorem dX7_canModeRepeat_4 : decode cX7_canModeRepeat 4 = .ok (.invokevirtual 106, 3) := by decide +kernel
theorem dX7_canModeRepeat_7 : decode cX7_canModeRepeat 7 = .ok (.istore_n 1, 1) := by decide +kernel
theorem dX7_canModeRepeat_8 : decode cX7_canModeRepeat 8 = .ok (.aload_n 0, 1) := by decide +kernel
theorem dX7_canModeRepeat_9 : decode cX7_canModeRepeat 9 = .ok (.getfield 91, 3) := by decide +kernel
theorem dX7_canModeRepeat_12 : decode cX7_canModeRepeat 12 = .ok (.iconst (-1), 1) := by decide +kernel
theorem dX7_canModeRepeat_13 : decode cX7_canModeRepeat 13 = .ok (.if_icmp .ne 10, 3) := by decide +kernel
theorem dX7_canModeRepeat_16 : decode cX7_canModeRepeat 16 = .ok (.iload_n 1, 1) := by decide +kernel
theorem dX7_canModeRepeat_17 : decode cX7_canModeRepeat 17 = .ok (.iconst 1, 1) := by decide +kernel
theorem dX7_canModeRepeat_18 : decode cX7_canModeRepeat 18 = .ok (.if_icmp .le 5, 3) := by decide +kernel
theorem dX7_canModeRepeat_21 : decode cX7_canModeRepeat 21 = .ok (.iconst 1, 1) := by decide +kernel
theorem dX7_canModeRepeat_22 : decode cX7_canModeRepeat 22 = .ok (.ireturn, 1) := by decide +kernel
theorem dX7_canModeRepeat_23 : decode cX7_canModeRepeat 23 = .ok (.iconst 0, 1) := by decide +kernel
theorem dX7_canModeRepeat_24 : decode cX7_canModeRepeat 24 = .ok (.istore_n 2, 1) := by decide +kernel
theorem dX7_canModeRepeat_25 : decode cX7_canModeRepeat 25 = .ok (.iload_n 2, 1) := by decide +kernel
theorem dX7_canModeRepeat_26 : decode cX7_canModeRepeat 26 = .ok (.iload_n 1, 1) := by decide +kernel
theorem dX7_canModeRepeat_27 : decode cX7_canModeRepeat 27 = .ok (.if_icmp .ge 26, 3) := by decide +kernel
theorem dX7_canModeRepeat_30 : decode cX7_canModeRepeat 30 = .ok (.aload_n 0, 1) := by decide +kernel
theorem dX7_canModeRepeat_31 : decode cX7_canModeRepeat 31 = .ok (.getfield 102, 3) := by decide +kernel
theorem dX7_canModeRepeat_34 : decode cX7_canModeRepeat 34 = .ok (.iload_n 2, 1) := by decide +kernel
theorem dX7_canModeRepeat_35 : decode cX7_canModeRepeat 35 = .ok (.invokevirtual 109, 3) := by decide +kernel
theorem dX7_canModeRepeat_38 : decode cX7_canModeRepeat 38 = .ok (.aload_n 0, 1) := by decide +kernel
theorem dX7_canModeRepeat_39 : decode cX7_canModeRepeat 39 = .ok (.invokestatic 219, 3) := by decide +kernel
theorem dX7_canModeRepeat_42 : decode cX7_canModeRepeat 42 = .ok (.ifCond .eq 5, 3) := by decide +kernel
theorem dX7_canModeRepeat_45 : decode cX7_canModeRepeat 45 = .ok (.iconst 1, 1) := by decide +kernel
theorem dX7_canModeRepeat_46 : decode cX7_canModeRepeat 46 = .ok (.ireturn, 1) := by decide +kernel
theorem dX7_canModeRepeat_47 : decode cX7_canModeRepeat 47 = .ok (.iinc 2 1, 3) := by decide +kernel
theorem dX7_canModeRepeat_50 : decode cX7_canModeRepeat 50 = .ok (.goto (-25), 3) := by decide +kernel
theorem dX7_canModeRepeat_53 : decode cX7_canModeRepeat 53 = .ok (.iconst 0, 1) := by decide +kernel
theorem dX7_canModeRepeat_54 : decode cX7_canModeRepeat 54 = .ok (.ireturn, 1) := by decide +kernel
theorem dX7_canClauseRepeat_0 : decode cX7_canClauseRepeat 0 = .ok (.aload_n 0, 1) := by decide +kernel
theorem dX7_canClauseRepeat_1 : decode cX7_canClauseRepeat 1 = .ok (.ifnonnull 7, 3) := by decide +kernel
theorem dX7_canClauseRepeat_4 : decode cX7_canClauseRepeat 4 = .ok (.iconst 0, 1) := by decide +kernel
theorem dX7_canClauseRepeat_5 : decode cX7_canClauseRepeat 5 = .ok (.goto 11, 3) := by decide +kernel
theorem dX7_canClauseRepeat_8 : decode cX7_canClauseRepeat 8 = .ok (.aload_n 0, 1) := by decide +kernel
theorem dX7_canClauseRepeat_9 : decode cX7_canClauseRepeat 9 = .ok (.aload_n 1, 1) := by decide +kernel
theorem dX7_canClauseRepeat_10 : decode cX7_canClauseRepeat 10 = .ok (.getfield 57, 3) := by decide +kernel
theorem dX7_canClauseRepeat_13 : decode cX7_canClauseRepeat 13 = .ok (.invokevirtual 188, 3) := by decide +kernel
theorem dX7_canClauseRepeat_16 : decode cX7_canClauseRepeat 16 = .ok (.istore_n 2, 1) := by decide +kernel
theorem dX7_canClauseRepeat_17 : decode cX7_canClauseRepeat 17 = .ok (.iconst 0, 1) := by decide +kernel
theorem dX7_canClauseRepeat_18 : decode cX7_canClauseRepeat 18 = .ok (.istore_n 3, 1) := by decide +kernel
theorem dX7_canClauseRepeat_19 : decode cX7_canClauseRepeat 19 = .ok (.iload_n 3, 1) := by decide +kernel
theorem dX7_canClauseRepeat_20 : decode cX7_canClauseRepeat 20 = .ok (.iload_n 2, 1) := by decide +kernel
theorem dX7_canClauseRepeat_21 : decode cX7_canClauseRepeat 21 = .ok (.if_icmp .ge 60, 3) := by decide +kernel
theorem dX7_canClauseRepeat_24 : decode cX7_canClauseRepeat 24 = .ok (.aload_n 0, 1) := by decide +kernel
theorem dX7_canClauseRepeat_25 : decode cX7_canClauseRepeat 25 = .ok (.aload_n 1, 1) := by decide +kernel
theorem dX7_canClauseRepeat_26 : decode cX7_canClauseRepeat 26 = .ok (.getfield 57, 3) := by decide +kernel
theorem dX7_canClauseRepeat_29 : decode cX7_canClauseRepeat 29 = .ok (.iload_n 3, 1) := by decide +kernel
theorem dX7_canClauseRepeat_30 : decode cX7_canClauseRepeat 30 = .ok (.invokevirtual 181, 3) := by decide +kernel
theorem dX7_canClauseRepeat_33 : decode cX7_canClauseRepeat 33 = .ok (.astore 4, 2) := by decide +kernel
theorem dX7_canClauseRepeat_35 : decode cX7_canClauseRepeat 35 = .ok (.aload_n 0, 1) := by decide +kernel
theorem dX7_canClauseRepeat_36 : decode cX7_canClauseRepeat 36 = .ok (.aload_n 1, 1) := by decide +kernel
theorem dX7_canClauseRepeat_37 : decode cX7_canClauseRepeat 37 = .ok (.getfield 57, 3) := by decide +kernel
theorem dX7_canClauseRepeat_40 : decode cX7_canClauseRepeat 40 = .ok (.iload_n 3, 1) := by decide +kernel
theorem dX7_canClauseRepeat_41 : decode cX7_canClauseRepeat 41 = .ok (.invokevirtual 191, 3) := by decide +kernel
theorem dX7_canClauseRepeat_44 : decode cX7_canClauseRepeat 44 = .ok (.astore 5, 2) := by decide +kernel
theorem dX7_canClauseRepeat_46 : decode cX7_canClauseRepeat 46 = .ok (.aload 4, 2) := by decide +kernel
theorem dX7_canClauseRepeat_48 : decode cX7_canClauseRepeat 48 = .ok (.ifnull 27, 3) := by decide +kernel
theorem dX7_canClauseRepeat_51 : decode cX7_canClauseRepeat 51 = .ok (.aload 4, 2) := by decide +kernel
theorem dX7_canClauseRepeat_53 : decode cX7_canClauseRepeat 53 = .ok (.getfield 159, 3) := by decide +kernel
theorem dX7_canClauseRepeat_56 : decode cX7_canClauseRepeat 56 = .ok (.iconst 2, 1) := by decide +kernel
theorem dX7_canClauseRepeat_57 : decode cX7_canClauseRepeat 57 = .ok (.if_icmp .ne 18, 3) := by decide +kernel
theorem dX7_canClauseRepeat_60 : decode cX7_canClauseRepeat 60 = .ok (.aload 5, 2) := by decide +kernel
theorem dX7_canClauseRepeat_62 : decode cX7_canClauseRepeat 62 = .ok (.ifnull 13, 3) := by decide +kernel
theorem dX7_canClauseRepeat_65 : decode cX7_canClauseRepeat 65 = .ok (.aload 5, 2) := by decide +kernel
theorem dX7_canClauseRepeat_67 : decode cX7_canClauseRepeat 67 = .ok (.getfield 74, 3) := by decide +kernel
theorem dX7_canClauseRepeat_70 : decode cX7_canClauseRepeat 70 = .ok (.ifCond .eq 5, 3) := by decide +kernel
theorem dX7_canClauseRepeat_73 : decode cX7_canClauseRepeat 73 = .ok (.iconst 1, 1) := by decide +kernel
theorem dX7_canClauseRepeat_74 : decode cX7_canClauseRepeat 74 = .ok (.ireturn, 1) := by decide +kernel
theorem dX7_canClauseRepeat_75 : decode cX7_canClauseRepeat 75 = .ok (.iinc 3 1, 3) := by decide +kernel
theorem dX7_canClauseRepeat_78 : decode cX7_canClauseRepeat 78 = .ok (.goto (-59), 3) := by decide +kernel
theorem dX7_canClauseRepeat_81 : decode cX7_canClauseRepeat 81 = .ok (.iconst 0, 1) := by decide +kernel
theorem dX7_canClauseRepeat_82 : decode cX7_canClauseRepeat 82 = .ok (.ireturn, 1) := by decide +kernel
theorem dX7_canClauseFail_0 : decode cX7_canClauseFail 0 = .ok (.aload_n 0, 1) := by decide +kernel
theorem dX7_canClauseFail_1 : decode cX7_canClauseFail 1 = .ok (.ifnonnull 7, 3) := by decide +kernel
theorem dX7_canClauseFail_4 : decode cX7_canClauseFail 4 = .ok (.iconst 0, 1) := by decide +kernel
theorem dX7_canClauseFail_5 : decode cX7_canClauseFail 5 = .ok (.goto 11, 3) := by decide +kernel
theorem dX7_canClauseFail_8 : decode cX7_canClauseFail 8 = .ok (.aload_n 0, 1) := by decide +kernel
theorem dX7_canClauseFail_9 : decode cX7_canClauseFail 9 = .ok (.aload_n 1, 1) := by decide +kernel
theorem dX7_canClauseFail_10 : decode cX7_canClauseFail 10 = .ok (.getfield 57, 3) := by decide +kernel
theorem dX7_canClauseFail_13 : decode cX7_canClauseFail 13 = .ok (.invokevirtual 188, 3) := by decide +kernel
theorem dX7_canClauseFail_16 : decode cX7_canClauseFail 16 = .ok (.istore_n 2, 1) := by decide +kernel
theorem dX7_canClauseFail_17 : decode cX7_canClauseFail 17 = .ok (.iconst 0, 1) := by decide +kernel
theorem dX7_canClauseFail_18 : decode cX7_canClauseFail 18 = .ok (.istore_n 3, 1) := by decide +kernel
theorem dX7_canClauseFail_19 : decode cX7_canClauseFail 19 = .ok (.iload_n 3, 1) := by decide +kernel
theorem dX7_canClauseFail_20 : decode cX7_canClauseFail 20 = .ok (.iload_n 2, 1) := by decide +kernel
theorem dX7_canClauseFail_21 : decode cX7_canClauseFail 21 = .ok (.if_icmp .ge 99, 3) := by decide +kernel
theorem dX7_canClauseFail_24 : decode cX7_canClauseFail 24 = .ok (.aload_n 0, 1) := by decide +kernel
theorem dX7_canClauseFail_25 : decode cX7_canClauseFail 25 = .ok (.aload_n 1, 1) := by decide +kernel
theorem dX7_canClauseFail_26 : decode cX7_canClauseFail 26 = .ok (.getfield 57, 3) := by decide +kernel
theorem dX7_canClauseFail_29 : decode cX7_canClauseFail 29 = .ok (.iload_n 3, 1) := by decide +kernel
theorem dX7_canClauseFail_30 : decode cX7_canClauseFail 30 = .ok (.invokevirtual 181, 3) := by decide +kernel
theorem dX7_canClauseFail_33 : decode cX7_canClauseFail 33 = .ok (.astore 4, 2) := by decide +kernel
theorem dX7_canClauseFail_35 : decode cX7_canClauseFail 35 = .ok (.aload_n 0, 1) := by decide +kernel
theorem dX7_canClauseFail_36 : decode cX7_canClauseFail 36 = .ok (.aload_n 1, 1) := by decide +kernel
theorem dX7_canClauseFail_37 : decode cX7_canClauseFail 37 = .ok (.getfield 57, 3) := by decide +kernel
theorem dX7_canClauseFail_40 : decode cX7_canClauseFail 40 = .ok (.iload_n 3, 1) := by decide +kernel
theorem dX7_canClauseFail_41 : decode cX7_canClauseFail 41 = .ok (.invokevirtual 222, 3) := by decide +kernel
theorem dX7_canClauseFail_44 : decode cX7_canClauseFail 44 = .ok (.istore 5, 2) := by decide +kernel
theorem dX7_canClauseFail_46 : decode cX7_canClauseFail 46 = .ok (.aload_n 0, 1) := by decide +kernel
theorem dX7_canClauseFail_47 : decode cX7_canClauseFail 47 = .ok (.aload_n 1, 1) := by decide +kernel
theorem dX7_canClauseFail_48 : decode cX7_canClauseFail 48 = .ok (.getfield 57, 3) := by decide +kernel
theorem dX7_canClauseFail_51 : decode cX7_canClauseFail 51 = .ok (.iload_n 3, 1) := by decide +kernel
theorem dX7_canClauseFail_52 : decode cX7_canClauseFail 52 = .ok (.invokevirtual 191, 3) := by decide +kernel
theorem dX7_canClauseFail_55 : decode cX7_canClauseFail 55 = .ok (.astore 6, 2) := by decide +kernel
theorem dX7_canClauseFail_57 : decode cX7_canClauseFail 57 = .ok (.iload_n 3, 1) := by decide +kernel
theorem dX7_canClauseFail_58 : decode cX7_canClauseFail 58 = .ok (.ifCond .ne 15, 3) := by decide +kernel
theorem dX7_canClauseFail_61 : decode cX7_canClauseFail 61 = .ok (.aload_n 1, 1) := by decide +kernel
theorem dX7_canClauseFail_62 : decode cX7_canClauseFail 62 = .ok (.getfield 91, 3) := by decide +kernel
theorem dX7_canClauseFail_65 : decode cX7_canClauseFail 65 = .ok (.iconst (-1), 1) := by decide +kernel
theorem dX7_canClauseFail_66 : decode cX7_canClauseFail 66 = .ok (.if_icmp .eq 7, 3) := by decide +kernel
theorem dX7_canClauseFail_69 : decode cX7_canClauseFail 69 = .ok (.iconst 1, 1) := by decide +kernel
theorem dX7_canClauseFail_70 : decode cX7_canClauseFail 70 = .ok (.goto 4, 3) := by decide +kernel
theorem dX7_canClauseFail_73 : decode cX7_canClauseFail 73 = .ok (.iconst 0, 1) := by decide +kernel
theorem dX7_canClauseFail_74 : decode cX7_canClauseFail 74 = .ok (.istore 7, 2) := by decide +kernel
theorem dX7_canClauseFail_76 : decode cX7_canClauseFail 76 = .ok (.aload 4, 2) := by decide +kernel
theorem dX7_canClauseFail_78 : decode cX7_canClauseFail 78 = .ok (.ifnull 36, 3) := by decide +kernel
theorem dX7_canClauseFail_81 : decode cX7_canClauseFail 81 = .ok (.iload 7, 2) := by decide +kernel
theorem dX7_canClauseFail_83 : decode cX7_canClauseFail 83 = .ok (.ifCond .eq 17, 3) := by decide +kernel
theorem dX7_canClauseFail_86 : decode cX7_canClauseFail 86 = .ok (.aload 4, 2) := by decide +kernel
theorem dX7_canClauseFail_88 : decode cX7_canClauseFail 88 = .ok (.aconst_null, 1) := by decide +kernel
theorem dX7_canClauseFail_89 : decode cX7_canClauseFail 89 = .ok (.iload 5, 2) := by decide +kernel
theorem dX7_canClauseFail_91 : decode cX7_canClauseFail 91 = .ok (.invokestatic 226, 3) := by decide +kernel
theorem dX7_canClauseFail_94 : decode cX7_canClauseFail 94 = .ok (.ifCond .eq 20, 3) := by decide +kernel
theorem dX7_canClauseFail_97 : decode cX7_canClauseFail 97 = .ok (.goto 15, 3) := by decide +kernel
theorem dX7_canClauseFail_100 : decode cX7_canClauseFail 100 = .ok (.aload 4, 2) := by decide +kernel
theorem dX7_canClauseFail_102 : decode cX7_canClauseFail 102 = .ok (.aload 6, 2) := by decide +kernel
theorem dX7_canClauseFail_104 : decode cX7_canClauseFail 104 = .ok (.iload 5, 2) := by decide +kernel
theorem dX7_canClauseFail_106 : decode cX7_canClauseFail 106 = .ok (.invokestatic 229, 3) := by decide +kernel
theorem dX7_canClauseFail_109 : decode cX7_canClauseFail 109 = .ok (.ifCond .eq 5, 3) := by decide +kernel
theorem dX7_canClauseFail_112 : decode cX7_canClauseFail 112 = .ok (.iconst 1, 1) := by decide +kernel
theorem dX7_canClauseFail_113 : decode cX7_canClauseFail 113 = .ok (.ireturn, 1) := by decide +kernel
theorem dX7_canClauseFail_114 : decode cX7_canClauseFail 114 = .ok (.iinc 3 1, 3) := by decide +kernel
