set_option maxRecDepth 20000 in
theorem dLb_50 : decode cL_law 876 = .ok (.if_icmp .eq 5, 3) ∧ decode cL_law 881 = .ok (.iload 6, 2) ∧ decode cL_law 883 = .ok (.ifCond .ne 15, 3) ∧ decode cL_law 898 = .ok (.goto 1492, 3) ∧ decode cL_law 901 = .ok (.aload_n 1, 1) ∧ decode cL_law 902 = .ok (.aload_n 0, 1) ∧ decode cL_law 903 = .ok (.iload 5, 2) ∧ decode cL_law 905 = .ok (.iconst 1, 1) := by decide +kernel
theorem dL_law_876 : decode cL_law 876 = .ok (.if_icmp .eq 5, 3) := dLb_50.1
theorem dL_law_881 : decode cL_law 881 = .ok (.iload 6, 2) := dLb_50.2.1
theorem dL_law_883 : decode cL_law 883 = .ok (.ifCond .ne 15, 3) := dLb_50.2.2.1
theorem dL_law_898 : decode cL_law 898 = .ok (.goto 1492, 3) := dLb_50.2.2.2.1
theorem dL_law_901 : decode cL_law 901 = .ok (.aload_n 1, 1) := dLb_50.2.2.2.2.1
theorem dL_law_902 : decode cL_law 902 = .ok (.aload_n 0, 1) := dLb_50.2.2.2.2.2.1
theorem dL_law_903 : decode cL_law 903 = .ok (.iload 5, 2) := dLb_50.2.2.2.2.2.2.1
theorem dL_law_905 : decode cL_law 905 = .ok (.iconst 1, 1) := dLb_50.2.2.2.2.2.2.2
set_option maxRecDepth 20000 in
theorem dLb_51 : decode cL_law 906 = .ok (.iadd, 1) ∧ decode cL_law 907 = .ok (.iaload, 1) ∧ decode cL_law 908 = .ok (.aload_n 0, 1) ∧ decode cL_law 909 = .ok (.iload 5, 2) ∧ decode cL_law 911 = .ok (.iconst 2, 1) ∧ decode cL_law 912 = .ok (.iadd, 1) ∧ decode cL_law 913 = .ok (.iaload, 1) ∧ decode cL_law 914 = .ok (.aload_n 0, 1) := by decide +kernel
theorem dL_law_906 : decode cL_law 906 = .ok (.iadd, 1) := dLb_51.1
theorem dL_law_907 : decode cL_law 907 = .ok (.iaload, 1) := dLb_51.2.1
theorem dL_law_908 : decode cL_law 908 = .ok (.aload_n 0, 1) := dLb_51.2.2.1
theorem dL_law_909 : decode cL_law 909 = .ok (.iload 5, 2) := dLb_51.2.2.2.1
theorem dL_law_911 : decode cL_law 911 = .ok (.iconst 2, 1) := dLb_51.2.2.2.2.1
theorem dL_law_912 : decode cL_law 912 = .ok (.iadd, 1) := dLb_51.2.2.2.2.2.1
theorem dL_law_913 : decode cL_law 913 = .ok (.iaload, 1) := dLb_51.2.2.2.2.2.2.1
theorem dL_law_914 : decode cL_law 914 = .ok (.aload_n 0, 1) := dLb_51.2.2.2.2.2.2.2
set_option maxRecDepth 20000 in
theorem dLb_52 : decode cL_law 915 = .ok (.iload 5, 2) ∧ decode cL_law 917 = .ok (.iconst 3, 1) ∧ decode cL_law 918 = .ok (.iadd, 1) ∧ decode cL_law 919 = .ok (.iaload, 1) ∧ decode cL_law 920 = .ok (.aload_n 3, 1) ∧ decode cL_law 921 = .ok (.invokestatic 179, 3) ∧ decode cL_law 924 = .ok (.istore 6, 2) ∧ decode cL_law 926 = .ok (.aload_n 2, 1) := by decide +kernel
theorem dL_law_915 : decode cL_law 915 = .ok (.iload 5, 2) := dLb_52.1
theorem dL_law_917 : decode cL_law 917 = .ok (.iconst 3, 1) := dLb_52.2.1
theorem dL_law_918 : decode cL_law 918 = .ok (.iadd, 1) := dLb_52.2.2.1
theorem dL_law_919 : decode cL_law 919 = .ok (.iaload, 1) := dLb_52.2.2.2.1
theorem dL_law_920 : decode cL_law 920 = .ok (.aload_n 3, 1) := dLb_52.2.2.2.2.1
theorem dL_law_921 : decode cL_law 921 = .ok (.invokestatic 179, 3) := dLb_52.2.2.2.2.2.1
theorem dL_law_924 : decode cL_law 924 = .ok (.istore 6, 2) := dLb_52.2.2.2.2.2.2.1
theorem dL_law_926 : decode cL_law 926 = .ok (.aload_n 2, 1) := dLb_52.2.2.2.2.2.2.2
set_option maxRecDepth 20000 in
theorem dLb_53 : decode cL_law 927 = .ok (.aload_n 0, 1) ∧ decode cL_law 928 = .ok (.iload 5, 2) ∧ decode cL_law 930 = .ok (.iconst 1, 1) ∧ decode cL_law 931 = .ok (.iadd, 1) ∧ decode cL_law 932 = .ok (.iaload, 1) ∧ decode cL_law 933 = .ok (.aload_n 0, 1) ∧ decode cL_law 934 = .ok (.iload 5, 2) ∧ decode cL_law 936 = .ok (.iconst 2, 1) := by decide +kernel
theorem dL_law_927 : decode cL_law 927 = .ok (.aload_n 0, 1) := dLb_53.1
theorem dL_law_928 : decode cL_law 928 = .ok (.iload 5, 2) := dLb_53.2.1
theorem dL_law_930 : decode cL_law 930 = .ok (.iconst 1, 1) := dLb_53.2.2.1
theorem dL_law_931 : decode cL_law 931 = .ok (.iadd, 1) := dLb_53.2.2.2.1
theorem dL_law_932 : decode cL_law 932 = .ok (.iaload, 1) := dLb_53.2.2.2.2.1
theorem dL_law_933 : decode cL_law 933 = .ok (.aload_n 0, 1) := dLb_53.2.2.2.2.2.1
theorem dL_law_934 : decode cL_law 934 = .ok (.iload 5, 2) := dLb_53.2.2.2.2.2.2.1
theorem dL_law_936 : decode cL_law 936 = .ok (.iconst 2, 1) := dLb_53.2.2.2.2.2.2.2
set_option maxRecDepth 20000 in
theorem dLb_54 : decode cL_law 937 = .ok (.iadd, 1) ∧ decode cL_law 938 = .ok (.iaload, 1) ∧ decode cL_law 939 = .ok (.aload_n 0, 1) ∧ decode cL_law 940 = .ok (.iload 5, 2) ∧ decode cL_law 942 = .ok (.iconst 3, 1) ∧ decode cL_law 943 = .ok (.iadd, 1) ∧ decode cL_law 944 = .ok (.iaload, 1) ∧ decode cL_law 945 = .ok (.invokevirtual 181, 3) := by decide +kernel
theorem dL_law_937 : decode cL_law 937 = .ok (.iadd, 1) := dLb_54.1
theorem dL_law_938 : decode cL_law 938 = .ok (.iaload, 1) := dLb_54.2.1
theorem dL_law_939 : decode cL_law 939 = .ok (.aload_n 0, 1) := dLb_54.2.2.1
theorem dL_law_940 : decode cL_law 940 = .ok (.iload 5, 2) := dLb_54.2.2.2.1
theorem dL_law_942 : decode cL_law 942 = .ok (.iconst 3, 1) := dLb_54.2.2.2.2.1
theorem dL_law_943 : decode cL_law 943 = .ok (.iadd, 1) := dLb_54.2.2.2.2.2.1
theorem dL_law_944 : decode cL_law 944 = .ok (.iaload, 1) := dLb_54.2.2.2.2.2.2.1
theorem dL_law_945 : decode cL_law 945 = .ok (.invokevirtual 181, 3) := dLb_54.2.2.2.2.2.2.2
set_option maxRecDepth 20000 in
theorem dLb_55 : decode cL_law 948 = .ok (.istore 7, 2) ∧ decode cL_law 950 = .ok (.aload_n 2, 1) ∧ decode cL_law 951 = .ok (.invokevirtual 144, 3) ∧ decode cL_law 954 = .ok (.iload 6, 2) ∧ decode cL_law 956 = .ok (.if_icmp .eq 5, 3) ∧ decode cL_law 961 = .ok (.iload 6, 2) ∧ decode cL_law 963 = .ok (.ifCond .ne 15, 3) ∧ decode cL_law 978 = .ok (.goto 1412, 3) := by decide +kernel
theorem dL_law_948 : decode cL_law 948 = .ok (.istore 7, 2) := dLb_55.1
theorem dL_law_950 : decode cL_law 950 = .ok (.aload_n 2, 1) := dLb_55.2.1
theorem dL_law_951 : decode cL_law 951 = .ok (.invokevirtual 144, 3) := dLb_55.2.2.1
theorem dL_law_954 : decode cL_law 954 = .ok (.iload 6, 2) := dLb_55.2.2.2.1
theorem dL_law_956 : decode cL_law 956 = .ok (.if_icmp .eq 5, 3) := dLb_55.2.2.2.2.1
theorem dL_law_961 : decode cL_law 961 = .ok (.iload 6, 2) := dLb_55.2.2.2.2.2.1
theorem dL_law_963 : decode cL_law 963 = .ok (.ifCond .ne 15, 3) := dLb_55.2.2.2.2.2.2.1
theorem dL_law_978 : decode cL_law 978 = .ok (.goto 1412, 3) := dLb_55.2.2.2.2.2.2.2
set_option maxRecDepth 20000 in
theorem dLb_56 : decode cL_law 981 = .ok (.aload_n 1, 1) ∧ decode cL_law 982 = .ok (.aload_n 0, 1) ∧ decode cL_law 983 = .ok (.iload 5, 2) ∧ decode cL_law 985 = .ok (.iconst 1, 1) ∧ decode cL_law 986 = .ok (.iadd, 1) ∧ decode cL_law 987 = .ok (.iaload, 1) ∧ decode cL_law 988 = .ok (.aload_n 0, 1) ∧ decode cL_law 989 = .ok (.iload 5, 2) := by decide +kernel
theorem dL_law_981 : decode cL_law 981 = .ok (.aload_n 1, 1) := dLb_56.1
theorem dL_law_982 : decode cL_law 982 = .ok (.aload_n 0, 1) := dLb_56.2.1
theorem dL_law_983 : decode cL_law 983 = .ok (.iload 5, 2) := dLb_56.2.2.1
theorem dL_law_985 : decode cL_law 985 = .ok (.iconst 1, 1) := dLb_56.2.2.2.1
theorem dL_law_986 : decode cL_law 986 = .ok (.iadd, 1) := dLb_56.2.2.2.2.1
theorem dL_law_987 : decode cL_law 987 = .ok (.iaload, 1) := dLb_56.2.2.2.2.2.1
theorem dL_law_988 : decode cL_law 988 = .ok (.aload_n 0, 1) := dLb_56.2.2.2.2.2.2.1
theorem dL_law_989 : decode cL_law 989 = .ok (.iload 5, 2) := dLb_56.2.2.2.2.2.2.2
set_option maxRecDepth 20000 in
theorem dLb_57 : decode cL_law 991 = .ok (.iconst 2, 1) ∧ decode cL_law 992 = .ok (.iadd, 1) ∧ decode cL_law 993 = .ok (.iaload, 1) ∧ decode cL_law 994 = .ok (.aload_n 0, 1) ∧ decode cL_law 995 = .ok (.iload 5, 2) ∧ decode cL_law 997 = .ok (.iconst 3, 1) ∧ decode cL_law 998 = .ok (.iadd, 1) ∧ decode cL_law 999 = .ok (.iaload, 1) := by decide +kernel
theorem dL_law_991 : decode cL_law 991 = .ok (.iconst 2, 1) := dLb_57.1
theorem dL_law_992 : decode cL_law 992 = .ok (.iadd, 1) := dLb_57.2.1
theorem dL_law_993 : decode cL_law 993 = .ok (.iaload, 1) := dLb_57.2.2.1
theorem dL_law_994 : decode cL_law 994 = .ok (.aload_n 0, 1) := dLb_57.2.2.2.1
theorem dL_law_995 : decode cL_law 995 = .ok (.iload 5, 2) := dLb_57.2.2.2.2.1
theorem dL_law_997 : decode cL_law 997 = .ok (.iconst 3, 1) := dLb_57.2.2.2.2.2.1
theorem dL_law_998 : decode cL_law 998 = .ok (.iadd, 1) := dLb_57.2.2.2.2.2.2.1
theorem dL_law_999 : decode cL_law 999 = .ok (.iaload, 1) := dLb_57.2.2.2.2.2.2.2
set_option maxRecDepth 20000 in
theorem dLb_58 : decode cL_law 1000 = .ok (.aload_n 0, 1) ∧ decode cL_law 1001 = .ok (.iload 5, 2) ∧ decode cL_law 1003 = .ok (.iconst 4, 1) ∧ decode cL_law 1004 = .ok (.iadd, 1) ∧ decode cL_law 1005 = .ok (.iaload, 1) ∧ decode cL_law 1006 = .ok (.aload_n 0, 1) ∧ decode cL_law 1007 = .ok (.iload 5, 2) ∧ decode cL_law 1009 = .ok (.iconst 5, 1) := by decide +kernel
theorem dL_law_1000 : decode cL_law 1000 = .ok (.aload_n 0, 1) := dLb_58.1
theorem dL_law_1001 : decode cL_law 1001 = .ok (.iload 5, 2) := dLb_58.2.1
theorem dL_law_1003 : decode cL_law 1003 = .ok (.iconst 4, 1) := dLb_58.2.2.1
theorem dL_law_1004 : decode cL_law 1004 = .ok (.iadd, 1) := dLb_58.2.2.2.1
theorem dL_law_1005 : decode cL_law 1005 = .ok (.iaload, 1) := dLb_58.2.2.2.2.1
theorem dL_law_1006 : decode cL_law 1006 = .ok (.aload_n 0, 1) := dLb_58.2.2.2.2.2.1
theorem dL_law_1007 : decode cL_law 1007 = .ok (.iload 5, 2) := dLb_58.2.2.2.2.2.2.1
theorem dL_law_1009 : decode cL_law 1009 = .ok (.iconst 5, 1) := dLb_58.2.2.2.2.2.2.2
set_option maxRecDepth 20000 in
theorem dLb_59 : decode cL_law 1010 = .ok (.iadd, 1) ∧ decode cL_law 1011 = .ok (.iaload, 1) ∧ decode cL_law 1012 = .ok (.aload_n 0, 1) ∧ decode cL_law 1013 = .ok (.iload 5, 2) ∧ decode cL_law 1015 = .ok (.bipush 6, 2) ∧ decode cL_law 1017 = .ok (.iadd, 1) ∧ decode cL_law 1018 = .ok (.iaload, 1) ∧ decode cL_law 1019 = .ok (.ifCond .eq 7, 3) := by decide +kernel
theorem dL_law_1010 : decode cL_law 1010 = .ok (.iadd, 1) := dLb_59.1
theorem dL_law_1011 : decode cL_law 1011 = .ok (.iaload, 1) := dLb_59.2.1
theorem dL_law_1012 : decode cL_law 1012 = .ok (.aload_n 0, 1) := dLb_59.2.2.1
theorem dL_law_1013 : decode cL_law 1013 = .ok (.iload 5, 2) := dLb_59.2.2.2.1
theorem dL_law_1015 : decode cL_law 1015 = .ok (.bipush 6, 2) := dLb_59.2.2.2.2.1
theorem dL_law_1017 : decode cL_law 1017 = .ok (.iadd, 1) := dLb_59.2.2.2.2.2.1
theorem dL_law_1018 : decode cL_law 1018 = .ok (.iaload, 1) := dLb_59.2.2.2.2.2.2.1
theorem dL_law_1019 : decode cL_law 1019 = .ok (.ifCond .eq 7, 3) := dLb_59.2.2.2.2.2.2.2
set_option maxRecDepth 20000 in
theorem dLb_60 : decode cL_law 1022 = .ok (.iconst 1, 1) ∧ decode cL_law 1023 = .ok (.goto 4, 3) ∧ decode cL_law 1026 = .ok (.iconst 0, 1) ∧ decode cL_law 1027 = .ok (.aload_n 3, 1) ∧ decode cL_law 1028 = .ok (.invokestatic 182, 3) ∧ decode cL_law 1031 = .ok (.istore 6, 2) ∧ decode cL_law 1033 = .ok (.aload_n 2, 1) ∧ decode cL_law 1034 = .ok (.aload_n 0, 1) := by decide +kernel
theorem dL_law_1022 : decode cL_law 1022 = .ok (.iconst 1, 1) := dLb_60.1
theorem dL_law_1023 : decode cL_law 1023 = .ok (.goto 4, 3) := dLb_60.2.1
theorem dL_law_1026 : decode cL_law 1026 = .ok (.iconst 0, 1) := dLb_60.2.2.1
theorem dL_law_1027 : decode cL_law 1027 = .ok (.aload_n 3, 1) := dLb_60.2.2.2.1
theorem dL_law_1028 : decode cL_law 1028 = .ok (.invokestatic 182, 3) := dLb_60.2.2.2.2.1
theorem dL_law_1031 : decode cL_law 1031 = .ok (.istore 6, 2) := dLb_60.2.2.2.2.2.1
theorem dL_law_1033 : decode cL_law 1033 = .ok (.aload_n 2, 1) := dLb_60.2.2.2.2.2.2.1
theorem dL_law_1034 : decode cL_law 1034 = .ok (.aload_n 0, 1) := dLb_60.2.2.2.2.2.2.2
set_option maxRecDepth 20000 in
theorem dLb_61 : decode cL_law 1035 = .ok (.iload 5, 2) ∧ decode cL_law 1037 = .ok (.iconst 1, 1) ∧ decode cL_law 1038 = .ok (.iadd, 1) ∧ decode cL_law 1039 = .ok (.iaload, 1) ∧ decode cL_law 1040 = .ok (.aload_n 0, 1) ∧ decode cL_law 1041 = .ok (.iload 5, 2) ∧ decode cL_law 1043 = .ok (.iconst 2, 1) ∧ decode cL_law 1044 = .ok (.iadd, 1) := by decide +kernel
theorem dL_law_1035 : decode cL_law 1035 = .ok (.iload 5, 2) := dLb_61.1
theorem dL_law_1037 : decode cL_law 1037 = .ok (.iconst 1, 1) := dLb_61.2.1
theorem dL_law_1038 : decode cL_law 1038 = .ok (.iadd, 1) := dLb_61.2.2.1
theorem dL_law_1039 : decode cL_law 1039 = .ok (.iaload, 1) := dLb_61.2.2.2.1
theorem dL_law_1040 : decode cL_law 1040 = .ok (.aload_n 0, 1) := dLb_61.2.2.2.2.1
theorem dL_law_1041 : decode cL_law 1041 = .ok (.iload 5, 2) := dLb_61.2.2.2.2.2.1
theorem dL_law_1043 : decode cL_law 1043 = .ok (.iconst 2, 1) := dLb_61.2.2.2.2.2.2.1
theorem dL_law_1044 : decode cL_law 1044 = .ok (.iadd, 1) := dLb_61.2.2.2.2.2.2.2
set_option maxRecDepth 20000 in
theorem dLb_62 : decode cL_law 1045 = .ok (.iaload, 1) ∧ decode cL_law 1046 = .ok (.aload_n 0, 1) ∧ decode cL_law 1047 = .ok (.iload 5, 2) ∧ decode cL_law 1049 = .ok (.iconst 3, 1) ∧ decode cL_law 1050 = .ok (.iadd, 1) ∧ decode cL_law 1051 = .ok (.iaload, 1) ∧ decode cL_law 1052 = .ok (.aload_n 0, 1) ∧ decode cL_law 1053 = .ok (.iload 5, 2) := by decide +kernel
theorem dL_law_1045 : decode cL_law 1045 = .ok (.iaload, 1) := dLb_62.1
theorem dL_law_1046 : decode cL_law 1046 = .ok (.aload_n 0, 1) := dLb_62.2.1
theorem dL_law_1047 : decode cL_law 1047 = .ok (.iload 5, 2) := dLb_62.2.2.1
theorem dL_law_1049 : decode cL_law 1049 = .ok (.iconst 3, 1) := dLb_62.2.2.2.1
theorem dL_law_1050 : decode cL_law 1050 = .ok (.iadd, 1) := dLb_62.2.2.2.2.1
theorem dL_law_1051 : decode cL_law 1051 = .ok (.iaload, 1) := dLb_62.2.2.2.2.2.1
theorem dL_law_1052 : decode cL_law 1052 = .ok (.aload_n 0, 1) := dLb_62.2.2.2.2.2.2.1
theorem dL_law_1053 : decode cL_law 1053 = .ok (.iload 5, 2) := dLb_62.2.2.2.2.2.2.2
set_option maxRecDepth 20000 in
theorem dLb_63 : decode cL_law 1055 = .ok (.iconst 4, 1) ∧ decode cL_law 1056 = .ok (.iadd, 1) ∧ decode cL_law 1057 = .ok (.iaload, 1) ∧ decode cL_law 1058 = .ok (.aload_n 0, 1) ∧ decode cL_law 1059 = .ok (.iload 5, 2) ∧ decode cL_law 1061 = .ok (.iconst 5, 1) ∧ decode cL_law 1062 = .ok (.iadd, 1) ∧ decode cL_law 1063 = .ok (.iaload, 1) := by decide +kernel
theorem dL_law_1055 : decode cL_law 1055 = .ok (.iconst 4, 1) := dLb_63.1
theorem dL_law_1056 : decode cL_law 1056 = .ok (.iadd, 1) := dLb_63.2.1
theorem dL_law_1057 : decode cL_law 1057 = .ok (.iaload, 1) := dLb_63.2.2.1
theorem dL_law_1058 : decode cL_law 1058 = .ok (.aload_n 0, 1) := dLb_63.2.2.2.1
theorem dL_law_1059 : decode cL_law 1059 = .ok (.iload 5, 2) := dLb_63.2.2.2.2.1
theorem dL_law_1061 : decode cL_law 1061 = .ok (.iconst 5, 1) := dLb_63.2.2.2.2.2.1
theorem dL_law_1062 : decode cL_law 1062 = .ok (.iadd, 1) := dLb_63.2.2.2.2.2.2.1
theorem dL_law_1063 : decode cL_law 1063 = .ok (.iaload, 1) := dLb_63.2.2.2.2.2.2.2
set_option maxRecDepth 20000 in
theorem dLb_64 : decode cL_law 1064 = .ok (.aload_n 0, 1) ∧ decode cL_law 1065 = .ok (.iload 5, 2) ∧ decode cL_law 1067 = .ok (.bipush 6, 2) ∧ decode cL_law 1069 = .ok (.iadd, 1) ∧ decode cL_law 1070 = .ok (.iaload, 1) ∧ decode cL_law 1071 = .ok (.ifCond .eq 7, 3) ∧ decode cL_law 1074 = .ok (.iconst 1, 1) ∧ decode cL_law 1075 = .ok (.goto 4, 3) := by decide +kernel
theorem dL_law_1064 : decode cL_law 1064 = .ok (.aload_n 0, 1) := dLb_64.1
theorem dL_law_1065 : decode cL_law 1065 = .ok (.iload 5, 2) := dLb_64.2.1
theorem dL_law_1067 : decode cL_law 1067 = .ok (.bipush 6, 2) := dLb_64.2.2.1
theorem dL_law_1069 : decode cL_law 1069 = .ok (.iadd, 1) := dLb_64.2.2.2.1
theorem dL_law_1070 : decode cL_law 1070 = .ok (.iaload, 1) := dLb_64.2.2.2.2.1
theorem dL_law_1071 : decode cL_law 1071 = .ok (.ifCond .eq 7, 3) := dLb_64.2.2.2.2.2.1
theorem dL_law_1074 : decode cL_law 1074 = .ok (.iconst 1, 1) := dLb_64.2.2.2.2.2.2.1
theorem dL_law_1075 : decode cL_law 1075 = .ok (.goto 4, 3) := dLb_64.2.2.2.2.2.2.2
set_option maxRecDepth 20000 in
theorem dLb_65 : decode cL_law 1078 = .ok (.iconst 0, 1) ∧ decode cL_law 1079 = .ok (.invokevirtual 185, 3) ∧ decode cL_law 1082 = .ok (.istore 7, 2) ∧ decode cL_law 1084 = .ok (.aload_n 2, 1) ∧ decode cL_law 1085 = .ok (.invokevirtual 144, 3) ∧ decode cL_law 1088 = .ok (.iload 6, 2) ∧ decode cL_law 1090 = .ok (.if_icmp .eq 5, 3) ∧ decode cL_law 1095 = .ok (.iload 6, 2) := by decide +kernel
theorem dL_law_1078 : decode cL_law 1078 = .ok (.iconst 0, 1) := dLb_65.1
theorem dL_law_1079 : decode cL_law 1079 = .ok (.invokevirtual 185, 3) := dLb_65.2.1
theorem dL_law_1082 : decode cL_law 1082 = .ok (.istore 7, 2) := dLb_65.2.2.1
theorem dL_law_1084 : decode cL_law 1084 = .ok (.aload_n 2, 1) := dLb_65.2.2.2.1
theorem dL_law_1085 : decode cL_law 1085 = .ok (.invokevirtual 144, 3) := dLb_65.2.2.2.2.1
theorem dL_law_1088 : decode cL_law 1088 = .ok (.iload 6, 2) := dLb_65.2.2.2.2.2.1
theorem dL_law_1090 : decode cL_law 1090 = .ok (.if_icmp .eq 5, 3) := dLb_65.2.2.2.2.2.2.1
theorem dL_law_1095 : decode cL_law 1095 = .ok (.iload 6, 2) := dLb_65.2.2.2.2.2.2.2
set_option maxRecDepth 20000 in
theorem dLb_66 : decode cL_law 1097 = .ok (.ifCond .ne 15, 3) ∧ decode cL_law 1112 = .ok (.goto 1278, 3) ∧ decode cL_law 1115 = .ok (.aload_n 1, 1) ∧ decode cL_law 1116 = .ok (.aload_n 3, 1) ∧ decode cL_law 1117 = .ok (.invokestatic 186, 3) ∧ decode cL_law 1120 = .ok (.istore 6, 2) ∧ decode cL_law 1122 = .ok (.aload_n 2, 1) ∧ decode cL_law 1123 = .ok (.invokevirtual 188, 3) := by decide +kernel
theorem dL_law_1097 : decode cL_law 1097 = .ok (.ifCond .ne 15, 3) := dLb_66.1
theorem dL_law_1112 : decode cL_law 1112 = .ok (.goto 1278, 3) := dLb_66.2.1
theorem dL_law_1115 : decode cL_law 1115 = .ok (.aload_n 1, 1) := dLb_66.2.2.1
theorem dL_law_1116 : decode cL_law 1116 = .ok (.aload_n 3, 1) := dLb_66.2.2.2.1
theorem dL_law_1117 : decode cL_law 1117 = .ok (.invokestatic 186, 3) := dLb_66.2.2.2.2.1
theorem dL_law_1120 : decode cL_law 1120 = .ok (.istore 6, 2) := dLb_66.2.2.2.2.2.1
theorem dL_law_1122 : decode cL_law 1122 = .ok (.aload_n 2, 1) := dLb_66.2.2.2.2.2.2.1
theorem dL_law_1123 : decode cL_law 1123 = .ok (.invokevirtual 188, 3) := dLb_66.2.2.2.2.2.2.2
set_option maxRecDepth 20000 in
theorem dLb_67 : decode cL_law 1126 = .ok (.istore 7, 2) ∧ decode cL_law 1128 = .ok (.aload_n 2, 1) ∧ decode cL_law 1129 = .ok (.invokevirtual 144, 3) ∧ decode cL_law 1132 = .ok (.iload 6, 2) ∧ decode cL_law 1134 = .ok (.if_icmp .eq 5, 3) ∧ decode cL_law 1139 = .ok (.iload 6, 2) ∧ decode cL_law 1141 = .ok (.ifCond .ne 15, 3) ∧ decode cL_law 1144 = .ok (.aload_n 3, 1) := by decide +kernel
theorem dL_law_1126 : decode cL_law 1126 = .ok (.istore 7, 2) := dLb_67.1
theorem dL_law_1128 : decode cL_law 1128 = .ok (.aload_n 2, 1) := dLb_67.2.1
theorem dL_law_1129 : decode cL_law 1129 = .ok (.invokevirtual 144, 3) := dLb_67.2.2.1
theorem dL_law_1132 : decode cL_law 1132 = .ok (.iload 6, 2) := dLb_67.2.2.2.1
theorem dL_law_1134 : decode cL_law 1134 = .ok (.if_icmp .eq 5, 3) := dLb_67.2.2.2.2.1
theorem dL_law_1139 : decode cL_law 1139 = .ok (.iload 6, 2) := dLb_67.2.2.2.2.2.1
theorem dL_law_1141 : decode cL_law 1141 = .ok (.ifCond .ne 15, 3) := dLb_67.2.2.2.2.2.2.1
theorem dL_law_1144 : decode cL_law 1144 = .ok (.aload_n 3, 1) := dLb_67.2.2.2.2.2.2.2
set_option maxRecDepth 20000 in
theorem dLb_68 : decode cL_law 1145 = .ok (.iconst 0, 1) ∧ decode cL_law 1146 = .ok (.laload, 1) ∧ decode cL_law 1147 = .ok (.iload 7, 2) ∧ decode cL_law 1149 = .ok (.i2l, 1) ∧ decode cL_law 1150 = .ok (.lcmp, 1) ∧ decode cL_law 1151 = .ok (.ifCond .eq 5, 3) ∧ decode cL_law 1156 = .ok (.goto 1234, 3) ∧ decode cL_law 1159 = .ok (.aload_n 1, 1) := by decide +kernel
theorem dL_law_1145 : decode cL_law 1145 = .ok (.iconst 0, 1) := dLb_68.1
theorem dL_law_1146 : decode cL_law 1146 = .ok (.laload, 1) := dLb_68.2.1
theorem dL_law_1147 : decode cL_law 1147 = .ok (.iload 7, 2) := dLb_68.2.2.1
theorem dL_law_1149 : decode cL_law 1149 = .ok (.i2l, 1) := dLb_68.2.2.2.1
theorem dL_law_1150 : decode cL_law 1150 = .ok (.lcmp, 1) := dLb_68.2.2.2.2.1
theorem dL_law_1151 : decode cL_law 1151 = .ok (.ifCond .eq 5, 3) := dLb_68.2.2.2.2.2.1
theorem dL_law_1156 : decode cL_law 1156 = .ok (.goto 1234, 3) := dLb_68.2.2.2.2.2.2.1
theorem dL_law_1159 : decode cL_law 1159 = .ok (.aload_n 1, 1) := dLb_68.2.2.2.2.2.2.2
set_option maxRecDepth 20000 in
theorem dLb_69 : decode cL_law 1160 = .ok (.aload_n 3, 1) ∧ decode cL_law 1161 = .ok (.invokestatic 189, 3) ∧ decode cL_law 1164 = .ok (.istore 6, 2) ∧ decode cL_law 1166 = .ok (.aload_n 2, 1) ∧ decode cL_law 1167 = .ok (.invokevirtual 191, 3) ∧ decode cL_law 1170 = .ok (.istore 7, 2) ∧ decode cL_law 1172 = .ok (.aload_n 2, 1) ∧ decode cL_law 1173 = .ok (.invokevirtual 144, 3) := by decide +kernel
theorem dL_law_1160 : decode cL_law 1160 = .ok (.aload_n 3, 1) := dLb_69.1
theorem dL_law_1161 : decode cL_law 1161 = .ok (.invokestatic 189, 3) := dLb_69.2.1
theorem dL_law_1164 : decode cL_law 1164 = .ok (.istore 6, 2) := dLb_69.2.2.1
theorem dL_law_1166 : decode cL_law 1166 = .ok (.aload_n 2, 1) := dLb_69.2.2.2.1
theorem dL_law_1167 : decode cL_law 1167 = .ok (.invokevirtual 191, 3) := dLb_69.2.2.2.2.1
theorem dL_law_1170 : decode cL_law 1170 = .ok (.istore 7, 2) := dLb_69.2.2.2.2.2.1
theorem dL_law_1172 : decode cL_law 1172 = .ok (.aload_n 2, 1) := dLb_69.2.2.2.2.2.2.1
theorem dL_law_1173 : decode cL_law 1173 = .ok (.invokevirtual 144, 3) := dLb_69.2.2.2.2.2.2.2
set_option maxRecDepth 20000 in
theorem dLb_70 : decode cL_law 1176 = .ok (.iload 6, 2) ∧ decode cL_law 1178 = .ok (.if_icmp .eq 5, 3) ∧ decode cL_law 1183 = .ok (.iload 6, 2) ∧ decode cL_law 1185 = .ok (.ifCond .ne 15, 3) ∧ decode cL_law 1200 = .ok (.goto 1190, 3) ∧ decode cL_law 1203 = .ok (.aload_n 1, 1) ∧ decode cL_law 1204 = .ok (.aload_n 0, 1) ∧ decode cL_law 1205 = .ok (.iload 5, 2) := by decide +kernel
theorem dL_law_1176 : decode cL_law 1176 = .ok (.iload 6, 2) := dLb_70.1
theorem dL_law_1178 : decode cL_law 1178 = .ok (.if_icmp .eq 5, 3) := dLb_70.2.1
theorem dL_law_1183 : decode cL_law 1183 = .ok (.iload 6, 2) := dLb_70.2.2.1
theorem dL_law_1185 : decode cL_law 1185 = .ok (.ifCond .ne 15, 3) := dLb_70.2.2.2.1
theorem dL_law_1200 : decode cL_law 1200 = .ok (.goto 1190, 3) := dLb_70.2.2.2.2.1
theorem dL_law_1203 : decode cL_law 1203 = .ok (.aload_n 1, 1) := dLb_70.2.2.2.2.2.1
theorem dL_law_1204 : decode cL_law 1204 = .ok (.aload_n 0, 1) := dLb_70.2.2.2.2.2.2.1
theorem dL_law_1205 : decode cL_law 1205 = .ok (.iload 5, 2) := dLb_70.2.2.2.2.2.2.2
set_option maxRecDepth 20000 in
theorem dLb_71 : decode cL_law 1207 = .ok (.iconst 1, 1) ∧ decode cL_law 1208 = .ok (.iadd, 1) ∧ decode cL_law 1209 = .ok (.iaload, 1) ∧ decode cL_law 1210 = .ok (.aload_n 0, 1) ∧ decode cL_law 1211 = .ok (.iload 5, 2) ∧ decode cL_law 1213 = .ok (.iconst 2, 1) ∧ decode cL_law 1214 = .ok (.iadd, 1) ∧ decode cL_law 1215 = .ok (.iaload, 1) := by decide +kernel
theorem dL_law_1207 : decode cL_law 1207 = .ok (.iconst 1, 1) := dLb_71.1
theorem dL_law_1208 : decode cL_law 1208 = .ok (.iadd, 1) := dLb_71.2.1
theorem dL_law_1209 : decode cL_law 1209 = .ok (.iaload, 1) := dLb_71.2.2.1
theorem dL_law_1210 : decode cL_law 1210 = .ok (.aload_n 0, 1) := dLb_71.2.2.2.1
theorem dL_law_1211 : decode cL_law 1211 = .ok (.iload 5, 2) := dLb_71.2.2.2.2.1
theorem dL_law_1213 : decode cL_law 1213 = .ok (.iconst 2, 1) := dLb_71.2.2.2.2.2.1
theorem dL_law_1214 : decode cL_law 1214 = .ok (.iadd, 1) := dLb_71.2.2.2.2.2.2.1
theorem dL_law_1215 : decode cL_law 1215 = .ok (.iaload, 1) := dLb_71.2.2.2.2.2.2.2
set_option maxRecDepth 20000 in
theorem dLb_72 : decode cL_law 1216 = .ok (.aload_n 3, 1) ∧ decode cL_law 1217 = .ok (.invokestatic 192, 3) ∧ decode cL_law 1220 = .ok (.istore 6, 2) ∧ decode cL_law 1222 = .ok (.aload_n 2, 1) ∧ decode cL_law 1223 = .ok (.aload_n 0, 1) ∧ decode cL_law 1224 = .ok (.iload 5, 2) ∧ decode cL_law 1226 = .ok (.iconst 1, 1) ∧ decode cL_law 1227 = .ok (.iadd, 1) := by decide +kernel
theorem dL_law_1216 : decode cL_law 1216 = .ok (.aload_n 3, 1) := dLb_72.1
theorem dL_law_1217 : decode cL_law 1217 = .ok (.invokestatic 192, 3) := dLb_72.2.1
theorem dL_law_1220 : decode cL_law 1220 = .ok (.istore 6, 2) := dLb_72.2.2.1
theorem dL_law_1222 : decode cL_law 1222 = .ok (.aload_n 2, 1) := dLb_72.2.2.2.1
theorem dL_law_1223 : decode cL_law 1223 = .ok (.aload_n 0, 1) := dLb_72.2.2.2.2.1
theorem dL_law_1224 : decode cL_law 1224 = .ok (.iload 5, 2) := dLb_72.2.2.2.2.2.1
theorem dL_law_1226 : decode cL_law 1226 = .ok (.iconst 1, 1) := dLb_72.2.2.2.2.2.2.1
theorem dL_law_1227 : decode cL_law 1227 = .ok (.iadd, 1) := dLb_72.2.2.2.2.2.2.2
set_option maxRecDepth 20000 in
theorem dLb_73 : decode cL_law 1228 = .ok (.iaload, 1) ∧ decode cL_law 1229 = .ok (.aload_n 0, 1) ∧ decode cL_law 1230 = .ok (.iload 5, 2) ∧ decode cL_law 1232 = .ok (.iconst 2, 1) ∧ decode cL_law 1233 = .ok (.iadd, 1) ∧ decode cL_law 1234 = .ok (.iaload, 1) ∧ decode cL_law 1235 = .ok (.invokevirtual 194, 3) ∧ decode cL_law 1238 = .ok (.istore 7, 2) := by decide +kernel
theorem dL_law_1228 : decode cL_law 1228 = .ok (.iaload, 1) := dLb_73.1
theorem dL_law_1229 : decode cL_law 1229 = .ok (.aload_n 0, 1) := dLb_73.2.1
theorem dL_law_1230 : decode cL_law 1230 = .ok (.iload 5, 2) := dLb_73.2.2.1
theorem dL_law_1232 : decode cL_law 1232 = .ok (.iconst 2, 1) := dLb_73.2.2.2.1
theorem dL_law_1233 : decode cL_law 1233 = .ok (.iadd, 1) := dLb_73.2.2.2.2.1
theorem dL_law_1234 : decode cL_law 1234 = .ok (.iaload, 1) := dLb_73.2.2.2.2.2.1
theorem dL_law_1235 : decode cL_law 1235 = .ok (.invokevirtual 194, 3) := dLb_73.2.2.2.2.2.2.1
theorem dL_law_1238 : decode cL_law 1238 = .ok (.istore 7, 2) := dLb_73.2.2.2.2.2.2.2
set_option maxRecDepth 20000 in
theorem dLb_74 : decode cL_law 1240 = .ok (.aload_n 2, 1) ∧ decode cL_law 1241 = .ok (.invokevirtual 144, 3) ∧ decode cL_law 1244 = .ok (.iload 6, 2) ∧ decode cL_law 1246 = .ok (.if_icmp .eq 5, 3) ∧ decode cL_law 1251 = .ok (.iload 6, 2) ∧ decode cL_law 1253 = .ok (.ifCond .ne 15, 3) ∧ decode cL_law 1268 = .ok (.goto 1122, 3) ∧ decode cL_law 1271 = .ok (.aload_n 1, 1) := by decide +kernel
theorem dL_law_1240 : decode cL_law 1240 = .ok (.aload_n 2, 1) := dLb_74.1
theorem dL_law_1241 : decode cL_law 1241 = .ok (.invokevirtual 144, 3) := dLb_74.2.1
theorem dL_law_1244 : decode cL_law 1244 = .ok (.iload 6, 2) := dLb_74.2.2.1
theorem dL_law_1246 : decode cL_law 1246 = .ok (.if_icmp .eq 5, 3) := dLb_74.2.2.2.1
theorem dL_law_1251 : decode cL_law 1251 = .ok (.iload 6, 2) := dLb_74.2.2.2.2.1
theorem dL_law_1253 : decode cL_law 1253 = .ok (.ifCond .ne 15, 3) := dLb_74.2.2.2.2.2.1
theorem dL_law_1268 : decode cL_law 1268 = .ok (.goto 1122, 3) := dLb_74.2.2.2.2.2.2.1
theorem dL_law_1271 : decode cL_law 1271 = .ok (.aload_n 1, 1) := dLb_74.2.2.2.2.2.2.2
