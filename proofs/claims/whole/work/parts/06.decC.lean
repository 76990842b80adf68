theorem dX10_overPlain_26 : decode cX10_overPlain 26 = .ok (.ireturn, 1) := by decide +kernel
theorem dX10_isOver_0 : decode cX10_isOver 0 = .ok (.aload_n 0, 1) := by decide +kernel
theorem dX10_isOver_1 : decode cX10_isOver 1 = .ok (.getfield 7, 3) := by decide +kernel
theorem dX10_isOver_4 : decode cX10_isOver 4 = .ok (.iload_n 1, 1) := by decide +kernel
theorem dX10_isOver_5 : decode cX10_isOver 5 = .ok (.iaload, 1) := by decide +kernel
theorem dX10_isOver_6 : decode cX10_isOver 6 = .ok (.iconst 4, 1) := by decide +kernel
theorem dX10_isOver_7 : decode cX10_isOver 7 = .ok (.if_icmp .ne 35, 3) := by decide +kernel
theorem dX10_isOver_10 : decode cX10_isOver 10 = .ok (.aload_n 0, 1) := by decide +kernel
theorem dX10_isOver_11 : decode cX10_isOver 11 = .ok (.iconst 2, 1) := by decide +kernel
theorem dX10_isOver_12 : decode cX10_isOver 12 = .ok (.iconst 4, 1) := by decide +kernel
theorem dX10_isOver_13 : decode cX10_isOver 13 = .ok (.invokevirtual 58, 3) := by decide +kernel
theorem dX10_isOver_16 : decode cX10_isOver 16 = .ok (.aload_n 0, 1) := by decide +kernel
theorem dX10_isOver_17 : decode cX10_isOver 17 = .ok (.iload_n 1, 1) := by decide +kernel
theorem dX10_isOver_18 : decode cX10_isOver 18 = .ok (.invokevirtual 91, 3) := by decide +kernel
theorem dX10_isOver_21 : decode cX10_isOver 21 = .ok (.istore_n 2, 1) := by decide +kernel
theorem dX10_isOver_22 : decode cX10_isOver 22 = .ok (.iload_n 2, 1) := by decide +kernel
theorem dX10_isOver_23 : decode cX10_isOver 23 = .ok (.ifCond .eq 17, 3) := by decide +kernel
theorem dX10_isOver_26 : decode cX10_isOver 26 = .ok (.aload_n 0, 1) := by decide +kernel
theorem dX10_isOver_27 : decode cX10_isOver 27 = .ok (.getfield 25, 3) := by decide +kernel
theorem dX10_isOver_30 : decode cX10_isOver 30 = .ok (.iload_n 1, 1) := by decide +kernel
theorem dX10_isOver_31 : decode cX10_isOver 31 = .ok (.iaload, 1) := by decide +kernel
theorem dX10_isOver_32 : decode cX10_isOver 32 = .ok (.iconst 3, 1) := by decide +kernel
theorem dX10_isOver_33 : decode cX10_isOver 33 = .ok (.if_icmp .lt 7, 3) := by decide +kernel
theorem dX10_isOver_36 : decode cX10_isOver 36 = .ok (.iconst 1, 1) := by decide +kernel
theorem dX10_isOver_37 : decode cX10_isOver 37 = .ok (.goto 4, 3) := by decide +kernel
theorem dX10_isOver_40 : decode cX10_isOver 40 = .ok (.iconst 0, 1) := by decide +kernel
theorem dX10_isOver_41 : decode cX10_isOver 41 = .ok (.ireturn, 1) := by decide +kernel
theorem dX10_isOver_42 : decode cX10_isOver 42 = .ok (.aload_n 0, 1) := by decide +kernel
theorem dX10_isOver_43 : decode cX10_isOver 43 = .ok (.getfield 7, 3) := by decide +kernel
theorem dX10_isOver_46 : decode cX10_isOver 46 = .ok (.iload_n 1, 1) := by decide +kernel
theorem dX10_isOver_47 : decode cX10_isOver 47 = .ok (.iaload, 1) := by decide +kernel
theorem dX10_isOver_48 : decode cX10_isOver 48 = .ok (.bipush 6, 2) := by decide +kernel
theorem dX10_isOver_50 : decode cX10_isOver 50 = .ok (.if_icmp .ne 45, 3) := by decide +kernel
theorem dX10_isOver_53 : decode cX10_isOver 53 = .ok (.aload_n 0, 1) := by decide +kernel
theorem dX10_isOver_54 : decode cX10_isOver 54 = .ok (.iconst 2, 1) := by decide +kernel
theorem dX10_isOver_55 : decode cX10_isOver 55 = .ok (.bipush 6, 2) := by decide +kernel
theorem dX10_isOver_57 : decode cX10_isOver 57 = .ok (.invokevirtual 58, 3) := by decide +kernel
theorem dX10_isOver_60 : decode cX10_isOver 60 = .ok (.aload_n 0, 1) := by decide +kernel
theorem dX10_isOver_61 : decode cX10_isOver 61 = .ok (.getfield 31, 3) := by decide +kernel
theorem dX10_isOver_64 : decode cX10_isOver 64 = .ok (.iload_n 1, 1) := by decide +kernel
theorem dX10_isOver_65 : decode cX10_isOver 65 = .ok (.aload_n 0, 1) := by decide +kernel
theorem dX10_isOver_66 : decode cX10_isOver 66 = .ok (.getfield 31, 3) := by decide +kernel
theorem dX10_isOver_69 : decode cX10_isOver 69 = .ok (.iload_n 1, 1) := by decide +kernel
theorem dX10_isOver_70 : decode cX10_isOver 70 = .ok (.baload, 1) := by decide +kernel
theorem dX10_isOver_71 : decode cX10_isOver 71 = .ok (.ifCond .ne 11, 3) := by decide +kernel
theorem dX10_isOver_74 : decode cX10_isOver 74 = .ok (.aload_n 0, 1) := by decide +kernel
theorem dX10_isOver_75 : decode cX10_isOver 75 = .ok (.iload_n 1, 1) := by decide +kernel
theorem dX10_isOver_76 : decode cX10_isOver 76 = .ok (.invokevirtual 91, 3) := by decide +kernel
theorem dX10_isOver_79 : decode cX10_isOver 79 = .ok (.ifCond .eq 7, 3) := by decide +kernel
theorem dX10_isOver_82 : decode cX10_isOver 82 = .ok (.iconst 1, 1) := by decide +kernel
theorem dX10_isOver_83 : decode cX10_isOver 83 = .ok (.goto 4, 3) := by decide +kernel
theorem dX10_isOver_86 : decode cX10_isOver 86 = .ok (.iconst 0, 1) := by decide +kernel
theorem dX10_isOver_87 : decode cX10_isOver 87 = .ok (.bastore, 1) := by decide +kernel
theorem dX10_isOver_88 : decode cX10_isOver 88 = .ok (.aload_n 0, 1) := by decide +kernel
theorem dX10_isOver_89 : decode cX10_isOver 89 = .ok (.getfield 31, 3) := by decide +kernel
theorem dX10_isOver_92 : decode cX10_isOver 92 = .ok (.iload_n 1, 1) := by decide +kernel
theorem dX10_isOver_93 : decode cX10_isOver 93 = .ok (.baload, 1) := by decide +kernel
theorem dX10_isOver_94 : decode cX10_isOver 94 = .ok (.ireturn, 1) := by decide +kernel
theorem dX10_isOver_95 : decode cX10_isOver 95 = .ok (.aload_n 0, 1) := by decide +kernel
theorem dX10_isOver_96 : decode cX10_isOver 96 = .ok (.iload_n 1, 1) := by decide +kernel
theorem dX10_isOver_97 : decode cX10_isOver 97 = .ok (.invokevirtual 91, 3) := by decide +kernel
theorem dX10_isOver_100 : decode cX10_isOver 100 = .ok (.ireturn, 1) := by decide +kernel
theorem dX10_over_0 : decode cX10_over 0 = .ok (.aload_n 0, 1) := by decide +kernel
theorem dX10_over_1 : decode cX10_over 1 = .ok (.iconst 0, 1) := by decide +kernel
theorem dX10_over_2 : decode cX10_over 2 = .ok (.putfield 38, 3) := by decide +kernel
theorem dX10_over_5 : decode cX10_over 5 = .ok (.aload_n 0, 1) := by decide +kernel
theorem dX10_over_6 : decode cX10_over 6 = .ok (.iload_n 1, 1) := by decide +kernel
theorem dX10_over_7 : decode cX10_over 7 = .ok (.invokevirtual 82, 3) := by decide +kernel
theorem dX10_over_10 : decode cX10_over 10 = .ok (.ifCond .ne 8, 3) := by decide +kernel
theorem dX10_over_13 : decode cX10_over 13 = .ok (.bipush (-101), 2) := by decide +kernel
theorem dX10_over_15 : decode cX10_over 15 = .ok (.goto 16, 3) := by decide +kernel
theorem dX10_over_18 : decode cX10_over 18 = .ok (.aload_n 0, 1) := by decide +kernel
theorem dX10_over_19 : decode cX10_over 19 = .ok (.iload_n 1, 1) := by decide +kernel
theorem dX10_over_20 : decode cX10_over 20 = .ok (.invokevirtual 94, 3) := by decide +kernel
theorem dX10_over_23 : decode cX10_over 23 = .ok (.ifCond .eq 7, 3) := by decide +kernel
theorem dX10_over_26 : decode cX10_over 26 = .ok (.iconst 1, 1) := by decide +kernel
theorem dX10_over_27 : decode cX10_over 27 = .ok (.goto 4, 3) := by decide +kernel
theorem dX10_over_30 : decode cX10_over 30 = .ok (.iconst 0, 1) := by decide +kernel
theorem dX10_over_31 : decode cX10_over 31 = .ok (.ireturn, 1) := by decide +kernel
theorem dX10_clear_0 : decode cX10_clear 0 = .ok (.aload_n 0, 1) := by decide +kernel
theorem dX10_clear_1 : decode cX10_clear 1 = .ok (.iconst 0, 1) := by decide +kernel
theorem dX10_clear_2 : decode cX10_clear 2 = .ok (.putfield 38, 3) := by decide +kernel
theorem dX10_clear_5 : decode cX10_clear 5 = .ok (.aload_n 0, 1) := by decide +kernel
theorem dX10_clear_6 : decode cX10_clear 6 = .ok (.iload_n 1, 1) := by decide +kernel
theorem dX10_clear_7 : decode cX10_clear 7 = .ok (.invokevirtual 82, 3) := by decide +kernel
theorem dX10_clear_10 : decode cX10_clear 10 = .ok (.ifCond .ne 6, 3) := by decide +kernel
theorem dX10_clear_13 : decode cX10_clear 13 = .ok (.bipush (-101), 2) := by decide +kernel
theorem dX10_clear_15 : decode cX10_clear 15 = .ok (.ireturn, 1) := by decide +kernel
theorem dX10_clear_16 : decode cX10_clear 16 = .ok (.aload_n 0, 1) := by decide +kernel
theorem dX10_clear_17 : decode cX10_clear 17 = .ok (.getfield 7, 3) := by decide +kernel
theorem dX10_clear_20 : decode cX10_clear 20 = .ok (.iload_n 1, 1) := by decide +kernel
theorem dX10_clear_21 : decode cX10_clear 21 = .ok (.iaload, 1) := by decide +kernel
theorem dX10_clear_22 : decode cX10_clear 22 = .ok (.istore_n 2, 1) := by decide +kernel
theorem dX10_clear_23 : decode cX10_clear 23 = .ok (.iload_n 2, 1) := by decide +kernel
theorem dX10_clear_24 : decode cX10_clear 24 = .ok (.iconst 5, 1) := by decide +kernel
theorem dX10_clear_25 : decode cX10_clear 25 = .ok (.if_icmp .eq 15, 3) := by decide +kernel
theorem dX10_clear_28 : decode cX10_clear 28 = .ok (.iload_n 2, 1) := by decide +kernel
theorem dX10_clear_29 : decode cX10_clear 29 = .ok (.bipush 6, 2) := by decide +kernel
theorem dX10_clear_31 : decode cX10_clear 31 = .ok (.if_icmp .eq 9, 3) := by decide +kernel
theorem dX10_clear_34 : decode cX10_clear 34 = .ok (.iload_n 2, 1) := by decide +kernel
theorem dX10_clear_35 : decode cX10_clear 35 = .ok (.bipush 7, 2) := by decide +kernel
theorem dX10_clear_37 : decode cX10_clear 37 = .ok (.if_icmp .ne 9, 3) := by decide +kernel
theorem dX10_clear_40 : decode cX10_clear 40 = .ok (.aload_n 0, 1) := by decide +kernel
theorem dX10_clear_41 : decode cX10_clear 41 = .ok (.iconst 3, 1) := by decide +kernel
theorem dX10_clear_42 : decode cX10_clear 42 = .ok (.iload_n 2, 1) := by decide +kernel
theorem dX10_clear_43 : decode cX10_clear 43 = .ok (.invokevirtual 58, 3) := by decide +kernel
theorem dX10_clear_46 : decode cX10_clear 46 = .ok (.aload_n 0, 1) := by decide +kernel
theorem dX10_clear_47 : decode cX10_clear 47 = .ok (.iconst 3, 1) := by decide +kernel
theorem dX10_clear_48 : decode cX10_clear 48 = .ok (.iconst 0, 1) := by decide +kernel
theorem dX10_clear_49 : decode cX10_clear 49 = .ok (.invokevirtual 58, 3) := by decide +kernel
theorem dX10_clear_52 : decode cX10_clear 52 = .ok (.aload_n 0, 1) := by decide +kernel
theorem dX10_clear_53 : decode cX10_clear 53 = .ok (.getfield 22, 3) := by decide +kernel
theorem dX10_clear_56 : decode cX10_clear 56 = .ok (.iload_n 1, 1) := by decide +kernel
theorem dX10_clear_57 : decode cX10_clear 57 = .ok (.iconst 0, 1) := by decide +kernel
theorem dX10_clear_58 : decode cX10_clear 58 = .ok (.iastore, 1) := by decide +kernel
theorem dX10_clear_59 : decode cX10_clear 59 = .ok (.aload_n 0, 1) := by decide +kernel
theorem dX10_clear_60 : decode cX10_clear 60 = .ok (.getfield 25, 3) := by decide +kernel
theorem dX10_clear_63 : decode cX10_clear 63 = .ok (.iload_n 1, 1) := by decide +kernel
theorem dX10_clear_64 : decode cX10_clear 64 = .ok (.iconst 0, 1) := by decide +kernel
theorem dX10_clear_65 : decode cX10_clear 65 = .ok (.iastore, 1) := by decide +kernel
theorem dX10_clear_66 : decode cX10_clear 66 = .ok (.aload_n 0, 1) := by decide +kernel
theorem dX10_clear_67 : decode cX10_clear 67 = .ok (.getfield 19, 3) := by decide +kernel
theorem dX10_clear_70 : decode cX10_clear 70 = .ok (.iload_n 1, 1) := by decide +kernel
theorem dX10_clear_71 : decode cX10_clear 71 = .ok (.dup2, 1) := by decide +kernel
theorem dX10_clear_72 : decode cX10_clear 72 = .ok (.iaload, 1) := by decide +kernel
theorem dX10_clear_73 : decode cX10_clear 73 = .ok (.iload_n 2, 1) := by decide +kernel
theorem dX10_clear_74 : decode cX10_clear 74 = .ok (.iconst 5, 1) := by decide +kernel
theorem dX10_clear_75 : decode cX10_clear 75 = .ok (.if_icmp .ne 7, 3) := by decide +kernel
theorem dX10_clear_78 : decode cX10_clear 78 = .ok (.iconst 1, 1) := by decide +kernel
theorem dX10_clear_79 : decode cX10_clear 79 = .ok (.goto 4, 3) := by decide +kernel
theorem dX10_clear_82 : decode cX10_clear 82 = .ok (.iconst 0, 1) := by decide +kernel
theorem dX10_clear_83 : decode cX10_clear 83 = .ok (.iadd, 1) := by decide +kernel
theorem dX10_clear_84 : decode cX10_clear 84 = .ok (.iastore, 1) := by decide +kernel
theorem dX10_clear_85 : decode cX10_clear 85 = .ok (.aload_n 0, 1) := by decide +kernel
theorem dX10_clear_86 : decode cX10_clear 86 = .ok (.getfield 31, 3) := by decide +kernel
theorem dX10_clear_89 : decode cX10_clear 89 = .ok (.iload_n 1, 1) := by decide +kernel
theorem dX10_clear_90 : decode cX10_clear 90 = .ok (.aload_n 0, 1) := by decide +kernel
theorem dX10_clear_91 : decode cX10_clear 91 = .ok (.getfield 31, 3) := by decide +kernel
theorem dX10_clear_94 : decode cX10_clear 94 = .ok (.iload_n 1, 1) := by decide +kernel
theorem dX10_clear_95 : decode cX10_clear 95 = .ok (.baload, 1) := by decide +kernel
theorem dX10_clear_96 : decode cX10_clear 96 = .ok (.ifCond .eq 13, 3) := by decide +kernel
theorem dX10_clear_99 : decode cX10_clear 99 = .ok (.iload_n 2, 1) := by decide +kernel
theorem dX10_clear_100 : decode cX10_clear 100 = .ok (.bipush 6, 2) := by decide +kernel
theorem dX10_clear_102 : decode cX10_clear 102 = .ok (.if_icmp .eq 7, 3) := by decide +kernel
theorem dX10_clear_105 : decode cX10_clear 105 = .ok (.iconst 1, 1) := by decide +kernel
theorem dX10_clear_106 : decode cX10_clear 106 = .ok (.goto 4, 3) := by decide +kernel
theorem dX10_clear_109 : decode cX10_clear 109 = .ok (.iconst 0, 1) := by decide +kernel
theorem dX10_clear_110 : decode cX10_clear 110 = .ok (.bastore, 1) := by decide +kernel
theorem dX10_clear_111 : decode cX10_clear 111 = .ok (.aload_n 0, 1) := by decide +kernel
theorem dX10_clear_112 : decode cX10_clear 112 = .ok (.getfield 28, 3) := by decide +kernel
theorem dX10_clear_115 : decode cX10_clear 115 = .ok (.iload_n 1, 1) := by decide +kernel
theorem dX10_clear_116 : decode cX10_clear 116 = .ok (.iload_n 2, 1) := by decide +kernel
theorem dX10_clear_117 : decode cX10_clear 117 = .ok (.bipush 7, 2) := by decide +kernel
theorem dX10_clear_119 : decode cX10_clear 119 = .ok (.if_icmp .ne 7, 3) := by decide +kernel
theorem dX10_clear_122 : decode cX10_clear 122 = .ok (.iconst 0, 1) := by decide +kernel
theorem dX10_clear_123 : decode cX10_clear 123 = .ok (.goto 9, 3) := by decide +kernel
theorem dX10_clear_126 : decode cX10_clear 126 = .ok (.aload_n 0, 1) := by decide +kernel
theorem dX10_clear_127 : decode cX10_clear 127 = .ok (.getfield 28, 3) := by decide +kernel
theorem dX10_clear_130 : decode cX10_clear 130 = .ok (.iload_n 1, 1) := by decide +kernel
theorem dX10_clear_131 : decode cX10_clear 131 = .ok (.iaload, 1) := by decide +kernel
theorem dX10_clear_132 : decode cX10_clear 132 = .ok (.iastore, 1) := by decide +kernel
theorem dX10_clear_133 : decode cX10_clear 133 = .ok (.iconst 1, 1) := by decide +kernel
theorem dX10_clear_134 : decode cX10_clear 134 = .ok (.ireturn, 1) := by decide +kernel
theorem dX10_costOf_0 : decode cX10_costOf 0 = .ok (.aload_n 0, 1) := by decide +kernel
theorem dX10_costOf_1 : decode cX10_costOf 1 = .ok (.getfield 7, 3) := by decide +kernel
theorem dX10_costOf_4 : decode cX10_costOf 4 = .ok (.iload_n 1, 1) := by decide +kernel
theorem dX10_costOf_5 : decode cX10_costOf 5 = .ok (.iaload, 1) := by decide +kernel
theorem dX10_costOf_6 : decode cX10_costOf 6 = .ok (.istore_n 2, 1) := by decide +kernel
theorem dX10_costOf_7 : decode cX10_costOf 7 = .ok (.iload_n 2, 1) := by decide +kernel
theorem dX10_costOf_8 : decode cX10_costOf 8 = .ok (.iconst 2, 1) := by decide +kernel
theorem dX10_costOf_9 : decode cX10_costOf 9 = .ok (.if_icmp .eq 13, 3) := by decide +kernel
theorem dX10_costOf_12 : decode cX10_costOf 12 = .ok (.iload_n 2, 1) := by decide +kernel
theorem dX10_costOf_13 : decode cX10_costOf 13 = .ok (.iconst 4, 1) := by decide +kernel
theorem dX10_costOf_14 : decode cX10_costOf 14 = .ok (.if_icmp .eq 8, 3) := by decide +kernel
theorem dX10_costOf_17 : decode cX10_costOf 17 = .ok (.iload_n 2, 1) := by decide +kernel
theorem dX10_costOf_18 : decode cX10_costOf 18 = .ok (.iconst 5, 1) := by decide +kernel
theorem dX10_costOf_19 : decode cX10_costOf 19 = .ok (.if_icmp .ne 7, 3) := by decide +kernel
theorem dX10_costOf_22 : decode cX10_costOf 22 = .ok (.iconst 1, 1) := by decide +kernel
theorem dX10_costOf_23 : decode cX10_costOf 23 = .ok (.goto 4, 3) := by decide +kernel
theorem dX10_costOf_26 : decode cX10_costOf 26 = .ok (.iconst 0, 1) := by decide +kernel
theorem dX10_costOf_27 : decode cX10_costOf 27 = .ok (.istore_n 3, 1) := by decide +kernel
theorem dX10_costOf_28 : decode cX10_costOf 28 = .ok (.iload_n 3, 1) := by decide +kernel
theorem dX10_costOf_29 : decode cX10_costOf 29 = .ok (.ifCond .eq 12, 3) := by decide +kernel
theorem dX10_costOf_32 : decode cX10_costOf 32 = .ok (.aload_n 0, 1) := by decide +kernel
theorem dX10_costOf_33 : decode cX10_costOf 33 = .ok (.iconst 4, 1) := by decide +kernel
theorem dX10_costOf_34 : decode cX10_costOf 34 = .ok (.iconst 2, 1) := by decide +kernel
theorem dX10_costOf_35 : decode cX10_costOf 35 = .ok (.invokevirtual 58, 3) := by decide +kernel
theorem dX10_costOf_38 : decode cX10_costOf 38 = .ok (.goto 21, 3) := by decide +kernel
theorem dX10_costOf_41 : decode cX10_costOf 41 = .ok (.iload_n 2, 1) := by decide +kernel
theorem dX10_costOf_42 : decode cX10_costOf 42 = .ok (.bipush 6, 2) := by decide +kernel
theorem dX10_costOf_44 : decode cX10_costOf 44 = .ok (.if_icmp .eq 9, 3) := by decide +kernel
theorem dX10_costOf_47 : decode cX10_costOf 47 = .ok (.iload_n 2, 1) := by decide +kernel
theorem dX10_costOf_48 : decode cX10_costOf 48 = .ok (.bipush 7, 2) := by decide +kernel
theorem dX10_costOf_50 : decode cX10_costOf 50 = .ok (.if_icmp .ne 9, 3) := by decide +kernel
theorem dX10_costOf_53 : decode cX10_costOf 53 = .ok (.aload_n 0, 1) := by decide +kernel
theorem dX10_costOf_54 : decode cX10_costOf 54 = .ok (.iconst 4, 1) := by decide +kernel
theorem dX10_costOf_55 : decode cX10_costOf 55 = .ok (.iload_n 2, 1) := by decide +kernel
theorem dX10_costOf_56 : decode cX10_costOf 56 = .ok (.invokevirtual 58, 3) := by decide +kernel
theorem dX10_costOf_59 : decode cX10_costOf 59 = .ok (.aload_n 0, 1) := by decide +kernel
theorem dX10_costOf_60 : decode cX10_costOf 60 = .ok (.iconst 4, 1) := by decide +kernel
theorem dX10_costOf_61 : decode cX10_costOf 61 = .ok (.iconst 0, 1) := by decide +kernel
theorem dX10_costOf_62 : decode cX10_costOf 62 = .ok (.invokevirtual 58, 3) := by decide +kernel
theorem dX10_costOf_65 : decode cX10_costOf 65 = .ok (.bipush 10, 2) := by decide +kernel
theorem dX10_costOf_67 : decode cX10_costOf 67 = .ok (.aload_n 0, 1) := by decide +kernel
theorem dX10_costOf_68 : decode cX10_costOf 68 = .ok (.getfield 25, 3) := by decide +kernel
theorem dX10_costOf_71 : decode cX10_costOf 71 = .ok (.iload_n 1, 1) := by decide +kernel
theorem dX10_costOf_72 : decode cX10_costOf 72 = .ok (.iaload, 1) := by decide +kernel
theorem dX10_costOf_73 : decode cX10_costOf 73 = .ok (.iadd, 1) := by decide +kernel
theorem dX10_costOf_74 : decode cX10_costOf 74 = .ok (.istore 4, 2) := by decide +kernel
theorem dX10_costOf_76 : decode cX10_costOf 76 = .ok (.iload_n 2, 1) := by decide +kernel
theorem dX10_costOf_77 : decode cX10_costOf 77 = .ok (.bipush 7, 2) := by decide +kernel
theorem dX10_costOf_79 : decode cX10_costOf 79 = .ok (.if_icmp .ne 34, 3) := by decide +kernel
theorem dX10_costOf_82 : decode cX10_costOf 82 = .ok (.iload 4, 2) := by decide +kernel
theorem dX10_costOf_84 : decode cX10_costOf 84 = .ok (.iconst 1, 1) := by decide +kernel
theorem dX10_costOf_85 : decode cX10_costOf 85 = .ok (.aload_n 0, 1) := by decide +kernel
theorem dX10_costOf_86 : decode cX10_costOf 86 = .ok (.getfield 28, 3) := by decide +kernel
theorem dX10_costOf_89 : decode cX10_costOf 89 = .ok (.iload_n 1, 1) := by decide +kernel
theorem dX10_costOf_90 : decode cX10_costOf 90 = .ok (.iaload, 1) := by decide +kernel
theorem dX10_costOf_91 : decode cX10_costOf 91 = .ok (.ifCond .ge 13, 3) := by decide +kernel
theorem dX10_costOf_94 : decode cX10_costOf 94 = .ok (.aload_n 0, 1) := by decide +kernel
theorem dX10_costOf_95 : decode cX10_costOf 95 = .ok (.getfield 28, 3) := by decide +kernel
theorem dX10_costOf_98 : decode cX10_costOf 98 = .ok (.iload_n 1, 1) := by decide +kernel
theorem dX10_costOf_99 : decode cX10_costOf 99 = .ok (.iaload, 1) := by decide +kernel
theorem dX10_costOf_100 : decode cX10_costOf 100 = .ok (.ineg, 1) := by decide +kernel
theorem dX10_costOf_101 : decode cX10_costOf 101 = .ok (.goto 9, 3) := by decide +kernel
theorem dX10_costOf_104 : decode cX10_costOf 104 = .ok (.aload_n 0, 1) := by decide +kernel
theorem dX10_costOf_105 : decode cX10_costOf 105 = .ok (.getfield 28, 3) := by decide +kernel
theorem dX10_costOf_108 : decode cX10_costOf 108 = .ok (.iload_n 1, 1) := by decide +kernel
theorem dX10_costOf_109 : decode cX10_costOf 109 = .ok (.iaload, 1) := by decide +kernel
theorem dX10_costOf_110 : decode cX10_costOf 110 = .ok (.iadd, 1) := by decide +kernel
theorem dX10_costOf_111 : decode cX10_costOf 111 = .ok (.imul, 1) := by decide +kernel
theorem dX10_costOf_112 : decode cX10_costOf 112 = .ok (.ireturn, 1) := by decide +kernel
theorem dX10_costOf_113 : decode cX10_costOf 113 = .ok (.iload_n 3, 1) := by decide +kernel
theorem dX10_costOf_114 : decode cX10_costOf 114 = .ok (.ifCond .eq 10, 3) := by decide +kernel
theorem dX10_costOf_117 : decode cX10_costOf 117 = .ok (.iconst 2, 1) := by decide +kernel
theorem dX10_costOf_118 : decode cX10_costOf 118 = .ok (.iload 4, 2) := by decide +kernel
theorem dX10_costOf_120 : decode cX10_costOf 120 = .ok (.imul, 1) := by decide +kernel
theorem dX10_costOf_121 : decode cX10_costOf 121 = .ok (.goto 18, 3) := by decide +kernel
theorem dX10_costOf_124 : decode cX10_costOf 124 = .ok (.iload_n 2, 1) := by decide +kernel
theorem dX10_costOf_125 : decode cX10_costOf 125 = .ok (.bipush 6, 2) := by decide +kernel
theorem dX10_costOf_127 : decode cX10_costOf 127 = .ok (.if_icmp .ne 10, 3) := by decide +kernel
theorem dX10_costOf_130 : decode cX10_costOf 130 = .ok (.iconst 5, 1) := by decide +kernel
theorem dX10_costOf_131 : decode cX10_costOf 131 = .ok (.iload 4, 2) := by decide +kernel
theorem dX10_costOf_133 : decode cX10_costOf 133 = .ok (.iadd, 1) := by decide +kernel
theorem dX10_costOf_134 : decode cX10_costOf 134 = .ok (.goto 5, 3) := by decide +kernel
theorem dX10_costOf_137 : decode cX10_costOf 137 = .ok (.iload 4, 2) := by decide +kernel
theorem dX10_costOf_139 : decode cX10_costOf 139 = .ok (.ireturn, 1) := by decide +kernel
theorem dX10_cost_0 : decode cX10_cost 0 = .ok (.aload_n 0, 1) := by decide +kernel
theorem dX10_cost_1 : decode cX10_cost 1 = .ok (.iconst 0, 1) := by decide +kernel
theorem dX10_cost_2 : decode cX10_cost 2 = .ok (.putfield 38, 3) := by decide +kernel
theorem dX10_cost_5 : decode cX10_cost 5 = .ok (.aload_n 0, 1) := by decide +kernel
theorem dX10_cost_6 : decode cX10_cost 6 = .ok (.iload_n 1, 1) := by decide +kernel
theorem dX10_cost_7 : decode cX10_cost 7 = .ok (.invokevirtual 82, 3) := by decide +kernel
theorem dX10_cost_10 : decode cX10_cost 10 = .ok (.ifCond .ne 8, 3) := by decide +kernel
theorem dX10_cost_13 : decode cX10_cost 13 = .ok (.bipush (-101), 2) := by decide +kernel
theorem dX10_cost_15 : decode cX10_cost 15 = .ok (.goto 8, 3) := by decide +kernel
theorem dX10_cost_18 : decode cX10_cost 18 = .ok (.aload_n 0, 1) := by decide +kernel
theorem dX10_cost_19 : decode cX10_cost 19 = .ok (.iload_n 1, 1) := by decide +kernel
theorem dX10_cost_20 : decode cX10_cost 20 = .ok (.invokevirtual 97, 3) := by decide +kernel
theorem dX10_cost_23 : decode cX10_cost 23 = .ok (.ireturn, 1) := by decide +kernel
theorem dX10_tell_0 : decode cX10_tell 0 = .ok (.aload_n 0, 1) := by decide +kernel
theorem dX10_tell_1 : decode cX10_tell 1 = .ok (.iconst 0, 1) := by decide +kernel
theorem dX10_tell_2 : decode cX10_tell 2 = .ok (.putfield 38, 3) := by decide +kernel
theorem dX10_tell_5 : decode cX10_tell 5 = .ok (.aload_n 0, 1) := by decide +kernel
theorem dX10_tell_6 : decode cX10_tell 6 = .ok (.iload_n 1, 1) := by decide +kernel
theorem dX10_tell_7 : decode cX10_tell 7 = .ok (.invokevirtual 82, 3) := by decide +kernel
theorem dX10_tell_10 : decode cX10_tell 10 = .ok (.ifCond .ne 6, 3) := by decide +kernel
theorem dX10_tell_13 : decode cX10_tell 13 = .ok (.bipush (-101), 2) := by decide +kernel
theorem dX10_tell_15 : decode cX10_tell 15 = .ok (.ireturn, 1) := by decide +kernel
theorem dX10_tell_16 : decode cX10_tell 16 = .ok (.iload_n 2, 1) := by decide +kernel
theorem dX10_tell_17 : decode cX10_tell 17 = .ok (.tableswitch 111 0 7 #[47, 54, 61, 68, 75, 82, 89, 96], 47) := by decide +kernel
theorem dX10_tell_64 : decode cX10_tell 64 = .ok (.aload_n 0, 1) := by decide +kernel
theorem dX10_tell_65 : decode cX10_tell 65 = .ok (.getfield 7, 3) := by decide +kernel
theorem dX10_tell_68 : decode cX10_tell 68 = .ok (.iload_n 1, 1) := by decide +kernel
theorem dX10_tell_69 : decode cX10_tell 69 = .ok (.iaload, 1) := by decide +kernel
theorem dX10_tell_70 : decode cX10_tell 70 = .ok (.ireturn, 1) := by decide +kernel
theorem dX10_tell_71 : decode cX10_tell 71 = .ok (.aload_n 0, 1) := by decide +kernel
theorem dX10_tell_72 : decode cX10_tell 72 = .ok (.getfield 13, 3) := by decide +kernel
theorem dX10_tell_75 : decode cX10_tell 75 = .ok (.iload_n 1, 1) := by decide +kernel
theorem dX10_tell_76 : decode cX10_tell 76 = .ok (.iaload, 1) := by decide +kernel
theorem dX10_tell_77 : decode cX10_tell 77 = .ok (.ireturn, 1) := by decide +kernel
theorem dX10_tell_78 : decode cX10_tell 78 = .ok (.aload_n 0, 1) := by decide +kernel
theorem dX10_tell_79 : decode cX10_tell 79 = .ok (.getfield 16, 3) := by decide +kernel
theorem dX10_tell_82 : decode cX10_tell 82 = .ok (.iload_n 1, 1) := by decide +kernel
theorem dX10_tell_83 : decode cX10_tell 83 = .ok (.iaload, 1) := by decide +kernel
theorem dX10_tell_84 : decode cX10_tell 84 = .ok (.ireturn, 1) := by decide +kernel
theorem dX10_tell_85 : decode cX10_tell 85 = .ok (.aload_n 0, 1) := by decide +kernel
theorem dX10_tell_86 : decode cX10_tell 86 = .ok (.getfield 19, 3) := by decide +kernel
theorem dX10_tell_89 : decode cX10_tell 89 = .ok (.iload_n 1, 1) := by decide +kernel
theorem dX10_tell_90 : decode cX10_tell 90 = .ok (.iaload, 1) := by decide +kernel
theorem dX10_tell_91 : decode cX10_tell 91 = .ok (.ireturn, 1) := by decide +kernel
theorem dX10_tell_92 : decode cX10_tell 92 = .ok (.aload_n 0, 1) := by decide +kernel
theorem dX10_tell_93 : decode cX10_tell 93 = .ok (.getfield 22, 3) := by decide +kernel
theorem dX10_tell_96 : decode cX10_tell 96 = .ok (.iload_n 1, 1) := by decide +kernel
theorem dX10_tell_97 : decode cX10_tell 97 = .ok (.iaload, 1) := by decide +kernel
theorem dX10_tell_98 : decode cX10_tell 98 = .ok (.ireturn, 1) := by decide +kernel
theorem dX10_tell_99 : decode cX10_tell 99 = .ok (.aload_n 0, 1) := by decide +kernel
theorem dX10_tell_100 : decode cX10_tell 100 = .ok (.getfield 25, 3) := by decide +kernel
theorem dX10_tell_103 : decode cX10_tell 103 = .ok (.iload_n 1, 1) := by decide +kernel
theorem dX10_tell_104 : decode cX10_tell 104 = .ok (.iaload, 1) := by decide +kernel
theorem dX10_tell_105 : decode cX10_tell 105 = .ok (.ireturn, 1) := by decide +kernel
theorem dX10_tell_106 : decode cX10_tell 106 = .ok (.aload_n 0, 1) := by decide +kernel
theorem dX10_tell_107 : decode cX10_tell 107 = .ok (.getfield 28, 3) := by decide +kernel
theorem dX10_tell_110 : decode cX10_tell 110 = .ok (.iload_n 1, 1) := by decide +kernel
theorem dX10_tell_111 : decode cX10_tell 111 = .ok (.iaload, 1) := by decide +kernel
theorem dX10_tell_112 : decode cX10_tell 112 = .ok (.ireturn, 1) := by decide +kernel
theorem dX10_tell_113 : decode cX10_tell 113 = .ok (.aload_n 0, 1) := by decide +kernel
theorem dX10_tell_114 : decode cX10_tell 114 = .ok (.getfield 31, 3) := by decide +kernel
theorem dX10_tell_117 : decode cX10_tell 117 = .ok (.iload_n 1, 1) := by decide +kernel
theorem dX10_tell_118 : decode cX10_tell 118 = .ok (.baload, 1) := by decide +kernel
theorem dX10_tell_119 : decode cX10_tell 119 = .ok (.ifCond .eq 7, 3) := by decide +kernel
theorem dX10_tell_122 : decode cX10_tell 122 = .ok (.iconst 1, 1) := by decide +kernel
theorem dX10_tell_123 : decode cX10_tell 123 = .ok (.goto 4, 3) := by decide +kernel
theorem dX10_tell_126 : decode cX10_tell 126 = .ok (.iconst 0, 1) := by decide +kernel
theorem dX10_tell_127 : decode cX10_tell 127 = .ok (.ireturn, 1) := by decide +kernel
theorem dX10_tell_128 : decode cX10_tell 128 = .ok (.bipush (-102), 2) := by decide +kernel
theorem dX10_tell_130 : decode cX10_tell 130 = .ok (.ireturn, 1) := by decide +kernel
theorem dX10_sweep_0 : decode cX10_sweep 0 = .ok (.aload_n 0, 1) := by decide +kernel
theorem dX10_sweep_1 : decode cX10_sweep 1 = .ok (.iconst 0, 1) := by decide +kernel
theorem dX10_sweep_2 : decode cX10_sweep 2 = .ok (.putfield 38, 3) := by decide +kernel
theorem dX10_sweep_5 : decode cX10_sweep 5 = .ok (.iload_n 1, 1) := by decide +kernel
theorem dX10_sweep_6 : decode cX10_sweep 6 = .ok (.iconst 0, 1) := by decide +kernel
theorem dX10_sweep_7 : decode cX10_sweep 7 = .ok (.iconst 5, 1) := by decide +kernel
theorem dX10_sweep_8 : decode cX10_sweep 8 = .ok (.invokestatic 45, 3) := by decide +kernel
theorem dX10_sweep_11 : decode cX10_sweep 11 = .ok (.ifCond .eq 16, 3) := by decide +kernel
theorem dX10_sweep_14 : decode cX10_sweep 14 = .ok (.iload_n 2, 1) := by decide +kernel
theorem dX10_sweep_15 : decode cX10_sweep 15 = .ok (.sipush (-10000), 3) := by decide +kernel
theorem dX10_sweep_18 : decode cX10_sweep 18 = .ok (.sipush 10000, 3) := by decide +kernel
theorem dX10_sweep_21 : decode cX10_sweep 21 = .ok (.invokestatic 45, 3) := by decide +kernel
theorem dX10_sweep_24 : decode cX10_sweep 24 = .ok (.ifCond .ne 6, 3) := by decide +kernel
theorem dX10_sweep_27 : decode cX10_sweep 27 = .ok (.bipush (-102), 2) := by decide +kernel
theorem dX10_sweep_29 : decode cX10_sweep 29 = .ok (.ireturn, 1) := by decide +kernel
theorem dX10_sweep_30 : decode cX10_sweep 30 = .ok (.iconst 0, 1) := by decide +kernel
theorem dX10_sweep_31 : decode cX10_sweep 31 = .ok (.istore_n 3, 1) := by decide +kernel
theorem dX10_sweep_32 : decode cX10_sweep 32 = .ok (.iconst 0, 1) := by decide +kernel
theorem dX10_sweep_33 : decode cX10_sweep 33 = .ok (.istore 4, 2) := by decide +kernel
theorem dX10_sweep_35 : decode cX10_sweep 35 = .ok (.iload 4, 2) := by decide +kernel
theorem dX10_sweep_37 : decode cX10_sweep 37 = .ok (.aload_n 0, 1) := by decide +kernel
theorem dX10_sweep_38 : decode cX10_sweep 38 = .ok (.getfield 42, 3) := by decide +kernel
theorem dX10_sweep_41 : decode cX10_sweep 41 = .ok (.if_icmp .ge 42, 3) := by decide +kernel
theorem dX10_sweep_44 : decode cX10_sweep 44 = .ok (.aload_n 0, 1) := by decide +kernel
theorem dX10_sweep_45 : decode cX10_sweep 45 = .ok (.getfield 13, 3) := by decide +kernel
theorem dX10_sweep_48 : decode cX10_sweep 48 = .ok (.iload 4, 2) := by decide +kernel
theorem dX10_sweep_50 : decode cX10_sweep 50 = .ok (.iaload, 1) := by decide +kernel
theorem dX10_sweep_51 : decode cX10_sweep 51 = .ok (.iload_n 1, 1) := by decide +kernel
theorem dX10_sweep_52 : decode cX10_sweep 52 = .ok (.if_icmp .ne 25, 3) := by decide +kernel
theorem dX10_sweep_55 : decode cX10_sweep 55 = .ok (.aload_n 0, 1) := by decide +kernel
theorem dX10_sweep_56 : decode cX10_sweep 56 = .ok (.iload 4, 2) := by decide +kernel
theorem dX10_sweep_58 : decode cX10_sweep 58 = .ok (.iload_n 2, 1) := by decide +kernel
theorem dX10_sweep_59 : decode cX10_sweep 59 = .ok (.invokevirtual 88, 3) := by decide +kernel
theorem dX10_sweep_62 : decode cX10_sweep 62 = .ok (.iload_n 3, 1) := by decide +kernel
theorem dX10_sweep_63 : decode cX10_sweep 63 = .ok (.aload_n 0, 1) := by decide +kernel
theorem dX10_sweep_64 : decode cX10_sweep 64 = .ok (.getfield 52, 3) := by decide +kernel
theorem dX10_sweep_67 : decode cX10_sweep 67 = .ok (.ifCond .le 7, 3) := by decide +kernel
theorem dX10_sweep_70 : decode cX10_sweep 70 = .ok (.iconst 1, 1) := by decide +kernel
theorem dX10_sweep_71 : decode cX10_sweep 71 = .ok (.goto 4, 3) := by decide +kernel
theorem dX10_sweep_74 : decode cX10_sweep 74 = .ok (.iconst 0, 1) := by decide +kernel
theorem dX10_sweep_75 : decode cX10_sweep 75 = .ok (.iadd, 1) := by decide +kernel
theorem dX10_sweep_76 : decode cX10_sweep 76 = .ok (.istore_n 3, 1) := by decide +kernel
theorem dX10_sweep_77 : decode cX10_sweep 77 = .ok (.iinc 4 1, 3) := by decide +kernel
theorem dX10_sweep_80 : decode cX10_sweep 80 = .ok (.goto (-45), 3) := by decide +kernel
theorem dX10_sweep_83 : decode cX10_sweep 83 = .ok (.iload_n 3, 1) := by decide +kernel
theorem dX10_sweep_84 : decode cX10_sweep 84 = .ok (.ireturn, 1) := by decide +kernel
theorem dX10_alarm_0 : decode cX10_alarm 0 = .ok (.aload_n 0, 1) := by decide +kernel
theorem dX10_alarm_1 : decode cX10_alarm 1 = .ok (.iconst 0, 1) := by decide +kernel
theorem dX10_alarm_2 : decode cX10_alarm 2 = .ok (.putfield 38, 3) := by decide +kernel
theorem dX10_alarm_5 : decode cX10_alarm 5 = .ok (.iload_n 1, 1) := by decide +kernel
theorem dX10_alarm_6 : decode cX10_alarm 6 = .ok (.iconst 0, 1) := by decide +kernel
theorem dX10_alarm_7 : decode cX10_alarm 7 = .ok (.iconst 5, 1) := by decide +kernel
theorem dX10_alarm_8 : decode cX10_alarm 8 = .ok (.invokestatic 45, 3) := by decide +kernel
theorem dX10_alarm_11 : decode cX10_alarm 11 = .ok (.ifCond .eq 13, 3) := by decide +kernel
theorem dX10_alarm_14 : decode cX10_alarm 14 = .ok (.iload_n 2, 1) := by decide +kernel
theorem dX10_alarm_15 : decode cX10_alarm 15 = .ok (.iconst 1, 1) := by decide +kernel
theorem dX10_alarm_16 : decode cX10_alarm 16 = .ok (.bipush 60, 2) := by decide +kernel
theorem dX10_alarm_18 : decode cX10_alarm 18 = .ok (.invokestatic 45, 3) := by decide +kernel
theorem dX10_alarm_21 : decode cX10_alarm 21 = .ok (.ifCond .ne 6, 3) := by decide +kernel
theorem dX10_alarm_24 : decode cX10_alarm 24 = .ok (.bipush (-102), 2) := by decide +kernel
theorem dX10_alarm_26 : decode cX10_alarm 26 = .ok (.ireturn, 1) := by decide +kernel
theorem dX10_alarm_27 : decode cX10_alarm 27 = .ok (.iconst 0, 1) := by decide +kernel
theorem dX10_alarm_28 : decode cX10_alarm 28 = .ok (.istore_n 3, 1) := by decide +kernel
theorem dX10_alarm_29 : decode cX10_alarm 29 = .ok (.iconst 0, 1) := by decide +kernel
theorem dX10_alarm_30 : decode cX10_alarm 30 = .ok (.istore 4, 2) := by decide +kernel
theorem dX10_alarm_32 : decode cX10_alarm 32 = .ok (.iload 4, 2) := by decide +kernel
theorem dX10_alarm_34 : decode cX10_alarm 34 = .ok (.aload_n 0, 1) := by decide +kernel
theorem dX10_alarm_35 : decode cX10_alarm 35 = .ok (.getfield 42, 3) := by decide +kernel
theorem dX10_alarm_38 : decode cX10_alarm 38 = .ok (.if_icmp .ge 71, 3) := by decide +kernel
theorem dX10_alarm_41 : decode cX10_alarm 41 = .ok (.aload_n 0, 1) := by decide +kernel
theorem dX10_alarm_42 : decode cX10_alarm 42 = .ok (.getfield 13, 3) := by decide +kernel
theorem dX10_alarm_45 : decode cX10_alarm 45 = .ok (.iload 4, 2) := by decide +kernel
theorem dX10_alarm_47 : decode cX10_alarm 47 = .ok (.iaload, 1) := by decide +kernel
theorem dX10_alarm_48 : decode cX10_alarm 48 = .ok (.iload_n 1, 1) := by decide +kernel
theorem dX10_alarm_49 : decode cX10_alarm 49 = .ok (.if_icmp .ne 54, 3) := by decide +kernel
theorem dX10_alarm_52 : decode cX10_alarm 52 = .ok (.aload_n 0, 1) := by decide +kernel
theorem dX10_alarm_53 : decode cX10_alarm 53 = .ok (.getfield 7, 3) := by decide +kernel
theorem dX10_alarm_56 : decode cX10_alarm 56 = .ok (.iload 4, 2) := by decide +kernel
theorem dX10_alarm_58 : decode cX10_alarm 58 = .ok (.iaload, 1) := by decide +kernel
theorem dX10_alarm_59 : decode cX10_alarm 59 = .ok (.ifCond .ne 7, 3) := by decide +kernel
theorem dX10_alarm_62 : decode cX10_alarm 62 = .ok (.iconst 3, 1) := by decide +kernel
theorem dX10_alarm_63 : decode cX10_alarm 63 = .ok (.goto 20, 3) := by decide +kernel
theorem dX10_alarm_66 : decode cX10_alarm 66 = .ok (.aload_n 0, 1) := by decide +kernel
theorem dX10_alarm_67 : decode cX10_alarm 67 = .ok (.getfield 7, 3) := by decide +kernel
theorem dX10_alarm_70 : decode cX10_alarm 70 = .ok (.iload 4, 2) := by decide +kernel
theorem dX10_alarm_72 : decode cX10_alarm 72 = .ok (.iaload, 1) := by decide +kernel
theorem dX10_alarm_73 : decode cX10_alarm 73 = .ok (.bipush 7, 2) := by decide +kernel
theorem dX10_alarm_75 : decode cX10_alarm 75 = .ok (.if_icmp .ne 7, 3) := by decide +kernel
theorem dX10_alarm_78 : decode cX10_alarm 78 = .ok (.iconst 2, 1) := by decide +kernel
theorem dX10_alarm_79 : decode cX10_alarm 79 = .ok (.goto 4, 3) := by decide +kernel
theorem dX10_alarm_82 : decode cX10_alarm 82 = .ok (.iconst 1, 1) := by decide +kernel
theorem dX10_alarm_83 : decode cX10_alarm 83 = .ok (.istore 5, 2) := by decide +kernel
theorem dX10_alarm_85 : decode cX10_alarm 85 = .ok (.iload_n 3, 1) := by decide +kernel
theorem dX10_alarm_86 : decode cX10_alarm 86 = .ok (.aload_n 0, 1) := by decide +kernel
theorem dX10_alarm_87 : decode cX10_alarm 87 = .ok (.iload 4, 2) := by decide +kernel
theorem dX10_alarm_89 : decode cX10_alarm 89 = .ok (.invokevirtual 94, 3) := by decide +kernel
theorem dX10_alarm_92 : decode cX10_alarm 92 = .ok (.ifCond .eq 8, 3) := by decide +kernel
theorem dX10_alarm_95 : decode cX10_alarm 95 = .ok (.iload 5, 2) := by decide +kernel
theorem dX10_alarm_97 : decode cX10_alarm 97 = .ok (.goto 4, 3) := by decide +kernel
theorem dX10_alarm_100 : decode cX10_alarm 100 = .ok (.iconst 0, 1) := by decide +kernel
theorem dX10_alarm_101 : decode cX10_alarm 101 = .ok (.iadd, 1) := by decide +kernel
theorem dX10_alarm_102 : decode cX10_alarm 102 = .ok (.istore_n 3, 1) := by decide +kernel
theorem dX10_alarm_103 : decode cX10_alarm 103 = .ok (.iinc 4 1, 3) := by decide +kernel
theorem dX10_alarm_106 : decode cX10_alarm 106 = .ok (.goto (-74), 3) := by decide +kernel
theorem dX10_alarm_109 : decode cX10_alarm 109 = .ok (.iload_n 3, 1) := by decide +kernel
theorem dX10_alarm_110 : decode cX10_alarm 110 = .ok (.iload_n 2, 1) := by decide +kernel
theorem dX10_alarm_111 : decode cX10_alarm 111 = .ok (.if_icmp .lt 7, 3) := by decide +kernel
theorem dX10_alarm_114 : decode cX10_alarm 114 = .ok (.iconst 1, 1) := by decide +kernel
theorem dX10_alarm_115 : decode cX10_alarm 115 = .ok (.goto 4, 3) := by decide +kernel
theorem dX10_alarm_118 : decode cX10_alarm 118 = .ok (.iconst 0, 1) := by decide +kernel
theorem dX10_alarm_119 : decode cX10_alarm 119 = .ok (.ireturn, 1) := by decide +kernel
theorem dX10_costs_0 : decode cX10_costs 0 = .ok (.aload_n 0, 1) := by decide +kernel
theorem dX10_costs_1 : decode cX10_costs 1 = .ok (.iconst 0, 1) := by decide +kernel
theorem dX10_costs_2 : decode cX10_costs 2 = .ok (.putfield 38, 3) := by decide +kernel
theorem dX10_costs_5 : decode cX10_costs 5 = .ok (.iconst 0, 1) := by decide +kernel
theorem dX10_costs_6 : decode cX10_costs 6 = .ok (.istore_n 1, 1) := by decide +kernel
theorem dX10_costs_7 : decode cX10_costs 7 = .ok (.iconst 0, 1) := by decide +kernel
theorem dX10_costs_8 : decode cX10_costs 8 = .ok (.istore_n 2, 1) := by decide +kernel
theorem dX10_costs_9 : decode cX10_costs 9 = .ok (.iload_n 2, 1) := by decide +kernel
theorem dX10_costs_10 : decode cX10_costs 10 = .ok (.aload_n 0, 1) := by decide +kernel
theorem dX10_costs_11 : decode cX10_costs 11 = .ok (.getfield 42, 3) := by decide +kernel
theorem dX10_costs_14 : decode cX10_costs 14 = .ok (.if_icmp .ge 17, 3) := by decide +kernel
theorem dX10_costs_17 : decode cX10_costs 17 = .ok (.iload_n 1, 1) := by decide +kernel
theorem dX10_costs_18 : decode cX10_costs 18 = .ok (.aload_n 0, 1) := by decide +kernel
theorem dX10_costs_19 : decode cX10_costs 19 = .ok (.iload_n 2, 1) := by decide +kernel
theorem dX10_costs_20 : decode cX10_costs 20 = .ok (.invokevirtual 97, 3) := by decide +kernel
theorem dX10_costs_23 : decode cX10_costs 23 = .ok (.iadd, 1) := by decide +kernel
theorem dX10_costs_24 : decode cX10_costs 24 = .ok (.istore_n 1, 1) := by decide +kernel
theorem dX10_costs_25 : decode cX10_costs 25 = .ok (.iinc 2 1, 3) := by decide +kernel
theorem dX10_costs_28 : decode cX10_costs 28 = .ok (.goto (-19), 3) := by decide +kernel
theorem dX10_costs_31 : decode cX10_costs 31 = .ok (.iload_n 1, 1) := by decide +kernel
theorem dX10_costs_32 : decode cX10_costs 32 = .ok (.ireturn, 1) := by decide +kernel
theorem dX10_trace_0 : decode cX10_trace 0 = .ok (.aload_n 0, 1) := by decide +kernel
theorem dX10_trace_1 : decode cX10_trace 1 = .ok (.iconst 0, 1) := by decide +kernel
theorem dX10_trace_2 : decode cX10_trace 2 = .ok (.putfield 38, 3) := by decide +kernel
theorem dX10_trace_5 : decode cX10_trace 5 = .ok (.aload_n 0, 1) := by decide +kernel
theorem dX10_trace_6 : decode cX10_trace 6 = .ok (.getfield 49, 3) := by decide +kernel
theorem dX10_trace_9 : decode cX10_trace 9 = .ok (.sipush 200, 3) := by decide +kernel
theorem dX10_trace_12 : decode cX10_trace 12 = .ok (.if_icmp .ge 10, 3) := by decide +kernel
theorem dX10_trace_15 : decode cX10_trace 15 = .ok (.aload_n 0, 1) := by decide +kernel
theorem dX10_trace_16 : decode cX10_trace 16 = .ok (.getfield 49, 3) := by decide +kernel
theorem dX10_trace_19 : decode cX10_trace 19 = .ok (.goto 6, 3) := by decide +kernel
theorem dX10_trace_22 : decode cX10_trace 22 = .ok (.sipush 200, 3) := by decide +kernel
theorem dX10_trace_25 : decode cX10_trace 25 = .ok (.istore_n 2, 1) := by decide +kernel
theorem dX10_trace_26 : decode cX10_trace 26 = .ok (.iload_n 1, 1) := by decide +kernel
theorem dX10_trace_27 : decode cX10_trace 27 = .ok (.iconst 0, 1) := by decide +kernel
theorem dX10_trace_28 : decode cX10_trace 28 = .ok (.iload_n 2, 1) := by decide +kernel
theorem dX10_trace_29 : decode cX10_trace 29 = .ok (.iconst 1, 1) := by decide +kernel
theorem dX10_trace_30 : decode cX10_trace 30 = .ok (.isub, 1) := by decide +kernel
theorem dX10_trace_31 : decode cX10_trace 31 = .ok (.invokestatic 45, 3) := by decide +kernel
theorem dX10_trace_34 : decode cX10_trace 34 = .ok (.ifCond .eq 23, 3) := by decide +kernel
theorem dX10_trace_37 : decode cX10_trace 37 = .ok (.aload_n 0, 1) := by decide +kernel
theorem dX10_trace_38 : decode cX10_trace 38 = .ok (.getfield 35, 3) := by decide +kernel
theorem dX10_trace_41 : decode cX10_trace 41 = .ok (.aload_n 0, 1) := by decide +kernel
theorem dX10_trace_42 : decode cX10_trace 42 = .ok (.getfield 49, 3) := by decide +kernel
theorem dX10_trace_45 : decode cX10_trace 45 = .ok (.iconst 1, 1) := by decide +kernel
theorem dX10_trace_46 : decode cX10_trace 46 = .ok (.isub, 1) := by decide +kernel
theorem dX10_trace_47 : decode cX10_trace 47 = .ok (.iload_n 1, 1) := by decide +kernel
theorem dX10_trace_48 : decode cX10_trace 48 = .ok (.isub, 1) := by decide +kernel
theorem dX10_trace_49 : decode cX10_trace 49 = .ok (.sipush 200, 3) := by decide +kernel
theorem dX10_trace_52 : decode cX10_trace 52 = .ok (.irem, 1) := by decide +kernel
theorem dX10_trace_53 : decode cX10_trace 53 = .ok (.iaload, 1) := by decide +kernel
theorem dX10_trace_54 : decode cX10_trace 54 = .ok (.goto 5, 3) := by decide +kernel
theorem dX10_trace_57 : decode cX10_trace 57 = .ok (.bipush (-101), 2) := by decide +kernel
theorem dX10_trace_59 : decode cX10_trace 59 = .ok (.ireturn, 1) := by decide +kernel
theorem dX10_count_0 : decode cX10_count 0 = .ok (.aload_n 0, 1) := by decide +kernel
theorem dX10_count_1 : decode cX10_count 1 = .ok (.iconst 0, 1) := by decide +kernel
theorem dX10_count_2 : decode cX10_count 2 = .ok (.putfield 38, 3) := by decide +kernel
theorem dX10_count_5 : decode cX10_count 5 = .ok (.iload_n 1, 1) := by decide +kernel
theorem dX10_count_6 : decode cX10_count 6 = .ok (.tableswitch 50 0 3 #[30, 35, 40, 45], 30) := by decide +kernel
theorem dX10_count_36 : decode cX10_count 36 = .ok (.aload_n 0, 1) := by decide +kernel
theorem dX10_count_37 : decode cX10_count 37 = .ok (.getfield 42, 3) := by decide +kernel
theorem dX10_count_40 : decode cX10_count 40 = .ok (.ireturn, 1) := by decide +kernel
theorem dX10_count_41 : decode cX10_count 41 = .ok (.aload_n 0, 1) := by decide +kernel
theorem dX10_count_42 : decode cX10_count 42 = .ok (.getfield 49, 3) := by decide +kernel
theorem dX10_count_45 : decode cX10_count 45 = .ok (.ireturn, 1) := by decide +kernel
theorem dX10_count_46 : decode cX10_count 46 = .ok (.aload_n 0, 1) := by decide +kernel
theorem dX10_count_47 : decode cX10_count 47 = .ok (.getfield 55, 3) := by decide +kernel
theorem dX10_count_50 : decode cX10_count 50 = .ok (.ireturn, 1) := by decide +kernel
theorem dX10_count_51 : decode cX10_count 51 = .ok (.aload_n 0, 1) := by decide +kernel
theorem dX10_count_52 : decode cX10_count 52 = .ok (.getfield 69, 3) := by decide +kernel
theorem dX10_count_55 : decode cX10_count 55 = .ok (.ireturn, 1) := by decide +kernel
theorem dX10_count_56 : decode cX10_count 56 = .ok (.bipush (-102), 2) := by decide +kernel
theorem dX10_count_58 : decode cX10_count 58 = .ok (.ireturn, 1) := by decide +kernel
