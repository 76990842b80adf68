theorem dX10_init_0 : decode cX10_init 0 = .ok (.aload_n 0, 1) := by decide +kernel
theorem dX10_init_1 : decode cX10_init 1 = .ok (.invokespecial 1, 3) := by decide +kernel
theorem dX10_init_4 : decode cX10_init 4 = .ok (.aload_n 0, 1) := by decide +kernel
theorem dX10_init_5 : decode cX10_init 5 = .ok (.bipush 20, 2) := by decide +kernel
theorem dX10_init_7 : decode cX10_init 7 = .ok (.newarray .int, 2) := by decide +kernel
theorem dX10_init_9 : decode cX10_init 9 = .ok (.putfield 7, 3) := by decide +kernel
theorem dX10_init_12 : decode cX10_init 12 = .ok (.aload_n 0, 1) := by decide +kernel
theorem dX10_init_13 : decode cX10_init 13 = .ok (.bipush 20, 2) := by decide +kernel
theorem dX10_init_15 : decode cX10_init 15 = .ok (.newarray .int, 2) := by decide +kernel
theorem dX10_init_17 : decode cX10_init 17 = .ok (.putfield 13, 3) := by decide +kernel
theorem dX10_init_20 : decode cX10_init 20 = .ok (.aload_n 0, 1) := by decide +kernel
theorem dX10_init_21 : decode cX10_init 21 = .ok (.bipush 20, 2) := by decide +kernel
theorem dX10_init_23 : decode cX10_init 23 = .ok (.newarray .int, 2) := by decide +kernel
theorem dX10_init_25 : decode cX10_init 25 = .ok (.putfield 16, 3) := by decide +kernel
theorem dX10_init_28 : decode cX10_init 28 = .ok (.aload_n 0, 1) := by decide +kernel
theorem dX10_init_29 : decode cX10_init 29 = .ok (.bipush 20, 2) := by decide +kernel
theorem dX10_init_31 : decode cX10_init 31 = .ok (.newarray .int, 2) := by decide +kernel
theorem dX10_init_33 : decode cX10_init 33 = .ok (.putfield 19, 3) := by decide +kernel
theorem dX10_init_36 : decode cX10_init 36 = .ok (.aload_n 0, 1) := by decide +kernel
theorem dX10_init_37 : decode cX10_init 37 = .ok (.bipush 20, 2) := by decide +kernel
theorem dX10_init_39 : decode cX10_init 39 = .ok (.newarray .int, 2) := by decide +kernel
theorem dX10_init_41 : decode cX10_init 41 = .ok (.putfield 22, 3) := by decide +kernel
theorem dX10_init_44 : decode cX10_init 44 = .ok (.aload_n 0, 1) := by decide +kernel
theorem dX10_init_45 : decode cX10_init 45 = .ok (.bipush 20, 2) := by decide +kernel
theorem dX10_init_47 : decode cX10_init 47 = .ok (.newarray .int, 2) := by decide +kernel
theorem dX10_init_49 : decode cX10_init 49 = .ok (.putfield 25, 3) := by decide +kernel
theorem dX10_init_52 : decode cX10_init 52 = .ok (.aload_n 0, 1) := by decide +kernel
theorem dX10_init_53 : decode cX10_init 53 = .ok (.bipush 20, 2) := by decide +kernel
theorem dX10_init_55 : decode cX10_init 55 = .ok (.newarray .int, 2) := by decide +kernel
theorem dX10_init_57 : decode cX10_init 57 = .ok (.putfield 28, 3) := by decide +kernel
theorem dX10_init_60 : decode cX10_init 60 = .ok (.aload_n 0, 1) := by decide +kernel
theorem dX10_init_61 : decode cX10_init 61 = .ok (.bipush 20, 2) := by decide +kernel
theorem dX10_init_63 : decode cX10_init 63 = .ok (.newarray .boolean, 2) := by decide +kernel
theorem dX10_init_65 : decode cX10_init 65 = .ok (.putfield 31, 3) := by decide +kernel
theorem dX10_init_68 : decode cX10_init 68 = .ok (.aload_n 0, 1) := by decide +kernel
theorem dX10_init_69 : decode cX10_init 69 = .ok (.sipush 200, 3) := by decide +kernel
theorem dX10_init_72 : decode cX10_init 72 = .ok (.newarray .int, 2) := by decide +kernel
theorem dX10_init_74 : decode cX10_init 74 = .ok (.putfield 35, 3) := by decide +kernel
theorem dX10_init_77 : decode cX10_init 77 = .ok (.return_, 1) := by decide +kernel
theorem dX10_thrown_0 : decode cX10_thrown 0 = .ok (.aload_n 0, 1) := by decide +kernel
theorem dX10_thrown_1 : decode cX10_thrown 1 = .ok (.getfield 38, 3) := by decide +kernel
theorem dX10_thrown_4 : decode cX10_thrown 4 = .ok (.ireturn, 1) := by decide +kernel
theorem dX10_isIn_0 : decode cX10_isIn 0 = .ok (.iload_n 0, 1) := by decide +kernel
theorem dX10_isIn_1 : decode cX10_isIn 1 = .ok (.iload_n 1, 1) := by decide +kernel
theorem dX10_isIn_2 : decode cX10_isIn 2 = .ok (.if_icmp .lt 12, 3) := by decide +kernel
theorem dX10_isIn_5 : decode cX10_isIn 5 = .ok (.iload_n 0, 1) := by decide +kernel
theorem dX10_isIn_6 : decode cX10_isIn 6 = .ok (.iload_n 2, 1) := by decide +kernel
theorem dX10_isIn_7 : decode cX10_isIn 7 = .ok (.if_icmp .gt 7, 3) := by decide +kernel
theorem dX10_isIn_10 : decode cX10_isIn 10 = .ok (.iconst 1, 1) := by decide +kernel
theorem dX10_isIn_11 : decode cX10_isIn 11 = .ok (.goto 4, 3) := by decide +kernel
theorem dX10_isIn_14 : decode cX10_isIn 14 = .ok (.iconst 0, 1) := by decide +kernel
theorem dX10_isIn_15 : decode cX10_isIn 15 = .ok (.ireturn, 1) := by decide +kernel
theorem dX10_isThere_0 : decode cX10_isThere 0 = .ok (.iload_n 1, 1) := by decide +kernel
theorem dX10_isThere_1 : decode cX10_isThere 1 = .ok (.iconst 0, 1) := by decide +kernel
theorem dX10_isThere_2 : decode cX10_isThere 2 = .ok (.aload_n 0, 1) := by decide +kernel
theorem dX10_isThere_3 : decode cX10_isThere 3 = .ok (.getfield 42, 3) := by decide +kernel
theorem dX10_isThere_6 : decode cX10_isThere 6 = .ok (.iconst 1, 1) := by decide +kernel
theorem dX10_isThere_7 : decode cX10_isThere 7 = .ok (.isub, 1) := by decide +kernel
theorem dX10_isThere_8 : decode cX10_isThere 8 = .ok (.invokestatic 45, 3) := by decide +kernel
theorem dX10_isThere_11 : decode cX10_isThere 11 = .ok (.ireturn, 1) := by decide +kernel
theorem dX10_rule_0 : decode cX10_rule 0 = .ok (.aload_n 0, 1) := by decide +kernel
theorem dX10_rule_1 : decode cX10_rule 1 = .ok (.getfield 35, 3) := by decide +kernel
theorem dX10_rule_4 : decode cX10_rule 4 = .ok (.aload_n 0, 1) := by decide +kernel
theorem dX10_rule_5 : decode cX10_rule 5 = .ok (.getfield 49, 3) := by decide +kernel
theorem dX10_rule_8 : decode cX10_rule 8 = .ok (.sipush 200, 3) := by decide +kernel
theorem dX10_rule_11 : decode cX10_rule 11 = .ok (.irem, 1) := by decide +kernel
theorem dX10_rule_12 : decode cX10_rule 12 = .ok (.bipush 10, 2) := by decide +kernel
theorem dX10_rule_14 : decode cX10_rule 14 = .ok (.iload_n 1, 1) := by decide +kernel
theorem dX10_rule_15 : decode cX10_rule 15 = .ok (.imul, 1) := by decide +kernel
theorem dX10_rule_16 : decode cX10_rule 16 = .ok (.iload_n 2, 1) := by decide +kernel
theorem dX10_rule_17 : decode cX10_rule 17 = .ok (.iadd, 1) := by decide +kernel
theorem dX10_rule_18 : decode cX10_rule 18 = .ok (.iastore, 1) := by decide +kernel
theorem dX10_rule_19 : decode cX10_rule 19 = .ok (.aload_n 0, 1) := by decide +kernel
theorem dX10_rule_20 : decode cX10_rule 20 = .ok (.dup, 1) := by decide +kernel
theorem dX10_rule_21 : decode cX10_rule 21 = .ok (.getfield 49, 3) := by decide +kernel
theorem dX10_rule_24 : decode cX10_rule 24 = .ok (.iconst 1, 1) := by decide +kernel
theorem dX10_rule_25 : decode cX10_rule 25 = .ok (.iadd, 1) := by decide +kernel
theorem dX10_rule_26 : decode cX10_rule 26 = .ok (.putfield 49, 3) := by decide +kernel
theorem dX10_rule_29 : decode cX10_rule 29 = .ok (.return_, 1) := by decide +kernel
theorem dX10_add_0 : decode cX10_add 0 = .ok (.aload_n 0, 1) := by decide +kernel
theorem dX10_add_1 : decode cX10_add 1 = .ok (.iconst 0, 1) := by decide +kernel
theorem dX10_add_2 : decode cX10_add 2 = .ok (.putfield 38, 3) := by decide +kernel
theorem dX10_add_5 : decode cX10_add 5 = .ok (.iload_n 1, 1) := by decide +kernel
theorem dX10_add_6 : decode cX10_add 6 = .ok (.iconst 0, 1) := by decide +kernel
theorem dX10_add_7 : decode cX10_add 7 = .ok (.bipush 7, 2) := by decide +kernel
theorem dX10_add_9 : decode cX10_add 9 = .ok (.invokestatic 45, 3) := by decide +kernel
theorem dX10_add_12 : decode cX10_add 12 = .ok (.ifCond .eq 36, 3) := by decide +kernel
theorem dX10_add_15 : decode cX10_add 15 = .ok (.iload_n 2, 1) := by decide +kernel
theorem dX10_add_16 : decode cX10_add 16 = .ok (.iconst 0, 1) := by decide +kernel
theorem dX10_add_17 : decode cX10_add 17 = .ok (.iconst 5, 1) := by decide +kernel
theorem dX10_add_18 : decode cX10_add 18 = .ok (.invokestatic 45, 3) := by decide +kernel
theorem dX10_add_21 : decode cX10_add 21 = .ok (.ifCond .eq 27, 3) := by decide +kernel
theorem dX10_add_24 : decode cX10_add 24 = .ok (.iload_n 3, 1) := by decide +kernel
theorem dX10_add_25 : decode cX10_add 25 = .ok (.sipush (-10000), 3) := by decide +kernel
theorem dX10_add_28 : decode cX10_add 28 = .ok (.sipush 10000, 3) := by decide +kernel
theorem dX10_add_31 : decode cX10_add 31 = .ok (.invokestatic 45, 3) := by decide +kernel
theorem dX10_add_34 : decode cX10_add 34 = .ok (.ifCond .eq 14, 3) := by decide +kernel
theorem dX10_add_37 : decode cX10_add 37 = .ok (.iload 4, 2) := by decide +kernel
theorem dX10_add_39 : decode cX10_add 39 = .ok (.iconst 0, 1) := by decide +kernel
theorem dX10_add_40 : decode cX10_add 40 = .ok (.bipush 100, 2) := by decide +kernel
theorem dX10_add_42 : decode cX10_add 42 = .ok (.invokestatic 45, 3) := by decide +kernel
theorem dX10_add_45 : decode cX10_add 45 = .ok (.ifCond .ne 6, 3) := by decide +kernel
theorem dX10_add_48 : decode cX10_add 48 = .ok (.bipush (-102), 2) := by decide +kernel
theorem dX10_add_50 : decode cX10_add 50 = .ok (.ireturn, 1) := by decide +kernel
theorem dX10_add_51 : decode cX10_add 51 = .ok (.aload_n 0, 1) := by decide +kernel
theorem dX10_add_52 : decode cX10_add 52 = .ok (.getfield 42, 3) := by decide +kernel
theorem dX10_add_55 : decode cX10_add 55 = .ok (.bipush 20, 2) := by decide +kernel
theorem dX10_add_57 : decode cX10_add 57 = .ok (.if_icmp .ne 6, 3) := by decide +kernel
theorem dX10_add_60 : decode cX10_add 60 = .ok (.bipush (-104), 2) := by decide +kernel
theorem dX10_add_62 : decode cX10_add 62 = .ok (.ireturn, 1) := by decide +kernel
theorem dX10_add_63 : decode cX10_add 63 = .ok (.aload_n 0, 1) := by decide +kernel
theorem dX10_add_64 : decode cX10_add 64 = .ok (.getfield 7, 3) := by decide +kernel
theorem dX10_add_67 : decode cX10_add 67 = .ok (.aload_n 0, 1) := by decide +kernel
theorem dX10_add_68 : decode cX10_add 68 = .ok (.getfield 42, 3) := by decide +kernel
theorem dX10_add_71 : decode cX10_add 71 = .ok (.iload_n 1, 1) := by decide +kernel
theorem dX10_add_72 : decode cX10_add 72 = .ok (.iastore, 1) := by decide +kernel
theorem dX10_add_73 : decode cX10_add 73 = .ok (.aload_n 0, 1) := by decide +kernel
theorem dX10_add_74 : decode cX10_add 74 = .ok (.getfield 13, 3) := by decide +kernel
theorem dX10_add_77 : decode cX10_add 77 = .ok (.aload_n 0, 1) := by decide +kernel
theorem dX10_add_78 : decode cX10_add 78 = .ok (.getfield 42, 3) := by decide +kernel
theorem dX10_add_81 : decode cX10_add 81 = .ok (.iload_n 2, 1) := by decide +kernel
theorem dX10_add_82 : decode cX10_add 82 = .ok (.iastore, 1) := by decide +kernel
theorem dX10_add_83 : decode cX10_add 83 = .ok (.aload_n 0, 1) := by decide +kernel
theorem dX10_add_84 : decode cX10_add 84 = .ok (.getfield 16, 3) := by decide +kernel
theorem dX10_add_87 : decode cX10_add 87 = .ok (.aload_n 0, 1) := by decide +kernel
theorem dX10_add_88 : decode cX10_add 88 = .ok (.getfield 42, 3) := by decide +kernel
theorem dX10_add_91 : decode cX10_add 91 = .ok (.iload_n 3, 1) := by decide +kernel
theorem dX10_add_92 : decode cX10_add 92 = .ok (.iastore, 1) := by decide +kernel
theorem dX10_add_93 : decode cX10_add 93 = .ok (.aload_n 0, 1) := by decide +kernel
theorem dX10_add_94 : decode cX10_add 94 = .ok (.getfield 19, 3) := by decide +kernel
theorem dX10_add_97 : decode cX10_add 97 = .ok (.aload_n 0, 1) := by decide +kernel
theorem dX10_add_98 : decode cX10_add 98 = .ok (.getfield 42, 3) := by decide +kernel
theorem dX10_add_101 : decode cX10_add 101 = .ok (.iload 4, 2) := by decide +kernel
theorem dX10_add_103 : decode cX10_add 103 = .ok (.iastore, 1) := by decide +kernel
theorem dX10_add_104 : decode cX10_add 104 = .ok (.aload_n 0, 1) := by decide +kernel
theorem dX10_add_105 : decode cX10_add 105 = .ok (.getfield 22, 3) := by decide +kernel
theorem dX10_add_108 : decode cX10_add 108 = .ok (.aload_n 0, 1) := by decide +kernel
theorem dX10_add_109 : decode cX10_add 109 = .ok (.getfield 42, 3) := by decide +kernel
theorem dX10_add_112 : decode cX10_add 112 = .ok (.iconst 0, 1) := by decide +kernel
theorem dX10_add_113 : decode cX10_add 113 = .ok (.iastore, 1) := by decide +kernel
theorem dX10_add_114 : decode cX10_add 114 = .ok (.aload_n 0, 1) := by decide +kernel
theorem dX10_add_115 : decode cX10_add 115 = .ok (.getfield 25, 3) := by decide +kernel
theorem dX10_add_118 : decode cX10_add 118 = .ok (.aload_n 0, 1) := by decide +kernel
theorem dX10_add_119 : decode cX10_add 119 = .ok (.getfield 42, 3) := by decide +kernel
theorem dX10_add_122 : decode cX10_add 122 = .ok (.iconst 0, 1) := by decide +kernel
theorem dX10_add_123 : decode cX10_add 123 = .ok (.iastore, 1) := by decide +kernel
theorem dX10_add_124 : decode cX10_add 124 = .ok (.aload_n 0, 1) := by decide +kernel
theorem dX10_add_125 : decode cX10_add 125 = .ok (.getfield 28, 3) := by decide +kernel
theorem dX10_add_128 : decode cX10_add 128 = .ok (.aload_n 0, 1) := by decide +kernel
theorem dX10_add_129 : decode cX10_add 129 = .ok (.getfield 42, 3) := by decide +kernel
theorem dX10_add_132 : decode cX10_add 132 = .ok (.iconst 0, 1) := by decide +kernel
theorem dX10_add_133 : decode cX10_add 133 = .ok (.iastore, 1) := by decide +kernel
theorem dX10_add_134 : decode cX10_add 134 = .ok (.aload_n 0, 1) := by decide +kernel
theorem dX10_add_135 : decode cX10_add 135 = .ok (.getfield 31, 3) := by decide +kernel
theorem dX10_add_138 : decode cX10_add 138 = .ok (.aload_n 0, 1) := by decide +kernel
theorem dX10_add_139 : decode cX10_add 139 = .ok (.getfield 42, 3) := by decide +kernel
theorem dX10_add_142 : decode cX10_add 142 = .ok (.iconst 0, 1) := by decide +kernel
theorem dX10_add_143 : decode cX10_add 143 = .ok (.bastore, 1) := by decide +kernel
theorem dX10_add_144 : decode cX10_add 144 = .ok (.aload_n 0, 1) := by decide +kernel
theorem dX10_add_145 : decode cX10_add 145 = .ok (.dup, 1) := by decide +kernel
theorem dX10_add_146 : decode cX10_add 146 = .ok (.getfield 42, 3) := by decide +kernel
theorem dX10_add_149 : decode cX10_add 149 = .ok (.iconst 1, 1) := by decide +kernel
theorem dX10_add_150 : decode cX10_add 150 = .ok (.iadd, 1) := by decide +kernel
theorem dX10_add_151 : decode cX10_add 151 = .ok (.putfield 42, 3) := by decide +kernel
theorem dX10_add_154 : decode cX10_add 154 = .ok (.aload_n 0, 1) := by decide +kernel
theorem dX10_add_155 : decode cX10_add 155 = .ok (.getfield 42, 3) := by decide +kernel
theorem dX10_add_158 : decode cX10_add 158 = .ok (.iconst 1, 1) := by decide +kernel
theorem dX10_add_159 : decode cX10_add 159 = .ok (.isub, 1) := by decide +kernel
theorem dX10_add_160 : decode cX10_add 160 = .ok (.ireturn, 1) := by decide +kernel
theorem dX10_flat_0 : decode cX10_flat 0 = .ok (.aload_n 0, 1) := by decide +kernel
theorem dX10_flat_1 : decode cX10_flat 1 = .ok (.iconst 1, 1) := by decide +kernel
theorem dX10_flat_2 : decode cX10_flat 2 = .ok (.putfield 52, 3) := by decide +kernel
theorem dX10_flat_5 : decode cX10_flat 5 = .ok (.aload_n 0, 1) := by decide +kernel
theorem dX10_flat_6 : decode cX10_flat 6 = .ok (.dup, 1) := by decide +kernel
theorem dX10_flat_7 : decode cX10_flat 7 = .ok (.getfield 55, 3) := by decide +kernel
theorem dX10_flat_10 : decode cX10_flat 10 = .ok (.iconst 1, 1) := by decide +kernel
theorem dX10_flat_11 : decode cX10_flat 11 = .ok (.iadd, 1) := by decide +kernel
theorem dX10_flat_12 : decode cX10_flat 12 = .ok (.putfield 55, 3) := by decide +kernel
theorem dX10_flat_15 : decode cX10_flat 15 = .ok (.return_, 1) := by decide +kernel
theorem dX10_radio_0 : decode cX10_radio 0 = .ok (.aload_n 0, 1) := by decide +kernel
theorem dX10_radio_1 : decode cX10_radio 1 = .ok (.iconst 0, 1) := by decide +kernel
theorem dX10_radio_2 : decode cX10_radio 2 = .ok (.iconst 2, 1) := by decide +kernel
theorem dX10_radio_3 : decode cX10_radio 3 = .ok (.invokevirtual 58, 3) := by decide +kernel
theorem dX10_radio_6 : decode cX10_radio 6 = .ok (.aload_n 0, 1) := by decide +kernel
theorem dX10_radio_7 : decode cX10_radio 7 = .ok (.getfield 19, 3) := by decide +kernel
theorem dX10_radio_10 : decode cX10_radio 10 = .ok (.iload_n 1, 1) := by decide +kernel
theorem dX10_radio_11 : decode cX10_radio 11 = .ok (.iaload, 1) := by decide +kernel
theorem dX10_radio_12 : decode cX10_radio 12 = .ok (.ifCond .ne 9, 3) := by decide +kernel
theorem dX10_radio_15 : decode cX10_radio 15 = .ok (.aload_n 0, 1) := by decide +kernel
theorem dX10_radio_16 : decode cX10_radio 16 = .ok (.invokevirtual 62, 3) := by decide +kernel
theorem dX10_radio_19 : decode cX10_radio 19 = .ok (.iconst 0, 1) := by decide +kernel
theorem dX10_radio_20 : decode cX10_radio 20 = .ok (.ireturn, 1) := by decide +kernel
theorem dX10_radio_21 : decode cX10_radio 21 = .ok (.aload_n 0, 1) := by decide +kernel
theorem dX10_radio_22 : decode cX10_radio 22 = .ok (.getfield 19, 3) := by decide +kernel
theorem dX10_radio_25 : decode cX10_radio 25 = .ok (.iload_n 1, 1) := by decide +kernel
theorem dX10_radio_26 : decode cX10_radio 26 = .ok (.dup2, 1) := by decide +kernel
theorem dX10_radio_27 : decode cX10_radio 27 = .ok (.iaload, 1) := by decide +kernel
theorem dX10_radio_28 : decode cX10_radio 28 = .ok (.iconst 1, 1) := by decide +kernel
theorem dX10_radio_29 : decode cX10_radio 29 = .ok (.isub, 1) := by decide +kernel
theorem dX10_radio_30 : decode cX10_radio 30 = .ok (.iastore, 1) := by decide +kernel
theorem dX10_radio_31 : decode cX10_radio 31 = .ok (.iconst 1, 1) := by decide +kernel
theorem dX10_radio_32 : decode cX10_radio 32 = .ok (.ireturn, 1) := by decide +kernel
theorem dX10_weighed_0 : decode cX10_weighed 0 = .ok (.aload_n 0, 1) := by decide +kernel
theorem dX10_weighed_1 : decode cX10_weighed 1 = .ok (.getfield 7, 3) := by decide +kernel
theorem dX10_weighed_4 : decode cX10_weighed 4 = .ok (.iload_n 1, 1) := by decide +kernel
theorem dX10_weighed_5 : decode cX10_weighed 5 = .ok (.iaload, 1) := by decide +kernel
theorem dX10_weighed_6 : decode cX10_weighed 6 = .ok (.istore_n 3, 1) := by decide +kernel
theorem dX10_weighed_7 : decode cX10_weighed 7 = .ok (.aload_n 0, 1) := by decide +kernel
theorem dX10_weighed_8 : decode cX10_weighed 8 = .ok (.iconst 0, 1) := by decide +kernel
theorem dX10_weighed_9 : decode cX10_weighed 9 = .ok (.putfield 52, 3) := by decide +kernel
theorem dX10_weighed_12 : decode cX10_weighed 12 = .ok (.iload_n 3, 1) := by decide +kernel
theorem dX10_weighed_13 : decode cX10_weighed 13 = .ok (.iconst 5, 1) := by decide +kernel
theorem dX10_weighed_14 : decode cX10_weighed 14 = .ok (.if_icmp .ne 9, 3) := by decide +kernel
theorem dX10_weighed_17 : decode cX10_weighed 17 = .ok (.aload_n 0, 1) := by decide +kernel
theorem dX10_weighed_18 : decode cX10_weighed 18 = .ok (.iconst 0, 1) := by decide +kernel
theorem dX10_weighed_19 : decode cX10_weighed 19 = .ok (.iconst 5, 1) := by decide +kernel
theorem dX10_weighed_20 : decode cX10_weighed 20 = .ok (.invokevirtual 58, 3) := by decide +kernel
theorem dX10_weighed_23 : decode cX10_weighed 23 = .ok (.iload_n 3, 1) := by decide +kernel
theorem dX10_weighed_24 : decode cX10_weighed 24 = .ok (.iconst 2, 1) := by decide +kernel
theorem dX10_weighed_25 : decode cX10_weighed 25 = .ok (.if_icmp .eq 13, 3) := by decide +kernel
theorem dX10_weighed_28 : decode cX10_weighed 28 = .ok (.iload_n 3, 1) := by decide +kernel
theorem dX10_weighed_29 : decode cX10_weighed 29 = .ok (.iconst 4, 1) := by decide +kernel
theorem dX10_weighed_30 : decode cX10_weighed 30 = .ok (.if_icmp .eq 8, 3) := by decide +kernel
theorem dX10_weighed_33 : decode cX10_weighed 33 = .ok (.iload_n 3, 1) := by decide +kernel
theorem dX10_weighed_34 : decode cX10_weighed 34 = .ok (.iconst 5, 1) := by decide +kernel
theorem dX10_weighed_35 : decode cX10_weighed 35 = .ok (.if_icmp .ne 13, 3) := by decide +kernel
theorem dX10_weighed_38 : decode cX10_weighed 38 = .ok (.aload_n 0, 1) := by decide +kernel
theorem dX10_weighed_39 : decode cX10_weighed 39 = .ok (.iload_n 1, 1) := by decide +kernel
theorem dX10_weighed_40 : decode cX10_weighed 40 = .ok (.invokevirtual 65, 3) := by decide +kernel
theorem dX10_weighed_43 : decode cX10_weighed 43 = .ok (.ifCond .ne 5, 3) := by decide +kernel
theorem dX10_weighed_46 : decode cX10_weighed 46 = .ok (.iconst 0, 1) := by decide +kernel
theorem dX10_weighed_47 : decode cX10_weighed 47 = .ok (.ireturn, 1) := by decide +kernel
theorem dX10_weighed_48 : decode cX10_weighed 48 = .ok (.iload_n 3, 1) := by decide +kernel
theorem dX10_weighed_49 : decode cX10_weighed 49 = .ok (.iconst 3, 1) := by decide +kernel
theorem dX10_weighed_50 : decode cX10_weighed 50 = .ok (.if_icmp .eq 9, 3) := by decide +kernel
theorem dX10_weighed_53 : decode cX10_weighed 53 = .ok (.iload_n 3, 1) := by decide +kernel
theorem dX10_weighed_54 : decode cX10_weighed 54 = .ok (.bipush 7, 2) := by decide +kernel
theorem dX10_weighed_56 : decode cX10_weighed 56 = .ok (.if_icmp .ne 9, 3) := by decide +kernel
theorem dX10_weighed_59 : decode cX10_weighed 59 = .ok (.aload_n 0, 1) := by decide +kernel
theorem dX10_weighed_60 : decode cX10_weighed 60 = .ok (.iconst 0, 1) := by decide +kernel
theorem dX10_weighed_61 : decode cX10_weighed 61 = .ok (.iconst 3, 1) := by decide +kernel
theorem dX10_weighed_62 : decode cX10_weighed 62 = .ok (.invokevirtual 58, 3) := by decide +kernel
theorem dX10_weighed_65 : decode cX10_weighed 65 = .ok (.aload_n 0, 1) := by decide +kernel
theorem dX10_weighed_66 : decode cX10_weighed 66 = .ok (.iconst 0, 1) := by decide +kernel
theorem dX10_weighed_67 : decode cX10_weighed 67 = .ok (.iconst 0, 1) := by decide +kernel
theorem dX10_weighed_68 : decode cX10_weighed 68 = .ok (.invokevirtual 58, 3) := by decide +kernel
theorem dX10_weighed_71 : decode cX10_weighed 71 = .ok (.iload_n 3, 1) := by decide +kernel
theorem dX10_weighed_72 : decode cX10_weighed 72 = .ok (.iconst 3, 1) := by decide +kernel
theorem dX10_weighed_73 : decode cX10_weighed 73 = .ok (.if_icmp .eq 9, 3) := by decide +kernel
theorem dX10_weighed_76 : decode cX10_weighed 76 = .ok (.iload_n 3, 1) := by decide +kernel
theorem dX10_weighed_77 : decode cX10_weighed 77 = .ok (.bipush 7, 2) := by decide +kernel
theorem dX10_weighed_79 : decode cX10_weighed 79 = .ok (.if_icmp .ne 12, 3) := by decide +kernel
theorem dX10_weighed_82 : decode cX10_weighed 82 = .ok (.iload_n 2, 1) := by decide +kernel
theorem dX10_weighed_83 : decode cX10_weighed 83 = .ok (.aload_n 0, 1) := by decide +kernel
theorem dX10_weighed_84 : decode cX10_weighed 84 = .ok (.getfield 28, 3) := by decide +kernel
theorem dX10_weighed_87 : decode cX10_weighed 87 = .ok (.iload_n 1, 1) := by decide +kernel
theorem dX10_weighed_88 : decode cX10_weighed 88 = .ok (.iaload, 1) := by decide +kernel
theorem dX10_weighed_89 : decode cX10_weighed 89 = .ok (.isub, 1) := by decide +kernel
theorem dX10_weighed_90 : decode cX10_weighed 90 = .ok (.ireturn, 1) := by decide +kernel
theorem dX10_weighed_91 : decode cX10_weighed 91 = .ok (.iload_n 3, 1) := by decide +kernel
theorem dX10_weighed_92 : decode cX10_weighed 92 = .ok (.iconst 5, 1) := by decide +kernel
theorem dX10_weighed_93 : decode cX10_weighed 93 = .ok (.if_icmp .eq 5, 3) := by decide +kernel
theorem dX10_weighed_96 : decode cX10_weighed 96 = .ok (.iload_n 2, 1) := by decide +kernel
theorem dX10_weighed_97 : decode cX10_weighed 97 = .ok (.ireturn, 1) := by decide +kernel
theorem dX10_weighed_98 : decode cX10_weighed 98 = .ok (.iload_n 2, 1) := by decide +kernel
theorem dX10_weighed_99 : decode cX10_weighed 99 = .ok (.ifCond .ne 20, 3) := by decide +kernel
theorem dX10_weighed_102 : decode cX10_weighed 102 = .ok (.aload_n 0, 1) := by decide +kernel
theorem dX10_weighed_103 : decode cX10_weighed 103 = .ok (.iconst 2, 1) := by decide +kernel
theorem dX10_weighed_104 : decode cX10_weighed 104 = .ok (.putfield 52, 3) := by decide +kernel
theorem dX10_weighed_107 : decode cX10_weighed 107 = .ok (.aload_n 0, 1) := by decide +kernel
theorem dX10_weighed_108 : decode cX10_weighed 108 = .ok (.dup, 1) := by decide +kernel
theorem dX10_weighed_109 : decode cX10_weighed 109 = .ok (.getfield 69, 3) := by decide +kernel
theorem dX10_weighed_112 : decode cX10_weighed 112 = .ok (.iconst 1, 1) := by decide +kernel
theorem dX10_weighed_113 : decode cX10_weighed 113 = .ok (.iadd, 1) := by decide +kernel
theorem dX10_weighed_114 : decode cX10_weighed 114 = .ok (.putfield 69, 3) := by decide +kernel
theorem dX10_weighed_117 : decode cX10_weighed 117 = .ok (.iconst 0, 1) := by decide +kernel
theorem dX10_weighed_118 : decode cX10_weighed 118 = .ok (.ireturn, 1) := by decide +kernel
theorem dX10_weighed_119 : decode cX10_weighed 119 = .ok (.sipush 1000, 3) := by decide +kernel
theorem dX10_weighed_122 : decode cX10_weighed 122 = .ok (.iload_n 2, 1) := by decide +kernel
theorem dX10_weighed_123 : decode cX10_weighed 123 = .ok (.idiv, 1) := by decide +kernel
theorem dX10_weighed_124 : decode cX10_weighed 124 = .ok (.ireturn, 1) := by decide +kernel
theorem dX10_readPlain_0 : decode cX10_readPlain 0 = .ok (.aload_n 0, 1) := by decide +kernel
theorem dX10_readPlain_1 : decode cX10_readPlain 1 = .ok (.iconst 1, 1) := by decide +kernel
theorem dX10_readPlain_2 : decode cX10_readPlain 2 = .ok (.iconst 0, 1) := by decide +kernel
theorem dX10_readPlain_3 : decode cX10_readPlain 3 = .ok (.invokevirtual 58, 3) := by decide +kernel
theorem dX10_readPlain_6 : decode cX10_readPlain 6 = .ok (.aload_n 0, 1) := by decide +kernel
theorem dX10_readPlain_7 : decode cX10_readPlain 7 = .ok (.iload_n 1, 1) := by decide +kernel
theorem dX10_readPlain_8 : decode cX10_readPlain 8 = .ok (.iload_n 2, 1) := by decide +kernel
theorem dX10_readPlain_9 : decode cX10_readPlain 9 = .ok (.invokevirtual 72, 3) := by decide +kernel
theorem dX10_readPlain_12 : decode cX10_readPlain 12 = .ok (.istore_n 3, 1) := by decide +kernel
theorem dX10_readPlain_13 : decode cX10_readPlain 13 = .ok (.aload_n 0, 1) := by decide +kernel
theorem dX10_readPlain_14 : decode cX10_readPlain 14 = .ok (.getfield 52, 3) := by decide +kernel
theorem dX10_readPlain_17 : decode cX10_readPlain 17 = .ok (.ifCond .ne 31, 3) := by decide +kernel
theorem dX10_readPlain_20 : decode cX10_readPlain 20 = .ok (.aload_n 0, 1) := by decide +kernel
theorem dX10_readPlain_21 : decode cX10_readPlain 21 = .ok (.getfield 22, 3) := by decide +kernel
theorem dX10_readPlain_24 : decode cX10_readPlain 24 = .ok (.iload_n 1, 1) := by decide +kernel
theorem dX10_readPlain_25 : decode cX10_readPlain 25 = .ok (.iconst 3, 1) := by decide +kernel
theorem dX10_readPlain_26 : decode cX10_readPlain 26 = .ok (.aload_n 0, 1) := by decide +kernel
theorem dX10_readPlain_27 : decode cX10_readPlain 27 = .ok (.getfield 22, 3) := by decide +kernel
theorem dX10_readPlain_30 : decode cX10_readPlain 30 = .ok (.iload_n 1, 1) := by decide +kernel
theorem dX10_readPlain_31 : decode cX10_readPlain 31 = .ok (.iaload, 1) := by decide +kernel
theorem dX10_readPlain_32 : decode cX10_readPlain 32 = .ok (.imul, 1) := by decide +kernel
theorem dX10_readPlain_33 : decode cX10_readPlain 33 = .ok (.iload_n 3, 1) := by decide +kernel
theorem dX10_readPlain_34 : decode cX10_readPlain 34 = .ok (.iadd, 1) := by decide +kernel
theorem dX10_readPlain_35 : decode cX10_readPlain 35 = .ok (.iconst 4, 1) := by decide +kernel
theorem dX10_readPlain_36 : decode cX10_readPlain 36 = .ok (.idiv, 1) := by decide +kernel
theorem dX10_readPlain_37 : decode cX10_readPlain 37 = .ok (.iastore, 1) := by decide +kernel
theorem dX10_readPlain_38 : decode cX10_readPlain 38 = .ok (.aload_n 0, 1) := by decide +kernel
theorem dX10_readPlain_39 : decode cX10_readPlain 39 = .ok (.getfield 25, 3) := by decide +kernel
theorem dX10_readPlain_42 : decode cX10_readPlain 42 = .ok (.iload_n 1, 1) := by decide +kernel
theorem dX10_readPlain_43 : decode cX10_readPlain 43 = .ok (.dup2, 1) := by decide +kernel
theorem dX10_readPlain_44 : decode cX10_readPlain 44 = .ok (.iaload, 1) := by decide +kernel
theorem dX10_readPlain_45 : decode cX10_readPlain 45 = .ok (.iconst 1, 1) := by decide +kernel
theorem dX10_readPlain_46 : decode cX10_readPlain 46 = .ok (.iadd, 1) := by decide +kernel
theorem dX10_readPlain_47 : decode cX10_readPlain 47 = .ok (.iastore, 1) := by decide +kernel
theorem dX10_readPlain_48 : decode cX10_readPlain 48 = .ok (.return_, 1) := by decide +kernel
theorem dX10_readSmoke_0 : decode cX10_readSmoke 0 = .ok (.aload_n 0, 1) := by decide +kernel
theorem dX10_readSmoke_1 : decode cX10_readSmoke 1 = .ok (.iconst 1, 1) := by decide +kernel
theorem dX10_readSmoke_2 : decode cX10_readSmoke 2 = .ok (.iconst 3, 1) := by decide +kernel
theorem dX10_readSmoke_3 : decode cX10_readSmoke 3 = .ok (.invokevirtual 58, 3) := by decide +kernel
theorem dX10_readSmoke_6 : decode cX10_readSmoke 6 = .ok (.aload_n 0, 1) := by decide +kernel
theorem dX10_readSmoke_7 : decode cX10_readSmoke 7 = .ok (.iload_n 1, 1) := by decide +kernel
theorem dX10_readSmoke_8 : decode cX10_readSmoke 8 = .ok (.iload_n 2, 1) := by decide +kernel
theorem dX10_readSmoke_9 : decode cX10_readSmoke 9 = .ok (.invokevirtual 76, 3) := by decide +kernel
theorem dX10_readSmoke_12 : decode cX10_readSmoke 12 = .ok (.aload_n 0, 1) := by decide +kernel
theorem dX10_readSmoke_13 : decode cX10_readSmoke 13 = .ok (.getfield 52, 3) := by decide +kernel
theorem dX10_readSmoke_16 : decode cX10_readSmoke 16 = .ok (.ifCond .ne 51, 3) := by decide +kernel
theorem dX10_readSmoke_19 : decode cX10_readSmoke 19 = .ok (.aload_n 0, 1) := by decide +kernel
theorem dX10_readSmoke_20 : decode cX10_readSmoke 20 = .ok (.getfield 28, 3) := by decide +kernel
theorem dX10_readSmoke_23 : decode cX10_readSmoke 23 = .ok (.iload_n 1, 1) := by decide +kernel
theorem dX10_readSmoke_24 : decode cX10_readSmoke 24 = .ok (.dup2, 1) := by decide +kernel
theorem dX10_readSmoke_25 : decode cX10_readSmoke 25 = .ok (.iaload, 1) := by decide +kernel
theorem dX10_readSmoke_26 : decode cX10_readSmoke 26 = .ok (.aload_n 0, 1) := by decide +kernel
theorem dX10_readSmoke_27 : decode cX10_readSmoke 27 = .ok (.getfield 22, 3) := by decide +kernel
theorem dX10_readSmoke_30 : decode cX10_readSmoke 30 = .ok (.iload_n 1, 1) := by decide +kernel
theorem dX10_readSmoke_31 : decode cX10_readSmoke 31 = .ok (.iaload, 1) := by decide +kernel
theorem dX10_readSmoke_32 : decode cX10_readSmoke 32 = .ok (.aload_n 0, 1) := by decide +kernel
theorem dX10_readSmoke_33 : decode cX10_readSmoke 33 = .ok (.getfield 28, 3) := by decide +kernel
theorem dX10_readSmoke_36 : decode cX10_readSmoke 36 = .ok (.iload_n 1, 1) := by decide +kernel
theorem dX10_readSmoke_37 : decode cX10_readSmoke 37 = .ok (.iaload, 1) := by decide +kernel
theorem dX10_readSmoke_38 : decode cX10_readSmoke 38 = .ok (.if_icmp .le 7, 3) := by decide +kernel
theorem dX10_readSmoke_41 : decode cX10_readSmoke 41 = .ok (.iconst 1, 1) := by decide +kernel
theorem dX10_readSmoke_42 : decode cX10_readSmoke 42 = .ok (.goto 23, 3) := by decide +kernel
theorem dX10_readSmoke_45 : decode cX10_readSmoke 45 = .ok (.aload_n 0, 1) := by decide +kernel
theorem dX10_readSmoke_46 : decode cX10_readSmoke 46 = .ok (.getfield 22, 3) := by decide +kernel
theorem dX10_readSmoke_49 : decode cX10_readSmoke 49 = .ok (.iload_n 1, 1) := by decide +kernel
theorem dX10_readSmoke_50 : decode cX10_readSmoke 50 = .ok (.iaload, 1) := by decide +kernel
theorem dX10_readSmoke_51 : decode cX10_readSmoke 51 = .ok (.aload_n 0, 1) := by decide +kernel
theorem dX10_readSmoke_52 : decode cX10_readSmoke 52 = .ok (.getfield 28, 3) := by decide +kernel
theorem dX10_readSmoke_55 : decode cX10_readSmoke 55 = .ok (.iload_n 1, 1) := by decide +kernel
theorem dX10_readSmoke_56 : decode cX10_readSmoke 56 = .ok (.iaload, 1) := by decide +kernel
theorem dX10_readSmoke_57 : decode cX10_readSmoke 57 = .ok (.if_icmp .ge 7, 3) := by decide +kernel
theorem dX10_readSmoke_60 : decode cX10_readSmoke 60 = .ok (.iconst (-1), 1) := by decide +kernel
theorem dX10_readSmoke_61 : decode cX10_readSmoke 61 = .ok (.goto 4, 3) := by decide +kernel
theorem dX10_readSmoke_64 : decode cX10_readSmoke 64 = .ok (.iconst 0, 1) := by decide +kernel
theorem dX10_readSmoke_65 : decode cX10_readSmoke 65 = .ok (.iadd, 1) := by decide +kernel
theorem dX10_readSmoke_66 : decode cX10_readSmoke 66 = .ok (.iastore, 1) := by decide +kernel
theorem dX10_readSmoke_67 : decode cX10_readSmoke 67 = .ok (.return_, 1) := by decide +kernel
theorem dX10_readOf_0 : decode cX10_readOf 0 = .ok (.aload_n 0, 1) := by decide +kernel
theorem dX10_readOf_1 : decode cX10_readOf 1 = .ok (.getfield 7, 3) := by decide +kernel
theorem dX10_readOf_4 : decode cX10_readOf 4 = .ok (.iload_n 1, 1) := by decide +kernel
theorem dX10_readOf_5 : decode cX10_readOf 5 = .ok (.iaload, 1) := by decide +kernel
theorem dX10_readOf_6 : decode cX10_readOf 6 = .ok (.tableswitch 111 3 7 #[34, 43, 111, 111, 81], 34) := by decide +kernel
theorem dX10_readOf_40 : decode cX10_readOf 40 = .ok (.aload_n 0, 1) := by decide +kernel
theorem dX10_readOf_41 : decode cX10_readOf 41 = .ok (.iload_n 1, 1) := by decide +kernel
theorem dX10_readOf_42 : decode cX10_readOf 42 = .ok (.iload_n 2, 1) := by decide +kernel
theorem dX10_readOf_43 : decode cX10_readOf 43 = .ok (.invokevirtual 79, 3) := by decide +kernel
theorem dX10_readOf_46 : decode cX10_readOf 46 = .ok (.goto 77, 3) := by decide +kernel
theorem dX10_readOf_49 : decode cX10_readOf 49 = .ok (.aload_n 0, 1) := by decide +kernel
theorem dX10_readOf_50 : decode cX10_readOf 50 = .ok (.iconst 1, 1) := by decide +kernel
theorem dX10_readOf_51 : decode cX10_readOf 51 = .ok (.iconst 4, 1) := by decide +kernel
theorem dX10_readOf_52 : decode cX10_readOf 52 = .ok (.invokevirtual 58, 3) := by decide +kernel
theorem dX10_readOf_55 : decode cX10_readOf 55 = .ok (.aload_n 0, 1) := by decide +kernel
theorem dX10_readOf_56 : decode cX10_readOf 56 = .ok (.iload_n 1, 1) := by decide +kernel
theorem dX10_readOf_57 : decode cX10_readOf 57 = .ok (.iload_n 2, 1) := by decide +kernel
theorem dX10_readOf_58 : decode cX10_readOf 58 = .ok (.invokevirtual 76, 3) := by decide +kernel
theorem dX10_readOf_61 : decode cX10_readOf 61 = .ok (.aload_n 0, 1) := by decide +kernel
theorem dX10_readOf_62 : decode cX10_readOf 62 = .ok (.getfield 52, 3) := by decide +kernel
theorem dX10_readOf_65 : decode cX10_readOf 65 = .ok (.ifCond .ne 58, 3) := by decide +kernel
theorem dX10_readOf_68 : decode cX10_readOf 68 = .ok (.iload_n 2, 1) := by decide +kernel
theorem dX10_readOf_69 : decode cX10_readOf 69 = .ok (.aload_n 0, 1) := by decide +kernel
theorem dX10_readOf_70 : decode cX10_readOf 70 = .ok (.getfield 22, 3) := by decide +kernel
theorem dX10_readOf_73 : decode cX10_readOf 73 = .ok (.iload_n 1, 1) := by decide +kernel
theorem dX10_readOf_74 : decode cX10_readOf 74 = .ok (.iaload, 1) := by decide +kernel
theorem dX10_readOf_75 : decode cX10_readOf 75 = .ok (.if_icmp .le 48, 3) := by decide +kernel
theorem dX10_readOf_78 : decode cX10_readOf 78 = .ok (.aload_n 0, 1) := by decide +kernel
theorem dX10_readOf_79 : decode cX10_readOf 79 = .ok (.iload_n 1, 1) := by decide +kernel
theorem dX10_readOf_80 : decode cX10_readOf 80 = .ok (.iload_n 2, 1) := by decide +kernel
theorem dX10_readOf_81 : decode cX10_readOf 81 = .ok (.invokevirtual 76, 3) := by decide +kernel
theorem dX10_readOf_84 : decode cX10_readOf 84 = .ok (.goto 39, 3) := by decide +kernel
theorem dX10_readOf_87 : decode cX10_readOf 87 = .ok (.aload_n 0, 1) := by decide +kernel
theorem dX10_readOf_88 : decode cX10_readOf 88 = .ok (.iconst 1, 1) := by decide +kernel
theorem dX10_readOf_89 : decode cX10_readOf 89 = .ok (.bipush 7, 2) := by decide +kernel
theorem dX10_readOf_91 : decode cX10_readOf 91 = .ok (.invokevirtual 58, 3) := by decide +kernel
theorem dX10_readOf_94 : decode cX10_readOf 94 = .ok (.aload_n 0, 1) := by decide +kernel
theorem dX10_readOf_95 : decode cX10_readOf 95 = .ok (.iload_n 1, 1) := by decide +kernel
theorem dX10_readOf_96 : decode cX10_readOf 96 = .ok (.iload_n 2, 1) := by decide +kernel
theorem dX10_readOf_97 : decode cX10_readOf 97 = .ok (.invokevirtual 79, 3) := by decide +kernel
theorem dX10_readOf_100 : decode cX10_readOf 100 = .ok (.aload_n 0, 1) := by decide +kernel
theorem dX10_readOf_101 : decode cX10_readOf 101 = .ok (.getfield 52, 3) := by decide +kernel
theorem dX10_readOf_104 : decode cX10_readOf 104 = .ok (.ifCond .ne 19, 3) := by decide +kernel
theorem dX10_readOf_107 : decode cX10_readOf 107 = .ok (.aload_n 0, 1) := by decide +kernel
theorem dX10_readOf_108 : decode cX10_readOf 108 = .ok (.iload_n 1, 1) := by decide +kernel
theorem dX10_readOf_109 : decode cX10_readOf 109 = .ok (.iload_n 2, 1) := by decide +kernel
theorem dX10_readOf_110 : decode cX10_readOf 110 = .ok (.ineg, 1) := by decide +kernel
theorem dX10_readOf_111 : decode cX10_readOf 111 = .ok (.invokevirtual 79, 3) := by decide +kernel
theorem dX10_readOf_114 : decode cX10_readOf 114 = .ok (.goto 9, 3) := by decide +kernel
theorem dX10_readOf_117 : decode cX10_readOf 117 = .ok (.aload_n 0, 1) := by decide +kernel
theorem dX10_readOf_118 : decode cX10_readOf 118 = .ok (.iload_n 1, 1) := by decide +kernel
theorem dX10_readOf_119 : decode cX10_readOf 119 = .ok (.iload_n 2, 1) := by decide +kernel
theorem dX10_readOf_120 : decode cX10_readOf 120 = .ok (.invokevirtual 76, 3) := by decide +kernel
theorem dX10_readOf_123 : decode cX10_readOf 123 = .ok (.return_, 1) := by decide +kernel
theorem dX10_refused_0 : decode cX10_refused 0 = .ok (.aload_n 0, 1) := by decide +kernel
theorem dX10_refused_1 : decode cX10_refused 1 = .ok (.iload_n 1, 1) := by decide +kernel
theorem dX10_refused_2 : decode cX10_refused 2 = .ok (.invokevirtual 82, 3) := by decide +kernel
theorem dX10_refused_5 : decode cX10_refused 5 = .ok (.ifCond .ne 8, 3) := by decide +kernel
theorem dX10_refused_8 : decode cX10_refused 8 = .ok (.bipush (-101), 2) := by decide +kernel
theorem dX10_refused_10 : decode cX10_refused 10 = .ok (.goto 22, 3) := by decide +kernel
theorem dX10_refused_13 : decode cX10_refused 13 = .ok (.iload_n 2, 1) := by decide +kernel
theorem dX10_refused_14 : decode cX10_refused 14 = .ok (.sipush (-10000), 3) := by decide +kernel
theorem dX10_refused_17 : decode cX10_refused 17 = .ok (.sipush 10000, 3) := by decide +kernel
theorem dX10_refused_20 : decode cX10_refused 20 = .ok (.invokestatic 45, 3) := by decide +kernel
theorem dX10_refused_23 : decode cX10_refused 23 = .ok (.ifCond .ne 8, 3) := by decide +kernel
theorem dX10_refused_26 : decode cX10_refused 26 = .ok (.bipush (-102), 2) := by decide +kernel
theorem dX10_refused_28 : decode cX10_refused 28 = .ok (.goto 4, 3) := by decide +kernel
theorem dX10_refused_31 : decode cX10_refused 31 = .ok (.iconst 0, 1) := by decide +kernel
theorem dX10_refused_32 : decode cX10_refused 32 = .ok (.ireturn, 1) := by decide +kernel
theorem dX10_read_0 : decode cX10_read 0 = .ok (.aload_n 0, 1) := by decide +kernel
theorem dX10_read_1 : decode cX10_read 1 = .ok (.iconst 0, 1) := by decide +kernel
theorem dX10_read_2 : decode cX10_read 2 = .ok (.putfield 38, 3) := by decide +kernel
theorem dX10_read_5 : decode cX10_read 5 = .ok (.aload_n 0, 1) := by decide +kernel
theorem dX10_read_6 : decode cX10_read 6 = .ok (.iload_n 1, 1) := by decide +kernel
theorem dX10_read_7 : decode cX10_read 7 = .ok (.iload_n 2, 1) := by decide +kernel
theorem dX10_read_8 : decode cX10_read 8 = .ok (.invokevirtual 85, 3) := by decide +kernel
theorem dX10_read_11 : decode cX10_read 11 = .ok (.istore_n 3, 1) := by decide +kernel
theorem dX10_read_12 : decode cX10_read 12 = .ok (.iload_n 3, 1) := by decide +kernel
theorem dX10_read_13 : decode cX10_read 13 = .ok (.ifCond .ge 5, 3) := by decide +kernel
theorem dX10_read_16 : decode cX10_read 16 = .ok (.iload_n 3, 1) := by decide +kernel
theorem dX10_read_17 : decode cX10_read 17 = .ok (.ireturn, 1) := by decide +kernel
theorem dX10_read_18 : decode cX10_read 18 = .ok (.aload_n 0, 1) := by decide +kernel
theorem dX10_read_19 : decode cX10_read 19 = .ok (.iload_n 1, 1) := by decide +kernel
theorem dX10_read_20 : decode cX10_read 20 = .ok (.iload_n 2, 1) := by decide +kernel
theorem dX10_read_21 : decode cX10_read 21 = .ok (.invokevirtual 88, 3) := by decide +kernel
theorem dX10_read_24 : decode cX10_read 24 = .ok (.aload_n 0, 1) := by decide +kernel
theorem dX10_read_25 : decode cX10_read 25 = .ok (.aload_n 0, 1) := by decide +kernel
theorem dX10_read_26 : decode cX10_read 26 = .ok (.getfield 52, 3) := by decide +kernel
theorem dX10_read_29 : decode cX10_read 29 = .ok (.putfield 38, 3) := by decide +kernel
theorem dX10_read_32 : decode cX10_read 32 = .ok (.aload_n 0, 1) := by decide +kernel
theorem dX10_read_33 : decode cX10_read 33 = .ok (.getfield 52, 3) := by decide +kernel
theorem dX10_read_36 : decode cX10_read 36 = .ok (.ifCond .le 7, 3) := by decide +kernel
theorem dX10_read_39 : decode cX10_read 39 = .ok (.iconst 0, 1) := by decide +kernel
theorem dX10_read_40 : decode cX10_read 40 = .ok (.goto 9, 3) := by decide +kernel
theorem dX10_read_43 : decode cX10_read 43 = .ok (.aload_n 0, 1) := by decide +kernel
theorem dX10_read_44 : decode cX10_read 44 = .ok (.getfield 22, 3) := by decide +kernel
theorem dX10_read_47 : decode cX10_read 47 = .ok (.iload_n 1, 1) := by decide +kernel
theorem dX10_read_48 : decode cX10_read 48 = .ok (.iaload, 1) := by decide +kernel
theorem dX10_read_49 : decode cX10_read 49 = .ok (.ireturn, 1) := by decide +kernel
theorem dX10_weigh_0 : decode cX10_weigh 0 = .ok (.aload_n 0, 1) := by decide +kernel
theorem dX10_weigh_1 : decode cX10_weigh 1 = .ok (.iconst 0, 1) := by decide +kernel
theorem dX10_weigh_2 : decode cX10_weigh 2 = .ok (.putfield 38, 3) := by decide +kernel
theorem dX10_weigh_5 : decode cX10_weigh 5 = .ok (.aload_n 0, 1) := by decide +kernel
theorem dX10_weigh_6 : decode cX10_weigh 6 = .ok (.iload_n 1, 1) := by decide +kernel
theorem dX10_weigh_7 : decode cX10_weigh 7 = .ok (.iload_n 2, 1) := by decide +kernel
theorem dX10_weigh_8 : decode cX10_weigh 8 = .ok (.invokevirtual 85, 3) := by decide +kernel
theorem dX10_weigh_11 : decode cX10_weigh 11 = .ok (.istore_n 3, 1) := by decide +kernel
theorem dX10_weigh_12 : decode cX10_weigh 12 = .ok (.iload_n 3, 1) := by decide +kernel
theorem dX10_weigh_13 : decode cX10_weigh 13 = .ok (.ifCond .ge 5, 3) := by decide +kernel
theorem dX10_weigh_16 : decode cX10_weigh 16 = .ok (.iload_n 3, 1) := by decide +kernel
theorem dX10_weigh_17 : decode cX10_weigh 17 = .ok (.ireturn, 1) := by decide +kernel
theorem dX10_weigh_18 : decode cX10_weigh 18 = .ok (.aload_n 0, 1) := by decide +kernel
theorem dX10_weigh_19 : decode cX10_weigh 19 = .ok (.iload_n 1, 1) := by decide +kernel
theorem dX10_weigh_20 : decode cX10_weigh 20 = .ok (.iload_n 2, 1) := by decide +kernel
theorem dX10_weigh_21 : decode cX10_weigh 21 = .ok (.invokevirtual 72, 3) := by decide +kernel
theorem dX10_weigh_24 : decode cX10_weigh 24 = .ok (.istore 4, 2) := by decide +kernel
theorem dX10_weigh_26 : decode cX10_weigh 26 = .ok (.aload_n 0, 1) := by decide +kernel
theorem dX10_weigh_27 : decode cX10_weigh 27 = .ok (.aload_n 0, 1) := by decide +kernel
theorem dX10_weigh_28 : decode cX10_weigh 28 = .ok (.getfield 52, 3) := by decide +kernel
theorem dX10_weigh_31 : decode cX10_weigh 31 = .ok (.putfield 38, 3) := by decide +kernel
theorem dX10_weigh_34 : decode cX10_weigh 34 = .ok (.aload_n 0, 1) := by decide +kernel
theorem dX10_weigh_35 : decode cX10_weigh 35 = .ok (.getfield 52, 3) := by decide +kernel
theorem dX10_weigh_38 : decode cX10_weigh 38 = .ok (.ifCond .le 7, 3) := by decide +kernel
theorem dX10_weigh_41 : decode cX10_weigh 41 = .ok (.iconst 0, 1) := by decide +kernel
theorem dX10_weigh_42 : decode cX10_weigh 42 = .ok (.goto 5, 3) := by decide +kernel
theorem dX10_weigh_45 : decode cX10_weigh 45 = .ok (.iload 4, 2) := by decide +kernel
theorem dX10_weigh_47 : decode cX10_weigh 47 = .ok (.ireturn, 1) := by decide +kernel
theorem dX10_overPlain_0 : decode cX10_overPlain 0 = .ok (.aload_n 0, 1) := by decide +kernel
theorem dX10_overPlain_1 : decode cX10_overPlain 1 = .ok (.iconst 2, 1) := by decide +kernel
theorem dX10_overPlain_2 : decode cX10_overPlain 2 = .ok (.iconst 0, 1) := by decide +kernel
theorem dX10_overPlain_3 : decode cX10_overPlain 3 = .ok (.invokevirtual 58, 3) := by decide +kernel
theorem dX10_overPlain_6 : decode cX10_overPlain 6 = .ok (.aload_n 0, 1) := by decide +kernel
theorem dX10_overPlain_7 : decode cX10_overPlain 7 = .ok (.getfield 22, 3) := by decide +kernel
theorem dX10_overPlain_10 : decode cX10_overPlain 10 = .ok (.iload_n 1, 1) := by decide +kernel
theorem dX10_overPlain_11 : decode cX10_overPlain 11 = .ok (.iaload, 1) := by decide +kernel
theorem dX10_overPlain_12 : decode cX10_overPlain 12 = .ok (.aload_n 0, 1) := by decide +kernel
theorem dX10_overPlain_13 : decode cX10_overPlain 13 = .ok (.getfield 16, 3) := by decide +kernel
theorem dX10_overPlain_16 : decode cX10_overPlain 16 = .ok (.iload_n 1, 1) := by decide +kernel
theorem dX10_overPlain_17 : decode cX10_overPlain 17 = .ok (.iaload, 1) := by decide +kernel
theorem dX10_overPlain_18 : decode cX10_overPlain 18 = .ok (.if_icmp .lt 7, 3) := by decide +kernel
theorem dX10_overPlain_21 : decode cX10_overPlain 21 = .ok (.iconst 1, 1) := by decide +kernel
theorem dX10_overPlain_22 : decode cX10_overPlain 22 = .ok (.goto 4, 3) := by decide +kernel
theorem dX10_overPlain_25 : decode cX10_overPlain 25 = .ok (.iconst 0, 1) := by decide +kernel
