theorem dX0_init_0 : decode cX0_init 0 = .ok (.aload_n 0, 1) := by decide +kernel
theorem dX0_init_1 : decode cX0_init 1 = .ok (.invokespecial 3, 3) := by decide +kernel
theorem dX0_init_4 : decode cX0_init 4 = .ok (.aload_n 0, 1) := by decide +kernel
theorem dX0_init_5 : decode cX0_init 5 = .ok (.aload_n 1, 1) := by decide +kernel
theorem dX0_init_6 : decode cX0_init 6 = .ok (.putfield 9, 3) := by decide +kernel
theorem dX0_init_9 : decode cX0_init 9 = .ok (.return_, 1) := by decide +kernel
theorem dX0_succeeds_0 : decode cX0_succeeds 0 = .ok (.iload_n 2, 1) := by decide +kernel
theorem dX0_succeeds_1 : decode cX0_succeeds 1 = .ok (.sipush 10000, 3) := by decide +kernel
theorem dX0_succeeds_4 : decode cX0_succeeds 4 = .ok (.idiv, 1) := by decide +kernel
theorem dX0_succeeds_5 : decode cX0_succeeds 5 = .ok (.istore_n 3, 1) := by decide +kernel
theorem dX0_succeeds_6 : decode cX0_succeeds 6 = .ok (.iload_n 3, 1) := by decide +kernel
theorem dX0_succeeds_7 : decode cX0_succeeds 7 = .ok (.iconst 2, 1) := by decide +kernel
theorem dX0_succeeds_8 : decode cX0_succeeds 8 = .ok (.if_icmp .lt 15, 3) := by decide +kernel
theorem dX0_succeeds_11 : decode cX0_succeeds 11 = .ok (.iload_n 3, 1) := by decide +kernel
theorem dX0_succeeds_12 : decode cX0_succeeds 12 = .ok (.iconst 5, 1) := by decide +kernel
theorem dX0_succeeds_13 : decode cX0_succeeds 13 = .ok (.if_icmp .gt 10, 3) := by decide +kernel
theorem dX0_succeeds_16 : decode cX0_succeeds 16 = .ok (.aload_n 1, 1) := by decide +kernel
theorem dX0_succeeds_17 : decode cX0_succeeds 17 = .ok (.iload_n 3, 1) := by decide +kernel
theorem dX0_succeeds_18 : decode cX0_succeeds 18 = .ok (.iload_n 2, 1) := by decide +kernel
theorem dX0_succeeds_19 : decode cX0_succeeds 19 = .ok (.invokestatic 15, 3) := by decide +kernel
theorem dX0_succeeds_22 : decode cX0_succeeds 22 = .ok (.ireturn, 1) := by decide +kernel
theorem dX0_succeeds_23 : decode cX0_succeeds 23 = .ok (.iload_n 3, 1) := by decide +kernel
theorem dX0_succeeds_24 : decode cX0_succeeds 24 = .ok (.bipush 7, 2) := by decide +kernel
theorem dX0_succeeds_26 : decode cX0_succeeds 26 = .ok (.if_icmp .ne 42, 3) := by decide +kernel
theorem dX0_succeeds_29 : decode cX0_succeeds 29 = .ok (.iload_n 2, 1) := by decide +kernel
theorem dX0_succeeds_30 : decode cX0_succeeds 30 = .ok (.sipush 1000, 3) := by decide +kernel
theorem dX0_succeeds_33 : decode cX0_succeeds 33 = .ok (.idiv, 1) := by decide +kernel
theorem dX0_succeeds_34 : decode cX0_succeeds 34 = .ok (.bipush 10, 2) := by decide +kernel
theorem dX0_succeeds_36 : decode cX0_succeeds 36 = .ok (.irem, 1) := by decide +kernel
theorem dX0_succeeds_37 : decode cX0_succeeds 37 = .ok (.istore 4, 2) := by decide +kernel
theorem dX0_succeeds_39 : decode cX0_succeeds 39 = .ok (.aload_n 1, 1) := by decide +kernel
theorem dX0_succeeds_40 : decode cX0_succeeds 40 = .ok (.iload 4, 2) := by decide +kernel
theorem dX0_succeeds_42 : decode cX0_succeeds 42 = .ok (.invokevirtual 19, 3) := by decide +kernel
theorem dX0_succeeds_45 : decode cX0_succeeds 45 = .ok (.ifCond .eq 21, 3) := by decide +kernel
theorem dX0_succeeds_48 : decode cX0_succeeds 48 = .ok (.aload_n 1, 1) := by decide +kernel
theorem dX0_succeeds_49 : decode cX0_succeeds 49 = .ok (.iload 4, 2) := by decide +kernel
theorem dX0_succeeds_51 : decode cX0_succeeds 51 = .ok (.invokevirtual 25, 3) := by decide +kernel
theorem dX0_succeeds_54 : decode cX0_succeeds 54 = .ok (.iload_n 2, 1) := by decide +kernel
theorem dX0_succeeds_55 : decode cX0_succeeds 55 = .ok (.sipush 1000, 3) := by decide +kernel
theorem dX0_succeeds_58 : decode cX0_succeeds 58 = .ok (.irem, 1) := by decide +kernel
theorem dX0_succeeds_59 : decode cX0_succeeds 59 = .ok (.if_icmp .ne 7, 3) := by decide +kernel
theorem dX0_succeeds_62 : decode cX0_succeeds 62 = .ok (.iconst 1, 1) := by decide +kernel
theorem dX0_succeeds_63 : decode cX0_succeeds 63 = .ok (.goto 4, 3) := by decide +kernel
theorem dX0_succeeds_66 : decode cX0_succeeds 66 = .ok (.iconst 0, 1) := by decide +kernel
theorem dX0_succeeds_67 : decode cX0_succeeds 67 = .ok (.ireturn, 1) := by decide +kernel
theorem dX0_succeeds_68 : decode cX0_succeeds 68 = .ok (.iload_n 2, 1) := by decide +kernel
theorem dX0_succeeds_69 : decode cX0_succeeds 69 = .ok (.sipush 10000, 3) := by decide +kernel
theorem dX0_succeeds_72 : decode cX0_succeeds 72 = .ok (.irem, 1) := by decide +kernel
theorem dX0_succeeds_73 : decode cX0_succeeds 73 = .ok (.istore 4, 2) := by decide +kernel
theorem dX0_succeeds_75 : decode cX0_succeeds 75 = .ok (.iload 4, 2) := by decide +kernel
theorem dX0_succeeds_77 : decode cX0_succeeds 77 = .ok (.bipush 99, 2) := by decide +kernel
theorem dX0_succeeds_79 : decode cX0_succeeds 79 = .ok (.if_icmp .le 5, 3) := by decide +kernel
theorem dX0_succeeds_82 : decode cX0_succeeds 82 = .ok (.iconst 0, 1) := by decide +kernel
theorem dX0_succeeds_83 : decode cX0_succeeds 83 = .ok (.ireturn, 1) := by decide +kernel
theorem dX0_succeeds_84 : decode cX0_succeeds 84 = .ok (.iload_n 3, 1) := by decide +kernel
theorem dX0_succeeds_85 : decode cX0_succeeds 85 = .ok (.tableswitch 117 1 9 #[51, 117, 117, 117, 117, 72, 117, 87, 102], 51) := by decide +kernel
theorem dX0_succeeds_136 : decode cX0_succeeds 136 = .ok (.aload_n 0, 1) := by decide +kernel
theorem dX0_succeeds_137 : decode cX0_succeeds 137 = .ok (.getfield 9, 3) := by decide +kernel
theorem dX0_succeeds_140 : decode cX0_succeeds 140 = .ok (.aload_n 1, 1) := by decide +kernel
theorem dX0_succeeds_141 : decode cX0_succeeds 141 = .ok (.iload 4, 2) := by decide +kernel
theorem dX0_succeeds_143 : decode cX0_succeeds 143 = .ok (.invokevirtual 29, 3) := by decide +kernel
theorem dX0_succeeds_146 : decode cX0_succeeds 146 = .ok (.iload 4, 2) := by decide +kernel
theorem dX0_succeeds_148 : decode cX0_succeeds 148 = .ok (.ifCond .le 7, 3) := by decide +kernel
theorem dX0_succeeds_151 : decode cX0_succeeds 151 = .ok (.iconst 1, 1) := by decide +kernel
theorem dX0_succeeds_152 : decode cX0_succeeds 152 = .ok (.goto 4, 3) := by decide +kernel
theorem dX0_succeeds_155 : decode cX0_succeeds 155 = .ok (.iconst 0, 1) := by decide +kernel
theorem dX0_succeeds_156 : decode cX0_succeeds 156 = .ok (.ireturn, 1) := by decide +kernel
theorem dX0_succeeds_157 : decode cX0_succeeds 157 = .ok (.aload_n 1, 1) := by decide +kernel
theorem dX0_succeeds_158 : decode cX0_succeeds 158 = .ok (.invokevirtual 35, 3) := by decide +kernel
theorem dX0_succeeds_161 : decode cX0_succeeds 161 = .ok (.iload 4, 2) := by decide +kernel
theorem dX0_succeeds_163 : decode cX0_succeeds 163 = .ok (.if_icmp .ne 7, 3) := by decide +kernel
theorem dX0_succeeds_166 : decode cX0_succeeds 166 = .ok (.iconst 1, 1) := by decide +kernel
theorem dX0_succeeds_167 : decode cX0_succeeds 167 = .ok (.goto 4, 3) := by decide +kernel
theorem dX0_succeeds_170 : decode cX0_succeeds 170 = .ok (.iconst 0, 1) := by decide +kernel
theorem dX0_succeeds_171 : decode cX0_succeeds 171 = .ok (.ireturn, 1) := by decide +kernel
theorem dX0_succeeds_172 : decode cX0_succeeds 172 = .ok (.aload_n 1, 1) := by decide +kernel
theorem dX0_succeeds_173 : decode cX0_succeeds 173 = .ok (.invokevirtual 39, 3) := by decide +kernel
theorem dX0_succeeds_176 : decode cX0_succeeds 176 = .ok (.iload 4, 2) := by decide +kernel
theorem dX0_succeeds_178 : decode cX0_succeeds 178 = .ok (.if_icmp .ne 7, 3) := by decide +kernel
theorem dX0_succeeds_181 : decode cX0_succeeds 181 = .ok (.iconst 1, 1) := by decide +kernel
theorem dX0_succeeds_182 : decode cX0_succeeds 182 = .ok (.goto 4, 3) := by decide +kernel
theorem dX0_succeeds_185 : decode cX0_succeeds 185 = .ok (.iconst 0, 1) := by decide +kernel
theorem dX0_succeeds_186 : decode cX0_succeeds 186 = .ok (.ireturn, 1) := by decide +kernel
theorem dX0_succeeds_187 : decode cX0_succeeds 187 = .ok (.aload_n 1, 1) := by decide +kernel
theorem dX0_succeeds_188 : decode cX0_succeeds 188 = .ok (.invokevirtual 42, 3) := by decide +kernel
theorem dX0_succeeds_191 : decode cX0_succeeds 191 = .ok (.iload 4, 2) := by decide +kernel
theorem dX0_succeeds_193 : decode cX0_succeeds 193 = .ok (.if_icmp .gt 7, 3) := by decide +kernel
theorem dX0_succeeds_196 : decode cX0_succeeds 196 = .ok (.iconst 1, 1) := by decide +kernel
theorem dX0_succeeds_197 : decode cX0_succeeds 197 = .ok (.goto 4, 3) := by decide +kernel
theorem dX0_succeeds_200 : decode cX0_succeeds 200 = .ok (.iconst 0, 1) := by decide +kernel
theorem dX0_succeeds_201 : decode cX0_succeeds 201 = .ok (.ireturn, 1) := by decide +kernel
theorem dX0_succeeds_202 : decode cX0_succeeds 202 = .ok (.iconst 0, 1) := by decide +kernel
theorem dX0_succeeds_203 : decode cX0_succeeds 203 = .ok (.ireturn, 1) := by decide +kernel
theorem dX0_changes_0 : decode cX0_changes 0 = .ok (.iload_n 2, 1) := by decide +kernel
theorem dX0_changes_1 : decode cX0_changes 1 = .ok (.sipush 1000, 3) := by decide +kernel
theorem dX0_changes_4 : decode cX0_changes 4 = .ok (.idiv, 1) := by decide +kernel
theorem dX0_changes_5 : decode cX0_changes 5 = .ok (.bipush 10, 2) := by decide +kernel
theorem dX0_changes_7 : decode cX0_changes 7 = .ok (.irem, 1) := by decide +kernel
theorem dX0_changes_8 : decode cX0_changes 8 = .ok (.istore_n 3, 1) := by decide +kernel
theorem dX0_changes_9 : decode cX0_changes 9 = .ok (.iload_n 2, 1) := by decide +kernel
theorem dX0_changes_10 : decode cX0_changes 10 = .ok (.sipush 1000, 3) := by decide +kernel
theorem dX0_changes_13 : decode cX0_changes 13 = .ok (.irem, 1) := by decide +kernel
theorem dX0_changes_14 : decode cX0_changes 14 = .ok (.istore 4, 2) := by decide +kernel
theorem dX0_changes_16 : decode cX0_changes 16 = .ok (.aload_n 0, 1) := by decide +kernel
theorem dX0_changes_17 : decode cX0_changes 17 = .ok (.iload_n 3, 1) := by decide +kernel
theorem dX0_changes_18 : decode cX0_changes 18 = .ok (.invokevirtual 19, 3) := by decide +kernel
theorem dX0_changes_21 : decode cX0_changes 21 = .ok (.ifCond .ne 5, 3) := by decide +kernel
theorem dX0_changes_24 : decode cX0_changes 24 = .ok (.iconst 0, 1) := by decide +kernel
theorem dX0_changes_25 : decode cX0_changes 25 = .ok (.ireturn, 1) := by decide +kernel
theorem dX0_changes_26 : decode cX0_changes 26 = .ok (.iload_n 1, 1) := by decide +kernel
theorem dX0_changes_27 : decode cX0_changes 27 = .ok (.tableswitch 103 2 4 #[25, 44, 58], 25) := by decide +kernel
theorem dX0_changes_52 : decode cX0_changes 52 = .ok (.iload 4, 2) := by decide +kernel
theorem dX0_changes_54 : decode cX0_changes 54 = .ok (.bipush 22, 2) := by decide +kernel
theorem dX0_changes_56 : decode cX0_changes 56 = .ok (.if_icmp .le 5, 3) := by decide +kernel
theorem dX0_changes_59 : decode cX0_changes 59 = .ok (.iconst 0, 1) := by decide +kernel
theorem dX0_changes_60 : decode cX0_changes 60 = .ok (.ireturn, 1) := by decide +kernel
theorem dX0_changes_61 : decode cX0_changes 61 = .ok (.aload_n 0, 1) := by decide +kernel
theorem dX0_changes_62 : decode cX0_changes 62 = .ok (.getfield 45, 3) := by decide +kernel
theorem dX0_changes_65 : decode cX0_changes 65 = .ok (.iload_n 3, 1) := by decide +kernel
theorem dX0_changes_66 : decode cX0_changes 66 = .ok (.iload 4, 2) := by decide +kernel
theorem dX0_changes_68 : decode cX0_changes 68 = .ok (.iastore, 1) := by decide +kernel
theorem dX0_changes_69 : decode cX0_changes 69 = .ok (.iconst 1, 1) := by decide +kernel
theorem dX0_changes_70 : decode cX0_changes 70 = .ok (.ireturn, 1) := by decide +kernel
theorem dX0_changes_71 : decode cX0_changes 71 = .ok (.iload 4, 2) := by decide +kernel
theorem dX0_changes_73 : decode cX0_changes 73 = .ok (.ifCond .eq 5, 3) := by decide +kernel
theorem dX0_changes_76 : decode cX0_changes 76 = .ok (.iconst 0, 1) := by decide +kernel
theorem dX0_changes_77 : decode cX0_changes 77 = .ok (.ireturn, 1) := by decide +kernel
theorem dX0_changes_78 : decode cX0_changes 78 = .ok (.aload_n 0, 1) := by decide +kernel
theorem dX0_changes_79 : decode cX0_changes 79 = .ok (.iload_n 3, 1) := by decide +kernel
theorem dX0_changes_80 : decode cX0_changes 80 = .ok (.invokevirtual 49, 3) := by decide +kernel
theorem dX0_changes_83 : decode cX0_changes 83 = .ok (.iconst 1, 1) := by decide +kernel
theorem dX0_changes_84 : decode cX0_changes 84 = .ok (.ireturn, 1) := by decide +kernel
theorem dX0_changes_85 : decode cX0_changes 85 = .ok (.iload 4, 2) := by decide +kernel
theorem dX0_changes_87 : decode cX0_changes 87 = .ok (.bipush 100, 2) := by decide +kernel
theorem dX0_changes_89 : decode cX0_changes 89 = .ok (.idiv, 1) := by decide +kernel
theorem dX0_changes_90 : decode cX0_changes 90 = .ok (.istore 5, 2) := by decide +kernel
theorem dX0_changes_92 : decode cX0_changes 92 = .ok (.iload 4, 2) := by decide +kernel
theorem dX0_changes_94 : decode cX0_changes 94 = .ok (.bipush 100, 2) := by decide +kernel
theorem dX0_changes_96 : decode cX0_changes 96 = .ok (.irem, 1) := by decide +kernel
theorem dX0_changes_97 : decode cX0_changes 97 = .ok (.ifCond .ne 22, 3) := by decide +kernel
theorem dX0_changes_100 : decode cX0_changes 100 = .ok (.aload_n 0, 1) := by decide +kernel
theorem dX0_changes_101 : decode cX0_changes 101 = .ok (.iload 5, 2) := by decide +kernel
theorem dX0_changes_103 : decode cX0_changes 103 = .ok (.invokevirtual 19, 3) := by decide +kernel
theorem dX0_changes_106 : decode cX0_changes 106 = .ok (.ifCond .eq 13, 3) := by decide +kernel
theorem dX0_changes_109 : decode cX0_changes 109 = .ok (.aload_n 0, 1) := by decide +kernel
theorem dX0_changes_110 : decode cX0_changes 110 = .ok (.iload_n 3, 1) := by decide +kernel
theorem dX0_changes_111 : decode cX0_changes 111 = .ok (.iload 5, 2) := by decide +kernel
theorem dX0_changes_113 : decode cX0_changes 113 = .ok (.invokevirtual 53, 3) := by decide +kernel
theorem dX0_changes_116 : decode cX0_changes 116 = .ok (.ifCond .ne 5, 3) := by decide +kernel
theorem dX0_changes_119 : decode cX0_changes 119 = .ok (.iconst 0, 1) := by decide +kernel
theorem dX0_changes_120 : decode cX0_changes 120 = .ok (.ireturn, 1) := by decide +kernel
theorem dX0_changes_121 : decode cX0_changes 121 = .ok (.aload_n 0, 1) := by decide +kernel
theorem dX0_changes_122 : decode cX0_changes 122 = .ok (.iload_n 3, 1) := by decide +kernel
theorem dX0_changes_123 : decode cX0_changes 123 = .ok (.iload 5, 2) := by decide +kernel
theorem dX0_changes_125 : decode cX0_changes 125 = .ok (.invokevirtual 57, 3) := by decide +kernel
theorem dX0_changes_128 : decode cX0_changes 128 = .ok (.iconst 1, 1) := by decide +kernel
theorem dX0_changes_129 : decode cX0_changes 129 = .ok (.ireturn, 1) := by decide +kernel
theorem dX0_changes_130 : decode cX0_changes 130 = .ok (.iload 4, 2) := by decide +kernel
theorem dX0_changes_132 : decode cX0_changes 132 = .ok (.ifCond .eq 5, 3) := by decide +kernel
theorem dX0_changes_135 : decode cX0_changes 135 = .ok (.iconst 0, 1) := by decide +kernel
theorem dX0_changes_136 : decode cX0_changes 136 = .ok (.ireturn, 1) := by decide +kernel
theorem dX0_changes_137 : decode cX0_changes 137 = .ok (.aload_n 0, 1) := by decide +kernel
theorem dX0_changes_138 : decode cX0_changes 138 = .ok (.iload_n 3, 1) := by decide +kernel
theorem dX0_changes_139 : decode cX0_changes 139 = .ok (.invokevirtual 61, 3) := by decide +kernel
theorem dX0_changes_142 : decode cX0_changes 142 = .ok (.pop, 1) := by decide +kernel
theorem dX0_changes_143 : decode cX0_changes 143 = .ok (.iconst 1, 1) := by decide +kernel
theorem dX0_changes_144 : decode cX0_changes 144 = .ok (.ireturn, 1) := by decide +kernel
theorem dX1_init_0 : decode cX1_init 0 = .ok (.aload_n 0, 1) := by decide +kernel
theorem dX1_init_1 : decode cX1_init 1 = .ok (.invokespecial 3, 3) := by decide +kernel
theorem dX1_init_4 : decode cX1_init 4 = .ok (.aload_n 0, 1) := by decide +kernel
theorem dX1_init_5 : decode cX1_init 5 = .ok (.bipush 14, 2) := by decide +kernel
theorem dX1_init_7 : decode cX1_init 7 = .ok (.anewarray 9, 3) := by decide +kernel
theorem dX1_init_10 : decode cX1_init 10 = .ok (.putfield 11, 3) := by decide +kernel
theorem dX1_init_13 : decode cX1_init 13 = .ok (.iconst 0, 1) := by decide +kernel
theorem dX1_init_14 : decode cX1_init 14 = .ok (.istore_n 1, 1) := by decide +kernel
theorem dX1_init_15 : decode cX1_init 15 = .ok (.iload_n 1, 1) := by decide +kernel
theorem dX1_init_16 : decode cX1_init 16 = .ok (.bipush 14, 2) := by decide +kernel
theorem dX1_init_18 : decode cX1_init 18 = .ok (.if_icmp .ge 22, 3) := by decide +kernel
theorem dX1_init_21 : decode cX1_init 21 = .ok (.aload_n 0, 1) := by decide +kernel
theorem dX1_init_22 : decode cX1_init 22 = .ok (.getfield 11, 3) := by decide +kernel
theorem dX1_init_25 : decode cX1_init 25 = .ok (.iload_n 1, 1) := by decide +kernel
theorem dX1_init_26 : decode cX1_init 26 = .ok (.new 9, 3) := by decide +kernel
theorem dX1_init_29 : decode cX1_init 29 = .ok (.dup, 1) := by decide +kernel
theorem dX1_init_30 : decode cX1_init 30 = .ok (.invokespecial 17, 3) := by decide +kernel
theorem dX1_init_33 : decode cX1_init 33 = .ok (.aastore, 1) := by decide +kernel
theorem dX1_init_34 : decode cX1_init 34 = .ok (.iinc 1 1, 3) := by decide +kernel
theorem dX1_init_37 : decode cX1_init 37 = .ok (.goto (-22), 3) := by decide +kernel
theorem dX1_init_40 : decode cX1_init 40 = .ok (.return_, 1) := by decide +kernel
theorem dX1_remember_0 : decode cX1_remember 0 = .ok (.aload_n 0, 1) := by decide +kernel
theorem dX1_remember_1 : decode cX1_remember 1 = .ok (.getfield 11, 3) := by decide +kernel
theorem dX1_remember_4 : decode cX1_remember 4 = .ok (.aload_n 0, 1) := by decide +kernel
theorem dX1_remember_5 : decode cX1_remember 5 = .ok (.getfield 18, 3) := by decide +kernel
theorem dX1_remember_8 : decode cX1_remember 8 = .ok (.aaload, 1) := by decide +kernel
theorem dX1_remember_9 : decode cX1_remember 9 = .ok (.aload_n 1, 1) := by decide +kernel
theorem dX1_remember_10 : decode cX1_remember 10 = .ok (.invokevirtual 22, 3) := by decide +kernel
theorem dX1_remember_13 : decode cX1_remember 13 = .ok (.aload_n 0, 1) := by decide +kernel
theorem dX1_remember_14 : decode cX1_remember 14 = .ok (.aload_n 0, 1) := by decide +kernel
theorem dX1_remember_15 : decode cX1_remember 15 = .ok (.getfield 18, 3) := by decide +kernel
theorem dX1_remember_18 : decode cX1_remember 18 = .ok (.iconst 1, 1) := by decide +kernel
theorem dX1_remember_19 : decode cX1_remember 19 = .ok (.iadd, 1) := by decide +kernel
theorem dX1_remember_20 : decode cX1_remember 20 = .ok (.bipush 14, 2) := by decide +kernel
theorem dX1_remember_22 : decode cX1_remember 22 = .ok (.irem, 1) := by decide +kernel
theorem dX1_remember_23 : decode cX1_remember 23 = .ok (.putfield 18, 3) := by decide +kernel
theorem dX1_remember_26 : decode cX1_remember 26 = .ok (.aload_n 0, 1) := by decide +kernel
theorem dX1_remember_27 : decode cX1_remember 27 = .ok (.aload_n 0, 1) := by decide +kernel
theorem dX1_remember_28 : decode cX1_remember 28 = .ok (.getfield 26, 3) := by decide +kernel
theorem dX1_remember_31 : decode cX1_remember 31 = .ok (.iconst 1, 1) := by decide +kernel
theorem dX1_remember_32 : decode cX1_remember 32 = .ok (.iadd, 1) := by decide +kernel
theorem dX1_remember_33 : decode cX1_remember 33 = .ok (.bipush 14, 2) := by decide +kernel
theorem dX1_remember_35 : decode cX1_remember 35 = .ok (.invokestatic 29, 3) := by decide +kernel
theorem dX1_remember_38 : decode cX1_remember 38 = .ok (.putfield 26, 3) := by decide +kernel
theorem dX1_remember_41 : decode cX1_remember 41 = .ok (.return_, 1) := by decide +kernel
theorem dX1_takeBack_0 : decode cX1_takeBack 0 = .ok (.aload_n 0, 1) := by decide +kernel
theorem dX1_takeBack_1 : decode cX1_takeBack 1 = .ok (.getfield 26, 3) := by decide +kernel
theorem dX1_takeBack_4 : decode cX1_takeBack 4 = .ok (.ifCond .gt 4, 3) := by decide +kernel
theorem dX1_takeBack_7 : decode cX1_takeBack 7 = .ok (.return_, 1) := by decide +kernel
theorem dX1_takeBack_8 : decode cX1_takeBack 8 = .ok (.aload_n 0, 1) := by decide +kernel
theorem dX1_takeBack_9 : decode cX1_takeBack 9 = .ok (.aload_n 0, 1) := by decide +kernel
theorem dX1_takeBack_10 : decode cX1_takeBack 10 = .ok (.getfield 18, 3) := by decide +kernel
theorem dX1_takeBack_13 : decode cX1_takeBack 13 = .ok (.bipush 14, 2) := by decide +kernel
theorem dX1_takeBack_15 : decode cX1_takeBack 15 = .ok (.iadd, 1) := by decide +kernel
theorem dX1_takeBack_16 : decode cX1_takeBack 16 = .ok (.iconst 1, 1) := by decide +kernel
theorem dX1_takeBack_17 : decode cX1_takeBack 17 = .ok (.isub, 1) := by decide +kernel
theorem dX1_takeBack_18 : decode cX1_takeBack 18 = .ok (.bipush 14, 2) := by decide +kernel
theorem dX1_takeBack_20 : decode cX1_takeBack 20 = .ok (.irem, 1) := by decide +kernel
theorem dX1_takeBack_21 : decode cX1_takeBack 21 = .ok (.putfield 18, 3) := by decide +kernel
theorem dX1_takeBack_24 : decode cX1_takeBack 24 = .ok (.aload_n 0, 1) := by decide +kernel
theorem dX1_takeBack_25 : decode cX1_takeBack 25 = .ok (.dup, 1) := by decide +kernel
theorem dX1_takeBack_26 : decode cX1_takeBack 26 = .ok (.getfield 26, 3) := by decide +kernel
theorem dX1_takeBack_29 : decode cX1_takeBack 29 = .ok (.iconst 1, 1) := by decide +kernel
theorem dX1_takeBack_30 : decode cX1_takeBack 30 = .ok (.isub, 1) := by decide +kernel
theorem dX1_takeBack_31 : decode cX1_takeBack 31 = .ok (.putfield 26, 3) := by decide +kernel
theorem dX1_takeBack_34 : decode cX1_takeBack 34 = .ok (.aload_n 1, 1) := by decide +kernel
theorem dX1_takeBack_35 : decode cX1_takeBack 35 = .ok (.aload_n 0, 1) := by decide +kernel
theorem dX1_takeBack_36 : decode cX1_takeBack 36 = .ok (.getfield 11, 3) := by decide +kernel
theorem dX1_takeBack_39 : decode cX1_takeBack 39 = .ok (.aload_n 0, 1) := by decide +kernel
theorem dX1_takeBack_40 : decode cX1_takeBack 40 = .ok (.getfield 18, 3) := by decide +kernel
theorem dX1_takeBack_43 : decode cX1_takeBack 43 = .ok (.aaload, 1) := by decide +kernel
theorem dX1_takeBack_44 : decode cX1_takeBack 44 = .ok (.invokevirtual 22, 3) := by decide +kernel
theorem dX1_takeBack_47 : decode cX1_takeBack 47 = .ok (.return_, 1) := by decide +kernel
theorem dX1_forget_0 : decode cX1_forget 0 = .ok (.aload_n 0, 1) := by decide +kernel
theorem dX1_forget_1 : decode cX1_forget 1 = .ok (.iconst 0, 1) := by decide +kernel
theorem dX1_forget_2 : decode cX1_forget 2 = .ok (.putfield 26, 3) := by decide +kernel
theorem dX1_forget_5 : decode cX1_forget 5 = .ok (.return_, 1) := by decide +kernel
theorem dX2_init_0 : decode cX2_init 0 = .ok (.aload_n 0, 1) := by decide +kernel
theorem dX2_init_1 : decode cX2_init 1 = .ok (.invokespecial 3, 3) := by decide +kernel
theorem dX2_init_4 : decode cX2_init 4 = .ok (.aload_n 0, 1) := by decide +kernel
theorem dX2_init_5 : decode cX2_init 5 = .ok (.bipush 48, 2) := by decide +kernel
theorem dX2_init_7 : decode cX2_init 7 = .ok (.newarray .int, 2) := by decide +kernel
theorem dX2_init_9 : decode cX2_init 9 = .ok (.putfield 9, 3) := by decide +kernel
theorem dX2_init_12 : decode cX2_init 12 = .ok (.aload_n 0, 1) := by decide +kernel
theorem dX2_init_13 : decode cX2_init 13 = .ok (.bipush 48, 2) := by decide +kernel
theorem dX2_init_15 : decode cX2_init 15 = .ok (.newarray .int, 2) := by decide +kernel
theorem dX2_init_17 : decode cX2_init 17 = .ok (.putfield 15, 3) := by decide +kernel
theorem dX2_init_20 : decode cX2_init 20 = .ok (.aload_n 0, 1) := by decide +kernel
theorem dX2_init_21 : decode cX2_init 21 = .ok (.bipush 48, 2) := by decide +kernel
theorem dX2_init_23 : decode cX2_init 23 = .ok (.newarray .int, 2) := by decide +kernel
theorem dX2_init_25 : decode cX2_init 25 = .ok (.putfield 18, 3) := by decide +kernel
theorem dX2_init_28 : decode cX2_init 28 = .ok (.aload_n 0, 1) := by decide +kernel
theorem dX2_init_29 : decode cX2_init 29 = .ok (.bipush 48, 2) := by decide +kernel
theorem dX2_init_31 : decode cX2_init 31 = .ok (.newarray .int, 2) := by decide +kernel
theorem dX2_init_33 : decode cX2_init 33 = .ok (.putfield 21, 3) := by decide +kernel
theorem dX2_init_36 : decode cX2_init 36 = .ok (.return_, 1) := by decide +kernel
theorem dX2_makeAllEmpty_0 : decode cX2_makeAllEmpty 0 = .ok (.iconst 0, 1) := by decide +kernel
theorem dX2_makeAllEmpty_1 : decode cX2_makeAllEmpty 1 = .ok (.istore_n 1, 1) := by decide +kernel
theorem dX2_makeAllEmpty_2 : decode cX2_makeAllEmpty 2 = .ok (.iload_n 1, 1) := by decide +kernel
theorem dX2_makeAllEmpty_3 : decode cX2_makeAllEmpty 3 = .ok (.aload_n 0, 1) := by decide +kernel
theorem dX2_makeAllEmpty_4 : decode cX2_makeAllEmpty 4 = .ok (.getfield 9, 3) := by decide +kernel
theorem dX2_makeAllEmpty_7 : decode cX2_makeAllEmpty 7 = .ok (.arraylength, 1) := by decide +kernel
theorem dX2_makeAllEmpty_8 : decode cX2_makeAllEmpty 8 = .ok (.if_icmp .ge 16, 3) := by decide +kernel
theorem dX2_makeAllEmpty_11 : decode cX2_makeAllEmpty 11 = .ok (.aload_n 0, 1) := by decide +kernel
theorem dX2_makeAllEmpty_12 : decode cX2_makeAllEmpty 12 = .ok (.getfield 9, 3) := by decide +kernel
theorem dX2_makeAllEmpty_15 : decode cX2_makeAllEmpty 15 = .ok (.iload_n 1, 1) := by decide +kernel
theorem dX2_makeAllEmpty_16 : decode cX2_makeAllEmpty 16 = .ok (.iconst 0, 1) := by decide +kernel
theorem dX2_makeAllEmpty_17 : decode cX2_makeAllEmpty 17 = .ok (.iastore, 1) := by decide +kernel
theorem dX2_makeAllEmpty_18 : decode cX2_makeAllEmpty 18 = .ok (.iinc 1 1, 3) := by decide +kernel
theorem dX2_makeAllEmpty_21 : decode cX2_makeAllEmpty 21 = .ok (.goto (-19), 3) := by decide +kernel
theorem dX2_makeAllEmpty_24 : decode cX2_makeAllEmpty 24 = .ok (.return_, 1) := by decide +kernel
theorem dX2_copyFrom_0 : decode cX2_copyFrom 0 = .ok (.aload_n 1, 1) := by decide +kernel
theorem dX2_copyFrom_1 : decode cX2_copyFrom 1 = .ok (.getfield 9, 3) := by decide +kernel
theorem dX2_copyFrom_4 : decode cX2_copyFrom 4 = .ok (.iconst 0, 1) := by decide +kernel
theorem dX2_copyFrom_5 : decode cX2_copyFrom 5 = .ok (.aload_n 0, 1) := by decide +kernel
theorem dX2_copyFrom_6 : decode cX2_copyFrom 6 = .ok (.getfield 9, 3) := by decide +kernel
theorem dX2_copyFrom_9 : decode cX2_copyFrom 9 = .ok (.iconst 0, 1) := by decide +kernel
theorem dX2_copyFrom_10 : decode cX2_copyFrom 10 = .ok (.aload_n 0, 1) := by decide +kernel
theorem dX2_copyFrom_11 : decode cX2_copyFrom 11 = .ok (.getfield 9, 3) := by decide +kernel
theorem dX2_copyFrom_14 : decode cX2_copyFrom 14 = .ok (.arraylength, 1) := by decide +kernel
theorem dX2_copyFrom_15 : decode cX2_copyFrom 15 = .ok (.invokestatic 24, 3) := by decide +kernel
theorem dX2_copyFrom_18 : decode cX2_copyFrom 18 = .ok (.aload_n 1, 1) := by decide +kernel
theorem dX2_copyFrom_19 : decode cX2_copyFrom 19 = .ok (.getfield 15, 3) := by decide +kernel
theorem dX2_copyFrom_22 : decode cX2_copyFrom 22 = .ok (.iconst 0, 1) := by decide +kernel
theorem dX2_copyFrom_23 : decode cX2_copyFrom 23 = .ok (.aload_n 0, 1) := by decide +kernel
theorem dX2_copyFrom_24 : decode cX2_copyFrom 24 = .ok (.getfield 15, 3) := by decide +kernel
theorem dX2_copyFrom_27 : decode cX2_copyFrom 27 = .ok (.iconst 0, 1) := by decide +kernel
theorem dX2_copyFrom_28 : decode cX2_copyFrom 28 = .ok (.aload_n 0, 1) := by decide +kernel
theorem dX2_copyFrom_29 : decode cX2_copyFrom 29 = .ok (.getfield 15, 3) := by decide +kernel
theorem dX2_copyFrom_32 : decode cX2_copyFrom 32 = .ok (.arraylength, 1) := by decide +kernel
theorem dX2_copyFrom_33 : decode cX2_copyFrom 33 = .ok (.invokestatic 24, 3) := by decide +kernel
theorem dX2_copyFrom_36 : decode cX2_copyFrom 36 = .ok (.aload_n 1, 1) := by decide +kernel
theorem dX2_copyFrom_37 : decode cX2_copyFrom 37 = .ok (.getfield 18, 3) := by decide +kernel
theorem dX2_copyFrom_40 : decode cX2_copyFrom 40 = .ok (.iconst 0, 1) := by decide +kernel
theorem dX2_copyFrom_41 : decode cX2_copyFrom 41 = .ok (.aload_n 0, 1) := by decide +kernel
theorem dX2_copyFrom_42 : decode cX2_copyFrom 42 = .ok (.getfield 18, 3) := by decide +kernel
theorem dX2_copyFrom_45 : decode cX2_copyFrom 45 = .ok (.iconst 0, 1) := by decide +kernel
theorem dX2_copyFrom_46 : decode cX2_copyFrom 46 = .ok (.aload_n 0, 1) := by decide +kernel
theorem dX2_copyFrom_47 : decode cX2_copyFrom 47 = .ok (.getfield 18, 3) := by decide +kernel
theorem dX2_copyFrom_50 : decode cX2_copyFrom 50 = .ok (.arraylength, 1) := by decide +kernel
theorem dX2_copyFrom_51 : decode cX2_copyFrom 51 = .ok (.invokestatic 24, 3) := by decide +kernel
theorem dX2_copyFrom_54 : decode cX2_copyFrom 54 = .ok (.aload_n 1, 1) := by decide +kernel
theorem dX2_copyFrom_55 : decode cX2_copyFrom 55 = .ok (.getfield 21, 3) := by decide +kernel
theorem dX2_copyFrom_58 : decode cX2_copyFrom 58 = .ok (.iconst 0, 1) := by decide +kernel
theorem dX2_copyFrom_59 : decode cX2_copyFrom 59 = .ok (.aload_n 0, 1) := by decide +kernel
theorem dX2_copyFrom_60 : decode cX2_copyFrom 60 = .ok (.getfield 21, 3) := by decide +kernel
theorem dX2_copyFrom_63 : decode cX2_copyFrom 63 = .ok (.iconst 0, 1) := by decide +kernel
theorem dX2_copyFrom_64 : decode cX2_copyFrom 64 = .ok (.aload_n 0, 1) := by decide +kernel
theorem dX2_copyFrom_65 : decode cX2_copyFrom 65 = .ok (.getfield 21, 3) := by decide +kernel
theorem dX2_copyFrom_68 : decode cX2_copyFrom 68 = .ok (.arraylength, 1) := by decide +kernel
theorem dX2_copyFrom_69 : decode cX2_copyFrom 69 = .ok (.invokestatic 24, 3) := by decide +kernel
theorem dX2_copyFrom_72 : decode cX2_copyFrom 72 = .ok (.return_, 1) := by decide +kernel
theorem dX2_copyOne_0 : decode cX2_copyOne 0 = .ok (.aload_n 0, 1) := by decide +kernel
theorem dX2_copyOne_1 : decode cX2_copyOne 1 = .ok (.getfield 9, 3) := by decide +kernel
theorem dX2_copyOne_4 : decode cX2_copyOne 4 = .ok (.iload_n 1, 1) := by decide +kernel
theorem dX2_copyOne_5 : decode cX2_copyOne 5 = .ok (.aload_n 2, 1) := by decide +kernel
theorem dX2_copyOne_6 : decode cX2_copyOne 6 = .ok (.getfield 9, 3) := by decide +kernel
theorem dX2_copyOne_9 : decode cX2_copyOne 9 = .ok (.iload_n 3, 1) := by decide +kernel
theorem dX2_copyOne_10 : decode cX2_copyOne 10 = .ok (.iaload, 1) := by decide +kernel
theorem dX2_copyOne_11 : decode cX2_copyOne 11 = .ok (.iastore, 1) := by decide +kernel
theorem dX2_copyOne_12 : decode cX2_copyOne 12 = .ok (.aload_n 0, 1) := by decide +kernel
theorem dX2_copyOne_13 : decode cX2_copyOne 13 = .ok (.getfield 15, 3) := by decide +kernel
theorem dX2_copyOne_16 : decode cX2_copyOne 16 = .ok (.iload_n 1, 1) := by decide +kernel
theorem dX2_copyOne_17 : decode cX2_copyOne 17 = .ok (.aload_n 2, 1) := by decide +kernel
theorem dX2_copyOne_18 : decode cX2_copyOne 18 = .ok (.getfield 15, 3) := by decide +kernel
theorem dX2_copyOne_21 : decode cX2_copyOne 21 = .ok (.iload_n 3, 1) := by decide +kernel
theorem dX2_copyOne_22 : decode cX2_copyOne 22 = .ok (.iaload, 1) := by decide +kernel
theorem dX2_copyOne_23 : decode cX2_copyOne 23 = .ok (.iastore, 1) := by decide +kernel
theorem dX2_copyOne_24 : decode cX2_copyOne 24 = .ok (.aload_n 0, 1) := by decide +kernel
theorem dX2_copyOne_25 : decode cX2_copyOne 25 = .ok (.getfield 18, 3) := by decide +kernel
theorem dX2_copyOne_28 : decode cX2_copyOne 28 = .ok (.iload_n 1, 1) := by decide +kernel
theorem dX2_copyOne_29 : decode cX2_copyOne 29 = .ok (.aload_n 2, 1) := by decide +kernel
theorem dX2_copyOne_30 : decode cX2_copyOne 30 = .ok (.getfield 18, 3) := by decide +kernel
theorem dX2_copyOne_33 : decode cX2_copyOne 33 = .ok (.iload_n 3, 1) := by decide +kernel
theorem dX2_copyOne_34 : decode cX2_copyOne 34 = .ok (.iaload, 1) := by decide +kernel
theorem dX2_copyOne_35 : decode cX2_copyOne 35 = .ok (.iastore, 1) := by decide +kernel
theorem dX2_copyOne_36 : decode cX2_copyOne 36 = .ok (.aload_n 0, 1) := by decide +kernel
theorem dX2_copyOne_37 : decode cX2_copyOne 37 = .ok (.getfield 21, 3) := by decide +kernel
theorem dX2_copyOne_40 : decode cX2_copyOne 40 = .ok (.iload_n 1, 1) := by decide +kernel
theorem dX2_copyOne_41 : decode cX2_copyOne 41 = .ok (.aload_n 2, 1) := by decide +kernel
theorem dX2_copyOne_42 : decode cX2_copyOne 42 = .ok (.getfield 21, 3) := by decide +kernel
theorem dX2_copyOne_45 : decode cX2_copyOne 45 = .ok (.iload_n 3, 1) := by decide +kernel
theorem dX2_copyOne_46 : decode cX2_copyOne 46 = .ok (.iaload, 1) := by decide +kernel
theorem dX2_copyOne_47 : decode cX2_copyOne 47 = .ok (.iastore, 1) := by decide +kernel
theorem dX2_copyOne_48 : decode cX2_copyOne 48 = .ok (.return_, 1) := by decide +kernel
theorem dX2_makeClaim_0 : decode cX2_makeClaim 0 = .ok (.aload_n 0, 1) := by decide +kernel
theorem dX2_makeClaim_1 : decode cX2_makeClaim 1 = .ok (.getfield 9, 3) := by decide +kernel
theorem dX2_makeClaim_4 : decode cX2_makeClaim 4 = .ok (.iload_n 1, 1) := by decide +kernel
theorem dX2_makeClaim_5 : decode cX2_makeClaim 5 = .ok (.iconst 1, 1) := by decide +kernel
theorem dX2_makeClaim_6 : decode cX2_makeClaim 6 = .ok (.iastore, 1) := by decide +kernel
theorem dX2_makeClaim_7 : decode cX2_makeClaim 7 = .ok (.aload_n 0, 1) := by decide +kernel
theorem dX2_makeClaim_8 : decode cX2_makeClaim 8 = .ok (.getfield 15, 3) := by decide +kernel
theorem dX2_makeClaim_11 : decode cX2_makeClaim 11 = .ok (.iload_n 1, 1) := by decide +kernel
theorem dX2_makeClaim_12 : decode cX2_makeClaim 12 = .ok (.iload_n 2, 1) := by decide +kernel
theorem dX2_makeClaim_13 : decode cX2_makeClaim 13 = .ok (.iastore, 1) := by decide +kernel
theorem dX2_makeClaim_14 : decode cX2_makeClaim 14 = .ok (.aload_n 0, 1) := by decide +kernel
theorem dX2_makeClaim_15 : decode cX2_makeClaim 15 = .ok (.getfield 18, 3) := by decide +kernel
theorem dX2_makeClaim_18 : decode cX2_makeClaim 18 = .ok (.iload_n 1, 1) := by decide +kernel
theorem dX2_makeClaim_19 : decode cX2_makeClaim 19 = .ok (.iload_n 3, 1) := by decide +kernel
theorem dX2_makeClaim_20 : decode cX2_makeClaim 20 = .ok (.iastore, 1) := by decide +kernel
theorem dX2_makeClaim_21 : decode cX2_makeClaim 21 = .ok (.aload_n 0, 1) := by decide +kernel
theorem dX2_makeClaim_22 : decode cX2_makeClaim 22 = .ok (.getfield 21, 3) := by decide +kernel
theorem dX2_makeClaim_25 : decode cX2_makeClaim 25 = .ok (.iload_n 1, 1) := by decide +kernel
theorem dX2_makeClaim_26 : decode cX2_makeClaim 26 = .ok (.iload 4, 2) := by decide +kernel
theorem dX2_makeClaim_28 : decode cX2_makeClaim 28 = .ok (.iastore, 1) := by decide +kernel
theorem dX2_makeClaim_29 : decode cX2_makeClaim 29 = .ok (.return_, 1) := by decide +kernel
theorem dX2_isClaimOf_0 : decode cX2_isClaimOf 0 = .ok (.aload_n 0, 1) := by decide +kernel
theorem dX2_isClaimOf_1 : decode cX2_isClaimOf 1 = .ok (.getfield 9, 3) := by decide +kernel
theorem dX2_isClaimOf_4 : decode cX2_isClaimOf 4 = .ok (.iload_n 1, 1) := by decide +kernel
theorem dX2_isClaimOf_5 : decode cX2_isClaimOf 5 = .ok (.iaload, 1) := by decide +kernel
theorem dX2_isClaimOf_6 : decode cX2_isClaimOf 6 = .ok (.iconst 1, 1) := by decide +kernel
theorem dX2_isClaimOf_7 : decode cX2_isClaimOf 7 = .ok (.if_icmp .ne 17, 3) := by decide +kernel
theorem dX2_isClaimOf_10 : decode cX2_isClaimOf 10 = .ok (.aload_n 0, 1) := by decide +kernel
theorem dX2_isClaimOf_11 : decode cX2_isClaimOf 11 = .ok (.getfield 15, 3) := by decide +kernel
theorem dX2_isClaimOf_14 : decode cX2_isClaimOf 14 = .ok (.iload_n 1, 1) := by decide +kernel
theorem dX2_isClaimOf_15 : decode cX2_isClaimOf 15 = .ok (.iaload, 1) := by decide +kernel
theorem dX2_isClaimOf_16 : decode cX2_isClaimOf 16 = .ok (.iload_n 2, 1) := by decide +kernel
theorem dX2_isClaimOf_17 : decode cX2_isClaimOf 17 = .ok (.if_icmp .ne 7, 3) := by decide +kernel
theorem dX2_isClaimOf_20 : decode cX2_isClaimOf 20 = .ok (.iconst 1, 1) := by decide +kernel
theorem dX2_isClaimOf_21 : decode cX2_isClaimOf 21 = .ok (.goto 4, 3) := by decide +kernel
theorem dX2_isClaimOf_24 : decode cX2_isClaimOf 24 = .ok (.iconst 0, 1) := by decide +kernel
theorem dX2_isClaimOf_25 : decode cX2_isClaimOf 25 = .ok (.ireturn, 1) := by decide +kernel
theorem dX2_isExpiredClaim_0 : decode cX2_isExpiredClaim 0 = .ok (.aload_n 0, 1) := by decide +kernel
theorem dX2_isExpiredClaim_1 : decode cX2_isExpiredClaim 1 = .ok (.getfield 9, 3) := by decide +kernel
theorem dX2_isExpiredClaim_4 : decode cX2_isExpiredClaim 4 = .ok (.iload_n 1, 1) := by decide +kernel
theorem dX2_isExpiredClaim_5 : decode cX2_isExpiredClaim 5 = .ok (.iaload, 1) := by decide +kernel
theorem dX2_isExpiredClaim_6 : decode cX2_isExpiredClaim 6 = .ok (.iconst 1, 1) := by decide +kernel
theorem dX2_isExpiredClaim_7 : decode cX2_isExpiredClaim 7 = .ok (.if_icmp .ne 17, 3) := by decide +kernel
theorem dX2_isExpiredClaim_10 : decode cX2_isExpiredClaim 10 = .ok (.aload_n 0, 1) := by decide +kernel
theorem dX2_isExpiredClaim_11 : decode cX2_isExpiredClaim 11 = .ok (.getfield 21, 3) := by decide +kernel
theorem dX2_isExpiredClaim_14 : decode cX2_isExpiredClaim 14 = .ok (.iload_n 1, 1) := by decide +kernel
theorem dX2_isExpiredClaim_15 : decode cX2_isExpiredClaim 15 = .ok (.iaload, 1) := by decide +kernel
theorem dX2_isExpiredClaim_16 : decode cX2_isExpiredClaim 16 = .ok (.iload_n 2, 1) := by decide +kernel
theorem dX2_isExpiredClaim_17 : decode cX2_isExpiredClaim 17 = .ok (.if_icmp .gt 7, 3) := by decide +kernel
theorem dX2_isExpiredClaim_20 : decode cX2_isExpiredClaim 20 = .ok (.iconst 1, 1) := by decide +kernel
theorem dX2_isExpiredClaim_21 : decode cX2_isExpiredClaim 21 = .ok (.goto 4, 3) := by decide +kernel
theorem dX2_isExpiredClaim_24 : decode cX2_isExpiredClaim 24 = .ok (.iconst 0, 1) := by decide +kernel
theorem dX2_isExpiredClaim_25 : decode cX2_isExpiredClaim 25 = .ok (.ireturn, 1) := by decide +kernel
theorem dX2_isLiveClaim_0 : decode cX2_isLiveClaim 0 = .ok (.aload_n 0, 1) := by decide +kernel
theorem dX2_isLiveClaim_1 : decode cX2_isLiveClaim 1 = .ok (.getfield 9, 3) := by decide +kernel
theorem dX2_isLiveClaim_4 : decode cX2_isLiveClaim 4 = .ok (.iload_n 1, 1) := by decide +kernel
theorem dX2_isLiveClaim_5 : decode cX2_isLiveClaim 5 = .ok (.iaload, 1) := by decide +kernel
theorem dX2_isLiveClaim_6 : decode cX2_isLiveClaim 6 = .ok (.iconst 1, 1) := by decide +kernel
theorem dX2_isLiveClaim_7 : decode cX2_isLiveClaim 7 = .ok (.if_icmp .ne 17, 3) := by decide +kernel
theorem dX2_isLiveClaim_10 : decode cX2_isLiveClaim 10 = .ok (.aload_n 0, 1) := by decide +kernel
theorem dX2_isLiveClaim_11 : decode cX2_isLiveClaim 11 = .ok (.getfield 21, 3) := by decide +kernel
theorem dX2_isLiveClaim_14 : decode cX2_isLiveClaim 14 = .ok (.iload_n 1, 1) := by decide +kernel
theorem dX2_isLiveClaim_15 : decode cX2_isLiveClaim 15 = .ok (.iaload, 1) := by decide +kernel
theorem dX2_isLiveClaim_16 : decode cX2_isLiveClaim 16 = .ok (.iload_n 2, 1) := by decide +kernel
theorem dX2_isLiveClaim_17 : decode cX2_isLiveClaim 17 = .ok (.if_icmp .le 7, 3) := by decide +kernel
theorem dX2_isLiveClaim_20 : decode cX2_isLiveClaim 20 = .ok (.iconst 1, 1) := by decide +kernel
theorem dX2_isLiveClaim_21 : decode cX2_isLiveClaim 21 = .ok (.goto 4, 3) := by decide +kernel
theorem dX2_isLiveClaim_24 : decode cX2_isLiveClaim 24 = .ok (.iconst 0, 1) := by decide +kernel
theorem dX2_isLiveClaim_25 : decode cX2_isLiveClaim 25 = .ok (.ireturn, 1) := by decide +kernel
theorem dX2_isBetter_0 : decode cX2_isBetter 0 = .ok (.aload_n 0, 1) := by decide +kernel
theorem dX2_isBetter_1 : decode cX2_isBetter 1 = .ok (.iload_n 1, 1) := by decide +kernel
theorem dX2_isBetter_2 : decode cX2_isBetter 2 = .ok (.iload_n 3, 1) := by decide +kernel
theorem dX2_isBetter_3 : decode cX2_isBetter 3 = .ok (.invokevirtual 30, 3) := by decide +kernel
theorem dX2_isBetter_6 : decode cX2_isBetter 6 = .ok (.ifCond .eq 7, 3) := by decide +kernel
theorem dX2_isBetter_9 : decode cX2_isBetter 9 = .ok (.iconst 0, 1) := by decide +kernel
theorem dX2_isBetter_10 : decode cX2_isBetter 10 = .ok (.goto 9, 3) := by decide +kernel
theorem dX2_isBetter_13 : decode cX2_isBetter 13 = .ok (.aload_n 0, 1) := by decide +kernel
theorem dX2_isBetter_14 : decode cX2_isBetter 14 = .ok (.getfield 9, 3) := by decide +kernel
theorem dX2_isBetter_17 : decode cX2_isBetter 17 = .ok (.iload_n 1, 1) := by decide +kernel
theorem dX2_isBetter_18 : decode cX2_isBetter 18 = .ok (.iaload, 1) := by decide +kernel
theorem dX2_isBetter_19 : decode cX2_isBetter 19 = .ok (.istore 4, 2) := by decide +kernel
theorem dX2_isBetter_21 : decode cX2_isBetter 21 = .ok (.aload_n 0, 1) := by decide +kernel
theorem dX2_isBetter_22 : decode cX2_isBetter 22 = .ok (.iload_n 2, 1) := by decide +kernel
theorem dX2_isBetter_23 : decode cX2_isBetter 23 = .ok (.iload_n 3, 1) := by decide +kernel
theorem dX2_isBetter_24 : decode cX2_isBetter 24 = .ok (.invokevirtual 30, 3) := by decide +kernel
theorem dX2_isBetter_27 : decode cX2_isBetter 27 = .ok (.ifCond .eq 7, 3) := by decide +kernel
theorem dX2_isBetter_30 : decode cX2_isBetter 30 = .ok (.iconst 0, 1) := by decide +kernel
theorem dX2_isBetter_31 : decode cX2_isBetter 31 = .ok (.goto 9, 3) := by decide +kernel
theorem dX2_isBetter_34 : decode cX2_isBetter 34 = .ok (.aload_n 0, 1) := by decide +kernel
theorem dX2_isBetter_35 : decode cX2_isBetter 35 = .ok (.getfield 9, 3) := by decide +kernel
theorem dX2_isBetter_38 : decode cX2_isBetter 38 = .ok (.iload_n 2, 1) := by decide +kernel
theorem dX2_isBetter_39 : decode cX2_isBetter 39 = .ok (.iaload, 1) := by decide +kernel
theorem dX2_isBetter_40 : decode cX2_isBetter 40 = .ok (.istore 5, 2) := by decide +kernel
theorem dX2_isBetter_42 : decode cX2_isBetter 42 = .ok (.iload 4, 2) := by decide +kernel
theorem dX2_isBetter_44 : decode cX2_isBetter 44 = .ok (.iload 5, 2) := by decide +kernel
theorem dX2_isBetter_46 : decode cX2_isBetter 46 = .ok (.if_icmp .eq 16, 3) := by decide +kernel
theorem dX2_isBetter_49 : decode cX2_isBetter 49 = .ok (.iload 4, 2) := by decide +kernel
theorem dX2_isBetter_51 : decode cX2_isBetter 51 = .ok (.iload 5, 2) := by decide +kernel
theorem dX2_isBetter_53 : decode cX2_isBetter 53 = .ok (.if_icmp .le 7, 3) := by decide +kernel
theorem dX2_isBetter_56 : decode cX2_isBetter 56 = .ok (.iconst 1, 1) := by decide +kernel
theorem dX2_isBetter_57 : decode cX2_isBetter 57 = .ok (.goto 4, 3) := by decide +kernel
theorem dX2_isBetter_60 : decode cX2_isBetter 60 = .ok (.iconst 0, 1) := by decide +kernel
theorem dX2_isBetter_61 : decode cX2_isBetter 61 = .ok (.ireturn, 1) := by decide +kernel
theorem dX2_isBetter_62 : decode cX2_isBetter 62 = .ok (.iload 4, 2) := by decide +kernel
theorem dX2_isBetter_64 : decode cX2_isBetter 64 = .ok (.iconst 1, 1) := by decide +kernel
theorem dX2_isBetter_65 : decode cX2_isBetter 65 = .ok (.if_icmp .eq 5, 3) := by decide +kernel
theorem dX2_isBetter_68 : decode cX2_isBetter 68 = .ok (.iconst 0, 1) := by decide +kernel
theorem dX2_isBetter_69 : decode cX2_isBetter 69 = .ok (.ireturn, 1) := by decide +kernel
theorem dX2_isBetter_70 : decode cX2_isBetter 70 = .ok (.aload_n 0, 1) := by decide +kernel
theorem dX2_isBetter_71 : decode cX2_isBetter 71 = .ok (.getfield 18, 3) := by decide +kernel
theorem dX2_isBetter_74 : decode cX2_isBetter 74 = .ok (.iload_n 1, 1) := by decide +kernel
theorem dX2_isBetter_75 : decode cX2_isBetter 75 = .ok (.iaload, 1) := by decide +kernel
theorem dX2_isBetter_76 : decode cX2_isBetter 76 = .ok (.aload_n 0, 1) := by decide +kernel
theorem dX2_isBetter_77 : decode cX2_isBetter 77 = .ok (.getfield 18, 3) := by decide +kernel
theorem dX2_isBetter_80 : decode cX2_isBetter 80 = .ok (.iload_n 2, 1) := by decide +kernel
theorem dX2_isBetter_81 : decode cX2_isBetter 81 = .ok (.iaload, 1) := by decide +kernel
theorem dX2_isBetter_82 : decode cX2_isBetter 82 = .ok (.if_icmp .eq 24, 3) := by decide +kernel
theorem dX2_isBetter_85 : decode cX2_isBetter 85 = .ok (.aload_n 0, 1) := by decide +kernel
theorem dX2_isBetter_86 : decode cX2_isBetter 86 = .ok (.getfield 18, 3) := by decide +kernel
theorem dX2_isBetter_89 : decode cX2_isBetter 89 = .ok (.iload_n 1, 1) := by decide +kernel
theorem dX2_isBetter_90 : decode cX2_isBetter 90 = .ok (.iaload, 1) := by decide +kernel
theorem dX2_isBetter_91 : decode cX2_isBetter 91 = .ok (.aload_n 0, 1) := by decide +kernel
theorem dX2_isBetter_92 : decode cX2_isBetter 92 = .ok (.getfield 18, 3) := by decide +kernel
theorem dX2_isBetter_95 : decode cX2_isBetter 95 = .ok (.iload_n 2, 1) := by decide +kernel
theorem dX2_isBetter_96 : decode cX2_isBetter 96 = .ok (.iaload, 1) := by decide +kernel
theorem dX2_isBetter_97 : decode cX2_isBetter 97 = .ok (.if_icmp .ge 7, 3) := by decide +kernel
theorem dX2_isBetter_100 : decode cX2_isBetter 100 = .ok (.iconst 1, 1) := by decide +kernel
theorem dX2_isBetter_101 : decode cX2_isBetter 101 = .ok (.goto 4, 3) := by decide +kernel
theorem dX2_isBetter_104 : decode cX2_isBetter 104 = .ok (.iconst 0, 1) := by decide +kernel
theorem dX2_isBetter_105 : decode cX2_isBetter 105 = .ok (.ireturn, 1) := by decide +kernel
theorem dX2_isBetter_106 : decode cX2_isBetter 106 = .ok (.aload_n 0, 1) := by decide +kernel
theorem dX2_isBetter_107 : decode cX2_isBetter 107 = .ok (.getfield 15, 3) := by decide +kernel
theorem dX2_isBetter_110 : decode cX2_isBetter 110 = .ok (.iload_n 1, 1) := by decide +kernel
theorem dX2_isBetter_111 : decode cX2_isBetter 111 = .ok (.iaload, 1) := by decide +kernel
theorem dX2_isBetter_112 : decode cX2_isBetter 112 = .ok (.aload_n 0, 1) := by decide +kernel
theorem dX2_isBetter_113 : decode cX2_isBetter 113 = .ok (.getfield 15, 3) := by decide +kernel
theorem dX2_isBetter_116 : decode cX2_isBetter 116 = .ok (.iload_n 2, 1) := by decide +kernel
theorem dX2_isBetter_117 : decode cX2_isBetter 117 = .ok (.iaload, 1) := by decide +kernel
theorem dX2_isBetter_118 : decode cX2_isBetter 118 = .ok (.if_icmp .eq 24, 3) := by decide +kernel
theorem dX2_isBetter_121 : decode cX2_isBetter 121 = .ok (.aload_n 0, 1) := by decide +kernel
theorem dX2_isBetter_122 : decode cX2_isBetter 122 = .ok (.getfield 15, 3) := by decide +kernel
theorem dX2_isBetter_125 : decode cX2_isBetter 125 = .ok (.iload_n 1, 1) := by decide +kernel
theorem dX2_isBetter_126 : decode cX2_isBetter 126 = .ok (.iaload, 1) := by decide +kernel
theorem dX2_isBetter_127 : decode cX2_isBetter 127 = .ok (.aload_n 0, 1) := by decide +kernel
theorem dX2_isBetter_128 : decode cX2_isBetter 128 = .ok (.getfield 15, 3) := by decide +kernel
theorem dX2_isBetter_131 : decode cX2_isBetter 131 = .ok (.iload_n 2, 1) := by decide +kernel
theorem dX2_isBetter_132 : decode cX2_isBetter 132 = .ok (.iaload, 1) := by decide +kernel
theorem dX2_isBetter_133 : decode cX2_isBetter 133 = .ok (.if_icmp .ge 7, 3) := by decide +kernel
theorem dX2_isBetter_136 : decode cX2_isBetter 136 = .ok (.iconst 1, 1) := by decide +kernel
theorem dX2_isBetter_137 : decode cX2_isBetter 137 = .ok (.goto 4, 3) := by decide +kernel
theorem dX2_isBetter_140 : decode cX2_isBetter 140 = .ok (.iconst 0, 1) := by decide +kernel
theorem dX2_isBetter_141 : decode cX2_isBetter 141 = .ok (.ireturn, 1) := by decide +kernel
theorem dX2_isBetter_142 : decode cX2_isBetter 142 = .ok (.aload_n 0, 1) := by decide +kernel
theorem dX2_isBetter_143 : decode cX2_isBetter 143 = .ok (.getfield 21, 3) := by decide +kernel
theorem dX2_isBetter_146 : decode cX2_isBetter 146 = .ok (.iload_n 1, 1) := by decide +kernel
theorem dX2_isBetter_147 : decode cX2_isBetter 147 = .ok (.iaload, 1) := by decide +kernel
theorem dX2_isBetter_148 : decode cX2_isBetter 148 = .ok (.aload_n 0, 1) := by decide +kernel
theorem dX2_isBetter_149 : decode cX2_isBetter 149 = .ok (.getfield 21, 3) := by decide +kernel
theorem dX2_isBetter_152 : decode cX2_isBetter 152 = .ok (.iload_n 2, 1) := by decide +kernel
theorem dX2_isBetter_153 : decode cX2_isBetter 153 = .ok (.iaload, 1) := by decide +kernel
theorem dX2_isBetter_154 : decode cX2_isBetter 154 = .ok (.if_icmp .le 7, 3) := by decide +kernel
theorem dX2_isBetter_157 : decode cX2_isBetter 157 = .ok (.iconst 1, 1) := by decide +kernel
theorem dX2_isBetter_158 : decode cX2_isBetter 158 = .ok (.goto 4, 3) := by decide +kernel
theorem dX2_isBetter_161 : decode cX2_isBetter 161 = .ok (.iconst 0, 1) := by decide +kernel
theorem dX2_isBetter_162 : decode cX2_isBetter 162 = .ok (.ireturn, 1) := by decide +kernel
theorem dX3_init_0 : decode cX3_init 0 = .ok (.aload_n 0, 1) := by decide +kernel
theorem dX3_init_1 : decode cX3_init 1 = .ok (.invokespecial 3, 3) := by decide +kernel
theorem dX3_init_4 : decode cX3_init 4 = .ok (.aload_n 0, 1) := by decide +kernel
theorem dX3_init_5 : decode cX3_init 5 = .ok (.bipush 6, 2) := by decide +kernel
theorem dX3_init_7 : decode cX3_init 7 = .ok (.newarray .int, 2) := by decide +kernel
theorem dX3_init_9 : decode cX3_init 9 = .ok (.putfield 9, 3) := by decide +kernel
theorem dX3_init_12 : decode cX3_init 12 = .ok (.aload_n 0, 1) := by decide +kernel
theorem dX3_init_13 : decode cX3_init 13 = .ok (.sipush 1792, 3) := by decide +kernel
theorem dX3_init_16 : decode cX3_init 16 = .ok (.newarray .int, 2) := by decide +kernel
theorem dX3_init_18 : decode cX3_init 18 = .ok (.putfield 15, 3) := by decide +kernel
theorem dX3_init_21 : decode cX3_init 21 = .ok (.return_, 1) := by decide +kernel
theorem dX3_findBest_0 : decode cX3_findBest 0 = .ok (.iconst 0, 1) := by decide +kernel
theorem dX3_findBest_1 : decode cX3_findBest 1 = .ok (.istore_n 2, 1) := by decide +kernel
theorem dX3_findBest_2 : decode cX3_findBest 2 = .ok (.iload_n 2, 1) := by decide +kernel
theorem dX3_findBest_3 : decode cX3_findBest 3 = .ok (.sipush 256, 3) := by decide +kernel
theorem dX3_findBest_6 : decode cX3_findBest 6 = .ok (.if_icmp .ge 25, 3) := by decide +kernel
theorem dX3_findBest_9 : decode cX3_findBest 9 = .ok (.aload_n 0, 1) := by decide +kernel
theorem dX3_findBest_10 : decode cX3_findBest 10 = .ok (.getfield 15, 3) := by decide +kernel
theorem dX3_findBest_13 : decode cX3_findBest 13 = .ok (.aload_n 1, 1) := by decide +kernel
theorem dX3_findBest_14 : decode cX3_findBest 14 = .ok (.getfield 18, 3) := by decide +kernel
theorem dX3_findBest_17 : decode cX3_findBest 17 = .ok (.sipush 256, 3) := by decide +kernel
theorem dX3_findBest_20 : decode cX3_findBest 20 = .ok (.imul, 1) := by decide +kernel
theorem dX3_findBest_21 : decode cX3_findBest 21 = .ok (.iload_n 2, 1) := by decide +kernel
theorem dX3_findBest_22 : decode cX3_findBest 22 = .ok (.iadd, 1) := by decide +kernel
theorem dX3_findBest_23 : decode cX3_findBest 23 = .ok (.iconst 0, 1) := by decide +kernel
theorem dX3_findBest_24 : decode cX3_findBest 24 = .ok (.iastore, 1) := by decide +kernel
theorem dX3_findBest_25 : decode cX3_findBest 25 = .ok (.iinc 2 1, 3) := by decide +kernel
theorem dX3_findBest_28 : decode cX3_findBest 28 = .ok (.goto (-26), 3) := by decide +kernel
theorem dX3_findBest_31 : decode cX3_findBest 31 = .ok (.aload_n 1, 1) := by decide +kernel
theorem dX3_findBest_32 : decode cX3_findBest 32 = .ok (.getfield 18, 3) := by decide +kernel
theorem dX3_findBest_35 : decode cX3_findBest 35 = .ok (.iconst 1, 1) := by decide +kernel
theorem dX3_findBest_36 : decode cX3_findBest 36 = .ok (.isub, 1) := by decide +kernel
theorem dX3_findBest_37 : decode cX3_findBest 37 = .ok (.istore_n 2, 1) := by decide +kernel
theorem dX3_findBest_38 : decode cX3_findBest 38 = .ok (.iload_n 2, 1) := by decide +kernel
theorem dX3_findBest_39 : decode cX3_findBest 39 = .ok (.ifCond .lt 46, 3) := by decide +kernel
theorem dX3_findBest_42 : decode cX3_findBest 42 = .ok (.iconst 0, 1) := by decide +kernel
theorem dX3_findBest_43 : decode cX3_findBest 43 = .ok (.istore_n 3, 1) := by decide +kernel
theorem dX3_findBest_44 : decode cX3_findBest 44 = .ok (.iload_n 3, 1) := by decide +kernel
theorem dX3_findBest_45 : decode cX3_findBest 45 = .ok (.iconst 1, 1) := by decide +kernel
theorem dX3_findBest_46 : decode cX3_findBest 46 = .ok (.aload_n 1, 1) := by decide +kernel
theorem dX3_findBest_47 : decode cX3_findBest 47 = .ok (.getfield 24, 3) := by decide +kernel
theorem dX3_findBest_50 : decode cX3_findBest 50 = .ok (.ishl, 1) := by decide +kernel
theorem dX3_findBest_51 : decode cX3_findBest 51 = .ok (.if_icmp .ge 28, 3) := by decide +kernel
theorem dX3_findBest_54 : decode cX3_findBest 54 = .ok (.aload_n 0, 1) := by decide +kernel
theorem dX3_findBest_55 : decode cX3_findBest 55 = .ok (.getfield 15, 3) := by decide +kernel
theorem dX3_findBest_58 : decode cX3_findBest 58 = .ok (.iload_n 2, 1) := by decide +kernel
theorem dX3_findBest_59 : decode cX3_findBest 59 = .ok (.sipush 256, 3) := by decide +kernel
theorem dX3_findBest_62 : decode cX3_findBest 62 = .ok (.imul, 1) := by decide +kernel
theorem dX3_findBest_63 : decode cX3_findBest 63 = .ok (.iload_n 3, 1) := by decide +kernel
theorem dX3_findBest_64 : decode cX3_findBest 64 = .ok (.iadd, 1) := by decide +kernel
theorem dX3_findBest_65 : decode cX3_findBest 65 = .ok (.aload_n 0, 1) := by decide +kernel
theorem dX3_findBest_66 : decode cX3_findBest 66 = .ok (.aload_n 1, 1) := by decide +kernel
theorem dX3_findBest_67 : decode cX3_findBest 67 = .ok (.iload_n 2, 1) := by decide +kernel
theorem dX3_findBest_68 : decode cX3_findBest 68 = .ok (.iload_n 3, 1) := by decide +kernel
theorem dX3_findBest_69 : decode cX3_findBest 69 = .ok (.invokevirtual 27, 3) := by decide +kernel
theorem dX3_findBest_72 : decode cX3_findBest 72 = .ok (.iastore, 1) := by decide +kernel
theorem dX3_findBest_73 : decode cX3_findBest 73 = .ok (.iinc 3 1, 3) := by decide +kernel
theorem dX3_findBest_76 : decode cX3_findBest 76 = .ok (.goto (-32), 3) := by decide +kernel
theorem dX3_findBest_79 : decode cX3_findBest 79 = .ok (.iinc 2 (-1), 3) := by decide +kernel
theorem dX3_findBest_82 : decode cX3_findBest 82 = .ok (.goto (-44), 3) := by decide +kernel
theorem dX3_findBest_85 : decode cX3_findBest 85 = .ok (.aload_n 0, 1) := by decide +kernel
theorem dX3_findBest_86 : decode cX3_findBest 86 = .ok (.aload_n 1, 1) := by decide +kernel
theorem dX3_findBest_87 : decode cX3_findBest 87 = .ok (.invokevirtual 31, 3) := by decide +kernel
theorem dX3_findBest_90 : decode cX3_findBest 90 = .ok (.return_, 1) := by decide +kernel
theorem dX3_mostFor_0 : decode cX3_mostFor 0 = .ok (.aload_n 0, 1) := by decide +kernel
theorem dX3_mostFor_1 : decode cX3_mostFor 1 = .ok (.getfield 15, 3) := by decide +kernel
theorem dX3_mostFor_4 : decode cX3_mostFor 4 = .ok (.iload_n 2, 1) := by decide +kernel
theorem dX3_mostFor_5 : decode cX3_mostFor 5 = .ok (.iconst 1, 1) := by decide +kernel
theorem dX3_mostFor_6 : decode cX3_mostFor 6 = .ok (.iadd, 1) := by decide +kernel
theorem dX3_mostFor_7 : decode cX3_mostFor 7 = .ok (.sipush 256, 3) := by decide +kernel
theorem dX3_mostFor_10 : decode cX3_mostFor 10 = .ok (.imul, 1) := by decide +kernel
theorem dX3_mostFor_11 : decode cX3_mostFor 11 = .ok (.iload_n 3, 1) := by decide +kernel
theorem dX3_mostFor_12 : decode cX3_mostFor 12 = .ok (.iadd, 1) := by decide +kernel
theorem dX3_mostFor_13 : decode cX3_mostFor 13 = .ok (.iaload, 1) := by decide +kernel
theorem dX3_mostFor_14 : decode cX3_mostFor 14 = .ok (.istore 4, 2) := by decide +kernel
theorem dX3_mostFor_16 : decode cX3_mostFor 16 = .ok (.iconst 0, 1) := by decide +kernel
theorem dX3_mostFor_17 : decode cX3_mostFor 17 = .ok (.istore 5, 2) := by decide +kernel
theorem dX3_mostFor_19 : decode cX3_mostFor 19 = .ok (.iload 5, 2) := by decide +kernel
theorem dX3_mostFor_21 : decode cX3_mostFor 21 = .ok (.aload_n 1, 1) := by decide +kernel
theorem dX3_mostFor_22 : decode cX3_mostFor 22 = .ok (.getfield 24, 3) := by decide +kernel
theorem dX3_mostFor_25 : decode cX3_mostFor 25 = .ok (.if_icmp .ge 36, 3) := by decide +kernel
theorem dX3_mostFor_28 : decode cX3_mostFor 28 = .ok (.aload_n 1, 1) := by decide +kernel
theorem dX3_mostFor_29 : decode cX3_mostFor 29 = .ok (.iload_n 2, 1) := by decide +kernel
theorem dX3_mostFor_30 : decode cX3_mostFor 30 = .ok (.iload 5, 2) := by decide +kernel
theorem dX3_mostFor_32 : decode cX3_mostFor 32 = .ok (.iload_n 3, 1) := by decide +kernel
theorem dX3_mostFor_33 : decode cX3_mostFor 33 = .ok (.invokestatic 35, 3) := by decide +kernel
theorem dX3_mostFor_36 : decode cX3_mostFor 36 = .ok (.ifCond .eq 19, 3) := by decide +kernel
theorem dX3_mostFor_39 : decode cX3_mostFor 39 = .ok (.iload 4, 2) := by decide +kernel
theorem dX3_mostFor_41 : decode cX3_mostFor 41 = .ok (.aload_n 0, 1) := by decide +kernel
theorem dX3_mostFor_42 : decode cX3_mostFor 42 = .ok (.aload_n 1, 1) := by decide +kernel
theorem dX3_mostFor_43 : decode cX3_mostFor 43 = .ok (.iload_n 2, 1) := by decide +kernel
theorem dX3_mostFor_44 : decode cX3_mostFor 44 = .ok (.iload 5, 2) := by decide +kernel
theorem dX3_mostFor_46 : decode cX3_mostFor 46 = .ok (.iload_n 3, 1) := by decide +kernel
theorem dX3_mostFor_47 : decode cX3_mostFor 47 = .ok (.invokevirtual 39, 3) := by decide +kernel
theorem dX3_mostFor_50 : decode cX3_mostFor 50 = .ok (.invokestatic 43, 3) := by decide +kernel
theorem dX3_mostFor_53 : decode cX3_mostFor 53 = .ok (.istore 4, 2) := by decide +kernel
theorem dX3_mostFor_55 : decode cX3_mostFor 55 = .ok (.iinc 5 1, 3) := by decide +kernel
theorem dX3_mostFor_58 : decode cX3_mostFor 58 = .ok (.goto (-39), 3) := by decide +kernel
theorem dX3_mostFor_61 : decode cX3_mostFor 61 = .ok (.iload 4, 2) := by decide +kernel
theorem dX3_mostFor_63 : decode cX3_mostFor 63 = .ok (.ireturn, 1) := by decide +kernel
theorem dX3_mayTake_0 : decode cX3_mayTake 0 = .ok (.aload_n 0, 1) := by decide +kernel
theorem dX3_mayTake_1 : decode cX3_mayTake 1 = .ok (.iload_n 1, 1) := by decide +kernel
theorem dX3_mayTake_2 : decode cX3_mayTake 2 = .ok (.invokevirtual 49, 3) := by decide +kernel
theorem dX3_mayTake_5 : decode cX3_mayTake 5 = .ok (.ifCond .eq 23, 3) := by decide +kernel
theorem dX3_mayTake_8 : decode cX3_mayTake 8 = .ok (.iload_n 3, 1) := by decide +kernel
theorem dX3_mayTake_9 : decode cX3_mayTake 9 = .ok (.iload_n 2, 1) := by decide +kernel
theorem dX3_mayTake_10 : decode cX3_mayTake 10 = .ok (.invokestatic 53, 3) := by decide +kernel
theorem dX3_mayTake_13 : decode cX3_mayTake 13 = .ok (.ifCond .ne 15, 3) := by decide +kernel
theorem dX3_mayTake_16 : decode cX3_mayTake 16 = .ok (.aload_n 0, 1) := by decide +kernel
theorem dX3_mayTake_17 : decode cX3_mayTake 17 = .ok (.iload_n 2, 1) := by decide +kernel
theorem dX3_mayTake_18 : decode cX3_mayTake 18 = .ok (.invokevirtual 57, 3) := by decide +kernel
theorem dX3_mayTake_21 : decode cX3_mayTake 21 = .ok (.ifCond .ne 7, 3) := by decide +kernel
theorem dX3_mayTake_24 : decode cX3_mayTake 24 = .ok (.iconst 1, 1) := by decide +kernel
theorem dX3_mayTake_25 : decode cX3_mayTake 25 = .ok (.goto 4, 3) := by decide +kernel
theorem dX3_mayTake_28 : decode cX3_mayTake 28 = .ok (.iconst 0, 1) := by decide +kernel
theorem dX3_mayTake_29 : decode cX3_mayTake 29 = .ok (.ireturn, 1) := by decide +kernel
theorem dX3_worthOf_0 : decode cX3_worthOf 0 = .ok (.sipush 1000, 3) := by decide +kernel
theorem dX3_worthOf_3 : decode cX3_worthOf 3 = .ok (.aload_n 1, 1) := by decide +kernel
theorem dX3_worthOf_4 : decode cX3_worthOf 4 = .ok (.iload_n 2, 1) := by decide +kernel
theorem dX3_worthOf_5 : decode cX3_worthOf 5 = .ok (.iload_n 3, 1) := by decide +kernel
theorem dX3_worthOf_6 : decode cX3_worthOf 6 = .ok (.invokevirtual 60, 3) := by decide +kernel
theorem dX3_worthOf_9 : decode cX3_worthOf 9 = .ok (.isub, 1) := by decide +kernel
theorem dX3_worthOf_10 : decode cX3_worthOf 10 = .ok (.aload_n 0, 1) := by decide +kernel
theorem dX3_worthOf_11 : decode cX3_worthOf 11 = .ok (.getfield 15, 3) := by decide +kernel
theorem dX3_worthOf_14 : decode cX3_worthOf 14 = .ok (.iload_n 2, 1) := by decide +kernel
theorem dX3_worthOf_15 : decode cX3_worthOf 15 = .ok (.iconst 1, 1) := by decide +kernel
theorem dX3_worthOf_16 : decode cX3_worthOf 16 = .ok (.iadd, 1) := by decide +kernel
theorem dX3_worthOf_17 : decode cX3_worthOf 17 = .ok (.sipush 256, 3) := by decide +kernel
theorem dX3_worthOf_20 : decode cX3_worthOf 20 = .ok (.imul, 1) := by decide +kernel
theorem dX3_worthOf_21 : decode cX3_worthOf 21 = .ok (.iload 4, 2) := by decide +kernel
theorem dX3_worthOf_23 : decode cX3_worthOf 23 = .ok (.iconst 1, 1) := by decide +kernel
theorem dX3_worthOf_24 : decode cX3_worthOf 24 = .ok (.iload_n 3, 1) := by decide +kernel
theorem dX3_worthOf_25 : decode cX3_worthOf 25 = .ok (.ishl, 1) := by decide +kernel
theorem dX3_worthOf_26 : decode cX3_worthOf 26 = .ok (.ior, 1) := by decide +kernel
theorem dX3_worthOf_27 : decode cX3_worthOf 27 = .ok (.iadd, 1) := by decide +kernel
theorem dX3_worthOf_28 : decode cX3_worthOf 28 = .ok (.iaload, 1) := by decide +kernel
theorem dX3_worthOf_29 : decode cX3_worthOf 29 = .ok (.iadd, 1) := by decide +kernel
theorem dX3_worthOf_30 : decode cX3_worthOf 30 = .ok (.ireturn, 1) := by decide +kernel
theorem dX3_followBest_0 : decode cX3_followBest 0 = .ok (.iconst 0, 1) := by decide +kernel
theorem dX3_followBest_1 : decode cX3_followBest 1 = .ok (.istore_n 2, 1) := by decide +kernel
theorem dX3_followBest_2 : decode cX3_followBest 2 = .ok (.aload_n 0, 1) := by decide +kernel
theorem dX3_followBest_3 : decode cX3_followBest 3 = .ok (.iconst 0, 1) := by decide +kernel
theorem dX3_followBest_4 : decode cX3_followBest 4 = .ok (.putfield 63, 3) := by decide +kernel
theorem dX3_followBest_7 : decode cX3_followBest 7 = .ok (.iconst 0, 1) := by decide +kernel
theorem dX3_followBest_8 : decode cX3_followBest 8 = .ok (.istore_n 3, 1) := by decide +kernel
theorem dX3_followBest_9 : decode cX3_followBest 9 = .ok (.iload_n 3, 1) := by decide +kernel
theorem dX3_followBest_10 : decode cX3_followBest 10 = .ok (.aload_n 1, 1) := by decide +kernel
theorem dX3_followBest_11 : decode cX3_followBest 11 = .ok (.getfield 18, 3) := by decide +kernel
theorem dX3_followBest_14 : decode cX3_followBest 14 = .ok (.if_icmp .ge 56, 3) := by decide +kernel
theorem dX3_followBest_17 : decode cX3_followBest 17 = .ok (.aload_n 0, 1) := by decide +kernel
theorem dX3_followBest_18 : decode cX3_followBest 18 = .ok (.aload_n 1, 1) := by decide +kernel
theorem dX3_followBest_19 : decode cX3_followBest 19 = .ok (.iload_n 3, 1) := by decide +kernel
theorem dX3_followBest_20 : decode cX3_followBest 20 = .ok (.iload_n 2, 1) := by decide +kernel
theorem dX3_followBest_21 : decode cX3_followBest 21 = .ok (.invokevirtual 66, 3) := by decide +kernel
theorem dX3_followBest_24 : decode cX3_followBest 24 = .ok (.istore 4, 2) := by decide +kernel
theorem dX3_followBest_26 : decode cX3_followBest 26 = .ok (.aload_n 0, 1) := by decide +kernel
theorem dX3_followBest_27 : decode cX3_followBest 27 = .ok (.getfield 9, 3) := by decide +kernel
theorem dX3_followBest_30 : decode cX3_followBest 30 = .ok (.iload_n 3, 1) := by decide +kernel
theorem dX3_followBest_31 : decode cX3_followBest 31 = .ok (.iload 4, 2) := by decide +kernel
theorem dX3_followBest_33 : decode cX3_followBest 33 = .ok (.iastore, 1) := by decide +kernel
theorem dX3_followBest_34 : decode cX3_followBest 34 = .ok (.iload 4, 2) := by decide +kernel
theorem dX3_followBest_36 : decode cX3_followBest 36 = .ok (.bipush (-9), 2) := by decide +kernel
theorem dX3_followBest_38 : decode cX3_followBest 38 = .ok (.if_icmp .eq 26, 3) := by decide +kernel
theorem dX3_followBest_41 : decode cX3_followBest 41 = .ok (.iload_n 2, 1) := by decide +kernel
theorem dX3_followBest_42 : decode cX3_followBest 42 = .ok (.iconst 1, 1) := by decide +kernel
theorem dX3_followBest_43 : decode cX3_followBest 43 = .ok (.iload 4, 2) := by decide +kernel
theorem dX3_followBest_45 : decode cX3_followBest 45 = .ok (.ishl, 1) := by decide +kernel
theorem dX3_followBest_46 : decode cX3_followBest 46 = .ok (.ior, 1) := by decide +kernel
theorem dX3_followBest_47 : decode cX3_followBest 47 = .ok (.istore_n 2, 1) := by decide +kernel
theorem dX3_followBest_48 : decode cX3_followBest 48 = .ok (.aload_n 0, 1) := by decide +kernel
theorem dX3_followBest_49 : decode cX3_followBest 49 = .ok (.dup, 1) := by decide +kernel
theorem dX3_followBest_50 : decode cX3_followBest 50 = .ok (.getfield 63, 3) := by decide +kernel
theorem dX3_followBest_53 : decode cX3_followBest 53 = .ok (.aload_n 1, 1) := by decide +kernel
theorem dX3_followBest_54 : decode cX3_followBest 54 = .ok (.iload_n 3, 1) := by decide +kernel
theorem dX3_followBest_55 : decode cX3_followBest 55 = .ok (.iload 4, 2) := by decide +kernel
theorem dX3_followBest_57 : decode cX3_followBest 57 = .ok (.invokevirtual 60, 3) := by decide +kernel
theorem dX3_followBest_60 : decode cX3_followBest 60 = .ok (.iadd, 1) := by decide +kernel
theorem dX3_followBest_61 : decode cX3_followBest 61 = .ok (.putfield 63, 3) := by decide +kernel
theorem dX3_followBest_64 : decode cX3_followBest 64 = .ok (.iinc 3 1, 3) := by decide +kernel
theorem dX3_followBest_67 : decode cX3_followBest 67 = .ok (.goto (-58), 3) := by decide +kernel
theorem dX3_followBest_70 : decode cX3_followBest 70 = .ok (.return_, 1) := by decide +kernel
theorem dX3_smallestBest_0 : decode cX3_smallestBest 0 = .ok (.iconst 0, 1) := by decide +kernel
theorem dX3_smallestBest_1 : decode cX3_smallestBest 1 = .ok (.istore 4, 2) := by decide +kernel
theorem dX3_smallestBest_3 : decode cX3_smallestBest 3 = .ok (.iload 4, 2) := by decide +kernel
theorem dX3_smallestBest_5 : decode cX3_smallestBest 5 = .ok (.aload_n 1, 1) := by decide +kernel
theorem dX3_smallestBest_6 : decode cX3_smallestBest 6 = .ok (.getfield 24, 3) := by decide +kernel
theorem dX3_smallestBest_9 : decode cX3_smallestBest 9 = .ok (.if_icmp .ge 47, 3) := by decide +kernel
theorem dX3_smallestBest_12 : decode cX3_smallestBest 12 = .ok (.aload_n 1, 1) := by decide +kernel
theorem dX3_smallestBest_13 : decode cX3_smallestBest 13 = .ok (.iload_n 2, 1) := by decide +kernel
theorem dX3_smallestBest_14 : decode cX3_smallestBest 14 = .ok (.iload 4, 2) := by decide +kernel
theorem dX3_smallestBest_16 : decode cX3_smallestBest 16 = .ok (.iload_n 3, 1) := by decide +kernel
theorem dX3_smallestBest_17 : decode cX3_smallestBest 17 = .ok (.invokestatic 35, 3) := by decide +kernel
theorem dX3_smallestBest_20 : decode cX3_smallestBest 20 = .ok (.ifCond .eq 30, 3) := by decide +kernel
theorem dX3_smallestBest_23 : decode cX3_smallestBest 23 = .ok (.aload_n 0, 1) := by decide +kernel
theorem dX3_smallestBest_24 : decode cX3_smallestBest 24 = .ok (.aload_n 1, 1) := by decide +kernel
theorem dX3_smallestBest_25 : decode cX3_smallestBest 25 = .ok (.iload_n 2, 1) := by decide +kernel
theorem dX3_smallestBest_26 : decode cX3_smallestBest 26 = .ok (.iload 4, 2) := by decide +kernel
theorem dX3_smallestBest_28 : decode cX3_smallestBest 28 = .ok (.iload_n 3, 1) := by decide +kernel
theorem dX3_smallestBest_29 : decode cX3_smallestBest 29 = .ok (.invokevirtual 39, 3) := by decide +kernel
theorem dX3_smallestBest_32 : decode cX3_smallestBest 32 = .ok (.aload_n 0, 1) := by decide +kernel
theorem dX3_smallestBest_33 : decode cX3_smallestBest 33 = .ok (.getfield 15, 3) := by decide +kernel
theorem dX3_smallestBest_36 : decode cX3_smallestBest 36 = .ok (.iload_n 2, 1) := by decide +kernel
theorem dX3_smallestBest_37 : decode cX3_smallestBest 37 = .ok (.sipush 256, 3) := by decide +kernel
theorem dX3_smallestBest_40 : decode cX3_smallestBest 40 = .ok (.imul, 1) := by decide +kernel
theorem dX3_smallestBest_41 : decode cX3_smallestBest 41 = .ok (.iload_n 3, 1) := by decide +kernel
theorem dX3_smallestBest_42 : decode cX3_smallestBest 42 = .ok (.iadd, 1) := by decide +kernel
theorem dX3_smallestBest_43 : decode cX3_smallestBest 43 = .ok (.iaload, 1) := by decide +kernel
theorem dX3_smallestBest_44 : decode cX3_smallestBest 44 = .ok (.if_icmp .ne 6, 3) := by decide +kernel
theorem dX3_smallestBest_47 : decode cX3_smallestBest 47 = .ok (.iload 4, 2) := by decide +kernel
theorem dX3_smallestBest_49 : decode cX3_smallestBest 49 = .ok (.ireturn, 1) := by decide +kernel
theorem dX3_smallestBest_50 : decode cX3_smallestBest 50 = .ok (.iinc 4 1, 3) := by decide +kernel
theorem dX3_smallestBest_53 : decode cX3_smallestBest 53 = .ok (.goto (-50), 3) := by decide +kernel
theorem dX3_smallestBest_56 : decode cX3_smallestBest 56 = .ok (.bipush (-9), 2) := by decide +kernel
theorem dX3_smallestBest_58 : decode cX3_smallestBest 58 = .ok (.ireturn, 1) := by decide +kernel
theorem dX4_init_0 : decode cX4_init 0 = .ok (.aload_n 0, 1) := by decide +kernel
theorem dX4_init_1 : decode cX4_init 1 = .ok (.invokespecial 3, 3) := by decide +kernel
theorem dX4_init_4 : decode cX4_init 4 = .ok (.aload_n 0, 1) := by decide +kernel
theorem dX4_init_5 : decode cX4_init 5 = .ok (.new 9, 3) := by decide +kernel
theorem dX4_init_8 : decode cX4_init 8 = .ok (.dup, 1) := by decide +kernel
theorem dX4_init_9 : decode cX4_init 9 = .ok (.invokespecial 11, 3) := by decide +kernel
theorem dX4_init_12 : decode cX4_init 12 = .ok (.putfield 12, 3) := by decide +kernel
theorem dX4_init_15 : decode cX4_init 15 = .ok (.return_, 1) := by decide +kernel
theorem dX4_makeSteps_0 : decode cX4_makeSteps 0 = .ok (.iconst 0, 1) := by decide +kernel
theorem dX4_makeSteps_1 : decode cX4_makeSteps 1 = .ok (.istore_n 3, 1) := by decide +kernel
theorem dX4_makeSteps_2 : decode cX4_makeSteps 2 = .ok (.iload_n 3, 1) := by decide +kernel
theorem dX4_makeSteps_3 : decode cX4_makeSteps 3 = .ok (.iload_n 2, 1) := by decide +kernel
theorem dX4_makeSteps_4 : decode cX4_makeSteps 4 = .ok (.if_icmp .ge 130, 3) := by decide +kernel
theorem dX4_makeSteps_7 : decode cX4_makeSteps 7 = .ok (.aload_n 0, 1) := by decide +kernel
theorem dX4_makeSteps_8 : decode cX4_makeSteps 8 = .ok (.getfield 12, 3) := by decide +kernel
theorem dX4_makeSteps_11 : decode cX4_makeSteps 11 = .ok (.aload_n 1, 1) := by decide +kernel
theorem dX4_makeSteps_12 : decode cX4_makeSteps 12 = .ok (.getfield 18, 3) := by decide +kernel
theorem dX4_makeSteps_15 : decode cX4_makeSteps 15 = .ok (.invokevirtual 23, 3) := by decide +kernel
theorem dX4_makeSteps_18 : decode cX4_makeSteps 18 = .ok (.iconst 0, 1) := by decide +kernel
theorem dX4_makeSteps_19 : decode cX4_makeSteps 19 = .ok (.istore 4, 2) := by decide +kernel
theorem dX4_makeSteps_21 : decode cX4_makeSteps 21 = .ok (.iload 4, 2) := by decide +kernel
theorem dX4_makeSteps_23 : decode cX4_makeSteps 23 = .ok (.aload_n 1, 1) := by decide +kernel
theorem dX4_makeSteps_24 : decode cX4_makeSteps 24 = .ok (.getfield 27, 3) := by decide +kernel
theorem dX4_makeSteps_27 : decode cX4_makeSteps 27 = .ok (.if_icmp .ge 25, 3) := by decide +kernel
theorem dX4_makeSteps_30 : decode cX4_makeSteps 30 = .ok (.aload_n 1, 1) := by decide +kernel
theorem dX4_makeSteps_31 : decode cX4_makeSteps 31 = .ok (.iload 4, 2) := by decide +kernel
theorem dX4_makeSteps_33 : decode cX4_makeSteps 33 = .ok (.invokevirtual 31, 3) := by decide +kernel
theorem dX4_makeSteps_36 : decode cX4_makeSteps 36 = .ok (.ifCond .eq 10, 3) := by decide +kernel
theorem dX4_makeSteps_39 : decode cX4_makeSteps 39 = .ok (.aload_n 0, 1) := by decide +kernel
theorem dX4_makeSteps_40 : decode cX4_makeSteps 40 = .ok (.aload_n 1, 1) := by decide +kernel
theorem dX4_makeSteps_41 : decode cX4_makeSteps 41 = .ok (.iload 4, 2) := by decide +kernel
theorem dX4_makeSteps_43 : decode cX4_makeSteps 43 = .ok (.invokevirtual 35, 3) := by decide +kernel
theorem dX4_makeSteps_46 : decode cX4_makeSteps 46 = .ok (.iinc 4 1, 3) := by decide +kernel
theorem dX4_makeSteps_49 : decode cX4_makeSteps 49 = .ok (.goto (-28), 3) := by decide +kernel
theorem dX4_makeSteps_52 : decode cX4_makeSteps 52 = .ok (.iconst 0, 1) := by decide +kernel
theorem dX4_makeSteps_53 : decode cX4_makeSteps 53 = .ok (.istore 4, 2) := by decide +kernel
theorem dX4_makeSteps_55 : decode cX4_makeSteps 55 = .ok (.iload 4, 2) := by decide +kernel
theorem dX4_makeSteps_57 : decode cX4_makeSteps 57 = .ok (.aload_n 1, 1) := by decide +kernel
theorem dX4_makeSteps_58 : decode cX4_makeSteps 58 = .ok (.getfield 27, 3) := by decide +kernel
theorem dX4_makeSteps_61 : decode cX4_makeSteps 61 = .ok (.if_icmp .ge 24, 3) := by decide +kernel
theorem dX4_makeSteps_64 : decode cX4_makeSteps 64 = .ok (.aload_n 1, 1) := by decide +kernel
theorem dX4_makeSteps_65 : decode cX4_makeSteps 65 = .ok (.iload 4, 2) := by decide +kernel
theorem dX4_makeSteps_67 : decode cX4_makeSteps 67 = .ok (.invokevirtual 31, 3) := by decide +kernel
theorem dX4_makeSteps_70 : decode cX4_makeSteps 70 = .ok (.ifCond .eq 9, 3) := by decide +kernel
theorem dX4_makeSteps_73 : decode cX4_makeSteps 73 = .ok (.aload_n 1, 1) := by decide +kernel
theorem dX4_makeSteps_74 : decode cX4_makeSteps 74 = .ok (.iload 4, 2) := by decide +kernel
theorem dX4_makeSteps_76 : decode cX4_makeSteps 76 = .ok (.invokestatic 39, 3) := by decide +kernel
theorem dX4_makeSteps_79 : decode cX4_makeSteps 79 = .ok (.iinc 4 1, 3) := by decide +kernel
theorem dX4_makeSteps_82 : decode cX4_makeSteps 82 = .ok (.goto (-27), 3) := by decide +kernel
theorem dX4_makeSteps_85 : decode cX4_makeSteps 85 = .ok (.iconst 0, 1) := by decide +kernel
theorem dX4_makeSteps_86 : decode cX4_makeSteps 86 = .ok (.istore 4, 2) := by decide +kernel
theorem dX4_makeSteps_88 : decode cX4_makeSteps 88 = .ok (.iload 4, 2) := by decide +kernel
theorem dX4_makeSteps_90 : decode cX4_makeSteps 90 = .ok (.aload_n 1, 1) := by decide +kernel
theorem dX4_makeSteps_91 : decode cX4_makeSteps 91 = .ok (.getfield 27, 3) := by decide +kernel
theorem dX4_makeSteps_94 : decode cX4_makeSteps 94 = .ok (.if_icmp .ge 24, 3) := by decide +kernel
theorem dX4_makeSteps_97 : decode cX4_makeSteps 97 = .ok (.aload_n 1, 1) := by decide +kernel
theorem dX4_makeSteps_98 : decode cX4_makeSteps 98 = .ok (.iload 4, 2) := by decide +kernel
theorem dX4_makeSteps_100 : decode cX4_makeSteps 100 = .ok (.invokevirtual 31, 3) := by decide +kernel
theorem dX4_makeSteps_103 : decode cX4_makeSteps 103 = .ok (.ifCond .eq 9, 3) := by decide +kernel
theorem dX4_makeSteps_106 : decode cX4_makeSteps 106 = .ok (.aload_n 1, 1) := by decide +kernel
theorem dX4_makeSteps_107 : decode cX4_makeSteps 107 = .ok (.iload 4, 2) := by decide +kernel
theorem dX4_makeSteps_109 : decode cX4_makeSteps 109 = .ok (.invokestatic 42, 3) := by decide +kernel
theorem dX4_makeSteps_112 : decode cX4_makeSteps 112 = .ok (.iinc 4 1, 3) := by decide +kernel
theorem dX4_makeSteps_115 : decode cX4_makeSteps 115 = .ok (.goto (-27), 3) := by decide +kernel
theorem dX4_makeSteps_118 : decode cX4_makeSteps 118 = .ok (.aload_n 1, 1) := by decide +kernel
theorem dX4_makeSteps_119 : decode cX4_makeSteps 119 = .ok (.dup, 1) := by decide +kernel
theorem dX4_makeSteps_120 : decode cX4_makeSteps 120 = .ok (.getfield 45, 3) := by decide +kernel
theorem dX4_makeSteps_123 : decode cX4_makeSteps 123 = .ok (.iconst 1, 1) := by decide +kernel
theorem dX4_makeSteps_124 : decode cX4_makeSteps 124 = .ok (.iadd, 1) := by decide +kernel
theorem dX4_makeSteps_125 : decode cX4_makeSteps 125 = .ok (.putfield 45, 3) := by decide +kernel
theorem dX4_makeSteps_128 : decode cX4_makeSteps 128 = .ok (.iinc 3 1, 3) := by decide +kernel
theorem dX4_makeSteps_131 : decode cX4_makeSteps 131 = .ok (.goto (-129), 3) := by decide +kernel
theorem dX4_makeSteps_134 : decode cX4_makeSteps 134 = .ok (.return_, 1) := by decide +kernel
theorem dX4_compareNotes_0 : decode cX4_compareNotes 0 = .ok (.aload_n 1, 1) := by decide +kernel
theorem dX4_compareNotes_1 : decode cX4_compareNotes 1 = .ok (.iload_n 2, 1) := by decide +kernel
theorem dX4_compareNotes_2 : decode cX4_compareNotes 2 = .ok (.invokevirtual 48, 3) := by decide +kernel
theorem dX4_compareNotes_5 : decode cX4_compareNotes 5 = .ok (.istore_n 3, 1) := by decide +kernel
theorem dX4_compareNotes_6 : decode cX4_compareNotes 6 = .ok (.iconst 0, 1) := by decide +kernel
theorem dX4_compareNotes_7 : decode cX4_compareNotes 7 = .ok (.istore 4, 2) := by decide +kernel
theorem dX4_compareNotes_9 : decode cX4_compareNotes 9 = .ok (.iload 4, 2) := by decide +kernel
theorem dX4_compareNotes_11 : decode cX4_compareNotes 11 = .ok (.aload_n 1, 1) := by decide +kernel
theorem dX4_compareNotes_12 : decode cX4_compareNotes 12 = .ok (.getfield 52, 3) := by decide +kernel
theorem dX4_compareNotes_15 : decode cX4_compareNotes 15 = .ok (.if_icmp .ge 74, 3) := by decide +kernel
theorem dX4_compareNotes_18 : decode cX4_compareNotes 18 = .ok (.iload_n 2, 1) := by decide +kernel
theorem dX4_compareNotes_19 : decode cX4_compareNotes 19 = .ok (.iload 4, 2) := by decide +kernel
theorem dX4_compareNotes_21 : decode cX4_compareNotes 21 = .ok (.invokestatic 55, 3) := by decide +kernel
theorem dX4_compareNotes_24 : decode cX4_compareNotes 24 = .ok (.istore 5, 2) := by decide +kernel
theorem dX4_compareNotes_26 : decode cX4_compareNotes 26 = .ok (.aload_n 0, 1) := by decide +kernel
theorem dX4_compareNotes_27 : decode cX4_compareNotes 27 = .ok (.aload_n 1, 1) := by decide +kernel
theorem dX4_compareNotes_28 : decode cX4_compareNotes 28 = .ok (.iload 5, 2) := by decide +kernel
theorem dX4_compareNotes_30 : decode cX4_compareNotes 30 = .ok (.iload_n 3, 1) := by decide +kernel
theorem dX4_compareNotes_31 : decode cX4_compareNotes 31 = .ok (.iload 4, 2) := by decide +kernel
theorem dX4_compareNotes_33 : decode cX4_compareNotes 33 = .ok (.invokevirtual 59, 3) := by decide +kernel
theorem dX4_compareNotes_36 : decode cX4_compareNotes 36 = .ok (.istore 6, 2) := by decide +kernel
theorem dX4_compareNotes_38 : decode cX4_compareNotes 38 = .ok (.aload_n 0, 1) := by decide +kernel
theorem dX4_compareNotes_39 : decode cX4_compareNotes 39 = .ok (.getfield 12, 3) := by decide +kernel
theorem dX4_compareNotes_42 : decode cX4_compareNotes 42 = .ok (.iload 6, 2) := by decide +kernel
theorem dX4_compareNotes_44 : decode cX4_compareNotes 44 = .ok (.aload_n 1, 1) := by decide +kernel
theorem dX4_compareNotes_45 : decode cX4_compareNotes 45 = .ok (.getfield 45, 3) := by decide +kernel
theorem dX4_compareNotes_48 : decode cX4_compareNotes 48 = .ok (.invokevirtual 63, 3) := by decide +kernel
theorem dX4_compareNotes_51 : decode cX4_compareNotes 51 = .ok (.ifCond .eq 17, 3) := by decide +kernel
theorem dX4_compareNotes_54 : decode cX4_compareNotes 54 = .ok (.aload_n 1, 1) := by decide +kernel
theorem dX4_compareNotes_55 : decode cX4_compareNotes 55 = .ok (.getfield 18, 3) := by decide +kernel
theorem dX4_compareNotes_58 : decode cX4_compareNotes 58 = .ok (.getfield 67, 3) := by decide +kernel
theorem dX4_compareNotes_61 : decode cX4_compareNotes 61 = .ok (.iload 5, 2) := by decide +kernel
theorem dX4_compareNotes_63 : decode cX4_compareNotes 63 = .ok (.iconst 0, 1) := by decide +kernel
theorem dX4_compareNotes_64 : decode cX4_compareNotes 64 = .ok (.iastore, 1) := by decide +kernel
theorem dX4_compareNotes_65 : decode cX4_compareNotes 65 = .ok (.goto 18, 3) := by decide +kernel
theorem dX4_compareNotes_68 : decode cX4_compareNotes 68 = .ok (.aload_n 1, 1) := by decide +kernel
theorem dX4_compareNotes_69 : decode cX4_compareNotes 69 = .ok (.getfield 18, 3) := by decide +kernel
theorem dX4_compareNotes_72 : decode cX4_compareNotes 72 = .ok (.iload 5, 2) := by decide +kernel
theorem dX4_compareNotes_74 : decode cX4_compareNotes 74 = .ok (.aload_n 0, 1) := by decide +kernel
theorem dX4_compareNotes_75 : decode cX4_compareNotes 75 = .ok (.getfield 12, 3) := by decide +kernel
theorem dX4_compareNotes_78 : decode cX4_compareNotes 78 = .ok (.iload 6, 2) := by decide +kernel
theorem dX4_compareNotes_80 : decode cX4_compareNotes 80 = .ok (.invokevirtual 71, 3) := by decide +kernel
theorem dX4_compareNotes_83 : decode cX4_compareNotes 83 = .ok (.iinc 4 1, 3) := by decide +kernel
theorem dX4_compareNotes_86 : decode cX4_compareNotes 86 = .ok (.goto (-77), 3) := by decide +kernel
theorem dX4_compareNotes_89 : decode cX4_compareNotes 89 = .ok (.return_, 1) := by decide +kernel
theorem dX4_bestNote_0 : decode cX4_bestNote 0 = .ok (.iload_n 2, 1) := by decide +kernel
theorem dX4_bestNote_1 : decode cX4_bestNote 1 = .ok (.istore 5, 2) := by decide +kernel
theorem dX4_bestNote_3 : decode cX4_bestNote 3 = .ok (.iconst 0, 1) := by decide +kernel
theorem dX4_bestNote_4 : decode cX4_bestNote 4 = .ok (.istore 6, 2) := by decide +kernel
theorem dX4_bestNote_6 : decode cX4_bestNote 6 = .ok (.iload 6, 2) := by decide +kernel
theorem dX4_bestNote_8 : decode cX4_bestNote 8 = .ok (.aload_n 1, 1) := by decide +kernel
theorem dX4_bestNote_9 : decode cX4_bestNote 9 = .ok (.getfield 27, 3) := by decide +kernel
theorem dX4_bestNote_12 : decode cX4_bestNote 12 = .ok (.if_icmp .ge 49, 3) := by decide +kernel
theorem dX4_bestNote_15 : decode cX4_bestNote 15 = .ok (.iload 6, 2) := by decide +kernel
theorem dX4_bestNote_17 : decode cX4_bestNote 17 = .ok (.iload 4, 2) := by decide +kernel
theorem dX4_bestNote_19 : decode cX4_bestNote 19 = .ok (.invokestatic 55, 3) := by decide +kernel
theorem dX4_bestNote_22 : decode cX4_bestNote 22 = .ok (.istore 7, 2) := by decide +kernel
theorem dX4_bestNote_24 : decode cX4_bestNote 24 = .ok (.iload_n 3, 1) := by decide +kernel
theorem dX4_bestNote_25 : decode cX4_bestNote 25 = .ok (.iload 6, 2) := by decide +kernel
theorem dX4_bestNote_27 : decode cX4_bestNote 27 = .ok (.invokestatic 75, 3) := by decide +kernel
theorem dX4_bestNote_30 : decode cX4_bestNote 30 = .ok (.ifCond .eq 25, 3) := by decide +kernel
theorem dX4_bestNote_33 : decode cX4_bestNote 33 = .ok (.aload_n 0, 1) := by decide +kernel
theorem dX4_bestNote_34 : decode cX4_bestNote 34 = .ok (.getfield 12, 3) := by decide +kernel
theorem dX4_bestNote_37 : decode cX4_bestNote 37 = .ok (.iload 7, 2) := by decide +kernel
theorem dX4_bestNote_39 : decode cX4_bestNote 39 = .ok (.iload 5, 2) := by decide +kernel
theorem dX4_bestNote_41 : decode cX4_bestNote 41 = .ok (.aload_n 1, 1) := by decide +kernel
theorem dX4_bestNote_42 : decode cX4_bestNote 42 = .ok (.getfield 45, 3) := by decide +kernel
theorem dX4_bestNote_45 : decode cX4_bestNote 45 = .ok (.invokevirtual 78, 3) := by decide +kernel
theorem dX4_bestNote_48 : decode cX4_bestNote 48 = .ok (.ifCond .eq 7, 3) := by decide +kernel
theorem dX4_bestNote_51 : decode cX4_bestNote 51 = .ok (.iload 7, 2) := by decide +kernel
theorem dX4_bestNote_53 : decode cX4_bestNote 53 = .ok (.istore 5, 2) := by decide +kernel
theorem dX4_bestNote_55 : decode cX4_bestNote 55 = .ok (.iinc 6 1, 3) := by decide +kernel
theorem dX4_bestNote_58 : decode cX4_bestNote 58 = .ok (.goto (-52), 3) := by decide +kernel
theorem dX4_bestNote_61 : decode cX4_bestNote 61 = .ok (.iload 5, 2) := by decide +kernel
theorem dX4_bestNote_63 : decode cX4_bestNote 63 = .ok (.ireturn, 1) := by decide +kernel
theorem dX4_chooseClaim_0 : decode cX4_chooseClaim 0 = .ok (.aload_n 0, 1) := by decide +kernel
theorem dX4_chooseClaim_1 : decode cX4_chooseClaim 1 = .ok (.iload_n 1, 1) := by decide +kernel
theorem dX4_chooseClaim_2 : decode cX4_chooseClaim 2 = .ok (.iconst 1, 1) := by decide +kernel
theorem dX4_chooseClaim_3 : decode cX4_chooseClaim 3 = .ok (.invokestatic 82, 3) := by decide +kernel
theorem dX4_chooseClaim_6 : decode cX4_chooseClaim 6 = .ok (.istore_n 2, 1) := by decide +kernel
theorem dX4_chooseClaim_7 : decode cX4_chooseClaim 7 = .ok (.iload_n 2, 1) := by decide +kernel
theorem dX4_chooseClaim_8 : decode cX4_chooseClaim 8 = .ok (.bipush (-9), 2) := by decide +kernel
theorem dX4_chooseClaim_10 : decode cX4_chooseClaim 10 = .ok (.if_icmp .ne 10, 3) := by decide +kernel
theorem dX4_chooseClaim_13 : decode cX4_chooseClaim 13 = .ok (.aload_n 0, 1) := by decide +kernel
theorem dX4_chooseClaim_14 : decode cX4_chooseClaim 14 = .ok (.iload_n 1, 1) := by decide +kernel
theorem dX4_chooseClaim_15 : decode cX4_chooseClaim 15 = .ok (.iconst 0, 1) := by decide +kernel
theorem dX4_chooseClaim_16 : decode cX4_chooseClaim 16 = .ok (.invokestatic 82, 3) := by decide +kernel
theorem dX4_chooseClaim_19 : decode cX4_chooseClaim 19 = .ok (.istore_n 2, 1) := by decide +kernel
theorem dX4_chooseClaim_20 : decode cX4_chooseClaim 20 = .ok (.iload_n 2, 1) := by decide +kernel
theorem dX4_chooseClaim_21 : decode cX4_chooseClaim 21 = .ok (.bipush (-9), 2) := by decide +kernel
theorem dX4_chooseClaim_23 : decode cX4_chooseClaim 23 = .ok (.if_icmp .ne 4, 3) := by decide +kernel
theorem dX4_chooseClaim_26 : decode cX4_chooseClaim 26 = .ok (.return_, 1) := by decide +kernel
theorem dX4_chooseClaim_27 : decode cX4_chooseClaim 27 = .ok (.aload_n 0, 1) := by decide +kernel
theorem dX4_chooseClaim_28 : decode cX4_chooseClaim 28 = .ok (.iload_n 1, 1) := by decide +kernel
theorem dX4_chooseClaim_29 : decode cX4_chooseClaim 29 = .ok (.invokevirtual 86, 3) := by decide +kernel
theorem dX4_chooseClaim_32 : decode cX4_chooseClaim 32 = .ok (.pop, 1) := by decide +kernel
theorem dX4_chooseClaim_33 : decode cX4_chooseClaim 33 = .ok (.aload_n 0, 1) := by decide +kernel
theorem dX4_chooseClaim_34 : decode cX4_chooseClaim 34 = .ok (.getfield 18, 3) := by decide +kernel
theorem dX4_chooseClaim_37 : decode cX4_chooseClaim 37 = .ok (.iload_n 1, 1) := by decide +kernel
theorem dX4_chooseClaim_38 : decode cX4_chooseClaim 38 = .ok (.iload_n 2, 1) := by decide +kernel
theorem dX4_chooseClaim_39 : decode cX4_chooseClaim 39 = .ok (.invokestatic 55, 3) := by decide +kernel
theorem dX4_chooseClaim_42 : decode cX4_chooseClaim 42 = .ok (.iload_n 1, 1) := by decide +kernel
theorem dX4_chooseClaim_43 : decode cX4_chooseClaim 43 = .ok (.aload_n 0, 1) := by decide +kernel
theorem dX4_chooseClaim_44 : decode cX4_chooseClaim 44 = .ok (.iload_n 1, 1) := by decide +kernel
theorem dX4_chooseClaim_45 : decode cX4_chooseClaim 45 = .ok (.iload_n 2, 1) := by decide +kernel
theorem dX4_chooseClaim_46 : decode cX4_chooseClaim 46 = .ok (.invokevirtual 89, 3) := by decide +kernel
theorem dX4_chooseClaim_49 : decode cX4_chooseClaim 49 = .ok (.aload_n 0, 1) := by decide +kernel
theorem dX4_chooseClaim_50 : decode cX4_chooseClaim 50 = .ok (.getfield 45, 3) := by decide +kernel
theorem dX4_chooseClaim_53 : decode cX4_chooseClaim 53 = .ok (.aload_n 0, 1) := by decide +kernel
theorem dX4_chooseClaim_54 : decode cX4_chooseClaim 54 = .ok (.getfield 92, 3) := by decide +kernel
theorem dX4_chooseClaim_57 : decode cX4_chooseClaim 57 = .ok (.iadd, 1) := by decide +kernel
theorem dX4_chooseClaim_58 : decode cX4_chooseClaim 58 = .ok (.invokevirtual 95, 3) := by decide +kernel
theorem dX4_chooseClaim_61 : decode cX4_chooseClaim 61 = .ok (.return_, 1) := by decide +kernel
theorem dX4_nearest_0 : decode cX4_nearest 0 = .ok (.bipush (-9), 2) := by decide +kernel
theorem dX4_nearest_2 : decode cX4_nearest 2 = .ok (.istore_n 3, 1) := by decide +kernel
theorem dX4_nearest_3 : decode cX4_nearest 3 = .ok (.iconst 0, 1) := by decide +kernel
theorem dX4_nearest_4 : decode cX4_nearest 4 = .ok (.istore 4, 2) := by decide +kernel
theorem dX4_nearest_6 : decode cX4_nearest 6 = .ok (.iconst 0, 1) := by decide +kernel
theorem dX4_nearest_7 : decode cX4_nearest 7 = .ok (.istore 5, 2) := by decide +kernel
theorem dX4_nearest_9 : decode cX4_nearest 9 = .ok (.iload 5, 2) := by decide +kernel
theorem dX4_nearest_11 : decode cX4_nearest 11 = .ok (.aload_n 0, 1) := by decide +kernel
theorem dX4_nearest_12 : decode cX4_nearest 12 = .ok (.getfield 52, 3) := by decide +kernel
theorem dX4_nearest_15 : decode cX4_nearest 15 = .ok (.if_icmp .ge 81, 3) := by decide +kernel
theorem dX4_nearest_18 : decode cX4_nearest 18 = .ok (.iload_n 2, 1) := by decide +kernel
theorem dX4_nearest_19 : decode cX4_nearest 19 = .ok (.ifCond .eq 13, 3) := by decide +kernel
theorem dX4_nearest_22 : decode cX4_nearest 22 = .ok (.aload_n 0, 1) := by decide +kernel
theorem dX4_nearest_23 : decode cX4_nearest 23 = .ok (.iload_n 1, 1) := by decide +kernel
theorem dX4_nearest_24 : decode cX4_nearest 24 = .ok (.iload 5, 2) := by decide +kernel
theorem dX4_nearest_26 : decode cX4_nearest 26 = .ok (.invokevirtual 99, 3) := by decide +kernel
theorem dX4_nearest_29 : decode cX4_nearest 29 = .ok (.goto 25, 3) := by decide +kernel
theorem dX4_nearest_32 : decode cX4_nearest 32 = .ok (.aload_n 0, 1) := by decide +kernel
theorem dX4_nearest_33 : decode cX4_nearest 33 = .ok (.getfield 18, 3) := by decide +kernel
theorem dX4_nearest_36 : decode cX4_nearest 36 = .ok (.getfield 67, 3) := by decide +kernel
theorem dX4_nearest_39 : decode cX4_nearest 39 = .ok (.iload_n 1, 1) := by decide +kernel
theorem dX4_nearest_40 : decode cX4_nearest 40 = .ok (.iload 5, 2) := by decide +kernel
theorem dX4_nearest_42 : decode cX4_nearest 42 = .ok (.invokestatic 55, 3) := by decide +kernel
theorem dX4_nearest_45 : decode cX4_nearest 45 = .ok (.iaload, 1) := by decide +kernel
theorem dX4_nearest_46 : decode cX4_nearest 46 = .ok (.ifCond .ne 7, 3) := by decide +kernel
theorem dX4_nearest_49 : decode cX4_nearest 49 = .ok (.iconst 1, 1) := by decide +kernel
theorem dX4_nearest_50 : decode cX4_nearest 50 = .ok (.goto 4, 3) := by decide +kernel
theorem dX4_nearest_53 : decode cX4_nearest 53 = .ok (.iconst 0, 1) := by decide +kernel
theorem dX4_nearest_54 : decode cX4_nearest 54 = .ok (.istore 6, 2) := by decide +kernel
theorem dX4_nearest_56 : decode cX4_nearest 56 = .ok (.aload_n 0, 1) := by decide +kernel
theorem dX4_nearest_57 : decode cX4_nearest 57 = .ok (.iload_n 1, 1) := by decide +kernel
theorem dX4_nearest_58 : decode cX4_nearest 58 = .ok (.iload 5, 2) := by decide +kernel
theorem dX4_nearest_60 : decode cX4_nearest 60 = .ok (.invokevirtual 89, 3) := by decide +kernel
theorem dX4_nearest_63 : decode cX4_nearest 63 = .ok (.istore 7, 2) := by decide +kernel
theorem dX4_nearest_65 : decode cX4_nearest 65 = .ok (.iload 6, 2) := by decide +kernel
theorem dX4_nearest_67 : decode cX4_nearest 67 = .ok (.ifCond .eq 23, 3) := by decide +kernel
theorem dX4_nearest_70 : decode cX4_nearest 70 = .ok (.iload_n 3, 1) := by decide +kernel
theorem dX4_nearest_71 : decode cX4_nearest 71 = .ok (.bipush (-9), 2) := by decide +kernel
theorem dX4_nearest_73 : decode cX4_nearest 73 = .ok (.if_icmp .eq 10, 3) := by decide +kernel
theorem dX4_nearest_76 : decode cX4_nearest 76 = .ok (.iload 7, 2) := by decide +kernel
theorem dX4_nearest_78 : decode cX4_nearest 78 = .ok (.iload 4, 2) := by decide +kernel
theorem dX4_nearest_80 : decode cX4_nearest 80 = .ok (.if_icmp .ge 10, 3) := by decide +kernel
theorem dX4_nearest_83 : decode cX4_nearest 83 = .ok (.iload 5, 2) := by decide +kernel
theorem dX4_nearest_85 : decode cX4_nearest 85 = .ok (.istore_n 3, 1) := by decide +kernel
theorem dX4_nearest_86 : decode cX4_nearest 86 = .ok (.iload 7, 2) := by decide +kernel
theorem dX4_nearest_88 : decode cX4_nearest 88 = .ok (.istore 4, 2) := by decide +kernel
theorem dX4_nearest_90 : decode cX4_nearest 90 = .ok (.iinc 5 1, 3) := by decide +kernel
theorem dX4_nearest_93 : decode cX4_nearest 93 = .ok (.goto (-84), 3) := by decide +kernel
theorem dX4_nearest_96 : decode cX4_nearest 96 = .ok (.iload_n 3, 1) := by decide +kernel
theorem dX4_nearest_97 : decode cX4_nearest 97 = .ok (.ireturn, 1) := by decide +kernel
theorem dX4_workOrMove_0 : decode cX4_workOrMove 0 = .ok (.aload_n 0, 1) := by decide +kernel
theorem dX4_workOrMove_1 : decode cX4_workOrMove 1 = .ok (.iload_n 1, 1) := by decide +kernel
theorem dX4_workOrMove_2 : decode cX4_workOrMove 2 = .ok (.invokevirtual 102, 3) := by decide +kernel
theorem dX4_workOrMove_5 : decode cX4_workOrMove 5 = .ok (.istore_n 2, 1) := by decide +kernel
theorem dX4_workOrMove_6 : decode cX4_workOrMove 6 = .ok (.iload_n 2, 1) := by decide +kernel
theorem dX4_workOrMove_7 : decode cX4_workOrMove 7 = .ok (.bipush (-9), 2) := by decide +kernel
theorem dX4_workOrMove_9 : decode cX4_workOrMove 9 = .ok (.if_icmp .ne 4, 3) := by decide +kernel
theorem dX4_workOrMove_12 : decode cX4_workOrMove 12 = .ok (.return_, 1) := by decide +kernel
theorem dX4_workOrMove_13 : decode cX4_workOrMove 13 = .ok (.aload_n 0, 1) := by decide +kernel
theorem dX4_workOrMove_14 : decode cX4_workOrMove 14 = .ok (.iload_n 1, 1) := by decide +kernel
theorem dX4_workOrMove_15 : decode cX4_workOrMove 15 = .ok (.iload_n 2, 1) := by decide +kernel
theorem dX4_workOrMove_16 : decode cX4_workOrMove 16 = .ok (.invokevirtual 89, 3) := by decide +kernel
theorem dX4_workOrMove_19 : decode cX4_workOrMove 19 = .ok (.ifCond .le 21, 3) := by decide +kernel
theorem dX4_workOrMove_22 : decode cX4_workOrMove 22 = .ok (.aload_n 0, 1) := by decide +kernel
theorem dX4_workOrMove_23 : decode cX4_workOrMove 23 = .ok (.iload_n 1, 1) := by decide +kernel
theorem dX4_workOrMove_24 : decode cX4_workOrMove 24 = .ok (.aload_n 0, 1) := by decide +kernel
theorem dX4_workOrMove_25 : decode cX4_workOrMove 25 = .ok (.getfield 105, 3) := by decide +kernel
theorem dX4_workOrMove_28 : decode cX4_workOrMove 28 = .ok (.iload_n 2, 1) := by decide +kernel
theorem dX4_workOrMove_29 : decode cX4_workOrMove 29 = .ok (.iaload, 1) := by decide +kernel
theorem dX4_workOrMove_30 : decode cX4_workOrMove 30 = .ok (.aload_n 0, 1) := by decide +kernel
theorem dX4_workOrMove_31 : decode cX4_workOrMove 31 = .ok (.getfield 108, 3) := by decide +kernel
theorem dX4_workOrMove_34 : decode cX4_workOrMove 34 = .ok (.iload_n 2, 1) := by decide +kernel
theorem dX4_workOrMove_35 : decode cX4_workOrMove 35 = .ok (.iaload, 1) := by decide +kernel
theorem dX4_workOrMove_36 : decode cX4_workOrMove 36 = .ok (.invokestatic 111, 3) := by decide +kernel
theorem dX4_workOrMove_39 : decode cX4_workOrMove 39 = .ok (.return_, 1) := by decide +kernel
theorem dX4_workOrMove_40 : decode cX4_workOrMove 40 = .ok (.aload_n 0, 1) := by decide +kernel
theorem dX4_workOrMove_41 : decode cX4_workOrMove 41 = .ok (.iload_n 2, 1) := by decide +kernel
theorem dX4_workOrMove_42 : decode cX4_workOrMove 42 = .ok (.invokevirtual 115, 3) := by decide +kernel
theorem dX4_workOrMove_45 : decode cX4_workOrMove 45 = .ok (.ifCond .eq 16, 3) := by decide +kernel
theorem dX4_workOrMove_48 : decode cX4_workOrMove 48 = .ok (.aload_n 0, 1) := by decide +kernel
theorem dX4_workOrMove_49 : decode cX4_workOrMove 49 = .ok (.getfield 118, 3) := by decide +kernel
theorem dX4_workOrMove_52 : decode cX4_workOrMove 52 = .ok (.iload_n 1, 1) := by decide +kernel
theorem dX4_workOrMove_53 : decode cX4_workOrMove 53 = .ok (.dup2, 1) := by decide +kernel
theorem dX4_workOrMove_54 : decode cX4_workOrMove 54 = .ok (.iaload, 1) := by decide +kernel
theorem dX4_workOrMove_55 : decode cX4_workOrMove 55 = .ok (.iconst 1, 1) := by decide +kernel
theorem dX4_workOrMove_56 : decode cX4_workOrMove 56 = .ok (.iadd, 1) := by decide +kernel
theorem dX4_workOrMove_57 : decode cX4_workOrMove 57 = .ok (.iastore, 1) := by decide +kernel
theorem dX4_workOrMove_58 : decode cX4_workOrMove 58 = .ok (.goto 13, 3) := by decide +kernel
theorem dX4_workOrMove_61 : decode cX4_workOrMove 61 = .ok (.aload_n 0, 1) := by decide +kernel
theorem dX4_workOrMove_62 : decode cX4_workOrMove 62 = .ok (.getfield 121, 3) := by decide +kernel
theorem dX4_workOrMove_65 : decode cX4_workOrMove 65 = .ok (.iload_n 2, 1) := by decide +kernel
theorem dX4_workOrMove_66 : decode cX4_workOrMove 66 = .ok (.dup2, 1) := by decide +kernel
theorem dX4_workOrMove_67 : decode cX4_workOrMove 67 = .ok (.iaload, 1) := by decide +kernel
theorem dX4_workOrMove_68 : decode cX4_workOrMove 68 = .ok (.iconst 1, 1) := by decide +kernel
theorem dX4_workOrMove_69 : decode cX4_workOrMove 69 = .ok (.iadd, 1) := by decide +kernel
theorem dX4_workOrMove_70 : decode cX4_workOrMove 70 = .ok (.iastore, 1) := by decide +kernel
theorem dX4_workOrMove_71 : decode cX4_workOrMove 71 = .ok (.aload_n 0, 1) := by decide +kernel
theorem dX4_workOrMove_72 : decode cX4_workOrMove 72 = .ok (.iload_n 2, 1) := by decide +kernel
theorem dX4_workOrMove_73 : decode cX4_workOrMove 73 = .ok (.invokevirtual 115, 3) := by decide +kernel
theorem dX4_workOrMove_76 : decode cX4_workOrMove 76 = .ok (.ifCond .eq 17, 3) := by decide +kernel
theorem dX4_workOrMove_79 : decode cX4_workOrMove 79 = .ok (.aload_n 0, 1) := by decide +kernel
theorem dX4_workOrMove_80 : decode cX4_workOrMove 80 = .ok (.getfield 18, 3) := by decide +kernel
theorem dX4_workOrMove_83 : decode cX4_workOrMove 83 = .ok (.getfield 67, 3) := by decide +kernel
theorem dX4_workOrMove_86 : decode cX4_workOrMove 86 = .ok (.iload_n 1, 1) := by decide +kernel
theorem dX4_workOrMove_87 : decode cX4_workOrMove 87 = .ok (.iload_n 2, 1) := by decide +kernel
theorem dX4_workOrMove_88 : decode cX4_workOrMove 88 = .ok (.invokestatic 55, 3) := by decide +kernel
theorem dX4_workOrMove_91 : decode cX4_workOrMove 91 = .ok (.iconst 2, 1) := by decide +kernel
theorem dX4_workOrMove_92 : decode cX4_workOrMove 92 = .ok (.iastore, 1) := by decide +kernel
theorem dX4_workOrMove_93 : decode cX4_workOrMove 93 = .ok (.return_, 1) := by decide +kernel
theorem dX4_moveTowards_0 : decode cX4_moveTowards 0 = .ok (.aload_n 0, 1) := by decide +kernel
theorem dX4_moveTowards_1 : decode cX4_moveTowards 1 = .ok (.getfield 124, 3) := by decide +kernel
theorem dX4_moveTowards_4 : decode cX4_moveTowards 4 = .ok (.iload_n 1, 1) := by decide +kernel
theorem dX4_moveTowards_5 : decode cX4_moveTowards 5 = .ok (.iaload, 1) := by decide +kernel
theorem dX4_moveTowards_6 : decode cX4_moveTowards 6 = .ok (.iload_n 2, 1) := by decide +kernel
theorem dX4_moveTowards_7 : decode cX4_moveTowards 7 = .ok (.if_icmp .eq 30, 3) := by decide +kernel
theorem dX4_moveTowards_10 : decode cX4_moveTowards 10 = .ok (.aload_n 0, 1) := by decide +kernel
theorem dX4_moveTowards_11 : decode cX4_moveTowards 11 = .ok (.getfield 124, 3) := by decide +kernel
theorem dX4_moveTowards_14 : decode cX4_moveTowards 14 = .ok (.iload_n 1, 1) := by decide +kernel
theorem dX4_moveTowards_15 : decode cX4_moveTowards 15 = .ok (.dup2, 1) := by decide +kernel
theorem dX4_moveTowards_16 : decode cX4_moveTowards 16 = .ok (.iaload, 1) := by decide +kernel
theorem dX4_moveTowards_17 : decode cX4_moveTowards 17 = .ok (.aload_n 0, 1) := by decide +kernel
theorem dX4_moveTowards_18 : decode cX4_moveTowards 18 = .ok (.getfield 124, 3) := by decide +kernel
theorem dX4_moveTowards_21 : decode cX4_moveTowards 21 = .ok (.iload_n 1, 1) := by decide +kernel
theorem dX4_moveTowards_22 : decode cX4_moveTowards 22 = .ok (.iaload, 1) := by decide +kernel
theorem dX4_moveTowards_23 : decode cX4_moveTowards 23 = .ok (.iload_n 2, 1) := by decide +kernel
theorem dX4_moveTowards_24 : decode cX4_moveTowards 24 = .ok (.if_icmp .ge 7, 3) := by decide +kernel
theorem dX4_moveTowards_27 : decode cX4_moveTowards 27 = .ok (.iconst 1, 1) := by decide +kernel
theorem dX4_moveTowards_28 : decode cX4_moveTowards 28 = .ok (.goto 4, 3) := by decide +kernel
theorem dX4_moveTowards_31 : decode cX4_moveTowards 31 = .ok (.iconst (-1), 1) := by decide +kernel
theorem dX4_moveTowards_32 : decode cX4_moveTowards 32 = .ok (.iadd, 1) := by decide +kernel
theorem dX4_moveTowards_33 : decode cX4_moveTowards 33 = .ok (.iastore, 1) := by decide +kernel
theorem dX4_moveTowards_34 : decode cX4_moveTowards 34 = .ok (.goto 27, 3) := by decide +kernel
theorem dX4_moveTowards_37 : decode cX4_moveTowards 37 = .ok (.aload_n 0, 1) := by decide +kernel
theorem dX4_moveTowards_38 : decode cX4_moveTowards 38 = .ok (.getfield 127, 3) := by decide +kernel
theorem dX4_moveTowards_41 : decode cX4_moveTowards 41 = .ok (.iload_n 1, 1) := by decide +kernel
theorem dX4_moveTowards_42 : decode cX4_moveTowards 42 = .ok (.dup2, 1) := by decide +kernel
theorem dX4_moveTowards_43 : decode cX4_moveTowards 43 = .ok (.iaload, 1) := by decide +kernel
theorem dX4_moveTowards_44 : decode cX4_moveTowards 44 = .ok (.aload_n 0, 1) := by decide +kernel
theorem dX4_moveTowards_45 : decode cX4_moveTowards 45 = .ok (.getfield 127, 3) := by decide +kernel
theorem dX4_moveTowards_48 : decode cX4_moveTowards 48 = .ok (.iload_n 1, 1) := by decide +kernel
theorem dX4_moveTowards_49 : decode cX4_moveTowards 49 = .ok (.iaload, 1) := by decide +kernel
theorem dX4_moveTowards_50 : decode cX4_moveTowards 50 = .ok (.iload_n 3, 1) := by decide +kernel
theorem dX4_moveTowards_51 : decode cX4_moveTowards 51 = .ok (.if_icmp .ge 7, 3) := by decide +kernel
theorem dX4_moveTowards_54 : decode cX4_moveTowards 54 = .ok (.iconst 1, 1) := by decide +kernel
theorem dX4_moveTowards_55 : decode cX4_moveTowards 55 = .ok (.goto 4, 3) := by decide +kernel
theorem dX4_moveTowards_58 : decode cX4_moveTowards 58 = .ok (.iconst (-1), 1) := by decide +kernel
theorem dX4_moveTowards_59 : decode cX4_moveTowards 59 = .ok (.iadd, 1) := by decide +kernel
theorem dX4_moveTowards_60 : decode cX4_moveTowards 60 = .ok (.iastore, 1) := by decide +kernel
theorem dX4_moveTowards_61 : decode cX4_moveTowards 61 = .ok (.aload_n 0, 1) := by decide +kernel
theorem dX4_moveTowards_62 : decode cX4_moveTowards 62 = .ok (.getfield 130, 3) := by decide +kernel
theorem dX4_moveTowards_65 : decode cX4_moveTowards 65 = .ok (.iload_n 1, 1) := by decide +kernel
theorem dX4_moveTowards_66 : decode cX4_moveTowards 66 = .ok (.dup2, 1) := by decide +kernel
theorem dX4_moveTowards_67 : decode cX4_moveTowards 67 = .ok (.iaload, 1) := by decide +kernel
theorem dX4_moveTowards_68 : decode cX4_moveTowards 68 = .ok (.iconst 1, 1) := by decide +kernel
theorem dX4_moveTowards_69 : decode cX4_moveTowards 69 = .ok (.iadd, 1) := by decide +kernel
theorem dX4_moveTowards_70 : decode cX4_moveTowards 70 = .ok (.iastore, 1) := by decide +kernel
theorem dX4_moveTowards_71 : decode cX4_moveTowards 71 = .ok (.return_, 1) := by decide +kernel
theorem dX5_init_0 : decode cX5_init 0 = .ok (.aload_n 0, 1) := by decide +kernel
theorem dX5_init_1 : decode cX5_init 1 = .ok (.invokespecial 3, 3) := by decide +kernel
theorem dX5_init_4 : decode cX5_init 4 = .ok (.aload_n 0, 1) := by decide +kernel
theorem dX5_init_5 : decode cX5_init 5 = .ok (.bipush 120, 2) := by decide +kernel
theorem dX5_init_7 : decode cX5_init 7 = .ok (.newarray .int, 2) := by decide +kernel
theorem dX5_init_9 : decode cX5_init 9 = .ok (.putfield 9, 3) := by decide +kernel
theorem dX5_init_12 : decode cX5_init 12 = .ok (.return_, 1) := by decide +kernel
theorem dX5_hasRoom_0 : decode cX5_hasRoom 0 = .ok (.aload_n 0, 1) := by decide +kernel
theorem dX5_hasRoom_1 : decode cX5_hasRoom 1 = .ok (.getfield 15, 3) := by decide +kernel
theorem dX5_hasRoom_4 : decode cX5_hasRoom 4 = .ok (.bipush 120, 2) := by decide +kernel
theorem dX5_hasRoom_6 : decode cX5_hasRoom 6 = .ok (.if_icmp .ge 7, 3) := by decide +kernel
theorem dX5_hasRoom_9 : decode cX5_hasRoom 9 = .ok (.iconst 1, 1) := by decide +kernel
theorem dX5_hasRoom_10 : decode cX5_hasRoom 10 = .ok (.goto 4, 3) := by decide +kernel
theorem dX5_hasRoom_13 : decode cX5_hasRoom 13 = .ok (.iconst 0, 1) := by decide +kernel
theorem dX5_hasRoom_14 : decode cX5_hasRoom 14 = .ok (.ireturn, 1) := by decide +kernel
theorem dX5_add_0 : decode cX5_add 0 = .ok (.aload_n 0, 1) := by decide +kernel
theorem dX5_add_1 : decode cX5_add 1 = .ok (.invokevirtual 19, 3) := by decide +kernel
theorem dX5_add_4 : decode cX5_add 4 = .ok (.ifCond .eq 23, 3) := by decide +kernel
theorem dX5_add_7 : decode cX5_add 7 = .ok (.aload_n 0, 1) := by decide +kernel
theorem dX5_add_8 : decode cX5_add 8 = .ok (.getfield 9, 3) := by decide +kernel
theorem dX5_add_11 : decode cX5_add 11 = .ok (.aload_n 0, 1) := by decide +kernel
theorem dX5_add_12 : decode cX5_add 12 = .ok (.getfield 15, 3) := by decide +kernel
theorem dX5_add_15 : decode cX5_add 15 = .ok (.iload_n 1, 1) := by decide +kernel
theorem dX5_add_16 : decode cX5_add 16 = .ok (.iastore, 1) := by decide +kernel
theorem dX5_add_17 : decode cX5_add 17 = .ok (.aload_n 0, 1) := by decide +kernel
theorem dX5_add_18 : decode cX5_add 18 = .ok (.dup, 1) := by decide +kernel
theorem dX5_add_19 : decode cX5_add 19 = .ok (.getfield 15, 3) := by decide +kernel
theorem dX5_add_22 : decode cX5_add 22 = .ok (.iconst 1, 1) := by decide +kernel
theorem dX5_add_23 : decode cX5_add 23 = .ok (.iadd, 1) := by decide +kernel
theorem dX5_add_24 : decode cX5_add 24 = .ok (.putfield 15, 3) := by decide +kernel
theorem dX5_add_27 : decode cX5_add 27 = .ok (.return_, 1) := by decide +kernel
theorem dX5_readInto_0 : decode cX5_readInto 0 = .ok (.aload_n 0, 1) := by decide +kernel
theorem dX5_readInto_1 : decode cX5_readInto 1 = .ok (.iconst 0, 1) := by decide +kernel
theorem dX5_readInto_2 : decode cX5_readInto 2 = .ok (.invokevirtual 23, 3) := by decide +kernel
theorem dX5_readInto_5 : decode cX5_readInto 5 = .ok (.bipush 67, 2) := by decide +kernel
theorem dX5_readInto_7 : decode cX5_readInto 7 = .ok (.if_icmp .eq 5, 3) := by decide +kernel
theorem dX5_readInto_10 : decode cX5_readInto 10 = .ok (.iconst 0, 1) := by decide +kernel
theorem dX5_readInto_11 : decode cX5_readInto 11 = .ok (.ireturn, 1) := by decide +kernel
theorem dX5_readInto_12 : decode cX5_readInto 12 = .ok (.aload_n 0, 1) := by decide +kernel
theorem dX5_readInto_13 : decode cX5_readInto 13 = .ok (.iconst 1, 1) := by decide +kernel
theorem dX5_readInto_14 : decode cX5_readInto 14 = .ok (.iconst 1, 1) := by decide +kernel
theorem dX5_readInto_15 : decode cX5_readInto 15 = .ok (.bipush 20, 2) := by decide +kernel
theorem dX5_readInto_17 : decode cX5_readInto 17 = .ok (.invokevirtual 27, 3) := by decide +kernel
theorem dX5_readInto_20 : decode cX5_readInto 20 = .ok (.istore_n 2, 1) := by decide +kernel
theorem dX5_readInto_21 : decode cX5_readInto 21 = .ok (.iload_n 2, 1) := by decide +kernel
theorem dX5_readInto_22 : decode cX5_readInto 22 = .ok (.bipush (-9), 2) := by decide +kernel
theorem dX5_readInto_24 : decode cX5_readInto 24 = .ok (.if_icmp .eq 5, 3) := by decide +kernel
theorem dX5_readInto_27 : decode cX5_readInto 27 = .ok (.iload_n 2, 1) := by decide +kernel
theorem dX5_readInto_28 : decode cX5_readInto 28 = .ok (.ireturn, 1) := by decide +kernel
theorem dX5_readInto_29 : decode cX5_readInto 29 = .ok (.aload_n 1, 1) := by decide +kernel
theorem dX5_readInto_30 : decode cX5_readInto 30 = .ok (.aload_n 0, 1) := by decide +kernel
theorem dX5_readInto_31 : decode cX5_readInto 31 = .ok (.iconst 1, 1) := by decide +kernel
theorem dX5_readInto_32 : decode cX5_readInto 32 = .ok (.invokevirtual 31, 3) := by decide +kernel
theorem dX5_readInto_35 : decode cX5_readInto 35 = .ok (.invokevirtual 34, 3) := by decide +kernel
theorem dX5_readInto_38 : decode cX5_readInto 38 = .ok (.iconst 3, 1) := by decide +kernel
theorem dX5_readInto_39 : decode cX5_readInto 39 = .ok (.istore_n 3, 1) := by decide +kernel
theorem dX5_readInto_40 : decode cX5_readInto 40 = .ok (.iload_n 3, 1) := by decide +kernel
theorem dX5_readInto_41 : decode cX5_readInto 41 = .ok (.aload_n 0, 1) := by decide +kernel
theorem dX5_readInto_42 : decode cX5_readInto 42 = .ok (.getfield 15, 3) := by decide +kernel
theorem dX5_readInto_45 : decode cX5_readInto 45 = .ok (.if_icmp .ge 68, 3) := by decide +kernel
theorem dX5_readInto_48 : decode cX5_readInto 48 = .ok (.aload_n 0, 1) := by decide +kernel
theorem dX5_readInto_49 : decode cX5_readInto 49 = .ok (.getfield 9, 3) := by decide +kernel
theorem dX5_readInto_52 : decode cX5_readInto 52 = .ok (.iload_n 3, 1) := by decide +kernel
theorem dX5_readInto_53 : decode cX5_readInto 53 = .ok (.iaload, 1) := by decide +kernel
theorem dX5_readInto_54 : decode cX5_readInto 54 = .ok (.bipush 97, 2) := by decide +kernel
theorem dX5_readInto_56 : decode cX5_readInto 56 = .ok (.if_icmp .ne 7, 3) := by decide +kernel
theorem dX5_readInto_59 : decode cX5_readInto 59 = .ok (.iconst 1, 1) := by decide +kernel
theorem dX5_readInto_60 : decode cX5_readInto 60 = .ok (.goto 4, 3) := by decide +kernel
theorem dX5_readInto_63 : decode cX5_readInto 63 = .ok (.iconst 0, 1) := by decide +kernel
theorem dX5_readInto_64 : decode cX5_readInto 64 = .ok (.istore 4, 2) := by decide +kernel
theorem dX5_readInto_66 : decode cX5_readInto 66 = .ok (.iload 4, 2) := by decide +kernel
theorem dX5_readInto_68 : decode cX5_readInto 68 = .ok (.ifCond .eq 12, 3) := by decide +kernel
theorem dX5_readInto_71 : decode cX5_readInto 71 = .ok (.aload_n 0, 1) := by decide +kernel
theorem dX5_readInto_72 : decode cX5_readInto 72 = .ok (.iload_n 3, 1) := by decide +kernel
theorem dX5_readInto_73 : decode cX5_readInto 73 = .ok (.aload_n 1, 1) := by decide +kernel
theorem dX5_readInto_74 : decode cX5_readInto 74 = .ok (.invokevirtual 40, 3) := by decide +kernel
theorem dX5_readInto_77 : decode cX5_readInto 77 = .ok (.goto 9, 3) := by decide +kernel
theorem dX5_readInto_80 : decode cX5_readInto 80 = .ok (.aload_n 0, 1) := by decide +kernel
theorem dX5_readInto_81 : decode cX5_readInto 81 = .ok (.iload_n 3, 1) := by decide +kernel
theorem dX5_readInto_82 : decode cX5_readInto 82 = .ok (.aload_n 1, 1) := by decide +kernel
theorem dX5_readInto_83 : decode cX5_readInto 83 = .ok (.invokevirtual 44, 3) := by decide +kernel
theorem dX5_readInto_86 : decode cX5_readInto 86 = .ok (.istore_n 2, 1) := by decide +kernel
theorem dX5_readInto_87 : decode cX5_readInto 87 = .ok (.iload_n 2, 1) := by decide +kernel
theorem dX5_readInto_88 : decode cX5_readInto 88 = .ok (.bipush (-9), 2) := by decide +kernel
theorem dX5_readInto_90 : decode cX5_readInto 90 = .ok (.if_icmp .eq 5, 3) := by decide +kernel
theorem dX5_readInto_93 : decode cX5_readInto 93 = .ok (.iload_n 2, 1) := by decide +kernel
theorem dX5_readInto_94 : decode cX5_readInto 94 = .ok (.ireturn, 1) := by decide +kernel
theorem dX5_readInto_95 : decode cX5_readInto 95 = .ok (.iload_n 3, 1) := by decide +kernel
theorem dX5_readInto_96 : decode cX5_readInto 96 = .ok (.iload 4, 2) := by decide +kernel
theorem dX5_readInto_98 : decode cX5_readInto 98 = .ok (.ifCond .eq 8, 3) := by decide +kernel
theorem dX5_readInto_101 : decode cX5_readInto 101 = .ok (.bipush 7, 2) := by decide +kernel
theorem dX5_readInto_103 : decode cX5_readInto 103 = .ok (.goto 5, 3) := by decide +kernel
theorem dX5_readInto_106 : decode cX5_readInto 106 = .ok (.bipush 6, 2) := by decide +kernel
theorem dX5_readInto_108 : decode cX5_readInto 108 = .ok (.iadd, 1) := by decide +kernel
theorem dX5_readInto_109 : decode cX5_readInto 109 = .ok (.istore_n 3, 1) := by decide +kernel
theorem dX5_readInto_110 : decode cX5_readInto 110 = .ok (.goto (-70), 3) := by decide +kernel
theorem dX5_readInto_113 : decode cX5_readInto 113 = .ok (.bipush (-9), 2) := by decide +kernel
theorem dX5_readInto_115 : decode cX5_readInto 115 = .ok (.ireturn, 1) := by decide +kernel
theorem dX5_readAgent_0 : decode cX5_readAgent 0 = .ok (.aload_n 2, 1) := by decide +kernel
theorem dX5_readAgent_1 : decode cX5_readAgent 1 = .ok (.getfield 47, 3) := by decide +kernel
theorem dX5_readAgent_4 : decode cX5_readAgent 4 = .ok (.bipush 6, 2) := by decide +kernel
theorem dX5_readAgent_6 : decode cX5_readAgent 6 = .ok (.if_icmp .lt 5, 3) := by decide +kernel
theorem dX5_readAgent_9 : decode cX5_readAgent 9 = .ok (.iload_n 1, 1) := by decide +kernel
theorem dX5_readAgent_10 : decode cX5_readAgent 10 = .ok (.ireturn, 1) := by decide +kernel
theorem dX5_readAgent_11 : decode cX5_readAgent 11 = .ok (.aload_n 0, 1) := by decide +kernel
theorem dX5_readAgent_12 : decode cX5_readAgent 12 = .ok (.iload_n 1, 1) := by decide +kernel
theorem dX5_readAgent_13 : decode cX5_readAgent 13 = .ok (.iconst 1, 1) := by decide +kernel
theorem dX5_readAgent_14 : decode cX5_readAgent 14 = .ok (.iadd, 1) := by decide +kernel
theorem dX5_readAgent_15 : decode cX5_readAgent 15 = .ok (.invokevirtual 50, 3) := by decide +kernel
theorem dX5_readAgent_18 : decode cX5_readAgent 18 = .ok (.istore_n 3, 1) := by decide +kernel
theorem dX5_readAgent_19 : decode cX5_readAgent 19 = .ok (.iload_n 3, 1) := by decide +kernel
theorem dX5_readAgent_20 : decode cX5_readAgent 20 = .ok (.bipush (-9), 2) := by decide +kernel
theorem dX5_readAgent_22 : decode cX5_readAgent 22 = .ok (.if_icmp .ne 14, 3) := by decide +kernel
theorem dX5_readAgent_25 : decode cX5_readAgent 25 = .ok (.aload_n 0, 1) := by decide +kernel
theorem dX5_readAgent_26 : decode cX5_readAgent 26 = .ok (.iload_n 1, 1) := by decide +kernel
theorem dX5_readAgent_27 : decode cX5_readAgent 27 = .ok (.iconst 5, 1) := by decide +kernel
theorem dX5_readAgent_28 : decode cX5_readAgent 28 = .ok (.iadd, 1) := by decide +kernel
theorem dX5_readAgent_29 : decode cX5_readAgent 29 = .ok (.iconst 0, 1) := by decide +kernel
theorem dX5_readAgent_30 : decode cX5_readAgent 30 = .ok (.bipush 22, 2) := by decide +kernel
theorem dX5_readAgent_32 : decode cX5_readAgent 32 = .ok (.invokevirtual 27, 3) := by decide +kernel
theorem dX5_readAgent_35 : decode cX5_readAgent 35 = .ok (.istore_n 3, 1) := by decide +kernel
theorem dX5_readAgent_36 : decode cX5_readAgent 36 = .ok (.iload_n 3, 1) := by decide +kernel
theorem dX5_readAgent_37 : decode cX5_readAgent 37 = .ok (.bipush (-9), 2) := by decide +kernel
theorem dX5_readAgent_39 : decode cX5_readAgent 39 = .ok (.if_icmp .ne 28, 3) := by decide +kernel
theorem dX5_readAgent_42 : decode cX5_readAgent 42 = .ok (.aload_n 2, 1) := by decide +kernel
theorem dX5_readAgent_43 : decode cX5_readAgent 43 = .ok (.aload_n 0, 1) := by decide +kernel
theorem dX5_readAgent_44 : decode cX5_readAgent 44 = .ok (.iload_n 1, 1) := by decide +kernel
theorem dX5_readAgent_45 : decode cX5_readAgent 45 = .ok (.iconst 1, 1) := by decide +kernel
theorem dX5_readAgent_46 : decode cX5_readAgent 46 = .ok (.iadd, 1) := by decide +kernel
theorem dX5_readAgent_47 : decode cX5_readAgent 47 = .ok (.invokevirtual 31, 3) := by decide +kernel
theorem dX5_readAgent_50 : decode cX5_readAgent 50 = .ok (.aload_n 0, 1) := by decide +kernel
theorem dX5_readAgent_51 : decode cX5_readAgent 51 = .ok (.iload_n 1, 1) := by decide +kernel
theorem dX5_readAgent_52 : decode cX5_readAgent 52 = .ok (.iconst 3, 1) := by decide +kernel
theorem dX5_readAgent_53 : decode cX5_readAgent 53 = .ok (.iadd, 1) := by decide +kernel
theorem dX5_readAgent_54 : decode cX5_readAgent 54 = .ok (.invokevirtual 31, 3) := by decide +kernel
theorem dX5_readAgent_57 : decode cX5_readAgent 57 = .ok (.aload_n 0, 1) := by decide +kernel
theorem dX5_readAgent_58 : decode cX5_readAgent 58 = .ok (.iload_n 1, 1) := by decide +kernel
theorem dX5_readAgent_59 : decode cX5_readAgent 59 = .ok (.iconst 5, 1) := by decide +kernel
theorem dX5_readAgent_60 : decode cX5_readAgent 60 = .ok (.iadd, 1) := by decide +kernel
theorem dX5_readAgent_61 : decode cX5_readAgent 61 = .ok (.invokevirtual 31, 3) := by decide +kernel
theorem dX5_readAgent_64 : decode cX5_readAgent 64 = .ok (.invokevirtual 53, 3) := by decide +kernel
theorem dX5_readAgent_67 : decode cX5_readAgent 67 = .ok (.iload_n 3, 1) := by decide +kernel
theorem dX5_readAgent_68 : decode cX5_readAgent 68 = .ok (.ireturn, 1) := by decide +kernel
theorem dX5_readTask_0 : decode cX5_readTask 0 = .ok (.aload_n 0, 1) := by decide +kernel
theorem dX5_readTask_1 : decode cX5_readTask 1 = .ok (.iload_n 1, 1) := by decide +kernel
theorem dX5_readTask_2 : decode cX5_readTask 2 = .ok (.invokevirtual 23, 3) := by decide +kernel
theorem dX5_readTask_5 : decode cX5_readTask 5 = .ok (.bipush 116, 2) := by decide +kernel
theorem dX5_readTask_7 : decode cX5_readTask 7 = .ok (.if_icmp .ne 12, 3) := by decide +kernel
theorem dX5_readTask_10 : decode cX5_readTask 10 = .ok (.aload_n 2, 1) := by decide +kernel
theorem dX5_readTask_11 : decode cX5_readTask 11 = .ok (.getfield 57, 3) := by decide +kernel
theorem dX5_readTask_14 : decode cX5_readTask 14 = .ok (.bipush 8, 2) := by decide +kernel
theorem dX5_readTask_16 : decode cX5_readTask 16 = .ok (.if_icmp .lt 5, 3) := by decide +kernel
theorem dX5_readTask_19 : decode cX5_readTask 19 = .ok (.iload_n 1, 1) := by decide +kernel
theorem dX5_readTask_20 : decode cX5_readTask 20 = .ok (.ireturn, 1) := by decide +kernel
theorem dX5_readTask_21 : decode cX5_readTask 21 = .ok (.aload_n 0, 1) := by decide +kernel
theorem dX5_readTask_22 : decode cX5_readTask 22 = .ok (.iload_n 1, 1) := by decide +kernel
theorem dX5_readTask_23 : decode cX5_readTask 23 = .ok (.iconst 1, 1) := by decide +kernel
theorem dX5_readTask_24 : decode cX5_readTask 24 = .ok (.iadd, 1) := by decide +kernel
theorem dX5_readTask_25 : decode cX5_readTask 25 = .ok (.invokevirtual 50, 3) := by decide +kernel
theorem dX5_readTask_28 : decode cX5_readTask 28 = .ok (.istore_n 3, 1) := by decide +kernel
theorem dX5_readTask_29 : decode cX5_readTask 29 = .ok (.iload_n 3, 1) := by decide +kernel
theorem dX5_readTask_30 : decode cX5_readTask 30 = .ok (.bipush (-9), 2) := by decide +kernel
theorem dX5_readTask_32 : decode cX5_readTask 32 = .ok (.if_icmp .eq 5, 3) := by decide +kernel
theorem dX5_readTask_35 : decode cX5_readTask 35 = .ok (.iload_n 3, 1) := by decide +kernel
theorem dX5_readTask_36 : decode cX5_readTask 36 = .ok (.ireturn, 1) := by decide +kernel
theorem dX5_readTask_37 : decode cX5_readTask 37 = .ok (.aload_n 0, 1) := by decide +kernel
theorem dX5_readTask_38 : decode cX5_readTask 38 = .ok (.iload_n 1, 1) := by decide +kernel
theorem dX5_readTask_39 : decode cX5_readTask 39 = .ok (.iconst 5, 1) := by decide +kernel
theorem dX5_readTask_40 : decode cX5_readTask 40 = .ok (.iadd, 1) := by decide +kernel
theorem dX5_readTask_41 : decode cX5_readTask 41 = .ok (.invokevirtual 60, 3) := by decide +kernel
theorem dX5_readTask_44 : decode cX5_readTask 44 = .ok (.istore 4, 2) := by decide +kernel
theorem dX5_readTask_46 : decode cX5_readTask 46 = .ok (.iload 4, 2) := by decide +kernel
theorem dX5_readTask_48 : decode cX5_readTask 48 = .ok (.iconst 1, 1) := by decide +kernel
theorem dX5_readTask_49 : decode cX5_readTask 49 = .ok (.if_icmp .ge 7, 3) := by decide +kernel
theorem dX5_readTask_52 : decode cX5_readTask 52 = .ok (.iload_n 1, 1) := by decide +kernel
theorem dX5_readTask_53 : decode cX5_readTask 53 = .ok (.iconst 5, 1) := by decide +kernel
theorem dX5_readTask_54 : decode cX5_readTask 54 = .ok (.iadd, 1) := by decide +kernel
theorem dX5_readTask_55 : decode cX5_readTask 55 = .ok (.ireturn, 1) := by decide +kernel
theorem dX5_readTask_56 : decode cX5_readTask 56 = .ok (.aload_n 2, 1) := by decide +kernel
theorem dX5_readTask_57 : decode cX5_readTask 57 = .ok (.aload_n 0, 1) := by decide +kernel
theorem dX5_readTask_58 : decode cX5_readTask 58 = .ok (.iload_n 1, 1) := by decide +kernel
theorem dX5_readTask_59 : decode cX5_readTask 59 = .ok (.iconst 1, 1) := by decide +kernel
theorem dX5_readTask_60 : decode cX5_readTask 60 = .ok (.iadd, 1) := by decide +kernel
theorem dX5_readTask_61 : decode cX5_readTask 61 = .ok (.invokevirtual 31, 3) := by decide +kernel
theorem dX5_readTask_64 : decode cX5_readTask 64 = .ok (.aload_n 0, 1) := by decide +kernel
theorem dX5_readTask_65 : decode cX5_readTask 65 = .ok (.iload_n 1, 1) := by decide +kernel
theorem dX5_readTask_66 : decode cX5_readTask 66 = .ok (.iconst 3, 1) := by decide +kernel
theorem dX5_readTask_67 : decode cX5_readTask 67 = .ok (.iadd, 1) := by decide +kernel
theorem dX5_readTask_68 : decode cX5_readTask 68 = .ok (.invokevirtual 31, 3) := by decide +kernel
theorem dX5_readTask_71 : decode cX5_readTask 71 = .ok (.iload 4, 2) := by decide +kernel
theorem dX5_readTask_73 : decode cX5_readTask 73 = .ok (.invokevirtual 63, 3) := by decide +kernel
theorem dX5_readTask_76 : decode cX5_readTask 76 = .ok (.bipush (-9), 2) := by decide +kernel
theorem dX5_readTask_78 : decode cX5_readTask 78 = .ok (.ireturn, 1) := by decide +kernel
theorem dX5_badInPlace_0 : decode cX5_badInPlace 0 = .ok (.aload_n 0, 1) := by decide +kernel
theorem dX5_badInPlace_1 : decode cX5_badInPlace 1 = .ok (.iload_n 1, 1) := by decide +kernel
theorem dX5_badInPlace_2 : decode cX5_badInPlace 2 = .ok (.iconst 0, 1) := by decide +kernel
theorem dX5_badInPlace_3 : decode cX5_badInPlace 3 = .ok (.bipush 11, 2) := by decide +kernel
theorem dX5_badInPlace_5 : decode cX5_badInPlace 5 = .ok (.invokevirtual 27, 3) := by decide +kernel
theorem dX5_badInPlace_8 : decode cX5_badInPlace 8 = .ok (.istore_n 2, 1) := by decide +kernel
theorem dX5_badInPlace_9 : decode cX5_badInPlace 9 = .ok (.iload_n 2, 1) := by decide +kernel
theorem dX5_badInPlace_10 : decode cX5_badInPlace 10 = .ok (.bipush (-9), 2) := by decide +kernel
theorem dX5_badInPlace_12 : decode cX5_badInPlace 12 = .ok (.if_icmp .eq 7, 3) := by decide +kernel
theorem dX5_badInPlace_15 : decode cX5_badInPlace 15 = .ok (.iload_n 2, 1) := by decide +kernel
theorem dX5_badInPlace_16 : decode cX5_badInPlace 16 = .ok (.goto 13, 3) := by decide +kernel
theorem dX5_badInPlace_19 : decode cX5_badInPlace 19 = .ok (.aload_n 0, 1) := by decide +kernel
theorem dX5_badInPlace_20 : decode cX5_badInPlace 20 = .ok (.iload_n 1, 1) := by decide +kernel
theorem dX5_badInPlace_21 : decode cX5_badInPlace 21 = .ok (.iconst 2, 1) := by decide +kernel
theorem dX5_badInPlace_22 : decode cX5_badInPlace 22 = .ok (.iadd, 1) := by decide +kernel
theorem dX5_badInPlace_23 : decode cX5_badInPlace 23 = .ok (.iconst 0, 1) := by decide +kernel
theorem dX5_badInPlace_24 : decode cX5_badInPlace 24 = .ok (.bipush 11, 2) := by decide +kernel
theorem dX5_badInPlace_26 : decode cX5_badInPlace 26 = .ok (.invokevirtual 27, 3) := by decide +kernel
theorem dX5_badInPlace_29 : decode cX5_badInPlace 29 = .ok (.ireturn, 1) := by decide +kernel
theorem dX5_badInNumber_0 : decode cX5_badInNumber 0 = .ok (.aload_n 0, 1) := by decide +kernel
theorem dX5_badInNumber_1 : decode cX5_badInNumber 1 = .ok (.iload_n 1, 1) := by decide +kernel
theorem dX5_badInNumber_2 : decode cX5_badInNumber 2 = .ok (.invokevirtual 60, 3) := by decide +kernel
theorem dX5_badInNumber_5 : decode cX5_badInNumber 5 = .ok (.istore 4, 2) := by decide +kernel
theorem dX5_badInNumber_7 : decode cX5_badInNumber 7 = .ok (.iload 4, 2) := by decide +kernel
theorem dX5_badInNumber_9 : decode cX5_badInNumber 9 = .ok (.iload_n 2, 1) := by decide +kernel
theorem dX5_badInNumber_10 : decode cX5_badInNumber 10 = .ok (.bipush 10, 2) := by decide +kernel
theorem dX5_badInNumber_12 : decode cX5_badInNumber 12 = .ok (.idiv, 1) := by decide +kernel
theorem dX5_badInNumber_13 : decode cX5_badInNumber 13 = .ok (.if_icmp .lt 12, 3) := by decide +kernel
theorem dX5_badInNumber_16 : decode cX5_badInNumber 16 = .ok (.iload 4, 2) := by decide +kernel
theorem dX5_badInNumber_18 : decode cX5_badInNumber 18 = .ok (.iload_n 3, 1) := by decide +kernel
theorem dX5_badInNumber_19 : decode cX5_badInNumber 19 = .ok (.bipush 10, 2) := by decide +kernel
theorem dX5_badInNumber_21 : decode cX5_badInNumber 21 = .ok (.idiv, 1) := by decide +kernel
theorem dX5_badInNumber_22 : decode cX5_badInNumber 22 = .ok (.if_icmp .le 5, 3) := by decide +kernel
theorem dX5_badInNumber_25 : decode cX5_badInNumber 25 = .ok (.iload_n 1, 1) := by decide +kernel
theorem dX5_badInNumber_26 : decode cX5_badInNumber 26 = .ok (.ireturn, 1) := by decide +kernel
theorem dX5_badInNumber_27 : decode cX5_badInNumber 27 = .ok (.aload_n 0, 1) := by decide +kernel
theorem dX5_badInNumber_28 : decode cX5_badInNumber 28 = .ok (.iload_n 1, 1) := by decide +kernel
theorem dX5_badInNumber_29 : decode cX5_badInNumber 29 = .ok (.iconst 1, 1) := by decide +kernel
theorem dX5_badInNumber_30 : decode cX5_badInNumber 30 = .ok (.iadd, 1) := by decide +kernel
theorem dX5_badInNumber_31 : decode cX5_badInNumber 31 = .ok (.invokevirtual 60, 3) := by decide +kernel
theorem dX5_badInNumber_34 : decode cX5_badInNumber 34 = .ok (.istore 5, 2) := by decide +kernel
theorem dX5_badInNumber_36 : decode cX5_badInNumber 36 = .ok (.bipush 10, 2) := by decide +kernel
theorem dX5_badInNumber_38 : decode cX5_badInNumber 38 = .ok (.iload 4, 2) := by decide +kernel
theorem dX5_badInNumber_40 : decode cX5_badInNumber 40 = .ok (.imul, 1) := by decide +kernel
theorem dX5_badInNumber_41 : decode cX5_badInNumber 41 = .ok (.iload 5, 2) := by decide +kernel
theorem dX5_badInNumber_43 : decode cX5_badInNumber 43 = .ok (.iadd, 1) := by decide +kernel
theorem dX5_badInNumber_44 : decode cX5_badInNumber 44 = .ok (.istore 6, 2) := by decide +kernel
theorem dX5_badInNumber_46 : decode cX5_badInNumber 46 = .ok (.iload 5, 2) := by decide +kernel
theorem dX5_badInNumber_48 : decode cX5_badInNumber 48 = .ok (.ifCond .lt 15, 3) := by decide +kernel
theorem dX5_badInNumber_51 : decode cX5_badInNumber 51 = .ok (.iload 6, 2) := by decide +kernel
theorem dX5_badInNumber_53 : decode cX5_badInNumber 53 = .ok (.iload_n 2, 1) := by decide +kernel
theorem dX5_badInNumber_54 : decode cX5_badInNumber 54 = .ok (.if_icmp .lt 9, 3) := by decide +kernel
theorem dX5_badInNumber_57 : decode cX5_badInNumber 57 = .ok (.iload 6, 2) := by decide +kernel
theorem dX5_badInNumber_59 : decode cX5_badInNumber 59 = .ok (.iload_n 3, 1) := by decide +kernel
theorem dX5_badInNumber_60 : decode cX5_badInNumber 60 = .ok (.if_icmp .le 9, 3) := by decide +kernel
theorem dX5_badInNumber_63 : decode cX5_badInNumber 63 = .ok (.iload_n 1, 1) := by decide +kernel
theorem dX5_badInNumber_64 : decode cX5_badInNumber 64 = .ok (.iconst 1, 1) := by decide +kernel
theorem dX5_badInNumber_65 : decode cX5_badInNumber 65 = .ok (.iadd, 1) := by decide +kernel
theorem dX5_badInNumber_66 : decode cX5_badInNumber 66 = .ok (.goto 5, 3) := by decide +kernel
theorem dX5_badInNumber_69 : decode cX5_badInNumber 69 = .ok (.bipush (-9), 2) := by decide +kernel
theorem dX5_badInNumber_71 : decode cX5_badInNumber 71 = .ok (.ireturn, 1) := by decide +kernel
theorem dX5_numberAt_0 : decode cX5_numberAt 0 = .ok (.bipush 10, 2) := by decide +kernel
theorem dX5_numberAt_2 : decode cX5_numberAt 2 = .ok (.aload_n 0, 1) := by decide +kernel
theorem dX5_numberAt_3 : decode cX5_numberAt 3 = .ok (.iload_n 1, 1) := by decide +kernel
theorem dX5_numberAt_4 : decode cX5_numberAt 4 = .ok (.invokevirtual 60, 3) := by decide +kernel
theorem dX5_numberAt_7 : decode cX5_numberAt 7 = .ok (.imul, 1) := by decide +kernel
theorem dX5_numberAt_8 : decode cX5_numberAt 8 = .ok (.aload_n 0, 1) := by decide +kernel
theorem dX5_numberAt_9 : decode cX5_numberAt 9 = .ok (.iload_n 1, 1) := by decide +kernel
theorem dX5_numberAt_10 : decode cX5_numberAt 10 = .ok (.iconst 1, 1) := by decide +kernel
theorem dX5_numberAt_11 : decode cX5_numberAt 11 = .ok (.iadd, 1) := by decide +kernel
theorem dX5_numberAt_12 : decode cX5_numberAt 12 = .ok (.invokevirtual 60, 3) := by decide +kernel
theorem dX5_numberAt_15 : decode cX5_numberAt 15 = .ok (.iadd, 1) := by decide +kernel
theorem dX5_numberAt_16 : decode cX5_numberAt 16 = .ok (.ireturn, 1) := by decide +kernel
theorem dX5_digitAt_0 : decode cX5_digitAt 0 = .ok (.aload_n 0, 1) := by decide +kernel
theorem dX5_digitAt_1 : decode cX5_digitAt 1 = .ok (.iload_n 1, 1) := by decide +kernel
theorem dX5_digitAt_2 : decode cX5_digitAt 2 = .ok (.invokevirtual 23, 3) := by decide +kernel
theorem dX5_digitAt_5 : decode cX5_digitAt 5 = .ok (.istore_n 2, 1) := by decide +kernel
theorem dX5_digitAt_6 : decode cX5_digitAt 6 = .ok (.iload_n 2, 1) := by decide +kernel
theorem dX5_digitAt_7 : decode cX5_digitAt 7 = .ok (.bipush 48, 2) := by decide +kernel
theorem dX5_digitAt_9 : decode cX5_digitAt 9 = .ok (.if_icmp .lt 16, 3) := by decide +kernel
theorem dX5_digitAt_12 : decode cX5_digitAt 12 = .ok (.iload_n 2, 1) := by decide +kernel
theorem dX5_digitAt_13 : decode cX5_digitAt 13 = .ok (.bipush 57, 2) := by decide +kernel
theorem dX5_digitAt_15 : decode cX5_digitAt 15 = .ok (.if_icmp .gt 10, 3) := by decide +kernel
theorem dX5_digitAt_18 : decode cX5_digitAt 18 = .ok (.iload_n 2, 1) := by decide +kernel
theorem dX5_digitAt_19 : decode cX5_digitAt 19 = .ok (.bipush 48, 2) := by decide +kernel
theorem dX5_digitAt_21 : decode cX5_digitAt 21 = .ok (.isub, 1) := by decide +kernel
theorem dX5_digitAt_22 : decode cX5_digitAt 22 = .ok (.goto 4, 3) := by decide +kernel
theorem dX5_digitAt_25 : decode cX5_digitAt 25 = .ok (.iconst (-1), 1) := by decide +kernel
theorem dX5_digitAt_26 : decode cX5_digitAt 26 = .ok (.ireturn, 1) := by decide +kernel
theorem dX5_codeAt_0 : decode cX5_codeAt 0 = .ok (.iload_n 1, 1) := by decide +kernel
theorem dX5_codeAt_1 : decode cX5_codeAt 1 = .ok (.ifCond .lt 20, 3) := by decide +kernel
theorem dX5_codeAt_4 : decode cX5_codeAt 4 = .ok (.iload_n 1, 1) := by decide +kernel
theorem dX5_codeAt_5 : decode cX5_codeAt 5 = .ok (.aload_n 0, 1) := by decide +kernel
theorem dX5_codeAt_6 : decode cX5_codeAt 6 = .ok (.getfield 15, 3) := by decide +kernel
theorem dX5_codeAt_9 : decode cX5_codeAt 9 = .ok (.if_icmp .ge 12, 3) := by decide +kernel
theorem dX5_codeAt_12 : decode cX5_codeAt 12 = .ok (.aload_n 0, 1) := by decide +kernel
theorem dX5_codeAt_13 : decode cX5_codeAt 13 = .ok (.getfield 9, 3) := by decide +kernel
theorem dX5_codeAt_16 : decode cX5_codeAt 16 = .ok (.iload_n 1, 1) := by decide +kernel
theorem dX5_codeAt_17 : decode cX5_codeAt 17 = .ok (.iaload, 1) := by decide +kernel
theorem dX5_codeAt_18 : decode cX5_codeAt 18 = .ok (.goto 4, 3) := by decide +kernel
theorem dX5_codeAt_21 : decode cX5_codeAt 21 = .ok (.iconst (-1), 1) := by decide +kernel
theorem dX5_codeAt_22 : decode cX5_codeAt 22 = .ok (.ireturn, 1) := by decide +kernel
theorem dJ6_bitCount_0f7a4_0 : decode cJ6_bitCount_0f7a4 0 = .ok (.iload_n 0, 1) := by decide +kernel
theorem dJ6_bitCount_0f7a4_1 : decode cJ6_bitCount_0f7a4 1 = .ok (.iload_n 0, 1) := by decide +kernel
theorem dJ6_bitCount_0f7a4_2 : decode cJ6_bitCount_0f7a4 2 = .ok (.iconst 1, 1) := by decide +kernel
theorem dJ6_bitCount_0f7a4_3 : decode cJ6_bitCount_0f7a4 3 = .ok (.iushr, 1) := by decide +kernel
theorem dJ6_bitCount_0f7a4_4 : decode cJ6_bitCount_0f7a4 4 = .ok (.ldc_w 265, 3) := by decide +kernel
theorem dJ6_bitCount_0f7a4_7 : decode cJ6_bitCount_0f7a4 7 = .ok (.iand, 1) := by decide +kernel
theorem dJ6_bitCount_0f7a4_8 : decode cJ6_bitCount_0f7a4 8 = .ok (.isub, 1) := by decide +kernel
theorem dJ6_bitCount_0f7a4_9 : decode cJ6_bitCount_0f7a4 9 = .ok (.istore_n 0, 1) := by decide +kernel
theorem dJ6_bitCount_0f7a4_10 : decode cJ6_bitCount_0f7a4 10 = .ok (.iload_n 0, 1) := by decide +kernel
theorem dJ6_bitCount_0f7a4_11 : decode cJ6_bitCount_0f7a4 11 = .ok (.ldc_w 266, 3) := by decide +kernel
theorem dJ6_bitCount_0f7a4_14 : decode cJ6_bitCount_0f7a4 14 = .ok (.iand, 1) := by decide +kernel
theorem dJ6_bitCount_0f7a4_15 : decode cJ6_bitCount_0f7a4 15 = .ok (.iload_n 0, 1) := by decide +kernel
theorem dJ6_bitCount_0f7a4_16 : decode cJ6_bitCount_0f7a4 16 = .ok (.iconst 2, 1) := by decide +kernel
theorem dJ6_bitCount_0f7a4_17 : decode cJ6_bitCount_0f7a4 17 = .ok (.iushr, 1) := by decide +kernel
theorem dJ6_bitCount_0f7a4_18 : decode cJ6_bitCount_0f7a4 18 = .ok (.ldc_w 266, 3) := by decide +kernel
theorem dJ6_bitCount_0f7a4_21 : decode cJ6_bitCount_0f7a4 21 = .ok (.iand, 1) := by decide +kernel
theorem dJ6_bitCount_0f7a4_22 : decode cJ6_bitCount_0f7a4 22 = .ok (.iadd, 1) := by decide +kernel
theorem dJ6_bitCount_0f7a4_23 : decode cJ6_bitCount_0f7a4 23 = .ok (.istore_n 0, 1) := by decide +kernel
theorem dJ6_bitCount_0f7a4_24 : decode cJ6_bitCount_0f7a4 24 = .ok (.iload_n 0, 1) := by decide +kernel
theorem dJ6_bitCount_0f7a4_25 : decode cJ6_bitCount_0f7a4 25 = .ok (.iload_n 0, 1) := by decide +kernel
theorem dJ6_bitCount_0f7a4_26 : decode cJ6_bitCount_0f7a4 26 = .ok (.iconst 4, 1) := by decide +kernel
theorem dJ6_bitCount_0f7a4_27 : decode cJ6_bitCount_0f7a4 27 = .ok (.iushr, 1) := by decide +kernel
theorem dJ6_bitCount_0f7a4_28 : decode cJ6_bitCount_0f7a4 28 = .ok (.iadd, 1) := by decide +kernel
theorem dJ6_bitCount_0f7a4_29 : decode cJ6_bitCount_0f7a4 29 = .ok (.ldc_w 267, 3) := by decide +kernel
theorem dJ6_bitCount_0f7a4_32 : decode cJ6_bitCount_0f7a4 32 = .ok (.iand, 1) := by decide +kernel
theorem dJ6_bitCount_0f7a4_33 : decode cJ6_bitCount_0f7a4 33 = .ok (.istore_n 0, 1) := by decide +kernel
theorem dJ6_bitCount_0f7a4_34 : decode cJ6_bitCount_0f7a4 34 = .ok (.iload_n 0, 1) := by decide +kernel
theorem dJ6_bitCount_0f7a4_35 : decode cJ6_bitCount_0f7a4 35 = .ok (.iload_n 0, 1) := by decide +kernel
theorem dJ6_bitCount_0f7a4_36 : decode cJ6_bitCount_0f7a4 36 = .ok (.bipush 8, 2) := by decide +kernel
theorem dJ6_bitCount_0f7a4_38 : decode cJ6_bitCount_0f7a4 38 = .ok (.iushr, 1) := by decide +kernel
theorem dJ6_bitCount_0f7a4_39 : decode cJ6_bitCount_0f7a4 39 = .ok (.iadd, 1) := by decide +kernel
theorem dJ6_bitCount_0f7a4_40 : decode cJ6_bitCount_0f7a4 40 = .ok (.istore_n 0, 1) := by decide +kernel
theorem dJ6_bitCount_0f7a4_41 : decode cJ6_bitCount_0f7a4 41 = .ok (.iload_n 0, 1) := by decide +kernel
theorem dJ6_bitCount_0f7a4_42 : decode cJ6_bitCount_0f7a4 42 = .ok (.iload_n 0, 1) := by decide +kernel
theorem dJ6_bitCount_0f7a4_43 : decode cJ6_bitCount_0f7a4 43 = .ok (.bipush 16, 2) := by decide +kernel
theorem dJ6_bitCount_0f7a4_45 : decode cJ6_bitCount_0f7a4 45 = .ok (.iushr, 1) := by decide +kernel
theorem dJ6_bitCount_0f7a4_46 : decode cJ6_bitCount_0f7a4 46 = .ok (.iadd, 1) := by decide +kernel
theorem dJ6_bitCount_0f7a4_47 : decode cJ6_bitCount_0f7a4 47 = .ok (.istore_n 0, 1) := by decide +kernel
theorem dJ6_bitCount_0f7a4_48 : decode cJ6_bitCount_0f7a4 48 = .ok (.iload_n 0, 1) := by decide +kernel
theorem dJ6_bitCount_0f7a4_49 : decode cJ6_bitCount_0f7a4 49 = .ok (.bipush 63, 2) := by decide +kernel
theorem dJ6_bitCount_0f7a4_51 : decode cJ6_bitCount_0f7a4 51 = .ok (.iand, 1) := by decide +kernel
theorem dJ6_bitCount_0f7a4_52 : decode cJ6_bitCount_0f7a4 52 = .ok (.ireturn, 1) := by decide +kernel
theorem dJ9_max_7cf53_0 : decode cJ9_max_7cf53 0 = .ok (.iload_n 0, 1) := by decide +kernel
theorem dJ9_max_7cf53_1 : decode cJ9_max_7cf53 1 = .ok (.iload_n 1, 1) := by decide +kernel
theorem dJ9_max_7cf53_2 : decode cJ9_max_7cf53 2 = .ok (.if_icmp .lt 7, 3) := by decide +kernel
theorem dJ9_max_7cf53_5 : decode cJ9_max_7cf53 5 = .ok (.iload_n 0, 1) := by decide +kernel
theorem dJ9_max_7cf53_6 : decode cJ9_max_7cf53 6 = .ok (.goto 4, 3) := by decide +kernel
theorem dJ9_max_7cf53_9 : decode cJ9_max_7cf53 9 = .ok (.iload_n 1, 1) := by decide +kernel
theorem dJ9_max_7cf53_10 : decode cJ9_max_7cf53 10 = .ok (.ireturn, 1) := by decide +kernel
theorem dJ9_min_7cf53_0 : decode cJ9_min_7cf53 0 = .ok (.iload_n 0, 1) := by decide +kernel
theorem dJ9_min_7cf53_1 : decode cJ9_min_7cf53 1 = .ok (.iload_n 1, 1) := by decide +kernel
theorem dJ9_min_7cf53_2 : decode cJ9_min_7cf53 2 = .ok (.if_icmp .gt 7, 3) := by decide +kernel
theorem dJ9_min_7cf53_5 : decode cJ9_min_7cf53 5 = .ok (.iload_n 0, 1) := by decide +kernel
theorem dJ9_min_7cf53_6 : decode cJ9_min_7cf53 6 = .ok (.goto 4, 3) := by decide +kernel
theorem dJ9_min_7cf53_9 : decode cJ9_min_7cf53 9 = .ok (.iload_n 1, 1) := by decide +kernel
theorem dJ9_min_7cf53_10 : decode cJ9_min_7cf53 10 = .ok (.ireturn, 1) := by decide +kernel
