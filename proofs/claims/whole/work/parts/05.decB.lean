theorem dX6_init_0 : decode cX6_init 0 = .ok (.aload_n 0, 1) := by decide +kernel
theorem dX6_init_1 : decode cX6_init 1 = .ok (.invokespecial 3, 3) := by decide +kernel
theorem dX6_init_4 : decode cX6_init 4 = .ok (.aload_n 0, 1) := by decide +kernel
theorem dX6_init_5 : decode cX6_init 5 = .ok (.iconst 5, 1) := by decide +kernel
theorem dX6_init_6 : decode cX6_init 6 = .ok (.putfield 9, 3) := by decide +kernel
theorem dX6_init_9 : decode cX6_init 9 = .ok (.aload_n 0, 1) := by decide +kernel
theorem dX6_init_10 : decode cX6_init 10 = .ok (.bipush 6, 2) := by decide +kernel
theorem dX6_init_12 : decode cX6_init 12 = .ok (.newarray .int, 2) := by decide +kernel
theorem dX6_init_14 : decode cX6_init 14 = .ok (.putfield 15, 3) := by decide +kernel
theorem dX6_init_17 : decode cX6_init 17 = .ok (.aload_n 0, 1) := by decide +kernel
theorem dX6_init_18 : decode cX6_init 18 = .ok (.bipush 6, 2) := by decide +kernel
theorem dX6_init_20 : decode cX6_init 20 = .ok (.newarray .int, 2) := by decide +kernel
theorem dX6_init_22 : decode cX6_init 22 = .ok (.putfield 19, 3) := by decide +kernel
theorem dX6_init_25 : decode cX6_init 25 = .ok (.aload_n 0, 1) := by decide +kernel
theorem dX6_init_26 : decode cX6_init 26 = .ok (.bipush 6, 2) := by decide +kernel
theorem dX6_init_28 : decode cX6_init 28 = .ok (.newarray .int, 2) := by decide +kernel
theorem dX6_init_30 : decode cX6_init 30 = .ok (.putfield 22, 3) := by decide +kernel
theorem dX6_init_33 : decode cX6_init 33 = .ok (.aload_n 0, 1) := by decide +kernel
theorem dX6_init_34 : decode cX6_init 34 = .ok (.bipush 6, 2) := by decide +kernel
theorem dX6_init_36 : decode cX6_init 36 = .ok (.newarray .int, 2) := by decide +kernel
theorem dX6_init_38 : decode cX6_init 38 = .ok (.putfield 25, 3) := by decide +kernel
theorem dX6_init_41 : decode cX6_init 41 = .ok (.aload_n 0, 1) := by decide +kernel
theorem dX6_init_42 : decode cX6_init 42 = .ok (.bipush 6, 2) := by decide +kernel
theorem dX6_init_44 : decode cX6_init 44 = .ok (.newarray .int, 2) := by decide +kernel
theorem dX6_init_46 : decode cX6_init 46 = .ok (.putfield 28, 3) := by decide +kernel
theorem dX6_init_49 : decode cX6_init 49 = .ok (.aload_n 0, 1) := by decide +kernel
theorem dX6_init_50 : decode cX6_init 50 = .ok (.bipush 8, 2) := by decide +kernel
theorem dX6_init_52 : decode cX6_init 52 = .ok (.newarray .int, 2) := by decide +kernel
theorem dX6_init_54 : decode cX6_init 54 = .ok (.putfield 31, 3) := by decide +kernel
theorem dX6_init_57 : decode cX6_init 57 = .ok (.aload_n 0, 1) := by decide +kernel
theorem dX6_init_58 : decode cX6_init 58 = .ok (.bipush 8, 2) := by decide +kernel
theorem dX6_init_60 : decode cX6_init 60 = .ok (.newarray .int, 2) := by decide +kernel
theorem dX6_init_62 : decode cX6_init 62 = .ok (.putfield 34, 3) := by decide +kernel
theorem dX6_init_65 : decode cX6_init 65 = .ok (.aload_n 0, 1) := by decide +kernel
theorem dX6_init_66 : decode cX6_init 66 = .ok (.bipush 8, 2) := by decide +kernel
theorem dX6_init_68 : decode cX6_init 68 = .ok (.newarray .int, 2) := by decide +kernel
theorem dX6_init_70 : decode cX6_init 70 = .ok (.putfield 37, 3) := by decide +kernel
theorem dX6_init_73 : decode cX6_init 73 = .ok (.aload_n 0, 1) := by decide +kernel
theorem dX6_init_74 : decode cX6_init 74 = .ok (.bipush 8, 2) := by decide +kernel
theorem dX6_init_76 : decode cX6_init 76 = .ok (.newarray .int, 2) := by decide +kernel
theorem dX6_init_78 : decode cX6_init 78 = .ok (.putfield 40, 3) := by decide +kernel
theorem dX6_init_81 : decode cX6_init 81 = .ok (.aload_n 0, 1) := by decide +kernel
theorem dX6_init_82 : decode cX6_init 82 = .ok (.new 43, 3) := by decide +kernel
theorem dX6_init_85 : decode cX6_init 85 = .ok (.dup, 1) := by decide +kernel
theorem dX6_init_86 : decode cX6_init 86 = .ok (.invokespecial 45, 3) := by decide +kernel
theorem dX6_init_89 : decode cX6_init 89 = .ok (.putfield 46, 3) := by decide +kernel
theorem dX6_init_92 : decode cX6_init 92 = .ok (.return_, 1) := by decide +kernel
theorem dX6_copyFrom_0 : decode cX6_copyFrom 0 = .ok (.aload_n 0, 1) := by decide +kernel
theorem dX6_copyFrom_1 : decode cX6_copyFrom 1 = .ok (.aload_n 1, 1) := by decide +kernel
theorem dX6_copyFrom_2 : decode cX6_copyFrom 2 = .ok (.getfield 50, 3) := by decide +kernel
theorem dX6_copyFrom_5 : decode cX6_copyFrom 5 = .ok (.putfield 50, 3) := by decide +kernel
theorem dX6_copyFrom_8 : decode cX6_copyFrom 8 = .ok (.aload_n 0, 1) := by decide +kernel
theorem dX6_copyFrom_9 : decode cX6_copyFrom 9 = .ok (.aload_n 1, 1) := by decide +kernel
theorem dX6_copyFrom_10 : decode cX6_copyFrom 10 = .ok (.getfield 53, 3) := by decide +kernel
theorem dX6_copyFrom_13 : decode cX6_copyFrom 13 = .ok (.putfield 53, 3) := by decide +kernel
theorem dX6_copyFrom_16 : decode cX6_copyFrom 16 = .ok (.aload_n 0, 1) := by decide +kernel
theorem dX6_copyFrom_17 : decode cX6_copyFrom 17 = .ok (.aload_n 1, 1) := by decide +kernel
theorem dX6_copyFrom_18 : decode cX6_copyFrom 18 = .ok (.getfield 9, 3) := by decide +kernel
theorem dX6_copyFrom_21 : decode cX6_copyFrom 21 = .ok (.putfield 9, 3) := by decide +kernel
theorem dX6_copyFrom_24 : decode cX6_copyFrom 24 = .ok (.aload_n 0, 1) := by decide +kernel
theorem dX6_copyFrom_25 : decode cX6_copyFrom 25 = .ok (.aload_n 1, 1) := by decide +kernel
theorem dX6_copyFrom_26 : decode cX6_copyFrom 26 = .ok (.getfield 56, 3) := by decide +kernel
theorem dX6_copyFrom_29 : decode cX6_copyFrom 29 = .ok (.putfield 56, 3) := by decide +kernel
theorem dX6_copyFrom_32 : decode cX6_copyFrom 32 = .ok (.aload_n 0, 1) := by decide +kernel
theorem dX6_copyFrom_33 : decode cX6_copyFrom 33 = .ok (.aload_n 1, 1) := by decide +kernel
theorem dX6_copyFrom_34 : decode cX6_copyFrom 34 = .ok (.getfield 59, 3) := by decide +kernel
theorem dX6_copyFrom_37 : decode cX6_copyFrom 37 = .ok (.putfield 59, 3) := by decide +kernel
theorem dX6_copyFrom_40 : decode cX6_copyFrom 40 = .ok (.aload_n 1, 1) := by decide +kernel
theorem dX6_copyFrom_41 : decode cX6_copyFrom 41 = .ok (.getfield 15, 3) := by decide +kernel
theorem dX6_copyFrom_44 : decode cX6_copyFrom 44 = .ok (.iconst 0, 1) := by decide +kernel
theorem dX6_copyFrom_45 : decode cX6_copyFrom 45 = .ok (.aload_n 0, 1) := by decide +kernel
theorem dX6_copyFrom_46 : decode cX6_copyFrom 46 = .ok (.getfield 15, 3) := by decide +kernel
theorem dX6_copyFrom_49 : decode cX6_copyFrom 49 = .ok (.iconst 0, 1) := by decide +kernel
theorem dX6_copyFrom_50 : decode cX6_copyFrom 50 = .ok (.bipush 6, 2) := by decide +kernel
theorem dX6_copyFrom_52 : decode cX6_copyFrom 52 = .ok (.invokestatic 62, 3) := by decide +kernel
theorem dX6_copyFrom_55 : decode cX6_copyFrom 55 = .ok (.aload_n 1, 1) := by decide +kernel
theorem dX6_copyFrom_56 : decode cX6_copyFrom 56 = .ok (.getfield 19, 3) := by decide +kernel
theorem dX6_copyFrom_59 : decode cX6_copyFrom 59 = .ok (.iconst 0, 1) := by decide +kernel
theorem dX6_copyFrom_60 : decode cX6_copyFrom 60 = .ok (.aload_n 0, 1) := by decide +kernel
theorem dX6_copyFrom_61 : decode cX6_copyFrom 61 = .ok (.getfield 19, 3) := by decide +kernel
theorem dX6_copyFrom_64 : decode cX6_copyFrom 64 = .ok (.iconst 0, 1) := by decide +kernel
theorem dX6_copyFrom_65 : decode cX6_copyFrom 65 = .ok (.bipush 6, 2) := by decide +kernel
theorem dX6_copyFrom_67 : decode cX6_copyFrom 67 = .ok (.invokestatic 62, 3) := by decide +kernel
theorem dX6_copyFrom_70 : decode cX6_copyFrom 70 = .ok (.aload_n 1, 1) := by decide +kernel
theorem dX6_copyFrom_71 : decode cX6_copyFrom 71 = .ok (.getfield 22, 3) := by decide +kernel
theorem dX6_copyFrom_74 : decode cX6_copyFrom 74 = .ok (.iconst 0, 1) := by decide +kernel
theorem dX6_copyFrom_75 : decode cX6_copyFrom 75 = .ok (.aload_n 0, 1) := by decide +kernel
theorem dX6_copyFrom_76 : decode cX6_copyFrom 76 = .ok (.getfield 22, 3) := by decide +kernel
theorem dX6_copyFrom_79 : decode cX6_copyFrom 79 = .ok (.iconst 0, 1) := by decide +kernel
theorem dX6_copyFrom_80 : decode cX6_copyFrom 80 = .ok (.bipush 6, 2) := by decide +kernel
theorem dX6_copyFrom_82 : decode cX6_copyFrom 82 = .ok (.invokestatic 62, 3) := by decide +kernel
theorem dX6_copyFrom_85 : decode cX6_copyFrom 85 = .ok (.aload_n 1, 1) := by decide +kernel
theorem dX6_copyFrom_86 : decode cX6_copyFrom 86 = .ok (.getfield 25, 3) := by decide +kernel
theorem dX6_copyFrom_89 : decode cX6_copyFrom 89 = .ok (.iconst 0, 1) := by decide +kernel
theorem dX6_copyFrom_90 : decode cX6_copyFrom 90 = .ok (.aload_n 0, 1) := by decide +kernel
theorem dX6_copyFrom_91 : decode cX6_copyFrom 91 = .ok (.getfield 25, 3) := by decide +kernel
theorem dX6_copyFrom_94 : decode cX6_copyFrom 94 = .ok (.iconst 0, 1) := by decide +kernel
theorem dX6_copyFrom_95 : decode cX6_copyFrom 95 = .ok (.bipush 6, 2) := by decide +kernel
theorem dX6_copyFrom_97 : decode cX6_copyFrom 97 = .ok (.invokestatic 62, 3) := by decide +kernel
theorem dX6_copyFrom_100 : decode cX6_copyFrom 100 = .ok (.aload_n 1, 1) := by decide +kernel
theorem dX6_copyFrom_101 : decode cX6_copyFrom 101 = .ok (.getfield 28, 3) := by decide +kernel
theorem dX6_copyFrom_104 : decode cX6_copyFrom 104 = .ok (.iconst 0, 1) := by decide +kernel
theorem dX6_copyFrom_105 : decode cX6_copyFrom 105 = .ok (.aload_n 0, 1) := by decide +kernel
theorem dX6_copyFrom_106 : decode cX6_copyFrom 106 = .ok (.getfield 28, 3) := by decide +kernel
theorem dX6_copyFrom_109 : decode cX6_copyFrom 109 = .ok (.iconst 0, 1) := by decide +kernel
theorem dX6_copyFrom_110 : decode cX6_copyFrom 110 = .ok (.bipush 6, 2) := by decide +kernel
theorem dX6_copyFrom_112 : decode cX6_copyFrom 112 = .ok (.invokestatic 62, 3) := by decide +kernel
theorem dX6_copyFrom_115 : decode cX6_copyFrom 115 = .ok (.aload_n 1, 1) := by decide +kernel
theorem dX6_copyFrom_116 : decode cX6_copyFrom 116 = .ok (.getfield 31, 3) := by decide +kernel
theorem dX6_copyFrom_119 : decode cX6_copyFrom 119 = .ok (.iconst 0, 1) := by decide +kernel
theorem dX6_copyFrom_120 : decode cX6_copyFrom 120 = .ok (.aload_n 0, 1) := by decide +kernel
theorem dX6_copyFrom_121 : decode cX6_copyFrom 121 = .ok (.getfield 31, 3) := by decide +kernel
theorem dX6_copyFrom_124 : decode cX6_copyFrom 124 = .ok (.iconst 0, 1) := by decide +kernel
theorem dX6_copyFrom_125 : decode cX6_copyFrom 125 = .ok (.bipush 8, 2) := by decide +kernel
theorem dX6_copyFrom_127 : decode cX6_copyFrom 127 = .ok (.invokestatic 62, 3) := by decide +kernel
theorem dX6_copyFrom_130 : decode cX6_copyFrom 130 = .ok (.aload_n 1, 1) := by decide +kernel
theorem dX6_copyFrom_131 : decode cX6_copyFrom 131 = .ok (.getfield 34, 3) := by decide +kernel
theorem dX6_copyFrom_134 : decode cX6_copyFrom 134 = .ok (.iconst 0, 1) := by decide +kernel
theorem dX6_copyFrom_135 : decode cX6_copyFrom 135 = .ok (.aload_n 0, 1) := by decide +kernel
theorem dX6_copyFrom_136 : decode cX6_copyFrom 136 = .ok (.getfield 34, 3) := by decide +kernel
theorem dX6_copyFrom_139 : decode cX6_copyFrom 139 = .ok (.iconst 0, 1) := by decide +kernel
theorem dX6_copyFrom_140 : decode cX6_copyFrom 140 = .ok (.bipush 8, 2) := by decide +kernel
theorem dX6_copyFrom_142 : decode cX6_copyFrom 142 = .ok (.invokestatic 62, 3) := by decide +kernel
theorem dX6_copyFrom_145 : decode cX6_copyFrom 145 = .ok (.aload_n 1, 1) := by decide +kernel
theorem dX6_copyFrom_146 : decode cX6_copyFrom 146 = .ok (.getfield 37, 3) := by decide +kernel
theorem dX6_copyFrom_149 : decode cX6_copyFrom 149 = .ok (.iconst 0, 1) := by decide +kernel
theorem dX6_copyFrom_150 : decode cX6_copyFrom 150 = .ok (.aload_n 0, 1) := by decide +kernel
theorem dX6_copyFrom_151 : decode cX6_copyFrom 151 = .ok (.getfield 37, 3) := by decide +kernel
theorem dX6_copyFrom_154 : decode cX6_copyFrom 154 = .ok (.iconst 0, 1) := by decide +kernel
theorem dX6_copyFrom_155 : decode cX6_copyFrom 155 = .ok (.bipush 8, 2) := by decide +kernel
theorem dX6_copyFrom_157 : decode cX6_copyFrom 157 = .ok (.invokestatic 62, 3) := by decide +kernel
theorem dX6_copyFrom_160 : decode cX6_copyFrom 160 = .ok (.aload_n 1, 1) := by decide +kernel
theorem dX6_copyFrom_161 : decode cX6_copyFrom 161 = .ok (.getfield 40, 3) := by decide +kernel
theorem dX6_copyFrom_164 : decode cX6_copyFrom 164 = .ok (.iconst 0, 1) := by decide +kernel
theorem dX6_copyFrom_165 : decode cX6_copyFrom 165 = .ok (.aload_n 0, 1) := by decide +kernel
theorem dX6_copyFrom_166 : decode cX6_copyFrom 166 = .ok (.getfield 40, 3) := by decide +kernel
theorem dX6_copyFrom_169 : decode cX6_copyFrom 169 = .ok (.iconst 0, 1) := by decide +kernel
theorem dX6_copyFrom_170 : decode cX6_copyFrom 170 = .ok (.bipush 8, 2) := by decide +kernel
theorem dX6_copyFrom_172 : decode cX6_copyFrom 172 = .ok (.invokestatic 62, 3) := by decide +kernel
theorem dX6_copyFrom_175 : decode cX6_copyFrom 175 = .ok (.aload_n 0, 1) := by decide +kernel
theorem dX6_copyFrom_176 : decode cX6_copyFrom 176 = .ok (.getfield 46, 3) := by decide +kernel
theorem dX6_copyFrom_179 : decode cX6_copyFrom 179 = .ok (.aload_n 1, 1) := by decide +kernel
theorem dX6_copyFrom_180 : decode cX6_copyFrom 180 = .ok (.getfield 46, 3) := by decide +kernel
theorem dX6_copyFrom_183 : decode cX6_copyFrom 183 = .ok (.invokevirtual 68, 3) := by decide +kernel
theorem dX6_copyFrom_186 : decode cX6_copyFrom 186 = .ok (.return_, 1) := by decide +kernel
theorem dX6_makeBare_0 : decode cX6_makeBare 0 = .ok (.aload_n 0, 1) := by decide +kernel
theorem dX6_makeBare_1 : decode cX6_makeBare 1 = .ok (.iconst 0, 1) := by decide +kernel
theorem dX6_makeBare_2 : decode cX6_makeBare 2 = .ok (.putfield 50, 3) := by decide +kernel
theorem dX6_makeBare_5 : decode cX6_makeBare 5 = .ok (.aload_n 0, 1) := by decide +kernel
theorem dX6_makeBare_6 : decode cX6_makeBare 6 = .ok (.iconst 0, 1) := by decide +kernel
theorem dX6_makeBare_7 : decode cX6_makeBare 7 = .ok (.putfield 53, 3) := by decide +kernel
theorem dX6_makeBare_10 : decode cX6_makeBare 10 = .ok (.aload_n 0, 1) := by decide +kernel
theorem dX6_makeBare_11 : decode cX6_makeBare 11 = .ok (.iload_n 1, 1) := by decide +kernel
theorem dX6_makeBare_12 : decode cX6_makeBare 12 = .ok (.putfield 9, 3) := by decide +kernel
theorem dX6_makeBare_15 : decode cX6_makeBare 15 = .ok (.aload_n 0, 1) := by decide +kernel
theorem dX6_makeBare_16 : decode cX6_makeBare 16 = .ok (.iconst 0, 1) := by decide +kernel
theorem dX6_makeBare_17 : decode cX6_makeBare 17 = .ok (.putfield 56, 3) := by decide +kernel
theorem dX6_makeBare_20 : decode cX6_makeBare 20 = .ok (.aload_n 0, 1) := by decide +kernel
theorem dX6_makeBare_21 : decode cX6_makeBare 21 = .ok (.iconst 0, 1) := by decide +kernel
theorem dX6_makeBare_22 : decode cX6_makeBare 22 = .ok (.putfield 59, 3) := by decide +kernel
theorem dX6_makeBare_25 : decode cX6_makeBare 25 = .ok (.aload_n 0, 1) := by decide +kernel
theorem dX6_makeBare_26 : decode cX6_makeBare 26 = .ok (.getfield 46, 3) := by decide +kernel
theorem dX6_makeBare_29 : decode cX6_makeBare 29 = .ok (.invokevirtual 72, 3) := by decide +kernel
theorem dX6_makeBare_32 : decode cX6_makeBare 32 = .ok (.return_, 1) := by decide +kernel
theorem dX6_addAgent_0 : decode cX6_addAgent 0 = .ok (.aload_n 0, 1) := by decide +kernel
theorem dX6_addAgent_1 : decode cX6_addAgent 1 = .ok (.getfield 50, 3) := by decide +kernel
theorem dX6_addAgent_4 : decode cX6_addAgent 4 = .ok (.istore 4, 2) := by decide +kernel
theorem dX6_addAgent_6 : decode cX6_addAgent 6 = .ok (.iload 4, 2) := by decide +kernel
theorem dX6_addAgent_8 : decode cX6_addAgent 8 = .ok (.bipush 6, 2) := by decide +kernel
theorem dX6_addAgent_10 : decode cX6_addAgent 10 = .ok (.if_icmp .lt 4, 3) := by decide +kernel
theorem dX6_addAgent_13 : decode cX6_addAgent 13 = .ok (.return_, 1) := by decide +kernel
theorem dX6_addAgent_14 : decode cX6_addAgent 14 = .ok (.aload_n 0, 1) := by decide +kernel
theorem dX6_addAgent_15 : decode cX6_addAgent 15 = .ok (.getfield 15, 3) := by decide +kernel
theorem dX6_addAgent_18 : decode cX6_addAgent 18 = .ok (.iload 4, 2) := by decide +kernel
theorem dX6_addAgent_20 : decode cX6_addAgent 20 = .ok (.iload_n 1, 1) := by decide +kernel
theorem dX6_addAgent_21 : decode cX6_addAgent 21 = .ok (.iastore, 1) := by decide +kernel
theorem dX6_addAgent_22 : decode cX6_addAgent 22 = .ok (.aload_n 0, 1) := by decide +kernel
theorem dX6_addAgent_23 : decode cX6_addAgent 23 = .ok (.getfield 19, 3) := by decide +kernel
theorem dX6_addAgent_26 : decode cX6_addAgent 26 = .ok (.iload 4, 2) := by decide +kernel
theorem dX6_addAgent_28 : decode cX6_addAgent 28 = .ok (.iload_n 2, 1) := by decide +kernel
theorem dX6_addAgent_29 : decode cX6_addAgent 29 = .ok (.iastore, 1) := by decide +kernel
theorem dX6_addAgent_30 : decode cX6_addAgent 30 = .ok (.aload_n 0, 1) := by decide +kernel
theorem dX6_addAgent_31 : decode cX6_addAgent 31 = .ok (.getfield 22, 3) := by decide +kernel
theorem dX6_addAgent_34 : decode cX6_addAgent 34 = .ok (.iload 4, 2) := by decide +kernel
theorem dX6_addAgent_36 : decode cX6_addAgent 36 = .ok (.iload_n 3, 1) := by decide +kernel
theorem dX6_addAgent_37 : decode cX6_addAgent 37 = .ok (.iastore, 1) := by decide +kernel
theorem dX6_addAgent_38 : decode cX6_addAgent 38 = .ok (.aload_n 0, 1) := by decide +kernel
theorem dX6_addAgent_39 : decode cX6_addAgent 39 = .ok (.getfield 25, 3) := by decide +kernel
theorem dX6_addAgent_42 : decode cX6_addAgent 42 = .ok (.iload 4, 2) := by decide +kernel
theorem dX6_addAgent_44 : decode cX6_addAgent 44 = .ok (.iconst 0, 1) := by decide +kernel
theorem dX6_addAgent_45 : decode cX6_addAgent 45 = .ok (.iastore, 1) := by decide +kernel
theorem dX6_addAgent_46 : decode cX6_addAgent 46 = .ok (.aload_n 0, 1) := by decide +kernel
theorem dX6_addAgent_47 : decode cX6_addAgent 47 = .ok (.getfield 28, 3) := by decide +kernel
theorem dX6_addAgent_50 : decode cX6_addAgent 50 = .ok (.iload 4, 2) := by decide +kernel
theorem dX6_addAgent_52 : decode cX6_addAgent 52 = .ok (.iconst 0, 1) := by decide +kernel
theorem dX6_addAgent_53 : decode cX6_addAgent 53 = .ok (.iastore, 1) := by decide +kernel
theorem dX6_addAgent_54 : decode cX6_addAgent 54 = .ok (.aload_n 0, 1) := by decide +kernel
theorem dX6_addAgent_55 : decode cX6_addAgent 55 = .ok (.dup, 1) := by decide +kernel
theorem dX6_addAgent_56 : decode cX6_addAgent 56 = .ok (.getfield 59, 3) := by decide +kernel
theorem dX6_addAgent_59 : decode cX6_addAgent 59 = .ok (.iconst 1, 1) := by decide +kernel
theorem dX6_addAgent_60 : decode cX6_addAgent 60 = .ok (.iload 4, 2) := by decide +kernel
theorem dX6_addAgent_62 : decode cX6_addAgent 62 = .ok (.ishl, 1) := by decide +kernel
theorem dX6_addAgent_63 : decode cX6_addAgent 63 = .ok (.ior, 1) := by decide +kernel
theorem dX6_addAgent_64 : decode cX6_addAgent 64 = .ok (.putfield 59, 3) := by decide +kernel
theorem dX6_addAgent_67 : decode cX6_addAgent 67 = .ok (.aload_n 0, 1) := by decide +kernel
theorem dX6_addAgent_68 : decode cX6_addAgent 68 = .ok (.iload 4, 2) := by decide +kernel
theorem dX6_addAgent_70 : decode cX6_addAgent 70 = .ok (.iconst 1, 1) := by decide +kernel
theorem dX6_addAgent_71 : decode cX6_addAgent 71 = .ok (.iadd, 1) := by decide +kernel
theorem dX6_addAgent_72 : decode cX6_addAgent 72 = .ok (.putfield 50, 3) := by decide +kernel
theorem dX6_addAgent_75 : decode cX6_addAgent 75 = .ok (.return_, 1) := by decide +kernel
theorem dX6_addTask_0 : decode cX6_addTask 0 = .ok (.aload_n 0, 1) := by decide +kernel
theorem dX6_addTask_1 : decode cX6_addTask 1 = .ok (.getfield 53, 3) := by decide +kernel
theorem dX6_addTask_4 : decode cX6_addTask 4 = .ok (.istore 4, 2) := by decide +kernel
theorem dX6_addTask_6 : decode cX6_addTask 6 = .ok (.iload 4, 2) := by decide +kernel
theorem dX6_addTask_8 : decode cX6_addTask 8 = .ok (.bipush 8, 2) := by decide +kernel
theorem dX6_addTask_10 : decode cX6_addTask 10 = .ok (.if_icmp .lt 4, 3) := by decide +kernel
theorem dX6_addTask_13 : decode cX6_addTask 13 = .ok (.return_, 1) := by decide +kernel
theorem dX6_addTask_14 : decode cX6_addTask 14 = .ok (.aload_n 0, 1) := by decide +kernel
theorem dX6_addTask_15 : decode cX6_addTask 15 = .ok (.getfield 31, 3) := by decide +kernel
theorem dX6_addTask_18 : decode cX6_addTask 18 = .ok (.iload 4, 2) := by decide +kernel
theorem dX6_addTask_20 : decode cX6_addTask 20 = .ok (.iload_n 1, 1) := by decide +kernel
theorem dX6_addTask_21 : decode cX6_addTask 21 = .ok (.iastore, 1) := by decide +kernel
theorem dX6_addTask_22 : decode cX6_addTask 22 = .ok (.aload_n 0, 1) := by decide +kernel
theorem dX6_addTask_23 : decode cX6_addTask 23 = .ok (.getfield 34, 3) := by decide +kernel
theorem dX6_addTask_26 : decode cX6_addTask 26 = .ok (.iload 4, 2) := by decide +kernel
theorem dX6_addTask_28 : decode cX6_addTask 28 = .ok (.iload_n 2, 1) := by decide +kernel
theorem dX6_addTask_29 : decode cX6_addTask 29 = .ok (.iastore, 1) := by decide +kernel
theorem dX6_addTask_30 : decode cX6_addTask 30 = .ok (.aload_n 0, 1) := by decide +kernel
theorem dX6_addTask_31 : decode cX6_addTask 31 = .ok (.getfield 37, 3) := by decide +kernel
theorem dX6_addTask_34 : decode cX6_addTask 34 = .ok (.iload 4, 2) := by decide +kernel
theorem dX6_addTask_36 : decode cX6_addTask 36 = .ok (.iload_n 3, 1) := by decide +kernel
theorem dX6_addTask_37 : decode cX6_addTask 37 = .ok (.iastore, 1) := by decide +kernel
theorem dX6_addTask_38 : decode cX6_addTask 38 = .ok (.aload_n 0, 1) := by decide +kernel
theorem dX6_addTask_39 : decode cX6_addTask 39 = .ok (.getfield 40, 3) := by decide +kernel
theorem dX6_addTask_42 : decode cX6_addTask 42 = .ok (.iload 4, 2) := by decide +kernel
theorem dX6_addTask_44 : decode cX6_addTask 44 = .ok (.iconst 0, 1) := by decide +kernel
theorem dX6_addTask_45 : decode cX6_addTask 45 = .ok (.iastore, 1) := by decide +kernel
theorem dX6_addTask_46 : decode cX6_addTask 46 = .ok (.aload_n 0, 1) := by decide +kernel
theorem dX6_addTask_47 : decode cX6_addTask 47 = .ok (.iload 4, 2) := by decide +kernel
theorem dX6_addTask_49 : decode cX6_addTask 49 = .ok (.iconst 1, 1) := by decide +kernel
theorem dX6_addTask_50 : decode cX6_addTask 50 = .ok (.iadd, 1) := by decide +kernel
theorem dX6_addTask_51 : decode cX6_addTask 51 = .ok (.putfield 53, 3) := by decide +kernel
theorem dX6_addTask_54 : decode cX6_addTask 54 = .ok (.return_, 1) := by decide +kernel
theorem dX6_hasAgent_0 : decode cX6_hasAgent 0 = .ok (.iload_n 1, 1) := by decide +kernel
theorem dX6_hasAgent_1 : decode cX6_hasAgent 1 = .ok (.ifCond .lt 15, 3) := by decide +kernel
theorem dX6_hasAgent_4 : decode cX6_hasAgent 4 = .ok (.iload_n 1, 1) := by decide +kernel
theorem dX6_hasAgent_5 : decode cX6_hasAgent 5 = .ok (.aload_n 0, 1) := by decide +kernel
theorem dX6_hasAgent_6 : decode cX6_hasAgent 6 = .ok (.getfield 50, 3) := by decide +kernel
theorem dX6_hasAgent_9 : decode cX6_hasAgent 9 = .ok (.if_icmp .ge 7, 3) := by decide +kernel
theorem dX6_hasAgent_12 : decode cX6_hasAgent 12 = .ok (.iconst 1, 1) := by decide +kernel
theorem dX6_hasAgent_13 : decode cX6_hasAgent 13 = .ok (.goto 4, 3) := by decide +kernel
theorem dX6_hasAgent_16 : decode cX6_hasAgent 16 = .ok (.iconst 0, 1) := by decide +kernel
theorem dX6_hasAgent_17 : decode cX6_hasAgent 17 = .ok (.ireturn, 1) := by decide +kernel
theorem dX6_hasTask_0 : decode cX6_hasTask 0 = .ok (.iload_n 1, 1) := by decide +kernel
theorem dX6_hasTask_1 : decode cX6_hasTask 1 = .ok (.ifCond .lt 15, 3) := by decide +kernel
theorem dX6_hasTask_4 : decode cX6_hasTask 4 = .ok (.iload_n 1, 1) := by decide +kernel
theorem dX6_hasTask_5 : decode cX6_hasTask 5 = .ok (.aload_n 0, 1) := by decide +kernel
theorem dX6_hasTask_6 : decode cX6_hasTask 6 = .ok (.getfield 53, 3) := by decide +kernel
theorem dX6_hasTask_9 : decode cX6_hasTask 9 = .ok (.if_icmp .ge 7, 3) := by decide +kernel
theorem dX6_hasTask_12 : decode cX6_hasTask 12 = .ok (.iconst 1, 1) := by decide +kernel
theorem dX6_hasTask_13 : decode cX6_hasTask 13 = .ok (.goto 4, 3) := by decide +kernel
theorem dX6_hasTask_16 : decode cX6_hasTask 16 = .ok (.iconst 0, 1) := by decide +kernel
theorem dX6_hasTask_17 : decode cX6_hasTask 17 = .ok (.ireturn, 1) := by decide +kernel
theorem dX6_isOn_0 : decode cX6_isOn 0 = .ok (.aload_n 0, 1) := by decide +kernel
theorem dX6_isOn_1 : decode cX6_isOn 1 = .ok (.getfield 59, 3) := by decide +kernel
theorem dX6_isOn_4 : decode cX6_isOn 4 = .ok (.iload_n 1, 1) := by decide +kernel
theorem dX6_isOn_5 : decode cX6_isOn 5 = .ok (.ishr, 1) := by decide +kernel
theorem dX6_isOn_6 : decode cX6_isOn 6 = .ok (.iconst 1, 1) := by decide +kernel
theorem dX6_isOn_7 : decode cX6_isOn 7 = .ok (.iand, 1) := by decide +kernel
theorem dX6_isOn_8 : decode cX6_isOn 8 = .ok (.iconst 1, 1) := by decide +kernel
theorem dX6_isOn_9 : decode cX6_isOn 9 = .ok (.if_icmp .ne 7, 3) := by decide +kernel
theorem dX6_isOn_12 : decode cX6_isOn 12 = .ok (.iconst 1, 1) := by decide +kernel
theorem dX6_isOn_13 : decode cX6_isOn 13 = .ok (.goto 4, 3) := by decide +kernel
theorem dX6_isOn_16 : decode cX6_isOn 16 = .ok (.iconst 0, 1) := by decide +kernel
theorem dX6_isOn_17 : decode cX6_isOn 17 = .ok (.ireturn, 1) := by decide +kernel
theorem dX6_isFinished_0 : decode cX6_isFinished 0 = .ok (.aload_n 0, 1) := by decide +kernel
theorem dX6_isFinished_1 : decode cX6_isFinished 1 = .ok (.getfield 40, 3) := by decide +kernel
theorem dX6_isFinished_4 : decode cX6_isFinished 4 = .ok (.iload_n 1, 1) := by decide +kernel
theorem dX6_isFinished_5 : decode cX6_isFinished 5 = .ok (.iaload, 1) := by decide +kernel
theorem dX6_isFinished_6 : decode cX6_isFinished 6 = .ok (.aload_n 0, 1) := by decide +kernel
theorem dX6_isFinished_7 : decode cX6_isFinished 7 = .ok (.getfield 37, 3) := by decide +kernel
theorem dX6_isFinished_10 : decode cX6_isFinished 10 = .ok (.iload_n 1, 1) := by decide +kernel
theorem dX6_isFinished_11 : decode cX6_isFinished 11 = .ok (.iaload, 1) := by decide +kernel
theorem dX6_isFinished_12 : decode cX6_isFinished 12 = .ok (.if_icmp .ne 7, 3) := by decide +kernel
theorem dX6_isFinished_15 : decode cX6_isFinished 15 = .ok (.iconst 1, 1) := by decide +kernel
theorem dX6_isFinished_16 : decode cX6_isFinished 16 = .ok (.goto 4, 3) := by decide +kernel
theorem dX6_isFinished_19 : decode cX6_isFinished 19 = .ok (.iconst 0, 1) := by decide +kernel
theorem dX6_isFinished_20 : decode cX6_isFinished 20 = .ok (.ireturn, 1) := by decide +kernel
theorem dX6_wayToTask_0 : decode cX6_wayToTask 0 = .ok (.aload_n 0, 1) := by decide +kernel
theorem dX6_wayToTask_1 : decode cX6_wayToTask 1 = .ok (.getfield 15, 3) := by decide +kernel
theorem dX6_wayToTask_4 : decode cX6_wayToTask 4 = .ok (.iload_n 1, 1) := by decide +kernel
theorem dX6_wayToTask_5 : decode cX6_wayToTask 5 = .ok (.iaload, 1) := by decide +kernel
theorem dX6_wayToTask_6 : decode cX6_wayToTask 6 = .ok (.aload_n 0, 1) := by decide +kernel
theorem dX6_wayToTask_7 : decode cX6_wayToTask 7 = .ok (.getfield 19, 3) := by decide +kernel
theorem dX6_wayToTask_10 : decode cX6_wayToTask 10 = .ok (.iload_n 1, 1) := by decide +kernel
theorem dX6_wayToTask_11 : decode cX6_wayToTask 11 = .ok (.iaload, 1) := by decide +kernel
theorem dX6_wayToTask_12 : decode cX6_wayToTask 12 = .ok (.aload_n 0, 1) := by decide +kernel
theorem dX6_wayToTask_13 : decode cX6_wayToTask 13 = .ok (.getfield 31, 3) := by decide +kernel
theorem dX6_wayToTask_16 : decode cX6_wayToTask 16 = .ok (.iload_n 2, 1) := by decide +kernel
theorem dX6_wayToTask_17 : decode cX6_wayToTask 17 = .ok (.iaload, 1) := by decide +kernel
theorem dX6_wayToTask_18 : decode cX6_wayToTask 18 = .ok (.aload_n 0, 1) := by decide +kernel
theorem dX6_wayToTask_19 : decode cX6_wayToTask 19 = .ok (.getfield 34, 3) := by decide +kernel
theorem dX6_wayToTask_22 : decode cX6_wayToTask 22 = .ok (.iload_n 2, 1) := by decide +kernel
theorem dX6_wayToTask_23 : decode cX6_wayToTask 23 = .ok (.iaload, 1) := by decide +kernel
theorem dX6_wayToTask_24 : decode cX6_wayToTask 24 = .ok (.invokestatic 75, 3) := by decide +kernel
theorem dX6_wayToTask_27 : decode cX6_wayToTask 27 = .ok (.ireturn, 1) := by decide +kernel
theorem dX6_ownsLiveClaim_0 : decode cX6_ownsLiveClaim 0 = .ok (.iload_n 1, 1) := by decide +kernel
theorem dX6_ownsLiveClaim_1 : decode cX6_ownsLiveClaim 1 = .ok (.iload_n 2, 1) := by decide +kernel
theorem dX6_ownsLiveClaim_2 : decode cX6_ownsLiveClaim 2 = .ok (.invokestatic 79, 3) := by decide +kernel
theorem dX6_ownsLiveClaim_5 : decode cX6_ownsLiveClaim 5 = .ok (.istore_n 3, 1) := by decide +kernel
theorem dX6_ownsLiveClaim_6 : decode cX6_ownsLiveClaim 6 = .ok (.aload_n 0, 1) := by decide +kernel
theorem dX6_ownsLiveClaim_7 : decode cX6_ownsLiveClaim 7 = .ok (.getfield 46, 3) := by decide +kernel
theorem dX6_ownsLiveClaim_10 : decode cX6_ownsLiveClaim 10 = .ok (.iload_n 3, 1) := by decide +kernel
theorem dX6_ownsLiveClaim_11 : decode cX6_ownsLiveClaim 11 = .ok (.iload_n 1, 1) := by decide +kernel
theorem dX6_ownsLiveClaim_12 : decode cX6_ownsLiveClaim 12 = .ok (.invokevirtual 83, 3) := by decide +kernel
theorem dX6_ownsLiveClaim_15 : decode cX6_ownsLiveClaim 15 = .ok (.ifCond .eq 22, 3) := by decide +kernel
theorem dX6_ownsLiveClaim_18 : decode cX6_ownsLiveClaim 18 = .ok (.aload_n 0, 1) := by decide +kernel
theorem dX6_ownsLiveClaim_19 : decode cX6_ownsLiveClaim 19 = .ok (.getfield 46, 3) := by decide +kernel
theorem dX6_ownsLiveClaim_22 : decode cX6_ownsLiveClaim 22 = .ok (.iload_n 3, 1) := by decide +kernel
theorem dX6_ownsLiveClaim_23 : decode cX6_ownsLiveClaim 23 = .ok (.aload_n 0, 1) := by decide +kernel
theorem dX6_ownsLiveClaim_24 : decode cX6_ownsLiveClaim 24 = .ok (.getfield 56, 3) := by decide +kernel
theorem dX6_ownsLiveClaim_27 : decode cX6_ownsLiveClaim 27 = .ok (.invokevirtual 87, 3) := by decide +kernel
theorem dX6_ownsLiveClaim_30 : decode cX6_ownsLiveClaim 30 = .ok (.ifCond .eq 7, 3) := by decide +kernel
theorem dX6_ownsLiveClaim_33 : decode cX6_ownsLiveClaim 33 = .ok (.iconst 1, 1) := by decide +kernel
theorem dX6_ownsLiveClaim_34 : decode cX6_ownsLiveClaim 34 = .ok (.goto 4, 3) := by decide +kernel
theorem dX6_ownsLiveClaim_37 : decode cX6_ownsLiveClaim 37 = .ok (.iconst 0, 1) := by decide +kernel
theorem dX6_ownsLiveClaim_38 : decode cX6_ownsLiveClaim 38 = .ok (.ireturn, 1) := by decide +kernel
theorem dX6_ownTask_0 : decode cX6_ownTask 0 = .ok (.iconst 0, 1) := by decide +kernel
theorem dX6_ownTask_1 : decode cX6_ownTask 1 = .ok (.istore_n 2, 1) := by decide +kernel
theorem dX6_ownTask_2 : decode cX6_ownTask 2 = .ok (.iload_n 2, 1) := by decide +kernel
theorem dX6_ownTask_3 : decode cX6_ownTask 3 = .ok (.aload_n 0, 1) := by decide +kernel
theorem dX6_ownTask_4 : decode cX6_ownTask 4 = .ok (.getfield 53, 3) := by decide +kernel
theorem dX6_ownTask_7 : decode cX6_ownTask 7 = .ok (.if_icmp .ge 20, 3) := by decide +kernel
theorem dX6_ownTask_10 : decode cX6_ownTask 10 = .ok (.aload_n 0, 1) := by decide +kernel
theorem dX6_ownTask_11 : decode cX6_ownTask 11 = .ok (.iload_n 1, 1) := by decide +kernel
theorem dX6_ownTask_12 : decode cX6_ownTask 12 = .ok (.iload_n 2, 1) := by decide +kernel
theorem dX6_ownTask_13 : decode cX6_ownTask 13 = .ok (.invokevirtual 90, 3) := by decide +kernel
theorem dX6_ownTask_16 : decode cX6_ownTask 16 = .ok (.ifCond .eq 5, 3) := by decide +kernel
theorem dX6_ownTask_19 : decode cX6_ownTask 19 = .ok (.iload_n 2, 1) := by decide +kernel
theorem dX6_ownTask_20 : decode cX6_ownTask 20 = .ok (.ireturn, 1) := by decide +kernel
theorem dX6_ownTask_21 : decode cX6_ownTask 21 = .ok (.iinc 2 1, 3) := by decide +kernel
theorem dX6_ownTask_24 : decode cX6_ownTask 24 = .ok (.goto (-22), 3) := by decide +kernel
theorem dX6_ownTask_27 : decode cX6_ownTask 27 = .ok (.bipush (-9), 2) := by decide +kernel
theorem dX6_ownTask_29 : decode cX6_ownTask 29 = .ok (.ireturn, 1) := by decide +kernel
theorem dX6_areInTouch_0 : decode cX6_areInTouch 0 = .ok (.iload_n 1, 1) := by decide +kernel
theorem dX6_areInTouch_1 : decode cX6_areInTouch 1 = .ok (.iload_n 2, 1) := by decide +kernel
theorem dX6_areInTouch_2 : decode cX6_areInTouch 2 = .ok (.if_icmp .eq 68, 3) := by decide +kernel
theorem dX6_areInTouch_5 : decode cX6_areInTouch 5 = .ok (.aload_n 0, 1) := by decide +kernel
theorem dX6_areInTouch_6 : decode cX6_areInTouch 6 = .ok (.iload_n 1, 1) := by decide +kernel
theorem dX6_areInTouch_7 : decode cX6_areInTouch 7 = .ok (.invokevirtual 93, 3) := by decide +kernel
theorem dX6_areInTouch_10 : decode cX6_areInTouch 10 = .ok (.ifCond .eq 60, 3) := by decide +kernel
theorem dX6_areInTouch_13 : decode cX6_areInTouch 13 = .ok (.aload_n 0, 1) := by decide +kernel
theorem dX6_areInTouch_14 : decode cX6_areInTouch 14 = .ok (.iload_n 2, 1) := by decide +kernel
theorem dX6_areInTouch_15 : decode cX6_areInTouch 15 = .ok (.invokevirtual 93, 3) := by decide +kernel
theorem dX6_areInTouch_18 : decode cX6_areInTouch 18 = .ok (.ifCond .eq 52, 3) := by decide +kernel
theorem dX6_areInTouch_21 : decode cX6_areInTouch 21 = .ok (.aload_n 0, 1) := by decide +kernel
theorem dX6_areInTouch_22 : decode cX6_areInTouch 22 = .ok (.getfield 15, 3) := by decide +kernel
theorem dX6_areInTouch_25 : decode cX6_areInTouch 25 = .ok (.iload_n 1, 1) := by decide +kernel
theorem dX6_areInTouch_26 : decode cX6_areInTouch 26 = .ok (.iaload, 1) := by decide +kernel
theorem dX6_areInTouch_27 : decode cX6_areInTouch 27 = .ok (.aload_n 0, 1) := by decide +kernel
theorem dX6_areInTouch_28 : decode cX6_areInTouch 28 = .ok (.getfield 19, 3) := by decide +kernel
theorem dX6_areInTouch_31 : decode cX6_areInTouch 31 = .ok (.iload_n 1, 1) := by decide +kernel
theorem dX6_areInTouch_32 : decode cX6_areInTouch 32 = .ok (.iaload, 1) := by decide +kernel
theorem dX6_areInTouch_33 : decode cX6_areInTouch 33 = .ok (.aload_n 0, 1) := by decide +kernel
theorem dX6_areInTouch_34 : decode cX6_areInTouch 34 = .ok (.getfield 15, 3) := by decide +kernel
theorem dX6_areInTouch_37 : decode cX6_areInTouch 37 = .ok (.iload_n 2, 1) := by decide +kernel
theorem dX6_areInTouch_38 : decode cX6_areInTouch 38 = .ok (.iaload, 1) := by decide +kernel
theorem dX6_areInTouch_39 : decode cX6_areInTouch 39 = .ok (.aload_n 0, 1) := by decide +kernel
theorem dX6_areInTouch_40 : decode cX6_areInTouch 40 = .ok (.getfield 19, 3) := by decide +kernel
theorem dX6_areInTouch_43 : decode cX6_areInTouch 43 = .ok (.iload_n 2, 1) := by decide +kernel
theorem dX6_areInTouch_44 : decode cX6_areInTouch 44 = .ok (.iaload, 1) := by decide +kernel
theorem dX6_areInTouch_45 : decode cX6_areInTouch 45 = .ok (.invokestatic 75, 3) := by decide +kernel
theorem dX6_areInTouch_48 : decode cX6_areInTouch 48 = .ok (.aload_n 0, 1) := by decide +kernel
theorem dX6_areInTouch_49 : decode cX6_areInTouch 49 = .ok (.getfield 22, 3) := by decide +kernel
theorem dX6_areInTouch_52 : decode cX6_areInTouch 52 = .ok (.iload_n 1, 1) := by decide +kernel
theorem dX6_areInTouch_53 : decode cX6_areInTouch 53 = .ok (.iaload, 1) := by decide +kernel
theorem dX6_areInTouch_54 : decode cX6_areInTouch 54 = .ok (.aload_n 0, 1) := by decide +kernel
theorem dX6_areInTouch_55 : decode cX6_areInTouch 55 = .ok (.getfield 22, 3) := by decide +kernel
theorem dX6_areInTouch_58 : decode cX6_areInTouch 58 = .ok (.iload_n 2, 1) := by decide +kernel
theorem dX6_areInTouch_59 : decode cX6_areInTouch 59 = .ok (.iaload, 1) := by decide +kernel
theorem dX6_areInTouch_60 : decode cX6_areInTouch 60 = .ok (.invokestatic 97, 3) := by decide +kernel
theorem dX6_areInTouch_63 : decode cX6_areInTouch 63 = .ok (.if_icmp .gt 7, 3) := by decide +kernel
theorem dX6_areInTouch_66 : decode cX6_areInTouch 66 = .ok (.iconst 1, 1) := by decide +kernel
theorem dX6_areInTouch_67 : decode cX6_areInTouch 67 = .ok (.goto 4, 3) := by decide +kernel
theorem dX6_areInTouch_70 : decode cX6_areInTouch 70 = .ok (.iconst 0, 1) := by decide +kernel
theorem dX6_areInTouch_71 : decode cX6_areInTouch 71 = .ok (.ireturn, 1) := by decide +kernel
theorem dX6_heardBy_0 : decode cX6_heardBy 0 = .ok (.iconst 0, 1) := by decide +kernel
theorem dX6_heardBy_1 : decode cX6_heardBy 1 = .ok (.istore_n 2, 1) := by decide +kernel
theorem dX6_heardBy_2 : decode cX6_heardBy 2 = .ok (.iconst 0, 1) := by decide +kernel
theorem dX6_heardBy_3 : decode cX6_heardBy 3 = .ok (.istore_n 3, 1) := by decide +kernel
theorem dX6_heardBy_4 : decode cX6_heardBy 4 = .ok (.iload_n 3, 1) := by decide +kernel
theorem dX6_heardBy_5 : decode cX6_heardBy 5 = .ok (.aload_n 0, 1) := by decide +kernel
theorem dX6_heardBy_6 : decode cX6_heardBy 6 = .ok (.getfield 50, 3) := by decide +kernel
theorem dX6_heardBy_9 : decode cX6_heardBy 9 = .ok (.if_icmp .ge 24, 3) := by decide +kernel
theorem dX6_heardBy_12 : decode cX6_heardBy 12 = .ok (.aload_n 0, 1) := by decide +kernel
theorem dX6_heardBy_13 : decode cX6_heardBy 13 = .ok (.iload_n 1, 1) := by decide +kernel
theorem dX6_heardBy_14 : decode cX6_heardBy 14 = .ok (.iload_n 3, 1) := by decide +kernel
theorem dX6_heardBy_15 : decode cX6_heardBy 15 = .ok (.invokevirtual 102, 3) := by decide +kernel
theorem dX6_heardBy_18 : decode cX6_heardBy 18 = .ok (.ifCond .eq 9, 3) := by decide +kernel
theorem dX6_heardBy_21 : decode cX6_heardBy 21 = .ok (.iload_n 2, 1) := by decide +kernel
theorem dX6_heardBy_22 : decode cX6_heardBy 22 = .ok (.iconst 1, 1) := by decide +kernel
theorem dX6_heardBy_23 : decode cX6_heardBy 23 = .ok (.iload_n 3, 1) := by decide +kernel
theorem dX6_heardBy_24 : decode cX6_heardBy 24 = .ok (.ishl, 1) := by decide +kernel
theorem dX6_heardBy_25 : decode cX6_heardBy 25 = .ok (.ior, 1) := by decide +kernel
theorem dX6_heardBy_26 : decode cX6_heardBy 26 = .ok (.istore_n 2, 1) := by decide +kernel
theorem dX6_heardBy_27 : decode cX6_heardBy 27 = .ok (.iinc 3 1, 3) := by decide +kernel
theorem dX6_heardBy_30 : decode cX6_heardBy 30 = .ok (.goto (-26), 3) := by decide +kernel
theorem dX6_heardBy_33 : decode cX6_heardBy 33 = .ok (.iload_n 2, 1) := by decide +kernel
theorem dX6_heardBy_34 : decode cX6_heardBy 34 = .ok (.ireturn, 1) := by decide +kernel
theorem dX6_passedOn_0 : decode cX6_passedOn 0 = .ok (.iload_n 1, 1) := by decide +kernel
theorem dX6_passedOn_1 : decode cX6_passedOn 1 = .ok (.istore_n 2, 1) := by decide +kernel
theorem dX6_passedOn_2 : decode cX6_passedOn 2 = .ok (.iconst 0, 1) := by decide +kernel
theorem dX6_passedOn_3 : decode cX6_passedOn 3 = .ok (.istore_n 3, 1) := by decide +kernel
theorem dX6_passedOn_4 : decode cX6_passedOn 4 = .ok (.iload_n 3, 1) := by decide +kernel
theorem dX6_passedOn_5 : decode cX6_passedOn 5 = .ok (.aload_n 0, 1) := by decide +kernel
theorem dX6_passedOn_6 : decode cX6_passedOn 6 = .ok (.getfield 50, 3) := by decide +kernel
theorem dX6_passedOn_9 : decode cX6_passedOn 9 = .ok (.if_icmp .ge 25, 3) := by decide +kernel
theorem dX6_passedOn_12 : decode cX6_passedOn 12 = .ok (.iload_n 1, 1) := by decide +kernel
theorem dX6_passedOn_13 : decode cX6_passedOn 13 = .ok (.iload_n 3, 1) := by decide +kernel
theorem dX6_passedOn_14 : decode cX6_passedOn 14 = .ok (.invokestatic 105, 3) := by decide +kernel
theorem dX6_passedOn_17 : decode cX6_passedOn 17 = .ok (.ifCond .eq 11, 3) := by decide +kernel
theorem dX6_passedOn_20 : decode cX6_passedOn 20 = .ok (.iload_n 2, 1) := by decide +kernel
theorem dX6_passedOn_21 : decode cX6_passedOn 21 = .ok (.aload_n 0, 1) := by decide +kernel
theorem dX6_passedOn_22 : decode cX6_passedOn 22 = .ok (.iload_n 3, 1) := by decide +kernel
theorem dX6_passedOn_23 : decode cX6_passedOn 23 = .ok (.invokevirtual 108, 3) := by decide +kernel
theorem dX6_passedOn_26 : decode cX6_passedOn 26 = .ok (.ior, 1) := by decide +kernel
theorem dX6_passedOn_27 : decode cX6_passedOn 27 = .ok (.istore_n 2, 1) := by decide +kernel
theorem dX6_passedOn_28 : decode cX6_passedOn 28 = .ok (.iinc 3 1, 3) := by decide +kernel
theorem dX6_passedOn_31 : decode cX6_passedOn 31 = .ok (.goto (-27), 3) := by decide +kernel
theorem dX6_passedOn_34 : decode cX6_passedOn 34 = .ok (.iload_n 2, 1) := by decide +kernel
theorem dX6_passedOn_35 : decode cX6_passedOn 35 = .ok (.ireturn, 1) := by decide +kernel
theorem dX6_groupCount_0 : decode cX6_groupCount 0 = .ok (.aload_n 0, 1) := by decide +kernel
theorem dX6_groupCount_1 : decode cX6_groupCount 1 = .ok (.getfield 59, 3) := by decide +kernel
theorem dX6_groupCount_4 : decode cX6_groupCount 4 = .ok (.istore_n 1, 1) := by decide +kernel
theorem dX6_groupCount_5 : decode cX6_groupCount 5 = .ok (.iconst 0, 1) := by decide +kernel
theorem dX6_groupCount_6 : decode cX6_groupCount 6 = .ok (.istore_n 2, 1) := by decide +kernel
theorem dX6_groupCount_7 : decode cX6_groupCount 7 = .ok (.iconst 0, 1) := by decide +kernel
theorem dX6_groupCount_8 : decode cX6_groupCount 8 = .ok (.istore_n 3, 1) := by decide +kernel
theorem dX6_groupCount_9 : decode cX6_groupCount 9 = .ok (.iload_n 3, 1) := by decide +kernel
theorem dX6_groupCount_10 : decode cX6_groupCount 10 = .ok (.aload_n 0, 1) := by decide +kernel
theorem dX6_groupCount_11 : decode cX6_groupCount 11 = .ok (.getfield 50, 3) := by decide +kernel
theorem dX6_groupCount_14 : decode cX6_groupCount 14 = .ok (.if_icmp .ge 30, 3) := by decide +kernel
theorem dX6_groupCount_17 : decode cX6_groupCount 17 = .ok (.iload_n 1, 1) := by decide +kernel
theorem dX6_groupCount_18 : decode cX6_groupCount 18 = .ok (.iload_n 3, 1) := by decide +kernel
theorem dX6_groupCount_19 : decode cX6_groupCount 19 = .ok (.invokestatic 105, 3) := by decide +kernel
theorem dX6_groupCount_22 : decode cX6_groupCount 22 = .ok (.ifCond .eq 16, 3) := by decide +kernel
theorem dX6_groupCount_25 : decode cX6_groupCount 25 = .ok (.iload_n 1, 1) := by decide +kernel
theorem dX6_groupCount_26 : decode cX6_groupCount 26 = .ok (.aload_n 0, 1) := by decide +kernel
theorem dX6_groupCount_27 : decode cX6_groupCount 27 = .ok (.iload_n 3, 1) := by decide +kernel
theorem dX6_groupCount_28 : decode cX6_groupCount 28 = .ok (.invokevirtual 112, 3) := by decide +kernel
theorem dX6_groupCount_31 : decode cX6_groupCount 31 = .ok (.iconst (-1), 1) := by decide +kernel
theorem dX6_groupCount_32 : decode cX6_groupCount 32 = .ok (.ixor, 1) := by decide +kernel
theorem dX6_groupCount_33 : decode cX6_groupCount 33 = .ok (.iand, 1) := by decide +kernel
theorem dX6_groupCount_34 : decode cX6_groupCount 34 = .ok (.istore_n 1, 1) := by decide +kernel
theorem dX6_groupCount_35 : decode cX6_groupCount 35 = .ok (.iinc 2 1, 3) := by decide +kernel
theorem dX6_groupCount_38 : decode cX6_groupCount 38 = .ok (.iinc 3 1, 3) := by decide +kernel
theorem dX6_groupCount_41 : decode cX6_groupCount 41 = .ok (.goto (-32), 3) := by decide +kernel
theorem dX6_groupCount_44 : decode cX6_groupCount 44 = .ok (.iload_n 2, 1) := by decide +kernel
theorem dX6_groupCount_45 : decode cX6_groupCount 45 = .ok (.ireturn, 1) := by decide +kernel
theorem dX6_groupOf_0 : decode cX6_groupOf 0 = .ok (.iconst 1, 1) := by decide +kernel
theorem dX6_groupOf_1 : decode cX6_groupOf 1 = .ok (.iload_n 1, 1) := by decide +kernel
theorem dX6_groupOf_2 : decode cX6_groupOf 2 = .ok (.ishl, 1) := by decide +kernel
theorem dX6_groupOf_3 : decode cX6_groupOf 3 = .ok (.istore_n 2, 1) := by decide +kernel
theorem dX6_groupOf_4 : decode cX6_groupOf 4 = .ok (.iconst 1, 1) := by decide +kernel
theorem dX6_groupOf_5 : decode cX6_groupOf 5 = .ok (.istore_n 3, 1) := by decide +kernel
theorem dX6_groupOf_6 : decode cX6_groupOf 6 = .ok (.iload_n 3, 1) := by decide +kernel
theorem dX6_groupOf_7 : decode cX6_groupOf 7 = .ok (.bipush 6, 2) := by decide +kernel
theorem dX6_groupOf_9 : decode cX6_groupOf 9 = .ok (.if_icmp .ge 15, 3) := by decide +kernel
theorem dX6_groupOf_12 : decode cX6_groupOf 12 = .ok (.aload_n 0, 1) := by decide +kernel
theorem dX6_groupOf_13 : decode cX6_groupOf 13 = .ok (.iload_n 2, 1) := by decide +kernel
theorem dX6_groupOf_14 : decode cX6_groupOf 14 = .ok (.invokevirtual 115, 3) := by decide +kernel
theorem dX6_groupOf_17 : decode cX6_groupOf 17 = .ok (.istore_n 2, 1) := by decide +kernel
theorem dX6_groupOf_18 : decode cX6_groupOf 18 = .ok (.iinc 3 1, 3) := by decide +kernel
theorem dX6_groupOf_21 : decode cX6_groupOf 21 = .ok (.goto (-15), 3) := by decide +kernel
theorem dX6_groupOf_24 : decode cX6_groupOf 24 = .ok (.iload_n 2, 1) := by decide +kernel
theorem dX6_groupOf_25 : decode cX6_groupOf 25 = .ok (.ireturn, 1) := by decide +kernel
theorem dX6_placeAgent_0 : decode cX6_placeAgent 0 = .ok (.aload_n 0, 1) := by decide +kernel
theorem dX6_placeAgent_1 : decode cX6_placeAgent 1 = .ok (.getfield 15, 3) := by decide +kernel
theorem dX6_placeAgent_4 : decode cX6_placeAgent 4 = .ok (.iload_n 1, 1) := by decide +kernel
theorem dX6_placeAgent_5 : decode cX6_placeAgent 5 = .ok (.iload_n 2, 1) := by decide +kernel
theorem dX6_placeAgent_6 : decode cX6_placeAgent 6 = .ok (.iastore, 1) := by decide +kernel
theorem dX6_placeAgent_7 : decode cX6_placeAgent 7 = .ok (.aload_n 0, 1) := by decide +kernel
theorem dX6_placeAgent_8 : decode cX6_placeAgent 8 = .ok (.getfield 19, 3) := by decide +kernel
theorem dX6_placeAgent_11 : decode cX6_placeAgent 11 = .ok (.iload_n 1, 1) := by decide +kernel
theorem dX6_placeAgent_12 : decode cX6_placeAgent 12 = .ok (.iload_n 3, 1) := by decide +kernel
theorem dX6_placeAgent_13 : decode cX6_placeAgent 13 = .ok (.iastore, 1) := by decide +kernel
theorem dX6_placeAgent_14 : decode cX6_placeAgent 14 = .ok (.return_, 1) := by decide +kernel
theorem dX6_switchAgent_0 : decode cX6_switchAgent 0 = .ok (.aload_n 0, 1) := by decide +kernel
theorem dX6_switchAgent_1 : decode cX6_switchAgent 1 = .ok (.dup, 1) := by decide +kernel
theorem dX6_switchAgent_2 : decode cX6_switchAgent 2 = .ok (.getfield 59, 3) := by decide +kernel
theorem dX6_switchAgent_5 : decode cX6_switchAgent 5 = .ok (.iconst 1, 1) := by decide +kernel
theorem dX6_switchAgent_6 : decode cX6_switchAgent 6 = .ok (.iload_n 1, 1) := by decide +kernel
theorem dX6_switchAgent_7 : decode cX6_switchAgent 7 = .ok (.ishl, 1) := by decide +kernel
theorem dX6_switchAgent_8 : decode cX6_switchAgent 8 = .ok (.ixor, 1) := by decide +kernel
theorem dX6_switchAgent_9 : decode cX6_switchAgent 9 = .ok (.putfield 59, 3) := by decide +kernel
theorem dX6_switchAgent_12 : decode cX6_switchAgent 12 = .ok (.return_, 1) := by decide +kernel
theorem dX6_setAllRanges_0 : decode cX6_setAllRanges 0 = .ok (.iconst 0, 1) := by decide +kernel
theorem dX6_setAllRanges_1 : decode cX6_setAllRanges 1 = .ok (.istore_n 2, 1) := by decide +kernel
theorem dX6_setAllRanges_2 : decode cX6_setAllRanges 2 = .ok (.iload_n 2, 1) := by decide +kernel
theorem dX6_setAllRanges_3 : decode cX6_setAllRanges 3 = .ok (.aload_n 0, 1) := by decide +kernel
theorem dX6_setAllRanges_4 : decode cX6_setAllRanges 4 = .ok (.getfield 50, 3) := by decide +kernel
theorem dX6_setAllRanges_7 : decode cX6_setAllRanges 7 = .ok (.if_icmp .ge 16, 3) := by decide +kernel
theorem dX6_setAllRanges_10 : decode cX6_setAllRanges 10 = .ok (.aload_n 0, 1) := by decide +kernel
theorem dX6_setAllRanges_11 : decode cX6_setAllRanges 11 = .ok (.getfield 22, 3) := by decide +kernel
theorem dX6_setAllRanges_14 : decode cX6_setAllRanges 14 = .ok (.iload_n 2, 1) := by decide +kernel
theorem dX6_setAllRanges_15 : decode cX6_setAllRanges 15 = .ok (.iload_n 1, 1) := by decide +kernel
theorem dX6_setAllRanges_16 : decode cX6_setAllRanges 16 = .ok (.iastore, 1) := by decide +kernel
theorem dX6_setAllRanges_17 : decode cX6_setAllRanges 17 = .ok (.iinc 2 1, 3) := by decide +kernel
theorem dX6_setAllRanges_20 : decode cX6_setAllRanges 20 = .ok (.goto (-18), 3) := by decide +kernel
theorem dX6_setAllRanges_23 : decode cX6_setAllRanges 23 = .ok (.return_, 1) := by decide +kernel
theorem dX6_canPassClaim_0 : decode cX6_canPassClaim 0 = .ok (.aload_n 0, 1) := by decide +kernel
theorem dX6_canPassClaim_1 : decode cX6_canPassClaim 1 = .ok (.iload_n 1, 1) := by decide +kernel
theorem dX6_canPassClaim_2 : decode cX6_canPassClaim 2 = .ok (.iload_n 2, 1) := by decide +kernel
theorem dX6_canPassClaim_3 : decode cX6_canPassClaim 3 = .ok (.invokevirtual 102, 3) := by decide +kernel
theorem dX6_canPassClaim_6 : decode cX6_canPassClaim 6 = .ok (.ifCond .eq 27, 3) := by decide +kernel
theorem dX6_canPassClaim_9 : decode cX6_canPassClaim 9 = .ok (.aload_n 0, 1) := by decide +kernel
theorem dX6_canPassClaim_10 : decode cX6_canPassClaim 10 = .ok (.iload_n 1, 1) := by decide +kernel
theorem dX6_canPassClaim_11 : decode cX6_canPassClaim 11 = .ok (.invokevirtual 118, 3) := by decide +kernel
theorem dX6_canPassClaim_14 : decode cX6_canPassClaim 14 = .ok (.bipush (-9), 2) := by decide +kernel
theorem dX6_canPassClaim_16 : decode cX6_canPassClaim 16 = .ok (.if_icmp .eq 17, 3) := by decide +kernel
theorem dX6_canPassClaim_19 : decode cX6_canPassClaim 19 = .ok (.aload_n 0, 1) := by decide +kernel
theorem dX6_canPassClaim_20 : decode cX6_canPassClaim 20 = .ok (.iload_n 2, 1) := by decide +kernel
theorem dX6_canPassClaim_21 : decode cX6_canPassClaim 21 = .ok (.invokevirtual 118, 3) := by decide +kernel
theorem dX6_canPassClaim_24 : decode cX6_canPassClaim 24 = .ok (.bipush (-9), 2) := by decide +kernel
theorem dX6_canPassClaim_26 : decode cX6_canPassClaim 26 = .ok (.if_icmp .ne 7, 3) := by decide +kernel
theorem dX6_canPassClaim_29 : decode cX6_canPassClaim 29 = .ok (.iconst 1, 1) := by decide +kernel
theorem dX6_canPassClaim_30 : decode cX6_canPassClaim 30 = .ok (.goto 4, 3) := by decide +kernel
theorem dX6_canPassClaim_33 : decode cX6_canPassClaim 33 = .ok (.iconst 0, 1) := by decide +kernel
theorem dX6_canPassClaim_34 : decode cX6_canPassClaim 34 = .ok (.ireturn, 1) := by decide +kernel
theorem dX6_passClaim_0 : decode cX6_passClaim 0 = .ok (.aload_n 0, 1) := by decide +kernel
theorem dX6_passClaim_1 : decode cX6_passClaim 1 = .ok (.iload_n 1, 1) := by decide +kernel
theorem dX6_passClaim_2 : decode cX6_passClaim 2 = .ok (.invokevirtual 118, 3) := by decide +kernel
theorem dX6_passClaim_5 : decode cX6_passClaim 5 = .ok (.istore_n 3, 1) := by decide +kernel
theorem dX6_passClaim_6 : decode cX6_passClaim 6 = .ok (.iload_n 3, 1) := by decide +kernel
theorem dX6_passClaim_7 : decode cX6_passClaim 7 = .ok (.bipush (-9), 2) := by decide +kernel
theorem dX6_passClaim_9 : decode cX6_passClaim 9 = .ok (.if_icmp .ne 4, 3) := by decide +kernel
theorem dX6_passClaim_12 : decode cX6_passClaim 12 = .ok (.return_, 1) := by decide +kernel
theorem dX6_passClaim_13 : decode cX6_passClaim 13 = .ok (.aload_n 0, 1) := by decide +kernel
theorem dX6_passClaim_14 : decode cX6_passClaim 14 = .ok (.iload_n 2, 1) := by decide +kernel
theorem dX6_passClaim_15 : decode cX6_passClaim 15 = .ok (.iload_n 3, 1) := by decide +kernel
theorem dX6_passClaim_16 : decode cX6_passClaim 16 = .ok (.invokevirtual 121, 3) := by decide +kernel
theorem dX6_passClaim_19 : decode cX6_passClaim 19 = .ok (.istore 4, 2) := by decide +kernel
theorem dX6_passClaim_21 : decode cX6_passClaim 21 = .ok (.aload_n 0, 1) := by decide +kernel
theorem dX6_passClaim_22 : decode cX6_passClaim 22 = .ok (.getfield 46, 3) := by decide +kernel
theorem dX6_passClaim_25 : decode cX6_passClaim 25 = .ok (.iload_n 1, 1) := by decide +kernel
theorem dX6_passClaim_26 : decode cX6_passClaim 26 = .ok (.iload_n 3, 1) := by decide +kernel
theorem dX6_passClaim_27 : decode cX6_passClaim 27 = .ok (.invokestatic 79, 3) := by decide +kernel
theorem dX6_passClaim_30 : decode cX6_passClaim 30 = .ok (.iload_n 2, 1) := by decide +kernel
theorem dX6_passClaim_31 : decode cX6_passClaim 31 = .ok (.iload 4, 2) := by decide +kernel
theorem dX6_passClaim_33 : decode cX6_passClaim 33 = .ok (.aload_n 0, 1) := by decide +kernel
theorem dX6_passClaim_34 : decode cX6_passClaim 34 = .ok (.getfield 56, 3) := by decide +kernel
theorem dX6_passClaim_37 : decode cX6_passClaim 37 = .ok (.aload_n 0, 1) := by decide +kernel
theorem dX6_passClaim_38 : decode cX6_passClaim 38 = .ok (.getfield 9, 3) := by decide +kernel
theorem dX6_passClaim_41 : decode cX6_passClaim 41 = .ok (.iadd, 1) := by decide +kernel
theorem dX6_passClaim_42 : decode cX6_passClaim 42 = .ok (.invokevirtual 124, 3) := by decide +kernel
theorem dX6_passClaim_45 : decode cX6_passClaim 45 = .ok (.aload_n 0, 1) := by decide +kernel
theorem dX6_passClaim_46 : decode cX6_passClaim 46 = .ok (.getfield 46, 3) := by decide +kernel
theorem dX6_passClaim_49 : decode cX6_passClaim 49 = .ok (.iload_n 2, 1) := by decide +kernel
theorem dX6_passClaim_50 : decode cX6_passClaim 50 = .ok (.iload_n 3, 1) := by decide +kernel
theorem dX6_passClaim_51 : decode cX6_passClaim 51 = .ok (.invokestatic 79, 3) := by decide +kernel
theorem dX6_passClaim_54 : decode cX6_passClaim 54 = .ok (.iload_n 2, 1) := by decide +kernel
theorem dX6_passClaim_55 : decode cX6_passClaim 55 = .ok (.iload 4, 2) := by decide +kernel
theorem dX6_passClaim_57 : decode cX6_passClaim 57 = .ok (.aload_n 0, 1) := by decide +kernel
theorem dX6_passClaim_58 : decode cX6_passClaim 58 = .ok (.getfield 56, 3) := by decide +kernel
theorem dX6_passClaim_61 : decode cX6_passClaim 61 = .ok (.aload_n 0, 1) := by decide +kernel
theorem dX6_passClaim_62 : decode cX6_passClaim 62 = .ok (.getfield 9, 3) := by decide +kernel
theorem dX6_passClaim_65 : decode cX6_passClaim 65 = .ok (.iadd, 1) := by decide +kernel
theorem dX6_passClaim_66 : decode cX6_passClaim 66 = .ok (.invokevirtual 124, 3) := by decide +kernel
theorem dX6_passClaim_69 : decode cX6_passClaim 69 = .ok (.return_, 1) := by decide +kernel
theorem dX6_dropClaims_0 : decode cX6_dropClaims 0 = .ok (.iconst 0, 1) := by decide +kernel
theorem dX6_dropClaims_1 : decode cX6_dropClaims 1 = .ok (.istore_n 2, 1) := by decide +kernel
theorem dX6_dropClaims_2 : decode cX6_dropClaims 2 = .ok (.iconst 0, 1) := by decide +kernel
theorem dX6_dropClaims_3 : decode cX6_dropClaims 3 = .ok (.istore_n 3, 1) := by decide +kernel
theorem dX6_dropClaims_4 : decode cX6_dropClaims 4 = .ok (.iload_n 3, 1) := by decide +kernel
theorem dX6_dropClaims_5 : decode cX6_dropClaims 5 = .ok (.aload_n 0, 1) := by decide +kernel
theorem dX6_dropClaims_6 : decode cX6_dropClaims 6 = .ok (.getfield 53, 3) := by decide +kernel
theorem dX6_dropClaims_9 : decode cX6_dropClaims 9 = .ok (.if_icmp .ge 43, 3) := by decide +kernel
theorem dX6_dropClaims_12 : decode cX6_dropClaims 12 = .ok (.iload_n 1, 1) := by decide +kernel
theorem dX6_dropClaims_13 : decode cX6_dropClaims 13 = .ok (.iload_n 3, 1) := by decide +kernel
theorem dX6_dropClaims_14 : decode cX6_dropClaims 14 = .ok (.invokestatic 79, 3) := by decide +kernel
theorem dX6_dropClaims_17 : decode cX6_dropClaims 17 = .ok (.istore 4, 2) := by decide +kernel
theorem dX6_dropClaims_19 : decode cX6_dropClaims 19 = .ok (.aload_n 0, 1) := by decide +kernel
theorem dX6_dropClaims_20 : decode cX6_dropClaims 20 = .ok (.getfield 46, 3) := by decide +kernel
theorem dX6_dropClaims_23 : decode cX6_dropClaims 23 = .ok (.iload 4, 2) := by decide +kernel
theorem dX6_dropClaims_25 : decode cX6_dropClaims 25 = .ok (.iload_n 1, 1) := by decide +kernel
theorem dX6_dropClaims_26 : decode cX6_dropClaims 26 = .ok (.invokevirtual 83, 3) := by decide +kernel
theorem dX6_dropClaims_29 : decode cX6_dropClaims 29 = .ok (.ifCond .eq 17, 3) := by decide +kernel
theorem dX6_dropClaims_32 : decode cX6_dropClaims 32 = .ok (.aload_n 0, 1) := by decide +kernel
theorem dX6_dropClaims_33 : decode cX6_dropClaims 33 = .ok (.getfield 46, 3) := by decide +kernel
theorem dX6_dropClaims_36 : decode cX6_dropClaims 36 = .ok (.getfield 128, 3) := by decide +kernel
theorem dX6_dropClaims_39 : decode cX6_dropClaims 39 = .ok (.iload 4, 2) := by decide +kernel
theorem dX6_dropClaims_41 : decode cX6_dropClaims 41 = .ok (.iconst 0, 1) := by decide +kernel
theorem dX6_dropClaims_42 : decode cX6_dropClaims 42 = .ok (.iastore, 1) := by decide +kernel
theorem dX6_dropClaims_43 : decode cX6_dropClaims 43 = .ok (.iinc 2 1, 3) := by decide +kernel
theorem dX6_dropClaims_46 : decode cX6_dropClaims 46 = .ok (.iinc 3 1, 3) := by decide +kernel
theorem dX6_dropClaims_49 : decode cX6_dropClaims 49 = .ok (.goto (-45), 3) := by decide +kernel
theorem dX6_dropClaims_52 : decode cX6_dropClaims 52 = .ok (.iload_n 2, 1) := by decide +kernel
theorem dX6_dropClaims_53 : decode cX6_dropClaims 53 = .ok (.ireturn, 1) := by decide +kernel
theorem dX6_finishedTasks_0 : decode cX6_finishedTasks 0 = .ok (.iconst 0, 1) := by decide +kernel
theorem dX6_finishedTasks_1 : decode cX6_finishedTasks 1 = .ok (.istore_n 1, 1) := by decide +kernel
theorem dX6_finishedTasks_2 : decode cX6_finishedTasks 2 = .ok (.iconst 0, 1) := by decide +kernel
theorem dX6_finishedTasks_3 : decode cX6_finishedTasks 3 = .ok (.istore_n 2, 1) := by decide +kernel
theorem dX6_finishedTasks_4 : decode cX6_finishedTasks 4 = .ok (.iload_n 2, 1) := by decide +kernel
theorem dX6_finishedTasks_5 : decode cX6_finishedTasks 5 = .ok (.aload_n 0, 1) := by decide +kernel
theorem dX6_finishedTasks_6 : decode cX6_finishedTasks 6 = .ok (.getfield 53, 3) := by decide +kernel
theorem dX6_finishedTasks_9 : decode cX6_finishedTasks 9 = .ok (.if_icmp .ge 20, 3) := by decide +kernel
theorem dX6_finishedTasks_12 : decode cX6_finishedTasks 12 = .ok (.aload_n 0, 1) := by decide +kernel
theorem dX6_finishedTasks_13 : decode cX6_finishedTasks 13 = .ok (.iload_n 2, 1) := by decide +kernel
theorem dX6_finishedTasks_14 : decode cX6_finishedTasks 14 = .ok (.invokevirtual 131, 3) := by decide +kernel
theorem dX6_finishedTasks_17 : decode cX6_finishedTasks 17 = .ok (.ifCond .eq 6, 3) := by decide +kernel
theorem dX6_finishedTasks_20 : decode cX6_finishedTasks 20 = .ok (.iinc 1 1, 3) := by decide +kernel
theorem dX6_finishedTasks_23 : decode cX6_finishedTasks 23 = .ok (.iinc 2 1, 3) := by decide +kernel
theorem dX6_finishedTasks_26 : decode cX6_finishedTasks 26 = .ok (.goto (-22), 3) := by decide +kernel
theorem dX6_finishedTasks_29 : decode cX6_finishedTasks 29 = .ok (.iload_n 1, 1) := by decide +kernel
theorem dX6_finishedTasks_30 : decode cX6_finishedTasks 30 = .ok (.ireturn, 1) := by decide +kernel
theorem dX6_allProgress_0 : decode cX6_allProgress 0 = .ok (.aload_n 0, 1) := by decide +kernel
theorem dX6_allProgress_1 : decode cX6_allProgress 1 = .ok (.getfield 40, 3) := by decide +kernel
theorem dX6_allProgress_4 : decode cX6_allProgress 4 = .ok (.aload_n 0, 1) := by decide +kernel
theorem dX6_allProgress_5 : decode cX6_allProgress 5 = .ok (.getfield 53, 3) := by decide +kernel
theorem dX6_allProgress_8 : decode cX6_allProgress 8 = .ok (.invokestatic 134, 3) := by decide +kernel
theorem dX6_allProgress_11 : decode cX6_allProgress 11 = .ok (.ireturn, 1) := by decide +kernel
theorem dX6_allMoves_0 : decode cX6_allMoves 0 = .ok (.aload_n 0, 1) := by decide +kernel
theorem dX6_allMoves_1 : decode cX6_allMoves 1 = .ok (.getfield 25, 3) := by decide +kernel
theorem dX6_allMoves_4 : decode cX6_allMoves 4 = .ok (.aload_n 0, 1) := by decide +kernel
theorem dX6_allMoves_5 : decode cX6_allMoves 5 = .ok (.getfield 50, 3) := by decide +kernel
theorem dX6_allMoves_8 : decode cX6_allMoves 8 = .ok (.invokestatic 134, 3) := by decide +kernel
theorem dX6_allMoves_11 : decode cX6_allMoves 11 = .ok (.ireturn, 1) := by decide +kernel
theorem dX6_allWasted_0 : decode cX6_allWasted 0 = .ok (.aload_n 0, 1) := by decide +kernel
theorem dX6_allWasted_1 : decode cX6_allWasted 1 = .ok (.getfield 28, 3) := by decide +kernel
theorem dX6_allWasted_4 : decode cX6_allWasted 4 = .ok (.aload_n 0, 1) := by decide +kernel
theorem dX6_allWasted_5 : decode cX6_allWasted 5 = .ok (.getfield 50, 3) := by decide +kernel
theorem dX6_allWasted_8 : decode cX6_allWasted 8 = .ok (.invokestatic 134, 3) := by decide +kernel
theorem dX6_allWasted_11 : decode cX6_allWasted 11 = .ok (.ireturn, 1) := by decide +kernel
theorem dX6_sumOf_0 : decode cX6_sumOf 0 = .ok (.iconst 0, 1) := by decide +kernel
theorem dX6_sumOf_1 : decode cX6_sumOf 1 = .ok (.istore_n 2, 1) := by decide +kernel
theorem dX6_sumOf_2 : decode cX6_sumOf 2 = .ok (.iconst 0, 1) := by decide +kernel
theorem dX6_sumOf_3 : decode cX6_sumOf 3 = .ok (.istore_n 3, 1) := by decide +kernel
theorem dX6_sumOf_4 : decode cX6_sumOf 4 = .ok (.iload_n 3, 1) := by decide +kernel
theorem dX6_sumOf_5 : decode cX6_sumOf 5 = .ok (.iload_n 1, 1) := by decide +kernel
theorem dX6_sumOf_6 : decode cX6_sumOf 6 = .ok (.if_icmp .ge 15, 3) := by decide +kernel
theorem dX6_sumOf_9 : decode cX6_sumOf 9 = .ok (.iload_n 2, 1) := by decide +kernel
theorem dX6_sumOf_10 : decode cX6_sumOf 10 = .ok (.aload_n 0, 1) := by decide +kernel
theorem dX6_sumOf_11 : decode cX6_sumOf 11 = .ok (.iload_n 3, 1) := by decide +kernel
theorem dX6_sumOf_12 : decode cX6_sumOf 12 = .ok (.iaload, 1) := by decide +kernel
theorem dX6_sumOf_13 : decode cX6_sumOf 13 = .ok (.iadd, 1) := by decide +kernel
theorem dX6_sumOf_14 : decode cX6_sumOf 14 = .ok (.istore_n 2, 1) := by decide +kernel
theorem dX6_sumOf_15 : decode cX6_sumOf 15 = .ok (.iinc 3 1, 3) := by decide +kernel
theorem dX6_sumOf_18 : decode cX6_sumOf 18 = .ok (.goto (-14), 3) := by decide +kernel
theorem dX6_sumOf_21 : decode cX6_sumOf 21 = .ok (.iload_n 2, 1) := by decide +kernel
theorem dX6_sumOf_22 : decode cX6_sumOf 22 = .ok (.ireturn, 1) := by decide +kernel
theorem dX6_knowers_0 : decode cX6_knowers 0 = .ok (.iconst 0, 1) := by decide +kernel
theorem dX6_knowers_1 : decode cX6_knowers 1 = .ok (.istore_n 2, 1) := by decide +kernel
theorem dX6_knowers_2 : decode cX6_knowers 2 = .ok (.iconst 0, 1) := by decide +kernel
theorem dX6_knowers_3 : decode cX6_knowers 3 = .ok (.istore_n 3, 1) := by decide +kernel
theorem dX6_knowers_4 : decode cX6_knowers 4 = .ok (.iload_n 3, 1) := by decide +kernel
theorem dX6_knowers_5 : decode cX6_knowers 5 = .ok (.aload_n 0, 1) := by decide +kernel
theorem dX6_knowers_6 : decode cX6_knowers 6 = .ok (.getfield 50, 3) := by decide +kernel
theorem dX6_knowers_9 : decode cX6_knowers 9 = .ok (.if_icmp .ge 32, 3) := by decide +kernel
theorem dX6_knowers_12 : decode cX6_knowers 12 = .ok (.aload_n 0, 1) := by decide +kernel
theorem dX6_knowers_13 : decode cX6_knowers 13 = .ok (.getfield 46, 3) := by decide +kernel
theorem dX6_knowers_16 : decode cX6_knowers 16 = .ok (.getfield 128, 3) := by decide +kernel
theorem dX6_knowers_19 : decode cX6_knowers 19 = .ok (.iload_n 3, 1) := by decide +kernel
theorem dX6_knowers_20 : decode cX6_knowers 20 = .ok (.iload_n 1, 1) := by decide +kernel
theorem dX6_knowers_21 : decode cX6_knowers 21 = .ok (.invokestatic 79, 3) := by decide +kernel
theorem dX6_knowers_24 : decode cX6_knowers 24 = .ok (.iaload, 1) := by decide +kernel
theorem dX6_knowers_25 : decode cX6_knowers 25 = .ok (.iconst 2, 1) := by decide +kernel
theorem dX6_knowers_26 : decode cX6_knowers 26 = .ok (.if_icmp .ne 9, 3) := by decide +kernel
theorem dX6_knowers_29 : decode cX6_knowers 29 = .ok (.iload_n 2, 1) := by decide +kernel
theorem dX6_knowers_30 : decode cX6_knowers 30 = .ok (.iconst 1, 1) := by decide +kernel
theorem dX6_knowers_31 : decode cX6_knowers 31 = .ok (.iload_n 3, 1) := by decide +kernel
theorem dX6_knowers_32 : decode cX6_knowers 32 = .ok (.ishl, 1) := by decide +kernel
theorem dX6_knowers_33 : decode cX6_knowers 33 = .ok (.ior, 1) := by decide +kernel
theorem dX6_knowers_34 : decode cX6_knowers 34 = .ok (.istore_n 2, 1) := by decide +kernel
theorem dX6_knowers_35 : decode cX6_knowers 35 = .ok (.iinc 3 1, 3) := by decide +kernel
theorem dX6_knowers_38 : decode cX6_knowers 38 = .ok (.goto (-34), 3) := by decide +kernel
theorem dX6_knowers_41 : decode cX6_knowers 41 = .ok (.iload_n 2, 1) := by decide +kernel
theorem dX6_knowers_42 : decode cX6_knowers 42 = .ok (.ireturn, 1) := by decide +kernel
theorem dX6_isKnownToAll_0 : decode cX6_isKnownToAll 0 = .ok (.aload_n 0, 1) := by decide +kernel
theorem dX6_isKnownToAll_1 : decode cX6_isKnownToAll 1 = .ok (.getfield 59, 3) := by decide +kernel
theorem dX6_isKnownToAll_4 : decode cX6_isKnownToAll 4 = .ok (.aload_n 0, 1) := by decide +kernel
theorem dX6_isKnownToAll_5 : decode cX6_isKnownToAll 5 = .ok (.iload_n 1, 1) := by decide +kernel
theorem dX6_isKnownToAll_6 : decode cX6_isKnownToAll 6 = .ok (.invokevirtual 138, 3) := by decide +kernel
theorem dX6_isKnownToAll_9 : decode cX6_isKnownToAll 9 = .ok (.iconst (-1), 1) := by decide +kernel
theorem dX6_isKnownToAll_10 : decode cX6_isKnownToAll 10 = .ok (.ixor, 1) := by decide +kernel
theorem dX6_isKnownToAll_11 : decode cX6_isKnownToAll 11 = .ok (.iand, 1) := by decide +kernel
theorem dX6_isKnownToAll_12 : decode cX6_isKnownToAll 12 = .ok (.ifCond .ne 7, 3) := by decide +kernel
theorem dX6_isKnownToAll_15 : decode cX6_isKnownToAll 15 = .ok (.iconst 1, 1) := by decide +kernel
theorem dX6_isKnownToAll_16 : decode cX6_isKnownToAll 16 = .ok (.goto 4, 3) := by decide +kernel
theorem dX6_isKnownToAll_19 : decode cX6_isKnownToAll 19 = .ok (.iconst 0, 1) := by decide +kernel
theorem dX6_isKnownToAll_20 : decode cX6_isKnownToAll 20 = .ok (.ireturn, 1) := by decide +kernel
theorem dX6_claimants_0 : decode cX6_claimants 0 = .ok (.iconst 0, 1) := by decide +kernel
theorem dX6_claimants_1 : decode cX6_claimants 1 = .ok (.istore_n 2, 1) := by decide +kernel
theorem dX6_claimants_2 : decode cX6_claimants 2 = .ok (.iconst 0, 1) := by decide +kernel
theorem dX6_claimants_3 : decode cX6_claimants 3 = .ok (.istore_n 3, 1) := by decide +kernel
theorem dX6_claimants_4 : decode cX6_claimants 4 = .ok (.iload_n 3, 1) := by decide +kernel
theorem dX6_claimants_5 : decode cX6_claimants 5 = .ok (.aload_n 0, 1) := by decide +kernel
theorem dX6_claimants_6 : decode cX6_claimants 6 = .ok (.getfield 50, 3) := by decide +kernel
theorem dX6_claimants_9 : decode cX6_claimants 9 = .ok (.if_icmp .ge 32, 3) := by decide +kernel
theorem dX6_claimants_12 : decode cX6_claimants 12 = .ok (.aload_n 0, 1) := by decide +kernel
theorem dX6_claimants_13 : decode cX6_claimants 13 = .ok (.iload_n 3, 1) := by decide +kernel
theorem dX6_claimants_14 : decode cX6_claimants 14 = .ok (.invokevirtual 93, 3) := by decide +kernel
theorem dX6_claimants_17 : decode cX6_claimants 17 = .ok (.ifCond .eq 18, 3) := by decide +kernel
theorem dX6_claimants_20 : decode cX6_claimants 20 = .ok (.aload_n 0, 1) := by decide +kernel
theorem dX6_claimants_21 : decode cX6_claimants 21 = .ok (.iload_n 3, 1) := by decide +kernel
theorem dX6_claimants_22 : decode cX6_claimants 22 = .ok (.iload_n 1, 1) := by decide +kernel
theorem dX6_claimants_23 : decode cX6_claimants 23 = .ok (.invokevirtual 90, 3) := by decide +kernel
theorem dX6_claimants_26 : decode cX6_claimants 26 = .ok (.ifCond .eq 9, 3) := by decide +kernel
theorem dX6_claimants_29 : decode cX6_claimants 29 = .ok (.iload_n 2, 1) := by decide +kernel
theorem dX6_claimants_30 : decode cX6_claimants 30 = .ok (.iconst 1, 1) := by decide +kernel
theorem dX6_claimants_31 : decode cX6_claimants 31 = .ok (.iload_n 3, 1) := by decide +kernel
theorem dX6_claimants_32 : decode cX6_claimants 32 = .ok (.ishl, 1) := by decide +kernel
theorem dX6_claimants_33 : decode cX6_claimants 33 = .ok (.ior, 1) := by decide +kernel
theorem dX6_claimants_34 : decode cX6_claimants 34 = .ok (.istore_n 2, 1) := by decide +kernel
theorem dX6_claimants_35 : decode cX6_claimants 35 = .ok (.iinc 3 1, 3) := by decide +kernel
theorem dX6_claimants_38 : decode cX6_claimants 38 = .ok (.goto (-34), 3) := by decide +kernel
theorem dX6_claimants_41 : decode cX6_claimants 41 = .ok (.iload_n 2, 1) := by decide +kernel
theorem dX6_claimants_42 : decode cX6_claimants 42 = .ok (.ireturn, 1) := by decide +kernel
theorem dX6_doublyClaimed_0 : decode cX6_doublyClaimed 0 = .ok (.iconst 0, 1) := by decide +kernel
theorem dX6_doublyClaimed_1 : decode cX6_doublyClaimed 1 = .ok (.istore_n 1, 1) := by decide +kernel
theorem dX6_doublyClaimed_2 : decode cX6_doublyClaimed 2 = .ok (.iconst 0, 1) := by decide +kernel
theorem dX6_doublyClaimed_3 : decode cX6_doublyClaimed 3 = .ok (.istore_n 2, 1) := by decide +kernel
theorem dX6_doublyClaimed_4 : decode cX6_doublyClaimed 4 = .ok (.iload_n 2, 1) := by decide +kernel
theorem dX6_doublyClaimed_5 : decode cX6_doublyClaimed 5 = .ok (.aload_n 0, 1) := by decide +kernel
theorem dX6_doublyClaimed_6 : decode cX6_doublyClaimed 6 = .ok (.getfield 53, 3) := by decide +kernel
theorem dX6_doublyClaimed_9 : decode cX6_doublyClaimed 9 = .ok (.if_icmp .ge 24, 3) := by decide +kernel
theorem dX6_doublyClaimed_12 : decode cX6_doublyClaimed 12 = .ok (.aload_n 0, 1) := by decide +kernel
theorem dX6_doublyClaimed_13 : decode cX6_doublyClaimed 13 = .ok (.iload_n 2, 1) := by decide +kernel
theorem dX6_doublyClaimed_14 : decode cX6_doublyClaimed 14 = .ok (.invokevirtual 141, 3) := by decide +kernel
theorem dX6_doublyClaimed_17 : decode cX6_doublyClaimed 17 = .ok (.invokestatic 144, 3) := by decide +kernel
theorem dX6_doublyClaimed_20 : decode cX6_doublyClaimed 20 = .ok (.iconst 2, 1) := by decide +kernel
theorem dX6_doublyClaimed_21 : decode cX6_doublyClaimed 21 = .ok (.if_icmp .lt 6, 3) := by decide +kernel
theorem dX6_doublyClaimed_24 : decode cX6_doublyClaimed 24 = .ok (.iinc 1 1, 3) := by decide +kernel
theorem dX6_doublyClaimed_27 : decode cX6_doublyClaimed 27 = .ok (.iinc 2 1, 3) := by decide +kernel
theorem dX6_doublyClaimed_30 : decode cX6_doublyClaimed 30 = .ok (.goto (-26), 3) := by decide +kernel
theorem dX6_doublyClaimed_33 : decode cX6_doublyClaimed 33 = .ok (.iload_n 1, 1) := by decide +kernel
theorem dX6_doublyClaimed_34 : decode cX6_doublyClaimed 34 = .ok (.ireturn, 1) := by decide +kernel
theorem dX6_unknownFinishes_0 : decode cX6_unknownFinishes 0 = .ok (.iconst 0, 1) := by decide +kernel
theorem dX6_unknownFinishes_1 : decode cX6_unknownFinishes 1 = .ok (.istore_n 1, 1) := by decide +kernel
theorem dX6_unknownFinishes_2 : decode cX6_unknownFinishes 2 = .ok (.iconst 0, 1) := by decide +kernel
theorem dX6_unknownFinishes_3 : decode cX6_unknownFinishes 3 = .ok (.istore_n 2, 1) := by decide +kernel
theorem dX6_unknownFinishes_4 : decode cX6_unknownFinishes 4 = .ok (.iload_n 2, 1) := by decide +kernel
theorem dX6_unknownFinishes_5 : decode cX6_unknownFinishes 5 = .ok (.aload_n 0, 1) := by decide +kernel
theorem dX6_unknownFinishes_6 : decode cX6_unknownFinishes 6 = .ok (.getfield 53, 3) := by decide +kernel
theorem dX6_unknownFinishes_9 : decode cX6_unknownFinishes 9 = .ok (.if_icmp .ge 35, 3) := by decide +kernel
theorem dX6_unknownFinishes_12 : decode cX6_unknownFinishes 12 = .ok (.aload_n 0, 1) := by decide +kernel
theorem dX6_unknownFinishes_13 : decode cX6_unknownFinishes 13 = .ok (.iload_n 2, 1) := by decide +kernel
theorem dX6_unknownFinishes_14 : decode cX6_unknownFinishes 14 = .ok (.invokevirtual 131, 3) := by decide +kernel
theorem dX6_unknownFinishes_17 : decode cX6_unknownFinishes 17 = .ok (.ifCond .eq 21, 3) := by decide +kernel
theorem dX6_unknownFinishes_20 : decode cX6_unknownFinishes 20 = .ok (.iload_n 1, 1) := by decide +kernel
theorem dX6_unknownFinishes_21 : decode cX6_unknownFinishes 21 = .ok (.aload_n 0, 1) := by decide +kernel
theorem dX6_unknownFinishes_22 : decode cX6_unknownFinishes 22 = .ok (.getfield 59, 3) := by decide +kernel
theorem dX6_unknownFinishes_25 : decode cX6_unknownFinishes 25 = .ok (.aload_n 0, 1) := by decide +kernel
theorem dX6_unknownFinishes_26 : decode cX6_unknownFinishes 26 = .ok (.iload_n 2, 1) := by decide +kernel
theorem dX6_unknownFinishes_27 : decode cX6_unknownFinishes 27 = .ok (.invokevirtual 138, 3) := by decide +kernel
theorem dX6_unknownFinishes_30 : decode cX6_unknownFinishes 30 = .ok (.iconst (-1), 1) := by decide +kernel
theorem dX6_unknownFinishes_31 : decode cX6_unknownFinishes 31 = .ok (.ixor, 1) := by decide +kernel
theorem dX6_unknownFinishes_32 : decode cX6_unknownFinishes 32 = .ok (.iand, 1) := by decide +kernel
theorem dX6_unknownFinishes_33 : decode cX6_unknownFinishes 33 = .ok (.invokestatic 144, 3) := by decide +kernel
theorem dX6_unknownFinishes_36 : decode cX6_unknownFinishes 36 = .ok (.iadd, 1) := by decide +kernel
theorem dX6_unknownFinishes_37 : decode cX6_unknownFinishes 37 = .ok (.istore_n 1, 1) := by decide +kernel
theorem dX6_unknownFinishes_38 : decode cX6_unknownFinishes 38 = .ok (.iinc 2 1, 3) := by decide +kernel
theorem dX6_unknownFinishes_41 : decode cX6_unknownFinishes 41 = .ok (.goto (-37), 3) := by decide +kernel
theorem dX6_unknownFinishes_44 : decode cX6_unknownFinishes 44 = .ok (.iload_n 1, 1) := by decide +kernel
theorem dX6_unknownFinishes_45 : decode cX6_unknownFinishes 45 = .ok (.ireturn, 1) := by decide +kernel
theorem dX6_claimsOfLostAgents_0 : decode cX6_claimsOfLostAgents 0 = .ok (.iconst 0, 1) := by decide +kernel
theorem dX6_claimsOfLostAgents_1 : decode cX6_claimsOfLostAgents 1 = .ok (.istore_n 1, 1) := by decide +kernel
theorem dX6_claimsOfLostAgents_2 : decode cX6_claimsOfLostAgents 2 = .ok (.iconst 0, 1) := by decide +kernel
theorem dX6_claimsOfLostAgents_3 : decode cX6_claimsOfLostAgents 3 = .ok (.istore_n 2, 1) := by decide +kernel
theorem dX6_claimsOfLostAgents_4 : decode cX6_claimsOfLostAgents 4 = .ok (.iload_n 2, 1) := by decide +kernel
theorem dX6_claimsOfLostAgents_5 : decode cX6_claimsOfLostAgents 5 = .ok (.aload_n 0, 1) := by decide +kernel
theorem dX6_claimsOfLostAgents_6 : decode cX6_claimsOfLostAgents 6 = .ok (.getfield 50, 3) := by decide +kernel
theorem dX6_claimsOfLostAgents_9 : decode cX6_claimsOfLostAgents 9 = .ok (.if_icmp .ge 76, 3) := by decide +kernel
theorem dX6_claimsOfLostAgents_12 : decode cX6_claimsOfLostAgents 12 = .ok (.iconst 0, 1) := by decide +kernel
theorem dX6_claimsOfLostAgents_13 : decode cX6_claimsOfLostAgents 13 = .ok (.istore_n 3, 1) := by decide +kernel
theorem dX6_claimsOfLostAgents_14 : decode cX6_claimsOfLostAgents 14 = .ok (.iload_n 3, 1) := by decide +kernel
theorem dX6_claimsOfLostAgents_15 : decode cX6_claimsOfLostAgents 15 = .ok (.aload_n 0, 1) := by decide +kernel
theorem dX6_claimsOfLostAgents_16 : decode cX6_claimsOfLostAgents 16 = .ok (.getfield 53, 3) := by decide +kernel
theorem dX6_claimsOfLostAgents_19 : decode cX6_claimsOfLostAgents 19 = .ok (.if_icmp .ge 60, 3) := by decide +kernel
theorem dX6_claimsOfLostAgents_22 : decode cX6_claimsOfLostAgents 22 = .ok (.iload_n 2, 1) := by decide +kernel
theorem dX6_claimsOfLostAgents_23 : decode cX6_claimsOfLostAgents 23 = .ok (.iload_n 3, 1) := by decide +kernel
theorem dX6_claimsOfLostAgents_24 : decode cX6_claimsOfLostAgents 24 = .ok (.invokestatic 79, 3) := by decide +kernel
theorem dX6_claimsOfLostAgents_27 : decode cX6_claimsOfLostAgents 27 = .ok (.istore 4, 2) := by decide +kernel
theorem dX6_claimsOfLostAgents_29 : decode cX6_claimsOfLostAgents 29 = .ok (.aload_n 0, 1) := by decide +kernel
theorem dX6_claimsOfLostAgents_30 : decode cX6_claimsOfLostAgents 30 = .ok (.iload_n 2, 1) := by decide +kernel
theorem dX6_claimsOfLostAgents_31 : decode cX6_claimsOfLostAgents 31 = .ok (.invokevirtual 93, 3) := by decide +kernel
theorem dX6_claimsOfLostAgents_34 : decode cX6_claimsOfLostAgents 34 = .ok (.ifCond .eq 39, 3) := by decide +kernel
theorem dX6_claimsOfLostAgents_37 : decode cX6_claimsOfLostAgents 37 = .ok (.aload_n 0, 1) := by decide +kernel
theorem dX6_claimsOfLostAgents_38 : decode cX6_claimsOfLostAgents 38 = .ok (.getfield 46, 3) := by decide +kernel
theorem dX6_claimsOfLostAgents_41 : decode cX6_claimsOfLostAgents 41 = .ok (.iload 4, 2) := by decide +kernel
theorem dX6_claimsOfLostAgents_43 : decode cX6_claimsOfLostAgents 43 = .ok (.aload_n 0, 1) := by decide +kernel
theorem dX6_claimsOfLostAgents_44 : decode cX6_claimsOfLostAgents 44 = .ok (.getfield 56, 3) := by decide +kernel
theorem dX6_claimsOfLostAgents_47 : decode cX6_claimsOfLostAgents 47 = .ok (.invokevirtual 87, 3) := by decide +kernel
theorem dX6_claimsOfLostAgents_50 : decode cX6_claimsOfLostAgents 50 = .ok (.ifCond .eq 23, 3) := by decide +kernel
theorem dX6_claimsOfLostAgents_53 : decode cX6_claimsOfLostAgents 53 = .ok (.aload_n 0, 1) := by decide +kernel
theorem dX6_claimsOfLostAgents_54 : decode cX6_claimsOfLostAgents 54 = .ok (.aload_n 0, 1) := by decide +kernel
theorem dX6_claimsOfLostAgents_55 : decode cX6_claimsOfLostAgents 55 = .ok (.getfield 46, 3) := by decide +kernel
theorem dX6_claimsOfLostAgents_58 : decode cX6_claimsOfLostAgents 58 = .ok (.getfield 149, 3) := by decide +kernel
theorem dX6_claimsOfLostAgents_61 : decode cX6_claimsOfLostAgents 61 = .ok (.iload 4, 2) := by decide +kernel
theorem dX6_claimsOfLostAgents_63 : decode cX6_claimsOfLostAgents 63 = .ok (.iaload, 1) := by decide +kernel
theorem dX6_claimsOfLostAgents_64 : decode cX6_claimsOfLostAgents 64 = .ok (.invokevirtual 93, 3) := by decide +kernel
theorem dX6_claimsOfLostAgents_67 : decode cX6_claimsOfLostAgents 67 = .ok (.ifCond .ne 6, 3) := by decide +kernel
theorem dX6_claimsOfLostAgents_70 : decode cX6_claimsOfLostAgents 70 = .ok (.iinc 1 1, 3) := by decide +kernel
theorem dX6_claimsOfLostAgents_73 : decode cX6_claimsOfLostAgents 73 = .ok (.iinc 3 1, 3) := by decide +kernel
theorem dX6_claimsOfLostAgents_76 : decode cX6_claimsOfLostAgents 76 = .ok (.goto (-62), 3) := by decide +kernel
theorem dX6_claimsOfLostAgents_79 : decode cX6_claimsOfLostAgents 79 = .ok (.iinc 2 1, 3) := by decide +kernel
theorem dX6_claimsOfLostAgents_82 : decode cX6_claimsOfLostAgents 82 = .ok (.goto (-78), 3) := by decide +kernel
theorem dX6_claimsOfLostAgents_85 : decode cX6_claimsOfLostAgents 85 = .ok (.iload_n 1, 1) := by decide +kernel
theorem dX6_claimsOfLostAgents_86 : decode cX6_claimsOfLostAgents 86 = .ok (.ireturn, 1) := by decide +kernel
theorem dX7_init_0 : decode cX7_init 0 = .ok (.aload_n 0, 1) := by decide +kernel
theorem dX7_init_1 : decode cX7_init 1 = .ok (.invokespecial 1, 3) := by decide +kernel
theorem dX7_init_4 : decode cX7_init 4 = .ok (.aload_n 0, 1) := by decide +kernel
theorem dX7_init_5 : decode cX7_init 5 = .ok (.new 7, 3) := by decide +kernel
theorem dX7_init_8 : decode cX7_init 8 = .ok (.dup, 1) := by decide +kernel
theorem dX7_init_9 : decode cX7_init 9 = .ok (.invokespecial 9, 3) := by decide +kernel
theorem dX7_init_12 : decode cX7_init 12 = .ok (.putfield 10, 3) := by decide +kernel
theorem dX7_init_15 : decode cX7_init 15 = .ok (.aload_n 0, 1) := by decide +kernel
theorem dX7_init_16 : decode cX7_init 16 = .ok (.new 16, 3) := by decide +kernel
theorem dX7_init_19 : decode cX7_init 19 = .ok (.dup, 1) := by decide +kernel
theorem dX7_init_20 : decode cX7_init 20 = .ok (.invokespecial 18, 3) := by decide +kernel
theorem dX7_init_23 : decode cX7_init 23 = .ok (.putfield 19, 3) := by decide +kernel
theorem dX7_init_26 : decode cX7_init 26 = .ok (.aload_n 0, 1) := by decide +kernel
theorem dX7_init_27 : decode cX7_init 27 = .ok (.new 16, 3) := by decide +kernel
theorem dX7_init_30 : decode cX7_init 30 = .ok (.dup, 1) := by decide +kernel
theorem dX7_init_31 : decode cX7_init 31 = .ok (.invokespecial 18, 3) := by decide +kernel
theorem dX7_init_34 : decode cX7_init 34 = .ok (.putfield 23, 3) := by decide +kernel
theorem dX7_init_37 : decode cX7_init 37 = .ok (.aload_n 0, 1) := by decide +kernel
theorem dX7_init_38 : decode cX7_init 38 = .ok (.new 26, 3) := by decide +kernel
theorem dX7_init_41 : decode cX7_init 41 = .ok (.dup, 1) := by decide +kernel
theorem dX7_init_42 : decode cX7_init 42 = .ok (.invokespecial 28, 3) := by decide +kernel
theorem dX7_init_45 : decode cX7_init 45 = .ok (.putfield 29, 3) := by decide +kernel
theorem dX7_init_48 : decode cX7_init 48 = .ok (.aload_n 0, 1) := by decide +kernel
theorem dX7_init_49 : decode cX7_init 49 = .ok (.iconst 2, 1) := by decide +kernel
theorem dX7_init_50 : decode cX7_init 50 = .ok (.anewarray 16, 3) := by decide +kernel
theorem dX7_init_53 : decode cX7_init 53 = .ok (.putfield 33, 3) := by decide +kernel
theorem dX7_init_56 : decode cX7_init 56 = .ok (.iconst 0, 1) := by decide +kernel
theorem dX7_init_57 : decode cX7_init 57 = .ok (.istore_n 1, 1) := by decide +kernel
theorem dX7_init_58 : decode cX7_init 58 = .ok (.iload_n 1, 1) := by decide +kernel
theorem dX7_init_59 : decode cX7_init 59 = .ok (.iconst 2, 1) := by decide +kernel
theorem dX7_init_60 : decode cX7_init 60 = .ok (.if_icmp .ge 22, 3) := by decide +kernel
theorem dX7_init_63 : decode cX7_init 63 = .ok (.aload_n 0, 1) := by decide +kernel
theorem dX7_init_64 : decode cX7_init 64 = .ok (.getfield 33, 3) := by decide +kernel
theorem dX7_init_67 : decode cX7_init 67 = .ok (.iload_n 1, 1) := by decide +kernel
theorem dX7_init_68 : decode cX7_init 68 = .ok (.new 16, 3) := by decide +kernel
theorem dX7_init_71 : decode cX7_init 71 = .ok (.dup, 1) := by decide +kernel
theorem dX7_init_72 : decode cX7_init 72 = .ok (.invokespecial 18, 3) := by decide +kernel
theorem dX7_init_75 : decode cX7_init 75 = .ok (.aastore, 1) := by decide +kernel
theorem dX7_init_76 : decode cX7_init 76 = .ok (.iinc 1 1, 3) := by decide +kernel
theorem dX7_init_79 : decode cX7_init 79 = .ok (.goto (-21), 3) := by decide +kernel
theorem dX7_init_82 : decode cX7_init 82 = .ok (.aload_n 0, 1) := by decide +kernel
theorem dX7_init_83 : decode cX7_init 83 = .ok (.iconst 0, 1) := by decide +kernel
theorem dX7_init_84 : decode cX7_init 84 = .ok (.putfield 37, 3) := by decide +kernel
theorem dX7_init_87 : decode cX7_init 87 = .ok (.aload_n 0, 1) := by decide +kernel
theorem dX7_init_88 : decode cX7_init 88 = .ok (.new 41, 3) := by decide +kernel
theorem dX7_init_91 : decode cX7_init 91 = .ok (.dup, 1) := by decide +kernel
theorem dX7_init_92 : decode cX7_init 92 = .ok (.invokespecial 43, 3) := by decide +kernel
theorem dX7_init_95 : decode cX7_init 95 = .ok (.putfield 44, 3) := by decide +kernel
theorem dX7_init_98 : decode cX7_init 98 = .ok (.aload_n 0, 1) := by decide +kernel
theorem dX7_init_99 : decode cX7_init 99 = .ok (.new 48, 3) := by decide +kernel
theorem dX7_init_102 : decode cX7_init 102 = .ok (.dup, 1) := by decide +kernel
theorem dX7_init_103 : decode cX7_init 103 = .ok (.aload_n 0, 1) := by decide +kernel
theorem dX7_init_104 : decode cX7_init 104 = .ok (.getfield 44, 3) := by decide +kernel
theorem dX7_init_107 : decode cX7_init 107 = .ok (.invokespecial 50, 3) := by decide +kernel
theorem dX7_init_110 : decode cX7_init 110 = .ok (.putfield 53, 3) := by decide +kernel
theorem dX7_init_113 : decode cX7_init 113 = .ok (.aload_n 0, 1) := by decide +kernel
theorem dX7_init_114 : decode cX7_init 114 = .ok (.new 57, 3) := by decide +kernel
theorem dX7_init_117 : decode cX7_init 117 = .ok (.dup, 1) := by decide +kernel
theorem dX7_init_118 : decode cX7_init 118 = .ok (.invokespecial 59, 3) := by decide +kernel
theorem dX7_init_121 : decode cX7_init 121 = .ok (.putfield 60, 3) := by decide +kernel
theorem dX7_init_124 : decode cX7_init 124 = .ok (.return_, 1) := by decide +kernel
theorem dX7_append_0 : decode cX7_append 0 = .ok (.iload_n 1, 1) := by decide +kernel
theorem dX7_append_1 : decode cX7_append 1 = .ok (.iconst 0, 1) := by decide +kernel
theorem dX7_append_2 : decode cX7_append 2 = .ok (.sipush 255, 3) := by decide +kernel
theorem dX7_append_5 : decode cX7_append 5 = .ok (.invokestatic 64, 3) := by decide +kernel
theorem dX7_append_8 : decode cX7_append 8 = .ok (.aload_n 0, 1) := by decide +kernel
theorem dX7_append_9 : decode cX7_append 9 = .ok (.getfield 10, 3) := by decide +kernel
theorem dX7_append_12 : decode cX7_append 12 = .ok (.invokevirtual 68, 3) := by decide +kernel
theorem dX7_append_15 : decode cX7_append 15 = .ok (.invokestatic 72, 3) := by decide +kernel
theorem dX7_append_18 : decode cX7_append 18 = .ok (.aload_n 0, 1) := by decide +kernel
theorem dX7_append_19 : decode cX7_append 19 = .ok (.getfield 10, 3) := by decide +kernel
theorem dX7_append_22 : decode cX7_append 22 = .ok (.iload_n 1, 1) := by decide +kernel
theorem dX7_append_23 : decode cX7_append 23 = .ok (.invokevirtual 76, 3) := by decide +kernel
theorem dX7_append_26 : decode cX7_append 26 = .ok (.aload_n 0, 1) := by decide +kernel
theorem dX7_append_27 : decode cX7_append 27 = .ok (.getfield 10, 3) := by decide +kernel
theorem dX7_append_30 : decode cX7_append 30 = .ok (.getfield 80, 3) := by decide +kernel
theorem dX7_append_33 : decode cX7_append 33 = .ok (.ireturn, 1) := by decide +kernel
theorem dX7_clearText_0 : decode cX7_clearText 0 = .ok (.aload_n 0, 1) := by decide +kernel
theorem dX7_clearText_1 : decode cX7_clearText 1 = .ok (.getfield 10, 3) := by decide +kernel
theorem dX7_clearText_4 : decode cX7_clearText 4 = .ok (.getfield 80, 3) := by decide +kernel
theorem dX7_clearText_7 : decode cX7_clearText 7 = .ok (.istore_n 1, 1) := by decide +kernel
theorem dX7_clearText_8 : decode cX7_clearText 8 = .ok (.aload_n 0, 1) := by decide +kernel
theorem dX7_clearText_9 : decode cX7_clearText 9 = .ok (.getfield 10, 3) := by decide +kernel
theorem dX7_clearText_12 : decode cX7_clearText 12 = .ok (.iconst 0, 1) := by decide +kernel
theorem dX7_clearText_13 : decode cX7_clearText 13 = .ok (.putfield 80, 3) := by decide +kernel
theorem dX7_clearText_16 : decode cX7_clearText 16 = .ok (.iload_n 1, 1) := by decide +kernel
theorem dX7_clearText_17 : decode cX7_clearText 17 = .ok (.ireturn, 1) := by decide +kernel
theorem dX7_errorPosition_0 : decode cX7_errorPosition 0 = .ok (.aload_n 0, 1) := by decide +kernel
theorem dX7_errorPosition_1 : decode cX7_errorPosition 1 = .ok (.getfield 10, 3) := by decide +kernel
theorem dX7_errorPosition_4 : decode cX7_errorPosition 4 = .ok (.aload_n 0, 1) := by decide +kernel
theorem dX7_errorPosition_5 : decode cX7_errorPosition 5 = .ok (.getfield 23, 3) := by decide +kernel
theorem dX7_errorPosition_8 : decode cX7_errorPosition 8 = .ok (.invokevirtual 83, 3) := by decide +kernel
theorem dX7_errorPosition_11 : decode cX7_errorPosition 11 = .ok (.ireturn, 1) := by decide +kernel
theorem dX7_load_0 : decode cX7_load 0 = .ok (.aload_n 0, 1) := by decide +kernel
theorem dX7_load_1 : decode cX7_load 1 = .ok (.getfield 10, 3) := by decide +kernel
theorem dX7_load_4 : decode cX7_load 4 = .ok (.aload_n 0, 1) := by decide +kernel
theorem dX7_load_5 : decode cX7_load 5 = .ok (.getfield 23, 3) := by decide +kernel
theorem dX7_load_8 : decode cX7_load 8 = .ok (.invokevirtual 83, 3) := by decide +kernel
theorem dX7_load_11 : decode cX7_load 11 = .ok (.bipush (-9), 2) := by decide +kernel
theorem dX7_load_13 : decode cX7_load 13 = .ok (.if_icmp .ne 7, 3) := by decide +kernel
theorem dX7_load_16 : decode cX7_load 16 = .ok (.iconst 1, 1) := by decide +kernel
theorem dX7_load_17 : decode cX7_load 17 = .ok (.goto 4, 3) := by decide +kernel
theorem dX7_load_20 : decode cX7_load 20 = .ok (.iconst 0, 1) := by decide +kernel
theorem dX7_load_21 : decode cX7_load 21 = .ok (.invokestatic 72, 3) := by decide +kernel
theorem dX7_load_24 : decode cX7_load 24 = .ok (.aload_n 0, 1) := by decide +kernel
theorem dX7_load_25 : decode cX7_load 25 = .ok (.getfield 19, 3) := by decide +kernel
theorem dX7_load_28 : decode cX7_load 28 = .ok (.aload_n 0, 1) := by decide +kernel
theorem dX7_load_29 : decode cX7_load 29 = .ok (.getfield 23, 3) := by decide +kernel
theorem dX7_load_32 : decode cX7_load 32 = .ok (.invokevirtual 87, 3) := by decide +kernel
theorem dX7_load_35 : decode cX7_load 35 = .ok (.aload_n 0, 1) := by decide +kernel
theorem dX7_load_36 : decode cX7_load 36 = .ok (.getfield 29, 3) := by decide +kernel
theorem dX7_load_39 : decode cX7_load 39 = .ok (.invokevirtual 91, 3) := by decide +kernel
theorem dX7_load_42 : decode cX7_load 42 = .ok (.aload_n 0, 1) := by decide +kernel
theorem dX7_load_43 : decode cX7_load 43 = .ok (.iconst 0, 1) := by decide +kernel
theorem dX7_load_44 : decode cX7_load 44 = .ok (.putfield 37, 3) := by decide +kernel
theorem dX7_load_47 : decode cX7_load 47 = .ok (.aload_n 0, 1) := by decide +kernel
theorem dX7_load_48 : decode cX7_load 48 = .ok (.getfield 19, 3) := by decide +kernel
theorem dX7_load_51 : decode cX7_load 51 = .ok (.getfield 94, 3) := by decide +kernel
theorem dX7_load_54 : decode cX7_load 54 = .ok (.ireturn, 1) := by decide +kernel
theorem dX7_about_0 : decode cX7_about 0 = .ok (.iload_n 1, 1) := by decide +kernel
theorem dX7_about_1 : decode cX7_about 1 = .ok (.iconst 0, 1) := by decide +kernel
theorem dX7_about_2 : decode cX7_about 2 = .ok (.bipush 7, 2) := by decide +kernel
theorem dX7_about_4 : decode cX7_about 4 = .ok (.invokestatic 64, 3) := by decide +kernel
theorem dX7_about_7 : decode cX7_about 7 = .ok (.iload_n 1, 1) := by decide +kernel
theorem dX7_about_8 : decode cX7_about 8 = .ok (.tableswitch 100 0 6 #[44, 52, 60, 68, 76, 84, 92], 44) := by decide +kernel
theorem dX7_about_52 : decode cX7_about 52 = .ok (.aload_n 0, 1) := by decide +kernel
theorem dX7_about_53 : decode cX7_about 53 = .ok (.getfield 19, 3) := by decide +kernel
theorem dX7_about_56 : decode cX7_about 56 = .ok (.getfield 94, 3) := by decide +kernel
theorem dX7_about_59 : decode cX7_about 59 = .ok (.ireturn, 1) := by decide +kernel
theorem dX7_about_60 : decode cX7_about 60 = .ok (.aload_n 0, 1) := by decide +kernel
theorem dX7_about_61 : decode cX7_about 61 = .ok (.getfield 19, 3) := by decide +kernel
theorem dX7_about_64 : decode cX7_about 64 = .ok (.getfield 97, 3) := by decide +kernel
theorem dX7_about_67 : decode cX7_about 67 = .ok (.ireturn, 1) := by decide +kernel
theorem dX7_about_68 : decode cX7_about 68 = .ok (.aload_n 0, 1) := by decide +kernel
theorem dX7_about_69 : decode cX7_about 69 = .ok (.getfield 19, 3) := by decide +kernel
theorem dX7_about_72 : decode cX7_about 72 = .ok (.getfield 100, 3) := by decide +kernel
theorem dX7_about_75 : decode cX7_about 75 = .ok (.ireturn, 1) := by decide +kernel
theorem dX7_about_76 : decode cX7_about 76 = .ok (.aload_n 0, 1) := by decide +kernel
theorem dX7_about_77 : decode cX7_about 77 = .ok (.getfield 19, 3) := by decide +kernel
theorem dX7_about_80 : decode cX7_about 80 = .ok (.getfield 103, 3) := by decide +kernel
theorem dX7_about_83 : decode cX7_about 83 = .ok (.ireturn, 1) := by decide +kernel
theorem dX7_about_84 : decode cX7_about 84 = .ok (.aload_n 0, 1) := by decide +kernel
theorem dX7_about_85 : decode cX7_about 85 = .ok (.getfield 19, 3) := by decide +kernel
theorem dX7_about_88 : decode cX7_about 88 = .ok (.invokevirtual 106, 3) := by decide +kernel
theorem dX7_about_91 : decode cX7_about 91 = .ok (.ireturn, 1) := by decide +kernel
theorem dX7_about_92 : decode cX7_about 92 = .ok (.aload_n 0, 1) := by decide +kernel
theorem dX7_about_93 : decode cX7_about 93 = .ok (.getfield 19, 3) := by decide +kernel
theorem dX7_about_96 : decode cX7_about 96 = .ok (.invokevirtual 110, 3) := by decide +kernel
theorem dX7_about_99 : decode cX7_about 99 = .ok (.ireturn, 1) := by decide +kernel
theorem dX7_about_100 : decode cX7_about 100 = .ok (.aload_n 0, 1) := by decide +kernel
theorem dX7_about_101 : decode cX7_about 101 = .ok (.getfield 19, 3) := by decide +kernel
theorem dX7_about_104 : decode cX7_about 104 = .ok (.invokevirtual 113, 3) := by decide +kernel
theorem dX7_about_107 : decode cX7_about 107 = .ok (.ireturn, 1) := by decide +kernel
theorem dX7_about_108 : decode cX7_about 108 = .ok (.aload_n 0, 1) := by decide +kernel
theorem dX7_about_109 : decode cX7_about 109 = .ok (.getfield 19, 3) := by decide +kernel
theorem dX7_about_112 : decode cX7_about 112 = .ok (.getfield 116, 3) := by decide +kernel
theorem dX7_about_115 : decode cX7_about 115 = .ok (.ireturn, 1) := by decide +kernel
theorem dX7_agent_0 : decode cX7_agent 0 = .ok (.aload_n 0, 1) := by decide +kernel
theorem dX7_agent_1 : decode cX7_agent 1 = .ok (.getfield 19, 3) := by decide +kernel
theorem dX7_agent_4 : decode cX7_agent 4 = .ok (.iload_n 1, 1) := by decide +kernel
theorem dX7_agent_5 : decode cX7_agent 5 = .ok (.invokevirtual 119, 3) := by decide +kernel
theorem dX7_agent_8 : decode cX7_agent 8 = .ok (.invokestatic 123, 3) := by decide +kernel
theorem dX7_agent_11 : decode cX7_agent 11 = .ok (.iload_n 2, 1) := by decide +kernel
theorem dX7_agent_12 : decode cX7_agent 12 = .ok (.iconst 0, 1) := by decide +kernel
theorem dX7_agent_13 : decode cX7_agent 13 = .ok (.bipush 7, 2) := by decide +kernel
theorem dX7_agent_15 : decode cX7_agent 15 = .ok (.invokestatic 64, 3) := by decide +kernel
theorem dX7_agent_18 : decode cX7_agent 18 = .ok (.iload_n 2, 1) := by decide +kernel
theorem dX7_agent_19 : decode cX7_agent 19 = .ok (.tableswitch 117 0 6 #[41, 51, 61, 71, 88, 97, 107], 41) := by decide +kernel
theorem dX7_agent_60 : decode cX7_agent 60 = .ok (.aload_n 0, 1) := by decide +kernel
theorem dX7_agent_61 : decode cX7_agent 61 = .ok (.getfield 19, 3) := by decide +kernel
theorem dX7_agent_64 : decode cX7_agent 64 = .ok (.getfield 126, 3) := by decide +kernel
theorem dX7_agent_67 : decode cX7_agent 67 = .ok (.iload_n 1, 1) := by decide +kernel
theorem dX7_agent_68 : decode cX7_agent 68 = .ok (.iaload, 1) := by decide +kernel
theorem dX7_agent_69 : decode cX7_agent 69 = .ok (.ireturn, 1) := by decide +kernel
theorem dX7_agent_70 : decode cX7_agent 70 = .ok (.aload_n 0, 1) := by decide +kernel
theorem dX7_agent_71 : decode cX7_agent 71 = .ok (.getfield 19, 3) := by decide +kernel
theorem dX7_agent_74 : decode cX7_agent 74 = .ok (.getfield 130, 3) := by decide +kernel
theorem dX7_agent_77 : decode cX7_agent 77 = .ok (.iload_n 1, 1) := by decide +kernel
theorem dX7_agent_78 : decode cX7_agent 78 = .ok (.iaload, 1) := by decide +kernel
theorem dX7_agent_79 : decode cX7_agent 79 = .ok (.ireturn, 1) := by decide +kernel
theorem dX7_agent_80 : decode cX7_agent 80 = .ok (.aload_n 0, 1) := by decide +kernel
theorem dX7_agent_81 : decode cX7_agent 81 = .ok (.getfield 19, 3) := by decide +kernel
theorem dX7_agent_84 : decode cX7_agent 84 = .ok (.getfield 133, 3) := by decide +kernel
theorem dX7_agent_87 : decode cX7_agent 87 = .ok (.iload_n 1, 1) := by decide +kernel
theorem dX7_agent_88 : decode cX7_agent 88 = .ok (.iaload, 1) := by decide +kernel
theorem dX7_agent_89 : decode cX7_agent 89 = .ok (.ireturn, 1) := by decide +kernel
theorem dX7_agent_90 : decode cX7_agent 90 = .ok (.aload_n 0, 1) := by decide +kernel
theorem dX7_agent_91 : decode cX7_agent 91 = .ok (.getfield 19, 3) := by decide +kernel
theorem dX7_agent_94 : decode cX7_agent 94 = .ok (.iload_n 1, 1) := by decide +kernel
theorem dX7_agent_95 : decode cX7_agent 95 = .ok (.invokevirtual 136, 3) := by decide +kernel
theorem dX7_agent_98 : decode cX7_agent 98 = .ok (.ifCond .eq 7, 3) := by decide +kernel
theorem dX7_agent_101 : decode cX7_agent 101 = .ok (.iconst 1, 1) := by decide +kernel
theorem dX7_agent_102 : decode cX7_agent 102 = .ok (.goto 4, 3) := by decide +kernel
theorem dX7_agent_105 : decode cX7_agent 105 = .ok (.iconst 0, 1) := by decide +kernel
theorem dX7_agent_106 : decode cX7_agent 106 = .ok (.ireturn, 1) := by decide +kernel
theorem dX7_agent_107 : decode cX7_agent 107 = .ok (.aload_n 0, 1) := by decide +kernel
theorem dX7_agent_108 : decode cX7_agent 108 = .ok (.getfield 19, 3) := by decide +kernel
theorem dX7_agent_111 : decode cX7_agent 111 = .ok (.iload_n 1, 1) := by decide +kernel
theorem dX7_agent_112 : decode cX7_agent 112 = .ok (.invokevirtual 139, 3) := by decide +kernel
theorem dX7_agent_115 : decode cX7_agent 115 = .ok (.ireturn, 1) := by decide +kernel
theorem dX7_agent_116 : decode cX7_agent 116 = .ok (.aload_n 0, 1) := by decide +kernel
theorem dX7_agent_117 : decode cX7_agent 117 = .ok (.getfield 19, 3) := by decide +kernel
theorem dX7_agent_120 : decode cX7_agent 120 = .ok (.getfield 143, 3) := by decide +kernel
theorem dX7_agent_123 : decode cX7_agent 123 = .ok (.iload_n 1, 1) := by decide +kernel
theorem dX7_agent_124 : decode cX7_agent 124 = .ok (.iaload, 1) := by decide +kernel
theorem dX7_agent_125 : decode cX7_agent 125 = .ok (.ireturn, 1) := by decide +kernel
theorem dX7_agent_126 : decode cX7_agent 126 = .ok (.aload_n 0, 1) := by decide +kernel
theorem dX7_agent_127 : decode cX7_agent 127 = .ok (.getfield 19, 3) := by decide +kernel
theorem dX7_agent_130 : decode cX7_agent 130 = .ok (.getfield 146, 3) := by decide +kernel
theorem dX7_agent_133 : decode cX7_agent 133 = .ok (.iload_n 1, 1) := by decide +kernel
theorem dX7_agent_134 : decode cX7_agent 134 = .ok (.iaload, 1) := by decide +kernel
theorem dX7_agent_135 : decode cX7_agent 135 = .ok (.ireturn, 1) := by decide +kernel
theorem dX7_agent_136 : decode cX7_agent 136 = .ok (.aload_n 0, 1) := by decide +kernel
theorem dX7_agent_137 : decode cX7_agent 137 = .ok (.getfield 19, 3) := by decide +kernel
theorem dX7_agent_140 : decode cX7_agent 140 = .ok (.iload_n 1, 1) := by decide +kernel
theorem dX7_agent_141 : decode cX7_agent 141 = .ok (.invokevirtual 149, 3) := by decide +kernel
theorem dX7_agent_144 : decode cX7_agent 144 = .ok (.ireturn, 1) := by decide +kernel
theorem dX7_task_0 : decode cX7_task 0 = .ok (.aload_n 0, 1) := by decide +kernel
theorem dX7_task_1 : decode cX7_task 1 = .ok (.getfield 19, 3) := by decide +kernel
theorem dX7_task_4 : decode cX7_task 4 = .ok (.iload_n 1, 1) := by decide +kernel
theorem dX7_task_5 : decode cX7_task 5 = .ok (.invokevirtual 152, 3) := by decide +kernel
theorem dX7_task_8 : decode cX7_task 8 = .ok (.invokestatic 123, 3) := by decide +kernel
theorem dX7_task_11 : decode cX7_task 11 = .ok (.iload_n 2, 1) := by decide +kernel
theorem dX7_task_12 : decode cX7_task 12 = .ok (.iconst 0, 1) := by decide +kernel
theorem dX7_task_13 : decode cX7_task 13 = .ok (.bipush 6, 2) := by decide +kernel
theorem dX7_task_15 : decode cX7_task 15 = .ok (.invokestatic 64, 3) := by decide +kernel
theorem dX7_task_18 : decode cX7_task 18 = .ok (.iload_n 2, 1) := by decide +kernel
theorem dX7_task_19 : decode cX7_task 19 = .ok (.tableswitch 103 0 5 #[37, 47, 57, 67, 77, 94], 37) := by decide +kernel
theorem dX7_task_56 : decode cX7_task 56 = .ok (.aload_n 0, 1) := by decide +kernel
theorem dX7_task_57 : decode cX7_task 57 = .ok (.getfield 19, 3) := by decide +kernel
theorem dX7_task_60 : decode cX7_task 60 = .ok (.getfield 155, 3) := by decide +kernel
theorem dX7_task_63 : decode cX7_task 63 = .ok (.iload_n 1, 1) := by decide +kernel
theorem dX7_task_64 : decode cX7_task 64 = .ok (.iaload, 1) := by decide +kernel
theorem dX7_task_65 : decode cX7_task 65 = .ok (.ireturn, 1) := by decide +kernel
theorem dX7_task_66 : decode cX7_task 66 = .ok (.aload_n 0, 1) := by decide +kernel
theorem dX7_task_67 : decode cX7_task 67 = .ok (.getfield 19, 3) := by decide +kernel
theorem dX7_task_70 : decode cX7_task 70 = .ok (.getfield 158, 3) := by decide +kernel
theorem dX7_task_73 : decode cX7_task 73 = .ok (.iload_n 1, 1) := by decide +kernel
theorem dX7_task_74 : decode cX7_task 74 = .ok (.iaload, 1) := by decide +kernel
theorem dX7_task_75 : decode cX7_task 75 = .ok (.ireturn, 1) := by decide +kernel
theorem dX7_task_76 : decode cX7_task 76 = .ok (.aload_n 0, 1) := by decide +kernel
theorem dX7_task_77 : decode cX7_task 77 = .ok (.getfield 19, 3) := by decide +kernel
theorem dX7_task_80 : decode cX7_task 80 = .ok (.getfield 161, 3) := by decide +kernel
theorem dX7_task_83 : decode cX7_task 83 = .ok (.iload_n 1, 1) := by decide +kernel
theorem dX7_task_84 : decode cX7_task 84 = .ok (.iaload, 1) := by decide +kernel
theorem dX7_task_85 : decode cX7_task 85 = .ok (.ireturn, 1) := by decide +kernel
theorem dX7_task_86 : decode cX7_task 86 = .ok (.aload_n 0, 1) := by decide +kernel
theorem dX7_task_87 : decode cX7_task 87 = .ok (.getfield 19, 3) := by decide +kernel
theorem dX7_task_90 : decode cX7_task 90 = .ok (.getfield 164, 3) := by decide +kernel
theorem dX7_task_93 : decode cX7_task 93 = .ok (.iload_n 1, 1) := by decide +kernel
theorem dX7_task_94 : decode cX7_task 94 = .ok (.iaload, 1) := by decide +kernel
theorem dX7_task_95 : decode cX7_task 95 = .ok (.ireturn, 1) := by decide +kernel
theorem dX7_task_96 : decode cX7_task 96 = .ok (.aload_n 0, 1) := by decide +kernel
theorem dX7_task_97 : decode cX7_task 97 = .ok (.getfield 19, 3) := by decide +kernel
theorem dX7_task_100 : decode cX7_task 100 = .ok (.iload_n 1, 1) := by decide +kernel
theorem dX7_task_101 : decode cX7_task 101 = .ok (.invokevirtual 167, 3) := by decide +kernel
theorem dX7_task_104 : decode cX7_task 104 = .ok (.ifCond .eq 7, 3) := by decide +kernel
theorem dX7_task_107 : decode cX7_task 107 = .ok (.iconst 1, 1) := by decide +kernel
theorem dX7_task_108 : decode cX7_task 108 = .ok (.goto 4, 3) := by decide +kernel
theorem dX7_task_111 : decode cX7_task 111 = .ok (.iconst 0, 1) := by decide +kernel
theorem dX7_task_112 : decode cX7_task 112 = .ok (.ireturn, 1) := by decide +kernel
theorem dX7_task_113 : decode cX7_task 113 = .ok (.aload_n 0, 1) := by decide +kernel
theorem dX7_task_114 : decode cX7_task 114 = .ok (.getfield 19, 3) := by decide +kernel
theorem dX7_task_117 : decode cX7_task 117 = .ok (.iload_n 1, 1) := by decide +kernel
theorem dX7_task_118 : decode cX7_task 118 = .ok (.invokevirtual 170, 3) := by decide +kernel
theorem dX7_task_121 : decode cX7_task 121 = .ok (.ireturn, 1) := by decide +kernel
theorem dX7_task_122 : decode cX7_task 122 = .ok (.aload_n 0, 1) := by decide +kernel
theorem dX7_task_123 : decode cX7_task 123 = .ok (.getfield 19, 3) := by decide +kernel
theorem dX7_task_126 : decode cX7_task 126 = .ok (.iload_n 1, 1) := by decide +kernel
theorem dX7_task_127 : decode cX7_task 127 = .ok (.invokevirtual 173, 3) := by decide +kernel
theorem dX7_task_130 : decode cX7_task 130 = .ok (.ireturn, 1) := by decide +kernel
theorem dX7_note_0 : decode cX7_note 0 = .ok (.aload_n 0, 1) := by decide +kernel
theorem dX7_note_1 : decode cX7_note 1 = .ok (.getfield 19, 3) := by decide +kernel
theorem dX7_note_4 : decode cX7_note 4 = .ok (.iload_n 1, 1) := by decide +kernel
theorem dX7_note_5 : decode cX7_note 5 = .ok (.invokevirtual 119, 3) := by decide +kernel
theorem dX7_note_8 : decode cX7_note 8 = .ok (.ifCond .eq 18, 3) := by decide +kernel
theorem dX7_note_11 : decode cX7_note 11 = .ok (.aload_n 0, 1) := by decide +kernel
theorem dX7_note_12 : decode cX7_note 12 = .ok (.getfield 19, 3) := by decide +kernel
theorem dX7_note_15 : decode cX7_note 15 = .ok (.iload_n 2, 1) := by decide +kernel
theorem dX7_note_16 : decode cX7_note 16 = .ok (.invokevirtual 152, 3) := by decide +kernel
theorem dX7_note_19 : decode cX7_note 19 = .ok (.ifCond .eq 7, 3) := by decide +kernel
theorem dX7_note_22 : decode cX7_note 22 = .ok (.iconst 1, 1) := by decide +kernel
theorem dX7_note_23 : decode cX7_note 23 = .ok (.goto 4, 3) := by decide +kernel
theorem dX7_note_26 : decode cX7_note 26 = .ok (.iconst 0, 1) := by decide +kernel
theorem dX7_note_27 : decode cX7_note 27 = .ok (.invokestatic 123, 3) := by decide +kernel
theorem dX7_note_30 : decode cX7_note 30 = .ok (.iload_n 3, 1) := by decide +kernel
theorem dX7_note_31 : decode cX7_note 31 = .ok (.iconst 0, 1) := by decide +kernel
theorem dX7_note_32 : decode cX7_note 32 = .ok (.iconst 3, 1) := by decide +kernel
theorem dX7_note_33 : decode cX7_note 33 = .ok (.invokestatic 64, 3) := by decide +kernel
theorem dX7_note_36 : decode cX7_note 36 = .ok (.iload_n 1, 1) := by decide +kernel
theorem dX7_note_37 : decode cX7_note 37 = .ok (.iload_n 2, 1) := by decide +kernel
theorem dX7_note_38 : decode cX7_note 38 = .ok (.invokestatic 176, 3) := by decide +kernel
theorem dX7_note_41 : decode cX7_note 41 = .ok (.istore 4, 2) := by decide +kernel
theorem dX7_note_43 : decode cX7_note 43 = .ok (.iload_n 3, 1) := by decide +kernel
theorem dX7_note_44 : decode cX7_note 44 = .ok (.ifCond .ne 17, 3) := by decide +kernel
theorem dX7_note_47 : decode cX7_note 47 = .ok (.aload_n 0, 1) := by decide +kernel
theorem dX7_note_48 : decode cX7_note 48 = .ok (.getfield 19, 3) := by decide +kernel
theorem dX7_note_51 : decode cX7_note 51 = .ok (.getfield 180, 3) := by decide +kernel
theorem dX7_note_54 : decode cX7_note 54 = .ok (.getfield 184, 3) := by decide +kernel
theorem dX7_note_57 : decode cX7_note 57 = .ok (.iload 4, 2) := by decide +kernel
theorem dX7_note_59 : decode cX7_note 59 = .ok (.iaload, 1) := by decide +kernel
theorem dX7_note_60 : decode cX7_note 60 = .ok (.ireturn, 1) := by decide +kernel
theorem dX7_note_61 : decode cX7_note 61 = .ok (.aload_n 0, 1) := by decide +kernel
theorem dX7_note_62 : decode cX7_note 62 = .ok (.getfield 19, 3) := by decide +kernel
theorem dX7_note_65 : decode cX7_note 65 = .ok (.getfield 180, 3) := by decide +kernel
theorem dX7_note_68 : decode cX7_note 68 = .ok (.getfield 184, 3) := by decide +kernel
theorem dX7_note_71 : decode cX7_note 71 = .ok (.iload 4, 2) := by decide +kernel
theorem dX7_note_73 : decode cX7_note 73 = .ok (.iaload, 1) := by decide +kernel
theorem dX7_note_74 : decode cX7_note 74 = .ok (.iconst 1, 1) := by decide +kernel
theorem dX7_note_75 : decode cX7_note 75 = .ok (.if_icmp .eq 6, 3) := by decide +kernel
theorem dX7_note_78 : decode cX7_note 78 = .ok (.bipush (-9), 2) := by decide +kernel
theorem dX7_note_80 : decode cX7_note 80 = .ok (.ireturn, 1) := by decide +kernel
theorem dX7_note_81 : decode cX7_note 81 = .ok (.iload_n 3, 1) := by decide +kernel
theorem dX7_note_82 : decode cX7_note 82 = .ok (.lookupswitch 54 #[(1, 26), (2, 40)], 26) := by decide +kernel
theorem dX7_note_108 : decode cX7_note 108 = .ok (.aload_n 0, 1) := by decide +kernel
theorem dX7_note_109 : decode cX7_note 109 = .ok (.getfield 19, 3) := by decide +kernel
theorem dX7_note_112 : decode cX7_note 112 = .ok (.getfield 180, 3) := by decide +kernel
theorem dX7_note_115 : decode cX7_note 115 = .ok (.getfield 189, 3) := by decide +kernel
theorem dX7_note_118 : decode cX7_note 118 = .ok (.iload 4, 2) := by decide +kernel
theorem dX7_note_120 : decode cX7_note 120 = .ok (.iaload, 1) := by decide +kernel
theorem dX7_note_121 : decode cX7_note 121 = .ok (.ireturn, 1) := by decide +kernel
theorem dX7_note_122 : decode cX7_note 122 = .ok (.aload_n 0, 1) := by decide +kernel
theorem dX7_note_123 : decode cX7_note 123 = .ok (.getfield 19, 3) := by decide +kernel
theorem dX7_note_126 : decode cX7_note 126 = .ok (.getfield 180, 3) := by decide +kernel
theorem dX7_note_129 : decode cX7_note 129 = .ok (.getfield 192, 3) := by decide +kernel
theorem dX7_note_132 : decode cX7_note 132 = .ok (.iload 4, 2) := by decide +kernel
theorem dX7_note_134 : decode cX7_note 134 = .ok (.iaload, 1) := by decide +kernel
theorem dX7_note_135 : decode cX7_note 135 = .ok (.ireturn, 1) := by decide +kernel
theorem dX7_note_136 : decode cX7_note 136 = .ok (.aload_n 0, 1) := by decide +kernel
theorem dX7_note_137 : decode cX7_note 137 = .ok (.getfield 19, 3) := by decide +kernel
theorem dX7_note_140 : decode cX7_note 140 = .ok (.getfield 180, 3) := by decide +kernel
theorem dX7_note_143 : decode cX7_note 143 = .ok (.getfield 195, 3) := by decide +kernel
theorem dX7_note_146 : decode cX7_note 146 = .ok (.iload 4, 2) := by decide +kernel
theorem dX7_note_148 : decode cX7_note 148 = .ok (.iaload, 1) := by decide +kernel
theorem dX7_note_149 : decode cX7_note 149 = .ok (.ireturn, 1) := by decide +kernel
theorem dX7_step_0 : decode cX7_step 0 = .ok (.iload_n 1, 1) := by decide +kernel
theorem dX7_step_1 : decode cX7_step 1 = .ok (.iconst 1, 1) := by decide +kernel
theorem dX7_step_2 : decode cX7_step 2 = .ok (.bipush 99, 2) := by decide +kernel
theorem dX7_step_4 : decode cX7_step 4 = .ok (.invokestatic 64, 3) := by decide +kernel
theorem dX7_step_7 : decode cX7_step 7 = .ok (.aload_n 0, 1) := by decide +kernel
theorem dX7_step_8 : decode cX7_step 8 = .ok (.getfield 29, 3) := by decide +kernel
theorem dX7_step_11 : decode cX7_step 11 = .ok (.aload_n 0, 1) := by decide +kernel
theorem dX7_step_12 : decode cX7_step 12 = .ok (.getfield 19, 3) := by decide +kernel
theorem dX7_step_15 : decode cX7_step 15 = .ok (.invokevirtual 198, 3) := by decide +kernel
theorem dX7_step_18 : decode cX7_step 18 = .ok (.aload_n 0, 1) := by decide +kernel
theorem dX7_step_19 : decode cX7_step 19 = .ok (.getfield 44, 3) := by decide +kernel
theorem dX7_step_22 : decode cX7_step 22 = .ok (.aload_n 0, 1) := by decide +kernel
theorem dX7_step_23 : decode cX7_step 23 = .ok (.getfield 19, 3) := by decide +kernel
theorem dX7_step_26 : decode cX7_step 26 = .ok (.iload_n 1, 1) := by decide +kernel
theorem dX7_step_27 : decode cX7_step 27 = .ok (.invokevirtual 201, 3) := by decide +kernel
theorem dX7_step_30 : decode cX7_step 30 = .ok (.aload_n 0, 1) := by decide +kernel
theorem dX7_step_31 : decode cX7_step 31 = .ok (.getfield 19, 3) := by decide +kernel
theorem dX7_step_34 : decode cX7_step 34 = .ok (.invokevirtual 106, 3) := by decide +kernel
theorem dX7_step_37 : decode cX7_step 37 = .ok (.ireturn, 1) := by decide +kernel
theorem dX7_setRange_0 : decode cX7_setRange 0 = .ok (.aload_n 0, 1) := by decide +kernel
theorem dX7_setRange_1 : decode cX7_setRange 1 = .ok (.getfield 19, 3) := by decide +kernel
theorem dX7_setRange_4 : decode cX7_setRange 4 = .ok (.iload_n 1, 1) := by decide +kernel
theorem dX7_setRange_5 : decode cX7_setRange 5 = .ok (.invokevirtual 119, 3) := by decide +kernel
theorem dX7_setRange_8 : decode cX7_setRange 8 = .ok (.invokestatic 123, 3) := by decide +kernel
theorem dX7_setRange_11 : decode cX7_setRange 11 = .ok (.iload_n 2, 1) := by decide +kernel
theorem dX7_setRange_12 : decode cX7_setRange 12 = .ok (.iconst 0, 1) := by decide +kernel
theorem dX7_setRange_13 : decode cX7_setRange 13 = .ok (.bipush 22, 2) := by decide +kernel
theorem dX7_setRange_15 : decode cX7_setRange 15 = .ok (.invokestatic 64, 3) := by decide +kernel
theorem dX7_setRange_18 : decode cX7_setRange 18 = .ok (.aload_n 0, 1) := by decide +kernel
theorem dX7_setRange_19 : decode cX7_setRange 19 = .ok (.getfield 29, 3) := by decide +kernel
theorem dX7_setRange_22 : decode cX7_setRange 22 = .ok (.aload_n 0, 1) := by decide +kernel
theorem dX7_setRange_23 : decode cX7_setRange 23 = .ok (.getfield 19, 3) := by decide +kernel
theorem dX7_setRange_26 : decode cX7_setRange 26 = .ok (.invokevirtual 198, 3) := by decide +kernel
theorem dX7_setRange_29 : decode cX7_setRange 29 = .ok (.aload_n 0, 1) := by decide +kernel
theorem dX7_setRange_30 : decode cX7_setRange 30 = .ok (.getfield 19, 3) := by decide +kernel
theorem dX7_setRange_33 : decode cX7_setRange 33 = .ok (.getfield 133, 3) := by decide +kernel
theorem dX7_setRange_36 : decode cX7_setRange 36 = .ok (.iload_n 1, 1) := by decide +kernel
theorem dX7_setRange_37 : decode cX7_setRange 37 = .ok (.iaload, 1) := by decide +kernel
theorem dX7_setRange_38 : decode cX7_setRange 38 = .ok (.istore_n 3, 1) := by decide +kernel
theorem dX7_setRange_39 : decode cX7_setRange 39 = .ok (.aload_n 0, 1) := by decide +kernel
theorem dX7_setRange_40 : decode cX7_setRange 40 = .ok (.getfield 19, 3) := by decide +kernel
theorem dX7_setRange_43 : decode cX7_setRange 43 = .ok (.getfield 133, 3) := by decide +kernel
theorem dX7_setRange_46 : decode cX7_setRange 46 = .ok (.iload_n 1, 1) := by decide +kernel
theorem dX7_setRange_47 : decode cX7_setRange 47 = .ok (.iload_n 2, 1) := by decide +kernel
theorem dX7_setRange_48 : decode cX7_setRange 48 = .ok (.iastore, 1) := by decide +kernel
theorem dX7_setRange_49 : decode cX7_setRange 49 = .ok (.iload_n 3, 1) := by decide +kernel
theorem dX7_setRange_50 : decode cX7_setRange 50 = .ok (.ireturn, 1) := by decide +kernel
theorem dX7_put_0 : decode cX7_put 0 = .ok (.aload_n 0, 1) := by decide +kernel
theorem dX7_put_1 : decode cX7_put 1 = .ok (.getfield 19, 3) := by decide +kernel
theorem dX7_put_4 : decode cX7_put 4 = .ok (.iload_n 1, 1) := by decide +kernel
theorem dX7_put_5 : decode cX7_put 5 = .ok (.invokevirtual 119, 3) := by decide +kernel
theorem dX7_put_8 : decode cX7_put 8 = .ok (.invokestatic 123, 3) := by decide +kernel
theorem dX7_put_11 : decode cX7_put 11 = .ok (.iload_n 2, 1) := by decide +kernel
theorem dX7_put_12 : decode cX7_put 12 = .ok (.iconst 0, 1) := by decide +kernel
theorem dX7_put_13 : decode cX7_put 13 = .ok (.bipush 11, 2) := by decide +kernel
theorem dX7_put_15 : decode cX7_put 15 = .ok (.invokestatic 64, 3) := by decide +kernel
theorem dX7_put_18 : decode cX7_put 18 = .ok (.iload_n 3, 1) := by decide +kernel
theorem dX7_put_19 : decode cX7_put 19 = .ok (.iconst 0, 1) := by decide +kernel
theorem dX7_put_20 : decode cX7_put 20 = .ok (.bipush 11, 2) := by decide +kernel
theorem dX7_put_22 : decode cX7_put 22 = .ok (.invokestatic 64, 3) := by decide +kernel
theorem dX7_put_25 : decode cX7_put 25 = .ok (.aload_n 0, 1) := by decide +kernel
theorem dX7_put_26 : decode cX7_put 26 = .ok (.getfield 29, 3) := by decide +kernel
theorem dX7_put_29 : decode cX7_put 29 = .ok (.aload_n 0, 1) := by decide +kernel
theorem dX7_put_30 : decode cX7_put 30 = .ok (.getfield 19, 3) := by decide +kernel
theorem dX7_put_33 : decode cX7_put 33 = .ok (.invokevirtual 198, 3) := by decide +kernel
theorem dX7_put_36 : decode cX7_put 36 = .ok (.aload_n 0, 1) := by decide +kernel
theorem dX7_put_37 : decode cX7_put 37 = .ok (.getfield 19, 3) := by decide +kernel
theorem dX7_put_40 : decode cX7_put 40 = .ok (.getfield 126, 3) := by decide +kernel
theorem dX7_put_43 : decode cX7_put 43 = .ok (.iload_n 1, 1) := by decide +kernel
theorem dX7_put_44 : decode cX7_put 44 = .ok (.iaload, 1) := by decide +kernel
theorem dX7_put_45 : decode cX7_put 45 = .ok (.aload_n 0, 1) := by decide +kernel
theorem dX7_put_46 : decode cX7_put 46 = .ok (.getfield 19, 3) := by decide +kernel
theorem dX7_put_49 : decode cX7_put 49 = .ok (.getfield 130, 3) := by decide +kernel
theorem dX7_put_52 : decode cX7_put 52 = .ok (.iload_n 1, 1) := by decide +kernel
theorem dX7_put_53 : decode cX7_put 53 = .ok (.iaload, 1) := by decide +kernel
theorem dX7_put_54 : decode cX7_put 54 = .ok (.iload_n 2, 1) := by decide +kernel
theorem dX7_put_55 : decode cX7_put 55 = .ok (.iload_n 3, 1) := by decide +kernel
theorem dX7_put_56 : decode cX7_put 56 = .ok (.invokestatic 205, 3) := by decide +kernel
theorem dX7_put_59 : decode cX7_put 59 = .ok (.istore 4, 2) := by decide +kernel
theorem dX7_put_61 : decode cX7_put 61 = .ok (.aload_n 0, 1) := by decide +kernel
theorem dX7_put_62 : decode cX7_put 62 = .ok (.getfield 19, 3) := by decide +kernel
theorem dX7_put_65 : decode cX7_put 65 = .ok (.iload_n 1, 1) := by decide +kernel
theorem dX7_put_66 : decode cX7_put 66 = .ok (.iload_n 2, 1) := by decide +kernel
theorem dX7_put_67 : decode cX7_put 67 = .ok (.iload_n 3, 1) := by decide +kernel
theorem dX7_put_68 : decode cX7_put 68 = .ok (.invokevirtual 209, 3) := by decide +kernel
theorem dX7_put_71 : decode cX7_put 71 = .ok (.iload 4, 2) := by decide +kernel
theorem dX7_put_73 : decode cX7_put 73 = .ok (.ireturn, 1) := by decide +kernel
theorem dX7_toggle_0 : decode cX7_toggle 0 = .ok (.aload_n 0, 1) := by decide +kernel
theorem dX7_toggle_1 : decode cX7_toggle 1 = .ok (.getfield 19, 3) := by decide +kernel
theorem dX7_toggle_4 : decode cX7_toggle 4 = .ok (.iload_n 1, 1) := by decide +kernel
theorem dX7_toggle_5 : decode cX7_toggle 5 = .ok (.invokevirtual 119, 3) := by decide +kernel
theorem dX7_toggle_8 : decode cX7_toggle 8 = .ok (.invokestatic 123, 3) := by decide +kernel
theorem dX7_toggle_11 : decode cX7_toggle 11 = .ok (.aload_n 0, 1) := by decide +kernel
theorem dX7_toggle_12 : decode cX7_toggle 12 = .ok (.getfield 29, 3) := by decide +kernel
theorem dX7_toggle_15 : decode cX7_toggle 15 = .ok (.aload_n 0, 1) := by decide +kernel
theorem dX7_toggle_16 : decode cX7_toggle 16 = .ok (.getfield 19, 3) := by decide +kernel
theorem dX7_toggle_19 : decode cX7_toggle 19 = .ok (.invokevirtual 198, 3) := by decide +kernel
theorem dX7_toggle_22 : decode cX7_toggle 22 = .ok (.aload_n 0, 1) := by decide +kernel
theorem dX7_toggle_23 : decode cX7_toggle 23 = .ok (.getfield 19, 3) := by decide +kernel
theorem dX7_toggle_26 : decode cX7_toggle 26 = .ok (.iload_n 1, 1) := by decide +kernel
theorem dX7_toggle_27 : decode cX7_toggle 27 = .ok (.invokevirtual 212, 3) := by decide +kernel
theorem dX7_toggle_30 : decode cX7_toggle 30 = .ok (.aload_n 0, 1) := by decide +kernel
theorem dX7_toggle_31 : decode cX7_toggle 31 = .ok (.getfield 19, 3) := by decide +kernel
theorem dX7_toggle_34 : decode cX7_toggle 34 = .ok (.getfield 116, 3) := by decide +kernel
theorem dX7_toggle_37 : decode cX7_toggle 37 = .ok (.invokestatic 215, 3) := by decide +kernel
theorem dX7_toggle_40 : decode cX7_toggle 40 = .ok (.ireturn, 1) := by decide +kernel
theorem dX7_handOver_0 : decode cX7_handOver 0 = .ok (.aload_n 0, 1) := by decide +kernel
theorem dX7_handOver_1 : decode cX7_handOver 1 = .ok (.getfield 19, 3) := by decide +kernel
theorem dX7_handOver_4 : decode cX7_handOver 4 = .ok (.iload_n 1, 1) := by decide +kernel
theorem dX7_handOver_5 : decode cX7_handOver 5 = .ok (.invokevirtual 119, 3) := by decide +kernel
theorem dX7_handOver_8 : decode cX7_handOver 8 = .ok (.ifCond .eq 18, 3) := by decide +kernel
theorem dX7_handOver_11 : decode cX7_handOver 11 = .ok (.aload_n 0, 1) := by decide +kernel
theorem dX7_handOver_12 : decode cX7_handOver 12 = .ok (.getfield 19, 3) := by decide +kernel
theorem dX7_handOver_15 : decode cX7_handOver 15 = .ok (.iload_n 2, 1) := by decide +kernel
theorem dX7_handOver_16 : decode cX7_handOver 16 = .ok (.invokevirtual 119, 3) := by decide +kernel
theorem dX7_handOver_19 : decode cX7_handOver 19 = .ok (.ifCond .eq 7, 3) := by decide +kernel
theorem dX7_handOver_22 : decode cX7_handOver 22 = .ok (.iconst 1, 1) := by decide +kernel
theorem dX7_handOver_23 : decode cX7_handOver 23 = .ok (.goto 4, 3) := by decide +kernel
theorem dX7_handOver_26 : decode cX7_handOver 26 = .ok (.iconst 0, 1) := by decide +kernel
theorem dX7_handOver_27 : decode cX7_handOver 27 = .ok (.invokestatic 123, 3) := by decide +kernel
theorem dX7_handOver_30 : decode cX7_handOver 30 = .ok (.iload_n 1, 1) := by decide +kernel
theorem dX7_handOver_31 : decode cX7_handOver 31 = .ok (.iload_n 2, 1) := by decide +kernel
theorem dX7_handOver_32 : decode cX7_handOver 32 = .ok (.if_icmp .eq 7, 3) := by decide +kernel
theorem dX7_handOver_35 : decode cX7_handOver 35 = .ok (.iconst 1, 1) := by decide +kernel
theorem dX7_handOver_36 : decode cX7_handOver 36 = .ok (.goto 4, 3) := by decide +kernel
theorem dX7_handOver_39 : decode cX7_handOver 39 = .ok (.iconst 0, 1) := by decide +kernel
theorem dX7_handOver_40 : decode cX7_handOver 40 = .ok (.invokestatic 220, 3) := by decide +kernel
theorem dX7_handOver_43 : decode cX7_handOver 43 = .ok (.aload_n 0, 1) := by decide +kernel
theorem dX7_handOver_44 : decode cX7_handOver 44 = .ok (.getfield 19, 3) := by decide +kernel
theorem dX7_handOver_47 : decode cX7_handOver 47 = .ok (.iload_n 1, 1) := by decide +kernel
theorem dX7_handOver_48 : decode cX7_handOver 48 = .ok (.iload_n 2, 1) := by decide +kernel
theorem dX7_handOver_49 : decode cX7_handOver 49 = .ok (.invokevirtual 223, 3) := by decide +kernel
theorem dX7_handOver_52 : decode cX7_handOver 52 = .ok (.invokestatic 72, 3) := by decide +kernel
theorem dX7_handOver_55 : decode cX7_handOver 55 = .ok (.aload_n 0, 1) := by decide +kernel
theorem dX7_handOver_56 : decode cX7_handOver 56 = .ok (.getfield 29, 3) := by decide +kernel
theorem dX7_handOver_59 : decode cX7_handOver 59 = .ok (.aload_n 0, 1) := by decide +kernel
theorem dX7_handOver_60 : decode cX7_handOver 60 = .ok (.getfield 19, 3) := by decide +kernel
theorem dX7_handOver_63 : decode cX7_handOver 63 = .ok (.invokevirtual 198, 3) := by decide +kernel
theorem dX7_handOver_66 : decode cX7_handOver 66 = .ok (.aload_n 0, 1) := by decide +kernel
theorem dX7_handOver_67 : decode cX7_handOver 67 = .ok (.getfield 19, 3) := by decide +kernel
theorem dX7_handOver_70 : decode cX7_handOver 70 = .ok (.iload_n 1, 1) := by decide +kernel
theorem dX7_handOver_71 : decode cX7_handOver 71 = .ok (.invokevirtual 139, 3) := by decide +kernel
theorem dX7_handOver_74 : decode cX7_handOver 74 = .ok (.istore_n 3, 1) := by decide +kernel
theorem dX7_handOver_75 : decode cX7_handOver 75 = .ok (.aload_n 0, 1) := by decide +kernel
theorem dX7_handOver_76 : decode cX7_handOver 76 = .ok (.getfield 19, 3) := by decide +kernel
theorem dX7_handOver_79 : decode cX7_handOver 79 = .ok (.iload_n 1, 1) := by decide +kernel
theorem dX7_handOver_80 : decode cX7_handOver 80 = .ok (.iload_n 2, 1) := by decide +kernel
theorem dX7_handOver_81 : decode cX7_handOver 81 = .ok (.invokevirtual 227, 3) := by decide +kernel
theorem dX7_handOver_84 : decode cX7_handOver 84 = .ok (.iload_n 3, 1) := by decide +kernel
theorem dX7_handOver_85 : decode cX7_handOver 85 = .ok (.ireturn, 1) := by decide +kernel
theorem dX7_drop_0 : decode cX7_drop 0 = .ok (.aload_n 0, 1) := by decide +kernel
theorem dX7_drop_1 : decode cX7_drop 1 = .ok (.getfield 19, 3) := by decide +kernel
theorem dX7_drop_4 : decode cX7_drop 4 = .ok (.iload_n 1, 1) := by decide +kernel
theorem dX7_drop_5 : decode cX7_drop 5 = .ok (.invokevirtual 119, 3) := by decide +kernel
theorem dX7_drop_8 : decode cX7_drop 8 = .ok (.invokestatic 123, 3) := by decide +kernel
theorem dX7_drop_11 : decode cX7_drop 11 = .ok (.aload_n 0, 1) := by decide +kernel
theorem dX7_drop_12 : decode cX7_drop 12 = .ok (.getfield 29, 3) := by decide +kernel
theorem dX7_drop_15 : decode cX7_drop 15 = .ok (.aload_n 0, 1) := by decide +kernel
theorem dX7_drop_16 : decode cX7_drop 16 = .ok (.getfield 19, 3) := by decide +kernel
theorem dX7_drop_19 : decode cX7_drop 19 = .ok (.invokevirtual 198, 3) := by decide +kernel
theorem dX7_drop_22 : decode cX7_drop 22 = .ok (.aload_n 0, 1) := by decide +kernel
theorem dX7_drop_23 : decode cX7_drop 23 = .ok (.getfield 19, 3) := by decide +kernel
theorem dX7_drop_26 : decode cX7_drop 26 = .ok (.iload_n 1, 1) := by decide +kernel
theorem dX7_drop_27 : decode cX7_drop 27 = .ok (.invokevirtual 231, 3) := by decide +kernel
theorem dX7_drop_30 : decode cX7_drop 30 = .ok (.ireturn, 1) := by decide +kernel
theorem dX7_setLifetime_0 : decode cX7_setLifetime 0 = .ok (.iload_n 1, 1) := by decide +kernel
theorem dX7_setLifetime_1 : decode cX7_setLifetime 1 = .ok (.iconst 1, 1) := by decide +kernel
theorem dX7_setLifetime_2 : decode cX7_setLifetime 2 = .ok (.bipush 20, 2) := by decide +kernel
theorem dX7_setLifetime_4 : decode cX7_setLifetime 4 = .ok (.invokestatic 64, 3) := by decide +kernel
theorem dX7_setLifetime_7 : decode cX7_setLifetime 7 = .ok (.aload_n 0, 1) := by decide +kernel
theorem dX7_setLifetime_8 : decode cX7_setLifetime 8 = .ok (.getfield 29, 3) := by decide +kernel
theorem dX7_setLifetime_11 : decode cX7_setLifetime 11 = .ok (.aload_n 0, 1) := by decide +kernel
theorem dX7_setLifetime_12 : decode cX7_setLifetime 12 = .ok (.getfield 19, 3) := by decide +kernel
theorem dX7_setLifetime_15 : decode cX7_setLifetime 15 = .ok (.invokevirtual 198, 3) := by decide +kernel
theorem dX7_setLifetime_18 : decode cX7_setLifetime 18 = .ok (.aload_n 0, 1) := by decide +kernel
theorem dX7_setLifetime_19 : decode cX7_setLifetime 19 = .ok (.getfield 19, 3) := by decide +kernel
theorem dX7_setLifetime_22 : decode cX7_setLifetime 22 = .ok (.getfield 103, 3) := by decide +kernel
theorem dX7_setLifetime_25 : decode cX7_setLifetime 25 = .ok (.istore_n 2, 1) := by decide +kernel
theorem dX7_setLifetime_26 : decode cX7_setLifetime 26 = .ok (.aload_n 0, 1) := by decide +kernel
theorem dX7_setLifetime_27 : decode cX7_setLifetime 27 = .ok (.getfield 19, 3) := by decide +kernel
theorem dX7_setLifetime_30 : decode cX7_setLifetime 30 = .ok (.iload_n 1, 1) := by decide +kernel
theorem dX7_setLifetime_31 : decode cX7_setLifetime 31 = .ok (.putfield 103, 3) := by decide +kernel
theorem dX7_setLifetime_34 : decode cX7_setLifetime 34 = .ok (.iload_n 2, 1) := by decide +kernel
theorem dX7_setLifetime_35 : decode cX7_setLifetime 35 = .ok (.ireturn, 1) := by decide +kernel
theorem dX7_undo_0 : decode cX7_undo 0 = .ok (.aload_n 0, 1) := by decide +kernel
theorem dX7_undo_1 : decode cX7_undo 1 = .ok (.getfield 29, 3) := by decide +kernel
theorem dX7_undo_4 : decode cX7_undo 4 = .ok (.getfield 234, 3) := by decide +kernel
theorem dX7_undo_7 : decode cX7_undo 7 = .ok (.ifCond .le 7, 3) := by decide +kernel
theorem dX7_undo_10 : decode cX7_undo 10 = .ok (.iconst 1, 1) := by decide +kernel
theorem dX7_undo_11 : decode cX7_undo 11 = .ok (.goto 4, 3) := by decide +kernel
theorem dX7_undo_14 : decode cX7_undo 14 = .ok (.iconst 0, 1) := by decide +kernel
theorem dX7_undo_15 : decode cX7_undo 15 = .ok (.invokestatic 72, 3) := by decide +kernel
theorem dX7_undo_18 : decode cX7_undo 18 = .ok (.aload_n 0, 1) := by decide +kernel
theorem dX7_undo_19 : decode cX7_undo 19 = .ok (.getfield 29, 3) := by decide +kernel
theorem dX7_undo_22 : decode cX7_undo 22 = .ok (.aload_n 0, 1) := by decide +kernel
theorem dX7_undo_23 : decode cX7_undo 23 = .ok (.getfield 19, 3) := by decide +kernel
theorem dX7_undo_26 : decode cX7_undo 26 = .ok (.invokevirtual 237, 3) := by decide +kernel
theorem dX7_undo_29 : decode cX7_undo 29 = .ok (.aload_n 0, 1) := by decide +kernel
theorem dX7_undo_30 : decode cX7_undo 30 = .ok (.getfield 29, 3) := by decide +kernel
theorem dX7_undo_33 : decode cX7_undo 33 = .ok (.getfield 234, 3) := by decide +kernel
theorem dX7_undo_36 : decode cX7_undo 36 = .ok (.ireturn, 1) := by decide +kernel
theorem dX7_hops_0 : decode cX7_hops 0 = .ok (.aload_n 0, 1) := by decide +kernel
theorem dX7_hops_1 : decode cX7_hops 1 = .ok (.getfield 19, 3) := by decide +kernel
theorem dX7_hops_4 : decode cX7_hops 4 = .ok (.iload_n 1, 1) := by decide +kernel
theorem dX7_hops_5 : decode cX7_hops 5 = .ok (.invokevirtual 119, 3) := by decide +kernel
theorem dX7_hops_8 : decode cX7_hops 8 = .ok (.ifCond .eq 18, 3) := by decide +kernel
theorem dX7_hops_11 : decode cX7_hops 11 = .ok (.aload_n 0, 1) := by decide +kernel
theorem dX7_hops_12 : decode cX7_hops 12 = .ok (.getfield 19, 3) := by decide +kernel
theorem dX7_hops_15 : decode cX7_hops 15 = .ok (.iload_n 2, 1) := by decide +kernel
theorem dX7_hops_16 : decode cX7_hops 16 = .ok (.invokevirtual 119, 3) := by decide +kernel
theorem dX7_hops_19 : decode cX7_hops 19 = .ok (.ifCond .eq 7, 3) := by decide +kernel
theorem dX7_hops_22 : decode cX7_hops 22 = .ok (.iconst 1, 1) := by decide +kernel
theorem dX7_hops_23 : decode cX7_hops 23 = .ok (.goto 4, 3) := by decide +kernel
theorem dX7_hops_26 : decode cX7_hops 26 = .ok (.iconst 0, 1) := by decide +kernel
theorem dX7_hops_27 : decode cX7_hops 27 = .ok (.invokestatic 123, 3) := by decide +kernel
theorem dX7_hops_30 : decode cX7_hops 30 = .ok (.iconst 1, 1) := by decide +kernel
theorem dX7_hops_31 : decode cX7_hops 31 = .ok (.iload_n 1, 1) := by decide +kernel
theorem dX7_hops_32 : decode cX7_hops 32 = .ok (.ishl, 1) := by decide +kernel
theorem dX7_hops_33 : decode cX7_hops 33 = .ok (.istore_n 3, 1) := by decide +kernel
theorem dX7_hops_34 : decode cX7_hops 34 = .ok (.iconst 0, 1) := by decide +kernel
theorem dX7_hops_35 : decode cX7_hops 35 = .ok (.istore 4, 2) := by decide +kernel
theorem dX7_hops_37 : decode cX7_hops 37 = .ok (.iload 4, 2) := by decide +kernel
theorem dX7_hops_39 : decode cX7_hops 39 = .ok (.bipush 6, 2) := by decide +kernel
theorem dX7_hops_41 : decode cX7_hops 41 = .ok (.if_icmp .ge 29, 3) := by decide +kernel
theorem dX7_hops_44 : decode cX7_hops 44 = .ok (.iload_n 3, 1) := by decide +kernel
theorem dX7_hops_45 : decode cX7_hops 45 = .ok (.iload_n 2, 1) := by decide +kernel
theorem dX7_hops_46 : decode cX7_hops 46 = .ok (.invokestatic 240, 3) := by decide +kernel
theorem dX7_hops_49 : decode cX7_hops 49 = .ok (.ifCond .eq 6, 3) := by decide +kernel
theorem dX7_hops_52 : decode cX7_hops 52 = .ok (.iload 4, 2) := by decide +kernel
theorem dX7_hops_54 : decode cX7_hops 54 = .ok (.ireturn, 1) := by decide +kernel
theorem dX7_hops_55 : decode cX7_hops 55 = .ok (.aload_n 0, 1) := by decide +kernel
theorem dX7_hops_56 : decode cX7_hops 56 = .ok (.getfield 19, 3) := by decide +kernel
theorem dX7_hops_59 : decode cX7_hops 59 = .ok (.iload_n 3, 1) := by decide +kernel
theorem dX7_hops_60 : decode cX7_hops 60 = .ok (.invokevirtual 243, 3) := by decide +kernel
theorem dX7_hops_63 : decode cX7_hops 63 = .ok (.istore_n 3, 1) := by decide +kernel
theorem dX7_hops_64 : decode cX7_hops 64 = .ok (.iinc 4 1, 3) := by decide +kernel
theorem dX7_hops_67 : decode cX7_hops 67 = .ok (.goto (-30), 3) := by decide +kernel
theorem dX7_hops_70 : decode cX7_hops 70 = .ok (.bipush (-9), 2) := by decide +kernel
theorem dX7_hops_72 : decode cX7_hops 72 = .ok (.ireturn, 1) := by decide +kernel
theorem dX7_groups_0 : decode cX7_groups 0 = .ok (.aload_n 0, 1) := by decide +kernel
theorem dX7_groups_1 : decode cX7_groups 1 = .ok (.getfield 19, 3) := by decide +kernel
theorem dX7_groups_4 : decode cX7_groups 4 = .ok (.invokevirtual 246, 3) := by decide +kernel
theorem dX7_groups_7 : decode cX7_groups 7 = .ok (.ireturn, 1) := by decide +kernel
theorem dX7_rangeNeeded_0 : decode cX7_rangeNeeded 0 = .ok (.aload_n 0, 1) := by decide +kernel
theorem dX7_rangeNeeded_1 : decode cX7_rangeNeeded 1 = .ok (.getfield 23, 3) := by decide +kernel
theorem dX7_rangeNeeded_4 : decode cX7_rangeNeeded 4 = .ok (.aload_n 0, 1) := by decide +kernel
theorem dX7_rangeNeeded_5 : decode cX7_rangeNeeded 5 = .ok (.getfield 19, 3) := by decide +kernel
theorem dX7_rangeNeeded_8 : decode cX7_rangeNeeded 8 = .ok (.invokevirtual 87, 3) := by decide +kernel
theorem dX7_rangeNeeded_11 : decode cX7_rangeNeeded 11 = .ok (.iconst 0, 1) := by decide +kernel
theorem dX7_rangeNeeded_12 : decode cX7_rangeNeeded 12 = .ok (.istore_n 1, 1) := by decide +kernel
theorem dX7_rangeNeeded_13 : decode cX7_rangeNeeded 13 = .ok (.iload_n 1, 1) := by decide +kernel
theorem dX7_rangeNeeded_14 : decode cX7_rangeNeeded 14 = .ok (.bipush 22, 2) := by decide +kernel
theorem dX7_rangeNeeded_16 : decode cX7_rangeNeeded 16 = .ok (.if_icmp .ge 30, 3) := by decide +kernel
theorem dX7_rangeNeeded_19 : decode cX7_rangeNeeded 19 = .ok (.aload_n 0, 1) := by decide +kernel
theorem dX7_rangeNeeded_20 : decode cX7_rangeNeeded 20 = .ok (.getfield 23, 3) := by decide +kernel
theorem dX7_rangeNeeded_23 : decode cX7_rangeNeeded 23 = .ok (.iload_n 1, 1) := by decide +kernel
theorem dX7_rangeNeeded_24 : decode cX7_rangeNeeded 24 = .ok (.invokevirtual 249, 3) := by decide +kernel
theorem dX7_rangeNeeded_27 : decode cX7_rangeNeeded 27 = .ok (.aload_n 0, 1) := by decide +kernel
theorem dX7_rangeNeeded_28 : decode cX7_rangeNeeded 28 = .ok (.getfield 23, 3) := by decide +kernel
theorem dX7_rangeNeeded_31 : decode cX7_rangeNeeded 31 = .ok (.invokevirtual 246, 3) := by decide +kernel
theorem dX7_rangeNeeded_34 : decode cX7_rangeNeeded 34 = .ok (.iconst 1, 1) := by decide +kernel
theorem dX7_rangeNeeded_35 : decode cX7_rangeNeeded 35 = .ok (.if_icmp .gt 5, 3) := by decide +kernel
theorem dX7_rangeNeeded_38 : decode cX7_rangeNeeded 38 = .ok (.iload_n 1, 1) := by decide +kernel
theorem dX7_rangeNeeded_39 : decode cX7_rangeNeeded 39 = .ok (.ireturn, 1) := by decide +kernel
theorem dX7_rangeNeeded_40 : decode cX7_rangeNeeded 40 = .ok (.iinc 1 1, 3) := by decide +kernel
theorem dX7_rangeNeeded_43 : decode cX7_rangeNeeded 43 = .ok (.goto (-30), 3) := by decide +kernel
theorem dX7_rangeNeeded_46 : decode cX7_rangeNeeded 46 = .ok (.bipush 22, 2) := by decide +kernel
theorem dX7_rangeNeeded_48 : decode cX7_rangeNeeded 48 = .ok (.ireturn, 1) := by decide +kernel
theorem dX7_conflicts_0 : decode cX7_conflicts 0 = .ok (.iload_n 1, 1) := by decide +kernel
theorem dX7_conflicts_1 : decode cX7_conflicts 1 = .ok (.iconst 0, 1) := by decide +kernel
theorem dX7_conflicts_2 : decode cX7_conflicts 2 = .ok (.iconst 2, 1) := by decide +kernel
theorem dX7_conflicts_3 : decode cX7_conflicts 3 = .ok (.invokestatic 64, 3) := by decide +kernel
theorem dX7_conflicts_6 : decode cX7_conflicts 6 = .ok (.iload_n 1, 1) := by decide +kernel
theorem dX7_conflicts_7 : decode cX7_conflicts 7 = .ok (.lookupswitch 41 #[(0, 25), (1, 33)], 25) := by decide +kernel
theorem dX7_conflicts_32 : decode cX7_conflicts 32 = .ok (.aload_n 0, 1) := by decide +kernel
theorem dX7_conflicts_33 : decode cX7_conflicts 33 = .ok (.getfield 19, 3) := by decide +kernel
theorem dX7_conflicts_36 : decode cX7_conflicts 36 = .ok (.invokevirtual 252, 3) := by decide +kernel
theorem dX7_conflicts_39 : decode cX7_conflicts 39 = .ok (.ireturn, 1) := by decide +kernel
theorem dX7_conflicts_40 : decode cX7_conflicts 40 = .ok (.aload_n 0, 1) := by decide +kernel
theorem dX7_conflicts_41 : decode cX7_conflicts 41 = .ok (.getfield 19, 3) := by decide +kernel
theorem dX7_conflicts_44 : decode cX7_conflicts 44 = .ok (.invokevirtual 255, 3) := by decide +kernel
theorem dX7_conflicts_47 : decode cX7_conflicts 47 = .ok (.ireturn, 1) := by decide +kernel
theorem dX7_conflicts_48 : decode cX7_conflicts 48 = .ok (.aload_n 0, 1) := by decide +kernel
theorem dX7_conflicts_49 : decode cX7_conflicts 49 = .ok (.getfield 19, 3) := by decide +kernel
theorem dX7_conflicts_52 : decode cX7_conflicts 52 = .ok (.invokevirtual 258, 3) := by decide +kernel
theorem dX7_conflicts_55 : decode cX7_conflicts 55 = .ok (.ireturn, 1) := by decide +kernel
theorem dX7_finishedAfter_0 : decode cX7_finishedAfter 0 = .ok (.iload_n 1, 1) := by decide +kernel
theorem dX7_finishedAfter_1 : decode cX7_finishedAfter 1 = .ok (.iconst 0, 1) := by decide +kernel
theorem dX7_finishedAfter_2 : decode cX7_finishedAfter 2 = .ok (.bipush 8, 2) := by decide +kernel
theorem dX7_finishedAfter_4 : decode cX7_finishedAfter 4 = .ok (.invokestatic 64, 3) := by decide +kernel
theorem dX7_finishedAfter_7 : decode cX7_finishedAfter 7 = .ok (.aload_n 0, 1) := by decide +kernel
theorem dX7_finishedAfter_8 : decode cX7_finishedAfter 8 = .ok (.getfield 23, 3) := by decide +kernel
theorem dX7_finishedAfter_11 : decode cX7_finishedAfter 11 = .ok (.aload_n 0, 1) := by decide +kernel
theorem dX7_finishedAfter_12 : decode cX7_finishedAfter 12 = .ok (.getfield 19, 3) := by decide +kernel
theorem dX7_finishedAfter_15 : decode cX7_finishedAfter 15 = .ok (.invokevirtual 87, 3) := by decide +kernel
theorem dX7_finishedAfter_18 : decode cX7_finishedAfter 18 = .ok (.iconst 0, 1) := by decide +kernel
theorem dX7_finishedAfter_19 : decode cX7_finishedAfter 19 = .ok (.istore_n 2, 1) := by decide +kernel
theorem dX7_finishedAfter_20 : decode cX7_finishedAfter 20 = .ok (.iload_n 2, 1) := by decide +kernel
theorem dX7_finishedAfter_21 : decode cX7_finishedAfter 21 = .ok (.sipush 150, 3) := by decide +kernel
theorem dX7_finishedAfter_24 : decode cX7_finishedAfter 24 = .ok (.if_icmp .gt 34, 3) := by decide +kernel
theorem dX7_finishedAfter_27 : decode cX7_finishedAfter 27 = .ok (.aload_n 0, 1) := by decide +kernel
theorem dX7_finishedAfter_28 : decode cX7_finishedAfter 28 = .ok (.getfield 23, 3) := by decide +kernel
theorem dX7_finishedAfter_31 : decode cX7_finishedAfter 31 = .ok (.invokevirtual 106, 3) := by decide +kernel
theorem dX7_finishedAfter_34 : decode cX7_finishedAfter 34 = .ok (.iload_n 1, 1) := by decide +kernel
theorem dX7_finishedAfter_35 : decode cX7_finishedAfter 35 = .ok (.if_icmp .lt 5, 3) := by decide +kernel
theorem dX7_finishedAfter_38 : decode cX7_finishedAfter 38 = .ok (.iload_n 2, 1) := by decide +kernel
theorem dX7_finishedAfter_39 : decode cX7_finishedAfter 39 = .ok (.ireturn, 1) := by decide +kernel
theorem dX7_finishedAfter_40 : decode cX7_finishedAfter 40 = .ok (.aload_n 0, 1) := by decide +kernel
theorem dX7_finishedAfter_41 : decode cX7_finishedAfter 41 = .ok (.getfield 44, 3) := by decide +kernel
theorem dX7_finishedAfter_44 : decode cX7_finishedAfter 44 = .ok (.aload_n 0, 1) := by decide +kernel
theorem dX7_finishedAfter_45 : decode cX7_finishedAfter 45 = .ok (.getfield 23, 3) := by decide +kernel
theorem dX7_finishedAfter_48 : decode cX7_finishedAfter 48 = .ok (.iconst 1, 1) := by decide +kernel
theorem dX7_finishedAfter_49 : decode cX7_finishedAfter 49 = .ok (.invokevirtual 201, 3) := by decide +kernel
theorem dX7_finishedAfter_52 : decode cX7_finishedAfter 52 = .ok (.iinc 2 1, 3) := by decide +kernel
theorem dX7_finishedAfter_55 : decode cX7_finishedAfter 55 = .ok (.goto (-35), 3) := by decide +kernel
theorem dX7_finishedAfter_58 : decode cX7_finishedAfter 58 = .ok (.bipush (-9), 2) := by decide +kernel
theorem dX7_finishedAfter_60 : decode cX7_finishedAfter 60 = .ok (.ireturn, 1) := by decide +kernel
theorem dX7_knownAfter_0 : decode cX7_knownAfter 0 = .ok (.aload_n 0, 1) := by decide +kernel
theorem dX7_knownAfter_1 : decode cX7_knownAfter 1 = .ok (.getfield 19, 3) := by decide +kernel
theorem dX7_knownAfter_4 : decode cX7_knownAfter 4 = .ok (.iload_n 1, 1) := by decide +kernel
theorem dX7_knownAfter_5 : decode cX7_knownAfter 5 = .ok (.invokevirtual 152, 3) := by decide +kernel
theorem dX7_knownAfter_8 : decode cX7_knownAfter 8 = .ok (.invokestatic 123, 3) := by decide +kernel
theorem dX7_knownAfter_11 : decode cX7_knownAfter 11 = .ok (.aload_n 0, 1) := by decide +kernel
theorem dX7_knownAfter_12 : decode cX7_knownAfter 12 = .ok (.getfield 23, 3) := by decide +kernel
theorem dX7_knownAfter_15 : decode cX7_knownAfter 15 = .ok (.aload_n 0, 1) := by decide +kernel
theorem dX7_knownAfter_16 : decode cX7_knownAfter 16 = .ok (.getfield 19, 3) := by decide +kernel
theorem dX7_knownAfter_19 : decode cX7_knownAfter 19 = .ok (.invokevirtual 87, 3) := by decide +kernel
theorem dX7_knownAfter_22 : decode cX7_knownAfter 22 = .ok (.iconst 0, 1) := by decide +kernel
theorem dX7_knownAfter_23 : decode cX7_knownAfter 23 = .ok (.istore_n 2, 1) := by decide +kernel
theorem dX7_knownAfter_24 : decode cX7_knownAfter 24 = .ok (.iload_n 2, 1) := by decide +kernel
theorem dX7_knownAfter_25 : decode cX7_knownAfter 25 = .ok (.sipush 150, 3) := by decide +kernel
theorem dX7_knownAfter_28 : decode cX7_knownAfter 28 = .ok (.if_icmp .gt 34, 3) := by decide +kernel
theorem dX7_knownAfter_31 : decode cX7_knownAfter 31 = .ok (.aload_n 0, 1) := by decide +kernel
theorem dX7_knownAfter_32 : decode cX7_knownAfter 32 = .ok (.getfield 23, 3) := by decide +kernel
theorem dX7_knownAfter_35 : decode cX7_knownAfter 35 = .ok (.iload_n 1, 1) := by decide +kernel
theorem dX7_knownAfter_36 : decode cX7_knownAfter 36 = .ok (.invokevirtual 261, 3) := by decide +kernel
theorem dX7_knownAfter_39 : decode cX7_knownAfter 39 = .ok (.ifCond .eq 5, 3) := by decide +kernel
theorem dX7_knownAfter_42 : decode cX7_knownAfter 42 = .ok (.iload_n 2, 1) := by decide +kernel
theorem dX7_knownAfter_43 : decode cX7_knownAfter 43 = .ok (.ireturn, 1) := by decide +kernel
theorem dX7_knownAfter_44 : decode cX7_knownAfter 44 = .ok (.aload_n 0, 1) := by decide +kernel
theorem dX7_knownAfter_45 : decode cX7_knownAfter 45 = .ok (.getfield 44, 3) := by decide +kernel
theorem dX7_knownAfter_48 : decode cX7_knownAfter 48 = .ok (.aload_n 0, 1) := by decide +kernel
theorem dX7_knownAfter_49 : decode cX7_knownAfter 49 = .ok (.getfield 23, 3) := by decide +kernel
theorem dX7_knownAfter_52 : decode cX7_knownAfter 52 = .ok (.iconst 1, 1) := by decide +kernel
theorem dX7_knownAfter_53 : decode cX7_knownAfter 53 = .ok (.invokevirtual 201, 3) := by decide +kernel
theorem dX7_knownAfter_56 : decode cX7_knownAfter 56 = .ok (.iinc 2 1, 3) := by decide +kernel
theorem dX7_knownAfter_59 : decode cX7_knownAfter 59 = .ok (.goto (-35), 3) := by decide +kernel
theorem dX7_knownAfter_62 : decode cX7_knownAfter 62 = .ok (.bipush (-9), 2) := by decide +kernel
theorem dX7_knownAfter_64 : decode cX7_knownAfter 64 = .ok (.ireturn, 1) := by decide +kernel
theorem dX7_wastedIf_0 : decode cX7_wastedIf 0 = .ok (.iload_n 1, 1) := by decide +kernel
theorem dX7_wastedIf_1 : decode cX7_wastedIf 1 = .ok (.iconst 0, 1) := by decide +kernel
theorem dX7_wastedIf_2 : decode cX7_wastedIf 2 = .ok (.bipush 22, 2) := by decide +kernel
theorem dX7_wastedIf_4 : decode cX7_wastedIf 4 = .ok (.invokestatic 64, 3) := by decide +kernel
theorem dX7_wastedIf_7 : decode cX7_wastedIf 7 = .ok (.iload_n 2, 1) := by decide +kernel
theorem dX7_wastedIf_8 : decode cX7_wastedIf 8 = .ok (.iconst 1, 1) := by decide +kernel
theorem dX7_wastedIf_9 : decode cX7_wastedIf 9 = .ok (.bipush 99, 2) := by decide +kernel
theorem dX7_wastedIf_11 : decode cX7_wastedIf 11 = .ok (.invokestatic 64, 3) := by decide +kernel
theorem dX7_wastedIf_14 : decode cX7_wastedIf 14 = .ok (.aload_n 0, 1) := by decide +kernel
theorem dX7_wastedIf_15 : decode cX7_wastedIf 15 = .ok (.getfield 23, 3) := by decide +kernel
theorem dX7_wastedIf_18 : decode cX7_wastedIf 18 = .ok (.aload_n 0, 1) := by decide +kernel
theorem dX7_wastedIf_19 : decode cX7_wastedIf 19 = .ok (.getfield 19, 3) := by decide +kernel
theorem dX7_wastedIf_22 : decode cX7_wastedIf 22 = .ok (.invokevirtual 87, 3) := by decide +kernel
theorem dX7_wastedIf_25 : decode cX7_wastedIf 25 = .ok (.aload_n 0, 1) := by decide +kernel
theorem dX7_wastedIf_26 : decode cX7_wastedIf 26 = .ok (.getfield 23, 3) := by decide +kernel
theorem dX7_wastedIf_29 : decode cX7_wastedIf 29 = .ok (.iload_n 1, 1) := by decide +kernel
theorem dX7_wastedIf_30 : decode cX7_wastedIf 30 = .ok (.invokevirtual 249, 3) := by decide +kernel
theorem dX7_wastedIf_33 : decode cX7_wastedIf 33 = .ok (.aload_n 0, 1) := by decide +kernel
theorem dX7_wastedIf_34 : decode cX7_wastedIf 34 = .ok (.getfield 44, 3) := by decide +kernel
theorem dX7_wastedIf_37 : decode cX7_wastedIf 37 = .ok (.aload_n 0, 1) := by decide +kernel
theorem dX7_wastedIf_38 : decode cX7_wastedIf 38 = .ok (.getfield 23, 3) := by decide +kernel
theorem dX7_wastedIf_41 : decode cX7_wastedIf 41 = .ok (.iload_n 2, 1) := by decide +kernel
theorem dX7_wastedIf_42 : decode cX7_wastedIf 42 = .ok (.invokevirtual 201, 3) := by decide +kernel
theorem dX7_wastedIf_45 : decode cX7_wastedIf 45 = .ok (.aload_n 0, 1) := by decide +kernel
theorem dX7_wastedIf_46 : decode cX7_wastedIf 46 = .ok (.getfield 23, 3) := by decide +kernel
theorem dX7_wastedIf_49 : decode cX7_wastedIf 49 = .ok (.invokevirtual 113, 3) := by decide +kernel
theorem dX7_wastedIf_52 : decode cX7_wastedIf 52 = .ok (.ireturn, 1) := by decide +kernel
theorem dX7_worstLoss_0 : decode cX7_worstLoss 0 = .ok (.iload_n 1, 1) := by decide +kernel
theorem dX7_worstLoss_1 : decode cX7_worstLoss 1 = .ok (.iconst 1, 1) := by decide +kernel
theorem dX7_worstLoss_2 : decode cX7_worstLoss 2 = .ok (.bipush 99, 2) := by decide +kernel
theorem dX7_worstLoss_4 : decode cX7_worstLoss 4 = .ok (.invokestatic 64, 3) := by decide +kernel
theorem dX7_worstLoss_7 : decode cX7_worstLoss 7 = .ok (.bipush (-9), 2) := by decide +kernel
theorem dX7_worstLoss_9 : decode cX7_worstLoss 9 = .ok (.istore_n 2, 1) := by decide +kernel
theorem dX7_worstLoss_10 : decode cX7_worstLoss 10 = .ok (.iconst 0, 1) := by decide +kernel
theorem dX7_worstLoss_11 : decode cX7_worstLoss 11 = .ok (.istore_n 3, 1) := by decide +kernel
theorem dX7_worstLoss_12 : decode cX7_worstLoss 12 = .ok (.iconst 0, 1) := by decide +kernel
theorem dX7_worstLoss_13 : decode cX7_worstLoss 13 = .ok (.istore 4, 2) := by decide +kernel
theorem dX7_worstLoss_15 : decode cX7_worstLoss 15 = .ok (.iload 4, 2) := by decide +kernel
theorem dX7_worstLoss_17 : decode cX7_worstLoss 17 = .ok (.aload_n 0, 1) := by decide +kernel
theorem dX7_worstLoss_18 : decode cX7_worstLoss 18 = .ok (.getfield 19, 3) := by decide +kernel
theorem dX7_worstLoss_21 : decode cX7_worstLoss 21 = .ok (.getfield 94, 3) := by decide +kernel
theorem dX7_worstLoss_24 : decode cX7_worstLoss 24 = .ok (.if_icmp .ge 48, 3) := by decide +kernel
theorem dX7_worstLoss_27 : decode cX7_worstLoss 27 = .ok (.aload_n 0, 1) := by decide +kernel
theorem dX7_worstLoss_28 : decode cX7_worstLoss 28 = .ok (.getfield 19, 3) := by decide +kernel
theorem dX7_worstLoss_31 : decode cX7_worstLoss 31 = .ok (.iload 4, 2) := by decide +kernel
theorem dX7_worstLoss_33 : decode cX7_worstLoss 33 = .ok (.invokevirtual 136, 3) := by decide +kernel
theorem dX7_worstLoss_36 : decode cX7_worstLoss 36 = .ok (.ifCond .eq 30, 3) := by decide +kernel
theorem dX7_worstLoss_39 : decode cX7_worstLoss 39 = .ok (.aload_n 0, 1) := by decide +kernel
theorem dX7_worstLoss_40 : decode cX7_worstLoss 40 = .ok (.iload 4, 2) := by decide +kernel
theorem dX7_worstLoss_42 : decode cX7_worstLoss 42 = .ok (.iload_n 1, 1) := by decide +kernel
theorem dX7_worstLoss_43 : decode cX7_worstLoss 43 = .ok (.invokevirtual 264, 3) := by decide +kernel
theorem dX7_worstLoss_46 : decode cX7_worstLoss 46 = .ok (.istore 5, 2) := by decide +kernel
theorem dX7_worstLoss_48 : decode cX7_worstLoss 48 = .ok (.iload_n 2, 1) := by decide +kernel
theorem dX7_worstLoss_49 : decode cX7_worstLoss 49 = .ok (.bipush (-9), 2) := by decide +kernel
theorem dX7_worstLoss_51 : decode cX7_worstLoss 51 = .ok (.if_icmp .eq 9, 3) := by decide +kernel
theorem dX7_worstLoss_54 : decode cX7_worstLoss 54 = .ok (.iload 5, 2) := by decide +kernel
theorem dX7_worstLoss_56 : decode cX7_worstLoss 56 = .ok (.iload_n 3, 1) := by decide +kernel
theorem dX7_worstLoss_57 : decode cX7_worstLoss 57 = .ok (.if_icmp .ge 9, 3) := by decide +kernel
theorem dX7_worstLoss_60 : decode cX7_worstLoss 60 = .ok (.iload 4, 2) := by decide +kernel
theorem dX7_worstLoss_62 : decode cX7_worstLoss 62 = .ok (.istore_n 2, 1) := by decide +kernel
theorem dX7_worstLoss_63 : decode cX7_worstLoss 63 = .ok (.iload 5, 2) := by decide +kernel
theorem dX7_worstLoss_65 : decode cX7_worstLoss 65 = .ok (.istore_n 3, 1) := by decide +kernel
theorem dX7_worstLoss_66 : decode cX7_worstLoss 66 = .ok (.iinc 4 1, 3) := by decide +kernel
theorem dX7_worstLoss_69 : decode cX7_worstLoss 69 = .ok (.goto (-54), 3) := by decide +kernel
theorem dX7_worstLoss_72 : decode cX7_worstLoss 72 = .ok (.iload_n 2, 1) := by decide +kernel
theorem dX7_worstLoss_73 : decode cX7_worstLoss 73 = .ok (.ireturn, 1) := by decide +kernel
theorem dX7_progressWithout_0 : decode cX7_progressWithout 0 = .ok (.aload_n 0, 1) := by decide +kernel
theorem dX7_progressWithout_1 : decode cX7_progressWithout 1 = .ok (.getfield 23, 3) := by decide +kernel
theorem dX7_progressWithout_4 : decode cX7_progressWithout 4 = .ok (.aload_n 0, 1) := by decide +kernel
theorem dX7_progressWithout_5 : decode cX7_progressWithout 5 = .ok (.getfield 19, 3) := by decide +kernel
theorem dX7_progressWithout_8 : decode cX7_progressWithout 8 = .ok (.invokevirtual 87, 3) := by decide +kernel
theorem dX7_progressWithout_11 : decode cX7_progressWithout 11 = .ok (.aload_n 0, 1) := by decide +kernel
theorem dX7_progressWithout_12 : decode cX7_progressWithout 12 = .ok (.getfield 23, 3) := by decide +kernel
theorem dX7_progressWithout_15 : decode cX7_progressWithout 15 = .ok (.iload_n 1, 1) := by decide +kernel
theorem dX7_progressWithout_16 : decode cX7_progressWithout 16 = .ok (.invokevirtual 212, 3) := by decide +kernel
theorem dX7_progressWithout_19 : decode cX7_progressWithout 19 = .ok (.aload_n 0, 1) := by decide +kernel
theorem dX7_progressWithout_20 : decode cX7_progressWithout 20 = .ok (.getfield 44, 3) := by decide +kernel
theorem dX7_progressWithout_23 : decode cX7_progressWithout 23 = .ok (.aload_n 0, 1) := by decide +kernel
theorem dX7_progressWithout_24 : decode cX7_progressWithout 24 = .ok (.getfield 23, 3) := by decide +kernel
theorem dX7_progressWithout_27 : decode cX7_progressWithout 27 = .ok (.iload_n 2, 1) := by decide +kernel
theorem dX7_progressWithout_28 : decode cX7_progressWithout 28 = .ok (.invokevirtual 201, 3) := by decide +kernel
theorem dX7_progressWithout_31 : decode cX7_progressWithout 31 = .ok (.aload_n 0, 1) := by decide +kernel
theorem dX7_progressWithout_32 : decode cX7_progressWithout 32 = .ok (.getfield 23, 3) := by decide +kernel
theorem dX7_progressWithout_35 : decode cX7_progressWithout 35 = .ok (.invokevirtual 267, 3) := by decide +kernel
theorem dX7_progressWithout_38 : decode cX7_progressWithout 38 = .ok (.ireturn, 1) := by decide +kernel
theorem dX7_bestShare_0 : decode cX7_bestShare 0 = .ok (.iload_n 1, 1) := by decide +kernel
theorem dX7_bestShare_1 : decode cX7_bestShare 1 = .ok (.iconst (-1), 1) := by decide +kernel
theorem dX7_bestShare_2 : decode cX7_bestShare 2 = .ok (.if_icmp .eq 14, 3) := by decide +kernel
theorem dX7_bestShare_5 : decode cX7_bestShare 5 = .ok (.aload_n 0, 1) := by decide +kernel
theorem dX7_bestShare_6 : decode cX7_bestShare 6 = .ok (.getfield 19, 3) := by decide +kernel
theorem dX7_bestShare_9 : decode cX7_bestShare 9 = .ok (.iload_n 1, 1) := by decide +kernel
theorem dX7_bestShare_10 : decode cX7_bestShare 10 = .ok (.invokevirtual 119, 3) := by decide +kernel
theorem dX7_bestShare_13 : decode cX7_bestShare 13 = .ok (.ifCond .eq 7, 3) := by decide +kernel
theorem dX7_bestShare_16 : decode cX7_bestShare 16 = .ok (.iconst 1, 1) := by decide +kernel
theorem dX7_bestShare_17 : decode cX7_bestShare 17 = .ok (.goto 4, 3) := by decide +kernel
theorem dX7_bestShare_20 : decode cX7_bestShare 20 = .ok (.iconst 0, 1) := by decide +kernel
theorem dX7_bestShare_21 : decode cX7_bestShare 21 = .ok (.invokestatic 123, 3) := by decide +kernel
theorem dX7_bestShare_24 : decode cX7_bestShare 24 = .ok (.aload_n 0, 1) := by decide +kernel
theorem dX7_bestShare_25 : decode cX7_bestShare 25 = .ok (.getfield 60, 3) := by decide +kernel
theorem dX7_bestShare_28 : decode cX7_bestShare 28 = .ok (.aload_n 0, 1) := by decide +kernel
theorem dX7_bestShare_29 : decode cX7_bestShare 29 = .ok (.getfield 19, 3) := by decide +kernel
theorem dX7_bestShare_32 : decode cX7_bestShare 32 = .ok (.invokevirtual 270, 3) := by decide +kernel
theorem dX7_bestShare_35 : decode cX7_bestShare 35 = .ok (.iload_n 1, 1) := by decide +kernel
theorem dX7_bestShare_36 : decode cX7_bestShare 36 = .ok (.iconst (-1), 1) := by decide +kernel
theorem dX7_bestShare_37 : decode cX7_bestShare 37 = .ok (.if_icmp .ne 13, 3) := by decide +kernel
theorem dX7_bestShare_40 : decode cX7_bestShare 40 = .ok (.aload_n 0, 1) := by decide +kernel
theorem dX7_bestShare_41 : decode cX7_bestShare 41 = .ok (.getfield 60, 3) := by decide +kernel
theorem dX7_bestShare_44 : decode cX7_bestShare 44 = .ok (.getfield 273, 3) := by decide +kernel
theorem dX7_bestShare_47 : decode cX7_bestShare 47 = .ok (.goto 12, 3) := by decide +kernel
theorem dX7_bestShare_50 : decode cX7_bestShare 50 = .ok (.aload_n 0, 1) := by decide +kernel
theorem dX7_bestShare_51 : decode cX7_bestShare 51 = .ok (.getfield 60, 3) := by decide +kernel
theorem dX7_bestShare_54 : decode cX7_bestShare 54 = .ok (.getfield 276, 3) := by decide +kernel
theorem dX7_bestShare_57 : decode cX7_bestShare 57 = .ok (.iload_n 1, 1) := by decide +kernel
theorem dX7_bestShare_58 : decode cX7_bestShare 58 = .ok (.iaload, 1) := by decide +kernel
theorem dX7_bestShare_59 : decode cX7_bestShare 59 = .ok (.ireturn, 1) := by decide +kernel
theorem dX7_runScript_0 : decode cX7_runScript 0 = .ok (.iload_n 1, 1) := by decide +kernel
theorem dX7_runScript_1 : decode cX7_runScript 1 = .ok (.iconst 1, 1) := by decide +kernel
theorem dX7_runScript_2 : decode cX7_runScript 2 = .ok (.iconst 3, 1) := by decide +kernel
theorem dX7_runScript_3 : decode cX7_runScript 3 = .ok (.invokestatic 64, 3) := by decide +kernel
theorem dX7_runScript_6 : decode cX7_runScript 6 = .ok (.lconst 1, 1) := by decide +kernel
theorem dX7_runScript_7 : decode cX7_runScript 7 = .ok (.lstore 4, 2) := by decide +kernel
theorem dX7_runScript_9 : decode cX7_runScript 9 = .ok (.iconst 0, 1) := by decide +kernel
theorem dX7_runScript_10 : decode cX7_runScript 10 = .ok (.istore 6, 2) := by decide +kernel
theorem dX7_runScript_12 : decode cX7_runScript 12 = .ok (.iload 6, 2) := by decide +kernel
theorem dX7_runScript_14 : decode cX7_runScript 14 = .ok (.iload_n 1, 1) := by decide +kernel
theorem dX7_runScript_15 : decode cX7_runScript 15 = .ok (.if_icmp .ge 17, 3) := by decide +kernel
theorem dX7_runScript_18 : decode cX7_runScript 18 = .ok (.lload 4, 2) := by decide +kernel
theorem dX7_runScript_20 : decode cX7_runScript 20 = .ok (.ldc2_w 279, 3) := by decide +kernel
theorem dX7_runScript_23 : decode cX7_runScript 23 = .ok (.lmul, 1) := by decide +kernel
theorem dX7_runScript_24 : decode cX7_runScript 24 = .ok (.lstore 4, 2) := by decide +kernel
theorem dX7_runScript_26 : decode cX7_runScript 26 = .ok (.iinc 6 1, 3) := by decide +kernel
theorem dX7_runScript_29 : decode cX7_runScript 29 = .ok (.goto (-17), 3) := by decide +kernel
theorem dX7_runScript_32 : decode cX7_runScript 32 = .ok (.lload_n 2, 1) := by decide +kernel
theorem dX7_runScript_33 : decode cX7_runScript 33 = .ok (.lconst 0, 1) := by decide +kernel
theorem dX7_runScript_34 : decode cX7_runScript 34 = .ok (.lcmp, 1) := by decide +kernel
theorem dX7_runScript_35 : decode cX7_runScript 35 = .ok (.ifCond .lt 14, 3) := by decide +kernel
theorem dX7_runScript_38 : decode cX7_runScript 38 = .ok (.lload_n 2, 1) := by decide +kernel
theorem dX7_runScript_39 : decode cX7_runScript 39 = .ok (.lload 4, 2) := by decide +kernel
theorem dX7_runScript_41 : decode cX7_runScript 41 = .ok (.lcmp, 1) := by decide +kernel
theorem dX7_runScript_42 : decode cX7_runScript 42 = .ok (.ifCond .ge 7, 3) := by decide +kernel
theorem dX7_runScript_45 : decode cX7_runScript 45 = .ok (.iconst 1, 1) := by decide +kernel
theorem dX7_runScript_46 : decode cX7_runScript 46 = .ok (.goto 4, 3) := by decide +kernel
theorem dX7_runScript_49 : decode cX7_runScript 49 = .ok (.iconst 0, 1) := by decide +kernel
theorem dX7_runScript_50 : decode cX7_runScript 50 = .ok (.invokestatic 220, 3) := by decide +kernel
theorem dX7_runScript_53 : decode cX7_runScript 53 = .ok (.aload_n 0, 1) := by decide +kernel
theorem dX7_runScript_54 : decode cX7_runScript 54 = .ok (.getfield 23, 3) := by decide +kernel
theorem dX7_runScript_57 : decode cX7_runScript 57 = .ok (.aload_n 0, 1) := by decide +kernel
theorem dX7_runScript_58 : decode cX7_runScript 58 = .ok (.getfield 19, 3) := by decide +kernel
theorem dX7_runScript_61 : decode cX7_runScript 61 = .ok (.invokevirtual 87, 3) := by decide +kernel
theorem dX7_runScript_64 : decode cX7_runScript 64 = .ok (.iconst 0, 1) := by decide +kernel
theorem dX7_runScript_65 : decode cX7_runScript 65 = .ok (.istore 6, 2) := by decide +kernel
theorem dX7_runScript_67 : decode cX7_runScript 67 = .ok (.iload 6, 2) := by decide +kernel
theorem dX7_runScript_69 : decode cX7_runScript 69 = .ok (.iload_n 1, 1) := by decide +kernel
theorem dX7_runScript_70 : decode cX7_runScript 70 = .ok (.if_icmp .ge 47, 3) := by decide +kernel
theorem dX7_runScript_73 : decode cX7_runScript 73 = .ok (.lload 4, 2) := by decide +kernel
theorem dX7_runScript_75 : decode cX7_runScript 75 = .ok (.ldc2_w 279, 3) := by decide +kernel
theorem dX7_runScript_78 : decode cX7_runScript 78 = .ok (.ldiv, 1) := by decide +kernel
theorem dX7_runScript_79 : decode cX7_runScript 79 = .ok (.lstore 4, 2) := by decide +kernel
theorem dX7_runScript_81 : decode cX7_runScript 81 = .ok (.lload_n 2, 1) := by decide +kernel
theorem dX7_runScript_82 : decode cX7_runScript 82 = .ok (.lload 4, 2) := by decide +kernel
theorem dX7_runScript_84 : decode cX7_runScript 84 = .ok (.ldiv, 1) := by decide +kernel
theorem dX7_runScript_85 : decode cX7_runScript 85 = .ok (.ldc2_w 279, 3) := by decide +kernel
theorem dX7_runScript_88 : decode cX7_runScript 88 = .ok (.lrem, 1) := by decide +kernel
theorem dX7_runScript_89 : decode cX7_runScript 89 = .ok (.l2i, 1) := by decide +kernel
theorem dX7_runScript_90 : decode cX7_runScript 90 = .ok (.istore 7, 2) := by decide +kernel
theorem dX7_runScript_92 : decode cX7_runScript 92 = .ok (.aload_n 0, 1) := by decide +kernel
theorem dX7_runScript_93 : decode cX7_runScript 93 = .ok (.getfield 53, 3) := by decide +kernel
theorem dX7_runScript_96 : decode cX7_runScript 96 = .ok (.aload_n 0, 1) := by decide +kernel
theorem dX7_runScript_97 : decode cX7_runScript 97 = .ok (.getfield 23, 3) := by decide +kernel
theorem dX7_runScript_100 : decode cX7_runScript 100 = .ok (.iload 7, 2) := by decide +kernel
theorem dX7_runScript_102 : decode cX7_runScript 102 = .ok (.invokevirtual 281, 3) := by decide +kernel
theorem dX7_runScript_105 : decode cX7_runScript 105 = .ok (.ifCond .ne 6, 3) := by decide +kernel
theorem dX7_runScript_108 : decode cX7_runScript 108 = .ok (.iload 6, 2) := by decide +kernel
theorem dX7_runScript_110 : decode cX7_runScript 110 = .ok (.ireturn, 1) := by decide +kernel
theorem dX7_runScript_111 : decode cX7_runScript 111 = .ok (.iinc 6 1, 3) := by decide +kernel
theorem dX7_runScript_114 : decode cX7_runScript 114 = .ok (.goto (-47), 3) := by decide +kernel
theorem dX7_runScript_117 : decode cX7_runScript 117 = .ok (.bipush (-9), 2) := by decide +kernel
theorem dX7_runScript_119 : decode cX7_runScript 119 = .ok (.ireturn, 1) := by decide +kernel
theorem dX7_simulate_0 : decode cX7_simulate 0 = .ok (.iload_n 3, 1) := by decide +kernel
theorem dX7_simulate_1 : decode cX7_simulate 1 = .ok (.iconst 1, 1) := by decide +kernel
theorem dX7_simulate_2 : decode cX7_simulate 2 = .ok (.bipush 60, 2) := by decide +kernel
theorem dX7_simulate_4 : decode cX7_simulate 4 = .ok (.invokestatic 64, 3) := by decide +kernel
theorem dX7_simulate_7 : decode cX7_simulate 7 = .ok (.aload_n 0, 1) := by decide +kernel
theorem dX7_simulate_8 : decode cX7_simulate 8 = .ok (.getfield 23, 3) := by decide +kernel
theorem dX7_simulate_11 : decode cX7_simulate 11 = .ok (.aload_n 0, 1) := by decide +kernel
theorem dX7_simulate_12 : decode cX7_simulate 12 = .ok (.getfield 19, 3) := by decide +kernel
theorem dX7_simulate_15 : decode cX7_simulate 15 = .ok (.invokevirtual 87, 3) := by decide +kernel
theorem dX7_simulate_18 : decode cX7_simulate 18 = .ok (.lload_n 1, 1) := by decide +kernel
theorem dX7_simulate_19 : decode cX7_simulate 19 = .ok (.lstore 4, 2) := by decide +kernel
theorem dX7_simulate_21 : decode cX7_simulate 21 = .ok (.iconst 0, 1) := by decide +kernel
theorem dX7_simulate_22 : decode cX7_simulate 22 = .ok (.istore 6, 2) := by decide +kernel
theorem dX7_simulate_24 : decode cX7_simulate 24 = .ok (.iload 6, 2) := by decide +kernel
theorem dX7_simulate_26 : decode cX7_simulate 26 = .ok (.iload_n 3, 1) := by decide +kernel
theorem dX7_simulate_27 : decode cX7_simulate 27 = .ok (.if_icmp .ge 46, 3) := by decide +kernel
theorem dX7_simulate_30 : decode cX7_simulate 30 = .ok (.lload 4, 2) := by decide +kernel
theorem dX7_simulate_32 : decode cX7_simulate 32 = .ok (.ldc2_w 285, 3) := by decide +kernel
theorem dX7_simulate_35 : decode cX7_simulate 35 = .ok (.lmul, 1) := by decide +kernel
theorem dX7_simulate_36 : decode cX7_simulate 36 = .ok (.ldc2_w 287, 3) := by decide +kernel
theorem dX7_simulate_39 : decode cX7_simulate 39 = .ok (.ladd, 1) := by decide +kernel
theorem dX7_simulate_40 : decode cX7_simulate 40 = .ok (.lstore 4, 2) := by decide +kernel
theorem dX7_simulate_42 : decode cX7_simulate 42 = .ok (.aload_n 0, 1) := by decide +kernel
theorem dX7_simulate_43 : decode cX7_simulate 43 = .ok (.getfield 23, 3) := by decide +kernel
theorem dX7_simulate_46 : decode cX7_simulate 46 = .ok (.lload 4, 2) := by decide +kernel
theorem dX7_simulate_48 : decode cX7_simulate 48 = .ok (.bipush 33, 2) := by decide +kernel
theorem dX7_simulate_50 : decode cX7_simulate 50 = .ok (.lushr, 1) := by decide +kernel
theorem dX7_simulate_51 : decode cX7_simulate 51 = .ok (.l2i, 1) := by decide +kernel
theorem dX7_simulate_52 : decode cX7_simulate 52 = .ok (.invokestatic 289, 3) := by decide +kernel
theorem dX7_simulate_55 : decode cX7_simulate 55 = .ok (.aload_n 0, 1) := by decide +kernel
theorem dX7_simulate_56 : decode cX7_simulate 56 = .ok (.getfield 44, 3) := by decide +kernel
theorem dX7_simulate_59 : decode cX7_simulate 59 = .ok (.aload_n 0, 1) := by decide +kernel
theorem dX7_simulate_60 : decode cX7_simulate 60 = .ok (.getfield 23, 3) := by decide +kernel
theorem dX7_simulate_63 : decode cX7_simulate 63 = .ok (.iconst 1, 1) := by decide +kernel
theorem dX7_simulate_64 : decode cX7_simulate 64 = .ok (.invokevirtual 201, 3) := by decide +kernel
theorem dX7_simulate_67 : decode cX7_simulate 67 = .ok (.iinc 6 1, 3) := by decide +kernel
theorem dX7_simulate_70 : decode cX7_simulate 70 = .ok (.goto (-46), 3) := by decide +kernel
theorem dX7_simulate_73 : decode cX7_simulate 73 = .ok (.aload_n 0, 1) := by decide +kernel
theorem dX7_simulate_74 : decode cX7_simulate 74 = .ok (.getfield 23, 3) := by decide +kernel
theorem dX7_simulate_77 : decode cX7_simulate 77 = .ok (.invokevirtual 267, 3) := by decide +kernel
theorem dX7_simulate_80 : decode cX7_simulate 80 = .ok (.bipush 100, 2) := by decide +kernel
theorem dX7_simulate_82 : decode cX7_simulate 82 = .ok (.aload_n 0, 1) := by decide +kernel
theorem dX7_simulate_83 : decode cX7_simulate 83 = .ok (.getfield 23, 3) := by decide +kernel
theorem dX7_simulate_86 : decode cX7_simulate 86 = .ok (.invokevirtual 113, 3) := by decide +kernel
theorem dX7_simulate_89 : decode cX7_simulate 89 = .ok (.imul, 1) := by decide +kernel
theorem dX7_simulate_90 : decode cX7_simulate 90 = .ok (.iadd, 1) := by decide +kernel
theorem dX7_simulate_91 : decode cX7_simulate 91 = .ok (.ireturn, 1) := by decide +kernel
theorem dX7_disturb_0 : decode cX7_disturb 0 = .ok (.aload_n 0, 1) := by decide +kernel
theorem dX7_disturb_1 : decode cX7_disturb 1 = .ok (.getfield 94, 3) := by decide +kernel
theorem dX7_disturb_4 : decode cX7_disturb 4 = .ok (.ifCond .gt 4, 3) := by decide +kernel
theorem dX7_disturb_7 : decode cX7_disturb 7 = .ok (.return_, 1) := by decide +kernel
theorem dX7_disturb_8 : decode cX7_disturb 8 = .ok (.iload_n 1, 1) := by decide +kernel
theorem dX7_disturb_9 : decode cX7_disturb 9 = .ok (.bipush 8, 2) := by decide +kernel
theorem dX7_disturb_11 : decode cX7_disturb 11 = .ok (.idiv, 1) := by decide +kernel
theorem dX7_disturb_12 : decode cX7_disturb 12 = .ok (.aload_n 0, 1) := by decide +kernel
theorem dX7_disturb_13 : decode cX7_disturb 13 = .ok (.getfield 94, 3) := by decide +kernel
theorem dX7_disturb_16 : decode cX7_disturb 16 = .ok (.irem, 1) := by decide +kernel
theorem dX7_disturb_17 : decode cX7_disturb 17 = .ok (.istore_n 2, 1) := by decide +kernel
theorem dX7_disturb_18 : decode cX7_disturb 18 = .ok (.iload_n 1, 1) := by decide +kernel
theorem dX7_disturb_19 : decode cX7_disturb 19 = .ok (.bipush 8, 2) := by decide +kernel
theorem dX7_disturb_21 : decode cX7_disturb 21 = .ok (.irem, 1) := by decide +kernel
theorem dX7_disturb_22 : decode cX7_disturb 22 = .ok (.tableswitch 73 0 2 #[26, 34, 50], 26) := by decide +kernel
theorem dX7_disturb_48 : decode cX7_disturb 48 = .ok (.aload_n 0, 1) := by decide +kernel
theorem dX7_disturb_49 : decode cX7_disturb 49 = .ok (.iload_n 2, 1) := by decide +kernel
theorem dX7_disturb_50 : decode cX7_disturb 50 = .ok (.invokevirtual 212, 3) := by decide +kernel
theorem dX7_disturb_53 : decode cX7_disturb 53 = .ok (.goto 42, 3) := by decide +kernel
theorem dX7_disturb_56 : decode cX7_disturb 56 = .ok (.aload_n 0, 1) := by decide +kernel
theorem dX7_disturb_57 : decode cX7_disturb 57 = .ok (.getfield 133, 3) := by decide +kernel
theorem dX7_disturb_60 : decode cX7_disturb 60 = .ok (.iload_n 2, 1) := by decide +kernel
theorem dX7_disturb_61 : decode cX7_disturb 61 = .ok (.iload_n 1, 1) := by decide +kernel
theorem dX7_disturb_62 : decode cX7_disturb 62 = .ok (.bipush 64, 2) := by decide +kernel
theorem dX7_disturb_64 : decode cX7_disturb 64 = .ok (.idiv, 1) := by decide +kernel
theorem dX7_disturb_65 : decode cX7_disturb 65 = .ok (.bipush 23, 2) := by decide +kernel
theorem dX7_disturb_67 : decode cX7_disturb 67 = .ok (.irem, 1) := by decide +kernel
theorem dX7_disturb_68 : decode cX7_disturb 68 = .ok (.iastore, 1) := by decide +kernel
theorem dX7_disturb_69 : decode cX7_disturb 69 = .ok (.goto 26, 3) := by decide +kernel
theorem dX7_disturb_72 : decode cX7_disturb 72 = .ok (.aload_n 0, 1) := by decide +kernel
theorem dX7_disturb_73 : decode cX7_disturb 73 = .ok (.iload_n 2, 1) := by decide +kernel
theorem dX7_disturb_74 : decode cX7_disturb 74 = .ok (.iload_n 1, 1) := by decide +kernel
theorem dX7_disturb_75 : decode cX7_disturb 75 = .ok (.bipush 64, 2) := by decide +kernel
theorem dX7_disturb_77 : decode cX7_disturb 77 = .ok (.idiv, 1) := by decide +kernel
theorem dX7_disturb_78 : decode cX7_disturb 78 = .ok (.bipush 12, 2) := by decide +kernel
theorem dX7_disturb_80 : decode cX7_disturb 80 = .ok (.irem, 1) := by decide +kernel
theorem dX7_disturb_81 : decode cX7_disturb 81 = .ok (.iload_n 1, 1) := by decide +kernel
theorem dX7_disturb_82 : decode cX7_disturb 82 = .ok (.sipush 1024, 3) := by decide +kernel
theorem dX7_disturb_85 : decode cX7_disturb 85 = .ok (.idiv, 1) := by decide +kernel
theorem dX7_disturb_86 : decode cX7_disturb 86 = .ok (.bipush 12, 2) := by decide +kernel
theorem dX7_disturb_88 : decode cX7_disturb 88 = .ok (.irem, 1) := by decide +kernel
theorem dX7_disturb_89 : decode cX7_disturb 89 = .ok (.invokevirtual 209, 3) := by decide +kernel
theorem dX7_disturb_92 : decode cX7_disturb 92 = .ok (.goto 3, 3) := by decide +kernel
theorem dX7_disturb_95 : decode cX7_disturb 95 = .ok (.return_, 1) := by decide +kernel
theorem dX7_save_0 : decode cX7_save 0 = .ok (.iload_n 1, 1) := by decide +kernel
theorem dX7_save_1 : decode cX7_save 1 = .ok (.ifCond .lt 12, 3) := by decide +kernel
theorem dX7_save_4 : decode cX7_save 4 = .ok (.iload_n 1, 1) := by decide +kernel
theorem dX7_save_5 : decode cX7_save 5 = .ok (.iconst 2, 1) := by decide +kernel
theorem dX7_save_6 : decode cX7_save 6 = .ok (.if_icmp .ge 7, 3) := by decide +kernel
theorem dX7_save_9 : decode cX7_save 9 = .ok (.iconst 1, 1) := by decide +kernel
theorem dX7_save_10 : decode cX7_save 10 = .ok (.goto 4, 3) := by decide +kernel
theorem dX7_save_13 : decode cX7_save 13 = .ok (.iconst 0, 1) := by decide +kernel
theorem dX7_save_14 : decode cX7_save 14 = .ok (.invokestatic 123, 3) := by decide +kernel
theorem dX7_save_17 : decode cX7_save 17 = .ok (.aload_n 0, 1) := by decide +kernel
theorem dX7_save_18 : decode cX7_save 18 = .ok (.getfield 33, 3) := by decide +kernel
theorem dX7_save_21 : decode cX7_save 21 = .ok (.iload_n 1, 1) := by decide +kernel
theorem dX7_save_22 : decode cX7_save 22 = .ok (.aaload, 1) := by decide +kernel
theorem dX7_save_23 : decode cX7_save 23 = .ok (.aload_n 0, 1) := by decide +kernel
theorem dX7_save_24 : decode cX7_save 24 = .ok (.getfield 19, 3) := by decide +kernel
theorem dX7_save_27 : decode cX7_save 27 = .ok (.invokevirtual 87, 3) := by decide +kernel
theorem dX7_save_30 : decode cX7_save 30 = .ok (.aload_n 0, 1) := by decide +kernel
theorem dX7_save_31 : decode cX7_save 31 = .ok (.dup, 1) := by decide +kernel
theorem dX7_save_32 : decode cX7_save 32 = .ok (.getfield 37, 3) := by decide +kernel
theorem dX7_save_35 : decode cX7_save 35 = .ok (.iconst 1, 1) := by decide +kernel
theorem dX7_save_36 : decode cX7_save 36 = .ok (.iload_n 1, 1) := by decide +kernel
theorem dX7_save_37 : decode cX7_save 37 = .ok (.ishl, 1) := by decide +kernel
theorem dX7_save_38 : decode cX7_save 38 = .ok (.ior, 1) := by decide +kernel
theorem dX7_save_39 : decode cX7_save 39 = .ok (.putfield 37, 3) := by decide +kernel
theorem dX7_save_42 : decode cX7_save 42 = .ok (.aload_n 0, 1) := by decide +kernel
theorem dX7_save_43 : decode cX7_save 43 = .ok (.getfield 19, 3) := by decide +kernel
theorem dX7_save_46 : decode cX7_save 46 = .ok (.getfield 100, 3) := by decide +kernel
theorem dX7_save_49 : decode cX7_save 49 = .ok (.ireturn, 1) := by decide +kernel
theorem dX7_restore_0 : decode cX7_restore 0 = .ok (.iload_n 1, 1) := by decide +kernel
theorem dX7_restore_1 : decode cX7_restore 1 = .ok (.ifCond .lt 12, 3) := by decide +kernel
theorem dX7_restore_4 : decode cX7_restore 4 = .ok (.iload_n 1, 1) := by decide +kernel
theorem dX7_restore_5 : decode cX7_restore 5 = .ok (.iconst 2, 1) := by decide +kernel
theorem dX7_restore_6 : decode cX7_restore 6 = .ok (.if_icmp .ge 7, 3) := by decide +kernel
theorem dX7_restore_9 : decode cX7_restore 9 = .ok (.iconst 1, 1) := by decide +kernel
theorem dX7_restore_10 : decode cX7_restore 10 = .ok (.goto 4, 3) := by decide +kernel
theorem dX7_restore_13 : decode cX7_restore 13 = .ok (.iconst 0, 1) := by decide +kernel
theorem dX7_restore_14 : decode cX7_restore 14 = .ok (.invokestatic 123, 3) := by decide +kernel
theorem dX7_restore_17 : decode cX7_restore 17 = .ok (.aload_n 0, 1) := by decide +kernel
theorem dX7_restore_18 : decode cX7_restore 18 = .ok (.getfield 37, 3) := by decide +kernel
theorem dX7_restore_21 : decode cX7_restore 21 = .ok (.iload_n 1, 1) := by decide +kernel
theorem dX7_restore_22 : decode cX7_restore 22 = .ok (.invokestatic 240, 3) := by decide +kernel
theorem dX7_restore_25 : decode cX7_restore 25 = .ok (.invokestatic 72, 3) := by decide +kernel
theorem dX7_restore_28 : decode cX7_restore 28 = .ok (.aload_n 0, 1) := by decide +kernel
theorem dX7_restore_29 : decode cX7_restore 29 = .ok (.getfield 19, 3) := by decide +kernel
theorem dX7_restore_32 : decode cX7_restore 32 = .ok (.aload_n 0, 1) := by decide +kernel
theorem dX7_restore_33 : decode cX7_restore 33 = .ok (.getfield 33, 3) := by decide +kernel
theorem dX7_restore_36 : decode cX7_restore 36 = .ok (.iload_n 1, 1) := by decide +kernel
theorem dX7_restore_37 : decode cX7_restore 37 = .ok (.aaload, 1) := by decide +kernel
theorem dX7_restore_38 : decode cX7_restore 38 = .ok (.invokevirtual 87, 3) := by decide +kernel
theorem dX7_restore_41 : decode cX7_restore 41 = .ok (.aload_n 0, 1) := by decide +kernel
theorem dX7_restore_42 : decode cX7_restore 42 = .ok (.getfield 29, 3) := by decide +kernel
theorem dX7_restore_45 : decode cX7_restore 45 = .ok (.invokevirtual 91, 3) := by decide +kernel
theorem dX7_restore_48 : decode cX7_restore 48 = .ok (.aload_n 0, 1) := by decide +kernel
theorem dX7_restore_49 : decode cX7_restore 49 = .ok (.getfield 19, 3) := by decide +kernel
theorem dX7_restore_52 : decode cX7_restore 52 = .ok (.getfield 100, 3) := by decide +kernel
theorem dX7_restore_55 : decode cX7_restore 55 = .ok (.ireturn, 1) := by decide +kernel
theorem dX7_requireIndex_0 : decode cX7_requireIndex 0 = .ok (.iload_n 0, 1) := by decide +kernel
theorem dX7_requireIndex_1 : decode cX7_requireIndex 1 = .ok (.ifCond .ne 14, 3) := by decide +kernel
theorem dX7_requireIndex_4 : decode cX7_requireIndex 4 = .ok (.new 292, 3) := by decide +kernel
theorem dX7_requireIndex_7 : decode cX7_requireIndex 7 = .ok (.dup, 1) := by decide +kernel
theorem dX7_requireIndex_8 : decode cX7_requireIndex 8 = .ok (.ldc_w 294, 3) := by decide +kernel
theorem dX7_requireIndex_11 : decode cX7_requireIndex 11 = .ok (.invokespecial 296, 3) := by decide +kernel
theorem dX7_requireIndex_14 : decode cX7_requireIndex 14 = .ok (.athrow, 1) := by decide +kernel
theorem dX7_requireIndex_15 : decode cX7_requireIndex 15 = .ok (.return_, 1) := by decide +kernel
theorem dX7_requireBetween_0 : decode cX7_requireBetween 0 = .ok (.iload_n 0, 1) := by decide +kernel
theorem dX7_requireBetween_1 : decode cX7_requireBetween 1 = .ok (.iload_n 1, 1) := by decide +kernel
theorem dX7_requireBetween_2 : decode cX7_requireBetween 2 = .ok (.if_icmp .lt 12, 3) := by decide +kernel
theorem dX7_requireBetween_5 : decode cX7_requireBetween 5 = .ok (.iload_n 0, 1) := by decide +kernel
theorem dX7_requireBetween_6 : decode cX7_requireBetween 6 = .ok (.iload_n 2, 1) := by decide +kernel
theorem dX7_requireBetween_7 : decode cX7_requireBetween 7 = .ok (.if_icmp .gt 7, 3) := by decide +kernel
theorem dX7_requireBetween_10 : decode cX7_requireBetween 10 = .ok (.iconst 1, 1) := by decide +kernel
theorem dX7_requireBetween_11 : decode cX7_requireBetween 11 = .ok (.goto 4, 3) := by decide +kernel
theorem dX7_requireBetween_14 : decode cX7_requireBetween 14 = .ok (.iconst 0, 1) := by decide +kernel
theorem dX7_requireBetween_15 : decode cX7_requireBetween 15 = .ok (.invokestatic 220, 3) := by decide +kernel
theorem dX7_requireBetween_18 : decode cX7_requireBetween 18 = .ok (.return_, 1) := by decide +kernel
theorem dX7_requireArgument_0 : decode cX7_requireArgument 0 = .ok (.iload_n 0, 1) := by decide +kernel
theorem dX7_requireArgument_1 : decode cX7_requireArgument 1 = .ok (.ifCond .ne 14, 3) := by decide +kernel
theorem dX7_requireArgument_4 : decode cX7_requireArgument 4 = .ok (.new 299, 3) := by decide +kernel
theorem dX7_requireArgument_7 : decode cX7_requireArgument 7 = .ok (.dup, 1) := by decide +kernel
theorem dX7_requireArgument_8 : decode cX7_requireArgument 8 = .ok (.ldc_w 301, 3) := by decide +kernel
theorem dX7_requireArgument_11 : decode cX7_requireArgument 11 = .ok (.invokespecial 303, 3) := by decide +kernel
theorem dX7_requireArgument_14 : decode cX7_requireArgument 14 = .ok (.athrow, 1) := by decide +kernel
theorem dX7_requireArgument_15 : decode cX7_requireArgument 15 = .ok (.return_, 1) := by decide +kernel
theorem dX7_requireState_0 : decode cX7_requireState 0 = .ok (.iload_n 0, 1) := by decide +kernel
theorem dX7_requireState_1 : decode cX7_requireState 1 = .ok (.ifCond .ne 14, 3) := by decide +kernel
theorem dX7_requireState_4 : decode cX7_requireState 4 = .ok (.new 304, 3) := by decide +kernel
theorem dX7_requireState_7 : decode cX7_requireState 7 = .ok (.dup, 1) := by decide +kernel
theorem dX7_requireState_8 : decode cX7_requireState 8 = .ok (.ldc_w 306, 3) := by decide +kernel
theorem dX7_requireState_11 : decode cX7_requireState 11 = .ok (.invokespecial 308, 3) := by decide +kernel
theorem dX7_requireState_14 : decode cX7_requireState 14 = .ok (.athrow, 1) := by decide +kernel
theorem dX7_requireState_15 : decode cX7_requireState 15 = .ok (.return_, 1) := by decide +kernel
theorem dX7_distanceOf_0 : decode cX7_distanceOf 0 = .ok (.iload_n 0, 1) := by decide +kernel
theorem dX7_distanceOf_1 : decode cX7_distanceOf 1 = .ok (.iload_n 2, 1) := by decide +kernel
theorem dX7_distanceOf_2 : decode cX7_distanceOf 2 = .ok (.if_icmp .ge 9, 3) := by decide +kernel
theorem dX7_distanceOf_5 : decode cX7_distanceOf 5 = .ok (.iload_n 2, 1) := by decide +kernel
theorem dX7_distanceOf_6 : decode cX7_distanceOf 6 = .ok (.iload_n 0, 1) := by decide +kernel
theorem dX7_distanceOf_7 : decode cX7_distanceOf 7 = .ok (.isub, 1) := by decide +kernel
theorem dX7_distanceOf_8 : decode cX7_distanceOf 8 = .ok (.goto 6, 3) := by decide +kernel
theorem dX7_distanceOf_11 : decode cX7_distanceOf 11 = .ok (.iload_n 0, 1) := by decide +kernel
theorem dX7_distanceOf_12 : decode cX7_distanceOf 12 = .ok (.iload_n 2, 1) := by decide +kernel
theorem dX7_distanceOf_13 : decode cX7_distanceOf 13 = .ok (.isub, 1) := by decide +kernel
theorem dX7_distanceOf_14 : decode cX7_distanceOf 14 = .ok (.istore 4, 2) := by decide +kernel
theorem dX7_distanceOf_16 : decode cX7_distanceOf 16 = .ok (.iload_n 1, 1) := by decide +kernel
theorem dX7_distanceOf_17 : decode cX7_distanceOf 17 = .ok (.iload_n 3, 1) := by decide +kernel
theorem dX7_distanceOf_18 : decode cX7_distanceOf 18 = .ok (.if_icmp .ge 9, 3) := by decide +kernel
theorem dX7_distanceOf_21 : decode cX7_distanceOf 21 = .ok (.iload_n 3, 1) := by decide +kernel
theorem dX7_distanceOf_22 : decode cX7_distanceOf 22 = .ok (.iload_n 1, 1) := by decide +kernel
theorem dX7_distanceOf_23 : decode cX7_distanceOf 23 = .ok (.isub, 1) := by decide +kernel
theorem dX7_distanceOf_24 : decode cX7_distanceOf 24 = .ok (.goto 6, 3) := by decide +kernel
theorem dX7_distanceOf_27 : decode cX7_distanceOf 27 = .ok (.iload_n 1, 1) := by decide +kernel
theorem dX7_distanceOf_28 : decode cX7_distanceOf 28 = .ok (.iload_n 3, 1) := by decide +kernel
theorem dX7_distanceOf_29 : decode cX7_distanceOf 29 = .ok (.isub, 1) := by decide +kernel
theorem dX7_distanceOf_30 : decode cX7_distanceOf 30 = .ok (.istore 5, 2) := by decide +kernel
theorem dX7_distanceOf_32 : decode cX7_distanceOf 32 = .ok (.iload 4, 2) := by decide +kernel
theorem dX7_distanceOf_34 : decode cX7_distanceOf 34 = .ok (.iload 5, 2) := by decide +kernel
theorem dX7_distanceOf_36 : decode cX7_distanceOf 36 = .ok (.iadd, 1) := by decide +kernel
theorem dX7_distanceOf_37 : decode cX7_distanceOf 37 = .ok (.ireturn, 1) := by decide +kernel
theorem dX7_isIn_0 : decode cX7_isIn 0 = .ok (.iload_n 0, 1) := by decide +kernel
theorem dX7_isIn_1 : decode cX7_isIn 1 = .ok (.iload_n 1, 1) := by decide +kernel
theorem dX7_isIn_2 : decode cX7_isIn 2 = .ok (.ishr, 1) := by decide +kernel
theorem dX7_isIn_3 : decode cX7_isIn 3 = .ok (.iconst 1, 1) := by decide +kernel
theorem dX7_isIn_4 : decode cX7_isIn 4 = .ok (.iand, 1) := by decide +kernel
theorem dX7_isIn_5 : decode cX7_isIn 5 = .ok (.iconst 1, 1) := by decide +kernel
theorem dX7_isIn_6 : decode cX7_isIn 6 = .ok (.if_icmp .ne 7, 3) := by decide +kernel
theorem dX7_isIn_9 : decode cX7_isIn 9 = .ok (.iconst 1, 1) := by decide +kernel
theorem dX7_isIn_10 : decode cX7_isIn 10 = .ok (.goto 4, 3) := by decide +kernel
theorem dX7_isIn_13 : decode cX7_isIn 13 = .ok (.iconst 0, 1) := by decide +kernel
theorem dX7_isIn_14 : decode cX7_isIn 14 = .ok (.ireturn, 1) := by decide +kernel
theorem dX7_noteIndex_0 : decode cX7_noteIndex 0 = .ok (.iload_n 0, 1) := by decide +kernel
theorem dX7_noteIndex_1 : decode cX7_noteIndex 1 = .ok (.bipush 8, 2) := by decide +kernel
theorem dX7_noteIndex_3 : decode cX7_noteIndex 3 = .ok (.imul, 1) := by decide +kernel
theorem dX7_noteIndex_4 : decode cX7_noteIndex 4 = .ok (.iload_n 1, 1) := by decide +kernel
theorem dX7_noteIndex_5 : decode cX7_noteIndex 5 = .ok (.iadd, 1) := by decide +kernel
theorem dX7_noteIndex_6 : decode cX7_noteIndex 6 = .ok (.ireturn, 1) := by decide +kernel
