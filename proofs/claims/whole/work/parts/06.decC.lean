theorem dX8_init_0 : decode cX8_init 0 = .ok (.aload_n 0, 1) := by decide +kernel
theorem dX8_init_1 : decode cX8_init 1 = .ok (.invokespecial 1, 3) := by decide +kernel
theorem dX8_init_4 : decode cX8_init 4 = .ok (.aload_n 0, 1) := by decide +kernel
theorem dX8_init_5 : decode cX8_init 5 = .ok (.bipush 120, 2) := by decide +kernel
theorem dX8_init_7 : decode cX8_init 7 = .ok (.newarray .int, 2) := by decide +kernel
theorem dX8_init_9 : decode cX8_init 9 = .ok (.putfield 7, 3) := by decide +kernel
theorem dX8_init_12 : decode cX8_init 12 = .ok (.aload_n 0, 1) := by decide +kernel
theorem dX8_init_13 : decode cX8_init 13 = .ok (.sipush 264, 3) := by decide +kernel
theorem dX8_init_16 : decode cX8_init 16 = .ok (.newarray .int, 2) := by decide +kernel
theorem dX8_init_18 : decode cX8_init 18 = .ok (.putfield 13, 3) := by decide +kernel
theorem dX8_init_21 : decode cX8_init 21 = .ok (.aload_n 0, 1) := by decide +kernel
theorem dX8_init_22 : decode cX8_init 22 = .ok (.sipush 264, 3) := by decide +kernel
theorem dX8_init_25 : decode cX8_init 25 = .ok (.newarray .int, 2) := by decide +kernel
theorem dX8_init_27 : decode cX8_init 27 = .ok (.putfield 16, 3) := by decide +kernel
theorem dX8_init_30 : decode cX8_init 30 = .ok (.aload_n 0, 1) := by decide +kernel
theorem dX8_init_31 : decode cX8_init 31 = .ok (.sipush 264, 3) := by decide +kernel
theorem dX8_init_34 : decode cX8_init 34 = .ok (.newarray .int, 2) := by decide +kernel
theorem dX8_init_36 : decode cX8_init 36 = .ok (.putfield 19, 3) := by decide +kernel
theorem dX8_init_39 : decode cX8_init 39 = .ok (.aload_n 0, 1) := by decide +kernel
theorem dX8_init_40 : decode cX8_init 40 = .ok (.sipush 264, 3) := by decide +kernel
theorem dX8_init_43 : decode cX8_init 43 = .ok (.newarray .int, 2) := by decide +kernel
theorem dX8_init_45 : decode cX8_init 45 = .ok (.putfield 22, 3) := by decide +kernel
theorem dX8_init_48 : decode cX8_init 48 = .ok (.aload_n 0, 1) := by decide +kernel
theorem dX8_init_49 : decode cX8_init 49 = .ok (.sipush 3696, 3) := by decide +kernel
theorem dX8_init_52 : decode cX8_init 52 = .ok (.newarray .int, 2) := by decide +kernel
theorem dX8_init_54 : decode cX8_init 54 = .ok (.putfield 25, 3) := by decide +kernel
theorem dX8_init_57 : decode cX8_init 57 = .ok (.aload_n 0, 1) := by decide +kernel
theorem dX8_init_58 : decode cX8_init 58 = .ok (.sipush 528, 3) := by decide +kernel
theorem dX8_init_61 : decode cX8_init 61 = .ok (.newarray .int, 2) := by decide +kernel
theorem dX8_init_63 : decode cX8_init 63 = .ok (.putfield 28, 3) := by decide +kernel
theorem dX8_init_66 : decode cX8_init 66 = .ok (.aload_n 0, 1) := by decide +kernel
theorem dX8_init_67 : decode cX8_init 67 = .ok (.iconst 2, 1) := by decide +kernel
theorem dX8_init_68 : decode cX8_init 68 = .ok (.newarray .boolean, 2) := by decide +kernel
theorem dX8_init_70 : decode cX8_init 70 = .ok (.putfield 31, 3) := by decide +kernel
theorem dX8_init_73 : decode cX8_init 73 = .ok (.aload_n 0, 1) := by decide +kernel
theorem dX8_init_74 : decode cX8_init 74 = .ok (.bipush 6, 2) := by decide +kernel
theorem dX8_init_76 : decode cX8_init 76 = .ok (.newarray .int, 2) := by decide +kernel
theorem dX8_init_78 : decode cX8_init 78 = .ok (.putfield 35, 3) := by decide +kernel
theorem dX8_init_81 : decode cX8_init 81 = .ok (.aload_n 0, 1) := by decide +kernel
theorem dX8_init_82 : decode cX8_init 82 = .ok (.bipush 6, 2) := by decide +kernel
theorem dX8_init_84 : decode cX8_init 84 = .ok (.newarray .int, 2) := by decide +kernel
theorem dX8_init_86 : decode cX8_init 86 = .ok (.putfield 38, 3) := by decide +kernel
theorem dX8_init_89 : decode cX8_init 89 = .ok (.aload_n 0, 1) := by decide +kernel
theorem dX8_init_90 : decode cX8_init 90 = .ok (.bipush 6, 2) := by decide +kernel
theorem dX8_init_92 : decode cX8_init 92 = .ok (.newarray .int, 2) := by decide +kernel
theorem dX8_init_94 : decode cX8_init 94 = .ok (.putfield 41, 3) := by decide +kernel
theorem dX8_init_97 : decode cX8_init 97 = .ok (.aload_n 0, 1) := by decide +kernel
theorem dX8_init_98 : decode cX8_init 98 = .ok (.getfield 16, 3) := by decide +kernel
theorem dX8_init_101 : decode cX8_init 101 = .ok (.iconst 3, 1) := by decide +kernel
theorem dX8_init_102 : decode cX8_init 102 = .ok (.iconst 5, 1) := by decide +kernel
theorem dX8_init_103 : decode cX8_init 103 = .ok (.iastore, 1) := by decide +kernel
theorem dX8_init_104 : decode cX8_init 104 = .ok (.return_, 1) := by decide +kernel
theorem dX8_thrown_0 : decode cX8_thrown 0 = .ok (.aload_n 0, 1) := by decide +kernel
theorem dX8_thrown_1 : decode cX8_thrown 1 = .ok (.getfield 44, 3) := by decide +kernel
theorem dX8_thrown_4 : decode cX8_thrown 4 = .ok (.ireturn, 1) := by decide +kernel
theorem dX8_refused_0 : decode cX8_refused 0 = .ok (.aload_n 0, 1) := by decide +kernel
theorem dX8_refused_1 : decode cX8_refused 1 = .ok (.iload_n 1, 1) := by decide +kernel
theorem dX8_refused_2 : decode cX8_refused 2 = .ok (.putfield 44, 3) := by decide +kernel
theorem dX8_refused_5 : decode cX8_refused 5 = .ok (.iload_n 1, 1) := by decide +kernel
theorem dX8_refused_6 : decode cX8_refused 6 = .ok (.ifCond .le 7, 3) := by decide +kernel
theorem dX8_refused_9 : decode cX8_refused 9 = .ok (.iconst 1, 1) := by decide +kernel
theorem dX8_refused_10 : decode cX8_refused 10 = .ok (.goto 4, 3) := by decide +kernel
theorem dX8_refused_13 : decode cX8_refused 13 = .ok (.iconst 0, 1) := by decide +kernel
theorem dX8_refused_14 : decode cX8_refused 14 = .ok (.ireturn, 1) := by decide +kernel
theorem dX8_in_0 : decode cX8_in 0 = .ok (.lload_n 0, 1) := by decide +kernel
theorem dX8_in_1 : decode cX8_in 1 = .ok (.lload_n 2, 1) := by decide +kernel
theorem dX8_in_2 : decode cX8_in 2 = .ok (.lcmp, 1) := by decide +kernel
theorem dX8_in_3 : decode cX8_in 3 = .ok (.ifCond .lt 14, 3) := by decide +kernel
theorem dX8_in_6 : decode cX8_in 6 = .ok (.lload_n 0, 1) := by decide +kernel
theorem dX8_in_7 : decode cX8_in 7 = .ok (.lload 4, 2) := by decide +kernel
theorem dX8_in_9 : decode cX8_in 9 = .ok (.lcmp, 1) := by decide +kernel
theorem dX8_in_10 : decode cX8_in 10 = .ok (.ifCond .gt 7, 3) := by decide +kernel
theorem dX8_in_13 : decode cX8_in 13 = .ok (.iconst 1, 1) := by decide +kernel
theorem dX8_in_14 : decode cX8_in 14 = .ok (.goto 4, 3) := by decide +kernel
theorem dX8_in_17 : decode cX8_in 17 = .ok (.iconst 0, 1) := by decide +kernel
theorem dX8_in_18 : decode cX8_in 18 = .ok (.ireturn, 1) := by decide +kernel
theorem dX8_copy_0 : decode cX8_copy 0 = .ok (.iconst 0, 1) := by decide +kernel
theorem dX8_copy_1 : decode cX8_copy 1 = .ok (.istore 5, 2) := by decide +kernel
theorem dX8_copy_3 : decode cX8_copy 3 = .ok (.iload 5, 2) := by decide +kernel
theorem dX8_copy_5 : decode cX8_copy 5 = .ok (.iload 4, 2) := by decide +kernel
theorem dX8_copy_7 : decode cX8_copy 7 = .ok (.if_icmp .ge 21, 3) := by decide +kernel
theorem dX8_copy_10 : decode cX8_copy 10 = .ok (.aload_n 2, 1) := by decide +kernel
theorem dX8_copy_11 : decode cX8_copy 11 = .ok (.iload_n 3, 1) := by decide +kernel
theorem dX8_copy_12 : decode cX8_copy 12 = .ok (.iload 5, 2) := by decide +kernel
theorem dX8_copy_14 : decode cX8_copy 14 = .ok (.iadd, 1) := by decide +kernel
theorem dX8_copy_15 : decode cX8_copy 15 = .ok (.aload_n 0, 1) := by decide +kernel
theorem dX8_copy_16 : decode cX8_copy 16 = .ok (.iload_n 1, 1) := by decide +kernel
theorem dX8_copy_17 : decode cX8_copy 17 = .ok (.iload 5, 2) := by decide +kernel
theorem dX8_copy_19 : decode cX8_copy 19 = .ok (.iadd, 1) := by decide +kernel
theorem dX8_copy_20 : decode cX8_copy 20 = .ok (.iaload, 1) := by decide +kernel
theorem dX8_copy_21 : decode cX8_copy 21 = .ok (.iastore, 1) := by decide +kernel
theorem dX8_copy_22 : decode cX8_copy 22 = .ok (.iinc 5 1, 3) := by decide +kernel
theorem dX8_copy_25 : decode cX8_copy 25 = .ok (.goto (-22), 3) := by decide +kernel
theorem dX8_copy_28 : decode cX8_copy 28 = .ok (.return_, 1) := by decide +kernel
theorem dX8_tenTo_0 : decode cX8_tenTo 0 = .ok (.lconst 1, 1) := by decide +kernel
theorem dX8_tenTo_1 : decode cX8_tenTo 1 = .ok (.lstore_n 1, 1) := by decide +kernel
theorem dX8_tenTo_2 : decode cX8_tenTo 2 = .ok (.iconst 0, 1) := by decide +kernel
theorem dX8_tenTo_3 : decode cX8_tenTo 3 = .ok (.istore_n 3, 1) := by decide +kernel
theorem dX8_tenTo_4 : decode cX8_tenTo 4 = .ok (.iload_n 3, 1) := by decide +kernel
theorem dX8_tenTo_5 : decode cX8_tenTo 5 = .ok (.iload_n 0, 1) := by decide +kernel
theorem dX8_tenTo_6 : decode cX8_tenTo 6 = .ok (.if_icmp .ge 15, 3) := by decide +kernel
theorem dX8_tenTo_9 : decode cX8_tenTo 9 = .ok (.lload_n 1, 1) := by decide +kernel
theorem dX8_tenTo_10 : decode cX8_tenTo 10 = .ok (.ldc2_w 48, 3) := by decide +kernel
theorem dX8_tenTo_13 : decode cX8_tenTo 13 = .ok (.lmul, 1) := by decide +kernel
theorem dX8_tenTo_14 : decode cX8_tenTo 14 = .ok (.lstore_n 1, 1) := by decide +kernel
theorem dX8_tenTo_15 : decode cX8_tenTo 15 = .ok (.iinc 3 1, 3) := by decide +kernel
theorem dX8_tenTo_18 : decode cX8_tenTo 18 = .ok (.goto (-14), 3) := by decide +kernel
theorem dX8_tenTo_21 : decode cX8_tenTo 21 = .ok (.lload_n 1, 1) := by decide +kernel
theorem dX8_tenTo_22 : decode cX8_tenTo 22 = .ok (.lreturn, 1) := by decide +kernel
theorem dX8_note_0 : decode cX8_note 0 = .ok (.aload_n 0, 1) := by decide +kernel
theorem dX8_note_1 : decode cX8_note 1 = .ok (.getfield 50, 3) := by decide +kernel
theorem dX8_note_4 : decode cX8_note 4 = .ok (.bipush 14, 2) := by decide +kernel
theorem dX8_note_6 : decode cX8_note 6 = .ok (.if_icmp .ne 31, 3) := by decide +kernel
theorem dX8_note_9 : decode cX8_note 9 = .ok (.aload_n 0, 1) := by decide +kernel
theorem dX8_note_10 : decode cX8_note 10 = .ok (.getfield 25, 3) := by decide +kernel
theorem dX8_note_13 : decode cX8_note 13 = .ok (.sipush 264, 3) := by decide +kernel
theorem dX8_note_16 : decode cX8_note 16 = .ok (.aload_n 0, 1) := by decide +kernel
theorem dX8_note_17 : decode cX8_note 17 = .ok (.getfield 25, 3) := by decide +kernel
theorem dX8_note_20 : decode cX8_note 20 = .ok (.iconst 0, 1) := by decide +kernel
theorem dX8_note_21 : decode cX8_note 21 = .ok (.sipush 3432, 3) := by decide +kernel
theorem dX8_note_24 : decode cX8_note 24 = .ok (.invokestatic 53, 3) := by decide +kernel
theorem dX8_note_27 : decode cX8_note 27 = .ok (.aload_n 0, 1) := by decide +kernel
theorem dX8_note_28 : decode cX8_note 28 = .ok (.dup, 1) := by decide +kernel
theorem dX8_note_29 : decode cX8_note 29 = .ok (.getfield 50, 3) := by decide +kernel
theorem dX8_note_32 : decode cX8_note 32 = .ok (.iconst 1, 1) := by decide +kernel
theorem dX8_note_33 : decode cX8_note 33 = .ok (.isub, 1) := by decide +kernel
theorem dX8_note_34 : decode cX8_note 34 = .ok (.putfield 50, 3) := by decide +kernel
theorem dX8_note_37 : decode cX8_note 37 = .ok (.aload_n 0, 1) := by decide +kernel
theorem dX8_note_38 : decode cX8_note 38 = .ok (.getfield 16, 3) := by decide +kernel
theorem dX8_note_41 : decode cX8_note 41 = .ok (.iconst 0, 1) := by decide +kernel
theorem dX8_note_42 : decode cX8_note 42 = .ok (.aload_n 0, 1) := by decide +kernel
theorem dX8_note_43 : decode cX8_note 43 = .ok (.getfield 25, 3) := by decide +kernel
theorem dX8_note_46 : decode cX8_note 46 = .ok (.sipush 264, 3) := by decide +kernel
theorem dX8_note_49 : decode cX8_note 49 = .ok (.aload_n 0, 1) := by decide +kernel
theorem dX8_note_50 : decode cX8_note 50 = .ok (.getfield 50, 3) := by decide +kernel
theorem dX8_note_53 : decode cX8_note 53 = .ok (.imul, 1) := by decide +kernel
theorem dX8_note_54 : decode cX8_note 54 = .ok (.sipush 264, 3) := by decide +kernel
theorem dX8_note_57 : decode cX8_note 57 = .ok (.invokestatic 53, 3) := by decide +kernel
theorem dX8_note_60 : decode cX8_note 60 = .ok (.aload_n 0, 1) := by decide +kernel
theorem dX8_note_61 : decode cX8_note 61 = .ok (.dup, 1) := by decide +kernel
theorem dX8_note_62 : decode cX8_note 62 = .ok (.getfield 50, 3) := by decide +kernel
theorem dX8_note_65 : decode cX8_note 65 = .ok (.iconst 1, 1) := by decide +kernel
theorem dX8_note_66 : decode cX8_note 66 = .ok (.iadd, 1) := by decide +kernel
theorem dX8_note_67 : decode cX8_note 67 = .ok (.putfield 50, 3) := by decide +kernel
theorem dX8_note_70 : decode cX8_note 70 = .ok (.return_, 1) := by decide +kernel
theorem dX8_size_0 : decode cX8_size 0 = .ok (.iload_n 0, 1) := by decide +kernel
theorem dX8_size_1 : decode cX8_size 1 = .ok (.ifCond .ge 8, 3) := by decide +kernel
theorem dX8_size_4 : decode cX8_size 4 = .ok (.iload_n 0, 1) := by decide +kernel
theorem dX8_size_5 : decode cX8_size 5 = .ok (.ineg, 1) := by decide +kernel
theorem dX8_size_6 : decode cX8_size 6 = .ok (.goto 4, 3) := by decide +kernel
theorem dX8_size_9 : decode cX8_size 9 = .ok (.iload_n 0, 1) := by decide +kernel
theorem dX8_size_10 : decode cX8_size 10 = .ok (.ireturn, 1) := by decide +kernel
theorem dX8_agentAt_0 : decode cX8_agentAt 0 = .ok (.iconst 4, 1) := by decide +kernel
theorem dX8_agentAt_1 : decode cX8_agentAt 1 = .ok (.bipush 6, 2) := by decide +kernel
theorem dX8_agentAt_3 : decode cX8_agentAt 3 = .ok (.iload_n 0, 1) := by decide +kernel
theorem dX8_agentAt_4 : decode cX8_agentAt 4 = .ok (.imul, 1) := by decide +kernel
theorem dX8_agentAt_5 : decode cX8_agentAt 5 = .ok (.iadd, 1) := by decide +kernel
theorem dX8_agentAt_6 : decode cX8_agentAt 6 = .ok (.ireturn, 1) := by decide +kernel
theorem dX8_taskAt_0 : decode cX8_taskAt 0 = .ok (.bipush 40, 2) := by decide +kernel
theorem dX8_taskAt_2 : decode cX8_taskAt 2 = .ok (.iconst 4, 1) := by decide +kernel
theorem dX8_taskAt_3 : decode cX8_taskAt 3 = .ok (.iload_n 0, 1) := by decide +kernel
theorem dX8_taskAt_4 : decode cX8_taskAt 4 = .ok (.imul, 1) := by decide +kernel
theorem dX8_taskAt_5 : decode cX8_taskAt 5 = .ok (.iadd, 1) := by decide +kernel
theorem dX8_taskAt_6 : decode cX8_taskAt 6 = .ok (.ireturn, 1) := by decide +kernel
theorem dX8_noteAt_0 : decode cX8_noteAt 0 = .ok (.bipush 72, 2) := by decide +kernel
theorem dX8_noteAt_2 : decode cX8_noteAt 2 = .ok (.iconst 4, 1) := by decide +kernel
theorem dX8_noteAt_3 : decode cX8_noteAt 3 = .ok (.bipush 8, 2) := by decide +kernel
theorem dX8_noteAt_5 : decode cX8_noteAt 5 = .ok (.iload_n 0, 1) := by decide +kernel
theorem dX8_noteAt_6 : decode cX8_noteAt 6 = .ok (.imul, 1) := by decide +kernel
theorem dX8_noteAt_7 : decode cX8_noteAt 7 = .ok (.iload_n 1, 1) := by decide +kernel
theorem dX8_noteAt_8 : decode cX8_noteAt 8 = .ok (.iadd, 1) := by decide +kernel
theorem dX8_noteAt_9 : decode cX8_noteAt 9 = .ok (.imul, 1) := by decide +kernel
theorem dX8_noteAt_10 : decode cX8_noteAt 10 = .ok (.iadd, 1) := by decide +kernel
theorem dX8_noteAt_11 : decode cX8_noteAt 11 = .ok (.ireturn, 1) := by decide +kernel
theorem dX8_isAgent_0 : decode cX8_isAgent 0 = .ok (.iload_n 1, 1) := by decide +kernel
theorem dX8_isAgent_1 : decode cX8_isAgent 1 = .ok (.i2l, 1) := by decide +kernel
theorem dX8_isAgent_2 : decode cX8_isAgent 2 = .ok (.lconst 0, 1) := by decide +kernel
theorem dX8_isAgent_3 : decode cX8_isAgent 3 = .ok (.aload_n 0, 1) := by decide +kernel
theorem dX8_isAgent_4 : decode cX8_isAgent 4 = .ok (.getfield 16, 3) := by decide +kernel
theorem dX8_isAgent_7 : decode cX8_isAgent 7 = .ok (.iconst 0, 1) := by decide +kernel
theorem dX8_isAgent_8 : decode cX8_isAgent 8 = .ok (.iaload, 1) := by decide +kernel
theorem dX8_isAgent_9 : decode cX8_isAgent 9 = .ok (.iconst 1, 1) := by decide +kernel
theorem dX8_isAgent_10 : decode cX8_isAgent 10 = .ok (.isub, 1) := by decide +kernel
theorem dX8_isAgent_11 : decode cX8_isAgent 11 = .ok (.i2l, 1) := by decide +kernel
theorem dX8_isAgent_12 : decode cX8_isAgent 12 = .ok (.invokestatic 57, 3) := by decide +kernel
theorem dX8_isAgent_15 : decode cX8_isAgent 15 = .ok (.ireturn, 1) := by decide +kernel
theorem dX8_isTask_0 : decode cX8_isTask 0 = .ok (.iload_n 1, 1) := by decide +kernel
theorem dX8_isTask_1 : decode cX8_isTask 1 = .ok (.i2l, 1) := by decide +kernel
theorem dX8_isTask_2 : decode cX8_isTask 2 = .ok (.lconst 0, 1) := by decide +kernel
theorem dX8_isTask_3 : decode cX8_isTask 3 = .ok (.aload_n 0, 1) := by decide +kernel
theorem dX8_isTask_4 : decode cX8_isTask 4 = .ok (.getfield 16, 3) := by decide +kernel
theorem dX8_isTask_7 : decode cX8_isTask 7 = .ok (.iconst 1, 1) := by decide +kernel
theorem dX8_isTask_8 : decode cX8_isTask 8 = .ok (.iaload, 1) := by decide +kernel
theorem dX8_isTask_9 : decode cX8_isTask 9 = .ok (.iconst 1, 1) := by decide +kernel
theorem dX8_isTask_10 : decode cX8_isTask 10 = .ok (.isub, 1) := by decide +kernel
theorem dX8_isTask_11 : decode cX8_isTask 11 = .ok (.i2l, 1) := by decide +kernel
theorem dX8_isTask_12 : decode cX8_isTask 12 = .ok (.invokestatic 57, 3) := by decide +kernel
theorem dX8_isTask_15 : decode cX8_isTask 15 = .ok (.ireturn, 1) := by decide +kernel
theorem dX8_isOn_0 : decode cX8_isOn 0 = .ok (.aload_n 0, 1) := by decide +kernel
theorem dX8_isOn_1 : decode cX8_isOn 1 = .ok (.iload_n 1, 1) := by decide +kernel
theorem dX8_isOn_2 : decode cX8_isOn 2 = .ok (.invokestatic 61, 3) := by decide +kernel
theorem dX8_isOn_5 : decode cX8_isOn 5 = .ok (.iconst 3, 1) := by decide +kernel
theorem dX8_isOn_6 : decode cX8_isOn 6 = .ok (.iadd, 1) := by decide +kernel
theorem dX8_isOn_7 : decode cX8_isOn 7 = .ok (.iaload, 1) := by decide +kernel
theorem dX8_isOn_8 : decode cX8_isOn 8 = .ok (.iconst 1, 1) := by decide +kernel
theorem dX8_isOn_9 : decode cX8_isOn 9 = .ok (.if_icmp .ne 7, 3) := by decide +kernel
theorem dX8_isOn_12 : decode cX8_isOn 12 = .ok (.iconst 1, 1) := by decide +kernel
theorem dX8_isOn_13 : decode cX8_isOn 13 = .ok (.goto 4, 3) := by decide +kernel
theorem dX8_isOn_16 : decode cX8_isOn 16 = .ok (.iconst 0, 1) := by decide +kernel
theorem dX8_isOn_17 : decode cX8_isOn 17 = .ok (.ireturn, 1) := by decide +kernel
theorem dX8_isDone_0 : decode cX8_isDone 0 = .ok (.aload_n 0, 1) := by decide +kernel
theorem dX8_isDone_1 : decode cX8_isDone 1 = .ok (.iload_n 1, 1) := by decide +kernel
theorem dX8_isDone_2 : decode cX8_isDone 2 = .ok (.invokestatic 65, 3) := by decide +kernel
theorem dX8_isDone_5 : decode cX8_isDone 5 = .ok (.iconst 3, 1) := by decide +kernel
theorem dX8_isDone_6 : decode cX8_isDone 6 = .ok (.iadd, 1) := by decide +kernel
theorem dX8_isDone_7 : decode cX8_isDone 7 = .ok (.iaload, 1) := by decide +kernel
theorem dX8_isDone_8 : decode cX8_isDone 8 = .ok (.aload_n 0, 1) := by decide +kernel
theorem dX8_isDone_9 : decode cX8_isDone 9 = .ok (.iload_n 1, 1) := by decide +kernel
theorem dX8_isDone_10 : decode cX8_isDone 10 = .ok (.invokestatic 65, 3) := by decide +kernel
theorem dX8_isDone_13 : decode cX8_isDone 13 = .ok (.iconst 2, 1) := by decide +kernel
theorem dX8_isDone_14 : decode cX8_isDone 14 = .ok (.iadd, 1) := by decide +kernel
theorem dX8_isDone_15 : decode cX8_isDone 15 = .ok (.iaload, 1) := by decide +kernel
theorem dX8_isDone_16 : decode cX8_isDone 16 = .ok (.if_icmp .ne 7, 3) := by decide +kernel
theorem dX8_isDone_19 : decode cX8_isDone 19 = .ok (.iconst 1, 1) := by decide +kernel
theorem dX8_isDone_20 : decode cX8_isDone 20 = .ok (.goto 4, 3) := by decide +kernel
theorem dX8_isDone_23 : decode cX8_isDone 23 = .ok (.iconst 0, 1) := by decide +kernel
theorem dX8_isDone_24 : decode cX8_isDone 24 = .ok (.ireturn, 1) := by decide +kernel
theorem dX8_apart_0 : decode cX8_apart 0 = .ok (.aload_n 0, 1) := by decide +kernel
theorem dX8_apart_1 : decode cX8_apart 1 = .ok (.iload_n 1, 1) := by decide +kernel
theorem dX8_apart_2 : decode cX8_apart 2 = .ok (.invokestatic 61, 3) := by decide +kernel
theorem dX8_apart_5 : decode cX8_apart 5 = .ok (.iconst 0, 1) := by decide +kernel
theorem dX8_apart_6 : decode cX8_apart 6 = .ok (.iadd, 1) := by decide +kernel
theorem dX8_apart_7 : decode cX8_apart 7 = .ok (.iaload, 1) := by decide +kernel
theorem dX8_apart_8 : decode cX8_apart 8 = .ok (.aload_n 0, 1) := by decide +kernel
theorem dX8_apart_9 : decode cX8_apart 9 = .ok (.iload_n 2, 1) := by decide +kernel
theorem dX8_apart_10 : decode cX8_apart 10 = .ok (.invokestatic 61, 3) := by decide +kernel
theorem dX8_apart_13 : decode cX8_apart 13 = .ok (.iconst 0, 1) := by decide +kernel
theorem dX8_apart_14 : decode cX8_apart 14 = .ok (.iadd, 1) := by decide +kernel
theorem dX8_apart_15 : decode cX8_apart 15 = .ok (.iaload, 1) := by decide +kernel
theorem dX8_apart_16 : decode cX8_apart 16 = .ok (.isub, 1) := by decide +kernel
theorem dX8_apart_17 : decode cX8_apart 17 = .ok (.invokestatic 68, 3) := by decide +kernel
theorem dX8_apart_20 : decode cX8_apart 20 = .ok (.aload_n 0, 1) := by decide +kernel
theorem dX8_apart_21 : decode cX8_apart 21 = .ok (.iload_n 1, 1) := by decide +kernel
theorem dX8_apart_22 : decode cX8_apart 22 = .ok (.invokestatic 61, 3) := by decide +kernel
theorem dX8_apart_25 : decode cX8_apart 25 = .ok (.iconst 1, 1) := by decide +kernel
theorem dX8_apart_26 : decode cX8_apart 26 = .ok (.iadd, 1) := by decide +kernel
theorem dX8_apart_27 : decode cX8_apart 27 = .ok (.iaload, 1) := by decide +kernel
theorem dX8_apart_28 : decode cX8_apart 28 = .ok (.aload_n 0, 1) := by decide +kernel
theorem dX8_apart_29 : decode cX8_apart 29 = .ok (.iload_n 2, 1) := by decide +kernel
theorem dX8_apart_30 : decode cX8_apart 30 = .ok (.invokestatic 61, 3) := by decide +kernel
theorem dX8_apart_33 : decode cX8_apart 33 = .ok (.iconst 1, 1) := by decide +kernel
theorem dX8_apart_34 : decode cX8_apart 34 = .ok (.iadd, 1) := by decide +kernel
theorem dX8_apart_35 : decode cX8_apart 35 = .ok (.iaload, 1) := by decide +kernel
theorem dX8_apart_36 : decode cX8_apart 36 = .ok (.isub, 1) := by decide +kernel
theorem dX8_apart_37 : decode cX8_apart 37 = .ok (.invokestatic 68, 3) := by decide +kernel
theorem dX8_apart_40 : decode cX8_apart 40 = .ok (.iadd, 1) := by decide +kernel
theorem dX8_apart_41 : decode cX8_apart 41 = .ok (.ireturn, 1) := by decide +kernel
theorem dX8_far_0 : decode cX8_far 0 = .ok (.aload_n 0, 1) := by decide +kernel
theorem dX8_far_1 : decode cX8_far 1 = .ok (.iload_n 1, 1) := by decide +kernel
theorem dX8_far_2 : decode cX8_far 2 = .ok (.invokestatic 61, 3) := by decide +kernel
theorem dX8_far_5 : decode cX8_far 5 = .ok (.iconst 0, 1) := by decide +kernel
theorem dX8_far_6 : decode cX8_far 6 = .ok (.iadd, 1) := by decide +kernel
theorem dX8_far_7 : decode cX8_far 7 = .ok (.iaload, 1) := by decide +kernel
theorem dX8_far_8 : decode cX8_far 8 = .ok (.aload_n 0, 1) := by decide +kernel
theorem dX8_far_9 : decode cX8_far 9 = .ok (.iload_n 2, 1) := by decide +kernel
theorem dX8_far_10 : decode cX8_far 10 = .ok (.invokestatic 65, 3) := by decide +kernel
theorem dX8_far_13 : decode cX8_far 13 = .ok (.iconst 0, 1) := by decide +kernel
theorem dX8_far_14 : decode cX8_far 14 = .ok (.iadd, 1) := by decide +kernel
theorem dX8_far_15 : decode cX8_far 15 = .ok (.iaload, 1) := by decide +kernel
theorem dX8_far_16 : decode cX8_far 16 = .ok (.isub, 1) := by decide +kernel
theorem dX8_far_17 : decode cX8_far 17 = .ok (.invokestatic 68, 3) := by decide +kernel
theorem dX8_far_20 : decode cX8_far 20 = .ok (.aload_n 0, 1) := by decide +kernel
theorem dX8_far_21 : decode cX8_far 21 = .ok (.iload_n 1, 1) := by decide +kernel
theorem dX8_far_22 : decode cX8_far 22 = .ok (.invokestatic 61, 3) := by decide +kernel
theorem dX8_far_25 : decode cX8_far 25 = .ok (.iconst 1, 1) := by decide +kernel
theorem dX8_far_26 : decode cX8_far 26 = .ok (.iadd, 1) := by decide +kernel
theorem dX8_far_27 : decode cX8_far 27 = .ok (.iaload, 1) := by decide +kernel
theorem dX8_far_28 : decode cX8_far 28 = .ok (.aload_n 0, 1) := by decide +kernel
theorem dX8_far_29 : decode cX8_far 29 = .ok (.iload_n 2, 1) := by decide +kernel
theorem dX8_far_30 : decode cX8_far 30 = .ok (.invokestatic 65, 3) := by decide +kernel
theorem dX8_far_33 : decode cX8_far 33 = .ok (.iconst 1, 1) := by decide +kernel
theorem dX8_far_34 : decode cX8_far 34 = .ok (.iadd, 1) := by decide +kernel
theorem dX8_far_35 : decode cX8_far 35 = .ok (.iaload, 1) := by decide +kernel
theorem dX8_far_36 : decode cX8_far 36 = .ok (.isub, 1) := by decide +kernel
theorem dX8_far_37 : decode cX8_far 37 = .ok (.invokestatic 68, 3) := by decide +kernel
theorem dX8_far_40 : decode cX8_far 40 = .ok (.iadd, 1) := by decide +kernel
theorem dX8_far_41 : decode cX8_far 41 = .ok (.ireturn, 1) := by decide +kernel
theorem dX8_hears_0 : decode cX8_hears 0 = .ok (.aload_n 0, 1) := by decide +kernel
theorem dX8_hears_1 : decode cX8_hears 1 = .ok (.iload_n 1, 1) := by decide +kernel
theorem dX8_hears_2 : decode cX8_hears 2 = .ok (.invokestatic 61, 3) := by decide +kernel
theorem dX8_hears_5 : decode cX8_hears 5 = .ok (.iconst 2, 1) := by decide +kernel
theorem dX8_hears_6 : decode cX8_hears 6 = .ok (.iadd, 1) := by decide +kernel
theorem dX8_hears_7 : decode cX8_hears 7 = .ok (.iaload, 1) := by decide +kernel
theorem dX8_hears_8 : decode cX8_hears 8 = .ok (.aload_n 0, 1) := by decide +kernel
theorem dX8_hears_9 : decode cX8_hears 9 = .ok (.iload_n 2, 1) := by decide +kernel
theorem dX8_hears_10 : decode cX8_hears 10 = .ok (.invokestatic 61, 3) := by decide +kernel
theorem dX8_hears_13 : decode cX8_hears 13 = .ok (.iconst 2, 1) := by decide +kernel
theorem dX8_hears_14 : decode cX8_hears 14 = .ok (.iadd, 1) := by decide +kernel
theorem dX8_hears_15 : decode cX8_hears 15 = .ok (.iaload, 1) := by decide +kernel
theorem dX8_hears_16 : decode cX8_hears 16 = .ok (.if_icmp .ge 14, 3) := by decide +kernel
theorem dX8_hears_19 : decode cX8_hears 19 = .ok (.aload_n 0, 1) := by decide +kernel
theorem dX8_hears_20 : decode cX8_hears 20 = .ok (.iload_n 1, 1) := by decide +kernel
theorem dX8_hears_21 : decode cX8_hears 21 = .ok (.invokestatic 61, 3) := by decide +kernel
theorem dX8_hears_24 : decode cX8_hears 24 = .ok (.iconst 2, 1) := by decide +kernel
theorem dX8_hears_25 : decode cX8_hears 25 = .ok (.iadd, 1) := by decide +kernel
theorem dX8_hears_26 : decode cX8_hears 26 = .ok (.iaload, 1) := by decide +kernel
theorem dX8_hears_27 : decode cX8_hears 27 = .ok (.goto 11, 3) := by decide +kernel
theorem dX8_hears_30 : decode cX8_hears 30 = .ok (.aload_n 0, 1) := by decide +kernel
theorem dX8_hears_31 : decode cX8_hears 31 = .ok (.iload_n 2, 1) := by decide +kernel
theorem dX8_hears_32 : decode cX8_hears 32 = .ok (.invokestatic 61, 3) := by decide +kernel
theorem dX8_hears_35 : decode cX8_hears 35 = .ok (.iconst 2, 1) := by decide +kernel
theorem dX8_hears_36 : decode cX8_hears 36 = .ok (.iadd, 1) := by decide +kernel
theorem dX8_hears_37 : decode cX8_hears 37 = .ok (.iaload, 1) := by decide +kernel
theorem dX8_hears_38 : decode cX8_hears 38 = .ok (.istore_n 3, 1) := by decide +kernel
theorem dX8_hears_39 : decode cX8_hears 39 = .ok (.iload_n 1, 1) := by decide +kernel
theorem dX8_hears_40 : decode cX8_hears 40 = .ok (.iload_n 2, 1) := by decide +kernel
theorem dX8_hears_41 : decode cX8_hears 41 = .ok (.if_icmp .eq 33, 3) := by decide +kernel
theorem dX8_hears_44 : decode cX8_hears 44 = .ok (.aload_n 0, 1) := by decide +kernel
theorem dX8_hears_45 : decode cX8_hears 45 = .ok (.iload_n 1, 1) := by decide +kernel
theorem dX8_hears_46 : decode cX8_hears 46 = .ok (.invokestatic 71, 3) := by decide +kernel
theorem dX8_hears_49 : decode cX8_hears 49 = .ok (.ifCond .eq 25, 3) := by decide +kernel
theorem dX8_hears_52 : decode cX8_hears 52 = .ok (.aload_n 0, 1) := by decide +kernel
theorem dX8_hears_53 : decode cX8_hears 53 = .ok (.iload_n 2, 1) := by decide +kernel
theorem dX8_hears_54 : decode cX8_hears 54 = .ok (.invokestatic 71, 3) := by decide +kernel
theorem dX8_hears_57 : decode cX8_hears 57 = .ok (.ifCond .eq 17, 3) := by decide +kernel
theorem dX8_hears_60 : decode cX8_hears 60 = .ok (.aload_n 0, 1) := by decide +kernel
theorem dX8_hears_61 : decode cX8_hears 61 = .ok (.iload_n 1, 1) := by decide +kernel
theorem dX8_hears_62 : decode cX8_hears 62 = .ok (.iload_n 2, 1) := by decide +kernel
theorem dX8_hears_63 : decode cX8_hears 63 = .ok (.invokestatic 75, 3) := by decide +kernel
theorem dX8_hears_66 : decode cX8_hears 66 = .ok (.iload_n 3, 1) := by decide +kernel
theorem dX8_hears_67 : decode cX8_hears 67 = .ok (.if_icmp .gt 7, 3) := by decide +kernel
theorem dX8_hears_70 : decode cX8_hears 70 = .ok (.iconst 1, 1) := by decide +kernel
theorem dX8_hears_71 : decode cX8_hears 71 = .ok (.goto 4, 3) := by decide +kernel
theorem dX8_hears_74 : decode cX8_hears 74 = .ok (.iconst 0, 1) := by decide +kernel
theorem dX8_hears_75 : decode cX8_hears 75 = .ok (.ireturn, 1) := by decide +kernel
theorem dX8_isLive_0 : decode cX8_isLive 0 = .ok (.aload_n 0, 1) := by decide +kernel
theorem dX8_isLive_1 : decode cX8_isLive 1 = .ok (.iload_n 1, 1) := by decide +kernel
theorem dX8_isLive_2 : decode cX8_isLive 2 = .ok (.iconst 0, 1) := by decide +kernel
theorem dX8_isLive_3 : decode cX8_isLive 3 = .ok (.iadd, 1) := by decide +kernel
theorem dX8_isLive_4 : decode cX8_isLive 4 = .ok (.iaload, 1) := by decide +kernel
theorem dX8_isLive_5 : decode cX8_isLive 5 = .ok (.iconst 1, 1) := by decide +kernel
theorem dX8_isLive_6 : decode cX8_isLive 6 = .ok (.if_icmp .ne 16, 3) := by decide +kernel
theorem dX8_isLive_9 : decode cX8_isLive 9 = .ok (.aload_n 0, 1) := by decide +kernel
theorem dX8_isLive_10 : decode cX8_isLive 10 = .ok (.iload_n 1, 1) := by decide +kernel
theorem dX8_isLive_11 : decode cX8_isLive 11 = .ok (.iconst 3, 1) := by decide +kernel
theorem dX8_isLive_12 : decode cX8_isLive 12 = .ok (.iadd, 1) := by decide +kernel
theorem dX8_isLive_13 : decode cX8_isLive 13 = .ok (.iaload, 1) := by decide +kernel
theorem dX8_isLive_14 : decode cX8_isLive 14 = .ok (.iload_n 2, 1) := by decide +kernel
theorem dX8_isLive_15 : decode cX8_isLive 15 = .ok (.if_icmp .le 7, 3) := by decide +kernel
theorem dX8_isLive_18 : decode cX8_isLive 18 = .ok (.iconst 1, 1) := by decide +kernel
theorem dX8_isLive_19 : decode cX8_isLive 19 = .ok (.goto 4, 3) := by decide +kernel
theorem dX8_isLive_22 : decode cX8_isLive 22 = .ok (.iconst 0, 1) := by decide +kernel
theorem dX8_isLive_23 : decode cX8_isLive 23 = .ok (.ireturn, 1) := by decide +kernel
theorem dX8_better_0 : decode cX8_better 0 = .ok (.aload_n 0, 1) := by decide +kernel
theorem dX8_better_1 : decode cX8_better 1 = .ok (.iconst 2, 1) := by decide +kernel
theorem dX8_better_2 : decode cX8_better 2 = .ok (.iaload, 1) := by decide +kernel
theorem dX8_better_3 : decode cX8_better 3 = .ok (.istore_n 3, 1) := by decide +kernel
theorem dX8_better_4 : decode cX8_better 4 = .ok (.aload_n 0, 1) := by decide +kernel
theorem dX8_better_5 : decode cX8_better 5 = .ok (.iload_n 1, 1) := by decide +kernel
theorem dX8_better_6 : decode cX8_better 6 = .ok (.iconst 0, 1) := by decide +kernel
theorem dX8_better_7 : decode cX8_better 7 = .ok (.iadd, 1) := by decide +kernel
theorem dX8_better_8 : decode cX8_better 8 = .ok (.iaload, 1) := by decide +kernel
theorem dX8_better_9 : decode cX8_better 9 = .ok (.iconst 2, 1) := by decide +kernel
theorem dX8_better_10 : decode cX8_better 10 = .ok (.if_icmp .ne 7, 3) := by decide +kernel
theorem dX8_better_13 : decode cX8_better 13 = .ok (.iconst 1, 1) := by decide +kernel
theorem dX8_better_14 : decode cX8_better 14 = .ok (.goto 4, 3) := by decide +kernel
theorem dX8_better_17 : decode cX8_better 17 = .ok (.iconst 0, 1) := by decide +kernel
theorem dX8_better_18 : decode cX8_better 18 = .ok (.istore 4, 2) := by decide +kernel
theorem dX8_better_20 : decode cX8_better 20 = .ok (.aload_n 0, 1) := by decide +kernel
theorem dX8_better_21 : decode cX8_better 21 = .ok (.iload_n 2, 1) := by decide +kernel
theorem dX8_better_22 : decode cX8_better 22 = .ok (.iconst 0, 1) := by decide +kernel
theorem dX8_better_23 : decode cX8_better 23 = .ok (.iadd, 1) := by decide +kernel
theorem dX8_better_24 : decode cX8_better 24 = .ok (.iaload, 1) := by decide +kernel
theorem dX8_better_25 : decode cX8_better 25 = .ok (.iconst 2, 1) := by decide +kernel
theorem dX8_better_26 : decode cX8_better 26 = .ok (.if_icmp .ne 7, 3) := by decide +kernel
theorem dX8_better_29 : decode cX8_better 29 = .ok (.iconst 1, 1) := by decide +kernel
theorem dX8_better_30 : decode cX8_better 30 = .ok (.goto 4, 3) := by decide +kernel
theorem dX8_better_33 : decode cX8_better 33 = .ok (.iconst 0, 1) := by decide +kernel
theorem dX8_better_34 : decode cX8_better 34 = .ok (.istore 5, 2) := by decide +kernel
theorem dX8_better_36 : decode cX8_better 36 = .ok (.iload 4, 2) := by decide +kernel
theorem dX8_better_38 : decode cX8_better 38 = .ok (.ifCond .ne 8, 3) := by decide +kernel
theorem dX8_better_41 : decode cX8_better 41 = .ok (.iload 5, 2) := by decide +kernel
theorem dX8_better_43 : decode cX8_better 43 = .ok (.ifCond .eq 19, 3) := by decide +kernel
theorem dX8_better_46 : decode cX8_better 46 = .ok (.iload 4, 2) := by decide +kernel
theorem dX8_better_48 : decode cX8_better 48 = .ok (.ifCond .eq 12, 3) := by decide +kernel
theorem dX8_better_51 : decode cX8_better 51 = .ok (.iload 5, 2) := by decide +kernel
theorem dX8_better_53 : decode cX8_better 53 = .ok (.ifCond .ne 7, 3) := by decide +kernel
theorem dX8_better_56 : decode cX8_better 56 = .ok (.iconst 1, 1) := by decide +kernel
theorem dX8_better_57 : decode cX8_better 57 = .ok (.goto 4, 3) := by decide +kernel
theorem dX8_better_60 : decode cX8_better 60 = .ok (.iconst 0, 1) := by decide +kernel
theorem dX8_better_61 : decode cX8_better 61 = .ok (.ireturn, 1) := by decide +kernel
theorem dX8_better_62 : decode cX8_better 62 = .ok (.aload_n 0, 1) := by decide +kernel
theorem dX8_better_63 : decode cX8_better 63 = .ok (.iload_n 1, 1) := by decide +kernel
theorem dX8_better_64 : decode cX8_better 64 = .ok (.iload_n 3, 1) := by decide +kernel
theorem dX8_better_65 : decode cX8_better 65 = .ok (.invokestatic 79, 3) := by decide +kernel
theorem dX8_better_68 : decode cX8_better 68 = .ok (.istore 6, 2) := by decide +kernel
theorem dX8_better_70 : decode cX8_better 70 = .ok (.aload_n 0, 1) := by decide +kernel
theorem dX8_better_71 : decode cX8_better 71 = .ok (.iload_n 2, 1) := by decide +kernel
theorem dX8_better_72 : decode cX8_better 72 = .ok (.iload_n 3, 1) := by decide +kernel
theorem dX8_better_73 : decode cX8_better 73 = .ok (.invokestatic 79, 3) := by decide +kernel
theorem dX8_better_76 : decode cX8_better 76 = .ok (.istore 7, 2) := by decide +kernel
theorem dX8_better_78 : decode cX8_better 78 = .ok (.iload 6, 2) := by decide +kernel
theorem dX8_better_80 : decode cX8_better 80 = .ok (.ifCond .eq 8, 3) := by decide +kernel
theorem dX8_better_83 : decode cX8_better 83 = .ok (.iload 7, 2) := by decide +kernel
theorem dX8_better_85 : decode cX8_better 85 = .ok (.ifCond .ne 19, 3) := by decide +kernel
theorem dX8_better_88 : decode cX8_better 88 = .ok (.iload 6, 2) := by decide +kernel
theorem dX8_better_90 : decode cX8_better 90 = .ok (.ifCond .eq 12, 3) := by decide +kernel
theorem dX8_better_93 : decode cX8_better 93 = .ok (.iload 7, 2) := by decide +kernel
theorem dX8_better_95 : decode cX8_better 95 = .ok (.ifCond .ne 7, 3) := by decide +kernel
theorem dX8_better_98 : decode cX8_better 98 = .ok (.iconst 1, 1) := by decide +kernel
theorem dX8_better_99 : decode cX8_better 99 = .ok (.goto 4, 3) := by decide +kernel
theorem dX8_better_102 : decode cX8_better 102 = .ok (.iconst 0, 1) := by decide +kernel
theorem dX8_better_103 : decode cX8_better 103 = .ok (.ireturn, 1) := by decide +kernel
theorem dX8_better_104 : decode cX8_better 104 = .ok (.iconst 2, 1) := by decide +kernel
theorem dX8_better_105 : decode cX8_better 105 = .ok (.istore 8, 2) := by decide +kernel
theorem dX8_better_107 : decode cX8_better 107 = .ok (.iload 8, 2) := by decide +kernel
theorem dX8_better_109 : decode cX8_better 109 = .ok (.iconst 1, 1) := by decide +kernel
theorem dX8_better_110 : decode cX8_better 110 = .ok (.if_icmp .lt 45, 3) := by decide +kernel
theorem dX8_better_113 : decode cX8_better 113 = .ok (.aload_n 0, 1) := by decide +kernel
theorem dX8_better_114 : decode cX8_better 114 = .ok (.iload_n 1, 1) := by decide +kernel
theorem dX8_better_115 : decode cX8_better 115 = .ok (.iload 8, 2) := by decide +kernel
theorem dX8_better_117 : decode cX8_better 117 = .ok (.iadd, 1) := by decide +kernel
theorem dX8_better_118 : decode cX8_better 118 = .ok (.iaload, 1) := by decide +kernel
theorem dX8_better_119 : decode cX8_better 119 = .ok (.aload_n 0, 1) := by decide +kernel
theorem dX8_better_120 : decode cX8_better 120 = .ok (.iload_n 2, 1) := by decide +kernel
theorem dX8_better_121 : decode cX8_better 121 = .ok (.iload 8, 2) := by decide +kernel
theorem dX8_better_123 : decode cX8_better 123 = .ok (.iadd, 1) := by decide +kernel
theorem dX8_better_124 : decode cX8_better 124 = .ok (.iaload, 1) := by decide +kernel
theorem dX8_better_125 : decode cX8_better 125 = .ok (.if_icmp .eq 24, 3) := by decide +kernel
theorem dX8_better_128 : decode cX8_better 128 = .ok (.aload_n 0, 1) := by decide +kernel
theorem dX8_better_129 : decode cX8_better 129 = .ok (.iload_n 1, 1) := by decide +kernel
theorem dX8_better_130 : decode cX8_better 130 = .ok (.iload 8, 2) := by decide +kernel
theorem dX8_better_132 : decode cX8_better 132 = .ok (.iadd, 1) := by decide +kernel
theorem dX8_better_133 : decode cX8_better 133 = .ok (.iaload, 1) := by decide +kernel
theorem dX8_better_134 : decode cX8_better 134 = .ok (.aload_n 0, 1) := by decide +kernel
theorem dX8_better_135 : decode cX8_better 135 = .ok (.iload_n 2, 1) := by decide +kernel
theorem dX8_better_136 : decode cX8_better 136 = .ok (.iload 8, 2) := by decide +kernel
theorem dX8_better_138 : decode cX8_better 138 = .ok (.iadd, 1) := by decide +kernel
theorem dX8_better_139 : decode cX8_better 139 = .ok (.iaload, 1) := by decide +kernel
theorem dX8_better_140 : decode cX8_better 140 = .ok (.if_icmp .ge 7, 3) := by decide +kernel
theorem dX8_better_143 : decode cX8_better 143 = .ok (.iconst 1, 1) := by decide +kernel
theorem dX8_better_144 : decode cX8_better 144 = .ok (.goto 4, 3) := by decide +kernel
theorem dX8_better_147 : decode cX8_better 147 = .ok (.iconst 0, 1) := by decide +kernel
theorem dX8_better_148 : decode cX8_better 148 = .ok (.ireturn, 1) := by decide +kernel
theorem dX8_better_149 : decode cX8_better 149 = .ok (.iinc 8 (-1), 3) := by decide +kernel
theorem dX8_better_152 : decode cX8_better 152 = .ok (.goto (-45), 3) := by decide +kernel
theorem dX8_better_155 : decode cX8_better 155 = .ok (.aload_n 0, 1) := by decide +kernel
theorem dX8_better_156 : decode cX8_better 156 = .ok (.iload_n 1, 1) := by decide +kernel
theorem dX8_better_157 : decode cX8_better 157 = .ok (.iconst 3, 1) := by decide +kernel
theorem dX8_better_158 : decode cX8_better 158 = .ok (.iadd, 1) := by decide +kernel
theorem dX8_better_159 : decode cX8_better 159 = .ok (.iaload, 1) := by decide +kernel
theorem dX8_better_160 : decode cX8_better 160 = .ok (.aload_n 0, 1) := by decide +kernel
theorem dX8_better_161 : decode cX8_better 161 = .ok (.iload_n 2, 1) := by decide +kernel
theorem dX8_better_162 : decode cX8_better 162 = .ok (.iconst 3, 1) := by decide +kernel
theorem dX8_better_163 : decode cX8_better 163 = .ok (.iadd, 1) := by decide +kernel
theorem dX8_better_164 : decode cX8_better 164 = .ok (.iaload, 1) := by decide +kernel
theorem dX8_better_165 : decode cX8_better 165 = .ok (.if_icmp .le 7, 3) := by decide +kernel
theorem dX8_better_168 : decode cX8_better 168 = .ok (.iconst 1, 1) := by decide +kernel
theorem dX8_better_169 : decode cX8_better 169 = .ok (.goto 4, 3) := by decide +kernel
theorem dX8_better_172 : decode cX8_better 172 = .ok (.iconst 0, 1) := by decide +kernel
theorem dX8_better_173 : decode cX8_better 173 = .ok (.ireturn, 1) := by decide +kernel
theorem dX8_lay_0 : decode cX8_lay 0 = .ok (.aload_n 0, 1) := by decide +kernel
theorem dX8_lay_1 : decode cX8_lay 1 = .ok (.iload_n 1, 1) := by decide +kernel
theorem dX8_lay_2 : decode cX8_lay 2 = .ok (.iconst 0, 1) := by decide +kernel
theorem dX8_lay_3 : decode cX8_lay 3 = .ok (.iadd, 1) := by decide +kernel
theorem dX8_lay_4 : decode cX8_lay 4 = .ok (.iload_n 2, 1) := by decide +kernel
theorem dX8_lay_5 : decode cX8_lay 5 = .ok (.iastore, 1) := by decide +kernel
theorem dX8_lay_6 : decode cX8_lay 6 = .ok (.aload_n 0, 1) := by decide +kernel
theorem dX8_lay_7 : decode cX8_lay 7 = .ok (.iload_n 1, 1) := by decide +kernel
theorem dX8_lay_8 : decode cX8_lay 8 = .ok (.iconst 1, 1) := by decide +kernel
theorem dX8_lay_9 : decode cX8_lay 9 = .ok (.iadd, 1) := by decide +kernel
theorem dX8_lay_10 : decode cX8_lay 10 = .ok (.iload_n 3, 1) := by decide +kernel
theorem dX8_lay_11 : decode cX8_lay 11 = .ok (.iastore, 1) := by decide +kernel
theorem dX8_lay_12 : decode cX8_lay 12 = .ok (.aload_n 0, 1) := by decide +kernel
theorem dX8_lay_13 : decode cX8_lay 13 = .ok (.iload_n 1, 1) := by decide +kernel
theorem dX8_lay_14 : decode cX8_lay 14 = .ok (.iconst 2, 1) := by decide +kernel
theorem dX8_lay_15 : decode cX8_lay 15 = .ok (.iadd, 1) := by decide +kernel
theorem dX8_lay_16 : decode cX8_lay 16 = .ok (.iload 4, 2) := by decide +kernel
theorem dX8_lay_18 : decode cX8_lay 18 = .ok (.iastore, 1) := by decide +kernel
theorem dX8_lay_19 : decode cX8_lay 19 = .ok (.aload_n 0, 1) := by decide +kernel
theorem dX8_lay_20 : decode cX8_lay 20 = .ok (.iload_n 1, 1) := by decide +kernel
theorem dX8_lay_21 : decode cX8_lay 21 = .ok (.iconst 3, 1) := by decide +kernel
theorem dX8_lay_22 : decode cX8_lay 22 = .ok (.iadd, 1) := by decide +kernel
theorem dX8_lay_23 : decode cX8_lay 23 = .ok (.iload 5, 2) := by decide +kernel
theorem dX8_lay_25 : decode cX8_lay 25 = .ok (.iastore, 1) := by decide +kernel
theorem dX8_lay_26 : decode cX8_lay 26 = .ok (.return_, 1) := by decide +kernel
theorem dX8_isOwn_0 : decode cX8_isOwn 0 = .ok (.aload_n 0, 1) := by decide +kernel
theorem dX8_isOwn_1 : decode cX8_isOwn 1 = .ok (.iload_n 1, 1) := by decide +kernel
theorem dX8_isOwn_2 : decode cX8_isOwn 2 = .ok (.iload_n 2, 1) := by decide +kernel
theorem dX8_isOwn_3 : decode cX8_isOwn 3 = .ok (.invokestatic 83, 3) := by decide +kernel
theorem dX8_isOwn_6 : decode cX8_isOwn 6 = .ok (.aload_n 0, 1) := by decide +kernel
theorem dX8_isOwn_7 : decode cX8_isOwn 7 = .ok (.iconst 2, 1) := by decide +kernel
theorem dX8_isOwn_8 : decode cX8_isOwn 8 = .ok (.iaload, 1) := by decide +kernel
theorem dX8_isOwn_9 : decode cX8_isOwn 9 = .ok (.invokestatic 79, 3) := by decide +kernel
theorem dX8_isOwn_12 : decode cX8_isOwn 12 = .ok (.ifCond .eq 20, 3) := by decide +kernel
theorem dX8_isOwn_15 : decode cX8_isOwn 15 = .ok (.aload_n 0, 1) := by decide +kernel
theorem dX8_isOwn_16 : decode cX8_isOwn 16 = .ok (.iload_n 1, 1) := by decide +kernel
theorem dX8_isOwn_17 : decode cX8_isOwn 17 = .ok (.iload_n 2, 1) := by decide +kernel
theorem dX8_isOwn_18 : decode cX8_isOwn 18 = .ok (.invokestatic 83, 3) := by decide +kernel
theorem dX8_isOwn_21 : decode cX8_isOwn 21 = .ok (.iconst 1, 1) := by decide +kernel
theorem dX8_isOwn_22 : decode cX8_isOwn 22 = .ok (.iadd, 1) := by decide +kernel
theorem dX8_isOwn_23 : decode cX8_isOwn 23 = .ok (.iaload, 1) := by decide +kernel
theorem dX8_isOwn_24 : decode cX8_isOwn 24 = .ok (.iload_n 1, 1) := by decide +kernel
theorem dX8_isOwn_25 : decode cX8_isOwn 25 = .ok (.if_icmp .ne 7, 3) := by decide +kernel
theorem dX8_isOwn_28 : decode cX8_isOwn 28 = .ok (.iconst 1, 1) := by decide +kernel
theorem dX8_isOwn_29 : decode cX8_isOwn 29 = .ok (.goto 4, 3) := by decide +kernel
theorem dX8_isOwn_32 : decode cX8_isOwn 32 = .ok (.iconst 0, 1) := by decide +kernel
theorem dX8_isOwn_33 : decode cX8_isOwn 33 = .ok (.ireturn, 1) := by decide +kernel
theorem dX8_ownTask_0 : decode cX8_ownTask 0 = .ok (.iconst 0, 1) := by decide +kernel
theorem dX8_ownTask_1 : decode cX8_ownTask 1 = .ok (.istore_n 2, 1) := by decide +kernel
theorem dX8_ownTask_2 : decode cX8_ownTask 2 = .ok (.iload_n 2, 1) := by decide +kernel
theorem dX8_ownTask_3 : decode cX8_ownTask 3 = .ok (.aload_n 0, 1) := by decide +kernel
theorem dX8_ownTask_4 : decode cX8_ownTask 4 = .ok (.iconst 1, 1) := by decide +kernel
theorem dX8_ownTask_5 : decode cX8_ownTask 5 = .ok (.iaload, 1) := by decide +kernel
theorem dX8_ownTask_6 : decode cX8_ownTask 6 = .ok (.if_icmp .ge 20, 3) := by decide +kernel
theorem dX8_ownTask_9 : decode cX8_ownTask 9 = .ok (.aload_n 0, 1) := by decide +kernel
theorem dX8_ownTask_10 : decode cX8_ownTask 10 = .ok (.iload_n 1, 1) := by decide +kernel
theorem dX8_ownTask_11 : decode cX8_ownTask 11 = .ok (.iload_n 2, 1) := by decide +kernel
theorem dX8_ownTask_12 : decode cX8_ownTask 12 = .ok (.invokestatic 87, 3) := by decide +kernel
theorem dX8_ownTask_15 : decode cX8_ownTask 15 = .ok (.ifCond .eq 5, 3) := by decide +kernel
theorem dX8_ownTask_18 : decode cX8_ownTask 18 = .ok (.iload_n 2, 1) := by decide +kernel
theorem dX8_ownTask_19 : decode cX8_ownTask 19 = .ok (.ireturn, 1) := by decide +kernel
theorem dX8_ownTask_20 : decode cX8_ownTask 20 = .ok (.iinc 2 1, 3) := by decide +kernel
theorem dX8_ownTask_23 : decode cX8_ownTask 23 = .ok (.goto (-21), 3) := by decide +kernel
theorem dX8_ownTask_26 : decode cX8_ownTask 26 = .ok (.bipush (-9), 2) := by decide +kernel
theorem dX8_ownTask_28 : decode cX8_ownTask 28 = .ok (.ireturn, 1) := by decide +kernel
theorem dX8_listen_0 : decode cX8_listen 0 = .ok (.aload_n 1, 1) := by decide +kernel
theorem dX8_listen_1 : decode cX8_listen 1 = .ok (.iconst 0, 1) := by decide +kernel
theorem dX8_listen_2 : decode cX8_listen 2 = .ok (.aload_n 0, 1) := by decide +kernel
theorem dX8_listen_3 : decode cX8_listen 3 = .ok (.getfield 22, 3) := by decide +kernel
theorem dX8_listen_6 : decode cX8_listen 6 = .ok (.iconst 0, 1) := by decide +kernel
theorem dX8_listen_7 : decode cX8_listen 7 = .ok (.sipush 264, 3) := by decide +kernel
theorem dX8_listen_10 : decode cX8_listen 10 = .ok (.invokestatic 53, 3) := by decide +kernel
theorem dX8_listen_13 : decode cX8_listen 13 = .ok (.iconst 0, 1) := by decide +kernel
theorem dX8_listen_14 : decode cX8_listen 14 = .ok (.istore_n 2, 1) := by decide +kernel
theorem dX8_listen_15 : decode cX8_listen 15 = .ok (.iload_n 2, 1) := by decide +kernel
theorem dX8_listen_16 : decode cX8_listen 16 = .ok (.aload_n 1, 1) := by decide +kernel
theorem dX8_listen_17 : decode cX8_listen 17 = .ok (.iconst 0, 1) := by decide +kernel
theorem dX8_listen_18 : decode cX8_listen 18 = .ok (.iaload, 1) := by decide +kernel
theorem dX8_listen_19 : decode cX8_listen 19 = .ok (.if_icmp .ge 152, 3) := by decide +kernel
theorem dX8_listen_22 : decode cX8_listen 22 = .ok (.iconst 0, 1) := by decide +kernel
theorem dX8_listen_23 : decode cX8_listen 23 = .ok (.istore_n 3, 1) := by decide +kernel
theorem dX8_listen_24 : decode cX8_listen 24 = .ok (.iload_n 3, 1) := by decide +kernel
theorem dX8_listen_25 : decode cX8_listen 25 = .ok (.aload_n 1, 1) := by decide +kernel
theorem dX8_listen_26 : decode cX8_listen 26 = .ok (.iconst 1, 1) := by decide +kernel
theorem dX8_listen_27 : decode cX8_listen 27 = .ok (.iaload, 1) := by decide +kernel
theorem dX8_listen_28 : decode cX8_listen 28 = .ok (.if_icmp .ge 137, 3) := by decide +kernel
theorem dX8_listen_31 : decode cX8_listen 31 = .ok (.aload_n 1, 1) := by decide +kernel
theorem dX8_listen_32 : decode cX8_listen 32 = .ok (.iload_n 2, 1) := by decide +kernel
theorem dX8_listen_33 : decode cX8_listen 33 = .ok (.invokestatic 71, 3) := by decide +kernel
theorem dX8_listen_36 : decode cX8_listen 36 = .ok (.ifCond .eq 129, 3) := by decide +kernel
theorem dX8_listen_39 : decode cX8_listen 39 = .ok (.iload_n 2, 1) := by decide +kernel
theorem dX8_listen_40 : decode cX8_listen 40 = .ok (.iload_n 3, 1) := by decide +kernel
theorem dX8_listen_41 : decode cX8_listen 41 = .ok (.invokestatic 83, 3) := by decide +kernel
theorem dX8_listen_44 : decode cX8_listen 44 = .ok (.istore 4, 2) := by decide +kernel
theorem dX8_listen_46 : decode cX8_listen 46 = .ok (.iconst 0, 1) := by decide +kernel
theorem dX8_listen_47 : decode cX8_listen 47 = .ok (.istore 5, 2) := by decide +kernel
theorem dX8_listen_49 : decode cX8_listen 49 = .ok (.iload 5, 2) := by decide +kernel
theorem dX8_listen_51 : decode cX8_listen 51 = .ok (.aload_n 1, 1) := by decide +kernel
theorem dX8_listen_52 : decode cX8_listen 52 = .ok (.iconst 0, 1) := by decide +kernel
theorem dX8_listen_53 : decode cX8_listen 53 = .ok (.iaload, 1) := by decide +kernel
theorem dX8_listen_54 : decode cX8_listen 54 = .ok (.if_icmp .ge 48, 3) := by decide +kernel
theorem dX8_listen_57 : decode cX8_listen 57 = .ok (.aload_n 0, 1) := by decide +kernel
theorem dX8_listen_58 : decode cX8_listen 58 = .ok (.getfield 22, 3) := by decide +kernel
theorem dX8_listen_61 : decode cX8_listen 61 = .ok (.iload_n 2, 1) := by decide +kernel
theorem dX8_listen_62 : decode cX8_listen 62 = .ok (.iload 5, 2) := by decide +kernel
theorem dX8_listen_64 : decode cX8_listen 64 = .ok (.invokestatic 90, 3) := by decide +kernel
theorem dX8_listen_67 : decode cX8_listen 67 = .ok (.ifCond .eq 29, 3) := by decide +kernel
theorem dX8_listen_70 : decode cX8_listen 70 = .ok (.aload_n 0, 1) := by decide +kernel
theorem dX8_listen_71 : decode cX8_listen 71 = .ok (.getfield 22, 3) := by decide +kernel
theorem dX8_listen_74 : decode cX8_listen 74 = .ok (.iload 5, 2) := by decide +kernel
theorem dX8_listen_76 : decode cX8_listen 76 = .ok (.iload_n 3, 1) := by decide +kernel
theorem dX8_listen_77 : decode cX8_listen 77 = .ok (.invokestatic 83, 3) := by decide +kernel
theorem dX8_listen_80 : decode cX8_listen 80 = .ok (.iload 4, 2) := by decide +kernel
theorem dX8_listen_82 : decode cX8_listen 82 = .ok (.invokestatic 93, 3) := by decide +kernel
theorem dX8_listen_85 : decode cX8_listen 85 = .ok (.ifCond .eq 11, 3) := by decide +kernel
theorem dX8_listen_88 : decode cX8_listen 88 = .ok (.iload 5, 2) := by decide +kernel
theorem dX8_listen_90 : decode cX8_listen 90 = .ok (.iload_n 3, 1) := by decide +kernel
theorem dX8_listen_91 : decode cX8_listen 91 = .ok (.invokestatic 83, 3) := by decide +kernel
theorem dX8_listen_94 : decode cX8_listen 94 = .ok (.istore 4, 2) := by decide +kernel
theorem dX8_listen_96 : decode cX8_listen 96 = .ok (.iinc 5 1, 3) := by decide +kernel
theorem dX8_listen_99 : decode cX8_listen 99 = .ok (.goto (-50), 3) := by decide +kernel
theorem dX8_listen_102 : decode cX8_listen 102 = .ok (.aload_n 0, 1) := by decide +kernel
theorem dX8_listen_103 : decode cX8_listen 103 = .ok (.getfield 22, 3) := by decide +kernel
theorem dX8_listen_106 : decode cX8_listen 106 = .ok (.iload 4, 2) := by decide +kernel
theorem dX8_listen_108 : decode cX8_listen 108 = .ok (.aload_n 1, 1) := by decide +kernel
theorem dX8_listen_109 : decode cX8_listen 109 = .ok (.iload_n 2, 1) := by decide +kernel
theorem dX8_listen_110 : decode cX8_listen 110 = .ok (.iload_n 3, 1) := by decide +kernel
theorem dX8_listen_111 : decode cX8_listen 111 = .ok (.invokestatic 83, 3) := by decide +kernel
theorem dX8_listen_114 : decode cX8_listen 114 = .ok (.iconst 4, 1) := by decide +kernel
theorem dX8_listen_115 : decode cX8_listen 115 = .ok (.invokestatic 53, 3) := by decide +kernel
theorem dX8_listen_118 : decode cX8_listen 118 = .ok (.aload_n 1, 1) := by decide +kernel
theorem dX8_listen_119 : decode cX8_listen 119 = .ok (.iload_n 2, 1) := by decide +kernel
theorem dX8_listen_120 : decode cX8_listen 120 = .ok (.iload_n 3, 1) := by decide +kernel
theorem dX8_listen_121 : decode cX8_listen 121 = .ok (.invokestatic 83, 3) := by decide +kernel
theorem dX8_listen_124 : decode cX8_listen 124 = .ok (.iconst 0, 1) := by decide +kernel
theorem dX8_listen_125 : decode cX8_listen 125 = .ok (.iadd, 1) := by decide +kernel
theorem dX8_listen_126 : decode cX8_listen 126 = .ok (.iaload, 1) := by decide +kernel
theorem dX8_listen_127 : decode cX8_listen 127 = .ok (.iconst 1, 1) := by decide +kernel
theorem dX8_listen_128 : decode cX8_listen 128 = .ok (.if_icmp .ne 31, 3) := by decide +kernel
theorem dX8_listen_131 : decode cX8_listen 131 = .ok (.aload_n 1, 1) := by decide +kernel
theorem dX8_listen_132 : decode cX8_listen 132 = .ok (.iload_n 2, 1) := by decide +kernel
theorem dX8_listen_133 : decode cX8_listen 133 = .ok (.iload_n 3, 1) := by decide +kernel
theorem dX8_listen_134 : decode cX8_listen 134 = .ok (.invokestatic 83, 3) := by decide +kernel
theorem dX8_listen_137 : decode cX8_listen 137 = .ok (.aload_n 1, 1) := by decide +kernel
theorem dX8_listen_138 : decode cX8_listen 138 = .ok (.iconst 2, 1) := by decide +kernel
theorem dX8_listen_139 : decode cX8_listen 139 = .ok (.iaload, 1) := by decide +kernel
theorem dX8_listen_140 : decode cX8_listen 140 = .ok (.invokestatic 79, 3) := by decide +kernel
theorem dX8_listen_143 : decode cX8_listen 143 = .ok (.ifCond .ne 16, 3) := by decide +kernel
theorem dX8_listen_146 : decode cX8_listen 146 = .ok (.aload_n 1, 1) := by decide +kernel
theorem dX8_listen_147 : decode cX8_listen 147 = .ok (.iload_n 2, 1) := by decide +kernel
theorem dX8_listen_148 : decode cX8_listen 148 = .ok (.iload_n 3, 1) := by decide +kernel
theorem dX8_listen_149 : decode cX8_listen 149 = .ok (.invokestatic 83, 3) := by decide +kernel
theorem dX8_listen_152 : decode cX8_listen 152 = .ok (.iconst 0, 1) := by decide +kernel
theorem dX8_listen_153 : decode cX8_listen 153 = .ok (.iconst 0, 1) := by decide +kernel
theorem dX8_listen_154 : decode cX8_listen 154 = .ok (.iconst 0, 1) := by decide +kernel
theorem dX8_listen_155 : decode cX8_listen 155 = .ok (.iconst 0, 1) := by decide +kernel
theorem dX8_listen_156 : decode cX8_listen 156 = .ok (.invokestatic 96, 3) := by decide +kernel
theorem dX8_listen_159 : decode cX8_listen 159 = .ok (.iinc 3 1, 3) := by decide +kernel
theorem dX8_listen_162 : decode cX8_listen 162 = .ok (.goto (-138), 3) := by decide +kernel
theorem dX8_listen_165 : decode cX8_listen 165 = .ok (.iinc 2 1, 3) := by decide +kernel
theorem dX8_listen_168 : decode cX8_listen 168 = .ok (.goto (-153), 3) := by decide +kernel
theorem dX8_listen_171 : decode cX8_listen 171 = .ok (.return_, 1) := by decide +kernel
theorem dX8_claim_0 : decode cX8_claim 0 = .ok (.aload_n 0, 1) := by decide +kernel
theorem dX8_claim_1 : decode cX8_claim 1 = .ok (.iconst 2, 1) := by decide +kernel
theorem dX8_claim_2 : decode cX8_claim 2 = .ok (.iaload, 1) := by decide +kernel
theorem dX8_claim_3 : decode cX8_claim 3 = .ok (.aload_n 0, 1) := by decide +kernel
theorem dX8_claim_4 : decode cX8_claim 4 = .ok (.iconst 3, 1) := by decide +kernel
theorem dX8_claim_5 : decode cX8_claim 5 = .ok (.iaload, 1) := by decide +kernel
theorem dX8_claim_6 : decode cX8_claim 6 = .ok (.iadd, 1) := by decide +kernel
theorem dX8_claim_7 : decode cX8_claim 7 = .ok (.istore_n 2, 1) := by decide +kernel
theorem dX8_claim_8 : decode cX8_claim 8 = .ok (.bipush (-9), 2) := by decide +kernel
theorem dX8_claim_10 : decode cX8_claim 10 = .ok (.istore_n 3, 1) := by decide +kernel
theorem dX8_claim_11 : decode cX8_claim 11 = .ok (.iconst 0, 1) := by decide +kernel
theorem dX8_claim_12 : decode cX8_claim 12 = .ok (.istore 4, 2) := by decide +kernel
theorem dX8_claim_14 : decode cX8_claim 14 = .ok (.iload 4, 2) := by decide +kernel
theorem dX8_claim_16 : decode cX8_claim 16 = .ok (.aload_n 0, 1) := by decide +kernel
theorem dX8_claim_17 : decode cX8_claim 17 = .ok (.iconst 1, 1) := by decide +kernel
theorem dX8_claim_18 : decode cX8_claim 18 = .ok (.iaload, 1) := by decide +kernel
theorem dX8_claim_19 : decode cX8_claim 19 = .ok (.if_icmp .ge 48, 3) := by decide +kernel
theorem dX8_claim_22 : decode cX8_claim 22 = .ok (.aload_n 0, 1) := by decide +kernel
theorem dX8_claim_23 : decode cX8_claim 23 = .ok (.iload_n 1, 1) := by decide +kernel
theorem dX8_claim_24 : decode cX8_claim 24 = .ok (.iload 4, 2) := by decide +kernel
theorem dX8_claim_26 : decode cX8_claim 26 = .ok (.invokestatic 87, 3) := by decide +kernel
theorem dX8_claim_29 : decode cX8_claim 29 = .ok (.ifCond .eq 30, 3) := by decide +kernel
theorem dX8_claim_32 : decode cX8_claim 32 = .ok (.iload_n 3, 1) := by decide +kernel
theorem dX8_claim_33 : decode cX8_claim 33 = .ok (.bipush (-9), 2) := by decide +kernel
theorem dX8_claim_35 : decode cX8_claim 35 = .ok (.if_icmp .eq 19, 3) := by decide +kernel
theorem dX8_claim_38 : decode cX8_claim 38 = .ok (.aload_n 0, 1) := by decide +kernel
theorem dX8_claim_39 : decode cX8_claim 39 = .ok (.iload_n 1, 1) := by decide +kernel
theorem dX8_claim_40 : decode cX8_claim 40 = .ok (.iload 4, 2) := by decide +kernel
theorem dX8_claim_42 : decode cX8_claim 42 = .ok (.invokestatic 100, 3) := by decide +kernel
theorem dX8_claim_45 : decode cX8_claim 45 = .ok (.aload_n 0, 1) := by decide +kernel
theorem dX8_claim_46 : decode cX8_claim 46 = .ok (.iload_n 1, 1) := by decide +kernel
theorem dX8_claim_47 : decode cX8_claim 47 = .ok (.iload_n 3, 1) := by decide +kernel
theorem dX8_claim_48 : decode cX8_claim 48 = .ok (.invokestatic 100, 3) := by decide +kernel
theorem dX8_claim_51 : decode cX8_claim 51 = .ok (.if_icmp .ge 8, 3) := by decide +kernel
theorem dX8_claim_54 : decode cX8_claim 54 = .ok (.iload 4, 2) := by decide +kernel
theorem dX8_claim_56 : decode cX8_claim 56 = .ok (.goto 4, 3) := by decide +kernel
theorem dX8_claim_59 : decode cX8_claim 59 = .ok (.iload_n 3, 1) := by decide +kernel
theorem dX8_claim_60 : decode cX8_claim 60 = .ok (.istore_n 3, 1) := by decide +kernel
theorem dX8_claim_61 : decode cX8_claim 61 = .ok (.iinc 4 1, 3) := by decide +kernel
theorem dX8_claim_64 : decode cX8_claim 64 = .ok (.goto (-50), 3) := by decide +kernel
theorem dX8_claim_67 : decode cX8_claim 67 = .ok (.iload_n 3, 1) := by decide +kernel
theorem dX8_claim_68 : decode cX8_claim 68 = .ok (.bipush (-9), 2) := by decide +kernel
theorem dX8_claim_70 : decode cX8_claim 70 = .ok (.if_icmp .eq 69, 3) := by decide +kernel
theorem dX8_claim_73 : decode cX8_claim 73 = .ok (.iconst 0, 1) := by decide +kernel
theorem dX8_claim_74 : decode cX8_claim 74 = .ok (.istore 4, 2) := by decide +kernel
theorem dX8_claim_76 : decode cX8_claim 76 = .ok (.iload 4, 2) := by decide +kernel
theorem dX8_claim_78 : decode cX8_claim 78 = .ok (.aload_n 0, 1) := by decide +kernel
theorem dX8_claim_79 : decode cX8_claim 79 = .ok (.iconst 1, 1) := by decide +kernel
theorem dX8_claim_80 : decode cX8_claim 80 = .ok (.iaload, 1) := by decide +kernel
theorem dX8_claim_81 : decode cX8_claim 81 = .ok (.if_icmp .ge 39, 3) := by decide +kernel
theorem dX8_claim_84 : decode cX8_claim 84 = .ok (.aload_n 0, 1) := by decide +kernel
theorem dX8_claim_85 : decode cX8_claim 85 = .ok (.iload_n 1, 1) := by decide +kernel
theorem dX8_claim_86 : decode cX8_claim 86 = .ok (.iload 4, 2) := by decide +kernel
theorem dX8_claim_88 : decode cX8_claim 88 = .ok (.invokestatic 87, 3) := by decide +kernel
theorem dX8_claim_91 : decode cX8_claim 91 = .ok (.ifCond .eq 23, 3) := by decide +kernel
theorem dX8_claim_94 : decode cX8_claim 94 = .ok (.iload 4, 2) := by decide +kernel
theorem dX8_claim_96 : decode cX8_claim 96 = .ok (.iload_n 3, 1) := by decide +kernel
theorem dX8_claim_97 : decode cX8_claim 97 = .ok (.if_icmp .eq 17, 3) := by decide +kernel
theorem dX8_claim_100 : decode cX8_claim 100 = .ok (.aload_n 0, 1) := by decide +kernel
theorem dX8_claim_101 : decode cX8_claim 101 = .ok (.iload_n 1, 1) := by decide +kernel
theorem dX8_claim_102 : decode cX8_claim 102 = .ok (.iload 4, 2) := by decide +kernel
theorem dX8_claim_104 : decode cX8_claim 104 = .ok (.invokestatic 83, 3) := by decide +kernel
theorem dX8_claim_107 : decode cX8_claim 107 = .ok (.iconst 0, 1) := by decide +kernel
theorem dX8_claim_108 : decode cX8_claim 108 = .ok (.iconst 0, 1) := by decide +kernel
theorem dX8_claim_109 : decode cX8_claim 109 = .ok (.iconst 0, 1) := by decide +kernel
theorem dX8_claim_110 : decode cX8_claim 110 = .ok (.iconst 0, 1) := by decide +kernel
theorem dX8_claim_111 : decode cX8_claim 111 = .ok (.invokestatic 96, 3) := by decide +kernel
theorem dX8_claim_114 : decode cX8_claim 114 = .ok (.iinc 4 1, 3) := by decide +kernel
theorem dX8_claim_117 : decode cX8_claim 117 = .ok (.goto (-41), 3) := by decide +kernel
theorem dX8_claim_120 : decode cX8_claim 120 = .ok (.aload_n 0, 1) := by decide +kernel
theorem dX8_claim_121 : decode cX8_claim 121 = .ok (.iload_n 1, 1) := by decide +kernel
theorem dX8_claim_122 : decode cX8_claim 122 = .ok (.iload_n 3, 1) := by decide +kernel
theorem dX8_claim_123 : decode cX8_claim 123 = .ok (.invokestatic 83, 3) := by decide +kernel
theorem dX8_claim_126 : decode cX8_claim 126 = .ok (.iconst 1, 1) := by decide +kernel
theorem dX8_claim_127 : decode cX8_claim 127 = .ok (.iload_n 1, 1) := by decide +kernel
theorem dX8_claim_128 : decode cX8_claim 128 = .ok (.aload_n 0, 1) := by decide +kernel
theorem dX8_claim_129 : decode cX8_claim 129 = .ok (.iload_n 1, 1) := by decide +kernel
theorem dX8_claim_130 : decode cX8_claim 130 = .ok (.iload_n 3, 1) := by decide +kernel
theorem dX8_claim_131 : decode cX8_claim 131 = .ok (.invokestatic 100, 3) := by decide +kernel
theorem dX8_claim_134 : decode cX8_claim 134 = .ok (.iload_n 2, 1) := by decide +kernel
theorem dX8_claim_135 : decode cX8_claim 135 = .ok (.invokestatic 96, 3) := by decide +kernel
theorem dX8_claim_138 : decode cX8_claim 138 = .ok (.return_, 1) := by decide +kernel
theorem dX8_claim_139 : decode cX8_claim 139 = .ok (.bipush (-9), 2) := by decide +kernel
theorem dX8_claim_141 : decode cX8_claim 141 = .ok (.istore 4, 2) := by decide +kernel
theorem dX8_claim_143 : decode cX8_claim 143 = .ok (.iconst 0, 1) := by decide +kernel
theorem dX8_claim_144 : decode cX8_claim 144 = .ok (.istore 5, 2) := by decide +kernel
theorem dX8_claim_146 : decode cX8_claim 146 = .ok (.iload 5, 2) := by decide +kernel
theorem dX8_claim_148 : decode cX8_claim 148 = .ok (.aload_n 0, 1) := by decide +kernel
theorem dX8_claim_149 : decode cX8_claim 149 = .ok (.iconst 1, 1) := by decide +kernel
theorem dX8_claim_150 : decode cX8_claim 150 = .ok (.iaload, 1) := by decide +kernel
theorem dX8_claim_151 : decode cX8_claim 151 = .ok (.if_icmp .ge 55, 3) := by decide +kernel
theorem dX8_claim_154 : decode cX8_claim 154 = .ok (.aload_n 0, 1) := by decide +kernel
theorem dX8_claim_155 : decode cX8_claim 155 = .ok (.iload_n 1, 1) := by decide +kernel
theorem dX8_claim_156 : decode cX8_claim 156 = .ok (.iload 5, 2) := by decide +kernel
theorem dX8_claim_158 : decode cX8_claim 158 = .ok (.invokestatic 83, 3) := by decide +kernel
theorem dX8_claim_161 : decode cX8_claim 161 = .ok (.iconst 0, 1) := by decide +kernel
theorem dX8_claim_162 : decode cX8_claim 162 = .ok (.iadd, 1) := by decide +kernel
theorem dX8_claim_163 : decode cX8_claim 163 = .ok (.iaload, 1) := by decide +kernel
theorem dX8_claim_164 : decode cX8_claim 164 = .ok (.ifCond .ne 32, 3) := by decide +kernel
theorem dX8_claim_167 : decode cX8_claim 167 = .ok (.iload 4, 2) := by decide +kernel
theorem dX8_claim_169 : decode cX8_claim 169 = .ok (.bipush (-9), 2) := by decide +kernel
theorem dX8_claim_171 : decode cX8_claim 171 = .ok (.if_icmp .eq 20, 3) := by decide +kernel
theorem dX8_claim_174 : decode cX8_claim 174 = .ok (.aload_n 0, 1) := by decide +kernel
theorem dX8_claim_175 : decode cX8_claim 175 = .ok (.iload_n 1, 1) := by decide +kernel
theorem dX8_claim_176 : decode cX8_claim 176 = .ok (.iload 5, 2) := by decide +kernel
theorem dX8_claim_178 : decode cX8_claim 178 = .ok (.invokestatic 100, 3) := by decide +kernel
theorem dX8_claim_181 : decode cX8_claim 181 = .ok (.aload_n 0, 1) := by decide +kernel
theorem dX8_claim_182 : decode cX8_claim 182 = .ok (.iload_n 1, 1) := by decide +kernel
theorem dX8_claim_183 : decode cX8_claim 183 = .ok (.iload 4, 2) := by decide +kernel
theorem dX8_claim_185 : decode cX8_claim 185 = .ok (.invokestatic 100, 3) := by decide +kernel
theorem dX8_claim_188 : decode cX8_claim 188 = .ok (.if_icmp .ge 8, 3) := by decide +kernel
theorem dX8_claim_191 : decode cX8_claim 191 = .ok (.iload 5, 2) := by decide +kernel
theorem dX8_claim_193 : decode cX8_claim 193 = .ok (.goto 5, 3) := by decide +kernel
theorem dX8_claim_196 : decode cX8_claim 196 = .ok (.iload 4, 2) := by decide +kernel
theorem dX8_claim_198 : decode cX8_claim 198 = .ok (.istore 4, 2) := by decide +kernel
theorem dX8_claim_200 : decode cX8_claim 200 = .ok (.iinc 5 1, 3) := by decide +kernel
theorem dX8_claim_203 : decode cX8_claim 203 = .ok (.goto (-57), 3) := by decide +kernel
theorem dX8_claim_206 : decode cX8_claim 206 = .ok (.iload 4, 2) := by decide +kernel
theorem dX8_claim_208 : decode cX8_claim 208 = .ok (.bipush (-9), 2) := by decide +kernel
theorem dX8_claim_210 : decode cX8_claim 210 = .ok (.if_icmp .eq 23, 3) := by decide +kernel
theorem dX8_claim_213 : decode cX8_claim 213 = .ok (.aload_n 0, 1) := by decide +kernel
theorem dX8_claim_214 : decode cX8_claim 214 = .ok (.iload_n 1, 1) := by decide +kernel
theorem dX8_claim_215 : decode cX8_claim 215 = .ok (.iload 4, 2) := by decide +kernel
theorem dX8_claim_217 : decode cX8_claim 217 = .ok (.invokestatic 83, 3) := by decide +kernel
theorem dX8_claim_220 : decode cX8_claim 220 = .ok (.iconst 1, 1) := by decide +kernel
theorem dX8_claim_221 : decode cX8_claim 221 = .ok (.iload_n 1, 1) := by decide +kernel
theorem dX8_claim_222 : decode cX8_claim 222 = .ok (.aload_n 0, 1) := by decide +kernel
theorem dX8_claim_223 : decode cX8_claim 223 = .ok (.iload_n 1, 1) := by decide +kernel
theorem dX8_claim_224 : decode cX8_claim 224 = .ok (.iload 4, 2) := by decide +kernel
theorem dX8_claim_226 : decode cX8_claim 226 = .ok (.invokestatic 100, 3) := by decide +kernel
theorem dX8_claim_229 : decode cX8_claim 229 = .ok (.iload_n 2, 1) := by decide +kernel
theorem dX8_claim_230 : decode cX8_claim 230 = .ok (.invokestatic 96, 3) := by decide +kernel
theorem dX8_claim_233 : decode cX8_claim 233 = .ok (.return_, 1) := by decide +kernel
theorem dX8_work_0 : decode cX8_work 0 = .ok (.aload_n 0, 1) := by decide +kernel
theorem dX8_work_1 : decode cX8_work 1 = .ok (.iload_n 1, 1) := by decide +kernel
theorem dX8_work_2 : decode cX8_work 2 = .ok (.invokestatic 103, 3) := by decide +kernel
theorem dX8_work_5 : decode cX8_work 5 = .ok (.istore_n 2, 1) := by decide +kernel
theorem dX8_work_6 : decode cX8_work 6 = .ok (.iload_n 2, 1) := by decide +kernel
theorem dX8_work_7 : decode cX8_work 7 = .ok (.bipush (-9), 2) := by decide +kernel
theorem dX8_work_9 : decode cX8_work 9 = .ok (.if_icmp .ne 4, 3) := by decide +kernel
theorem dX8_work_12 : decode cX8_work 12 = .ok (.return_, 1) := by decide +kernel
theorem dX8_work_13 : decode cX8_work 13 = .ok (.iload_n 1, 1) := by decide +kernel
theorem dX8_work_14 : decode cX8_work 14 = .ok (.invokestatic 61, 3) := by decide +kernel
theorem dX8_work_17 : decode cX8_work 17 = .ok (.istore_n 3, 1) := by decide +kernel
theorem dX8_work_18 : decode cX8_work 18 = .ok (.iload_n 2, 1) := by decide +kernel
theorem dX8_work_19 : decode cX8_work 19 = .ok (.invokestatic 65, 3) := by decide +kernel
theorem dX8_work_22 : decode cX8_work 22 = .ok (.istore 4, 2) := by decide +kernel
theorem dX8_work_24 : decode cX8_work 24 = .ok (.aload_n 0, 1) := by decide +kernel
theorem dX8_work_25 : decode cX8_work 25 = .ok (.iload_n 1, 1) := by decide +kernel
theorem dX8_work_26 : decode cX8_work 26 = .ok (.iload_n 2, 1) := by decide +kernel
theorem dX8_work_27 : decode cX8_work 27 = .ok (.invokestatic 100, 3) := by decide +kernel
theorem dX8_work_30 : decode cX8_work 30 = .ok (.ifCond .le 64, 3) := by decide +kernel
theorem dX8_work_33 : decode cX8_work 33 = .ok (.aload_n 0, 1) := by decide +kernel
theorem dX8_work_34 : decode cX8_work 34 = .ok (.iload_n 3, 1) := by decide +kernel
theorem dX8_work_35 : decode cX8_work 35 = .ok (.iconst 0, 1) := by decide +kernel
theorem dX8_work_36 : decode cX8_work 36 = .ok (.iadd, 1) := by decide +kernel
theorem dX8_work_37 : decode cX8_work 37 = .ok (.iaload, 1) := by decide +kernel
theorem dX8_work_38 : decode cX8_work 38 = .ok (.aload_n 0, 1) := by decide +kernel
theorem dX8_work_39 : decode cX8_work 39 = .ok (.iload 4, 2) := by decide +kernel
theorem dX8_work_41 : decode cX8_work 41 = .ok (.iconst 0, 1) := by decide +kernel
theorem dX8_work_42 : decode cX8_work 42 = .ok (.iadd, 1) := by decide +kernel
theorem dX8_work_43 : decode cX8_work 43 = .ok (.iaload, 1) := by decide +kernel
theorem dX8_work_44 : decode cX8_work 44 = .ok (.if_icmp .eq 7, 3) := by decide +kernel
theorem dX8_work_47 : decode cX8_work 47 = .ok (.iconst 0, 1) := by decide +kernel
theorem dX8_work_48 : decode cX8_work 48 = .ok (.goto 4, 3) := by decide +kernel
theorem dX8_work_51 : decode cX8_work 51 = .ok (.iconst 1, 1) := by decide +kernel
theorem dX8_work_52 : decode cX8_work 52 = .ok (.istore 5, 2) := by decide +kernel
theorem dX8_work_54 : decode cX8_work 54 = .ok (.aload_n 0, 1) := by decide +kernel
theorem dX8_work_55 : decode cX8_work 55 = .ok (.iload_n 3, 1) := by decide +kernel
theorem dX8_work_56 : decode cX8_work 56 = .ok (.iload 5, 2) := by decide +kernel
theorem dX8_work_58 : decode cX8_work 58 = .ok (.iadd, 1) := by decide +kernel
theorem dX8_work_59 : decode cX8_work 59 = .ok (.dup2, 1) := by decide +kernel
theorem dX8_work_60 : decode cX8_work 60 = .ok (.iaload, 1) := by decide +kernel
theorem dX8_work_61 : decode cX8_work 61 = .ok (.aload_n 0, 1) := by decide +kernel
theorem dX8_work_62 : decode cX8_work 62 = .ok (.iload 4, 2) := by decide +kernel
theorem dX8_work_64 : decode cX8_work 64 = .ok (.iload 5, 2) := by decide +kernel
theorem dX8_work_66 : decode cX8_work 66 = .ok (.iadd, 1) := by decide +kernel
theorem dX8_work_67 : decode cX8_work 67 = .ok (.iaload, 1) := by decide +kernel
theorem dX8_work_68 : decode cX8_work 68 = .ok (.aload_n 0, 1) := by decide +kernel
theorem dX8_work_69 : decode cX8_work 69 = .ok (.iload_n 3, 1) := by decide +kernel
theorem dX8_work_70 : decode cX8_work 70 = .ok (.iload 5, 2) := by decide +kernel
theorem dX8_work_72 : decode cX8_work 72 = .ok (.iadd, 1) := by decide +kernel
theorem dX8_work_73 : decode cX8_work 73 = .ok (.iaload, 1) := by decide +kernel
theorem dX8_work_74 : decode cX8_work 74 = .ok (.if_icmp .le 7, 3) := by decide +kernel
theorem dX8_work_77 : decode cX8_work 77 = .ok (.iconst 1, 1) := by decide +kernel
theorem dX8_work_78 : decode cX8_work 78 = .ok (.goto 4, 3) := by decide +kernel
theorem dX8_work_81 : decode cX8_work 81 = .ok (.iconst (-1), 1) := by decide +kernel
theorem dX8_work_82 : decode cX8_work 82 = .ok (.iadd, 1) := by decide +kernel
theorem dX8_work_83 : decode cX8_work 83 = .ok (.iastore, 1) := by decide +kernel
theorem dX8_work_84 : decode cX8_work 84 = .ok (.aload_n 0, 1) := by decide +kernel
theorem dX8_work_85 : decode cX8_work 85 = .ok (.iload_n 3, 1) := by decide +kernel
theorem dX8_work_86 : decode cX8_work 86 = .ok (.iconst 4, 1) := by decide +kernel
theorem dX8_work_87 : decode cX8_work 87 = .ok (.iadd, 1) := by decide +kernel
theorem dX8_work_88 : decode cX8_work 88 = .ok (.dup2, 1) := by decide +kernel
theorem dX8_work_89 : decode cX8_work 89 = .ok (.iaload, 1) := by decide +kernel
theorem dX8_work_90 : decode cX8_work 90 = .ok (.iconst 1, 1) := by decide +kernel
theorem dX8_work_91 : decode cX8_work 91 = .ok (.iadd, 1) := by decide +kernel
theorem dX8_work_92 : decode cX8_work 92 = .ok (.iastore, 1) := by decide +kernel
theorem dX8_work_93 : decode cX8_work 93 = .ok (.return_, 1) := by decide +kernel
theorem dX8_work_94 : decode cX8_work 94 = .ok (.aload_n 0, 1) := by decide +kernel
theorem dX8_work_95 : decode cX8_work 95 = .ok (.iload_n 2, 1) := by decide +kernel
theorem dX8_work_96 : decode cX8_work 96 = .ok (.invokestatic 107, 3) := by decide +kernel
theorem dX8_work_99 : decode cX8_work 99 = .ok (.ifCond .eq 15, 3) := by decide +kernel
theorem dX8_work_102 : decode cX8_work 102 = .ok (.aload_n 0, 1) := by decide +kernel
theorem dX8_work_103 : decode cX8_work 103 = .ok (.iload_n 3, 1) := by decide +kernel
theorem dX8_work_104 : decode cX8_work 104 = .ok (.iconst 5, 1) := by decide +kernel
theorem dX8_work_105 : decode cX8_work 105 = .ok (.iadd, 1) := by decide +kernel
theorem dX8_work_106 : decode cX8_work 106 = .ok (.dup2, 1) := by decide +kernel
theorem dX8_work_107 : decode cX8_work 107 = .ok (.iaload, 1) := by decide +kernel
theorem dX8_work_108 : decode cX8_work 108 = .ok (.iconst 1, 1) := by decide +kernel
theorem dX8_work_109 : decode cX8_work 109 = .ok (.iadd, 1) := by decide +kernel
theorem dX8_work_110 : decode cX8_work 110 = .ok (.iastore, 1) := by decide +kernel
theorem dX8_work_111 : decode cX8_work 111 = .ok (.goto 13, 3) := by decide +kernel
theorem dX8_work_114 : decode cX8_work 114 = .ok (.aload_n 0, 1) := by decide +kernel
theorem dX8_work_115 : decode cX8_work 115 = .ok (.iload 4, 2) := by decide +kernel
theorem dX8_work_117 : decode cX8_work 117 = .ok (.iconst 3, 1) := by decide +kernel
theorem dX8_work_118 : decode cX8_work 118 = .ok (.iadd, 1) := by decide +kernel
theorem dX8_work_119 : decode cX8_work 119 = .ok (.dup2, 1) := by decide +kernel
theorem dX8_work_120 : decode cX8_work 120 = .ok (.iaload, 1) := by decide +kernel
theorem dX8_work_121 : decode cX8_work 121 = .ok (.iconst 1, 1) := by decide +kernel
theorem dX8_work_122 : decode cX8_work 122 = .ok (.iadd, 1) := by decide +kernel
theorem dX8_work_123 : decode cX8_work 123 = .ok (.iastore, 1) := by decide +kernel
theorem dX8_work_124 : decode cX8_work 124 = .ok (.aload_n 0, 1) := by decide +kernel
theorem dX8_work_125 : decode cX8_work 125 = .ok (.iload_n 2, 1) := by decide +kernel
theorem dX8_work_126 : decode cX8_work 126 = .ok (.invokestatic 107, 3) := by decide +kernel
theorem dX8_work_129 : decode cX8_work 129 = .ok (.ifCond .eq 16, 3) := by decide +kernel
theorem dX8_work_132 : decode cX8_work 132 = .ok (.aload_n 0, 1) := by decide +kernel
theorem dX8_work_133 : decode cX8_work 133 = .ok (.iload_n 1, 1) := by decide +kernel
theorem dX8_work_134 : decode cX8_work 134 = .ok (.iload_n 2, 1) := by decide +kernel
theorem dX8_work_135 : decode cX8_work 135 = .ok (.invokestatic 83, 3) := by decide +kernel
theorem dX8_work_138 : decode cX8_work 138 = .ok (.iconst 2, 1) := by decide +kernel
theorem dX8_work_139 : decode cX8_work 139 = .ok (.iconst 0, 1) := by decide +kernel
theorem dX8_work_140 : decode cX8_work 140 = .ok (.iconst 0, 1) := by decide +kernel
theorem dX8_work_141 : decode cX8_work 141 = .ok (.iconst 0, 1) := by decide +kernel
theorem dX8_work_142 : decode cX8_work 142 = .ok (.invokestatic 96, 3) := by decide +kernel
theorem dX8_work_145 : decode cX8_work 145 = .ok (.return_, 1) := by decide +kernel
theorem dX8_stepOn_0 : decode cX8_stepOn 0 = .ok (.aload_n 0, 1) := by decide +kernel
theorem dX8_stepOn_1 : decode cX8_stepOn 1 = .ok (.aload_n 1, 1) := by decide +kernel
theorem dX8_stepOn_2 : decode cX8_stepOn 2 = .ok (.invokevirtual 110, 3) := by decide +kernel
theorem dX8_stepOn_5 : decode cX8_stepOn 5 = .ok (.iconst 0, 1) := by decide +kernel
theorem dX8_stepOn_6 : decode cX8_stepOn 6 = .ok (.istore_n 2, 1) := by decide +kernel
theorem dX8_stepOn_7 : decode cX8_stepOn 7 = .ok (.iload_n 2, 1) := by decide +kernel
theorem dX8_stepOn_8 : decode cX8_stepOn 8 = .ok (.aload_n 1, 1) := by decide +kernel
theorem dX8_stepOn_9 : decode cX8_stepOn 9 = .ok (.iconst 0, 1) := by decide +kernel
theorem dX8_stepOn_10 : decode cX8_stepOn 10 = .ok (.iaload, 1) := by decide +kernel
theorem dX8_stepOn_11 : decode cX8_stepOn 11 = .ok (.if_icmp .ge 22, 3) := by decide +kernel
theorem dX8_stepOn_14 : decode cX8_stepOn 14 = .ok (.aload_n 1, 1) := by decide +kernel
theorem dX8_stepOn_15 : decode cX8_stepOn 15 = .ok (.iload_n 2, 1) := by decide +kernel
theorem dX8_stepOn_16 : decode cX8_stepOn 16 = .ok (.invokestatic 71, 3) := by decide +kernel
theorem dX8_stepOn_19 : decode cX8_stepOn 19 = .ok (.ifCond .eq 8, 3) := by decide +kernel
theorem dX8_stepOn_22 : decode cX8_stepOn 22 = .ok (.aload_n 1, 1) := by decide +kernel
theorem dX8_stepOn_23 : decode cX8_stepOn 23 = .ok (.iload_n 2, 1) := by decide +kernel
theorem dX8_stepOn_24 : decode cX8_stepOn 24 = .ok (.invokestatic 114, 3) := by decide +kernel
theorem dX8_stepOn_27 : decode cX8_stepOn 27 = .ok (.iinc 2 1, 3) := by decide +kernel
theorem dX8_stepOn_30 : decode cX8_stepOn 30 = .ok (.goto (-23), 3) := by decide +kernel
theorem dX8_stepOn_33 : decode cX8_stepOn 33 = .ok (.iconst 0, 1) := by decide +kernel
theorem dX8_stepOn_34 : decode cX8_stepOn 34 = .ok (.istore_n 2, 1) := by decide +kernel
theorem dX8_stepOn_35 : decode cX8_stepOn 35 = .ok (.iload_n 2, 1) := by decide +kernel
theorem dX8_stepOn_36 : decode cX8_stepOn 36 = .ok (.aload_n 1, 1) := by decide +kernel
theorem dX8_stepOn_37 : decode cX8_stepOn 37 = .ok (.iconst 0, 1) := by decide +kernel
theorem dX8_stepOn_38 : decode cX8_stepOn 38 = .ok (.iaload, 1) := by decide +kernel
theorem dX8_stepOn_39 : decode cX8_stepOn 39 = .ok (.if_icmp .ge 22, 3) := by decide +kernel
theorem dX8_stepOn_42 : decode cX8_stepOn 42 = .ok (.aload_n 1, 1) := by decide +kernel
theorem dX8_stepOn_43 : decode cX8_stepOn 43 = .ok (.iload_n 2, 1) := by decide +kernel
theorem dX8_stepOn_44 : decode cX8_stepOn 44 = .ok (.invokestatic 71, 3) := by decide +kernel
theorem dX8_stepOn_47 : decode cX8_stepOn 47 = .ok (.ifCond .eq 8, 3) := by decide +kernel
theorem dX8_stepOn_50 : decode cX8_stepOn 50 = .ok (.aload_n 1, 1) := by decide +kernel
theorem dX8_stepOn_51 : decode cX8_stepOn 51 = .ok (.iload_n 2, 1) := by decide +kernel
theorem dX8_stepOn_52 : decode cX8_stepOn 52 = .ok (.invokestatic 118, 3) := by decide +kernel
theorem dX8_stepOn_55 : decode cX8_stepOn 55 = .ok (.iinc 2 1, 3) := by decide +kernel
theorem dX8_stepOn_58 : decode cX8_stepOn 58 = .ok (.goto (-23), 3) := by decide +kernel
theorem dX8_stepOn_61 : decode cX8_stepOn 61 = .ok (.aload_n 1, 1) := by decide +kernel
theorem dX8_stepOn_62 : decode cX8_stepOn 62 = .ok (.iconst 2, 1) := by decide +kernel
theorem dX8_stepOn_63 : decode cX8_stepOn 63 = .ok (.dup2, 1) := by decide +kernel
theorem dX8_stepOn_64 : decode cX8_stepOn 64 = .ok (.iaload, 1) := by decide +kernel
theorem dX8_stepOn_65 : decode cX8_stepOn 65 = .ok (.iconst 1, 1) := by decide +kernel
theorem dX8_stepOn_66 : decode cX8_stepOn 66 = .ok (.iadd, 1) := by decide +kernel
theorem dX8_stepOn_67 : decode cX8_stepOn 67 = .ok (.iastore, 1) := by decide +kernel
theorem dX8_stepOn_68 : decode cX8_stepOn 68 = .ok (.return_, 1) := by decide +kernel
theorem dX8_finished_0 : decode cX8_finished 0 = .ok (.iconst 0, 1) := by decide +kernel
theorem dX8_finished_1 : decode cX8_finished 1 = .ok (.istore_n 1, 1) := by decide +kernel
theorem dX8_finished_2 : decode cX8_finished 2 = .ok (.iconst 0, 1) := by decide +kernel
theorem dX8_finished_3 : decode cX8_finished 3 = .ok (.istore_n 2, 1) := by decide +kernel
theorem dX8_finished_4 : decode cX8_finished 4 = .ok (.iload_n 2, 1) := by decide +kernel
theorem dX8_finished_5 : decode cX8_finished 5 = .ok (.aload_n 0, 1) := by decide +kernel
theorem dX8_finished_6 : decode cX8_finished 6 = .ok (.iconst 1, 1) := by decide +kernel
theorem dX8_finished_7 : decode cX8_finished 7 = .ok (.iaload, 1) := by decide +kernel
theorem dX8_finished_8 : decode cX8_finished 8 = .ok (.if_icmp .ge 25, 3) := by decide +kernel
theorem dX8_finished_11 : decode cX8_finished 11 = .ok (.iload_n 1, 1) := by decide +kernel
theorem dX8_finished_12 : decode cX8_finished 12 = .ok (.aload_n 0, 1) := by decide +kernel
theorem dX8_finished_13 : decode cX8_finished 13 = .ok (.iload_n 2, 1) := by decide +kernel
theorem dX8_finished_14 : decode cX8_finished 14 = .ok (.invokestatic 107, 3) := by decide +kernel
theorem dX8_finished_17 : decode cX8_finished 17 = .ok (.ifCond .eq 7, 3) := by decide +kernel
theorem dX8_finished_20 : decode cX8_finished 20 = .ok (.iconst 1, 1) := by decide +kernel
theorem dX8_finished_21 : decode cX8_finished 21 = .ok (.goto 4, 3) := by decide +kernel
theorem dX8_finished_24 : decode cX8_finished 24 = .ok (.iconst 0, 1) := by decide +kernel
theorem dX8_finished_25 : decode cX8_finished 25 = .ok (.iadd, 1) := by decide +kernel
theorem dX8_finished_26 : decode cX8_finished 26 = .ok (.istore_n 1, 1) := by decide +kernel
theorem dX8_finished_27 : decode cX8_finished 27 = .ok (.iinc 2 1, 3) := by decide +kernel
theorem dX8_finished_30 : decode cX8_finished 30 = .ok (.goto (-26), 3) := by decide +kernel
theorem dX8_finished_33 : decode cX8_finished 33 = .ok (.iload_n 1, 1) := by decide +kernel
theorem dX8_finished_34 : decode cX8_finished 34 = .ok (.ireturn, 1) := by decide +kernel
theorem dX8_sumOf_0 : decode cX8_sumOf 0 = .ok (.iconst 0, 1) := by decide +kernel
theorem dX8_sumOf_1 : decode cX8_sumOf 1 = .ok (.istore_n 2, 1) := by decide +kernel
theorem dX8_sumOf_2 : decode cX8_sumOf 2 = .ok (.iconst 0, 1) := by decide +kernel
theorem dX8_sumOf_3 : decode cX8_sumOf 3 = .ok (.istore_n 3, 1) := by decide +kernel
theorem dX8_sumOf_4 : decode cX8_sumOf 4 = .ok (.iload_n 3, 1) := by decide +kernel
theorem dX8_sumOf_5 : decode cX8_sumOf 5 = .ok (.aload_n 0, 1) := by decide +kernel
theorem dX8_sumOf_6 : decode cX8_sumOf 6 = .ok (.iconst 0, 1) := by decide +kernel
theorem dX8_sumOf_7 : decode cX8_sumOf 7 = .ok (.iaload, 1) := by decide +kernel
theorem dX8_sumOf_8 : decode cX8_sumOf 8 = .ok (.if_icmp .ge 20, 3) := by decide +kernel
theorem dX8_sumOf_11 : decode cX8_sumOf 11 = .ok (.iload_n 2, 1) := by decide +kernel
theorem dX8_sumOf_12 : decode cX8_sumOf 12 = .ok (.aload_n 0, 1) := by decide +kernel
theorem dX8_sumOf_13 : decode cX8_sumOf 13 = .ok (.iload_n 3, 1) := by decide +kernel
theorem dX8_sumOf_14 : decode cX8_sumOf 14 = .ok (.invokestatic 61, 3) := by decide +kernel
theorem dX8_sumOf_17 : decode cX8_sumOf 17 = .ok (.iload_n 1, 1) := by decide +kernel
theorem dX8_sumOf_18 : decode cX8_sumOf 18 = .ok (.iadd, 1) := by decide +kernel
theorem dX8_sumOf_19 : decode cX8_sumOf 19 = .ok (.iaload, 1) := by decide +kernel
theorem dX8_sumOf_20 : decode cX8_sumOf 20 = .ok (.iadd, 1) := by decide +kernel
theorem dX8_sumOf_21 : decode cX8_sumOf 21 = .ok (.istore_n 2, 1) := by decide +kernel
theorem dX8_sumOf_22 : decode cX8_sumOf 22 = .ok (.iinc 3 1, 3) := by decide +kernel
theorem dX8_sumOf_25 : decode cX8_sumOf 25 = .ok (.goto (-21), 3) := by decide +kernel
theorem dX8_sumOf_28 : decode cX8_sumOf 28 = .ok (.iload_n 2, 1) := by decide +kernel
theorem dX8_sumOf_29 : decode cX8_sumOf 29 = .ok (.ireturn, 1) := by decide +kernel
theorem dX8_progress_0 : decode cX8_progress 0 = .ok (.iconst 0, 1) := by decide +kernel
theorem dX8_progress_1 : decode cX8_progress 1 = .ok (.istore_n 1, 1) := by decide +kernel
theorem dX8_progress_2 : decode cX8_progress 2 = .ok (.iconst 0, 1) := by decide +kernel
theorem dX8_progress_3 : decode cX8_progress 3 = .ok (.istore_n 2, 1) := by decide +kernel
theorem dX8_progress_4 : decode cX8_progress 4 = .ok (.iload_n 2, 1) := by decide +kernel
theorem dX8_progress_5 : decode cX8_progress 5 = .ok (.aload_n 0, 1) := by decide +kernel
theorem dX8_progress_6 : decode cX8_progress 6 = .ok (.iconst 1, 1) := by decide +kernel
theorem dX8_progress_7 : decode cX8_progress 7 = .ok (.iaload, 1) := by decide +kernel
theorem dX8_progress_8 : decode cX8_progress 8 = .ok (.if_icmp .ge 20, 3) := by decide +kernel
theorem dX8_progress_11 : decode cX8_progress 11 = .ok (.iload_n 1, 1) := by decide +kernel
theorem dX8_progress_12 : decode cX8_progress 12 = .ok (.aload_n 0, 1) := by decide +kernel
theorem dX8_progress_13 : decode cX8_progress 13 = .ok (.iload_n 2, 1) := by decide +kernel
theorem dX8_progress_14 : decode cX8_progress 14 = .ok (.invokestatic 65, 3) := by decide +kernel
theorem dX8_progress_17 : decode cX8_progress 17 = .ok (.iconst 3, 1) := by decide +kernel
theorem dX8_progress_18 : decode cX8_progress 18 = .ok (.iadd, 1) := by decide +kernel
theorem dX8_progress_19 : decode cX8_progress 19 = .ok (.iaload, 1) := by decide +kernel
theorem dX8_progress_20 : decode cX8_progress 20 = .ok (.iadd, 1) := by decide +kernel
theorem dX8_progress_21 : decode cX8_progress 21 = .ok (.istore_n 1, 1) := by decide +kernel
theorem dX8_progress_22 : decode cX8_progress 22 = .ok (.iinc 2 1, 3) := by decide +kernel
theorem dX8_progress_25 : decode cX8_progress 25 = .ok (.goto (-21), 3) := by decide +kernel
theorem dX8_progress_28 : decode cX8_progress 28 = .ok (.iload_n 1, 1) := by decide +kernel
theorem dX8_progress_29 : decode cX8_progress 29 = .ok (.ireturn, 1) := by decide +kernel
theorem dX8_append_0 : decode cX8_append 0 = .ok (.aload_n 0, 1) := by decide +kernel
theorem dX8_append_1 : decode cX8_append 1 = .ok (.iload_n 1, 1) := by decide +kernel
theorem dX8_append_2 : decode cX8_append 2 = .ok (.i2l, 1) := by decide +kernel
theorem dX8_append_3 : decode cX8_append 3 = .ok (.lconst 0, 1) := by decide +kernel
theorem dX8_append_4 : decode cX8_append 4 = .ok (.ldc2_w 121, 3) := by decide +kernel
theorem dX8_append_7 : decode cX8_append 7 = .ok (.invokestatic 57, 3) := by decide +kernel
theorem dX8_append_10 : decode cX8_append 10 = .ok (.ifCond .ne 7, 3) := by decide +kernel
theorem dX8_append_13 : decode cX8_append 13 = .ok (.iconst 1, 1) := by decide +kernel
theorem dX8_append_14 : decode cX8_append 14 = .ok (.goto 17, 3) := by decide +kernel
theorem dX8_append_17 : decode cX8_append 17 = .ok (.aload_n 0, 1) := by decide +kernel
theorem dX8_append_18 : decode cX8_append 18 = .ok (.getfield 123, 3) := by decide +kernel
theorem dX8_append_21 : decode cX8_append 21 = .ok (.bipush 120, 2) := by decide +kernel
theorem dX8_append_23 : decode cX8_append 23 = .ok (.if_icmp .ne 7, 3) := by decide +kernel
theorem dX8_append_26 : decode cX8_append 26 = .ok (.iconst 2, 1) := by decide +kernel
theorem dX8_append_27 : decode cX8_append 27 = .ok (.goto 4, 3) := by decide +kernel
theorem dX8_append_30 : decode cX8_append 30 = .ok (.iconst 0, 1) := by decide +kernel
theorem dX8_append_31 : decode cX8_append 31 = .ok (.invokevirtual 126, 3) := by decide +kernel
theorem dX8_append_34 : decode cX8_append 34 = .ok (.ifCond .eq 5, 3) := by decide +kernel
theorem dX8_append_37 : decode cX8_append 37 = .ok (.iconst 0, 1) := by decide +kernel
theorem dX8_append_38 : decode cX8_append 38 = .ok (.ireturn, 1) := by decide +kernel
theorem dX8_append_39 : decode cX8_append 39 = .ok (.aload_n 0, 1) := by decide +kernel
theorem dX8_append_40 : decode cX8_append 40 = .ok (.getfield 7, 3) := by decide +kernel
theorem dX8_append_43 : decode cX8_append 43 = .ok (.aload_n 0, 1) := by decide +kernel
theorem dX8_append_44 : decode cX8_append 44 = .ok (.getfield 123, 3) := by decide +kernel
theorem dX8_append_47 : decode cX8_append 47 = .ok (.iload_n 1, 1) := by decide +kernel
theorem dX8_append_48 : decode cX8_append 48 = .ok (.iastore, 1) := by decide +kernel
theorem dX8_append_49 : decode cX8_append 49 = .ok (.aload_n 0, 1) := by decide +kernel
theorem dX8_append_50 : decode cX8_append 50 = .ok (.dup, 1) := by decide +kernel
theorem dX8_append_51 : decode cX8_append 51 = .ok (.getfield 123, 3) := by decide +kernel
theorem dX8_append_54 : decode cX8_append 54 = .ok (.iconst 1, 1) := by decide +kernel
theorem dX8_append_55 : decode cX8_append 55 = .ok (.iadd, 1) := by decide +kernel
theorem dX8_append_56 : decode cX8_append 56 = .ok (.putfield 123, 3) := by decide +kernel
theorem dX8_append_59 : decode cX8_append 59 = .ok (.aload_n 0, 1) := by decide +kernel
theorem dX8_append_60 : decode cX8_append 60 = .ok (.getfield 123, 3) := by decide +kernel
theorem dX8_append_63 : decode cX8_append 63 = .ok (.ireturn, 1) := by decide +kernel
theorem dX8_clearText_0 : decode cX8_clearText 0 = .ok (.aload_n 0, 1) := by decide +kernel
theorem dX8_clearText_1 : decode cX8_clearText 1 = .ok (.iconst 0, 1) := by decide +kernel
theorem dX8_clearText_2 : decode cX8_clearText 2 = .ok (.putfield 44, 3) := by decide +kernel
theorem dX8_clearText_5 : decode cX8_clearText 5 = .ok (.aload_n 0, 1) := by decide +kernel
theorem dX8_clearText_6 : decode cX8_clearText 6 = .ok (.getfield 123, 3) := by decide +kernel
theorem dX8_clearText_9 : decode cX8_clearText 9 = .ok (.istore_n 1, 1) := by decide +kernel
theorem dX8_clearText_10 : decode cX8_clearText 10 = .ok (.aload_n 0, 1) := by decide +kernel
theorem dX8_clearText_11 : decode cX8_clearText 11 = .ok (.iconst 0, 1) := by decide +kernel
theorem dX8_clearText_12 : decode cX8_clearText 12 = .ok (.putfield 123, 3) := by decide +kernel
theorem dX8_clearText_15 : decode cX8_clearText 15 = .ok (.iload_n 1, 1) := by decide +kernel
theorem dX8_clearText_16 : decode cX8_clearText 16 = .ok (.ireturn, 1) := by decide +kernel
theorem dX8_digit_0 : decode cX8_digit 0 = .ok (.aload_n 0, 1) := by decide +kernel
theorem dX8_digit_1 : decode cX8_digit 1 = .ok (.getfield 130, 3) := by decide +kernel
theorem dX8_digit_4 : decode cX8_digit 4 = .ok (.aload_n 0, 1) := by decide +kernel
theorem dX8_digit_5 : decode cX8_digit 5 = .ok (.getfield 123, 3) := by decide +kernel
theorem dX8_digit_8 : decode cX8_digit 8 = .ok (.if_icmp .ge 18, 3) := by decide +kernel
theorem dX8_digit_11 : decode cX8_digit 11 = .ok (.aload_n 0, 1) := by decide +kernel
theorem dX8_digit_12 : decode cX8_digit 12 = .ok (.getfield 7, 3) := by decide +kernel
theorem dX8_digit_15 : decode cX8_digit 15 = .ok (.aload_n 0, 1) := by decide +kernel
theorem dX8_digit_16 : decode cX8_digit 16 = .ok (.getfield 130, 3) := by decide +kernel
theorem dX8_digit_19 : decode cX8_digit 19 = .ok (.iaload, 1) := by decide +kernel
theorem dX8_digit_20 : decode cX8_digit 20 = .ok (.bipush 48, 2) := by decide +kernel
theorem dX8_digit_22 : decode cX8_digit 22 = .ok (.isub, 1) := by decide +kernel
theorem dX8_digit_23 : decode cX8_digit 23 = .ok (.goto 5, 3) := by decide +kernel
theorem dX8_digit_26 : decode cX8_digit 26 = .ok (.bipush (-9), 2) := by decide +kernel
theorem dX8_digit_28 : decode cX8_digit 28 = .ok (.istore_n 3, 1) := by decide +kernel
theorem dX8_digit_29 : decode cX8_digit 29 = .ok (.iload_n 3, 1) := by decide +kernel
theorem dX8_digit_30 : decode cX8_digit 30 = .ok (.i2l, 1) := by decide +kernel
theorem dX8_digit_31 : decode cX8_digit 31 = .ok (.iload_n 1, 1) := by decide +kernel
theorem dX8_digit_32 : decode cX8_digit 32 = .ok (.i2l, 1) := by decide +kernel
theorem dX8_digit_33 : decode cX8_digit 33 = .ok (.iload_n 2, 1) := by decide +kernel
theorem dX8_digit_34 : decode cX8_digit 34 = .ok (.i2l, 1) := by decide +kernel
theorem dX8_digit_35 : decode cX8_digit 35 = .ok (.invokestatic 57, 3) := by decide +kernel
theorem dX8_digit_38 : decode cX8_digit 38 = .ok (.ifCond .ne 6, 3) := by decide +kernel
theorem dX8_digit_41 : decode cX8_digit 41 = .ok (.bipush (-9), 2) := by decide +kernel
theorem dX8_digit_43 : decode cX8_digit 43 = .ok (.ireturn, 1) := by decide +kernel
theorem dX8_digit_44 : decode cX8_digit 44 = .ok (.aload_n 0, 1) := by decide +kernel
theorem dX8_digit_45 : decode cX8_digit 45 = .ok (.dup, 1) := by decide +kernel
theorem dX8_digit_46 : decode cX8_digit 46 = .ok (.getfield 130, 3) := by decide +kernel
theorem dX8_digit_49 : decode cX8_digit 49 = .ok (.iconst 1, 1) := by decide +kernel
theorem dX8_digit_50 : decode cX8_digit 50 = .ok (.iadd, 1) := by decide +kernel
theorem dX8_digit_51 : decode cX8_digit 51 = .ok (.putfield 130, 3) := by decide +kernel
theorem dX8_digit_54 : decode cX8_digit 54 = .ok (.iload_n 3, 1) := by decide +kernel
theorem dX8_digit_55 : decode cX8_digit 55 = .ok (.ireturn, 1) := by decide +kernel
theorem dX8_two_0 : decode cX8_two 0 = .ok (.aload_n 0, 1) := by decide +kernel
theorem dX8_two_1 : decode cX8_two 1 = .ok (.iload_n 1, 1) := by decide +kernel
theorem dX8_two_2 : decode cX8_two 2 = .ok (.bipush 10, 2) := by decide +kernel
theorem dX8_two_4 : decode cX8_two 4 = .ok (.idiv, 1) := by decide +kernel
theorem dX8_two_5 : decode cX8_two 5 = .ok (.iload_n 2, 1) := by decide +kernel
theorem dX8_two_6 : decode cX8_two 6 = .ok (.bipush 10, 2) := by decide +kernel
theorem dX8_two_8 : decode cX8_two 8 = .ok (.idiv, 1) := by decide +kernel
theorem dX8_two_9 : decode cX8_two 9 = .ok (.invokevirtual 133, 3) := by decide +kernel
theorem dX8_two_12 : decode cX8_two 12 = .ok (.istore_n 3, 1) := by decide +kernel
theorem dX8_two_13 : decode cX8_two 13 = .ok (.iload_n 3, 1) := by decide +kernel
theorem dX8_two_14 : decode cX8_two 14 = .ok (.bipush (-9), 2) := by decide +kernel
theorem dX8_two_16 : decode cX8_two 16 = .ok (.if_icmp .ne 8, 3) := by decide +kernel
theorem dX8_two_19 : decode cX8_two 19 = .ok (.bipush (-9), 2) := by decide +kernel
theorem dX8_two_21 : decode cX8_two 21 = .ok (.goto 40, 3) := by decide +kernel
theorem dX8_two_24 : decode cX8_two 24 = .ok (.aload_n 0, 1) := by decide +kernel
theorem dX8_two_25 : decode cX8_two 25 = .ok (.iload_n 3, 1) := by decide +kernel
theorem dX8_two_26 : decode cX8_two 26 = .ok (.iload_n 1, 1) := by decide +kernel
theorem dX8_two_27 : decode cX8_two 27 = .ok (.bipush 10, 2) := by decide +kernel
theorem dX8_two_29 : decode cX8_two 29 = .ok (.idiv, 1) := by decide +kernel
theorem dX8_two_30 : decode cX8_two 30 = .ok (.if_icmp .ne 10, 3) := by decide +kernel
theorem dX8_two_33 : decode cX8_two 33 = .ok (.iload_n 1, 1) := by decide +kernel
theorem dX8_two_34 : decode cX8_two 34 = .ok (.bipush 10, 2) := by decide +kernel
theorem dX8_two_36 : decode cX8_two 36 = .ok (.irem, 1) := by decide +kernel
theorem dX8_two_37 : decode cX8_two 37 = .ok (.goto 4, 3) := by decide +kernel
theorem dX8_two_40 : decode cX8_two 40 = .ok (.iconst 0, 1) := by decide +kernel
theorem dX8_two_41 : decode cX8_two 41 = .ok (.iload_n 3, 1) := by decide +kernel
theorem dX8_two_42 : decode cX8_two 42 = .ok (.iload_n 2, 1) := by decide +kernel
theorem dX8_two_43 : decode cX8_two 43 = .ok (.bipush 10, 2) := by decide +kernel
theorem dX8_two_45 : decode cX8_two 45 = .ok (.idiv, 1) := by decide +kernel
theorem dX8_two_46 : decode cX8_two 46 = .ok (.if_icmp .ne 10, 3) := by decide +kernel
theorem dX8_two_49 : decode cX8_two 49 = .ok (.iload_n 2, 1) := by decide +kernel
theorem dX8_two_50 : decode cX8_two 50 = .ok (.bipush 10, 2) := by decide +kernel
theorem dX8_two_52 : decode cX8_two 52 = .ok (.irem, 1) := by decide +kernel
theorem dX8_two_53 : decode cX8_two 53 = .ok (.goto 5, 3) := by decide +kernel
theorem dX8_two_56 : decode cX8_two 56 = .ok (.bipush 9, 2) := by decide +kernel
theorem dX8_two_58 : decode cX8_two 58 = .ok (.invokevirtual 133, 3) := by decide +kernel
theorem dX8_two_61 : decode cX8_two 61 = .ok (.istore 4, 2) := by decide +kernel
theorem dX8_two_63 : decode cX8_two 63 = .ok (.iload 4, 2) := by decide +kernel
theorem dX8_two_65 : decode cX8_two 65 = .ok (.bipush (-9), 2) := by decide +kernel
theorem dX8_two_67 : decode cX8_two 67 = .ok (.if_icmp .ne 8, 3) := by decide +kernel
theorem dX8_two_70 : decode cX8_two 70 = .ok (.bipush (-9), 2) := by decide +kernel
theorem dX8_two_72 : decode cX8_two 72 = .ok (.goto 10, 3) := by decide +kernel
theorem dX8_two_75 : decode cX8_two 75 = .ok (.bipush 10, 2) := by decide +kernel
theorem dX8_two_77 : decode cX8_two 77 = .ok (.iload_n 3, 1) := by decide +kernel
theorem dX8_two_78 : decode cX8_two 78 = .ok (.imul, 1) := by decide +kernel
theorem dX8_two_79 : decode cX8_two 79 = .ok (.iload 4, 2) := by decide +kernel
theorem dX8_two_81 : decode cX8_two 81 = .ok (.iadd, 1) := by decide +kernel
theorem dX8_two_82 : decode cX8_two 82 = .ok (.ireturn, 1) := by decide +kernel
theorem dX8_readAgent_0 : decode cX8_readAgent 0 = .ok (.aload_n 0, 1) := by decide +kernel
theorem dX8_readAgent_1 : decode cX8_readAgent 1 = .ok (.iconst 0, 1) := by decide +kernel
theorem dX8_readAgent_2 : decode cX8_readAgent 2 = .ok (.bipush 11, 2) := by decide +kernel
theorem dX8_readAgent_4 : decode cX8_readAgent 4 = .ok (.invokevirtual 136, 3) := by decide +kernel
theorem dX8_readAgent_7 : decode cX8_readAgent 7 = .ok (.istore_n 1, 1) := by decide +kernel
theorem dX8_readAgent_8 : decode cX8_readAgent 8 = .ok (.iload_n 1, 1) := by decide +kernel
theorem dX8_readAgent_9 : decode cX8_readAgent 9 = .ok (.bipush (-9), 2) := by decide +kernel
theorem dX8_readAgent_11 : decode cX8_readAgent 11 = .ok (.if_icmp .ne 8, 3) := by decide +kernel
theorem dX8_readAgent_14 : decode cX8_readAgent 14 = .ok (.bipush (-9), 2) := by decide +kernel
theorem dX8_readAgent_16 : decode cX8_readAgent 16 = .ok (.goto 10, 3) := by decide +kernel
theorem dX8_readAgent_19 : decode cX8_readAgent 19 = .ok (.aload_n 0, 1) := by decide +kernel
theorem dX8_readAgent_20 : decode cX8_readAgent 20 = .ok (.iconst 0, 1) := by decide +kernel
theorem dX8_readAgent_21 : decode cX8_readAgent 21 = .ok (.bipush 11, 2) := by decide +kernel
theorem dX8_readAgent_23 : decode cX8_readAgent 23 = .ok (.invokevirtual 136, 3) := by decide +kernel
theorem dX8_readAgent_26 : decode cX8_readAgent 26 = .ok (.istore_n 2, 1) := by decide +kernel
theorem dX8_readAgent_27 : decode cX8_readAgent 27 = .ok (.iload_n 2, 1) := by decide +kernel
theorem dX8_readAgent_28 : decode cX8_readAgent 28 = .ok (.bipush (-9), 2) := by decide +kernel
theorem dX8_readAgent_30 : decode cX8_readAgent 30 = .ok (.if_icmp .ne 8, 3) := by decide +kernel
theorem dX8_readAgent_33 : decode cX8_readAgent 33 = .ok (.bipush (-9), 2) := by decide +kernel
theorem dX8_readAgent_35 : decode cX8_readAgent 35 = .ok (.goto 10, 3) := by decide +kernel
theorem dX8_readAgent_38 : decode cX8_readAgent 38 = .ok (.aload_n 0, 1) := by decide +kernel
theorem dX8_readAgent_39 : decode cX8_readAgent 39 = .ok (.iconst 0, 1) := by decide +kernel
theorem dX8_readAgent_40 : decode cX8_readAgent 40 = .ok (.bipush 22, 2) := by decide +kernel
theorem dX8_readAgent_42 : decode cX8_readAgent 42 = .ok (.invokevirtual 136, 3) := by decide +kernel
theorem dX8_readAgent_45 : decode cX8_readAgent 45 = .ok (.istore_n 3, 1) := by decide +kernel
theorem dX8_readAgent_46 : decode cX8_readAgent 46 = .ok (.iload_n 3, 1) := by decide +kernel
theorem dX8_readAgent_47 : decode cX8_readAgent 47 = .ok (.bipush (-9), 2) := by decide +kernel
theorem dX8_readAgent_49 : decode cX8_readAgent 49 = .ok (.if_icmp .ne 5, 3) := by decide +kernel
theorem dX8_readAgent_52 : decode cX8_readAgent 52 = .ok (.iconst 0, 1) := by decide +kernel
theorem dX8_readAgent_53 : decode cX8_readAgent 53 = .ok (.ireturn, 1) := by decide +kernel
theorem dX8_readAgent_54 : decode cX8_readAgent 54 = .ok (.aload_n 0, 1) := by decide +kernel
theorem dX8_readAgent_55 : decode cX8_readAgent 55 = .ok (.getfield 13, 3) := by decide +kernel
theorem dX8_readAgent_58 : decode cX8_readAgent 58 = .ok (.iconst 0, 1) := by decide +kernel
theorem dX8_readAgent_59 : decode cX8_readAgent 59 = .ok (.iaload, 1) := by decide +kernel
theorem dX8_readAgent_60 : decode cX8_readAgent 60 = .ok (.invokestatic 61, 3) := by decide +kernel
theorem dX8_readAgent_63 : decode cX8_readAgent 63 = .ok (.istore 4, 2) := by decide +kernel
theorem dX8_readAgent_65 : decode cX8_readAgent 65 = .ok (.aload_n 0, 1) := by decide +kernel
theorem dX8_readAgent_66 : decode cX8_readAgent 66 = .ok (.getfield 13, 3) := by decide +kernel
theorem dX8_readAgent_69 : decode cX8_readAgent 69 = .ok (.iload 4, 2) := by decide +kernel
theorem dX8_readAgent_71 : decode cX8_readAgent 71 = .ok (.iconst 0, 1) := by decide +kernel
theorem dX8_readAgent_72 : decode cX8_readAgent 72 = .ok (.iadd, 1) := by decide +kernel
theorem dX8_readAgent_73 : decode cX8_readAgent 73 = .ok (.iload_n 1, 1) := by decide +kernel
theorem dX8_readAgent_74 : decode cX8_readAgent 74 = .ok (.iastore, 1) := by decide +kernel
theorem dX8_readAgent_75 : decode cX8_readAgent 75 = .ok (.aload_n 0, 1) := by decide +kernel
theorem dX8_readAgent_76 : decode cX8_readAgent 76 = .ok (.getfield 13, 3) := by decide +kernel
theorem dX8_readAgent_79 : decode cX8_readAgent 79 = .ok (.iload 4, 2) := by decide +kernel
theorem dX8_readAgent_81 : decode cX8_readAgent 81 = .ok (.iconst 1, 1) := by decide +kernel
theorem dX8_readAgent_82 : decode cX8_readAgent 82 = .ok (.iadd, 1) := by decide +kernel
theorem dX8_readAgent_83 : decode cX8_readAgent 83 = .ok (.iload_n 2, 1) := by decide +kernel
theorem dX8_readAgent_84 : decode cX8_readAgent 84 = .ok (.iastore, 1) := by decide +kernel
theorem dX8_readAgent_85 : decode cX8_readAgent 85 = .ok (.aload_n 0, 1) := by decide +kernel
theorem dX8_readAgent_86 : decode cX8_readAgent 86 = .ok (.getfield 13, 3) := by decide +kernel
theorem dX8_readAgent_89 : decode cX8_readAgent 89 = .ok (.iload 4, 2) := by decide +kernel
theorem dX8_readAgent_91 : decode cX8_readAgent 91 = .ok (.iconst 2, 1) := by decide +kernel
theorem dX8_readAgent_92 : decode cX8_readAgent 92 = .ok (.iadd, 1) := by decide +kernel
theorem dX8_readAgent_93 : decode cX8_readAgent 93 = .ok (.iload_n 3, 1) := by decide +kernel
theorem dX8_readAgent_94 : decode cX8_readAgent 94 = .ok (.iastore, 1) := by decide +kernel
theorem dX8_readAgent_95 : decode cX8_readAgent 95 = .ok (.aload_n 0, 1) := by decide +kernel
theorem dX8_readAgent_96 : decode cX8_readAgent 96 = .ok (.getfield 13, 3) := by decide +kernel
theorem dX8_readAgent_99 : decode cX8_readAgent 99 = .ok (.iload 4, 2) := by decide +kernel
theorem dX8_readAgent_101 : decode cX8_readAgent 101 = .ok (.iconst 3, 1) := by decide +kernel
theorem dX8_readAgent_102 : decode cX8_readAgent 102 = .ok (.iadd, 1) := by decide +kernel
theorem dX8_readAgent_103 : decode cX8_readAgent 103 = .ok (.iconst 1, 1) := by decide +kernel
theorem dX8_readAgent_104 : decode cX8_readAgent 104 = .ok (.iastore, 1) := by decide +kernel
theorem dX8_readAgent_105 : decode cX8_readAgent 105 = .ok (.aload_n 0, 1) := by decide +kernel
theorem dX8_readAgent_106 : decode cX8_readAgent 106 = .ok (.getfield 13, 3) := by decide +kernel
theorem dX8_readAgent_109 : decode cX8_readAgent 109 = .ok (.iconst 0, 1) := by decide +kernel
theorem dX8_readAgent_110 : decode cX8_readAgent 110 = .ok (.dup2, 1) := by decide +kernel
theorem dX8_readAgent_111 : decode cX8_readAgent 111 = .ok (.iaload, 1) := by decide +kernel
theorem dX8_readAgent_112 : decode cX8_readAgent 112 = .ok (.iconst 1, 1) := by decide +kernel
theorem dX8_readAgent_113 : decode cX8_readAgent 113 = .ok (.iadd, 1) := by decide +kernel
theorem dX8_readAgent_114 : decode cX8_readAgent 114 = .ok (.iastore, 1) := by decide +kernel
theorem dX8_readAgent_115 : decode cX8_readAgent 115 = .ok (.iconst 1, 1) := by decide +kernel
theorem dX8_readAgent_116 : decode cX8_readAgent 116 = .ok (.ireturn, 1) := by decide +kernel
theorem dX8_readTask_0 : decode cX8_readTask 0 = .ok (.aload_n 0, 1) := by decide +kernel
theorem dX8_readTask_1 : decode cX8_readTask 1 = .ok (.iconst 0, 1) := by decide +kernel
theorem dX8_readTask_2 : decode cX8_readTask 2 = .ok (.bipush 11, 2) := by decide +kernel
theorem dX8_readTask_4 : decode cX8_readTask 4 = .ok (.invokevirtual 136, 3) := by decide +kernel
theorem dX8_readTask_7 : decode cX8_readTask 7 = .ok (.istore_n 1, 1) := by decide +kernel
theorem dX8_readTask_8 : decode cX8_readTask 8 = .ok (.iload_n 1, 1) := by decide +kernel
theorem dX8_readTask_9 : decode cX8_readTask 9 = .ok (.bipush (-9), 2) := by decide +kernel
theorem dX8_readTask_11 : decode cX8_readTask 11 = .ok (.if_icmp .ne 8, 3) := by decide +kernel
theorem dX8_readTask_14 : decode cX8_readTask 14 = .ok (.bipush (-9), 2) := by decide +kernel
theorem dX8_readTask_16 : decode cX8_readTask 16 = .ok (.goto 10, 3) := by decide +kernel
theorem dX8_readTask_19 : decode cX8_readTask 19 = .ok (.aload_n 0, 1) := by decide +kernel
theorem dX8_readTask_20 : decode cX8_readTask 20 = .ok (.iconst 0, 1) := by decide +kernel
theorem dX8_readTask_21 : decode cX8_readTask 21 = .ok (.bipush 11, 2) := by decide +kernel
theorem dX8_readTask_23 : decode cX8_readTask 23 = .ok (.invokevirtual 136, 3) := by decide +kernel
theorem dX8_readTask_26 : decode cX8_readTask 26 = .ok (.istore_n 2, 1) := by decide +kernel
theorem dX8_readTask_27 : decode cX8_readTask 27 = .ok (.iload_n 2, 1) := by decide +kernel
theorem dX8_readTask_28 : decode cX8_readTask 28 = .ok (.bipush (-9), 2) := by decide +kernel
theorem dX8_readTask_30 : decode cX8_readTask 30 = .ok (.if_icmp .ne 8, 3) := by decide +kernel
theorem dX8_readTask_33 : decode cX8_readTask 33 = .ok (.bipush (-9), 2) := by decide +kernel
theorem dX8_readTask_35 : decode cX8_readTask 35 = .ok (.goto 10, 3) := by decide +kernel
theorem dX8_readTask_38 : decode cX8_readTask 38 = .ok (.aload_n 0, 1) := by decide +kernel
theorem dX8_readTask_39 : decode cX8_readTask 39 = .ok (.iconst 1, 1) := by decide +kernel
theorem dX8_readTask_40 : decode cX8_readTask 40 = .ok (.bipush 9, 2) := by decide +kernel
theorem dX8_readTask_42 : decode cX8_readTask 42 = .ok (.invokevirtual 133, 3) := by decide +kernel
theorem dX8_readTask_45 : decode cX8_readTask 45 = .ok (.istore_n 3, 1) := by decide +kernel
theorem dX8_readTask_46 : decode cX8_readTask 46 = .ok (.iload_n 3, 1) := by decide +kernel
theorem dX8_readTask_47 : decode cX8_readTask 47 = .ok (.bipush (-9), 2) := by decide +kernel
theorem dX8_readTask_49 : decode cX8_readTask 49 = .ok (.if_icmp .ne 5, 3) := by decide +kernel
theorem dX8_readTask_52 : decode cX8_readTask 52 = .ok (.iconst 0, 1) := by decide +kernel
theorem dX8_readTask_53 : decode cX8_readTask 53 = .ok (.ireturn, 1) := by decide +kernel
theorem dX8_readTask_54 : decode cX8_readTask 54 = .ok (.aload_n 0, 1) := by decide +kernel
theorem dX8_readTask_55 : decode cX8_readTask 55 = .ok (.getfield 13, 3) := by decide +kernel
theorem dX8_readTask_58 : decode cX8_readTask 58 = .ok (.iconst 1, 1) := by decide +kernel
theorem dX8_readTask_59 : decode cX8_readTask 59 = .ok (.iaload, 1) := by decide +kernel
theorem dX8_readTask_60 : decode cX8_readTask 60 = .ok (.invokestatic 65, 3) := by decide +kernel
theorem dX8_readTask_63 : decode cX8_readTask 63 = .ok (.istore 4, 2) := by decide +kernel
theorem dX8_readTask_65 : decode cX8_readTask 65 = .ok (.aload_n 0, 1) := by decide +kernel
theorem dX8_readTask_66 : decode cX8_readTask 66 = .ok (.getfield 13, 3) := by decide +kernel
theorem dX8_readTask_69 : decode cX8_readTask 69 = .ok (.iload 4, 2) := by decide +kernel
theorem dX8_readTask_71 : decode cX8_readTask 71 = .ok (.iconst 0, 1) := by decide +kernel
theorem dX8_readTask_72 : decode cX8_readTask 72 = .ok (.iadd, 1) := by decide +kernel
theorem dX8_readTask_73 : decode cX8_readTask 73 = .ok (.iload_n 1, 1) := by decide +kernel
theorem dX8_readTask_74 : decode cX8_readTask 74 = .ok (.iastore, 1) := by decide +kernel
theorem dX8_readTask_75 : decode cX8_readTask 75 = .ok (.aload_n 0, 1) := by decide +kernel
theorem dX8_readTask_76 : decode cX8_readTask 76 = .ok (.getfield 13, 3) := by decide +kernel
theorem dX8_readTask_79 : decode cX8_readTask 79 = .ok (.iload 4, 2) := by decide +kernel
theorem dX8_readTask_81 : decode cX8_readTask 81 = .ok (.iconst 1, 1) := by decide +kernel
theorem dX8_readTask_82 : decode cX8_readTask 82 = .ok (.iadd, 1) := by decide +kernel
theorem dX8_readTask_83 : decode cX8_readTask 83 = .ok (.iload_n 2, 1) := by decide +kernel
theorem dX8_readTask_84 : decode cX8_readTask 84 = .ok (.iastore, 1) := by decide +kernel
theorem dX8_readTask_85 : decode cX8_readTask 85 = .ok (.aload_n 0, 1) := by decide +kernel
theorem dX8_readTask_86 : decode cX8_readTask 86 = .ok (.getfield 13, 3) := by decide +kernel
theorem dX8_readTask_89 : decode cX8_readTask 89 = .ok (.iload 4, 2) := by decide +kernel
theorem dX8_readTask_91 : decode cX8_readTask 91 = .ok (.iconst 2, 1) := by decide +kernel
theorem dX8_readTask_92 : decode cX8_readTask 92 = .ok (.iadd, 1) := by decide +kernel
theorem dX8_readTask_93 : decode cX8_readTask 93 = .ok (.iload_n 3, 1) := by decide +kernel
theorem dX8_readTask_94 : decode cX8_readTask 94 = .ok (.iastore, 1) := by decide +kernel
theorem dX8_readTask_95 : decode cX8_readTask 95 = .ok (.aload_n 0, 1) := by decide +kernel
theorem dX8_readTask_96 : decode cX8_readTask 96 = .ok (.getfield 13, 3) := by decide +kernel
theorem dX8_readTask_99 : decode cX8_readTask 99 = .ok (.iconst 1, 1) := by decide +kernel
theorem dX8_readTask_100 : decode cX8_readTask 100 = .ok (.dup2, 1) := by decide +kernel
theorem dX8_readTask_101 : decode cX8_readTask 101 = .ok (.iaload, 1) := by decide +kernel
theorem dX8_readTask_102 : decode cX8_readTask 102 = .ok (.iconst 1, 1) := by decide +kernel
theorem dX8_readTask_103 : decode cX8_readTask 103 = .ok (.iadd, 1) := by decide +kernel
theorem dX8_readTask_104 : decode cX8_readTask 104 = .ok (.iastore, 1) := by decide +kernel
theorem dX8_readTask_105 : decode cX8_readTask 105 = .ok (.iconst 1, 1) := by decide +kernel
theorem dX8_readTask_106 : decode cX8_readTask 106 = .ok (.ireturn, 1) := by decide +kernel
theorem dX8_readText_0 : decode cX8_readText 0 = .ok (.iconst 0, 1) := by decide +kernel
theorem dX8_readText_1 : decode cX8_readText 1 = .ok (.istore_n 1, 1) := by decide +kernel
theorem dX8_readText_2 : decode cX8_readText 2 = .ok (.iload_n 1, 1) := by decide +kernel
theorem dX8_readText_3 : decode cX8_readText 3 = .ok (.sipush 264, 3) := by decide +kernel
theorem dX8_readText_6 : decode cX8_readText 6 = .ok (.if_icmp .ge 16, 3) := by decide +kernel
theorem dX8_readText_9 : decode cX8_readText 9 = .ok (.aload_n 0, 1) := by decide +kernel
theorem dX8_readText_10 : decode cX8_readText 10 = .ok (.getfield 13, 3) := by decide +kernel
theorem dX8_readText_13 : decode cX8_readText 13 = .ok (.iload_n 1, 1) := by decide +kernel
theorem dX8_readText_14 : decode cX8_readText 14 = .ok (.iconst 0, 1) := by decide +kernel
theorem dX8_readText_15 : decode cX8_readText 15 = .ok (.iastore, 1) := by decide +kernel
theorem dX8_readText_16 : decode cX8_readText 16 = .ok (.iinc 1 1, 3) := by decide +kernel
theorem dX8_readText_19 : decode cX8_readText 19 = .ok (.goto (-17), 3) := by decide +kernel
theorem dX8_readText_22 : decode cX8_readText 22 = .ok (.aload_n 0, 1) := by decide +kernel
theorem dX8_readText_23 : decode cX8_readText 23 = .ok (.iconst 0, 1) := by decide +kernel
theorem dX8_readText_24 : decode cX8_readText 24 = .ok (.putfield 130, 3) := by decide +kernel
theorem dX8_readText_27 : decode cX8_readText 27 = .ok (.aload_n 0, 1) := by decide +kernel
theorem dX8_readText_28 : decode cX8_readText 28 = .ok (.getfield 123, 3) := by decide +kernel
theorem dX8_readText_31 : decode cX8_readText 31 = .ok (.ifCond .eq 14, 3) := by decide +kernel
theorem dX8_readText_34 : decode cX8_readText 34 = .ok (.aload_n 0, 1) := by decide +kernel
theorem dX8_readText_35 : decode cX8_readText 35 = .ok (.getfield 7, 3) := by decide +kernel
theorem dX8_readText_38 : decode cX8_readText 38 = .ok (.iconst 0, 1) := by decide +kernel
theorem dX8_readText_39 : decode cX8_readText 39 = .ok (.iaload, 1) := by decide +kernel
theorem dX8_readText_40 : decode cX8_readText 40 = .ok (.bipush 67, 2) := by decide +kernel
theorem dX8_readText_42 : decode cX8_readText 42 = .ok (.if_icmp .eq 5, 3) := by decide +kernel
theorem dX8_readText_45 : decode cX8_readText 45 = .ok (.iconst 0, 1) := by decide +kernel
theorem dX8_readText_46 : decode cX8_readText 46 = .ok (.ireturn, 1) := by decide +kernel
theorem dX8_readText_47 : decode cX8_readText 47 = .ok (.aload_n 0, 1) := by decide +kernel
theorem dX8_readText_48 : decode cX8_readText 48 = .ok (.iconst 1, 1) := by decide +kernel
theorem dX8_readText_49 : decode cX8_readText 49 = .ok (.putfield 130, 3) := by decide +kernel
theorem dX8_readText_52 : decode cX8_readText 52 = .ok (.aload_n 0, 1) := by decide +kernel
theorem dX8_readText_53 : decode cX8_readText 53 = .ok (.iconst 1, 1) := by decide +kernel
theorem dX8_readText_54 : decode cX8_readText 54 = .ok (.bipush 20, 2) := by decide +kernel
theorem dX8_readText_56 : decode cX8_readText 56 = .ok (.invokevirtual 136, 3) := by decide +kernel
theorem dX8_readText_59 : decode cX8_readText 59 = .ok (.istore_n 1, 1) := by decide +kernel
theorem dX8_readText_60 : decode cX8_readText 60 = .ok (.iload_n 1, 1) := by decide +kernel
theorem dX8_readText_61 : decode cX8_readText 61 = .ok (.bipush (-9), 2) := by decide +kernel
theorem dX8_readText_63 : decode cX8_readText 63 = .ok (.if_icmp .ne 8, 3) := by decide +kernel
theorem dX8_readText_66 : decode cX8_readText 66 = .ok (.aload_n 0, 1) := by decide +kernel
theorem dX8_readText_67 : decode cX8_readText 67 = .ok (.getfield 130, 3) := by decide +kernel
theorem dX8_readText_70 : decode cX8_readText 70 = .ok (.ireturn, 1) := by decide +kernel
theorem dX8_readText_71 : decode cX8_readText 71 = .ok (.aload_n 0, 1) := by decide +kernel
theorem dX8_readText_72 : decode cX8_readText 72 = .ok (.getfield 13, 3) := by decide +kernel
theorem dX8_readText_75 : decode cX8_readText 75 = .ok (.iconst 3, 1) := by decide +kernel
theorem dX8_readText_76 : decode cX8_readText 76 = .ok (.iload_n 1, 1) := by decide +kernel
theorem dX8_readText_77 : decode cX8_readText 77 = .ok (.iastore, 1) := by decide +kernel
theorem dX8_readText_78 : decode cX8_readText 78 = .ok (.aload_n 0, 1) := by decide +kernel
theorem dX8_readText_79 : decode cX8_readText 79 = .ok (.getfield 130, 3) := by decide +kernel
theorem dX8_readText_82 : decode cX8_readText 82 = .ok (.aload_n 0, 1) := by decide +kernel
theorem dX8_readText_83 : decode cX8_readText 83 = .ok (.getfield 123, 3) := by decide +kernel
theorem dX8_readText_86 : decode cX8_readText 86 = .ok (.if_icmp .ge 103, 3) := by decide +kernel
theorem dX8_readText_89 : decode cX8_readText 89 = .ok (.aload_n 0, 1) := by decide +kernel
theorem dX8_readText_90 : decode cX8_readText 90 = .ok (.getfield 7, 3) := by decide +kernel
theorem dX8_readText_93 : decode cX8_readText 93 = .ok (.aload_n 0, 1) := by decide +kernel
theorem dX8_readText_94 : decode cX8_readText 94 = .ok (.getfield 130, 3) := by decide +kernel
theorem dX8_readText_97 : decode cX8_readText 97 = .ok (.iaload, 1) := by decide +kernel
theorem dX8_readText_98 : decode cX8_readText 98 = .ok (.istore_n 2, 1) := by decide +kernel
theorem dX8_readText_99 : decode cX8_readText 99 = .ok (.iload_n 2, 1) := by decide +kernel
theorem dX8_readText_100 : decode cX8_readText 100 = .ok (.bipush 97, 2) := by decide +kernel
theorem dX8_readText_102 : decode cX8_readText 102 = .ok (.if_icmp .ne 14, 3) := by decide +kernel
theorem dX8_readText_105 : decode cX8_readText 105 = .ok (.aload_n 0, 1) := by decide +kernel
theorem dX8_readText_106 : decode cX8_readText 106 = .ok (.getfield 13, 3) := by decide +kernel
theorem dX8_readText_109 : decode cX8_readText 109 = .ok (.iconst 0, 1) := by decide +kernel
theorem dX8_readText_110 : decode cX8_readText 110 = .ok (.iaload, 1) := by decide +kernel
theorem dX8_readText_111 : decode cX8_readText 111 = .ok (.bipush 6, 2) := by decide +kernel
theorem dX8_readText_113 : decode cX8_readText 113 = .ok (.if_icmp .lt 20, 3) := by decide +kernel
theorem dX8_readText_116 : decode cX8_readText 116 = .ok (.iload_n 2, 1) := by decide +kernel
theorem dX8_readText_117 : decode cX8_readText 117 = .ok (.bipush 116, 2) := by decide +kernel
theorem dX8_readText_119 : decode cX8_readText 119 = .ok (.if_icmp .ne 18, 3) := by decide +kernel
theorem dX8_readText_122 : decode cX8_readText 122 = .ok (.aload_n 0, 1) := by decide +kernel
theorem dX8_readText_123 : decode cX8_readText 123 = .ok (.getfield 13, 3) := by decide +kernel
theorem dX8_readText_126 : decode cX8_readText 126 = .ok (.iconst 1, 1) := by decide +kernel
theorem dX8_readText_127 : decode cX8_readText 127 = .ok (.iaload, 1) := by decide +kernel
theorem dX8_readText_128 : decode cX8_readText 128 = .ok (.bipush 8, 2) := by decide +kernel
theorem dX8_readText_130 : decode cX8_readText 130 = .ok (.if_icmp .ge 7, 3) := by decide +kernel
theorem dX8_readText_133 : decode cX8_readText 133 = .ok (.iconst 1, 1) := by decide +kernel
theorem dX8_readText_134 : decode cX8_readText 134 = .ok (.goto 4, 3) := by decide +kernel
theorem dX8_readText_137 : decode cX8_readText 137 = .ok (.iconst 0, 1) := by decide +kernel
theorem dX8_readText_138 : decode cX8_readText 138 = .ok (.istore_n 3, 1) := by decide +kernel
theorem dX8_readText_139 : decode cX8_readText 139 = .ok (.iload_n 3, 1) := by decide +kernel
theorem dX8_readText_140 : decode cX8_readText 140 = .ok (.ifCond .ne 8, 3) := by decide +kernel
theorem dX8_readText_143 : decode cX8_readText 143 = .ok (.aload_n 0, 1) := by decide +kernel
theorem dX8_readText_144 : decode cX8_readText 144 = .ok (.getfield 130, 3) := by decide +kernel
theorem dX8_readText_147 : decode cX8_readText 147 = .ok (.ireturn, 1) := by decide +kernel
theorem dX8_readText_148 : decode cX8_readText 148 = .ok (.aload_n 0, 1) := by decide +kernel
theorem dX8_readText_149 : decode cX8_readText 149 = .ok (.dup, 1) := by decide +kernel
theorem dX8_readText_150 : decode cX8_readText 150 = .ok (.getfield 130, 3) := by decide +kernel
theorem dX8_readText_153 : decode cX8_readText 153 = .ok (.iconst 1, 1) := by decide +kernel
theorem dX8_readText_154 : decode cX8_readText 154 = .ok (.iadd, 1) := by decide +kernel
theorem dX8_readText_155 : decode cX8_readText 155 = .ok (.putfield 130, 3) := by decide +kernel
theorem dX8_readText_158 : decode cX8_readText 158 = .ok (.iload_n 2, 1) := by decide +kernel
theorem dX8_readText_159 : decode cX8_readText 159 = .ok (.bipush 97, 2) := by decide +kernel
theorem dX8_readText_161 : decode cX8_readText 161 = .ok (.if_icmp .ne 13, 3) := by decide +kernel
theorem dX8_readText_164 : decode cX8_readText 164 = .ok (.aload_n 0, 1) := by decide +kernel
theorem dX8_readText_165 : decode cX8_readText 165 = .ok (.invokevirtual 139, 3) := by decide +kernel
theorem dX8_readText_168 : decode cX8_readText 168 = .ok (.ifCond .ne 18, 3) := by decide +kernel
theorem dX8_readText_171 : decode cX8_readText 171 = .ok (.goto 10, 3) := by decide +kernel
theorem dX8_readText_174 : decode cX8_readText 174 = .ok (.aload_n 0, 1) := by decide +kernel
theorem dX8_readText_175 : decode cX8_readText 175 = .ok (.invokevirtual 143, 3) := by decide +kernel
theorem dX8_readText_178 : decode cX8_readText 178 = .ok (.ifCond .ne 8, 3) := by decide +kernel
theorem dX8_readText_181 : decode cX8_readText 181 = .ok (.aload_n 0, 1) := by decide +kernel
theorem dX8_readText_182 : decode cX8_readText 182 = .ok (.getfield 130, 3) := by decide +kernel
theorem dX8_readText_185 : decode cX8_readText 185 = .ok (.ireturn, 1) := by decide +kernel
theorem dX8_readText_186 : decode cX8_readText 186 = .ok (.goto (-108), 3) := by decide +kernel
theorem dX8_readText_189 : decode cX8_readText 189 = .ok (.bipush (-9), 2) := by decide +kernel
theorem dX8_readText_191 : decode cX8_readText 191 = .ok (.ireturn, 1) := by decide +kernel
theorem dX8_errorPosition_0 : decode cX8_errorPosition 0 = .ok (.aload_n 0, 1) := by decide +kernel
theorem dX8_errorPosition_1 : decode cX8_errorPosition 1 = .ok (.iconst 0, 1) := by decide +kernel
theorem dX8_errorPosition_2 : decode cX8_errorPosition 2 = .ok (.putfield 44, 3) := by decide +kernel
theorem dX8_errorPosition_5 : decode cX8_errorPosition 5 = .ok (.aload_n 0, 1) := by decide +kernel
theorem dX8_errorPosition_6 : decode cX8_errorPosition 6 = .ok (.invokevirtual 146, 3) := by decide +kernel
theorem dX8_errorPosition_9 : decode cX8_errorPosition 9 = .ok (.ireturn, 1) := by decide +kernel
theorem dX8_load_0 : decode cX8_load 0 = .ok (.aload_n 0, 1) := by decide +kernel
theorem dX8_load_1 : decode cX8_load 1 = .ok (.aload_n 0, 1) := by decide +kernel
theorem dX8_load_2 : decode cX8_load 2 = .ok (.invokevirtual 146, 3) := by decide +kernel
theorem dX8_load_5 : decode cX8_load 5 = .ok (.bipush (-9), 2) := by decide +kernel
theorem dX8_load_7 : decode cX8_load 7 = .ok (.if_icmp .ne 7, 3) := by decide +kernel
theorem dX8_load_10 : decode cX8_load 10 = .ok (.iconst 0, 1) := by decide +kernel
theorem dX8_load_11 : decode cX8_load 11 = .ok (.goto 4, 3) := by decide +kernel
theorem dX8_load_14 : decode cX8_load 14 = .ok (.iconst 1, 1) := by decide +kernel
theorem dX8_load_15 : decode cX8_load 15 = .ok (.invokevirtual 126, 3) := by decide +kernel
theorem dX8_load_18 : decode cX8_load 18 = .ok (.ifCond .eq 5, 3) := by decide +kernel
theorem dX8_load_21 : decode cX8_load 21 = .ok (.iconst 0, 1) := by decide +kernel
theorem dX8_load_22 : decode cX8_load 22 = .ok (.ireturn, 1) := by decide +kernel
theorem dX8_load_23 : decode cX8_load 23 = .ok (.aload_n 0, 1) := by decide +kernel
theorem dX8_load_24 : decode cX8_load 24 = .ok (.getfield 13, 3) := by decide +kernel
theorem dX8_load_27 : decode cX8_load 27 = .ok (.iconst 0, 1) := by decide +kernel
theorem dX8_load_28 : decode cX8_load 28 = .ok (.aload_n 0, 1) := by decide +kernel
theorem dX8_load_29 : decode cX8_load 29 = .ok (.getfield 16, 3) := by decide +kernel
theorem dX8_load_32 : decode cX8_load 32 = .ok (.iconst 0, 1) := by decide +kernel
theorem dX8_load_33 : decode cX8_load 33 = .ok (.sipush 264, 3) := by decide +kernel
theorem dX8_load_36 : decode cX8_load 36 = .ok (.invokestatic 53, 3) := by decide +kernel
theorem dX8_load_39 : decode cX8_load 39 = .ok (.aload_n 0, 1) := by decide +kernel
theorem dX8_load_40 : decode cX8_load 40 = .ok (.iconst 0, 1) := by decide +kernel
theorem dX8_load_41 : decode cX8_load 41 = .ok (.putfield 50, 3) := by decide +kernel
theorem dX8_load_44 : decode cX8_load 44 = .ok (.aload_n 0, 1) := by decide +kernel
theorem dX8_load_45 : decode cX8_load 45 = .ok (.getfield 31, 3) := by decide +kernel
theorem dX8_load_48 : decode cX8_load 48 = .ok (.iconst 0, 1) := by decide +kernel
theorem dX8_load_49 : decode cX8_load 49 = .ok (.iconst 0, 1) := by decide +kernel
theorem dX8_load_50 : decode cX8_load 50 = .ok (.bastore, 1) := by decide +kernel
theorem dX8_load_51 : decode cX8_load 51 = .ok (.aload_n 0, 1) := by decide +kernel
theorem dX8_load_52 : decode cX8_load 52 = .ok (.getfield 31, 3) := by decide +kernel
theorem dX8_load_55 : decode cX8_load 55 = .ok (.iconst 1, 1) := by decide +kernel
theorem dX8_load_56 : decode cX8_load 56 = .ok (.iconst 0, 1) := by decide +kernel
theorem dX8_load_57 : decode cX8_load 57 = .ok (.bastore, 1) := by decide +kernel
theorem dX8_load_58 : decode cX8_load 58 = .ok (.aload_n 0, 1) := by decide +kernel
theorem dX8_load_59 : decode cX8_load 59 = .ok (.getfield 16, 3) := by decide +kernel
theorem dX8_load_62 : decode cX8_load 62 = .ok (.iconst 0, 1) := by decide +kernel
theorem dX8_load_63 : decode cX8_load 63 = .ok (.iaload, 1) := by decide +kernel
theorem dX8_load_64 : decode cX8_load 64 = .ok (.ireturn, 1) := by decide +kernel
theorem dX8_about_0 : decode cX8_about 0 = .ok (.aload_n 0, 1) := by decide +kernel
theorem dX8_about_1 : decode cX8_about 1 = .ok (.iload_n 1, 1) := by decide +kernel
theorem dX8_about_2 : decode cX8_about 2 = .ok (.i2l, 1) := by decide +kernel
theorem dX8_about_3 : decode cX8_about 3 = .ok (.lconst 0, 1) := by decide +kernel
theorem dX8_about_4 : decode cX8_about 4 = .ok (.ldc2_w 150, 3) := by decide +kernel
theorem dX8_about_7 : decode cX8_about 7 = .ok (.invokestatic 57, 3) := by decide +kernel
theorem dX8_about_10 : decode cX8_about 10 = .ok (.ifCond .eq 7, 3) := by decide +kernel
theorem dX8_about_13 : decode cX8_about 13 = .ok (.iconst 0, 1) := by decide +kernel
theorem dX8_about_14 : decode cX8_about 14 = .ok (.goto 4, 3) := by decide +kernel
theorem dX8_about_17 : decode cX8_about 17 = .ok (.iconst 1, 1) := by decide +kernel
theorem dX8_about_18 : decode cX8_about 18 = .ok (.invokevirtual 126, 3) := by decide +kernel
theorem dX8_about_21 : decode cX8_about 21 = .ok (.ifCond .eq 5, 3) := by decide +kernel
theorem dX8_about_24 : decode cX8_about 24 = .ok (.iconst 0, 1) := by decide +kernel
theorem dX8_about_25 : decode cX8_about 25 = .ok (.ireturn, 1) := by decide +kernel
theorem dX8_about_26 : decode cX8_about 26 = .ok (.iload_n 1, 1) := by decide +kernel
theorem dX8_about_27 : decode cX8_about 27 = .ok (.tableswitch 98 4 7 #[29, 37, 46, 55], 29) := by decide +kernel
theorem dX8_about_56 : decode cX8_about 56 = .ok (.aload_n 0, 1) := by decide +kernel
theorem dX8_about_57 : decode cX8_about 57 = .ok (.getfield 16, 3) := by decide +kernel
theorem dX8_about_60 : decode cX8_about 60 = .ok (.invokestatic 152, 3) := by decide +kernel
theorem dX8_about_63 : decode cX8_about 63 = .ok (.ireturn, 1) := by decide +kernel
theorem dX8_about_64 : decode cX8_about 64 = .ok (.aload_n 0, 1) := by decide +kernel
theorem dX8_about_65 : decode cX8_about 65 = .ok (.getfield 16, 3) := by decide +kernel
theorem dX8_about_68 : decode cX8_about 68 = .ok (.iconst 4, 1) := by decide +kernel
theorem dX8_about_69 : decode cX8_about 69 = .ok (.invokestatic 156, 3) := by decide +kernel
theorem dX8_about_72 : decode cX8_about 72 = .ok (.ireturn, 1) := by decide +kernel
theorem dX8_about_73 : decode cX8_about 73 = .ok (.aload_n 0, 1) := by decide +kernel
theorem dX8_about_74 : decode cX8_about 74 = .ok (.getfield 16, 3) := by decide +kernel
theorem dX8_about_77 : decode cX8_about 77 = .ok (.iconst 5, 1) := by decide +kernel
theorem dX8_about_78 : decode cX8_about 78 = .ok (.invokestatic 156, 3) := by decide +kernel
theorem dX8_about_81 : decode cX8_about 81 = .ok (.ireturn, 1) := by decide +kernel
theorem dX8_about_82 : decode cX8_about 82 = .ok (.iconst 0, 1) := by decide +kernel
theorem dX8_about_83 : decode cX8_about 83 = .ok (.istore_n 2, 1) := by decide +kernel
theorem dX8_about_84 : decode cX8_about 84 = .ok (.iconst 0, 1) := by decide +kernel
theorem dX8_about_85 : decode cX8_about 85 = .ok (.istore_n 3, 1) := by decide +kernel
theorem dX8_about_86 : decode cX8_about 86 = .ok (.iload_n 3, 1) := by decide +kernel
theorem dX8_about_87 : decode cX8_about 87 = .ok (.aload_n 0, 1) := by decide +kernel
theorem dX8_about_88 : decode cX8_about 88 = .ok (.getfield 16, 3) := by decide +kernel
theorem dX8_about_91 : decode cX8_about 91 = .ok (.iconst 0, 1) := by decide +kernel
theorem dX8_about_92 : decode cX8_about 92 = .ok (.iaload, 1) := by decide +kernel
theorem dX8_about_93 : decode cX8_about 93 = .ok (.if_icmp .ge 30, 3) := by decide +kernel
theorem dX8_about_96 : decode cX8_about 96 = .ok (.iload_n 2, 1) := by decide +kernel
theorem dX8_about_97 : decode cX8_about 97 = .ok (.aload_n 0, 1) := by decide +kernel
theorem dX8_about_98 : decode cX8_about 98 = .ok (.getfield 16, 3) := by decide +kernel
theorem dX8_about_101 : decode cX8_about 101 = .ok (.iload_n 3, 1) := by decide +kernel
theorem dX8_about_102 : decode cX8_about 102 = .ok (.invokestatic 71, 3) := by decide +kernel
theorem dX8_about_105 : decode cX8_about 105 = .ok (.ifCond .eq 9, 3) := by decide +kernel
theorem dX8_about_108 : decode cX8_about 108 = .ok (.iconst 1, 1) := by decide +kernel
theorem dX8_about_109 : decode cX8_about 109 = .ok (.iload_n 3, 1) := by decide +kernel
theorem dX8_about_110 : decode cX8_about 110 = .ok (.ishl, 1) := by decide +kernel
theorem dX8_about_111 : decode cX8_about 111 = .ok (.goto 4, 3) := by decide +kernel
theorem dX8_about_114 : decode cX8_about 114 = .ok (.iconst 0, 1) := by decide +kernel
theorem dX8_about_115 : decode cX8_about 115 = .ok (.ior, 1) := by decide +kernel
theorem dX8_about_116 : decode cX8_about 116 = .ok (.istore_n 2, 1) := by decide +kernel
theorem dX8_about_117 : decode cX8_about 117 = .ok (.iinc 3 1, 3) := by decide +kernel
theorem dX8_about_120 : decode cX8_about 120 = .ok (.goto (-34), 3) := by decide +kernel
theorem dX8_about_123 : decode cX8_about 123 = .ok (.iload_n 2, 1) := by decide +kernel
theorem dX8_about_124 : decode cX8_about 124 = .ok (.ireturn, 1) := by decide +kernel
theorem dX8_about_125 : decode cX8_about 125 = .ok (.aload_n 0, 1) := by decide +kernel
theorem dX8_about_126 : decode cX8_about 126 = .ok (.getfield 16, 3) := by decide +kernel
theorem dX8_about_129 : decode cX8_about 129 = .ok (.iload_n 1, 1) := by decide +kernel
theorem dX8_about_130 : decode cX8_about 130 = .ok (.iaload, 1) := by decide +kernel
theorem dX8_about_131 : decode cX8_about 131 = .ok (.ireturn, 1) := by decide +kernel
theorem dX8_agent_0 : decode cX8_agent 0 = .ok (.aload_n 0, 1) := by decide +kernel
theorem dX8_agent_1 : decode cX8_agent 1 = .ok (.aload_n 0, 1) := by decide +kernel
theorem dX8_agent_2 : decode cX8_agent 2 = .ok (.iload_n 1, 1) := by decide +kernel
theorem dX8_agent_3 : decode cX8_agent 3 = .ok (.invokevirtual 159, 3) := by decide +kernel
theorem dX8_agent_6 : decode cX8_agent 6 = .ok (.ifCond .ne 7, 3) := by decide +kernel
theorem dX8_agent_9 : decode cX8_agent 9 = .ok (.iconst 1, 1) := by decide +kernel
theorem dX8_agent_10 : decode cX8_agent 10 = .ok (.goto 20, 3) := by decide +kernel
theorem dX8_agent_13 : decode cX8_agent 13 = .ok (.iload_n 2, 1) := by decide +kernel
theorem dX8_agent_14 : decode cX8_agent 14 = .ok (.i2l, 1) := by decide +kernel
theorem dX8_agent_15 : decode cX8_agent 15 = .ok (.lconst 0, 1) := by decide +kernel
theorem dX8_agent_16 : decode cX8_agent 16 = .ok (.ldc2_w 150, 3) := by decide +kernel
theorem dX8_agent_19 : decode cX8_agent 19 = .ok (.invokestatic 57, 3) := by decide +kernel
theorem dX8_agent_22 : decode cX8_agent 22 = .ok (.ifCond .ne 7, 3) := by decide +kernel
theorem dX8_agent_25 : decode cX8_agent 25 = .ok (.iconst 2, 1) := by decide +kernel
theorem dX8_agent_26 : decode cX8_agent 26 = .ok (.goto 4, 3) := by decide +kernel
theorem dX8_agent_29 : decode cX8_agent 29 = .ok (.iconst 0, 1) := by decide +kernel
theorem dX8_agent_30 : decode cX8_agent 30 = .ok (.invokevirtual 126, 3) := by decide +kernel
theorem dX8_agent_33 : decode cX8_agent 33 = .ok (.ifCond .eq 5, 3) := by decide +kernel
theorem dX8_agent_36 : decode cX8_agent 36 = .ok (.iconst 0, 1) := by decide +kernel
theorem dX8_agent_37 : decode cX8_agent 37 = .ok (.ireturn, 1) := by decide +kernel
theorem dX8_agent_38 : decode cX8_agent 38 = .ok (.iload_n 1, 1) := by decide +kernel
theorem dX8_agent_39 : decode cX8_agent 39 = .ok (.invokestatic 61, 3) := by decide +kernel
theorem dX8_agent_42 : decode cX8_agent 42 = .ok (.istore_n 3, 1) := by decide +kernel
theorem dX8_agent_43 : decode cX8_agent 43 = .ok (.iload_n 2, 1) := by decide +kernel
theorem dX8_agent_44 : decode cX8_agent 44 = .ok (.tableswitch 111 4 7 #[32, 41, 50, 59], 32) := by decide +kernel
theorem dX8_agent_76 : decode cX8_agent 76 = .ok (.aload_n 0, 1) := by decide +kernel
theorem dX8_agent_77 : decode cX8_agent 77 = .ok (.getfield 16, 3) := by decide +kernel
theorem dX8_agent_80 : decode cX8_agent 80 = .ok (.iload_n 1, 1) := by decide +kernel
theorem dX8_agent_81 : decode cX8_agent 81 = .ok (.invokestatic 103, 3) := by decide +kernel
theorem dX8_agent_84 : decode cX8_agent 84 = .ok (.ireturn, 1) := by decide +kernel
theorem dX8_agent_85 : decode cX8_agent 85 = .ok (.aload_n 0, 1) := by decide +kernel
theorem dX8_agent_86 : decode cX8_agent 86 = .ok (.getfield 16, 3) := by decide +kernel
theorem dX8_agent_89 : decode cX8_agent 89 = .ok (.iload_n 3, 1) := by decide +kernel
theorem dX8_agent_90 : decode cX8_agent 90 = .ok (.iconst 4, 1) := by decide +kernel
theorem dX8_agent_91 : decode cX8_agent 91 = .ok (.iadd, 1) := by decide +kernel
theorem dX8_agent_92 : decode cX8_agent 92 = .ok (.iaload, 1) := by decide +kernel
theorem dX8_agent_93 : decode cX8_agent 93 = .ok (.ireturn, 1) := by decide +kernel
theorem dX8_agent_94 : decode cX8_agent 94 = .ok (.aload_n 0, 1) := by decide +kernel
theorem dX8_agent_95 : decode cX8_agent 95 = .ok (.getfield 16, 3) := by decide +kernel
theorem dX8_agent_98 : decode cX8_agent 98 = .ok (.iload_n 3, 1) := by decide +kernel
theorem dX8_agent_99 : decode cX8_agent 99 = .ok (.iconst 5, 1) := by decide +kernel
theorem dX8_agent_100 : decode cX8_agent 100 = .ok (.iadd, 1) := by decide +kernel
theorem dX8_agent_101 : decode cX8_agent 101 = .ok (.iaload, 1) := by decide +kernel
theorem dX8_agent_102 : decode cX8_agent 102 = .ok (.ireturn, 1) := by decide +kernel
theorem dX8_agent_103 : decode cX8_agent 103 = .ok (.iconst 0, 1) := by decide +kernel
theorem dX8_agent_104 : decode cX8_agent 104 = .ok (.istore 4, 2) := by decide +kernel
theorem dX8_agent_106 : decode cX8_agent 106 = .ok (.iconst 0, 1) := by decide +kernel
theorem dX8_agent_107 : decode cX8_agent 107 = .ok (.istore 5, 2) := by decide +kernel
theorem dX8_agent_109 : decode cX8_agent 109 = .ok (.iload 5, 2) := by decide +kernel
theorem dX8_agent_111 : decode cX8_agent 111 = .ok (.aload_n 0, 1) := by decide +kernel
theorem dX8_agent_112 : decode cX8_agent 112 = .ok (.getfield 16, 3) := by decide +kernel
theorem dX8_agent_115 : decode cX8_agent 115 = .ok (.iconst 0, 1) := by decide +kernel
theorem dX8_agent_116 : decode cX8_agent 116 = .ok (.iaload, 1) := by decide +kernel
theorem dX8_agent_117 : decode cX8_agent 117 = .ok (.if_icmp .ge 35, 3) := by decide +kernel
theorem dX8_agent_120 : decode cX8_agent 120 = .ok (.iload 4, 2) := by decide +kernel
theorem dX8_agent_122 : decode cX8_agent 122 = .ok (.aload_n 0, 1) := by decide +kernel
theorem dX8_agent_123 : decode cX8_agent 123 = .ok (.getfield 16, 3) := by decide +kernel
theorem dX8_agent_126 : decode cX8_agent 126 = .ok (.iload_n 1, 1) := by decide +kernel
theorem dX8_agent_127 : decode cX8_agent 127 = .ok (.iload 5, 2) := by decide +kernel
theorem dX8_agent_129 : decode cX8_agent 129 = .ok (.invokestatic 90, 3) := by decide +kernel
theorem dX8_agent_132 : decode cX8_agent 132 = .ok (.ifCond .eq 10, 3) := by decide +kernel
theorem dX8_agent_135 : decode cX8_agent 135 = .ok (.iconst 1, 1) := by decide +kernel
theorem dX8_agent_136 : decode cX8_agent 136 = .ok (.iload 5, 2) := by decide +kernel
theorem dX8_agent_138 : decode cX8_agent 138 = .ok (.ishl, 1) := by decide +kernel
theorem dX8_agent_139 : decode cX8_agent 139 = .ok (.goto 4, 3) := by decide +kernel
theorem dX8_agent_142 : decode cX8_agent 142 = .ok (.iconst 0, 1) := by decide +kernel
theorem dX8_agent_143 : decode cX8_agent 143 = .ok (.ior, 1) := by decide +kernel
theorem dX8_agent_144 : decode cX8_agent 144 = .ok (.istore 4, 2) := by decide +kernel
theorem dX8_agent_146 : decode cX8_agent 146 = .ok (.iinc 5 1, 3) := by decide +kernel
theorem dX8_agent_149 : decode cX8_agent 149 = .ok (.goto (-40), 3) := by decide +kernel
theorem dX8_agent_152 : decode cX8_agent 152 = .ok (.iload 4, 2) := by decide +kernel
theorem dX8_agent_154 : decode cX8_agent 154 = .ok (.ireturn, 1) := by decide +kernel
theorem dX8_agent_155 : decode cX8_agent 155 = .ok (.aload_n 0, 1) := by decide +kernel
theorem dX8_agent_156 : decode cX8_agent 156 = .ok (.getfield 16, 3) := by decide +kernel
theorem dX8_agent_159 : decode cX8_agent 159 = .ok (.iload_n 3, 1) := by decide +kernel
theorem dX8_agent_160 : decode cX8_agent 160 = .ok (.iload_n 2, 1) := by decide +kernel
theorem dX8_agent_161 : decode cX8_agent 161 = .ok (.iadd, 1) := by decide +kernel
theorem dX8_agent_162 : decode cX8_agent 162 = .ok (.iaload, 1) := by decide +kernel
theorem dX8_agent_163 : decode cX8_agent 163 = .ok (.ireturn, 1) := by decide +kernel
theorem dX8_claimers_0 : decode cX8_claimers 0 = .ok (.iconst 0, 1) := by decide +kernel
theorem dX8_claimers_1 : decode cX8_claimers 1 = .ok (.istore_n 2, 1) := by decide +kernel
theorem dX8_claimers_2 : decode cX8_claimers 2 = .ok (.iconst 0, 1) := by decide +kernel
theorem dX8_claimers_3 : decode cX8_claimers 3 = .ok (.istore_n 3, 1) := by decide +kernel
theorem dX8_claimers_4 : decode cX8_claimers 4 = .ok (.iload_n 3, 1) := by decide +kernel
theorem dX8_claimers_5 : decode cX8_claimers 5 = .ok (.aload_n 0, 1) := by decide +kernel
theorem dX8_claimers_6 : decode cX8_claimers 6 = .ok (.iconst 0, 1) := by decide +kernel
theorem dX8_claimers_7 : decode cX8_claimers 7 = .ok (.iaload, 1) := by decide +kernel
theorem dX8_claimers_8 : decode cX8_claimers 8 = .ok (.if_icmp .ge 36, 3) := by decide +kernel
theorem dX8_claimers_11 : decode cX8_claimers 11 = .ok (.iload_n 2, 1) := by decide +kernel
theorem dX8_claimers_12 : decode cX8_claimers 12 = .ok (.aload_n 0, 1) := by decide +kernel
theorem dX8_claimers_13 : decode cX8_claimers 13 = .ok (.iload_n 3, 1) := by decide +kernel
theorem dX8_claimers_14 : decode cX8_claimers 14 = .ok (.invokestatic 71, 3) := by decide +kernel
theorem dX8_claimers_17 : decode cX8_claimers 17 = .ok (.ifCond .eq 18, 3) := by decide +kernel
theorem dX8_claimers_20 : decode cX8_claimers 20 = .ok (.aload_n 0, 1) := by decide +kernel
theorem dX8_claimers_21 : decode cX8_claimers 21 = .ok (.iload_n 3, 1) := by decide +kernel
theorem dX8_claimers_22 : decode cX8_claimers 22 = .ok (.iload_n 1, 1) := by decide +kernel
theorem dX8_claimers_23 : decode cX8_claimers 23 = .ok (.invokestatic 87, 3) := by decide +kernel
theorem dX8_claimers_26 : decode cX8_claimers 26 = .ok (.ifCond .eq 9, 3) := by decide +kernel
theorem dX8_claimers_29 : decode cX8_claimers 29 = .ok (.iconst 1, 1) := by decide +kernel
theorem dX8_claimers_30 : decode cX8_claimers 30 = .ok (.iload_n 3, 1) := by decide +kernel
theorem dX8_claimers_31 : decode cX8_claimers 31 = .ok (.ishl, 1) := by decide +kernel
theorem dX8_claimers_32 : decode cX8_claimers 32 = .ok (.goto 4, 3) := by decide +kernel
theorem dX8_claimers_35 : decode cX8_claimers 35 = .ok (.iconst 0, 1) := by decide +kernel
theorem dX8_claimers_36 : decode cX8_claimers 36 = .ok (.ior, 1) := by decide +kernel
theorem dX8_claimers_37 : decode cX8_claimers 37 = .ok (.istore_n 2, 1) := by decide +kernel
theorem dX8_claimers_38 : decode cX8_claimers 38 = .ok (.iinc 3 1, 3) := by decide +kernel
theorem dX8_claimers_41 : decode cX8_claimers 41 = .ok (.goto (-37), 3) := by decide +kernel
theorem dX8_claimers_44 : decode cX8_claimers 44 = .ok (.iload_n 2, 1) := by decide +kernel
theorem dX8_claimers_45 : decode cX8_claimers 45 = .ok (.ireturn, 1) := by decide +kernel
theorem dX8_task_0 : decode cX8_task 0 = .ok (.aload_n 0, 1) := by decide +kernel
theorem dX8_task_1 : decode cX8_task 1 = .ok (.aload_n 0, 1) := by decide +kernel
theorem dX8_task_2 : decode cX8_task 2 = .ok (.iload_n 1, 1) := by decide +kernel
theorem dX8_task_3 : decode cX8_task 3 = .ok (.invokevirtual 162, 3) := by decide +kernel
theorem dX8_task_6 : decode cX8_task 6 = .ok (.ifCond .ne 7, 3) := by decide +kernel
theorem dX8_task_9 : decode cX8_task 9 = .ok (.iconst 1, 1) := by decide +kernel
theorem dX8_task_10 : decode cX8_task 10 = .ok (.goto 20, 3) := by decide +kernel
theorem dX8_task_13 : decode cX8_task 13 = .ok (.iload_n 2, 1) := by decide +kernel
theorem dX8_task_14 : decode cX8_task 14 = .ok (.i2l, 1) := by decide +kernel
theorem dX8_task_15 : decode cX8_task 15 = .ok (.lconst 0, 1) := by decide +kernel
theorem dX8_task_16 : decode cX8_task 16 = .ok (.ldc2_w 165, 3) := by decide +kernel
theorem dX8_task_19 : decode cX8_task 19 = .ok (.invokestatic 57, 3) := by decide +kernel
theorem dX8_task_22 : decode cX8_task 22 = .ok (.ifCond .ne 7, 3) := by decide +kernel
theorem dX8_task_25 : decode cX8_task 25 = .ok (.iconst 2, 1) := by decide +kernel
theorem dX8_task_26 : decode cX8_task 26 = .ok (.goto 4, 3) := by decide +kernel
theorem dX8_task_29 : decode cX8_task 29 = .ok (.iconst 0, 1) := by decide +kernel
theorem dX8_task_30 : decode cX8_task 30 = .ok (.invokevirtual 126, 3) := by decide +kernel
theorem dX8_task_33 : decode cX8_task 33 = .ok (.ifCond .eq 5, 3) := by decide +kernel
theorem dX8_task_36 : decode cX8_task 36 = .ok (.iconst 0, 1) := by decide +kernel
theorem dX8_task_37 : decode cX8_task 37 = .ok (.ireturn, 1) := by decide +kernel
theorem dX8_task_38 : decode cX8_task 38 = .ok (.iload_n 2, 1) := by decide +kernel
theorem dX8_task_39 : decode cX8_task 39 = .ok (.tableswitch 103 4 6 #[25, 42, 94], 25) := by decide +kernel
theorem dX8_task_64 : decode cX8_task 64 = .ok (.aload_n 0, 1) := by decide +kernel
theorem dX8_task_65 : decode cX8_task 65 = .ok (.getfield 16, 3) := by decide +kernel
theorem dX8_task_68 : decode cX8_task 68 = .ok (.iload_n 1, 1) := by decide +kernel
theorem dX8_task_69 : decode cX8_task 69 = .ok (.invokestatic 107, 3) := by decide +kernel
theorem dX8_task_72 : decode cX8_task 72 = .ok (.ifCond .eq 7, 3) := by decide +kernel
theorem dX8_task_75 : decode cX8_task 75 = .ok (.iconst 1, 1) := by decide +kernel
theorem dX8_task_76 : decode cX8_task 76 = .ok (.goto 4, 3) := by decide +kernel
theorem dX8_task_79 : decode cX8_task 79 = .ok (.iconst 0, 1) := by decide +kernel
theorem dX8_task_80 : decode cX8_task 80 = .ok (.ireturn, 1) := by decide +kernel
theorem dX8_task_81 : decode cX8_task 81 = .ok (.iconst 0, 1) := by decide +kernel
theorem dX8_task_82 : decode cX8_task 82 = .ok (.istore_n 3, 1) := by decide +kernel
theorem dX8_task_83 : decode cX8_task 83 = .ok (.iconst 0, 1) := by decide +kernel
theorem dX8_task_84 : decode cX8_task 84 = .ok (.istore 4, 2) := by decide +kernel
theorem dX8_task_86 : decode cX8_task 86 = .ok (.iload 4, 2) := by decide +kernel
theorem dX8_task_88 : decode cX8_task 88 = .ok (.aload_n 0, 1) := by decide +kernel
theorem dX8_task_89 : decode cX8_task 89 = .ok (.getfield 16, 3) := by decide +kernel
theorem dX8_task_92 : decode cX8_task 92 = .ok (.iconst 0, 1) := by decide +kernel
theorem dX8_task_93 : decode cX8_task 93 = .ok (.iaload, 1) := by decide +kernel
theorem dX8_task_94 : decode cX8_task 94 = .ok (.if_icmp .ge 37, 3) := by decide +kernel
theorem dX8_task_97 : decode cX8_task 97 = .ok (.iload_n 3, 1) := by decide +kernel
theorem dX8_task_98 : decode cX8_task 98 = .ok (.aload_n 0, 1) := by decide +kernel
theorem dX8_task_99 : decode cX8_task 99 = .ok (.getfield 16, 3) := by decide +kernel
theorem dX8_task_102 : decode cX8_task 102 = .ok (.iload 4, 2) := by decide +kernel
theorem dX8_task_104 : decode cX8_task 104 = .ok (.iload_n 1, 1) := by decide +kernel
theorem dX8_task_105 : decode cX8_task 105 = .ok (.invokestatic 83, 3) := by decide +kernel
theorem dX8_task_108 : decode cX8_task 108 = .ok (.iconst 0, 1) := by decide +kernel
theorem dX8_task_109 : decode cX8_task 109 = .ok (.iadd, 1) := by decide +kernel
theorem dX8_task_110 : decode cX8_task 110 = .ok (.iaload, 1) := by decide +kernel
theorem dX8_task_111 : decode cX8_task 111 = .ok (.iconst 2, 1) := by decide +kernel
theorem dX8_task_112 : decode cX8_task 112 = .ok (.if_icmp .ne 10, 3) := by decide +kernel
theorem dX8_task_115 : decode cX8_task 115 = .ok (.iconst 1, 1) := by decide +kernel
theorem dX8_task_116 : decode cX8_task 116 = .ok (.iload 4, 2) := by decide +kernel
theorem dX8_task_118 : decode cX8_task 118 = .ok (.ishl, 1) := by decide +kernel
theorem dX8_task_119 : decode cX8_task 119 = .ok (.goto 4, 3) := by decide +kernel
theorem dX8_task_122 : decode cX8_task 122 = .ok (.iconst 0, 1) := by decide +kernel
theorem dX8_task_123 : decode cX8_task 123 = .ok (.ior, 1) := by decide +kernel
theorem dX8_task_124 : decode cX8_task 124 = .ok (.istore_n 3, 1) := by decide +kernel
theorem dX8_task_125 : decode cX8_task 125 = .ok (.iinc 4 1, 3) := by decide +kernel
theorem dX8_task_128 : decode cX8_task 128 = .ok (.goto (-42), 3) := by decide +kernel
theorem dX8_task_131 : decode cX8_task 131 = .ok (.iload_n 3, 1) := by decide +kernel
theorem dX8_task_132 : decode cX8_task 132 = .ok (.ireturn, 1) := by decide +kernel
theorem dX8_task_133 : decode cX8_task 133 = .ok (.aload_n 0, 1) := by decide +kernel
theorem dX8_task_134 : decode cX8_task 134 = .ok (.getfield 16, 3) := by decide +kernel
theorem dX8_task_137 : decode cX8_task 137 = .ok (.iload_n 1, 1) := by decide +kernel
theorem dX8_task_138 : decode cX8_task 138 = .ok (.invokestatic 167, 3) := by decide +kernel
theorem dX8_task_141 : decode cX8_task 141 = .ok (.ireturn, 1) := by decide +kernel
theorem dX8_task_142 : decode cX8_task 142 = .ok (.aload_n 0, 1) := by decide +kernel
theorem dX8_task_143 : decode cX8_task 143 = .ok (.getfield 16, 3) := by decide +kernel
theorem dX8_task_146 : decode cX8_task 146 = .ok (.iload_n 1, 1) := by decide +kernel
theorem dX8_task_147 : decode cX8_task 147 = .ok (.invokestatic 65, 3) := by decide +kernel
theorem dX8_task_150 : decode cX8_task 150 = .ok (.iload_n 2, 1) := by decide +kernel
theorem dX8_task_151 : decode cX8_task 151 = .ok (.iadd, 1) := by decide +kernel
theorem dX8_task_152 : decode cX8_task 152 = .ok (.iaload, 1) := by decide +kernel
theorem dX8_task_153 : decode cX8_task 153 = .ok (.ireturn, 1) := by decide +kernel
theorem dX8_note__0 : decode cX8_note_ 0 = .ok (.aload_n 0, 1) := by decide +kernel
theorem dX8_note__1 : decode cX8_note_ 1 = .ok (.aload_n 0, 1) := by decide +kernel
theorem dX8_note__2 : decode cX8_note_ 2 = .ok (.iload_n 1, 1) := by decide +kernel
theorem dX8_note__3 : decode cX8_note_ 3 = .ok (.invokevirtual 159, 3) := by decide +kernel
theorem dX8_note__6 : decode cX8_note_ 6 = .ok (.ifCond .eq 11, 3) := by decide +kernel
theorem dX8_note__9 : decode cX8_note_ 9 = .ok (.aload_n 0, 1) := by decide +kernel
theorem dX8_note__10 : decode cX8_note_ 10 = .ok (.iload_n 2, 1) := by decide +kernel
theorem dX8_note__11 : decode cX8_note_ 11 = .ok (.invokevirtual 162, 3) := by decide +kernel
theorem dX8_note__14 : decode cX8_note_ 14 = .ok (.ifCond .ne 7, 3) := by decide +kernel
theorem dX8_note__17 : decode cX8_note_ 17 = .ok (.iconst 1, 1) := by decide +kernel
theorem dX8_note__18 : decode cX8_note_ 18 = .ok (.goto 20, 3) := by decide +kernel
theorem dX8_note__21 : decode cX8_note_ 21 = .ok (.iload_n 3, 1) := by decide +kernel
theorem dX8_note__22 : decode cX8_note_ 22 = .ok (.i2l, 1) := by decide +kernel
theorem dX8_note__23 : decode cX8_note_ 23 = .ok (.lconst 0, 1) := by decide +kernel
theorem dX8_note__24 : decode cX8_note_ 24 = .ok (.ldc2_w 170, 3) := by decide +kernel
theorem dX8_note__27 : decode cX8_note_ 27 = .ok (.invokestatic 57, 3) := by decide +kernel
theorem dX8_note__30 : decode cX8_note_ 30 = .ok (.ifCond .ne 7, 3) := by decide +kernel
theorem dX8_note__33 : decode cX8_note_ 33 = .ok (.iconst 2, 1) := by decide +kernel
theorem dX8_note__34 : decode cX8_note_ 34 = .ok (.goto 4, 3) := by decide +kernel
theorem dX8_note__37 : decode cX8_note_ 37 = .ok (.iconst 0, 1) := by decide +kernel
theorem dX8_note__38 : decode cX8_note_ 38 = .ok (.invokevirtual 126, 3) := by decide +kernel
theorem dX8_note__41 : decode cX8_note_ 41 = .ok (.ifCond .eq 5, 3) := by decide +kernel
theorem dX8_note__44 : decode cX8_note_ 44 = .ok (.iconst 0, 1) := by decide +kernel
theorem dX8_note__45 : decode cX8_note_ 45 = .ok (.ireturn, 1) := by decide +kernel
theorem dX8_note__46 : decode cX8_note_ 46 = .ok (.iload_n 1, 1) := by decide +kernel
theorem dX8_note__47 : decode cX8_note_ 47 = .ok (.iload_n 2, 1) := by decide +kernel
theorem dX8_note__48 : decode cX8_note_ 48 = .ok (.invokestatic 83, 3) := by decide +kernel
theorem dX8_note__51 : decode cX8_note_ 51 = .ok (.istore 4, 2) := by decide +kernel
theorem dX8_note__53 : decode cX8_note_ 53 = .ok (.iload_n 3, 1) := by decide +kernel
theorem dX8_note__54 : decode cX8_note_ 54 = .ok (.ifCond .eq 16, 3) := by decide +kernel
theorem dX8_note__57 : decode cX8_note_ 57 = .ok (.aload_n 0, 1) := by decide +kernel
theorem dX8_note__58 : decode cX8_note_ 58 = .ok (.getfield 16, 3) := by decide +kernel
theorem dX8_note__61 : decode cX8_note_ 61 = .ok (.iload 4, 2) := by decide +kernel
theorem dX8_note__63 : decode cX8_note_ 63 = .ok (.iconst 0, 1) := by decide +kernel
theorem dX8_note__64 : decode cX8_note_ 64 = .ok (.iadd, 1) := by decide +kernel
theorem dX8_note__65 : decode cX8_note_ 65 = .ok (.iaload, 1) := by decide +kernel
theorem dX8_note__66 : decode cX8_note_ 66 = .ok (.iconst 1, 1) := by decide +kernel
theorem dX8_note__67 : decode cX8_note_ 67 = .ok (.if_icmp .ne 15, 3) := by decide +kernel
theorem dX8_note__70 : decode cX8_note_ 70 = .ok (.aload_n 0, 1) := by decide +kernel
theorem dX8_note__71 : decode cX8_note_ 71 = .ok (.getfield 16, 3) := by decide +kernel
theorem dX8_note__74 : decode cX8_note_ 74 = .ok (.iload 4, 2) := by decide +kernel
theorem dX8_note__76 : decode cX8_note_ 76 = .ok (.iload_n 3, 1) := by decide +kernel
theorem dX8_note__77 : decode cX8_note_ 77 = .ok (.iadd, 1) := by decide +kernel
theorem dX8_note__78 : decode cX8_note_ 78 = .ok (.iaload, 1) := by decide +kernel
theorem dX8_note__79 : decode cX8_note_ 79 = .ok (.goto 5, 3) := by decide +kernel
theorem dX8_note__82 : decode cX8_note_ 82 = .ok (.bipush (-9), 2) := by decide +kernel
theorem dX8_note__84 : decode cX8_note_ 84 = .ok (.ireturn, 1) := by decide +kernel
theorem dX8_step_0 : decode cX8_step 0 = .ok (.aload_n 0, 1) := by decide +kernel
theorem dX8_step_1 : decode cX8_step 1 = .ok (.iload_n 1, 1) := by decide +kernel
theorem dX8_step_2 : decode cX8_step 2 = .ok (.i2l, 1) := by decide +kernel
theorem dX8_step_3 : decode cX8_step 3 = .ok (.lconst 1, 1) := by decide +kernel
theorem dX8_step_4 : decode cX8_step 4 = .ok (.ldc2_w 172, 3) := by decide +kernel
theorem dX8_step_7 : decode cX8_step 7 = .ok (.invokestatic 57, 3) := by decide +kernel
theorem dX8_step_10 : decode cX8_step 10 = .ok (.ifCond .eq 7, 3) := by decide +kernel
theorem dX8_step_13 : decode cX8_step 13 = .ok (.iconst 0, 1) := by decide +kernel
theorem dX8_step_14 : decode cX8_step 14 = .ok (.goto 4, 3) := by decide +kernel
theorem dX8_step_17 : decode cX8_step 17 = .ok (.iconst 1, 1) := by decide +kernel
theorem dX8_step_18 : decode cX8_step 18 = .ok (.invokevirtual 126, 3) := by decide +kernel
theorem dX8_step_21 : decode cX8_step 21 = .ok (.ifCond .eq 5, 3) := by decide +kernel
theorem dX8_step_24 : decode cX8_step 24 = .ok (.iconst 0, 1) := by decide +kernel
theorem dX8_step_25 : decode cX8_step 25 = .ok (.ireturn, 1) := by decide +kernel
theorem dX8_step_26 : decode cX8_step 26 = .ok (.aload_n 0, 1) := by decide +kernel
theorem dX8_step_27 : decode cX8_step 27 = .ok (.invokevirtual 174, 3) := by decide +kernel
theorem dX8_step_30 : decode cX8_step 30 = .ok (.iconst 0, 1) := by decide +kernel
theorem dX8_step_31 : decode cX8_step 31 = .ok (.istore_n 2, 1) := by decide +kernel
theorem dX8_step_32 : decode cX8_step 32 = .ok (.iload_n 2, 1) := by decide +kernel
theorem dX8_step_33 : decode cX8_step 33 = .ok (.iload_n 1, 1) := by decide +kernel
theorem dX8_step_34 : decode cX8_step 34 = .ok (.if_icmp .ge 17, 3) := by decide +kernel
theorem dX8_step_37 : decode cX8_step 37 = .ok (.aload_n 0, 1) := by decide +kernel
theorem dX8_step_38 : decode cX8_step 38 = .ok (.aload_n 0, 1) := by decide +kernel
theorem dX8_step_39 : decode cX8_step 39 = .ok (.getfield 16, 3) := by decide +kernel
theorem dX8_step_42 : decode cX8_step 42 = .ok (.invokevirtual 177, 3) := by decide +kernel
theorem dX8_step_45 : decode cX8_step 45 = .ok (.iinc 2 1, 3) := by decide +kernel
theorem dX8_step_48 : decode cX8_step 48 = .ok (.goto (-16), 3) := by decide +kernel
theorem dX8_step_51 : decode cX8_step 51 = .ok (.aload_n 0, 1) := by decide +kernel
theorem dX8_step_52 : decode cX8_step 52 = .ok (.getfield 16, 3) := by decide +kernel
theorem dX8_step_55 : decode cX8_step 55 = .ok (.invokestatic 152, 3) := by decide +kernel
theorem dX8_step_58 : decode cX8_step 58 = .ok (.ireturn, 1) := by decide +kernel
theorem dX8_setRange_0 : decode cX8_setRange 0 = .ok (.aload_n 0, 1) := by decide +kernel
theorem dX8_setRange_1 : decode cX8_setRange 1 = .ok (.aload_n 0, 1) := by decide +kernel
theorem dX8_setRange_2 : decode cX8_setRange 2 = .ok (.iload_n 1, 1) := by decide +kernel
theorem dX8_setRange_3 : decode cX8_setRange 3 = .ok (.invokevirtual 159, 3) := by decide +kernel
theorem dX8_setRange_6 : decode cX8_setRange 6 = .ok (.ifCond .ne 7, 3) := by decide +kernel
theorem dX8_setRange_9 : decode cX8_setRange 9 = .ok (.iconst 1, 1) := by decide +kernel
theorem dX8_setRange_10 : decode cX8_setRange 10 = .ok (.goto 20, 3) := by decide +kernel
theorem dX8_setRange_13 : decode cX8_setRange 13 = .ok (.iload_n 2, 1) := by decide +kernel
theorem dX8_setRange_14 : decode cX8_setRange 14 = .ok (.i2l, 1) := by decide +kernel
theorem dX8_setRange_15 : decode cX8_setRange 15 = .ok (.lconst 0, 1) := by decide +kernel
theorem dX8_setRange_16 : decode cX8_setRange 16 = .ok (.ldc2_w 180, 3) := by decide +kernel
theorem dX8_setRange_19 : decode cX8_setRange 19 = .ok (.invokestatic 57, 3) := by decide +kernel
theorem dX8_setRange_22 : decode cX8_setRange 22 = .ok (.ifCond .ne 7, 3) := by decide +kernel
theorem dX8_setRange_25 : decode cX8_setRange 25 = .ok (.iconst 2, 1) := by decide +kernel
theorem dX8_setRange_26 : decode cX8_setRange 26 = .ok (.goto 4, 3) := by decide +kernel
theorem dX8_setRange_29 : decode cX8_setRange 29 = .ok (.iconst 0, 1) := by decide +kernel
theorem dX8_setRange_30 : decode cX8_setRange 30 = .ok (.invokevirtual 126, 3) := by decide +kernel
theorem dX8_setRange_33 : decode cX8_setRange 33 = .ok (.ifCond .eq 5, 3) := by decide +kernel
theorem dX8_setRange_36 : decode cX8_setRange 36 = .ok (.iconst 0, 1) := by decide +kernel
theorem dX8_setRange_37 : decode cX8_setRange 37 = .ok (.ireturn, 1) := by decide +kernel
theorem dX8_setRange_38 : decode cX8_setRange 38 = .ok (.aload_n 0, 1) := by decide +kernel
theorem dX8_setRange_39 : decode cX8_setRange 39 = .ok (.invokevirtual 174, 3) := by decide +kernel
theorem dX8_setRange_42 : decode cX8_setRange 42 = .ok (.aload_n 0, 1) := by decide +kernel
theorem dX8_setRange_43 : decode cX8_setRange 43 = .ok (.getfield 16, 3) := by decide +kernel
theorem dX8_setRange_46 : decode cX8_setRange 46 = .ok (.iload_n 1, 1) := by decide +kernel
theorem dX8_setRange_47 : decode cX8_setRange 47 = .ok (.invokestatic 61, 3) := by decide +kernel
theorem dX8_setRange_50 : decode cX8_setRange 50 = .ok (.iconst 2, 1) := by decide +kernel
theorem dX8_setRange_51 : decode cX8_setRange 51 = .ok (.iadd, 1) := by decide +kernel
theorem dX8_setRange_52 : decode cX8_setRange 52 = .ok (.iaload, 1) := by decide +kernel
theorem dX8_setRange_53 : decode cX8_setRange 53 = .ok (.istore_n 3, 1) := by decide +kernel
theorem dX8_setRange_54 : decode cX8_setRange 54 = .ok (.aload_n 0, 1) := by decide +kernel
theorem dX8_setRange_55 : decode cX8_setRange 55 = .ok (.getfield 16, 3) := by decide +kernel
theorem dX8_setRange_58 : decode cX8_setRange 58 = .ok (.iload_n 1, 1) := by decide +kernel
theorem dX8_setRange_59 : decode cX8_setRange 59 = .ok (.invokestatic 61, 3) := by decide +kernel
theorem dX8_setRange_62 : decode cX8_setRange 62 = .ok (.iconst 2, 1) := by decide +kernel
theorem dX8_setRange_63 : decode cX8_setRange 63 = .ok (.iadd, 1) := by decide +kernel
theorem dX8_setRange_64 : decode cX8_setRange 64 = .ok (.iload_n 2, 1) := by decide +kernel
theorem dX8_setRange_65 : decode cX8_setRange 65 = .ok (.iastore, 1) := by decide +kernel
theorem dX8_setRange_66 : decode cX8_setRange 66 = .ok (.iload_n 3, 1) := by decide +kernel
theorem dX8_setRange_67 : decode cX8_setRange 67 = .ok (.ireturn, 1) := by decide +kernel
theorem dX8_isPlace_0 : decode cX8_isPlace 0 = .ok (.iload_n 0, 1) := by decide +kernel
theorem dX8_isPlace_1 : decode cX8_isPlace 1 = .ok (.i2l, 1) := by decide +kernel
theorem dX8_isPlace_2 : decode cX8_isPlace 2 = .ok (.lconst 0, 1) := by decide +kernel
theorem dX8_isPlace_3 : decode cX8_isPlace 3 = .ok (.ldc2_w 182, 3) := by decide +kernel
theorem dX8_isPlace_6 : decode cX8_isPlace 6 = .ok (.invokestatic 57, 3) := by decide +kernel
theorem dX8_isPlace_9 : decode cX8_isPlace 9 = .ok (.ifCond .eq 19, 3) := by decide +kernel
theorem dX8_isPlace_12 : decode cX8_isPlace 12 = .ok (.iload_n 1, 1) := by decide +kernel
theorem dX8_isPlace_13 : decode cX8_isPlace 13 = .ok (.i2l, 1) := by decide +kernel
theorem dX8_isPlace_14 : decode cX8_isPlace 14 = .ok (.lconst 0, 1) := by decide +kernel
theorem dX8_isPlace_15 : decode cX8_isPlace 15 = .ok (.ldc2_w 182, 3) := by decide +kernel
theorem dX8_isPlace_18 : decode cX8_isPlace 18 = .ok (.invokestatic 57, 3) := by decide +kernel
theorem dX8_isPlace_21 : decode cX8_isPlace 21 = .ok (.ifCond .eq 7, 3) := by decide +kernel
theorem dX8_isPlace_24 : decode cX8_isPlace 24 = .ok (.iconst 1, 1) := by decide +kernel
theorem dX8_isPlace_25 : decode cX8_isPlace 25 = .ok (.goto 4, 3) := by decide +kernel
theorem dX8_isPlace_28 : decode cX8_isPlace 28 = .ok (.iconst 0, 1) := by decide +kernel
theorem dX8_isPlace_29 : decode cX8_isPlace 29 = .ok (.ireturn, 1) := by decide +kernel
theorem dX8_put_0 : decode cX8_put 0 = .ok (.aload_n 0, 1) := by decide +kernel
theorem dX8_put_1 : decode cX8_put 1 = .ok (.aload_n 0, 1) := by decide +kernel
theorem dX8_put_2 : decode cX8_put 2 = .ok (.iload_n 1, 1) := by decide +kernel
theorem dX8_put_3 : decode cX8_put 3 = .ok (.invokevirtual 159, 3) := by decide +kernel
theorem dX8_put_6 : decode cX8_put 6 = .ok (.ifCond .ne 7, 3) := by decide +kernel
theorem dX8_put_9 : decode cX8_put 9 = .ok (.iconst 1, 1) := by decide +kernel
theorem dX8_put_10 : decode cX8_put 10 = .ok (.goto 16, 3) := by decide +kernel
theorem dX8_put_13 : decode cX8_put 13 = .ok (.iload_n 2, 1) := by decide +kernel
theorem dX8_put_14 : decode cX8_put 14 = .ok (.iload_n 3, 1) := by decide +kernel
theorem dX8_put_15 : decode cX8_put 15 = .ok (.invokestatic 184, 3) := by decide +kernel
theorem dX8_put_18 : decode cX8_put 18 = .ok (.ifCond .ne 7, 3) := by decide +kernel
theorem dX8_put_21 : decode cX8_put 21 = .ok (.iconst 2, 1) := by decide +kernel
theorem dX8_put_22 : decode cX8_put 22 = .ok (.goto 4, 3) := by decide +kernel
theorem dX8_put_25 : decode cX8_put 25 = .ok (.iconst 0, 1) := by decide +kernel
theorem dX8_put_26 : decode cX8_put 26 = .ok (.invokevirtual 126, 3) := by decide +kernel
theorem dX8_put_29 : decode cX8_put 29 = .ok (.ifCond .eq 5, 3) := by decide +kernel
theorem dX8_put_32 : decode cX8_put 32 = .ok (.iconst 0, 1) := by decide +kernel
theorem dX8_put_33 : decode cX8_put 33 = .ok (.ireturn, 1) := by decide +kernel
theorem dX8_put_34 : decode cX8_put 34 = .ok (.aload_n 0, 1) := by decide +kernel
theorem dX8_put_35 : decode cX8_put 35 = .ok (.invokevirtual 174, 3) := by decide +kernel
theorem dX8_put_38 : decode cX8_put 38 = .ok (.iload_n 1, 1) := by decide +kernel
theorem dX8_put_39 : decode cX8_put 39 = .ok (.invokestatic 61, 3) := by decide +kernel
theorem dX8_put_42 : decode cX8_put 42 = .ok (.istore 4, 2) := by decide +kernel
theorem dX8_put_44 : decode cX8_put 44 = .ok (.aload_n 0, 1) := by decide +kernel
theorem dX8_put_45 : decode cX8_put 45 = .ok (.getfield 16, 3) := by decide +kernel
theorem dX8_put_48 : decode cX8_put 48 = .ok (.iload 4, 2) := by decide +kernel
theorem dX8_put_50 : decode cX8_put 50 = .ok (.iconst 0, 1) := by decide +kernel
theorem dX8_put_51 : decode cX8_put 51 = .ok (.iadd, 1) := by decide +kernel
theorem dX8_put_52 : decode cX8_put 52 = .ok (.iaload, 1) := by decide +kernel
theorem dX8_put_53 : decode cX8_put 53 = .ok (.iload_n 2, 1) := by decide +kernel
theorem dX8_put_54 : decode cX8_put 54 = .ok (.isub, 1) := by decide +kernel
theorem dX8_put_55 : decode cX8_put 55 = .ok (.invokestatic 68, 3) := by decide +kernel
theorem dX8_put_58 : decode cX8_put 58 = .ok (.aload_n 0, 1) := by decide +kernel
theorem dX8_put_59 : decode cX8_put 59 = .ok (.getfield 16, 3) := by decide +kernel
theorem dX8_put_62 : decode cX8_put 62 = .ok (.iload 4, 2) := by decide +kernel
theorem dX8_put_64 : decode cX8_put 64 = .ok (.iconst 1, 1) := by decide +kernel
theorem dX8_put_65 : decode cX8_put 65 = .ok (.iadd, 1) := by decide +kernel
theorem dX8_put_66 : decode cX8_put 66 = .ok (.iaload, 1) := by decide +kernel
theorem dX8_put_67 : decode cX8_put 67 = .ok (.iload_n 3, 1) := by decide +kernel
theorem dX8_put_68 : decode cX8_put 68 = .ok (.isub, 1) := by decide +kernel
theorem dX8_put_69 : decode cX8_put 69 = .ok (.invokestatic 68, 3) := by decide +kernel
theorem dX8_put_72 : decode cX8_put 72 = .ok (.iadd, 1) := by decide +kernel
theorem dX8_put_73 : decode cX8_put 73 = .ok (.istore 5, 2) := by decide +kernel
theorem dX8_put_75 : decode cX8_put 75 = .ok (.aload_n 0, 1) := by decide +kernel
theorem dX8_put_76 : decode cX8_put 76 = .ok (.getfield 16, 3) := by decide +kernel
theorem dX8_put_79 : decode cX8_put 79 = .ok (.iload 4, 2) := by decide +kernel
theorem dX8_put_81 : decode cX8_put 81 = .ok (.iconst 0, 1) := by decide +kernel
theorem dX8_put_82 : decode cX8_put 82 = .ok (.iadd, 1) := by decide +kernel
theorem dX8_put_83 : decode cX8_put 83 = .ok (.iload_n 2, 1) := by decide +kernel
theorem dX8_put_84 : decode cX8_put 84 = .ok (.iastore, 1) := by decide +kernel
theorem dX8_put_85 : decode cX8_put 85 = .ok (.aload_n 0, 1) := by decide +kernel
theorem dX8_put_86 : decode cX8_put 86 = .ok (.getfield 16, 3) := by decide +kernel
theorem dX8_put_89 : decode cX8_put 89 = .ok (.iload 4, 2) := by decide +kernel
theorem dX8_put_91 : decode cX8_put 91 = .ok (.iconst 1, 1) := by decide +kernel
theorem dX8_put_92 : decode cX8_put 92 = .ok (.iadd, 1) := by decide +kernel
theorem dX8_put_93 : decode cX8_put 93 = .ok (.iload_n 3, 1) := by decide +kernel
theorem dX8_put_94 : decode cX8_put 94 = .ok (.iastore, 1) := by decide +kernel
theorem dX8_put_95 : decode cX8_put 95 = .ok (.iload 5, 2) := by decide +kernel
theorem dX8_put_97 : decode cX8_put 97 = .ok (.ireturn, 1) := by decide +kernel
theorem dX8_countOn_0 : decode cX8_countOn 0 = .ok (.aload_n 0, 1) := by decide +kernel
theorem dX8_countOn_1 : decode cX8_countOn 1 = .ok (.iconst 3, 1) := by decide +kernel
theorem dX8_countOn_2 : decode cX8_countOn 2 = .ok (.invokestatic 156, 3) := by decide +kernel
theorem dX8_countOn_5 : decode cX8_countOn 5 = .ok (.ireturn, 1) := by decide +kernel
theorem dX8_toggle_0 : decode cX8_toggle 0 = .ok (.aload_n 0, 1) := by decide +kernel
theorem dX8_toggle_1 : decode cX8_toggle 1 = .ok (.aload_n 0, 1) := by decide +kernel
theorem dX8_toggle_2 : decode cX8_toggle 2 = .ok (.iload_n 1, 1) := by decide +kernel
theorem dX8_toggle_3 : decode cX8_toggle 3 = .ok (.invokevirtual 159, 3) := by decide +kernel
theorem dX8_toggle_6 : decode cX8_toggle 6 = .ok (.ifCond .eq 7, 3) := by decide +kernel
theorem dX8_toggle_9 : decode cX8_toggle 9 = .ok (.iconst 0, 1) := by decide +kernel
theorem dX8_toggle_10 : decode cX8_toggle 10 = .ok (.goto 4, 3) := by decide +kernel
theorem dX8_toggle_13 : decode cX8_toggle 13 = .ok (.iconst 1, 1) := by decide +kernel
theorem dX8_toggle_14 : decode cX8_toggle 14 = .ok (.invokevirtual 126, 3) := by decide +kernel
theorem dX8_toggle_17 : decode cX8_toggle 17 = .ok (.ifCond .eq 5, 3) := by decide +kernel
theorem dX8_toggle_20 : decode cX8_toggle 20 = .ok (.iconst 0, 1) := by decide +kernel
theorem dX8_toggle_21 : decode cX8_toggle 21 = .ok (.ireturn, 1) := by decide +kernel
theorem dX8_toggle_22 : decode cX8_toggle 22 = .ok (.aload_n 0, 1) := by decide +kernel
theorem dX8_toggle_23 : decode cX8_toggle 23 = .ok (.invokevirtual 174, 3) := by decide +kernel
theorem dX8_toggle_26 : decode cX8_toggle 26 = .ok (.aload_n 0, 1) := by decide +kernel
theorem dX8_toggle_27 : decode cX8_toggle 27 = .ok (.getfield 16, 3) := by decide +kernel
theorem dX8_toggle_30 : decode cX8_toggle 30 = .ok (.iload_n 1, 1) := by decide +kernel
theorem dX8_toggle_31 : decode cX8_toggle 31 = .ok (.invokestatic 61, 3) := by decide +kernel
theorem dX8_toggle_34 : decode cX8_toggle 34 = .ok (.iconst 3, 1) := by decide +kernel
theorem dX8_toggle_35 : decode cX8_toggle 35 = .ok (.iadd, 1) := by decide +kernel
theorem dX8_toggle_36 : decode cX8_toggle 36 = .ok (.iconst 1, 1) := by decide +kernel
theorem dX8_toggle_37 : decode cX8_toggle 37 = .ok (.aload_n 0, 1) := by decide +kernel
theorem dX8_toggle_38 : decode cX8_toggle 38 = .ok (.getfield 16, 3) := by decide +kernel
theorem dX8_toggle_41 : decode cX8_toggle 41 = .ok (.iload_n 1, 1) := by decide +kernel
theorem dX8_toggle_42 : decode cX8_toggle 42 = .ok (.invokestatic 61, 3) := by decide +kernel
theorem dX8_toggle_45 : decode cX8_toggle 45 = .ok (.iconst 3, 1) := by decide +kernel
theorem dX8_toggle_46 : decode cX8_toggle 46 = .ok (.iadd, 1) := by decide +kernel
theorem dX8_toggle_47 : decode cX8_toggle 47 = .ok (.iaload, 1) := by decide +kernel
theorem dX8_toggle_48 : decode cX8_toggle 48 = .ok (.isub, 1) := by decide +kernel
theorem dX8_toggle_49 : decode cX8_toggle 49 = .ok (.iastore, 1) := by decide +kernel
theorem dX8_toggle_50 : decode cX8_toggle 50 = .ok (.aload_n 0, 1) := by decide +kernel
theorem dX8_toggle_51 : decode cX8_toggle 51 = .ok (.getfield 16, 3) := by decide +kernel
theorem dX8_toggle_54 : decode cX8_toggle 54 = .ok (.invokestatic 188, 3) := by decide +kernel
theorem dX8_toggle_57 : decode cX8_toggle 57 = .ok (.ireturn, 1) := by decide +kernel
theorem dX8_canHandOver_0 : decode cX8_canHandOver 0 = .ok (.aload_n 0, 1) := by decide +kernel
theorem dX8_canHandOver_1 : decode cX8_canHandOver 1 = .ok (.iload_n 1, 1) := by decide +kernel
theorem dX8_canHandOver_2 : decode cX8_canHandOver 2 = .ok (.iload_n 2, 1) := by decide +kernel
theorem dX8_canHandOver_3 : decode cX8_canHandOver 3 = .ok (.invokestatic 90, 3) := by decide +kernel
theorem dX8_canHandOver_6 : decode cX8_canHandOver 6 = .ok (.ifCond .eq 27, 3) := by decide +kernel
theorem dX8_canHandOver_9 : decode cX8_canHandOver 9 = .ok (.aload_n 0, 1) := by decide +kernel
theorem dX8_canHandOver_10 : decode cX8_canHandOver 10 = .ok (.iload_n 1, 1) := by decide +kernel
theorem dX8_canHandOver_11 : decode cX8_canHandOver 11 = .ok (.invokestatic 103, 3) := by decide +kernel
theorem dX8_canHandOver_14 : decode cX8_canHandOver 14 = .ok (.bipush (-9), 2) := by decide +kernel
theorem dX8_canHandOver_16 : decode cX8_canHandOver 16 = .ok (.if_icmp .eq 17, 3) := by decide +kernel
theorem dX8_canHandOver_19 : decode cX8_canHandOver 19 = .ok (.aload_n 0, 1) := by decide +kernel
theorem dX8_canHandOver_20 : decode cX8_canHandOver 20 = .ok (.iload_n 2, 1) := by decide +kernel
theorem dX8_canHandOver_21 : decode cX8_canHandOver 21 = .ok (.invokestatic 103, 3) := by decide +kernel
theorem dX8_canHandOver_24 : decode cX8_canHandOver 24 = .ok (.bipush (-9), 2) := by decide +kernel
theorem dX8_canHandOver_26 : decode cX8_canHandOver 26 = .ok (.if_icmp .ne 7, 3) := by decide +kernel
theorem dX8_canHandOver_29 : decode cX8_canHandOver 29 = .ok (.iconst 1, 1) := by decide +kernel
theorem dX8_canHandOver_30 : decode cX8_canHandOver 30 = .ok (.goto 4, 3) := by decide +kernel
theorem dX8_canHandOver_33 : decode cX8_canHandOver 33 = .ok (.iconst 0, 1) := by decide +kernel
theorem dX8_canHandOver_34 : decode cX8_canHandOver 34 = .ok (.ireturn, 1) := by decide +kernel
theorem dX8_handOn_0 : decode cX8_handOn 0 = .ok (.aload_n 0, 1) := by decide +kernel
theorem dX8_handOn_1 : decode cX8_handOn 1 = .ok (.iload_n 1, 1) := by decide +kernel
theorem dX8_handOn_2 : decode cX8_handOn 2 = .ok (.invokestatic 103, 3) := by decide +kernel
theorem dX8_handOn_5 : decode cX8_handOn 5 = .ok (.istore_n 3, 1) := by decide +kernel
theorem dX8_handOn_6 : decode cX8_handOn 6 = .ok (.aload_n 0, 1) := by decide +kernel
theorem dX8_handOn_7 : decode cX8_handOn 7 = .ok (.iconst 2, 1) := by decide +kernel
theorem dX8_handOn_8 : decode cX8_handOn 8 = .ok (.iaload, 1) := by decide +kernel
theorem dX8_handOn_9 : decode cX8_handOn 9 = .ok (.aload_n 0, 1) := by decide +kernel
theorem dX8_handOn_10 : decode cX8_handOn 10 = .ok (.iconst 3, 1) := by decide +kernel
theorem dX8_handOn_11 : decode cX8_handOn 11 = .ok (.iaload, 1) := by decide +kernel
theorem dX8_handOn_12 : decode cX8_handOn 12 = .ok (.iadd, 1) := by decide +kernel
theorem dX8_handOn_13 : decode cX8_handOn 13 = .ok (.istore 4, 2) := by decide +kernel
theorem dX8_handOn_15 : decode cX8_handOn 15 = .ok (.aload_n 0, 1) := by decide +kernel
theorem dX8_handOn_16 : decode cX8_handOn 16 = .ok (.iload_n 1, 1) := by decide +kernel
theorem dX8_handOn_17 : decode cX8_handOn 17 = .ok (.iload_n 3, 1) := by decide +kernel
theorem dX8_handOn_18 : decode cX8_handOn 18 = .ok (.invokestatic 83, 3) := by decide +kernel
theorem dX8_handOn_21 : decode cX8_handOn 21 = .ok (.iconst 1, 1) := by decide +kernel
theorem dX8_handOn_22 : decode cX8_handOn 22 = .ok (.iload_n 2, 1) := by decide +kernel
theorem dX8_handOn_23 : decode cX8_handOn 23 = .ok (.aload_n 0, 1) := by decide +kernel
theorem dX8_handOn_24 : decode cX8_handOn 24 = .ok (.iload_n 2, 1) := by decide +kernel
theorem dX8_handOn_25 : decode cX8_handOn 25 = .ok (.iload_n 3, 1) := by decide +kernel
theorem dX8_handOn_26 : decode cX8_handOn 26 = .ok (.invokestatic 100, 3) := by decide +kernel
theorem dX8_handOn_29 : decode cX8_handOn 29 = .ok (.iload 4, 2) := by decide +kernel
theorem dX8_handOn_31 : decode cX8_handOn 31 = .ok (.invokestatic 96, 3) := by decide +kernel
theorem dX8_handOn_34 : decode cX8_handOn 34 = .ok (.aload_n 0, 1) := by decide +kernel
theorem dX8_handOn_35 : decode cX8_handOn 35 = .ok (.iload_n 2, 1) := by decide +kernel
theorem dX8_handOn_36 : decode cX8_handOn 36 = .ok (.iload_n 3, 1) := by decide +kernel
theorem dX8_handOn_37 : decode cX8_handOn 37 = .ok (.invokestatic 83, 3) := by decide +kernel
theorem dX8_handOn_40 : decode cX8_handOn 40 = .ok (.iconst 1, 1) := by decide +kernel
theorem dX8_handOn_41 : decode cX8_handOn 41 = .ok (.iload_n 2, 1) := by decide +kernel
theorem dX8_handOn_42 : decode cX8_handOn 42 = .ok (.aload_n 0, 1) := by decide +kernel
theorem dX8_handOn_43 : decode cX8_handOn 43 = .ok (.iload_n 2, 1) := by decide +kernel
theorem dX8_handOn_44 : decode cX8_handOn 44 = .ok (.iload_n 3, 1) := by decide +kernel
theorem dX8_handOn_45 : decode cX8_handOn 45 = .ok (.invokestatic 100, 3) := by decide +kernel
theorem dX8_handOn_48 : decode cX8_handOn 48 = .ok (.iload 4, 2) := by decide +kernel
theorem dX8_handOn_50 : decode cX8_handOn 50 = .ok (.invokestatic 96, 3) := by decide +kernel
theorem dX8_handOn_53 : decode cX8_handOn 53 = .ok (.iload_n 3, 1) := by decide +kernel
theorem dX8_handOn_54 : decode cX8_handOn 54 = .ok (.ireturn, 1) := by decide +kernel
theorem dX8_handOver_0 : decode cX8_handOver 0 = .ok (.aload_n 0, 1) := by decide +kernel
theorem dX8_handOver_1 : decode cX8_handOver 1 = .ok (.aload_n 0, 1) := by decide +kernel
theorem dX8_handOver_2 : decode cX8_handOver 2 = .ok (.iload_n 1, 1) := by decide +kernel
theorem dX8_handOver_3 : decode cX8_handOver 3 = .ok (.invokevirtual 159, 3) := by decide +kernel
theorem dX8_handOver_6 : decode cX8_handOver 6 = .ok (.ifCond .eq 11, 3) := by decide +kernel
theorem dX8_handOver_9 : decode cX8_handOver 9 = .ok (.aload_n 0, 1) := by decide +kernel
theorem dX8_handOver_10 : decode cX8_handOver 10 = .ok (.iload_n 2, 1) := by decide +kernel
theorem dX8_handOver_11 : decode cX8_handOver 11 = .ok (.invokevirtual 159, 3) := by decide +kernel
theorem dX8_handOver_14 : decode cX8_handOver 14 = .ok (.ifCond .ne 7, 3) := by decide +kernel
theorem dX8_handOver_17 : decode cX8_handOver 17 = .ok (.iconst 1, 1) := by decide +kernel
theorem dX8_handOver_18 : decode cX8_handOver 18 = .ok (.goto 29, 3) := by decide +kernel
theorem dX8_handOver_21 : decode cX8_handOver 21 = .ok (.iload_n 1, 1) := by decide +kernel
theorem dX8_handOver_22 : decode cX8_handOver 22 = .ok (.iload_n 2, 1) := by decide +kernel
theorem dX8_handOver_23 : decode cX8_handOver 23 = .ok (.if_icmp .ne 7, 3) := by decide +kernel
theorem dX8_handOver_26 : decode cX8_handOver 26 = .ok (.iconst 2, 1) := by decide +kernel
theorem dX8_handOver_27 : decode cX8_handOver 27 = .ok (.goto 20, 3) := by decide +kernel
theorem dX8_handOver_30 : decode cX8_handOver 30 = .ok (.aload_n 0, 1) := by decide +kernel
theorem dX8_handOver_31 : decode cX8_handOver 31 = .ok (.getfield 16, 3) := by decide +kernel
theorem dX8_handOver_34 : decode cX8_handOver 34 = .ok (.iload_n 1, 1) := by decide +kernel
theorem dX8_handOver_35 : decode cX8_handOver 35 = .ok (.iload_n 2, 1) := by decide +kernel
theorem dX8_handOver_36 : decode cX8_handOver 36 = .ok (.invokestatic 191, 3) := by decide +kernel
theorem dX8_handOver_39 : decode cX8_handOver 39 = .ok (.ifCond .ne 7, 3) := by decide +kernel
theorem dX8_handOver_42 : decode cX8_handOver 42 = .ok (.iconst 3, 1) := by decide +kernel
theorem dX8_handOver_43 : decode cX8_handOver 43 = .ok (.goto 4, 3) := by decide +kernel
theorem dX8_handOver_46 : decode cX8_handOver 46 = .ok (.iconst 0, 1) := by decide +kernel
theorem dX8_handOver_47 : decode cX8_handOver 47 = .ok (.invokevirtual 126, 3) := by decide +kernel
theorem dX8_handOver_50 : decode cX8_handOver 50 = .ok (.ifCond .eq 5, 3) := by decide +kernel
theorem dX8_handOver_53 : decode cX8_handOver 53 = .ok (.iconst 0, 1) := by decide +kernel
theorem dX8_handOver_54 : decode cX8_handOver 54 = .ok (.ireturn, 1) := by decide +kernel
theorem dX8_handOver_55 : decode cX8_handOver 55 = .ok (.aload_n 0, 1) := by decide +kernel
theorem dX8_handOver_56 : decode cX8_handOver 56 = .ok (.invokevirtual 174, 3) := by decide +kernel
theorem dX8_handOver_59 : decode cX8_handOver 59 = .ok (.aload_n 0, 1) := by decide +kernel
theorem dX8_handOver_60 : decode cX8_handOver 60 = .ok (.getfield 16, 3) := by decide +kernel
theorem dX8_handOver_63 : decode cX8_handOver 63 = .ok (.iload_n 1, 1) := by decide +kernel
theorem dX8_handOver_64 : decode cX8_handOver 64 = .ok (.iload_n 2, 1) := by decide +kernel
theorem dX8_handOver_65 : decode cX8_handOver 65 = .ok (.invokestatic 194, 3) := by decide +kernel
theorem dX8_handOver_68 : decode cX8_handOver 68 = .ok (.ireturn, 1) := by decide +kernel
theorem dX8_dropOn_0 : decode cX8_dropOn 0 = .ok (.iconst 0, 1) := by decide +kernel
theorem dX8_dropOn_1 : decode cX8_dropOn 1 = .ok (.istore_n 2, 1) := by decide +kernel
theorem dX8_dropOn_2 : decode cX8_dropOn 2 = .ok (.iconst 0, 1) := by decide +kernel
theorem dX8_dropOn_3 : decode cX8_dropOn 3 = .ok (.istore_n 3, 1) := by decide +kernel
theorem dX8_dropOn_4 : decode cX8_dropOn 4 = .ok (.iload_n 3, 1) := by decide +kernel
theorem dX8_dropOn_5 : decode cX8_dropOn 5 = .ok (.aload_n 0, 1) := by decide +kernel
theorem dX8_dropOn_6 : decode cX8_dropOn 6 = .ok (.iconst 1, 1) := by decide +kernel
theorem dX8_dropOn_7 : decode cX8_dropOn 7 = .ok (.iaload, 1) := by decide +kernel
theorem dX8_dropOn_8 : decode cX8_dropOn 8 = .ok (.if_icmp .ge 51, 3) := by decide +kernel
theorem dX8_dropOn_11 : decode cX8_dropOn 11 = .ok (.aload_n 0, 1) := by decide +kernel
theorem dX8_dropOn_12 : decode cX8_dropOn 12 = .ok (.iload_n 1, 1) := by decide +kernel
theorem dX8_dropOn_13 : decode cX8_dropOn 13 = .ok (.iload_n 3, 1) := by decide +kernel
theorem dX8_dropOn_14 : decode cX8_dropOn 14 = .ok (.invokestatic 83, 3) := by decide +kernel
theorem dX8_dropOn_17 : decode cX8_dropOn 17 = .ok (.iconst 0, 1) := by decide +kernel
theorem dX8_dropOn_18 : decode cX8_dropOn 18 = .ok (.iadd, 1) := by decide +kernel
theorem dX8_dropOn_19 : decode cX8_dropOn 19 = .ok (.iaload, 1) := by decide +kernel
theorem dX8_dropOn_20 : decode cX8_dropOn 20 = .ok (.iconst 1, 1) := by decide +kernel
theorem dX8_dropOn_21 : decode cX8_dropOn 21 = .ok (.if_icmp .ne 32, 3) := by decide +kernel
theorem dX8_dropOn_24 : decode cX8_dropOn 24 = .ok (.aload_n 0, 1) := by decide +kernel
theorem dX8_dropOn_25 : decode cX8_dropOn 25 = .ok (.iload_n 1, 1) := by decide +kernel
theorem dX8_dropOn_26 : decode cX8_dropOn 26 = .ok (.iload_n 3, 1) := by decide +kernel
theorem dX8_dropOn_27 : decode cX8_dropOn 27 = .ok (.invokestatic 83, 3) := by decide +kernel
theorem dX8_dropOn_30 : decode cX8_dropOn 30 = .ok (.iconst 1, 1) := by decide +kernel
theorem dX8_dropOn_31 : decode cX8_dropOn 31 = .ok (.iadd, 1) := by decide +kernel
theorem dX8_dropOn_32 : decode cX8_dropOn 32 = .ok (.iaload, 1) := by decide +kernel
theorem dX8_dropOn_33 : decode cX8_dropOn 33 = .ok (.iload_n 1, 1) := by decide +kernel
theorem dX8_dropOn_34 : decode cX8_dropOn 34 = .ok (.if_icmp .ne 19, 3) := by decide +kernel
theorem dX8_dropOn_37 : decode cX8_dropOn 37 = .ok (.aload_n 0, 1) := by decide +kernel
theorem dX8_dropOn_38 : decode cX8_dropOn 38 = .ok (.iload_n 1, 1) := by decide +kernel
theorem dX8_dropOn_39 : decode cX8_dropOn 39 = .ok (.iload_n 3, 1) := by decide +kernel
theorem dX8_dropOn_40 : decode cX8_dropOn 40 = .ok (.invokestatic 83, 3) := by decide +kernel
theorem dX8_dropOn_43 : decode cX8_dropOn 43 = .ok (.iconst 0, 1) := by decide +kernel
theorem dX8_dropOn_44 : decode cX8_dropOn 44 = .ok (.iconst 0, 1) := by decide +kernel
theorem dX8_dropOn_45 : decode cX8_dropOn 45 = .ok (.iconst 0, 1) := by decide +kernel
theorem dX8_dropOn_46 : decode cX8_dropOn 46 = .ok (.iconst 0, 1) := by decide +kernel
theorem dX8_dropOn_47 : decode cX8_dropOn 47 = .ok (.invokestatic 96, 3) := by decide +kernel
theorem dX8_dropOn_50 : decode cX8_dropOn 50 = .ok (.iinc 2 1, 3) := by decide +kernel
theorem dX8_dropOn_53 : decode cX8_dropOn 53 = .ok (.iinc 3 1, 3) := by decide +kernel
theorem dX8_dropOn_56 : decode cX8_dropOn 56 = .ok (.goto (-52), 3) := by decide +kernel
theorem dX8_dropOn_59 : decode cX8_dropOn 59 = .ok (.iload_n 2, 1) := by decide +kernel
theorem dX8_dropOn_60 : decode cX8_dropOn 60 = .ok (.ireturn, 1) := by decide +kernel
theorem dX8_drop_0 : decode cX8_drop 0 = .ok (.aload_n 0, 1) := by decide +kernel
theorem dX8_drop_1 : decode cX8_drop 1 = .ok (.aload_n 0, 1) := by decide +kernel
theorem dX8_drop_2 : decode cX8_drop 2 = .ok (.iload_n 1, 1) := by decide +kernel
theorem dX8_drop_3 : decode cX8_drop 3 = .ok (.invokevirtual 159, 3) := by decide +kernel
theorem dX8_drop_6 : decode cX8_drop 6 = .ok (.ifCond .eq 7, 3) := by decide +kernel
theorem dX8_drop_9 : decode cX8_drop 9 = .ok (.iconst 0, 1) := by decide +kernel
theorem dX8_drop_10 : decode cX8_drop 10 = .ok (.goto 4, 3) := by decide +kernel
theorem dX8_drop_13 : decode cX8_drop 13 = .ok (.iconst 1, 1) := by decide +kernel
theorem dX8_drop_14 : decode cX8_drop 14 = .ok (.invokevirtual 126, 3) := by decide +kernel
theorem dX8_drop_17 : decode cX8_drop 17 = .ok (.ifCond .eq 5, 3) := by decide +kernel
theorem dX8_drop_20 : decode cX8_drop 20 = .ok (.iconst 0, 1) := by decide +kernel
theorem dX8_drop_21 : decode cX8_drop 21 = .ok (.ireturn, 1) := by decide +kernel
theorem dX8_drop_22 : decode cX8_drop 22 = .ok (.aload_n 0, 1) := by decide +kernel
theorem dX8_drop_23 : decode cX8_drop 23 = .ok (.invokevirtual 174, 3) := by decide +kernel
theorem dX8_drop_26 : decode cX8_drop 26 = .ok (.aload_n 0, 1) := by decide +kernel
theorem dX8_drop_27 : decode cX8_drop 27 = .ok (.getfield 16, 3) := by decide +kernel
theorem dX8_drop_30 : decode cX8_drop 30 = .ok (.iload_n 1, 1) := by decide +kernel
theorem dX8_drop_31 : decode cX8_drop 31 = .ok (.invokestatic 197, 3) := by decide +kernel
theorem dX8_drop_34 : decode cX8_drop 34 = .ok (.ireturn, 1) := by decide +kernel
theorem dX8_setLifetime_0 : decode cX8_setLifetime 0 = .ok (.aload_n 0, 1) := by decide +kernel
theorem dX8_setLifetime_1 : decode cX8_setLifetime 1 = .ok (.iload_n 1, 1) := by decide +kernel
theorem dX8_setLifetime_2 : decode cX8_setLifetime 2 = .ok (.i2l, 1) := by decide +kernel
theorem dX8_setLifetime_3 : decode cX8_setLifetime 3 = .ok (.lconst 1, 1) := by decide +kernel
theorem dX8_setLifetime_4 : decode cX8_setLifetime 4 = .ok (.ldc2_w 200, 3) := by decide +kernel
theorem dX8_setLifetime_7 : decode cX8_setLifetime 7 = .ok (.invokestatic 57, 3) := by decide +kernel
theorem dX8_setLifetime_10 : decode cX8_setLifetime 10 = .ok (.ifCond .eq 7, 3) := by decide +kernel
theorem dX8_setLifetime_13 : decode cX8_setLifetime 13 = .ok (.iconst 0, 1) := by decide +kernel
theorem dX8_setLifetime_14 : decode cX8_setLifetime 14 = .ok (.goto 4, 3) := by decide +kernel
theorem dX8_setLifetime_17 : decode cX8_setLifetime 17 = .ok (.iconst 1, 1) := by decide +kernel
theorem dX8_setLifetime_18 : decode cX8_setLifetime 18 = .ok (.invokevirtual 126, 3) := by decide +kernel
theorem dX8_setLifetime_21 : decode cX8_setLifetime 21 = .ok (.ifCond .eq 5, 3) := by decide +kernel
theorem dX8_setLifetime_24 : decode cX8_setLifetime 24 = .ok (.iconst 0, 1) := by decide +kernel
theorem dX8_setLifetime_25 : decode cX8_setLifetime 25 = .ok (.ireturn, 1) := by decide +kernel
theorem dX8_setLifetime_26 : decode cX8_setLifetime 26 = .ok (.aload_n 0, 1) := by decide +kernel
theorem dX8_setLifetime_27 : decode cX8_setLifetime 27 = .ok (.invokevirtual 174, 3) := by decide +kernel
theorem dX8_setLifetime_30 : decode cX8_setLifetime 30 = .ok (.aload_n 0, 1) := by decide +kernel
theorem dX8_setLifetime_31 : decode cX8_setLifetime 31 = .ok (.getfield 16, 3) := by decide +kernel
theorem dX8_setLifetime_34 : decode cX8_setLifetime 34 = .ok (.iconst 3, 1) := by decide +kernel
theorem dX8_setLifetime_35 : decode cX8_setLifetime 35 = .ok (.iaload, 1) := by decide +kernel
theorem dX8_setLifetime_36 : decode cX8_setLifetime 36 = .ok (.istore_n 2, 1) := by decide +kernel
theorem dX8_setLifetime_37 : decode cX8_setLifetime 37 = .ok (.aload_n 0, 1) := by decide +kernel
theorem dX8_setLifetime_38 : decode cX8_setLifetime 38 = .ok (.getfield 16, 3) := by decide +kernel
theorem dX8_setLifetime_41 : decode cX8_setLifetime 41 = .ok (.iconst 3, 1) := by decide +kernel
theorem dX8_setLifetime_42 : decode cX8_setLifetime 42 = .ok (.iload_n 1, 1) := by decide +kernel
theorem dX8_setLifetime_43 : decode cX8_setLifetime 43 = .ok (.iastore, 1) := by decide +kernel
theorem dX8_setLifetime_44 : decode cX8_setLifetime 44 = .ok (.iload_n 2, 1) := by decide +kernel
theorem dX8_setLifetime_45 : decode cX8_setLifetime 45 = .ok (.ireturn, 1) := by decide +kernel
theorem dX8_undo_0 : decode cX8_undo 0 = .ok (.aload_n 0, 1) := by decide +kernel
theorem dX8_undo_1 : decode cX8_undo 1 = .ok (.aload_n 0, 1) := by decide +kernel
theorem dX8_undo_2 : decode cX8_undo 2 = .ok (.getfield 50, 3) := by decide +kernel
theorem dX8_undo_5 : decode cX8_undo 5 = .ok (.ifCond .ne 7, 3) := by decide +kernel
theorem dX8_undo_8 : decode cX8_undo 8 = .ok (.iconst 1, 1) := by decide +kernel
theorem dX8_undo_9 : decode cX8_undo 9 = .ok (.goto 4, 3) := by decide +kernel
theorem dX8_undo_12 : decode cX8_undo 12 = .ok (.iconst 0, 1) := by decide +kernel
theorem dX8_undo_13 : decode cX8_undo 13 = .ok (.invokevirtual 126, 3) := by decide +kernel
theorem dX8_undo_16 : decode cX8_undo 16 = .ok (.ifCond .eq 5, 3) := by decide +kernel
theorem dX8_undo_19 : decode cX8_undo 19 = .ok (.iconst 0, 1) := by decide +kernel
theorem dX8_undo_20 : decode cX8_undo 20 = .ok (.ireturn, 1) := by decide +kernel
theorem dX8_undo_21 : decode cX8_undo 21 = .ok (.aload_n 0, 1) := by decide +kernel
theorem dX8_undo_22 : decode cX8_undo 22 = .ok (.dup, 1) := by decide +kernel
theorem dX8_undo_23 : decode cX8_undo 23 = .ok (.getfield 50, 3) := by decide +kernel
theorem dX8_undo_26 : decode cX8_undo 26 = .ok (.iconst 1, 1) := by decide +kernel
theorem dX8_undo_27 : decode cX8_undo 27 = .ok (.isub, 1) := by decide +kernel
theorem dX8_undo_28 : decode cX8_undo 28 = .ok (.putfield 50, 3) := by decide +kernel
theorem dX8_undo_31 : decode cX8_undo 31 = .ok (.aload_n 0, 1) := by decide +kernel
theorem dX8_undo_32 : decode cX8_undo 32 = .ok (.getfield 25, 3) := by decide +kernel
theorem dX8_undo_35 : decode cX8_undo 35 = .ok (.sipush 264, 3) := by decide +kernel
theorem dX8_undo_38 : decode cX8_undo 38 = .ok (.aload_n 0, 1) := by decide +kernel
theorem dX8_undo_39 : decode cX8_undo 39 = .ok (.getfield 50, 3) := by decide +kernel
theorem dX8_undo_42 : decode cX8_undo 42 = .ok (.imul, 1) := by decide +kernel
theorem dX8_undo_43 : decode cX8_undo 43 = .ok (.aload_n 0, 1) := by decide +kernel
theorem dX8_undo_44 : decode cX8_undo 44 = .ok (.getfield 16, 3) := by decide +kernel
theorem dX8_undo_47 : decode cX8_undo 47 = .ok (.iconst 0, 1) := by decide +kernel
theorem dX8_undo_48 : decode cX8_undo 48 = .ok (.sipush 264, 3) := by decide +kernel
theorem dX8_undo_51 : decode cX8_undo 51 = .ok (.invokestatic 53, 3) := by decide +kernel
theorem dX8_undo_54 : decode cX8_undo 54 = .ok (.aload_n 0, 1) := by decide +kernel
theorem dX8_undo_55 : decode cX8_undo 55 = .ok (.getfield 50, 3) := by decide +kernel
theorem dX8_undo_58 : decode cX8_undo 58 = .ok (.ireturn, 1) := by decide +kernel
theorem dX8_layWays_0 : decode cX8_layWays 0 = .ok (.iconst 0, 1) := by decide +kernel
theorem dX8_layWays_1 : decode cX8_layWays 1 = .ok (.istore_n 3, 1) := by decide +kernel
theorem dX8_layWays_2 : decode cX8_layWays 2 = .ok (.iload_n 3, 1) := by decide +kernel
theorem dX8_layWays_3 : decode cX8_layWays 3 = .ok (.bipush 6, 2) := by decide +kernel
theorem dX8_layWays_5 : decode cX8_layWays 5 = .ok (.if_icmp .ge 26, 3) := by decide +kernel
theorem dX8_layWays_8 : decode cX8_layWays 8 = .ok (.aload_n 0, 1) := by decide +kernel
theorem dX8_layWays_9 : decode cX8_layWays 9 = .ok (.getfield 35, 3) := by decide +kernel
theorem dX8_layWays_12 : decode cX8_layWays 12 = .ok (.iload_n 3, 1) := by decide +kernel
theorem dX8_layWays_13 : decode cX8_layWays 13 = .ok (.iload_n 3, 1) := by decide +kernel
theorem dX8_layWays_14 : decode cX8_layWays 14 = .ok (.iload_n 2, 1) := by decide +kernel
theorem dX8_layWays_15 : decode cX8_layWays 15 = .ok (.if_icmp .ne 7, 3) := by decide +kernel
theorem dX8_layWays_18 : decode cX8_layWays 18 = .ok (.iconst 0, 1) := by decide +kernel
theorem dX8_layWays_19 : decode cX8_layWays 19 = .ok (.goto 5, 3) := by decide +kernel
theorem dX8_layWays_22 : decode cX8_layWays 22 = .ok (.bipush (-9), 2) := by decide +kernel
theorem dX8_layWays_24 : decode cX8_layWays 24 = .ok (.iastore, 1) := by decide +kernel
theorem dX8_layWays_25 : decode cX8_layWays 25 = .ok (.iinc 3 1, 3) := by decide +kernel
theorem dX8_layWays_28 : decode cX8_layWays 28 = .ok (.goto (-26), 3) := by decide +kernel
theorem dX8_layWays_31 : decode cX8_layWays 31 = .ok (.iconst 0, 1) := by decide +kernel
theorem dX8_layWays_32 : decode cX8_layWays 32 = .ok (.istore_n 3, 1) := by decide +kernel
theorem dX8_layWays_33 : decode cX8_layWays 33 = .ok (.iload_n 3, 1) := by decide +kernel
theorem dX8_layWays_34 : decode cX8_layWays 34 = .ok (.bipush 6, 2) := by decide +kernel
theorem dX8_layWays_36 : decode cX8_layWays 36 = .ok (.if_icmp .ge 97, 3) := by decide +kernel
theorem dX8_layWays_39 : decode cX8_layWays 39 = .ok (.iconst 0, 1) := by decide +kernel
theorem dX8_layWays_40 : decode cX8_layWays 40 = .ok (.istore 4, 2) := by decide +kernel
theorem dX8_layWays_42 : decode cX8_layWays 42 = .ok (.iload 4, 2) := by decide +kernel
theorem dX8_layWays_44 : decode cX8_layWays 44 = .ok (.aload_n 1, 1) := by decide +kernel
theorem dX8_layWays_45 : decode cX8_layWays 45 = .ok (.iconst 0, 1) := by decide +kernel
theorem dX8_layWays_46 : decode cX8_layWays 46 = .ok (.iaload, 1) := by decide +kernel
theorem dX8_layWays_47 : decode cX8_layWays 47 = .ok (.if_icmp .ge 80, 3) := by decide +kernel
theorem dX8_layWays_50 : decode cX8_layWays 50 = .ok (.iconst 0, 1) := by decide +kernel
theorem dX8_layWays_51 : decode cX8_layWays 51 = .ok (.istore 5, 2) := by decide +kernel
theorem dX8_layWays_53 : decode cX8_layWays 53 = .ok (.iload 5, 2) := by decide +kernel
theorem dX8_layWays_55 : decode cX8_layWays 55 = .ok (.aload_n 1, 1) := by decide +kernel
theorem dX8_layWays_56 : decode cX8_layWays 56 = .ok (.iconst 0, 1) := by decide +kernel
theorem dX8_layWays_57 : decode cX8_layWays 57 = .ok (.iaload, 1) := by decide +kernel
theorem dX8_layWays_58 : decode cX8_layWays 58 = .ok (.if_icmp .ge 63, 3) := by decide +kernel
theorem dX8_layWays_61 : decode cX8_layWays 61 = .ok (.aload_n 0, 1) := by decide +kernel
theorem dX8_layWays_62 : decode cX8_layWays 62 = .ok (.getfield 35, 3) := by decide +kernel
theorem dX8_layWays_65 : decode cX8_layWays 65 = .ok (.iload 4, 2) := by decide +kernel
theorem dX8_layWays_67 : decode cX8_layWays 67 = .ok (.iaload, 1) := by decide +kernel
theorem dX8_layWays_68 : decode cX8_layWays 68 = .ok (.iload_n 3, 1) := by decide +kernel
theorem dX8_layWays_69 : decode cX8_layWays 69 = .ok (.if_icmp .ne 52, 3) := by decide +kernel
theorem dX8_layWays_72 : decode cX8_layWays 72 = .ok (.aload_n 0, 1) := by decide +kernel
theorem dX8_layWays_73 : decode cX8_layWays 73 = .ok (.getfield 35, 3) := by decide +kernel
theorem dX8_layWays_76 : decode cX8_layWays 76 = .ok (.iload 5, 2) := by decide +kernel
theorem dX8_layWays_78 : decode cX8_layWays 78 = .ok (.aload_n 0, 1) := by decide +kernel
theorem dX8_layWays_79 : decode cX8_layWays 79 = .ok (.getfield 35, 3) := by decide +kernel
theorem dX8_layWays_82 : decode cX8_layWays 82 = .ok (.iload 5, 2) := by decide +kernel
theorem dX8_layWays_84 : decode cX8_layWays 84 = .ok (.iaload, 1) := by decide +kernel
theorem dX8_layWays_85 : decode cX8_layWays 85 = .ok (.bipush (-9), 2) := by decide +kernel
theorem dX8_layWays_87 : decode cX8_layWays 87 = .ok (.if_icmp .ne 20, 3) := by decide +kernel
theorem dX8_layWays_90 : decode cX8_layWays 90 = .ok (.aload_n 1, 1) := by decide +kernel
theorem dX8_layWays_91 : decode cX8_layWays 91 = .ok (.iload 4, 2) := by decide +kernel
theorem dX8_layWays_93 : decode cX8_layWays 93 = .ok (.iload 5, 2) := by decide +kernel
theorem dX8_layWays_95 : decode cX8_layWays 95 = .ok (.invokestatic 90, 3) := by decide +kernel
theorem dX8_layWays_98 : decode cX8_layWays 98 = .ok (.ifCond .eq 9, 3) := by decide +kernel
theorem dX8_layWays_101 : decode cX8_layWays 101 = .ok (.iload_n 3, 1) := by decide +kernel
theorem dX8_layWays_102 : decode cX8_layWays 102 = .ok (.iconst 1, 1) := by decide +kernel
theorem dX8_layWays_103 : decode cX8_layWays 103 = .ok (.iadd, 1) := by decide +kernel
theorem dX8_layWays_104 : decode cX8_layWays 104 = .ok (.goto 10, 3) := by decide +kernel
theorem dX8_layWays_107 : decode cX8_layWays 107 = .ok (.aload_n 0, 1) := by decide +kernel
theorem dX8_layWays_108 : decode cX8_layWays 108 = .ok (.getfield 35, 3) := by decide +kernel
theorem dX8_layWays_111 : decode cX8_layWays 111 = .ok (.iload 5, 2) := by decide +kernel
theorem dX8_layWays_113 : decode cX8_layWays 113 = .ok (.iaload, 1) := by decide +kernel
theorem dX8_layWays_114 : decode cX8_layWays 114 = .ok (.iastore, 1) := by decide +kernel
theorem dX8_layWays_115 : decode cX8_layWays 115 = .ok (.iinc 5 1, 3) := by decide +kernel
theorem dX8_layWays_118 : decode cX8_layWays 118 = .ok (.goto (-65), 3) := by decide +kernel
theorem dX8_layWays_121 : decode cX8_layWays 121 = .ok (.iinc 4 1, 3) := by decide +kernel
theorem dX8_layWays_124 : decode cX8_layWays 124 = .ok (.goto (-82), 3) := by decide +kernel
theorem dX8_layWays_127 : decode cX8_layWays 127 = .ok (.iinc 3 1, 3) := by decide +kernel
theorem dX8_layWays_130 : decode cX8_layWays 130 = .ok (.goto (-97), 3) := by decide +kernel
theorem dX8_layWays_133 : decode cX8_layWays 133 = .ok (.return_, 1) := by decide +kernel
theorem dX8_hops_0 : decode cX8_hops 0 = .ok (.aload_n 0, 1) := by decide +kernel
theorem dX8_hops_1 : decode cX8_hops 1 = .ok (.aload_n 0, 1) := by decide +kernel
theorem dX8_hops_2 : decode cX8_hops 2 = .ok (.iload_n 1, 1) := by decide +kernel
theorem dX8_hops_3 : decode cX8_hops 3 = .ok (.invokevirtual 159, 3) := by decide +kernel
theorem dX8_hops_6 : decode cX8_hops 6 = .ok (.ifCond .eq 15, 3) := by decide +kernel
theorem dX8_hops_9 : decode cX8_hops 9 = .ok (.aload_n 0, 1) := by decide +kernel
theorem dX8_hops_10 : decode cX8_hops 10 = .ok (.iload_n 2, 1) := by decide +kernel
theorem dX8_hops_11 : decode cX8_hops 11 = .ok (.invokevirtual 159, 3) := by decide +kernel
theorem dX8_hops_14 : decode cX8_hops 14 = .ok (.ifCond .eq 7, 3) := by decide +kernel
theorem dX8_hops_17 : decode cX8_hops 17 = .ok (.iconst 0, 1) := by decide +kernel
theorem dX8_hops_18 : decode cX8_hops 18 = .ok (.goto 4, 3) := by decide +kernel
theorem dX8_hops_21 : decode cX8_hops 21 = .ok (.iconst 1, 1) := by decide +kernel
theorem dX8_hops_22 : decode cX8_hops 22 = .ok (.invokevirtual 126, 3) := by decide +kernel
theorem dX8_hops_25 : decode cX8_hops 25 = .ok (.ifCond .eq 5, 3) := by decide +kernel
theorem dX8_hops_28 : decode cX8_hops 28 = .ok (.iconst 0, 1) := by decide +kernel
theorem dX8_hops_29 : decode cX8_hops 29 = .ok (.ireturn, 1) := by decide +kernel
theorem dX8_hops_30 : decode cX8_hops 30 = .ok (.aload_n 0, 1) := by decide +kernel
theorem dX8_hops_31 : decode cX8_hops 31 = .ok (.aload_n 0, 1) := by decide +kernel
theorem dX8_hops_32 : decode cX8_hops 32 = .ok (.getfield 16, 3) := by decide +kernel
theorem dX8_hops_35 : decode cX8_hops 35 = .ok (.iload_n 1, 1) := by decide +kernel
theorem dX8_hops_36 : decode cX8_hops 36 = .ok (.invokevirtual 202, 3) := by decide +kernel
theorem dX8_hops_39 : decode cX8_hops 39 = .ok (.aload_n 0, 1) := by decide +kernel
theorem dX8_hops_40 : decode cX8_hops 40 = .ok (.getfield 35, 3) := by decide +kernel
theorem dX8_hops_43 : decode cX8_hops 43 = .ok (.iload_n 2, 1) := by decide +kernel
theorem dX8_hops_44 : decode cX8_hops 44 = .ok (.iaload, 1) := by decide +kernel
theorem dX8_hops_45 : decode cX8_hops 45 = .ok (.ireturn, 1) := by decide +kernel
theorem dX8_groupsOf_0 : decode cX8_groupsOf 0 = .ok (.iconst 0, 1) := by decide +kernel
theorem dX8_groupsOf_1 : decode cX8_groupsOf 1 = .ok (.istore_n 2, 1) := by decide +kernel
theorem dX8_groupsOf_2 : decode cX8_groupsOf 2 = .ok (.iconst 0, 1) := by decide +kernel
theorem dX8_groupsOf_3 : decode cX8_groupsOf 3 = .ok (.istore_n 3, 1) := by decide +kernel
theorem dX8_groupsOf_4 : decode cX8_groupsOf 4 = .ok (.iconst 0, 1) := by decide +kernel
theorem dX8_groupsOf_5 : decode cX8_groupsOf 5 = .ok (.istore 4, 2) := by decide +kernel
theorem dX8_groupsOf_7 : decode cX8_groupsOf 7 = .ok (.iload 4, 2) := by decide +kernel
theorem dX8_groupsOf_9 : decode cX8_groupsOf 9 = .ok (.aload_n 1, 1) := by decide +kernel
theorem dX8_groupsOf_10 : decode cX8_groupsOf 10 = .ok (.iconst 0, 1) := by decide +kernel
theorem dX8_groupsOf_11 : decode cX8_groupsOf 11 = .ok (.iaload, 1) := by decide +kernel
theorem dX8_groupsOf_12 : decode cX8_groupsOf 12 = .ok (.if_icmp .ge 77, 3) := by decide +kernel
theorem dX8_groupsOf_15 : decode cX8_groupsOf 15 = .ok (.aload_n 1, 1) := by decide +kernel
theorem dX8_groupsOf_16 : decode cX8_groupsOf 16 = .ok (.iload 4, 2) := by decide +kernel
theorem dX8_groupsOf_18 : decode cX8_groupsOf 18 = .ok (.invokestatic 71, 3) := by decide +kernel
theorem dX8_groupsOf_21 : decode cX8_groupsOf 21 = .ok (.ifCond .eq 62, 3) := by decide +kernel
theorem dX8_groupsOf_24 : decode cX8_groupsOf 24 = .ok (.iload_n 2, 1) := by decide +kernel
theorem dX8_groupsOf_25 : decode cX8_groupsOf 25 = .ok (.iload 4, 2) := by decide +kernel
theorem dX8_groupsOf_27 : decode cX8_groupsOf 27 = .ok (.ishr, 1) := by decide +kernel
theorem dX8_groupsOf_28 : decode cX8_groupsOf 28 = .ok (.iconst 1, 1) := by decide +kernel
theorem dX8_groupsOf_29 : decode cX8_groupsOf 29 = .ok (.iand, 1) := by decide +kernel
theorem dX8_groupsOf_30 : decode cX8_groupsOf 30 = .ok (.ifCond .ne 53, 3) := by decide +kernel
theorem dX8_groupsOf_33 : decode cX8_groupsOf 33 = .ok (.iinc 3 1, 3) := by decide +kernel
theorem dX8_groupsOf_36 : decode cX8_groupsOf 36 = .ok (.aload_n 0, 1) := by decide +kernel
theorem dX8_groupsOf_37 : decode cX8_groupsOf 37 = .ok (.aload_n 1, 1) := by decide +kernel
theorem dX8_groupsOf_38 : decode cX8_groupsOf 38 = .ok (.iload 4, 2) := by decide +kernel
theorem dX8_groupsOf_40 : decode cX8_groupsOf 40 = .ok (.invokevirtual 202, 3) := by decide +kernel
theorem dX8_groupsOf_43 : decode cX8_groupsOf 43 = .ok (.iconst 0, 1) := by decide +kernel
theorem dX8_groupsOf_44 : decode cX8_groupsOf 44 = .ok (.istore 5, 2) := by decide +kernel
theorem dX8_groupsOf_46 : decode cX8_groupsOf 46 = .ok (.iload 5, 2) := by decide +kernel
theorem dX8_groupsOf_48 : decode cX8_groupsOf 48 = .ok (.aload_n 1, 1) := by decide +kernel
theorem dX8_groupsOf_49 : decode cX8_groupsOf 49 = .ok (.iconst 0, 1) := by decide +kernel
theorem dX8_groupsOf_50 : decode cX8_groupsOf 50 = .ok (.iaload, 1) := by decide +kernel
theorem dX8_groupsOf_51 : decode cX8_groupsOf 51 = .ok (.if_icmp .ge 32, 3) := by decide +kernel
theorem dX8_groupsOf_54 : decode cX8_groupsOf 54 = .ok (.iload_n 2, 1) := by decide +kernel
theorem dX8_groupsOf_55 : decode cX8_groupsOf 55 = .ok (.aload_n 0, 1) := by decide +kernel
theorem dX8_groupsOf_56 : decode cX8_groupsOf 56 = .ok (.getfield 35, 3) := by decide +kernel
theorem dX8_groupsOf_59 : decode cX8_groupsOf 59 = .ok (.iload 5, 2) := by decide +kernel
theorem dX8_groupsOf_61 : decode cX8_groupsOf 61 = .ok (.iaload, 1) := by decide +kernel
theorem dX8_groupsOf_62 : decode cX8_groupsOf 62 = .ok (.bipush (-9), 2) := by decide +kernel
theorem dX8_groupsOf_64 : decode cX8_groupsOf 64 = .ok (.if_icmp .ne 7, 3) := by decide +kernel
theorem dX8_groupsOf_67 : decode cX8_groupsOf 67 = .ok (.iconst 0, 1) := by decide +kernel
theorem dX8_groupsOf_68 : decode cX8_groupsOf 68 = .ok (.goto 7, 3) := by decide +kernel
theorem dX8_groupsOf_71 : decode cX8_groupsOf 71 = .ok (.iconst 1, 1) := by decide +kernel
theorem dX8_groupsOf_72 : decode cX8_groupsOf 72 = .ok (.iload 5, 2) := by decide +kernel
theorem dX8_groupsOf_74 : decode cX8_groupsOf 74 = .ok (.ishl, 1) := by decide +kernel
theorem dX8_groupsOf_75 : decode cX8_groupsOf 75 = .ok (.ior, 1) := by decide +kernel
theorem dX8_groupsOf_76 : decode cX8_groupsOf 76 = .ok (.istore_n 2, 1) := by decide +kernel
theorem dX8_groupsOf_77 : decode cX8_groupsOf 77 = .ok (.iinc 5 1, 3) := by decide +kernel
theorem dX8_groupsOf_80 : decode cX8_groupsOf 80 = .ok (.goto (-34), 3) := by decide +kernel
theorem dX8_groupsOf_83 : decode cX8_groupsOf 83 = .ok (.iinc 4 1, 3) := by decide +kernel
theorem dX8_groupsOf_86 : decode cX8_groupsOf 86 = .ok (.goto (-79), 3) := by decide +kernel
theorem dX8_groupsOf_89 : decode cX8_groupsOf 89 = .ok (.iload_n 3, 1) := by decide +kernel
theorem dX8_groupsOf_90 : decode cX8_groupsOf 90 = .ok (.ireturn, 1) := by decide +kernel
theorem dX8_groups_0 : decode cX8_groups 0 = .ok (.aload_n 0, 1) := by decide +kernel
theorem dX8_groups_1 : decode cX8_groups 1 = .ok (.iconst 0, 1) := by decide +kernel
theorem dX8_groups_2 : decode cX8_groups 2 = .ok (.putfield 44, 3) := by decide +kernel
theorem dX8_groups_5 : decode cX8_groups 5 = .ok (.aload_n 0, 1) := by decide +kernel
theorem dX8_groups_6 : decode cX8_groups 6 = .ok (.aload_n 0, 1) := by decide +kernel
theorem dX8_groups_7 : decode cX8_groups 7 = .ok (.getfield 16, 3) := by decide +kernel
theorem dX8_groups_10 : decode cX8_groups 10 = .ok (.invokevirtual 205, 3) := by decide +kernel
theorem dX8_groups_13 : decode cX8_groups 13 = .ok (.ireturn, 1) := by decide +kernel
theorem dX8_setRanges_0 : decode cX8_setRanges 0 = .ok (.iconst 0, 1) := by decide +kernel
theorem dX8_setRanges_1 : decode cX8_setRanges 1 = .ok (.istore_n 3, 1) := by decide +kernel
theorem dX8_setRanges_2 : decode cX8_setRanges 2 = .ok (.iload_n 3, 1) := by decide +kernel
theorem dX8_setRanges_3 : decode cX8_setRanges 3 = .ok (.aload_n 1, 1) := by decide +kernel
theorem dX8_setRanges_4 : decode cX8_setRanges 4 = .ok (.iconst 0, 1) := by decide +kernel
theorem dX8_setRanges_5 : decode cX8_setRanges 5 = .ok (.iaload, 1) := by decide +kernel
theorem dX8_setRanges_6 : decode cX8_setRanges 6 = .ok (.if_icmp .ge 18, 3) := by decide +kernel
theorem dX8_setRanges_9 : decode cX8_setRanges 9 = .ok (.aload_n 1, 1) := by decide +kernel
theorem dX8_setRanges_10 : decode cX8_setRanges 10 = .ok (.iload_n 3, 1) := by decide +kernel
theorem dX8_setRanges_11 : decode cX8_setRanges 11 = .ok (.invokestatic 61, 3) := by decide +kernel
theorem dX8_setRanges_14 : decode cX8_setRanges 14 = .ok (.iconst 2, 1) := by decide +kernel
theorem dX8_setRanges_15 : decode cX8_setRanges 15 = .ok (.iadd, 1) := by decide +kernel
theorem dX8_setRanges_16 : decode cX8_setRanges 16 = .ok (.iload_n 2, 1) := by decide +kernel
theorem dX8_setRanges_17 : decode cX8_setRanges 17 = .ok (.iastore, 1) := by decide +kernel
theorem dX8_setRanges_18 : decode cX8_setRanges 18 = .ok (.iinc 3 1, 3) := by decide +kernel
theorem dX8_setRanges_21 : decode cX8_setRanges 21 = .ok (.goto (-19), 3) := by decide +kernel
theorem dX8_setRanges_24 : decode cX8_setRanges 24 = .ok (.return_, 1) := by decide +kernel
theorem dX8_rangeNeeded_0 : decode cX8_rangeNeeded 0 = .ok (.aload_n 0, 1) := by decide +kernel
theorem dX8_rangeNeeded_1 : decode cX8_rangeNeeded 1 = .ok (.iconst 0, 1) := by decide +kernel
theorem dX8_rangeNeeded_2 : decode cX8_rangeNeeded 2 = .ok (.putfield 44, 3) := by decide +kernel
theorem dX8_rangeNeeded_5 : decode cX8_rangeNeeded 5 = .ok (.aload_n 0, 1) := by decide +kernel
theorem dX8_rangeNeeded_6 : decode cX8_rangeNeeded 6 = .ok (.getfield 16, 3) := by decide +kernel
theorem dX8_rangeNeeded_9 : decode cX8_rangeNeeded 9 = .ok (.iconst 0, 1) := by decide +kernel
theorem dX8_rangeNeeded_10 : decode cX8_rangeNeeded 10 = .ok (.aload_n 0, 1) := by decide +kernel
theorem dX8_rangeNeeded_11 : decode cX8_rangeNeeded 11 = .ok (.getfield 19, 3) := by decide +kernel
theorem dX8_rangeNeeded_14 : decode cX8_rangeNeeded 14 = .ok (.iconst 0, 1) := by decide +kernel
theorem dX8_rangeNeeded_15 : decode cX8_rangeNeeded 15 = .ok (.sipush 264, 3) := by decide +kernel
theorem dX8_rangeNeeded_18 : decode cX8_rangeNeeded 18 = .ok (.invokestatic 53, 3) := by decide +kernel
theorem dX8_rangeNeeded_21 : decode cX8_rangeNeeded 21 = .ok (.iconst 0, 1) := by decide +kernel
theorem dX8_rangeNeeded_22 : decode cX8_rangeNeeded 22 = .ok (.istore_n 1, 1) := by decide +kernel
theorem dX8_rangeNeeded_23 : decode cX8_rangeNeeded 23 = .ok (.aload_n 0, 1) := by decide +kernel
theorem dX8_rangeNeeded_24 : decode cX8_rangeNeeded 24 = .ok (.aload_n 0, 1) := by decide +kernel
theorem dX8_rangeNeeded_25 : decode cX8_rangeNeeded 25 = .ok (.getfield 19, 3) := by decide +kernel
theorem dX8_rangeNeeded_28 : decode cX8_rangeNeeded 28 = .ok (.iload_n 1, 1) := by decide +kernel
theorem dX8_rangeNeeded_29 : decode cX8_rangeNeeded 29 = .ok (.invokevirtual 208, 3) := by decide +kernel
theorem dX8_rangeNeeded_32 : decode cX8_rangeNeeded 32 = .ok (.aload_n 0, 1) := by decide +kernel
theorem dX8_rangeNeeded_33 : decode cX8_rangeNeeded 33 = .ok (.aload_n 0, 1) := by decide +kernel
theorem dX8_rangeNeeded_34 : decode cX8_rangeNeeded 34 = .ok (.getfield 19, 3) := by decide +kernel
theorem dX8_rangeNeeded_37 : decode cX8_rangeNeeded 37 = .ok (.invokevirtual 205, 3) := by decide +kernel
theorem dX8_rangeNeeded_40 : decode cX8_rangeNeeded 40 = .ok (.iconst 1, 1) := by decide +kernel
theorem dX8_rangeNeeded_41 : decode cX8_rangeNeeded 41 = .ok (.if_icmp .le 18, 3) := by decide +kernel
theorem dX8_rangeNeeded_44 : decode cX8_rangeNeeded 44 = .ok (.iinc 1 1, 3) := by decide +kernel
theorem dX8_rangeNeeded_47 : decode cX8_rangeNeeded 47 = .ok (.aload_n 0, 1) := by decide +kernel
theorem dX8_rangeNeeded_48 : decode cX8_rangeNeeded 48 = .ok (.aload_n 0, 1) := by decide +kernel
theorem dX8_rangeNeeded_49 : decode cX8_rangeNeeded 49 = .ok (.getfield 19, 3) := by decide +kernel
theorem dX8_rangeNeeded_52 : decode cX8_rangeNeeded 52 = .ok (.iload_n 1, 1) := by decide +kernel
theorem dX8_rangeNeeded_53 : decode cX8_rangeNeeded 53 = .ok (.invokevirtual 208, 3) := by decide +kernel
theorem dX8_rangeNeeded_56 : decode cX8_rangeNeeded 56 = .ok (.goto (-24), 3) := by decide +kernel
theorem dX8_rangeNeeded_59 : decode cX8_rangeNeeded 59 = .ok (.iload_n 1, 1) := by decide +kernel
theorem dX8_rangeNeeded_60 : decode cX8_rangeNeeded 60 = .ok (.ireturn, 1) := by decide +kernel
theorem dX8_doubles_0 : decode cX8_doubles 0 = .ok (.iconst 0, 1) := by decide +kernel
theorem dX8_doubles_1 : decode cX8_doubles 1 = .ok (.istore_n 1, 1) := by decide +kernel
theorem dX8_doubles_2 : decode cX8_doubles 2 = .ok (.iconst 0, 1) := by decide +kernel
theorem dX8_doubles_3 : decode cX8_doubles 3 = .ok (.istore_n 2, 1) := by decide +kernel
theorem dX8_doubles_4 : decode cX8_doubles 4 = .ok (.iload_n 2, 1) := by decide +kernel
theorem dX8_doubles_5 : decode cX8_doubles 5 = .ok (.aload_n 0, 1) := by decide +kernel
theorem dX8_doubles_6 : decode cX8_doubles 6 = .ok (.iconst 1, 1) := by decide +kernel
theorem dX8_doubles_7 : decode cX8_doubles 7 = .ok (.iaload, 1) := by decide +kernel
theorem dX8_doubles_8 : decode cX8_doubles 8 = .ok (.if_icmp .ge 31, 3) := by decide +kernel
theorem dX8_doubles_11 : decode cX8_doubles 11 = .ok (.aload_n 0, 1) := by decide +kernel
theorem dX8_doubles_12 : decode cX8_doubles 12 = .ok (.iload_n 2, 1) := by decide +kernel
theorem dX8_doubles_13 : decode cX8_doubles 13 = .ok (.invokestatic 167, 3) := by decide +kernel
theorem dX8_doubles_16 : decode cX8_doubles 16 = .ok (.istore_n 3, 1) := by decide +kernel
theorem dX8_doubles_17 : decode cX8_doubles 17 = .ok (.iload_n 1, 1) := by decide +kernel
theorem dX8_doubles_18 : decode cX8_doubles 18 = .ok (.iload_n 3, 1) := by decide +kernel
theorem dX8_doubles_19 : decode cX8_doubles 19 = .ok (.iload_n 3, 1) := by decide +kernel
theorem dX8_doubles_20 : decode cX8_doubles 20 = .ok (.iconst 1, 1) := by decide +kernel
theorem dX8_doubles_21 : decode cX8_doubles 21 = .ok (.isub, 1) := by decide +kernel
theorem dX8_doubles_22 : decode cX8_doubles 22 = .ok (.iand, 1) := by decide +kernel
theorem dX8_doubles_23 : decode cX8_doubles 23 = .ok (.ifCond .eq 7, 3) := by decide +kernel
theorem dX8_doubles_26 : decode cX8_doubles 26 = .ok (.iconst 1, 1) := by decide +kernel
theorem dX8_doubles_27 : decode cX8_doubles 27 = .ok (.goto 4, 3) := by decide +kernel
theorem dX8_doubles_30 : decode cX8_doubles 30 = .ok (.iconst 0, 1) := by decide +kernel
theorem dX8_doubles_31 : decode cX8_doubles 31 = .ok (.iadd, 1) := by decide +kernel
theorem dX8_doubles_32 : decode cX8_doubles 32 = .ok (.istore_n 1, 1) := by decide +kernel
theorem dX8_doubles_33 : decode cX8_doubles 33 = .ok (.iinc 2 1, 3) := by decide +kernel
theorem dX8_doubles_36 : decode cX8_doubles 36 = .ok (.goto (-32), 3) := by decide +kernel
theorem dX8_doubles_39 : decode cX8_doubles 39 = .ok (.iload_n 1, 1) := by decide +kernel
theorem dX8_doubles_40 : decode cX8_doubles 40 = .ok (.ireturn, 1) := by decide +kernel
theorem dX8_conflicts_0 : decode cX8_conflicts 0 = .ok (.aload_n 0, 1) := by decide +kernel
theorem dX8_conflicts_1 : decode cX8_conflicts 1 = .ok (.iload_n 1, 1) := by decide +kernel
theorem dX8_conflicts_2 : decode cX8_conflicts 2 = .ok (.i2l, 1) := by decide +kernel
theorem dX8_conflicts_3 : decode cX8_conflicts 3 = .ok (.lconst 0, 1) := by decide +kernel
theorem dX8_conflicts_4 : decode cX8_conflicts 4 = .ok (.ldc2_w 211, 3) := by decide +kernel
theorem dX8_conflicts_7 : decode cX8_conflicts 7 = .ok (.invokestatic 57, 3) := by decide +kernel
theorem dX8_conflicts_10 : decode cX8_conflicts 10 = .ok (.ifCond .eq 7, 3) := by decide +kernel
theorem dX8_conflicts_13 : decode cX8_conflicts 13 = .ok (.iconst 0, 1) := by decide +kernel
theorem dX8_conflicts_14 : decode cX8_conflicts 14 = .ok (.goto 4, 3) := by decide +kernel
theorem dX8_conflicts_17 : decode cX8_conflicts 17 = .ok (.iconst 1, 1) := by decide +kernel
theorem dX8_conflicts_18 : decode cX8_conflicts 18 = .ok (.invokevirtual 126, 3) := by decide +kernel
theorem dX8_conflicts_21 : decode cX8_conflicts 21 = .ok (.ifCond .eq 5, 3) := by decide +kernel
theorem dX8_conflicts_24 : decode cX8_conflicts 24 = .ok (.iconst 0, 1) := by decide +kernel
theorem dX8_conflicts_25 : decode cX8_conflicts 25 = .ok (.ireturn, 1) := by decide +kernel
theorem dX8_conflicts_26 : decode cX8_conflicts 26 = .ok (.iload_n 1, 1) := by decide +kernel
theorem dX8_conflicts_27 : decode cX8_conflicts 27 = .ok (.ifCond .ne 11, 3) := by decide +kernel
theorem dX8_conflicts_30 : decode cX8_conflicts 30 = .ok (.aload_n 0, 1) := by decide +kernel
theorem dX8_conflicts_31 : decode cX8_conflicts 31 = .ok (.getfield 16, 3) := by decide +kernel
theorem dX8_conflicts_34 : decode cX8_conflicts 34 = .ok (.invokestatic 213, 3) := by decide +kernel
theorem dX8_conflicts_37 : decode cX8_conflicts 37 = .ok (.ireturn, 1) := by decide +kernel
theorem dX8_conflicts_38 : decode cX8_conflicts 38 = .ok (.iconst 0, 1) := by decide +kernel
theorem dX8_conflicts_39 : decode cX8_conflicts 39 = .ok (.istore_n 2, 1) := by decide +kernel
theorem dX8_conflicts_40 : decode cX8_conflicts 40 = .ok (.iconst 0, 1) := by decide +kernel
theorem dX8_conflicts_41 : decode cX8_conflicts 41 = .ok (.istore_n 3, 1) := by decide +kernel
theorem dX8_conflicts_42 : decode cX8_conflicts 42 = .ok (.iload_n 3, 1) := by decide +kernel
theorem dX8_conflicts_43 : decode cX8_conflicts 43 = .ok (.aload_n 0, 1) := by decide +kernel
theorem dX8_conflicts_44 : decode cX8_conflicts 44 = .ok (.getfield 16, 3) := by decide +kernel
theorem dX8_conflicts_47 : decode cX8_conflicts 47 = .ok (.iconst 0, 1) := by decide +kernel
theorem dX8_conflicts_48 : decode cX8_conflicts 48 = .ok (.iaload, 1) := by decide +kernel
theorem dX8_conflicts_49 : decode cX8_conflicts 49 = .ok (.if_icmp .ge 134, 3) := by decide +kernel
theorem dX8_conflicts_52 : decode cX8_conflicts 52 = .ok (.iconst 0, 1) := by decide +kernel
theorem dX8_conflicts_53 : decode cX8_conflicts 53 = .ok (.istore 4, 2) := by decide +kernel
theorem dX8_conflicts_55 : decode cX8_conflicts 55 = .ok (.iload 4, 2) := by decide +kernel
theorem dX8_conflicts_57 : decode cX8_conflicts 57 = .ok (.aload_n 0, 1) := by decide +kernel
theorem dX8_conflicts_58 : decode cX8_conflicts 58 = .ok (.getfield 16, 3) := by decide +kernel
theorem dX8_conflicts_61 : decode cX8_conflicts 61 = .ok (.iconst 1, 1) := by decide +kernel
theorem dX8_conflicts_62 : decode cX8_conflicts 62 = .ok (.iaload, 1) := by decide +kernel
theorem dX8_conflicts_63 : decode cX8_conflicts 63 = .ok (.if_icmp .ge 114, 3) := by decide +kernel
theorem dX8_conflicts_66 : decode cX8_conflicts 66 = .ok (.aload_n 0, 1) := by decide +kernel
theorem dX8_conflicts_67 : decode cX8_conflicts 67 = .ok (.getfield 16, 3) := by decide +kernel
theorem dX8_conflicts_70 : decode cX8_conflicts 70 = .ok (.iload_n 3, 1) := by decide +kernel
theorem dX8_conflicts_71 : decode cX8_conflicts 71 = .ok (.invokestatic 71, 3) := by decide +kernel
theorem dX8_conflicts_74 : decode cX8_conflicts 74 = .ok (.ifCond .eq 103, 3) := by decide +kernel
theorem dX8_conflicts_77 : decode cX8_conflicts 77 = .ok (.iload_n 3, 1) := by decide +kernel
theorem dX8_conflicts_78 : decode cX8_conflicts 78 = .ok (.iload 4, 2) := by decide +kernel
theorem dX8_conflicts_80 : decode cX8_conflicts 80 = .ok (.invokestatic 83, 3) := by decide +kernel
theorem dX8_conflicts_83 : decode cX8_conflicts 83 = .ok (.istore 5, 2) := by decide +kernel
theorem dX8_conflicts_85 : decode cX8_conflicts 85 = .ok (.iload_n 1, 1) := by decide +kernel
theorem dX8_conflicts_86 : decode cX8_conflicts 86 = .ok (.iconst 1, 1) := by decide +kernel
theorem dX8_conflicts_87 : decode cX8_conflicts 87 = .ok (.if_icmp .ne 39, 3) := by decide +kernel
theorem dX8_conflicts_90 : decode cX8_conflicts 90 = .ok (.iload_n 2, 1) := by decide +kernel
theorem dX8_conflicts_91 : decode cX8_conflicts 91 = .ok (.aload_n 0, 1) := by decide +kernel
theorem dX8_conflicts_92 : decode cX8_conflicts 92 = .ok (.getfield 16, 3) := by decide +kernel
theorem dX8_conflicts_95 : decode cX8_conflicts 95 = .ok (.iload 4, 2) := by decide +kernel
theorem dX8_conflicts_97 : decode cX8_conflicts 97 = .ok (.invokestatic 107, 3) := by decide +kernel
theorem dX8_conflicts_100 : decode cX8_conflicts 100 = .ok (.ifCond .eq 20, 3) := by decide +kernel
theorem dX8_conflicts_103 : decode cX8_conflicts 103 = .ok (.aload_n 0, 1) := by decide +kernel
theorem dX8_conflicts_104 : decode cX8_conflicts 104 = .ok (.getfield 16, 3) := by decide +kernel
theorem dX8_conflicts_107 : decode cX8_conflicts 107 = .ok (.iload 5, 2) := by decide +kernel
theorem dX8_conflicts_109 : decode cX8_conflicts 109 = .ok (.iconst 0, 1) := by decide +kernel
theorem dX8_conflicts_110 : decode cX8_conflicts 110 = .ok (.iadd, 1) := by decide +kernel
theorem dX8_conflicts_111 : decode cX8_conflicts 111 = .ok (.iaload, 1) := by decide +kernel
theorem dX8_conflicts_112 : decode cX8_conflicts 112 = .ok (.iconst 2, 1) := by decide +kernel
theorem dX8_conflicts_113 : decode cX8_conflicts 113 = .ok (.if_icmp .eq 7, 3) := by decide +kernel
theorem dX8_conflicts_116 : decode cX8_conflicts 116 = .ok (.iconst 1, 1) := by decide +kernel
theorem dX8_conflicts_117 : decode cX8_conflicts 117 = .ok (.goto 4, 3) := by decide +kernel
theorem dX8_conflicts_120 : decode cX8_conflicts 120 = .ok (.iconst 0, 1) := by decide +kernel
theorem dX8_conflicts_121 : decode cX8_conflicts 121 = .ok (.iadd, 1) := by decide +kernel
theorem dX8_conflicts_122 : decode cX8_conflicts 122 = .ok (.istore_n 2, 1) := by decide +kernel
theorem dX8_conflicts_123 : decode cX8_conflicts 123 = .ok (.goto 48, 3) := by decide +kernel
theorem dX8_conflicts_126 : decode cX8_conflicts 126 = .ok (.iload_n 2, 1) := by decide +kernel
theorem dX8_conflicts_127 : decode cX8_conflicts 127 = .ok (.aload_n 0, 1) := by decide +kernel
theorem dX8_conflicts_128 : decode cX8_conflicts 128 = .ok (.getfield 16, 3) := by decide +kernel
theorem dX8_conflicts_131 : decode cX8_conflicts 131 = .ok (.iload 5, 2) := by decide +kernel
theorem dX8_conflicts_133 : decode cX8_conflicts 133 = .ok (.aload_n 0, 1) := by decide +kernel
theorem dX8_conflicts_134 : decode cX8_conflicts 134 = .ok (.getfield 16, 3) := by decide +kernel
theorem dX8_conflicts_137 : decode cX8_conflicts 137 = .ok (.iconst 2, 1) := by decide +kernel
theorem dX8_conflicts_138 : decode cX8_conflicts 138 = .ok (.iaload, 1) := by decide +kernel
theorem dX8_conflicts_139 : decode cX8_conflicts 139 = .ok (.invokestatic 79, 3) := by decide +kernel
theorem dX8_conflicts_142 : decode cX8_conflicts 142 = .ok (.ifCond .eq 26, 3) := by decide +kernel
theorem dX8_conflicts_145 : decode cX8_conflicts 145 = .ok (.aload_n 0, 1) := by decide +kernel
theorem dX8_conflicts_146 : decode cX8_conflicts 146 = .ok (.getfield 16, 3) := by decide +kernel
theorem dX8_conflicts_149 : decode cX8_conflicts 149 = .ok (.aload_n 0, 1) := by decide +kernel
theorem dX8_conflicts_150 : decode cX8_conflicts 150 = .ok (.getfield 16, 3) := by decide +kernel
theorem dX8_conflicts_153 : decode cX8_conflicts 153 = .ok (.iload 5, 2) := by decide +kernel
theorem dX8_conflicts_155 : decode cX8_conflicts 155 = .ok (.iconst 1, 1) := by decide +kernel
theorem dX8_conflicts_156 : decode cX8_conflicts 156 = .ok (.iadd, 1) := by decide +kernel
theorem dX8_conflicts_157 : decode cX8_conflicts 157 = .ok (.iaload, 1) := by decide +kernel
theorem dX8_conflicts_158 : decode cX8_conflicts 158 = .ok (.invokestatic 71, 3) := by decide +kernel
theorem dX8_conflicts_161 : decode cX8_conflicts 161 = .ok (.ifCond .ne 7, 3) := by decide +kernel
theorem dX8_conflicts_164 : decode cX8_conflicts 164 = .ok (.iconst 1, 1) := by decide +kernel
theorem dX8_conflicts_165 : decode cX8_conflicts 165 = .ok (.goto 4, 3) := by decide +kernel
theorem dX8_conflicts_168 : decode cX8_conflicts 168 = .ok (.iconst 0, 1) := by decide +kernel
theorem dX8_conflicts_169 : decode cX8_conflicts 169 = .ok (.iadd, 1) := by decide +kernel
theorem dX8_conflicts_170 : decode cX8_conflicts 170 = .ok (.istore_n 2, 1) := by decide +kernel
theorem dX8_conflicts_171 : decode cX8_conflicts 171 = .ok (.iinc 4 1, 3) := by decide +kernel
theorem dX8_conflicts_174 : decode cX8_conflicts 174 = .ok (.goto (-119), 3) := by decide +kernel
theorem dX8_conflicts_177 : decode cX8_conflicts 177 = .ok (.iinc 3 1, 3) := by decide +kernel
theorem dX8_conflicts_180 : decode cX8_conflicts 180 = .ok (.goto (-138), 3) := by decide +kernel
theorem dX8_conflicts_183 : decode cX8_conflicts 183 = .ok (.iload_n 2, 1) := by decide +kernel
theorem dX8_conflicts_184 : decode cX8_conflicts 184 = .ok (.ireturn, 1) := by decide +kernel
theorem dX8_finishedAfter_0 : decode cX8_finishedAfter 0 = .ok (.aload_n 0, 1) := by decide +kernel
theorem dX8_finishedAfter_1 : decode cX8_finishedAfter 1 = .ok (.iload_n 1, 1) := by decide +kernel
theorem dX8_finishedAfter_2 : decode cX8_finishedAfter 2 = .ok (.i2l, 1) := by decide +kernel
theorem dX8_finishedAfter_3 : decode cX8_finishedAfter 3 = .ok (.lconst 0, 1) := by decide +kernel
theorem dX8_finishedAfter_4 : decode cX8_finishedAfter 4 = .ok (.ldc2_w 216, 3) := by decide +kernel
theorem dX8_finishedAfter_7 : decode cX8_finishedAfter 7 = .ok (.invokestatic 57, 3) := by decide +kernel
theorem dX8_finishedAfter_10 : decode cX8_finishedAfter 10 = .ok (.ifCond .eq 7, 3) := by decide +kernel
theorem dX8_finishedAfter_13 : decode cX8_finishedAfter 13 = .ok (.iconst 0, 1) := by decide +kernel
theorem dX8_finishedAfter_14 : decode cX8_finishedAfter 14 = .ok (.goto 4, 3) := by decide +kernel
theorem dX8_finishedAfter_17 : decode cX8_finishedAfter 17 = .ok (.iconst 1, 1) := by decide +kernel
theorem dX8_finishedAfter_18 : decode cX8_finishedAfter 18 = .ok (.invokevirtual 126, 3) := by decide +kernel
theorem dX8_finishedAfter_21 : decode cX8_finishedAfter 21 = .ok (.ifCond .eq 5, 3) := by decide +kernel
theorem dX8_finishedAfter_24 : decode cX8_finishedAfter 24 = .ok (.iconst 0, 1) := by decide +kernel
theorem dX8_finishedAfter_25 : decode cX8_finishedAfter 25 = .ok (.ireturn, 1) := by decide +kernel
theorem dX8_finishedAfter_26 : decode cX8_finishedAfter 26 = .ok (.aload_n 0, 1) := by decide +kernel
theorem dX8_finishedAfter_27 : decode cX8_finishedAfter 27 = .ok (.getfield 16, 3) := by decide +kernel
theorem dX8_finishedAfter_30 : decode cX8_finishedAfter 30 = .ok (.iconst 0, 1) := by decide +kernel
theorem dX8_finishedAfter_31 : decode cX8_finishedAfter 31 = .ok (.aload_n 0, 1) := by decide +kernel
theorem dX8_finishedAfter_32 : decode cX8_finishedAfter 32 = .ok (.getfield 19, 3) := by decide +kernel
theorem dX8_finishedAfter_35 : decode cX8_finishedAfter 35 = .ok (.iconst 0, 1) := by decide +kernel
theorem dX8_finishedAfter_36 : decode cX8_finishedAfter 36 = .ok (.sipush 264, 3) := by decide +kernel
theorem dX8_finishedAfter_39 : decode cX8_finishedAfter 39 = .ok (.invokestatic 53, 3) := by decide +kernel
theorem dX8_finishedAfter_42 : decode cX8_finishedAfter 42 = .ok (.iconst 0, 1) := by decide +kernel
theorem dX8_finishedAfter_43 : decode cX8_finishedAfter 43 = .ok (.istore_n 2, 1) := by decide +kernel
theorem dX8_finishedAfter_44 : decode cX8_finishedAfter 44 = .ok (.iload_n 2, 1) := by decide +kernel
theorem dX8_finishedAfter_45 : decode cX8_finishedAfter 45 = .ok (.sipush 150, 3) := by decide +kernel
theorem dX8_finishedAfter_48 : decode cX8_finishedAfter 48 = .ok (.if_icmp .gt 30, 3) := by decide +kernel
theorem dX8_finishedAfter_51 : decode cX8_finishedAfter 51 = .ok (.aload_n 0, 1) := by decide +kernel
theorem dX8_finishedAfter_52 : decode cX8_finishedAfter 52 = .ok (.getfield 19, 3) := by decide +kernel
theorem dX8_finishedAfter_55 : decode cX8_finishedAfter 55 = .ok (.invokestatic 152, 3) := by decide +kernel
theorem dX8_finishedAfter_58 : decode cX8_finishedAfter 58 = .ok (.iload_n 1, 1) := by decide +kernel
theorem dX8_finishedAfter_59 : decode cX8_finishedAfter 59 = .ok (.if_icmp .lt 5, 3) := by decide +kernel
theorem dX8_finishedAfter_62 : decode cX8_finishedAfter 62 = .ok (.iload_n 2, 1) := by decide +kernel
theorem dX8_finishedAfter_63 : decode cX8_finishedAfter 63 = .ok (.ireturn, 1) := by decide +kernel
theorem dX8_finishedAfter_64 : decode cX8_finishedAfter 64 = .ok (.aload_n 0, 1) := by decide +kernel
theorem dX8_finishedAfter_65 : decode cX8_finishedAfter 65 = .ok (.aload_n 0, 1) := by decide +kernel
theorem dX8_finishedAfter_66 : decode cX8_finishedAfter 66 = .ok (.getfield 19, 3) := by decide +kernel
theorem dX8_finishedAfter_69 : decode cX8_finishedAfter 69 = .ok (.invokevirtual 177, 3) := by decide +kernel
theorem dX8_finishedAfter_72 : decode cX8_finishedAfter 72 = .ok (.iinc 2 1, 3) := by decide +kernel
theorem dX8_finishedAfter_75 : decode cX8_finishedAfter 75 = .ok (.goto (-31), 3) := by decide +kernel
theorem dX8_finishedAfter_78 : decode cX8_finishedAfter 78 = .ok (.bipush (-9), 2) := by decide +kernel
theorem dX8_finishedAfter_80 : decode cX8_finishedAfter 80 = .ok (.ireturn, 1) := by decide +kernel
theorem dX8_isKnown_0 : decode cX8_isKnown 0 = .ok (.iconst 1, 1) := by decide +kernel
theorem dX8_isKnown_1 : decode cX8_isKnown 1 = .ok (.istore_n 2, 1) := by decide +kernel
theorem dX8_isKnown_2 : decode cX8_isKnown 2 = .ok (.iconst 0, 1) := by decide +kernel
theorem dX8_isKnown_3 : decode cX8_isKnown 3 = .ok (.istore_n 3, 1) := by decide +kernel
theorem dX8_isKnown_4 : decode cX8_isKnown 4 = .ok (.iload_n 3, 1) := by decide +kernel
theorem dX8_isKnown_5 : decode cX8_isKnown 5 = .ok (.aload_n 0, 1) := by decide +kernel
theorem dX8_isKnown_6 : decode cX8_isKnown 6 = .ok (.iconst 0, 1) := by decide +kernel
theorem dX8_isKnown_7 : decode cX8_isKnown 7 = .ok (.iaload, 1) := by decide +kernel
theorem dX8_isKnown_8 : decode cX8_isKnown 8 = .ok (.if_icmp .ge 40, 3) := by decide +kernel
theorem dX8_isKnown_11 : decode cX8_isKnown 11 = .ok (.iload_n 2, 1) := by decide +kernel
theorem dX8_isKnown_12 : decode cX8_isKnown 12 = .ok (.ifCond .eq 28, 3) := by decide +kernel
theorem dX8_isKnown_15 : decode cX8_isKnown 15 = .ok (.aload_n 0, 1) := by decide +kernel
theorem dX8_isKnown_16 : decode cX8_isKnown 16 = .ok (.iload_n 3, 1) := by decide +kernel
theorem dX8_isKnown_17 : decode cX8_isKnown 17 = .ok (.invokestatic 71, 3) := by decide +kernel
theorem dX8_isKnown_20 : decode cX8_isKnown 20 = .ok (.ifCond .eq 16, 3) := by decide +kernel
theorem dX8_isKnown_23 : decode cX8_isKnown 23 = .ok (.aload_n 0, 1) := by decide +kernel
theorem dX8_isKnown_24 : decode cX8_isKnown 24 = .ok (.iload_n 3, 1) := by decide +kernel
theorem dX8_isKnown_25 : decode cX8_isKnown 25 = .ok (.iload_n 1, 1) := by decide +kernel
theorem dX8_isKnown_26 : decode cX8_isKnown 26 = .ok (.invokestatic 83, 3) := by decide +kernel
theorem dX8_isKnown_29 : decode cX8_isKnown 29 = .ok (.iconst 0, 1) := by decide +kernel
theorem dX8_isKnown_30 : decode cX8_isKnown 30 = .ok (.iadd, 1) := by decide +kernel
theorem dX8_isKnown_31 : decode cX8_isKnown 31 = .ok (.iaload, 1) := by decide +kernel
theorem dX8_isKnown_32 : decode cX8_isKnown 32 = .ok (.iconst 2, 1) := by decide +kernel
theorem dX8_isKnown_33 : decode cX8_isKnown 33 = .ok (.if_icmp .ne 7, 3) := by decide +kernel
theorem dX8_isKnown_36 : decode cX8_isKnown 36 = .ok (.iconst 1, 1) := by decide +kernel
theorem dX8_isKnown_37 : decode cX8_isKnown 37 = .ok (.goto 4, 3) := by decide +kernel
theorem dX8_isKnown_40 : decode cX8_isKnown 40 = .ok (.iconst 0, 1) := by decide +kernel
theorem dX8_isKnown_41 : decode cX8_isKnown 41 = .ok (.istore_n 2, 1) := by decide +kernel
theorem dX8_isKnown_42 : decode cX8_isKnown 42 = .ok (.iinc 3 1, 3) := by decide +kernel
theorem dX8_isKnown_45 : decode cX8_isKnown 45 = .ok (.goto (-41), 3) := by decide +kernel
theorem dX8_isKnown_48 : decode cX8_isKnown 48 = .ok (.iload_n 2, 1) := by decide +kernel
theorem dX8_isKnown_49 : decode cX8_isKnown 49 = .ok (.ireturn, 1) := by decide +kernel
theorem dX8_knownAfter_0 : decode cX8_knownAfter 0 = .ok (.aload_n 0, 1) := by decide +kernel
theorem dX8_knownAfter_1 : decode cX8_knownAfter 1 = .ok (.aload_n 0, 1) := by decide +kernel
theorem dX8_knownAfter_2 : decode cX8_knownAfter 2 = .ok (.iload_n 1, 1) := by decide +kernel
theorem dX8_knownAfter_3 : decode cX8_knownAfter 3 = .ok (.invokevirtual 162, 3) := by decide +kernel
theorem dX8_knownAfter_6 : decode cX8_knownAfter 6 = .ok (.ifCond .eq 7, 3) := by decide +kernel
theorem dX8_knownAfter_9 : decode cX8_knownAfter 9 = .ok (.iconst 0, 1) := by decide +kernel
theorem dX8_knownAfter_10 : decode cX8_knownAfter 10 = .ok (.goto 4, 3) := by decide +kernel
theorem dX8_knownAfter_13 : decode cX8_knownAfter 13 = .ok (.iconst 1, 1) := by decide +kernel
theorem dX8_knownAfter_14 : decode cX8_knownAfter 14 = .ok (.invokevirtual 126, 3) := by decide +kernel
theorem dX8_knownAfter_17 : decode cX8_knownAfter 17 = .ok (.ifCond .eq 5, 3) := by decide +kernel
theorem dX8_knownAfter_20 : decode cX8_knownAfter 20 = .ok (.iconst 0, 1) := by decide +kernel
theorem dX8_knownAfter_21 : decode cX8_knownAfter 21 = .ok (.ireturn, 1) := by decide +kernel
theorem dX8_knownAfter_22 : decode cX8_knownAfter 22 = .ok (.aload_n 0, 1) := by decide +kernel
theorem dX8_knownAfter_23 : decode cX8_knownAfter 23 = .ok (.getfield 16, 3) := by decide +kernel
theorem dX8_knownAfter_26 : decode cX8_knownAfter 26 = .ok (.iconst 0, 1) := by decide +kernel
theorem dX8_knownAfter_27 : decode cX8_knownAfter 27 = .ok (.aload_n 0, 1) := by decide +kernel
theorem dX8_knownAfter_28 : decode cX8_knownAfter 28 = .ok (.getfield 19, 3) := by decide +kernel
theorem dX8_knownAfter_31 : decode cX8_knownAfter 31 = .ok (.iconst 0, 1) := by decide +kernel
theorem dX8_knownAfter_32 : decode cX8_knownAfter 32 = .ok (.sipush 264, 3) := by decide +kernel
theorem dX8_knownAfter_35 : decode cX8_knownAfter 35 = .ok (.invokestatic 53, 3) := by decide +kernel
theorem dX8_knownAfter_38 : decode cX8_knownAfter 38 = .ok (.iconst 0, 1) := by decide +kernel
theorem dX8_knownAfter_39 : decode cX8_knownAfter 39 = .ok (.istore_n 2, 1) := by decide +kernel
theorem dX8_knownAfter_40 : decode cX8_knownAfter 40 = .ok (.iload_n 2, 1) := by decide +kernel
theorem dX8_knownAfter_41 : decode cX8_knownAfter 41 = .ok (.sipush 150, 3) := by decide +kernel
theorem dX8_knownAfter_44 : decode cX8_knownAfter 44 = .ok (.if_icmp .gt 30, 3) := by decide +kernel
theorem dX8_knownAfter_47 : decode cX8_knownAfter 47 = .ok (.aload_n 0, 1) := by decide +kernel
theorem dX8_knownAfter_48 : decode cX8_knownAfter 48 = .ok (.getfield 19, 3) := by decide +kernel
theorem dX8_knownAfter_51 : decode cX8_knownAfter 51 = .ok (.iload_n 1, 1) := by decide +kernel
theorem dX8_knownAfter_52 : decode cX8_knownAfter 52 = .ok (.invokestatic 218, 3) := by decide +kernel
theorem dX8_knownAfter_55 : decode cX8_knownAfter 55 = .ok (.ifCond .eq 5, 3) := by decide +kernel
theorem dX8_knownAfter_58 : decode cX8_knownAfter 58 = .ok (.iload_n 2, 1) := by decide +kernel
theorem dX8_knownAfter_59 : decode cX8_knownAfter 59 = .ok (.ireturn, 1) := by decide +kernel
theorem dX8_knownAfter_60 : decode cX8_knownAfter 60 = .ok (.aload_n 0, 1) := by decide +kernel
theorem dX8_knownAfter_61 : decode cX8_knownAfter 61 = .ok (.aload_n 0, 1) := by decide +kernel
theorem dX8_knownAfter_62 : decode cX8_knownAfter 62 = .ok (.getfield 19, 3) := by decide +kernel
theorem dX8_knownAfter_65 : decode cX8_knownAfter 65 = .ok (.invokevirtual 177, 3) := by decide +kernel
theorem dX8_knownAfter_68 : decode cX8_knownAfter 68 = .ok (.iinc 2 1, 3) := by decide +kernel
theorem dX8_knownAfter_71 : decode cX8_knownAfter 71 = .ok (.goto (-31), 3) := by decide +kernel
theorem dX8_knownAfter_74 : decode cX8_knownAfter 74 = .ok (.bipush (-9), 2) := by decide +kernel
theorem dX8_knownAfter_76 : decode cX8_knownAfter 76 = .ok (.ireturn, 1) := by decide +kernel
theorem dX8_wastedIf_0 : decode cX8_wastedIf 0 = .ok (.aload_n 0, 1) := by decide +kernel
theorem dX8_wastedIf_1 : decode cX8_wastedIf 1 = .ok (.iload_n 1, 1) := by decide +kernel
theorem dX8_wastedIf_2 : decode cX8_wastedIf 2 = .ok (.i2l, 1) := by decide +kernel
theorem dX8_wastedIf_3 : decode cX8_wastedIf 3 = .ok (.lconst 0, 1) := by decide +kernel
theorem dX8_wastedIf_4 : decode cX8_wastedIf 4 = .ok (.ldc2_w 180, 3) := by decide +kernel
theorem dX8_wastedIf_7 : decode cX8_wastedIf 7 = .ok (.invokestatic 57, 3) := by decide +kernel
theorem dX8_wastedIf_10 : decode cX8_wastedIf 10 = .ok (.ifCond .eq 19, 3) := by decide +kernel
theorem dX8_wastedIf_13 : decode cX8_wastedIf 13 = .ok (.iload_n 2, 1) := by decide +kernel
theorem dX8_wastedIf_14 : decode cX8_wastedIf 14 = .ok (.i2l, 1) := by decide +kernel
theorem dX8_wastedIf_15 : decode cX8_wastedIf 15 = .ok (.lconst 1, 1) := by decide +kernel
theorem dX8_wastedIf_16 : decode cX8_wastedIf 16 = .ok (.ldc2_w 172, 3) := by decide +kernel
theorem dX8_wastedIf_19 : decode cX8_wastedIf 19 = .ok (.invokestatic 57, 3) := by decide +kernel
theorem dX8_wastedIf_22 : decode cX8_wastedIf 22 = .ok (.ifCond .eq 7, 3) := by decide +kernel
theorem dX8_wastedIf_25 : decode cX8_wastedIf 25 = .ok (.iconst 0, 1) := by decide +kernel
theorem dX8_wastedIf_26 : decode cX8_wastedIf 26 = .ok (.goto 4, 3) := by decide +kernel
theorem dX8_wastedIf_29 : decode cX8_wastedIf 29 = .ok (.iconst 1, 1) := by decide +kernel
theorem dX8_wastedIf_30 : decode cX8_wastedIf 30 = .ok (.invokevirtual 126, 3) := by decide +kernel
theorem dX8_wastedIf_33 : decode cX8_wastedIf 33 = .ok (.ifCond .eq 5, 3) := by decide +kernel
theorem dX8_wastedIf_36 : decode cX8_wastedIf 36 = .ok (.iconst 0, 1) := by decide +kernel
theorem dX8_wastedIf_37 : decode cX8_wastedIf 37 = .ok (.ireturn, 1) := by decide +kernel
theorem dX8_wastedIf_38 : decode cX8_wastedIf 38 = .ok (.aload_n 0, 1) := by decide +kernel
theorem dX8_wastedIf_39 : decode cX8_wastedIf 39 = .ok (.getfield 16, 3) := by decide +kernel
theorem dX8_wastedIf_42 : decode cX8_wastedIf 42 = .ok (.iconst 0, 1) := by decide +kernel
theorem dX8_wastedIf_43 : decode cX8_wastedIf 43 = .ok (.aload_n 0, 1) := by decide +kernel
theorem dX8_wastedIf_44 : decode cX8_wastedIf 44 = .ok (.getfield 19, 3) := by decide +kernel
theorem dX8_wastedIf_47 : decode cX8_wastedIf 47 = .ok (.iconst 0, 1) := by decide +kernel
theorem dX8_wastedIf_48 : decode cX8_wastedIf 48 = .ok (.sipush 264, 3) := by decide +kernel
theorem dX8_wastedIf_51 : decode cX8_wastedIf 51 = .ok (.invokestatic 53, 3) := by decide +kernel
theorem dX8_wastedIf_54 : decode cX8_wastedIf 54 = .ok (.aload_n 0, 1) := by decide +kernel
theorem dX8_wastedIf_55 : decode cX8_wastedIf 55 = .ok (.aload_n 0, 1) := by decide +kernel
theorem dX8_wastedIf_56 : decode cX8_wastedIf 56 = .ok (.getfield 19, 3) := by decide +kernel
theorem dX8_wastedIf_59 : decode cX8_wastedIf 59 = .ok (.iload_n 1, 1) := by decide +kernel
theorem dX8_wastedIf_60 : decode cX8_wastedIf 60 = .ok (.invokevirtual 208, 3) := by decide +kernel
theorem dX8_wastedIf_63 : decode cX8_wastedIf 63 = .ok (.iconst 0, 1) := by decide +kernel
theorem dX8_wastedIf_64 : decode cX8_wastedIf 64 = .ok (.istore_n 3, 1) := by decide +kernel
theorem dX8_wastedIf_65 : decode cX8_wastedIf 65 = .ok (.iload_n 3, 1) := by decide +kernel
theorem dX8_wastedIf_66 : decode cX8_wastedIf 66 = .ok (.iload_n 2, 1) := by decide +kernel
theorem dX8_wastedIf_67 : decode cX8_wastedIf 67 = .ok (.if_icmp .ge 17, 3) := by decide +kernel
theorem dX8_wastedIf_70 : decode cX8_wastedIf 70 = .ok (.aload_n 0, 1) := by decide +kernel
theorem dX8_wastedIf_71 : decode cX8_wastedIf 71 = .ok (.aload_n 0, 1) := by decide +kernel
theorem dX8_wastedIf_72 : decode cX8_wastedIf 72 = .ok (.getfield 19, 3) := by decide +kernel
theorem dX8_wastedIf_75 : decode cX8_wastedIf 75 = .ok (.invokevirtual 177, 3) := by decide +kernel
theorem dX8_wastedIf_78 : decode cX8_wastedIf 78 = .ok (.iinc 3 1, 3) := by decide +kernel
theorem dX8_wastedIf_81 : decode cX8_wastedIf 81 = .ok (.goto (-16), 3) := by decide +kernel
theorem dX8_wastedIf_84 : decode cX8_wastedIf 84 = .ok (.aload_n 0, 1) := by decide +kernel
theorem dX8_wastedIf_85 : decode cX8_wastedIf 85 = .ok (.getfield 19, 3) := by decide +kernel
theorem dX8_wastedIf_88 : decode cX8_wastedIf 88 = .ok (.iconst 5, 1) := by decide +kernel
theorem dX8_wastedIf_89 : decode cX8_wastedIf 89 = .ok (.invokestatic 156, 3) := by decide +kernel
theorem dX8_wastedIf_92 : decode cX8_wastedIf 92 = .ok (.ireturn, 1) := by decide +kernel
theorem dX8_worstLoss_0 : decode cX8_worstLoss 0 = .ok (.aload_n 0, 1) := by decide +kernel
theorem dX8_worstLoss_1 : decode cX8_worstLoss 1 = .ok (.iload_n 1, 1) := by decide +kernel
theorem dX8_worstLoss_2 : decode cX8_worstLoss 2 = .ok (.i2l, 1) := by decide +kernel
theorem dX8_worstLoss_3 : decode cX8_worstLoss 3 = .ok (.lconst 1, 1) := by decide +kernel
theorem dX8_worstLoss_4 : decode cX8_worstLoss 4 = .ok (.ldc2_w 172, 3) := by decide +kernel
theorem dX8_worstLoss_7 : decode cX8_worstLoss 7 = .ok (.invokestatic 57, 3) := by decide +kernel
theorem dX8_worstLoss_10 : decode cX8_worstLoss 10 = .ok (.ifCond .eq 7, 3) := by decide +kernel
theorem dX8_worstLoss_13 : decode cX8_worstLoss 13 = .ok (.iconst 0, 1) := by decide +kernel
theorem dX8_worstLoss_14 : decode cX8_worstLoss 14 = .ok (.goto 4, 3) := by decide +kernel
theorem dX8_worstLoss_17 : decode cX8_worstLoss 17 = .ok (.iconst 1, 1) := by decide +kernel
theorem dX8_worstLoss_18 : decode cX8_worstLoss 18 = .ok (.invokevirtual 126, 3) := by decide +kernel
theorem dX8_worstLoss_21 : decode cX8_worstLoss 21 = .ok (.ifCond .eq 5, 3) := by decide +kernel
theorem dX8_worstLoss_24 : decode cX8_worstLoss 24 = .ok (.iconst 0, 1) := by decide +kernel
theorem dX8_worstLoss_25 : decode cX8_worstLoss 25 = .ok (.ireturn, 1) := by decide +kernel
theorem dX8_worstLoss_26 : decode cX8_worstLoss 26 = .ok (.bipush (-9), 2) := by decide +kernel
theorem dX8_worstLoss_28 : decode cX8_worstLoss 28 = .ok (.istore_n 2, 1) := by decide +kernel
theorem dX8_worstLoss_29 : decode cX8_worstLoss 29 = .ok (.iconst 0, 1) := by decide +kernel
theorem dX8_worstLoss_30 : decode cX8_worstLoss 30 = .ok (.istore_n 3, 1) := by decide +kernel
theorem dX8_worstLoss_31 : decode cX8_worstLoss 31 = .ok (.iconst 0, 1) := by decide +kernel
theorem dX8_worstLoss_32 : decode cX8_worstLoss 32 = .ok (.istore 4, 2) := by decide +kernel
theorem dX8_worstLoss_34 : decode cX8_worstLoss 34 = .ok (.iload 4, 2) := by decide +kernel
theorem dX8_worstLoss_36 : decode cX8_worstLoss 36 = .ok (.aload_n 0, 1) := by decide +kernel
theorem dX8_worstLoss_37 : decode cX8_worstLoss 37 = .ok (.getfield 16, 3) := by decide +kernel
theorem dX8_worstLoss_40 : decode cX8_worstLoss 40 = .ok (.iconst 0, 1) := by decide +kernel
theorem dX8_worstLoss_41 : decode cX8_worstLoss 41 = .ok (.iaload, 1) := by decide +kernel
theorem dX8_worstLoss_42 : decode cX8_worstLoss 42 = .ok (.if_icmp .ge 101, 3) := by decide +kernel
theorem dX8_worstLoss_45 : decode cX8_worstLoss 45 = .ok (.aload_n 0, 1) := by decide +kernel
theorem dX8_worstLoss_46 : decode cX8_worstLoss 46 = .ok (.getfield 16, 3) := by decide +kernel
theorem dX8_worstLoss_49 : decode cX8_worstLoss 49 = .ok (.iload 4, 2) := by decide +kernel
theorem dX8_worstLoss_51 : decode cX8_worstLoss 51 = .ok (.invokestatic 71, 3) := by decide +kernel
theorem dX8_worstLoss_54 : decode cX8_worstLoss 54 = .ok (.ifCond .eq 83, 3) := by decide +kernel
theorem dX8_worstLoss_57 : decode cX8_worstLoss 57 = .ok (.aload_n 0, 1) := by decide +kernel
theorem dX8_worstLoss_58 : decode cX8_worstLoss 58 = .ok (.getfield 16, 3) := by decide +kernel
theorem dX8_worstLoss_61 : decode cX8_worstLoss 61 = .ok (.iconst 0, 1) := by decide +kernel
theorem dX8_worstLoss_62 : decode cX8_worstLoss 62 = .ok (.aload_n 0, 1) := by decide +kernel
theorem dX8_worstLoss_63 : decode cX8_worstLoss 63 = .ok (.getfield 19, 3) := by decide +kernel
theorem dX8_worstLoss_66 : decode cX8_worstLoss 66 = .ok (.iconst 0, 1) := by decide +kernel
theorem dX8_worstLoss_67 : decode cX8_worstLoss 67 = .ok (.sipush 264, 3) := by decide +kernel
theorem dX8_worstLoss_70 : decode cX8_worstLoss 70 = .ok (.invokestatic 53, 3) := by decide +kernel
theorem dX8_worstLoss_73 : decode cX8_worstLoss 73 = .ok (.aload_n 0, 1) := by decide +kernel
theorem dX8_worstLoss_74 : decode cX8_worstLoss 74 = .ok (.getfield 19, 3) := by decide +kernel
theorem dX8_worstLoss_77 : decode cX8_worstLoss 77 = .ok (.iload 4, 2) := by decide +kernel
theorem dX8_worstLoss_79 : decode cX8_worstLoss 79 = .ok (.invokestatic 61, 3) := by decide +kernel
theorem dX8_worstLoss_82 : decode cX8_worstLoss 82 = .ok (.iconst 3, 1) := by decide +kernel
theorem dX8_worstLoss_83 : decode cX8_worstLoss 83 = .ok (.iadd, 1) := by decide +kernel
theorem dX8_worstLoss_84 : decode cX8_worstLoss 84 = .ok (.iconst 0, 1) := by decide +kernel
theorem dX8_worstLoss_85 : decode cX8_worstLoss 85 = .ok (.iastore, 1) := by decide +kernel
theorem dX8_worstLoss_86 : decode cX8_worstLoss 86 = .ok (.iconst 0, 1) := by decide +kernel
theorem dX8_worstLoss_87 : decode cX8_worstLoss 87 = .ok (.istore 5, 2) := by decide +kernel
theorem dX8_worstLoss_89 : decode cX8_worstLoss 89 = .ok (.iload 5, 2) := by decide +kernel
theorem dX8_worstLoss_91 : decode cX8_worstLoss 91 = .ok (.iload_n 1, 1) := by decide +kernel
theorem dX8_worstLoss_92 : decode cX8_worstLoss 92 = .ok (.if_icmp .ge 17, 3) := by decide +kernel
theorem dX8_worstLoss_95 : decode cX8_worstLoss 95 = .ok (.aload_n 0, 1) := by decide +kernel
theorem dX8_worstLoss_96 : decode cX8_worstLoss 96 = .ok (.aload_n 0, 1) := by decide +kernel
theorem dX8_worstLoss_97 : decode cX8_worstLoss 97 = .ok (.getfield 19, 3) := by decide +kernel
theorem dX8_worstLoss_100 : decode cX8_worstLoss 100 = .ok (.invokevirtual 177, 3) := by decide +kernel
theorem dX8_worstLoss_103 : decode cX8_worstLoss 103 = .ok (.iinc 5 1, 3) := by decide +kernel
theorem dX8_worstLoss_106 : decode cX8_worstLoss 106 = .ok (.goto (-17), 3) := by decide +kernel
theorem dX8_worstLoss_109 : decode cX8_worstLoss 109 = .ok (.iload_n 2, 1) := by decide +kernel
theorem dX8_worstLoss_110 : decode cX8_worstLoss 110 = .ok (.bipush (-9), 2) := by decide +kernel
theorem dX8_worstLoss_112 : decode cX8_worstLoss 112 = .ok (.if_icmp .eq 14, 3) := by decide +kernel
theorem dX8_worstLoss_115 : decode cX8_worstLoss 115 = .ok (.aload_n 0, 1) := by decide +kernel
theorem dX8_worstLoss_116 : decode cX8_worstLoss 116 = .ok (.getfield 19, 3) := by decide +kernel
theorem dX8_worstLoss_119 : decode cX8_worstLoss 119 = .ok (.invokestatic 221, 3) := by decide +kernel
theorem dX8_worstLoss_122 : decode cX8_worstLoss 122 = .ok (.iload_n 3, 1) := by decide +kernel
theorem dX8_worstLoss_123 : decode cX8_worstLoss 123 = .ok (.if_icmp .ge 14, 3) := by decide +kernel
theorem dX8_worstLoss_126 : decode cX8_worstLoss 126 = .ok (.iload 4, 2) := by decide +kernel
theorem dX8_worstLoss_128 : decode cX8_worstLoss 128 = .ok (.istore_n 2, 1) := by decide +kernel
theorem dX8_worstLoss_129 : decode cX8_worstLoss 129 = .ok (.aload_n 0, 1) := by decide +kernel
theorem dX8_worstLoss_130 : decode cX8_worstLoss 130 = .ok (.getfield 19, 3) := by decide +kernel
theorem dX8_worstLoss_133 : decode cX8_worstLoss 133 = .ok (.invokestatic 221, 3) := by decide +kernel
theorem dX8_worstLoss_136 : decode cX8_worstLoss 136 = .ok (.istore_n 3, 1) := by decide +kernel
theorem dX8_worstLoss_137 : decode cX8_worstLoss 137 = .ok (.iinc 4 1, 3) := by decide +kernel
theorem dX8_worstLoss_140 : decode cX8_worstLoss 140 = .ok (.goto (-106), 3) := by decide +kernel
theorem dX8_worstLoss_143 : decode cX8_worstLoss 143 = .ok (.iload_n 2, 1) := by decide +kernel
theorem dX8_worstLoss_144 : decode cX8_worstLoss 144 = .ok (.ireturn, 1) := by decide +kernel
theorem dX8_share_0 : decode cX8_share 0 = .ok (.iconst (-1), 1) := by decide +kernel
theorem dX8_share_1 : decode cX8_share 1 = .ok (.istore_n 1, 1) := by decide +kernel
theorem dX8_share_2 : decode cX8_share 2 = .ok (.iconst 0, 1) := by decide +kernel
theorem dX8_share_3 : decode cX8_share 3 = .ok (.istore_n 2, 1) := by decide +kernel
theorem dX8_share_4 : decode cX8_share 4 = .ok (.iconst 0, 1) := by decide +kernel
theorem dX8_share_5 : decode cX8_share 5 = .ok (.istore_n 3, 1) := by decide +kernel
theorem dX8_share_6 : decode cX8_share 6 = .ok (.iload_n 3, 1) := by decide +kernel
theorem dX8_share_7 : decode cX8_share 7 = .ok (.bipush 6, 2) := by decide +kernel
theorem dX8_share_9 : decode cX8_share 9 = .ok (.if_icmp .ge 16, 3) := by decide +kernel
theorem dX8_share_12 : decode cX8_share 12 = .ok (.aload_n 0, 1) := by decide +kernel
theorem dX8_share_13 : decode cX8_share 13 = .ok (.getfield 38, 3) := by decide +kernel
theorem dX8_share_16 : decode cX8_share 16 = .ok (.iload_n 3, 1) := by decide +kernel
theorem dX8_share_17 : decode cX8_share 17 = .ok (.iconst (-1), 1) := by decide +kernel
theorem dX8_share_18 : decode cX8_share 18 = .ok (.iastore, 1) := by decide +kernel
theorem dX8_share_19 : decode cX8_share 19 = .ok (.iinc 3 1, 3) := by decide +kernel
theorem dX8_share_22 : decode cX8_share 22 = .ok (.goto (-16), 3) := by decide +kernel
theorem dX8_share_25 : decode cX8_share 25 = .ok (.iconst 0, 1) := by decide +kernel
theorem dX8_share_26 : decode cX8_share 26 = .ok (.istore_n 3, 1) := by decide +kernel
theorem dX8_share_27 : decode cX8_share 27 = .ok (.iconst 0, 1) := by decide +kernel
theorem dX8_share_28 : decode cX8_share 28 = .ok (.istore 4, 2) := by decide +kernel
theorem dX8_share_30 : decode cX8_share 30 = .ok (.iconst 0, 1) := by decide +kernel
theorem dX8_share_31 : decode cX8_share 31 = .ok (.istore 5, 2) := by decide +kernel
theorem dX8_share_33 : decode cX8_share 33 = .ok (.iconst 0, 1) := by decide +kernel
theorem dX8_share_34 : decode cX8_share 34 = .ok (.istore 6, 2) := by decide +kernel
theorem dX8_share_36 : decode cX8_share 36 = .ok (.iload_n 3, 1) := by decide +kernel
theorem dX8_share_37 : decode cX8_share 37 = .ok (.ifCond .lt 238, 3) := by decide +kernel
theorem dX8_share_40 : decode cX8_share 40 = .ok (.iload_n 3, 1) := by decide +kernel
theorem dX8_share_41 : decode cX8_share 41 = .ok (.aload_n 0, 1) := by decide +kernel
theorem dX8_share_42 : decode cX8_share 42 = .ok (.getfield 16, 3) := by decide +kernel
theorem dX8_share_45 : decode cX8_share 45 = .ok (.iconst 0, 1) := by decide +kernel
theorem dX8_share_46 : decode cX8_share 46 = .ok (.iaload, 1) := by decide +kernel
theorem dX8_share_47 : decode cX8_share 47 = .ok (.if_icmp .ne 48, 3) := by decide +kernel
theorem dX8_share_50 : decode cX8_share 50 = .ok (.iload 5, 2) := by decide +kernel
theorem dX8_share_52 : decode cX8_share 52 = .ok (.iload_n 1, 1) := by decide +kernel
theorem dX8_share_53 : decode cX8_share 53 = .ok (.if_icmp .gt 15, 3) := by decide +kernel
theorem dX8_share_56 : decode cX8_share 56 = .ok (.iload 5, 2) := by decide +kernel
theorem dX8_share_58 : decode cX8_share 58 = .ok (.iload_n 1, 1) := by decide +kernel
theorem dX8_share_59 : decode cX8_share 59 = .ok (.if_icmp .ne 30, 3) := by decide +kernel
theorem dX8_share_62 : decode cX8_share 62 = .ok (.iload 6, 2) := by decide +kernel
theorem dX8_share_64 : decode cX8_share 64 = .ok (.iload_n 2, 1) := by decide +kernel
theorem dX8_share_65 : decode cX8_share 65 = .ok (.if_icmp .ge 24, 3) := by decide +kernel
theorem dX8_share_68 : decode cX8_share 68 = .ok (.iload 5, 2) := by decide +kernel
theorem dX8_share_70 : decode cX8_share 70 = .ok (.istore_n 1, 1) := by decide +kernel
theorem dX8_share_71 : decode cX8_share 71 = .ok (.iload 6, 2) := by decide +kernel
theorem dX8_share_73 : decode cX8_share 73 = .ok (.istore_n 2, 1) := by decide +kernel
theorem dX8_share_74 : decode cX8_share 74 = .ok (.aload_n 0, 1) := by decide +kernel
theorem dX8_share_75 : decode cX8_share 75 = .ok (.getfield 38, 3) := by decide +kernel
theorem dX8_share_78 : decode cX8_share 78 = .ok (.iconst 0, 1) := by decide +kernel
theorem dX8_share_79 : decode cX8_share 79 = .ok (.aload_n 0, 1) := by decide +kernel
theorem dX8_share_80 : decode cX8_share 80 = .ok (.getfield 41, 3) := by decide +kernel
theorem dX8_share_83 : decode cX8_share 83 = .ok (.iconst 0, 1) := by decide +kernel
theorem dX8_share_84 : decode cX8_share 84 = .ok (.bipush 6, 2) := by decide +kernel
theorem dX8_share_86 : decode cX8_share 86 = .ok (.invokestatic 53, 3) := by decide +kernel
theorem dX8_share_89 : decode cX8_share 89 = .ok (.iinc 3 (-1), 3) := by decide +kernel
theorem dX8_share_92 : decode cX8_share 92 = .ok (.goto (-56), 3) := by decide +kernel
theorem dX8_share_95 : decode cX8_share 95 = .ok (.aload_n 0, 1) := by decide +kernel
theorem dX8_share_96 : decode cX8_share 96 = .ok (.getfield 38, 3) := by decide +kernel
theorem dX8_share_99 : decode cX8_share 99 = .ok (.iload_n 3, 1) := by decide +kernel
theorem dX8_share_100 : decode cX8_share 100 = .ok (.iaload, 1) := by decide +kernel
theorem dX8_share_101 : decode cX8_share 101 = .ok (.i2l, 1) := by decide +kernel
theorem dX8_share_102 : decode cX8_share 102 = .ok (.lconst 0, 1) := by decide +kernel
theorem dX8_share_103 : decode cX8_share 103 = .ok (.ldc2_w 150, 3) := by decide +kernel
theorem dX8_share_106 : decode cX8_share 106 = .ok (.invokestatic 57, 3) := by decide +kernel
theorem dX8_share_109 : decode cX8_share 109 = .ok (.ifCond .eq 40, 3) := by decide +kernel
theorem dX8_share_112 : decode cX8_share 112 = .ok (.iload 4, 2) := by decide +kernel
theorem dX8_share_114 : decode cX8_share 114 = .ok (.iconst 1, 1) := by decide +kernel
theorem dX8_share_115 : decode cX8_share 115 = .ok (.aload_n 0, 1) := by decide +kernel
theorem dX8_share_116 : decode cX8_share 116 = .ok (.getfield 38, 3) := by decide +kernel
theorem dX8_share_119 : decode cX8_share 119 = .ok (.iload_n 3, 1) := by decide +kernel
theorem dX8_share_120 : decode cX8_share 120 = .ok (.iaload, 1) := by decide +kernel
theorem dX8_share_121 : decode cX8_share 121 = .ok (.ishl, 1) := by decide +kernel
theorem dX8_share_122 : decode cX8_share 122 = .ok (.iconst (-1), 1) := by decide +kernel
theorem dX8_share_123 : decode cX8_share 123 = .ok (.ixor, 1) := by decide +kernel
theorem dX8_share_124 : decode cX8_share 124 = .ok (.iand, 1) := by decide +kernel
theorem dX8_share_125 : decode cX8_share 125 = .ok (.istore 4, 2) := by decide +kernel
theorem dX8_share_127 : decode cX8_share 127 = .ok (.iinc 5 (-1), 3) := by decide +kernel
theorem dX8_share_130 : decode cX8_share 130 = .ok (.iload 6, 2) := by decide +kernel
theorem dX8_share_132 : decode cX8_share 132 = .ok (.aload_n 0, 1) := by decide +kernel
theorem dX8_share_133 : decode cX8_share 133 = .ok (.getfield 16, 3) := by decide +kernel
theorem dX8_share_136 : decode cX8_share 136 = .ok (.iload_n 3, 1) := by decide +kernel
theorem dX8_share_137 : decode cX8_share 137 = .ok (.aload_n 0, 1) := by decide +kernel
theorem dX8_share_138 : decode cX8_share 138 = .ok (.getfield 38, 3) := by decide +kernel
theorem dX8_share_141 : decode cX8_share 141 = .ok (.iload_n 3, 1) := by decide +kernel
theorem dX8_share_142 : decode cX8_share 142 = .ok (.iaload, 1) := by decide +kernel
theorem dX8_share_143 : decode cX8_share 143 = .ok (.invokestatic 100, 3) := by decide +kernel
theorem dX8_share_146 : decode cX8_share 146 = .ok (.isub, 1) := by decide +kernel
theorem dX8_share_147 : decode cX8_share 147 = .ok (.istore 6, 2) := by decide +kernel
theorem dX8_share_149 : decode cX8_share 149 = .ok (.aload_n 0, 1) := by decide +kernel
theorem dX8_share_150 : decode cX8_share 150 = .ok (.getfield 38, 3) := by decide +kernel
theorem dX8_share_153 : decode cX8_share 153 = .ok (.iload_n 3, 1) := by decide +kernel
theorem dX8_share_154 : decode cX8_share 154 = .ok (.dup2, 1) := by decide +kernel
theorem dX8_share_155 : decode cX8_share 155 = .ok (.iaload, 1) := by decide +kernel
theorem dX8_share_156 : decode cX8_share 156 = .ok (.iconst 1, 1) := by decide +kernel
theorem dX8_share_157 : decode cX8_share 157 = .ok (.iadd, 1) := by decide +kernel
theorem dX8_share_158 : decode cX8_share 158 = .ok (.iastore, 1) := by decide +kernel
theorem dX8_share_159 : decode cX8_share 159 = .ok (.aload_n 0, 1) := by decide +kernel
theorem dX8_share_160 : decode cX8_share 160 = .ok (.getfield 38, 3) := by decide +kernel
theorem dX8_share_163 : decode cX8_share 163 = .ok (.iload_n 3, 1) := by decide +kernel
theorem dX8_share_164 : decode cX8_share 164 = .ok (.iaload, 1) := by decide +kernel
theorem dX8_share_165 : decode cX8_share 165 = .ok (.bipush 8, 2) := by decide +kernel
theorem dX8_share_167 : decode cX8_share 167 = .ok (.if_icmp .ge 32, 3) := by decide +kernel
theorem dX8_share_170 : decode cX8_share 170 = .ok (.aload_n 0, 1) := by decide +kernel
theorem dX8_share_171 : decode cX8_share 171 = .ok (.iload_n 3, 1) := by decide +kernel
theorem dX8_share_172 : decode cX8_share 172 = .ok (.aload_n 0, 1) := by decide +kernel
theorem dX8_share_173 : decode cX8_share 173 = .ok (.getfield 38, 3) := by decide +kernel
theorem dX8_share_176 : decode cX8_share 176 = .ok (.iload_n 3, 1) := by decide +kernel
theorem dX8_share_177 : decode cX8_share 177 = .ok (.iaload, 1) := by decide +kernel
theorem dX8_share_178 : decode cX8_share 178 = .ok (.iload 4, 2) := by decide +kernel
theorem dX8_share_180 : decode cX8_share 180 = .ok (.invokevirtual 224, 3) := by decide +kernel
theorem dX8_share_183 : decode cX8_share 183 = .ok (.ifCond .ne 16, 3) := by decide +kernel
theorem dX8_share_186 : decode cX8_share 186 = .ok (.aload_n 0, 1) := by decide +kernel
theorem dX8_share_187 : decode cX8_share 187 = .ok (.getfield 38, 3) := by decide +kernel
theorem dX8_share_190 : decode cX8_share 190 = .ok (.iload_n 3, 1) := by decide +kernel
theorem dX8_share_191 : decode cX8_share 191 = .ok (.dup2, 1) := by decide +kernel
theorem dX8_share_192 : decode cX8_share 192 = .ok (.iaload, 1) := by decide +kernel
theorem dX8_share_193 : decode cX8_share 193 = .ok (.iconst 1, 1) := by decide +kernel
theorem dX8_share_194 : decode cX8_share 194 = .ok (.iadd, 1) := by decide +kernel
theorem dX8_share_195 : decode cX8_share 195 = .ok (.iastore, 1) := by decide +kernel
theorem dX8_share_196 : decode cX8_share 196 = .ok (.goto (-37), 3) := by decide +kernel
theorem dX8_share_199 : decode cX8_share 199 = .ok (.aload_n 0, 1) := by decide +kernel
theorem dX8_share_200 : decode cX8_share 200 = .ok (.getfield 38, 3) := by decide +kernel
theorem dX8_share_203 : decode cX8_share 203 = .ok (.iload_n 3, 1) := by decide +kernel
theorem dX8_share_204 : decode cX8_share 204 = .ok (.iaload, 1) := by decide +kernel
theorem dX8_share_205 : decode cX8_share 205 = .ok (.bipush 8, 2) := by decide +kernel
theorem dX8_share_207 : decode cX8_share 207 = .ok (.if_icmp .le 16, 3) := by decide +kernel
theorem dX8_share_210 : decode cX8_share 210 = .ok (.aload_n 0, 1) := by decide +kernel
theorem dX8_share_211 : decode cX8_share 211 = .ok (.getfield 38, 3) := by decide +kernel
theorem dX8_share_214 : decode cX8_share 214 = .ok (.iload_n 3, 1) := by decide +kernel
theorem dX8_share_215 : decode cX8_share 215 = .ok (.iconst (-1), 1) := by decide +kernel
theorem dX8_share_216 : decode cX8_share 216 = .ok (.iastore, 1) := by decide +kernel
theorem dX8_share_217 : decode cX8_share 217 = .ok (.iinc 3 (-1), 3) := by decide +kernel
theorem dX8_share_220 : decode cX8_share 220 = .ok (.goto (-184), 3) := by decide +kernel
theorem dX8_share_223 : decode cX8_share 223 = .ok (.aload_n 0, 1) := by decide +kernel
theorem dX8_share_224 : decode cX8_share 224 = .ok (.getfield 38, 3) := by decide +kernel
theorem dX8_share_227 : decode cX8_share 227 = .ok (.iload_n 3, 1) := by decide +kernel
theorem dX8_share_228 : decode cX8_share 228 = .ok (.iaload, 1) := by decide +kernel
theorem dX8_share_229 : decode cX8_share 229 = .ok (.bipush 8, 2) := by decide +kernel
theorem dX8_share_231 : decode cX8_share 231 = .ok (.if_icmp .ge 38, 3) := by decide +kernel
theorem dX8_share_234 : decode cX8_share 234 = .ok (.iload 4, 2) := by decide +kernel
theorem dX8_share_236 : decode cX8_share 236 = .ok (.iconst 1, 1) := by decide +kernel
theorem dX8_share_237 : decode cX8_share 237 = .ok (.aload_n 0, 1) := by decide +kernel
theorem dX8_share_238 : decode cX8_share 238 = .ok (.getfield 38, 3) := by decide +kernel
theorem dX8_share_241 : decode cX8_share 241 = .ok (.iload_n 3, 1) := by decide +kernel
theorem dX8_share_242 : decode cX8_share 242 = .ok (.iaload, 1) := by decide +kernel
theorem dX8_share_243 : decode cX8_share 243 = .ok (.ishl, 1) := by decide +kernel
theorem dX8_share_244 : decode cX8_share 244 = .ok (.ior, 1) := by decide +kernel
theorem dX8_share_245 : decode cX8_share 245 = .ok (.istore 4, 2) := by decide +kernel
theorem dX8_share_247 : decode cX8_share 247 = .ok (.iinc 5 1, 3) := by decide +kernel
theorem dX8_share_250 : decode cX8_share 250 = .ok (.iload 6, 2) := by decide +kernel
theorem dX8_share_252 : decode cX8_share 252 = .ok (.aload_n 0, 1) := by decide +kernel
theorem dX8_share_253 : decode cX8_share 253 = .ok (.getfield 16, 3) := by decide +kernel
theorem dX8_share_256 : decode cX8_share 256 = .ok (.iload_n 3, 1) := by decide +kernel
theorem dX8_share_257 : decode cX8_share 257 = .ok (.aload_n 0, 1) := by decide +kernel
theorem dX8_share_258 : decode cX8_share 258 = .ok (.getfield 38, 3) := by decide +kernel
theorem dX8_share_261 : decode cX8_share 261 = .ok (.iload_n 3, 1) := by decide +kernel
theorem dX8_share_262 : decode cX8_share 262 = .ok (.iaload, 1) := by decide +kernel
theorem dX8_share_263 : decode cX8_share 263 = .ok (.invokestatic 100, 3) := by decide +kernel
theorem dX8_share_266 : decode cX8_share 266 = .ok (.iadd, 1) := by decide +kernel
theorem dX8_share_267 : decode cX8_share 267 = .ok (.istore 6, 2) := by decide +kernel
theorem dX8_share_269 : decode cX8_share 269 = .ok (.iinc 3 1, 3) := by decide +kernel
theorem dX8_share_272 : decode cX8_share 272 = .ok (.goto (-236), 3) := by decide +kernel
theorem dX8_share_275 : decode cX8_share 275 = .ok (.iload_n 2, 1) := by decide +kernel
theorem dX8_share_276 : decode cX8_share 276 = .ok (.ireturn, 1) := by decide +kernel
theorem dX8_canGet_0 : decode cX8_canGet 0 = .ok (.aload_n 0, 1) := by decide +kernel
theorem dX8_canGet_1 : decode cX8_canGet 1 = .ok (.getfield 16, 3) := by decide +kernel
theorem dX8_canGet_4 : decode cX8_canGet 4 = .ok (.iload_n 1, 1) := by decide +kernel
theorem dX8_canGet_5 : decode cX8_canGet 5 = .ok (.invokestatic 71, 3) := by decide +kernel
theorem dX8_canGet_8 : decode cX8_canGet 8 = .ok (.ifCond .eq 36, 3) := by decide +kernel
theorem dX8_canGet_11 : decode cX8_canGet 11 = .ok (.iload_n 2, 1) := by decide +kernel
theorem dX8_canGet_12 : decode cX8_canGet 12 = .ok (.aload_n 0, 1) := by decide +kernel
theorem dX8_canGet_13 : decode cX8_canGet 13 = .ok (.getfield 16, 3) := by decide +kernel
theorem dX8_canGet_16 : decode cX8_canGet 16 = .ok (.iconst 1, 1) := by decide +kernel
theorem dX8_canGet_17 : decode cX8_canGet 17 = .ok (.iaload, 1) := by decide +kernel
theorem dX8_canGet_18 : decode cX8_canGet 18 = .ok (.if_icmp .ge 26, 3) := by decide +kernel
theorem dX8_canGet_21 : decode cX8_canGet 21 = .ok (.aload_n 0, 1) := by decide +kernel
theorem dX8_canGet_22 : decode cX8_canGet 22 = .ok (.getfield 16, 3) := by decide +kernel
theorem dX8_canGet_25 : decode cX8_canGet 25 = .ok (.iload_n 2, 1) := by decide +kernel
theorem dX8_canGet_26 : decode cX8_canGet 26 = .ok (.invokestatic 107, 3) := by decide +kernel
theorem dX8_canGet_29 : decode cX8_canGet 29 = .ok (.ifCond .ne 15, 3) := by decide +kernel
theorem dX8_canGet_32 : decode cX8_canGet 32 = .ok (.iload_n 3, 1) := by decide +kernel
theorem dX8_canGet_33 : decode cX8_canGet 33 = .ok (.iload_n 2, 1) := by decide +kernel
theorem dX8_canGet_34 : decode cX8_canGet 34 = .ok (.ishr, 1) := by decide +kernel
theorem dX8_canGet_35 : decode cX8_canGet 35 = .ok (.iconst 1, 1) := by decide +kernel
theorem dX8_canGet_36 : decode cX8_canGet 36 = .ok (.iand, 1) := by decide +kernel
theorem dX8_canGet_37 : decode cX8_canGet 37 = .ok (.ifCond .ne 7, 3) := by decide +kernel
theorem dX8_canGet_40 : decode cX8_canGet 40 = .ok (.iconst 1, 1) := by decide +kernel
theorem dX8_canGet_41 : decode cX8_canGet 41 = .ok (.goto 4, 3) := by decide +kernel
theorem dX8_canGet_44 : decode cX8_canGet 44 = .ok (.iconst 0, 1) := by decide +kernel
theorem dX8_canGet_45 : decode cX8_canGet 45 = .ok (.ireturn, 1) := by decide +kernel
theorem dX8_bestShare_0 : decode cX8_bestShare 0 = .ok (.aload_n 0, 1) := by decide +kernel
theorem dX8_bestShare_1 : decode cX8_bestShare 1 = .ok (.iload_n 1, 1) := by decide +kernel
theorem dX8_bestShare_2 : decode cX8_bestShare 2 = .ok (.iconst (-1), 1) := by decide +kernel
theorem dX8_bestShare_3 : decode cX8_bestShare 3 = .ok (.if_icmp .eq 11, 3) := by decide +kernel
theorem dX8_bestShare_6 : decode cX8_bestShare 6 = .ok (.aload_n 0, 1) := by decide +kernel
theorem dX8_bestShare_7 : decode cX8_bestShare 7 = .ok (.iload_n 1, 1) := by decide +kernel
theorem dX8_bestShare_8 : decode cX8_bestShare 8 = .ok (.invokevirtual 159, 3) := by decide +kernel
theorem dX8_bestShare_11 : decode cX8_bestShare 11 = .ok (.ifCond .eq 7, 3) := by decide +kernel
theorem dX8_bestShare_14 : decode cX8_bestShare 14 = .ok (.iconst 0, 1) := by decide +kernel
theorem dX8_bestShare_15 : decode cX8_bestShare 15 = .ok (.goto 4, 3) := by decide +kernel
theorem dX8_bestShare_18 : decode cX8_bestShare 18 = .ok (.iconst 1, 1) := by decide +kernel
theorem dX8_bestShare_19 : decode cX8_bestShare 19 = .ok (.invokevirtual 126, 3) := by decide +kernel
theorem dX8_bestShare_22 : decode cX8_bestShare 22 = .ok (.ifCond .eq 5, 3) := by decide +kernel
theorem dX8_bestShare_25 : decode cX8_bestShare 25 = .ok (.iconst 0, 1) := by decide +kernel
theorem dX8_bestShare_26 : decode cX8_bestShare 26 = .ok (.ireturn, 1) := by decide +kernel
theorem dX8_bestShare_27 : decode cX8_bestShare 27 = .ok (.aload_n 0, 1) := by decide +kernel
theorem dX8_bestShare_28 : decode cX8_bestShare 28 = .ok (.invokevirtual 228, 3) := by decide +kernel
theorem dX8_bestShare_31 : decode cX8_bestShare 31 = .ok (.istore_n 2, 1) := by decide +kernel
theorem dX8_bestShare_32 : decode cX8_bestShare 32 = .ok (.iload_n 1, 1) := by decide +kernel
theorem dX8_bestShare_33 : decode cX8_bestShare 33 = .ok (.iconst (-1), 1) := by decide +kernel
theorem dX8_bestShare_34 : decode cX8_bestShare 34 = .ok (.if_icmp .ne 7, 3) := by decide +kernel
theorem dX8_bestShare_37 : decode cX8_bestShare 37 = .ok (.iload_n 2, 1) := by decide +kernel
theorem dX8_bestShare_38 : decode cX8_bestShare 38 = .ok (.goto 25, 3) := by decide +kernel
theorem dX8_bestShare_41 : decode cX8_bestShare 41 = .ok (.aload_n 0, 1) := by decide +kernel
theorem dX8_bestShare_42 : decode cX8_bestShare 42 = .ok (.getfield 41, 3) := by decide +kernel
theorem dX8_bestShare_45 : decode cX8_bestShare 45 = .ok (.iload_n 1, 1) := by decide +kernel
theorem dX8_bestShare_46 : decode cX8_bestShare 46 = .ok (.iaload, 1) := by decide +kernel
theorem dX8_bestShare_47 : decode cX8_bestShare 47 = .ok (.bipush 8, 2) := by decide +kernel
theorem dX8_bestShare_49 : decode cX8_bestShare 49 = .ok (.if_icmp .ne 8, 3) := by decide +kernel
theorem dX8_bestShare_52 : decode cX8_bestShare 52 = .ok (.bipush (-9), 2) := by decide +kernel
theorem dX8_bestShare_54 : decode cX8_bestShare 54 = .ok (.goto 9, 3) := by decide +kernel
theorem dX8_bestShare_57 : decode cX8_bestShare 57 = .ok (.aload_n 0, 1) := by decide +kernel
theorem dX8_bestShare_58 : decode cX8_bestShare 58 = .ok (.getfield 41, 3) := by decide +kernel
theorem dX8_bestShare_61 : decode cX8_bestShare 61 = .ok (.iload_n 1, 1) := by decide +kernel
theorem dX8_bestShare_62 : decode cX8_bestShare 62 = .ok (.iaload, 1) := by decide +kernel
theorem dX8_bestShare_63 : decode cX8_bestShare 63 = .ok (.ireturn, 1) := by decide +kernel
theorem dX8_command_0 : decode cX8_command 0 = .ok (.iload_n 1, 1) := by decide +kernel
theorem dX8_command_1 : decode cX8_command 1 = .ok (.sipush 10000, 3) := by decide +kernel
theorem dX8_command_4 : decode cX8_command 4 = .ok (.idiv, 1) := by decide +kernel
theorem dX8_command_5 : decode cX8_command 5 = .ok (.istore_n 2, 1) := by decide +kernel
theorem dX8_command_6 : decode cX8_command 6 = .ok (.iload_n 1, 1) := by decide +kernel
theorem dX8_command_7 : decode cX8_command 7 = .ok (.sipush 1000, 3) := by decide +kernel
theorem dX8_command_10 : decode cX8_command 10 = .ok (.idiv, 1) := by decide +kernel
theorem dX8_command_11 : decode cX8_command 11 = .ok (.bipush 10, 2) := by decide +kernel
theorem dX8_command_13 : decode cX8_command 13 = .ok (.irem, 1) := by decide +kernel
theorem dX8_command_14 : decode cX8_command 14 = .ok (.istore_n 3, 1) := by decide +kernel
theorem dX8_command_15 : decode cX8_command 15 = .ok (.iload_n 1, 1) := by decide +kernel
theorem dX8_command_16 : decode cX8_command 16 = .ok (.bipush 100, 2) := by decide +kernel
theorem dX8_command_18 : decode cX8_command 18 = .ok (.idiv, 1) := by decide +kernel
theorem dX8_command_19 : decode cX8_command 19 = .ok (.bipush 10, 2) := by decide +kernel
theorem dX8_command_21 : decode cX8_command 21 = .ok (.irem, 1) := by decide +kernel
theorem dX8_command_22 : decode cX8_command 22 = .ok (.istore 4, 2) := by decide +kernel
theorem dX8_command_24 : decode cX8_command 24 = .ok (.iload_n 1, 1) := by decide +kernel
theorem dX8_command_25 : decode cX8_command 25 = .ok (.sipush 1000, 3) := by decide +kernel
theorem dX8_command_28 : decode cX8_command 28 = .ok (.irem, 1) := by decide +kernel
theorem dX8_command_29 : decode cX8_command 29 = .ok (.istore 5, 2) := by decide +kernel
theorem dX8_command_31 : decode cX8_command 31 = .ok (.iload_n 1, 1) := by decide +kernel
theorem dX8_command_32 : decode cX8_command 32 = .ok (.bipush 100, 2) := by decide +kernel
theorem dX8_command_34 : decode cX8_command 34 = .ok (.irem, 1) := by decide +kernel
theorem dX8_command_35 : decode cX8_command 35 = .ok (.istore 6, 2) := by decide +kernel
theorem dX8_command_37 : decode cX8_command 37 = .ok (.iload_n 2, 1) := by decide +kernel
theorem dX8_command_38 : decode cX8_command 38 = .ok (.tableswitch 372 1 9 #[50, 92, 129, 170, 226, 252, 281, 315, 344], 50) := by decide +kernel
theorem dX8_command_88 : decode cX8_command 88 = .ok (.iload_n 3, 1) := by decide +kernel
theorem dX8_command_89 : decode cX8_command 89 = .ok (.ifCond .ne 13, 3) := by decide +kernel
theorem dX8_command_92 : decode cX8_command 92 = .ok (.iload 4, 2) := by decide +kernel
theorem dX8_command_94 : decode cX8_command 94 = .ok (.ifCond .ne 8, 3) := by decide +kernel
theorem dX8_command_97 : decode cX8_command 97 = .ok (.iload 6, 2) := by decide +kernel
theorem dX8_command_99 : decode cX8_command 99 = .ok (.ifCond .ne 5, 3) := by decide +kernel
theorem dX8_command_102 : decode cX8_command 102 = .ok (.iconst 0, 1) := by decide +kernel
theorem dX8_command_103 : decode cX8_command 103 = .ok (.ireturn, 1) := by decide +kernel
theorem dX8_command_104 : decode cX8_command 104 = .ok (.iconst 0, 1) := by decide +kernel
theorem dX8_command_105 : decode cX8_command 105 = .ok (.istore 7, 2) := by decide +kernel
theorem dX8_command_107 : decode cX8_command 107 = .ok (.iload 7, 2) := by decide +kernel
theorem dX8_command_109 : decode cX8_command 109 = .ok (.iload 6, 2) := by decide +kernel
theorem dX8_command_111 : decode cX8_command 111 = .ok (.if_icmp .ge 17, 3) := by decide +kernel
theorem dX8_command_114 : decode cX8_command 114 = .ok (.aload_n 0, 1) := by decide +kernel
theorem dX8_command_115 : decode cX8_command 115 = .ok (.aload_n 0, 1) := by decide +kernel
theorem dX8_command_116 : decode cX8_command 116 = .ok (.getfield 19, 3) := by decide +kernel
theorem dX8_command_119 : decode cX8_command 119 = .ok (.invokevirtual 177, 3) := by decide +kernel
theorem dX8_command_122 : decode cX8_command 122 = .ok (.iinc 7 1, 3) := by decide +kernel
theorem dX8_command_125 : decode cX8_command 125 = .ok (.goto (-18), 3) := by decide +kernel
theorem dX8_command_128 : decode cX8_command 128 = .ok (.iconst 1, 1) := by decide +kernel
theorem dX8_command_129 : decode cX8_command 129 = .ok (.ireturn, 1) := by decide +kernel
theorem dX8_command_130 : decode cX8_command 130 = .ok (.aload_n 0, 1) := by decide +kernel
theorem dX8_command_131 : decode cX8_command 131 = .ok (.iload_n 3, 1) := by decide +kernel
theorem dX8_command_132 : decode cX8_command 132 = .ok (.invokevirtual 159, 3) := by decide +kernel
theorem dX8_command_135 : decode cX8_command 135 = .ok (.ifCond .eq 15, 3) := by decide +kernel
theorem dX8_command_138 : decode cX8_command 138 = .ok (.iload 4, 2) := by decide +kernel
theorem dX8_command_140 : decode cX8_command 140 = .ok (.ifCond .ne 10, 3) := by decide +kernel
theorem dX8_command_143 : decode cX8_command 143 = .ok (.iload 6, 2) := by decide +kernel
theorem dX8_command_145 : decode cX8_command 145 = .ok (.bipush 22, 2) := by decide +kernel
theorem dX8_command_147 : decode cX8_command 147 = .ok (.if_icmp .le 5, 3) := by decide +kernel
theorem dX8_command_150 : decode cX8_command 150 = .ok (.iconst 0, 1) := by decide +kernel
theorem dX8_command_151 : decode cX8_command 151 = .ok (.ireturn, 1) := by decide +kernel
theorem dX8_command_152 : decode cX8_command 152 = .ok (.aload_n 0, 1) := by decide +kernel
theorem dX8_command_153 : decode cX8_command 153 = .ok (.getfield 19, 3) := by decide +kernel
theorem dX8_command_156 : decode cX8_command 156 = .ok (.iload_n 3, 1) := by decide +kernel
theorem dX8_command_157 : decode cX8_command 157 = .ok (.invokestatic 61, 3) := by decide +kernel
theorem dX8_command_160 : decode cX8_command 160 = .ok (.iconst 2, 1) := by decide +kernel
theorem dX8_command_161 : decode cX8_command 161 = .ok (.iadd, 1) := by decide +kernel
theorem dX8_command_162 : decode cX8_command 162 = .ok (.iload 6, 2) := by decide +kernel
theorem dX8_command_164 : decode cX8_command 164 = .ok (.iastore, 1) := by decide +kernel
theorem dX8_command_165 : decode cX8_command 165 = .ok (.iconst 1, 1) := by decide +kernel
theorem dX8_command_166 : decode cX8_command 166 = .ok (.ireturn, 1) := by decide +kernel
theorem dX8_command_167 : decode cX8_command 167 = .ok (.aload_n 0, 1) := by decide +kernel
theorem dX8_command_168 : decode cX8_command 168 = .ok (.iload_n 3, 1) := by decide +kernel
theorem dX8_command_169 : decode cX8_command 169 = .ok (.invokevirtual 159, 3) := by decide +kernel
theorem dX8_command_172 : decode cX8_command 172 = .ok (.ifCond .eq 8, 3) := by decide +kernel
theorem dX8_command_175 : decode cX8_command 175 = .ok (.iload 5, 2) := by decide +kernel
theorem dX8_command_177 : decode cX8_command 177 = .ok (.ifCond .eq 5, 3) := by decide +kernel
theorem dX8_command_180 : decode cX8_command 180 = .ok (.iconst 0, 1) := by decide +kernel
theorem dX8_command_181 : decode cX8_command 181 = .ok (.ireturn, 1) := by decide +kernel
theorem dX8_command_182 : decode cX8_command 182 = .ok (.aload_n 0, 1) := by decide +kernel
theorem dX8_command_183 : decode cX8_command 183 = .ok (.getfield 19, 3) := by decide +kernel
theorem dX8_command_186 : decode cX8_command 186 = .ok (.iload_n 3, 1) := by decide +kernel
theorem dX8_command_187 : decode cX8_command 187 = .ok (.invokestatic 61, 3) := by decide +kernel
theorem dX8_command_190 : decode cX8_command 190 = .ok (.iconst 3, 1) := by decide +kernel
theorem dX8_command_191 : decode cX8_command 191 = .ok (.iadd, 1) := by decide +kernel
theorem dX8_command_192 : decode cX8_command 192 = .ok (.iconst 1, 1) := by decide +kernel
theorem dX8_command_193 : decode cX8_command 193 = .ok (.aload_n 0, 1) := by decide +kernel
theorem dX8_command_194 : decode cX8_command 194 = .ok (.getfield 19, 3) := by decide +kernel
theorem dX8_command_197 : decode cX8_command 197 = .ok (.iload_n 3, 1) := by decide +kernel
theorem dX8_command_198 : decode cX8_command 198 = .ok (.invokestatic 61, 3) := by decide +kernel
theorem dX8_command_201 : decode cX8_command 201 = .ok (.iconst 3, 1) := by decide +kernel
theorem dX8_command_202 : decode cX8_command 202 = .ok (.iadd, 1) := by decide +kernel
theorem dX8_command_203 : decode cX8_command 203 = .ok (.iaload, 1) := by decide +kernel
theorem dX8_command_204 : decode cX8_command 204 = .ok (.isub, 1) := by decide +kernel
theorem dX8_command_205 : decode cX8_command 205 = .ok (.iastore, 1) := by decide +kernel
theorem dX8_command_206 : decode cX8_command 206 = .ok (.iconst 1, 1) := by decide +kernel
theorem dX8_command_207 : decode cX8_command 207 = .ok (.ireturn, 1) := by decide +kernel
theorem dX8_command_208 : decode cX8_command 208 = .ok (.aload_n 0, 1) := by decide +kernel
theorem dX8_command_209 : decode cX8_command 209 = .ok (.iload_n 3, 1) := by decide +kernel
theorem dX8_command_210 : decode cX8_command 210 = .ok (.invokevirtual 159, 3) := by decide +kernel
theorem dX8_command_213 : decode cX8_command 213 = .ok (.ifCond .eq 36, 3) := by decide +kernel
theorem dX8_command_216 : decode cX8_command 216 = .ok (.aload_n 0, 1) := by decide +kernel
theorem dX8_command_217 : decode cX8_command 217 = .ok (.iload 4, 2) := by decide +kernel
theorem dX8_command_219 : decode cX8_command 219 = .ok (.invokevirtual 159, 3) := by decide +kernel
theorem dX8_command_222 : decode cX8_command 222 = .ok (.ifCond .eq 27, 3) := by decide +kernel
theorem dX8_command_225 : decode cX8_command 225 = .ok (.iload_n 3, 1) := by decide +kernel
theorem dX8_command_226 : decode cX8_command 226 = .ok (.iload 4, 2) := by decide +kernel
theorem dX8_command_228 : decode cX8_command 228 = .ok (.if_icmp .eq 21, 3) := by decide +kernel
theorem dX8_command_231 : decode cX8_command 231 = .ok (.iload 6, 2) := by decide +kernel
theorem dX8_command_233 : decode cX8_command 233 = .ok (.ifCond .ne 16, 3) := by decide +kernel
theorem dX8_command_236 : decode cX8_command 236 = .ok (.aload_n 0, 1) := by decide +kernel
theorem dX8_command_237 : decode cX8_command 237 = .ok (.getfield 19, 3) := by decide +kernel
theorem dX8_command_240 : decode cX8_command 240 = .ok (.iload_n 3, 1) := by decide +kernel
theorem dX8_command_241 : decode cX8_command 241 = .ok (.iload 4, 2) := by decide +kernel
theorem dX8_command_243 : decode cX8_command 243 = .ok (.invokestatic 191, 3) := by decide +kernel
theorem dX8_command_246 : decode cX8_command 246 = .ok (.ifCond .ne 5, 3) := by decide +kernel
theorem dX8_command_249 : decode cX8_command 249 = .ok (.iconst 0, 1) := by decide +kernel
theorem dX8_command_250 : decode cX8_command 250 = .ok (.ireturn, 1) := by decide +kernel
theorem dX8_command_251 : decode cX8_command 251 = .ok (.aload_n 0, 1) := by decide +kernel
theorem dX8_command_252 : decode cX8_command 252 = .ok (.getfield 19, 3) := by decide +kernel
theorem dX8_command_255 : decode cX8_command 255 = .ok (.iload_n 3, 1) := by decide +kernel
theorem dX8_command_256 : decode cX8_command 256 = .ok (.iload 4, 2) := by decide +kernel
theorem dX8_command_258 : decode cX8_command 258 = .ok (.invokestatic 194, 3) := by decide +kernel
theorem dX8_command_261 : decode cX8_command 261 = .ok (.pop, 1) := by decide +kernel
theorem dX8_command_262 : decode cX8_command 262 = .ok (.iconst 1, 1) := by decide +kernel
theorem dX8_command_263 : decode cX8_command 263 = .ok (.ireturn, 1) := by decide +kernel
theorem dX8_command_264 : decode cX8_command 264 = .ok (.aload_n 0, 1) := by decide +kernel
theorem dX8_command_265 : decode cX8_command 265 = .ok (.iload_n 3, 1) := by decide +kernel
theorem dX8_command_266 : decode cX8_command 266 = .ok (.invokevirtual 159, 3) := by decide +kernel
theorem dX8_command_269 : decode cX8_command 269 = .ok (.ifCond .eq 8, 3) := by decide +kernel
theorem dX8_command_272 : decode cX8_command 272 = .ok (.iload 5, 2) := by decide +kernel
theorem dX8_command_274 : decode cX8_command 274 = .ok (.ifCond .eq 5, 3) := by decide +kernel
theorem dX8_command_277 : decode cX8_command 277 = .ok (.iconst 0, 1) := by decide +kernel
theorem dX8_command_278 : decode cX8_command 278 = .ok (.ireturn, 1) := by decide +kernel
theorem dX8_command_279 : decode cX8_command 279 = .ok (.aload_n 0, 1) := by decide +kernel
theorem dX8_command_280 : decode cX8_command 280 = .ok (.getfield 19, 3) := by decide +kernel
theorem dX8_command_283 : decode cX8_command 283 = .ok (.iload_n 3, 1) := by decide +kernel
theorem dX8_command_284 : decode cX8_command 284 = .ok (.invokestatic 197, 3) := by decide +kernel
theorem dX8_command_287 : decode cX8_command 287 = .ok (.pop, 1) := by decide +kernel
theorem dX8_command_288 : decode cX8_command 288 = .ok (.iconst 1, 1) := by decide +kernel
theorem dX8_command_289 : decode cX8_command 289 = .ok (.ireturn, 1) := by decide +kernel
theorem dX8_command_290 : decode cX8_command 290 = .ok (.iload_n 3, 1) := by decide +kernel
theorem dX8_command_291 : decode cX8_command 291 = .ok (.ifCond .ne 26, 3) := by decide +kernel
theorem dX8_command_294 : decode cX8_command 294 = .ok (.iload 5, 2) := by decide +kernel
theorem dX8_command_296 : decode cX8_command 296 = .ok (.bipush 10, 2) := by decide +kernel
theorem dX8_command_298 : decode cX8_command 298 = .ok (.if_icmp .ge 19, 3) := by decide +kernel
theorem dX8_command_301 : decode cX8_command 301 = .ok (.aload_n 0, 1) := by decide +kernel
theorem dX8_command_302 : decode cX8_command 302 = .ok (.getfield 19, 3) := by decide +kernel
theorem dX8_command_305 : decode cX8_command 305 = .ok (.invokestatic 152, 3) := by decide +kernel
theorem dX8_command_308 : decode cX8_command 308 = .ok (.iload 5, 2) := by decide +kernel
theorem dX8_command_310 : decode cX8_command 310 = .ok (.if_icmp .ne 7, 3) := by decide +kernel
theorem dX8_command_313 : decode cX8_command 313 = .ok (.iconst 1, 1) := by decide +kernel
theorem dX8_command_314 : decode cX8_command 314 = .ok (.goto 4, 3) := by decide +kernel
theorem dX8_command_317 : decode cX8_command 317 = .ok (.iconst 0, 1) := by decide +kernel
theorem dX8_command_318 : decode cX8_command 318 = .ok (.ireturn, 1) := by decide +kernel
theorem dX8_command_319 : decode cX8_command 319 = .ok (.aload_n 0, 1) := by decide +kernel
theorem dX8_command_320 : decode cX8_command 320 = .ok (.iload_n 3, 1) := by decide +kernel
theorem dX8_command_321 : decode cX8_command 321 = .ok (.invokevirtual 159, 3) := by decide +kernel
theorem dX8_command_324 : decode cX8_command 324 = .ok (.ifCond .eq 27, 3) := by decide +kernel
theorem dX8_command_327 : decode cX8_command 327 = .ok (.iload 5, 2) := by decide +kernel
theorem dX8_command_329 : decode cX8_command 329 = .ok (.bipush 10, 2) := by decide +kernel
theorem dX8_command_331 : decode cX8_command 331 = .ok (.if_icmp .ge 20, 3) := by decide +kernel
theorem dX8_command_334 : decode cX8_command 334 = .ok (.aload_n 0, 1) := by decide +kernel
theorem dX8_command_335 : decode cX8_command 335 = .ok (.getfield 19, 3) := by decide +kernel
theorem dX8_command_338 : decode cX8_command 338 = .ok (.iload_n 3, 1) := by decide +kernel
theorem dX8_command_339 : decode cX8_command 339 = .ok (.invokestatic 103, 3) := by decide +kernel
theorem dX8_command_342 : decode cX8_command 342 = .ok (.iload 5, 2) := by decide +kernel
theorem dX8_command_344 : decode cX8_command 344 = .ok (.if_icmp .ne 7, 3) := by decide +kernel
theorem dX8_command_347 : decode cX8_command 347 = .ok (.iconst 1, 1) := by decide +kernel
theorem dX8_command_348 : decode cX8_command 348 = .ok (.goto 4, 3) := by decide +kernel
theorem dX8_command_351 : decode cX8_command 351 = .ok (.iconst 0, 1) := by decide +kernel
theorem dX8_command_352 : decode cX8_command 352 = .ok (.ireturn, 1) := by decide +kernel
theorem dX8_command_353 : decode cX8_command 353 = .ok (.iload_n 3, 1) := by decide +kernel
theorem dX8_command_354 : decode cX8_command 354 = .ok (.ifCond .ne 26, 3) := by decide +kernel
theorem dX8_command_357 : decode cX8_command 357 = .ok (.iload 5, 2) := by decide +kernel
theorem dX8_command_359 : decode cX8_command 359 = .ok (.bipush 10, 2) := by decide +kernel
theorem dX8_command_361 : decode cX8_command 361 = .ok (.if_icmp .ge 19, 3) := by decide +kernel
theorem dX8_command_364 : decode cX8_command 364 = .ok (.aload_n 0, 1) := by decide +kernel
theorem dX8_command_365 : decode cX8_command 365 = .ok (.getfield 19, 3) := by decide +kernel
theorem dX8_command_368 : decode cX8_command 368 = .ok (.invokestatic 213, 3) := by decide +kernel
theorem dX8_command_371 : decode cX8_command 371 = .ok (.iload 5, 2) := by decide +kernel
theorem dX8_command_373 : decode cX8_command 373 = .ok (.if_icmp .ne 7, 3) := by decide +kernel
theorem dX8_command_376 : decode cX8_command 376 = .ok (.iconst 1, 1) := by decide +kernel
theorem dX8_command_377 : decode cX8_command 377 = .ok (.goto 4, 3) := by decide +kernel
theorem dX8_command_380 : decode cX8_command 380 = .ok (.iconst 0, 1) := by decide +kernel
theorem dX8_command_381 : decode cX8_command 381 = .ok (.ireturn, 1) := by decide +kernel
theorem dX8_command_382 : decode cX8_command 382 = .ok (.iload_n 3, 1) := by decide +kernel
theorem dX8_command_383 : decode cX8_command 383 = .ok (.ifCond .ne 25, 3) := by decide +kernel
theorem dX8_command_386 : decode cX8_command 386 = .ok (.iload 4, 2) := by decide +kernel
theorem dX8_command_388 : decode cX8_command 388 = .ok (.ifCond .ne 20, 3) := by decide +kernel
theorem dX8_command_391 : decode cX8_command 391 = .ok (.aload_n 0, 1) := by decide +kernel
theorem dX8_command_392 : decode cX8_command 392 = .ok (.getfield 19, 3) := by decide +kernel
theorem dX8_command_395 : decode cX8_command 395 = .ok (.iconst 5, 1) := by decide +kernel
theorem dX8_command_396 : decode cX8_command 396 = .ok (.invokestatic 156, 3) := by decide +kernel
theorem dX8_command_399 : decode cX8_command 399 = .ok (.iload 6, 2) := by decide +kernel
theorem dX8_command_401 : decode cX8_command 401 = .ok (.if_icmp .gt 7, 3) := by decide +kernel
theorem dX8_command_404 : decode cX8_command 404 = .ok (.iconst 1, 1) := by decide +kernel
theorem dX8_command_405 : decode cX8_command 405 = .ok (.goto 4, 3) := by decide +kernel
theorem dX8_command_408 : decode cX8_command 408 = .ok (.iconst 0, 1) := by decide +kernel
theorem dX8_command_409 : decode cX8_command 409 = .ok (.ireturn, 1) := by decide +kernel
theorem dX8_command_410 : decode cX8_command 410 = .ok (.iconst 0, 1) := by decide +kernel
theorem dX8_command_411 : decode cX8_command 411 = .ok (.ireturn, 1) := by decide +kernel
theorem dX8_runScript_0 : decode cX8_runScript 0 = .ok (.aload_n 0, 1) := by decide +kernel
theorem dX8_runScript_1 : decode cX8_runScript 1 = .ok (.iload_n 1, 1) := by decide +kernel
theorem dX8_runScript_2 : decode cX8_runScript 2 = .ok (.i2l, 1) := by decide +kernel
theorem dX8_runScript_3 : decode cX8_runScript 3 = .ok (.lconst 1, 1) := by decide +kernel
theorem dX8_runScript_4 : decode cX8_runScript 4 = .ok (.ldc2_w 170, 3) := by decide +kernel
theorem dX8_runScript_7 : decode cX8_runScript 7 = .ok (.invokestatic 57, 3) := by decide +kernel
theorem dX8_runScript_10 : decode cX8_runScript 10 = .ok (.ifCond .eq 23, 3) := by decide +kernel
theorem dX8_runScript_13 : decode cX8_runScript 13 = .ok (.lload_n 2, 1) := by decide +kernel
theorem dX8_runScript_14 : decode cX8_runScript 14 = .ok (.lconst 0, 1) := by decide +kernel
theorem dX8_runScript_15 : decode cX8_runScript 15 = .ok (.iconst 5, 1) := by decide +kernel
theorem dX8_runScript_16 : decode cX8_runScript 16 = .ok (.iload_n 1, 1) := by decide +kernel
theorem dX8_runScript_17 : decode cX8_runScript 17 = .ok (.imul, 1) := by decide +kernel
theorem dX8_runScript_18 : decode cX8_runScript 18 = .ok (.invokestatic 231, 3) := by decide +kernel
theorem dX8_runScript_21 : decode cX8_runScript 21 = .ok (.lconst 1, 1) := by decide +kernel
theorem dX8_runScript_22 : decode cX8_runScript 22 = .ok (.lsub, 1) := by decide +kernel
theorem dX8_runScript_23 : decode cX8_runScript 23 = .ok (.invokestatic 57, 3) := by decide +kernel
theorem dX8_runScript_26 : decode cX8_runScript 26 = .ok (.ifCond .eq 7, 3) := by decide +kernel
theorem dX8_runScript_29 : decode cX8_runScript 29 = .ok (.iconst 0, 1) := by decide +kernel
theorem dX8_runScript_30 : decode cX8_runScript 30 = .ok (.goto 4, 3) := by decide +kernel
theorem dX8_runScript_33 : decode cX8_runScript 33 = .ok (.iconst 1, 1) := by decide +kernel
theorem dX8_runScript_34 : decode cX8_runScript 34 = .ok (.invokevirtual 126, 3) := by decide +kernel
theorem dX8_runScript_37 : decode cX8_runScript 37 = .ok (.ifCond .eq 5, 3) := by decide +kernel
theorem dX8_runScript_40 : decode cX8_runScript 40 = .ok (.iconst 0, 1) := by decide +kernel
theorem dX8_runScript_41 : decode cX8_runScript 41 = .ok (.ireturn, 1) := by decide +kernel
theorem dX8_runScript_42 : decode cX8_runScript 42 = .ok (.aload_n 0, 1) := by decide +kernel
theorem dX8_runScript_43 : decode cX8_runScript 43 = .ok (.getfield 16, 3) := by decide +kernel
theorem dX8_runScript_46 : decode cX8_runScript 46 = .ok (.iconst 0, 1) := by decide +kernel
theorem dX8_runScript_47 : decode cX8_runScript 47 = .ok (.aload_n 0, 1) := by decide +kernel
theorem dX8_runScript_48 : decode cX8_runScript 48 = .ok (.getfield 19, 3) := by decide +kernel
theorem dX8_runScript_51 : decode cX8_runScript 51 = .ok (.iconst 0, 1) := by decide +kernel
theorem dX8_runScript_52 : decode cX8_runScript 52 = .ok (.sipush 264, 3) := by decide +kernel
theorem dX8_runScript_55 : decode cX8_runScript 55 = .ok (.invokestatic 53, 3) := by decide +kernel
theorem dX8_runScript_58 : decode cX8_runScript 58 = .ok (.iconst 0, 1) := by decide +kernel
theorem dX8_runScript_59 : decode cX8_runScript 59 = .ok (.istore 4, 2) := by decide +kernel
theorem dX8_runScript_61 : decode cX8_runScript 61 = .ok (.iload 4, 2) := by decide +kernel
theorem dX8_runScript_63 : decode cX8_runScript 63 = .ok (.iload_n 1, 1) := by decide +kernel
theorem dX8_runScript_64 : decode cX8_runScript 64 = .ok (.if_icmp .ge 37, 3) := by decide +kernel
theorem dX8_runScript_67 : decode cX8_runScript 67 = .ok (.aload_n 0, 1) := by decide +kernel
theorem dX8_runScript_68 : decode cX8_runScript 68 = .ok (.lload_n 2, 1) := by decide +kernel
theorem dX8_runScript_69 : decode cX8_runScript 69 = .ok (.iconst 5, 1) := by decide +kernel
theorem dX8_runScript_70 : decode cX8_runScript 70 = .ok (.iload_n 1, 1) := by decide +kernel
theorem dX8_runScript_71 : decode cX8_runScript 71 = .ok (.iconst 1, 1) := by decide +kernel
theorem dX8_runScript_72 : decode cX8_runScript 72 = .ok (.isub, 1) := by decide +kernel
theorem dX8_runScript_73 : decode cX8_runScript 73 = .ok (.iload 4, 2) := by decide +kernel
theorem dX8_runScript_75 : decode cX8_runScript 75 = .ok (.isub, 1) := by decide +kernel
theorem dX8_runScript_76 : decode cX8_runScript 76 = .ok (.imul, 1) := by decide +kernel
theorem dX8_runScript_77 : decode cX8_runScript 77 = .ok (.invokestatic 231, 3) := by decide +kernel
theorem dX8_runScript_80 : decode cX8_runScript 80 = .ok (.ldiv, 1) := by decide +kernel
theorem dX8_runScript_81 : decode cX8_runScript 81 = .ok (.ldc2_w 235, 3) := by decide +kernel
theorem dX8_runScript_84 : decode cX8_runScript 84 = .ok (.lrem, 1) := by decide +kernel
theorem dX8_runScript_85 : decode cX8_runScript 85 = .ok (.l2i, 1) := by decide +kernel
theorem dX8_runScript_86 : decode cX8_runScript 86 = .ok (.invokevirtual 237, 3) := by decide +kernel
theorem dX8_runScript_89 : decode cX8_runScript 89 = .ok (.ifCond .ne 6, 3) := by decide +kernel
theorem dX8_runScript_92 : decode cX8_runScript 92 = .ok (.iload 4, 2) := by decide +kernel
theorem dX8_runScript_94 : decode cX8_runScript 94 = .ok (.ireturn, 1) := by decide +kernel
theorem dX8_runScript_95 : decode cX8_runScript 95 = .ok (.iinc 4 1, 3) := by decide +kernel
theorem dX8_runScript_98 : decode cX8_runScript 98 = .ok (.goto (-37), 3) := by decide +kernel
theorem dX8_runScript_101 : decode cX8_runScript 101 = .ok (.bipush (-9), 2) := by decide +kernel
theorem dX8_runScript_103 : decode cX8_runScript 103 = .ok (.ireturn, 1) := by decide +kernel
theorem dX8_simulate_0 : decode cX8_simulate 0 = .ok (.aload_n 0, 1) := by decide +kernel
theorem dX8_simulate_1 : decode cX8_simulate 1 = .ok (.iload_n 3, 1) := by decide +kernel
theorem dX8_simulate_2 : decode cX8_simulate 2 = .ok (.i2l, 1) := by decide +kernel
theorem dX8_simulate_3 : decode cX8_simulate 3 = .ok (.lconst 1, 1) := by decide +kernel
theorem dX8_simulate_4 : decode cX8_simulate 4 = .ok (.ldc2_w 240, 3) := by decide +kernel
theorem dX8_simulate_7 : decode cX8_simulate 7 = .ok (.invokestatic 57, 3) := by decide +kernel
theorem dX8_simulate_10 : decode cX8_simulate 10 = .ok (.ifCond .eq 7, 3) := by decide +kernel
theorem dX8_simulate_13 : decode cX8_simulate 13 = .ok (.iconst 0, 1) := by decide +kernel
theorem dX8_simulate_14 : decode cX8_simulate 14 = .ok (.goto 4, 3) := by decide +kernel
theorem dX8_simulate_17 : decode cX8_simulate 17 = .ok (.iconst 1, 1) := by decide +kernel
theorem dX8_simulate_18 : decode cX8_simulate 18 = .ok (.invokevirtual 126, 3) := by decide +kernel
theorem dX8_simulate_21 : decode cX8_simulate 21 = .ok (.ifCond .eq 5, 3) := by decide +kernel
theorem dX8_simulate_24 : decode cX8_simulate 24 = .ok (.iconst 0, 1) := by decide +kernel
theorem dX8_simulate_25 : decode cX8_simulate 25 = .ok (.ireturn, 1) := by decide +kernel
theorem dX8_simulate_26 : decode cX8_simulate 26 = .ok (.aload_n 0, 1) := by decide +kernel
theorem dX8_simulate_27 : decode cX8_simulate 27 = .ok (.getfield 16, 3) := by decide +kernel
theorem dX8_simulate_30 : decode cX8_simulate 30 = .ok (.iconst 0, 1) := by decide +kernel
theorem dX8_simulate_31 : decode cX8_simulate 31 = .ok (.aload_n 0, 1) := by decide +kernel
theorem dX8_simulate_32 : decode cX8_simulate 32 = .ok (.getfield 19, 3) := by decide +kernel
theorem dX8_simulate_35 : decode cX8_simulate 35 = .ok (.iconst 0, 1) := by decide +kernel
theorem dX8_simulate_36 : decode cX8_simulate 36 = .ok (.sipush 264, 3) := by decide +kernel
theorem dX8_simulate_39 : decode cX8_simulate 39 = .ok (.invokestatic 53, 3) := by decide +kernel
theorem dX8_simulate_42 : decode cX8_simulate 42 = .ok (.lload_n 1, 1) := by decide +kernel
theorem dX8_simulate_43 : decode cX8_simulate 43 = .ok (.lstore 4, 2) := by decide +kernel
theorem dX8_simulate_45 : decode cX8_simulate 45 = .ok (.iconst 0, 1) := by decide +kernel
theorem dX8_simulate_46 : decode cX8_simulate 46 = .ok (.istore 6, 2) := by decide +kernel
theorem dX8_simulate_48 : decode cX8_simulate 48 = .ok (.iload 6, 2) := by decide +kernel
theorem dX8_simulate_50 : decode cX8_simulate 50 = .ok (.iload_n 3, 1) := by decide +kernel
theorem dX8_simulate_51 : decode cX8_simulate 51 = .ok (.if_icmp .ge 167, 3) := by decide +kernel
theorem dX8_simulate_54 : decode cX8_simulate 54 = .ok (.lload 4, 2) := by decide +kernel
theorem dX8_simulate_56 : decode cX8_simulate 56 = .ok (.ldc2_w 242, 3) := by decide +kernel
theorem dX8_simulate_59 : decode cX8_simulate 59 = .ok (.lmul, 1) := by decide +kernel
theorem dX8_simulate_60 : decode cX8_simulate 60 = .ok (.ldc2_w 244, 3) := by decide +kernel
theorem dX8_simulate_63 : decode cX8_simulate 63 = .ok (.ladd, 1) := by decide +kernel
theorem dX8_simulate_64 : decode cX8_simulate 64 = .ok (.lstore 4, 2) := by decide +kernel
theorem dX8_simulate_66 : decode cX8_simulate 66 = .ok (.lload 4, 2) := by decide +kernel
theorem dX8_simulate_68 : decode cX8_simulate 68 = .ok (.bipush 33, 2) := by decide +kernel
theorem dX8_simulate_70 : decode cX8_simulate 70 = .ok (.lushr, 1) := by decide +kernel
theorem dX8_simulate_71 : decode cX8_simulate 71 = .ok (.l2i, 1) := by decide +kernel
theorem dX8_simulate_72 : decode cX8_simulate 72 = .ok (.istore 7, 2) := by decide +kernel
theorem dX8_simulate_74 : decode cX8_simulate 74 = .ok (.aload_n 0, 1) := by decide +kernel
theorem dX8_simulate_75 : decode cX8_simulate 75 = .ok (.getfield 19, 3) := by decide +kernel
theorem dX8_simulate_78 : decode cX8_simulate 78 = .ok (.iconst 0, 1) := by decide +kernel
theorem dX8_simulate_79 : decode cX8_simulate 79 = .ok (.iaload, 1) := by decide +kernel
theorem dX8_simulate_80 : decode cX8_simulate 80 = .ok (.ifCond .le 124, 3) := by decide +kernel
theorem dX8_simulate_83 : decode cX8_simulate 83 = .ok (.iload 7, 2) := by decide +kernel
theorem dX8_simulate_85 : decode cX8_simulate 85 = .ok (.bipush 8, 2) := by decide +kernel
theorem dX8_simulate_87 : decode cX8_simulate 87 = .ok (.idiv, 1) := by decide +kernel
theorem dX8_simulate_88 : decode cX8_simulate 88 = .ok (.aload_n 0, 1) := by decide +kernel
theorem dX8_simulate_89 : decode cX8_simulate 89 = .ok (.getfield 19, 3) := by decide +kernel
theorem dX8_simulate_92 : decode cX8_simulate 92 = .ok (.iconst 0, 1) := by decide +kernel
theorem dX8_simulate_93 : decode cX8_simulate 93 = .ok (.iaload, 1) := by decide +kernel
theorem dX8_simulate_94 : decode cX8_simulate 94 = .ok (.irem, 1) := by decide +kernel
theorem dX8_simulate_95 : decode cX8_simulate 95 = .ok (.invokestatic 61, 3) := by decide +kernel
theorem dX8_simulate_98 : decode cX8_simulate 98 = .ok (.istore 8, 2) := by decide +kernel
theorem dX8_simulate_100 : decode cX8_simulate 100 = .ok (.iload 7, 2) := by decide +kernel
theorem dX8_simulate_102 : decode cX8_simulate 102 = .ok (.bipush 8, 2) := by decide +kernel
theorem dX8_simulate_104 : decode cX8_simulate 104 = .ok (.irem, 1) := by decide +kernel
theorem dX8_simulate_105 : decode cX8_simulate 105 = .ok (.ifCond .ne 26, 3) := by decide +kernel
theorem dX8_simulate_108 : decode cX8_simulate 108 = .ok (.aload_n 0, 1) := by decide +kernel
theorem dX8_simulate_109 : decode cX8_simulate 109 = .ok (.getfield 19, 3) := by decide +kernel
theorem dX8_simulate_112 : decode cX8_simulate 112 = .ok (.iload 8, 2) := by decide +kernel
theorem dX8_simulate_114 : decode cX8_simulate 114 = .ok (.iconst 3, 1) := by decide +kernel
theorem dX8_simulate_115 : decode cX8_simulate 115 = .ok (.iadd, 1) := by decide +kernel
theorem dX8_simulate_116 : decode cX8_simulate 116 = .ok (.iconst 1, 1) := by decide +kernel
theorem dX8_simulate_117 : decode cX8_simulate 117 = .ok (.aload_n 0, 1) := by decide +kernel
theorem dX8_simulate_118 : decode cX8_simulate 118 = .ok (.getfield 19, 3) := by decide +kernel
theorem dX8_simulate_121 : decode cX8_simulate 121 = .ok (.iload 8, 2) := by decide +kernel
theorem dX8_simulate_123 : decode cX8_simulate 123 = .ok (.iconst 3, 1) := by decide +kernel
theorem dX8_simulate_124 : decode cX8_simulate 124 = .ok (.iadd, 1) := by decide +kernel
theorem dX8_simulate_125 : decode cX8_simulate 125 = .ok (.iaload, 1) := by decide +kernel
theorem dX8_simulate_126 : decode cX8_simulate 126 = .ok (.isub, 1) := by decide +kernel
theorem dX8_simulate_127 : decode cX8_simulate 127 = .ok (.iastore, 1) := by decide +kernel
theorem dX8_simulate_128 : decode cX8_simulate 128 = .ok (.goto 76, 3) := by decide +kernel
theorem dX8_simulate_131 : decode cX8_simulate 131 = .ok (.iload 7, 2) := by decide +kernel
theorem dX8_simulate_133 : decode cX8_simulate 133 = .ok (.bipush 8, 2) := by decide +kernel
theorem dX8_simulate_135 : decode cX8_simulate 135 = .ok (.irem, 1) := by decide +kernel
theorem dX8_simulate_136 : decode cX8_simulate 136 = .ok (.iconst 1, 1) := by decide +kernel
theorem dX8_simulate_137 : decode cX8_simulate 137 = .ok (.if_icmp .ne 23, 3) := by decide +kernel
theorem dX8_simulate_140 : decode cX8_simulate 140 = .ok (.aload_n 0, 1) := by decide +kernel
theorem dX8_simulate_141 : decode cX8_simulate 141 = .ok (.getfield 19, 3) := by decide +kernel
theorem dX8_simulate_144 : decode cX8_simulate 144 = .ok (.iload 8, 2) := by decide +kernel
theorem dX8_simulate_146 : decode cX8_simulate 146 = .ok (.iconst 2, 1) := by decide +kernel
theorem dX8_simulate_147 : decode cX8_simulate 147 = .ok (.iadd, 1) := by decide +kernel
theorem dX8_simulate_148 : decode cX8_simulate 148 = .ok (.iload 7, 2) := by decide +kernel
theorem dX8_simulate_150 : decode cX8_simulate 150 = .ok (.bipush 64, 2) := by decide +kernel
theorem dX8_simulate_152 : decode cX8_simulate 152 = .ok (.idiv, 1) := by decide +kernel
theorem dX8_simulate_153 : decode cX8_simulate 153 = .ok (.bipush 23, 2) := by decide +kernel
theorem dX8_simulate_155 : decode cX8_simulate 155 = .ok (.irem, 1) := by decide +kernel
theorem dX8_simulate_156 : decode cX8_simulate 156 = .ok (.iastore, 1) := by decide +kernel
theorem dX8_simulate_157 : decode cX8_simulate 157 = .ok (.goto 47, 3) := by decide +kernel
theorem dX8_simulate_160 : decode cX8_simulate 160 = .ok (.iload 7, 2) := by decide +kernel
theorem dX8_simulate_162 : decode cX8_simulate 162 = .ok (.bipush 8, 2) := by decide +kernel
theorem dX8_simulate_164 : decode cX8_simulate 164 = .ok (.irem, 1) := by decide +kernel
theorem dX8_simulate_165 : decode cX8_simulate 165 = .ok (.iconst 2, 1) := by decide +kernel
theorem dX8_simulate_166 : decode cX8_simulate 166 = .ok (.if_icmp .ne 38, 3) := by decide +kernel
theorem dX8_simulate_169 : decode cX8_simulate 169 = .ok (.aload_n 0, 1) := by decide +kernel
theorem dX8_simulate_170 : decode cX8_simulate 170 = .ok (.getfield 19, 3) := by decide +kernel
theorem dX8_simulate_173 : decode cX8_simulate 173 = .ok (.iload 8, 2) := by decide +kernel
theorem dX8_simulate_175 : decode cX8_simulate 175 = .ok (.iconst 0, 1) := by decide +kernel
theorem dX8_simulate_176 : decode cX8_simulate 176 = .ok (.iadd, 1) := by decide +kernel
theorem dX8_simulate_177 : decode cX8_simulate 177 = .ok (.iload 7, 2) := by decide +kernel
theorem dX8_simulate_179 : decode cX8_simulate 179 = .ok (.bipush 64, 2) := by decide +kernel
theorem dX8_simulate_181 : decode cX8_simulate 181 = .ok (.idiv, 1) := by decide +kernel
theorem dX8_simulate_182 : decode cX8_simulate 182 = .ok (.bipush 12, 2) := by decide +kernel
theorem dX8_simulate_184 : decode cX8_simulate 184 = .ok (.irem, 1) := by decide +kernel
theorem dX8_simulate_185 : decode cX8_simulate 185 = .ok (.iastore, 1) := by decide +kernel
theorem dX8_simulate_186 : decode cX8_simulate 186 = .ok (.aload_n 0, 1) := by decide +kernel
theorem dX8_simulate_187 : decode cX8_simulate 187 = .ok (.getfield 19, 3) := by decide +kernel
theorem dX8_simulate_190 : decode cX8_simulate 190 = .ok (.iload 8, 2) := by decide +kernel
theorem dX8_simulate_192 : decode cX8_simulate 192 = .ok (.iconst 1, 1) := by decide +kernel
theorem dX8_simulate_193 : decode cX8_simulate 193 = .ok (.iadd, 1) := by decide +kernel
theorem dX8_simulate_194 : decode cX8_simulate 194 = .ok (.iload 7, 2) := by decide +kernel
theorem dX8_simulate_196 : decode cX8_simulate 196 = .ok (.sipush 1024, 3) := by decide +kernel
theorem dX8_simulate_199 : decode cX8_simulate 199 = .ok (.idiv, 1) := by decide +kernel
theorem dX8_simulate_200 : decode cX8_simulate 200 = .ok (.bipush 12, 2) := by decide +kernel
theorem dX8_simulate_202 : decode cX8_simulate 202 = .ok (.irem, 1) := by decide +kernel
theorem dX8_simulate_203 : decode cX8_simulate 203 = .ok (.iastore, 1) := by decide +kernel
theorem dX8_simulate_204 : decode cX8_simulate 204 = .ok (.aload_n 0, 1) := by decide +kernel
theorem dX8_simulate_205 : decode cX8_simulate 205 = .ok (.aload_n 0, 1) := by decide +kernel
theorem dX8_simulate_206 : decode cX8_simulate 206 = .ok (.getfield 19, 3) := by decide +kernel
theorem dX8_simulate_209 : decode cX8_simulate 209 = .ok (.invokevirtual 177, 3) := by decide +kernel
theorem dX8_simulate_212 : decode cX8_simulate 212 = .ok (.iinc 6 1, 3) := by decide +kernel
theorem dX8_simulate_215 : decode cX8_simulate 215 = .ok (.goto (-167), 3) := by decide +kernel
theorem dX8_simulate_218 : decode cX8_simulate 218 = .ok (.aload_n 0, 1) := by decide +kernel
theorem dX8_simulate_219 : decode cX8_simulate 219 = .ok (.getfield 19, 3) := by decide +kernel
theorem dX8_simulate_222 : decode cX8_simulate 222 = .ok (.invokestatic 221, 3) := by decide +kernel
theorem dX8_simulate_225 : decode cX8_simulate 225 = .ok (.bipush 100, 2) := by decide +kernel
theorem dX8_simulate_227 : decode cX8_simulate 227 = .ok (.aload_n 0, 1) := by decide +kernel
theorem dX8_simulate_228 : decode cX8_simulate 228 = .ok (.getfield 19, 3) := by decide +kernel
theorem dX8_simulate_231 : decode cX8_simulate 231 = .ok (.iconst 5, 1) := by decide +kernel
theorem dX8_simulate_232 : decode cX8_simulate 232 = .ok (.invokestatic 156, 3) := by decide +kernel
theorem dX8_simulate_235 : decode cX8_simulate 235 = .ok (.imul, 1) := by decide +kernel
theorem dX8_simulate_236 : decode cX8_simulate 236 = .ok (.iadd, 1) := by decide +kernel
theorem dX8_simulate_237 : decode cX8_simulate 237 = .ok (.ireturn, 1) := by decide +kernel
theorem dX8_save_0 : decode cX8_save 0 = .ok (.aload_n 0, 1) := by decide +kernel
theorem dX8_save_1 : decode cX8_save 1 = .ok (.iload_n 1, 1) := by decide +kernel
theorem dX8_save_2 : decode cX8_save 2 = .ok (.i2l, 1) := by decide +kernel
theorem dX8_save_3 : decode cX8_save 3 = .ok (.lconst 0, 1) := by decide +kernel
theorem dX8_save_4 : decode cX8_save 4 = .ok (.lconst 1, 1) := by decide +kernel
theorem dX8_save_5 : decode cX8_save 5 = .ok (.invokestatic 57, 3) := by decide +kernel
theorem dX8_save_8 : decode cX8_save 8 = .ok (.ifCond .eq 7, 3) := by decide +kernel
theorem dX8_save_11 : decode cX8_save 11 = .ok (.iconst 0, 1) := by decide +kernel
theorem dX8_save_12 : decode cX8_save 12 = .ok (.goto 4, 3) := by decide +kernel
theorem dX8_save_15 : decode cX8_save 15 = .ok (.iconst 1, 1) := by decide +kernel
theorem dX8_save_16 : decode cX8_save 16 = .ok (.invokevirtual 126, 3) := by decide +kernel
theorem dX8_save_19 : decode cX8_save 19 = .ok (.ifCond .eq 5, 3) := by decide +kernel
theorem dX8_save_22 : decode cX8_save 22 = .ok (.iconst 0, 1) := by decide +kernel
theorem dX8_save_23 : decode cX8_save 23 = .ok (.ireturn, 1) := by decide +kernel
theorem dX8_save_24 : decode cX8_save 24 = .ok (.aload_n 0, 1) := by decide +kernel
theorem dX8_save_25 : decode cX8_save 25 = .ok (.getfield 31, 3) := by decide +kernel
theorem dX8_save_28 : decode cX8_save 28 = .ok (.iload_n 1, 1) := by decide +kernel
theorem dX8_save_29 : decode cX8_save 29 = .ok (.iconst 1, 1) := by decide +kernel
theorem dX8_save_30 : decode cX8_save 30 = .ok (.bastore, 1) := by decide +kernel
theorem dX8_save_31 : decode cX8_save 31 = .ok (.aload_n 0, 1) := by decide +kernel
theorem dX8_save_32 : decode cX8_save 32 = .ok (.getfield 16, 3) := by decide +kernel
theorem dX8_save_35 : decode cX8_save 35 = .ok (.iconst 0, 1) := by decide +kernel
theorem dX8_save_36 : decode cX8_save 36 = .ok (.aload_n 0, 1) := by decide +kernel
theorem dX8_save_37 : decode cX8_save 37 = .ok (.getfield 28, 3) := by decide +kernel
theorem dX8_save_40 : decode cX8_save 40 = .ok (.sipush 264, 3) := by decide +kernel
theorem dX8_save_43 : decode cX8_save 43 = .ok (.iload_n 1, 1) := by decide +kernel
theorem dX8_save_44 : decode cX8_save 44 = .ok (.imul, 1) := by decide +kernel
theorem dX8_save_45 : decode cX8_save 45 = .ok (.sipush 264, 3) := by decide +kernel
theorem dX8_save_48 : decode cX8_save 48 = .ok (.invokestatic 53, 3) := by decide +kernel
theorem dX8_save_51 : decode cX8_save 51 = .ok (.aload_n 0, 1) := by decide +kernel
theorem dX8_save_52 : decode cX8_save 52 = .ok (.getfield 16, 3) := by decide +kernel
theorem dX8_save_55 : decode cX8_save 55 = .ok (.iconst 2, 1) := by decide +kernel
theorem dX8_save_56 : decode cX8_save 56 = .ok (.iaload, 1) := by decide +kernel
theorem dX8_save_57 : decode cX8_save 57 = .ok (.ireturn, 1) := by decide +kernel
theorem dX8_restore_0 : decode cX8_restore 0 = .ok (.aload_n 0, 1) := by decide +kernel
theorem dX8_restore_1 : decode cX8_restore 1 = .ok (.iload_n 1, 1) := by decide +kernel
theorem dX8_restore_2 : decode cX8_restore 2 = .ok (.i2l, 1) := by decide +kernel
theorem dX8_restore_3 : decode cX8_restore 3 = .ok (.lconst 0, 1) := by decide +kernel
theorem dX8_restore_4 : decode cX8_restore 4 = .ok (.lconst 1, 1) := by decide +kernel
theorem dX8_restore_5 : decode cX8_restore 5 = .ok (.invokestatic 57, 3) := by decide +kernel
theorem dX8_restore_8 : decode cX8_restore 8 = .ok (.ifCond .ne 7, 3) := by decide +kernel
theorem dX8_restore_11 : decode cX8_restore 11 = .ok (.iconst 1, 1) := by decide +kernel
theorem dX8_restore_12 : decode cX8_restore 12 = .ok (.goto 17, 3) := by decide +kernel
theorem dX8_restore_15 : decode cX8_restore 15 = .ok (.aload_n 0, 1) := by decide +kernel
theorem dX8_restore_16 : decode cX8_restore 16 = .ok (.getfield 31, 3) := by decide +kernel
theorem dX8_restore_19 : decode cX8_restore 19 = .ok (.iload_n 1, 1) := by decide +kernel
theorem dX8_restore_20 : decode cX8_restore 20 = .ok (.baload, 1) := by decide +kernel
theorem dX8_restore_21 : decode cX8_restore 21 = .ok (.ifCond .ne 7, 3) := by decide +kernel
theorem dX8_restore_24 : decode cX8_restore 24 = .ok (.iconst 2, 1) := by decide +kernel
theorem dX8_restore_25 : decode cX8_restore 25 = .ok (.goto 4, 3) := by decide +kernel
theorem dX8_restore_28 : decode cX8_restore 28 = .ok (.iconst 0, 1) := by decide +kernel
theorem dX8_restore_29 : decode cX8_restore 29 = .ok (.invokevirtual 126, 3) := by decide +kernel
theorem dX8_restore_32 : decode cX8_restore 32 = .ok (.ifCond .eq 5, 3) := by decide +kernel
theorem dX8_restore_35 : decode cX8_restore 35 = .ok (.iconst 0, 1) := by decide +kernel
theorem dX8_restore_36 : decode cX8_restore 36 = .ok (.ireturn, 1) := by decide +kernel
theorem dX8_restore_37 : decode cX8_restore 37 = .ok (.aload_n 0, 1) := by decide +kernel
theorem dX8_restore_38 : decode cX8_restore 38 = .ok (.getfield 28, 3) := by decide +kernel
theorem dX8_restore_41 : decode cX8_restore 41 = .ok (.sipush 264, 3) := by decide +kernel
theorem dX8_restore_44 : decode cX8_restore 44 = .ok (.iload_n 1, 1) := by decide +kernel
theorem dX8_restore_45 : decode cX8_restore 45 = .ok (.imul, 1) := by decide +kernel
theorem dX8_restore_46 : decode cX8_restore 46 = .ok (.aload_n 0, 1) := by decide +kernel
theorem dX8_restore_47 : decode cX8_restore 47 = .ok (.getfield 16, 3) := by decide +kernel
theorem dX8_restore_50 : decode cX8_restore 50 = .ok (.iconst 0, 1) := by decide +kernel
theorem dX8_restore_51 : decode cX8_restore 51 = .ok (.sipush 264, 3) := by decide +kernel
theorem dX8_restore_54 : decode cX8_restore 54 = .ok (.invokestatic 53, 3) := by decide +kernel
theorem dX8_restore_57 : decode cX8_restore 57 = .ok (.aload_n 0, 1) := by decide +kernel
theorem dX8_restore_58 : decode cX8_restore 58 = .ok (.iconst 0, 1) := by decide +kernel
theorem dX8_restore_59 : decode cX8_restore 59 = .ok (.putfield 50, 3) := by decide +kernel
theorem dX8_restore_62 : decode cX8_restore 62 = .ok (.aload_n 0, 1) := by decide +kernel
theorem dX8_restore_63 : decode cX8_restore 63 = .ok (.getfield 16, 3) := by decide +kernel
theorem dX8_restore_66 : decode cX8_restore 66 = .ok (.iconst 2, 1) := by decide +kernel
theorem dX8_restore_67 : decode cX8_restore 67 = .ok (.iaload, 1) := by decide +kernel
theorem dX8_restore_68 : decode cX8_restore 68 = .ok (.ireturn, 1) := by decide +kernel
