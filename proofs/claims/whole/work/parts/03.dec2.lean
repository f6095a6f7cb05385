theorem dX9_readClause_87 : decode cX9_readClause 87 = .ok (.iconst 3, 1) := by decide +kernel
theorem dX9_readClause_88 : decode cX9_readClause 88 = .ok (.aload_n 0, 1) := by decide +kernel
theorem dX9_readClause_89 : decode cX9_readClause 89 = .ok (.getfield 82, 3) := by decide +kernel
theorem dX9_readClause_92 : decode cX9_readClause 92 = .ok (.imul, 1) := by decide +kernel
theorem dX9_readClause_93 : decode cX9_readClause 93 = .ok (.iconst 2, 1) := by decide +kernel
theorem dX9_readClause_94 : decode cX9_readClause 94 = .ok (.iadd, 1) := by decide +kernel
theorem dX9_readClause_95 : decode cX9_readClause 95 = .ok (.iload_n 3, 1) := by decide +kernel
theorem dX9_readClause_96 : decode cX9_readClause 96 = .ok (.iastore, 1) := by decide +kernel
theorem dX9_readClause_97 : decode cX9_readClause 97 = .ok (.aload_n 0, 1) := by decide +kernel
theorem dX9_readClause_98 : decode cX9_readClause 98 = .ok (.dup, 1) := by decide +kernel
theorem dX9_readClause_99 : decode cX9_readClause 99 = .ok (.getfield 82, 3) := by decide +kernel
theorem dX9_readClause_102 : decode cX9_readClause 102 = .ok (.iconst 1, 1) := by decide +kernel
theorem dX9_readClause_103 : decode cX9_readClause 103 = .ok (.iadd, 1) := by decide +kernel
theorem dX9_readClause_104 : decode cX9_readClause 104 = .ok (.putfield 82, 3) := by decide +kernel
theorem dX9_readClause_107 : decode cX9_readClause 107 = .ok (.iconst 1, 1) := by decide +kernel
theorem dX9_readClause_108 : decode cX9_readClause 108 = .ok (.ireturn, 1) := by decide +kernel
theorem dX9_readPart_0 : decode cX9_readPart 0 = .ok (.aload_n 0, 1) := by decide +kernel
theorem dX9_readPart_1 : decode cX9_readPart 1 = .ok (.getfield 7, 3) := by decide +kernel
theorem dX9_readPart_4 : decode cX9_readPart 4 = .ok (.aload_n 0, 1) := by decide +kernel
theorem dX9_readPart_5 : decode cX9_readPart 5 = .ok (.getfield 72, 3) := by decide +kernel
theorem dX9_readPart_8 : decode cX9_readPart 8 = .ok (.iaload, 1) := by decide +kernel
theorem dX9_readPart_9 : decode cX9_readPart 9 = .ok (.istore_n 1, 1) := by decide +kernel
theorem dX9_readPart_10 : decode cX9_readPart 10 = .ok (.aload_n 0, 1) := by decide +kernel
theorem dX9_readPart_11 : decode cX9_readPart 11 = .ok (.dup, 1) := by decide +kernel
theorem dX9_readPart_12 : decode cX9_readPart 12 = .ok (.getfield 72, 3) := by decide +kernel
theorem dX9_readPart_15 : decode cX9_readPart 15 = .ok (.iconst 1, 1) := by decide +kernel
theorem dX9_readPart_16 : decode cX9_readPart 16 = .ok (.iadd, 1) := by decide +kernel
theorem dX9_readPart_17 : decode cX9_readPart 17 = .ok (.putfield 72, 3) := by decide +kernel
theorem dX9_readPart_20 : decode cX9_readPart 20 = .ok (.iload_n 1, 1) := by decide +kernel
theorem dX9_readPart_21 : decode cX9_readPart 21 = .ok (.bipush 69, 2) := by decide +kernel
theorem dX9_readPart_23 : decode cX9_readPart 23 = .ok (.if_icmp .ne 16, 3) := by decide +kernel
theorem dX9_readPart_26 : decode cX9_readPart 26 = .ok (.aload_n 0, 1) := by decide +kernel
theorem dX9_readPart_27 : decode cX9_readPart 27 = .ok (.getfield 79, 3) := by decide +kernel
theorem dX9_readPart_30 : decode cX9_readPart 30 = .ok (.iconst 4, 1) := by decide +kernel
theorem dX9_readPart_31 : decode cX9_readPart 31 = .ok (.if_icmp .ge 8, 3) := by decide +kernel
theorem dX9_readPart_34 : decode cX9_readPart 34 = .ok (.aload_n 0, 1) := by decide +kernel
theorem dX9_readPart_35 : decode cX9_readPart 35 = .ok (.invokevirtual 85, 3) := by decide +kernel
theorem dX9_readPart_38 : decode cX9_readPart 38 = .ok (.ireturn, 1) := by decide +kernel
theorem dX9_readPart_39 : decode cX9_readPart 39 = .ok (.iload_n 1, 1) := by decide +kernel
theorem dX9_readPart_40 : decode cX9_readPart 40 = .ok (.bipush 67, 2) := by decide +kernel
theorem dX9_readPart_42 : decode cX9_readPart 42 = .ok (.if_icmp .ne 23, 3) := by decide +kernel
theorem dX9_readPart_45 : decode cX9_readPart 45 = .ok (.aload_n 0, 1) := by decide +kernel
theorem dX9_readPart_46 : decode cX9_readPart 46 = .ok (.getfield 79, 3) := by decide +kernel
theorem dX9_readPart_49 : decode cX9_readPart 49 = .ok (.ifCond .le 16, 3) := by decide +kernel
theorem dX9_readPart_52 : decode cX9_readPart 52 = .ok (.aload_n 0, 1) := by decide +kernel
theorem dX9_readPart_53 : decode cX9_readPart 53 = .ok (.getfield 82, 3) := by decide +kernel
theorem dX9_readPart_56 : decode cX9_readPart 56 = .ok (.iconst 5, 1) := by decide +kernel
theorem dX9_readPart_57 : decode cX9_readPart 57 = .ok (.if_icmp .ge 8, 3) := by decide +kernel
theorem dX9_readPart_60 : decode cX9_readPart 60 = .ok (.aload_n 0, 1) := by decide +kernel
theorem dX9_readPart_61 : decode cX9_readPart 61 = .ok (.invokevirtual 88, 3) := by decide +kernel
theorem dX9_readPart_64 : decode cX9_readPart 64 = .ok (.ireturn, 1) := by decide +kernel
theorem dX9_readPart_65 : decode cX9_readPart 65 = .ok (.aload_n 0, 1) := by decide +kernel
theorem dX9_readPart_66 : decode cX9_readPart 66 = .ok (.dup, 1) := by decide +kernel
theorem dX9_readPart_67 : decode cX9_readPart 67 = .ok (.getfield 72, 3) := by decide +kernel
theorem dX9_readPart_70 : decode cX9_readPart 70 = .ok (.iconst 1, 1) := by decide +kernel
theorem dX9_readPart_71 : decode cX9_readPart 71 = .ok (.isub, 1) := by decide +kernel
theorem dX9_readPart_72 : decode cX9_readPart 72 = .ok (.putfield 72, 3) := by decide +kernel
theorem dX9_readPart_75 : decode cX9_readPart 75 = .ok (.iconst 0, 1) := by decide +kernel
theorem dX9_readPart_76 : decode cX9_readPart 76 = .ok (.ireturn, 1) := by decide +kernel
theorem dX9_readTalk_0 : decode cX9_readTalk 0 = .ok (.aload_n 0, 1) := by decide +kernel
theorem dX9_readTalk_1 : decode cX9_readTalk 1 = .ok (.iconst 0, 1) := by decide +kernel
theorem dX9_readTalk_2 : decode cX9_readTalk 2 = .ok (.putfield 72, 3) := by decide +kernel
theorem dX9_readTalk_5 : decode cX9_readTalk 5 = .ok (.aload_n 0, 1) := by decide +kernel
theorem dX9_readTalk_6 : decode cX9_readTalk 6 = .ok (.iconst 0, 1) := by decide +kernel
theorem dX9_readTalk_7 : decode cX9_readTalk 7 = .ok (.putfield 79, 3) := by decide +kernel
theorem dX9_readTalk_10 : decode cX9_readTalk 10 = .ok (.aload_n 0, 1) := by decide +kernel
theorem dX9_readTalk_11 : decode cX9_readTalk 11 = .ok (.iconst 0, 1) := by decide +kernel
theorem dX9_readTalk_12 : decode cX9_readTalk 12 = .ok (.putfield 82, 3) := by decide +kernel
theorem dX9_readTalk_15 : decode cX9_readTalk 15 = .ok (.aload_n 0, 1) := by decide +kernel
theorem dX9_readTalk_16 : decode cX9_readTalk 16 = .ok (.getfield 69, 3) := by decide +kernel
theorem dX9_readTalk_19 : decode cX9_readTalk 19 = .ok (.ifCond .eq 14, 3) := by decide +kernel
theorem dX9_readTalk_22 : decode cX9_readTalk 22 = .ok (.aload_n 0, 1) := by decide +kernel
theorem dX9_readTalk_23 : decode cX9_readTalk 23 = .ok (.getfield 7, 3) := by decide +kernel
theorem dX9_readTalk_26 : decode cX9_readTalk 26 = .ok (.iconst 0, 1) := by decide +kernel
theorem dX9_readTalk_27 : decode cX9_readTalk 27 = .ok (.iaload, 1) := by decide +kernel
theorem dX9_readTalk_28 : decode cX9_readTalk 28 = .ok (.bipush 77, 2) := by decide +kernel
theorem dX9_readTalk_30 : decode cX9_readTalk 30 = .ok (.if_icmp .eq 5, 3) := by decide +kernel
theorem dX9_readTalk_33 : decode cX9_readTalk 33 = .ok (.iconst 0, 1) := by decide +kernel
theorem dX9_readTalk_34 : decode cX9_readTalk 34 = .ok (.ireturn, 1) := by decide +kernel
theorem dX9_readTalk_35 : decode cX9_readTalk 35 = .ok (.aload_n 0, 1) := by decide +kernel
theorem dX9_readTalk_36 : decode cX9_readTalk 36 = .ok (.iconst 1, 1) := by decide +kernel
theorem dX9_readTalk_37 : decode cX9_readTalk 37 = .ok (.putfield 72, 3) := by decide +kernel
theorem dX9_readTalk_40 : decode cX9_readTalk 40 = .ok (.aload_n 0, 1) := by decide +kernel
theorem dX9_readTalk_41 : decode cX9_readTalk 41 = .ok (.aload_n 0, 1) := by decide +kernel
theorem dX9_readTalk_42 : decode cX9_readTalk 42 = .ok (.iconst 0, 1) := by decide +kernel
theorem dX9_readTalk_43 : decode cX9_readTalk 43 = .ok (.bipush 9, 2) := by decide +kernel
theorem dX9_readTalk_45 : decode cX9_readTalk 45 = .ok (.invokevirtual 75, 3) := by decide +kernel
theorem dX9_readTalk_48 : decode cX9_readTalk 48 = .ok (.putfield 90, 3) := by decide +kernel
theorem dX9_readTalk_51 : decode cX9_readTalk 51 = .ok (.aload_n 0, 1) := by decide +kernel
theorem dX9_readTalk_52 : decode cX9_readTalk 52 = .ok (.aload_n 0, 1) := by decide +kernel
theorem dX9_readTalk_53 : decode cX9_readTalk 53 = .ok (.getfield 90, 3) := by decide +kernel
theorem dX9_readTalk_56 : decode cX9_readTalk 56 = .ok (.bipush (-9), 2) := by decide +kernel
theorem dX9_readTalk_58 : decode cX9_readTalk 58 = .ok (.if_icmp .ne 8, 3) := by decide +kernel
theorem dX9_readTalk_61 : decode cX9_readTalk 61 = .ok (.bipush (-9), 2) := by decide +kernel
theorem dX9_readTalk_63 : decode cX9_readTalk 63 = .ok (.goto 10, 3) := by decide +kernel
theorem dX9_readTalk_66 : decode cX9_readTalk 66 = .ok (.aload_n 0, 1) := by decide +kernel
theorem dX9_readTalk_67 : decode cX9_readTalk 67 = .ok (.iconst 0, 1) := by decide +kernel
theorem dX9_readTalk_68 : decode cX9_readTalk 68 = .ok (.bipush 9, 2) := by decide +kernel
theorem dX9_readTalk_70 : decode cX9_readTalk 70 = .ok (.invokevirtual 75, 3) := by decide +kernel
theorem dX9_readTalk_73 : decode cX9_readTalk 73 = .ok (.putfield 93, 3) := by decide +kernel
theorem dX9_readTalk_76 : decode cX9_readTalk 76 = .ok (.aload_n 0, 1) := by decide +kernel
theorem dX9_readTalk_77 : decode cX9_readTalk 77 = .ok (.getfield 93, 3) := by decide +kernel
theorem dX9_readTalk_80 : decode cX9_readTalk 80 = .ok (.bipush (-9), 2) := by decide +kernel
theorem dX9_readTalk_82 : decode cX9_readTalk 82 = .ok (.if_icmp .ne 8, 3) := by decide +kernel
theorem dX9_readTalk_85 : decode cX9_readTalk 85 = .ok (.aload_n 0, 1) := by decide +kernel
theorem dX9_readTalk_86 : decode cX9_readTalk 86 = .ok (.getfield 72, 3) := by decide +kernel
theorem dX9_readTalk_89 : decode cX9_readTalk 89 = .ok (.ireturn, 1) := by decide +kernel
theorem dX9_readTalk_90 : decode cX9_readTalk 90 = .ok (.aload_n 0, 1) := by decide +kernel
theorem dX9_readTalk_91 : decode cX9_readTalk 91 = .ok (.getfield 72, 3) := by decide +kernel
theorem dX9_readTalk_94 : decode cX9_readTalk 94 = .ok (.aload_n 0, 1) := by decide +kernel
theorem dX9_readTalk_95 : decode cX9_readTalk 95 = .ok (.getfield 69, 3) := by decide +kernel
theorem dX9_readTalk_98 : decode cX9_readTalk 98 = .ok (.if_icmp .ge 15, 3) := by decide +kernel
theorem dX9_readTalk_101 : decode cX9_readTalk 101 = .ok (.aload_n 0, 1) := by decide +kernel
theorem dX9_readTalk_102 : decode cX9_readTalk 102 = .ok (.invokevirtual 96, 3) := by decide +kernel
theorem dX9_readTalk_105 : decode cX9_readTalk 105 = .ok (.ifCond .ne (-15), 3) := by decide +kernel
theorem dX9_readTalk_108 : decode cX9_readTalk 108 = .ok (.aload_n 0, 1) := by decide +kernel
theorem dX9_readTalk_109 : decode cX9_readTalk 109 = .ok (.getfield 72, 3) := by decide +kernel
theorem dX9_readTalk_112 : decode cX9_readTalk 112 = .ok (.ireturn, 1) := by decide +kernel
theorem dX9_readTalk_113 : decode cX9_readTalk 113 = .ok (.bipush (-9), 2) := by decide +kernel
theorem dX9_readTalk_115 : decode cX9_readTalk 115 = .ok (.ireturn, 1) := by decide +kernel
theorem dX9_fault_0 : decode cX9_fault 0 = .ok (.aload_n 0, 1) := by decide +kernel
theorem dX9_fault_1 : decode cX9_fault 1 = .ok (.iconst 0, 1) := by decide +kernel
theorem dX9_fault_2 : decode cX9_fault 2 = .ok (.putfield 53, 3) := by decide +kernel
theorem dX9_fault_5 : decode cX9_fault 5 = .ok (.aload_n 0, 1) := by decide +kernel
theorem dX9_fault_6 : decode cX9_fault 6 = .ok (.invokevirtual 99, 3) := by decide +kernel
theorem dX9_fault_9 : decode cX9_fault 9 = .ok (.ireturn, 1) := by decide +kernel
theorem dX9_talk_0 : decode cX9_talk 0 = .ok (.aload_n 0, 1) := by decide +kernel
theorem dX9_talk_1 : decode cX9_talk 1 = .ok (.iconst 0, 1) := by decide +kernel
theorem dX9_talk_2 : decode cX9_talk 2 = .ok (.putfield 53, 3) := by decide +kernel
theorem dX9_talk_5 : decode cX9_talk 5 = .ok (.aload_n 0, 1) := by decide +kernel
theorem dX9_talk_6 : decode cX9_talk 6 = .ok (.invokevirtual 99, 3) := by decide +kernel
theorem dX9_talk_9 : decode cX9_talk 9 = .ok (.bipush (-9), 2) := by decide +kernel
theorem dX9_talk_11 : decode cX9_talk 11 = .ok (.if_icmp .eq 6, 3) := by decide +kernel
theorem dX9_talk_14 : decode cX9_talk 14 = .ok (.bipush (-3), 2) := by decide +kernel
theorem dX9_talk_16 : decode cX9_talk 16 = .ok (.ireturn, 1) := by decide +kernel
theorem dX9_talk_17 : decode cX9_talk 17 = .ok (.aload_n 0, 1) := by decide +kernel
theorem dX9_talk_18 : decode cX9_talk 18 = .ok (.aload_n 0, 1) := by decide +kernel
theorem dX9_talk_19 : decode cX9_talk 19 = .ok (.getfield 79, 3) := by decide +kernel
theorem dX9_talk_22 : decode cX9_talk 22 = .ok (.putfield 57, 3) := by decide +kernel
theorem dX9_talk_25 : decode cX9_talk 25 = .ok (.aload_n 0, 1) := by decide +kernel
theorem dX9_talk_26 : decode cX9_talk 26 = .ok (.aload_n 0, 1) := by decide +kernel
theorem dX9_talk_27 : decode cX9_talk 27 = .ok (.getfield 82, 3) := by decide +kernel
theorem dX9_talk_30 : decode cX9_talk 30 = .ok (.putfield 64, 3) := by decide +kernel
theorem dX9_talk_33 : decode cX9_talk 33 = .ok (.iconst 0, 1) := by decide +kernel
theorem dX9_talk_34 : decode cX9_talk 34 = .ok (.istore_n 1, 1) := by decide +kernel
theorem dX9_talk_35 : decode cX9_talk 35 = .ok (.iload_n 1, 1) := by decide +kernel
theorem dX9_talk_36 : decode cX9_talk 36 = .ok (.iconst 3, 1) := by decide +kernel
theorem dX9_talk_37 : decode cX9_talk 37 = .ok (.aload_n 0, 1) := by decide +kernel
theorem dX9_talk_38 : decode cX9_talk 38 = .ok (.getfield 57, 3) := by decide +kernel
theorem dX9_talk_41 : decode cX9_talk 41 = .ok (.imul, 1) := by decide +kernel
theorem dX9_talk_42 : decode cX9_talk 42 = .ok (.if_icmp .ge 21, 3) := by decide +kernel
theorem dX9_talk_45 : decode cX9_talk 45 = .ok (.aload_n 0, 1) := by decide +kernel
theorem dX9_talk_46 : decode cX9_talk 46 = .ok (.getfield 13, 3) := by decide +kernel
theorem dX9_talk_49 : decode cX9_talk 49 = .ok (.iload_n 1, 1) := by decide +kernel
theorem dX9_talk_50 : decode cX9_talk 50 = .ok (.aload_n 0, 1) := by decide +kernel
theorem dX9_talk_51 : decode cX9_talk 51 = .ok (.getfield 19, 3) := by decide +kernel
theorem dX9_talk_54 : decode cX9_talk 54 = .ok (.iload_n 1, 1) := by decide +kernel
theorem dX9_talk_55 : decode cX9_talk 55 = .ok (.iaload, 1) := by decide +kernel
theorem dX9_talk_56 : decode cX9_talk 56 = .ok (.iastore, 1) := by decide +kernel
theorem dX9_talk_57 : decode cX9_talk 57 = .ok (.iinc 1 1, 3) := by decide +kernel
theorem dX9_talk_60 : decode cX9_talk 60 = .ok (.goto (-25), 3) := by decide +kernel
theorem dX9_talk_63 : decode cX9_talk 63 = .ok (.iconst 0, 1) := by decide +kernel
theorem dX9_talk_64 : decode cX9_talk 64 = .ok (.istore_n 1, 1) := by decide +kernel
theorem dX9_talk_65 : decode cX9_talk 65 = .ok (.iload_n 1, 1) := by decide +kernel
theorem dX9_talk_66 : decode cX9_talk 66 = .ok (.iconst 3, 1) := by decide +kernel
theorem dX9_talk_67 : decode cX9_talk 67 = .ok (.aload_n 0, 1) := by decide +kernel
theorem dX9_talk_68 : decode cX9_talk 68 = .ok (.getfield 64, 3) := by decide +kernel
theorem dX9_talk_71 : decode cX9_talk 71 = .ok (.imul, 1) := by decide +kernel
theorem dX9_talk_72 : decode cX9_talk 72 = .ok (.if_icmp .ge 21, 3) := by decide +kernel
theorem dX9_talk_75 : decode cX9_talk 75 = .ok (.aload_n 0, 1) := by decide +kernel
theorem dX9_talk_76 : decode cX9_talk 76 = .ok (.getfield 16, 3) := by decide +kernel
theorem dX9_talk_79 : decode cX9_talk 79 = .ok (.iload_n 1, 1) := by decide +kernel
theorem dX9_talk_80 : decode cX9_talk 80 = .ok (.aload_n 0, 1) := by decide +kernel
theorem dX9_talk_81 : decode cX9_talk 81 = .ok (.getfield 22, 3) := by decide +kernel
theorem dX9_talk_84 : decode cX9_talk 84 = .ok (.iload_n 1, 1) := by decide +kernel
theorem dX9_talk_85 : decode cX9_talk 85 = .ok (.iaload, 1) := by decide +kernel
theorem dX9_talk_86 : decode cX9_talk 86 = .ok (.iastore, 1) := by decide +kernel
theorem dX9_talk_87 : decode cX9_talk 87 = .ok (.iinc 1 1, 3) := by decide +kernel
theorem dX9_talk_90 : decode cX9_talk 90 = .ok (.goto (-25), 3) := by decide +kernel
theorem dX9_talk_93 : decode cX9_talk 93 = .ok (.iconst 0, 1) := by decide +kernel
theorem dX9_talk_94 : decode cX9_talk 94 = .ok (.istore_n 1, 1) := by decide +kernel
theorem dX9_talk_95 : decode cX9_talk 95 = .ok (.iload_n 1, 1) := by decide +kernel
theorem dX9_talk_96 : decode cX9_talk 96 = .ok (.bipush 10, 2) := by decide +kernel
theorem dX9_talk_98 : decode cX9_talk 98 = .ok (.if_icmp .ge 16, 3) := by decide +kernel
theorem dX9_talk_101 : decode cX9_talk 101 = .ok (.aload_n 0, 1) := by decide +kernel
theorem dX9_talk_102 : decode cX9_talk 102 = .ok (.getfield 25, 3) := by decide +kernel
theorem dX9_talk_105 : decode cX9_talk 105 = .ok (.iload_n 1, 1) := by decide +kernel
theorem dX9_talk_106 : decode cX9_talk 106 = .ok (.iconst 0, 1) := by decide +kernel
theorem dX9_talk_107 : decode cX9_talk 107 = .ok (.iastore, 1) := by decide +kernel
theorem dX9_talk_108 : decode cX9_talk 108 = .ok (.iinc 1 1, 3) := by decide +kernel
theorem dX9_talk_111 : decode cX9_talk 111 = .ok (.goto (-16), 3) := by decide +kernel
theorem dX9_talk_114 : decode cX9_talk 114 = .ok (.aload_n 0, 1) := by decide +kernel
theorem dX9_talk_115 : decode cX9_talk 115 = .ok (.getfield 25, 3) := by decide +kernel
theorem dX9_talk_118 : decode cX9_talk 118 = .ok (.iconst 0, 1) := by decide +kernel
theorem dX9_talk_119 : decode cX9_talk 119 = .ok (.aload_n 0, 1) := by decide +kernel
theorem dX9_talk_120 : decode cX9_talk 120 = .ok (.getfield 90, 3) := by decide +kernel
theorem dX9_talk_123 : decode cX9_talk 123 = .ok (.iastore, 1) := by decide +kernel
theorem dX9_talk_124 : decode cX9_talk 124 = .ok (.aload_n 0, 1) := by decide +kernel
theorem dX9_talk_125 : decode cX9_talk 125 = .ok (.getfield 25, 3) := by decide +kernel
theorem dX9_talk_128 : decode cX9_talk 128 = .ok (.iconst 1, 1) := by decide +kernel
theorem dX9_talk_129 : decode cX9_talk 129 = .ok (.aload_n 0, 1) := by decide +kernel
theorem dX9_talk_130 : decode cX9_talk 130 = .ok (.getfield 93, 3) := by decide +kernel
theorem dX9_talk_133 : decode cX9_talk 133 = .ok (.iastore, 1) := by decide +kernel
theorem dX9_talk_134 : decode cX9_talk 134 = .ok (.aload_n 0, 1) := by decide +kernel
theorem dX9_talk_135 : decode cX9_talk 135 = .ok (.getfield 25, 3) := by decide +kernel
theorem dX9_talk_138 : decode cX9_talk 138 = .ok (.bipush 6, 2) := by decide +kernel
theorem dX9_talk_140 : decode cX9_talk 140 = .ok (.iconst 1, 1) := by decide +kernel
theorem dX9_talk_141 : decode cX9_talk 141 = .ok (.aload_n 0, 1) := by decide +kernel
theorem dX9_talk_142 : decode cX9_talk 142 = .ok (.getfield 57, 3) := by decide +kernel
theorem dX9_talk_145 : decode cX9_talk 145 = .ok (.ishl, 1) := by decide +kernel
theorem dX9_talk_146 : decode cX9_talk 146 = .ok (.iconst 1, 1) := by decide +kernel
theorem dX9_talk_147 : decode cX9_talk 147 = .ok (.isub, 1) := by decide +kernel
theorem dX9_talk_148 : decode cX9_talk 148 = .ok (.iastore, 1) := by decide +kernel
theorem dX9_talk_149 : decode cX9_talk 149 = .ok (.aload_n 0, 1) := by decide +kernel
theorem dX9_talk_150 : decode cX9_talk 150 = .ok (.iconst 0, 1) := by decide +kernel
theorem dX9_talk_151 : decode cX9_talk 151 = .ok (.putfield 103, 3) := by decide +kernel
theorem dX9_talk_154 : decode cX9_talk 154 = .ok (.aload_n 0, 1) := by decide +kernel
theorem dX9_talk_155 : decode cX9_talk 155 = .ok (.getfield 37, 3) := by decide +kernel
theorem dX9_talk_158 : decode cX9_talk 158 = .ok (.iconst 0, 1) := by decide +kernel
theorem dX9_talk_159 : decode cX9_talk 159 = .ok (.iconst 0, 1) := by decide +kernel
theorem dX9_talk_160 : decode cX9_talk 160 = .ok (.bastore, 1) := by decide +kernel
theorem dX9_talk_161 : decode cX9_talk 161 = .ok (.aload_n 0, 1) := by decide +kernel
theorem dX9_talk_162 : decode cX9_talk 162 = .ok (.getfield 37, 3) := by decide +kernel
theorem dX9_talk_165 : decode cX9_talk 165 = .ok (.iconst 1, 1) := by decide +kernel
theorem dX9_talk_166 : decode cX9_talk 166 = .ok (.iconst 0, 1) := by decide +kernel
theorem dX9_talk_167 : decode cX9_talk 167 = .ok (.bastore, 1) := by decide +kernel
theorem dX9_talk_168 : decode cX9_talk 168 = .ok (.bipush 10, 2) := by decide +kernel
theorem dX9_talk_170 : decode cX9_talk 170 = .ok (.aload_n 0, 1) := by decide +kernel
theorem dX9_talk_171 : decode cX9_talk 171 = .ok (.getfield 57, 3) := by decide +kernel
theorem dX9_talk_174 : decode cX9_talk 174 = .ok (.imul, 1) := by decide +kernel
theorem dX9_talk_175 : decode cX9_talk 175 = .ok (.aload_n 0, 1) := by decide +kernel
theorem dX9_talk_176 : decode cX9_talk 176 = .ok (.getfield 64, 3) := by decide +kernel
theorem dX9_talk_179 : decode cX9_talk 179 = .ok (.iadd, 1) := by decide +kernel
theorem dX9_talk_180 : decode cX9_talk 180 = .ok (.ireturn, 1) := by decide +kernel
theorem dX9_painBy_0 : decode cX9_painBy 0 = .ok (.iload_n 2, 1) := by decide +kernel
theorem dX9_painBy_1 : decode cX9_painBy 1 = .ok (.iload_n 0, 1) := by decide +kernel
theorem dX9_painBy_2 : decode cX9_painBy 2 = .ok (.if_icmp .le 9, 3) := by decide +kernel
theorem dX9_painBy_5 : decode cX9_painBy 5 = .ok (.iload_n 2, 1) := by decide +kernel
theorem dX9_painBy_6 : decode cX9_painBy 6 = .ok (.iload_n 0, 1) := by decide +kernel
theorem dX9_painBy_7 : decode cX9_painBy 7 = .ok (.isub, 1) := by decide +kernel
theorem dX9_painBy_8 : decode cX9_painBy 8 = .ok (.goto 4, 3) := by decide +kernel
theorem dX9_painBy_11 : decode cX9_painBy 11 = .ok (.iconst 0, 1) := by decide +kernel
theorem dX9_painBy_12 : decode cX9_painBy 12 = .ok (.istore_n 3, 1) := by decide +kernel
theorem dX9_painBy_13 : decode cX9_painBy 13 = .ok (.iload_n 1, 1) := by decide +kernel
theorem dX9_painBy_14 : decode cX9_painBy 14 = .ok (.iconst 1, 1) := by decide +kernel
theorem dX9_painBy_15 : decode cX9_painBy 15 = .ok (.if_icmp .eq 7, 3) := by decide +kernel
theorem dX9_painBy_18 : decode cX9_painBy 18 = .ok (.iload_n 3, 1) := by decide +kernel
theorem dX9_painBy_19 : decode cX9_painBy 19 = .ok (.ifCond .ne 5, 3) := by decide +kernel
theorem dX9_painBy_22 : decode cX9_painBy 22 = .ok (.iconst 0, 1) := by decide +kernel
theorem dX9_painBy_23 : decode cX9_painBy 23 = .ok (.ireturn, 1) := by decide +kernel
theorem dX9_painBy_24 : decode cX9_painBy 24 = .ok (.iload_n 1, 1) := by decide +kernel
theorem dX9_painBy_25 : decode cX9_painBy 25 = .ok (.iconst 2, 1) := by decide +kernel
theorem dX9_painBy_26 : decode cX9_painBy 26 = .ok (.if_icmp .ne 9, 3) := by decide +kernel
theorem dX9_painBy_29 : decode cX9_painBy 29 = .ok (.iload_n 3, 1) := by decide +kernel
theorem dX9_painBy_30 : decode cX9_painBy 30 = .ok (.iconst 1, 1) := by decide +kernel
theorem dX9_painBy_31 : decode cX9_painBy 31 = .ok (.iadd, 1) := by decide +kernel
theorem dX9_painBy_32 : decode cX9_painBy 32 = .ok (.goto 15, 3) := by decide +kernel
theorem dX9_painBy_35 : decode cX9_painBy 35 = .ok (.iload_n 1, 1) := by decide +kernel
theorem dX9_painBy_36 : decode cX9_painBy 36 = .ok (.iconst 3, 1) := by decide +kernel
theorem dX9_painBy_37 : decode cX9_painBy 37 = .ok (.if_icmp .ne 9, 3) := by decide +kernel
theorem dX9_painBy_40 : decode cX9_painBy 40 = .ok (.iload_n 3, 1) := by decide +kernel
theorem dX9_painBy_41 : decode cX9_painBy 41 = .ok (.iconst 1, 1) := by decide +kernel
theorem dX9_painBy_42 : decode cX9_painBy 42 = .ok (.isub, 1) := by decide +kernel
theorem dX9_painBy_43 : decode cX9_painBy 43 = .ok (.goto 4, 3) := by decide +kernel
theorem dX9_painBy_46 : decode cX9_painBy 46 = .ok (.iload_n 3, 1) := by decide +kernel
theorem dX9_painBy_47 : decode cX9_painBy 47 = .ok (.ireturn, 1) := by decide +kernel
theorem dX9_painOf_0 : decode cX9_painOf 0 = .ok (.aload_n 0, 1) := by decide +kernel
theorem dX9_painOf_1 : decode cX9_painOf 1 = .ok (.getfield 13, 3) := by decide +kernel
theorem dX9_painOf_4 : decode cX9_painOf 4 = .ok (.iconst 3, 1) := by decide +kernel
theorem dX9_painOf_5 : decode cX9_painOf 5 = .ok (.iload_n 1, 1) := by decide +kernel
theorem dX9_painOf_6 : decode cX9_painOf 6 = .ok (.imul, 1) := by decide +kernel
theorem dX9_painOf_7 : decode cX9_painOf 7 = .ok (.iaload, 1) := by decide +kernel
theorem dX9_painOf_8 : decode cX9_painOf 8 = .ok (.aload_n 0, 1) := by decide +kernel
theorem dX9_painOf_9 : decode cX9_painOf 9 = .ok (.getfield 13, 3) := by decide +kernel
theorem dX9_painOf_12 : decode cX9_painOf 12 = .ok (.iconst 3, 1) := by decide +kernel
theorem dX9_painOf_13 : decode cX9_painOf 13 = .ok (.iload_n 1, 1) := by decide +kernel
theorem dX9_painOf_14 : decode cX9_painOf 14 = .ok (.imul, 1) := by decide +kernel
theorem dX9_painOf_15 : decode cX9_painOf 15 = .ok (.iconst 2, 1) := by decide +kernel
theorem dX9_painOf_16 : decode cX9_painOf 16 = .ok (.iadd, 1) := by decide +kernel
theorem dX9_painOf_17 : decode cX9_painOf 17 = .ok (.iaload, 1) := by decide +kernel
theorem dX9_painOf_18 : decode cX9_painOf 18 = .ok (.iload_n 2, 1) := by decide +kernel
theorem dX9_painOf_19 : decode cX9_painOf 19 = .ok (.invokestatic 106, 3) := by decide +kernel
theorem dX9_painOf_22 : decode cX9_painOf 22 = .ok (.ireturn, 1) := by decide +kernel
theorem dX9_worthOf_0 : decode cX9_worthOf 0 = .ok (.aload_n 0, 1) := by decide +kernel
theorem dX9_worthOf_1 : decode cX9_worthOf 1 = .ok (.getfield 16, 3) := by decide +kernel
theorem dX9_worthOf_4 : decode cX9_worthOf 4 = .ok (.iconst 3, 1) := by decide +kernel
theorem dX9_worthOf_5 : decode cX9_worthOf 5 = .ok (.iload_n 1, 1) := by decide +kernel
theorem dX9_worthOf_6 : decode cX9_worthOf 6 = .ok (.imul, 1) := by decide +kernel
theorem dX9_worthOf_7 : decode cX9_worthOf 7 = .ok (.iaload, 1) := by decide +kernel
theorem dX9_worthOf_8 : decode cX9_worthOf 8 = .ok (.aload_n 0, 1) := by decide +kernel
theorem dX9_worthOf_9 : decode cX9_worthOf 9 = .ok (.getfield 16, 3) := by decide +kernel
theorem dX9_worthOf_12 : decode cX9_worthOf 12 = .ok (.iconst 3, 1) := by decide +kernel
theorem dX9_worthOf_13 : decode cX9_worthOf 13 = .ok (.iload_n 1, 1) := by decide +kernel
theorem dX9_worthOf_14 : decode cX9_worthOf 14 = .ok (.imul, 1) := by decide +kernel
theorem dX9_worthOf_15 : decode cX9_worthOf 15 = .ok (.iconst 1, 1) := by decide +kernel
theorem dX9_worthOf_16 : decode cX9_worthOf 16 = .ok (.iadd, 1) := by decide +kernel
theorem dX9_worthOf_17 : decode cX9_worthOf 17 = .ok (.iaload, 1) := by decide +kernel
theorem dX9_worthOf_18 : decode cX9_worthOf 18 = .ok (.iadd, 1) := by decide +kernel
theorem dX9_worthOf_19 : decode cX9_worthOf 19 = .ok (.ireturn, 1) := by decide +kernel
theorem dX9_canSay_0 : decode cX9_canSay 0 = .ok (.aload_n 1, 1) := by decide +kernel
theorem dX9_canSay_1 : decode cX9_canSay 1 = .ok (.bipush 8, 2) := by decide +kernel
theorem dX9_canSay_3 : decode cX9_canSay 3 = .ok (.iaload, 1) := by decide +kernel
theorem dX9_canSay_4 : decode cX9_canSay 4 = .ok (.iload_n 2, 1) := by decide +kernel
theorem dX9_canSay_5 : decode cX9_canSay 5 = .ok (.invokestatic 110, 3) := by decide +kernel
theorem dX9_canSay_8 : decode cX9_canSay 8 = .ok (.ifCond .ne 27, 3) := by decide +kernel
theorem dX9_canSay_11 : decode cX9_canSay 11 = .ok (.aload_n 1, 1) := by decide +kernel
theorem dX9_canSay_12 : decode cX9_canSay 12 = .ok (.bipush 6, 2) := by decide +kernel
theorem dX9_canSay_14 : decode cX9_canSay 14 = .ok (.iaload, 1) := by decide +kernel
theorem dX9_canSay_15 : decode cX9_canSay 15 = .ok (.aload_n 0, 1) := by decide +kernel
theorem dX9_canSay_16 : decode cX9_canSay 16 = .ok (.getfield 16, 3) := by decide +kernel
theorem dX9_canSay_19 : decode cX9_canSay 19 = .ok (.iconst 3, 1) := by decide +kernel
theorem dX9_canSay_20 : decode cX9_canSay 20 = .ok (.iload_n 2, 1) := by decide +kernel
theorem dX9_canSay_21 : decode cX9_canSay 21 = .ok (.imul, 1) := by decide +kernel
theorem dX9_canSay_22 : decode cX9_canSay 22 = .ok (.iconst 2, 1) := by decide +kernel
theorem dX9_canSay_23 : decode cX9_canSay 23 = .ok (.iadd, 1) := by decide +kernel
theorem dX9_canSay_24 : decode cX9_canSay 24 = .ok (.iaload, 1) := by decide +kernel
theorem dX9_canSay_25 : decode cX9_canSay 25 = .ok (.invokestatic 110, 3) := by decide +kernel
theorem dX9_canSay_28 : decode cX9_canSay 28 = .ok (.ifCond .eq 7, 3) := by decide +kernel
theorem dX9_canSay_31 : decode cX9_canSay 31 = .ok (.iconst 1, 1) := by decide +kernel
theorem dX9_canSay_32 : decode cX9_canSay 32 = .ok (.goto 4, 3) := by decide +kernel
theorem dX9_canSay_35 : decode cX9_canSay 35 = .ok (.iconst 0, 1) := by decide +kernel
theorem dX9_canSay_36 : decode cX9_canSay 36 = .ok (.istore_n 3, 1) := by decide +kernel
theorem dX9_canSay_37 : decode cX9_canSay 37 = .ok (.iload_n 3, 1) := by decide +kernel
theorem dX9_canSay_38 : decode cX9_canSay 38 = .ok (.ifCond .eq 41, 3) := by decide +kernel
theorem dX9_canSay_41 : decode cX9_canSay 41 = .ok (.aload_n 1, 1) := by decide +kernel
theorem dX9_canSay_42 : decode cX9_canSay 42 = .ok (.iconst 0, 1) := by decide +kernel
theorem dX9_canSay_43 : decode cX9_canSay 43 = .ok (.iaload, 1) := by decide +kernel
theorem dX9_canSay_44 : decode cX9_canSay 44 = .ok (.aload_n 0, 1) := by decide +kernel
theorem dX9_canSay_45 : decode cX9_canSay 45 = .ok (.getfield 16, 3) := by decide +kernel
theorem dX9_canSay_48 : decode cX9_canSay 48 = .ok (.iconst 3, 1) := by decide +kernel
theorem dX9_canSay_49 : decode cX9_canSay 49 = .ok (.iload_n 2, 1) := by decide +kernel
theorem dX9_canSay_50 : decode cX9_canSay 50 = .ok (.imul, 1) := by decide +kernel
theorem dX9_canSay_51 : decode cX9_canSay 51 = .ok (.iconst 1, 1) := by decide +kernel
theorem dX9_canSay_52 : decode cX9_canSay 52 = .ok (.iadd, 1) := by decide +kernel
theorem dX9_canSay_53 : decode cX9_canSay 53 = .ok (.iaload, 1) := by decide +kernel
theorem dX9_canSay_54 : decode cX9_canSay 54 = .ok (.if_icmp .lt 25, 3) := by decide +kernel
theorem dX9_canSay_57 : decode cX9_canSay 57 = .ok (.aload_n 0, 1) := by decide +kernel
theorem dX9_canSay_58 : decode cX9_canSay 58 = .ok (.getfield 16, 3) := by decide +kernel
theorem dX9_canSay_61 : decode cX9_canSay 61 = .ok (.iconst 3, 1) := by decide +kernel
theorem dX9_canSay_62 : decode cX9_canSay 62 = .ok (.iload_n 2, 1) := by decide +kernel
theorem dX9_canSay_63 : decode cX9_canSay 63 = .ok (.imul, 1) := by decide +kernel
theorem dX9_canSay_64 : decode cX9_canSay 64 = .ok (.iaload, 1) := by decide +kernel
theorem dX9_canSay_65 : decode cX9_canSay 65 = .ok (.iconst 4, 1) := by decide +kernel
theorem dX9_canSay_66 : decode cX9_canSay 66 = .ok (.aload_n 1, 1) := by decide +kernel
theorem dX9_canSay_67 : decode cX9_canSay 67 = .ok (.iconst 0, 1) := by decide +kernel
theorem dX9_canSay_68 : decode cX9_canSay 68 = .ok (.iaload, 1) := by decide +kernel
theorem dX9_canSay_69 : decode cX9_canSay 69 = .ok (.iconst 3, 1) := by decide +kernel
theorem dX9_canSay_70 : decode cX9_canSay 70 = .ok (.idiv, 1) := by decide +kernel
theorem dX9_canSay_71 : decode cX9_canSay 71 = .ok (.isub, 1) := by decide +kernel
theorem dX9_canSay_72 : decode cX9_canSay 72 = .ok (.if_icmp .gt 7, 3) := by decide +kernel
theorem dX9_canSay_75 : decode cX9_canSay 75 = .ok (.iconst 1, 1) := by decide +kernel
theorem dX9_canSay_76 : decode cX9_canSay 76 = .ok (.goto 4, 3) := by decide +kernel
theorem dX9_canSay_79 : decode cX9_canSay 79 = .ok (.iconst 0, 1) := by decide +kernel
theorem dX9_canSay_80 : decode cX9_canSay 80 = .ok (.ireturn, 1) := by decide +kernel
theorem dX9_sayable_0 : decode cX9_sayable 0 = .ok (.iconst 0, 1) := by decide +kernel
theorem dX9_sayable_1 : decode cX9_sayable 1 = .ok (.istore_n 2, 1) := by decide +kernel
theorem dX9_sayable_2 : decode cX9_sayable 2 = .ok (.iconst 0, 1) := by decide +kernel
theorem dX9_sayable_3 : decode cX9_sayable 3 = .ok (.istore_n 3, 1) := by decide +kernel
theorem dX9_sayable_4 : decode cX9_sayable 4 = .ok (.iload_n 3, 1) := by decide +kernel
theorem dX9_sayable_5 : decode cX9_sayable 5 = .ok (.aload_n 0, 1) := by decide +kernel
theorem dX9_sayable_6 : decode cX9_sayable 6 = .ok (.getfield 64, 3) := by decide +kernel
theorem dX9_sayable_9 : decode cX9_sayable 9 = .ok (.if_icmp .ge 28, 3) := by decide +kernel
theorem dX9_sayable_12 : decode cX9_sayable 12 = .ok (.iload_n 2, 1) := by decide +kernel
theorem dX9_sayable_13 : decode cX9_sayable 13 = .ok (.aload_n 0, 1) := by decide +kernel
theorem dX9_sayable_14 : decode cX9_sayable 14 = .ok (.aload_n 1, 1) := by decide +kernel
theorem dX9_sayable_15 : decode cX9_sayable 15 = .ok (.iload_n 3, 1) := by decide +kernel
theorem dX9_sayable_16 : decode cX9_sayable 16 = .ok (.invokevirtual 114, 3) := by decide +kernel
theorem dX9_sayable_19 : decode cX9_sayable 19 = .ok (.ifCond .eq 9, 3) := by decide +kernel
theorem dX9_sayable_22 : decode cX9_sayable 22 = .ok (.iconst 1, 1) := by decide +kernel
theorem dX9_sayable_23 : decode cX9_sayable 23 = .ok (.iload_n 3, 1) := by decide +kernel
theorem dX9_sayable_24 : decode cX9_sayable 24 = .ok (.ishl, 1) := by decide +kernel
theorem dX9_sayable_25 : decode cX9_sayable 25 = .ok (.goto 4, 3) := by decide +kernel
theorem dX9_sayable_28 : decode cX9_sayable 28 = .ok (.iconst 0, 1) := by decide +kernel
theorem dX9_sayable_29 : decode cX9_sayable 29 = .ok (.ior, 1) := by decide +kernel
theorem dX9_sayable_30 : decode cX9_sayable 30 = .ok (.istore_n 2, 1) := by decide +kernel
theorem dX9_sayable_31 : decode cX9_sayable 31 = .ok (.iinc 3 1, 3) := by decide +kernel
theorem dX9_sayable_34 : decode cX9_sayable 34 = .ok (.goto (-30), 3) := by decide +kernel
theorem dX9_sayable_37 : decode cX9_sayable 37 = .ok (.iload_n 2, 1) := by decide +kernel
theorem dX9_sayable_38 : decode cX9_sayable 38 = .ok (.ireturn, 1) := by decide +kernel
theorem dX9_goBite_0 : decode cX9_goBite 0 = .ok (.iconst 0, 1) := by decide +kernel
theorem dX9_goBite_1 : decode cX9_goBite 1 = .ok (.istore_n 2, 1) := by decide +kernel
theorem dX9_goBite_2 : decode cX9_goBite 2 = .ok (.iload_n 2, 1) := by decide +kernel
theorem dX9_goBite_3 : decode cX9_goBite 3 = .ok (.aload_n 0, 1) := by decide +kernel
theorem dX9_goBite_4 : decode cX9_goBite 4 = .ok (.getfield 57, 3) := by decide +kernel
theorem dX9_goBite_7 : decode cX9_goBite 7 = .ok (.if_icmp .ge 72, 3) := by decide +kernel
theorem dX9_goBite_10 : decode cX9_goBite 10 = .ok (.aload_n 1, 1) := by decide +kernel
theorem dX9_goBite_11 : decode cX9_goBite 11 = .ok (.bipush 6, 2) := by decide +kernel
theorem dX9_goBite_13 : decode cX9_goBite 13 = .ok (.iaload, 1) := by decide +kernel
theorem dX9_goBite_14 : decode cX9_goBite 14 = .ok (.iload_n 2, 1) := by decide +kernel
theorem dX9_goBite_15 : decode cX9_goBite 15 = .ok (.invokestatic 110, 3) := by decide +kernel
theorem dX9_goBite_18 : decode cX9_goBite 18 = .ok (.ifCond .eq 55, 3) := by decide +kernel
theorem dX9_goBite_21 : decode cX9_goBite 21 = .ok (.aload_n 1, 1) := by decide +kernel
theorem dX9_goBite_22 : decode cX9_goBite 22 = .ok (.iconst 2, 1) := by decide +kernel
theorem dX9_goBite_23 : decode cX9_goBite 23 = .ok (.iload_n 2, 1) := by decide +kernel
theorem dX9_goBite_24 : decode cX9_goBite 24 = .ok (.iadd, 1) := by decide +kernel
theorem dX9_goBite_25 : decode cX9_goBite 25 = .ok (.dup2, 1) := by decide +kernel
theorem dX9_goBite_26 : decode cX9_goBite 26 = .ok (.iaload, 1) := by decide +kernel
theorem dX9_goBite_27 : decode cX9_goBite 27 = .ok (.aload_n 0, 1) := by decide +kernel
theorem dX9_goBite_28 : decode cX9_goBite 28 = .ok (.iload_n 2, 1) := by decide +kernel
theorem dX9_goBite_29 : decode cX9_goBite 29 = .ok (.aload_n 1, 1) := by decide +kernel
theorem dX9_goBite_30 : decode cX9_goBite 30 = .ok (.iconst 0, 1) := by decide +kernel
theorem dX9_goBite_31 : decode cX9_goBite 31 = .ok (.iaload, 1) := by decide +kernel
theorem dX9_goBite_32 : decode cX9_goBite 32 = .ok (.invokevirtual 118, 3) := by decide +kernel
theorem dX9_goBite_35 : decode cX9_goBite 35 = .ok (.iadd, 1) := by decide +kernel
theorem dX9_goBite_36 : decode cX9_goBite 36 = .ok (.iastore, 1) := by decide +kernel
theorem dX9_goBite_37 : decode cX9_goBite 37 = .ok (.aload_n 1, 1) := by decide +kernel
theorem dX9_goBite_38 : decode cX9_goBite 38 = .ok (.bipush 6, 2) := by decide +kernel
theorem dX9_goBite_40 : decode cX9_goBite 40 = .ok (.dup2, 1) := by decide +kernel
theorem dX9_goBite_41 : decode cX9_goBite 41 = .ok (.iaload, 1) := by decide +kernel
theorem dX9_goBite_42 : decode cX9_goBite 42 = .ok (.aload_n 1, 1) := by decide +kernel
theorem dX9_goBite_43 : decode cX9_goBite 43 = .ok (.iconst 2, 1) := by decide +kernel
theorem dX9_goBite_44 : decode cX9_goBite 44 = .ok (.iload_n 2, 1) := by decide +kernel
theorem dX9_goBite_45 : decode cX9_goBite 45 = .ok (.iadd, 1) := by decide +kernel
theorem dX9_goBite_46 : decode cX9_goBite 46 = .ok (.iaload, 1) := by decide +kernel
theorem dX9_goBite_47 : decode cX9_goBite 47 = .ok (.iconst 2, 1) := by decide +kernel
theorem dX9_goBite_48 : decode cX9_goBite 48 = .ok (.aload_n 0, 1) := by decide +kernel
theorem dX9_goBite_49 : decode cX9_goBite 49 = .ok (.getfield 13, 3) := by decide +kernel
theorem dX9_goBite_52 : decode cX9_goBite 52 = .ok (.iconst 3, 1) := by decide +kernel
theorem dX9_goBite_53 : decode cX9_goBite 53 = .ok (.iload_n 2, 1) := by decide +kernel
theorem dX9_goBite_54 : decode cX9_goBite 54 = .ok (.imul, 1) := by decide +kernel
theorem dX9_goBite_55 : decode cX9_goBite 55 = .ok (.iconst 1, 1) := by decide +kernel
theorem dX9_goBite_56 : decode cX9_goBite 56 = .ok (.iadd, 1) := by decide +kernel
theorem dX9_goBite_57 : decode cX9_goBite 57 = .ok (.iaload, 1) := by decide +kernel
theorem dX9_goBite_58 : decode cX9_goBite 58 = .ok (.imul, 1) := by decide +kernel
theorem dX9_goBite_59 : decode cX9_goBite 59 = .ok (.if_icmp .lt 11, 3) := by decide +kernel
theorem dX9_goBite_62 : decode cX9_goBite 62 = .ok (.iconst 1, 1) := by decide +kernel
theorem dX9_goBite_63 : decode cX9_goBite 63 = .ok (.iload_n 2, 1) := by decide +kernel
theorem dX9_goBite_64 : decode cX9_goBite 64 = .ok (.ishl, 1) := by decide +kernel
theorem dX9_goBite_65 : decode cX9_goBite 65 = .ok (.iconst (-1), 1) := by decide +kernel
theorem dX9_goBite_66 : decode cX9_goBite 66 = .ok (.ixor, 1) := by decide +kernel
theorem dX9_goBite_67 : decode cX9_goBite 67 = .ok (.goto 4, 3) := by decide +kernel
theorem dX9_goBite_70 : decode cX9_goBite 70 = .ok (.iconst (-1), 1) := by decide +kernel
theorem dX9_goBite_71 : decode cX9_goBite 71 = .ok (.iand, 1) := by decide +kernel
theorem dX9_goBite_72 : decode cX9_goBite 72 = .ok (.iastore, 1) := by decide +kernel
theorem dX9_goBite_73 : decode cX9_goBite 73 = .ok (.iinc 2 1, 3) := by decide +kernel
theorem dX9_goBite_76 : decode cX9_goBite 76 = .ok (.goto (-74), 3) := by decide +kernel
theorem dX9_goBite_79 : decode cX9_goBite 79 = .ok (.aload_n 1, 1) := by decide +kernel
theorem dX9_goBite_80 : decode cX9_goBite 80 = .ok (.iconst 0, 1) := by decide +kernel
theorem dX9_goBite_81 : decode cX9_goBite 81 = .ok (.dup2, 1) := by decide +kernel
theorem dX9_goBite_82 : decode cX9_goBite 82 = .ok (.iaload, 1) := by decide +kernel
theorem dX9_goBite_83 : decode cX9_goBite 83 = .ok (.aload_n 1, 1) := by decide +kernel
theorem dX9_goBite_84 : decode cX9_goBite 84 = .ok (.iconst 0, 1) := by decide +kernel
theorem dX9_goBite_85 : decode cX9_goBite 85 = .ok (.iaload, 1) := by decide +kernel
theorem dX9_goBite_86 : decode cX9_goBite 86 = .ok (.ifCond .le 7, 3) := by decide +kernel
theorem dX9_goBite_89 : decode cX9_goBite 89 = .ok (.iconst 1, 1) := by decide +kernel
theorem dX9_goBite_90 : decode cX9_goBite 90 = .ok (.goto 4, 3) := by decide +kernel
theorem dX9_goBite_93 : decode cX9_goBite 93 = .ok (.iconst 0, 1) := by decide +kernel
theorem dX9_goBite_94 : decode cX9_goBite 94 = .ok (.isub, 1) := by decide +kernel
theorem dX9_goBite_95 : decode cX9_goBite 95 = .ok (.iastore, 1) := by decide +kernel
theorem dX9_goBite_96 : decode cX9_goBite 96 = .ok (.aload_n 1, 1) := by decide +kernel
theorem dX9_goBite_97 : decode cX9_goBite 97 = .ok (.bipush 9, 2) := by decide +kernel
theorem dX9_goBite_99 : decode cX9_goBite 99 = .ok (.dup2, 1) := by decide +kernel
theorem dX9_goBite_100 : decode cX9_goBite 100 = .ok (.iaload, 1) := by decide +kernel
theorem dX9_goBite_101 : decode cX9_goBite 101 = .ok (.iconst 1, 1) := by decide +kernel
theorem dX9_goBite_102 : decode cX9_goBite 102 = .ok (.iadd, 1) := by decide +kernel
theorem dX9_goBite_103 : decode cX9_goBite 103 = .ok (.iastore, 1) := by decide +kernel
theorem dX9_goBite_104 : decode cX9_goBite 104 = .ok (.return_, 1) := by decide +kernel
theorem dX9_goSpice_0 : decode cX9_goSpice 0 = .ok (.aload_n 0, 1) := by decide +kernel
theorem dX9_goSpice_1 : decode cX9_goSpice 1 = .ok (.iconst 1, 1) := by decide +kernel
theorem dX9_goSpice_2 : decode cX9_goSpice 2 = .ok (.dup2, 1) := by decide +kernel
theorem dX9_goSpice_3 : decode cX9_goSpice 3 = .ok (.iaload, 1) := by decide +kernel
theorem dX9_goSpice_4 : decode cX9_goSpice 4 = .ok (.iconst 1, 1) := by decide +kernel
theorem dX9_goSpice_5 : decode cX9_goSpice 5 = .ok (.isub, 1) := by decide +kernel
theorem dX9_goSpice_6 : decode cX9_goSpice 6 = .ok (.iastore, 1) := by decide +kernel
theorem dX9_goSpice_7 : decode cX9_goSpice 7 = .ok (.aload_n 0, 1) := by decide +kernel
theorem dX9_goSpice_8 : decode cX9_goSpice 8 = .ok (.iconst 0, 1) := by decide +kernel
theorem dX9_goSpice_9 : decode cX9_goSpice 9 = .ok (.aload_n 0, 1) := by decide +kernel
theorem dX9_goSpice_10 : decode cX9_goSpice 10 = .ok (.iconst 0, 1) := by decide +kernel
theorem dX9_goSpice_11 : decode cX9_goSpice 11 = .ok (.iaload, 1) := by decide +kernel
theorem dX9_goSpice_12 : decode cX9_goSpice 12 = .ok (.iconst 2, 1) := by decide +kernel
theorem dX9_goSpice_13 : decode cX9_goSpice 13 = .ok (.iadd, 1) := by decide +kernel
theorem dX9_goSpice_14 : decode cX9_goSpice 14 = .ok (.bipush 9, 2) := by decide +kernel
theorem dX9_goSpice_16 : decode cX9_goSpice 16 = .ok (.if_icmp .le 8, 3) := by decide +kernel
theorem dX9_goSpice_19 : decode cX9_goSpice 19 = .ok (.bipush 9, 2) := by decide +kernel
theorem dX9_goSpice_21 : decode cX9_goSpice 21 = .ok (.goto 8, 3) := by decide +kernel
theorem dX9_goSpice_24 : decode cX9_goSpice 24 = .ok (.aload_n 0, 1) := by decide +kernel
theorem dX9_goSpice_25 : decode cX9_goSpice 25 = .ok (.iconst 0, 1) := by decide +kernel
theorem dX9_goSpice_26 : decode cX9_goSpice 26 = .ok (.iaload, 1) := by decide +kernel
theorem dX9_goSpice_27 : decode cX9_goSpice 27 = .ok (.iconst 2, 1) := by decide +kernel
theorem dX9_goSpice_28 : decode cX9_goSpice 28 = .ok (.iadd, 1) := by decide +kernel
theorem dX9_goSpice_29 : decode cX9_goSpice 29 = .ok (.iastore, 1) := by decide +kernel
theorem dX9_goSpice_30 : decode cX9_goSpice 30 = .ok (.return_, 1) := by decide +kernel
theorem dX9_about_0 : decode cX9_about 0 = .ok (.aload_n 0, 1) := by decide +kernel
theorem dX9_about_1 : decode cX9_about 1 = .ok (.iconst 0, 1) := by decide +kernel
theorem dX9_about_2 : decode cX9_about 2 = .ok (.putfield 53, 3) := by decide +kernel
theorem dX9_about_5 : decode cX9_about 5 = .ok (.iload_n 1, 1) := by decide +kernel
theorem dX9_about_6 : decode cX9_about 6 = .ok (.tableswitch 130 0 10 #[58, 63, 68, 75, 82, 90, 98, 106, 115, 120, 125], 58) := by decide +kernel
theorem dX9_about_64 : decode cX9_about 64 = .ok (.aload_n 0, 1) := by decide +kernel
theorem dX9_about_65 : decode cX9_about 65 = .ok (.getfield 57, 3) := by decide +kernel
theorem dX9_about_68 : decode cX9_about 68 = .ok (.ireturn, 1) := by decide +kernel
theorem dX9_about_69 : decode cX9_about 69 = .ok (.aload_n 0, 1) := by decide +kernel
theorem dX9_about_70 : decode cX9_about 70 = .ok (.getfield 64, 3) := by decide +kernel
theorem dX9_about_73 : decode cX9_about 73 = .ok (.ireturn, 1) := by decide +kernel
theorem dX9_about_74 : decode cX9_about 74 = .ok (.aload_n 0, 1) := by decide +kernel
theorem dX9_about_75 : decode cX9_about 75 = .ok (.getfield 25, 3) := by decide +kernel
theorem dX9_about_78 : decode cX9_about 78 = .ok (.iconst 0, 1) := by decide +kernel
theorem dX9_about_79 : decode cX9_about 79 = .ok (.iaload, 1) := by decide +kernel
theorem dX9_about_80 : decode cX9_about 80 = .ok (.ireturn, 1) := by decide +kernel
theorem dX9_about_81 : decode cX9_about 81 = .ok (.aload_n 0, 1) := by decide +kernel
theorem dX9_about_82 : decode cX9_about 82 = .ok (.getfield 25, 3) := by decide +kernel
theorem dX9_about_85 : decode cX9_about 85 = .ok (.iconst 1, 1) := by decide +kernel
theorem dX9_about_86 : decode cX9_about 86 = .ok (.iaload, 1) := by decide +kernel
theorem dX9_about_87 : decode cX9_about 87 = .ok (.ireturn, 1) := by decide +kernel
theorem dX9_about_88 : decode cX9_about 88 = .ok (.aload_n 0, 1) := by decide +kernel
theorem dX9_about_89 : decode cX9_about 89 = .ok (.getfield 25, 3) := by decide +kernel
theorem dX9_about_92 : decode cX9_about 92 = .ok (.bipush 6, 2) := by decide +kernel
theorem dX9_about_94 : decode cX9_about 94 = .ok (.iaload, 1) := by decide +kernel
theorem dX9_about_95 : decode cX9_about 95 = .ok (.ireturn, 1) := by decide +kernel
theorem dX9_about_96 : decode cX9_about 96 = .ok (.aload_n 0, 1) := by decide +kernel
theorem dX9_about_97 : decode cX9_about 97 = .ok (.getfield 25, 3) := by decide +kernel
theorem dX9_about_100 : decode cX9_about 100 = .ok (.bipush 8, 2) := by decide +kernel
theorem dX9_about_102 : decode cX9_about 102 = .ok (.iaload, 1) := by decide +kernel
theorem dX9_about_103 : decode cX9_about 103 = .ok (.ireturn, 1) := by decide +kernel
theorem dX9_about_104 : decode cX9_about 104 = .ok (.aload_n 0, 1) := by decide +kernel
theorem dX9_about_105 : decode cX9_about 105 = .ok (.getfield 25, 3) := by decide +kernel
theorem dX9_about_108 : decode cX9_about 108 = .ok (.bipush 9, 2) := by decide +kernel
theorem dX9_about_110 : decode cX9_about 110 = .ok (.iaload, 1) := by decide +kernel
theorem dX9_about_111 : decode cX9_about 111 = .ok (.ireturn, 1) := by decide +kernel
theorem dX9_about_112 : decode cX9_about 112 = .ok (.aload_n 0, 1) := by decide +kernel
theorem dX9_about_113 : decode cX9_about 113 = .ok (.aload_n 0, 1) := by decide +kernel
theorem dX9_about_114 : decode cX9_about 114 = .ok (.getfield 25, 3) := by decide +kernel
theorem dX9_about_117 : decode cX9_about 117 = .ok (.invokevirtual 121, 3) := by decide +kernel
theorem dX9_about_120 : decode cX9_about 120 = .ok (.ireturn, 1) := by decide +kernel
theorem dX9_about_121 : decode cX9_about 121 = .ok (.aload_n 0, 1) := by decide +kernel
theorem dX9_about_122 : decode cX9_about 122 = .ok (.getfield 103, 3) := by decide +kernel
theorem dX9_about_125 : decode cX9_about 125 = .ok (.ireturn, 1) := by decide +kernel
theorem dX9_about_126 : decode cX9_about 126 = .ok (.aload_n 0, 1) := by decide +kernel
theorem dX9_about_127 : decode cX9_about 127 = .ok (.getfield 125, 3) := by decide +kernel
theorem dX9_about_130 : decode cX9_about 130 = .ok (.ireturn, 1) := by decide +kernel
theorem dX9_about_131 : decode cX9_about 131 = .ok (.aload_n 0, 1) := by decide +kernel
theorem dX9_about_132 : decode cX9_about 132 = .ok (.getfield 69, 3) := by decide +kernel
theorem dX9_about_135 : decode cX9_about 135 = .ok (.ireturn, 1) := by decide +kernel
theorem dX9_about_136 : decode cX9_about 136 = .ok (.bipush (-2), 2) := by decide +kernel
theorem dX9_about_138 : decode cX9_about 138 = .ok (.ireturn, 1) := by decide +kernel
theorem dX9_envoy_0 : decode cX9_envoy 0 = .ok (.aload_n 0, 1) := by decide +kernel
theorem dX9_envoy_1 : decode cX9_envoy 1 = .ok (.iconst 0, 1) := by decide +kernel
theorem dX9_envoy_2 : decode cX9_envoy 2 = .ok (.putfield 53, 3) := by decide +kernel
theorem dX9_envoy_5 : decode cX9_envoy 5 = .ok (.aload_n 0, 1) := by decide +kernel
theorem dX9_envoy_6 : decode cX9_envoy 6 = .ok (.iload_n 1, 1) := by decide +kernel
theorem dX9_envoy_7 : decode cX9_envoy 7 = .ok (.invokevirtual 128, 3) := by decide +kernel
theorem dX9_envoy_10 : decode cX9_envoy 10 = .ok (.ifCond .eq 5, 3) := by decide +kernel
theorem dX9_envoy_13 : decode cX9_envoy 13 = .ok (.iconst (-1), 1) := by decide +kernel
theorem dX9_envoy_14 : decode cX9_envoy 14 = .ok (.ireturn, 1) := by decide +kernel
theorem dX9_envoy_15 : decode cX9_envoy 15 = .ok (.iload_n 2, 1) := by decide +kernel
theorem dX9_envoy_16 : decode cX9_envoy 16 = .ok (.tableswitch 84 0 5 #[40, 40, 40, 51, 60, 72], 40) := by decide +kernel
theorem dX9_envoy_56 : decode cX9_envoy 56 = .ok (.aload_n 0, 1) := by decide +kernel
theorem dX9_envoy_57 : decode cX9_envoy 57 = .ok (.getfield 13, 3) := by decide +kernel
theorem dX9_envoy_60 : decode cX9_envoy 60 = .ok (.iconst 3, 1) := by decide +kernel
theorem dX9_envoy_61 : decode cX9_envoy 61 = .ok (.iload_n 1, 1) := by decide +kernel
theorem dX9_envoy_62 : decode cX9_envoy 62 = .ok (.imul, 1) := by decide +kernel
theorem dX9_envoy_63 : decode cX9_envoy 63 = .ok (.iload_n 2, 1) := by decide +kernel
theorem dX9_envoy_64 : decode cX9_envoy 64 = .ok (.iadd, 1) := by decide +kernel
theorem dX9_envoy_65 : decode cX9_envoy 65 = .ok (.iaload, 1) := by decide +kernel
theorem dX9_envoy_66 : decode cX9_envoy 66 = .ok (.ireturn, 1) := by decide +kernel
theorem dX9_envoy_67 : decode cX9_envoy 67 = .ok (.aload_n 0, 1) := by decide +kernel
theorem dX9_envoy_68 : decode cX9_envoy 68 = .ok (.getfield 25, 3) := by decide +kernel
theorem dX9_envoy_71 : decode cX9_envoy 71 = .ok (.iconst 2, 1) := by decide +kernel
theorem dX9_envoy_72 : decode cX9_envoy 72 = .ok (.iload_n 1, 1) := by decide +kernel
theorem dX9_envoy_73 : decode cX9_envoy 73 = .ok (.iadd, 1) := by decide +kernel
theorem dX9_envoy_74 : decode cX9_envoy 74 = .ok (.iaload, 1) := by decide +kernel
theorem dX9_envoy_75 : decode cX9_envoy 75 = .ok (.ireturn, 1) := by decide +kernel
theorem dX9_envoy_76 : decode cX9_envoy 76 = .ok (.aload_n 0, 1) := by decide +kernel
theorem dX9_envoy_77 : decode cX9_envoy 77 = .ok (.iload_n 1, 1) := by decide +kernel
theorem dX9_envoy_78 : decode cX9_envoy 78 = .ok (.aload_n 0, 1) := by decide +kernel
theorem dX9_envoy_79 : decode cX9_envoy 79 = .ok (.getfield 25, 3) := by decide +kernel
theorem dX9_envoy_82 : decode cX9_envoy 82 = .ok (.iconst 0, 1) := by decide +kernel
theorem dX9_envoy_83 : decode cX9_envoy 83 = .ok (.iaload, 1) := by decide +kernel
theorem dX9_envoy_84 : decode cX9_envoy 84 = .ok (.invokevirtual 118, 3) := by decide +kernel
theorem dX9_envoy_87 : decode cX9_envoy 87 = .ok (.ireturn, 1) := by decide +kernel
theorem dX9_envoy_88 : decode cX9_envoy 88 = .ok (.aload_n 0, 1) := by decide +kernel
theorem dX9_envoy_89 : decode cX9_envoy 89 = .ok (.getfield 25, 3) := by decide +kernel
theorem dX9_envoy_92 : decode cX9_envoy 92 = .ok (.bipush 7, 2) := by decide +kernel
theorem dX9_envoy_94 : decode cX9_envoy 94 = .ok (.iaload, 1) := by decide +kernel
theorem dX9_envoy_95 : decode cX9_envoy 95 = .ok (.iload_n 1, 1) := by decide +kernel
theorem dX9_envoy_96 : decode cX9_envoy 96 = .ok (.ishr, 1) := by decide +kernel
theorem dX9_envoy_97 : decode cX9_envoy 97 = .ok (.iconst 1, 1) := by decide +kernel
theorem dX9_envoy_98 : decode cX9_envoy 98 = .ok (.iand, 1) := by decide +kernel
theorem dX9_envoy_99 : decode cX9_envoy 99 = .ok (.ireturn, 1) := by decide +kernel
theorem dX9_envoy_100 : decode cX9_envoy 100 = .ok (.bipush (-2), 2) := by decide +kernel
theorem dX9_envoy_102 : decode cX9_envoy 102 = .ok (.ireturn, 1) := by decide +kernel
theorem dX9_clause_0 : decode cX9_clause 0 = .ok (.aload_n 0, 1) := by decide +kernel
theorem dX9_clause_1 : decode cX9_clause 1 = .ok (.iconst 0, 1) := by decide +kernel
theorem dX9_clause_2 : decode cX9_clause 2 = .ok (.putfield 53, 3) := by decide +kernel
theorem dX9_clause_5 : decode cX9_clause 5 = .ok (.aload_n 0, 1) := by decide +kernel
theorem dX9_clause_6 : decode cX9_clause 6 = .ok (.iload_n 1, 1) := by decide +kernel
theorem dX9_clause_7 : decode cX9_clause 7 = .ok (.invokevirtual 132, 3) := by decide +kernel
theorem dX9_clause_10 : decode cX9_clause 10 = .ok (.ifCond .eq 5, 3) := by decide +kernel
theorem dX9_clause_13 : decode cX9_clause 13 = .ok (.iconst (-1), 1) := by decide +kernel
theorem dX9_clause_14 : decode cX9_clause 14 = .ok (.ireturn, 1) := by decide +kernel
theorem dX9_clause_15 : decode cX9_clause 15 = .ok (.iload_n 2, 1) := by decide +kernel
theorem dX9_clause_16 : decode cX9_clause 16 = .ok (.i2l, 1) := by decide +kernel
theorem dX9_clause_17 : decode cX9_clause 17 = .ok (.lconst 0, 1) := by decide +kernel
theorem dX9_clause_18 : decode cX9_clause 18 = .ok (.ldc2_w 135, 3) := by decide +kernel
theorem dX9_clause_21 : decode cX9_clause 21 = .ok (.invokestatic 60, 3) := by decide +kernel
theorem dX9_clause_24 : decode cX9_clause 24 = .ok (.ifCond .eq 16, 3) := by decide +kernel
theorem dX9_clause_27 : decode cX9_clause 27 = .ok (.aload_n 0, 1) := by decide +kernel
theorem dX9_clause_28 : decode cX9_clause 28 = .ok (.getfield 16, 3) := by decide +kernel
theorem dX9_clause_31 : decode cX9_clause 31 = .ok (.iconst 3, 1) := by decide +kernel
theorem dX9_clause_32 : decode cX9_clause 32 = .ok (.iload_n 1, 1) := by decide +kernel
theorem dX9_clause_33 : decode cX9_clause 33 = .ok (.imul, 1) := by decide +kernel
theorem dX9_clause_34 : decode cX9_clause 34 = .ok (.iload_n 2, 1) := by decide +kernel
theorem dX9_clause_35 : decode cX9_clause 35 = .ok (.iadd, 1) := by decide +kernel
theorem dX9_clause_36 : decode cX9_clause 36 = .ok (.iaload, 1) := by decide +kernel
theorem dX9_clause_37 : decode cX9_clause 37 = .ok (.goto 18, 3) := by decide +kernel
theorem dX9_clause_40 : decode cX9_clause 40 = .ok (.iload_n 2, 1) := by decide +kernel
theorem dX9_clause_41 : decode cX9_clause 41 = .ok (.iconst 3, 1) := by decide +kernel
theorem dX9_clause_42 : decode cX9_clause 42 = .ok (.if_icmp .ne 11, 3) := by decide +kernel
theorem dX9_clause_45 : decode cX9_clause 45 = .ok (.aload_n 0, 1) := by decide +kernel
theorem dX9_clause_46 : decode cX9_clause 46 = .ok (.iload_n 1, 1) := by decide +kernel
theorem dX9_clause_47 : decode cX9_clause 47 = .ok (.invokevirtual 137, 3) := by decide +kernel
theorem dX9_clause_50 : decode cX9_clause 50 = .ok (.goto 5, 3) := by decide +kernel
theorem dX9_clause_53 : decode cX9_clause 53 = .ok (.bipush (-2), 2) := by decide +kernel
theorem dX9_clause_55 : decode cX9_clause 55 = .ok (.ireturn, 1) := by decide +kernel
theorem dX9_note_0 : decode cX9_note 0 = .ok (.aload_n 0, 1) := by decide +kernel
theorem dX9_note_1 : decode cX9_note 1 = .ok (.getfield 103, 3) := by decide +kernel
theorem dX9_note_4 : decode cX9_note 4 = .ok (.bipush 14, 2) := by decide +kernel
theorem dX9_note_6 : decode cX9_note 6 = .ok (.if_icmp .ne 43, 3) := by decide +kernel
theorem dX9_note_9 : decode cX9_note 9 = .ok (.iconst 0, 1) := by decide +kernel
theorem dX9_note_10 : decode cX9_note 10 = .ok (.istore_n 1, 1) := by decide +kernel
theorem dX9_note_11 : decode cX9_note 11 = .ok (.iload_n 1, 1) := by decide +kernel
theorem dX9_note_12 : decode cX9_note 12 = .ok (.sipush 130, 3) := by decide +kernel
theorem dX9_note_15 : decode cX9_note 15 = .ok (.if_icmp .ge 24, 3) := by decide +kernel
theorem dX9_note_18 : decode cX9_note 18 = .ok (.aload_n 0, 1) := by decide +kernel
theorem dX9_note_19 : decode cX9_note 19 = .ok (.getfield 31, 3) := by decide +kernel
theorem dX9_note_22 : decode cX9_note 22 = .ok (.iload_n 1, 1) := by decide +kernel
theorem dX9_note_23 : decode cX9_note 23 = .ok (.aload_n 0, 1) := by decide +kernel
theorem dX9_note_24 : decode cX9_note 24 = .ok (.getfield 31, 3) := by decide +kernel
theorem dX9_note_27 : decode cX9_note 27 = .ok (.iload_n 1, 1) := by decide +kernel
theorem dX9_note_28 : decode cX9_note 28 = .ok (.bipush 10, 2) := by decide +kernel
theorem dX9_note_30 : decode cX9_note 30 = .ok (.iadd, 1) := by decide +kernel
theorem dX9_note_31 : decode cX9_note 31 = .ok (.iaload, 1) := by decide +kernel
theorem dX9_note_32 : decode cX9_note 32 = .ok (.iastore, 1) := by decide +kernel
theorem dX9_note_33 : decode cX9_note 33 = .ok (.iinc 1 1, 3) := by decide +kernel
theorem dX9_note_36 : decode cX9_note 36 = .ok (.goto (-25), 3) := by decide +kernel
theorem dX9_note_39 : decode cX9_note 39 = .ok (.aload_n 0, 1) := by decide +kernel
theorem dX9_note_40 : decode cX9_note 40 = .ok (.dup, 1) := by decide +kernel
theorem dX9_note_41 : decode cX9_note 41 = .ok (.getfield 103, 3) := by decide +kernel
theorem dX9_note_44 : decode cX9_note 44 = .ok (.iconst 1, 1) := by decide +kernel
theorem dX9_note_45 : decode cX9_note 45 = .ok (.isub, 1) := by decide +kernel
theorem dX9_note_46 : decode cX9_note 46 = .ok (.putfield 103, 3) := by decide +kernel
theorem dX9_note_49 : decode cX9_note 49 = .ok (.iconst 0, 1) := by decide +kernel
theorem dX9_note_50 : decode cX9_note 50 = .ok (.istore_n 1, 1) := by decide +kernel
theorem dX9_note_51 : decode cX9_note 51 = .ok (.iload_n 1, 1) := by decide +kernel
theorem dX9_note_52 : decode cX9_note 52 = .ok (.bipush 10, 2) := by decide +kernel
theorem dX9_note_54 : decode cX9_note 54 = .ok (.if_icmp .ge 29, 3) := by decide +kernel
theorem dX9_note_57 : decode cX9_note 57 = .ok (.aload_n 0, 1) := by decide +kernel
theorem dX9_note_58 : decode cX9_note 58 = .ok (.getfield 31, 3) := by decide +kernel
theorem dX9_note_61 : decode cX9_note 61 = .ok (.bipush 10, 2) := by decide +kernel
theorem dX9_note_63 : decode cX9_note 63 = .ok (.aload_n 0, 1) := by decide +kernel
theorem dX9_note_64 : decode cX9_note 64 = .ok (.getfield 103, 3) := by decide +kernel
theorem dX9_note_67 : decode cX9_note 67 = .ok (.imul, 1) := by decide +kernel
theorem dX9_note_68 : decode cX9_note 68 = .ok (.iload_n 1, 1) := by decide +kernel
theorem dX9_note_69 : decode cX9_note 69 = .ok (.iadd, 1) := by decide +kernel
theorem dX9_note_70 : decode cX9_note 70 = .ok (.aload_n 0, 1) := by decide +kernel
theorem dX9_note_71 : decode cX9_note 71 = .ok (.getfield 25, 3) := by decide +kernel
theorem dX9_note_74 : decode cX9_note 74 = .ok (.iload_n 1, 1) := by decide +kernel
theorem dX9_note_75 : decode cX9_note 75 = .ok (.iaload, 1) := by decide +kernel
theorem dX9_note_76 : decode cX9_note 76 = .ok (.iastore, 1) := by decide +kernel
theorem dX9_note_77 : decode cX9_note 77 = .ok (.iinc 1 1, 3) := by decide +kernel
theorem dX9_note_80 : decode cX9_note 80 = .ok (.goto (-29), 3) := by decide +kernel
theorem dX9_note_83 : decode cX9_note 83 = .ok (.aload_n 0, 1) := by decide +kernel
theorem dX9_note_84 : decode cX9_note 84 = .ok (.dup, 1) := by decide +kernel
theorem dX9_note_85 : decode cX9_note 85 = .ok (.getfield 103, 3) := by decide +kernel
theorem dX9_note_88 : decode cX9_note 88 = .ok (.iconst 1, 1) := by decide +kernel
theorem dX9_note_89 : decode cX9_note 89 = .ok (.iadd, 1) := by decide +kernel
theorem dX9_note_90 : decode cX9_note 90 = .ok (.putfield 103, 3) := by decide +kernel
theorem dX9_note_93 : decode cX9_note 93 = .ok (.return_, 1) := by decide +kernel
theorem dX9_bite_0 : decode cX9_bite 0 = .ok (.aload_n 0, 1) := by decide +kernel
theorem dX9_bite_1 : decode cX9_bite 1 = .ok (.iconst 0, 1) := by decide +kernel
theorem dX9_bite_2 : decode cX9_bite 2 = .ok (.putfield 53, 3) := by decide +kernel
theorem dX9_bite_5 : decode cX9_bite 5 = .ok (.aload_n 0, 1) := by decide +kernel
theorem dX9_bite_6 : decode cX9_bite 6 = .ok (.getfield 25, 3) := by decide +kernel
theorem dX9_bite_9 : decode cX9_bite 9 = .ok (.bipush 6, 2) := by decide +kernel
theorem dX9_bite_11 : decode cX9_bite 11 = .ok (.iaload, 1) := by decide +kernel
theorem dX9_bite_12 : decode cX9_bite 12 = .ok (.ifCond .ne 6, 3) := by decide +kernel
theorem dX9_bite_15 : decode cX9_bite 15 = .ok (.bipush (-3), 2) := by decide +kernel
theorem dX9_bite_17 : decode cX9_bite 17 = .ok (.ireturn, 1) := by decide +kernel
theorem dX9_bite_18 : decode cX9_bite 18 = .ok (.aload_n 0, 1) := by decide +kernel
theorem dX9_bite_19 : decode cX9_bite 19 = .ok (.invokevirtual 141, 3) := by decide +kernel
theorem dX9_bite_22 : decode cX9_bite 22 = .ok (.aload_n 0, 1) := by decide +kernel
theorem dX9_bite_23 : decode cX9_bite 23 = .ok (.aload_n 0, 1) := by decide +kernel
theorem dX9_bite_24 : decode cX9_bite 24 = .ok (.getfield 25, 3) := by decide +kernel
theorem dX9_bite_27 : decode cX9_bite 27 = .ok (.invokevirtual 144, 3) := by decide +kernel
theorem dX9_bite_30 : decode cX9_bite 30 = .ok (.aload_n 0, 1) := by decide +kernel
theorem dX9_bite_31 : decode cX9_bite 31 = .ok (.getfield 25, 3) := by decide +kernel
theorem dX9_bite_34 : decode cX9_bite 34 = .ok (.bipush 6, 2) := by decide +kernel
theorem dX9_bite_36 : decode cX9_bite 36 = .ok (.iaload, 1) := by decide +kernel
theorem dX9_bite_37 : decode cX9_bite 37 = .ok (.ireturn, 1) := by decide +kernel
theorem dX9_say_0 : decode cX9_say 0 = .ok (.aload_n 0, 1) := by decide +kernel
theorem dX9_say_1 : decode cX9_say 1 = .ok (.iconst 0, 1) := by decide +kernel
theorem dX9_say_2 : decode cX9_say 2 = .ok (.putfield 53, 3) := by decide +kernel
theorem dX9_say_5 : decode cX9_say 5 = .ok (.aload_n 0, 1) := by decide +kernel
theorem dX9_say_6 : decode cX9_say 6 = .ok (.iload_n 1, 1) := by decide +kernel
theorem dX9_say_7 : decode cX9_say 7 = .ok (.invokevirtual 132, 3) := by decide +kernel
theorem dX9_say_10 : decode cX9_say 10 = .ok (.ifCond .eq 5, 3) := by decide +kernel
theorem dX9_say_13 : decode cX9_say 13 = .ok (.iconst (-1), 1) := by decide +kernel
theorem dX9_say_14 : decode cX9_say 14 = .ok (.ireturn, 1) := by decide +kernel
theorem dX9_say_15 : decode cX9_say 15 = .ok (.aload_n 0, 1) := by decide +kernel
theorem dX9_say_16 : decode cX9_say 16 = .ok (.aload_n 0, 1) := by decide +kernel
theorem dX9_say_17 : decode cX9_say 17 = .ok (.getfield 25, 3) := by decide +kernel
theorem dX9_say_20 : decode cX9_say 20 = .ok (.iload_n 1, 1) := by decide +kernel
theorem dX9_say_21 : decode cX9_say 21 = .ok (.invokevirtual 114, 3) := by decide +kernel
theorem dX9_say_24 : decode cX9_say 24 = .ok (.ifCond .ne 6, 3) := by decide +kernel
theorem dX9_say_27 : decode cX9_say 27 = .ok (.bipush (-3), 2) := by decide +kernel
theorem dX9_say_29 : decode cX9_say 29 = .ok (.ireturn, 1) := by decide +kernel
theorem dX9_say_30 : decode cX9_say 30 = .ok (.aload_n 0, 1) := by decide +kernel
theorem dX9_say_31 : decode cX9_say 31 = .ok (.invokevirtual 141, 3) := by decide +kernel
theorem dX9_say_34 : decode cX9_say 34 = .ok (.aload_n 0, 1) := by decide +kernel
theorem dX9_say_35 : decode cX9_say 35 = .ok (.getfield 25, 3) := by decide +kernel
theorem dX9_say_38 : decode cX9_say 38 = .ok (.bipush 8, 2) := by decide +kernel
theorem dX9_say_40 : decode cX9_say 40 = .ok (.dup2, 1) := by decide +kernel
theorem dX9_say_41 : decode cX9_say 41 = .ok (.iaload, 1) := by decide +kernel
theorem dX9_say_42 : decode cX9_say 42 = .ok (.iconst 1, 1) := by decide +kernel
theorem dX9_say_43 : decode cX9_say 43 = .ok (.iload_n 1, 1) := by decide +kernel
theorem dX9_say_44 : decode cX9_say 44 = .ok (.ishl, 1) := by decide +kernel
theorem dX9_say_45 : decode cX9_say 45 = .ok (.ior, 1) := by decide +kernel
theorem dX9_say_46 : decode cX9_say 46 = .ok (.iastore, 1) := by decide +kernel
theorem dX9_say_47 : decode cX9_say 47 = .ok (.aload_n 0, 1) := by decide +kernel
theorem dX9_say_48 : decode cX9_say 48 = .ok (.getfield 25, 3) := by decide +kernel
theorem dX9_say_51 : decode cX9_say 51 = .ok (.bipush 8, 2) := by decide +kernel
theorem dX9_say_53 : decode cX9_say 53 = .ok (.iaload, 1) := by decide +kernel
theorem dX9_say_54 : decode cX9_say 54 = .ok (.ireturn, 1) := by decide +kernel
theorem dX9_spice_0 : decode cX9_spice 0 = .ok (.aload_n 0, 1) := by decide +kernel
theorem dX9_spice_1 : decode cX9_spice 1 = .ok (.iconst 0, 1) := by decide +kernel
theorem dX9_spice_2 : decode cX9_spice 2 = .ok (.putfield 53, 3) := by decide +kernel
theorem dX9_spice_5 : decode cX9_spice 5 = .ok (.aload_n 0, 1) := by decide +kernel
theorem dX9_spice_6 : decode cX9_spice 6 = .ok (.getfield 25, 3) := by decide +kernel
theorem dX9_spice_9 : decode cX9_spice 9 = .ok (.iconst 1, 1) := by decide +kernel
theorem dX9_spice_10 : decode cX9_spice 10 = .ok (.iaload, 1) := by decide +kernel
theorem dX9_spice_11 : decode cX9_spice 11 = .ok (.ifCond .ne 6, 3) := by decide +kernel
theorem dX9_spice_14 : decode cX9_spice 14 = .ok (.bipush (-3), 2) := by decide +kernel
theorem dX9_spice_16 : decode cX9_spice 16 = .ok (.ireturn, 1) := by decide +kernel
theorem dX9_spice_17 : decode cX9_spice 17 = .ok (.aload_n 0, 1) := by decide +kernel
theorem dX9_spice_18 : decode cX9_spice 18 = .ok (.invokevirtual 141, 3) := by decide +kernel
theorem dX9_spice_21 : decode cX9_spice 21 = .ok (.aload_n 0, 1) := by decide +kernel
theorem dX9_spice_22 : decode cX9_spice 22 = .ok (.getfield 25, 3) := by decide +kernel
theorem dX9_spice_25 : decode cX9_spice 25 = .ok (.invokestatic 148, 3) := by decide +kernel
theorem dX9_spice_28 : decode cX9_spice 28 = .ok (.aload_n 0, 1) := by decide +kernel
theorem dX9_spice_29 : decode cX9_spice 29 = .ok (.getfield 25, 3) := by decide +kernel
theorem dX9_spice_32 : decode cX9_spice 32 = .ok (.iconst 0, 1) := by decide +kernel
theorem dX9_spice_33 : decode cX9_spice 33 = .ok (.iaload, 1) := by decide +kernel
theorem dX9_spice_34 : decode cX9_spice 34 = .ok (.ireturn, 1) := by decide +kernel
theorem dX9_bread_0 : decode cX9_bread 0 = .ok (.aload_n 0, 1) := by decide +kernel
theorem dX9_bread_1 : decode cX9_bread 1 = .ok (.iconst 0, 1) := by decide +kernel
theorem dX9_bread_2 : decode cX9_bread 2 = .ok (.putfield 53, 3) := by decide +kernel
theorem dX9_bread_5 : decode cX9_bread 5 = .ok (.aload_n 0, 1) := by decide +kernel
theorem dX9_bread_6 : decode cX9_bread 6 = .ok (.iload_n 1, 1) := by decide +kernel
theorem dX9_bread_7 : decode cX9_bread 7 = .ok (.invokevirtual 128, 3) := by decide +kernel
theorem dX9_bread_10 : decode cX9_bread 10 = .ok (.ifCond .eq 5, 3) := by decide +kernel
theorem dX9_bread_13 : decode cX9_bread 13 = .ok (.iconst (-1), 1) := by decide +kernel
theorem dX9_bread_14 : decode cX9_bread 14 = .ok (.ireturn, 1) := by decide +kernel
theorem dX9_bread_15 : decode cX9_bread 15 = .ok (.aload_n 0, 1) := by decide +kernel
theorem dX9_bread_16 : decode cX9_bread 16 = .ok (.getfield 25, 3) := by decide +kernel
theorem dX9_bread_19 : decode cX9_bread 19 = .ok (.bipush 6, 2) := by decide +kernel
theorem dX9_bread_21 : decode cX9_bread 21 = .ok (.iaload, 1) := by decide +kernel
theorem dX9_bread_22 : decode cX9_bread 22 = .ok (.iload_n 1, 1) := by decide +kernel
theorem dX9_bread_23 : decode cX9_bread 23 = .ok (.invokestatic 110, 3) := by decide +kernel
theorem dX9_bread_26 : decode cX9_bread 26 = .ok (.ifCond .eq 17, 3) := by decide +kernel
theorem dX9_bread_29 : decode cX9_bread 29 = .ok (.aload_n 0, 1) := by decide +kernel
theorem dX9_bread_30 : decode cX9_bread 30 = .ok (.getfield 25, 3) := by decide +kernel
theorem dX9_bread_33 : decode cX9_bread 33 = .ok (.bipush 7, 2) := by decide +kernel
theorem dX9_bread_35 : decode cX9_bread 35 = .ok (.iaload, 1) := by decide +kernel
theorem dX9_bread_36 : decode cX9_bread 36 = .ok (.iload_n 1, 1) := by decide +kernel
theorem dX9_bread_37 : decode cX9_bread 37 = .ok (.invokestatic 110, 3) := by decide +kernel
theorem dX9_bread_40 : decode cX9_bread 40 = .ok (.ifCond .eq 6, 3) := by decide +kernel
theorem dX9_bread_43 : decode cX9_bread 43 = .ok (.bipush (-3), 2) := by decide +kernel
theorem dX9_bread_45 : decode cX9_bread 45 = .ok (.ireturn, 1) := by decide +kernel
theorem dX9_bread_46 : decode cX9_bread 46 = .ok (.aload_n 0, 1) := by decide +kernel
theorem dX9_bread_47 : decode cX9_bread 47 = .ok (.invokevirtual 141, 3) := by decide +kernel
theorem dX9_bread_50 : decode cX9_bread 50 = .ok (.aload_n 0, 1) := by decide +kernel
theorem dX9_bread_51 : decode cX9_bread 51 = .ok (.getfield 25, 3) := by decide +kernel
theorem dX9_bread_54 : decode cX9_bread 54 = .ok (.iconst 2, 1) := by decide +kernel
theorem dX9_bread_55 : decode cX9_bread 55 = .ok (.iload_n 1, 1) := by decide +kernel
theorem dX9_bread_56 : decode cX9_bread 56 = .ok (.iadd, 1) := by decide +kernel
theorem dX9_bread_57 : decode cX9_bread 57 = .ok (.aload_n 0, 1) := by decide +kernel
theorem dX9_bread_58 : decode cX9_bread 58 = .ok (.getfield 25, 3) := by decide +kernel
theorem dX9_bread_61 : decode cX9_bread 61 = .ok (.iconst 2, 1) := by decide +kernel
theorem dX9_bread_62 : decode cX9_bread 62 = .ok (.iload_n 1, 1) := by decide +kernel
theorem dX9_bread_63 : decode cX9_bread 63 = .ok (.iadd, 1) := by decide +kernel
theorem dX9_bread_64 : decode cX9_bread 64 = .ok (.iaload, 1) := by decide +kernel
theorem dX9_bread_65 : decode cX9_bread 65 = .ok (.iconst 3, 1) := by decide +kernel
theorem dX9_bread_66 : decode cX9_bread 66 = .ok (.if_icmp .ge 7, 3) := by decide +kernel
theorem dX9_bread_69 : decode cX9_bread 69 = .ok (.iconst 0, 1) := by decide +kernel
theorem dX9_bread_70 : decode cX9_bread 70 = .ok (.goto 13, 3) := by decide +kernel
theorem dX9_bread_73 : decode cX9_bread 73 = .ok (.aload_n 0, 1) := by decide +kernel
theorem dX9_bread_74 : decode cX9_bread 74 = .ok (.getfield 25, 3) := by decide +kernel
theorem dX9_bread_77 : decode cX9_bread 77 = .ok (.iconst 2, 1) := by decide +kernel
theorem dX9_bread_78 : decode cX9_bread 78 = .ok (.iload_n 1, 1) := by decide +kernel
theorem dX9_bread_79 : decode cX9_bread 79 = .ok (.iadd, 1) := by decide +kernel
theorem dX9_bread_80 : decode cX9_bread 80 = .ok (.iaload, 1) := by decide +kernel
theorem dX9_bread_81 : decode cX9_bread 81 = .ok (.iconst 3, 1) := by decide +kernel
theorem dX9_bread_82 : decode cX9_bread 82 = .ok (.isub, 1) := by decide +kernel
theorem dX9_bread_83 : decode cX9_bread 83 = .ok (.iastore, 1) := by decide +kernel
theorem dX9_bread_84 : decode cX9_bread 84 = .ok (.aload_n 0, 1) := by decide +kernel
theorem dX9_bread_85 : decode cX9_bread 85 = .ok (.getfield 25, 3) := by decide +kernel
theorem dX9_bread_88 : decode cX9_bread 88 = .ok (.bipush 7, 2) := by decide +kernel
theorem dX9_bread_90 : decode cX9_bread 90 = .ok (.dup2, 1) := by decide +kernel
theorem dX9_bread_91 : decode cX9_bread 91 = .ok (.iaload, 1) := by decide +kernel
theorem dX9_bread_92 : decode cX9_bread 92 = .ok (.iconst 1, 1) := by decide +kernel
theorem dX9_bread_93 : decode cX9_bread 93 = .ok (.iload_n 1, 1) := by decide +kernel
theorem dX9_bread_94 : decode cX9_bread 94 = .ok (.ishl, 1) := by decide +kernel
theorem dX9_bread_95 : decode cX9_bread 95 = .ok (.ior, 1) := by decide +kernel
theorem dX9_bread_96 : decode cX9_bread 96 = .ok (.iastore, 1) := by decide +kernel
theorem dX9_bread_97 : decode cX9_bread 97 = .ok (.aload_n 0, 1) := by decide +kernel
theorem dX9_bread_98 : decode cX9_bread 98 = .ok (.getfield 25, 3) := by decide +kernel
theorem dX9_bread_101 : decode cX9_bread 101 = .ok (.iconst 2, 1) := by decide +kernel
theorem dX9_bread_102 : decode cX9_bread 102 = .ok (.iload_n 1, 1) := by decide +kernel
theorem dX9_bread_103 : decode cX9_bread 103 = .ok (.iadd, 1) := by decide +kernel
theorem dX9_bread_104 : decode cX9_bread 104 = .ok (.iaload, 1) := by decide +kernel
theorem dX9_bread_105 : decode cX9_bread 105 = .ok (.ireturn, 1) := by decide +kernel
theorem dX9_undo_0 : decode cX9_undo 0 = .ok (.aload_n 0, 1) := by decide +kernel
theorem dX9_undo_1 : decode cX9_undo 1 = .ok (.iconst 0, 1) := by decide +kernel
theorem dX9_undo_2 : decode cX9_undo 2 = .ok (.putfield 53, 3) := by decide +kernel
theorem dX9_undo_5 : decode cX9_undo 5 = .ok (.aload_n 0, 1) := by decide +kernel
theorem dX9_undo_6 : decode cX9_undo 6 = .ok (.getfield 103, 3) := by decide +kernel
theorem dX9_undo_9 : decode cX9_undo 9 = .ok (.ifCond .ne 6, 3) := by decide +kernel
theorem dX9_undo_12 : decode cX9_undo 12 = .ok (.bipush (-3), 2) := by decide +kernel
theorem dX9_undo_14 : decode cX9_undo 14 = .ok (.ireturn, 1) := by decide +kernel
theorem dX9_undo_15 : decode cX9_undo 15 = .ok (.aload_n 0, 1) := by decide +kernel
theorem dX9_undo_16 : decode cX9_undo 16 = .ok (.dup, 1) := by decide +kernel
theorem dX9_undo_17 : decode cX9_undo 17 = .ok (.getfield 103, 3) := by decide +kernel
theorem dX9_undo_20 : decode cX9_undo 20 = .ok (.iconst 1, 1) := by decide +kernel
theorem dX9_undo_21 : decode cX9_undo 21 = .ok (.isub, 1) := by decide +kernel
theorem dX9_undo_22 : decode cX9_undo 22 = .ok (.putfield 103, 3) := by decide +kernel
theorem dX9_undo_25 : decode cX9_undo 25 = .ok (.iconst 0, 1) := by decide +kernel
theorem dX9_undo_26 : decode cX9_undo 26 = .ok (.istore_n 1, 1) := by decide +kernel
theorem dX9_undo_27 : decode cX9_undo 27 = .ok (.iload_n 1, 1) := by decide +kernel
theorem dX9_undo_28 : decode cX9_undo 28 = .ok (.bipush 10, 2) := by decide +kernel
theorem dX9_undo_30 : decode cX9_undo 30 = .ok (.if_icmp .ge 29, 3) := by decide +kernel
theorem dX9_undo_33 : decode cX9_undo 33 = .ok (.aload_n 0, 1) := by decide +kernel
theorem dX9_undo_34 : decode cX9_undo 34 = .ok (.getfield 25, 3) := by decide +kernel
theorem dX9_undo_37 : decode cX9_undo 37 = .ok (.iload_n 1, 1) := by decide +kernel
theorem dX9_undo_38 : decode cX9_undo 38 = .ok (.aload_n 0, 1) := by decide +kernel
theorem dX9_undo_39 : decode cX9_undo 39 = .ok (.getfield 31, 3) := by decide +kernel
theorem dX9_undo_42 : decode cX9_undo 42 = .ok (.bipush 10, 2) := by decide +kernel
theorem dX9_undo_44 : decode cX9_undo 44 = .ok (.aload_n 0, 1) := by decide +kernel
theorem dX9_undo_45 : decode cX9_undo 45 = .ok (.getfield 103, 3) := by decide +kernel
theorem dX9_undo_48 : decode cX9_undo 48 = .ok (.imul, 1) := by decide +kernel
theorem dX9_undo_49 : decode cX9_undo 49 = .ok (.iload_n 1, 1) := by decide +kernel
theorem dX9_undo_50 : decode cX9_undo 50 = .ok (.iadd, 1) := by decide +kernel
theorem dX9_undo_51 : decode cX9_undo 51 = .ok (.iaload, 1) := by decide +kernel
theorem dX9_undo_52 : decode cX9_undo 52 = .ok (.iastore, 1) := by decide +kernel
theorem dX9_undo_53 : decode cX9_undo 53 = .ok (.iinc 1 1, 3) := by decide +kernel
theorem dX9_undo_56 : decode cX9_undo 56 = .ok (.goto (-29), 3) := by decide +kernel
theorem dX9_undo_59 : decode cX9_undo 59 = .ok (.aload_n 0, 1) := by decide +kernel
theorem dX9_undo_60 : decode cX9_undo 60 = .ok (.getfield 103, 3) := by decide +kernel
theorem dX9_undo_63 : decode cX9_undo 63 = .ok (.ireturn, 1) := by decide +kernel
theorem dX9_begin_0 : decode cX9_begin 0 = .ok (.iconst 0, 1) := by decide +kernel
theorem dX9_begin_1 : decode cX9_begin 1 = .ok (.istore_n 1, 1) := by decide +kernel
theorem dX9_begin_2 : decode cX9_begin 2 = .ok (.iload_n 1, 1) := by decide +kernel
theorem dX9_begin_3 : decode cX9_begin 3 = .ok (.bipush 10, 2) := by decide +kernel
theorem dX9_begin_5 : decode cX9_begin 5 = .ok (.if_icmp .ge 21, 3) := by decide +kernel
theorem dX9_begin_8 : decode cX9_begin 8 = .ok (.aload_n 0, 1) := by decide +kernel
theorem dX9_begin_9 : decode cX9_begin 9 = .ok (.getfield 28, 3) := by decide +kernel
theorem dX9_begin_12 : decode cX9_begin 12 = .ok (.iload_n 1, 1) := by decide +kernel
theorem dX9_begin_13 : decode cX9_begin 13 = .ok (.aload_n 0, 1) := by decide +kernel
theorem dX9_begin_14 : decode cX9_begin 14 = .ok (.getfield 25, 3) := by decide +kernel
theorem dX9_begin_17 : decode cX9_begin 17 = .ok (.iload_n 1, 1) := by decide +kernel
theorem dX9_begin_18 : decode cX9_begin 18 = .ok (.iaload, 1) := by decide +kernel
theorem dX9_begin_19 : decode cX9_begin 19 = .ok (.iastore, 1) := by decide +kernel
theorem dX9_begin_20 : decode cX9_begin 20 = .ok (.iinc 1 1, 3) := by decide +kernel
theorem dX9_begin_23 : decode cX9_begin 23 = .ok (.goto (-21), 3) := by decide +kernel
theorem dX9_begin_26 : decode cX9_begin 26 = .ok (.return_, 1) := by decide +kernel
theorem dX9_till_0 : decode cX9_till 0 = .ok (.aload_n 0, 1) := by decide +kernel
theorem dX9_till_1 : decode cX9_till 1 = .ok (.invokevirtual 151, 3) := by decide +kernel
theorem dX9_till_4 : decode cX9_till 4 = .ok (.iconst 0, 1) := by decide +kernel
theorem dX9_till_5 : decode cX9_till 5 = .ok (.istore_n 2, 1) := by decide +kernel
theorem dX9_till_6 : decode cX9_till 6 = .ok (.iload_n 2, 1) := by decide +kernel
theorem dX9_till_7 : decode cX9_till 7 = .ok (.bipush 60, 2) := by decide +kernel
theorem dX9_till_9 : decode cX9_till 9 = .ok (.if_icmp .ge 29, 3) := by decide +kernel
theorem dX9_till_12 : decode cX9_till 12 = .ok (.aload_n 0, 1) := by decide +kernel
theorem dX9_till_13 : decode cX9_till 13 = .ok (.getfield 28, 3) := by decide +kernel
theorem dX9_till_16 : decode cX9_till 16 = .ok (.bipush 6, 2) := by decide +kernel
theorem dX9_till_18 : decode cX9_till 18 = .ok (.iaload, 1) := by decide +kernel
theorem dX9_till_19 : decode cX9_till 19 = .ok (.iload_n 1, 1) := by decide +kernel
theorem dX9_till_20 : decode cX9_till 20 = .ok (.iand, 1) := by decide +kernel
theorem dX9_till_21 : decode cX9_till 21 = .ok (.ifCond .eq 17, 3) := by decide +kernel
theorem dX9_till_24 : decode cX9_till 24 = .ok (.aload_n 0, 1) := by decide +kernel
theorem dX9_till_25 : decode cX9_till 25 = .ok (.aload_n 0, 1) := by decide +kernel
theorem dX9_till_26 : decode cX9_till 26 = .ok (.getfield 28, 3) := by decide +kernel
theorem dX9_till_29 : decode cX9_till 29 = .ok (.invokevirtual 144, 3) := by decide +kernel
theorem dX9_till_32 : decode cX9_till 32 = .ok (.iinc 2 1, 3) := by decide +kernel
theorem dX9_till_35 : decode cX9_till 35 = .ok (.goto (-29), 3) := by decide +kernel
theorem dX9_till_38 : decode cX9_till 38 = .ok (.aload_n 0, 1) := by decide +kernel
theorem dX9_till_39 : decode cX9_till 39 = .ok (.getfield 28, 3) := by decide +kernel
theorem dX9_till_42 : decode cX9_till 42 = .ok (.bipush 6, 2) := by decide +kernel
theorem dX9_till_44 : decode cX9_till 44 = .ok (.iaload, 1) := by decide +kernel
theorem dX9_till_45 : decode cX9_till 45 = .ok (.iload_n 1, 1) := by decide +kernel
theorem dX9_till_46 : decode cX9_till 46 = .ok (.iand, 1) := by decide +kernel
theorem dX9_till_47 : decode cX9_till 47 = .ok (.ifCond .eq 8, 3) := by decide +kernel
theorem dX9_till_50 : decode cX9_till 50 = .ok (.bipush (-9), 2) := by decide +kernel
theorem dX9_till_52 : decode cX9_till 52 = .ok (.goto 4, 3) := by decide +kernel
theorem dX9_till_55 : decode cX9_till 55 = .ok (.iload_n 2, 1) := by decide +kernel
theorem dX9_till_56 : decode cX9_till 56 = .ok (.ireturn, 1) := by decide +kernel
theorem dX9_lasts_0 : decode cX9_lasts 0 = .ok (.aload_n 0, 1) := by decide +kernel
theorem dX9_lasts_1 : decode cX9_lasts 1 = .ok (.iconst 0, 1) := by decide +kernel
theorem dX9_lasts_2 : decode cX9_lasts 2 = .ok (.putfield 53, 3) := by decide +kernel
theorem dX9_lasts_5 : decode cX9_lasts 5 = .ok (.aload_n 0, 1) := by decide +kernel
theorem dX9_lasts_6 : decode cX9_lasts 6 = .ok (.bipush 15, 2) := by decide +kernel
theorem dX9_lasts_8 : decode cX9_lasts 8 = .ok (.invokevirtual 154, 3) := by decide +kernel
theorem dX9_lasts_11 : decode cX9_lasts 11 = .ok (.ireturn, 1) := by decide +kernel
theorem dX9_bears_0 : decode cX9_bears 0 = .ok (.aload_n 0, 1) := by decide +kernel
theorem dX9_bears_1 : decode cX9_bears 1 = .ok (.iconst 0, 1) := by decide +kernel
theorem dX9_bears_2 : decode cX9_bears 2 = .ok (.putfield 53, 3) := by decide +kernel
theorem dX9_bears_5 : decode cX9_bears 5 = .ok (.aload_n 0, 1) := by decide +kernel
theorem dX9_bears_6 : decode cX9_bears 6 = .ok (.iload_n 1, 1) := by decide +kernel
theorem dX9_bears_7 : decode cX9_bears 7 = .ok (.invokevirtual 128, 3) := by decide +kernel
theorem dX9_bears_10 : decode cX9_bears 10 = .ok (.ifCond .eq 5, 3) := by decide +kernel
theorem dX9_bears_13 : decode cX9_bears 13 = .ok (.iconst (-1), 1) := by decide +kernel
theorem dX9_bears_14 : decode cX9_bears 14 = .ok (.ireturn, 1) := by decide +kernel
theorem dX9_bears_15 : decode cX9_bears 15 = .ok (.aload_n 0, 1) := by decide +kernel
theorem dX9_bears_16 : decode cX9_bears 16 = .ok (.getfield 25, 3) := by decide +kernel
theorem dX9_bears_19 : decode cX9_bears 19 = .ok (.bipush 6, 2) := by decide +kernel
theorem dX9_bears_21 : decode cX9_bears 21 = .ok (.iaload, 1) := by decide +kernel
theorem dX9_bears_22 : decode cX9_bears 22 = .ok (.iload_n 1, 1) := by decide +kernel
theorem dX9_bears_23 : decode cX9_bears 23 = .ok (.invokestatic 110, 3) := by decide +kernel
theorem dX9_bears_26 : decode cX9_bears 26 = .ok (.ifCond .eq 13, 3) := by decide +kernel
theorem dX9_bears_29 : decode cX9_bears 29 = .ok (.aload_n 0, 1) := by decide +kernel
theorem dX9_bears_30 : decode cX9_bears 30 = .ok (.iconst 1, 1) := by decide +kernel
theorem dX9_bears_31 : decode cX9_bears 31 = .ok (.iload_n 1, 1) := by decide +kernel
theorem dX9_bears_32 : decode cX9_bears 32 = .ok (.ishl, 1) := by decide +kernel
theorem dX9_bears_33 : decode cX9_bears 33 = .ok (.invokevirtual 154, 3) := by decide +kernel
theorem dX9_bears_36 : decode cX9_bears 36 = .ok (.goto 5, 3) := by decide +kernel
theorem dX9_bears_39 : decode cX9_bears 39 = .ok (.bipush (-3), 2) := by decide +kernel
theorem dX9_bears_41 : decode cX9_bears 41 = .ok (.ireturn, 1) := by decide +kernel
theorem dX9_power_0 : decode cX9_power 0 = .ok (.iconst 1, 1) := by decide +kernel
theorem dX9_power_1 : decode cX9_power 1 = .ok (.istore_n 2, 1) := by decide +kernel
theorem dX9_power_2 : decode cX9_power 2 = .ok (.iconst 0, 1) := by decide +kernel
theorem dX9_power_3 : decode cX9_power 3 = .ok (.istore_n 3, 1) := by decide +kernel
theorem dX9_power_4 : decode cX9_power 4 = .ok (.iload_n 3, 1) := by decide +kernel
theorem dX9_power_5 : decode cX9_power 5 = .ok (.iload_n 1, 1) := by decide +kernel
theorem dX9_power_6 : decode cX9_power 6 = .ok (.if_icmp .ge 13, 3) := by decide +kernel
theorem dX9_power_9 : decode cX9_power 9 = .ok (.iload_n 2, 1) := by decide +kernel
theorem dX9_power_10 : decode cX9_power 10 = .ok (.iload_n 0, 1) := by decide +kernel
theorem dX9_power_11 : decode cX9_power 11 = .ok (.imul, 1) := by decide +kernel
theorem dX9_power_12 : decode cX9_power 12 = .ok (.istore_n 2, 1) := by decide +kernel
theorem dX9_power_13 : decode cX9_power 13 = .ok (.iinc 3 1, 3) := by decide +kernel
theorem dX9_power_16 : decode cX9_power 16 = .ok (.goto (-12), 3) := by decide +kernel
theorem dX9_power_19 : decode cX9_power 19 = .ok (.iload_n 2, 1) := by decide +kernel
theorem dX9_power_20 : decode cX9_power 20 = .ok (.ireturn, 1) := by decide +kernel
theorem dX9_findBest_0 : decode cX9_findBest 0 = .ok (.aload_n 0, 1) := by decide +kernel
theorem dX9_findBest_1 : decode cX9_findBest 1 = .ok (.bipush (-9), 2) := by decide +kernel
theorem dX9_findBest_3 : decode cX9_findBest 3 = .ok (.putfield 157, 3) := by decide +kernel
theorem dX9_findBest_6 : decode cX9_findBest 6 = .ok (.aload_n 0, 1) := by decide +kernel
theorem dX9_findBest_7 : decode cX9_findBest 7 = .ok (.bipush (-9), 2) := by decide +kernel
theorem dX9_findBest_9 : decode cX9_findBest 9 = .ok (.putfield 160, 3) := by decide +kernel
theorem dX9_findBest_12 : decode cX9_findBest 12 = .ok (.iconst 0, 1) := by decide +kernel
theorem dX9_findBest_13 : decode cX9_findBest 13 = .ok (.istore_n 3, 1) := by decide +kernel
theorem dX9_findBest_14 : decode cX9_findBest 14 = .ok (.iload_n 3, 1) := by decide +kernel
theorem dX9_findBest_15 : decode cX9_findBest 15 = .ok (.iconst 1, 1) := by decide +kernel
theorem dX9_findBest_16 : decode cX9_findBest 16 = .ok (.aload_n 0, 1) := by decide +kernel
theorem dX9_findBest_17 : decode cX9_findBest 17 = .ok (.getfield 64, 3) := by decide +kernel
theorem dX9_findBest_20 : decode cX9_findBest 20 = .ok (.iadd, 1) := by decide +kernel
theorem dX9_findBest_21 : decode cX9_findBest 21 = .ok (.iload_n 1, 1) := by decide +kernel
theorem dX9_findBest_22 : decode cX9_findBest 22 = .ok (.invokestatic 163, 3) := by decide +kernel
theorem dX9_findBest_25 : decode cX9_findBest 25 = .ok (.if_icmp .ge 186, 3) := by decide +kernel
theorem dX9_findBest_28 : decode cX9_findBest 28 = .ok (.aload_n 0, 1) := by decide +kernel
theorem dX9_findBest_29 : decode cX9_findBest 29 = .ok (.invokevirtual 151, 3) := by decide +kernel
theorem dX9_findBest_32 : decode cX9_findBest 32 = .ok (.iconst 1, 1) := by decide +kernel
theorem dX9_findBest_33 : decode cX9_findBest 33 = .ok (.istore 4, 2) := by decide +kernel
theorem dX9_findBest_35 : decode cX9_findBest 35 = .ok (.iconst 0, 1) := by decide +kernel
theorem dX9_findBest_36 : decode cX9_findBest 36 = .ok (.istore 5, 2) := by decide +kernel
theorem dX9_findBest_38 : decode cX9_findBest 38 = .ok (.iconst 1, 1) := by decide +kernel
theorem dX9_findBest_39 : decode cX9_findBest 39 = .ok (.istore 6, 2) := by decide +kernel
theorem dX9_findBest_41 : decode cX9_findBest 41 = .ok (.iload_n 1, 1) := by decide +kernel
theorem dX9_findBest_42 : decode cX9_findBest 42 = .ok (.iconst 1, 1) := by decide +kernel
theorem dX9_findBest_43 : decode cX9_findBest 43 = .ok (.isub, 1) := by decide +kernel
theorem dX9_findBest_44 : decode cX9_findBest 44 = .ok (.istore 7, 2) := by decide +kernel
theorem dX9_findBest_46 : decode cX9_findBest 46 = .ok (.iload 7, 2) := by decide +kernel
theorem dX9_findBest_48 : decode cX9_findBest 48 = .ok (.ifCond .lt 131, 3) := by decide +kernel
theorem dX9_findBest_51 : decode cX9_findBest 51 = .ok (.iload 6, 2) := by decide +kernel
theorem dX9_findBest_53 : decode cX9_findBest 53 = .ok (.ifCond .eq 126, 3) := by decide +kernel
theorem dX9_findBest_56 : decode cX9_findBest 56 = .ok (.iload_n 3, 1) := by decide +kernel
theorem dX9_findBest_57 : decode cX9_findBest 57 = .ok (.iconst 1, 1) := by decide +kernel
theorem dX9_findBest_58 : decode cX9_findBest 58 = .ok (.aload_n 0, 1) := by decide +kernel
theorem dX9_findBest_59 : decode cX9_findBest 59 = .ok (.getfield 64, 3) := by decide +kernel
theorem dX9_findBest_62 : decode cX9_findBest 62 = .ok (.iadd, 1) := by decide +kernel
theorem dX9_findBest_63 : decode cX9_findBest 63 = .ok (.iload 7, 2) := by decide +kernel
theorem dX9_findBest_65 : decode cX9_findBest 65 = .ok (.invokestatic 163, 3) := by decide +kernel
theorem dX9_findBest_68 : decode cX9_findBest 68 = .ok (.idiv, 1) := by decide +kernel
theorem dX9_findBest_69 : decode cX9_findBest 69 = .ok (.iconst 1, 1) := by decide +kernel
theorem dX9_findBest_70 : decode cX9_findBest 70 = .ok (.aload_n 0, 1) := by decide +kernel
theorem dX9_findBest_71 : decode cX9_findBest 71 = .ok (.getfield 64, 3) := by decide +kernel
theorem dX9_findBest_74 : decode cX9_findBest 74 = .ok (.iadd, 1) := by decide +kernel
theorem dX9_findBest_75 : decode cX9_findBest 75 = .ok (.irem, 1) := by decide +kernel
theorem dX9_findBest_76 : decode cX9_findBest 76 = .ok (.istore 8, 2) := by decide +kernel
theorem dX9_findBest_78 : decode cX9_findBest 78 = .ok (.bipush 10, 2) := by decide +kernel
theorem dX9_findBest_80 : decode cX9_findBest 80 = .ok (.iload 4, 2) := by decide +kernel
theorem dX9_findBest_82 : decode cX9_findBest 82 = .ok (.imul, 1) := by decide +kernel
theorem dX9_findBest_83 : decode cX9_findBest 83 = .ok (.iload 8, 2) := by decide +kernel
theorem dX9_findBest_85 : decode cX9_findBest 85 = .ok (.iadd, 1) := by decide +kernel
theorem dX9_findBest_86 : decode cX9_findBest 86 = .ok (.istore 4, 2) := by decide +kernel
theorem dX9_findBest_88 : decode cX9_findBest 88 = .ok (.iload 8, 2) := by decide +kernel
theorem dX9_findBest_90 : decode cX9_findBest 90 = .ok (.ifCond .ne 14, 3) := by decide +kernel
theorem dX9_findBest_93 : decode cX9_findBest 93 = .ok (.aload_n 0, 1) := by decide +kernel
theorem dX9_findBest_94 : decode cX9_findBest 94 = .ok (.aload_n 0, 1) := by decide +kernel
theorem dX9_findBest_95 : decode cX9_findBest 95 = .ok (.getfield 28, 3) := by decide +kernel
theorem dX9_findBest_98 : decode cX9_findBest 98 = .ok (.invokevirtual 144, 3) := by decide +kernel
theorem dX9_findBest_101 : decode cX9_findBest 101 = .ok (.goto 72, 3) := by decide +kernel
theorem dX9_findBest_104 : decode cX9_findBest 104 = .ok (.aload_n 0, 1) := by decide +kernel
theorem dX9_findBest_105 : decode cX9_findBest 105 = .ok (.aload_n 0, 1) := by decide +kernel
theorem dX9_findBest_106 : decode cX9_findBest 106 = .ok (.getfield 28, 3) := by decide +kernel
theorem dX9_findBest_109 : decode cX9_findBest 109 = .ok (.iload 8, 2) := by decide +kernel
theorem dX9_findBest_111 : decode cX9_findBest 111 = .ok (.iconst 1, 1) := by decide +kernel
theorem dX9_findBest_112 : decode cX9_findBest 112 = .ok (.isub, 1) := by decide +kernel
theorem dX9_findBest_113 : decode cX9_findBest 113 = .ok (.invokevirtual 114, 3) := by decide +kernel
theorem dX9_findBest_116 : decode cX9_findBest 116 = .ok (.ifCond .eq 25, 3) := by decide +kernel
theorem dX9_findBest_119 : decode cX9_findBest 119 = .ok (.iload_n 2, 1) := by decide +kernel
theorem dX9_findBest_120 : decode cX9_findBest 120 = .ok (.aload_n 0, 1) := by decide +kernel
theorem dX9_findBest_121 : decode cX9_findBest 121 = .ok (.getfield 16, 3) := by decide +kernel
theorem dX9_findBest_124 : decode cX9_findBest 124 = .ok (.iconst 3, 1) := by decide +kernel
theorem dX9_findBest_125 : decode cX9_findBest 125 = .ok (.iload 8, 2) := by decide +kernel
theorem dX9_findBest_127 : decode cX9_findBest 127 = .ok (.imul, 1) := by decide +kernel
theorem dX9_findBest_128 : decode cX9_findBest 128 = .ok (.iconst 1, 1) := by decide +kernel
theorem dX9_findBest_129 : decode cX9_findBest 129 = .ok (.isub, 1) := by decide +kernel
theorem dX9_findBest_130 : decode cX9_findBest 130 = .ok (.iaload, 1) := by decide +kernel
theorem dX9_findBest_131 : decode cX9_findBest 131 = .ok (.invokestatic 110, 3) := by decide +kernel
theorem dX9_findBest_134 : decode cX9_findBest 134 = .ok (.ifCond .eq 7, 3) := by decide +kernel
theorem dX9_findBest_137 : decode cX9_findBest 137 = .ok (.iconst 1, 1) := by decide +kernel
theorem dX9_findBest_138 : decode cX9_findBest 138 = .ok (.goto 4, 3) := by decide +kernel
theorem dX9_findBest_141 : decode cX9_findBest 141 = .ok (.iconst 0, 1) := by decide +kernel
theorem dX9_findBest_142 : decode cX9_findBest 142 = .ok (.istore 6, 2) := by decide +kernel
theorem dX9_findBest_144 : decode cX9_findBest 144 = .ok (.aload_n 0, 1) := by decide +kernel
theorem dX9_findBest_145 : decode cX9_findBest 145 = .ok (.getfield 28, 3) := by decide +kernel
theorem dX9_findBest_148 : decode cX9_findBest 148 = .ok (.bipush 8, 2) := by decide +kernel
theorem dX9_findBest_150 : decode cX9_findBest 150 = .ok (.dup2, 1) := by decide +kernel
theorem dX9_findBest_151 : decode cX9_findBest 151 = .ok (.iaload, 1) := by decide +kernel
theorem dX9_findBest_152 : decode cX9_findBest 152 = .ok (.iconst 1, 1) := by decide +kernel
theorem dX9_findBest_153 : decode cX9_findBest 153 = .ok (.iload 8, 2) := by decide +kernel
theorem dX9_findBest_155 : decode cX9_findBest 155 = .ok (.iconst 1, 1) := by decide +kernel
theorem dX9_findBest_156 : decode cX9_findBest 156 = .ok (.isub, 1) := by decide +kernel
theorem dX9_findBest_157 : decode cX9_findBest 157 = .ok (.ishl, 1) := by decide +kernel
theorem dX9_findBest_158 : decode cX9_findBest 158 = .ok (.ior, 1) := by decide +kernel
theorem dX9_findBest_159 : decode cX9_findBest 159 = .ok (.iastore, 1) := by decide +kernel
theorem dX9_findBest_160 : decode cX9_findBest 160 = .ok (.iload 5, 2) := by decide +kernel
theorem dX9_findBest_162 : decode cX9_findBest 162 = .ok (.aload_n 0, 1) := by decide +kernel
theorem dX9_findBest_163 : decode cX9_findBest 163 = .ok (.iload 8, 2) := by decide +kernel
theorem dX9_findBest_165 : decode cX9_findBest 165 = .ok (.iconst 1, 1) := by decide +kernel
theorem dX9_findBest_166 : decode cX9_findBest 166 = .ok (.isub, 1) := by decide +kernel
theorem dX9_findBest_167 : decode cX9_findBest 167 = .ok (.invokevirtual 137, 3) := by decide +kernel
theorem dX9_findBest_170 : decode cX9_findBest 170 = .ok (.iadd, 1) := by decide +kernel
theorem dX9_findBest_171 : decode cX9_findBest 171 = .ok (.istore 5, 2) := by decide +kernel
theorem dX9_findBest_173 : decode cX9_findBest 173 = .ok (.iinc 7 (-1), 3) := by decide +kernel
theorem dX9_findBest_176 : decode cX9_findBest 176 = .ok (.goto (-130), 3) := by decide +kernel
theorem dX9_findBest_179 : decode cX9_findBest 179 = .ok (.iload 6, 2) := by decide +kernel
theorem dX9_findBest_181 : decode cX9_findBest 181 = .ok (.ifCond .eq 24, 3) := by decide +kernel
theorem dX9_findBest_184 : decode cX9_findBest 184 = .ok (.iload 5, 2) := by decide +kernel
theorem dX9_findBest_186 : decode cX9_findBest 186 = .ok (.aload_n 0, 1) := by decide +kernel
theorem dX9_findBest_187 : decode cX9_findBest 187 = .ok (.getfield 157, 3) := by decide +kernel
theorem dX9_findBest_190 : decode cX9_findBest 190 = .ok (.if_icmp .le 15, 3) := by decide +kernel
theorem dX9_findBest_193 : decode cX9_findBest 193 = .ok (.aload_n 0, 1) := by decide +kernel
theorem dX9_findBest_194 : decode cX9_findBest 194 = .ok (.iload 5, 2) := by decide +kernel
theorem dX9_findBest_196 : decode cX9_findBest 196 = .ok (.putfield 157, 3) := by decide +kernel
theorem dX9_findBest_199 : decode cX9_findBest 199 = .ok (.aload_n 0, 1) := by decide +kernel
theorem dX9_findBest_200 : decode cX9_findBest 200 = .ok (.iload 4, 2) := by decide +kernel
theorem dX9_findBest_202 : decode cX9_findBest 202 = .ok (.putfield 160, 3) := by decide +kernel
theorem dX9_findBest_205 : decode cX9_findBest 205 = .ok (.iinc 3 1, 3) := by decide +kernel
theorem dX9_findBest_208 : decode cX9_findBest 208 = .ok (.goto (-194), 3) := by decide +kernel
theorem dX9_findBest_211 : decode cX9_findBest 211 = .ok (.return_, 1) := by decide +kernel
theorem dX9_best_0 : decode cX9_best 0 = .ok (.aload_n 0, 1) := by decide +kernel
theorem dX9_best_1 : decode cX9_best 1 = .ok (.iconst 0, 1) := by decide +kernel
theorem dX9_best_2 : decode cX9_best 2 = .ok (.putfield 53, 3) := by decide +kernel
theorem dX9_best_5 : decode cX9_best 5 = .ok (.iload_n 1, 1) := by decide +kernel
theorem dX9_best_6 : decode cX9_best 6 = .ok (.i2l, 1) := by decide +kernel
theorem dX9_best_7 : decode cX9_best 7 = .ok (.lconst 1, 1) := by decide +kernel
theorem dX9_best_8 : decode cX9_best 8 = .ok (.ldc2_w 166, 3) := by decide +kernel
theorem dX9_best_11 : decode cX9_best 11 = .ok (.invokestatic 60, 3) := by decide +kernel
theorem dX9_best_14 : decode cX9_best 14 = .ok (.ifCond .ne 6, 3) := by decide +kernel
theorem dX9_best_17 : decode cX9_best 17 = .ok (.bipush (-2), 2) := by decide +kernel
theorem dX9_best_19 : decode cX9_best 19 = .ok (.ireturn, 1) := by decide +kernel
theorem dX9_best_20 : decode cX9_best 20 = .ok (.aload_n 0, 1) := by decide +kernel
theorem dX9_best_21 : decode cX9_best 21 = .ok (.iload_n 1, 1) := by decide +kernel
theorem dX9_best_22 : decode cX9_best 22 = .ok (.bipush 15, 2) := by decide +kernel
theorem dX9_best_24 : decode cX9_best 24 = .ok (.invokevirtual 168, 3) := by decide +kernel
theorem dX9_best_27 : decode cX9_best 27 = .ok (.iload_n 2, 1) := by decide +kernel
theorem dX9_best_28 : decode cX9_best 28 = .ok (.ifCond .eq 10, 3) := by decide +kernel
theorem dX9_best_31 : decode cX9_best 31 = .ok (.aload_n 0, 1) := by decide +kernel
theorem dX9_best_32 : decode cX9_best 32 = .ok (.getfield 160, 3) := by decide +kernel
theorem dX9_best_35 : decode cX9_best 35 = .ok (.goto 7, 3) := by decide +kernel
theorem dX9_best_38 : decode cX9_best 38 = .ok (.aload_n 0, 1) := by decide +kernel
theorem dX9_best_39 : decode cX9_best 39 = .ok (.getfield 157, 3) := by decide +kernel
theorem dX9_best_42 : decode cX9_best 42 = .ok (.ireturn, 1) := by decide +kernel
theorem dX9_hot_0 : decode cX9_hot 0 = .ok (.aload_n 0, 1) := by decide +kernel
theorem dX9_hot_1 : decode cX9_hot 1 = .ok (.iconst 0, 1) := by decide +kernel
theorem dX9_hot_2 : decode cX9_hot 2 = .ok (.putfield 53, 3) := by decide +kernel
theorem dX9_hot_5 : decode cX9_hot 5 = .ok (.aload_n 0, 1) := by decide +kernel
theorem dX9_hot_6 : decode cX9_hot 6 = .ok (.iload_n 1, 1) := by decide +kernel
theorem dX9_hot_7 : decode cX9_hot 7 = .ok (.invokevirtual 132, 3) := by decide +kernel
theorem dX9_hot_10 : decode cX9_hot 10 = .ok (.ifCond .eq 5, 3) := by decide +kernel
theorem dX9_hot_13 : decode cX9_hot 13 = .ok (.iconst (-1), 1) := by decide +kernel
theorem dX9_hot_14 : decode cX9_hot 14 = .ok (.ireturn, 1) := by decide +kernel
theorem dX9_hot_15 : decode cX9_hot 15 = .ok (.iload_n 2, 1) := by decide +kernel
theorem dX9_hot_16 : decode cX9_hot 16 = .ok (.i2l, 1) := by decide +kernel
theorem dX9_hot_17 : decode cX9_hot 17 = .ok (.lconst 0, 1) := by decide +kernel
theorem dX9_hot_18 : decode cX9_hot 18 = .ok (.ldc2_w 172, 3) := by decide +kernel
theorem dX9_hot_21 : decode cX9_hot 21 = .ok (.invokestatic 60, 3) := by decide +kernel
theorem dX9_hot_24 : decode cX9_hot 24 = .ok (.ifCond .ne 6, 3) := by decide +kernel
theorem dX9_hot_27 : decode cX9_hot 27 = .ok (.bipush (-2), 2) := by decide +kernel
theorem dX9_hot_29 : decode cX9_hot 29 = .ok (.ireturn, 1) := by decide +kernel
theorem dX9_hot_30 : decode cX9_hot 30 = .ok (.iconst 0, 1) := by decide +kernel
theorem dX9_hot_31 : decode cX9_hot 31 = .ok (.istore_n 3, 1) := by decide +kernel
theorem dX9_hot_32 : decode cX9_hot 32 = .ok (.iconst 0, 1) := by decide +kernel
theorem dX9_hot_33 : decode cX9_hot 33 = .ok (.istore 4, 2) := by decide +kernel
theorem dX9_hot_35 : decode cX9_hot 35 = .ok (.iload 4, 2) := by decide +kernel
theorem dX9_hot_37 : decode cX9_hot 37 = .ok (.bipush 9, 2) := by decide +kernel
theorem dX9_hot_39 : decode cX9_hot 39 = .ok (.if_icmp .gt 67, 3) := by decide +kernel
theorem dX9_hot_42 : decode cX9_hot 42 = .ok (.aload_n 0, 1) := by decide +kernel
theorem dX9_hot_43 : decode cX9_hot 43 = .ok (.invokevirtual 151, 3) := by decide +kernel
theorem dX9_hot_46 : decode cX9_hot 46 = .ok (.aload_n 0, 1) := by decide +kernel
theorem dX9_hot_47 : decode cX9_hot 47 = .ok (.getfield 28, 3) := by decide +kernel
theorem dX9_hot_50 : decode cX9_hot 50 = .ok (.iconst 0, 1) := by decide +kernel
theorem dX9_hot_51 : decode cX9_hot 51 = .ok (.iload 4, 2) := by decide +kernel
theorem dX9_hot_53 : decode cX9_hot 53 = .ok (.iastore, 1) := by decide +kernel
theorem dX9_hot_54 : decode cX9_hot 54 = .ok (.iconst 0, 1) := by decide +kernel
theorem dX9_hot_55 : decode cX9_hot 55 = .ok (.istore 5, 2) := by decide +kernel
theorem dX9_hot_57 : decode cX9_hot 57 = .ok (.iload 5, 2) := by decide +kernel
theorem dX9_hot_59 : decode cX9_hot 59 = .ok (.iload_n 2, 1) := by decide +kernel
theorem dX9_hot_60 : decode cX9_hot 60 = .ok (.if_icmp .ge 17, 3) := by decide +kernel
theorem dX9_hot_63 : decode cX9_hot 63 = .ok (.aload_n 0, 1) := by decide +kernel
theorem dX9_hot_64 : decode cX9_hot 64 = .ok (.aload_n 0, 1) := by decide +kernel
theorem dX9_hot_65 : decode cX9_hot 65 = .ok (.getfield 28, 3) := by decide +kernel
theorem dX9_hot_68 : decode cX9_hot 68 = .ok (.invokevirtual 144, 3) := by decide +kernel
theorem dX9_hot_71 : decode cX9_hot 71 = .ok (.iinc 5 1, 3) := by decide +kernel
theorem dX9_hot_74 : decode cX9_hot 74 = .ok (.goto (-17), 3) := by decide +kernel
theorem dX9_hot_77 : decode cX9_hot 77 = .ok (.iload_n 3, 1) := by decide +kernel
theorem dX9_hot_78 : decode cX9_hot 78 = .ok (.aload_n 0, 1) := by decide +kernel
theorem dX9_hot_79 : decode cX9_hot 79 = .ok (.aload_n 0, 1) := by decide +kernel
theorem dX9_hot_80 : decode cX9_hot 80 = .ok (.getfield 28, 3) := by decide +kernel
theorem dX9_hot_83 : decode cX9_hot 83 = .ok (.iload_n 1, 1) := by decide +kernel
theorem dX9_hot_84 : decode cX9_hot 84 = .ok (.invokevirtual 114, 3) := by decide +kernel
theorem dX9_hot_87 : decode cX9_hot 87 = .ok (.ifCond .eq 10, 3) := by decide +kernel
theorem dX9_hot_90 : decode cX9_hot 90 = .ok (.iconst 1, 1) := by decide +kernel
theorem dX9_hot_91 : decode cX9_hot 91 = .ok (.iload 4, 2) := by decide +kernel
theorem dX9_hot_93 : decode cX9_hot 93 = .ok (.ishl, 1) := by decide +kernel
theorem dX9_hot_94 : decode cX9_hot 94 = .ok (.goto 4, 3) := by decide +kernel
theorem dX9_hot_97 : decode cX9_hot 97 = .ok (.iconst 0, 1) := by decide +kernel
theorem dX9_hot_98 : decode cX9_hot 98 = .ok (.ior, 1) := by decide +kernel
theorem dX9_hot_99 : decode cX9_hot 99 = .ok (.istore_n 3, 1) := by decide +kernel
theorem dX9_hot_100 : decode cX9_hot 100 = .ok (.iinc 4 1, 3) := by decide +kernel
theorem dX9_hot_103 : decode cX9_hot 103 = .ok (.goto (-68), 3) := by decide +kernel
theorem dX9_hot_106 : decode cX9_hot 106 = .ok (.iload_n 3, 1) := by decide +kernel
theorem dX9_hot_107 : decode cX9_hot 107 = .ok (.ireturn, 1) := by decide +kernel
theorem dX9_spiceFor_0 : decode cX9_spiceFor 0 = .ok (.aload_n 0, 1) := by decide +kernel
theorem dX9_spiceFor_1 : decode cX9_spiceFor 1 = .ok (.iconst 0, 1) := by decide +kernel
theorem dX9_spiceFor_2 : decode cX9_spiceFor 2 = .ok (.putfield 53, 3) := by decide +kernel
theorem dX9_spiceFor_5 : decode cX9_spiceFor 5 = .ok (.aload_n 0, 1) := by decide +kernel
theorem dX9_spiceFor_6 : decode cX9_spiceFor 6 = .ok (.iload_n 1, 1) := by decide +kernel
theorem dX9_spiceFor_7 : decode cX9_spiceFor 7 = .ok (.invokevirtual 132, 3) := by decide +kernel
theorem dX9_spiceFor_10 : decode cX9_spiceFor 10 = .ok (.ifCond .eq 5, 3) := by decide +kernel
theorem dX9_spiceFor_13 : decode cX9_spiceFor 13 = .ok (.iconst (-1), 1) := by decide +kernel
theorem dX9_spiceFor_14 : decode cX9_spiceFor 14 = .ok (.ireturn, 1) := by decide +kernel
theorem dX9_spiceFor_15 : decode cX9_spiceFor 15 = .ok (.aload_n 0, 1) := by decide +kernel
theorem dX9_spiceFor_16 : decode cX9_spiceFor 16 = .ok (.getfield 25, 3) := by decide +kernel
theorem dX9_spiceFor_19 : decode cX9_spiceFor 19 = .ok (.bipush 8, 2) := by decide +kernel
theorem dX9_spiceFor_21 : decode cX9_spiceFor 21 = .ok (.iaload, 1) := by decide +kernel
theorem dX9_spiceFor_22 : decode cX9_spiceFor 22 = .ok (.iload_n 1, 1) := by decide +kernel
theorem dX9_spiceFor_23 : decode cX9_spiceFor 23 = .ok (.invokestatic 110, 3) := by decide +kernel
theorem dX9_spiceFor_26 : decode cX9_spiceFor 26 = .ok (.ifCond .eq 6, 3) := by decide +kernel
theorem dX9_spiceFor_29 : decode cX9_spiceFor 29 = .ok (.bipush (-3), 2) := by decide +kernel
theorem dX9_spiceFor_31 : decode cX9_spiceFor 31 = .ok (.ireturn, 1) := by decide +kernel
theorem dX9_spiceFor_32 : decode cX9_spiceFor 32 = .ok (.aload_n 0, 1) := by decide +kernel
theorem dX9_spiceFor_33 : decode cX9_spiceFor 33 = .ok (.invokevirtual 151, 3) := by decide +kernel
theorem dX9_spiceFor_36 : decode cX9_spiceFor 36 = .ok (.bipush (-9), 2) := by decide +kernel
theorem dX9_spiceFor_38 : decode cX9_spiceFor 38 = .ok (.istore_n 2, 1) := by decide +kernel
theorem dX9_spiceFor_39 : decode cX9_spiceFor 39 = .ok (.iconst 0, 1) := by decide +kernel
theorem dX9_spiceFor_40 : decode cX9_spiceFor 40 = .ok (.istore_n 3, 1) := by decide +kernel
theorem dX9_spiceFor_41 : decode cX9_spiceFor 41 = .ok (.iload_n 3, 1) := by decide +kernel
theorem dX9_spiceFor_42 : decode cX9_spiceFor 42 = .ok (.aload_n 0, 1) := by decide +kernel
theorem dX9_spiceFor_43 : decode cX9_spiceFor 43 = .ok (.getfield 25, 3) := by decide +kernel
theorem dX9_spiceFor_46 : decode cX9_spiceFor 46 = .ok (.iconst 1, 1) := by decide +kernel
theorem dX9_spiceFor_47 : decode cX9_spiceFor 47 = .ok (.iaload, 1) := by decide +kernel
theorem dX9_spiceFor_48 : decode cX9_spiceFor 48 = .ok (.if_icmp .gt 40, 3) := by decide +kernel
theorem dX9_spiceFor_51 : decode cX9_spiceFor 51 = .ok (.iload_n 2, 1) := by decide +kernel
theorem dX9_spiceFor_52 : decode cX9_spiceFor 52 = .ok (.bipush (-9), 2) := by decide +kernel
theorem dX9_spiceFor_54 : decode cX9_spiceFor 54 = .ok (.if_icmp .ne 34, 3) := by decide +kernel
theorem dX9_spiceFor_57 : decode cX9_spiceFor 57 = .ok (.aload_n 0, 1) := by decide +kernel
theorem dX9_spiceFor_58 : decode cX9_spiceFor 58 = .ok (.aload_n 0, 1) := by decide +kernel
theorem dX9_spiceFor_59 : decode cX9_spiceFor 59 = .ok (.getfield 28, 3) := by decide +kernel
theorem dX9_spiceFor_62 : decode cX9_spiceFor 62 = .ok (.iload_n 1, 1) := by decide +kernel
theorem dX9_spiceFor_63 : decode cX9_spiceFor 63 = .ok (.invokevirtual 114, 3) := by decide +kernel
theorem dX9_spiceFor_66 : decode cX9_spiceFor 66 = .ok (.ifCond .eq 7, 3) := by decide +kernel
theorem dX9_spiceFor_69 : decode cX9_spiceFor 69 = .ok (.iload_n 3, 1) := by decide +kernel
theorem dX9_spiceFor_70 : decode cX9_spiceFor 70 = .ok (.goto 4, 3) := by decide +kernel
theorem dX9_spiceFor_73 : decode cX9_spiceFor 73 = .ok (.iload_n 2, 1) := by decide +kernel
theorem dX9_spiceFor_74 : decode cX9_spiceFor 74 = .ok (.istore_n 2, 1) := by decide +kernel
theorem dX9_spiceFor_75 : decode cX9_spiceFor 75 = .ok (.aload_n 0, 1) := by decide +kernel
theorem dX9_spiceFor_76 : decode cX9_spiceFor 76 = .ok (.getfield 28, 3) := by decide +kernel
theorem dX9_spiceFor_79 : decode cX9_spiceFor 79 = .ok (.invokestatic 148, 3) := by decide +kernel
theorem dX9_spiceFor_82 : decode cX9_spiceFor 82 = .ok (.iinc 3 1, 3) := by decide +kernel
theorem dX9_spiceFor_85 : decode cX9_spiceFor 85 = .ok (.goto (-44), 3) := by decide +kernel
theorem dX9_spiceFor_88 : decode cX9_spiceFor 88 = .ok (.iload_n 2, 1) := by decide +kernel
theorem dX9_spiceFor_89 : decode cX9_spiceFor 89 = .ok (.ireturn, 1) := by decide +kernel
theorem dX9_noRow_0 : decode cX9_noRow 0 = .ok (.iload_n 0, 1) := by decide +kernel
theorem dX9_noRow_1 : decode cX9_noRow 1 = .ok (.i2l, 1) := by decide +kernel
theorem dX9_noRow_2 : decode cX9_noRow 2 = .ok (.lconst 1, 1) := by decide +kernel
theorem dX9_noRow_3 : decode cX9_noRow 3 = .ok (.ldc2_w 174, 3) := by decide +kernel
theorem dX9_noRow_6 : decode cX9_noRow 6 = .ok (.invokestatic 60, 3) := by decide +kernel
theorem dX9_noRow_9 : decode cX9_noRow 9 = .ok (.ifCond .eq 21, 3) := by decide +kernel
theorem dX9_noRow_12 : decode cX9_noRow 12 = .ok (.iload_n 1, 1) := by decide +kernel
theorem dX9_noRow_13 : decode cX9_noRow 13 = .ok (.i2l, 1) := by decide +kernel
theorem dX9_noRow_14 : decode cX9_noRow 14 = .ok (.lconst 0, 1) := by decide +kernel
theorem dX9_noRow_15 : decode cX9_noRow 15 = .ok (.bipush 10, 2) := by decide +kernel
theorem dX9_noRow_17 : decode cX9_noRow 17 = .ok (.iload_n 0, 1) := by decide +kernel
theorem dX9_noRow_18 : decode cX9_noRow 18 = .ok (.invokestatic 163, 3) := by decide +kernel
theorem dX9_noRow_21 : decode cX9_noRow 21 = .ok (.iconst 1, 1) := by decide +kernel
theorem dX9_noRow_22 : decode cX9_noRow 22 = .ok (.isub, 1) := by decide +kernel
theorem dX9_noRow_23 : decode cX9_noRow 23 = .ok (.i2l, 1) := by decide +kernel
theorem dX9_noRow_24 : decode cX9_noRow 24 = .ok (.invokestatic 60, 3) := by decide +kernel
theorem dX9_noRow_27 : decode cX9_noRow 27 = .ok (.ifCond .ne 5, 3) := by decide +kernel
theorem dX9_noRow_30 : decode cX9_noRow 30 = .ok (.iconst 1, 1) := by decide +kernel
theorem dX9_noRow_31 : decode cX9_noRow 31 = .ok (.ireturn, 1) := by decide +kernel
theorem dX9_noRow_32 : decode cX9_noRow 32 = .ok (.iconst 1, 1) := by decide +kernel
theorem dX9_noRow_33 : decode cX9_noRow 33 = .ok (.istore_n 2, 1) := by decide +kernel
theorem dX9_noRow_34 : decode cX9_noRow 34 = .ok (.iconst 0, 1) := by decide +kernel
theorem dX9_noRow_35 : decode cX9_noRow 35 = .ok (.istore_n 3, 1) := by decide +kernel
theorem dX9_noRow_36 : decode cX9_noRow 36 = .ok (.iload_n 3, 1) := by decide +kernel
theorem dX9_noRow_37 : decode cX9_noRow 37 = .ok (.iload_n 0, 1) := by decide +kernel
theorem dX9_noRow_38 : decode cX9_noRow 38 = .ok (.if_icmp .ge 35, 3) := by decide +kernel
theorem dX9_noRow_41 : decode cX9_noRow 41 = .ok (.iload_n 2, 1) := by decide +kernel
theorem dX9_noRow_42 : decode cX9_noRow 42 = .ok (.ifCond .eq 23, 3) := by decide +kernel
theorem dX9_noRow_45 : decode cX9_noRow 45 = .ok (.iload_n 1, 1) := by decide +kernel
theorem dX9_noRow_46 : decode cX9_noRow 46 = .ok (.bipush 10, 2) := by decide +kernel
theorem dX9_noRow_48 : decode cX9_noRow 48 = .ok (.iload_n 3, 1) := by decide +kernel
theorem dX9_noRow_49 : decode cX9_noRow 49 = .ok (.invokestatic 163, 3) := by decide +kernel
theorem dX9_noRow_52 : decode cX9_noRow 52 = .ok (.idiv, 1) := by decide +kernel
theorem dX9_noRow_53 : decode cX9_noRow 53 = .ok (.bipush 10, 2) := by decide +kernel
theorem dX9_noRow_55 : decode cX9_noRow 55 = .ok (.irem, 1) := by decide +kernel
theorem dX9_noRow_56 : decode cX9_noRow 56 = .ok (.bipush 8, 2) := by decide +kernel
theorem dX9_noRow_58 : decode cX9_noRow 58 = .ok (.if_icmp .ge 7, 3) := by decide +kernel
theorem dX9_noRow_61 : decode cX9_noRow 61 = .ok (.iconst 1, 1) := by decide +kernel
theorem dX9_noRow_62 : decode cX9_noRow 62 = .ok (.goto 4, 3) := by decide +kernel
theorem dX9_noRow_65 : decode cX9_noRow 65 = .ok (.iconst 0, 1) := by decide +kernel
theorem dX9_noRow_66 : decode cX9_noRow 66 = .ok (.istore_n 2, 1) := by decide +kernel
theorem dX9_noRow_67 : decode cX9_noRow 67 = .ok (.iinc 3 1, 3) := by decide +kernel
theorem dX9_noRow_70 : decode cX9_noRow 70 = .ok (.goto (-34), 3) := by decide +kernel
theorem dX9_noRow_73 : decode cX9_noRow 73 = .ok (.iload_n 2, 1) := by decide +kernel
theorem dX9_noRow_74 : decode cX9_noRow 74 = .ok (.ifCond .ne 7, 3) := by decide +kernel
theorem dX9_noRow_77 : decode cX9_noRow 77 = .ok (.iconst 1, 1) := by decide +kernel
theorem dX9_noRow_78 : decode cX9_noRow 78 = .ok (.goto 4, 3) := by decide +kernel
theorem dX9_noRow_81 : decode cX9_noRow 81 = .ok (.iconst 0, 1) := by decide +kernel
theorem dX9_noRow_82 : decode cX9_noRow 82 = .ok (.ireturn, 1) := by decide +kernel
theorem dX9_does_0 : decode cX9_does 0 = .ok (.iload_n 1, 1) := by decide +kernel
theorem dX9_does_1 : decode cX9_does 1 = .ok (.ifCond .ne 33, 3) := by decide +kernel
theorem dX9_does_4 : decode cX9_does 4 = .ok (.aload_n 0, 1) := by decide +kernel
theorem dX9_does_5 : decode cX9_does 5 = .ok (.getfield 28, 3) := by decide +kernel
theorem dX9_does_8 : decode cX9_does 8 = .ok (.bipush 6, 2) := by decide +kernel
theorem dX9_does_10 : decode cX9_does 10 = .ok (.iaload, 1) := by decide +kernel
theorem dX9_does_11 : decode cX9_does 11 = .ok (.ifCond .eq 7, 3) := by decide +kernel
theorem dX9_does_14 : decode cX9_does 14 = .ok (.iconst 1, 1) := by decide +kernel
theorem dX9_does_15 : decode cX9_does 15 = .ok (.goto 4, 3) := by decide +kernel
theorem dX9_does_18 : decode cX9_does 18 = .ok (.iconst 0, 1) := by decide +kernel
theorem dX9_does_19 : decode cX9_does 19 = .ok (.istore_n 2, 1) := by decide +kernel
theorem dX9_does_20 : decode cX9_does 20 = .ok (.iload_n 2, 1) := by decide +kernel
theorem dX9_does_21 : decode cX9_does 21 = .ok (.ifCond .eq 11, 3) := by decide +kernel
theorem dX9_does_24 : decode cX9_does 24 = .ok (.aload_n 0, 1) := by decide +kernel
theorem dX9_does_25 : decode cX9_does 25 = .ok (.aload_n 0, 1) := by decide +kernel
theorem dX9_does_26 : decode cX9_does 26 = .ok (.getfield 28, 3) := by decide +kernel
theorem dX9_does_29 : decode cX9_does 29 = .ok (.invokevirtual 144, 3) := by decide +kernel
theorem dX9_does_32 : decode cX9_does 32 = .ok (.iload_n 2, 1) := by decide +kernel
theorem dX9_does_33 : decode cX9_does 33 = .ok (.ireturn, 1) := by decide +kernel
theorem dX9_does_34 : decode cX9_does 34 = .ok (.iload_n 1, 1) := by decide +kernel
theorem dX9_does_35 : decode cX9_does 35 = .ok (.bipush 6, 2) := by decide +kernel
theorem dX9_does_37 : decode cX9_does 37 = .ok (.if_icmp .ne 31, 3) := by decide +kernel
theorem dX9_does_40 : decode cX9_does 40 = .ok (.aload_n 0, 1) := by decide +kernel
theorem dX9_does_41 : decode cX9_does 41 = .ok (.getfield 28, 3) := by decide +kernel
theorem dX9_does_44 : decode cX9_does 44 = .ok (.iconst 1, 1) := by decide +kernel
theorem dX9_does_45 : decode cX9_does 45 = .ok (.iaload, 1) := by decide +kernel
theorem dX9_does_46 : decode cX9_does 46 = .ok (.ifCond .le 7, 3) := by decide +kernel
theorem dX9_does_49 : decode cX9_does 49 = .ok (.iconst 1, 1) := by decide +kernel
theorem dX9_does_50 : decode cX9_does 50 = .ok (.goto 4, 3) := by decide +kernel
theorem dX9_does_53 : decode cX9_does 53 = .ok (.iconst 0, 1) := by decide +kernel
theorem dX9_does_54 : decode cX9_does 54 = .ok (.istore_n 2, 1) := by decide +kernel
theorem dX9_does_55 : decode cX9_does 55 = .ok (.iload_n 2, 1) := by decide +kernel
theorem dX9_does_56 : decode cX9_does 56 = .ok (.ifCond .eq 10, 3) := by decide +kernel
theorem dX9_does_59 : decode cX9_does 59 = .ok (.aload_n 0, 1) := by decide +kernel
theorem dX9_does_60 : decode cX9_does 60 = .ok (.getfield 28, 3) := by decide +kernel
theorem dX9_does_63 : decode cX9_does 63 = .ok (.invokestatic 148, 3) := by decide +kernel
theorem dX9_does_66 : decode cX9_does 66 = .ok (.iload_n 2, 1) := by decide +kernel
theorem dX9_does_67 : decode cX9_does 67 = .ok (.ireturn, 1) := by decide +kernel
theorem dX9_does_68 : decode cX9_does 68 = .ok (.iload_n 1, 1) := by decide +kernel
theorem dX9_does_69 : decode cX9_does 69 = .ok (.bipush 7, 2) := by decide +kernel
theorem dX9_does_71 : decode cX9_does 71 = .ok (.if_icmp .ne 5, 3) := by decide +kernel
theorem dX9_does_74 : decode cX9_does 74 = .ok (.iconst 1, 1) := by decide +kernel
theorem dX9_does_75 : decode cX9_does 75 = .ok (.ireturn, 1) := by decide +kernel
theorem dX9_does_76 : decode cX9_does 76 = .ok (.aload_n 0, 1) := by decide +kernel
theorem dX9_does_77 : decode cX9_does 77 = .ok (.iload_n 1, 1) := by decide +kernel
theorem dX9_does_78 : decode cX9_does 78 = .ok (.iconst 1, 1) := by decide +kernel
theorem dX9_does_79 : decode cX9_does 79 = .ok (.isub, 1) := by decide +kernel
theorem dX9_does_80 : decode cX9_does 80 = .ok (.invokevirtual 132, 3) := by decide +kernel
theorem dX9_does_83 : decode cX9_does 83 = .ok (.ifCond .ne 17, 3) := by decide +kernel
theorem dX9_does_86 : decode cX9_does 86 = .ok (.aload_n 0, 1) := by decide +kernel
theorem dX9_does_87 : decode cX9_does 87 = .ok (.aload_n 0, 1) := by decide +kernel
theorem dX9_does_88 : decode cX9_does 88 = .ok (.getfield 28, 3) := by decide +kernel
theorem dX9_does_91 : decode cX9_does 91 = .ok (.iload_n 1, 1) := by decide +kernel
theorem dX9_does_92 : decode cX9_does 92 = .ok (.iconst 1, 1) := by decide +kernel
theorem dX9_does_93 : decode cX9_does 93 = .ok (.isub, 1) := by decide +kernel
theorem dX9_does_94 : decode cX9_does 94 = .ok (.invokevirtual 114, 3) := by decide +kernel
theorem dX9_does_97 : decode cX9_does 97 = .ok (.ifCond .ne 5, 3) := by decide +kernel
theorem dX9_does_100 : decode cX9_does 100 = .ok (.iconst 0, 1) := by decide +kernel
theorem dX9_does_101 : decode cX9_does 101 = .ok (.ireturn, 1) := by decide +kernel
theorem dX9_does_102 : decode cX9_does 102 = .ok (.aload_n 0, 1) := by decide +kernel
theorem dX9_does_103 : decode cX9_does 103 = .ok (.getfield 28, 3) := by decide +kernel
theorem dX9_does_106 : decode cX9_does 106 = .ok (.bipush 8, 2) := by decide +kernel
theorem dX9_does_108 : decode cX9_does 108 = .ok (.dup2, 1) := by decide +kernel
theorem dX9_does_109 : decode cX9_does 109 = .ok (.iaload, 1) := by decide +kernel
theorem dX9_does_110 : decode cX9_does 110 = .ok (.iconst 1, 1) := by decide +kernel
theorem dX9_does_111 : decode cX9_does 111 = .ok (.iload_n 1, 1) := by decide +kernel
theorem dX9_does_112 : decode cX9_does 112 = .ok (.iconst 1, 1) := by decide +kernel
theorem dX9_does_113 : decode cX9_does 113 = .ok (.isub, 1) := by decide +kernel
theorem dX9_does_114 : decode cX9_does 114 = .ok (.ishl, 1) := by decide +kernel
theorem dX9_does_115 : decode cX9_does 115 = .ok (.ior, 1) := by decide +kernel
theorem dX9_does_116 : decode cX9_does 116 = .ok (.iastore, 1) := by decide +kernel
theorem dX9_does_117 : decode cX9_does 117 = .ok (.iconst 1, 1) := by decide +kernel
theorem dX9_does_118 : decode cX9_does 118 = .ok (.ireturn, 1) := by decide +kernel
theorem dX9_judge_0 : decode cX9_judge 0 = .ok (.aload_n 0, 1) := by decide +kernel
theorem dX9_judge_1 : decode cX9_judge 1 = .ok (.iconst 0, 1) := by decide +kernel
theorem dX9_judge_2 : decode cX9_judge 2 = .ok (.putfield 53, 3) := by decide +kernel
theorem dX9_judge_5 : decode cX9_judge 5 = .ok (.iload_n 1, 1) := by decide +kernel
theorem dX9_judge_6 : decode cX9_judge 6 = .ok (.iload_n 2, 1) := by decide +kernel
theorem dX9_judge_7 : decode cX9_judge 7 = .ok (.invokestatic 176, 3) := by decide +kernel
theorem dX9_judge_10 : decode cX9_judge 10 = .ok (.ifCond .eq 6, 3) := by decide +kernel
theorem dX9_judge_13 : decode cX9_judge 13 = .ok (.bipush (-2), 2) := by decide +kernel
theorem dX9_judge_15 : decode cX9_judge 15 = .ok (.ireturn, 1) := by decide +kernel
theorem dX9_judge_16 : decode cX9_judge 16 = .ok (.aload_n 0, 1) := by decide +kernel
theorem dX9_judge_17 : decode cX9_judge 17 = .ok (.invokevirtual 151, 3) := by decide +kernel
theorem dX9_judge_20 : decode cX9_judge 20 = .ok (.iconst 0, 1) := by decide +kernel
theorem dX9_judge_21 : decode cX9_judge 21 = .ok (.istore_n 3, 1) := by decide +kernel
theorem dX9_judge_22 : decode cX9_judge 22 = .ok (.iload_n 3, 1) := by decide +kernel
theorem dX9_judge_23 : decode cX9_judge 23 = .ok (.iload_n 1, 1) := by decide +kernel
theorem dX9_judge_24 : decode cX9_judge 24 = .ok (.if_icmp .ge 33, 3) := by decide +kernel
theorem dX9_judge_27 : decode cX9_judge 27 = .ok (.aload_n 0, 1) := by decide +kernel
theorem dX9_judge_28 : decode cX9_judge 28 = .ok (.iload_n 2, 1) := by decide +kernel
theorem dX9_judge_29 : decode cX9_judge 29 = .ok (.bipush 10, 2) := by decide +kernel
theorem dX9_judge_31 : decode cX9_judge 31 = .ok (.iload_n 1, 1) := by decide +kernel
theorem dX9_judge_32 : decode cX9_judge 32 = .ok (.iconst 1, 1) := by decide +kernel
theorem dX9_judge_33 : decode cX9_judge 33 = .ok (.isub, 1) := by decide +kernel
theorem dX9_judge_34 : decode cX9_judge 34 = .ok (.iload_n 3, 1) := by decide +kernel
theorem dX9_judge_35 : decode cX9_judge 35 = .ok (.isub, 1) := by decide +kernel
theorem dX9_judge_36 : decode cX9_judge 36 = .ok (.invokestatic 163, 3) := by decide +kernel
theorem dX9_judge_39 : decode cX9_judge 39 = .ok (.idiv, 1) := by decide +kernel
theorem dX9_judge_40 : decode cX9_judge 40 = .ok (.bipush 10, 2) := by decide +kernel
theorem dX9_judge_42 : decode cX9_judge 42 = .ok (.irem, 1) := by decide +kernel
theorem dX9_judge_43 : decode cX9_judge 43 = .ok (.invokevirtual 179, 3) := by decide +kernel
theorem dX9_judge_46 : decode cX9_judge 46 = .ok (.ifCond .ne 5, 3) := by decide +kernel
theorem dX9_judge_49 : decode cX9_judge 49 = .ok (.iload_n 3, 1) := by decide +kernel
theorem dX9_judge_50 : decode cX9_judge 50 = .ok (.ireturn, 1) := by decide +kernel
theorem dX9_judge_51 : decode cX9_judge 51 = .ok (.iinc 3 1, 3) := by decide +kernel
theorem dX9_judge_54 : decode cX9_judge 54 = .ok (.goto (-32), 3) := by decide +kernel
theorem dX9_judge_57 : decode cX9_judge 57 = .ok (.bipush (-9), 2) := by decide +kernel
theorem dX9_judge_59 : decode cX9_judge 59 = .ok (.ireturn, 1) := by decide +kernel
theorem dX9_ways_0 : decode cX9_ways 0 = .ok (.iconst 1, 1) := by decide +kernel
theorem dX9_ways_1 : decode cX9_ways 1 = .ok (.istore_n 1, 1) := by decide +kernel
theorem dX9_ways_2 : decode cX9_ways 2 = .ok (.iconst 2, 1) := by decide +kernel
theorem dX9_ways_3 : decode cX9_ways 3 = .ok (.istore_n 2, 1) := by decide +kernel
theorem dX9_ways_4 : decode cX9_ways 4 = .ok (.iload_n 2, 1) := by decide +kernel
theorem dX9_ways_5 : decode cX9_ways 5 = .ok (.iload_n 0, 1) := by decide +kernel
theorem dX9_ways_6 : decode cX9_ways 6 = .ok (.if_icmp .gt 13, 3) := by decide +kernel
theorem dX9_ways_9 : decode cX9_ways 9 = .ok (.iload_n 1, 1) := by decide +kernel
theorem dX9_ways_10 : decode cX9_ways 10 = .ok (.iload_n 2, 1) := by decide +kernel
theorem dX9_ways_11 : decode cX9_ways 11 = .ok (.imul, 1) := by decide +kernel
theorem dX9_ways_12 : decode cX9_ways 12 = .ok (.istore_n 1, 1) := by decide +kernel
theorem dX9_ways_13 : decode cX9_ways 13 = .ok (.iinc 2 1, 3) := by decide +kernel
theorem dX9_ways_16 : decode cX9_ways 16 = .ok (.goto (-12), 3) := by decide +kernel
theorem dX9_ways_19 : decode cX9_ways 19 = .ok (.iload_n 1, 1) := by decide +kernel
theorem dX9_ways_20 : decode cX9_ways 20 = .ok (.ireturn, 1) := by decide +kernel
theorem dX9_divisor_0 : decode cX9_divisor 0 = .ok (.iload_n 0, 1) := by decide +kernel
theorem dX9_divisor_1 : decode cX9_divisor 1 = .ok (.ifCond .ge 8, 3) := by decide +kernel
theorem dX9_divisor_4 : decode cX9_divisor 4 = .ok (.iload_n 0, 1) := by decide +kernel
theorem dX9_divisor_5 : decode cX9_divisor 5 = .ok (.ineg, 1) := by decide +kernel
theorem dX9_divisor_6 : decode cX9_divisor 6 = .ok (.goto 4, 3) := by decide +kernel
theorem dX9_divisor_9 : decode cX9_divisor 9 = .ok (.iload_n 0, 1) := by decide +kernel
theorem dX9_divisor_10 : decode cX9_divisor 10 = .ok (.istore_n 2, 1) := by decide +kernel
theorem dX9_divisor_11 : decode cX9_divisor 11 = .ok (.iload_n 1, 1) := by decide +kernel
theorem dX9_divisor_12 : decode cX9_divisor 12 = .ok (.istore_n 3, 1) := by decide +kernel
theorem dX9_divisor_13 : decode cX9_divisor 13 = .ok (.iload_n 3, 1) := by decide +kernel
theorem dX9_divisor_14 : decode cX9_divisor 14 = .ok (.ifCond .eq 16, 3) := by decide +kernel
theorem dX9_divisor_17 : decode cX9_divisor 17 = .ok (.iload_n 2, 1) := by decide +kernel
theorem dX9_divisor_18 : decode cX9_divisor 18 = .ok (.iload_n 3, 1) := by decide +kernel
theorem dX9_divisor_19 : decode cX9_divisor 19 = .ok (.irem, 1) := by decide +kernel
theorem dX9_divisor_20 : decode cX9_divisor 20 = .ok (.istore 4, 2) := by decide +kernel
theorem dX9_divisor_22 : decode cX9_divisor 22 = .ok (.iload_n 3, 1) := by decide +kernel
theorem dX9_divisor_23 : decode cX9_divisor 23 = .ok (.istore_n 2, 1) := by decide +kernel
theorem dX9_divisor_24 : decode cX9_divisor 24 = .ok (.iload 4, 2) := by decide +kernel
theorem dX9_divisor_26 : decode cX9_divisor 26 = .ok (.istore_n 3, 1) := by decide +kernel
theorem dX9_divisor_27 : decode cX9_divisor 27 = .ok (.goto (-14), 3) := by decide +kernel
theorem dX9_divisor_30 : decode cX9_divisor 30 = .ok (.iload_n 2, 1) := by decide +kernel
theorem dX9_divisor_31 : decode cX9_divisor 31 = .ok (.ireturn, 1) := by decide +kernel
theorem dX9_fraction_0 : decode cX9_fraction 0 = .ok (.iload_n 0, 1) := by decide +kernel
theorem dX9_fraction_1 : decode cX9_fraction 1 = .ok (.iload_n 1, 1) := by decide +kernel
theorem dX9_fraction_2 : decode cX9_fraction 2 = .ok (.invokestatic 182, 3) := by decide +kernel
theorem dX9_fraction_5 : decode cX9_fraction 5 = .ok (.istore_n 3, 1) := by decide +kernel
theorem dX9_fraction_6 : decode cX9_fraction 6 = .ok (.iload_n 2, 1) := by decide +kernel
theorem dX9_fraction_7 : decode cX9_fraction 7 = .ok (.ifCond .eq 9, 3) := by decide +kernel
theorem dX9_fraction_10 : decode cX9_fraction 10 = .ok (.iload_n 0, 1) := by decide +kernel
theorem dX9_fraction_11 : decode cX9_fraction 11 = .ok (.iload_n 3, 1) := by decide +kernel
theorem dX9_fraction_12 : decode cX9_fraction 12 = .ok (.idiv, 1) := by decide +kernel
theorem dX9_fraction_13 : decode cX9_fraction 13 = .ok (.goto 6, 3) := by decide +kernel
theorem dX9_fraction_16 : decode cX9_fraction 16 = .ok (.iload_n 1, 1) := by decide +kernel
theorem dX9_fraction_17 : decode cX9_fraction 17 = .ok (.iload_n 3, 1) := by decide +kernel
theorem dX9_fraction_18 : decode cX9_fraction 18 = .ok (.idiv, 1) := by decide +kernel
