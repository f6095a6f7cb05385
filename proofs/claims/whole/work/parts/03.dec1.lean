theorem dX8_write_4 : decode cX8_write 4 = .ok (.iload_n 1, 1) := by decide +kernel
theorem dX8_write_5 : decode cX8_write 5 = .ok (.sipush 255, 3) := by decide +kernel
theorem dX8_write_8 : decode cX8_write 8 = .ok (.if_icmp .le 6, 3) := by decide +kernel
theorem dX8_write_11 : decode cX8_write 11 = .ok (.bipush (-2), 2) := by decide +kernel
theorem dX8_write_13 : decode cX8_write 13 = .ok (.ireturn, 1) := by decide +kernel
theorem dX8_write_14 : decode cX8_write 14 = .ok (.aload_n 0, 1) := by decide +kernel
theorem dX8_write_15 : decode cX8_write 15 = .ok (.getfield 10, 3) := by decide +kernel
theorem dX8_write_18 : decode cX8_write 18 = .ok (.getfield 70, 3) := by decide +kernel
theorem dX8_write_21 : decode cX8_write 21 = .ok (.bipush 48, 2) := by decide +kernel
theorem dX8_write_23 : decode cX8_write 23 = .ok (.if_icmp .lt 6, 3) := by decide +kernel
theorem dX8_write_26 : decode cX8_write 26 = .ok (.bipush (-4), 2) := by decide +kernel
theorem dX8_write_28 : decode cX8_write 28 = .ok (.ireturn, 1) := by decide +kernel
theorem dX8_write_29 : decode cX8_write 29 = .ok (.aload_n 0, 1) := by decide +kernel
theorem dX8_write_30 : decode cX8_write 30 = .ok (.getfield 10, 3) := by decide +kernel
theorem dX8_write_33 : decode cX8_write 33 = .ok (.iload_n 1, 1) := by decide +kernel
theorem dX8_write_34 : decode cX8_write 34 = .ok (.invokevirtual 74, 3) := by decide +kernel
theorem dX8_write_37 : decode cX8_write 37 = .ok (.aload_n 0, 1) := by decide +kernel
theorem dX8_write_38 : decode cX8_write 38 = .ok (.getfield 10, 3) := by decide +kernel
theorem dX8_write_41 : decode cX8_write 41 = .ok (.getfield 70, 3) := by decide +kernel
theorem dX8_write_44 : decode cX8_write 44 = .ok (.ireturn, 1) := by decide +kernel
theorem dX8_wipe_0 : decode cX8_wipe 0 = .ok (.aload_n 0, 1) := by decide +kernel
theorem dX8_wipe_1 : decode cX8_wipe 1 = .ok (.getfield 10, 3) := by decide +kernel
theorem dX8_wipe_4 : decode cX8_wipe 4 = .ok (.getfield 70, 3) := by decide +kernel
theorem dX8_wipe_7 : decode cX8_wipe 7 = .ok (.istore_n 1, 1) := by decide +kernel
theorem dX8_wipe_8 : decode cX8_wipe 8 = .ok (.aload_n 0, 1) := by decide +kernel
theorem dX8_wipe_9 : decode cX8_wipe 9 = .ok (.getfield 10, 3) := by decide +kernel
theorem dX8_wipe_12 : decode cX8_wipe 12 = .ok (.iconst 0, 1) := by decide +kernel
theorem dX8_wipe_13 : decode cX8_wipe 13 = .ok (.putfield 70, 3) := by decide +kernel
theorem dX8_wipe_16 : decode cX8_wipe 16 = .ok (.iload_n 1, 1) := by decide +kernel
theorem dX8_wipe_17 : decode cX8_wipe 17 = .ok (.ireturn, 1) := by decide +kernel
theorem dX8_fault_0 : decode cX8_fault 0 = .ok (.aload_n 0, 1) := by decide +kernel
theorem dX8_fault_1 : decode cX8_fault 1 = .ok (.getfield 10, 3) := by decide +kernel
theorem dX8_fault_4 : decode cX8_fault 4 = .ok (.invokevirtual 78, 3) := by decide +kernel
theorem dX8_fault_7 : decode cX8_fault 7 = .ok (.ireturn, 1) := by decide +kernel
theorem dX8_talk_0 : decode cX8_talk 0 = .ok (.aload_n 0, 1) := by decide +kernel
theorem dX8_talk_1 : decode cX8_talk 1 = .ok (.getfield 10, 3) := by decide +kernel
theorem dX8_talk_4 : decode cX8_talk 4 = .ok (.invokevirtual 78, 3) := by decide +kernel
theorem dX8_talk_7 : decode cX8_talk 7 = .ok (.bipush (-9), 2) := by decide +kernel
theorem dX8_talk_9 : decode cX8_talk 9 = .ok (.if_icmp .eq 6, 3) := by decide +kernel
theorem dX8_talk_12 : decode cX8_talk 12 = .ok (.bipush (-3), 2) := by decide +kernel
theorem dX8_talk_14 : decode cX8_talk 14 = .ok (.ireturn, 1) := by decide +kernel
theorem dX8_talk_15 : decode cX8_talk 15 = .ok (.aload_n 0, 1) := by decide +kernel
theorem dX8_talk_16 : decode cX8_talk 16 = .ok (.getfield 10, 3) := by decide +kernel
theorem dX8_talk_19 : decode cX8_talk 19 = .ok (.aload_n 0, 1) := by decide +kernel
theorem dX8_talk_20 : decode cX8_talk 20 = .ok (.getfield 19, 3) := by decide +kernel
theorem dX8_talk_23 : decode cX8_talk 23 = .ok (.invokevirtual 82, 3) := by decide +kernel
theorem dX8_talk_26 : decode cX8_talk 26 = .ok (.aload_n 0, 1) := by decide +kernel
theorem dX8_talk_27 : decode cX8_talk 27 = .ok (.getfield 28, 3) := by decide +kernel
theorem dX8_talk_30 : decode cX8_talk 30 = .ok (.invokevirtual 85, 3) := by decide +kernel
theorem dX8_talk_33 : decode cX8_talk 33 = .ok (.aload_n 0, 1) := by decide +kernel
theorem dX8_talk_34 : decode cX8_talk 34 = .ok (.getfield 38, 3) := by decide +kernel
theorem dX8_talk_37 : decode cX8_talk 37 = .ok (.invokevirtual 88, 3) := by decide +kernel
theorem dX8_talk_40 : decode cX8_talk 40 = .ok (.aload_n 0, 1) := by decide +kernel
theorem dX8_talk_41 : decode cX8_talk 41 = .ok (.getfield 45, 3) := by decide +kernel
theorem dX8_talk_44 : decode cX8_talk 44 = .ok (.invokevirtual 91, 3) := by decide +kernel
theorem dX8_talk_47 : decode cX8_talk 47 = .ok (.bipush 10, 2) := by decide +kernel
theorem dX8_talk_49 : decode cX8_talk 49 = .ok (.aload_n 0, 1) := by decide +kernel
theorem dX8_talk_50 : decode cX8_talk 50 = .ok (.getfield 19, 3) := by decide +kernel
theorem dX8_talk_53 : decode cX8_talk 53 = .ok (.getfield 92, 3) := by decide +kernel
theorem dX8_talk_56 : decode cX8_talk 56 = .ok (.imul, 1) := by decide +kernel
theorem dX8_talk_57 : decode cX8_talk 57 = .ok (.aload_n 0, 1) := by decide +kernel
theorem dX8_talk_58 : decode cX8_talk 58 = .ok (.getfield 19, 3) := by decide +kernel
theorem dX8_talk_61 : decode cX8_talk 61 = .ok (.getfield 95, 3) := by decide +kernel
theorem dX8_talk_64 : decode cX8_talk 64 = .ok (.iadd, 1) := by decide +kernel
theorem dX8_talk_65 : decode cX8_talk 65 = .ok (.ireturn, 1) := by decide +kernel
theorem dX8_about_0 : decode cX8_about 0 = .ok (.iload_n 1, 1) := by decide +kernel
theorem dX8_about_1 : decode cX8_about 1 = .ok (.tableswitch 147 0 10 #[59, 67, 75, 83, 91, 99, 107, 115, 123, 131, 139], 59) := by decide +kernel
theorem dX8_about_60 : decode cX8_about 60 = .ok (.aload_n 0, 1) := by decide +kernel
theorem dX8_about_61 : decode cX8_about 61 = .ok (.getfield 19, 3) := by decide +kernel
theorem dX8_about_64 : decode cX8_about 64 = .ok (.getfield 92, 3) := by decide +kernel
theorem dX8_about_67 : decode cX8_about 67 = .ok (.ireturn, 1) := by decide +kernel
theorem dX8_about_68 : decode cX8_about 68 = .ok (.aload_n 0, 1) := by decide +kernel
theorem dX8_about_69 : decode cX8_about 69 = .ok (.getfield 19, 3) := by decide +kernel
theorem dX8_about_72 : decode cX8_about 72 = .ok (.getfield 95, 3) := by decide +kernel
theorem dX8_about_75 : decode cX8_about 75 = .ok (.ireturn, 1) := by decide +kernel
theorem dX8_about_76 : decode cX8_about 76 = .ok (.aload_n 0, 1) := by decide +kernel
theorem dX8_about_77 : decode cX8_about 77 = .ok (.getfield 28, 3) := by decide +kernel
theorem dX8_about_80 : decode cX8_about 80 = .ok (.getfield 98, 3) := by decide +kernel
theorem dX8_about_83 : decode cX8_about 83 = .ok (.ireturn, 1) := by decide +kernel
theorem dX8_about_84 : decode cX8_about 84 = .ok (.aload_n 0, 1) := by decide +kernel
theorem dX8_about_85 : decode cX8_about 85 = .ok (.getfield 28, 3) := by decide +kernel
theorem dX8_about_88 : decode cX8_about 88 = .ok (.getfield 101, 3) := by decide +kernel
theorem dX8_about_91 : decode cX8_about 91 = .ok (.ireturn, 1) := by decide +kernel
theorem dX8_about_92 : decode cX8_about 92 = .ok (.aload_n 0, 1) := by decide +kernel
theorem dX8_about_93 : decode cX8_about 93 = .ok (.getfield 28, 3) := by decide +kernel
theorem dX8_about_96 : decode cX8_about 96 = .ok (.getfield 104, 3) := by decide +kernel
theorem dX8_about_99 : decode cX8_about 99 = .ok (.ireturn, 1) := by decide +kernel
theorem dX8_about_100 : decode cX8_about 100 = .ok (.aload_n 0, 1) := by decide +kernel
theorem dX8_about_101 : decode cX8_about 101 = .ok (.getfield 28, 3) := by decide +kernel
theorem dX8_about_104 : decode cX8_about 104 = .ok (.getfield 107, 3) := by decide +kernel
theorem dX8_about_107 : decode cX8_about 107 = .ok (.ireturn, 1) := by decide +kernel
theorem dX8_about_108 : decode cX8_about 108 = .ok (.aload_n 0, 1) := by decide +kernel
theorem dX8_about_109 : decode cX8_about 109 = .ok (.getfield 28, 3) := by decide +kernel
theorem dX8_about_112 : decode cX8_about 112 = .ok (.getfield 110, 3) := by decide +kernel
theorem dX8_about_115 : decode cX8_about 115 = .ok (.ireturn, 1) := by decide +kernel
theorem dX8_about_116 : decode cX8_about 116 = .ok (.aload_n 0, 1) := by decide +kernel
theorem dX8_about_117 : decode cX8_about 117 = .ok (.getfield 28, 3) := by decide +kernel
theorem dX8_about_120 : decode cX8_about 120 = .ok (.invokevirtual 113, 3) := by decide +kernel
theorem dX8_about_123 : decode cX8_about 123 = .ok (.ireturn, 1) := by decide +kernel
theorem dX8_about_124 : decode cX8_about 124 = .ok (.aload_n 0, 1) := by decide +kernel
theorem dX8_about_125 : decode cX8_about 125 = .ok (.getfield 38, 3) := by decide +kernel
theorem dX8_about_128 : decode cX8_about 128 = .ok (.getfield 116, 3) := by decide +kernel
theorem dX8_about_131 : decode cX8_about 131 = .ok (.ireturn, 1) := by decide +kernel
theorem dX8_about_132 : decode cX8_about 132 = .ok (.aload_n 0, 1) := by decide +kernel
theorem dX8_about_133 : decode cX8_about 133 = .ok (.getfield 52, 3) := by decide +kernel
theorem dX8_about_136 : decode cX8_about 136 = .ok (.getfield 119, 3) := by decide +kernel
theorem dX8_about_139 : decode cX8_about 139 = .ok (.ireturn, 1) := by decide +kernel
theorem dX8_about_140 : decode cX8_about 140 = .ok (.aload_n 0, 1) := by decide +kernel
theorem dX8_about_141 : decode cX8_about 141 = .ok (.getfield 10, 3) := by decide +kernel
theorem dX8_about_144 : decode cX8_about 144 = .ok (.getfield 70, 3) := by decide +kernel
theorem dX8_about_147 : decode cX8_about 147 = .ok (.ireturn, 1) := by decide +kernel
theorem dX8_about_148 : decode cX8_about 148 = .ok (.bipush (-2), 2) := by decide +kernel
theorem dX8_about_150 : decode cX8_about 150 = .ok (.ireturn, 1) := by decide +kernel
theorem dX8_envoy_0 : decode cX8_envoy 0 = .ok (.aload_n 0, 1) := by decide +kernel
theorem dX8_envoy_1 : decode cX8_envoy 1 = .ok (.getfield 19, 3) := by decide +kernel
theorem dX8_envoy_4 : decode cX8_envoy 4 = .ok (.iload_n 1, 1) := by decide +kernel
theorem dX8_envoy_5 : decode cX8_envoy 5 = .ok (.invokevirtual 120, 3) := by decide +kernel
theorem dX8_envoy_8 : decode cX8_envoy 8 = .ok (.ifCond .ne 5, 3) := by decide +kernel
theorem dX8_envoy_11 : decode cX8_envoy 11 = .ok (.iconst (-1), 1) := by decide +kernel
theorem dX8_envoy_12 : decode cX8_envoy 12 = .ok (.ireturn, 1) := by decide +kernel
theorem dX8_envoy_13 : decode cX8_envoy 13 = .ok (.iload_n 2, 1) := by decide +kernel
theorem dX8_envoy_14 : decode cX8_envoy 14 = .ok (.tableswitch 111 0 5 #[38, 48, 58, 68, 78, 94], 38) := by decide +kernel
theorem dX8_envoy_52 : decode cX8_envoy 52 = .ok (.aload_n 0, 1) := by decide +kernel
theorem dX8_envoy_53 : decode cX8_envoy 53 = .ok (.getfield 19, 3) := by decide +kernel
theorem dX8_envoy_56 : decode cX8_envoy 56 = .ok (.getfield 124, 3) := by decide +kernel
theorem dX8_envoy_59 : decode cX8_envoy 59 = .ok (.iload_n 1, 1) := by decide +kernel
theorem dX8_envoy_60 : decode cX8_envoy 60 = .ok (.iaload, 1) := by decide +kernel
theorem dX8_envoy_61 : decode cX8_envoy 61 = .ok (.ireturn, 1) := by decide +kernel
theorem dX8_envoy_62 : decode cX8_envoy 62 = .ok (.aload_n 0, 1) := by decide +kernel
theorem dX8_envoy_63 : decode cX8_envoy 63 = .ok (.getfield 19, 3) := by decide +kernel
theorem dX8_envoy_66 : decode cX8_envoy 66 = .ok (.getfield 128, 3) := by decide +kernel
theorem dX8_envoy_69 : decode cX8_envoy 69 = .ok (.iload_n 1, 1) := by decide +kernel
theorem dX8_envoy_70 : decode cX8_envoy 70 = .ok (.iaload, 1) := by decide +kernel
theorem dX8_envoy_71 : decode cX8_envoy 71 = .ok (.ireturn, 1) := by decide +kernel
theorem dX8_envoy_72 : decode cX8_envoy 72 = .ok (.aload_n 0, 1) := by decide +kernel
theorem dX8_envoy_73 : decode cX8_envoy 73 = .ok (.getfield 19, 3) := by decide +kernel
theorem dX8_envoy_76 : decode cX8_envoy 76 = .ok (.getfield 131, 3) := by decide +kernel
theorem dX8_envoy_79 : decode cX8_envoy 79 = .ok (.iload_n 1, 1) := by decide +kernel
theorem dX8_envoy_80 : decode cX8_envoy 80 = .ok (.iaload, 1) := by decide +kernel
theorem dX8_envoy_81 : decode cX8_envoy 81 = .ok (.ireturn, 1) := by decide +kernel
theorem dX8_envoy_82 : decode cX8_envoy 82 = .ok (.aload_n 0, 1) := by decide +kernel
theorem dX8_envoy_83 : decode cX8_envoy 83 = .ok (.getfield 28, 3) := by decide +kernel
theorem dX8_envoy_86 : decode cX8_envoy 86 = .ok (.getfield 134, 3) := by decide +kernel
theorem dX8_envoy_89 : decode cX8_envoy 89 = .ok (.iload_n 1, 1) := by decide +kernel
theorem dX8_envoy_90 : decode cX8_envoy 90 = .ok (.iaload, 1) := by decide +kernel
theorem dX8_envoy_91 : decode cX8_envoy 91 = .ok (.ireturn, 1) := by decide +kernel
theorem dX8_envoy_92 : decode cX8_envoy 92 = .ok (.aload_n 0, 1) := by decide +kernel
theorem dX8_envoy_93 : decode cX8_envoy 93 = .ok (.getfield 19, 3) := by decide +kernel
theorem dX8_envoy_96 : decode cX8_envoy 96 = .ok (.iload_n 1, 1) := by decide +kernel
theorem dX8_envoy_97 : decode cX8_envoy 97 = .ok (.aload_n 0, 1) := by decide +kernel
theorem dX8_envoy_98 : decode cX8_envoy 98 = .ok (.getfield 28, 3) := by decide +kernel
theorem dX8_envoy_101 : decode cX8_envoy 101 = .ok (.getfield 98, 3) := by decide +kernel
theorem dX8_envoy_104 : decode cX8_envoy 104 = .ok (.invokevirtual 137, 3) := by decide +kernel
theorem dX8_envoy_107 : decode cX8_envoy 107 = .ok (.ireturn, 1) := by decide +kernel
theorem dX8_envoy_108 : decode cX8_envoy 108 = .ok (.aload_n 0, 1) := by decide +kernel
theorem dX8_envoy_109 : decode cX8_envoy 109 = .ok (.getfield 28, 3) := by decide +kernel
theorem dX8_envoy_112 : decode cX8_envoy 112 = .ok (.iload_n 1, 1) := by decide +kernel
theorem dX8_envoy_113 : decode cX8_envoy 113 = .ok (.invokevirtual 141, 3) := by decide +kernel
theorem dX8_envoy_116 : decode cX8_envoy 116 = .ok (.ifCond .eq 7, 3) := by decide +kernel
theorem dX8_envoy_119 : decode cX8_envoy 119 = .ok (.iconst 1, 1) := by decide +kernel
theorem dX8_envoy_120 : decode cX8_envoy 120 = .ok (.goto 4, 3) := by decide +kernel
theorem dX8_envoy_123 : decode cX8_envoy 123 = .ok (.iconst 0, 1) := by decide +kernel
theorem dX8_envoy_124 : decode cX8_envoy 124 = .ok (.ireturn, 1) := by decide +kernel
theorem dX8_envoy_125 : decode cX8_envoy 125 = .ok (.bipush (-2), 2) := by decide +kernel
theorem dX8_envoy_127 : decode cX8_envoy 127 = .ok (.ireturn, 1) := by decide +kernel
theorem dX8_clause_0 : decode cX8_clause 0 = .ok (.aload_n 0, 1) := by decide +kernel
theorem dX8_clause_1 : decode cX8_clause 1 = .ok (.getfield 19, 3) := by decide +kernel
theorem dX8_clause_4 : decode cX8_clause 4 = .ok (.iload_n 1, 1) := by decide +kernel
theorem dX8_clause_5 : decode cX8_clause 5 = .ok (.invokevirtual 144, 3) := by decide +kernel
theorem dX8_clause_8 : decode cX8_clause 8 = .ok (.ifCond .ne 5, 3) := by decide +kernel
theorem dX8_clause_11 : decode cX8_clause 11 = .ok (.iconst (-1), 1) := by decide +kernel
theorem dX8_clause_12 : decode cX8_clause 12 = .ok (.ireturn, 1) := by decide +kernel
theorem dX8_clause_13 : decode cX8_clause 13 = .ok (.iload_n 2, 1) := by decide +kernel
theorem dX8_clause_14 : decode cX8_clause 14 = .ok (.tableswitch 69 0 3 #[30, 40, 50, 60], 30) := by decide +kernel
theorem dX8_clause_44 : decode cX8_clause 44 = .ok (.aload_n 0, 1) := by decide +kernel
theorem dX8_clause_45 : decode cX8_clause 45 = .ok (.getfield 19, 3) := by decide +kernel
theorem dX8_clause_48 : decode cX8_clause 48 = .ok (.getfield 147, 3) := by decide +kernel
theorem dX8_clause_51 : decode cX8_clause 51 = .ok (.iload_n 1, 1) := by decide +kernel
theorem dX8_clause_52 : decode cX8_clause 52 = .ok (.iaload, 1) := by decide +kernel
theorem dX8_clause_53 : decode cX8_clause 53 = .ok (.ireturn, 1) := by decide +kernel
theorem dX8_clause_54 : decode cX8_clause 54 = .ok (.aload_n 0, 1) := by decide +kernel
theorem dX8_clause_55 : decode cX8_clause 55 = .ok (.getfield 19, 3) := by decide +kernel
theorem dX8_clause_58 : decode cX8_clause 58 = .ok (.getfield 150, 3) := by decide +kernel
theorem dX8_clause_61 : decode cX8_clause 61 = .ok (.iload_n 1, 1) := by decide +kernel
theorem dX8_clause_62 : decode cX8_clause 62 = .ok (.iaload, 1) := by decide +kernel
theorem dX8_clause_63 : decode cX8_clause 63 = .ok (.ireturn, 1) := by decide +kernel
theorem dX8_clause_64 : decode cX8_clause 64 = .ok (.aload_n 0, 1) := by decide +kernel
theorem dX8_clause_65 : decode cX8_clause 65 = .ok (.getfield 19, 3) := by decide +kernel
theorem dX8_clause_68 : decode cX8_clause 68 = .ok (.getfield 153, 3) := by decide +kernel
theorem dX8_clause_71 : decode cX8_clause 71 = .ok (.iload_n 1, 1) := by decide +kernel
theorem dX8_clause_72 : decode cX8_clause 72 = .ok (.iaload, 1) := by decide +kernel
theorem dX8_clause_73 : decode cX8_clause 73 = .ok (.ireturn, 1) := by decide +kernel
theorem dX8_clause_74 : decode cX8_clause 74 = .ok (.aload_n 0, 1) := by decide +kernel
theorem dX8_clause_75 : decode cX8_clause 75 = .ok (.getfield 19, 3) := by decide +kernel
theorem dX8_clause_78 : decode cX8_clause 78 = .ok (.iload_n 1, 1) := by decide +kernel
theorem dX8_clause_79 : decode cX8_clause 79 = .ok (.invokevirtual 156, 3) := by decide +kernel
theorem dX8_clause_82 : decode cX8_clause 82 = .ok (.ireturn, 1) := by decide +kernel
theorem dX8_clause_83 : decode cX8_clause 83 = .ok (.bipush (-2), 2) := by decide +kernel
theorem dX8_clause_85 : decode cX8_clause 85 = .ok (.ireturn, 1) := by decide +kernel
theorem dX8_bite_0 : decode cX8_bite 0 = .ok (.aload_n 0, 1) := by decide +kernel
theorem dX8_bite_1 : decode cX8_bite 1 = .ok (.getfield 28, 3) := by decide +kernel
theorem dX8_bite_4 : decode cX8_bite 4 = .ok (.getfield 104, 3) := by decide +kernel
theorem dX8_bite_7 : decode cX8_bite 7 = .ok (.ifCond .ne 6, 3) := by decide +kernel
theorem dX8_bite_10 : decode cX8_bite 10 = .ok (.bipush (-3), 2) := by decide +kernel
theorem dX8_bite_12 : decode cX8_bite 12 = .ok (.ireturn, 1) := by decide +kernel
theorem dX8_bite_13 : decode cX8_bite 13 = .ok (.aload_n 0, 1) := by decide +kernel
theorem dX8_bite_14 : decode cX8_bite 14 = .ok (.getfield 38, 3) := by decide +kernel
theorem dX8_bite_17 : decode cX8_bite 17 = .ok (.aload_n 0, 1) := by decide +kernel
theorem dX8_bite_18 : decode cX8_bite 18 = .ok (.getfield 28, 3) := by decide +kernel
theorem dX8_bite_21 : decode cX8_bite 21 = .ok (.invokevirtual 160, 3) := by decide +kernel
theorem dX8_bite_24 : decode cX8_bite 24 = .ok (.aload_n 0, 1) := by decide +kernel
theorem dX8_bite_25 : decode cX8_bite 25 = .ok (.getfield 28, 3) := by decide +kernel
theorem dX8_bite_28 : decode cX8_bite 28 = .ok (.invokevirtual 164, 3) := by decide +kernel
theorem dX8_bite_31 : decode cX8_bite 31 = .ok (.aload_n 0, 1) := by decide +kernel
theorem dX8_bite_32 : decode cX8_bite 32 = .ok (.getfield 28, 3) := by decide +kernel
theorem dX8_bite_35 : decode cX8_bite 35 = .ok (.getfield 104, 3) := by decide +kernel
theorem dX8_bite_38 : decode cX8_bite 38 = .ok (.ireturn, 1) := by decide +kernel
theorem dX8_say_0 : decode cX8_say 0 = .ok (.aload_n 0, 1) := by decide +kernel
theorem dX8_say_1 : decode cX8_say 1 = .ok (.getfield 19, 3) := by decide +kernel
theorem dX8_say_4 : decode cX8_say 4 = .ok (.iload_n 1, 1) := by decide +kernel
theorem dX8_say_5 : decode cX8_say 5 = .ok (.invokevirtual 144, 3) := by decide +kernel
theorem dX8_say_8 : decode cX8_say 8 = .ok (.ifCond .ne 5, 3) := by decide +kernel
theorem dX8_say_11 : decode cX8_say 11 = .ok (.iconst (-1), 1) := by decide +kernel
theorem dX8_say_12 : decode cX8_say 12 = .ok (.ireturn, 1) := by decide +kernel
theorem dX8_say_13 : decode cX8_say 13 = .ok (.aload_n 0, 1) := by decide +kernel
theorem dX8_say_14 : decode cX8_say 14 = .ok (.getfield 28, 3) := by decide +kernel
theorem dX8_say_17 : decode cX8_say 17 = .ok (.iload_n 1, 1) := by decide +kernel
theorem dX8_say_18 : decode cX8_say 18 = .ok (.invokevirtual 167, 3) := by decide +kernel
theorem dX8_say_21 : decode cX8_say 21 = .ok (.ifCond .ne 6, 3) := by decide +kernel
theorem dX8_say_24 : decode cX8_say 24 = .ok (.bipush (-3), 2) := by decide +kernel
theorem dX8_say_26 : decode cX8_say 26 = .ok (.ireturn, 1) := by decide +kernel
theorem dX8_say_27 : decode cX8_say 27 = .ok (.aload_n 0, 1) := by decide +kernel
theorem dX8_say_28 : decode cX8_say 28 = .ok (.getfield 38, 3) := by decide +kernel
theorem dX8_say_31 : decode cX8_say 31 = .ok (.aload_n 0, 1) := by decide +kernel
theorem dX8_say_32 : decode cX8_say 32 = .ok (.getfield 28, 3) := by decide +kernel
theorem dX8_say_35 : decode cX8_say 35 = .ok (.invokevirtual 160, 3) := by decide +kernel
theorem dX8_say_38 : decode cX8_say 38 = .ok (.aload_n 0, 1) := by decide +kernel
theorem dX8_say_39 : decode cX8_say 39 = .ok (.getfield 28, 3) := by decide +kernel
theorem dX8_say_42 : decode cX8_say 42 = .ok (.iload_n 1, 1) := by decide +kernel
theorem dX8_say_43 : decode cX8_say 43 = .ok (.invokevirtual 170, 3) := by decide +kernel
theorem dX8_say_46 : decode cX8_say 46 = .ok (.aload_n 0, 1) := by decide +kernel
theorem dX8_say_47 : decode cX8_say 47 = .ok (.getfield 28, 3) := by decide +kernel
theorem dX8_say_50 : decode cX8_say 50 = .ok (.getfield 107, 3) := by decide +kernel
theorem dX8_say_53 : decode cX8_say 53 = .ok (.ireturn, 1) := by decide +kernel
theorem dX8_spice_0 : decode cX8_spice 0 = .ok (.aload_n 0, 1) := by decide +kernel
theorem dX8_spice_1 : decode cX8_spice 1 = .ok (.getfield 28, 3) := by decide +kernel
theorem dX8_spice_4 : decode cX8_spice 4 = .ok (.getfield 101, 3) := by decide +kernel
theorem dX8_spice_7 : decode cX8_spice 7 = .ok (.ifCond .gt 6, 3) := by decide +kernel
theorem dX8_spice_10 : decode cX8_spice 10 = .ok (.bipush (-3), 2) := by decide +kernel
theorem dX8_spice_12 : decode cX8_spice 12 = .ok (.ireturn, 1) := by decide +kernel
theorem dX8_spice_13 : decode cX8_spice 13 = .ok (.aload_n 0, 1) := by decide +kernel
theorem dX8_spice_14 : decode cX8_spice 14 = .ok (.getfield 38, 3) := by decide +kernel
theorem dX8_spice_17 : decode cX8_spice 17 = .ok (.aload_n 0, 1) := by decide +kernel
theorem dX8_spice_18 : decode cX8_spice 18 = .ok (.getfield 28, 3) := by decide +kernel
theorem dX8_spice_21 : decode cX8_spice 21 = .ok (.invokevirtual 160, 3) := by decide +kernel
theorem dX8_spice_24 : decode cX8_spice 24 = .ok (.aload_n 0, 1) := by decide +kernel
theorem dX8_spice_25 : decode cX8_spice 25 = .ok (.getfield 28, 3) := by decide +kernel
theorem dX8_spice_28 : decode cX8_spice 28 = .ok (.invokevirtual 173, 3) := by decide +kernel
theorem dX8_spice_31 : decode cX8_spice 31 = .ok (.aload_n 0, 1) := by decide +kernel
theorem dX8_spice_32 : decode cX8_spice 32 = .ok (.getfield 28, 3) := by decide +kernel
theorem dX8_spice_35 : decode cX8_spice 35 = .ok (.getfield 98, 3) := by decide +kernel
theorem dX8_spice_38 : decode cX8_spice 38 = .ok (.ireturn, 1) := by decide +kernel
theorem dX8_bread_0 : decode cX8_bread 0 = .ok (.aload_n 0, 1) := by decide +kernel
theorem dX8_bread_1 : decode cX8_bread 1 = .ok (.getfield 19, 3) := by decide +kernel
theorem dX8_bread_4 : decode cX8_bread 4 = .ok (.iload_n 1, 1) := by decide +kernel
theorem dX8_bread_5 : decode cX8_bread 5 = .ok (.invokevirtual 120, 3) := by decide +kernel
theorem dX8_bread_8 : decode cX8_bread 8 = .ok (.ifCond .ne 5, 3) := by decide +kernel
theorem dX8_bread_11 : decode cX8_bread 11 = .ok (.iconst (-1), 1) := by decide +kernel
theorem dX8_bread_12 : decode cX8_bread 12 = .ok (.ireturn, 1) := by decide +kernel
theorem dX8_bread_13 : decode cX8_bread 13 = .ok (.aload_n 0, 1) := by decide +kernel
theorem dX8_bread_14 : decode cX8_bread 14 = .ok (.getfield 28, 3) := by decide +kernel
theorem dX8_bread_17 : decode cX8_bread 17 = .ok (.iload_n 1, 1) := by decide +kernel
theorem dX8_bread_18 : decode cX8_bread 18 = .ok (.invokevirtual 176, 3) := by decide +kernel
theorem dX8_bread_21 : decode cX8_bread 21 = .ok (.ifCond .eq 14, 3) := by decide +kernel
theorem dX8_bread_24 : decode cX8_bread 24 = .ok (.aload_n 0, 1) := by decide +kernel
theorem dX8_bread_25 : decode cX8_bread 25 = .ok (.getfield 28, 3) := by decide +kernel
theorem dX8_bread_28 : decode cX8_bread 28 = .ok (.iload_n 1, 1) := by decide +kernel
theorem dX8_bread_29 : decode cX8_bread 29 = .ok (.invokevirtual 141, 3) := by decide +kernel
theorem dX8_bread_32 : decode cX8_bread 32 = .ok (.ifCond .eq 6, 3) := by decide +kernel
theorem dX8_bread_35 : decode cX8_bread 35 = .ok (.bipush (-3), 2) := by decide +kernel
theorem dX8_bread_37 : decode cX8_bread 37 = .ok (.ireturn, 1) := by decide +kernel
theorem dX8_bread_38 : decode cX8_bread 38 = .ok (.aload_n 0, 1) := by decide +kernel
theorem dX8_bread_39 : decode cX8_bread 39 = .ok (.getfield 38, 3) := by decide +kernel
theorem dX8_bread_42 : decode cX8_bread 42 = .ok (.aload_n 0, 1) := by decide +kernel
theorem dX8_bread_43 : decode cX8_bread 43 = .ok (.getfield 28, 3) := by decide +kernel
theorem dX8_bread_46 : decode cX8_bread 46 = .ok (.invokevirtual 160, 3) := by decide +kernel
theorem dX8_bread_49 : decode cX8_bread 49 = .ok (.aload_n 0, 1) := by decide +kernel
theorem dX8_bread_50 : decode cX8_bread 50 = .ok (.getfield 28, 3) := by decide +kernel
theorem dX8_bread_53 : decode cX8_bread 53 = .ok (.iload_n 1, 1) := by decide +kernel
theorem dX8_bread_54 : decode cX8_bread 54 = .ok (.invokevirtual 179, 3) := by decide +kernel
theorem dX8_bread_57 : decode cX8_bread 57 = .ok (.aload_n 0, 1) := by decide +kernel
theorem dX8_bread_58 : decode cX8_bread 58 = .ok (.getfield 28, 3) := by decide +kernel
theorem dX8_bread_61 : decode cX8_bread 61 = .ok (.getfield 134, 3) := by decide +kernel
theorem dX8_bread_64 : decode cX8_bread 64 = .ok (.iload_n 1, 1) := by decide +kernel
theorem dX8_bread_65 : decode cX8_bread 65 = .ok (.iaload, 1) := by decide +kernel
theorem dX8_bread_66 : decode cX8_bread 66 = .ok (.ireturn, 1) := by decide +kernel
theorem dX8_undo_0 : decode cX8_undo 0 = .ok (.aload_n 0, 1) := by decide +kernel
theorem dX8_undo_1 : decode cX8_undo 1 = .ok (.getfield 38, 3) := by decide +kernel
theorem dX8_undo_4 : decode cX8_undo 4 = .ok (.getfield 116, 3) := by decide +kernel
theorem dX8_undo_7 : decode cX8_undo 7 = .ok (.ifCond .gt 6, 3) := by decide +kernel
theorem dX8_undo_10 : decode cX8_undo 10 = .ok (.bipush (-3), 2) := by decide +kernel
theorem dX8_undo_12 : decode cX8_undo 12 = .ok (.ireturn, 1) := by decide +kernel
theorem dX8_undo_13 : decode cX8_undo 13 = .ok (.aload_n 0, 1) := by decide +kernel
theorem dX8_undo_14 : decode cX8_undo 14 = .ok (.getfield 38, 3) := by decide +kernel
theorem dX8_undo_17 : decode cX8_undo 17 = .ok (.aload_n 0, 1) := by decide +kernel
theorem dX8_undo_18 : decode cX8_undo 18 = .ok (.getfield 28, 3) := by decide +kernel
theorem dX8_undo_21 : decode cX8_undo 21 = .ok (.invokevirtual 182, 3) := by decide +kernel
theorem dX8_undo_24 : decode cX8_undo 24 = .ok (.aload_n 0, 1) := by decide +kernel
theorem dX8_undo_25 : decode cX8_undo 25 = .ok (.getfield 38, 3) := by decide +kernel
theorem dX8_undo_28 : decode cX8_undo 28 = .ok (.getfield 116, 3) := by decide +kernel
theorem dX8_undo_31 : decode cX8_undo 31 = .ok (.ireturn, 1) := by decide +kernel
theorem dX8_lasts_0 : decode cX8_lasts 0 = .ok (.bipush 15, 2) := by decide +kernel
theorem dX8_lasts_2 : decode cX8_lasts 2 = .ok (.istore_n 1, 1) := by decide +kernel
theorem dX8_lasts_3 : decode cX8_lasts 3 = .ok (.aload_n 0, 1) := by decide +kernel
theorem dX8_lasts_4 : decode cX8_lasts 4 = .ok (.iload_n 1, 1) := by decide +kernel
theorem dX8_lasts_5 : decode cX8_lasts 5 = .ok (.invokevirtual 185, 3) := by decide +kernel
theorem dX8_lasts_8 : decode cX8_lasts 8 = .ok (.ireturn, 1) := by decide +kernel
theorem dX8_bears_0 : decode cX8_bears 0 = .ok (.aload_n 0, 1) := by decide +kernel
theorem dX8_bears_1 : decode cX8_bears 1 = .ok (.getfield 19, 3) := by decide +kernel
theorem dX8_bears_4 : decode cX8_bears 4 = .ok (.iload_n 1, 1) := by decide +kernel
theorem dX8_bears_5 : decode cX8_bears 5 = .ok (.invokevirtual 120, 3) := by decide +kernel
theorem dX8_bears_8 : decode cX8_bears 8 = .ok (.ifCond .ne 5, 3) := by decide +kernel
theorem dX8_bears_11 : decode cX8_bears 11 = .ok (.iconst (-1), 1) := by decide +kernel
theorem dX8_bears_12 : decode cX8_bears 12 = .ok (.ireturn, 1) := by decide +kernel
theorem dX8_bears_13 : decode cX8_bears 13 = .ok (.aload_n 0, 1) := by decide +kernel
theorem dX8_bears_14 : decode cX8_bears 14 = .ok (.getfield 28, 3) := by decide +kernel
theorem dX8_bears_17 : decode cX8_bears 17 = .ok (.iload_n 1, 1) := by decide +kernel
theorem dX8_bears_18 : decode cX8_bears 18 = .ok (.invokevirtual 176, 3) := by decide +kernel
theorem dX8_bears_21 : decode cX8_bears 21 = .ok (.ifCond .ne 6, 3) := by decide +kernel
theorem dX8_bears_24 : decode cX8_bears 24 = .ok (.bipush (-3), 2) := by decide +kernel
theorem dX8_bears_26 : decode cX8_bears 26 = .ok (.ireturn, 1) := by decide +kernel
theorem dX8_bears_27 : decode cX8_bears 27 = .ok (.aload_n 0, 1) := by decide +kernel
theorem dX8_bears_28 : decode cX8_bears 28 = .ok (.iconst 1, 1) := by decide +kernel
theorem dX8_bears_29 : decode cX8_bears 29 = .ok (.iload_n 1, 1) := by decide +kernel
theorem dX8_bears_30 : decode cX8_bears 30 = .ok (.ishl, 1) := by decide +kernel
theorem dX8_bears_31 : decode cX8_bears 31 = .ok (.invokevirtual 185, 3) := by decide +kernel
theorem dX8_bears_34 : decode cX8_bears 34 = .ok (.ireturn, 1) := by decide +kernel
theorem dX8_bitesTillNoneOf_0 : decode cX8_bitesTillNoneOf 0 = .ok (.aload_n 0, 1) := by decide +kernel
theorem dX8_bitesTillNoneOf_1 : decode cX8_bitesTillNoneOf 1 = .ok (.getfield 32, 3) := by decide +kernel
theorem dX8_bitesTillNoneOf_4 : decode cX8_bitesTillNoneOf 4 = .ok (.aload_n 0, 1) := by decide +kernel
theorem dX8_bitesTillNoneOf_5 : decode cX8_bitesTillNoneOf 5 = .ok (.getfield 28, 3) := by decide +kernel
theorem dX8_bitesTillNoneOf_8 : decode cX8_bitesTillNoneOf 8 = .ok (.invokevirtual 188, 3) := by decide +kernel
theorem dX8_bitesTillNoneOf_11 : decode cX8_bitesTillNoneOf 11 = .ok (.iconst 0, 1) := by decide +kernel
theorem dX8_bitesTillNoneOf_12 : decode cX8_bitesTillNoneOf 12 = .ok (.istore_n 2, 1) := by decide +kernel
theorem dX8_bitesTillNoneOf_13 : decode cX8_bitesTillNoneOf 13 = .ok (.iload_n 2, 1) := by decide +kernel
theorem dX8_bitesTillNoneOf_14 : decode cX8_bitesTillNoneOf 14 = .ok (.bipush 60, 2) := by decide +kernel
theorem dX8_bitesTillNoneOf_16 : decode cX8_bitesTillNoneOf 16 = .ok (.if_icmp .gt 30, 3) := by decide +kernel
theorem dX8_bitesTillNoneOf_19 : decode cX8_bitesTillNoneOf 19 = .ok (.aload_n 0, 1) := by decide +kernel
theorem dX8_bitesTillNoneOf_20 : decode cX8_bitesTillNoneOf 20 = .ok (.getfield 32, 3) := by decide +kernel
theorem dX8_bitesTillNoneOf_23 : decode cX8_bitesTillNoneOf 23 = .ok (.getfield 104, 3) := by decide +kernel
theorem dX8_bitesTillNoneOf_26 : decode cX8_bitesTillNoneOf 26 = .ok (.iload_n 1, 1) := by decide +kernel
theorem dX8_bitesTillNoneOf_27 : decode cX8_bitesTillNoneOf 27 = .ok (.iand, 1) := by decide +kernel
theorem dX8_bitesTillNoneOf_28 : decode cX8_bitesTillNoneOf 28 = .ok (.ifCond .ne 5, 3) := by decide +kernel
theorem dX8_bitesTillNoneOf_31 : decode cX8_bitesTillNoneOf 31 = .ok (.iload_n 2, 1) := by decide +kernel
theorem dX8_bitesTillNoneOf_32 : decode cX8_bitesTillNoneOf 32 = .ok (.ireturn, 1) := by decide +kernel
theorem dX8_bitesTillNoneOf_33 : decode cX8_bitesTillNoneOf 33 = .ok (.aload_n 0, 1) := by decide +kernel
theorem dX8_bitesTillNoneOf_34 : decode cX8_bitesTillNoneOf 34 = .ok (.getfield 32, 3) := by decide +kernel
theorem dX8_bitesTillNoneOf_37 : decode cX8_bitesTillNoneOf 37 = .ok (.invokevirtual 164, 3) := by decide +kernel
theorem dX8_bitesTillNoneOf_40 : decode cX8_bitesTillNoneOf 40 = .ok (.iinc 2 1, 3) := by decide +kernel
theorem dX8_bitesTillNoneOf_43 : decode cX8_bitesTillNoneOf 43 = .ok (.goto (-30), 3) := by decide +kernel
theorem dX8_bitesTillNoneOf_46 : decode cX8_bitesTillNoneOf 46 = .ok (.bipush (-9), 2) := by decide +kernel
theorem dX8_bitesTillNoneOf_48 : decode cX8_bitesTillNoneOf 48 = .ok (.ireturn, 1) := by decide +kernel
theorem dX8_best_0 : decode cX8_best 0 = .ok (.iload_n 1, 1) := by decide +kernel
theorem dX8_best_1 : decode cX8_best 1 = .ok (.iconst 1, 1) := by decide +kernel
theorem dX8_best_2 : decode cX8_best 2 = .ok (.if_icmp .lt 8, 3) := by decide +kernel
theorem dX8_best_5 : decode cX8_best 5 = .ok (.iload_n 1, 1) := by decide +kernel
theorem dX8_best_6 : decode cX8_best 6 = .ok (.iconst 5, 1) := by decide +kernel
theorem dX8_best_7 : decode cX8_best 7 = .ok (.if_icmp .le 6, 3) := by decide +kernel
theorem dX8_best_10 : decode cX8_best 10 = .ok (.bipush (-2), 2) := by decide +kernel
theorem dX8_best_12 : decode cX8_best 12 = .ok (.ireturn, 1) := by decide +kernel
theorem dX8_best_13 : decode cX8_best 13 = .ok (.aload_n 0, 1) := by decide +kernel
theorem dX8_best_14 : decode cX8_best 14 = .ok (.getfield 59, 3) := by decide +kernel
theorem dX8_best_17 : decode cX8_best 17 = .ok (.aload_n 0, 1) := by decide +kernel
theorem dX8_best_18 : decode cX8_best 18 = .ok (.getfield 28, 3) := by decide +kernel
theorem dX8_best_21 : decode cX8_best 21 = .ok (.iload_n 1, 1) := by decide +kernel
theorem dX8_best_22 : decode cX8_best 22 = .ok (.bipush 31, 2) := by decide +kernel
theorem dX8_best_24 : decode cX8_best 24 = .ok (.invokevirtual 191, 3) := by decide +kernel
theorem dX8_best_27 : decode cX8_best 27 = .ok (.istore_n 3, 1) := by decide +kernel
theorem dX8_best_28 : decode cX8_best 28 = .ok (.iload_n 2, 1) := by decide +kernel
theorem dX8_best_29 : decode cX8_best 29 = .ok (.ifCond .eq 13, 3) := by decide +kernel
theorem dX8_best_32 : decode cX8_best 32 = .ok (.aload_n 0, 1) := by decide +kernel
theorem dX8_best_33 : decode cX8_best 33 = .ok (.getfield 59, 3) := by decide +kernel
theorem dX8_best_36 : decode cX8_best 36 = .ok (.getfield 195, 3) := by decide +kernel
theorem dX8_best_39 : decode cX8_best 39 = .ok (.goto 4, 3) := by decide +kernel
theorem dX8_best_42 : decode cX8_best 42 = .ok (.iload_n 3, 1) := by decide +kernel
theorem dX8_best_43 : decode cX8_best 43 = .ok (.ireturn, 1) := by decide +kernel
theorem dX8_hot_0 : decode cX8_hot 0 = .ok (.aload_n 0, 1) := by decide +kernel
theorem dX8_hot_1 : decode cX8_hot 1 = .ok (.getfield 19, 3) := by decide +kernel
theorem dX8_hot_4 : decode cX8_hot 4 = .ok (.iload_n 1, 1) := by decide +kernel
theorem dX8_hot_5 : decode cX8_hot 5 = .ok (.invokevirtual 144, 3) := by decide +kernel
theorem dX8_hot_8 : decode cX8_hot 8 = .ok (.ifCond .ne 5, 3) := by decide +kernel
theorem dX8_hot_11 : decode cX8_hot 11 = .ok (.iconst (-1), 1) := by decide +kernel
theorem dX8_hot_12 : decode cX8_hot 12 = .ok (.ireturn, 1) := by decide +kernel
theorem dX8_hot_13 : decode cX8_hot 13 = .ok (.iload_n 2, 1) := by decide +kernel
theorem dX8_hot_14 : decode cX8_hot 14 = .ok (.ifCond .lt 9, 3) := by decide +kernel
theorem dX8_hot_17 : decode cX8_hot 17 = .ok (.iload_n 2, 1) := by decide +kernel
theorem dX8_hot_18 : decode cX8_hot 18 = .ok (.bipush 9, 2) := by decide +kernel
theorem dX8_hot_20 : decode cX8_hot 20 = .ok (.if_icmp .le 6, 3) := by decide +kernel
theorem dX8_hot_23 : decode cX8_hot 23 = .ok (.bipush (-2), 2) := by decide +kernel
theorem dX8_hot_25 : decode cX8_hot 25 = .ok (.ireturn, 1) := by decide +kernel
theorem dX8_hot_26 : decode cX8_hot 26 = .ok (.iconst 0, 1) := by decide +kernel
theorem dX8_hot_27 : decode cX8_hot 27 = .ok (.istore_n 3, 1) := by decide +kernel
theorem dX8_hot_28 : decode cX8_hot 28 = .ok (.iconst 0, 1) := by decide +kernel
theorem dX8_hot_29 : decode cX8_hot 29 = .ok (.istore 4, 2) := by decide +kernel
theorem dX8_hot_31 : decode cX8_hot 31 = .ok (.iload 4, 2) := by decide +kernel
theorem dX8_hot_33 : decode cX8_hot 33 = .ok (.bipush 9, 2) := by decide +kernel
theorem dX8_hot_35 : decode cX8_hot 35 = .ok (.if_icmp .gt 27, 3) := by decide +kernel
theorem dX8_hot_38 : decode cX8_hot 38 = .ok (.aload_n 0, 1) := by decide +kernel
theorem dX8_hot_39 : decode cX8_hot 39 = .ok (.iload 4, 2) := by decide +kernel
theorem dX8_hot_41 : decode cX8_hot 41 = .ok (.iload_n 1, 1) := by decide +kernel
theorem dX8_hot_42 : decode cX8_hot 42 = .ok (.iload_n 2, 1) := by decide +kernel
theorem dX8_hot_43 : decode cX8_hot 43 = .ok (.invokevirtual 198, 3) := by decide +kernel
theorem dX8_hot_46 : decode cX8_hot 46 = .ok (.ifCond .eq 10, 3) := by decide +kernel
theorem dX8_hot_49 : decode cX8_hot 49 = .ok (.iload_n 3, 1) := by decide +kernel
theorem dX8_hot_50 : decode cX8_hot 50 = .ok (.iconst 1, 1) := by decide +kernel
theorem dX8_hot_51 : decode cX8_hot 51 = .ok (.iload 4, 2) := by decide +kernel
theorem dX8_hot_53 : decode cX8_hot 53 = .ok (.ishl, 1) := by decide +kernel
theorem dX8_hot_54 : decode cX8_hot 54 = .ok (.ior, 1) := by decide +kernel
theorem dX8_hot_55 : decode cX8_hot 55 = .ok (.istore_n 3, 1) := by decide +kernel
theorem dX8_hot_56 : decode cX8_hot 56 = .ok (.iinc 4 1, 3) := by decide +kernel
theorem dX8_hot_59 : decode cX8_hot 59 = .ok (.goto (-28), 3) := by decide +kernel
theorem dX8_hot_62 : decode cX8_hot 62 = .ok (.iload_n 3, 1) := by decide +kernel
theorem dX8_hot_63 : decode cX8_hot 63 = .ok (.ireturn, 1) := by decide +kernel
theorem dX8_canBeSaidFrom_0 : decode cX8_canBeSaidFrom 0 = .ok (.aload_n 0, 1) := by decide +kernel
theorem dX8_canBeSaidFrom_1 : decode cX8_canBeSaidFrom 1 = .ok (.getfield 32, 3) := by decide +kernel
theorem dX8_canBeSaidFrom_4 : decode cX8_canBeSaidFrom 4 = .ok (.aload_n 0, 1) := by decide +kernel
theorem dX8_canBeSaidFrom_5 : decode cX8_canBeSaidFrom 5 = .ok (.getfield 28, 3) := by decide +kernel
theorem dX8_canBeSaidFrom_8 : decode cX8_canBeSaidFrom 8 = .ok (.invokevirtual 188, 3) := by decide +kernel
theorem dX8_canBeSaidFrom_11 : decode cX8_canBeSaidFrom 11 = .ok (.aload_n 0, 1) := by decide +kernel
theorem dX8_canBeSaidFrom_12 : decode cX8_canBeSaidFrom 12 = .ok (.getfield 32, 3) := by decide +kernel
theorem dX8_canBeSaidFrom_15 : decode cX8_canBeSaidFrom 15 = .ok (.iload_n 1, 1) := by decide +kernel
theorem dX8_canBeSaidFrom_16 : decode cX8_canBeSaidFrom 16 = .ok (.putfield 98, 3) := by decide +kernel
theorem dX8_canBeSaidFrom_19 : decode cX8_canBeSaidFrom 19 = .ok (.iconst 0, 1) := by decide +kernel
theorem dX8_canBeSaidFrom_20 : decode cX8_canBeSaidFrom 20 = .ok (.istore 4, 2) := by decide +kernel
theorem dX8_canBeSaidFrom_22 : decode cX8_canBeSaidFrom 22 = .ok (.iload 4, 2) := by decide +kernel
theorem dX8_canBeSaidFrom_24 : decode cX8_canBeSaidFrom 24 = .ok (.iload_n 3, 1) := by decide +kernel
theorem dX8_canBeSaidFrom_25 : decode cX8_canBeSaidFrom 25 = .ok (.if_icmp .ge 16, 3) := by decide +kernel
theorem dX8_canBeSaidFrom_28 : decode cX8_canBeSaidFrom 28 = .ok (.aload_n 0, 1) := by decide +kernel
theorem dX8_canBeSaidFrom_29 : decode cX8_canBeSaidFrom 29 = .ok (.getfield 32, 3) := by decide +kernel
theorem dX8_canBeSaidFrom_32 : decode cX8_canBeSaidFrom 32 = .ok (.invokevirtual 164, 3) := by decide +kernel
theorem dX8_canBeSaidFrom_35 : decode cX8_canBeSaidFrom 35 = .ok (.iinc 4 1, 3) := by decide +kernel
theorem dX8_canBeSaidFrom_38 : decode cX8_canBeSaidFrom 38 = .ok (.goto (-16), 3) := by decide +kernel
theorem dX8_canBeSaidFrom_41 : decode cX8_canBeSaidFrom 41 = .ok (.aload_n 0, 1) := by decide +kernel
theorem dX8_canBeSaidFrom_42 : decode cX8_canBeSaidFrom 42 = .ok (.getfield 32, 3) := by decide +kernel
theorem dX8_canBeSaidFrom_45 : decode cX8_canBeSaidFrom 45 = .ok (.iload_n 2, 1) := by decide +kernel
theorem dX8_canBeSaidFrom_46 : decode cX8_canBeSaidFrom 46 = .ok (.invokevirtual 167, 3) := by decide +kernel
theorem dX8_canBeSaidFrom_49 : decode cX8_canBeSaidFrom 49 = .ok (.ireturn, 1) := by decide +kernel
theorem dX8_spiceFor_0 : decode cX8_spiceFor 0 = .ok (.aload_n 0, 1) := by decide +kernel
theorem dX8_spiceFor_1 : decode cX8_spiceFor 1 = .ok (.getfield 19, 3) := by decide +kernel
theorem dX8_spiceFor_4 : decode cX8_spiceFor 4 = .ok (.iload_n 1, 1) := by decide +kernel
theorem dX8_spiceFor_5 : decode cX8_spiceFor 5 = .ok (.invokevirtual 144, 3) := by decide +kernel
theorem dX8_spiceFor_8 : decode cX8_spiceFor 8 = .ok (.ifCond .ne 5, 3) := by decide +kernel
theorem dX8_spiceFor_11 : decode cX8_spiceFor 11 = .ok (.iconst (-1), 1) := by decide +kernel
theorem dX8_spiceFor_12 : decode cX8_spiceFor 12 = .ok (.ireturn, 1) := by decide +kernel
theorem dX8_spiceFor_13 : decode cX8_spiceFor 13 = .ok (.aload_n 0, 1) := by decide +kernel
theorem dX8_spiceFor_14 : decode cX8_spiceFor 14 = .ok (.getfield 28, 3) := by decide +kernel
theorem dX8_spiceFor_17 : decode cX8_spiceFor 17 = .ok (.iload_n 1, 1) := by decide +kernel
theorem dX8_spiceFor_18 : decode cX8_spiceFor 18 = .ok (.invokevirtual 202, 3) := by decide +kernel
theorem dX8_spiceFor_21 : decode cX8_spiceFor 21 = .ok (.ifCond .eq 6, 3) := by decide +kernel
theorem dX8_spiceFor_24 : decode cX8_spiceFor 24 = .ok (.bipush (-3), 2) := by decide +kernel
theorem dX8_spiceFor_26 : decode cX8_spiceFor 26 = .ok (.ireturn, 1) := by decide +kernel
theorem dX8_spiceFor_27 : decode cX8_spiceFor 27 = .ok (.aload_n 0, 1) := by decide +kernel
theorem dX8_spiceFor_28 : decode cX8_spiceFor 28 = .ok (.getfield 32, 3) := by decide +kernel
theorem dX8_spiceFor_31 : decode cX8_spiceFor 31 = .ok (.aload_n 0, 1) := by decide +kernel
theorem dX8_spiceFor_32 : decode cX8_spiceFor 32 = .ok (.getfield 28, 3) := by decide +kernel
theorem dX8_spiceFor_35 : decode cX8_spiceFor 35 = .ok (.invokevirtual 188, 3) := by decide +kernel
theorem dX8_spiceFor_38 : decode cX8_spiceFor 38 = .ok (.iconst 0, 1) := by decide +kernel
theorem dX8_spiceFor_39 : decode cX8_spiceFor 39 = .ok (.istore_n 2, 1) := by decide +kernel
theorem dX8_spiceFor_40 : decode cX8_spiceFor 40 = .ok (.iload_n 2, 1) := by decide +kernel
theorem dX8_spiceFor_41 : decode cX8_spiceFor 41 = .ok (.aload_n 0, 1) := by decide +kernel
theorem dX8_spiceFor_42 : decode cX8_spiceFor 42 = .ok (.getfield 28, 3) := by decide +kernel
theorem dX8_spiceFor_45 : decode cX8_spiceFor 45 = .ok (.getfield 101, 3) := by decide +kernel
theorem dX8_spiceFor_48 : decode cX8_spiceFor 48 = .ok (.if_icmp .gt 29, 3) := by decide +kernel
theorem dX8_spiceFor_51 : decode cX8_spiceFor 51 = .ok (.aload_n 0, 1) := by decide +kernel
theorem dX8_spiceFor_52 : decode cX8_spiceFor 52 = .ok (.getfield 32, 3) := by decide +kernel
theorem dX8_spiceFor_55 : decode cX8_spiceFor 55 = .ok (.iload_n 1, 1) := by decide +kernel
theorem dX8_spiceFor_56 : decode cX8_spiceFor 56 = .ok (.invokevirtual 167, 3) := by decide +kernel
theorem dX8_spiceFor_59 : decode cX8_spiceFor 59 = .ok (.ifCond .eq 5, 3) := by decide +kernel
theorem dX8_spiceFor_62 : decode cX8_spiceFor 62 = .ok (.iload_n 2, 1) := by decide +kernel
theorem dX8_spiceFor_63 : decode cX8_spiceFor 63 = .ok (.ireturn, 1) := by decide +kernel
theorem dX8_spiceFor_64 : decode cX8_spiceFor 64 = .ok (.aload_n 0, 1) := by decide +kernel
theorem dX8_spiceFor_65 : decode cX8_spiceFor 65 = .ok (.getfield 32, 3) := by decide +kernel
theorem dX8_spiceFor_68 : decode cX8_spiceFor 68 = .ok (.invokevirtual 173, 3) := by decide +kernel
theorem dX8_spiceFor_71 : decode cX8_spiceFor 71 = .ok (.iinc 2 1, 3) := by decide +kernel
theorem dX8_spiceFor_74 : decode cX8_spiceFor 74 = .ok (.goto (-34), 3) := by decide +kernel
theorem dX8_spiceFor_77 : decode cX8_spiceFor 77 = .ok (.bipush (-9), 2) := by decide +kernel
theorem dX8_spiceFor_79 : decode cX8_spiceFor 79 = .ok (.ireturn, 1) := by decide +kernel
theorem dX8_judge_0 : decode cX8_judge 0 = .ok (.iload_n 1, 1) := by decide +kernel
theorem dX8_judge_1 : decode cX8_judge 1 = .ok (.iconst 1, 1) := by decide +kernel
theorem dX8_judge_2 : decode cX8_judge 2 = .ok (.if_icmp .lt 17, 3) := by decide +kernel
theorem dX8_judge_5 : decode cX8_judge 5 = .ok (.iload_n 1, 1) := by decide +kernel
theorem dX8_judge_6 : decode cX8_judge 6 = .ok (.bipush 6, 2) := by decide +kernel
theorem dX8_judge_8 : decode cX8_judge 8 = .ok (.if_icmp .gt 11, 3) := by decide +kernel
theorem dX8_judge_11 : decode cX8_judge 11 = .ok (.iload_n 1, 1) := by decide +kernel
theorem dX8_judge_12 : decode cX8_judge 12 = .ok (.iload_n 2, 1) := by decide +kernel
theorem dX8_judge_13 : decode cX8_judge 13 = .ok (.invokestatic 205, 3) := by decide +kernel
theorem dX8_judge_16 : decode cX8_judge 16 = .ok (.ifCond .ne 6, 3) := by decide +kernel
theorem dX8_judge_19 : decode cX8_judge 19 = .ok (.bipush (-2), 2) := by decide +kernel
theorem dX8_judge_21 : decode cX8_judge 21 = .ok (.ireturn, 1) := by decide +kernel
theorem dX8_judge_22 : decode cX8_judge 22 = .ok (.aload_n 0, 1) := by decide +kernel
theorem dX8_judge_23 : decode cX8_judge 23 = .ok (.getfield 32, 3) := by decide +kernel
theorem dX8_judge_26 : decode cX8_judge 26 = .ok (.aload_n 0, 1) := by decide +kernel
theorem dX8_judge_27 : decode cX8_judge 27 = .ok (.getfield 28, 3) := by decide +kernel
theorem dX8_judge_30 : decode cX8_judge 30 = .ok (.invokevirtual 188, 3) := by decide +kernel
theorem dX8_judge_33 : decode cX8_judge 33 = .ok (.iload_n 1, 1) := by decide +kernel
theorem dX8_judge_34 : decode cX8_judge 34 = .ok (.iconst 1, 1) := by decide +kernel
theorem dX8_judge_35 : decode cX8_judge 35 = .ok (.isub, 1) := by decide +kernel
theorem dX8_judge_36 : decode cX8_judge 36 = .ok (.invokestatic 209, 3) := by decide +kernel
theorem dX8_judge_39 : decode cX8_judge 39 = .ok (.istore_n 3, 1) := by decide +kernel
theorem dX8_judge_40 : decode cX8_judge 40 = .ok (.iconst 0, 1) := by decide +kernel
theorem dX8_judge_41 : decode cX8_judge 41 = .ok (.istore 4, 2) := by decide +kernel
theorem dX8_judge_43 : decode cX8_judge 43 = .ok (.iload 4, 2) := by decide +kernel
theorem dX8_judge_45 : decode cX8_judge 45 = .ok (.iload_n 1, 1) := by decide +kernel
theorem dX8_judge_46 : decode cX8_judge 46 = .ok (.if_icmp .ge 37, 3) := by decide +kernel
theorem dX8_judge_49 : decode cX8_judge 49 = .ok (.iload_n 3, 1) := by decide +kernel
theorem dX8_judge_50 : decode cX8_judge 50 = .ok (.ifCond .le 33, 3) := by decide +kernel
theorem dX8_judge_53 : decode cX8_judge 53 = .ok (.aload_n 0, 1) := by decide +kernel
theorem dX8_judge_54 : decode cX8_judge 54 = .ok (.getfield 32, 3) := by decide +kernel
theorem dX8_judge_57 : decode cX8_judge 57 = .ok (.iload_n 2, 1) := by decide +kernel
theorem dX8_judge_58 : decode cX8_judge 58 = .ok (.iload_n 3, 1) := by decide +kernel
theorem dX8_judge_59 : decode cX8_judge 59 = .ok (.idiv, 1) := by decide +kernel
theorem dX8_judge_60 : decode cX8_judge 60 = .ok (.bipush 10, 2) := by decide +kernel
theorem dX8_judge_62 : decode cX8_judge 62 = .ok (.irem, 1) := by decide +kernel
theorem dX8_judge_63 : decode cX8_judge 63 = .ok (.invokevirtual 212, 3) := by decide +kernel
theorem dX8_judge_66 : decode cX8_judge 66 = .ok (.ifCond .ne 6, 3) := by decide +kernel
theorem dX8_judge_69 : decode cX8_judge 69 = .ok (.iload 4, 2) := by decide +kernel
theorem dX8_judge_71 : decode cX8_judge 71 = .ok (.ireturn, 1) := by decide +kernel
theorem dX8_judge_72 : decode cX8_judge 72 = .ok (.iload_n 3, 1) := by decide +kernel
theorem dX8_judge_73 : decode cX8_judge 73 = .ok (.bipush 10, 2) := by decide +kernel
theorem dX8_judge_75 : decode cX8_judge 75 = .ok (.idiv, 1) := by decide +kernel
theorem dX8_judge_76 : decode cX8_judge 76 = .ok (.istore_n 3, 1) := by decide +kernel
theorem dX8_judge_77 : decode cX8_judge 77 = .ok (.iinc 4 1, 3) := by decide +kernel
theorem dX8_judge_80 : decode cX8_judge 80 = .ok (.goto (-37), 3) := by decide +kernel
theorem dX8_judge_83 : decode cX8_judge 83 = .ok (.bipush (-9), 2) := by decide +kernel
theorem dX8_judge_85 : decode cX8_judge 85 = .ok (.ireturn, 1) := by decide +kernel
theorem dX8_isRowOfFigures_0 : decode cX8_isRowOfFigures 0 = .ok (.iload_n 1, 1) := by decide +kernel
theorem dX8_isRowOfFigures_1 : decode cX8_isRowOfFigures 1 = .ok (.ifCond .lt 11, 3) := by decide +kernel
theorem dX8_isRowOfFigures_4 : decode cX8_isRowOfFigures 4 = .ok (.iload_n 1, 1) := by decide +kernel
theorem dX8_isRowOfFigures_5 : decode cX8_isRowOfFigures 5 = .ok (.iload_n 0, 1) := by decide +kernel
theorem dX8_isRowOfFigures_6 : decode cX8_isRowOfFigures 6 = .ok (.invokestatic 209, 3) := by decide +kernel
theorem dX8_isRowOfFigures_9 : decode cX8_isRowOfFigures 9 = .ok (.if_icmp .lt 5, 3) := by decide +kernel
theorem dX8_isRowOfFigures_12 : decode cX8_isRowOfFigures 12 = .ok (.iconst 0, 1) := by decide +kernel
theorem dX8_isRowOfFigures_13 : decode cX8_isRowOfFigures 13 = .ok (.ireturn, 1) := by decide +kernel
theorem dX8_isRowOfFigures_14 : decode cX8_isRowOfFigures 14 = .ok (.iload_n 1, 1) := by decide +kernel
theorem dX8_isRowOfFigures_15 : decode cX8_isRowOfFigures 15 = .ok (.istore_n 2, 1) := by decide +kernel
theorem dX8_isRowOfFigures_16 : decode cX8_isRowOfFigures 16 = .ok (.iconst 0, 1) := by decide +kernel
theorem dX8_isRowOfFigures_17 : decode cX8_isRowOfFigures 17 = .ok (.istore_n 3, 1) := by decide +kernel
theorem dX8_isRowOfFigures_18 : decode cX8_isRowOfFigures 18 = .ok (.iload_n 3, 1) := by decide +kernel
theorem dX8_isRowOfFigures_19 : decode cX8_isRowOfFigures 19 = .ok (.iload_n 0, 1) := by decide +kernel
theorem dX8_isRowOfFigures_20 : decode cX8_isRowOfFigures 20 = .ok (.if_icmp .ge 25, 3) := by decide +kernel
theorem dX8_isRowOfFigures_23 : decode cX8_isRowOfFigures 23 = .ok (.iload_n 2, 1) := by decide +kernel
theorem dX8_isRowOfFigures_24 : decode cX8_isRowOfFigures 24 = .ok (.bipush 10, 2) := by decide +kernel
theorem dX8_isRowOfFigures_26 : decode cX8_isRowOfFigures 26 = .ok (.irem, 1) := by decide +kernel
theorem dX8_isRowOfFigures_27 : decode cX8_isRowOfFigures 27 = .ok (.bipush 7, 2) := by decide +kernel
theorem dX8_isRowOfFigures_29 : decode cX8_isRowOfFigures 29 = .ok (.if_icmp .le 5, 3) := by decide +kernel
theorem dX8_isRowOfFigures_32 : decode cX8_isRowOfFigures 32 = .ok (.iconst 0, 1) := by decide +kernel
theorem dX8_isRowOfFigures_33 : decode cX8_isRowOfFigures 33 = .ok (.ireturn, 1) := by decide +kernel
theorem dX8_isRowOfFigures_34 : decode cX8_isRowOfFigures 34 = .ok (.iload_n 2, 1) := by decide +kernel
theorem dX8_isRowOfFigures_35 : decode cX8_isRowOfFigures 35 = .ok (.bipush 10, 2) := by decide +kernel
theorem dX8_isRowOfFigures_37 : decode cX8_isRowOfFigures 37 = .ok (.idiv, 1) := by decide +kernel
theorem dX8_isRowOfFigures_38 : decode cX8_isRowOfFigures 38 = .ok (.istore_n 2, 1) := by decide +kernel
theorem dX8_isRowOfFigures_39 : decode cX8_isRowOfFigures 39 = .ok (.iinc 3 1, 3) := by decide +kernel
theorem dX8_isRowOfFigures_42 : decode cX8_isRowOfFigures 42 = .ok (.goto (-24), 3) := by decide +kernel
theorem dX8_isRowOfFigures_45 : decode cX8_isRowOfFigures 45 = .ok (.iconst 1, 1) := by decide +kernel
theorem dX8_isRowOfFigures_46 : decode cX8_isRowOfFigures 46 = .ok (.ireturn, 1) := by decide +kernel
theorem dX8_powerOfTen_0 : decode cX8_powerOfTen 0 = .ok (.iconst 1, 1) := by decide +kernel
theorem dX8_powerOfTen_1 : decode cX8_powerOfTen 1 = .ok (.istore_n 1, 1) := by decide +kernel
theorem dX8_powerOfTen_2 : decode cX8_powerOfTen 2 = .ok (.iconst 0, 1) := by decide +kernel
theorem dX8_powerOfTen_3 : decode cX8_powerOfTen 3 = .ok (.istore_n 2, 1) := by decide +kernel
theorem dX8_powerOfTen_4 : decode cX8_powerOfTen 4 = .ok (.iload_n 2, 1) := by decide +kernel
theorem dX8_powerOfTen_5 : decode cX8_powerOfTen 5 = .ok (.iload_n 0, 1) := by decide +kernel
theorem dX8_powerOfTen_6 : decode cX8_powerOfTen 6 = .ok (.if_icmp .ge 14, 3) := by decide +kernel
theorem dX8_powerOfTen_9 : decode cX8_powerOfTen 9 = .ok (.iload_n 1, 1) := by decide +kernel
theorem dX8_powerOfTen_10 : decode cX8_powerOfTen 10 = .ok (.bipush 10, 2) := by decide +kernel
theorem dX8_powerOfTen_12 : decode cX8_powerOfTen 12 = .ok (.imul, 1) := by decide +kernel
theorem dX8_powerOfTen_13 : decode cX8_powerOfTen 13 = .ok (.istore_n 1, 1) := by decide +kernel
theorem dX8_powerOfTen_14 : decode cX8_powerOfTen 14 = .ok (.iinc 2 1, 3) := by decide +kernel
theorem dX8_powerOfTen_17 : decode cX8_powerOfTen 17 = .ok (.goto (-13), 3) := by decide +kernel
theorem dX8_powerOfTen_20 : decode cX8_powerOfTen 20 = .ok (.iload_n 1, 1) := by decide +kernel
theorem dX8_powerOfTen_21 : decode cX8_powerOfTen 21 = .ok (.ireturn, 1) := by decide +kernel
theorem dX8_share_0 : decode cX8_share 0 = .ok (.aload_n 0, 1) := by decide +kernel
theorem dX8_share_1 : decode cX8_share 1 = .ok (.getfield 19, 3) := by decide +kernel
theorem dX8_share_4 : decode cX8_share 4 = .ok (.iload_n 1, 1) := by decide +kernel
theorem dX8_share_5 : decode cX8_share 5 = .ok (.invokevirtual 120, 3) := by decide +kernel
theorem dX8_share_8 : decode cX8_share 8 = .ok (.ifCond .ne 5, 3) := by decide +kernel
theorem dX8_share_11 : decode cX8_share 11 = .ok (.iconst (-1), 1) := by decide +kernel
theorem dX8_share_12 : decode cX8_share 12 = .ok (.ireturn, 1) := by decide +kernel
theorem dX8_share_13 : decode cX8_share 13 = .ok (.iconst 1, 1) := by decide +kernel
theorem dX8_share_14 : decode cX8_share 14 = .ok (.iload_n 1, 1) := by decide +kernel
theorem dX8_share_15 : decode cX8_share 15 = .ok (.ishl, 1) := by decide +kernel
theorem dX8_share_16 : decode cX8_share 16 = .ok (.istore_n 3, 1) := by decide +kernel
theorem dX8_share_17 : decode cX8_share 17 = .ok (.iconst 0, 1) := by decide +kernel
theorem dX8_share_18 : decode cX8_share 18 = .ok (.istore 4, 2) := by decide +kernel
theorem dX8_share_20 : decode cX8_share 20 = .ok (.iconst 0, 1) := by decide +kernel
theorem dX8_share_21 : decode cX8_share 21 = .ok (.istore 5, 2) := by decide +kernel
theorem dX8_share_23 : decode cX8_share 23 = .ok (.iload 5, 2) := by decide +kernel
theorem dX8_share_25 : decode cX8_share 25 = .ok (.iconst 1, 1) := by decide +kernel
theorem dX8_share_26 : decode cX8_share 26 = .ok (.aload_n 0, 1) := by decide +kernel
theorem dX8_share_27 : decode cX8_share 27 = .ok (.getfield 19, 3) := by decide +kernel
theorem dX8_share_30 : decode cX8_share 30 = .ok (.getfield 92, 3) := by decide +kernel
theorem dX8_share_33 : decode cX8_share 33 = .ok (.ishl, 1) := by decide +kernel
theorem dX8_share_34 : decode cX8_share 34 = .ok (.if_icmp .ge 81, 3) := by decide +kernel
theorem dX8_share_37 : decode cX8_share 37 = .ok (.iload 5, 2) := by decide +kernel
theorem dX8_share_39 : decode cX8_share 39 = .ok (.iload_n 3, 1) := by decide +kernel
theorem dX8_share_40 : decode cX8_share 40 = .ok (.iand, 1) := by decide +kernel
theorem dX8_share_41 : decode cX8_share 41 = .ok (.ifCond .ne 68, 3) := by decide +kernel
theorem dX8_share_44 : decode cX8_share 44 = .ok (.aload_n 0, 1) := by decide +kernel
theorem dX8_share_45 : decode cX8_share 45 = .ok (.getfield 59, 3) := by decide +kernel
theorem dX8_share_48 : decode cX8_share 48 = .ok (.aload_n 0, 1) := by decide +kernel
theorem dX8_share_49 : decode cX8_share 49 = .ok (.getfield 28, 3) := by decide +kernel
theorem dX8_share_52 : decode cX8_share 52 = .ok (.iconst 2, 1) := by decide +kernel
theorem dX8_share_53 : decode cX8_share 53 = .ok (.aload_n 0, 1) := by decide +kernel
theorem dX8_share_54 : decode cX8_share 54 = .ok (.getfield 19, 3) := by decide +kernel
theorem dX8_share_57 : decode cX8_share 57 = .ok (.iload 5, 2) := by decide +kernel
theorem dX8_share_59 : decode cX8_share 59 = .ok (.invokevirtual 215, 3) := by decide +kernel
theorem dX8_share_62 : decode cX8_share 62 = .ok (.invokevirtual 191, 3) := by decide +kernel
theorem dX8_share_65 : decode cX8_share 65 = .ok (.istore 6, 2) := by decide +kernel
theorem dX8_share_67 : decode cX8_share 67 = .ok (.aload_n 0, 1) := by decide +kernel
theorem dX8_share_68 : decode cX8_share 68 = .ok (.getfield 59, 3) := by decide +kernel
theorem dX8_share_71 : decode cX8_share 71 = .ok (.aload_n 0, 1) := by decide +kernel
theorem dX8_share_72 : decode cX8_share 72 = .ok (.getfield 28, 3) := by decide +kernel
theorem dX8_share_75 : decode cX8_share 75 = .ok (.iconst 2, 1) := by decide +kernel
theorem dX8_share_76 : decode cX8_share 76 = .ok (.aload_n 0, 1) := by decide +kernel
theorem dX8_share_77 : decode cX8_share 77 = .ok (.getfield 19, 3) := by decide +kernel
theorem dX8_share_80 : decode cX8_share 80 = .ok (.iload 5, 2) := by decide +kernel
theorem dX8_share_82 : decode cX8_share 82 = .ok (.iload_n 3, 1) := by decide +kernel
theorem dX8_share_83 : decode cX8_share 83 = .ok (.ior, 1) := by decide +kernel
theorem dX8_share_84 : decode cX8_share 84 = .ok (.invokevirtual 215, 3) := by decide +kernel
theorem dX8_share_87 : decode cX8_share 87 = .ok (.invokevirtual 191, 3) := by decide +kernel
theorem dX8_share_90 : decode cX8_share 90 = .ok (.istore 7, 2) := by decide +kernel
theorem dX8_share_92 : decode cX8_share 92 = .ok (.iload 4, 2) := by decide +kernel
theorem dX8_share_94 : decode cX8_share 94 = .ok (.aload_n 0, 1) := by decide +kernel
theorem dX8_share_95 : decode cX8_share 95 = .ok (.iload 5, 2) := by decide +kernel
theorem dX8_share_97 : decode cX8_share 97 = .ok (.invokevirtual 218, 3) := by decide +kernel
theorem dX8_share_100 : decode cX8_share 100 = .ok (.iload 7, 2) := by decide +kernel
theorem dX8_share_102 : decode cX8_share 102 = .ok (.iload 6, 2) := by decide +kernel
theorem dX8_share_104 : decode cX8_share 104 = .ok (.isub, 1) := by decide +kernel
theorem dX8_share_105 : decode cX8_share 105 = .ok (.imul, 1) := by decide +kernel
theorem dX8_share_106 : decode cX8_share 106 = .ok (.iadd, 1) := by decide +kernel
theorem dX8_share_107 : decode cX8_share 107 = .ok (.istore 4, 2) := by decide +kernel
theorem dX8_share_109 : decode cX8_share 109 = .ok (.iinc 5 1, 3) := by decide +kernel
theorem dX8_share_112 : decode cX8_share 112 = .ok (.goto (-89), 3) := by decide +kernel
theorem dX8_share_115 : decode cX8_share 115 = .ok (.iload 4, 2) := by decide +kernel
theorem dX8_share_117 : decode cX8_share 117 = .ok (.aload_n 0, 1) := by decide +kernel
theorem dX8_share_118 : decode cX8_share 118 = .ok (.getfield 19, 3) := by decide +kernel
theorem dX8_share_121 : decode cX8_share 121 = .ok (.getfield 92, 3) := by decide +kernel
theorem dX8_share_124 : decode cX8_share 124 = .ok (.invokestatic 221, 3) := by decide +kernel
theorem dX8_share_127 : decode cX8_share 127 = .ok (.iload_n 2, 1) := by decide +kernel
theorem dX8_share_128 : decode cX8_share 128 = .ok (.invokestatic 224, 3) := by decide +kernel
theorem dX8_share_131 : decode cX8_share 131 = .ok (.ireturn, 1) := by decide +kernel
theorem dX8_ordersWith_0 : decode cX8_ordersWith 0 = .ok (.iload_n 1, 1) := by decide +kernel
theorem dX8_ordersWith_1 : decode cX8_ordersWith 1 = .ok (.invokestatic 228, 3) := by decide +kernel
theorem dX8_ordersWith_4 : decode cX8_ordersWith 4 = .ok (.istore_n 2, 1) := by decide +kernel
theorem dX8_ordersWith_5 : decode cX8_ordersWith 5 = .ok (.iload_n 2, 1) := by decide +kernel
theorem dX8_ordersWith_6 : decode cX8_ordersWith 6 = .ok (.invokestatic 221, 3) := by decide +kernel
theorem dX8_ordersWith_9 : decode cX8_ordersWith 9 = .ok (.aload_n 0, 1) := by decide +kernel
theorem dX8_ordersWith_10 : decode cX8_ordersWith 10 = .ok (.getfield 19, 3) := by decide +kernel
theorem dX8_ordersWith_13 : decode cX8_ordersWith 13 = .ok (.getfield 92, 3) := by decide +kernel
theorem dX8_ordersWith_16 : decode cX8_ordersWith 16 = .ok (.iload_n 2, 1) := by decide +kernel
theorem dX8_ordersWith_17 : decode cX8_ordersWith 17 = .ok (.isub, 1) := by decide +kernel
theorem dX8_ordersWith_18 : decode cX8_ordersWith 18 = .ok (.iconst 1, 1) := by decide +kernel
theorem dX8_ordersWith_19 : decode cX8_ordersWith 19 = .ok (.isub, 1) := by decide +kernel
theorem dX8_ordersWith_20 : decode cX8_ordersWith 20 = .ok (.invokestatic 221, 3) := by decide +kernel
theorem dX8_ordersWith_23 : decode cX8_ordersWith 23 = .ok (.imul, 1) := by decide +kernel
theorem dX8_ordersWith_24 : decode cX8_ordersWith 24 = .ok (.ireturn, 1) := by decide +kernel
theorem dX8_factorial_0 : decode cX8_factorial 0 = .ok (.iconst 1, 1) := by decide +kernel
theorem dX8_factorial_1 : decode cX8_factorial 1 = .ok (.istore_n 1, 1) := by decide +kernel
theorem dX8_factorial_2 : decode cX8_factorial 2 = .ok (.iconst 2, 1) := by decide +kernel
theorem dX8_factorial_3 : decode cX8_factorial 3 = .ok (.istore_n 2, 1) := by decide +kernel
theorem dX8_factorial_4 : decode cX8_factorial 4 = .ok (.iload_n 2, 1) := by decide +kernel
theorem dX8_factorial_5 : decode cX8_factorial 5 = .ok (.iload_n 0, 1) := by decide +kernel
theorem dX8_factorial_6 : decode cX8_factorial 6 = .ok (.if_icmp .gt 13, 3) := by decide +kernel
theorem dX8_factorial_9 : decode cX8_factorial 9 = .ok (.iload_n 1, 1) := by decide +kernel
theorem dX8_factorial_10 : decode cX8_factorial 10 = .ok (.iload_n 2, 1) := by decide +kernel
theorem dX8_factorial_11 : decode cX8_factorial 11 = .ok (.imul, 1) := by decide +kernel
theorem dX8_factorial_12 : decode cX8_factorial 12 = .ok (.istore_n 1, 1) := by decide +kernel
theorem dX8_factorial_13 : decode cX8_factorial 13 = .ok (.iinc 2 1, 3) := by decide +kernel
theorem dX8_factorial_16 : decode cX8_factorial 16 = .ok (.goto (-12), 3) := by decide +kernel
theorem dX8_factorial_19 : decode cX8_factorial 19 = .ok (.iload_n 1, 1) := by decide +kernel
theorem dX8_factorial_20 : decode cX8_factorial 20 = .ok (.ireturn, 1) := by decide +kernel
theorem dX8_fraction_0 : decode cX8_fraction 0 = .ok (.iload_n 0, 1) := by decide +kernel
theorem dX8_fraction_1 : decode cX8_fraction 1 = .ok (.iload_n 1, 1) := by decide +kernel
theorem dX8_fraction_2 : decode cX8_fraction 2 = .ok (.invokestatic 233, 3) := by decide +kernel
theorem dX8_fraction_5 : decode cX8_fraction 5 = .ok (.istore_n 3, 1) := by decide +kernel
theorem dX8_fraction_6 : decode cX8_fraction 6 = .ok (.iload_n 2, 1) := by decide +kernel
theorem dX8_fraction_7 : decode cX8_fraction 7 = .ok (.ifCond .eq 9, 3) := by decide +kernel
theorem dX8_fraction_10 : decode cX8_fraction 10 = .ok (.iload_n 0, 1) := by decide +kernel
theorem dX8_fraction_11 : decode cX8_fraction 11 = .ok (.iload_n 3, 1) := by decide +kernel
theorem dX8_fraction_12 : decode cX8_fraction 12 = .ok (.idiv, 1) := by decide +kernel
theorem dX8_fraction_13 : decode cX8_fraction 13 = .ok (.goto 6, 3) := by decide +kernel
theorem dX8_fraction_16 : decode cX8_fraction 16 = .ok (.iload_n 1, 1) := by decide +kernel
theorem dX8_fraction_17 : decode cX8_fraction 17 = .ok (.iload_n 3, 1) := by decide +kernel
theorem dX8_fraction_18 : decode cX8_fraction 18 = .ok (.idiv, 1) := by decide +kernel
theorem dX8_fraction_19 : decode cX8_fraction 19 = .ok (.ireturn, 1) := by decide +kernel
theorem dX8_commonDivisor_0 : decode cX8_commonDivisor 0 = .ok (.iload_n 0, 1) := by decide +kernel
theorem dX8_commonDivisor_1 : decode cX8_commonDivisor 1 = .ok (.istore_n 2, 1) := by decide +kernel
theorem dX8_commonDivisor_2 : decode cX8_commonDivisor 2 = .ok (.iload_n 1, 1) := by decide +kernel
theorem dX8_commonDivisor_3 : decode cX8_commonDivisor 3 = .ok (.istore_n 3, 1) := by decide +kernel
theorem dX8_commonDivisor_4 : decode cX8_commonDivisor 4 = .ok (.iconst 0, 1) := by decide +kernel
theorem dX8_commonDivisor_5 : decode cX8_commonDivisor 5 = .ok (.istore 4, 2) := by decide +kernel
theorem dX8_commonDivisor_7 : decode cX8_commonDivisor 7 = .ok (.iload 4, 2) := by decide +kernel
theorem dX8_commonDivisor_9 : decode cX8_commonDivisor 9 = .ok (.bipush 64, 2) := by decide +kernel
theorem dX8_commonDivisor_11 : decode cX8_commonDivisor 11 = .ok (.if_icmp .ge 23, 3) := by decide +kernel
theorem dX8_commonDivisor_14 : decode cX8_commonDivisor 14 = .ok (.iload_n 3, 1) := by decide +kernel
theorem dX8_commonDivisor_15 : decode cX8_commonDivisor 15 = .ok (.ifCond .eq 19, 3) := by decide +kernel
theorem dX8_commonDivisor_18 : decode cX8_commonDivisor 18 = .ok (.iload_n 2, 1) := by decide +kernel
theorem dX8_commonDivisor_19 : decode cX8_commonDivisor 19 = .ok (.iload_n 3, 1) := by decide +kernel
theorem dX8_commonDivisor_20 : decode cX8_commonDivisor 20 = .ok (.irem, 1) := by decide +kernel
theorem dX8_commonDivisor_21 : decode cX8_commonDivisor 21 = .ok (.istore 5, 2) := by decide +kernel
theorem dX8_commonDivisor_23 : decode cX8_commonDivisor 23 = .ok (.iload_n 3, 1) := by decide +kernel
theorem dX8_commonDivisor_24 : decode cX8_commonDivisor 24 = .ok (.istore_n 2, 1) := by decide +kernel
theorem dX8_commonDivisor_25 : decode cX8_commonDivisor 25 = .ok (.iload 5, 2) := by decide +kernel
theorem dX8_commonDivisor_27 : decode cX8_commonDivisor 27 = .ok (.istore_n 3, 1) := by decide +kernel
theorem dX8_commonDivisor_28 : decode cX8_commonDivisor 28 = .ok (.iinc 4 1, 3) := by decide +kernel
theorem dX8_commonDivisor_31 : decode cX8_commonDivisor 31 = .ok (.goto (-24), 3) := by decide +kernel
theorem dX8_commonDivisor_34 : decode cX8_commonDivisor 34 = .ok (.iconst 1, 1) := by decide +kernel
theorem dX8_commonDivisor_35 : decode cX8_commonDivisor 35 = .ok (.iload_n 2, 1) := by decide +kernel
theorem dX8_commonDivisor_36 : decode cX8_commonDivisor 36 = .ok (.invokestatic 236, 3) := by decide +kernel
theorem dX8_commonDivisor_39 : decode cX8_commonDivisor 39 = .ok (.ireturn, 1) := by decide +kernel
theorem dX8_see_0 : decode cX8_see 0 = .ok (.iload_n 1, 1) := by decide +kernel
theorem dX8_see_1 : decode cX8_see 1 = .ok (.invokestatic 241, 3) := by decide +kernel
theorem dX8_see_4 : decode cX8_see 4 = .ok (.ifCond .eq 23, 3) := by decide +kernel
theorem dX8_see_7 : decode cX8_see 7 = .ok (.iload_n 2, 1) := by decide +kernel
theorem dX8_see_8 : decode cX8_see 8 = .ok (.ifCond .lt 19, 3) := by decide +kernel
theorem dX8_see_11 : decode cX8_see 11 = .ok (.iload_n 2, 1) := by decide +kernel
theorem dX8_see_12 : decode cX8_see 12 = .ok (.bipush 9, 2) := by decide +kernel
theorem dX8_see_14 : decode cX8_see 14 = .ok (.if_icmp .gt 13, 3) := by decide +kernel
theorem dX8_see_17 : decode cX8_see 17 = .ok (.iload_n 3, 1) := by decide +kernel
theorem dX8_see_18 : decode cX8_see 18 = .ok (.ifCond .lt 9, 3) := by decide +kernel
theorem dX8_see_21 : decode cX8_see 21 = .ok (.iload_n 3, 1) := by decide +kernel
theorem dX8_see_22 : decode cX8_see 22 = .ok (.bipush 10, 2) := by decide +kernel
theorem dX8_see_24 : decode cX8_see 24 = .ok (.if_icmp .le 6, 3) := by decide +kernel
theorem dX8_see_27 : decode cX8_see 27 = .ok (.bipush (-2), 2) := by decide +kernel
theorem dX8_see_29 : decode cX8_see 29 = .ok (.ireturn, 1) := by decide +kernel
theorem dX8_see_30 : decode cX8_see 30 = .ok (.aload_n 0, 1) := by decide +kernel
theorem dX8_see_31 : decode cX8_see 31 = .ok (.getfield 52, 3) := by decide +kernel
theorem dX8_see_34 : decode cX8_see 34 = .ok (.getfield 119, 3) := by decide +kernel
theorem dX8_see_37 : decode cX8_see 37 = .ok (.bipush 6, 2) := by decide +kernel
theorem dX8_see_39 : decode cX8_see 39 = .ok (.if_icmp .lt 6, 3) := by decide +kernel
theorem dX8_see_42 : decode cX8_see 42 = .ok (.bipush (-4), 2) := by decide +kernel
theorem dX8_see_44 : decode cX8_see 44 = .ok (.ireturn, 1) := by decide +kernel
theorem dX8_see_45 : decode cX8_see 45 = .ok (.aload_n 0, 1) := by decide +kernel
theorem dX8_see_46 : decode cX8_see 46 = .ok (.getfield 52, 3) := by decide +kernel
theorem dX8_see_49 : decode cX8_see 49 = .ok (.iload_n 1, 1) := by decide +kernel
theorem dX8_see_50 : decode cX8_see 50 = .ok (.iload_n 2, 1) := by decide +kernel
theorem dX8_see_51 : decode cX8_see 51 = .ok (.iload_n 3, 1) := by decide +kernel
theorem dX8_see_52 : decode cX8_see 52 = .ok (.invokevirtual 244, 3) := by decide +kernel
theorem dX8_see_55 : decode cX8_see 55 = .ok (.aload_n 0, 1) := by decide +kernel
theorem dX8_see_56 : decode cX8_see 56 = .ok (.getfield 52, 3) := by decide +kernel
theorem dX8_see_59 : decode cX8_see 59 = .ok (.getfield 119, 3) := by decide +kernel
theorem dX8_see_62 : decode cX8_see 62 = .ok (.ireturn, 1) := by decide +kernel
theorem dX8_unsee_0 : decode cX8_unsee 0 = .ok (.aload_n 0, 1) := by decide +kernel
theorem dX8_unsee_1 : decode cX8_unsee 1 = .ok (.getfield 52, 3) := by decide +kernel
theorem dX8_unsee_4 : decode cX8_unsee 4 = .ok (.getfield 119, 3) := by decide +kernel
theorem dX8_unsee_7 : decode cX8_unsee 7 = .ok (.istore_n 1, 1) := by decide +kernel
theorem dX8_unsee_8 : decode cX8_unsee 8 = .ok (.aload_n 0, 1) := by decide +kernel
theorem dX8_unsee_9 : decode cX8_unsee 9 = .ok (.getfield 52, 3) := by decide +kernel
theorem dX8_unsee_12 : decode cX8_unsee 12 = .ok (.iconst 0, 1) := by decide +kernel
theorem dX8_unsee_13 : decode cX8_unsee 13 = .ok (.putfield 119, 3) := by decide +kernel
theorem dX8_unsee_16 : decode cX8_unsee 16 = .ok (.iload_n 1, 1) := by decide +kernel
theorem dX8_unsee_17 : decode cX8_unsee 17 = .ok (.ireturn, 1) := by decide +kernel
theorem dX8_palates_0 : decode cX8_palates 0 = .ok (.iload_n 1, 1) := by decide +kernel
theorem dX8_palates_1 : decode cX8_palates 1 = .ok (.invokestatic 241, 3) := by decide +kernel
theorem dX8_palates_4 : decode cX8_palates 4 = .ok (.ifCond .ne 6, 3) := by decide +kernel
theorem dX8_palates_7 : decode cX8_palates 7 = .ok (.bipush (-2), 2) := by decide +kernel
theorem dX8_palates_9 : decode cX8_palates 9 = .ok (.ireturn, 1) := by decide +kernel
theorem dX8_palates_10 : decode cX8_palates 10 = .ok (.aload_n 0, 1) := by decide +kernel
theorem dX8_palates_11 : decode cX8_palates 11 = .ok (.getfield 52, 3) := by decide +kernel
theorem dX8_palates_14 : decode cX8_palates 14 = .ok (.iload_n 1, 1) := by decide +kernel
theorem dX8_palates_15 : decode cX8_palates 15 = .ok (.invokevirtual 248, 3) := by decide +kernel
theorem dX8_palates_18 : decode cX8_palates 18 = .ok (.ireturn, 1) := by decide +kernel
theorem dX8_isKind_0 : decode cX8_isKind 0 = .ok (.iload_n 0, 1) := by decide +kernel
theorem dX8_isKind_1 : decode cX8_isKind 1 = .ok (.ifCond .lt 12, 3) := by decide +kernel
theorem dX8_isKind_4 : decode cX8_isKind 4 = .ok (.iload_n 0, 1) := by decide +kernel
theorem dX8_isKind_5 : decode cX8_isKind 5 = .ok (.iconst 3, 1) := by decide +kernel
theorem dX8_isKind_6 : decode cX8_isKind 6 = .ok (.if_icmp .gt 7, 3) := by decide +kernel
theorem dX8_isKind_9 : decode cX8_isKind 9 = .ok (.iconst 1, 1) := by decide +kernel
theorem dX8_isKind_10 : decode cX8_isKind 10 = .ok (.goto 4, 3) := by decide +kernel
theorem dX8_isKind_13 : decode cX8_isKind 13 = .ok (.iconst 0, 1) := by decide +kernel
theorem dX8_isKind_14 : decode cX8_isKind 14 = .ok (.ireturn, 1) := by decide +kernel
theorem dX8_rests_0 : decode cX8_rests 0 = .ok (.aload_n 0, 1) := by decide +kernel
theorem dX8_rests_1 : decode cX8_rests 1 = .ok (.getfield 19, 3) := by decide +kernel
theorem dX8_rests_4 : decode cX8_rests 4 = .ok (.iload_n 1, 1) := by decide +kernel
theorem dX8_rests_5 : decode cX8_rests 5 = .ok (.invokevirtual 120, 3) := by decide +kernel
theorem dX8_rests_8 : decode cX8_rests 8 = .ok (.ifCond .eq 14, 3) := by decide +kernel
theorem dX8_rests_11 : decode cX8_rests 11 = .ok (.aload_n 0, 1) := by decide +kernel
theorem dX8_rests_12 : decode cX8_rests 12 = .ok (.getfield 19, 3) := by decide +kernel
theorem dX8_rests_15 : decode cX8_rests 15 = .ok (.iload_n 2, 1) := by decide +kernel
theorem dX8_rests_16 : decode cX8_rests 16 = .ok (.invokevirtual 120, 3) := by decide +kernel
theorem dX8_rests_19 : decode cX8_rests 19 = .ok (.ifCond .ne 5, 3) := by decide +kernel
theorem dX8_rests_22 : decode cX8_rests 22 = .ok (.iconst (-1), 1) := by decide +kernel
theorem dX8_rests_23 : decode cX8_rests 23 = .ok (.ireturn, 1) := by decide +kernel
theorem dX8_rests_24 : decode cX8_rests 24 = .ok (.iload_n 1, 1) := by decide +kernel
theorem dX8_rests_25 : decode cX8_rests 25 = .ok (.iload_n 2, 1) := by decide +kernel
theorem dX8_rests_26 : decode cX8_rests 26 = .ok (.if_icmp .eq 12, 3) := by decide +kernel
theorem dX8_rests_29 : decode cX8_rests 29 = .ok (.iload_n 3, 1) := by decide +kernel
theorem dX8_rests_30 : decode cX8_rests 30 = .ok (.ifCond .lt 8, 3) := by decide +kernel
theorem dX8_rests_33 : decode cX8_rests 33 = .ok (.iload_n 3, 1) := by decide +kernel
theorem dX8_rests_34 : decode cX8_rests 34 = .ok (.iconst 1, 1) := by decide +kernel
theorem dX8_rests_35 : decode cX8_rests 35 = .ok (.if_icmp .le 6, 3) := by decide +kernel
theorem dX8_rests_38 : decode cX8_rests 38 = .ok (.bipush (-2), 2) := by decide +kernel
theorem dX8_rests_40 : decode cX8_rests 40 = .ok (.ireturn, 1) := by decide +kernel
theorem dX8_rests_41 : decode cX8_rests 41 = .ok (.aload_n 0, 1) := by decide +kernel
theorem dX8_rests_42 : decode cX8_rests 42 = .ok (.getfield 66, 3) := by decide +kernel
theorem dX8_rests_45 : decode cX8_rests 45 = .ok (.iload_n 1, 1) := by decide +kernel
theorem dX8_rests_46 : decode cX8_rests 46 = .ok (.iload_n 2, 1) := by decide +kernel
theorem dX8_rests_47 : decode cX8_rests 47 = .ok (.aload_n 0, 1) := by decide +kernel
theorem dX8_rests_48 : decode cX8_rests 48 = .ok (.getfield 28, 3) := by decide +kernel
theorem dX8_rests_51 : decode cX8_rests 51 = .ok (.getfield 98, 3) := by decide +kernel
theorem dX8_rests_54 : decode cX8_rests 54 = .ok (.invokevirtual 251, 3) := by decide +kernel
theorem dX8_rests_57 : decode cX8_rests 57 = .ok (.iload_n 3, 1) := by decide +kernel
theorem dX8_rests_58 : decode cX8_rests 58 = .ok (.ifCond .ne 13, 3) := by decide +kernel
theorem dX8_rests_61 : decode cX8_rests 61 = .ok (.aload_n 0, 1) := by decide +kernel
theorem dX8_rests_62 : decode cX8_rests 62 = .ok (.getfield 66, 3) := by decide +kernel
theorem dX8_rests_65 : decode cX8_rests 65 = .ok (.getfield 254, 3) := by decide +kernel
theorem dX8_rests_68 : decode cX8_rests 68 = .ok (.goto 10, 3) := by decide +kernel
theorem dX8_rests_71 : decode cX8_rests 71 = .ok (.aload_n 0, 1) := by decide +kernel
theorem dX8_rests_72 : decode cX8_rests 72 = .ok (.getfield 66, 3) := by decide +kernel
theorem dX8_rests_75 : decode cX8_rests 75 = .ok (.getfield 255, 3) := by decide +kernel
theorem dX8_rests_78 : decode cX8_rests 78 = .ok (.ireturn, 1) := by decide +kernel
theorem dX8_chance_0 : decode cX8_chance 0 = .ok (.aload_n 0, 1) := by decide +kernel
theorem dX8_chance_1 : decode cX8_chance 1 = .ok (.getfield 19, 3) := by decide +kernel
theorem dX8_chance_4 : decode cX8_chance 4 = .ok (.iload_n 1, 1) := by decide +kernel
theorem dX8_chance_5 : decode cX8_chance 5 = .ok (.invokevirtual 120, 3) := by decide +kernel
theorem dX8_chance_8 : decode cX8_chance 8 = .ok (.ifCond .ne 5, 3) := by decide +kernel
theorem dX8_chance_11 : decode cX8_chance 11 = .ok (.iconst (-1), 1) := by decide +kernel
theorem dX8_chance_12 : decode cX8_chance 12 = .ok (.ireturn, 1) := by decide +kernel
theorem dX8_chance_13 : decode cX8_chance 13 = .ok (.iload_n 2, 1) := by decide +kernel
theorem dX8_chance_14 : decode cX8_chance 14 = .ok (.iconst 1, 1) := by decide +kernel
theorem dX8_chance_15 : decode cX8_chance 15 = .ok (.if_icmp .lt 19, 3) := by decide +kernel
theorem dX8_chance_18 : decode cX8_chance 18 = .ok (.iload_n 2, 1) := by decide +kernel
theorem dX8_chance_19 : decode cX8_chance 19 = .ok (.bipush 6, 2) := by decide +kernel
theorem dX8_chance_21 : decode cX8_chance 21 = .ok (.if_icmp .gt 13, 3) := by decide +kernel
theorem dX8_chance_24 : decode cX8_chance 24 = .ok (.iload_n 3, 1) := by decide +kernel
theorem dX8_chance_25 : decode cX8_chance 25 = .ok (.ifCond .lt 9, 3) := by decide +kernel
theorem dX8_chance_28 : decode cX8_chance 28 = .ok (.iload_n 3, 1) := by decide +kernel
theorem dX8_chance_29 : decode cX8_chance 29 = .ok (.bipush 10, 2) := by decide +kernel
theorem dX8_chance_31 : decode cX8_chance 31 = .ok (.if_icmp .le 6, 3) := by decide +kernel
theorem dX8_chance_34 : decode cX8_chance 34 = .ok (.bipush (-2), 2) := by decide +kernel
theorem dX8_chance_36 : decode cX8_chance 36 = .ok (.ireturn, 1) := by decide +kernel
theorem dX8_chance_37 : decode cX8_chance 37 = .ok (.iconst 0, 1) := by decide +kernel
theorem dX8_chance_38 : decode cX8_chance 38 = .ok (.istore 5, 2) := by decide +kernel
theorem dX8_chance_40 : decode cX8_chance 40 = .ok (.iconst 0, 1) := by decide +kernel
theorem dX8_chance_41 : decode cX8_chance 41 = .ok (.istore 6, 2) := by decide +kernel
theorem dX8_chance_43 : decode cX8_chance 43 = .ok (.iload 6, 2) := by decide +kernel
theorem dX8_chance_45 : decode cX8_chance 45 = .ok (.iconst 1, 1) := by decide +kernel
theorem dX8_chance_46 : decode cX8_chance 46 = .ok (.iload_n 2, 1) := by decide +kernel
theorem dX8_chance_47 : decode cX8_chance 47 = .ok (.ishl, 1) := by decide +kernel
theorem dX8_chance_48 : decode cX8_chance 48 = .ok (.if_icmp .ge 43, 3) := by decide +kernel
theorem dX8_chance_51 : decode cX8_chance 51 = .ok (.aload_n 0, 1) := by decide +kernel
theorem dX8_chance_52 : decode cX8_chance 52 = .ok (.getfield 28, 3) := by decide +kernel
theorem dX8_chance_55 : decode cX8_chance 55 = .ok (.iload_n 1, 1) := by decide +kernel
theorem dX8_chance_56 : decode cX8_chance 56 = .ok (.invokevirtual 176, 3) := by decide +kernel
theorem dX8_chance_59 : decode cX8_chance 59 = .ok (.ifCond .eq 26, 3) := by decide +kernel
theorem dX8_chance_62 : decode cX8_chance 62 = .ok (.aload_n 0, 1) := by decide +kernel
theorem dX8_chance_63 : decode cX8_chance 63 = .ok (.iload_n 1, 1) := by decide +kernel
theorem dX8_chance_64 : decode cX8_chance 64 = .ok (.iload_n 2, 1) := by decide +kernel
theorem dX8_chance_65 : decode cX8_chance 65 = .ok (.iload 6, 2) := by decide +kernel
theorem dX8_chance_67 : decode cX8_chance 67 = .ok (.invokevirtual 258, 3) := by decide +kernel
theorem dX8_chance_70 : decode cX8_chance 70 = .ok (.ifCond .eq 15, 3) := by decide +kernel
theorem dX8_chance_73 : decode cX8_chance 73 = .ok (.iload 5, 2) := by decide +kernel
theorem dX8_chance_75 : decode cX8_chance 75 = .ok (.iload_n 2, 1) := by decide +kernel
theorem dX8_chance_76 : decode cX8_chance 76 = .ok (.iload 6, 2) := by decide +kernel
theorem dX8_chance_78 : decode cX8_chance 78 = .ok (.iload_n 3, 1) := by decide +kernel
theorem dX8_chance_79 : decode cX8_chance 79 = .ok (.invokestatic 261, 3) := by decide +kernel
theorem dX8_chance_82 : decode cX8_chance 82 = .ok (.iadd, 1) := by decide +kernel
theorem dX8_chance_83 : decode cX8_chance 83 = .ok (.istore 5, 2) := by decide +kernel
theorem dX8_chance_85 : decode cX8_chance 85 = .ok (.iinc 6 1, 3) := by decide +kernel
theorem dX8_chance_88 : decode cX8_chance 88 = .ok (.goto (-45), 3) := by decide +kernel
theorem dX8_chance_91 : decode cX8_chance 91 = .ok (.iload 5, 2) := by decide +kernel
theorem dX8_chance_93 : decode cX8_chance 93 = .ok (.iload_n 2, 1) := by decide +kernel
theorem dX8_chance_94 : decode cX8_chance 94 = .ok (.invokestatic 209, 3) := by decide +kernel
theorem dX8_chance_97 : decode cX8_chance 97 = .ok (.iload 4, 2) := by decide +kernel
theorem dX8_chance_99 : decode cX8_chance 99 = .ok (.invokestatic 224, 3) := by decide +kernel
theorem dX8_chance_102 : decode cX8_chance 102 = .ok (.ireturn, 1) := by decide +kernel
theorem dX8_stillEats_0 : decode cX8_stillEats 0 = .ok (.aload_n 0, 1) := by decide +kernel
theorem dX8_stillEats_1 : decode cX8_stillEats 1 = .ok (.getfield 28, 3) := by decide +kernel
theorem dX8_stillEats_4 : decode cX8_stillEats 4 = .ok (.getfield 134, 3) := by decide +kernel
theorem dX8_stillEats_7 : decode cX8_stillEats 7 = .ok (.iload_n 1, 1) := by decide +kernel
theorem dX8_stillEats_8 : decode cX8_stillEats 8 = .ok (.iaload, 1) := by decide +kernel
theorem dX8_stillEats_9 : decode cX8_stillEats 9 = .ok (.istore 4, 2) := by decide +kernel
theorem dX8_stillEats_11 : decode cX8_stillEats 11 = .ok (.iconst 0, 1) := by decide +kernel
theorem dX8_stillEats_12 : decode cX8_stillEats 12 = .ok (.istore 5, 2) := by decide +kernel
theorem dX8_stillEats_14 : decode cX8_stillEats 14 = .ok (.iload 5, 2) := by decide +kernel
theorem dX8_stillEats_16 : decode cX8_stillEats 16 = .ok (.iload_n 2, 1) := by decide +kernel
theorem dX8_stillEats_17 : decode cX8_stillEats 17 = .ok (.if_icmp .ge 45, 3) := by decide +kernel
theorem dX8_stillEats_20 : decode cX8_stillEats 20 = .ok (.iload_n 3, 1) := by decide +kernel
theorem dX8_stillEats_21 : decode cX8_stillEats 21 = .ok (.iload 5, 2) := by decide +kernel
theorem dX8_stillEats_23 : decode cX8_stillEats 23 = .ok (.ishr, 1) := by decide +kernel
theorem dX8_stillEats_24 : decode cX8_stillEats 24 = .ok (.iconst 1, 1) := by decide +kernel
theorem dX8_stillEats_25 : decode cX8_stillEats 25 = .ok (.iand, 1) := by decide +kernel
theorem dX8_stillEats_26 : decode cX8_stillEats 26 = .ok (.ifCond .ne 30, 3) := by decide +kernel
theorem dX8_stillEats_29 : decode cX8_stillEats 29 = .ok (.iload 4, 2) := by decide +kernel
theorem dX8_stillEats_31 : decode cX8_stillEats 31 = .ok (.aload_n 0, 1) := by decide +kernel
theorem dX8_stillEats_32 : decode cX8_stillEats 32 = .ok (.getfield 19, 3) := by decide +kernel
theorem dX8_stillEats_35 : decode cX8_stillEats 35 = .ok (.iload_n 1, 1) := by decide +kernel
theorem dX8_stillEats_36 : decode cX8_stillEats 36 = .ok (.iconst 0, 1) := by decide +kernel
theorem dX8_stillEats_37 : decode cX8_stillEats 37 = .ok (.aload_n 0, 1) := by decide +kernel
theorem dX8_stillEats_38 : decode cX8_stillEats 38 = .ok (.getfield 28, 3) := by decide +kernel
theorem dX8_stillEats_41 : decode cX8_stillEats 41 = .ok (.getfield 98, 3) := by decide +kernel
theorem dX8_stillEats_44 : decode cX8_stillEats 44 = .ok (.iload 5, 2) := by decide +kernel
theorem dX8_stillEats_46 : decode cX8_stillEats 46 = .ok (.isub, 1) := by decide +kernel
theorem dX8_stillEats_47 : decode cX8_stillEats 47 = .ok (.invokestatic 236, 3) := by decide +kernel
theorem dX8_stillEats_50 : decode cX8_stillEats 50 = .ok (.invokevirtual 137, 3) := by decide +kernel
theorem dX8_stillEats_53 : decode cX8_stillEats 53 = .ok (.iadd, 1) := by decide +kernel
theorem dX8_stillEats_54 : decode cX8_stillEats 54 = .ok (.istore 4, 2) := by decide +kernel
theorem dX8_stillEats_56 : decode cX8_stillEats 56 = .ok (.iinc 5 1, 3) := by decide +kernel
theorem dX8_stillEats_59 : decode cX8_stillEats 59 = .ok (.goto (-45), 3) := by decide +kernel
theorem dX8_stillEats_62 : decode cX8_stillEats 62 = .ok (.iload 4, 2) := by decide +kernel
theorem dX8_stillEats_64 : decode cX8_stillEats 64 = .ok (.aload_n 0, 1) := by decide +kernel
theorem dX8_stillEats_65 : decode cX8_stillEats 65 = .ok (.getfield 19, 3) := by decide +kernel
theorem dX8_stillEats_68 : decode cX8_stillEats 68 = .ok (.iload_n 1, 1) := by decide +kernel
theorem dX8_stillEats_69 : decode cX8_stillEats 69 = .ok (.invokevirtual 265, 3) := by decide +kernel
theorem dX8_stillEats_72 : decode cX8_stillEats 72 = .ok (.if_icmp .ge 7, 3) := by decide +kernel
theorem dX8_stillEats_75 : decode cX8_stillEats 75 = .ok (.iconst 1, 1) := by decide +kernel
theorem dX8_stillEats_76 : decode cX8_stillEats 76 = .ok (.goto 4, 3) := by decide +kernel
theorem dX8_stillEats_79 : decode cX8_stillEats 79 = .ok (.iconst 0, 1) := by decide +kernel
theorem dX8_stillEats_80 : decode cX8_stillEats 80 = .ok (.ireturn, 1) := by decide +kernel
theorem dX8_weight_0 : decode cX8_weight 0 = .ok (.iconst 1, 1) := by decide +kernel
theorem dX8_weight_1 : decode cX8_weight 1 = .ok (.istore_n 3, 1) := by decide +kernel
theorem dX8_weight_2 : decode cX8_weight 2 = .ok (.iconst 0, 1) := by decide +kernel
theorem dX8_weight_3 : decode cX8_weight 3 = .ok (.istore 4, 2) := by decide +kernel
theorem dX8_weight_5 : decode cX8_weight 5 = .ok (.iload 4, 2) := by decide +kernel
theorem dX8_weight_7 : decode cX8_weight 7 = .ok (.iload_n 0, 1) := by decide +kernel
theorem dX8_weight_8 : decode cX8_weight 8 = .ok (.if_icmp .ge 29, 3) := by decide +kernel
theorem dX8_weight_11 : decode cX8_weight 11 = .ok (.iload_n 3, 1) := by decide +kernel
theorem dX8_weight_12 : decode cX8_weight 12 = .ok (.iload_n 1, 1) := by decide +kernel
theorem dX8_weight_13 : decode cX8_weight 13 = .ok (.iload 4, 2) := by decide +kernel
theorem dX8_weight_15 : decode cX8_weight 15 = .ok (.ishr, 1) := by decide +kernel
theorem dX8_weight_16 : decode cX8_weight 16 = .ok (.iconst 1, 1) := by decide +kernel
theorem dX8_weight_17 : decode cX8_weight 17 = .ok (.iand, 1) := by decide +kernel
theorem dX8_weight_18 : decode cX8_weight 18 = .ok (.ifCond .ne 10, 3) := by decide +kernel
theorem dX8_weight_21 : decode cX8_weight 21 = .ok (.bipush 10, 2) := by decide +kernel
theorem dX8_weight_23 : decode cX8_weight 23 = .ok (.iload_n 2, 1) := by decide +kernel
theorem dX8_weight_24 : decode cX8_weight 24 = .ok (.isub, 1) := by decide +kernel
theorem dX8_weight_25 : decode cX8_weight 25 = .ok (.goto 4, 3) := by decide +kernel
theorem dX8_weight_28 : decode cX8_weight 28 = .ok (.iload_n 2, 1) := by decide +kernel
theorem dX8_weight_29 : decode cX8_weight 29 = .ok (.imul, 1) := by decide +kernel
theorem dX8_weight_30 : decode cX8_weight 30 = .ok (.istore_n 3, 1) := by decide +kernel
theorem dX8_weight_31 : decode cX8_weight 31 = .ok (.iinc 4 1, 3) := by decide +kernel
theorem dX8_weight_34 : decode cX8_weight 34 = .ok (.goto (-29), 3) := by decide +kernel
theorem dX8_weight_37 : decode cX8_weight 37 = .ok (.iload_n 3, 1) := by decide +kernel
theorem dX8_weight_38 : decode cX8_weight 38 = .ok (.ireturn, 1) := by decide +kernel
theorem dX8_seed_0 : decode cX8_seed 0 = .ok (.aload_n 0, 1) := by decide +kernel
theorem dX8_seed_1 : decode cX8_seed 1 = .ok (.getfield 268, 3) := by decide +kernel
theorem dX8_seed_4 : decode cX8_seed 4 = .ok (.lstore_n 3, 1) := by decide +kernel
theorem dX8_seed_5 : decode cX8_seed 5 = .ok (.aload_n 0, 1) := by decide +kernel
theorem dX8_seed_6 : decode cX8_seed 6 = .ok (.lload_n 1, 1) := by decide +kernel
theorem dX8_seed_7 : decode cX8_seed 7 = .ok (.putfield 268, 3) := by decide +kernel
theorem dX8_seed_10 : decode cX8_seed 10 = .ok (.lload_n 3, 1) := by decide +kernel
theorem dX8_seed_11 : decode cX8_seed 11 = .ok (.lreturn, 1) := by decide +kernel
theorem dX8_talks_0 : decode cX8_talks 0 = .ok (.iload_n 1, 1) := by decide +kernel
theorem dX8_talks_1 : decode cX8_talks 1 = .ok (.iconst 1, 1) := by decide +kernel
theorem dX8_talks_2 : decode cX8_talks 2 = .ok (.if_icmp .lt 9, 3) := by decide +kernel
theorem dX8_talks_5 : decode cX8_talks 5 = .ok (.iload_n 1, 1) := by decide +kernel
theorem dX8_talks_6 : decode cX8_talks 6 = .ok (.bipush 30, 2) := by decide +kernel
theorem dX8_talks_8 : decode cX8_talks 8 = .ok (.if_icmp .le 6, 3) := by decide +kernel
theorem dX8_talks_11 : decode cX8_talks 11 = .ok (.bipush (-2), 2) := by decide +kernel
theorem dX8_talks_13 : decode cX8_talks 13 = .ok (.ireturn, 1) := by decide +kernel
theorem dX8_talks_14 : decode cX8_talks 14 = .ok (.aload_n 0, 1) := by decide +kernel
theorem dX8_talks_15 : decode cX8_talks 15 = .ok (.getfield 32, 3) := by decide +kernel
theorem dX8_talks_18 : decode cX8_talks 18 = .ok (.aload_n 0, 1) := by decide +kernel
theorem dX8_talks_19 : decode cX8_talks 19 = .ok (.getfield 28, 3) := by decide +kernel
theorem dX8_talks_22 : decode cX8_talks 22 = .ok (.invokevirtual 188, 3) := by decide +kernel
theorem dX8_talks_25 : decode cX8_talks 25 = .ok (.iconst 0, 1) := by decide +kernel
theorem dX8_talks_26 : decode cX8_talks 26 = .ok (.istore_n 2, 1) := by decide +kernel
theorem dX8_talks_27 : decode cX8_talks 27 = .ok (.iload_n 2, 1) := by decide +kernel
theorem dX8_talks_28 : decode cX8_talks 28 = .ok (.iload_n 1, 1) := by decide +kernel
theorem dX8_talks_29 : decode cX8_talks 29 = .ok (.if_icmp .ge 41, 3) := by decide +kernel
theorem dX8_talks_32 : decode cX8_talks 32 = .ok (.aload_n 0, 1) := by decide +kernel
theorem dX8_talks_33 : decode cX8_talks 33 = .ok (.aload_n 0, 1) := by decide +kernel
theorem dX8_talks_34 : decode cX8_talks 34 = .ok (.getfield 268, 3) := by decide +kernel
theorem dX8_talks_37 : decode cX8_talks 37 = .ok (.ldc2_w 272, 3) := by decide +kernel
theorem dX8_talks_40 : decode cX8_talks 40 = .ok (.lmul, 1) := by decide +kernel
theorem dX8_talks_41 : decode cX8_talks 41 = .ok (.ldc2_w 274, 3) := by decide +kernel
theorem dX8_talks_44 : decode cX8_talks 44 = .ok (.ladd, 1) := by decide +kernel
theorem dX8_talks_45 : decode cX8_talks 45 = .ok (.putfield 268, 3) := by decide +kernel
theorem dX8_talks_48 : decode cX8_talks 48 = .ok (.aload_n 0, 1) := by decide +kernel
theorem dX8_talks_49 : decode cX8_talks 49 = .ok (.aload_n 0, 1) := by decide +kernel
theorem dX8_talks_50 : decode cX8_talks 50 = .ok (.getfield 268, 3) := by decide +kernel
theorem dX8_talks_53 : decode cX8_talks 53 = .ok (.bipush 33, 2) := by decide +kernel
theorem dX8_talks_55 : decode cX8_talks 55 = .ok (.lushr, 1) := by decide +kernel
theorem dX8_talks_56 : decode cX8_talks 56 = .ok (.ldc2_w 276, 3) := by decide +kernel
theorem dX8_talks_59 : decode cX8_talks 59 = .ok (.lrem, 1) := by decide +kernel
theorem dX8_talks_60 : decode cX8_talks 60 = .ok (.l2i, 1) := by decide +kernel
theorem dX8_talks_61 : decode cX8_talks 61 = .ok (.invokevirtual 278, 3) := by decide +kernel
theorem dX8_talks_64 : decode cX8_talks 64 = .ok (.iinc 2 1, 3) := by decide +kernel
theorem dX8_talks_67 : decode cX8_talks 67 = .ok (.goto (-40), 3) := by decide +kernel
theorem dX8_talks_70 : decode cX8_talks 70 = .ok (.aload_n 0, 1) := by decide +kernel
theorem dX8_talks_71 : decode cX8_talks 71 = .ok (.getfield 19, 3) := by decide +kernel
theorem dX8_talks_74 : decode cX8_talks 74 = .ok (.aload_n 0, 1) := by decide +kernel
theorem dX8_talks_75 : decode cX8_talks 75 = .ok (.getfield 32, 3) := by decide +kernel
theorem dX8_talks_78 : decode cX8_talks 78 = .ok (.getfield 107, 3) := by decide +kernel
theorem dX8_talks_81 : decode cX8_talks 81 = .ok (.aload_n 0, 1) := by decide +kernel
theorem dX8_talks_82 : decode cX8_talks 82 = .ok (.getfield 28, 3) := by decide +kernel
theorem dX8_talks_85 : decode cX8_talks 85 = .ok (.getfield 107, 3) := by decide +kernel
theorem dX8_talks_88 : decode cX8_talks 88 = .ok (.iconst (-1), 1) := by decide +kernel
theorem dX8_talks_89 : decode cX8_talks 89 = .ok (.ixor, 1) := by decide +kernel
theorem dX8_talks_90 : decode cX8_talks 90 = .ok (.iand, 1) := by decide +kernel
theorem dX8_talks_91 : decode cX8_talks 91 = .ok (.invokevirtual 281, 3) := by decide +kernel
theorem dX8_talks_94 : decode cX8_talks 94 = .ok (.ireturn, 1) := by decide +kernel
theorem dX8_takeDrawnTurn_0 : decode cX8_takeDrawnTurn 0 = .ok (.iload_n 1, 1) := by decide +kernel
theorem dX8_takeDrawnTurn_1 : decode cX8_takeDrawnTurn 1 = .ok (.iconst 5, 1) := by decide +kernel
theorem dX8_takeDrawnTurn_2 : decode cX8_takeDrawnTurn 2 = .ok (.if_icmp .le 13, 3) := by decide +kernel
theorem dX8_takeDrawnTurn_5 : decode cX8_takeDrawnTurn 5 = .ok (.aload_n 0, 1) := by decide +kernel
theorem dX8_takeDrawnTurn_6 : decode cX8_takeDrawnTurn 6 = .ok (.getfield 32, 3) := by decide +kernel
theorem dX8_takeDrawnTurn_9 : decode cX8_takeDrawnTurn 9 = .ok (.invokevirtual 164, 3) := by decide +kernel
theorem dX8_takeDrawnTurn_12 : decode cX8_takeDrawnTurn 12 = .ok (.goto 32, 3) := by decide +kernel
theorem dX8_takeDrawnTurn_15 : decode cX8_takeDrawnTurn 15 = .ok (.iload_n 1, 1) := by decide +kernel
theorem dX8_takeDrawnTurn_16 : decode cX8_takeDrawnTurn 16 = .ok (.iconst 5, 1) := by decide +kernel
theorem dX8_takeDrawnTurn_17 : decode cX8_takeDrawnTurn 17 = .ok (.if_icmp .ne 16, 3) := by decide +kernel
theorem dX8_takeDrawnTurn_20 : decode cX8_takeDrawnTurn 20 = .ok (.aload_n 0, 1) := by decide +kernel
theorem dX8_takeDrawnTurn_21 : decode cX8_takeDrawnTurn 21 = .ok (.getfield 32, 3) := by decide +kernel
theorem dX8_takeDrawnTurn_24 : decode cX8_takeDrawnTurn 24 = .ok (.bipush 6, 2) := by decide +kernel
theorem dX8_takeDrawnTurn_26 : decode cX8_takeDrawnTurn 26 = .ok (.invokevirtual 212, 3) := by decide +kernel
theorem dX8_takeDrawnTurn_29 : decode cX8_takeDrawnTurn 29 = .ok (.pop, 1) := by decide +kernel
theorem dX8_takeDrawnTurn_30 : decode cX8_takeDrawnTurn 30 = .ok (.goto 14, 3) := by decide +kernel
theorem dX8_takeDrawnTurn_33 : decode cX8_takeDrawnTurn 33 = .ok (.aload_n 0, 1) := by decide +kernel
theorem dX8_takeDrawnTurn_34 : decode cX8_takeDrawnTurn 34 = .ok (.getfield 32, 3) := by decide +kernel
theorem dX8_takeDrawnTurn_37 : decode cX8_takeDrawnTurn 37 = .ok (.iload_n 1, 1) := by decide +kernel
theorem dX8_takeDrawnTurn_38 : decode cX8_takeDrawnTurn 38 = .ok (.iconst 1, 1) := by decide +kernel
theorem dX8_takeDrawnTurn_39 : decode cX8_takeDrawnTurn 39 = .ok (.iadd, 1) := by decide +kernel
theorem dX8_takeDrawnTurn_40 : decode cX8_takeDrawnTurn 40 = .ok (.invokevirtual 212, 3) := by decide +kernel
theorem dX8_takeDrawnTurn_43 : decode cX8_takeDrawnTurn 43 = .ok (.pop, 1) := by decide +kernel
theorem dX8_takeDrawnTurn_44 : decode cX8_takeDrawnTurn 44 = .ok (.return_, 1) := by decide +kernel
theorem dX8_keep_0 : decode cX8_keep 0 = .ok (.iload_n 1, 1) := by decide +kernel
theorem dX8_keep_1 : decode cX8_keep 1 = .ok (.ifCond .lt 8, 3) := by decide +kernel
theorem dX8_keep_4 : decode cX8_keep 4 = .ok (.iload_n 1, 1) := by decide +kernel
theorem dX8_keep_5 : decode cX8_keep 5 = .ok (.iconst 2, 1) := by decide +kernel
theorem dX8_keep_6 : decode cX8_keep 6 = .ok (.if_icmp .lt 5, 3) := by decide +kernel
theorem dX8_keep_9 : decode cX8_keep 9 = .ok (.iconst (-1), 1) := by decide +kernel
theorem dX8_keep_10 : decode cX8_keep 10 = .ok (.ireturn, 1) := by decide +kernel
theorem dX8_keep_11 : decode cX8_keep 11 = .ok (.aload_n 0, 1) := by decide +kernel
theorem dX8_keep_12 : decode cX8_keep 12 = .ok (.getfield 45, 3) := by decide +kernel
theorem dX8_keep_15 : decode cX8_keep 15 = .ok (.iload_n 1, 1) := by decide +kernel
theorem dX8_keep_16 : decode cX8_keep 16 = .ok (.aload_n 0, 1) := by decide +kernel
theorem dX8_keep_17 : decode cX8_keep 17 = .ok (.getfield 28, 3) := by decide +kernel
theorem dX8_keep_20 : decode cX8_keep 20 = .ok (.invokevirtual 284, 3) := by decide +kernel
theorem dX8_keep_23 : decode cX8_keep 23 = .ok (.aload_n 0, 1) := by decide +kernel
theorem dX8_keep_24 : decode cX8_keep 24 = .ok (.getfield 28, 3) := by decide +kernel
theorem dX8_keep_27 : decode cX8_keep 27 = .ok (.getfield 110, 3) := by decide +kernel
theorem dX8_keep_30 : decode cX8_keep 30 = .ok (.ireturn, 1) := by decide +kernel
theorem dX8_again_0 : decode cX8_again 0 = .ok (.iload_n 1, 1) := by decide +kernel
theorem dX8_again_1 : decode cX8_again 1 = .ok (.ifCond .lt 8, 3) := by decide +kernel
theorem dX8_again_4 : decode cX8_again 4 = .ok (.iload_n 1, 1) := by decide +kernel
theorem dX8_again_5 : decode cX8_again 5 = .ok (.iconst 2, 1) := by decide +kernel
theorem dX8_again_6 : decode cX8_again 6 = .ok (.if_icmp .lt 5, 3) := by decide +kernel
theorem dX8_again_9 : decode cX8_again 9 = .ok (.iconst (-1), 1) := by decide +kernel
theorem dX8_again_10 : decode cX8_again 10 = .ok (.ireturn, 1) := by decide +kernel
theorem dX8_again_11 : decode cX8_again 11 = .ok (.aload_n 0, 1) := by decide +kernel
theorem dX8_again_12 : decode cX8_again 12 = .ok (.getfield 45, 3) := by decide +kernel
theorem dX8_again_15 : decode cX8_again 15 = .ok (.getfield 288, 3) := by decide +kernel
theorem dX8_again_18 : decode cX8_again 18 = .ok (.iload_n 1, 1) := by decide +kernel
theorem dX8_again_19 : decode cX8_again 19 = .ok (.baload, 1) := by decide +kernel
theorem dX8_again_20 : decode cX8_again 20 = .ok (.ifCond .ne 6, 3) := by decide +kernel
theorem dX8_again_23 : decode cX8_again 23 = .ok (.bipush (-3), 2) := by decide +kernel
theorem dX8_again_25 : decode cX8_again 25 = .ok (.ireturn, 1) := by decide +kernel
theorem dX8_again_26 : decode cX8_again 26 = .ok (.aload_n 0, 1) := by decide +kernel
theorem dX8_again_27 : decode cX8_again 27 = .ok (.getfield 28, 3) := by decide +kernel
theorem dX8_again_30 : decode cX8_again 30 = .ok (.aload_n 0, 1) := by decide +kernel
theorem dX8_again_31 : decode cX8_again 31 = .ok (.getfield 45, 3) := by decide +kernel
theorem dX8_again_34 : decode cX8_again 34 = .ok (.getfield 292, 3) := by decide +kernel
theorem dX8_again_37 : decode cX8_again 37 = .ok (.iload_n 1, 1) := by decide +kernel
theorem dX8_again_38 : decode cX8_again 38 = .ok (.aaload, 1) := by decide +kernel
theorem dX8_again_39 : decode cX8_again 39 = .ok (.invokevirtual 188, 3) := by decide +kernel
theorem dX8_again_42 : decode cX8_again 42 = .ok (.aload_n 0, 1) := by decide +kernel
theorem dX8_again_43 : decode cX8_again 43 = .ok (.getfield 38, 3) := by decide +kernel
theorem dX8_again_46 : decode cX8_again 46 = .ok (.invokevirtual 88, 3) := by decide +kernel
theorem dX8_again_49 : decode cX8_again 49 = .ok (.aload_n 0, 1) := by decide +kernel
theorem dX8_again_50 : decode cX8_again 50 = .ok (.getfield 28, 3) := by decide +kernel
theorem dX8_again_53 : decode cX8_again 53 = .ok (.getfield 110, 3) := by decide +kernel
theorem dX8_again_56 : decode cX8_again 56 = .ok (.ireturn, 1) := by decide +kernel
theorem dX9_init_0 : decode cX9_init 0 = .ok (.aload_n 0, 1) := by decide +kernel
theorem dX9_init_1 : decode cX9_init 1 = .ok (.invokespecial 1, 3) := by decide +kernel
theorem dX9_init_4 : decode cX9_init 4 = .ok (.aload_n 0, 1) := by decide +kernel
theorem dX9_init_5 : decode cX9_init 5 = .ok (.bipush 48, 2) := by decide +kernel
theorem dX9_init_7 : decode cX9_init 7 = .ok (.newarray .int, 2) := by decide +kernel
theorem dX9_init_9 : decode cX9_init 9 = .ok (.putfield 7, 3) := by decide +kernel
theorem dX9_init_12 : decode cX9_init 12 = .ok (.aload_n 0, 1) := by decide +kernel
theorem dX9_init_13 : decode cX9_init 13 = .ok (.bipush 12, 2) := by decide +kernel
theorem dX9_init_15 : decode cX9_init 15 = .ok (.newarray .int, 2) := by decide +kernel
theorem dX9_init_17 : decode cX9_init 17 = .ok (.putfield 13, 3) := by decide +kernel
theorem dX9_init_20 : decode cX9_init 20 = .ok (.aload_n 0, 1) := by decide +kernel
theorem dX9_init_21 : decode cX9_init 21 = .ok (.bipush 15, 2) := by decide +kernel
theorem dX9_init_23 : decode cX9_init 23 = .ok (.newarray .int, 2) := by decide +kernel
theorem dX9_init_25 : decode cX9_init 25 = .ok (.putfield 16, 3) := by decide +kernel
theorem dX9_init_28 : decode cX9_init 28 = .ok (.aload_n 0, 1) := by decide +kernel
theorem dX9_init_29 : decode cX9_init 29 = .ok (.bipush 12, 2) := by decide +kernel
theorem dX9_init_31 : decode cX9_init 31 = .ok (.newarray .int, 2) := by decide +kernel
theorem dX9_init_33 : decode cX9_init 33 = .ok (.putfield 19, 3) := by decide +kernel
theorem dX9_init_36 : decode cX9_init 36 = .ok (.aload_n 0, 1) := by decide +kernel
theorem dX9_init_37 : decode cX9_init 37 = .ok (.bipush 15, 2) := by decide +kernel
theorem dX9_init_39 : decode cX9_init 39 = .ok (.newarray .int, 2) := by decide +kernel
theorem dX9_init_41 : decode cX9_init 41 = .ok (.putfield 22, 3) := by decide +kernel
theorem dX9_init_44 : decode cX9_init 44 = .ok (.aload_n 0, 1) := by decide +kernel
theorem dX9_init_45 : decode cX9_init 45 = .ok (.bipush 10, 2) := by decide +kernel
theorem dX9_init_47 : decode cX9_init 47 = .ok (.newarray .int, 2) := by decide +kernel
theorem dX9_init_49 : decode cX9_init 49 = .ok (.putfield 25, 3) := by decide +kernel
theorem dX9_init_52 : decode cX9_init 52 = .ok (.aload_n 0, 1) := by decide +kernel
theorem dX9_init_53 : decode cX9_init 53 = .ok (.bipush 10, 2) := by decide +kernel
theorem dX9_init_55 : decode cX9_init 55 = .ok (.newarray .int, 2) := by decide +kernel
theorem dX9_init_57 : decode cX9_init 57 = .ok (.putfield 28, 3) := by decide +kernel
theorem dX9_init_60 : decode cX9_init 60 = .ok (.aload_n 0, 1) := by decide +kernel
theorem dX9_init_61 : decode cX9_init 61 = .ok (.sipush 140, 3) := by decide +kernel
theorem dX9_init_64 : decode cX9_init 64 = .ok (.newarray .int, 2) := by decide +kernel
theorem dX9_init_66 : decode cX9_init 66 = .ok (.putfield 31, 3) := by decide +kernel
theorem dX9_init_69 : decode cX9_init 69 = .ok (.aload_n 0, 1) := by decide +kernel
theorem dX9_init_70 : decode cX9_init 70 = .ok (.bipush 20, 2) := by decide +kernel
theorem dX9_init_72 : decode cX9_init 72 = .ok (.newarray .int, 2) := by decide +kernel
theorem dX9_init_74 : decode cX9_init 74 = .ok (.putfield 34, 3) := by decide +kernel
theorem dX9_init_77 : decode cX9_init 77 = .ok (.aload_n 0, 1) := by decide +kernel
theorem dX9_init_78 : decode cX9_init 78 = .ok (.iconst 2, 1) := by decide +kernel
theorem dX9_init_79 : decode cX9_init 79 = .ok (.newarray .boolean, 2) := by decide +kernel
theorem dX9_init_81 : decode cX9_init 81 = .ok (.putfield 37, 3) := by decide +kernel
theorem dX9_init_84 : decode cX9_init 84 = .ok (.aload_n 0, 1) := by decide +kernel
theorem dX9_init_85 : decode cX9_init 85 = .ok (.bipush 6, 2) := by decide +kernel
theorem dX9_init_87 : decode cX9_init 87 = .ok (.newarray .int, 2) := by decide +kernel
theorem dX9_init_89 : decode cX9_init 89 = .ok (.putfield 41, 3) := by decide +kernel
theorem dX9_init_92 : decode cX9_init 92 = .ok (.aload_n 0, 1) := by decide +kernel
theorem dX9_init_93 : decode cX9_init 93 = .ok (.bipush 6, 2) := by decide +kernel
theorem dX9_init_95 : decode cX9_init 95 = .ok (.newarray .int, 2) := by decide +kernel
theorem dX9_init_97 : decode cX9_init 97 = .ok (.putfield 44, 3) := by decide +kernel
theorem dX9_init_100 : decode cX9_init 100 = .ok (.aload_n 0, 1) := by decide +kernel
theorem dX9_init_101 : decode cX9_init 101 = .ok (.bipush 6, 2) := by decide +kernel
theorem dX9_init_103 : decode cX9_init 103 = .ok (.newarray .int, 2) := by decide +kernel
theorem dX9_init_105 : decode cX9_init 105 = .ok (.putfield 47, 3) := by decide +kernel
theorem dX9_init_108 : decode cX9_init 108 = .ok (.aload_n 0, 1) := by decide +kernel
theorem dX9_init_109 : decode cX9_init 109 = .ok (.bipush 16, 2) := by decide +kernel
theorem dX9_init_111 : decode cX9_init 111 = .ok (.newarray .int, 2) := by decide +kernel
theorem dX9_init_113 : decode cX9_init 113 = .ok (.putfield 50, 3) := by decide +kernel
theorem dX9_init_116 : decode cX9_init 116 = .ok (.return_, 1) := by decide +kernel
theorem dX9_in_0 : decode cX9_in 0 = .ok (.lload_n 0, 1) := by decide +kernel
theorem dX9_in_1 : decode cX9_in 1 = .ok (.lload_n 2, 1) := by decide +kernel
theorem dX9_in_2 : decode cX9_in 2 = .ok (.lcmp, 1) := by decide +kernel
theorem dX9_in_3 : decode cX9_in 3 = .ok (.ifCond .lt 14, 3) := by decide +kernel
theorem dX9_in_6 : decode cX9_in 6 = .ok (.lload_n 0, 1) := by decide +kernel
theorem dX9_in_7 : decode cX9_in 7 = .ok (.lload 4, 2) := by decide +kernel
theorem dX9_in_9 : decode cX9_in 9 = .ok (.lcmp, 1) := by decide +kernel
theorem dX9_in_10 : decode cX9_in 10 = .ok (.ifCond .gt 7, 3) := by decide +kernel
theorem dX9_in_13 : decode cX9_in 13 = .ok (.iconst 1, 1) := by decide +kernel
theorem dX9_in_14 : decode cX9_in 14 = .ok (.goto 4, 3) := by decide +kernel
theorem dX9_in_17 : decode cX9_in 17 = .ok (.iconst 0, 1) := by decide +kernel
theorem dX9_in_18 : decode cX9_in 18 = .ok (.ireturn, 1) := by decide +kernel
theorem dX9_has_0 : decode cX9_has 0 = .ok (.iload_n 0, 1) := by decide +kernel
theorem dX9_has_1 : decode cX9_has 1 = .ok (.iload_n 1, 1) := by decide +kernel
theorem dX9_has_2 : decode cX9_has 2 = .ok (.ishr, 1) := by decide +kernel
theorem dX9_has_3 : decode cX9_has 3 = .ok (.iconst 1, 1) := by decide +kernel
theorem dX9_has_4 : decode cX9_has 4 = .ok (.iand, 1) := by decide +kernel
theorem dX9_has_5 : decode cX9_has 5 = .ok (.iconst 1, 1) := by decide +kernel
theorem dX9_has_6 : decode cX9_has 6 = .ok (.if_icmp .ne 7, 3) := by decide +kernel
theorem dX9_has_9 : decode cX9_has 9 = .ok (.iconst 1, 1) := by decide +kernel
theorem dX9_has_10 : decode cX9_has 10 = .ok (.goto 4, 3) := by decide +kernel
theorem dX9_has_13 : decode cX9_has 13 = .ok (.iconst 0, 1) := by decide +kernel
theorem dX9_has_14 : decode cX9_has 14 = .ok (.ireturn, 1) := by decide +kernel
theorem dX9_many_0 : decode cX9_many 0 = .ok (.iconst 0, 1) := by decide +kernel
theorem dX9_many_1 : decode cX9_many 1 = .ok (.istore_n 1, 1) := by decide +kernel
theorem dX9_many_2 : decode cX9_many 2 = .ok (.iconst 0, 1) := by decide +kernel
theorem dX9_many_3 : decode cX9_many 3 = .ok (.istore_n 2, 1) := by decide +kernel
theorem dX9_many_4 : decode cX9_many 4 = .ok (.iload_n 2, 1) := by decide +kernel
theorem dX9_many_5 : decode cX9_many 5 = .ok (.bipush 8, 2) := by decide +kernel
theorem dX9_many_7 : decode cX9_many 7 = .ok (.if_icmp .ge 17, 3) := by decide +kernel
theorem dX9_many_10 : decode cX9_many 10 = .ok (.iload_n 1, 1) := by decide +kernel
theorem dX9_many_11 : decode cX9_many 11 = .ok (.iload_n 0, 1) := by decide +kernel
theorem dX9_many_12 : decode cX9_many 12 = .ok (.iload_n 2, 1) := by decide +kernel
theorem dX9_many_13 : decode cX9_many 13 = .ok (.ishr, 1) := by decide +kernel
theorem dX9_many_14 : decode cX9_many 14 = .ok (.iconst 1, 1) := by decide +kernel
theorem dX9_many_15 : decode cX9_many 15 = .ok (.iand, 1) := by decide +kernel
theorem dX9_many_16 : decode cX9_many 16 = .ok (.iadd, 1) := by decide +kernel
theorem dX9_many_17 : decode cX9_many 17 = .ok (.istore_n 1, 1) := by decide +kernel
theorem dX9_many_18 : decode cX9_many 18 = .ok (.iinc 2 1, 3) := by decide +kernel
theorem dX9_many_21 : decode cX9_many 21 = .ok (.goto (-17), 3) := by decide +kernel
theorem dX9_many_24 : decode cX9_many 24 = .ok (.iload_n 1, 1) := by decide +kernel
theorem dX9_many_25 : decode cX9_many 25 = .ok (.ireturn, 1) := by decide +kernel
theorem dX9_noEnvoy_0 : decode cX9_noEnvoy 0 = .ok (.iload_n 1, 1) := by decide +kernel
theorem dX9_noEnvoy_1 : decode cX9_noEnvoy 1 = .ok (.i2l, 1) := by decide +kernel
theorem dX9_noEnvoy_2 : decode cX9_noEnvoy 2 = .ok (.lconst 0, 1) := by decide +kernel
theorem dX9_noEnvoy_3 : decode cX9_noEnvoy 3 = .ok (.aload_n 0, 1) := by decide +kernel
theorem dX9_noEnvoy_4 : decode cX9_noEnvoy 4 = .ok (.getfield 57, 3) := by decide +kernel
theorem dX9_noEnvoy_7 : decode cX9_noEnvoy 7 = .ok (.iconst 1, 1) := by decide +kernel
theorem dX9_noEnvoy_8 : decode cX9_noEnvoy 8 = .ok (.isub, 1) := by decide +kernel
theorem dX9_noEnvoy_9 : decode cX9_noEnvoy 9 = .ok (.i2l, 1) := by decide +kernel
theorem dX9_noEnvoy_10 : decode cX9_noEnvoy 10 = .ok (.invokestatic 60, 3) := by decide +kernel
theorem dX9_noEnvoy_13 : decode cX9_noEnvoy 13 = .ok (.ifCond .ne 7, 3) := by decide +kernel
theorem dX9_noEnvoy_16 : decode cX9_noEnvoy 16 = .ok (.iconst 1, 1) := by decide +kernel
theorem dX9_noEnvoy_17 : decode cX9_noEnvoy 17 = .ok (.goto 4, 3) := by decide +kernel
theorem dX9_noEnvoy_20 : decode cX9_noEnvoy 20 = .ok (.iconst 0, 1) := by decide +kernel
theorem dX9_noEnvoy_21 : decode cX9_noEnvoy 21 = .ok (.ireturn, 1) := by decide +kernel
theorem dX9_noClause_0 : decode cX9_noClause 0 = .ok (.iload_n 1, 1) := by decide +kernel
theorem dX9_noClause_1 : decode cX9_noClause 1 = .ok (.i2l, 1) := by decide +kernel
theorem dX9_noClause_2 : decode cX9_noClause 2 = .ok (.lconst 0, 1) := by decide +kernel
theorem dX9_noClause_3 : decode cX9_noClause 3 = .ok (.aload_n 0, 1) := by decide +kernel
theorem dX9_noClause_4 : decode cX9_noClause 4 = .ok (.getfield 64, 3) := by decide +kernel
theorem dX9_noClause_7 : decode cX9_noClause 7 = .ok (.iconst 1, 1) := by decide +kernel
theorem dX9_noClause_8 : decode cX9_noClause 8 = .ok (.isub, 1) := by decide +kernel
theorem dX9_noClause_9 : decode cX9_noClause 9 = .ok (.i2l, 1) := by decide +kernel
theorem dX9_noClause_10 : decode cX9_noClause 10 = .ok (.invokestatic 60, 3) := by decide +kernel
theorem dX9_noClause_13 : decode cX9_noClause 13 = .ok (.ifCond .ne 7, 3) := by decide +kernel
theorem dX9_noClause_16 : decode cX9_noClause 16 = .ok (.iconst 1, 1) := by decide +kernel
theorem dX9_noClause_17 : decode cX9_noClause 17 = .ok (.goto 4, 3) := by decide +kernel
theorem dX9_noClause_20 : decode cX9_noClause 20 = .ok (.iconst 0, 1) := by decide +kernel
theorem dX9_noClause_21 : decode cX9_noClause 21 = .ok (.ireturn, 1) := by decide +kernel
theorem dX9_write_0 : decode cX9_write 0 = .ok (.aload_n 0, 1) := by decide +kernel
theorem dX9_write_1 : decode cX9_write 1 = .ok (.iconst 0, 1) := by decide +kernel
theorem dX9_write_2 : decode cX9_write 2 = .ok (.putfield 53, 3) := by decide +kernel
theorem dX9_write_5 : decode cX9_write 5 = .ok (.iload_n 1, 1) := by decide +kernel
theorem dX9_write_6 : decode cX9_write 6 = .ok (.i2l, 1) := by decide +kernel
theorem dX9_write_7 : decode cX9_write 7 = .ok (.lconst 0, 1) := by decide +kernel
theorem dX9_write_8 : decode cX9_write 8 = .ok (.ldc2_w 67, 3) := by decide +kernel
theorem dX9_write_11 : decode cX9_write 11 = .ok (.invokestatic 60, 3) := by decide +kernel
theorem dX9_write_14 : decode cX9_write 14 = .ok (.ifCond .ne 6, 3) := by decide +kernel
theorem dX9_write_17 : decode cX9_write 17 = .ok (.bipush (-2), 2) := by decide +kernel
theorem dX9_write_19 : decode cX9_write 19 = .ok (.ireturn, 1) := by decide +kernel
theorem dX9_write_20 : decode cX9_write 20 = .ok (.aload_n 0, 1) := by decide +kernel
theorem dX9_write_21 : decode cX9_write 21 = .ok (.getfield 69, 3) := by decide +kernel
theorem dX9_write_24 : decode cX9_write 24 = .ok (.bipush 48, 2) := by decide +kernel
theorem dX9_write_26 : decode cX9_write 26 = .ok (.if_icmp .ne 6, 3) := by decide +kernel
theorem dX9_write_29 : decode cX9_write 29 = .ok (.bipush (-4), 2) := by decide +kernel
theorem dX9_write_31 : decode cX9_write 31 = .ok (.ireturn, 1) := by decide +kernel
theorem dX9_write_32 : decode cX9_write 32 = .ok (.aload_n 0, 1) := by decide +kernel
theorem dX9_write_33 : decode cX9_write 33 = .ok (.getfield 7, 3) := by decide +kernel
theorem dX9_write_36 : decode cX9_write 36 = .ok (.aload_n 0, 1) := by decide +kernel
theorem dX9_write_37 : decode cX9_write 37 = .ok (.getfield 69, 3) := by decide +kernel
theorem dX9_write_40 : decode cX9_write 40 = .ok (.iload_n 1, 1) := by decide +kernel
theorem dX9_write_41 : decode cX9_write 41 = .ok (.iastore, 1) := by decide +kernel
theorem dX9_write_42 : decode cX9_write 42 = .ok (.aload_n 0, 1) := by decide +kernel
theorem dX9_write_43 : decode cX9_write 43 = .ok (.dup, 1) := by decide +kernel
theorem dX9_write_44 : decode cX9_write 44 = .ok (.getfield 69, 3) := by decide +kernel
theorem dX9_write_47 : decode cX9_write 47 = .ok (.iconst 1, 1) := by decide +kernel
theorem dX9_write_48 : decode cX9_write 48 = .ok (.iadd, 1) := by decide +kernel
theorem dX9_write_49 : decode cX9_write 49 = .ok (.putfield 69, 3) := by decide +kernel
theorem dX9_write_52 : decode cX9_write 52 = .ok (.aload_n 0, 1) := by decide +kernel
theorem dX9_write_53 : decode cX9_write 53 = .ok (.getfield 69, 3) := by decide +kernel
theorem dX9_write_56 : decode cX9_write 56 = .ok (.ireturn, 1) := by decide +kernel
theorem dX9_wipe_0 : decode cX9_wipe 0 = .ok (.aload_n 0, 1) := by decide +kernel
theorem dX9_wipe_1 : decode cX9_wipe 1 = .ok (.iconst 0, 1) := by decide +kernel
theorem dX9_wipe_2 : decode cX9_wipe 2 = .ok (.putfield 53, 3) := by decide +kernel
theorem dX9_wipe_5 : decode cX9_wipe 5 = .ok (.aload_n 0, 1) := by decide +kernel
theorem dX9_wipe_6 : decode cX9_wipe 6 = .ok (.getfield 69, 3) := by decide +kernel
theorem dX9_wipe_9 : decode cX9_wipe 9 = .ok (.istore_n 1, 1) := by decide +kernel
theorem dX9_wipe_10 : decode cX9_wipe 10 = .ok (.aload_n 0, 1) := by decide +kernel
theorem dX9_wipe_11 : decode cX9_wipe 11 = .ok (.iconst 0, 1) := by decide +kernel
theorem dX9_wipe_12 : decode cX9_wipe 12 = .ok (.putfield 69, 3) := by decide +kernel
theorem dX9_wipe_15 : decode cX9_wipe 15 = .ok (.iload_n 1, 1) := by decide +kernel
theorem dX9_wipe_16 : decode cX9_wipe 16 = .ok (.ireturn, 1) := by decide +kernel
theorem dX9_figure_0 : decode cX9_figure 0 = .ok (.aload_n 0, 1) := by decide +kernel
theorem dX9_figure_1 : decode cX9_figure 1 = .ok (.getfield 72, 3) := by decide +kernel
theorem dX9_figure_4 : decode cX9_figure 4 = .ok (.aload_n 0, 1) := by decide +kernel
theorem dX9_figure_5 : decode cX9_figure 5 = .ok (.getfield 69, 3) := by decide +kernel
theorem dX9_figure_8 : decode cX9_figure 8 = .ok (.if_icmp .eq 26, 3) := by decide +kernel
theorem dX9_figure_11 : decode cX9_figure 11 = .ok (.aload_n 0, 1) := by decide +kernel
theorem dX9_figure_12 : decode cX9_figure 12 = .ok (.getfield 7, 3) := by decide +kernel
theorem dX9_figure_15 : decode cX9_figure 15 = .ok (.aload_n 0, 1) := by decide +kernel
theorem dX9_figure_16 : decode cX9_figure 16 = .ok (.getfield 72, 3) := by decide +kernel
theorem dX9_figure_19 : decode cX9_figure 19 = .ok (.iaload, 1) := by decide +kernel
theorem dX9_figure_20 : decode cX9_figure 20 = .ok (.bipush 48, 2) := by decide +kernel
theorem dX9_figure_22 : decode cX9_figure 22 = .ok (.isub, 1) := by decide +kernel
theorem dX9_figure_23 : decode cX9_figure 23 = .ok (.i2l, 1) := by decide +kernel
theorem dX9_figure_24 : decode cX9_figure 24 = .ok (.iload_n 1, 1) := by decide +kernel
theorem dX9_figure_25 : decode cX9_figure 25 = .ok (.i2l, 1) := by decide +kernel
theorem dX9_figure_26 : decode cX9_figure 26 = .ok (.iload_n 2, 1) := by decide +kernel
theorem dX9_figure_27 : decode cX9_figure 27 = .ok (.i2l, 1) := by decide +kernel
theorem dX9_figure_28 : decode cX9_figure 28 = .ok (.invokestatic 60, 3) := by decide +kernel
theorem dX9_figure_31 : decode cX9_figure 31 = .ok (.ifCond .ne 6, 3) := by decide +kernel
theorem dX9_figure_34 : decode cX9_figure 34 = .ok (.bipush (-9), 2) := by decide +kernel
theorem dX9_figure_36 : decode cX9_figure 36 = .ok (.ireturn, 1) := by decide +kernel
theorem dX9_figure_37 : decode cX9_figure 37 = .ok (.aload_n 0, 1) := by decide +kernel
theorem dX9_figure_38 : decode cX9_figure 38 = .ok (.dup, 1) := by decide +kernel
theorem dX9_figure_39 : decode cX9_figure 39 = .ok (.getfield 72, 3) := by decide +kernel
theorem dX9_figure_42 : decode cX9_figure 42 = .ok (.iconst 1, 1) := by decide +kernel
theorem dX9_figure_43 : decode cX9_figure 43 = .ok (.iadd, 1) := by decide +kernel
theorem dX9_figure_44 : decode cX9_figure 44 = .ok (.putfield 72, 3) := by decide +kernel
theorem dX9_figure_47 : decode cX9_figure 47 = .ok (.aload_n 0, 1) := by decide +kernel
theorem dX9_figure_48 : decode cX9_figure 48 = .ok (.getfield 7, 3) := by decide +kernel
theorem dX9_figure_51 : decode cX9_figure 51 = .ok (.aload_n 0, 1) := by decide +kernel
theorem dX9_figure_52 : decode cX9_figure 52 = .ok (.getfield 72, 3) := by decide +kernel
theorem dX9_figure_55 : decode cX9_figure 55 = .ok (.iconst 1, 1) := by decide +kernel
theorem dX9_figure_56 : decode cX9_figure 56 = .ok (.isub, 1) := by decide +kernel
theorem dX9_figure_57 : decode cX9_figure 57 = .ok (.iaload, 1) := by decide +kernel
theorem dX9_figure_58 : decode cX9_figure 58 = .ok (.bipush 48, 2) := by decide +kernel
theorem dX9_figure_60 : decode cX9_figure 60 = .ok (.isub, 1) := by decide +kernel
theorem dX9_figure_61 : decode cX9_figure 61 = .ok (.ireturn, 1) := by decide +kernel
theorem dX9_readEnvoy_0 : decode cX9_readEnvoy 0 = .ok (.aload_n 0, 1) := by decide +kernel
theorem dX9_readEnvoy_1 : decode cX9_readEnvoy 1 = .ok (.iconst 0, 1) := by decide +kernel
theorem dX9_readEnvoy_2 : decode cX9_readEnvoy 2 = .ok (.bipush 9, 2) := by decide +kernel
theorem dX9_readEnvoy_4 : decode cX9_readEnvoy 4 = .ok (.invokevirtual 75, 3) := by decide +kernel
theorem dX9_readEnvoy_7 : decode cX9_readEnvoy 7 = .ok (.istore_n 1, 1) := by decide +kernel
theorem dX9_readEnvoy_8 : decode cX9_readEnvoy 8 = .ok (.iload_n 1, 1) := by decide +kernel
theorem dX9_readEnvoy_9 : decode cX9_readEnvoy 9 = .ok (.bipush (-9), 2) := by decide +kernel
theorem dX9_readEnvoy_11 : decode cX9_readEnvoy 11 = .ok (.if_icmp .ne 8, 3) := by decide +kernel
theorem dX9_readEnvoy_14 : decode cX9_readEnvoy 14 = .ok (.bipush (-9), 2) := by decide +kernel
theorem dX9_readEnvoy_16 : decode cX9_readEnvoy 16 = .ok (.goto 10, 3) := by decide +kernel
theorem dX9_readEnvoy_19 : decode cX9_readEnvoy 19 = .ok (.aload_n 0, 1) := by decide +kernel
theorem dX9_readEnvoy_20 : decode cX9_readEnvoy 20 = .ok (.iconst 1, 1) := by decide +kernel
theorem dX9_readEnvoy_21 : decode cX9_readEnvoy 21 = .ok (.bipush 9, 2) := by decide +kernel
theorem dX9_readEnvoy_23 : decode cX9_readEnvoy 23 = .ok (.invokevirtual 75, 3) := by decide +kernel
theorem dX9_readEnvoy_26 : decode cX9_readEnvoy 26 = .ok (.istore_n 2, 1) := by decide +kernel
theorem dX9_readEnvoy_27 : decode cX9_readEnvoy 27 = .ok (.iload_n 2, 1) := by decide +kernel
theorem dX9_readEnvoy_28 : decode cX9_readEnvoy 28 = .ok (.bipush (-9), 2) := by decide +kernel
theorem dX9_readEnvoy_30 : decode cX9_readEnvoy 30 = .ok (.if_icmp .ne 8, 3) := by decide +kernel
theorem dX9_readEnvoy_33 : decode cX9_readEnvoy 33 = .ok (.bipush (-9), 2) := by decide +kernel
theorem dX9_readEnvoy_35 : decode cX9_readEnvoy 35 = .ok (.goto 9, 3) := by decide +kernel
theorem dX9_readEnvoy_38 : decode cX9_readEnvoy 38 = .ok (.aload_n 0, 1) := by decide +kernel
theorem dX9_readEnvoy_39 : decode cX9_readEnvoy 39 = .ok (.iconst 0, 1) := by decide +kernel
theorem dX9_readEnvoy_40 : decode cX9_readEnvoy 40 = .ok (.iconst 3, 1) := by decide +kernel
theorem dX9_readEnvoy_41 : decode cX9_readEnvoy 41 = .ok (.invokevirtual 75, 3) := by decide +kernel
theorem dX9_readEnvoy_44 : decode cX9_readEnvoy 44 = .ok (.istore_n 3, 1) := by decide +kernel
theorem dX9_readEnvoy_45 : decode cX9_readEnvoy 45 = .ok (.iload_n 3, 1) := by decide +kernel
theorem dX9_readEnvoy_46 : decode cX9_readEnvoy 46 = .ok (.bipush (-9), 2) := by decide +kernel
theorem dX9_readEnvoy_48 : decode cX9_readEnvoy 48 = .ok (.if_icmp .ne 5, 3) := by decide +kernel
theorem dX9_readEnvoy_51 : decode cX9_readEnvoy 51 = .ok (.iconst 0, 1) := by decide +kernel
theorem dX9_readEnvoy_52 : decode cX9_readEnvoy 52 = .ok (.ireturn, 1) := by decide +kernel
theorem dX9_readEnvoy_53 : decode cX9_readEnvoy 53 = .ok (.aload_n 0, 1) := by decide +kernel
theorem dX9_readEnvoy_54 : decode cX9_readEnvoy 54 = .ok (.getfield 19, 3) := by decide +kernel
theorem dX9_readEnvoy_57 : decode cX9_readEnvoy 57 = .ok (.iconst 3, 1) := by decide +kernel
theorem dX9_readEnvoy_58 : decode cX9_readEnvoy 58 = .ok (.aload_n 0, 1) := by decide +kernel
theorem dX9_readEnvoy_59 : decode cX9_readEnvoy 59 = .ok (.getfield 79, 3) := by decide +kernel
theorem dX9_readEnvoy_62 : decode cX9_readEnvoy 62 = .ok (.imul, 1) := by decide +kernel
theorem dX9_readEnvoy_63 : decode cX9_readEnvoy 63 = .ok (.iload_n 1, 1) := by decide +kernel
theorem dX9_readEnvoy_64 : decode cX9_readEnvoy 64 = .ok (.iastore, 1) := by decide +kernel
theorem dX9_readEnvoy_65 : decode cX9_readEnvoy 65 = .ok (.aload_n 0, 1) := by decide +kernel
theorem dX9_readEnvoy_66 : decode cX9_readEnvoy 66 = .ok (.getfield 19, 3) := by decide +kernel
theorem dX9_readEnvoy_69 : decode cX9_readEnvoy 69 = .ok (.iconst 3, 1) := by decide +kernel
theorem dX9_readEnvoy_70 : decode cX9_readEnvoy 70 = .ok (.aload_n 0, 1) := by decide +kernel
theorem dX9_readEnvoy_71 : decode cX9_readEnvoy 71 = .ok (.getfield 79, 3) := by decide +kernel
theorem dX9_readEnvoy_74 : decode cX9_readEnvoy 74 = .ok (.imul, 1) := by decide +kernel
theorem dX9_readEnvoy_75 : decode cX9_readEnvoy 75 = .ok (.iconst 1, 1) := by decide +kernel
theorem dX9_readEnvoy_76 : decode cX9_readEnvoy 76 = .ok (.iadd, 1) := by decide +kernel
theorem dX9_readEnvoy_77 : decode cX9_readEnvoy 77 = .ok (.iload_n 2, 1) := by decide +kernel
theorem dX9_readEnvoy_78 : decode cX9_readEnvoy 78 = .ok (.iastore, 1) := by decide +kernel
theorem dX9_readEnvoy_79 : decode cX9_readEnvoy 79 = .ok (.aload_n 0, 1) := by decide +kernel
theorem dX9_readEnvoy_80 : decode cX9_readEnvoy 80 = .ok (.getfield 19, 3) := by decide +kernel
theorem dX9_readEnvoy_83 : decode cX9_readEnvoy 83 = .ok (.iconst 3, 1) := by decide +kernel
theorem dX9_readEnvoy_84 : decode cX9_readEnvoy 84 = .ok (.aload_n 0, 1) := by decide +kernel
theorem dX9_readEnvoy_85 : decode cX9_readEnvoy 85 = .ok (.getfield 79, 3) := by decide +kernel
theorem dX9_readEnvoy_88 : decode cX9_readEnvoy 88 = .ok (.imul, 1) := by decide +kernel
theorem dX9_readEnvoy_89 : decode cX9_readEnvoy 89 = .ok (.iconst 2, 1) := by decide +kernel
theorem dX9_readEnvoy_90 : decode cX9_readEnvoy 90 = .ok (.iadd, 1) := by decide +kernel
theorem dX9_readEnvoy_91 : decode cX9_readEnvoy 91 = .ok (.iload_n 3, 1) := by decide +kernel
theorem dX9_readEnvoy_92 : decode cX9_readEnvoy 92 = .ok (.iastore, 1) := by decide +kernel
theorem dX9_readEnvoy_93 : decode cX9_readEnvoy 93 = .ok (.aload_n 0, 1) := by decide +kernel
theorem dX9_readEnvoy_94 : decode cX9_readEnvoy 94 = .ok (.dup, 1) := by decide +kernel
theorem dX9_readEnvoy_95 : decode cX9_readEnvoy 95 = .ok (.getfield 79, 3) := by decide +kernel
theorem dX9_readEnvoy_98 : decode cX9_readEnvoy 98 = .ok (.iconst 1, 1) := by decide +kernel
theorem dX9_readEnvoy_99 : decode cX9_readEnvoy 99 = .ok (.iadd, 1) := by decide +kernel
theorem dX9_readEnvoy_100 : decode cX9_readEnvoy 100 = .ok (.putfield 79, 3) := by decide +kernel
theorem dX9_readEnvoy_103 : decode cX9_readEnvoy 103 = .ok (.iconst 1, 1) := by decide +kernel
theorem dX9_readEnvoy_104 : decode cX9_readEnvoy 104 = .ok (.ireturn, 1) := by decide +kernel
theorem dX9_readClause_0 : decode cX9_readClause 0 = .ok (.aload_n 0, 1) := by decide +kernel
theorem dX9_readClause_1 : decode cX9_readClause 1 = .ok (.iconst 1, 1) := by decide +kernel
theorem dX9_readClause_2 : decode cX9_readClause 2 = .ok (.iconst 4, 1) := by decide +kernel
theorem dX9_readClause_3 : decode cX9_readClause 3 = .ok (.invokevirtual 75, 3) := by decide +kernel
theorem dX9_readClause_6 : decode cX9_readClause 6 = .ok (.istore_n 1, 1) := by decide +kernel
theorem dX9_readClause_7 : decode cX9_readClause 7 = .ok (.iload_n 1, 1) := by decide +kernel
theorem dX9_readClause_8 : decode cX9_readClause 8 = .ok (.bipush (-9), 2) := by decide +kernel
theorem dX9_readClause_10 : decode cX9_readClause 10 = .ok (.if_icmp .ne 8, 3) := by decide +kernel
theorem dX9_readClause_13 : decode cX9_readClause 13 = .ok (.bipush (-9), 2) := by decide +kernel
theorem dX9_readClause_15 : decode cX9_readClause 15 = .ok (.goto 10, 3) := by decide +kernel
theorem dX9_readClause_18 : decode cX9_readClause 18 = .ok (.aload_n 0, 1) := by decide +kernel
theorem dX9_readClause_19 : decode cX9_readClause 19 = .ok (.iconst 0, 1) := by decide +kernel
theorem dX9_readClause_20 : decode cX9_readClause 20 = .ok (.bipush 9, 2) := by decide +kernel
theorem dX9_readClause_22 : decode cX9_readClause 22 = .ok (.invokevirtual 75, 3) := by decide +kernel
theorem dX9_readClause_25 : decode cX9_readClause 25 = .ok (.istore_n 2, 1) := by decide +kernel
theorem dX9_readClause_26 : decode cX9_readClause 26 = .ok (.iload_n 2, 1) := by decide +kernel
theorem dX9_readClause_27 : decode cX9_readClause 27 = .ok (.bipush (-9), 2) := by decide +kernel
theorem dX9_readClause_29 : decode cX9_readClause 29 = .ok (.if_icmp .ne 8, 3) := by decide +kernel
theorem dX9_readClause_32 : decode cX9_readClause 32 = .ok (.bipush (-9), 2) := by decide +kernel
theorem dX9_readClause_34 : decode cX9_readClause 34 = .ok (.goto 14, 3) := by decide +kernel
theorem dX9_readClause_37 : decode cX9_readClause 37 = .ok (.aload_n 0, 1) := by decide +kernel
theorem dX9_readClause_38 : decode cX9_readClause 38 = .ok (.iconst 0, 1) := by decide +kernel
theorem dX9_readClause_39 : decode cX9_readClause 39 = .ok (.aload_n 0, 1) := by decide +kernel
theorem dX9_readClause_40 : decode cX9_readClause 40 = .ok (.getfield 79, 3) := by decide +kernel
theorem dX9_readClause_43 : decode cX9_readClause 43 = .ok (.iconst 1, 1) := by decide +kernel
theorem dX9_readClause_44 : decode cX9_readClause 44 = .ok (.isub, 1) := by decide +kernel
theorem dX9_readClause_45 : decode cX9_readClause 45 = .ok (.invokevirtual 75, 3) := by decide +kernel
theorem dX9_readClause_48 : decode cX9_readClause 48 = .ok (.istore_n 3, 1) := by decide +kernel
theorem dX9_readClause_49 : decode cX9_readClause 49 = .ok (.iload_n 3, 1) := by decide +kernel
theorem dX9_readClause_50 : decode cX9_readClause 50 = .ok (.bipush (-9), 2) := by decide +kernel
theorem dX9_readClause_52 : decode cX9_readClause 52 = .ok (.if_icmp .ne 5, 3) := by decide +kernel
theorem dX9_readClause_55 : decode cX9_readClause 55 = .ok (.iconst 0, 1) := by decide +kernel
theorem dX9_readClause_56 : decode cX9_readClause 56 = .ok (.ireturn, 1) := by decide +kernel
theorem dX9_readClause_57 : decode cX9_readClause 57 = .ok (.aload_n 0, 1) := by decide +kernel
theorem dX9_readClause_58 : decode cX9_readClause 58 = .ok (.getfield 22, 3) := by decide +kernel
theorem dX9_readClause_61 : decode cX9_readClause 61 = .ok (.iconst 3, 1) := by decide +kernel
theorem dX9_readClause_62 : decode cX9_readClause 62 = .ok (.aload_n 0, 1) := by decide +kernel
theorem dX9_readClause_63 : decode cX9_readClause 63 = .ok (.getfield 82, 3) := by decide +kernel
theorem dX9_readClause_66 : decode cX9_readClause 66 = .ok (.imul, 1) := by decide +kernel
theorem dX9_readClause_67 : decode cX9_readClause 67 = .ok (.iload_n 1, 1) := by decide +kernel
theorem dX9_readClause_68 : decode cX9_readClause 68 = .ok (.iastore, 1) := by decide +kernel
theorem dX9_readClause_69 : decode cX9_readClause 69 = .ok (.aload_n 0, 1) := by decide +kernel
theorem dX9_readClause_70 : decode cX9_readClause 70 = .ok (.getfield 22, 3) := by decide +kernel
theorem dX9_readClause_73 : decode cX9_readClause 73 = .ok (.iconst 3, 1) := by decide +kernel
theorem dX9_readClause_74 : decode cX9_readClause 74 = .ok (.aload_n 0, 1) := by decide +kernel
theorem dX9_readClause_75 : decode cX9_readClause 75 = .ok (.getfield 82, 3) := by decide +kernel
theorem dX9_readClause_78 : decode cX9_readClause 78 = .ok (.imul, 1) := by decide +kernel
theorem dX9_readClause_79 : decode cX9_readClause 79 = .ok (.iconst 1, 1) := by decide +kernel
theorem dX9_readClause_80 : decode cX9_readClause 80 = .ok (.iadd, 1) := by decide +kernel
theorem dX9_readClause_81 : decode cX9_readClause 81 = .ok (.iload_n 2, 1) := by decide +kernel
theorem dX9_readClause_82 : decode cX9_readClause 82 = .ok (.iastore, 1) := by decide +kernel
theorem dX9_readClause_83 : decode cX9_readClause 83 = .ok (.aload_n 0, 1) := by decide +kernel
theorem dX9_readClause_84 : decode cX9_readClause 84 = .ok (.getfield 22, 3) := by decide +kernel
