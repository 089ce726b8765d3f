theorem d_Model_lay_54 : decode b_Model_lay 54 = .ok (.getfield 30, 3) := by decide +kernel
theorem d_Model_lay_57 : decode b_Model_lay 57 = .ok (.iload_n 1, 1) := by decide +kernel
theorem d_Model_lay_58 : decode b_Model_lay 58 = .ok (.baload, 1) := by decide +kernel
theorem d_Model_lay_59 : decode b_Model_lay 59 = .ok (.ifCond .eq 17, 3) := by decide +kernel
theorem d_Model_lay_62 : decode b_Model_lay 62 = .ok (.iload_n 1, 1) := by decide +kernel
theorem d_Model_lay_63 : decode b_Model_lay 63 = .ok (.ifCond .le 13, 3) := by decide +kernel
theorem d_Model_lay_66 : decode b_Model_lay 66 = .ok (.aload_n 0, 1) := by decide +kernel
theorem d_Model_lay_67 : decode b_Model_lay 67 = .ok (.aload_n 0, 1) := by decide +kernel
theorem d_Model_lay_68 : decode b_Model_lay 68 = .ok (.getfield 27, 3) := by decide +kernel
theorem d_Model_lay_71 : decode b_Model_lay 71 = .ok (.iload_n 1, 1) := by decide +kernel
theorem d_Model_lay_72 : decode b_Model_lay 72 = .ok (.iaload, 1) := by decide +kernel
theorem d_Model_lay_73 : decode b_Model_lay 73 = .ok (.invokevirtual 243, 3) := by decide +kernel
theorem d_Model_lay_76 : decode b_Model_lay 76 = .ok (.aload_n 0, 1) := by decide +kernel
theorem d_Model_lay_77 : decode b_Model_lay 77 = .ok (.getfield 17, 3) := by decide +kernel
theorem d_Model_lay_80 : decode b_Model_lay 80 = .ok (.iload_n 1, 1) := by decide +kernel
theorem d_Model_lay_81 : decode b_Model_lay 81 = .ok (.iaload, 1) := by decide +kernel
theorem d_Model_lay_82 : decode b_Model_lay 82 = .ok (.iconst 3, 1) := by decide +kernel
theorem d_Model_lay_83 : decode b_Model_lay 83 = .ok (.if_icmp .ne 14, 3) := by decide +kernel
theorem d_Model_lay_86 : decode b_Model_lay 86 = .ok (.aload_n 0, 1) := by decide +kernel
theorem d_Model_lay_87 : decode b_Model_lay 87 = .ok (.iload_n 1, 1) := by decide +kernel
theorem d_Model_lay_88 : decode b_Model_lay 88 = .ok (.aload_n 0, 1) := by decide +kernel
theorem d_Model_lay_89 : decode b_Model_lay 89 = .ok (.getfield 20, 3) := by decide +kernel
theorem d_Model_lay_92 : decode b_Model_lay 92 = .ok (.iload_n 1, 1) := by decide +kernel
theorem d_Model_lay_93 : decode b_Model_lay 93 = .ok (.laload, 1) := by decide +kernel
theorem d_Model_lay_94 : decode b_Model_lay 94 = .ok (.invokevirtual 252, 3) := by decide +kernel
theorem d_Model_lay_97 : decode b_Model_lay 97 = .ok (.aload_n 0, 1) := by decide +kernel
theorem d_Model_lay_98 : decode b_Model_lay 98 = .ok (.getfield 17, 3) := by decide +kernel
theorem d_Model_lay_101 : decode b_Model_lay 101 = .ok (.iload_n 1, 1) := by decide +kernel
theorem d_Model_lay_102 : decode b_Model_lay 102 = .ok (.iaload, 1) := by decide +kernel
theorem d_Model_lay_103 : decode b_Model_lay 103 = .ok (.ifCond .ne 14, 3) := by decide +kernel
theorem d_Model_lay_106 : decode b_Model_lay 106 = .ok (.aload_n 0, 1) := by decide +kernel
theorem d_Model_lay_107 : decode b_Model_lay 107 = .ok (.iload_n 1, 1) := by decide +kernel
theorem d_Model_lay_108 : decode b_Model_lay 108 = .ok (.aload_n 0, 1) := by decide +kernel
theorem d_Model_lay_109 : decode b_Model_lay 109 = .ok (.getfield 20, 3) := by decide +kernel
theorem d_Model_lay_112 : decode b_Model_lay 112 = .ok (.iload_n 1, 1) := by decide +kernel
theorem d_Model_lay_113 : decode b_Model_lay 113 = .ok (.laload, 1) := by decide +kernel
theorem d_Model_lay_114 : decode b_Model_lay 114 = .ok (.invokevirtual 255, 3) := by decide +kernel
theorem d_Model_lay_117 : decode b_Model_lay 117 = .ok (.aload_n 0, 1) := by decide +kernel
theorem d_Model_lay_118 : decode b_Model_lay 118 = .ok (.aload_n 0, 1) := by decide +kernel
theorem d_Model_lay_119 : decode b_Model_lay 119 = .ok (.getfield 17, 3) := by decide +kernel
theorem d_Model_lay_122 : decode b_Model_lay 122 = .ok (.iload_n 1, 1) := by decide +kernel
theorem d_Model_lay_123 : decode b_Model_lay 123 = .ok (.iaload, 1) := by decide +kernel
theorem d_Model_lay_124 : decode b_Model_lay 124 = .ok (.aload_n 0, 1) := by decide +kernel
theorem d_Model_lay_125 : decode b_Model_lay 125 = .ok (.getfield 20, 3) := by decide +kernel
theorem d_Model_lay_128 : decode b_Model_lay 128 = .ok (.iload_n 1, 1) := by decide +kernel
theorem d_Model_lay_129 : decode b_Model_lay 129 = .ok (.laload, 1) := by decide +kernel
theorem d_Model_lay_130 : decode b_Model_lay 130 = .ok (.invokevirtual 208, 3) := by decide +kernel
theorem d_Model_lay_133 : decode b_Model_lay 133 = .ok (.iinc 1 1, 3) := by decide +kernel
theorem d_Model_lay_136 : decode b_Model_lay 136 = .ok (.goto (-114), 3) := by decide +kernel
theorem d_Model_lay_139 : decode b_Model_lay 139 = .ok (.aload_n 0, 1) := by decide +kernel
theorem d_Model_lay_140 : decode b_Model_lay 140 = .ok (.getfield 123, 3) := by decide +kernel
theorem d_Model_lay_143 : decode b_Model_lay 143 = .ok (.ifCond .le 4, 3) := by decide +kernel
theorem d_Model_lay_146 : decode b_Model_lay 146 = .ok (.return_, 1) := by decide +kernel
theorem d_Model_lay_147 : decode b_Model_lay 147 = .ok (.aload_n 0, 1) := by decide +kernel
theorem d_Model_lay_148 : decode b_Model_lay 148 = .ok (.aload_n 0, 1) := by decide +kernel
theorem d_Model_lay_149 : decode b_Model_lay 149 = .ok (.getfield 144, 3) := by decide +kernel
theorem d_Model_lay_152 : decode b_Model_lay 152 = .ok (.invokevirtual 246, 3) := by decide +kernel
theorem d_Model_lay_155 : decode b_Model_lay 155 = .ok (.ifCond .eq 11, 3) := by decide +kernel
theorem d_Model_lay_158 : decode b_Model_lay 158 = .ok (.aload_n 0, 1) := by decide +kernel
theorem d_Model_lay_159 : decode b_Model_lay 159 = .ok (.aload_n 0, 1) := by decide +kernel
theorem d_Model_lay_160 : decode b_Model_lay 160 = .ok (.getfield 144, 3) := by decide +kernel
theorem d_Model_lay_163 : decode b_Model_lay 163 = .ok (.invokevirtual 249, 3) := by decide +kernel
theorem d_Model_lay_166 : decode b_Model_lay 166 = .ok (.aload_n 0, 1) := by decide +kernel
theorem d_Model_lay_167 : decode b_Model_lay 167 = .ok (.iconst 1, 1) := by decide +kernel
theorem d_Model_lay_168 : decode b_Model_lay 168 = .ok (.invokevirtual 214, 3) := by decide +kernel
theorem d_Model_lay_171 : decode b_Model_lay 171 = .ok (.aload_n 0, 1) := by decide +kernel
theorem d_Model_lay_172 : decode b_Model_lay 172 = .ok (.getfield 191, 3) := by decide +kernel
theorem d_Model_lay_175 : decode b_Model_lay 175 = .ok (.ifCond .le 12, 3) := by decide +kernel
theorem d_Model_lay_178 : decode b_Model_lay 178 = .ok (.aload_n 0, 1) := by decide +kernel
theorem d_Model_lay_179 : decode b_Model_lay 179 = .ok (.iconst 1, 1) := by decide +kernel
theorem d_Model_lay_180 : decode b_Model_lay 180 = .ok (.aload_n 0, 1) := by decide +kernel
theorem d_Model_lay_181 : decode b_Model_lay 181 = .ok (.getfield 110, 3) := by decide +kernel
theorem d_Model_lay_184 : decode b_Model_lay 184 = .ok (.invokevirtual 140, 3) := by decide +kernel
theorem d_Model_lay_187 : decode b_Model_lay 187 = .ok (.return_, 1) := by decide +kernel
theorem d_Model_reserved_0 : decode b_Model_reserved 0 = .ok (.lload_n 0, 1) := by decide +kernel
theorem d_Model_reserved_1 : decode b_Model_reserved 1 = .ok (.ldc2_w 258, 3) := by decide +kernel
theorem d_Model_reserved_4 : decode b_Model_reserved 4 = .ok (.lcmp, 1) := by decide +kernel
theorem d_Model_reserved_5 : decode b_Model_reserved 5 = .ok (.ifCond .eq 75, 3) := by decide +kernel
theorem d_Model_reserved_8 : decode b_Model_reserved 8 = .ok (.lload_n 0, 1) := by decide +kernel
theorem d_Model_reserved_9 : decode b_Model_reserved 9 = .ok (.ldc2_w 260, 3) := by decide +kernel
theorem d_Model_reserved_12 : decode b_Model_reserved 12 = .ok (.lcmp, 1) := by decide +kernel
theorem d_Model_reserved_13 : decode b_Model_reserved 13 = .ok (.ifCond .eq 67, 3) := by decide +kernel
theorem d_Model_reserved_16 : decode b_Model_reserved 16 = .ok (.lload_n 0, 1) := by decide +kernel
theorem d_Model_reserved_17 : decode b_Model_reserved 17 = .ok (.ldc2_w 262, 3) := by decide +kernel
theorem d_Model_reserved_20 : decode b_Model_reserved 20 = .ok (.lcmp, 1) := by decide +kernel
theorem d_Model_reserved_21 : decode b_Model_reserved 21 = .ok (.ifCond .eq 59, 3) := by decide +kernel
theorem d_Model_reserved_24 : decode b_Model_reserved 24 = .ok (.lload_n 0, 1) := by decide +kernel
theorem d_Model_reserved_25 : decode b_Model_reserved 25 = .ok (.ldc2_w 264, 3) := by decide +kernel
theorem d_Model_reserved_28 : decode b_Model_reserved 28 = .ok (.lcmp, 1) := by decide +kernel
theorem d_Model_reserved_29 : decode b_Model_reserved 29 = .ok (.ifCond .eq 51, 3) := by decide +kernel
theorem d_Model_reserved_32 : decode b_Model_reserved 32 = .ok (.lload_n 0, 1) := by decide +kernel
theorem d_Model_reserved_33 : decode b_Model_reserved 33 = .ok (.ldc2_w 266, 3) := by decide +kernel
theorem d_Model_reserved_36 : decode b_Model_reserved 36 = .ok (.lcmp, 1) := by decide +kernel
theorem d_Model_reserved_37 : decode b_Model_reserved 37 = .ok (.ifCond .eq 43, 3) := by decide +kernel
theorem d_Model_reserved_40 : decode b_Model_reserved 40 = .ok (.lload_n 0, 1) := by decide +kernel
theorem d_Model_reserved_41 : decode b_Model_reserved 41 = .ok (.ldc2_w 268, 3) := by decide +kernel
theorem d_Model_reserved_44 : decode b_Model_reserved 44 = .ok (.lcmp, 1) := by decide +kernel
theorem d_Model_reserved_45 : decode b_Model_reserved 45 = .ok (.ifCond .eq 35, 3) := by decide +kernel
theorem d_Model_reserved_48 : decode b_Model_reserved 48 = .ok (.lload_n 0, 1) := by decide +kernel
theorem d_Model_reserved_49 : decode b_Model_reserved 49 = .ok (.ldc2_w 270, 3) := by decide +kernel
theorem d_Model_reserved_52 : decode b_Model_reserved 52 = .ok (.lcmp, 1) := by decide +kernel
theorem d_Model_reserved_53 : decode b_Model_reserved 53 = .ok (.ifCond .eq 27, 3) := by decide +kernel
theorem d_Model_reserved_56 : decode b_Model_reserved 56 = .ok (.lload_n 0, 1) := by decide +kernel
theorem d_Model_reserved_57 : decode b_Model_reserved 57 = .ok (.ldc2_w 272, 3) := by decide +kernel
theorem d_Model_reserved_60 : decode b_Model_reserved 60 = .ok (.lcmp, 1) := by decide +kernel
theorem d_Model_reserved_61 : decode b_Model_reserved 61 = .ok (.ifCond .eq 19, 3) := by decide +kernel
theorem d_Model_reserved_64 : decode b_Model_reserved 64 = .ok (.lload_n 0, 1) := by decide +kernel
theorem d_Model_reserved_65 : decode b_Model_reserved 65 = .ok (.ldc2_w 274, 3) := by decide +kernel
theorem d_Model_reserved_68 : decode b_Model_reserved 68 = .ok (.lcmp, 1) := by decide +kernel
theorem d_Model_reserved_69 : decode b_Model_reserved 69 = .ok (.ifCond .eq 11, 3) := by decide +kernel
theorem d_Model_reserved_72 : decode b_Model_reserved 72 = .ok (.lload_n 0, 1) := by decide +kernel
theorem d_Model_reserved_73 : decode b_Model_reserved 73 = .ok (.ldc2_w 276, 3) := by decide +kernel
theorem d_Model_reserved_76 : decode b_Model_reserved 76 = .ok (.lcmp, 1) := by decide +kernel
theorem d_Model_reserved_77 : decode b_Model_reserved 77 = .ok (.ifCond .ne 7, 3) := by decide +kernel
theorem d_Model_reserved_80 : decode b_Model_reserved 80 = .ok (.iconst 1, 1) := by decide +kernel
theorem d_Model_reserved_81 : decode b_Model_reserved 81 = .ok (.goto 4, 3) := by decide +kernel
theorem d_Model_reserved_84 : decode b_Model_reserved 84 = .ok (.iconst 0, 1) := by decide +kernel
theorem d_Model_reserved_85 : decode b_Model_reserved 85 = .ok (.ireturn, 1) := by decide +kernel
theorem d_Model_partners_0 : decode b_Model_partners 0 = .ok (.iconst 0, 1) := by decide +kernel
theorem d_Model_partners_1 : decode b_Model_partners 1 = .ok (.istore_n 1, 1) := by decide +kernel
theorem d_Model_partners_2 : decode b_Model_partners 2 = .ok (.iconst 0, 1) := by decide +kernel
theorem d_Model_partners_3 : decode b_Model_partners 3 = .ok (.istore_n 2, 1) := by decide +kernel
theorem d_Model_partners_4 : decode b_Model_partners 4 = .ok (.iload_n 2, 1) := by decide +kernel
theorem d_Model_partners_5 : decode b_Model_partners 5 = .ok (.aload_n 0, 1) := by decide +kernel
theorem d_Model_partners_6 : decode b_Model_partners 6 = .ok (.getfield 188, 3) := by decide +kernel
theorem d_Model_partners_9 : decode b_Model_partners 9 = .ok (.if_icmp .ge 128, 3) := by decide +kernel
theorem d_Model_partners_12 : decode b_Model_partners 12 = .ok (.aload_n 0, 1) := by decide +kernel
theorem d_Model_partners_13 : decode b_Model_partners 13 = .ok (.getfield 37, 3) := by decide +kernel
theorem d_Model_partners_16 : decode b_Model_partners 16 = .ok (.iload_n 2, 1) := by decide +kernel
theorem d_Model_partners_17 : decode b_Model_partners 17 = .ok (.iaload, 1) := by decide +kernel
theorem d_Model_partners_18 : decode b_Model_partners 18 = .ok (.iconst 3, 1) := by decide +kernel
theorem d_Model_partners_19 : decode b_Model_partners 19 = .ok (.if_icmp .ne 33, 3) := by decide +kernel
theorem d_Model_partners_22 : decode b_Model_partners 22 = .ok (.aload_n 0, 1) := by decide +kernel
theorem d_Model_partners_23 : decode b_Model_partners 23 = .ok (.getfield 40, 3) := by decide +kernel
theorem d_Model_partners_26 : decode b_Model_partners 26 = .ok (.iload_n 2, 1) := by decide +kernel
theorem d_Model_partners_27 : decode b_Model_partners 27 = .ok (.laload, 1) := by decide +kernel
theorem d_Model_partners_28 : decode b_Model_partners 28 = .ok (.ldc2_w 222, 3) := by decide +kernel
theorem d_Model_partners_31 : decode b_Model_partners 31 = .ok (.lcmp, 1) := by decide +kernel
theorem d_Model_partners_32 : decode b_Model_partners 32 = .ok (.ifCond .eq 16, 3) := by decide +kernel
theorem d_Model_partners_35 : decode b_Model_partners 35 = .ok (.aload_n 0, 1) := by decide +kernel
theorem d_Model_partners_36 : decode b_Model_partners 36 = .ok (.getfield 40, 3) := by decide +kernel
theorem d_Model_partners_39 : decode b_Model_partners 39 = .ok (.iload_n 2, 1) := by decide +kernel
theorem d_Model_partners_40 : decode b_Model_partners 40 = .ok (.laload, 1) := by decide +kernel
theorem d_Model_partners_41 : decode b_Model_partners 41 = .ok (.ldc2_w 224, 3) := by decide +kernel
theorem d_Model_partners_44 : decode b_Model_partners 44 = .ok (.lcmp, 1) := by decide +kernel
theorem d_Model_partners_45 : decode b_Model_partners 45 = .ok (.ifCond .ne 7, 3) := by decide +kernel
theorem d_Model_partners_48 : decode b_Model_partners 48 = .ok (.iconst 1, 1) := by decide +kernel
theorem d_Model_partners_49 : decode b_Model_partners 49 = .ok (.goto 4, 3) := by decide +kernel
theorem d_Model_partners_52 : decode b_Model_partners 52 = .ok (.iconst 0, 1) := by decide +kernel
theorem d_Model_partners_53 : decode b_Model_partners 53 = .ok (.istore_n 3, 1) := by decide +kernel
theorem d_Model_partners_54 : decode b_Model_partners 54 = .ok (.aload_n 0, 1) := by decide +kernel
theorem d_Model_partners_55 : decode b_Model_partners 55 = .ok (.getfield 37, 3) := by decide +kernel
theorem d_Model_partners_58 : decode b_Model_partners 58 = .ok (.iload_n 2, 1) := by decide +kernel
theorem d_Model_partners_59 : decode b_Model_partners 59 = .ok (.iaload, 1) := by decide +kernel
theorem d_Model_partners_60 : decode b_Model_partners 60 = .ok (.iconst 3, 1) := by decide +kernel
theorem d_Model_partners_61 : decode b_Model_partners 61 = .ok (.if_icmp .ne 33, 3) := by decide +kernel
theorem d_Model_partners_64 : decode b_Model_partners 64 = .ok (.aload_n 0, 1) := by decide +kernel
theorem d_Model_partners_65 : decode b_Model_partners 65 = .ok (.getfield 40, 3) := by decide +kernel
theorem d_Model_partners_68 : decode b_Model_partners 68 = .ok (.iload_n 2, 1) := by decide +kernel
theorem d_Model_partners_69 : decode b_Model_partners 69 = .ok (.laload, 1) := by decide +kernel
theorem d_Model_partners_70 : decode b_Model_partners 70 = .ok (.ldc2_w 226, 3) := by decide +kernel
theorem d_Model_partners_73 : decode b_Model_partners 73 = .ok (.lcmp, 1) := by decide +kernel
theorem d_Model_partners_74 : decode b_Model_partners 74 = .ok (.ifCond .eq 16, 3) := by decide +kernel
theorem d_Model_partners_77 : decode b_Model_partners 77 = .ok (.aload_n 0, 1) := by decide +kernel
theorem d_Model_partners_78 : decode b_Model_partners 78 = .ok (.getfield 40, 3) := by decide +kernel
theorem d_Model_partners_81 : decode b_Model_partners 81 = .ok (.iload_n 2, 1) := by decide +kernel
theorem d_Model_partners_82 : decode b_Model_partners 82 = .ok (.laload, 1) := by decide +kernel
theorem d_Model_partners_83 : decode b_Model_partners 83 = .ok (.ldc2_w 231, 3) := by decide +kernel
theorem d_Model_partners_86 : decode b_Model_partners 86 = .ok (.lcmp, 1) := by decide +kernel
theorem d_Model_partners_87 : decode b_Model_partners 87 = .ok (.ifCond .ne 7, 3) := by decide +kernel
theorem d_Model_partners_90 : decode b_Model_partners 90 = .ok (.iconst 1, 1) := by decide +kernel
theorem d_Model_partners_91 : decode b_Model_partners 91 = .ok (.goto 4, 3) := by decide +kernel
theorem d_Model_partners_94 : decode b_Model_partners 94 = .ok (.iconst 0, 1) := by decide +kernel
theorem d_Model_partners_95 : decode b_Model_partners 95 = .ok (.istore 4, 2) := by decide +kernel
theorem d_Model_partners_97 : decode b_Model_partners 97 = .ok (.iload_n 3, 1) := by decide +kernel
theorem d_Model_partners_98 : decode b_Model_partners 98 = .ok (.ifCond .eq 13, 3) := by decide +kernel
theorem d_Model_partners_101 : decode b_Model_partners 101 = .ok (.aload_n 0, 1) := by decide +kernel
theorem d_Model_partners_102 : decode b_Model_partners 102 = .ok (.getfield 94, 3) := by decide +kernel
theorem d_Model_partners_105 : decode b_Model_partners 105 = .ok (.iload_n 1, 1) := by decide +kernel
theorem d_Model_partners_106 : decode b_Model_partners 106 = .ok (.iload_n 2, 1) := by decide +kernel
theorem d_Model_partners_107 : decode b_Model_partners 107 = .ok (.iastore, 1) := by decide +kernel
theorem d_Model_partners_108 : decode b_Model_partners 108 = .ok (.iinc 1 1, 3) := by decide +kernel
theorem d_Model_partners_111 : decode b_Model_partners 111 = .ok (.iload 4, 2) := by decide +kernel
theorem d_Model_partners_113 : decode b_Model_partners 113 = .ok (.ifCond .eq 18, 3) := by decide +kernel
theorem d_Model_partners_116 : decode b_Model_partners 116 = .ok (.iinc 1 (-1), 3) := by decide +kernel
theorem d_Model_partners_119 : decode b_Model_partners 119 = .ok (.aload_n 0, 1) := by decide +kernel
theorem d_Model_partners_120 : decode b_Model_partners 120 = .ok (.getfield 49, 3) := by decide +kernel
theorem d_Model_partners_123 : decode b_Model_partners 123 = .ok (.aload_n 0, 1) := by decide +kernel
theorem d_Model_partners_124 : decode b_Model_partners 124 = .ok (.getfield 94, 3) := by decide +kernel
theorem d_Model_partners_127 : decode b_Model_partners 127 = .ok (.iload_n 1, 1) := by decide +kernel
theorem d_Model_partners_128 : decode b_Model_partners 128 = .ok (.iaload, 1) := by decide +kernel
theorem d_Model_partners_129 : decode b_Model_partners 129 = .ok (.iload_n 2, 1) := by decide +kernel
theorem d_Model_partners_130 : decode b_Model_partners 130 = .ok (.iastore, 1) := by decide +kernel
theorem d_Model_partners_131 : decode b_Model_partners 131 = .ok (.iinc 2 1, 3) := by decide +kernel
theorem d_Model_partners_134 : decode b_Model_partners 134 = .ok (.goto (-130), 3) := by decide +kernel
theorem d_Model_partners_137 : decode b_Model_partners 137 = .ok (.return_, 1) := by decide +kernel
theorem d_Model_plainName_0 : decode b_Model_plainName 0 = .ok (.iload_n 1, 1) := by decide +kernel
theorem d_Model_plainName_1 : decode b_Model_plainName 1 = .ok (.aload_n 0, 1) := by decide +kernel
theorem d_Model_plainName_2 : decode b_Model_plainName 2 = .ok (.getfield 188, 3) := by decide +kernel
theorem d_Model_plainName_5 : decode b_Model_plainName 5 = .ok (.if_icmp .ge 28, 3) := by decide +kernel
theorem d_Model_plainName_8 : decode b_Model_plainName 8 = .ok (.aload_n 0, 1) := by decide +kernel
theorem d_Model_plainName_9 : decode b_Model_plainName 9 = .ok (.getfield 37, 3) := by decide +kernel
theorem d_Model_plainName_12 : decode b_Model_plainName 12 = .ok (.iload_n 1, 1) := by decide +kernel
theorem d_Model_plainName_13 : decode b_Model_plainName 13 = .ok (.iaload, 1) := by decide +kernel
theorem d_Model_plainName_14 : decode b_Model_plainName 14 = .ok (.ifCond .ne 19, 3) := by decide +kernel
theorem d_Model_plainName_17 : decode b_Model_plainName 17 = .ok (.aload_n 0, 1) := by decide +kernel
theorem d_Model_plainName_18 : decode b_Model_plainName 18 = .ok (.getfield 40, 3) := by decide +kernel
theorem d_Model_plainName_21 : decode b_Model_plainName 21 = .ok (.iload_n 1, 1) := by decide +kernel
theorem d_Model_plainName_22 : decode b_Model_plainName 22 = .ok (.laload, 1) := by decide +kernel
theorem d_Model_plainName_23 : decode b_Model_plainName 23 = .ok (.invokestatic 278, 3) := by decide +kernel
theorem d_Model_plainName_26 : decode b_Model_plainName 26 = .ok (.ifCond .ne 7, 3) := by decide +kernel
theorem d_Model_plainName_29 : decode b_Model_plainName 29 = .ok (.iconst 1, 1) := by decide +kernel
theorem d_Model_plainName_30 : decode b_Model_plainName 30 = .ok (.goto 4, 3) := by decide +kernel
theorem d_Model_plainName_33 : decode b_Model_plainName 33 = .ok (.iconst 0, 1) := by decide +kernel
theorem d_Model_plainName_34 : decode b_Model_plainName 34 = .ok (.ireturn, 1) := by decide +kernel
theorem d_Model_tick_0 : decode b_Model_tick 0 = .ok (.iload_n 1, 1) := by decide +kernel
theorem d_Model_tick_1 : decode b_Model_tick 1 = .ok (.aload_n 0, 1) := by decide +kernel
theorem d_Model_tick_2 : decode b_Model_tick 2 = .ok (.getfield 188, 3) := by decide +kernel
theorem d_Model_tick_5 : decode b_Model_tick 5 = .ok (.if_icmp .ge 30, 3) := by decide +kernel
theorem d_Model_tick_8 : decode b_Model_tick 8 = .ok (.aload_n 0, 1) := by decide +kernel
theorem d_Model_tick_9 : decode b_Model_tick 9 = .ok (.getfield 37, 3) := by decide +kernel
theorem d_Model_tick_12 : decode b_Model_tick 12 = .ok (.iload_n 1, 1) := by decide +kernel
theorem d_Model_tick_13 : decode b_Model_tick 13 = .ok (.iaload, 1) := by decide +kernel
theorem d_Model_tick_14 : decode b_Model_tick 14 = .ok (.iconst 3, 1) := by decide +kernel
theorem d_Model_tick_15 : decode b_Model_tick 15 = .ok (.if_icmp .ne 20, 3) := by decide +kernel
theorem d_Model_tick_18 : decode b_Model_tick 18 = .ok (.aload_n 0, 1) := by decide +kernel
theorem d_Model_tick_19 : decode b_Model_tick 19 = .ok (.getfield 40, 3) := by decide +kernel
theorem d_Model_tick_22 : decode b_Model_tick 22 = .ok (.iload_n 1, 1) := by decide +kernel
theorem d_Model_tick_23 : decode b_Model_tick 23 = .ok (.laload, 1) := by decide +kernel
theorem d_Model_tick_24 : decode b_Model_tick 24 = .ok (.ldc2_w 282, 3) := by decide +kernel
theorem d_Model_tick_27 : decode b_Model_tick 27 = .ok (.lcmp, 1) := by decide +kernel
theorem d_Model_tick_28 : decode b_Model_tick 28 = .ok (.ifCond .ne 7, 3) := by decide +kernel
theorem d_Model_tick_31 : decode b_Model_tick 31 = .ok (.iconst 1, 1) := by decide +kernel
theorem d_Model_tick_32 : decode b_Model_tick 32 = .ok (.goto 4, 3) := by decide +kernel
theorem d_Model_tick_35 : decode b_Model_tick 35 = .ok (.iconst 0, 1) := by decide +kernel
theorem d_Model_tick_36 : decode b_Model_tick 36 = .ok (.ireturn, 1) := by decide +kernel
theorem d_Model_extent_0 : decode b_Model_extent 0 = .ok (.iload_n 1, 1) := by decide +kernel
theorem d_Model_extent_1 : decode b_Model_extent 1 = .ok (.aload_n 0, 1) := by decide +kernel
theorem d_Model_extent_2 : decode b_Model_extent 2 = .ok (.getfield 188, 3) := by decide +kernel
theorem d_Model_extent_5 : decode b_Model_extent 5 = .ok (.if_icmp .lt 5, 3) := by decide +kernel
theorem d_Model_extent_8 : decode b_Model_extent 8 = .ok (.iconst 0, 1) := by decide +kernel
theorem d_Model_extent_9 : decode b_Model_extent 9 = .ok (.ireturn, 1) := by decide +kernel
theorem d_Model_extent_10 : decode b_Model_extent 10 = .ok (.aload_n 0, 1) := by decide +kernel
theorem d_Model_extent_11 : decode b_Model_extent 11 = .ok (.iload_n 1, 1) := by decide +kernel
theorem d_Model_extent_12 : decode b_Model_extent 12 = .ok (.invokevirtual 284, 3) := by decide +kernel
theorem d_Model_extent_15 : decode b_Model_extent 15 = .ok (.ifCond .ne 13, 3) := by decide +kernel
theorem d_Model_extent_18 : decode b_Model_extent 18 = .ok (.aload_n 0, 1) := by decide +kernel
theorem d_Model_extent_19 : decode b_Model_extent 19 = .ok (.getfield 37, 3) := by decide +kernel
theorem d_Model_extent_22 : decode b_Model_extent 22 = .ok (.iload_n 1, 1) := by decide +kernel
theorem d_Model_extent_23 : decode b_Model_extent 23 = .ok (.iaload, 1) := by decide +kernel
