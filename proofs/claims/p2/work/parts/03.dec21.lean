theorem d_Model_read_25 : decode b_Model_read 25 = .ok (.getfield 123, 3) := by decide +kernel
theorem d_Model_read_28 : decode b_Model_read 28 = .ok (.ifCond .ne 7, 3) := by decide +kernel
theorem d_Model_read_31 : decode b_Model_read 31 = .ok (.aload_n 0, 1) := by decide +kernel
theorem d_Model_read_32 : decode b_Model_read 32 = .ok (.invokevirtual 359, 3) := by decide +kernel
theorem d_Model_read_35 : decode b_Model_read 35 = .ok (.aload_n 0, 1) := by decide +kernel
theorem d_Model_read_36 : decode b_Model_read 36 = .ok (.getfield 123, 3) := by decide +kernel
theorem d_Model_read_39 : decode b_Model_read 39 = .ok (.ifCond .le 12, 3) := by decide +kernel
theorem d_Model_read_42 : decode b_Model_read 42 = .ok (.aload_n 0, 1) := by decide +kernel
theorem d_Model_read_43 : decode b_Model_read 43 = .ok (.aload_n 0, 1) := by decide +kernel
theorem d_Model_read_44 : decode b_Model_read 44 = .ok (.getfield 123, 3) := by decide +kernel
theorem d_Model_read_47 : decode b_Model_read 47 = .ok (.invokevirtual 104, 3) := by decide +kernel
theorem d_Model_read_50 : decode b_Model_read 50 = .ok (.ireturn, 1) := by decide +kernel
theorem d_Model_read_51 : decode b_Model_read 51 = .ok (.aload_n 0, 1) := by decide +kernel
theorem d_Model_read_52 : decode b_Model_read 52 = .ok (.invokevirtual 362, 3) := by decide +kernel
theorem d_Model_read_55 : decode b_Model_read 55 = .ok (.iconst 0, 1) := by decide +kernel
theorem d_Model_read_56 : decode b_Model_read 56 = .ok (.istore_n 1, 1) := by decide +kernel
theorem d_Model_read_57 : decode b_Model_read 57 = .ok (.iload_n 1, 1) := by decide +kernel
theorem d_Model_read_58 : decode b_Model_read 58 = .ok (.aload_n 0, 1) := by decide +kernel
theorem d_Model_read_59 : decode b_Model_read 59 = .ok (.getfield 188, 3) := by decide +kernel
theorem d_Model_read_62 : decode b_Model_read 62 = .ok (.if_icmp .ge 77, 3) := by decide +kernel
theorem d_Model_read_65 : decode b_Model_read 65 = .ok (.iconst 0, 1) := by decide +kernel
theorem d_Model_read_66 : decode b_Model_read 66 = .ok (.istore_n 2, 1) := by decide +kernel
theorem d_Model_read_67 : decode b_Model_read 67 = .ok (.iload_n 2, 1) := by decide +kernel
theorem d_Model_read_68 : decode b_Model_read 68 = .ok (.aload_n 0, 1) := by decide +kernel
theorem d_Model_read_69 : decode b_Model_read 69 = .ok (.getfield 43, 3) := by decide +kernel
theorem d_Model_read_72 : decode b_Model_read 72 = .ok (.iload_n 1, 1) := by decide +kernel
theorem d_Model_read_73 : decode b_Model_read 73 = .ok (.iaload, 1) := by decide +kernel
theorem d_Model_read_74 : decode b_Model_read 74 = .ok (.if_icmp .ge 17, 3) := by decide +kernel
theorem d_Model_read_77 : decode b_Model_read 77 = .ok (.aload_n 0, 1) := by decide +kernel
theorem d_Model_read_78 : decode b_Model_read 78 = .ok (.iconst 5, 1) := by decide +kernel
theorem d_Model_read_79 : decode b_Model_read 79 = .ok (.ldc2_w 222, 3) := by decide +kernel
theorem d_Model_read_82 : decode b_Model_read 82 = .ok (.invokevirtual 365, 3) := by decide +kernel
theorem d_Model_read_85 : decode b_Model_read 85 = .ok (.iinc 2 1, 3) := by decide +kernel
theorem d_Model_read_88 : decode b_Model_read 88 = .ok (.goto (-21), 3) := by decide +kernel
theorem d_Model_read_91 : decode b_Model_read 91 = .ok (.aload_n 0, 1) := by decide +kernel
theorem d_Model_read_92 : decode b_Model_read 92 = .ok (.aload_n 0, 1) := by decide +kernel
theorem d_Model_read_93 : decode b_Model_read 93 = .ok (.getfield 37, 3) := by decide +kernel
theorem d_Model_read_96 : decode b_Model_read 96 = .ok (.iload_n 1, 1) := by decide +kernel
theorem d_Model_read_97 : decode b_Model_read 97 = .ok (.iaload, 1) := by decide +kernel
theorem d_Model_read_98 : decode b_Model_read 98 = .ok (.aload_n 0, 1) := by decide +kernel
theorem d_Model_read_99 : decode b_Model_read 99 = .ok (.getfield 40, 3) := by decide +kernel
theorem d_Model_read_102 : decode b_Model_read 102 = .ok (.iload_n 1, 1) := by decide +kernel
theorem d_Model_read_103 : decode b_Model_read 103 = .ok (.laload, 1) := by decide +kernel
theorem d_Model_read_104 : decode b_Model_read 104 = .ok (.invokevirtual 365, 3) := by decide +kernel
theorem d_Model_read_107 : decode b_Model_read 107 = .ok (.iconst 0, 1) := by decide +kernel
theorem d_Model_read_108 : decode b_Model_read 108 = .ok (.istore_n 2, 1) := by decide +kernel
theorem d_Model_read_109 : decode b_Model_read 109 = .ok (.iload_n 2, 1) := by decide +kernel
theorem d_Model_read_110 : decode b_Model_read 110 = .ok (.aload_n 0, 1) := by decide +kernel
theorem d_Model_read_111 : decode b_Model_read 111 = .ok (.getfield 46, 3) := by decide +kernel
theorem d_Model_read_114 : decode b_Model_read 114 = .ok (.iload_n 1, 1) := by decide +kernel
theorem d_Model_read_115 : decode b_Model_read 115 = .ok (.iaload, 1) := by decide +kernel
theorem d_Model_read_116 : decode b_Model_read 116 = .ok (.if_icmp .ge 17, 3) := by decide +kernel
theorem d_Model_read_119 : decode b_Model_read 119 = .ok (.aload_n 0, 1) := by decide +kernel
theorem d_Model_read_120 : decode b_Model_read 120 = .ok (.iconst 5, 1) := by decide +kernel
theorem d_Model_read_121 : decode b_Model_read 121 = .ok (.ldc2_w 226, 3) := by decide +kernel
theorem d_Model_read_124 : decode b_Model_read 124 = .ok (.invokevirtual 365, 3) := by decide +kernel
theorem d_Model_read_127 : decode b_Model_read 127 = .ok (.iinc 2 1, 3) := by decide +kernel
theorem d_Model_read_130 : decode b_Model_read 130 = .ok (.goto (-21), 3) := by decide +kernel
theorem d_Model_read_133 : decode b_Model_read 133 = .ok (.iinc 1 1, 3) := by decide +kernel
theorem d_Model_read_136 : decode b_Model_read 136 = .ok (.goto (-79), 3) := by decide +kernel
theorem d_Model_read_139 : decode b_Model_read 139 = .ok (.aload_n 0, 1) := by decide +kernel
theorem d_Model_read_140 : decode b_Model_read 140 = .ok (.aload_n 0, 1) := by decide +kernel
theorem d_Model_read_141 : decode b_Model_read 141 = .ok (.getfield 144, 3) := by decide +kernel
theorem d_Model_read_144 : decode b_Model_read 144 = .ok (.putfield 368, 3) := by decide +kernel
theorem d_Model_read_147 : decode b_Model_read 147 = .ok (.aload_n 0, 1) := by decide +kernel
theorem d_Model_read_148 : decode b_Model_read 148 = .ok (.aload_n 0, 1) := by decide +kernel
theorem d_Model_read_149 : decode b_Model_read 149 = .ok (.getfield 240, 3) := by decide +kernel
theorem d_Model_read_152 : decode b_Model_read 152 = .ok (.putfield 371, 3) := by decide +kernel
theorem d_Model_read_155 : decode b_Model_read 155 = .ok (.aload_n 0, 1) := by decide +kernel
theorem d_Model_read_156 : decode b_Model_read 156 = .ok (.aload_n 0, 1) := by decide +kernel
theorem d_Model_read_157 : decode b_Model_read 157 = .ok (.getfield 337, 3) := by decide +kernel
theorem d_Model_read_160 : decode b_Model_read 160 = .ok (.putfield 374, 3) := by decide +kernel
theorem d_Model_read_163 : decode b_Model_read 163 = .ok (.aload_n 0, 1) := by decide +kernel
theorem d_Model_read_164 : decode b_Model_read 164 = .ok (.aload_n 0, 1) := by decide +kernel
theorem d_Model_read_165 : decode b_Model_read 165 = .ok (.getfield 334, 3) := by decide +kernel
theorem d_Model_read_168 : decode b_Model_read 168 = .ok (.putfield 377, 3) := by decide +kernel
theorem d_Model_read_171 : decode b_Model_read 171 = .ok (.aload_n 0, 1) := by decide +kernel
theorem d_Model_read_172 : decode b_Model_read 172 = .ok (.aload_n 0, 1) := by decide +kernel
theorem d_Model_read_173 : decode b_Model_read 173 = .ok (.getfield 194, 3) := by decide +kernel
theorem d_Model_read_176 : decode b_Model_read 176 = .ok (.putfield 380, 3) := by decide +kernel
theorem d_Model_read_179 : decode b_Model_read 179 = .ok (.aload_n 0, 1) := by decide +kernel
theorem d_Model_read_180 : decode b_Model_read 180 = .ok (.getfield 353, 3) := by decide +kernel
theorem d_Model_read_183 : decode b_Model_read 183 = .ok (.ireturn, 1) := by decide +kernel
theorem d_Model_place_0 : decode b_Model_place 0 = .ok (.aload_n 0, 1) := by decide +kernel
theorem d_Model_place_1 : decode b_Model_place 1 = .ok (.iconst 0, 1) := by decide +kernel
theorem d_Model_place_2 : decode b_Model_place 2 = .ok (.putfield 97, 3) := by decide +kernel
theorem d_Model_place_5 : decode b_Model_place 5 = .ok (.aload_n 0, 1) := by decide +kernel
theorem d_Model_place_6 : decode b_Model_place 6 = .ok (.getfield 13, 3) := by decide +kernel
theorem d_Model_place_9 : decode b_Model_place 9 = .ok (.ireturn, 1) := by decide +kernel
theorem d_Model_kind_0 : decode b_Model_kind 0 = .ok (.aload_n 0, 1) := by decide +kernel
theorem d_Model_kind_1 : decode b_Model_kind 1 = .ok (.iconst 0, 1) := by decide +kernel
theorem d_Model_kind_2 : decode b_Model_kind 2 = .ok (.putfield 97, 3) := by decide +kernel
theorem d_Model_kind_5 : decode b_Model_kind 5 = .ok (.iload_n 1, 1) := by decide +kernel
theorem d_Model_kind_6 : decode b_Model_kind 6 = .ok (.iconst 0, 1) := by decide +kernel
theorem d_Model_kind_7 : decode b_Model_kind 7 = .ok (.aload_n 0, 1) := by decide +kernel
theorem d_Model_kind_8 : decode b_Model_kind 8 = .ok (.getfield 353, 3) := by decide +kernel
theorem d_Model_kind_11 : decode b_Model_kind 11 = .ok (.iconst 1, 1) := by decide +kernel
theorem d_Model_kind_12 : decode b_Model_kind 12 = .ok (.isub, 1) := by decide +kernel
theorem d_Model_kind_13 : decode b_Model_kind 13 = .ok (.invokestatic 100, 3) := by decide +kernel
theorem d_Model_kind_16 : decode b_Model_kind 16 = .ok (.ifCond .eq 12, 3) := by decide +kernel
theorem d_Model_kind_19 : decode b_Model_kind 19 = .ok (.aload_n 0, 1) := by decide +kernel
theorem d_Model_kind_20 : decode b_Model_kind 20 = .ok (.getfield 55, 3) := by decide +kernel
theorem d_Model_kind_23 : decode b_Model_kind 23 = .ok (.iload_n 1, 1) := by decide +kernel
theorem d_Model_kind_24 : decode b_Model_kind 24 = .ok (.iaload, 1) := by decide +kernel
theorem d_Model_kind_25 : decode b_Model_kind 25 = .ok (.goto 8, 3) := by decide +kernel
theorem d_Model_kind_28 : decode b_Model_kind 28 = .ok (.aload_n 0, 1) := by decide +kernel
theorem d_Model_kind_29 : decode b_Model_kind 29 = .ok (.iconst 1, 1) := by decide +kernel
theorem d_Model_kind_30 : decode b_Model_kind 30 = .ok (.invokevirtual 104, 3) := by decide +kernel
theorem d_Model_kind_33 : decode b_Model_kind 33 = .ok (.ireturn, 1) := by decide +kernel
theorem d_Model_token_0 : decode b_Model_token 0 = .ok (.aload_n 0, 1) := by decide +kernel
theorem d_Model_token_1 : decode b_Model_token 1 = .ok (.iconst 0, 1) := by decide +kernel
theorem d_Model_token_2 : decode b_Model_token 2 = .ok (.putfield 97, 3) := by decide +kernel
theorem d_Model_token_5 : decode b_Model_token 5 = .ok (.iload_n 1, 1) := by decide +kernel
theorem d_Model_token_6 : decode b_Model_token 6 = .ok (.iconst 0, 1) := by decide +kernel
theorem d_Model_token_7 : decode b_Model_token 7 = .ok (.aload_n 0, 1) := by decide +kernel
theorem d_Model_token_8 : decode b_Model_token 8 = .ok (.getfield 353, 3) := by decide +kernel
theorem d_Model_token_11 : decode b_Model_token 11 = .ok (.iconst 1, 1) := by decide +kernel
theorem d_Model_token_12 : decode b_Model_token 12 = .ok (.isub, 1) := by decide +kernel
theorem d_Model_token_13 : decode b_Model_token 13 = .ok (.invokestatic 100, 3) := by decide +kernel
theorem d_Model_token_16 : decode b_Model_token 16 = .ok (.ifCond .eq 12, 3) := by decide +kernel
theorem d_Model_token_19 : decode b_Model_token 19 = .ok (.aload_n 0, 1) := by decide +kernel
theorem d_Model_token_20 : decode b_Model_token 20 = .ok (.getfield 58, 3) := by decide +kernel
theorem d_Model_token_23 : decode b_Model_token 23 = .ok (.iload_n 1, 1) := by decide +kernel
theorem d_Model_token_24 : decode b_Model_token 24 = .ok (.laload, 1) := by decide +kernel
theorem d_Model_token_25 : decode b_Model_token 25 = .ok (.goto 9, 3) := by decide +kernel
theorem d_Model_token_28 : decode b_Model_token 28 = .ok (.aload_n 0, 1) := by decide +kernel
theorem d_Model_token_29 : decode b_Model_token 29 = .ok (.iconst 1, 1) := by decide +kernel
theorem d_Model_token_30 : decode b_Model_token 30 = .ok (.invokevirtual 104, 3) := by decide +kernel
theorem d_Model_token_33 : decode b_Model_token 33 = .ok (.i2l, 1) := by decide +kernel
theorem d_Model_token_34 : decode b_Model_token 34 = .ok (.lreturn, 1) := by decide +kernel
theorem d_Model_count_0 : decode b_Model_count 0 = .ok (.aload_n 0, 1) := by decide +kernel
theorem d_Model_count_1 : decode b_Model_count 1 = .ok (.iconst 0, 1) := by decide +kernel
theorem d_Model_count_2 : decode b_Model_count 2 = .ok (.putfield 97, 3) := by decide +kernel
theorem d_Model_count_5 : decode b_Model_count 5 = .ok (.iload_n 1, 1) := by decide +kernel
theorem d_Model_count_6 : decode b_Model_count 6 = .ok (.iconst 0, 1) := by decide +kernel
theorem d_Model_count_7 : decode b_Model_count 7 = .ok (.iconst 4, 1) := by decide +kernel
theorem d_Model_count_8 : decode b_Model_count 8 = .ok (.invokestatic 100, 3) := by decide +kernel
theorem d_Model_count_11 : decode b_Model_count 11 = .ok (.ifCond .ne 9, 3) := by decide +kernel
theorem d_Model_count_14 : decode b_Model_count 14 = .ok (.aload_n 0, 1) := by decide +kernel
theorem d_Model_count_15 : decode b_Model_count 15 = .ok (.iconst 1, 1) := by decide +kernel
theorem d_Model_count_16 : decode b_Model_count 16 = .ok (.invokevirtual 104, 3) := by decide +kernel
theorem d_Model_count_19 : decode b_Model_count 19 = .ok (.ireturn, 1) := by decide +kernel
theorem d_Model_count_20 : decode b_Model_count 20 = .ok (.iload_n 1, 1) := by decide +kernel
theorem d_Model_count_21 : decode b_Model_count 21 = .ok (.iconst 3, 1) := by decide +kernel
theorem d_Model_count_22 : decode b_Model_count 22 = .ok (.if_icmp .ge 31, 3) := by decide +kernel
theorem d_Model_count_25 : decode b_Model_count 25 = .ok (.iload_n 1, 1) := by decide +kernel
theorem d_Model_count_26 : decode b_Model_count 26 = .ok (.ifCond .ne 10, 3) := by decide +kernel
theorem d_Model_count_29 : decode b_Model_count 29 = .ok (.aload_n 0, 1) := by decide +kernel
theorem d_Model_count_30 : decode b_Model_count 30 = .ok (.getfield 368, 3) := by decide +kernel
theorem d_Model_count_33 : decode b_Model_count 33 = .ok (.goto 19, 3) := by decide +kernel
theorem d_Model_count_36 : decode b_Model_count 36 = .ok (.iload_n 1, 1) := by decide +kernel
theorem d_Model_count_37 : decode b_Model_count 37 = .ok (.iconst 1, 1) := by decide +kernel
theorem d_Model_count_38 : decode b_Model_count 38 = .ok (.if_icmp .ne 10, 3) := by decide +kernel
theorem d_Model_count_41 : decode b_Model_count 41 = .ok (.aload_n 0, 1) := by decide +kernel
theorem d_Model_count_42 : decode b_Model_count 42 = .ok (.getfield 371, 3) := by decide +kernel
theorem d_Model_count_45 : decode b_Model_count 45 = .ok (.goto 7, 3) := by decide +kernel
theorem d_Model_count_48 : decode b_Model_count 48 = .ok (.aload_n 0, 1) := by decide +kernel
theorem d_Model_count_49 : decode b_Model_count 49 = .ok (.getfield 374, 3) := by decide +kernel
theorem d_Model_count_52 : decode b_Model_count 52 = .ok (.ireturn, 1) := by decide +kernel
theorem d_Model_count_53 : decode b_Model_count 53 = .ok (.iload_n 1, 1) := by decide +kernel
theorem d_Model_count_54 : decode b_Model_count 54 = .ok (.iconst 3, 1) := by decide +kernel
theorem d_Model_count_55 : decode b_Model_count 55 = .ok (.if_icmp .ne 10, 3) := by decide +kernel
theorem d_Model_count_58 : decode b_Model_count 58 = .ok (.aload_n 0, 1) := by decide +kernel
theorem d_Model_count_59 : decode b_Model_count 59 = .ok (.getfield 377, 3) := by decide +kernel
theorem d_Model_count_62 : decode b_Model_count 62 = .ok (.goto 7, 3) := by decide +kernel
theorem d_Model_count_65 : decode b_Model_count 65 = .ok (.aload_n 0, 1) := by decide +kernel
theorem d_Model_count_66 : decode b_Model_count 66 = .ok (.getfield 380, 3) := by decide +kernel
theorem d_Model_count_69 : decode b_Model_count 69 = .ok (.ireturn, 1) := by decide +kernel
theorem d_Law_write_0 : decode b_Law_write 0 = .ok (.aload 4, 2) := by decide +kernel
theorem d_Law_write_2 : decode b_Law_write 2 = .ok (.iconst 0, 1) := by decide +kernel
theorem d_Law_write_3 : decode b_Law_write 3 = .ok (.aload_n 0, 1) := by decide +kernel
theorem d_Law_write_4 : decode b_Law_write 4 = .ok (.lload_n 1, 1) := by decide +kernel
theorem d_Law_write_5 : decode b_Law_write 5 = .ok (.iload_n 3, 1) := by decide +kernel
theorem d_Law_write_6 : decode b_Law_write 6 = .ok (.invokevirtual 7, 3) := by decide +kernel
theorem d_Law_write_9 : decode b_Law_write 9 = .ok (.i2l, 1) := by decide +kernel
theorem d_Law_write_10 : decode b_Law_write 10 = .ok (.lastore, 1) := by decide +kernel
theorem d_Law_write_11 : decode b_Law_write 11 = .ok (.goto 11, 3) := by decide +kernel
theorem d_Law_write_14 : decode b_Law_write 14 = .ok (.astore 5, 2) := by decide +kernel
theorem d_Law_write_16 : decode b_Law_write 16 = .ok (.iconst 1, 1) := by decide +kernel
theorem d_Law_write_17 : decode b_Law_write 17 = .ok (.ireturn, 1) := by decide +kernel
theorem d_Law_write_18 : decode b_Law_write 18 = .ok (.astore 5, 2) := by decide +kernel
theorem d_Law_write_20 : decode b_Law_write 20 = .ok (.iconst 2, 1) := by decide +kernel
theorem d_Law_write_21 : decode b_Law_write 21 = .ok (.ireturn, 1) := by decide +kernel
theorem d_Law_write_22 : decode b_Law_write 22 = .ok (.iconst 0, 1) := by decide +kernel
theorem d_Law_write_23 : decode b_Law_write 23 = .ok (.ireturn, 1) := by decide +kernel
theorem d_Law_fixity_0 : decode b_Law_fixity 0 = .ok (.aload 5, 2) := by decide +kernel
theorem d_Law_fixity_2 : decode b_Law_fixity 2 = .ok (.iconst 0, 1) := by decide +kernel
theorem d_Law_fixity_3 : decode b_Law_fixity 3 = .ok (.aload_n 0, 1) := by decide +kernel
theorem d_Law_fixity_4 : decode b_Law_fixity 4 = .ok (.lload_n 1, 1) := by decide +kernel
theorem d_Law_fixity_5 : decode b_Law_fixity 5 = .ok (.iload_n 3, 1) := by decide +kernel
theorem d_Law_fixity_6 : decode b_Law_fixity 6 = .ok (.iload 4, 2) := by decide +kernel
theorem d_Law_fixity_8 : decode b_Law_fixity 8 = .ok (.invokevirtual 17, 3) := by decide +kernel
theorem d_Law_fixity_11 : decode b_Law_fixity 11 = .ok (.i2l, 1) := by decide +kernel
theorem d_Law_fixity_12 : decode b_Law_fixity 12 = .ok (.lastore, 1) := by decide +kernel
theorem d_Law_fixity_13 : decode b_Law_fixity 13 = .ok (.goto 11, 3) := by decide +kernel
theorem d_Law_fixity_16 : decode b_Law_fixity 16 = .ok (.astore 6, 2) := by decide +kernel
theorem d_Law_fixity_18 : decode b_Law_fixity 18 = .ok (.iconst 1, 1) := by decide +kernel
theorem d_Law_fixity_19 : decode b_Law_fixity 19 = .ok (.ireturn, 1) := by decide +kernel
theorem d_Law_fixity_20 : decode b_Law_fixity 20 = .ok (.astore 6, 2) := by decide +kernel
theorem d_Law_fixity_22 : decode b_Law_fixity 22 = .ok (.iconst 2, 1) := by decide +kernel
theorem d_Law_fixity_23 : decode b_Law_fixity 23 = .ok (.ireturn, 1) := by decide +kernel
theorem d_Law_fixity_24 : decode b_Law_fixity 24 = .ok (.iconst 0, 1) := by decide +kernel
theorem d_Law_fixity_25 : decode b_Law_fixity 25 = .ok (.ireturn, 1) := by decide +kernel
theorem d_Law_read_0 : decode b_Law_read 0 = .ok (.aload_n 1, 1) := by decide +kernel
theorem d_Law_read_1 : decode b_Law_read 1 = .ok (.iconst 0, 1) := by decide +kernel
theorem d_Law_read_2 : decode b_Law_read 2 = .ok (.aload_n 0, 1) := by decide +kernel
theorem d_Law_read_3 : decode b_Law_read 3 = .ok (.invokevirtual 21, 3) := by decide +kernel
theorem d_Law_read_6 : decode b_Law_read 6 = .ok (.i2l, 1) := by decide +kernel
theorem d_Law_read_7 : decode b_Law_read 7 = .ok (.lastore, 1) := by decide +kernel
theorem d_Law_read_8 : decode b_Law_read 8 = .ok (.goto 9, 3) := by decide +kernel
theorem d_Law_read_11 : decode b_Law_read 11 = .ok (.astore_n 2, 1) := by decide +kernel
theorem d_Law_read_12 : decode b_Law_read 12 = .ok (.iconst 1, 1) := by decide +kernel
theorem d_Law_read_13 : decode b_Law_read 13 = .ok (.ireturn, 1) := by decide +kernel
theorem d_Law_read_14 : decode b_Law_read 14 = .ok (.astore_n 2, 1) := by decide +kernel
theorem d_Law_read_15 : decode b_Law_read 15 = .ok (.iconst 2, 1) := by decide +kernel
theorem d_Law_read_16 : decode b_Law_read 16 = .ok (.ireturn, 1) := by decide +kernel
theorem d_Law_read_17 : decode b_Law_read 17 = .ok (.iconst 0, 1) := by decide +kernel
theorem d_Law_read_18 : decode b_Law_read 18 = .ok (.ireturn, 1) := by decide +kernel
theorem d_Law_kind_0 : decode b_Law_kind 0 = .ok (.aload_n 2, 1) := by decide +kernel
theorem d_Law_kind_1 : decode b_Law_kind 1 = .ok (.iconst 0, 1) := by decide +kernel
theorem d_Law_kind_2 : decode b_Law_kind 2 = .ok (.aload_n 0, 1) := by decide +kernel
theorem d_Law_kind_3 : decode b_Law_kind 3 = .ok (.iload_n 1, 1) := by decide +kernel
theorem d_Law_kind_4 : decode b_Law_kind 4 = .ok (.invokevirtual 25, 3) := by decide +kernel
theorem d_Law_kind_7 : decode b_Law_kind 7 = .ok (.i2l, 1) := by decide +kernel
theorem d_Law_kind_8 : decode b_Law_kind 8 = .ok (.lastore, 1) := by decide +kernel
theorem d_Law_kind_9 : decode b_Law_kind 9 = .ok (.goto 6, 3) := by decide +kernel
theorem d_Law_kind_12 : decode b_Law_kind 12 = .ok (.astore_n 3, 1) := by decide +kernel
theorem d_Law_kind_13 : decode b_Law_kind 13 = .ok (.iconst 1, 1) := by decide +kernel
theorem d_Law_kind_14 : decode b_Law_kind 14 = .ok (.ireturn, 1) := by decide +kernel
theorem d_Law_kind_15 : decode b_Law_kind 15 = .ok (.iconst 0, 1) := by decide +kernel
theorem d_Law_kind_16 : decode b_Law_kind 16 = .ok (.ireturn, 1) := by decide +kernel
theorem d_Law_token_0 : decode b_Law_token 0 = .ok (.aload_n 2, 1) := by decide +kernel
theorem d_Law_token_1 : decode b_Law_token 1 = .ok (.iconst 0, 1) := by decide +kernel
theorem d_Law_token_2 : decode b_Law_token 2 = .ok (.aload_n 0, 1) := by decide +kernel
theorem d_Law_token_3 : decode b_Law_token 3 = .ok (.iload_n 1, 1) := by decide +kernel
theorem d_Law_token_4 : decode b_Law_token 4 = .ok (.invokevirtual 31, 3) := by decide +kernel
theorem d_Law_token_7 : decode b_Law_token 7 = .ok (.lastore, 1) := by decide +kernel
theorem d_Law_token_8 : decode b_Law_token 8 = .ok (.goto 6, 3) := by decide +kernel
theorem d_Law_token_11 : decode b_Law_token 11 = .ok (.astore_n 3, 1) := by decide +kernel
theorem d_Law_token_12 : decode b_Law_token 12 = .ok (.iconst 1, 1) := by decide +kernel
theorem d_Law_token_13 : decode b_Law_token 13 = .ok (.ireturn, 1) := by decide +kernel
theorem d_Law_token_14 : decode b_Law_token 14 = .ok (.iconst 0, 1) := by decide +kernel
theorem d_Law_token_15 : decode b_Law_token 15 = .ok (.ireturn, 1) := by decide +kernel
theorem d_Law_count_0 : decode b_Law_count 0 = .ok (.aload_n 2, 1) := by decide +kernel
theorem d_Law_count_1 : decode b_Law_count 1 = .ok (.iconst 0, 1) := by decide +kernel
theorem d_Law_count_2 : decode b_Law_count 2 = .ok (.aload_n 0, 1) := by decide +kernel
theorem d_Law_count_3 : decode b_Law_count 3 = .ok (.iload_n 1, 1) := by decide +kernel
theorem d_Law_count_4 : decode b_Law_count 4 = .ok (.invokevirtual 35, 3) := by decide +kernel
theorem d_Law_count_7 : decode b_Law_count 7 = .ok (.i2l, 1) := by decide +kernel
theorem d_Law_count_8 : decode b_Law_count 8 = .ok (.lastore, 1) := by decide +kernel
