theorem d_Model_add_26 : decode b_Model_add 26 = .ok (.iadd, 1) := by decide +kernel
theorem d_Model_add_27 : decode b_Model_add 27 = .ok (.putfield 353, 3) := by decide +kernel
theorem d_Model_add_30 : decode b_Model_add 30 = .ok (.return_, 1) := by decide +kernel
theorem d_Model_read_0 : decode b_Model_read 0 = .ok (.aload_n 0, 1) := by decide +kernel
theorem d_Model_read_1 : decode b_Model_read 1 = .ok (.iconst 0, 1) := by decide +kernel
theorem d_Model_read_2 : decode b_Model_read 2 = .ok (.putfield 97, 3) := by decide +kernel
theorem d_Model_read_5 : decode b_Model_read 5 = .ok (.aload_n 0, 1) := by decide +kernel
theorem d_Model_read_6 : decode b_Model_read 6 = .ok (.iconst 0, 1) := by decide +kernel
theorem d_Model_read_7 : decode b_Model_read 7 = .ok (.putfield 123, 3) := by decide +kernel
theorem d_Model_read_10 : decode b_Model_read 10 = .ok (.aload_n 0, 1) := by decide +kernel
theorem d_Model_read_11 : decode b_Model_read 11 = .ok (.iconst (-1), 1) := by decide +kernel
theorem d_Model_read_12 : decode b_Model_read 12 = .ok (.putfield 13, 3) := by decide +kernel
theorem d_Model_read_15 : decode b_Model_read 15 = .ok (.aload_n 0, 1) := by decide +kernel
theorem d_Model_read_16 : decode b_Model_read 16 = .ok (.iconst 0, 1) := by decide +kernel
theorem d_Model_read_17 : decode b_Model_read 17 = .ok (.putfield 353, 3) := by decide +kernel
theorem d_Model_read_20 : decode b_Model_read 20 = .ok (.aload_n 0, 1) := by decide +kernel
theorem d_Model_read_21 : decode b_Model_read 21 = .ok (.invokevirtual 356, 3) := by decide +kernel
theorem d_Model_read_24 : decode b_Model_read 24 = .ok (.aload_n 0, 1) := by decide +kernel
theorem d_Model_read_25 : decode b_Model_read 25 = .ok (.getfield 123, 3) := by decide +kernel
theorem d_Model_read_28 : decode b_Model_read 28 = .ok (.ifCond .ne 7, 3) := by decide +kernel
theorem d_Model_read_31 : decode b_Model_read 31 = .ok (.aload_n 0, 1) := by decide +kernel
theorem d_Model_read_32 : decode b_Model_read 32 = .ok (.invokevirtual 359, 3) := by decide +kernel
theorem d_Model_read_35 : decode b_Model_read 35 = .ok (.aload_n 0, 1) := by decide +kernel
theorem d_Model_read_36 : decode b_Model_read 36 = .ok (.getfield 123, 3) := by decide +kernel
theorem d_Model_read_39 : decode b_Model_read 39 = .ok (.ifCond .le 12, 3) := by decide +kernel
theorem d_Model_read_51 : decode b_Model_read 51 = .ok (.aload_n 0, 1) := by decide +kernel
theorem d_Model_read_52 : decode b_Model_read 52 = .ok (.invokevirtual 362, 3) := by decide +kernel
theorem d_Model_read_55 : decode b_Model_read 55 = .ok (.iconst 0, 1) := by decide +kernel
theorem d_Model_read_56 : decode b_Model_read 56 = .ok (.istore_n 1, 1) := by decide +kernel
theorem d_Model_read_57 : decode b_Model_read 57 = .ok (.iload_n 1, 1) := by decide +kernel
theorem d_Model_read_58 : decode b_Model_read 58 = .ok (.aload_n 0, 1) := by decide +kernel
theorem d_Model_read_59 : decode b_Model_read 59 = .ok (.getfield 188, 3) := by decide +kernel
theorem d_Model_read_62 : decode b_Model_read 62 = .ok (.if_icmp .ge 77, 3) := by decide +kernel
theorem d_Model_read_65 : decode b_Model_read 65 = .ok (.iconst 0, 1) := by decide +kernel
theorem d_Model_read_66 : decode b_Model_read 66 = .ok (.istore_n 2, 1) := by decide +kernel
theorem d_Model_read_67 : decode b_Model_read 67 = .ok (.iload_n 2, 1) := by decide +kernel
theorem d_Model_read_68 : decode b_Model_read 68 = .ok (.aload_n 0, 1) := by decide +kernel
theorem d_Model_read_69 : decode b_Model_read 69 = .ok (.getfield 43, 3) := by decide +kernel
theorem d_Model_read_72 : decode b_Model_read 72 = .ok (.iload_n 1, 1) := by decide +kernel
theorem d_Model_read_73 : decode b_Model_read 73 = .ok (.iaload, 1) := by decide +kernel
theorem d_Model_read_74 : decode b_Model_read 74 = .ok (.if_icmp .ge 17, 3) := by decide +kernel
theorem d_Model_read_91 : decode b_Model_read 91 = .ok (.aload_n 0, 1) := by decide +kernel
theorem d_Model_read_92 : decode b_Model_read 92 = .ok (.aload_n 0, 1) := by decide +kernel
theorem d_Model_read_93 : decode b_Model_read 93 = .ok (.getfield 37, 3) := by decide +kernel
theorem d_Model_read_96 : decode b_Model_read 96 = .ok (.iload_n 1, 1) := by decide +kernel
theorem d_Model_read_97 : decode b_Model_read 97 = .ok (.iaload, 1) := by decide +kernel
theorem d_Model_read_98 : decode b_Model_read 98 = .ok (.aload_n 0, 1) := by decide +kernel
theorem d_Model_read_99 : decode b_Model_read 99 = .ok (.getfield 40, 3) := by decide +kernel
theorem d_Model_read_102 : decode b_Model_read 102 = .ok (.iload_n 1, 1) := by decide +kernel
theorem d_Model_read_103 : decode b_Model_read 103 = .ok (.laload, 1) := by decide +kernel
theorem d_Model_read_104 : decode b_Model_read 104 = .ok (.invokevirtual 365, 3) := by decide +kernel
theorem d_Model_read_107 : decode b_Model_read 107 = .ok (.iconst 0, 1) := by decide +kernel
theorem d_Model_read_108 : decode b_Model_read 108 = .ok (.istore_n 2, 1) := by decide +kernel
theorem d_Model_read_109 : decode b_Model_read 109 = .ok (.iload_n 2, 1) := by decide +kernel
theorem d_Model_read_110 : decode b_Model_read 110 = .ok (.aload_n 0, 1) := by decide +kernel
theorem d_Model_read_111 : decode b_Model_read 111 = .ok (.getfield 46, 3) := by decide +kernel
theorem d_Model_read_114 : decode b_Model_read 114 = .ok (.iload_n 1, 1) := by decide +kernel
theorem d_Model_read_115 : decode b_Model_read 115 = .ok (.iaload, 1) := by decide +kernel
theorem d_Model_read_116 : decode b_Model_read 116 = .ok (.if_icmp .ge 17, 3) := by decide +kernel
theorem d_Model_read_133 : decode b_Model_read 133 = .ok (.iinc 1 1, 3) := by decide +kernel
theorem d_Model_read_136 : decode b_Model_read 136 = .ok (.goto (-79), 3) := by decide +kernel
theorem d_Model_read_139 : decode b_Model_read 139 = .ok (.aload_n 0, 1) := by decide +kernel
theorem d_Model_read_140 : decode b_Model_read 140 = .ok (.aload_n 0, 1) := by decide +kernel
theorem d_Model_read_141 : decode b_Model_read 141 = .ok (.getfield 144, 3) := by decide +kernel
theorem d_Model_read_144 : decode b_Model_read 144 = .ok (.putfield 368, 3) := by decide +kernel
theorem d_Model_read_147 : decode b_Model_read 147 = .ok (.aload_n 0, 1) := by decide +kernel
theorem d_Model_read_148 : decode b_Model_read 148 = .ok (.aload_n 0, 1) := by decide +kernel
theorem d_Model_read_149 : decode b_Model_read 149 = .ok (.getfield 240, 3) := by decide +kernel
theorem d_Model_read_152 : decode b_Model_read 152 = .ok (.putfield 371, 3) := by decide +kernel
theorem d_Model_read_155 : decode b_Model_read 155 = .ok (.aload_n 0, 1) := by decide +kernel
theorem d_Model_read_156 : decode b_Model_read 156 = .ok (.aload_n 0, 1) := by decide +kernel
theorem d_Model_read_157 : decode b_Model_read 157 = .ok (.getfield 337, 3) := by decide +kernel
theorem d_Model_read_160 : decode b_Model_read 160 = .ok (.putfield 374, 3) := by decide +kernel
theorem d_Model_read_163 : decode b_Model_read 163 = .ok (.aload_n 0, 1) := by decide +kernel
theorem d_Model_read_164 : decode b_Model_read 164 = .ok (.aload_n 0, 1) := by decide +kernel
theorem d_Model_read_165 : decode b_Model_read 165 = .ok (.getfield 334, 3) := by decide +kernel
theorem d_Model_read_168 : decode b_Model_read 168 = .ok (.putfield 377, 3) := by decide +kernel
theorem d_Model_read_171 : decode b_Model_read 171 = .ok (.aload_n 0, 1) := by decide +kernel
theorem d_Model_read_172 : decode b_Model_read 172 = .ok (.aload_n 0, 1) := by decide +kernel
theorem d_Model_read_173 : decode b_Model_read 173 = .ok (.getfield 194, 3) := by decide +kernel
theorem d_Model_read_176 : decode b_Model_read 176 = .ok (.putfield 380, 3) := by decide +kernel
theorem d_Model_read_179 : decode b_Model_read 179 = .ok (.aload_n 0, 1) := by decide +kernel
theorem d_Model_read_180 : decode b_Model_read 180 = .ok (.getfield 353, 3) := by decide +kernel
theorem d_Model_read_183 : decode b_Model_read 183 = .ok (.ireturn, 1) := by decide +kernel
theorem d_Text_clear_0 : decode b_Text_clear 0 = .ok (.aload_n 0, 1) := by decide +kernel
theorem d_Text_clear_1 : decode b_Text_clear 1 = .ok (.iconst 0, 1) := by decide +kernel
theorem d_Text_clear_2 : decode b_Text_clear 2 = .ok (.putfield 19, 3) := by decide +kernel
theorem d_Text_clear_5 : decode b_Text_clear 5 = .ok (.return_, 1) := by decide +kernel
theorem d_LF_erase_0 : decode b_LF_erase 0 = .ok (.aload_n 0, 1) := by decide +kernel
theorem d_LF_erase_1 : decode b_LF_erase 1 = .ok (.getfield 12, 3) := by decide +kernel
theorem d_LF_erase_4 : decode b_LF_erase 4 = .ok (.invokevirtual 85, 3) := by decide +kernel
theorem d_LF_erase_7 : decode b_LF_erase 7 = .ok (.istore_n 1, 1) := by decide +kernel
theorem d_LF_erase_8 : decode b_LF_erase 8 = .ok (.aload_n 0, 1) := by decide +kernel
theorem d_LF_erase_9 : decode b_LF_erase 9 = .ok (.getfield 12, 3) := by decide +kernel
theorem d_LF_erase_12 : decode b_LF_erase 12 = .ok (.invokevirtual 89, 3) := by decide +kernel
theorem d_LF_erase_15 : decode b_LF_erase 15 = .ok (.iload_n 1, 1) := by decide +kernel
theorem d_LF_erase_16 : decode b_LF_erase 16 = .ok (.ireturn, 1) := by decide +kernel
theorem d_LF_place_0 : decode b_LF_place 0 = .ok (.aload_n 0, 1) := by decide +kernel
theorem d_LF_place_1 : decode b_LF_place 1 = .ok (.getfield 57, 3) := by decide +kernel
theorem d_LF_place_4 : decode b_LF_place 4 = .ok (.ireturn, 1) := by decide +kernel
theorem d_Model_erase_0 : decode b_Model_erase 0 = .ok (.aload_n 0, 1) := by decide +kernel
theorem d_Model_erase_1 : decode b_Model_erase 1 = .ok (.iconst 0, 1) := by decide +kernel
theorem d_Model_erase_2 : decode b_Model_erase 2 = .ok (.putfield 97, 3) := by decide +kernel
theorem d_Model_erase_5 : decode b_Model_erase 5 = .ok (.aload_n 0, 1) := by decide +kernel
theorem d_Model_erase_6 : decode b_Model_erase 6 = .ok (.getfield 110, 3) := by decide +kernel
theorem d_Model_erase_9 : decode b_Model_erase 9 = .ok (.istore_n 1, 1) := by decide +kernel
theorem d_Model_erase_10 : decode b_Model_erase 10 = .ok (.aload_n 0, 1) := by decide +kernel
theorem d_Model_erase_11 : decode b_Model_erase 11 = .ok (.iconst 0, 1) := by decide +kernel
theorem d_Model_erase_12 : decode b_Model_erase 12 = .ok (.putfield 110, 3) := by decide +kernel
theorem d_Model_erase_15 : decode b_Model_erase 15 = .ok (.iload_n 1, 1) := by decide +kernel
theorem d_Model_erase_16 : decode b_Model_erase 16 = .ok (.ireturn, 1) := by decide +kernel
theorem d_Model_place_0 : decode b_Model_place 0 = .ok (.aload_n 0, 1) := by decide +kernel
theorem d_Model_place_1 : decode b_Model_place 1 = .ok (.iconst 0, 1) := by decide +kernel
theorem d_Model_place_2 : decode b_Model_place 2 = .ok (.putfield 97, 3) := by decide +kernel
theorem d_Model_place_5 : decode b_Model_place 5 = .ok (.aload_n 0, 1) := by decide +kernel
theorem d_Model_place_6 : decode b_Model_place 6 = .ok (.getfield 13, 3) := by decide +kernel
theorem d_Model_place_9 : decode b_Model_place 9 = .ok (.ireturn, 1) := by decide +kernel
theorem d_Law_read_0 : decode b_Law_read 0 = .ok (.aload_n 1, 1) := by decide +kernel
theorem d_Law_read_1 : decode b_Law_read 1 = .ok (.iconst 0, 1) := by decide +kernel
theorem d_Law_read_2 : decode b_Law_read 2 = .ok (.aload_n 0, 1) := by decide +kernel
theorem d_Law_read_3 : decode b_Law_read 3 = .ok (.invokevirtual 21, 3) := by decide +kernel
theorem d_Law_read_6 : decode b_Law_read 6 = .ok (.i2l, 1) := by decide +kernel
theorem d_Law_read_7 : decode b_Law_read 7 = .ok (.lastore, 1) := by decide +kernel
theorem d_Law_read_8 : decode b_Law_read 8 = .ok (.goto 9, 3) := by decide +kernel
theorem d_Law_read_17 : decode b_Law_read 17 = .ok (.iconst 0, 1) := by decide +kernel
theorem d_Law_read_18 : decode b_Law_read 18 = .ok (.ireturn, 1) := by decide +kernel
theorem d_LF_count_0 : decode b_LF_count 0 = .ok (.iload_n 1, 1) := by decide +kernel
theorem d_LF_count_1 : decode b_LF_count 1 = .ok (.ifCond .lt 8, 3) := by decide +kernel
theorem d_LF_count_4 : decode b_LF_count 4 = .ok (.iload_n 1, 1) := by decide +kernel
theorem d_LF_count_5 : decode b_LF_count 5 = .ok (.iconst 5, 1) := by decide +kernel
theorem d_LF_count_6 : decode b_LF_count 6 = .ok (.if_icmp .lt 13, 3) := by decide +kernel
theorem d_LF_count_9 : decode b_LF_count 9 = .ok (.new 161, 3) := by decide +kernel
theorem d_LF_count_12 : decode b_LF_count 12 = .ok (.dup, 1) := by decide +kernel
theorem d_LF_count_13 : decode b_LF_count 13 = .ok (.ldc 174, 2) := by decide +kernel
theorem d_LF_count_15 : decode b_LF_count 15 = .ok (.invokespecial 165, 3) := by decide +kernel
theorem d_LF_count_18 : decode b_LF_count 18 = .ok (.athrow, 1) := by decide +kernel
theorem d_LF_count_19 : decode b_LF_count 19 = .ok (.aload_n 0, 1) := by decide +kernel
theorem d_LF_count_20 : decode b_LF_count 20 = .ok (.getfield 53, 3) := by decide +kernel
theorem d_LF_count_23 : decode b_LF_count 23 = .ok (.iload_n 1, 1) := by decide +kernel
theorem d_LF_count_24 : decode b_LF_count 24 = .ok (.iaload, 1) := by decide +kernel
theorem d_LF_count_25 : decode b_LF_count 25 = .ok (.ireturn, 1) := by decide +kernel
theorem d_Law_count_0 : decode b_Law_count 0 = .ok (.aload_n 2, 1) := by decide +kernel
theorem d_Law_count_1 : decode b_Law_count 1 = .ok (.iconst 0, 1) := by decide +kernel
theorem d_Law_count_2 : decode b_Law_count 2 = .ok (.aload_n 0, 1) := by decide +kernel
theorem d_Law_count_3 : decode b_Law_count 3 = .ok (.iload_n 1, 1) := by decide +kernel
theorem d_Law_count_4 : decode b_Law_count 4 = .ok (.invokevirtual 35, 3) := by decide +kernel
theorem d_Law_count_7 : decode b_Law_count 7 = .ok (.i2l, 1) := by decide +kernel
theorem d_Law_count_8 : decode b_Law_count 8 = .ok (.lastore, 1) := by decide +kernel
theorem d_Law_count_9 : decode b_Law_count 9 = .ok (.goto 6, 3) := by decide +kernel
theorem d_Law_count_12 : decode b_Law_count 12 = .ok (.astore_n 3, 1) := by decide +kernel
theorem d_Law_count_13 : decode b_Law_count 13 = .ok (.iconst 1, 1) := by decide +kernel
theorem d_Law_count_14 : decode b_Law_count 14 = .ok (.ireturn, 1) := by decide +kernel
theorem d_Law_count_15 : decode b_Law_count 15 = .ok (.iconst 0, 1) := by decide +kernel
theorem d_Law_count_16 : decode b_Law_count 16 = .ok (.ireturn, 1) := by decide +kernel
theorem d_Model_within_0 : decode b_Model_within 0 = .ok (.iload_n 0, 1) := by decide +kernel
theorem d_Model_within_1 : decode b_Model_within 1 = .ok (.iload_n 1, 1) := by decide +kernel
theorem d_Model_within_2 : decode b_Model_within 2 = .ok (.if_icmp .lt 12, 3) := by decide +kernel
theorem d_Model_within_5 : decode b_Model_within 5 = .ok (.iload_n 0, 1) := by decide +kernel
theorem d_Model_within_6 : decode b_Model_within 6 = .ok (.iload_n 2, 1) := by decide +kernel
theorem d_Model_within_7 : decode b_Model_within 7 = .ok (.if_icmp .gt 7, 3) := by decide +kernel
theorem d_Model_within_10 : decode b_Model_within 10 = .ok (.iconst 1, 1) := by decide +kernel
theorem d_Model_within_11 : decode b_Model_within 11 = .ok (.goto 4, 3) := by decide +kernel
theorem d_Model_within_14 : decode b_Model_within 14 = .ok (.iconst 0, 1) := by decide +kernel
theorem d_Model_within_15 : decode b_Model_within 15 = .ok (.ireturn, 1) := by decide +kernel
theorem d_Model_count_0 : decode b_Model_count 0 = .ok (.aload_n 0, 1) := by decide +kernel
theorem d_Model_count_1 : decode b_Model_count 1 = .ok (.iconst 0, 1) := by decide +kernel
theorem d_Model_count_2 : decode b_Model_count 2 = .ok (.putfield 97, 3) := by decide +kernel
theorem d_Model_count_5 : decode b_Model_count 5 = .ok (.iload_n 1, 1) := by decide +kernel
theorem d_Model_count_6 : decode b_Model_count 6 = .ok (.iconst 0, 1) := by decide +kernel
theorem d_Model_count_7 : decode b_Model_count 7 = .ok (.iconst 4, 1) := by decide +kernel
theorem d_Model_count_8 : decode b_Model_count 8 = .ok (.invokestatic 100, 3) := by decide +kernel
theorem d_Model_count_11 : decode b_Model_count 11 = .ok (.ifCond .ne 9, 3) := by decide +kernel
theorem d_Model_count_14 : decode b_Model_count 14 = .ok (.aload_n 0, 1) := by decide +kernel
theorem d_Model_count_15 : decode b_Model_count 15 = .ok (.iconst 1, 1) := by decide +kernel
theorem d_Model_count_16 : decode b_Model_count 16 = .ok (.invokevirtual 104, 3) := by decide +kernel
theorem d_Model_count_19 : decode b_Model_count 19 = .ok (.ireturn, 1) := by decide +kernel
theorem d_Model_count_20 : decode b_Model_count 20 = .ok (.iload_n 1, 1) := by decide +kernel
theorem d_Model_count_21 : decode b_Model_count 21 = .ok (.iconst 3, 1) := by decide +kernel
theorem d_Model_count_22 : decode b_Model_count 22 = .ok (.if_icmp .ge 31, 3) := by decide +kernel
theorem d_Model_count_25 : decode b_Model_count 25 = .ok (.iload_n 1, 1) := by decide +kernel
theorem d_Model_count_26 : decode b_Model_count 26 = .ok (.ifCond .ne 10, 3) := by decide +kernel
theorem d_Model_count_29 : decode b_Model_count 29 = .ok (.aload_n 0, 1) := by decide +kernel
theorem d_Model_count_30 : decode b_Model_count 30 = .ok (.getfield 368, 3) := by decide +kernel
theorem d_Model_count_33 : decode b_Model_count 33 = .ok (.goto 19, 3) := by decide +kernel
theorem d_Model_count_36 : decode b_Model_count 36 = .ok (.iload_n 1, 1) := by decide +kernel
theorem d_Model_count_37 : decode b_Model_count 37 = .ok (.iconst 1, 1) := by decide +kernel
theorem d_Model_count_38 : decode b_Model_count 38 = .ok (.if_icmp .ne 10, 3) := by decide +kernel
theorem d_Model_count_41 : decode b_Model_count 41 = .ok (.aload_n 0, 1) := by decide +kernel
theorem d_Model_count_42 : decode b_Model_count 42 = .ok (.getfield 371, 3) := by decide +kernel
theorem d_Model_count_45 : decode b_Model_count 45 = .ok (.goto 7, 3) := by decide +kernel
theorem d_Model_count_48 : decode b_Model_count 48 = .ok (.aload_n 0, 1) := by decide +kernel
theorem d_Model_count_49 : decode b_Model_count 49 = .ok (.getfield 374, 3) := by decide +kernel
theorem d_Model_count_52 : decode b_Model_count 52 = .ok (.ireturn, 1) := by decide +kernel
theorem d_Model_count_53 : decode b_Model_count 53 = .ok (.iload_n 1, 1) := by decide +kernel
theorem d_Model_count_54 : decode b_Model_count 54 = .ok (.iconst 3, 1) := by decide +kernel
theorem d_Model_count_55 : decode b_Model_count 55 = .ok (.if_icmp .ne 10, 3) := by decide +kernel
theorem d_Model_count_58 : decode b_Model_count 58 = .ok (.aload_n 0, 1) := by decide +kernel
theorem d_Model_count_59 : decode b_Model_count 59 = .ok (.getfield 377, 3) := by decide +kernel
theorem d_Model_count_62 : decode b_Model_count 62 = .ok (.goto 7, 3) := by decide +kernel
theorem d_Model_count_65 : decode b_Model_count 65 = .ok (.aload_n 0, 1) := by decide +kernel
theorem d_Model_count_66 : decode b_Model_count 66 = .ok (.getfield 380, 3) := by decide +kernel
theorem d_Model_count_69 : decode b_Model_count 69 = .ok (.ireturn, 1) := by decide +kernel
theorem d_Model_fail_0 : decode b_Model_fail 0 = .ok (.aload_n 0, 1) := by decide +kernel
theorem d_Model_fail_1 : decode b_Model_fail 1 = .ok (.iload_n 1, 1) := by decide +kernel
theorem d_Model_fail_2 : decode b_Model_fail 2 = .ok (.putfield 97, 3) := by decide +kernel
theorem d_Model_fail_5 : decode b_Model_fail 5 = .ok (.iconst 0, 1) := by decide +kernel
theorem d_Model_fail_6 : decode b_Model_fail 6 = .ok (.ireturn, 1) := by decide +kernel
theorem d_Model_kind_0 : decode b_Model_kind 0 = .ok (.aload_n 0, 1) := by decide +kernel
theorem d_Model_kind_1 : decode b_Model_kind 1 = .ok (.iconst 0, 1) := by decide +kernel
theorem d_Model_kind_2 : decode b_Model_kind 2 = .ok (.putfield 97, 3) := by decide +kernel
theorem d_Model_kind_5 : decode b_Model_kind 5 = .ok (.iload_n 1, 1) := by decide +kernel
theorem d_Model_kind_6 : decode b_Model_kind 6 = .ok (.iconst 0, 1) := by decide +kernel
theorem d_Model_kind_7 : decode b_Model_kind 7 = .ok (.aload_n 0, 1) := by decide +kernel
theorem d_Model_kind_8 : decode b_Model_kind 8 = .ok (.getfield 353, 3) := by decide +kernel
theorem d_Model_kind_11 : decode b_Model_kind 11 = .ok (.iconst 1, 1) := by decide +kernel
theorem d_Model_kind_12 : decode b_Model_kind 12 = .ok (.isub, 1) := by decide +kernel
theorem d_Model_kind_13 : decode b_Model_kind 13 = .ok (.invokestatic 100, 3) := by decide +kernel
theorem d_Model_kind_16 : decode b_Model_kind 16 = .ok (.ifCond .eq 12, 3) := by decide +kernel
theorem d_Model_kind_28 : decode b_Model_kind 28 = .ok (.aload_n 0, 1) := by decide +kernel
theorem d_Model_kind_29 : decode b_Model_kind 29 = .ok (.iconst 1, 1) := by decide +kernel
theorem d_Model_kind_30 : decode b_Model_kind 30 = .ok (.invokevirtual 104, 3) := by decide +kernel
theorem d_Model_kind_33 : decode b_Model_kind 33 = .ok (.ireturn, 1) := by decide +kernel
theorem d_Model_token_0 : decode b_Model_token 0 = .ok (.aload_n 0, 1) := by decide +kernel
theorem d_Model_token_1 : decode b_Model_token 1 = .ok (.iconst 0, 1) := by decide +kernel
theorem d_Model_token_2 : decode b_Model_token 2 = .ok (.putfield 97, 3) := by decide +kernel
theorem d_Model_token_5 : decode b_Model_token 5 = .ok (.iload_n 1, 1) := by decide +kernel
theorem d_Model_token_6 : decode b_Model_token 6 = .ok (.iconst 0, 1) := by decide +kernel
theorem d_Model_token_7 : decode b_Model_token 7 = .ok (.aload_n 0, 1) := by decide +kernel
theorem d_Model_token_8 : decode b_Model_token 8 = .ok (.getfield 353, 3) := by decide +kernel
theorem d_Model_token_11 : decode b_Model_token 11 = .ok (.iconst 1, 1) := by decide +kernel
theorem d_Model_token_12 : decode b_Model_token 12 = .ok (.isub, 1) := by decide +kernel
theorem d_Model_token_13 : decode b_Model_token 13 = .ok (.invokestatic 100, 3) := by decide +kernel
theorem d_Model_token_16 : decode b_Model_token 16 = .ok (.ifCond .eq 12, 3) := by decide +kernel
theorem d_Model_token_28 : decode b_Model_token 28 = .ok (.aload_n 0, 1) := by decide +kernel
theorem d_Model_token_29 : decode b_Model_token 29 = .ok (.iconst 1, 1) := by decide +kernel
theorem d_Model_token_30 : decode b_Model_token 30 = .ok (.invokevirtual 104, 3) := by decide +kernel
theorem d_Model_token_33 : decode b_Model_token 33 = .ok (.i2l, 1) := by decide +kernel
theorem d_Model_token_34 : decode b_Model_token 34 = .ok (.lreturn, 1) := by decide +kernel
theorem d_Fixities_hasRoomFor_0 : decode b_Fixities_hasRoomFor 0 = .ok (.aload_n 0, 1) := by decide +kernel
theorem d_Fixities_hasRoomFor_1 : decode b_Fixities_hasRoomFor 1 = .ok (.getfield 22, 3) := by decide +kernel
theorem d_Fixities_hasRoomFor_4 : decode b_Fixities_hasRoomFor 4 = .ok (.bipush 12, 2) := by decide +kernel
theorem d_Fixities_hasRoomFor_6 : decode b_Fixities_hasRoomFor 6 = .ok (.if_icmp .lt 12, 3) := by decide +kernel
theorem d_Fixities_hasRoomFor_18 : decode b_Fixities_hasRoomFor 18 = .ok (.iconst 1, 1) := by decide +kernel
theorem d_Fixities_hasRoomFor_19 : decode b_Fixities_hasRoomFor 19 = .ok (.goto 4, 3) := by decide +kernel
theorem d_Fixities_hasRoomFor_23 : decode b_Fixities_hasRoomFor 23 = .ok (.ireturn, 1) := by decide +kernel
theorem d_Fixities_find_0 : decode b_Fixities_find 0 = .ok (.iconst 0, 1) := by decide +kernel
theorem d_Fixities_find_1 : decode b_Fixities_find 1 = .ok (.istore_n 3, 1) := by decide +kernel
theorem d_Fixities_find_2 : decode b_Fixities_find 2 = .ok (.iload_n 3, 1) := by decide +kernel
theorem d_Fixities_find_3 : decode b_Fixities_find 3 = .ok (.aload_n 0, 1) := by decide +kernel
theorem d_Fixities_find_4 : decode b_Fixities_find 4 = .ok (.getfield 22, 3) := by decide +kernel
