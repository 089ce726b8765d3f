theorem d_Model_add_26 : decode b_Model_add 26 = .ok (.iadd, 1) := by decide +kernel
theorem d_Model_add_27 : decode b_Model_add 27 = .ok (.putfield 353, 3) := by decide +kernel
theorem d_Model_add_30 : decode b_Model_add 30 = .ok (.return_, 1) := by decide +kernel
theorem d_Model_read_0 : decode b_Model_read 0 = .ok (.aload_n 0, 1) := by decide +kernel
theorem d_Model_read_1 : decode b_Model_read 1 = .ok (.iconst 0, 1) := by decide +kernel
theorem d_Model_read_2 : decode b_Model_read 2 = .ok (.putfield 97, 3) := by decide +kernel
theorem d_Model_read_5 : decode b_Model_read 5 = .ok (.aload_n 0, 1) := by decide +kernel
theorem d_Model_read_6 : decode b_Model_read 6 = .ok (.iconst 0, 1) := by decide +kernel
theorem d_Model_read_7 : decode b_Model_read 7 = .ok (.putfield 123, 3) := by decide +kernel
theorem d_Model_read_10 : decode b_Model_read 10 = .ok (.aload_n 0, 1) := by decide +kernel
theorem d_Model_read_11 : decode b_Model_read 11 = .ok (.iconst (-1), 1) := by decide +kernel
theorem d_Model_read_12 : decode b_Model_read 12 = .ok (.putfield 13, 3) := by decide +kernel
theorem d_Model_read_15 : decode b_Model_read 15 = .ok (.aload_n 0, 1) := by decide +kernel
theorem d_Model_read_16 : decode b_Model_read 16 = .ok (.iconst 0, 1) := by decide +kernel
theorem d_Model_read_17 : decode b_Model_read 17 = .ok (.putfield 353, 3) := by decide +kernel
theorem d_Model_read_20 : decode b_Model_read 20 = .ok (.aload_n 0, 1) := by decide +kernel
theorem d_Model_read_21 : decode b_Model_read 21 = .ok (.invokevirtual 356, 3) := by decide +kernel
theorem d_Model_read_24 : decode b_Model_read 24 = .ok (.aload_n 0, 1) := by decide +kernel
theorem d_Model_read_25 : decode b_Model_read 25 = .ok (.getfield 123, 3) := by decide +kernel
theorem d_Model_read_28 : decode b_Model_read 28 = .ok (.ifCond .ne 7, 3) := by decide +kernel
theorem d_Model_read_31 : decode b_Model_read 31 = .ok (.aload_n 0, 1) := by decide +kernel
theorem d_Model_read_32 : decode b_Model_read 32 = .ok (.invokevirtual 359, 3) := by decide +kernel
theorem d_Model_read_35 : decode b_Model_read 35 = .ok (.aload_n 0, 1) := by decide +kernel
theorem d_Model_read_36 : decode b_Model_read 36 = .ok (.getfield 123, 3) := by decide +kernel
theorem d_Model_read_39 : decode b_Model_read 39 = .ok (.ifCond .le 12, 3) := by decide +kernel
theorem d_Model_read_51 : decode b_Model_read 51 = .ok (.aload_n 0, 1) := by decide +kernel
theorem d_Model_read_52 : decode b_Model_read 52 = .ok (.invokevirtual 362, 3) := by decide +kernel
theorem d_Model_read_55 : decode b_Model_read 55 = .ok (.iconst 0, 1) := by decide +kernel
theorem d_Model_read_56 : decode b_Model_read 56 = .ok (.istore_n 1, 1) := by decide +kernel
theorem d_Model_read_57 : decode b_Model_read 57 = .ok (.iload_n 1, 1) := by decide +kernel
theorem d_Model_read_58 : decode b_Model_read 58 = .ok (.aload_n 0, 1) := by decide +kernel
theorem d_Model_read_59 : decode b_Model_read 59 = .ok (.getfield 188, 3) := by decide +kernel
theorem d_Model_read_62 : decode b_Model_read 62 = .ok (.if_icmp .ge 77, 3) := by decide +kernel
theorem d_Model_read_65 : decode b_Model_read 65 = .ok (.iconst 0, 1) := by decide +kernel
theorem d_Model_read_66 : decode b_Model_read 66 = .ok (.istore_n 2, 1) := by decide +kernel
theorem d_Model_read_67 : decode b_Model_read 67 = .ok (.iload_n 2, 1) := by decide +kernel
theorem d_Model_read_68 : decode b_Model_read 68 = .ok (.aload_n 0, 1) := by decide +kernel
theorem d_Model_read_69 : decode b_Model_read 69 = .ok (.getfield 43, 3) := by decide +kernel
theorem d_Model_read_72 : decode b_Model_read 72 = .ok (.iload_n 1, 1) := by decide +kernel
theorem d_Model_read_73 : decode b_Model_read 73 = .ok (.iaload, 1) := by decide +kernel
theorem d_Model_read_74 : decode b_Model_read 74 = .ok (.if_icmp .ge 17, 3) := by decide +kernel
theorem d_Model_read_91 : decode b_Model_read 91 = .ok (.aload_n 0, 1) := by decide +kernel
theorem d_Model_read_92 : decode b_Model_read 92 = .ok (.aload_n 0, 1) := by decide +kernel
theorem d_Model_read_93 : decode b_Model_read 93 = .ok (.getfield 37, 3) := by decide +kernel
theorem d_Model_read_96 : decode b_Model_read 96 = .ok (.iload_n 1, 1) := by decide +kernel
theorem d_Model_read_97 : decode b_Model_read 97 = .ok (.iaload, 1) := by decide +kernel
theorem d_Model_read_98 : decode b_Model_read 98 = .ok (.aload_n 0, 1) := by decide +kernel
theorem d_Model_read_99 : decode b_Model_read 99 = .ok (.getfield 40, 3) := by decide +kernel
theorem d_Model_read_102 : decode b_Model_read 102 = .ok (.iload_n 1, 1) := by decide +kernel
theorem d_Model_read_103 : decode b_Model_read 103 = .ok (.laload, 1) := by decide +kernel
theorem d_Model_read_104 : decode b_Model_read 104 = .ok (.invokevirtual 365, 3) := by decide +kernel
theorem d_Model_read_107 : decode b_Model_read 107 = .ok (.iconst 0, 1) := by decide +kernel
theorem d_Model_read_108 : decode b_Model_read 108 = .ok (.istore_n 2, 1) := by decide +kernel
theorem d_Model_read_109 : decode b_Model_read 109 = .ok (.iload_n 2, 1) := by decide +kernel
theorem d_Model_read_110 : decode b_Model_read 110 = .ok (.aload_n 0, 1) := by decide +kernel
theorem d_Model_read_111 : decode b_Model_read 111 = .ok (.getfield 46, 3) := by decide +kernel
theorem d_Model_read_114 : decode b_Model_read 114 = .ok (.iload_n 1, 1) := by decide +kernel
theorem d_Model_read_115 : decode b_Model_read 115 = .ok (.iaload, 1) := by decide +kernel
theorem d_Model_read_116 : decode b_Model_read 116 = .ok (.if_icmp .ge 17, 3) := by decide +kernel
theorem d_Model_read_133 : decode b_Model_read 133 = .ok (.iinc 1 1, 3) := by decide +kernel
theorem d_Model_read_136 : decode b_Model_read 136 = .ok (.goto (-79), 3) := by decide +kernel
theorem d_Model_read_139 : decode b_Model_read 139 = .ok (.aload_n 0, 1) := by decide +kernel
theorem d_Model_read_140 : decode b_Model_read 140 = .ok (.aload_n 0, 1) := by decide +kernel
theorem d_Model_read_141 : decode b_Model_read 141 = .ok (.getfield 144, 3) := by decide +kernel
theorem d_Model_read_144 : decode b_Model_read 144 = .ok (.putfield 368, 3) := by decide +kernel
theorem d_Model_read_147 : decode b_Model_read 147 = .ok (.aload_n 0, 1) := by decide +kernel
theorem d_Model_read_148 : decode b_Model_read 148 = .ok (.aload_n 0, 1) := by decide +kernel
theorem d_Model_read_149 : decode b_Model_read 149 = .ok (.getfield 240, 3) := by decide +kernel
theorem d_Model_read_152 : decode b_Model_read 152 = .ok (.putfield 371, 3) := by decide +kernel
theorem d_Model_read_155 : decode b_Model_read 155 = .ok (.aload_n 0, 1) := by decide +kernel
theorem d_Model_read_156 : decode b_Model_read 156 = .ok (.aload_n 0, 1) := by decide +kernel
theorem d_Model_read_157 : decode b_Model_read 157 = .ok (.getfield 337, 3) := by decide +kernel
theorem d_Model_read_160 : decode b_Model_read 160 = .ok (.putfield 374, 3) := by decide +kernel
theorem d_Model_read_163 : decode b_Model_read 163 = .ok (.aload_n 0, 1) := by decide +kernel
theorem d_Model_read_164 : decode b_Model_read 164 = .ok (.aload_n 0, 1) := by decide +kernel
theorem d_Model_read_165 : decode b_Model_read 165 = .ok (.getfield 334, 3) := by decide +kernel
theorem d_Model_read_168 : decode b_Model_read 168 = .ok (.putfield 377, 3) := by decide +kernel
theorem d_Model_read_171 : decode b_Model_read 171 = .ok (.aload_n 0, 1) := by decide +kernel
theorem d_Model_read_172 : decode b_Model_read 172 = .ok (.aload_n 0, 1) := by decide +kernel
theorem d_Model_read_173 : decode b_Model_read 173 = .ok (.getfield 194, 3) := by decide +kernel
theorem d_Model_read_176 : decode b_Model_read 176 = .ok (.putfield 380, 3) := by decide +kernel
theorem d_Model_read_179 : decode b_Model_read 179 = .ok (.aload_n 0, 1) := by decide +kernel
theorem d_Model_read_180 : decode b_Model_read 180 = .ok (.getfield 353, 3) := by decide +kernel
theorem d_Model_read_183 : decode b_Model_read 183 = .ok (.ireturn, 1) := by decide +kernel
