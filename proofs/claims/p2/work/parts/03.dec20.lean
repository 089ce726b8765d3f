theorem d_Model_comes_41 : decode b_Model_comes 41 = .ok (.ifCond .eq 114, 3) := by decide +kernel
theorem d_Model_comes_44 : decode b_Model_comes 44 = .ok (.aload_n 0, 1) := by decide +kernel
theorem d_Model_comes_45 : decode b_Model_comes 45 = .ok (.getfield 313, 3) := by decide +kernel
theorem d_Model_comes_48 : decode b_Model_comes 48 = .ok (.ifCond .le 107, 3) := by decide +kernel
theorem d_Model_comes_51 : decode b_Model_comes 51 = .ok (.aload_n 0, 1) := by decide +kernel
theorem d_Model_comes_52 : decode b_Model_comes 52 = .ok (.getfield 85, 3) := by decide +kernel
theorem d_Model_comes_55 : decode b_Model_comes 55 = .ok (.aload_n 0, 1) := by decide +kernel
theorem d_Model_comes_56 : decode b_Model_comes 56 = .ok (.getfield 313, 3) := by decide +kernel
theorem d_Model_comes_59 : decode b_Model_comes 59 = .ok (.iconst 1, 1) := by decide +kernel
theorem d_Model_comes_60 : decode b_Model_comes 60 = .ok (.isub, 1) := by decide +kernel
theorem d_Model_comes_61 : decode b_Model_comes 61 = .ok (.iaload, 1) := by decide +kernel
theorem d_Model_comes_62 : decode b_Model_comes 62 = .ok (.istore_n 3, 1) := by decide +kernel
theorem d_Model_comes_63 : decode b_Model_comes 63 = .ok (.aload_n 0, 1) := by decide +kernel
theorem d_Model_comes_64 : decode b_Model_comes 64 = .ok (.iload_n 3, 1) := by decide +kernel
theorem d_Model_comes_65 : decode b_Model_comes 65 = .ok (.invokevirtual 322, 3) := by decide +kernel
theorem d_Model_comes_68 : decode b_Model_comes 68 = .ok (.aload_n 0, 1) := by decide +kernel
theorem d_Model_comes_69 : decode b_Model_comes 69 = .ok (.iload_n 1, 1) := by decide +kernel
theorem d_Model_comes_70 : decode b_Model_comes 70 = .ok (.invokevirtual 322, 3) := by decide +kernel
theorem d_Model_comes_73 : decode b_Model_comes 73 = .ok (.if_icmp .ne 7, 3) := by decide +kernel
theorem d_Model_comes_76 : decode b_Model_comes 76 = .ok (.iconst 1, 1) := by decide +kernel
theorem d_Model_comes_77 : decode b_Model_comes 77 = .ok (.goto 4, 3) := by decide +kernel
theorem d_Model_comes_80 : decode b_Model_comes 80 = .ok (.iconst 0, 1) := by decide +kernel
theorem d_Model_comes_81 : decode b_Model_comes 81 = .ok (.istore 4, 2) := by decide +kernel
theorem d_Model_comes_83 : decode b_Model_comes 83 = .ok (.iload 4, 2) := by decide +kernel
theorem d_Model_comes_85 : decode b_Model_comes 85 = .ok (.ifCond .eq 27, 3) := by decide +kernel
theorem d_Model_comes_88 : decode b_Model_comes 88 = .ok (.aload_n 0, 1) := by decide +kernel
theorem d_Model_comes_89 : decode b_Model_comes 89 = .ok (.iload_n 3, 1) := by decide +kernel
theorem d_Model_comes_90 : decode b_Model_comes 90 = .ok (.invokevirtual 325, 3) := by decide +kernel
theorem d_Model_comes_93 : decode b_Model_comes 93 = .ok (.aload_n 0, 1) := by decide +kernel
theorem d_Model_comes_94 : decode b_Model_comes 94 = .ok (.iload_n 1, 1) := by decide +kernel
theorem d_Model_comes_95 : decode b_Model_comes 95 = .ok (.invokevirtual 325, 3) := by decide +kernel
theorem d_Model_comes_98 : decode b_Model_comes 98 = .ok (.if_icmp .ne 12, 3) := by decide +kernel
theorem d_Model_comes_101 : decode b_Model_comes 101 = .ok (.aload_n 0, 1) := by decide +kernel
theorem d_Model_comes_102 : decode b_Model_comes 102 = .ok (.iload_n 3, 1) := by decide +kernel
theorem d_Model_comes_103 : decode b_Model_comes 103 = .ok (.invokevirtual 325, 3) := by decide +kernel
theorem d_Model_comes_106 : decode b_Model_comes 106 = .ok (.iconst 2, 1) := by decide +kernel
theorem d_Model_comes_107 : decode b_Model_comes 107 = .ok (.if_icmp .ne 5, 3) := by decide +kernel
theorem d_Model_comes_110 : decode b_Model_comes 110 = .ok (.iconst 0, 1) := by decide +kernel
theorem d_Model_comes_111 : decode b_Model_comes 111 = .ok (.ireturn, 1) := by decide +kernel
theorem d_Model_comes_112 : decode b_Model_comes 112 = .ok (.aload_n 0, 1) := by decide +kernel
theorem d_Model_comes_113 : decode b_Model_comes 113 = .ok (.iload_n 3, 1) := by decide +kernel
theorem d_Model_comes_114 : decode b_Model_comes 114 = .ok (.invokevirtual 322, 3) := by decide +kernel
theorem d_Model_comes_117 : decode b_Model_comes 117 = .ok (.aload_n 0, 1) := by decide +kernel
theorem d_Model_comes_118 : decode b_Model_comes 118 = .ok (.iload_n 1, 1) := by decide +kernel
theorem d_Model_comes_119 : decode b_Model_comes 119 = .ok (.invokevirtual 322, 3) := by decide +kernel
theorem d_Model_comes_122 : decode b_Model_comes 122 = .ok (.if_icmp .gt 16, 3) := by decide +kernel
theorem d_Model_comes_125 : decode b_Model_comes 125 = .ok (.iload 4, 2) := by decide +kernel
theorem d_Model_comes_127 : decode b_Model_comes 127 = .ok (.ifCond .eq 15, 3) := by decide +kernel
theorem d_Model_comes_130 : decode b_Model_comes 130 = .ok (.aload_n 0, 1) := by decide +kernel
theorem d_Model_comes_131 : decode b_Model_comes 131 = .ok (.iload_n 3, 1) := by decide +kernel
theorem d_Model_comes_132 : decode b_Model_comes 132 = .ok (.invokevirtual 325, 3) := by decide +kernel
theorem d_Model_comes_135 : decode b_Model_comes 135 = .ok (.ifCond .ne 7, 3) := by decide +kernel
theorem d_Model_comes_138 : decode b_Model_comes 138 = .ok (.iconst 1, 1) := by decide +kernel
theorem d_Model_comes_139 : decode b_Model_comes 139 = .ok (.goto 4, 3) := by decide +kernel
theorem d_Model_comes_142 : decode b_Model_comes 142 = .ok (.iconst 0, 1) := by decide +kernel
theorem d_Model_comes_143 : decode b_Model_comes 143 = .ok (.istore_n 2, 1) := by decide +kernel
theorem d_Model_comes_144 : decode b_Model_comes 144 = .ok (.iload_n 2, 1) := by decide +kernel
theorem d_Model_comes_145 : decode b_Model_comes 145 = .ok (.ifCond .eq 7, 3) := by decide +kernel
theorem d_Model_comes_148 : decode b_Model_comes 148 = .ok (.aload_n 0, 1) := by decide +kernel
theorem d_Model_comes_149 : decode b_Model_comes 149 = .ok (.invokevirtual 328, 3) := by decide +kernel
theorem d_Model_comes_152 : decode b_Model_comes 152 = .ok (.goto (-112), 3) := by decide +kernel
theorem d_Model_comes_155 : decode b_Model_comes 155 = .ok (.aload_n 0, 1) := by decide +kernel
theorem d_Model_comes_156 : decode b_Model_comes 156 = .ok (.getfield 85, 3) := by decide +kernel
theorem d_Model_comes_159 : decode b_Model_comes 159 = .ok (.aload_n 0, 1) := by decide +kernel
theorem d_Model_comes_160 : decode b_Model_comes 160 = .ok (.getfield 313, 3) := by decide +kernel
theorem d_Model_comes_163 : decode b_Model_comes 163 = .ok (.iload_n 1, 1) := by decide +kernel
theorem d_Model_comes_164 : decode b_Model_comes 164 = .ok (.iastore, 1) := by decide +kernel
theorem d_Model_comes_165 : decode b_Model_comes 165 = .ok (.aload_n 0, 1) := by decide +kernel
theorem d_Model_comes_166 : decode b_Model_comes 166 = .ok (.dup, 1) := by decide +kernel
theorem d_Model_comes_167 : decode b_Model_comes 167 = .ok (.getfield 313, 3) := by decide +kernel
theorem d_Model_comes_170 : decode b_Model_comes 170 = .ok (.iconst 1, 1) := by decide +kernel
theorem d_Model_comes_171 : decode b_Model_comes 171 = .ok (.iadd, 1) := by decide +kernel
theorem d_Model_comes_172 : decode b_Model_comes 172 = .ok (.putfield 313, 3) := by decide +kernel
theorem d_Model_comes_175 : decode b_Model_comes 175 = .ok (.iconst 1, 1) := by decide +kernel
theorem d_Model_comes_176 : decode b_Model_comes 176 = .ok (.ireturn, 1) := by decide +kernel
theorem d_Model_put_0 : decode b_Model_put 0 = .ok (.aload_n 0, 1) := by decide +kernel
theorem d_Model_put_1 : decode b_Model_put 1 = .ok (.iconst 0, 1) := by decide +kernel
theorem d_Model_put_2 : decode b_Model_put 2 = .ok (.putfield 316, 3) := by decide +kernel
theorem d_Model_put_5 : decode b_Model_put 5 = .ok (.aload_n 0, 1) := by decide +kernel
theorem d_Model_put_6 : decode b_Model_put 6 = .ok (.iconst 0, 1) := by decide +kernel
theorem d_Model_put_7 : decode b_Model_put 7 = .ok (.putfield 313, 3) := by decide +kernel
theorem d_Model_put_10 : decode b_Model_put 10 = .ok (.aload_n 0, 1) := by decide +kernel
theorem d_Model_put_11 : decode b_Model_put 11 = .ok (.iconst 0, 1) := by decide +kernel
theorem d_Model_put_12 : decode b_Model_put 12 = .ok (.putfield 319, 3) := by decide +kernel
theorem d_Model_put_15 : decode b_Model_put 15 = .ok (.iconst 1, 1) := by decide +kernel
theorem d_Model_put_16 : decode b_Model_put 16 = .ok (.istore_n 1, 1) := by decide +kernel
theorem d_Model_put_17 : decode b_Model_put 17 = .ok (.iconst 0, 1) := by decide +kernel
theorem d_Model_put_18 : decode b_Model_put 18 = .ok (.istore_n 2, 1) := by decide +kernel
theorem d_Model_put_19 : decode b_Model_put 19 = .ok (.iload_n 2, 1) := by decide +kernel
theorem d_Model_put_20 : decode b_Model_put 20 = .ok (.aload_n 0, 1) := by decide +kernel
theorem d_Model_put_21 : decode b_Model_put 21 = .ok (.getfield 295, 3) := by decide +kernel
theorem d_Model_put_24 : decode b_Model_put 24 = .ok (.if_icmp .ge 71, 3) := by decide +kernel
theorem d_Model_put_27 : decode b_Model_put 27 = .ok (.iload_n 1, 1) := by decide +kernel
theorem d_Model_put_28 : decode b_Model_put 28 = .ok (.ifCond .eq 67, 3) := by decide +kernel
theorem d_Model_put_31 : decode b_Model_put 31 = .ok (.aload_n 0, 1) := by decide +kernel
theorem d_Model_put_32 : decode b_Model_put 32 = .ok (.getfield 76, 3) := by decide +kernel
theorem d_Model_put_35 : decode b_Model_put 35 = .ok (.iload_n 2, 1) := by decide +kernel
theorem d_Model_put_36 : decode b_Model_put 36 = .ok (.iaload, 1) := by decide +kernel
theorem d_Model_put_37 : decode b_Model_put 37 = .ok (.ifCond .ne 46, 3) := by decide +kernel
theorem d_Model_put_40 : decode b_Model_put 40 = .ok (.aload_n 0, 1) := by decide +kernel
theorem d_Model_put_41 : decode b_Model_put 41 = .ok (.getfield 79, 3) := by decide +kernel
theorem d_Model_put_44 : decode b_Model_put 44 = .ok (.aload_n 0, 1) := by decide +kernel
theorem d_Model_put_45 : decode b_Model_put 45 = .ok (.getfield 316, 3) := by decide +kernel
theorem d_Model_put_48 : decode b_Model_put 48 = .ok (.aload_n 0, 1) := by decide +kernel
theorem d_Model_put_49 : decode b_Model_put 49 = .ok (.getfield 70, 3) := by decide +kernel
theorem d_Model_put_52 : decode b_Model_put 52 = .ok (.iload_n 2, 1) := by decide +kernel
theorem d_Model_put_53 : decode b_Model_put 53 = .ok (.iaload, 1) := by decide +kernel
theorem d_Model_put_54 : decode b_Model_put 54 = .ok (.iastore, 1) := by decide +kernel
theorem d_Model_put_55 : decode b_Model_put 55 = .ok (.aload_n 0, 1) := by decide +kernel
theorem d_Model_put_56 : decode b_Model_put 56 = .ok (.getfield 82, 3) := by decide +kernel
theorem d_Model_put_59 : decode b_Model_put 59 = .ok (.aload_n 0, 1) := by decide +kernel
theorem d_Model_put_60 : decode b_Model_put 60 = .ok (.getfield 316, 3) := by decide +kernel
theorem d_Model_put_63 : decode b_Model_put 63 = .ok (.aload_n 0, 1) := by decide +kernel
theorem d_Model_put_64 : decode b_Model_put 64 = .ok (.getfield 73, 3) := by decide +kernel
theorem d_Model_put_67 : decode b_Model_put 67 = .ok (.iload_n 2, 1) := by decide +kernel
theorem d_Model_put_68 : decode b_Model_put 68 = .ok (.iaload, 1) := by decide +kernel
theorem d_Model_put_69 : decode b_Model_put 69 = .ok (.iastore, 1) := by decide +kernel
theorem d_Model_put_70 : decode b_Model_put 70 = .ok (.aload_n 0, 1) := by decide +kernel
theorem d_Model_put_71 : decode b_Model_put 71 = .ok (.dup, 1) := by decide +kernel
theorem d_Model_put_72 : decode b_Model_put 72 = .ok (.getfield 316, 3) := by decide +kernel
theorem d_Model_put_75 : decode b_Model_put 75 = .ok (.iconst 1, 1) := by decide +kernel
theorem d_Model_put_76 : decode b_Model_put 76 = .ok (.iadd, 1) := by decide +kernel
theorem d_Model_put_77 : decode b_Model_put 77 = .ok (.putfield 316, 3) := by decide +kernel
theorem d_Model_put_80 : decode b_Model_put 80 = .ok (.goto 9, 3) := by decide +kernel
theorem d_Model_put_83 : decode b_Model_put 83 = .ok (.aload_n 0, 1) := by decide +kernel
theorem d_Model_put_84 : decode b_Model_put 84 = .ok (.iload_n 2, 1) := by decide +kernel
theorem d_Model_put_85 : decode b_Model_put 85 = .ok (.invokevirtual 331, 3) := by decide +kernel
theorem d_Model_put_88 : decode b_Model_put 88 = .ok (.istore_n 1, 1) := by decide +kernel
theorem d_Model_put_89 : decode b_Model_put 89 = .ok (.iinc 2 1, 3) := by decide +kernel
theorem d_Model_put_92 : decode b_Model_put 92 = .ok (.goto (-73), 3) := by decide +kernel
theorem d_Model_put_95 : decode b_Model_put 95 = .ok (.iload_n 1, 1) := by decide +kernel
theorem d_Model_put_96 : decode b_Model_put 96 = .ok (.ifCond .ne 14, 3) := by decide +kernel
theorem d_Model_put_99 : decode b_Model_put 99 = .ok (.aload_n 0, 1) := by decide +kernel
theorem d_Model_put_100 : decode b_Model_put 100 = .ok (.dup, 1) := by decide +kernel
theorem d_Model_put_101 : decode b_Model_put 101 = .ok (.getfield 334, 3) := by decide +kernel
theorem d_Model_put_104 : decode b_Model_put 104 = .ok (.iconst 1, 1) := by decide +kernel
theorem d_Model_put_105 : decode b_Model_put 105 = .ok (.iadd, 1) := by decide +kernel
theorem d_Model_put_106 : decode b_Model_put 106 = .ok (.putfield 334, 3) := by decide +kernel
theorem d_Model_put_109 : decode b_Model_put 109 = .ok (.return_, 1) := by decide +kernel
theorem d_Model_put_110 : decode b_Model_put 110 = .ok (.aload_n 0, 1) := by decide +kernel
theorem d_Model_put_111 : decode b_Model_put 111 = .ok (.getfield 313, 3) := by decide +kernel
theorem d_Model_put_114 : decode b_Model_put 114 = .ok (.ifCond .le 10, 3) := by decide +kernel
theorem d_Model_put_117 : decode b_Model_put 117 = .ok (.aload_n 0, 1) := by decide +kernel
theorem d_Model_put_118 : decode b_Model_put 118 = .ok (.invokevirtual 328, 3) := by decide +kernel
theorem d_Model_put_121 : decode b_Model_put 121 = .ok (.goto (-11), 3) := by decide +kernel
theorem d_Model_put_124 : decode b_Model_put 124 = .ok (.aload_n 0, 1) := by decide +kernel
theorem d_Model_put_125 : decode b_Model_put 125 = .ok (.dup, 1) := by decide +kernel
theorem d_Model_put_126 : decode b_Model_put 126 = .ok (.getfield 337, 3) := by decide +kernel
theorem d_Model_put_129 : decode b_Model_put 129 = .ok (.iconst 1, 1) := by decide +kernel
theorem d_Model_put_130 : decode b_Model_put 130 = .ok (.iadd, 1) := by decide +kernel
theorem d_Model_put_131 : decode b_Model_put 131 = .ok (.putfield 337, 3) := by decide +kernel
theorem d_Model_put_134 : decode b_Model_put 134 = .ok (.iconst 0, 1) := by decide +kernel
theorem d_Model_put_135 : decode b_Model_put 135 = .ok (.istore_n 2, 1) := by decide +kernel
theorem d_Model_put_136 : decode b_Model_put 136 = .ok (.iload_n 2, 1) := by decide +kernel
theorem d_Model_put_137 : decode b_Model_put 137 = .ok (.aload_n 0, 1) := by decide +kernel
theorem d_Model_put_138 : decode b_Model_put 138 = .ok (.getfield 319, 3) := by decide +kernel
theorem d_Model_put_141 : decode b_Model_put 141 = .ok (.if_icmp .ge 39, 3) := by decide +kernel
theorem d_Model_put_144 : decode b_Model_put 144 = .ok (.aload_n 0, 1) := by decide +kernel
theorem d_Model_put_145 : decode b_Model_put 145 = .ok (.getfield 43, 3) := by decide +kernel
theorem d_Model_put_148 : decode b_Model_put 148 = .ok (.aload_n 0, 1) := by decide +kernel
theorem d_Model_put_149 : decode b_Model_put 149 = .ok (.getfield 88, 3) := by decide +kernel
theorem d_Model_put_152 : decode b_Model_put 152 = .ok (.iload_n 2, 1) := by decide +kernel
theorem d_Model_put_153 : decode b_Model_put 153 = .ok (.iaload, 1) := by decide +kernel
theorem d_Model_put_154 : decode b_Model_put 154 = .ok (.dup2, 1) := by decide +kernel
theorem d_Model_put_155 : decode b_Model_put 155 = .ok (.iaload, 1) := by decide +kernel
theorem d_Model_put_156 : decode b_Model_put 156 = .ok (.iconst 1, 1) := by decide +kernel
theorem d_Model_put_157 : decode b_Model_put 157 = .ok (.iadd, 1) := by decide +kernel
theorem d_Model_put_158 : decode b_Model_put 158 = .ok (.iastore, 1) := by decide +kernel
theorem d_Model_put_159 : decode b_Model_put 159 = .ok (.aload_n 0, 1) := by decide +kernel
theorem d_Model_put_160 : decode b_Model_put 160 = .ok (.getfield 46, 3) := by decide +kernel
theorem d_Model_put_163 : decode b_Model_put 163 = .ok (.aload_n 0, 1) := by decide +kernel
theorem d_Model_put_164 : decode b_Model_put 164 = .ok (.getfield 91, 3) := by decide +kernel
theorem d_Model_put_167 : decode b_Model_put 167 = .ok (.iload_n 2, 1) := by decide +kernel
theorem d_Model_put_168 : decode b_Model_put 168 = .ok (.iaload, 1) := by decide +kernel
theorem d_Model_put_169 : decode b_Model_put 169 = .ok (.dup2, 1) := by decide +kernel
theorem d_Model_put_170 : decode b_Model_put 170 = .ok (.iaload, 1) := by decide +kernel
theorem d_Model_put_171 : decode b_Model_put 171 = .ok (.iconst 1, 1) := by decide +kernel
theorem d_Model_put_172 : decode b_Model_put 172 = .ok (.iadd, 1) := by decide +kernel
theorem d_Model_put_173 : decode b_Model_put 173 = .ok (.iastore, 1) := by decide +kernel
theorem d_Model_put_174 : decode b_Model_put 174 = .ok (.iinc 2 1, 3) := by decide +kernel
theorem d_Model_put_177 : decode b_Model_put 177 = .ok (.goto (-41), 3) := by decide +kernel
theorem d_Model_put_180 : decode b_Model_put 180 = .ok (.return_, 1) := by decide +kernel
theorem d_Model_around_0 : decode b_Model_around 0 = .ok (.aload_n 0, 1) := by decide +kernel
theorem d_Model_around_1 : decode b_Model_around 1 = .ok (.iconst 0, 1) := by decide +kernel
theorem d_Model_around_2 : decode b_Model_around 2 = .ok (.putfield 337, 3) := by decide +kernel
theorem d_Model_around_5 : decode b_Model_around 5 = .ok (.aload_n 0, 1) := by decide +kernel
theorem d_Model_around_6 : decode b_Model_around 6 = .ok (.iconst 0, 1) := by decide +kernel
theorem d_Model_around_7 : decode b_Model_around 7 = .ok (.putfield 334, 3) := by decide +kernel
theorem d_Model_around_10 : decode b_Model_around 10 = .ok (.aload_n 0, 1) := by decide +kernel
theorem d_Model_around_11 : decode b_Model_around 11 = .ok (.invokevirtual 340, 3) := by decide +kernel
theorem d_Model_around_14 : decode b_Model_around 14 = .ok (.iconst 0, 1) := by decide +kernel
theorem d_Model_around_15 : decode b_Model_around 15 = .ok (.istore_n 1, 1) := by decide +kernel
theorem d_Model_around_16 : decode b_Model_around 16 = .ok (.iload_n 1, 1) := by decide +kernel
theorem d_Model_around_17 : decode b_Model_around 17 = .ok (.aload_n 0, 1) := by decide +kernel
theorem d_Model_around_18 : decode b_Model_around 18 = .ok (.getfield 188, 3) := by decide +kernel
theorem d_Model_around_21 : decode b_Model_around 21 = .ok (.if_icmp .ge 42, 3) := by decide +kernel
theorem d_Model_around_24 : decode b_Model_around 24 = .ok (.aload_n 0, 1) := by decide +kernel
theorem d_Model_around_25 : decode b_Model_around 25 = .ok (.getfield 52, 3) := by decide +kernel
theorem d_Model_around_28 : decode b_Model_around 28 = .ok (.iload_n 1, 1) := by decide +kernel
theorem d_Model_around_29 : decode b_Model_around 29 = .ok (.baload, 1) := by decide +kernel
theorem d_Model_around_30 : decode b_Model_around 30 = .ok (.ifCond .ne 27, 3) := by decide +kernel
theorem d_Model_around_33 : decode b_Model_around 33 = .ok (.aload_n 0, 1) := by decide +kernel
theorem d_Model_around_34 : decode b_Model_around 34 = .ok (.iload_n 1, 1) := by decide +kernel
theorem d_Model_around_35 : decode b_Model_around 35 = .ok (.invokevirtual 298, 3) := by decide +kernel
theorem d_Model_around_38 : decode b_Model_around 38 = .ok (.ifCond .le 19, 3) := by decide +kernel
theorem d_Model_around_41 : decode b_Model_around 41 = .ok (.aload_n 0, 1) := by decide +kernel
theorem d_Model_around_42 : decode b_Model_around 42 = .ok (.iload_n 1, 1) := by decide +kernel
theorem d_Model_around_43 : decode b_Model_around 43 = .ok (.invokevirtual 343, 3) := by decide +kernel
theorem d_Model_around_46 : decode b_Model_around 46 = .ok (.aload_n 0, 1) := by decide +kernel
theorem d_Model_around_47 : decode b_Model_around 47 = .ok (.invokevirtual 346, 3) := by decide +kernel
theorem d_Model_around_50 : decode b_Model_around 50 = .ok (.ifCond .eq 7, 3) := by decide +kernel
theorem d_Model_around_53 : decode b_Model_around 53 = .ok (.aload_n 0, 1) := by decide +kernel
theorem d_Model_around_54 : decode b_Model_around 54 = .ok (.invokevirtual 350, 3) := by decide +kernel
theorem d_Model_around_57 : decode b_Model_around 57 = .ok (.iinc 1 1, 3) := by decide +kernel
theorem d_Model_around_60 : decode b_Model_around 60 = .ok (.goto (-44), 3) := by decide +kernel
theorem d_Model_around_63 : decode b_Model_around 63 = .ok (.return_, 1) := by decide +kernel
theorem d_Model_add_0 : decode b_Model_add 0 = .ok (.aload_n 0, 1) := by decide +kernel
theorem d_Model_add_1 : decode b_Model_add 1 = .ok (.getfield 55, 3) := by decide +kernel
theorem d_Model_add_4 : decode b_Model_add 4 = .ok (.aload_n 0, 1) := by decide +kernel
theorem d_Model_add_5 : decode b_Model_add 5 = .ok (.getfield 353, 3) := by decide +kernel
theorem d_Model_add_8 : decode b_Model_add 8 = .ok (.iload_n 1, 1) := by decide +kernel
theorem d_Model_add_9 : decode b_Model_add 9 = .ok (.iastore, 1) := by decide +kernel
theorem d_Model_add_10 : decode b_Model_add 10 = .ok (.aload_n 0, 1) := by decide +kernel
theorem d_Model_add_11 : decode b_Model_add 11 = .ok (.getfield 58, 3) := by decide +kernel
theorem d_Model_add_14 : decode b_Model_add 14 = .ok (.aload_n 0, 1) := by decide +kernel
theorem d_Model_add_15 : decode b_Model_add 15 = .ok (.getfield 353, 3) := by decide +kernel
theorem d_Model_add_18 : decode b_Model_add 18 = .ok (.lload_n 2, 1) := by decide +kernel
theorem d_Model_add_19 : decode b_Model_add 19 = .ok (.lastore, 1) := by decide +kernel
theorem d_Model_add_20 : decode b_Model_add 20 = .ok (.aload_n 0, 1) := by decide +kernel
theorem d_Model_add_21 : decode b_Model_add 21 = .ok (.dup, 1) := by decide +kernel
theorem d_Model_add_22 : decode b_Model_add 22 = .ok (.getfield 353, 3) := by decide +kernel
theorem d_Model_add_25 : decode b_Model_add 25 = .ok (.iconst 1, 1) := by decide +kernel
theorem d_Model_add_26 : decode b_Model_add 26 = .ok (.iadd, 1) := by decide +kernel
theorem d_Model_add_27 : decode b_Model_add 27 = .ok (.putfield 353, 3) := by decide +kernel
theorem d_Model_add_30 : decode b_Model_add 30 = .ok (.return_, 1) := by decide +kernel
theorem d_Model_read_0 : decode b_Model_read 0 = .ok (.aload_n 0, 1) := by decide +kernel
theorem d_Model_read_1 : decode b_Model_read 1 = .ok (.iconst 0, 1) := by decide +kernel
theorem d_Model_read_2 : decode b_Model_read 2 = .ok (.putfield 97, 3) := by decide +kernel
theorem d_Model_read_5 : decode b_Model_read 5 = .ok (.aload_n 0, 1) := by decide +kernel
theorem d_Model_read_6 : decode b_Model_read 6 = .ok (.iconst 0, 1) := by decide +kernel
theorem d_Model_read_7 : decode b_Model_read 7 = .ok (.putfield 123, 3) := by decide +kernel
theorem d_Model_read_10 : decode b_Model_read 10 = .ok (.aload_n 0, 1) := by decide +kernel
theorem d_Model_read_11 : decode b_Model_read 11 = .ok (.iconst (-1), 1) := by decide +kernel
theorem d_Model_read_12 : decode b_Model_read 12 = .ok (.putfield 13, 3) := by decide +kernel
theorem d_Model_read_15 : decode b_Model_read 15 = .ok (.aload_n 0, 1) := by decide +kernel
theorem d_Model_read_16 : decode b_Model_read 16 = .ok (.iconst 0, 1) := by decide +kernel
theorem d_Model_read_17 : decode b_Model_read 17 = .ok (.putfield 353, 3) := by decide +kernel
theorem d_Model_read_20 : decode b_Model_read 20 = .ok (.aload_n 0, 1) := by decide +kernel
theorem d_Model_read_21 : decode b_Model_read 21 = .ok (.invokevirtual 356, 3) := by decide +kernel
theorem d_Model_read_24 : decode b_Model_read 24 = .ok (.aload_n 0, 1) := by decide +kernel
