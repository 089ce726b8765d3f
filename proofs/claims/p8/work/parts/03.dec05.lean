theorem d_Model_comes_41 : decode b_Model_comes 41 = .ok (.ifCond .eq 114, 3) := by decide +kernel
theorem d_Model_comes_44 : decode b_Model_comes 44 = .ok (.aload_n 0, 1) := by decide +kernel
theorem d_Model_comes_45 : decode b_Model_comes 45 = .ok (.getfield 313, 3) := by decide +kernel
theorem d_Model_comes_48 : decode b_Model_comes 48 = .ok (.ifCond .le 107, 3) := by decide +kernel
theorem d_Model_comes_51 : decode b_Model_comes 51 = .ok (.aload_n 0, 1) := by decide +kernel
theorem d_Model_comes_52 : decode b_Model_comes 52 = .ok (.getfield 85, 3) := by decide +kernel
theorem d_Model_comes_55 : decode b_Model_comes 55 = .ok (.aload_n 0, 1) := by decide +kernel
theorem d_Model_comes_56 : decode b_Model_comes 56 = .ok (.getfield 313, 3) := by decide +kernel
theorem d_Model_comes_59 : decode b_Model_comes 59 = .ok (.iconst 1, 1) := by decide +kernel
theorem d_Model_comes_60 : decode b_Model_comes 60 = .ok (.isub, 1) := by decide +kernel
theorem d_Model_comes_61 : decode b_Model_comes 61 = .ok (.iaload, 1) := by decide +kernel
theorem d_Model_comes_62 : decode b_Model_comes 62 = .ok (.istore_n 3, 1) := by decide +kernel
theorem d_Model_comes_63 : decode b_Model_comes 63 = .ok (.aload_n 0, 1) := by decide +kernel
theorem d_Model_comes_64 : decode b_Model_comes 64 = .ok (.iload_n 3, 1) := by decide +kernel
theorem d_Model_comes_65 : decode b_Model_comes 65 = .ok (.invokevirtual 322, 3) := by decide +kernel
theorem d_Model_comes_68 : decode b_Model_comes 68 = .ok (.aload_n 0, 1) := by decide +kernel
theorem d_Model_comes_69 : decode b_Model_comes 69 = .ok (.iload_n 1, 1) := by decide +kernel
theorem d_Model_comes_70 : decode b_Model_comes 70 = .ok (.invokevirtual 322, 3) := by decide +kernel
theorem d_Model_comes_73 : decode b_Model_comes 73 = .ok (.if_icmp .ne 7, 3) := by decide +kernel
theorem d_Model_comes_76 : decode b_Model_comes 76 = .ok (.iconst 1, 1) := by decide +kernel
theorem d_Model_comes_77 : decode b_Model_comes 77 = .ok (.goto 4, 3) := by decide +kernel
theorem d_Model_comes_80 : decode b_Model_comes 80 = .ok (.iconst 0, 1) := by decide +kernel
theorem d_Model_comes_81 : decode b_Model_comes 81 = .ok (.istore 4, 2) := by decide +kernel
theorem d_Model_comes_83 : decode b_Model_comes 83 = .ok (.iload 4, 2) := by decide +kernel
theorem d_Model_comes_85 : decode b_Model_comes 85 = .ok (.ifCond .eq 27, 3) := by decide +kernel
theorem d_Model_comes_88 : decode b_Model_comes 88 = .ok (.aload_n 0, 1) := by decide +kernel
theorem d_Model_comes_89 : decode b_Model_comes 89 = .ok (.iload_n 3, 1) := by decide +kernel
theorem d_Model_comes_90 : decode b_Model_comes 90 = .ok (.invokevirtual 325, 3) := by decide +kernel
theorem d_Model_comes_93 : decode b_Model_comes 93 = .ok (.aload_n 0, 1) := by decide +kernel
theorem d_Model_comes_94 : decode b_Model_comes 94 = .ok (.iload_n 1, 1) := by decide +kernel
theorem d_Model_comes_95 : decode b_Model_comes 95 = .ok (.invokevirtual 325, 3) := by decide +kernel
theorem d_Model_comes_98 : decode b_Model_comes 98 = .ok (.if_icmp .ne 12, 3) := by decide +kernel
theorem d_Model_comes_101 : decode b_Model_comes 101 = .ok (.aload_n 0, 1) := by decide +kernel
theorem d_Model_comes_102 : decode b_Model_comes 102 = .ok (.iload_n 3, 1) := by decide +kernel
theorem d_Model_comes_103 : decode b_Model_comes 103 = .ok (.invokevirtual 325, 3) := by decide +kernel
theorem d_Model_comes_106 : decode b_Model_comes 106 = .ok (.iconst 2, 1) := by decide +kernel
theorem d_Model_comes_107 : decode b_Model_comes 107 = .ok (.if_icmp .ne 5, 3) := by decide +kernel
theorem d_Model_comes_110 : decode b_Model_comes 110 = .ok (.iconst 0, 1) := by decide +kernel
theorem d_Model_comes_111 : decode b_Model_comes 111 = .ok (.ireturn, 1) := by decide +kernel
theorem d_Model_comes_112 : decode b_Model_comes 112 = .ok (.aload_n 0, 1) := by decide +kernel
theorem d_Model_comes_113 : decode b_Model_comes 113 = .ok (.iload_n 3, 1) := by decide +kernel
theorem d_Model_comes_114 : decode b_Model_comes 114 = .ok (.invokevirtual 322, 3) := by decide +kernel
theorem d_Model_comes_117 : decode b_Model_comes 117 = .ok (.aload_n 0, 1) := by decide +kernel
theorem d_Model_comes_118 : decode b_Model_comes 118 = .ok (.iload_n 1, 1) := by decide +kernel
theorem d_Model_comes_119 : decode b_Model_comes 119 = .ok (.invokevirtual 322, 3) := by decide +kernel
theorem d_Model_comes_122 : decode b_Model_comes 122 = .ok (.if_icmp .gt 16, 3) := by decide +kernel
theorem d_Model_comes_125 : decode b_Model_comes 125 = .ok (.iload 4, 2) := by decide +kernel
theorem d_Model_comes_127 : decode b_Model_comes 127 = .ok (.ifCond .eq 15, 3) := by decide +kernel
theorem d_Model_comes_130 : decode b_Model_comes 130 = .ok (.aload_n 0, 1) := by decide +kernel
theorem d_Model_comes_131 : decode b_Model_comes 131 = .ok (.iload_n 3, 1) := by decide +kernel
theorem d_Model_comes_132 : decode b_Model_comes 132 = .ok (.invokevirtual 325, 3) := by decide +kernel
theorem d_Model_comes_135 : decode b_Model_comes 135 = .ok (.ifCond .ne 7, 3) := by decide +kernel
theorem d_Model_comes_138 : decode b_Model_comes 138 = .ok (.iconst 1, 1) := by decide +kernel
theorem d_Model_comes_139 : decode b_Model_comes 139 = .ok (.goto 4, 3) := by decide +kernel
theorem d_Model_comes_142 : decode b_Model_comes 142 = .ok (.iconst 0, 1) := by decide +kernel
theorem d_Model_comes_143 : decode b_Model_comes 143 = .ok (.istore_n 2, 1) := by decide +kernel
theorem d_Model_comes_144 : decode b_Model_comes 144 = .ok (.iload_n 2, 1) := by decide +kernel
theorem d_Model_comes_145 : decode b_Model_comes 145 = .ok (.ifCond .eq 7, 3) := by decide +kernel
theorem d_Model_comes_148 : decode b_Model_comes 148 = .ok (.aload_n 0, 1) := by decide +kernel
theorem d_Model_comes_149 : decode b_Model_comes 149 = .ok (.invokevirtual 328, 3) := by decide +kernel
theorem d_Model_comes_152 : decode b_Model_comes 152 = .ok (.goto (-112), 3) := by decide +kernel
theorem d_Model_comes_155 : decode b_Model_comes 155 = .ok (.aload_n 0, 1) := by decide +kernel
theorem d_Model_comes_156 : decode b_Model_comes 156 = .ok (.getfield 85, 3) := by decide +kernel
theorem d_Model_comes_159 : decode b_Model_comes 159 = .ok (.aload_n 0, 1) := by decide +kernel
theorem d_Model_comes_160 : decode b_Model_comes 160 = .ok (.getfield 313, 3) := by decide +kernel
theorem d_Model_comes_163 : decode b_Model_comes 163 = .ok (.iload_n 1, 1) := by decide +kernel
theorem d_Model_comes_164 : decode b_Model_comes 164 = .ok (.iastore, 1) := by decide +kernel
theorem d_Model_comes_165 : decode b_Model_comes 165 = .ok (.aload_n 0, 1) := by decide +kernel
theorem d_Model_comes_166 : decode b_Model_comes 166 = .ok (.dup, 1) := by decide +kernel
theorem d_Model_comes_167 : decode b_Model_comes 167 = .ok (.getfield 313, 3) := by decide +kernel
theorem d_Model_comes_170 : decode b_Model_comes 170 = .ok (.iconst 1, 1) := by decide +kernel
theorem d_Model_comes_171 : decode b_Model_comes 171 = .ok (.iadd, 1) := by decide +kernel
theorem d_Model_comes_172 : decode b_Model_comes 172 = .ok (.putfield 313, 3) := by decide +kernel
theorem d_Model_comes_175 : decode b_Model_comes 175 = .ok (.iconst 1, 1) := by decide +kernel
theorem d_Model_comes_176 : decode b_Model_comes 176 = .ok (.ireturn, 1) := by decide +kernel
theorem d_Model_put_0 : decode b_Model_put 0 = .ok (.aload_n 0, 1) := by decide +kernel
theorem d_Model_put_1 : decode b_Model_put 1 = .ok (.iconst 0, 1) := by decide +kernel
theorem d_Model_put_2 : decode b_Model_put 2 = .ok (.putfield 316, 3) := by decide +kernel
theorem d_Model_put_5 : decode b_Model_put 5 = .ok (.aload_n 0, 1) := by decide +kernel
theorem d_Model_put_6 : decode b_Model_put 6 = .ok (.iconst 0, 1) := by decide +kernel
theorem d_Model_put_7 : decode b_Model_put 7 = .ok (.putfield 313, 3) := by decide +kernel
theorem d_Model_put_10 : decode b_Model_put 10 = .ok (.aload_n 0, 1) := by decide +kernel
theorem d_Model_put_11 : decode b_Model_put 11 = .ok (.iconst 0, 1) := by decide +kernel
theorem d_Model_put_12 : decode b_Model_put 12 = .ok (.putfield 319, 3) := by decide +kernel
theorem d_Model_put_15 : decode b_Model_put 15 = .ok (.iconst 1, 1) := by decide +kernel
theorem d_Model_put_16 : decode b_Model_put 16 = .ok (.istore_n 1, 1) := by decide +kernel
theorem d_Model_put_17 : decode b_Model_put 17 = .ok (.iconst 0, 1) := by decide +kernel
theorem d_Model_put_18 : decode b_Model_put 18 = .ok (.istore_n 2, 1) := by decide +kernel
theorem d_Model_put_19 : decode b_Model_put 19 = .ok (.iload_n 2, 1) := by decide +kernel
theorem d_Model_put_20 : decode b_Model_put 20 = .ok (.aload_n 0, 1) := by decide +kernel
theorem d_Model_put_21 : decode b_Model_put 21 = .ok (.getfield 295, 3) := by decide +kernel
theorem d_Model_put_24 : decode b_Model_put 24 = .ok (.if_icmp .ge 71, 3) := by decide +kernel
theorem d_Model_put_27 : decode b_Model_put 27 = .ok (.iload_n 1, 1) := by decide +kernel
theorem d_Model_put_28 : decode b_Model_put 28 = .ok (.ifCond .eq 67, 3) := by decide +kernel
theorem d_Model_put_31 : decode b_Model_put 31 = .ok (.aload_n 0, 1) := by decide +kernel
theorem d_Model_put_32 : decode b_Model_put 32 = .ok (.getfield 76, 3) := by decide +kernel
theorem d_Model_put_35 : decode b_Model_put 35 = .ok (.iload_n 2, 1) := by decide +kernel
theorem d_Model_put_36 : decode b_Model_put 36 = .ok (.iaload, 1) := by decide +kernel
theorem d_Model_put_37 : decode b_Model_put 37 = .ok (.ifCond .ne 46, 3) := by decide +kernel
theorem d_Model_put_40 : decode b_Model_put 40 = .ok (.aload_n 0, 1) := by decide +kernel
theorem d_Model_put_41 : decode b_Model_put 41 = .ok (.getfield 79, 3) := by decide +kernel
theorem d_Model_put_44 : decode b_Model_put 44 = .ok (.aload_n 0, 1) := by decide +kernel
theorem d_Model_put_45 : decode b_Model_put 45 = .ok (.getfield 316, 3) := by decide +kernel
theorem d_Model_put_48 : decode b_Model_put 48 = .ok (.aload_n 0, 1) := by decide +kernel
theorem d_Model_put_49 : decode b_Model_put 49 = .ok (.getfield 70, 3) := by decide +kernel
theorem d_Model_put_52 : decode b_Model_put 52 = .ok (.iload_n 2, 1) := by decide +kernel
theorem d_Model_put_53 : decode b_Model_put 53 = .ok (.iaload, 1) := by decide +kernel
theorem d_Model_put_54 : decode b_Model_put 54 = .ok (.iastore, 1) := by decide +kernel
theorem d_Model_put_55 : decode b_Model_put 55 = .ok (.aload_n 0, 1) := by decide +kernel
theorem d_Model_put_56 : decode b_Model_put 56 = .ok (.getfield 82, 3) := by decide +kernel
theorem d_Model_put_59 : decode b_Model_put 59 = .ok (.aload_n 0, 1) := by decide +kernel
theorem d_Model_put_60 : decode b_Model_put 60 = .ok (.getfield 316, 3) := by decide +kernel
theorem d_Model_put_63 : decode b_Model_put 63 = .ok (.aload_n 0, 1) := by decide +kernel
theorem d_Model_put_64 : decode b_Model_put 64 = .ok (.getfield 73, 3) := by decide +kernel
theorem d_Model_put_67 : decode b_Model_put 67 = .ok (.iload_n 2, 1) := by decide +kernel
theorem d_Model_put_68 : decode b_Model_put 68 = .ok (.iaload, 1) := by decide +kernel
theorem d_Model_put_69 : decode b_Model_put 69 = .ok (.iastore, 1) := by decide +kernel
theorem d_Model_put_70 : decode b_Model_put 70 = .ok (.aload_n 0, 1) := by decide +kernel
theorem d_Model_put_71 : decode b_Model_put 71 = .ok (.dup, 1) := by decide +kernel
theorem d_Model_put_72 : decode b_Model_put 72 = .ok (.getfield 316, 3) := by decide +kernel
theorem d_Model_put_75 : decode b_Model_put 75 = .ok (.iconst 1, 1) := by decide +kernel
theorem d_Model_put_76 : decode b_Model_put 76 = .ok (.iadd, 1) := by decide +kernel
theorem d_Model_put_77 : decode b_Model_put 77 = .ok (.putfield 316, 3) := by decide +kernel
theorem d_Model_put_80 : decode b_Model_put 80 = .ok (.goto 9, 3) := by decide +kernel
theorem d_Model_put_83 : decode b_Model_put 83 = .ok (.aload_n 0, 1) := by decide +kernel
theorem d_Model_put_84 : decode b_Model_put 84 = .ok (.iload_n 2, 1) := by decide +kernel
theorem d_Model_put_85 : decode b_Model_put 85 = .ok (.invokevirtual 331, 3) := by decide +kernel
theorem d_Model_put_88 : decode b_Model_put 88 = .ok (.istore_n 1, 1) := by decide +kernel
theorem d_Model_put_89 : decode b_Model_put 89 = .ok (.iinc 2 1, 3) := by decide +kernel
theorem d_Model_put_92 : decode b_Model_put 92 = .ok (.goto (-73), 3) := by decide +kernel
theorem d_Model_put_95 : decode b_Model_put 95 = .ok (.iload_n 1, 1) := by decide +kernel
theorem d_Model_put_96 : decode b_Model_put 96 = .ok (.ifCond .ne 14, 3) := by decide +kernel
theorem d_Model_put_99 : decode b_Model_put 99 = .ok (.aload_n 0, 1) := by decide +kernel
theorem d_Model_put_100 : decode b_Model_put 100 = .ok (.dup, 1) := by decide +kernel
theorem d_Model_put_101 : decode b_Model_put 101 = .ok (.getfield 334, 3) := by decide +kernel
theorem d_Model_put_104 : decode b_Model_put 104 = .ok (.iconst 1, 1) := by decide +kernel
theorem d_Model_put_105 : decode b_Model_put 105 = .ok (.iadd, 1) := by decide +kernel
theorem d_Model_put_106 : decode b_Model_put 106 = .ok (.putfield 334, 3) := by decide +kernel
theorem d_Model_put_109 : decode b_Model_put 109 = .ok (.return_, 1) := by decide +kernel
theorem d_Model_put_110 : decode b_Model_put 110 = .ok (.aload_n 0, 1) := by decide +kernel
theorem d_Model_put_111 : decode b_Model_put 111 = .ok (.getfield 313, 3) := by decide +kernel
theorem d_Model_put_114 : decode b_Model_put 114 = .ok (.ifCond .le 10, 3) := by decide +kernel
theorem d_Model_put_117 : decode b_Model_put 117 = .ok (.aload_n 0, 1) := by decide +kernel
theorem d_Model_put_118 : decode b_Model_put 118 = .ok (.invokevirtual 328, 3) := by decide +kernel
theorem d_Model_put_121 : decode b_Model_put 121 = .ok (.goto (-11), 3) := by decide +kernel
theorem d_Model_put_124 : decode b_Model_put 124 = .ok (.aload_n 0, 1) := by decide +kernel
theorem d_Model_put_125 : decode b_Model_put 125 = .ok (.dup, 1) := by decide +kernel
theorem d_Model_put_126 : decode b_Model_put 126 = .ok (.getfield 337, 3) := by decide +kernel
theorem d_Model_put_129 : decode b_Model_put 129 = .ok (.iconst 1, 1) := by decide +kernel
theorem d_Model_put_130 : decode b_Model_put 130 = .ok (.iadd, 1) := by decide +kernel
theorem d_Model_put_131 : decode b_Model_put 131 = .ok (.putfield 337, 3) := by decide +kernel
theorem d_Model_put_134 : decode b_Model_put 134 = .ok (.iconst 0, 1) := by decide +kernel
theorem d_Model_put_135 : decode b_Model_put 135 = .ok (.istore_n 2, 1) := by decide +kernel
theorem d_Model_put_136 : decode b_Model_put 136 = .ok (.iload_n 2, 1) := by decide +kernel
theorem d_Model_put_137 : decode b_Model_put 137 = .ok (.aload_n 0, 1) := by decide +kernel
theorem d_Model_put_138 : decode b_Model_put 138 = .ok (.getfield 319, 3) := by decide +kernel
theorem d_Model_put_141 : decode b_Model_put 141 = .ok (.if_icmp .ge 39, 3) := by decide +kernel
theorem d_Model_put_144 : decode b_Model_put 144 = .ok (.aload_n 0, 1) := by decide +kernel
theorem d_Model_put_145 : decode b_Model_put 145 = .ok (.getfield 43, 3) := by decide +kernel
theorem d_Model_put_148 : decode b_Model_put 148 = .ok (.aload_n 0, 1) := by decide +kernel
theorem d_Model_put_149 : decode b_Model_put 149 = .ok (.getfield 88, 3) := by decide +kernel
theorem d_Model_put_152 : decode b_Model_put 152 = .ok (.iload_n 2, 1) := by decide +kernel
theorem d_Model_put_153 : decode b_Model_put 153 = .ok (.iaload, 1) := by decide +kernel
theorem d_Model_put_154 : decode b_Model_put 154 = .ok (.dup2, 1) := by decide +kernel
theorem d_Model_put_155 : decode b_Model_put 155 = .ok (.iaload, 1) := by decide +kernel
theorem d_Model_put_156 : decode b_Model_put 156 = .ok (.iconst 1, 1) := by decide +kernel
theorem d_Model_put_157 : decode b_Model_put 157 = .ok (.iadd, 1) := by decide +kernel
theorem d_Model_put_158 : decode b_Model_put 158 = .ok (.iastore, 1) := by decide +kernel
theorem d_Model_put_159 : decode b_Model_put 159 = .ok (.aload_n 0, 1) := by decide +kernel
theorem d_Model_put_160 : decode b_Model_put 160 = .ok (.getfield 46, 3) := by decide +kernel
theorem d_Model_put_163 : decode b_Model_put 163 = .ok (.aload_n 0, 1) := by decide +kernel
theorem d_Model_put_164 : decode b_Model_put 164 = .ok (.getfield 91, 3) := by decide +kernel
theorem d_Model_put_167 : decode b_Model_put 167 = .ok (.iload_n 2, 1) := by decide +kernel
theorem d_Model_put_168 : decode b_Model_put 168 = .ok (.iaload, 1) := by decide +kernel
theorem d_Model_put_169 : decode b_Model_put 169 = .ok (.dup2, 1) := by decide +kernel
theorem d_Model_put_170 : decode b_Model_put 170 = .ok (.iaload, 1) := by decide +kernel
theorem d_Model_put_171 : decode b_Model_put 171 = .ok (.iconst 1, 1) := by decide +kernel
theorem d_Model_put_172 : decode b_Model_put 172 = .ok (.iadd, 1) := by decide +kernel
theorem d_Model_put_173 : decode b_Model_put 173 = .ok (.iastore, 1) := by decide +kernel
theorem d_Model_put_174 : decode b_Model_put 174 = .ok (.iinc 2 1, 3) := by decide +kernel
theorem d_Model_put_177 : decode b_Model_put 177 = .ok (.goto (-41), 3) := by decide +kernel
theorem d_Model_put_180 : decode b_Model_put 180 = .ok (.return_, 1) := by decide +kernel
theorem d_Model_around_0 : decode b_Model_around 0 = .ok (.aload_n 0, 1) := by decide +kernel
theorem d_Model_around_1 : decode b_Model_around 1 = .ok (.iconst 0, 1) := by decide +kernel
theorem d_Model_around_2 : decode b_Model_around 2 = .ok (.putfield 337, 3) := by decide +kernel
theorem d_Model_around_5 : decode b_Model_around 5 = .ok (.aload_n 0, 1) := by decide +kernel
theorem d_Model_around_6 : decode b_Model_around 6 = .ok (.iconst 0, 1) := by decide +kernel
theorem d_Model_around_7 : decode b_Model_around 7 = .ok (.putfield 334, 3) := by decide +kernel
theorem d_Model_around_10 : decode b_Model_around 10 = .ok (.aload_n 0, 1) := by decide +kernel
theorem d_Model_around_11 : decode b_Model_around 11 = .ok (.invokevirtual 340, 3) := by decide +kernel
theorem d_Model_around_14 : decode b_Model_around 14 = .ok (.iconst 0, 1) := by decide +kernel
theorem d_Model_around_15 : decode b_Model_around 15 = .ok (.istore_n 1, 1) := by decide +kernel
theorem d_Model_around_16 : decode b_Model_around 16 = .ok (.iload_n 1, 1) := by decide +kernel
theorem d_Model_around_17 : decode b_Model_around 17 = .ok (.aload_n 0, 1) := by decide +kernel
theorem d_Model_around_18 : decode b_Model_around 18 = .ok (.getfield 188, 3) := by decide +kernel
theorem d_Model_around_21 : decode b_Model_around 21 = .ok (.if_icmp .ge 42, 3) := by decide +kernel
theorem d_Model_around_24 : decode b_Model_around 24 = .ok (.aload_n 0, 1) := by decide +kernel
theorem d_Model_around_25 : decode b_Model_around 25 = .ok (.getfield 52, 3) := by decide +kernel
theorem d_Model_around_28 : decode b_Model_around 28 = .ok (.iload_n 1, 1) := by decide +kernel
theorem d_Model_around_29 : decode b_Model_around 29 = .ok (.baload, 1) := by decide +kernel
theorem d_Model_around_30 : decode b_Model_around 30 = .ok (.ifCond .ne 27, 3) := by decide +kernel
theorem d_Model_around_33 : decode b_Model_around 33 = .ok (.aload_n 0, 1) := by decide +kernel
theorem d_Model_around_34 : decode b_Model_around 34 = .ok (.iload_n 1, 1) := by decide +kernel
theorem d_Model_around_35 : decode b_Model_around 35 = .ok (.invokevirtual 298, 3) := by decide +kernel
theorem d_Model_around_38 : decode b_Model_around 38 = .ok (.ifCond .le 19, 3) := by decide +kernel
theorem d_Model_around_41 : decode b_Model_around 41 = .ok (.aload_n 0, 1) := by decide +kernel
theorem d_Model_around_42 : decode b_Model_around 42 = .ok (.iload_n 1, 1) := by decide +kernel
theorem d_Model_around_43 : decode b_Model_around 43 = .ok (.invokevirtual 343, 3) := by decide +kernel
theorem d_Model_around_46 : decode b_Model_around 46 = .ok (.aload_n 0, 1) := by decide +kernel
theorem d_Model_around_47 : decode b_Model_around 47 = .ok (.invokevirtual 346, 3) := by decide +kernel
theorem d_Model_around_50 : decode b_Model_around 50 = .ok (.ifCond .eq 7, 3) := by decide +kernel
theorem d_Model_around_53 : decode b_Model_around 53 = .ok (.aload_n 0, 1) := by decide +kernel
theorem d_Model_around_54 : decode b_Model_around 54 = .ok (.invokevirtual 350, 3) := by decide +kernel
theorem d_Model_around_57 : decode b_Model_around 57 = .ok (.iinc 1 1, 3) := by decide +kernel
theorem d_Model_around_60 : decode b_Model_around 60 = .ok (.goto (-44), 3) := by decide +kernel
theorem d_Model_around_63 : decode b_Model_around 63 = .ok (.return_, 1) := by decide +kernel
theorem d_Model_add_0 : decode b_Model_add 0 = .ok (.aload_n 0, 1) := by decide +kernel
theorem d_Model_add_1 : decode b_Model_add 1 = .ok (.getfield 55, 3) := by decide +kernel
theorem d_Model_add_4 : decode b_Model_add 4 = .ok (.aload_n 0, 1) := by decide +kernel
theorem d_Model_add_5 : decode b_Model_add 5 = .ok (.getfield 353, 3) := by decide +kernel
theorem d_Model_add_8 : decode b_Model_add 8 = .ok (.iload_n 1, 1) := by decide +kernel
theorem d_Model_add_9 : decode b_Model_add 9 = .ok (.iastore, 1) := by decide +kernel
theorem d_Model_add_10 : decode b_Model_add 10 = .ok (.aload_n 0, 1) := by decide +kernel
theorem d_Model_add_11 : decode b_Model_add 11 = .ok (.getfield 58, 3) := by decide +kernel
theorem d_Model_add_14 : decode b_Model_add 14 = .ok (.aload_n 0, 1) := by decide +kernel
theorem d_Model_add_15 : decode b_Model_add 15 = .ok (.getfield 353, 3) := by decide +kernel
theorem d_Model_add_18 : decode b_Model_add 18 = .ok (.lload_n 2, 1) := by decide +kernel
theorem d_Model_add_19 : decode b_Model_add 19 = .ok (.lastore, 1) := by decide +kernel
theorem d_Model_add_20 : decode b_Model_add 20 = .ok (.aload_n 0, 1) := by decide +kernel
theorem d_Model_add_21 : decode b_Model_add 21 = .ok (.dup, 1) := by decide +kernel
theorem d_Model_add_22 : decode b_Model_add 22 = .ok (.getfield 353, 3) := by decide +kernel
theorem d_Model_add_25 : decode b_Model_add 25 = .ok (.iconst 1, 1) := by decide +kernel
theorem d_Model_add_26 : decode b_Model_add 26 = .ok (.iadd, 1) := by decide +kernel
theorem d_Model_add_27 : decode b_Model_add 27 = .ok (.putfield 353, 3) := by decide +kernel
theorem d_Model_add_30 : decode b_Model_add 30 = .ok (.return_, 1) := by decide +kernel
theorem d_Model_read_0 : decode b_Model_read 0 = .ok (.aload_n 0, 1) := by decide +kernel
theorem d_Model_read_1 : decode b_Model_read 1 = .ok (.iconst 0, 1) := by decide +kernel
theorem d_Model_read_2 : decode b_Model_read 2 = .ok (.putfield 97, 3) := by decide +kernel
theorem d_Model_read_5 : decode b_Model_read 5 = .ok (.aload_n 0, 1) := by decide +kernel
theorem d_Model_read_6 : decode b_Model_read 6 = .ok (.iconst 0, 1) := by decide +kernel
theorem d_Model_read_7 : decode b_Model_read 7 = .ok (.putfield 123, 3) := by decide +kernel
theorem d_Model_read_10 : decode b_Model_read 10 = .ok (.aload_n 0, 1) := by decide +kernel
theorem d_Model_read_11 : decode b_Model_read 11 = .ok (.iconst (-1), 1) := by decide +kernel
theorem d_Model_read_12 : decode b_Model_read 12 = .ok (.putfield 13, 3) := by decide +kernel
theorem d_Model_read_15 : decode b_Model_read 15 = .ok (.aload_n 0, 1) := by decide +kernel
theorem d_Model_read_16 : decode b_Model_read 16 = .ok (.iconst 0, 1) := by decide +kernel
theorem d_Model_read_17 : decode b_Model_read 17 = .ok (.putfield 353, 3) := by decide +kernel
theorem d_Model_read_20 : decode b_Model_read 20 = .ok (.aload_n 0, 1) := by decide +kernel
theorem d_Model_read_21 : decode b_Model_read 21 = .ok (.invokevirtual 356, 3) := by decide +kernel
theorem d_Model_read_24 : decode b_Model_read 24 = .ok (.aload_n 0, 1) := by decide +kernel
theorem d_Model_read_25 : decode b_Model_read 25 = .ok (.getfield 123, 3) := by decide +kernel
theorem d_Model_read_28 : decode b_Model_read 28 = .ok (.ifCond .ne 7, 3) := by decide +kernel
theorem d_Model_read_31 : decode b_Model_read 31 = .ok (.aload_n 0, 1) := by decide +kernel
theorem d_Model_read_32 : decode b_Model_read 32 = .ok (.invokevirtual 359, 3) := by decide +kernel
theorem d_Model_read_35 : decode b_Model_read 35 = .ok (.aload_n 0, 1) := by decide +kernel
theorem d_Model_read_36 : decode b_Model_read 36 = .ok (.getfield 123, 3) := by decide +kernel
theorem d_Model_read_39 : decode b_Model_read 39 = .ok (.ifCond .le 12, 3) := by decide +kernel
theorem d_Model_read_42 : decode b_Model_read 42 = .ok (.aload_n 0, 1) := by decide +kernel
theorem d_Model_read_43 : decode b_Model_read 43 = .ok (.aload_n 0, 1) := by decide +kernel
theorem d_Model_read_44 : decode b_Model_read 44 = .ok (.getfield 123, 3) := by decide +kernel
theorem d_Model_read_47 : decode b_Model_read 47 = .ok (.invokevirtual 104, 3) := by decide +kernel
theorem d_Model_read_50 : decode b_Model_read 50 = .ok (.ireturn, 1) := by decide +kernel
theorem d_Model_read_51 : decode b_Model_read 51 = .ok (.aload_n 0, 1) := by decide +kernel
theorem d_Model_read_52 : decode b_Model_read 52 = .ok (.invokevirtual 362, 3) := by decide +kernel
theorem d_Model_read_55 : decode b_Model_read 55 = .ok (.iconst 0, 1) := by decide +kernel
theorem d_Model_read_56 : decode b_Model_read 56 = .ok (.istore_n 1, 1) := by decide +kernel
theorem d_Model_read_57 : decode b_Model_read 57 = .ok (.iload_n 1, 1) := by decide +kernel
theorem d_Model_read_58 : decode b_Model_read 58 = .ok (.aload_n 0, 1) := by decide +kernel
theorem d_Model_read_59 : decode b_Model_read 59 = .ok (.getfield 188, 3) := by decide +kernel
theorem d_Model_read_62 : decode b_Model_read 62 = .ok (.if_icmp .ge 77, 3) := by decide +kernel
theorem d_Model_read_65 : decode b_Model_read 65 = .ok (.iconst 0, 1) := by decide +kernel
theorem d_Model_read_66 : decode b_Model_read 66 = .ok (.istore_n 2, 1) := by decide +kernel
theorem d_Model_read_67 : decode b_Model_read 67 = .ok (.iload_n 2, 1) := by decide +kernel
theorem d_Model_read_68 : decode b_Model_read 68 = .ok (.aload_n 0, 1) := by decide +kernel
theorem d_Model_read_69 : decode b_Model_read 69 = .ok (.getfield 43, 3) := by decide +kernel
theorem d_Model_read_72 : decode b_Model_read 72 = .ok (.iload_n 1, 1) := by decide +kernel
theorem d_Model_read_73 : decode b_Model_read 73 = .ok (.iaload, 1) := by decide +kernel
theorem d_Model_read_74 : decode b_Model_read 74 = .ok (.if_icmp .ge 17, 3) := by decide +kernel
theorem d_Model_read_77 : decode b_Model_read 77 = .ok (.aload_n 0, 1) := by decide +kernel
theorem d_Model_read_78 : decode b_Model_read 78 = .ok (.iconst 5, 1) := by decide +kernel
theorem d_Model_read_79 : decode b_Model_read 79 = .ok (.ldc2_w 222, 3) := by decide +kernel
theorem d_Model_read_82 : decode b_Model_read 82 = .ok (.invokevirtual 365, 3) := by decide +kernel
theorem d_Model_read_85 : decode b_Model_read 85 = .ok (.iinc 2 1, 3) := by decide +kernel
theorem d_Model_read_88 : decode b_Model_read 88 = .ok (.goto (-21), 3) := by decide +kernel
theorem d_Model_read_91 : decode b_Model_read 91 = .ok (.aload_n 0, 1) := by decide +kernel
theorem d_Model_read_92 : decode b_Model_read 92 = .ok (.aload_n 0, 1) := by decide +kernel
theorem d_Model_read_93 : decode b_Model_read 93 = .ok (.getfield 37, 3) := by decide +kernel
theorem d_Model_read_96 : decode b_Model_read 96 = .ok (.iload_n 1, 1) := by decide +kernel
theorem d_Model_read_97 : decode b_Model_read 97 = .ok (.iaload, 1) := by decide +kernel
theorem d_Model_read_98 : decode b_Model_read 98 = .ok (.aload_n 0, 1) := by decide +kernel
theorem d_Model_read_99 : decode b_Model_read 99 = .ok (.getfield 40, 3) := by decide +kernel
theorem d_Model_read_102 : decode b_Model_read 102 = .ok (.iload_n 1, 1) := by decide +kernel
theorem d_Model_read_103 : decode b_Model_read 103 = .ok (.laload, 1) := by decide +kernel
theorem d_Model_read_104 : decode b_Model_read 104 = .ok (.invokevirtual 365, 3) := by decide +kernel
theorem d_Model_read_107 : decode b_Model_read 107 = .ok (.iconst 0, 1) := by decide +kernel
theorem d_Model_read_108 : decode b_Model_read 108 = .ok (.istore_n 2, 1) := by decide +kernel
theorem d_Model_read_109 : decode b_Model_read 109 = .ok (.iload_n 2, 1) := by decide +kernel
theorem d_Model_read_110 : decode b_Model_read 110 = .ok (.aload_n 0, 1) := by decide +kernel
theorem d_Model_read_111 : decode b_Model_read 111 = .ok (.getfield 46, 3) := by decide +kernel
theorem d_Model_read_114 : decode b_Model_read 114 = .ok (.iload_n 1, 1) := by decide +kernel
theorem d_Model_read_115 : decode b_Model_read 115 = .ok (.iaload, 1) := by decide +kernel
theorem d_Model_read_116 : decode b_Model_read 116 = .ok (.if_icmp .ge 17, 3) := by decide +kernel
theorem d_Model_read_119 : decode b_Model_read 119 = .ok (.aload_n 0, 1) := by decide +kernel
theorem d_Model_read_120 : decode b_Model_read 120 = .ok (.iconst 5, 1) := by decide +kernel
theorem d_Model_read_121 : decode b_Model_read 121 = .ok (.ldc2_w 226, 3) := by decide +kernel
theorem d_Model_read_124 : decode b_Model_read 124 = .ok (.invokevirtual 365, 3) := by decide +kernel
theorem d_Model_read_127 : decode b_Model_read 127 = .ok (.iinc 2 1, 3) := by decide +kernel
theorem d_Model_read_130 : decode b_Model_read 130 = .ok (.goto (-21), 3) := by decide +kernel
theorem d_Model_read_133 : decode b_Model_read 133 = .ok (.iinc 1 1, 3) := by decide +kernel
theorem d_Model_read_136 : decode b_Model_read 136 = .ok (.goto (-79), 3) := by decide +kernel
theorem d_Model_read_139 : decode b_Model_read 139 = .ok (.aload_n 0, 1) := by decide +kernel
theorem d_Model_read_140 : decode b_Model_read 140 = .ok (.aload_n 0, 1) := by decide +kernel
theorem d_Model_read_141 : decode b_Model_read 141 = .ok (.getfield 144, 3) := by decide +kernel
theorem d_Model_read_144 : decode b_Model_read 144 = .ok (.putfield 368, 3) := by decide +kernel
theorem d_Model_read_147 : decode b_Model_read 147 = .ok (.aload_n 0, 1) := by decide +kernel
theorem d_Model_read_148 : decode b_Model_read 148 = .ok (.aload_n 0, 1) := by decide +kernel
theorem d_Model_read_149 : decode b_Model_read 149 = .ok (.getfield 240, 3) := by decide +kernel
theorem d_Model_read_152 : decode b_Model_read 152 = .ok (.putfield 371, 3) := by decide +kernel
theorem d_Model_read_155 : decode b_Model_read 155 = .ok (.aload_n 0, 1) := by decide +kernel
theorem d_Model_read_156 : decode b_Model_read 156 = .ok (.aload_n 0, 1) := by decide +kernel
theorem d_Model_read_157 : decode b_Model_read 157 = .ok (.getfield 337, 3) := by decide +kernel
theorem d_Model_read_160 : decode b_Model_read 160 = .ok (.putfield 374, 3) := by decide +kernel
theorem d_Model_read_163 : decode b_Model_read 163 = .ok (.aload_n 0, 1) := by decide +kernel
theorem d_Model_read_164 : decode b_Model_read 164 = .ok (.aload_n 0, 1) := by decide +kernel
theorem d_Model_read_165 : decode b_Model_read 165 = .ok (.getfield 334, 3) := by decide +kernel
theorem d_Model_read_168 : decode b_Model_read 168 = .ok (.putfield 377, 3) := by decide +kernel
theorem d_Model_read_171 : decode b_Model_read 171 = .ok (.aload_n 0, 1) := by decide +kernel
theorem d_Model_read_172 : decode b_Model_read 172 = .ok (.aload_n 0, 1) := by decide +kernel
theorem d_Model_read_173 : decode b_Model_read 173 = .ok (.getfield 194, 3) := by decide +kernel
theorem d_Model_read_176 : decode b_Model_read 176 = .ok (.putfield 380, 3) := by decide +kernel
theorem d_Model_read_179 : decode b_Model_read 179 = .ok (.aload_n 0, 1) := by decide +kernel
theorem d_Model_read_180 : decode b_Model_read 180 = .ok (.getfield 353, 3) := by decide +kernel
theorem d_Model_read_183 : decode b_Model_read 183 = .ok (.ireturn, 1) := by decide +kernel
theorem d_Model_place_0 : decode b_Model_place 0 = .ok (.aload_n 0, 1) := by decide +kernel
theorem d_Model_place_1 : decode b_Model_place 1 = .ok (.iconst 0, 1) := by decide +kernel
theorem d_Model_place_2 : decode b_Model_place 2 = .ok (.putfield 97, 3) := by decide +kernel
theorem d_Model_place_5 : decode b_Model_place 5 = .ok (.aload_n 0, 1) := by decide +kernel
theorem d_Model_place_6 : decode b_Model_place 6 = .ok (.getfield 13, 3) := by decide +kernel
theorem d_Model_place_9 : decode b_Model_place 9 = .ok (.ireturn, 1) := by decide +kernel
theorem d_Model_kind_0 : decode b_Model_kind 0 = .ok (.aload_n 0, 1) := by decide +kernel
theorem d_Model_kind_1 : decode b_Model_kind 1 = .ok (.iconst 0, 1) := by decide +kernel
theorem d_Model_kind_2 : decode b_Model_kind 2 = .ok (.putfield 97, 3) := by decide +kernel
theorem d_Model_kind_5 : decode b_Model_kind 5 = .ok (.iload_n 1, 1) := by decide +kernel
theorem d_Model_kind_6 : decode b_Model_kind 6 = .ok (.iconst 0, 1) := by decide +kernel
theorem d_Model_kind_7 : decode b_Model_kind 7 = .ok (.aload_n 0, 1) := by decide +kernel
theorem d_Model_kind_8 : decode b_Model_kind 8 = .ok (.getfield 353, 3) := by decide +kernel
theorem d_Model_kind_11 : decode b_Model_kind 11 = .ok (.iconst 1, 1) := by decide +kernel
theorem d_Model_kind_12 : decode b_Model_kind 12 = .ok (.isub, 1) := by decide +kernel
theorem d_Model_kind_13 : decode b_Model_kind 13 = .ok (.invokestatic 100, 3) := by decide +kernel
theorem d_Model_kind_16 : decode b_Model_kind 16 = .ok (.ifCond .eq 12, 3) := by decide +kernel
theorem d_Model_kind_19 : decode b_Model_kind 19 = .ok (.aload_n 0, 1) := by decide +kernel
theorem d_Model_kind_20 : decode b_Model_kind 20 = .ok (.getfield 55, 3) := by decide +kernel
theorem d_Model_kind_23 : decode b_Model_kind 23 = .ok (.iload_n 1, 1) := by decide +kernel
theorem d_Model_kind_24 : decode b_Model_kind 24 = .ok (.iaload, 1) := by decide +kernel
theorem d_Model_kind_25 : decode b_Model_kind 25 = .ok (.goto 8, 3) := by decide +kernel
theorem d_Model_kind_28 : decode b_Model_kind 28 = .ok (.aload_n 0, 1) := by decide +kernel
theorem d_Model_kind_29 : decode b_Model_kind 29 = .ok (.iconst 1, 1) := by decide +kernel
theorem d_Model_kind_30 : decode b_Model_kind 30 = .ok (.invokevirtual 104, 3) := by decide +kernel
theorem d_Model_kind_33 : decode b_Model_kind 33 = .ok (.ireturn, 1) := by decide +kernel
theorem d_Model_token_0 : decode b_Model_token 0 = .ok (.aload_n 0, 1) := by decide +kernel
theorem d_Model_token_1 : decode b_Model_token 1 = .ok (.iconst 0, 1) := by decide +kernel
theorem d_Model_token_2 : decode b_Model_token 2 = .ok (.putfield 97, 3) := by decide +kernel
theorem d_Model_token_5 : decode b_Model_token 5 = .ok (.iload_n 1, 1) := by decide +kernel
theorem d_Model_token_6 : decode b_Model_token 6 = .ok (.iconst 0, 1) := by decide +kernel
theorem d_Model_token_7 : decode b_Model_token 7 = .ok (.aload_n 0, 1) := by decide +kernel
theorem d_Model_token_8 : decode b_Model_token 8 = .ok (.getfield 353, 3) := by decide +kernel
theorem d_Model_token_11 : decode b_Model_token 11 = .ok (.iconst 1, 1) := by decide +kernel
theorem d_Model_token_12 : decode b_Model_token 12 = .ok (.isub, 1) := by decide +kernel
theorem d_Model_token_13 : decode b_Model_token 13 = .ok (.invokestatic 100, 3) := by decide +kernel
theorem d_Model_token_16 : decode b_Model_token 16 = .ok (.ifCond .eq 12, 3) := by decide +kernel
theorem d_Model_token_19 : decode b_Model_token 19 = .ok (.aload_n 0, 1) := by decide +kernel
theorem d_Model_token_20 : decode b_Model_token 20 = .ok (.getfield 58, 3) := by decide +kernel
theorem d_Model_token_23 : decode b_Model_token 23 = .ok (.iload_n 1, 1) := by decide +kernel
theorem d_Model_token_24 : decode b_Model_token 24 = .ok (.laload, 1) := by decide +kernel
theorem d_Model_token_25 : decode b_Model_token 25 = .ok (.goto 9, 3) := by decide +kernel
theorem d_Model_token_28 : decode b_Model_token 28 = .ok (.aload_n 0, 1) := by decide +kernel
theorem d_Model_token_29 : decode b_Model_token 29 = .ok (.iconst 1, 1) := by decide +kernel
theorem d_Model_token_30 : decode b_Model_token 30 = .ok (.invokevirtual 104, 3) := by decide +kernel
theorem d_Model_token_33 : decode b_Model_token 33 = .ok (.i2l, 1) := by decide +kernel
theorem d_Model_token_34 : decode b_Model_token 34 = .ok (.lreturn, 1) := by decide +kernel
theorem d_Model_count_0 : decode b_Model_count 0 = .ok (.aload_n 0, 1) := by decide +kernel
theorem d_Model_count_1 : decode b_Model_count 1 = .ok (.iconst 0, 1) := by decide +kernel
theorem d_Model_count_2 : decode b_Model_count 2 = .ok (.putfield 97, 3) := by decide +kernel
theorem d_Model_count_5 : decode b_Model_count 5 = .ok (.iload_n 1, 1) := by decide +kernel
theorem d_Model_count_6 : decode b_Model_count 6 = .ok (.iconst 0, 1) := by decide +kernel
theorem d_Model_count_7 : decode b_Model_count 7 = .ok (.iconst 4, 1) := by decide +kernel
theorem d_Model_count_8 : decode b_Model_count 8 = .ok (.invokestatic 100, 3) := by decide +kernel
theorem d_Model_count_11 : decode b_Model_count 11 = .ok (.ifCond .ne 9, 3) := by decide +kernel
theorem d_Model_count_14 : decode b_Model_count 14 = .ok (.aload_n 0, 1) := by decide +kernel
theorem d_Model_count_15 : decode b_Model_count 15 = .ok (.iconst 1, 1) := by decide +kernel
theorem d_Model_count_16 : decode b_Model_count 16 = .ok (.invokevirtual 104, 3) := by decide +kernel
theorem d_Model_count_19 : decode b_Model_count 19 = .ok (.ireturn, 1) := by decide +kernel
theorem d_Model_count_20 : decode b_Model_count 20 = .ok (.iload_n 1, 1) := by decide +kernel
theorem d_Model_count_21 : decode b_Model_count 21 = .ok (.iconst 3, 1) := by decide +kernel
theorem d_Model_count_22 : decode b_Model_count 22 = .ok (.if_icmp .ge 31, 3) := by decide +kernel
theorem d_Model_count_25 : decode b_Model_count 25 = .ok (.iload_n 1, 1) := by decide +kernel
theorem d_Model_count_26 : decode b_Model_count 26 = .ok (.ifCond .ne 10, 3) := by decide +kernel
theorem d_Model_count_29 : decode b_Model_count 29 = .ok (.aload_n 0, 1) := by decide +kernel
theorem d_Model_count_30 : decode b_Model_count 30 = .ok (.getfield 368, 3) := by decide +kernel
theorem d_Model_count_33 : decode b_Model_count 33 = .ok (.goto 19, 3) := by decide +kernel
theorem d_Model_count_36 : decode b_Model_count 36 = .ok (.iload_n 1, 1) := by decide +kernel
theorem d_Model_count_37 : decode b_Model_count 37 = .ok (.iconst 1, 1) := by decide +kernel
theorem d_Model_count_38 : decode b_Model_count 38 = .ok (.if_icmp .ne 10, 3) := by decide +kernel
theorem d_Model_count_41 : decode b_Model_count 41 = .ok (.aload_n 0, 1) := by decide +kernel
theorem d_Model_count_42 : decode b_Model_count 42 = .ok (.getfield 371, 3) := by decide +kernel
theorem d_Model_count_45 : decode b_Model_count 45 = .ok (.goto 7, 3) := by decide +kernel
theorem d_Model_count_48 : decode b_Model_count 48 = .ok (.aload_n 0, 1) := by decide +kernel
theorem d_Model_count_49 : decode b_Model_count 49 = .ok (.getfield 374, 3) := by decide +kernel
theorem d_Model_count_52 : decode b_Model_count 52 = .ok (.ireturn, 1) := by decide +kernel
theorem d_Model_count_53 : decode b_Model_count 53 = .ok (.iload_n 1, 1) := by decide +kernel
theorem d_Model_count_54 : decode b_Model_count 54 = .ok (.iconst 3, 1) := by decide +kernel
theorem d_Model_count_55 : decode b_Model_count 55 = .ok (.if_icmp .ne 10, 3) := by decide +kernel
theorem d_Model_count_58 : decode b_Model_count 58 = .ok (.aload_n 0, 1) := by decide +kernel
theorem d_Model_count_59 : decode b_Model_count 59 = .ok (.getfield 377, 3) := by decide +kernel
theorem d_Model_count_62 : decode b_Model_count 62 = .ok (.goto 7, 3) := by decide +kernel
theorem d_Model_count_65 : decode b_Model_count 65 = .ok (.aload_n 0, 1) := by decide +kernel
theorem d_Model_count_66 : decode b_Model_count 66 = .ok (.getfield 380, 3) := by decide +kernel
theorem d_Model_count_69 : decode b_Model_count 69 = .ok (.ireturn, 1) := by decide +kernel
theorem d_Law_write_0 : decode b_Law_write 0 = .ok (.aload 4, 2) := by decide +kernel
theorem d_Law_write_2 : decode b_Law_write 2 = .ok (.iconst 0, 1) := by decide +kernel
theorem d_Law_write_3 : decode b_Law_write 3 = .ok (.aload_n 0, 1) := by decide +kernel
theorem d_Law_write_4 : decode b_Law_write 4 = .ok (.lload_n 1, 1) := by decide +kernel
theorem d_Law_write_5 : decode b_Law_write 5 = .ok (.iload_n 3, 1) := by decide +kernel
theorem d_Law_write_6 : decode b_Law_write 6 = .ok (.invokevirtual 7, 3) := by decide +kernel
theorem d_Law_write_9 : decode b_Law_write 9 = .ok (.i2l, 1) := by decide +kernel
theorem d_Law_write_10 : decode b_Law_write 10 = .ok (.lastore, 1) := by decide +kernel
theorem d_Law_write_11 : decode b_Law_write 11 = .ok (.goto 11, 3) := by decide +kernel
theorem d_Law_write_14 : decode b_Law_write 14 = .ok (.astore 5, 2) := by decide +kernel
theorem d_Law_write_16 : decode b_Law_write 16 = .ok (.iconst 1, 1) := by decide +kernel
theorem d_Law_write_17 : decode b_Law_write 17 = .ok (.ireturn, 1) := by decide +kernel
theorem d_Law_write_18 : decode b_Law_write 18 = .ok (.astore 5, 2) := by decide +kernel
theorem d_Law_write_20 : decode b_Law_write 20 = .ok (.iconst 2, 1) := by decide +kernel
theorem d_Law_write_21 : decode b_Law_write 21 = .ok (.ireturn, 1) := by decide +kernel
theorem d_Law_write_22 : decode b_Law_write 22 = .ok (.iconst 0, 1) := by decide +kernel
theorem d_Law_write_23 : decode b_Law_write 23 = .ok (.ireturn, 1) := by decide +kernel
theorem d_Law_fixity_0 : decode b_Law_fixity 0 = .ok (.aload 5, 2) := by decide +kernel
theorem d_Law_fixity_2 : decode b_Law_fixity 2 = .ok (.iconst 0, 1) := by decide +kernel
theorem d_Law_fixity_3 : decode b_Law_fixity 3 = .ok (.aload_n 0, 1) := by decide +kernel
theorem d_Law_fixity_4 : decode b_Law_fixity 4 = .ok (.lload_n 1, 1) := by decide +kernel
theorem d_Law_fixity_5 : decode b_Law_fixity 5 = .ok (.iload_n 3, 1) := by decide +kernel
theorem d_Law_fixity_6 : decode b_Law_fixity 6 = .ok (.iload 4, 2) := by decide +kernel
theorem d_Law_fixity_8 : decode b_Law_fixity 8 = .ok (.invokevirtual 17, 3) := by decide +kernel
theorem d_Law_fixity_11 : decode b_Law_fixity 11 = .ok (.i2l, 1) := by decide +kernel
theorem d_Law_fixity_12 : decode b_Law_fixity 12 = .ok (.lastore, 1) := by decide +kernel
theorem d_Law_fixity_13 : decode b_Law_fixity 13 = .ok (.goto 11, 3) := by decide +kernel
theorem d_Law_fixity_16 : decode b_Law_fixity 16 = .ok (.astore 6, 2) := by decide +kernel
theorem d_Law_fixity_18 : decode b_Law_fixity 18 = .ok (.iconst 1, 1) := by decide +kernel
theorem d_Law_fixity_19 : decode b_Law_fixity 19 = .ok (.ireturn, 1) := by decide +kernel
theorem d_Law_fixity_20 : decode b_Law_fixity 20 = .ok (.astore 6, 2) := by decide +kernel
theorem d_Law_fixity_22 : decode b_Law_fixity 22 = .ok (.iconst 2, 1) := by decide +kernel
theorem d_Law_fixity_23 : decode b_Law_fixity 23 = .ok (.ireturn, 1) := by decide +kernel
theorem d_Law_fixity_24 : decode b_Law_fixity 24 = .ok (.iconst 0, 1) := by decide +kernel
theorem d_Law_fixity_25 : decode b_Law_fixity 25 = .ok (.ireturn, 1) := by decide +kernel
theorem d_Law_read_0 : decode b_Law_read 0 = .ok (.aload_n 1, 1) := by decide +kernel
theorem d_Law_read_1 : decode b_Law_read 1 = .ok (.iconst 0, 1) := by decide +kernel
theorem d_Law_read_2 : decode b_Law_read 2 = .ok (.aload_n 0, 1) := by decide +kernel
theorem d_Law_read_3 : decode b_Law_read 3 = .ok (.invokevirtual 21, 3) := by decide +kernel
theorem d_Law_read_6 : decode b_Law_read 6 = .ok (.i2l, 1) := by decide +kernel
theorem d_Law_read_7 : decode b_Law_read 7 = .ok (.lastore, 1) := by decide +kernel
theorem d_Law_read_8 : decode b_Law_read 8 = .ok (.goto 9, 3) := by decide +kernel
theorem d_Law_read_11 : decode b_Law_read 11 = .ok (.astore_n 2, 1) := by decide +kernel
theorem d_Law_read_12 : decode b_Law_read 12 = .ok (.iconst 1, 1) := by decide +kernel
theorem d_Law_read_13 : decode b_Law_read 13 = .ok (.ireturn, 1) := by decide +kernel
theorem d_Law_read_14 : decode b_Law_read 14 = .ok (.astore_n 2, 1) := by decide +kernel
theorem d_Law_read_15 : decode b_Law_read 15 = .ok (.iconst 2, 1) := by decide +kernel
theorem d_Law_read_16 : decode b_Law_read 16 = .ok (.ireturn, 1) := by decide +kernel
theorem d_Law_read_17 : decode b_Law_read 17 = .ok (.iconst 0, 1) := by decide +kernel
theorem d_Law_read_18 : decode b_Law_read 18 = .ok (.ireturn, 1) := by decide +kernel
theorem d_Law_kind_0 : decode b_Law_kind 0 = .ok (.aload_n 2, 1) := by decide +kernel
theorem d_Law_kind_1 : decode b_Law_kind 1 = .ok (.iconst 0, 1) := by decide +kernel
theorem d_Law_kind_2 : decode b_Law_kind 2 = .ok (.aload_n 0, 1) := by decide +kernel
theorem d_Law_kind_3 : decode b_Law_kind 3 = .ok (.iload_n 1, 1) := by decide +kernel
theorem d_Law_kind_4 : decode b_Law_kind 4 = .ok (.invokevirtual 25, 3) := by decide +kernel
theorem d_Law_kind_7 : decode b_Law_kind 7 = .ok (.i2l, 1) := by decide +kernel
theorem d_Law_kind_8 : decode b_Law_kind 8 = .ok (.lastore, 1) := by decide +kernel
theorem d_Law_kind_9 : decode b_Law_kind 9 = .ok (.goto 6, 3) := by decide +kernel
theorem d_Law_kind_12 : decode b_Law_kind 12 = .ok (.astore_n 3, 1) := by decide +kernel
theorem d_Law_kind_13 : decode b_Law_kind 13 = .ok (.iconst 1, 1) := by decide +kernel
theorem d_Law_kind_14 : decode b_Law_kind 14 = .ok (.ireturn, 1) := by decide +kernel
theorem d_Law_kind_15 : decode b_Law_kind 15 = .ok (.iconst 0, 1) := by decide +kernel
theorem d_Law_kind_16 : decode b_Law_kind 16 = .ok (.ireturn, 1) := by decide +kernel
theorem d_Law_token_0 : decode b_Law_token 0 = .ok (.aload_n 2, 1) := by decide +kernel
theorem d_Law_token_1 : decode b_Law_token 1 = .ok (.iconst 0, 1) := by decide +kernel
theorem d_Law_token_2 : decode b_Law_token 2 = .ok (.aload_n 0, 1) := by decide +kernel
theorem d_Law_token_3 : decode b_Law_token 3 = .ok (.iload_n 1, 1) := by decide +kernel
theorem d_Law_token_4 : decode b_Law_token 4 = .ok (.invokevirtual 31, 3) := by decide +kernel
theorem d_Law_token_7 : decode b_Law_token 7 = .ok (.lastore, 1) := by decide +kernel
theorem d_Law_token_8 : decode b_Law_token 8 = .ok (.goto 6, 3) := by decide +kernel
theorem d_Law_token_11 : decode b_Law_token 11 = .ok (.astore_n 3, 1) := by decide +kernel
theorem d_Law_token_12 : decode b_Law_token 12 = .ok (.iconst 1, 1) := by decide +kernel
theorem d_Law_token_13 : decode b_Law_token 13 = .ok (.ireturn, 1) := by decide +kernel
theorem d_Law_token_14 : decode b_Law_token 14 = .ok (.iconst 0, 1) := by decide +kernel
theorem d_Law_token_15 : decode b_Law_token 15 = .ok (.ireturn, 1) := by decide +kernel
theorem d_Law_count_0 : decode b_Law_count 0 = .ok (.aload_n 2, 1) := by decide +kernel
theorem d_Law_count_1 : decode b_Law_count 1 = .ok (.iconst 0, 1) := by decide +kernel
theorem d_Law_count_2 : decode b_Law_count 2 = .ok (.aload_n 0, 1) := by decide +kernel
theorem d_Law_count_3 : decode b_Law_count 3 = .ok (.iload_n 1, 1) := by decide +kernel
theorem d_Law_count_4 : decode b_Law_count 4 = .ok (.invokevirtual 35, 3) := by decide +kernel
theorem d_Law_count_7 : decode b_Law_count 7 = .ok (.i2l, 1) := by decide +kernel
theorem d_Law_count_8 : decode b_Law_count 8 = .ok (.lastore, 1) := by decide +kernel
theorem d_Law_count_9 : decode b_Law_count 9 = .ok (.goto 6, 3) := by decide +kernel
theorem d_Law_count_12 : decode b_Law_count 12 = .ok (.astore_n 3, 1) := by decide +kernel
theorem d_Law_count_13 : decode b_Law_count 13 = .ok (.iconst 1, 1) := by decide +kernel
theorem d_Law_count_14 : decode b_Law_count 14 = .ok (.ireturn, 1) := by decide +kernel
theorem d_Law_count_15 : decode b_Law_count 15 = .ok (.iconst 0, 1) := by decide +kernel
theorem d_Law_count_16 : decode b_Law_count 16 = .ok (.ireturn, 1) := by decide +kernel
theorem d_Law_law_0 : decode code 0 = .ok (.new 8, 3) := by decide +kernel
theorem d_Law_law_3 : decode code 3 = .ok (.dup, 1) := by decide +kernel
theorem d_Law_law_4 : decode code 4 = .ok (.invokespecial 38, 3) := by decide +kernel
theorem d_Law_law_7 : decode code 7 = .ok (.astore_n 1, 1) := by decide +kernel
theorem d_Law_law_8 : decode code 8 = .ok (.new 39, 3) := by decide +kernel
theorem d_Law_law_11 : decode code 11 = .ok (.dup, 1) := by decide +kernel
theorem d_Law_law_12 : decode code 12 = .ok (.invokespecial 41, 3) := by decide +kernel
theorem d_Law_law_15 : decode code 15 = .ok (.astore_n 2, 1) := by decide +kernel
theorem d_Law_law_16 : decode code 16 = .ok (.iconst 1, 1) := by decide +kernel
theorem d_Law_law_17 : decode code 17 = .ok (.newarray .long, 2) := by decide +kernel
theorem d_Law_law_19 : decode code 19 = .ok (.astore_n 3, 1) := by decide +kernel
theorem d_Law_law_20 : decode code 20 = .ok (.iconst 0, 1) := by decide +kernel
theorem d_Law_law_21 : decode code 21 = .ok (.istore 4, 2) := by decide +kernel
theorem d_Law_law_23 : decode code 23 = .ok (.iload 4, 2) := by decide +kernel
theorem d_Law_law_25 : decode code 25 = .ok (.aload_n 0, 1) := by decide +kernel
theorem d_Law_law_26 : decode code 26 = .ok (.arraylength, 1) := by decide +kernel
theorem d_Law_law_27 : decode code 27 = .ok (.iconst 5, 1) := by decide +kernel
theorem d_Law_law_28 : decode code 28 = .ok (.isub, 1) := by decide +kernel
theorem d_Law_law_29 : decode code 29 = .ok (.if_icmp .gt 370, 3) := by decide +kernel
theorem d_Law_law_32 : decode code 32 = .ok (.aload_n 0, 1) := by decide +kernel
theorem d_Law_law_33 : decode code 33 = .ok (.iload 4, 2) := by decide +kernel
theorem d_Law_law_35 : decode code 35 = .ok (.iaload, 1) := by decide +kernel
theorem d_Law_law_36 : decode code 36 = .ok (.bipush 7, 2) := by decide +kernel
theorem d_Law_law_38 : decode code 38 = .ok (.iand, 1) := by decide +kernel
theorem d_Law_law_39 : decode code 39 = .ok (.tableswitch 354 0 7 #[45, 117, 130, 214, 230, 243, 271, 326], 45) := by decide +kernel
theorem d_Law_law_84 : decode code 84 = .ok (.aload_n 1, 1) := by decide +kernel
theorem d_Law_law_85 : decode code 85 = .ok (.aload_n 0, 1) := by decide +kernel
theorem d_Law_law_86 : decode code 86 = .ok (.iload 4, 2) := by decide +kernel
theorem d_Law_law_88 : decode code 88 = .ok (.iconst 1, 1) := by decide +kernel
theorem d_Law_law_89 : decode code 89 = .ok (.iadd, 1) := by decide +kernel
theorem d_Law_law_90 : decode code 90 = .ok (.iaload, 1) := by decide +kernel
theorem d_Law_law_91 : decode code 91 = .ok (.i2l, 1) := by decide +kernel
theorem d_Law_law_92 : decode code 92 = .ok (.bipush 32, 2) := by decide +kernel
theorem d_Law_law_94 : decode code 94 = .ok (.lshl, 1) := by decide +kernel
theorem d_Law_law_95 : decode code 95 = .ok (.aload_n 0, 1) := by decide +kernel
theorem d_Law_law_96 : decode code 96 = .ok (.iload 4, 2) := by decide +kernel
theorem d_Law_law_98 : decode code 98 = .ok (.iconst 2, 1) := by decide +kernel
theorem d_Law_law_99 : decode code 99 = .ok (.iadd, 1) := by decide +kernel
theorem d_Law_law_100 : decode code 100 = .ok (.iaload, 1) := by decide +kernel
theorem d_Law_law_101 : decode code 101 = .ok (.i2l, 1) := by decide +kernel
theorem d_Law_law_102 : decode code 102 = .ok (.ldc2_w 42, 3) := by decide +kernel
theorem d_Law_law_105 : decode code 105 = .ok (.land, 1) := by decide +kernel
theorem d_Law_law_106 : decode code 106 = .ok (.lor, 1) := by decide +kernel
theorem d_Law_law_107 : decode code 107 = .ok (.aload_n 0, 1) := by decide +kernel
theorem d_Law_law_108 : decode code 108 = .ok (.iload 4, 2) := by decide +kernel
theorem d_Law_law_110 : decode code 110 = .ok (.iconst 3, 1) := by decide +kernel
theorem d_Law_law_111 : decode code 111 = .ok (.iadd, 1) := by decide +kernel
theorem d_Law_law_112 : decode code 112 = .ok (.iaload, 1) := by decide +kernel
theorem d_Law_law_113 : decode code 113 = .ok (.aload_n 3, 1) := by decide +kernel
theorem d_Law_law_114 : decode code 114 = .ok (.invokestatic 44, 3) := by decide +kernel
theorem d_Law_law_117 : decode code 117 = .ok (.istore 5, 2) := by decide +kernel
theorem d_Law_law_119 : decode code 119 = .ok (.aload_n 2, 1) := by decide +kernel
theorem d_Law_law_120 : decode code 120 = .ok (.aload_n 0, 1) := by decide +kernel
theorem d_Law_law_121 : decode code 121 = .ok (.iload 4, 2) := by decide +kernel
theorem d_Law_law_123 : decode code 123 = .ok (.iconst 1, 1) := by decide +kernel
theorem d_Law_law_124 : decode code 124 = .ok (.iadd, 1) := by decide +kernel
theorem d_Law_law_125 : decode code 125 = .ok (.iaload, 1) := by decide +kernel
theorem d_Law_law_126 : decode code 126 = .ok (.i2l, 1) := by decide +kernel
theorem d_Law_law_127 : decode code 127 = .ok (.bipush 32, 2) := by decide +kernel
theorem d_Law_law_129 : decode code 129 = .ok (.lshl, 1) := by decide +kernel
theorem d_Law_law_130 : decode code 130 = .ok (.aload_n 0, 1) := by decide +kernel
theorem d_Law_law_131 : decode code 131 = .ok (.iload 4, 2) := by decide +kernel
theorem d_Law_law_133 : decode code 133 = .ok (.iconst 2, 1) := by decide +kernel
theorem d_Law_law_134 : decode code 134 = .ok (.iadd, 1) := by decide +kernel
theorem d_Law_law_135 : decode code 135 = .ok (.iaload, 1) := by decide +kernel
theorem d_Law_law_136 : decode code 136 = .ok (.i2l, 1) := by decide +kernel
theorem d_Law_law_137 : decode code 137 = .ok (.ldc2_w 42, 3) := by decide +kernel
theorem d_Law_law_140 : decode code 140 = .ok (.land, 1) := by decide +kernel
theorem d_Law_law_141 : decode code 141 = .ok (.lor, 1) := by decide +kernel
theorem d_Law_law_142 : decode code 142 = .ok (.aload_n 0, 1) := by decide +kernel
theorem d_Law_law_143 : decode code 143 = .ok (.iload 4, 2) := by decide +kernel
theorem d_Law_law_145 : decode code 145 = .ok (.iconst 3, 1) := by decide +kernel
theorem d_Law_law_146 : decode code 146 = .ok (.iadd, 1) := by decide +kernel
theorem d_Law_law_147 : decode code 147 = .ok (.iaload, 1) := by decide +kernel
theorem d_Law_law_148 : decode code 148 = .ok (.invokevirtual 49, 3) := by decide +kernel
theorem d_Law_law_151 : decode code 151 = .ok (.istore 6, 2) := by decide +kernel
theorem d_Law_law_153 : decode code 153 = .ok (.goto 240, 3) := by decide +kernel
theorem d_Law_law_156 : decode code 156 = .ok (.aload_n 1, 1) := by decide +kernel
theorem d_Law_law_157 : decode code 157 = .ok (.invokevirtual 50, 3) := by decide +kernel
theorem d_Law_law_160 : decode code 160 = .ok (.pop, 1) := by decide +kernel
theorem d_Law_law_161 : decode code 161 = .ok (.aload_n 2, 1) := by decide +kernel
theorem d_Law_law_162 : decode code 162 = .ok (.invokevirtual 53, 3) := by decide +kernel
theorem d_Law_law_165 : decode code 165 = .ok (.pop, 1) := by decide +kernel
theorem d_Law_law_166 : decode code 166 = .ok (.goto 227, 3) := by decide +kernel
theorem d_Law_law_169 : decode code 169 = .ok (.aload_n 1, 1) := by decide +kernel
theorem d_Law_law_170 : decode code 170 = .ok (.aload_n 0, 1) := by decide +kernel
theorem d_Law_law_171 : decode code 171 = .ok (.iload 4, 2) := by decide +kernel
theorem d_Law_law_173 : decode code 173 = .ok (.iconst 1, 1) := by decide +kernel
theorem d_Law_law_174 : decode code 174 = .ok (.iadd, 1) := by decide +kernel
theorem d_Law_law_175 : decode code 175 = .ok (.iaload, 1) := by decide +kernel
theorem d_Law_law_176 : decode code 176 = .ok (.i2l, 1) := by decide +kernel
theorem d_Law_law_177 : decode code 177 = .ok (.bipush 32, 2) := by decide +kernel
theorem d_Law_law_179 : decode code 179 = .ok (.lshl, 1) := by decide +kernel
theorem d_Law_law_180 : decode code 180 = .ok (.aload_n 0, 1) := by decide +kernel
theorem d_Law_law_181 : decode code 181 = .ok (.iload 4, 2) := by decide +kernel
theorem d_Law_law_183 : decode code 183 = .ok (.iconst 2, 1) := by decide +kernel
theorem d_Law_law_184 : decode code 184 = .ok (.iadd, 1) := by decide +kernel
theorem d_Law_law_185 : decode code 185 = .ok (.iaload, 1) := by decide +kernel
theorem d_Law_law_186 : decode code 186 = .ok (.i2l, 1) := by decide +kernel
theorem d_Law_law_187 : decode code 187 = .ok (.ldc2_w 42, 3) := by decide +kernel
theorem d_Law_law_190 : decode code 190 = .ok (.land, 1) := by decide +kernel
theorem d_Law_law_191 : decode code 191 = .ok (.lor, 1) := by decide +kernel
theorem d_Law_law_192 : decode code 192 = .ok (.aload_n 0, 1) := by decide +kernel
theorem d_Law_law_193 : decode code 193 = .ok (.iload 4, 2) := by decide +kernel
theorem d_Law_law_195 : decode code 195 = .ok (.iconst 3, 1) := by decide +kernel
theorem d_Law_law_196 : decode code 196 = .ok (.iadd, 1) := by decide +kernel
theorem d_Law_law_197 : decode code 197 = .ok (.iaload, 1) := by decide +kernel
theorem d_Law_law_198 : decode code 198 = .ok (.aload_n 0, 1) := by decide +kernel
theorem d_Law_law_199 : decode code 199 = .ok (.iload 4, 2) := by decide +kernel
theorem d_Law_law_201 : decode code 201 = .ok (.iconst 4, 1) := by decide +kernel
theorem d_Law_law_202 : decode code 202 = .ok (.iadd, 1) := by decide +kernel
theorem d_Law_law_203 : decode code 203 = .ok (.iaload, 1) := by decide +kernel
theorem d_Law_law_204 : decode code 204 = .ok (.aload_n 3, 1) := by decide +kernel
theorem d_Law_law_205 : decode code 205 = .ok (.invokestatic 54, 3) := by decide +kernel
theorem d_Law_law_208 : decode code 208 = .ok (.istore 5, 2) := by decide +kernel
theorem d_Law_law_210 : decode code 210 = .ok (.aload_n 2, 1) := by decide +kernel
theorem d_Law_law_211 : decode code 211 = .ok (.aload_n 0, 1) := by decide +kernel
theorem d_Law_law_212 : decode code 212 = .ok (.iload 4, 2) := by decide +kernel
theorem d_Law_law_214 : decode code 214 = .ok (.iconst 1, 1) := by decide +kernel
theorem d_Law_law_215 : decode code 215 = .ok (.iadd, 1) := by decide +kernel
theorem d_Law_law_216 : decode code 216 = .ok (.iaload, 1) := by decide +kernel
theorem d_Law_law_217 : decode code 217 = .ok (.i2l, 1) := by decide +kernel
theorem d_Law_law_218 : decode code 218 = .ok (.bipush 32, 2) := by decide +kernel
theorem d_Law_law_220 : decode code 220 = .ok (.lshl, 1) := by decide +kernel
theorem d_Law_law_221 : decode code 221 = .ok (.aload_n 0, 1) := by decide +kernel
theorem d_Law_law_222 : decode code 222 = .ok (.iload 4, 2) := by decide +kernel
theorem d_Law_law_224 : decode code 224 = .ok (.iconst 2, 1) := by decide +kernel
theorem d_Law_law_225 : decode code 225 = .ok (.iadd, 1) := by decide +kernel
theorem d_Law_law_226 : decode code 226 = .ok (.iaload, 1) := by decide +kernel
theorem d_Law_law_227 : decode code 227 = .ok (.i2l, 1) := by decide +kernel
theorem d_Law_law_228 : decode code 228 = .ok (.ldc2_w 42, 3) := by decide +kernel
theorem d_Law_law_231 : decode code 231 = .ok (.land, 1) := by decide +kernel
theorem d_Law_law_232 : decode code 232 = .ok (.lor, 1) := by decide +kernel
theorem d_Law_law_233 : decode code 233 = .ok (.aload_n 0, 1) := by decide +kernel
theorem d_Law_law_234 : decode code 234 = .ok (.iload 4, 2) := by decide +kernel
theorem d_Law_law_236 : decode code 236 = .ok (.iconst 3, 1) := by decide +kernel
theorem d_Law_law_237 : decode code 237 = .ok (.iadd, 1) := by decide +kernel
theorem d_Law_law_238 : decode code 238 = .ok (.iaload, 1) := by decide +kernel
theorem d_Law_law_239 : decode code 239 = .ok (.aload_n 0, 1) := by decide +kernel
theorem d_Law_law_240 : decode code 240 = .ok (.iload 4, 2) := by decide +kernel
theorem d_Law_law_242 : decode code 242 = .ok (.iconst 4, 1) := by decide +kernel
theorem d_Law_law_243 : decode code 243 = .ok (.iadd, 1) := by decide +kernel
theorem d_Law_law_244 : decode code 244 = .ok (.iaload, 1) := by decide +kernel
theorem d_Law_law_245 : decode code 245 = .ok (.invokevirtual 57, 3) := by decide +kernel
theorem d_Law_law_248 : decode code 248 = .ok (.istore 6, 2) := by decide +kernel
theorem d_Law_law_250 : decode code 250 = .ok (.goto 143, 3) := by decide +kernel
theorem d_Law_law_253 : decode code 253 = .ok (.aload_n 1, 1) := by decide +kernel
theorem d_Law_law_254 : decode code 254 = .ok (.aload_n 3, 1) := by decide +kernel
theorem d_Law_law_255 : decode code 255 = .ok (.invokestatic 58, 3) := by decide +kernel
theorem d_Law_law_258 : decode code 258 = .ok (.istore 5, 2) := by decide +kernel
theorem d_Law_law_260 : decode code 260 = .ok (.aload_n 2, 1) := by decide +kernel
theorem d_Law_law_261 : decode code 261 = .ok (.invokevirtual 61, 3) := by decide +kernel
theorem d_Law_law_264 : decode code 264 = .ok (.istore 6, 2) := by decide +kernel
theorem d_Law_law_266 : decode code 266 = .ok (.goto 127, 3) := by decide +kernel
theorem d_Law_law_269 : decode code 269 = .ok (.aload_n 1, 1) := by decide +kernel
theorem d_Law_law_270 : decode code 270 = .ok (.invokevirtual 62, 3) := by decide +kernel
theorem d_Law_law_273 : decode code 273 = .ok (.pop, 1) := by decide +kernel
theorem d_Law_law_274 : decode code 274 = .ok (.aload_n 2, 1) := by decide +kernel
theorem d_Law_law_275 : decode code 275 = .ok (.invokevirtual 65, 3) := by decide +kernel
theorem d_Law_law_278 : decode code 278 = .ok (.pop, 1) := by decide +kernel
theorem d_Law_law_279 : decode code 279 = .ok (.goto 114, 3) := by decide +kernel
theorem d_Law_law_282 : decode code 282 = .ok (.aload_n 1, 1) := by decide +kernel
theorem d_Law_law_283 : decode code 283 = .ok (.aload_n 0, 1) := by decide +kernel
theorem d_Law_law_284 : decode code 284 = .ok (.iload 4, 2) := by decide +kernel
theorem d_Law_law_286 : decode code 286 = .ok (.iconst 1, 1) := by decide +kernel
theorem d_Law_law_287 : decode code 287 = .ok (.iadd, 1) := by decide +kernel
theorem d_Law_law_288 : decode code 288 = .ok (.iaload, 1) := by decide +kernel
theorem d_Law_law_289 : decode code 289 = .ok (.aload_n 3, 1) := by decide +kernel
theorem d_Law_law_290 : decode code 290 = .ok (.invokestatic 66, 3) := by decide +kernel
theorem d_Law_law_293 : decode code 293 = .ok (.istore 5, 2) := by decide +kernel
theorem d_Law_law_295 : decode code 295 = .ok (.aload_n 2, 1) := by decide +kernel
theorem d_Law_law_296 : decode code 296 = .ok (.aload_n 0, 1) := by decide +kernel
theorem d_Law_law_297 : decode code 297 = .ok (.iload 4, 2) := by decide +kernel
theorem d_Law_law_299 : decode code 299 = .ok (.iconst 1, 1) := by decide +kernel
theorem d_Law_law_300 : decode code 300 = .ok (.iadd, 1) := by decide +kernel
theorem d_Law_law_301 : decode code 301 = .ok (.iaload, 1) := by decide +kernel
theorem d_Law_law_302 : decode code 302 = .ok (.invokevirtual 69, 3) := by decide +kernel
theorem d_Law_law_305 : decode code 305 = .ok (.istore 6, 2) := by decide +kernel
theorem d_Law_law_307 : decode code 307 = .ok (.goto 86, 3) := by decide +kernel
theorem d_Law_law_310 : decode code 310 = .ok (.aload_n 1, 1) := by decide +kernel
theorem d_Law_law_311 : decode code 311 = .ok (.aload_n 0, 1) := by decide +kernel
theorem d_Law_law_312 : decode code 312 = .ok (.iload 4, 2) := by decide +kernel
theorem d_Law_law_314 : decode code 314 = .ok (.iconst 1, 1) := by decide +kernel
theorem d_Law_law_315 : decode code 315 = .ok (.iadd, 1) := by decide +kernel
theorem d_Law_law_316 : decode code 316 = .ok (.iaload, 1) := by decide +kernel
theorem d_Law_law_317 : decode code 317 = .ok (.aload_n 3, 1) := by decide +kernel
theorem d_Law_law_318 : decode code 318 = .ok (.invokestatic 70, 3) := by decide +kernel
theorem d_Law_law_321 : decode code 321 = .ok (.istore 5, 2) := by decide +kernel
theorem d_Law_law_323 : decode code 323 = .ok (.aload_n 2, 1) := by decide +kernel
theorem d_Law_law_324 : decode code 324 = .ok (.aload_n 0, 1) := by decide +kernel
theorem d_Law_law_325 : decode code 325 = .ok (.iload 4, 2) := by decide +kernel
theorem d_Law_law_327 : decode code 327 = .ok (.iconst 1, 1) := by decide +kernel
theorem d_Law_law_328 : decode code 328 = .ok (.iadd, 1) := by decide +kernel
theorem d_Law_law_329 : decode code 329 = .ok (.iaload, 1) := by decide +kernel
theorem d_Law_law_330 : decode code 330 = .ok (.invokevirtual 72, 3) := by decide +kernel
theorem d_Law_law_333 : decode code 333 = .ok (.lstore 6, 2) := by decide +kernel
theorem d_Law_law_335 : decode code 335 = .ok (.aload_n 2, 1) := by decide +kernel
theorem d_Law_law_336 : decode code 336 = .ok (.invokevirtual 73, 3) := by decide +kernel
theorem d_Law_law_339 : decode code 339 = .ok (.iload 5, 2) := by decide +kernel
theorem d_Law_law_341 : decode code 341 = .ok (.if_icmp .eq 5, 3) := by decide +kernel
theorem d_Law_law_344 : decode code 344 = .ok (.iconst 0, 1) := by decide +kernel
theorem d_Law_law_345 : decode code 345 = .ok (.ireturn, 1) := by decide +kernel
theorem d_Law_law_346 : decode code 346 = .ok (.iload 5, 2) := by decide +kernel
theorem d_Law_law_348 : decode code 348 = .ok (.ifCond .ne 14, 3) := by decide +kernel
theorem d_Law_law_351 : decode code 351 = .ok (.aload_n 3, 1) := by decide +kernel
theorem d_Law_law_352 : decode code 352 = .ok (.iconst 0, 1) := by decide +kernel
theorem d_Law_law_353 : decode code 353 = .ok (.laload, 1) := by decide +kernel
theorem d_Law_law_354 : decode code 354 = .ok (.lload 6, 2) := by decide +kernel
theorem d_Law_law_356 : decode code 356 = .ok (.lcmp, 1) := by decide +kernel
theorem d_Law_law_357 : decode code 357 = .ok (.ifCond .eq 5, 3) := by decide +kernel
theorem d_Law_law_360 : decode code 360 = .ok (.iconst 0, 1) := by decide +kernel
theorem d_Law_law_361 : decode code 361 = .ok (.ireturn, 1) := by decide +kernel
theorem d_Law_law_362 : decode code 362 = .ok (.goto 31, 3) := by decide +kernel
theorem d_Law_law_365 : decode code 365 = .ok (.aload_n 1, 1) := by decide +kernel
theorem d_Law_law_366 : decode code 366 = .ok (.aload_n 0, 1) := by decide +kernel
theorem d_Law_law_367 : decode code 367 = .ok (.iload 4, 2) := by decide +kernel
theorem d_Law_law_369 : decode code 369 = .ok (.iconst 1, 1) := by decide +kernel
theorem d_Law_law_370 : decode code 370 = .ok (.iadd, 1) := by decide +kernel
theorem d_Law_law_371 : decode code 371 = .ok (.iaload, 1) := by decide +kernel
theorem d_Law_law_372 : decode code 372 = .ok (.aload_n 3, 1) := by decide +kernel
theorem d_Law_law_373 : decode code 373 = .ok (.invokestatic 76, 3) := by decide +kernel
theorem d_Law_law_376 : decode code 376 = .ok (.istore 5, 2) := by decide +kernel
theorem d_Law_law_378 : decode code 378 = .ok (.aload_n 2, 1) := by decide +kernel
theorem d_Law_law_379 : decode code 379 = .ok (.aload_n 0, 1) := by decide +kernel
theorem d_Law_law_380 : decode code 380 = .ok (.iload 4, 2) := by decide +kernel
theorem d_Law_law_382 : decode code 382 = .ok (.iconst 1, 1) := by decide +kernel
theorem d_Law_law_383 : decode code 383 = .ok (.iadd, 1) := by decide +kernel
theorem d_Law_law_384 : decode code 384 = .ok (.iaload, 1) := by decide +kernel
theorem d_Law_law_385 : decode code 385 = .ok (.invokevirtual 78, 3) := by decide +kernel
theorem d_Law_law_388 : decode code 388 = .ok (.istore 6, 2) := by decide +kernel
theorem d_Law_law_390 : decode code 390 = .ok (.goto 3, 3) := by decide +kernel
theorem d_Law_law_393 : decode code 393 = .ok (.iinc 4 5, 3) := by decide +kernel
theorem d_Law_law_396 : decode code 396 = .ok (.goto (-373), 3) := by decide +kernel
theorem d_Law_law_399 : decode code 399 = .ok (.iconst 1, 1) := by decide +kernel
theorem d_Law_law_400 : decode code 400 = .ok (.ireturn, 1) := by decide +kernel
theorem d_JS_indexOf0_0 : decode b_JS_indexOf0 0 = .ok (.aload_n 0, 1) := by decide +kernel
theorem d_JS_indexOf0_1 : decode b_JS_indexOf0 1 = .ok (.iload_n 1, 1) := by decide +kernel
theorem d_JS_indexOf0_2 : decode b_JS_indexOf0 2 = .ok (.iconst 0, 1) := by decide +kernel
theorem d_JS_indexOf0_3 : decode b_JS_indexOf0 3 = .ok (.invokevirtual 633, 3) := by decide +kernel
theorem d_JS_indexOf0_6 : decode b_JS_indexOf0 6 = .ok (.ireturn, 1) := by decide +kernel
theorem d_JS_indexOf1_0 : decode b_JS_indexOf1 0 = .ok (.aload_n 0, 1) := by decide +kernel
theorem d_JS_indexOf1_1 : decode b_JS_indexOf1 1 = .ok (.invokevirtual 492, 3) := by decide +kernel
theorem d_JS_indexOf1_4 : decode b_JS_indexOf1 4 = .ok (.ifCond .eq 19, 3) := by decide +kernel
theorem d_JS_indexOf1_7 : decode b_JS_indexOf1 7 = .ok (.aload_n 0, 1) := by decide +kernel
theorem d_JS_indexOf1_8 : decode b_JS_indexOf1 8 = .ok (.getfield 9, 3) := by decide +kernel
theorem d_JS_indexOf1_11 : decode b_JS_indexOf1 11 = .ok (.iload_n 1, 1) := by decide +kernel
theorem d_JS_indexOf1_12 : decode b_JS_indexOf1 12 = .ok (.iload_n 2, 1) := by decide +kernel
theorem d_JS_indexOf1_13 : decode b_JS_indexOf1 13 = .ok (.aload_n 0, 1) := by decide +kernel
theorem d_JS_indexOf1_14 : decode b_JS_indexOf1 14 = .ok (.invokevirtual 505, 3) := by decide +kernel
theorem d_JS_indexOf1_17 : decode b_JS_indexOf1 17 = .ok (.invokestatic 637, 3) := by decide +kernel
theorem d_JS_indexOf1_20 : decode b_JS_indexOf1 20 = .ok (.goto 16, 3) := by decide +kernel
theorem d_JS_indexOf1_23 : decode b_JS_indexOf1 23 = .ok (.aload_n 0, 1) := by decide +kernel
theorem d_JS_indexOf1_24 : decode b_JS_indexOf1 24 = .ok (.getfield 9, 3) := by decide +kernel
theorem d_JS_indexOf1_27 : decode b_JS_indexOf1 27 = .ok (.iload_n 1, 1) := by decide +kernel
theorem d_JS_indexOf1_28 : decode b_JS_indexOf1 28 = .ok (.iload_n 2, 1) := by decide +kernel
theorem d_JS_indexOf1_29 : decode b_JS_indexOf1 29 = .ok (.aload_n 0, 1) := by decide +kernel
theorem d_JS_indexOf1_30 : decode b_JS_indexOf1 30 = .ok (.invokevirtual 505, 3) := by decide +kernel
theorem d_JS_indexOf1_33 : decode b_JS_indexOf1 33 = .ok (.invokestatic 640, 3) := by decide +kernel
theorem d_JS_indexOf1_36 : decode b_JS_indexOf1 36 = .ok (.ireturn, 1) := by decide +kernel
theorem d_JS_isLatin1_0 : decode b_JS_isLatin1 0 = .ok (.getstatic 38, 3) := by decide +kernel
theorem d_JS_isLatin1_3 : decode b_JS_isLatin1 3 = .ok (.ifCond .eq 14, 3) := by decide +kernel
theorem d_JS_isLatin1_6 : decode b_JS_isLatin1 6 = .ok (.aload_n 0, 1) := by decide +kernel
theorem d_JS_isLatin1_7 : decode b_JS_isLatin1 7 = .ok (.getfield 15, 3) := by decide +kernel
theorem d_JS_isLatin1_10 : decode b_JS_isLatin1 10 = .ok (.ifCond .ne 7, 3) := by decide +kernel
theorem d_JS_isLatin1_13 : decode b_JS_isLatin1 13 = .ok (.iconst 1, 1) := by decide +kernel
theorem d_JS_isLatin1_14 : decode b_JS_isLatin1 14 = .ok (.goto 4, 3) := by decide +kernel
theorem d_JS_isLatin1_17 : decode b_JS_isLatin1 17 = .ok (.iconst 0, 1) := by decide +kernel
theorem d_JS_isLatin1_18 : decode b_JS_isLatin1 18 = .ok (.ireturn, 1) := by decide +kernel
theorem d_JS_length_0 : decode b_JS_length 0 = .ok (.aload_n 0, 1) := by decide +kernel
theorem d_JS_length_1 : decode b_JS_length 1 = .ok (.getfield 9, 3) := by decide +kernel
theorem d_JS_length_4 : decode b_JS_length 4 = .ok (.arraylength, 1) := by decide +kernel
theorem d_JS_length_5 : decode b_JS_length 5 = .ok (.aload_n 0, 1) := by decide +kernel
theorem d_JS_length_6 : decode b_JS_length 6 = .ok (.invokevirtual 335, 3) := by decide +kernel
theorem d_JS_length_9 : decode b_JS_length 9 = .ok (.ishr, 1) := by decide +kernel
theorem d_JS_length_10 : decode b_JS_length 10 = .ok (.ireturn, 1) := by decide +kernel
theorem d_JS_coder_0 : decode b_JS_coder 0 = .ok (.getstatic 38, 3) := by decide +kernel
theorem d_JS_coder_3 : decode b_JS_coder 3 = .ok (.ifCond .eq 10, 3) := by decide +kernel
theorem d_JS_coder_6 : decode b_JS_coder 6 = .ok (.aload_n 0, 1) := by decide +kernel
theorem d_JS_coder_7 : decode b_JS_coder 7 = .ok (.getfield 15, 3) := by decide +kernel
theorem d_JS_coder_10 : decode b_JS_coder 10 = .ok (.goto 4, 3) := by decide +kernel
theorem d_JS_coder_13 : decode b_JS_coder 13 = .ok (.iconst 1, 1) := by decide +kernel
theorem d_JS_coder_14 : decode b_JS_coder 14 = .ok (.ireturn, 1) := by decide +kernel
theorem d_JL_canEncode_0 : decode b_JL_canEncode 0 = .ok (.iload_n 0, 1) := by decide +kernel
theorem d_JL_canEncode_1 : decode b_JL_canEncode 1 = .ok (.ifCond .lt 14, 3) := by decide +kernel
theorem d_JL_canEncode_4 : decode b_JL_canEncode 4 = .ok (.iload_n 0, 1) := by decide +kernel
theorem d_JL_canEncode_5 : decode b_JL_canEncode 5 = .ok (.sipush 255, 3) := by decide +kernel
theorem d_JL_canEncode_8 : decode b_JL_canEncode 8 = .ok (.if_icmp .gt 7, 3) := by decide +kernel
theorem d_JL_canEncode_11 : decode b_JL_canEncode 11 = .ok (.iconst 1, 1) := by decide +kernel
theorem d_JL_canEncode_12 : decode b_JL_canEncode 12 = .ok (.goto 4, 3) := by decide +kernel
theorem d_JL_canEncode_15 : decode b_JL_canEncode 15 = .ok (.iconst 0, 1) := by decide +kernel
theorem d_JL_canEncode_16 : decode b_JL_canEncode 16 = .ok (.ireturn, 1) := by decide +kernel
theorem d_JL_indexOf_0 : decode b_JL_indexOf 0 = .ok (.iload_n 1, 1) := by decide +kernel
theorem d_JL_indexOf_1 : decode b_JL_indexOf 1 = .ok (.invokestatic 88, 3) := by decide +kernel
theorem d_JL_indexOf_4 : decode b_JL_indexOf 4 = .ok (.ifCond .ne 5, 3) := by decide +kernel
theorem d_JL_indexOf_7 : decode b_JL_indexOf 7 = .ok (.iconst (-1), 1) := by decide +kernel
theorem d_JL_indexOf_8 : decode b_JL_indexOf 8 = .ok (.ireturn, 1) := by decide +kernel
theorem d_JL_indexOf_9 : decode b_JL_indexOf 9 = .ok (.iload_n 2, 1) := by decide +kernel
theorem d_JL_indexOf_10 : decode b_JL_indexOf 10 = .ok (.iconst 0, 1) := by decide +kernel
theorem d_JL_indexOf_11 : decode b_JL_indexOf 11 = .ok (.invokestatic 92, 3) := by decide +kernel
theorem d_JL_indexOf_14 : decode b_JL_indexOf 14 = .ok (.istore_n 2, 1) := by decide +kernel
theorem d_JL_indexOf_15 : decode b_JL_indexOf 15 = .ok (.iload_n 3, 1) := by decide +kernel
theorem d_JL_indexOf_16 : decode b_JL_indexOf 16 = .ok (.aload_n 0, 1) := by decide +kernel
theorem d_JL_indexOf_17 : decode b_JL_indexOf 17 = .ok (.arraylength, 1) := by decide +kernel
theorem d_JL_indexOf_18 : decode b_JL_indexOf 18 = .ok (.invokestatic 38, 3) := by decide +kernel
theorem d_JL_indexOf_21 : decode b_JL_indexOf 21 = .ok (.istore_n 3, 1) := by decide +kernel
theorem d_JL_indexOf_22 : decode b_JL_indexOf 22 = .ok (.iload_n 2, 1) := by decide +kernel
theorem d_JL_indexOf_23 : decode b_JL_indexOf 23 = .ok (.iload_n 3, 1) := by decide +kernel
theorem d_JL_indexOf_24 : decode b_JL_indexOf 24 = .ok (.if_icmp .lt 5, 3) := by decide +kernel
theorem d_JL_indexOf_27 : decode b_JL_indexOf 27 = .ok (.iconst (-1), 1) := by decide +kernel
theorem d_JL_indexOf_28 : decode b_JL_indexOf 28 = .ok (.ireturn, 1) := by decide +kernel
theorem d_JL_indexOf_29 : decode b_JL_indexOf 29 = .ok (.aload_n 0, 1) := by decide +kernel
theorem d_JL_indexOf_30 : decode b_JL_indexOf 30 = .ok (.iload_n 1, 1) := by decide +kernel
theorem d_JL_indexOf_31 : decode b_JL_indexOf 31 = .ok (.iload_n 2, 1) := by decide +kernel
theorem d_JL_indexOf_32 : decode b_JL_indexOf 32 = .ok (.iload_n 3, 1) := by decide +kernel
theorem d_JL_indexOf_33 : decode b_JL_indexOf 33 = .ok (.invokestatic 95, 3) := by decide +kernel
theorem d_JL_indexOf_36 : decode b_JL_indexOf 36 = .ok (.ireturn, 1) := by decide +kernel
theorem d_JL_indexOfChar_0 : decode b_JL_indexOfChar 0 = .ok (.iload_n 1, 1) := by decide +kernel
theorem d_JL_indexOfChar_1 : decode b_JL_indexOfChar 1 = .ok (.i2b, 1) := by decide +kernel
theorem d_JL_indexOfChar_2 : decode b_JL_indexOfChar 2 = .ok (.istore 4, 2) := by decide +kernel
theorem d_JL_indexOfChar_4 : decode b_JL_indexOfChar 4 = .ok (.iload_n 2, 1) := by decide +kernel
theorem d_JL_indexOfChar_5 : decode b_JL_indexOfChar 5 = .ok (.istore 5, 2) := by decide +kernel
theorem d_JL_indexOfChar_7 : decode b_JL_indexOfChar 7 = .ok (.iload 5, 2) := by decide +kernel
theorem d_JL_indexOfChar_9 : decode b_JL_indexOfChar 9 = .ok (.iload_n 3, 1) := by decide +kernel
theorem d_JL_indexOfChar_10 : decode b_JL_indexOfChar 10 = .ok (.if_icmp .ge 21, 3) := by decide +kernel
theorem d_JL_indexOfChar_13 : decode b_JL_indexOfChar 13 = .ok (.aload_n 0, 1) := by decide +kernel
theorem d_JL_indexOfChar_14 : decode b_JL_indexOfChar 14 = .ok (.iload 5, 2) := by decide +kernel
theorem d_JL_indexOfChar_16 : decode b_JL_indexOfChar 16 = .ok (.baload, 1) := by decide +kernel
theorem d_JL_indexOfChar_17 : decode b_JL_indexOfChar 17 = .ok (.iload 4, 2) := by decide +kernel
theorem d_JL_indexOfChar_19 : decode b_JL_indexOfChar 19 = .ok (.if_icmp .ne 6, 3) := by decide +kernel
theorem d_JL_indexOfChar_22 : decode b_JL_indexOfChar 22 = .ok (.iload 5, 2) := by decide +kernel
theorem d_JL_indexOfChar_24 : decode b_JL_indexOfChar 24 = .ok (.ireturn, 1) := by decide +kernel
theorem d_JL_indexOfChar_25 : decode b_JL_indexOfChar 25 = .ok (.iinc 5 1, 3) := by decide +kernel
theorem d_JL_indexOfChar_28 : decode b_JL_indexOfChar 28 = .ok (.goto (-21), 3) := by decide +kernel
theorem d_JL_indexOfChar_31 : decode b_JL_indexOfChar 31 = .ok (.iconst (-1), 1) := by decide +kernel
theorem d_JL_indexOfChar_32 : decode b_JL_indexOfChar 32 = .ok (.ireturn, 1) := by decide +kernel
