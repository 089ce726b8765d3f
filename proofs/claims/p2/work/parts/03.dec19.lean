theorem d_Model_regular_29 : decode b_Model_regular 29 = .ok (.if_icmp .ge 104, 3) := by decide +kernel
theorem d_Model_regular_32 : decode b_Model_regular 32 = .ok (.iload_n 3, 1) := by decide +kernel
theorem d_Model_regular_33 : decode b_Model_regular 33 = .ok (.ifCond .eq 14, 3) := by decide +kernel
theorem d_Model_regular_36 : decode b_Model_regular 36 = .ok (.aload_n 0, 1) := by decide +kernel
theorem d_Model_regular_37 : decode b_Model_regular 37 = .ok (.getfield 76, 3) := by decide +kernel
theorem d_Model_regular_40 : decode b_Model_regular 40 = .ok (.iload_n 3, 1) := by decide +kernel
theorem d_Model_regular_41 : decode b_Model_regular 41 = .ok (.iconst 1, 1) := by decide +kernel
theorem d_Model_regular_42 : decode b_Model_regular 42 = .ok (.isub, 1) := by decide +kernel
theorem d_Model_regular_43 : decode b_Model_regular 43 = .ok (.iaload, 1) := by decide +kernel
theorem d_Model_regular_44 : decode b_Model_regular 44 = .ok (.ifCond .le 7, 3) := by decide +kernel
theorem d_Model_regular_47 : decode b_Model_regular 47 = .ok (.iconst 1, 1) := by decide +kernel
theorem d_Model_regular_48 : decode b_Model_regular 48 = .ok (.goto 4, 3) := by decide +kernel
theorem d_Model_regular_51 : decode b_Model_regular 51 = .ok (.iconst 0, 1) := by decide +kernel
theorem d_Model_regular_52 : decode b_Model_regular 52 = .ok (.istore 4, 2) := by decide +kernel
theorem d_Model_regular_54 : decode b_Model_regular 54 = .ok (.iload_n 1, 1) := by decide +kernel
theorem d_Model_regular_55 : decode b_Model_regular 55 = .ok (.ifCond .ne 12, 3) := by decide +kernel
theorem d_Model_regular_58 : decode b_Model_regular 58 = .ok (.aload_n 0, 1) := by decide +kernel
theorem d_Model_regular_59 : decode b_Model_regular 59 = .ok (.getfield 76, 3) := by decide +kernel
theorem d_Model_regular_62 : decode b_Model_regular 62 = .ok (.iload_n 3, 1) := by decide +kernel
theorem d_Model_regular_63 : decode b_Model_regular 63 = .ok (.iaload, 1) := by decide +kernel
theorem d_Model_regular_64 : decode b_Model_regular 64 = .ok (.ifCond .le 7, 3) := by decide +kernel
theorem d_Model_regular_67 : decode b_Model_regular 67 = .ok (.iconst 1, 1) := by decide +kernel
theorem d_Model_regular_68 : decode b_Model_regular 68 = .ok (.goto 4, 3) := by decide +kernel
theorem d_Model_regular_71 : decode b_Model_regular 71 = .ok (.iconst 0, 1) := by decide +kernel
theorem d_Model_regular_72 : decode b_Model_regular 72 = .ok (.istore_n 1, 1) := by decide +kernel
theorem d_Model_regular_73 : decode b_Model_regular 73 = .ok (.iload_n 2, 1) := by decide +kernel
theorem d_Model_regular_74 : decode b_Model_regular 74 = .ok (.ifCond .eq 29, 3) := by decide +kernel
theorem d_Model_regular_77 : decode b_Model_regular 77 = .ok (.aload_n 0, 1) := by decide +kernel
theorem d_Model_regular_78 : decode b_Model_regular 78 = .ok (.getfield 76, 3) := by decide +kernel
theorem d_Model_regular_81 : decode b_Model_regular 81 = .ok (.iload_n 3, 1) := by decide +kernel
theorem d_Model_regular_82 : decode b_Model_regular 82 = .ok (.iaload, 1) := by decide +kernel
theorem d_Model_regular_83 : decode b_Model_regular 83 = .ok (.ifCond .eq 16, 3) := by decide +kernel
theorem d_Model_regular_86 : decode b_Model_regular 86 = .ok (.iload 4, 2) := by decide +kernel
theorem d_Model_regular_88 : decode b_Model_regular 88 = .ok (.ifCond .eq 11, 3) := by decide +kernel
theorem d_Model_regular_91 : decode b_Model_regular 91 = .ok (.aload_n 0, 1) := by decide +kernel
theorem d_Model_regular_92 : decode b_Model_regular 92 = .ok (.iload_n 3, 1) := by decide +kernel
theorem d_Model_regular_93 : decode b_Model_regular 93 = .ok (.invokevirtual 304, 3) := by decide +kernel
theorem d_Model_regular_96 : decode b_Model_regular 96 = .ok (.ifCond .eq 7, 3) := by decide +kernel
theorem d_Model_regular_99 : decode b_Model_regular 99 = .ok (.iconst 1, 1) := by decide +kernel
theorem d_Model_regular_100 : decode b_Model_regular 100 = .ok (.goto 4, 3) := by decide +kernel
theorem d_Model_regular_103 : decode b_Model_regular 103 = .ok (.iconst 0, 1) := by decide +kernel
theorem d_Model_regular_104 : decode b_Model_regular 104 = .ok (.istore_n 2, 1) := by decide +kernel
theorem d_Model_regular_105 : decode b_Model_regular 105 = .ok (.aload_n 0, 1) := by decide +kernel
theorem d_Model_regular_106 : decode b_Model_regular 106 = .ok (.getfield 76, 3) := by decide +kernel
theorem d_Model_regular_109 : decode b_Model_regular 109 = .ok (.iload_n 3, 1) := by decide +kernel
theorem d_Model_regular_110 : decode b_Model_regular 110 = .ok (.iaload, 1) := by decide +kernel
theorem d_Model_regular_111 : decode b_Model_regular 111 = .ok (.iconst 1, 1) := by decide +kernel
theorem d_Model_regular_112 : decode b_Model_regular 112 = .ok (.if_icmp .ne 15, 3) := by decide +kernel
theorem d_Model_regular_115 : decode b_Model_regular 115 = .ok (.iload 4, 2) := by decide +kernel
theorem d_Model_regular_117 : decode b_Model_regular 117 = .ok (.ifCond .eq 10, 3) := by decide +kernel
theorem d_Model_regular_120 : decode b_Model_regular 120 = .ok (.aload_n 0, 1) := by decide +kernel
theorem d_Model_regular_121 : decode b_Model_regular 121 = .ok (.getfield 76, 3) := by decide +kernel
theorem d_Model_regular_124 : decode b_Model_regular 124 = .ok (.iload_n 3, 1) := by decide +kernel
theorem d_Model_regular_125 : decode b_Model_regular 125 = .ok (.iconst 2, 1) := by decide +kernel
theorem d_Model_regular_126 : decode b_Model_regular 126 = .ok (.iastore, 1) := by decide +kernel
theorem d_Model_regular_127 : decode b_Model_regular 127 = .ok (.iinc 3 1, 3) := by decide +kernel
theorem d_Model_regular_130 : decode b_Model_regular 130 = .ok (.goto (-106), 3) := by decide +kernel
theorem d_Model_regular_133 : decode b_Model_regular 133 = .ok (.iload_n 2, 1) := by decide +kernel
theorem d_Model_regular_134 : decode b_Model_regular 134 = .ok (.ifCond .eq 11, 3) := by decide +kernel
theorem d_Model_regular_137 : decode b_Model_regular 137 = .ok (.iload_n 1, 1) := by decide +kernel
theorem d_Model_regular_138 : decode b_Model_regular 138 = .ok (.ifCond .eq 7, 3) := by decide +kernel
theorem d_Model_regular_141 : decode b_Model_regular 141 = .ok (.iconst 1, 1) := by decide +kernel
theorem d_Model_regular_142 : decode b_Model_regular 142 = .ok (.goto 4, 3) := by decide +kernel
theorem d_Model_regular_145 : decode b_Model_regular 145 = .ok (.iconst 0, 1) := by decide +kernel
theorem d_Model_regular_146 : decode b_Model_regular 146 = .ok (.ireturn, 1) := by decide +kernel
theorem d_Model_fixed_0 : decode b_Model_fixed 0 = .ok (.aload_n 0, 1) := by decide +kernel
theorem d_Model_fixed_1 : decode b_Model_fixed 1 = .ok (.getfield 76, 3) := by decide +kernel
theorem d_Model_fixed_4 : decode b_Model_fixed 4 = .ok (.iload_n 1, 1) := by decide +kernel
theorem d_Model_fixed_5 : decode b_Model_fixed 5 = .ok (.iaload, 1) := by decide +kernel
theorem d_Model_fixed_6 : decode b_Model_fixed 6 = .ok (.iconst 2, 1) := by decide +kernel
theorem d_Model_fixed_7 : decode b_Model_fixed 7 = .ok (.if_icmp .ne 7, 3) := by decide +kernel
theorem d_Model_fixed_10 : decode b_Model_fixed 10 = .ok (.iconst (-1), 1) := by decide +kernel
theorem d_Model_fixed_11 : decode b_Model_fixed 11 = .ok (.goto 22, 3) := by decide +kernel
theorem d_Model_fixed_14 : decode b_Model_fixed 14 = .ok (.aload_n 0, 1) := by decide +kernel
theorem d_Model_fixed_15 : decode b_Model_fixed 15 = .ok (.aload_n 0, 1) := by decide +kernel
theorem d_Model_fixed_16 : decode b_Model_fixed 16 = .ok (.getfield 40, 3) := by decide +kernel
theorem d_Model_fixed_19 : decode b_Model_fixed 19 = .ok (.aload_n 0, 1) := by decide +kernel
theorem d_Model_fixed_20 : decode b_Model_fixed 20 = .ok (.aload_n 0, 1) := by decide +kernel
theorem d_Model_fixed_21 : decode b_Model_fixed 21 = .ok (.getfield 70, 3) := by decide +kernel
theorem d_Model_fixed_24 : decode b_Model_fixed 24 = .ok (.iload_n 1, 1) := by decide +kernel
theorem d_Model_fixed_25 : decode b_Model_fixed 25 = .ok (.iaload, 1) := by decide +kernel
theorem d_Model_fixed_26 : decode b_Model_fixed 26 = .ok (.invokevirtual 307, 3) := by decide +kernel
theorem d_Model_fixed_29 : decode b_Model_fixed 29 = .ok (.laload, 1) := by decide +kernel
theorem d_Model_fixed_30 : decode b_Model_fixed 30 = .ok (.invokevirtual 116, 3) := by decide +kernel
theorem d_Model_fixed_33 : decode b_Model_fixed 33 = .ok (.ireturn, 1) := by decide +kernel
theorem d_Model_level_0 : decode b_Model_level 0 = .ok (.aload_n 0, 1) := by decide +kernel
theorem d_Model_level_1 : decode b_Model_level 1 = .ok (.getfield 76, 3) := by decide +kernel
theorem d_Model_level_4 : decode b_Model_level 4 = .ok (.iload_n 1, 1) := by decide +kernel
theorem d_Model_level_5 : decode b_Model_level 5 = .ok (.iaload, 1) := by decide +kernel
theorem d_Model_level_6 : decode b_Model_level 6 = .ok (.iconst 2, 1) := by decide +kernel
theorem d_Model_level_7 : decode b_Model_level 7 = .ok (.if_icmp .ne 8, 3) := by decide +kernel
theorem d_Model_level_10 : decode b_Model_level 10 = .ok (.bipush 6, 2) := by decide +kernel
theorem d_Model_level_12 : decode b_Model_level 12 = .ok (.goto 26, 3) := by decide +kernel
theorem d_Model_level_15 : decode b_Model_level 15 = .ok (.aload_n 0, 1) := by decide +kernel
theorem d_Model_level_16 : decode b_Model_level 16 = .ok (.iload_n 1, 1) := by decide +kernel
theorem d_Model_level_17 : decode b_Model_level 17 = .ok (.invokevirtual 310, 3) := by decide +kernel
theorem d_Model_level_20 : decode b_Model_level 20 = .ok (.ifCond .ge 8, 3) := by decide +kernel
theorem d_Model_level_23 : decode b_Model_level 23 = .ok (.bipush 9, 2) := by decide +kernel
theorem d_Model_level_25 : decode b_Model_level 25 = .ok (.goto 13, 3) := by decide +kernel
theorem d_Model_level_28 : decode b_Model_level 28 = .ok (.aload_n 0, 1) := by decide +kernel
theorem d_Model_level_29 : decode b_Model_level 29 = .ok (.getfield 67, 3) := by decide +kernel
theorem d_Model_level_32 : decode b_Model_level 32 = .ok (.aload_n 0, 1) := by decide +kernel
theorem d_Model_level_33 : decode b_Model_level 33 = .ok (.iload_n 1, 1) := by decide +kernel
theorem d_Model_level_34 : decode b_Model_level 34 = .ok (.invokevirtual 310, 3) := by decide +kernel
theorem d_Model_level_37 : decode b_Model_level 37 = .ok (.iaload, 1) := by decide +kernel
theorem d_Model_level_38 : decode b_Model_level 38 = .ok (.ireturn, 1) := by decide +kernel
theorem d_Model_side_0 : decode b_Model_side 0 = .ok (.aload_n 0, 1) := by decide +kernel
theorem d_Model_side_1 : decode b_Model_side 1 = .ok (.getfield 76, 3) := by decide +kernel
theorem d_Model_side_4 : decode b_Model_side 4 = .ok (.iload_n 1, 1) := by decide +kernel
theorem d_Model_side_5 : decode b_Model_side 5 = .ok (.iaload, 1) := by decide +kernel
theorem d_Model_side_6 : decode b_Model_side 6 = .ok (.iconst 2, 1) := by decide +kernel
theorem d_Model_side_7 : decode b_Model_side 7 = .ok (.if_icmp .eq 11, 3) := by decide +kernel
theorem d_Model_side_10 : decode b_Model_side 10 = .ok (.aload_n 0, 1) := by decide +kernel
theorem d_Model_side_11 : decode b_Model_side 11 = .ok (.iload_n 1, 1) := by decide +kernel
theorem d_Model_side_12 : decode b_Model_side 12 = .ok (.invokevirtual 310, 3) := by decide +kernel
theorem d_Model_side_15 : decode b_Model_side 15 = .ok (.ifCond .ge 7, 3) := by decide +kernel
theorem d_Model_side_18 : decode b_Model_side 18 = .ok (.iconst 0, 1) := by decide +kernel
theorem d_Model_side_19 : decode b_Model_side 19 = .ok (.goto 13, 3) := by decide +kernel
theorem d_Model_side_22 : decode b_Model_side 22 = .ok (.aload_n 0, 1) := by decide +kernel
theorem d_Model_side_23 : decode b_Model_side 23 = .ok (.getfield 64, 3) := by decide +kernel
theorem d_Model_side_26 : decode b_Model_side 26 = .ok (.aload_n 0, 1) := by decide +kernel
theorem d_Model_side_27 : decode b_Model_side 27 = .ok (.iload_n 1, 1) := by decide +kernel
theorem d_Model_side_28 : decode b_Model_side 28 = .ok (.invokevirtual 310, 3) := by decide +kernel
theorem d_Model_side_31 : decode b_Model_side 31 = .ok (.iaload, 1) := by decide +kernel
theorem d_Model_side_32 : decode b_Model_side 32 = .ok (.ireturn, 1) := by decide +kernel
theorem d_Model_apply_0 : decode b_Model_apply 0 = .ok (.aload_n 0, 1) := by decide +kernel
theorem d_Model_apply_1 : decode b_Model_apply 1 = .ok (.dup, 1) := by decide +kernel
theorem d_Model_apply_2 : decode b_Model_apply 2 = .ok (.getfield 313, 3) := by decide +kernel
theorem d_Model_apply_5 : decode b_Model_apply 5 = .ok (.iconst 1, 1) := by decide +kernel
theorem d_Model_apply_6 : decode b_Model_apply 6 = .ok (.isub, 1) := by decide +kernel
theorem d_Model_apply_7 : decode b_Model_apply 7 = .ok (.putfield 313, 3) := by decide +kernel
theorem d_Model_apply_10 : decode b_Model_apply 10 = .ok (.aload_n 0, 1) := by decide +kernel
theorem d_Model_apply_11 : decode b_Model_apply 11 = .ok (.getfield 85, 3) := by decide +kernel
theorem d_Model_apply_14 : decode b_Model_apply 14 = .ok (.aload_n 0, 1) := by decide +kernel
theorem d_Model_apply_15 : decode b_Model_apply 15 = .ok (.getfield 313, 3) := by decide +kernel
theorem d_Model_apply_18 : decode b_Model_apply 18 = .ok (.iaload, 1) := by decide +kernel
theorem d_Model_apply_19 : decode b_Model_apply 19 = .ok (.istore_n 1, 1) := by decide +kernel
theorem d_Model_apply_20 : decode b_Model_apply 20 = .ok (.aload_n 0, 1) := by decide +kernel
theorem d_Model_apply_21 : decode b_Model_apply 21 = .ok (.getfield 76, 3) := by decide +kernel
theorem d_Model_apply_24 : decode b_Model_apply 24 = .ok (.iload_n 1, 1) := by decide +kernel
theorem d_Model_apply_25 : decode b_Model_apply 25 = .ok (.iaload, 1) := by decide +kernel
theorem d_Model_apply_26 : decode b_Model_apply 26 = .ok (.iconst 2, 1) := by decide +kernel
theorem d_Model_apply_27 : decode b_Model_apply 27 = .ok (.if_icmp .ne 12, 3) := by decide +kernel
theorem d_Model_apply_30 : decode b_Model_apply 30 = .ok (.aload_n 0, 1) := by decide +kernel
theorem d_Model_apply_31 : decode b_Model_apply 31 = .ok (.getfield 70, 3) := by decide +kernel
theorem d_Model_apply_34 : decode b_Model_apply 34 = .ok (.iload_n 1, 1) := by decide +kernel
theorem d_Model_apply_35 : decode b_Model_apply 35 = .ok (.iaload, 1) := by decide +kernel
theorem d_Model_apply_36 : decode b_Model_apply 36 = .ok (.goto 14, 3) := by decide +kernel
theorem d_Model_apply_39 : decode b_Model_apply 39 = .ok (.aload_n 0, 1) := by decide +kernel
theorem d_Model_apply_40 : decode b_Model_apply 40 = .ok (.getfield 79, 3) := by decide +kernel
theorem d_Model_apply_43 : decode b_Model_apply 43 = .ok (.aload_n 0, 1) := by decide +kernel
theorem d_Model_apply_44 : decode b_Model_apply 44 = .ok (.getfield 316, 3) := by decide +kernel
theorem d_Model_apply_47 : decode b_Model_apply 47 = .ok (.iconst 2, 1) := by decide +kernel
theorem d_Model_apply_48 : decode b_Model_apply 48 = .ok (.isub, 1) := by decide +kernel
theorem d_Model_apply_49 : decode b_Model_apply 49 = .ok (.iaload, 1) := by decide +kernel
theorem d_Model_apply_50 : decode b_Model_apply 50 = .ok (.istore_n 2, 1) := by decide +kernel
theorem d_Model_apply_51 : decode b_Model_apply 51 = .ok (.aload_n 0, 1) := by decide +kernel
theorem d_Model_apply_52 : decode b_Model_apply 52 = .ok (.dup, 1) := by decide +kernel
theorem d_Model_apply_53 : decode b_Model_apply 53 = .ok (.getfield 316, 3) := by decide +kernel
theorem d_Model_apply_56 : decode b_Model_apply 56 = .ok (.aload_n 0, 1) := by decide +kernel
theorem d_Model_apply_57 : decode b_Model_apply 57 = .ok (.getfield 76, 3) := by decide +kernel
theorem d_Model_apply_60 : decode b_Model_apply 60 = .ok (.iload_n 1, 1) := by decide +kernel
theorem d_Model_apply_61 : decode b_Model_apply 61 = .ok (.iaload, 1) := by decide +kernel
theorem d_Model_apply_62 : decode b_Model_apply 62 = .ok (.iconst 2, 1) := by decide +kernel
theorem d_Model_apply_63 : decode b_Model_apply 63 = .ok (.if_icmp .ne 7, 3) := by decide +kernel
theorem d_Model_apply_66 : decode b_Model_apply 66 = .ok (.iconst 0, 1) := by decide +kernel
theorem d_Model_apply_67 : decode b_Model_apply 67 = .ok (.goto 4, 3) := by decide +kernel
theorem d_Model_apply_70 : decode b_Model_apply 70 = .ok (.iconst 1, 1) := by decide +kernel
theorem d_Model_apply_71 : decode b_Model_apply 71 = .ok (.isub, 1) := by decide +kernel
theorem d_Model_apply_72 : decode b_Model_apply 72 = .ok (.putfield 316, 3) := by decide +kernel
theorem d_Model_apply_75 : decode b_Model_apply 75 = .ok (.aload_n 0, 1) := by decide +kernel
theorem d_Model_apply_76 : decode b_Model_apply 76 = .ok (.getfield 76, 3) := by decide +kernel
theorem d_Model_apply_79 : decode b_Model_apply 79 = .ok (.iload_n 1, 1) := by decide +kernel
theorem d_Model_apply_80 : decode b_Model_apply 80 = .ok (.iaload, 1) := by decide +kernel
theorem d_Model_apply_81 : decode b_Model_apply 81 = .ok (.iconst 2, 1) := by decide +kernel
theorem d_Model_apply_82 : decode b_Model_apply 82 = .ok (.if_icmp .ne 17, 3) := by decide +kernel
theorem d_Model_apply_85 : decode b_Model_apply 85 = .ok (.aload_n 0, 1) := by decide +kernel
theorem d_Model_apply_86 : decode b_Model_apply 86 = .ok (.getfield 82, 3) := by decide +kernel
theorem d_Model_apply_89 : decode b_Model_apply 89 = .ok (.aload_n 0, 1) := by decide +kernel
theorem d_Model_apply_90 : decode b_Model_apply 90 = .ok (.getfield 316, 3) := by decide +kernel
theorem d_Model_apply_93 : decode b_Model_apply 93 = .ok (.iconst 1, 1) := by decide +kernel
theorem d_Model_apply_94 : decode b_Model_apply 94 = .ok (.isub, 1) := by decide +kernel
theorem d_Model_apply_95 : decode b_Model_apply 95 = .ok (.iaload, 1) := by decide +kernel
theorem d_Model_apply_96 : decode b_Model_apply 96 = .ok (.goto 12, 3) := by decide +kernel
theorem d_Model_apply_99 : decode b_Model_apply 99 = .ok (.aload_n 0, 1) := by decide +kernel
theorem d_Model_apply_100 : decode b_Model_apply 100 = .ok (.getfield 82, 3) := by decide +kernel
theorem d_Model_apply_103 : decode b_Model_apply 103 = .ok (.aload_n 0, 1) := by decide +kernel
theorem d_Model_apply_104 : decode b_Model_apply 104 = .ok (.getfield 316, 3) := by decide +kernel
theorem d_Model_apply_107 : decode b_Model_apply 107 = .ok (.iaload, 1) := by decide +kernel
theorem d_Model_apply_108 : decode b_Model_apply 108 = .ok (.istore_n 3, 1) := by decide +kernel
theorem d_Model_apply_109 : decode b_Model_apply 109 = .ok (.aload_n 0, 1) := by decide +kernel
theorem d_Model_apply_110 : decode b_Model_apply 110 = .ok (.getfield 79, 3) := by decide +kernel
theorem d_Model_apply_113 : decode b_Model_apply 113 = .ok (.aload_n 0, 1) := by decide +kernel
theorem d_Model_apply_114 : decode b_Model_apply 114 = .ok (.getfield 316, 3) := by decide +kernel
theorem d_Model_apply_117 : decode b_Model_apply 117 = .ok (.iconst 1, 1) := by decide +kernel
theorem d_Model_apply_118 : decode b_Model_apply 118 = .ok (.isub, 1) := by decide +kernel
theorem d_Model_apply_119 : decode b_Model_apply 119 = .ok (.iload_n 2, 1) := by decide +kernel
theorem d_Model_apply_120 : decode b_Model_apply 120 = .ok (.iastore, 1) := by decide +kernel
theorem d_Model_apply_121 : decode b_Model_apply 121 = .ok (.aload_n 0, 1) := by decide +kernel
theorem d_Model_apply_122 : decode b_Model_apply 122 = .ok (.getfield 82, 3) := by decide +kernel
theorem d_Model_apply_125 : decode b_Model_apply 125 = .ok (.aload_n 0, 1) := by decide +kernel
theorem d_Model_apply_126 : decode b_Model_apply 126 = .ok (.getfield 316, 3) := by decide +kernel
theorem d_Model_apply_129 : decode b_Model_apply 129 = .ok (.iconst 1, 1) := by decide +kernel
theorem d_Model_apply_130 : decode b_Model_apply 130 = .ok (.isub, 1) := by decide +kernel
theorem d_Model_apply_131 : decode b_Model_apply 131 = .ok (.iload_n 3, 1) := by decide +kernel
theorem d_Model_apply_132 : decode b_Model_apply 132 = .ok (.iastore, 1) := by decide +kernel
theorem d_Model_apply_133 : decode b_Model_apply 133 = .ok (.aload_n 0, 1) := by decide +kernel
theorem d_Model_apply_134 : decode b_Model_apply 134 = .ok (.getfield 88, 3) := by decide +kernel
theorem d_Model_apply_137 : decode b_Model_apply 137 = .ok (.aload_n 0, 1) := by decide +kernel
theorem d_Model_apply_138 : decode b_Model_apply 138 = .ok (.getfield 319, 3) := by decide +kernel
theorem d_Model_apply_141 : decode b_Model_apply 141 = .ok (.iload_n 2, 1) := by decide +kernel
theorem d_Model_apply_142 : decode b_Model_apply 142 = .ok (.iastore, 1) := by decide +kernel
theorem d_Model_apply_143 : decode b_Model_apply 143 = .ok (.aload_n 0, 1) := by decide +kernel
theorem d_Model_apply_144 : decode b_Model_apply 144 = .ok (.getfield 91, 3) := by decide +kernel
theorem d_Model_apply_147 : decode b_Model_apply 147 = .ok (.aload_n 0, 1) := by decide +kernel
theorem d_Model_apply_148 : decode b_Model_apply 148 = .ok (.getfield 319, 3) := by decide +kernel
theorem d_Model_apply_151 : decode b_Model_apply 151 = .ok (.iload_n 3, 1) := by decide +kernel
theorem d_Model_apply_152 : decode b_Model_apply 152 = .ok (.iastore, 1) := by decide +kernel
theorem d_Model_apply_153 : decode b_Model_apply 153 = .ok (.aload_n 0, 1) := by decide +kernel
theorem d_Model_apply_154 : decode b_Model_apply 154 = .ok (.dup, 1) := by decide +kernel
theorem d_Model_apply_155 : decode b_Model_apply 155 = .ok (.getfield 319, 3) := by decide +kernel
theorem d_Model_apply_158 : decode b_Model_apply 158 = .ok (.iconst 1, 1) := by decide +kernel
theorem d_Model_apply_159 : decode b_Model_apply 159 = .ok (.iadd, 1) := by decide +kernel
theorem d_Model_apply_160 : decode b_Model_apply 160 = .ok (.putfield 319, 3) := by decide +kernel
theorem d_Model_apply_163 : decode b_Model_apply 163 = .ok (.return_, 1) := by decide +kernel
theorem d_Model_comes_0 : decode b_Model_comes 0 = .ok (.aload_n 0, 1) := by decide +kernel
theorem d_Model_comes_1 : decode b_Model_comes 1 = .ok (.getfield 76, 3) := by decide +kernel
theorem d_Model_comes_4 : decode b_Model_comes 4 = .ok (.iload_n 1, 1) := by decide +kernel
theorem d_Model_comes_5 : decode b_Model_comes 5 = .ok (.iaload, 1) := by decide +kernel
theorem d_Model_comes_6 : decode b_Model_comes 6 = .ok (.iconst 2, 1) := by decide +kernel
theorem d_Model_comes_7 : decode b_Model_comes 7 = .ok (.if_icmp .ne 31, 3) := by decide +kernel
theorem d_Model_comes_10 : decode b_Model_comes 10 = .ok (.aload_n 0, 1) := by decide +kernel
theorem d_Model_comes_11 : decode b_Model_comes 11 = .ok (.getfield 313, 3) := by decide +kernel
theorem d_Model_comes_14 : decode b_Model_comes 14 = .ok (.ifCond .le 141, 3) := by decide +kernel
theorem d_Model_comes_17 : decode b_Model_comes 17 = .ok (.aload_n 0, 1) := by decide +kernel
theorem d_Model_comes_18 : decode b_Model_comes 18 = .ok (.aload_n 0, 1) := by decide +kernel
theorem d_Model_comes_19 : decode b_Model_comes 19 = .ok (.getfield 85, 3) := by decide +kernel
theorem d_Model_comes_22 : decode b_Model_comes 22 = .ok (.aload_n 0, 1) := by decide +kernel
theorem d_Model_comes_23 : decode b_Model_comes 23 = .ok (.getfield 313, 3) := by decide +kernel
theorem d_Model_comes_26 : decode b_Model_comes 26 = .ok (.iconst 1, 1) := by decide +kernel
theorem d_Model_comes_27 : decode b_Model_comes 27 = .ok (.isub, 1) := by decide +kernel
theorem d_Model_comes_28 : decode b_Model_comes 28 = .ok (.iaload, 1) := by decide +kernel
theorem d_Model_comes_29 : decode b_Model_comes 29 = .ok (.invokevirtual 322, 3) := by decide +kernel
theorem d_Model_comes_32 : decode b_Model_comes 32 = .ok (.iconst 5, 1) := by decide +kernel
theorem d_Model_comes_33 : decode b_Model_comes 33 = .ok (.if_icmp .le 122, 3) := by decide +kernel
theorem d_Model_comes_36 : decode b_Model_comes 36 = .ok (.iconst 0, 1) := by decide +kernel
theorem d_Model_comes_37 : decode b_Model_comes 37 = .ok (.ireturn, 1) := by decide +kernel
theorem d_Model_comes_38 : decode b_Model_comes 38 = .ok (.iconst 1, 1) := by decide +kernel
theorem d_Model_comes_39 : decode b_Model_comes 39 = .ok (.istore_n 2, 1) := by decide +kernel
theorem d_Model_comes_40 : decode b_Model_comes 40 = .ok (.iload_n 2, 1) := by decide +kernel
