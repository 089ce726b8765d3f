theorem d_Text_areCharacters_44 : decode b_Text_areCharacters 44 = .ok (.ireturn, 1) := by decide +kernel
theorem d_Text_byteOf_0 : decode b_Text_byteOf 0 = .ok (.lload_n 0, 1) := by decide +kernel
theorem d_Text_byteOf_1 : decode b_Text_byteOf 1 = .ok (.bipush 8, 2) := by decide +kernel
theorem d_Text_byteOf_3 : decode b_Text_byteOf 3 = .ok (.iload_n 2, 1) := by decide +kernel
theorem d_Text_byteOf_4 : decode b_Text_byteOf 4 = .ok (.imul, 1) := by decide +kernel
theorem d_Text_byteOf_5 : decode b_Text_byteOf 5 = .ok (.lushr, 1) := by decide +kernel
theorem d_Text_byteOf_6 : decode b_Text_byteOf 6 = .ok (.l2i, 1) := by decide +kernel
theorem d_Text_byteOf_7 : decode b_Text_byteOf 7 = .ok (.sipush 255, 3) := by decide +kernel
theorem d_Text_byteOf_10 : decode b_Text_byteOf 10 = .ok (.iand, 1) := by decide +kernel
theorem d_Text_byteOf_11 : decode b_Text_byteOf 11 = .ok (.ireturn, 1) := by decide +kernel
theorem d_Text_hasRoomFor_0 : decode b_Text_hasRoomFor 0 = .ok (.iload_n 1, 1) := by decide +kernel
theorem d_Text_hasRoomFor_1 : decode b_Text_hasRoomFor 1 = .ok (.sipush 240, 3) := by decide +kernel
theorem d_Text_hasRoomFor_4 : decode b_Text_hasRoomFor 4 = .ok (.aload_n 0, 1) := by decide +kernel
theorem d_Text_hasRoomFor_5 : decode b_Text_hasRoomFor 5 = .ok (.getfield 19, 3) := by decide +kernel
theorem d_Text_hasRoomFor_8 : decode b_Text_hasRoomFor 8 = .ok (.isub, 1) := by decide +kernel
theorem d_Text_hasRoomFor_9 : decode b_Text_hasRoomFor 9 = .ok (.if_icmp .gt 7, 3) := by decide +kernel
theorem d_Text_hasRoomFor_12 : decode b_Text_hasRoomFor 12 = .ok (.iconst 1, 1) := by decide +kernel
theorem d_Text_hasRoomFor_13 : decode b_Text_hasRoomFor 13 = .ok (.goto 4, 3) := by decide +kernel
theorem d_Text_hasRoomFor_16 : decode b_Text_hasRoomFor 16 = .ok (.iconst 0, 1) := by decide +kernel
theorem d_Text_hasRoomFor_17 : decode b_Text_hasRoomFor 17 = .ok (.ireturn, 1) := by decide +kernel
theorem d_Text_append_0 : decode b_Text_append 0 = .ok (.iconst 0, 1) := by decide +kernel
theorem d_Text_append_1 : decode b_Text_append 1 = .ok (.istore 4, 2) := by decide +kernel
theorem d_Text_append_3 : decode b_Text_append 3 = .ok (.iload 4, 2) := by decide +kernel
theorem d_Text_append_5 : decode b_Text_append 5 = .ok (.iload_n 3, 1) := by decide +kernel
theorem d_Text_append_6 : decode b_Text_append 6 = .ok (.if_icmp .ge 45, 3) := by decide +kernel
theorem d_Text_append_9 : decode b_Text_append 9 = .ok (.aload_n 0, 1) := by decide +kernel
theorem d_Text_append_10 : decode b_Text_append 10 = .ok (.getfield 19, 3) := by decide +kernel
theorem d_Text_append_13 : decode b_Text_append 13 = .ok (.sipush 240, 3) := by decide +kernel
theorem d_Text_append_16 : decode b_Text_append 16 = .ok (.if_icmp .ge 35, 3) := by decide +kernel
theorem d_Text_append_19 : decode b_Text_append 19 = .ok (.aload_n 0, 1) := by decide +kernel
theorem d_Text_append_20 : decode b_Text_append 20 = .ok (.getfield 9, 3) := by decide +kernel
theorem d_Text_append_23 : decode b_Text_append 23 = .ok (.aload_n 0, 1) := by decide +kernel
theorem d_Text_append_24 : decode b_Text_append 24 = .ok (.getfield 19, 3) := by decide +kernel
theorem d_Text_append_27 : decode b_Text_append 27 = .ok (.lload_n 1, 1) := by decide +kernel
theorem d_Text_append_28 : decode b_Text_append 28 = .ok (.iload 4, 2) := by decide +kernel
theorem d_Text_append_30 : decode b_Text_append 30 = .ok (.invokestatic 15, 3) := by decide +kernel
theorem d_Text_append_33 : decode b_Text_append 33 = .ok (.i2c, 1) := by decide +kernel
theorem d_Text_append_34 : decode b_Text_append 34 = .ok (.castore, 1) := by decide +kernel
theorem d_Text_append_35 : decode b_Text_append 35 = .ok (.aload_n 0, 1) := by decide +kernel
theorem d_Text_append_36 : decode b_Text_append 36 = .ok (.dup, 1) := by decide +kernel
theorem d_Text_append_37 : decode b_Text_append 37 = .ok (.getfield 19, 3) := by decide +kernel
theorem d_Text_append_40 : decode b_Text_append 40 = .ok (.iconst 1, 1) := by decide +kernel
theorem d_Text_append_41 : decode b_Text_append 41 = .ok (.iadd, 1) := by decide +kernel
theorem d_Text_append_42 : decode b_Text_append 42 = .ok (.putfield 19, 3) := by decide +kernel
theorem d_Text_append_45 : decode b_Text_append 45 = .ok (.iinc 4 1, 3) := by decide +kernel
theorem d_Text_append_48 : decode b_Text_append 48 = .ok (.goto (-45), 3) := by decide +kernel
theorem d_Text_append_51 : decode b_Text_append 51 = .ok (.return_, 1) := by decide +kernel
theorem d_Model_write_0 : decode b_Model_write 0 = .ok (.aload_n 0, 1) := by decide +kernel
theorem d_Model_write_1 : decode b_Model_write 1 = .ok (.iconst 0, 1) := by decide +kernel
theorem d_Model_write_2 : decode b_Model_write 2 = .ok (.putfield 97, 3) := by decide +kernel
theorem d_Model_write_5 : decode b_Model_write 5 = .ok (.iload_n 3, 1) := by decide +kernel
theorem d_Model_write_6 : decode b_Model_write 6 = .ok (.iconst 1, 1) := by decide +kernel
theorem d_Model_write_7 : decode b_Model_write 7 = .ok (.bipush 8, 2) := by decide +kernel
theorem d_Model_write_9 : decode b_Model_write 9 = .ok (.invokestatic 100, 3) := by decide +kernel
theorem d_Model_write_12 : decode b_Model_write 12 = .ok (.ifCond .ne 9, 3) := by decide +kernel
theorem d_Model_write_15 : decode b_Model_write 15 = .ok (.aload_n 0, 1) := by decide +kernel
theorem d_Model_write_16 : decode b_Model_write 16 = .ok (.iconst 1, 1) := by decide +kernel
theorem d_Model_write_17 : decode b_Model_write 17 = .ok (.invokevirtual 104, 3) := by decide +kernel
theorem d_Model_write_20 : decode b_Model_write 20 = .ok (.ireturn, 1) := by decide +kernel
theorem d_Model_write_21 : decode b_Model_write 21 = .ok (.iconst 1, 1) := by decide +kernel
theorem d_Model_write_22 : decode b_Model_write 22 = .ok (.istore 4, 2) := by decide +kernel
theorem d_Model_write_24 : decode b_Model_write 24 = .ok (.iconst 0, 1) := by decide +kernel
theorem d_Model_write_25 : decode b_Model_write 25 = .ok (.istore 5, 2) := by decide +kernel
theorem d_Model_write_27 : decode b_Model_write 27 = .ok (.iload 5, 2) := by decide +kernel
theorem d_Model_write_29 : decode b_Model_write 29 = .ok (.iload_n 3, 1) := by decide +kernel
theorem d_Model_write_30 : decode b_Model_write 30 = .ok (.if_icmp .ge 54, 3) := by decide +kernel
theorem d_Model_write_33 : decode b_Model_write 33 = .ok (.lload_n 1, 1) := by decide +kernel
theorem d_Model_write_34 : decode b_Model_write 34 = .ok (.bipush 8, 2) := by decide +kernel
theorem d_Model_write_36 : decode b_Model_write 36 = .ok (.iload 5, 2) := by decide +kernel
theorem d_Model_write_38 : decode b_Model_write 38 = .ok (.imul, 1) := by decide +kernel
theorem d_Model_write_39 : decode b_Model_write 39 = .ok (.lshr, 1) := by decide +kernel
theorem d_Model_write_40 : decode b_Model_write 40 = .ok (.ldc2_w 108, 3) := by decide +kernel
theorem d_Model_write_43 : decode b_Model_write 43 = .ok (.land, 1) := by decide +kernel
theorem d_Model_write_44 : decode b_Model_write 44 = .ok (.l2i, 1) := by decide +kernel
theorem d_Model_write_45 : decode b_Model_write 45 = .ok (.istore 6, 2) := by decide +kernel
theorem d_Model_write_47 : decode b_Model_write 47 = .ok (.iload 4, 2) := by decide +kernel
theorem d_Model_write_49 : decode b_Model_write 49 = .ok (.ifCond .eq 26, 3) := by decide +kernel
theorem d_Model_write_52 : decode b_Model_write 52 = .ok (.iload 6, 2) := by decide +kernel
theorem d_Model_write_54 : decode b_Model_write 54 = .ok (.bipush 10, 2) := by decide +kernel
theorem d_Model_write_56 : decode b_Model_write 56 = .ok (.if_icmp .eq 15, 3) := by decide +kernel
theorem d_Model_write_59 : decode b_Model_write 59 = .ok (.iload 6, 2) := by decide +kernel
theorem d_Model_write_61 : decode b_Model_write 61 = .ok (.bipush 32, 2) := by decide +kernel
theorem d_Model_write_63 : decode b_Model_write 63 = .ok (.bipush 126, 2) := by decide +kernel
theorem d_Model_write_65 : decode b_Model_write 65 = .ok (.invokestatic 100, 3) := by decide +kernel
theorem d_Model_write_68 : decode b_Model_write 68 = .ok (.ifCond .eq 7, 3) := by decide +kernel
theorem d_Model_write_71 : decode b_Model_write 71 = .ok (.iconst 1, 1) := by decide +kernel
theorem d_Model_write_72 : decode b_Model_write 72 = .ok (.goto 4, 3) := by decide +kernel
theorem d_Model_write_75 : decode b_Model_write 75 = .ok (.iconst 0, 1) := by decide +kernel
theorem d_Model_write_76 : decode b_Model_write 76 = .ok (.istore 4, 2) := by decide +kernel
theorem d_Model_write_78 : decode b_Model_write 78 = .ok (.iinc 5 1, 3) := by decide +kernel
theorem d_Model_write_81 : decode b_Model_write 81 = .ok (.goto (-54), 3) := by decide +kernel
theorem d_Model_write_84 : decode b_Model_write 84 = .ok (.iload 4, 2) := by decide +kernel
theorem d_Model_write_86 : decode b_Model_write 86 = .ok (.ifCond .ne 9, 3) := by decide +kernel
theorem d_Model_write_89 : decode b_Model_write 89 = .ok (.aload_n 0, 1) := by decide +kernel
theorem d_Model_write_90 : decode b_Model_write 90 = .ok (.iconst 1, 1) := by decide +kernel
theorem d_Model_write_91 : decode b_Model_write 91 = .ok (.invokevirtual 104, 3) := by decide +kernel
theorem d_Model_write_94 : decode b_Model_write 94 = .ok (.ireturn, 1) := by decide +kernel
theorem d_Model_write_95 : decode b_Model_write 95 = .ok (.aload_n 0, 1) := by decide +kernel
theorem d_Model_write_96 : decode b_Model_write 96 = .ok (.getfield 110, 3) := by decide +kernel
theorem d_Model_write_99 : decode b_Model_write 99 = .ok (.iload_n 3, 1) := by decide +kernel
theorem d_Model_write_100 : decode b_Model_write 100 = .ok (.iadd, 1) := by decide +kernel
theorem d_Model_write_101 : decode b_Model_write 101 = .ok (.sipush 240, 3) := by decide +kernel
theorem d_Model_write_104 : decode b_Model_write 104 = .ok (.if_icmp .le 9, 3) := by decide +kernel
theorem d_Model_write_107 : decode b_Model_write 107 = .ok (.aload_n 0, 1) := by decide +kernel
theorem d_Model_write_108 : decode b_Model_write 108 = .ok (.iconst 2, 1) := by decide +kernel
theorem d_Model_write_109 : decode b_Model_write 109 = .ok (.invokevirtual 104, 3) := by decide +kernel
theorem d_Model_write_112 : decode b_Model_write 112 = .ok (.ireturn, 1) := by decide +kernel
theorem d_Model_write_113 : decode b_Model_write 113 = .ok (.iconst 0, 1) := by decide +kernel
theorem d_Model_write_114 : decode b_Model_write 114 = .ok (.istore 5, 2) := by decide +kernel
theorem d_Model_write_116 : decode b_Model_write 116 = .ok (.iload 5, 2) := by decide +kernel
theorem d_Model_write_118 : decode b_Model_write 118 = .ok (.iload_n 3, 1) := by decide +kernel
theorem d_Model_write_119 : decode b_Model_write 119 = .ok (.if_icmp .ge 33, 3) := by decide +kernel
theorem d_Model_write_122 : decode b_Model_write 122 = .ok (.aload_n 0, 1) := by decide +kernel
theorem d_Model_write_123 : decode b_Model_write 123 = .ok (.getfield 7, 3) := by decide +kernel
theorem d_Model_write_126 : decode b_Model_write 126 = .ok (.aload_n 0, 1) := by decide +kernel
theorem d_Model_write_127 : decode b_Model_write 127 = .ok (.getfield 110, 3) := by decide +kernel
theorem d_Model_write_130 : decode b_Model_write 130 = .ok (.iload 5, 2) := by decide +kernel
theorem d_Model_write_132 : decode b_Model_write 132 = .ok (.iadd, 1) := by decide +kernel
theorem d_Model_write_133 : decode b_Model_write 133 = .ok (.lload_n 1, 1) := by decide +kernel
theorem d_Model_write_134 : decode b_Model_write 134 = .ok (.bipush 8, 2) := by decide +kernel
theorem d_Model_write_136 : decode b_Model_write 136 = .ok (.iload 5, 2) := by decide +kernel
theorem d_Model_write_138 : decode b_Model_write 138 = .ok (.imul, 1) := by decide +kernel
theorem d_Model_write_139 : decode b_Model_write 139 = .ok (.lshr, 1) := by decide +kernel
theorem d_Model_write_140 : decode b_Model_write 140 = .ok (.ldc2_w 108, 3) := by decide +kernel
theorem d_Model_write_143 : decode b_Model_write 143 = .ok (.land, 1) := by decide +kernel
theorem d_Model_write_144 : decode b_Model_write 144 = .ok (.l2i, 1) := by decide +kernel
theorem d_Model_write_145 : decode b_Model_write 145 = .ok (.iastore, 1) := by decide +kernel
theorem d_Model_write_146 : decode b_Model_write 146 = .ok (.iinc 5 1, 3) := by decide +kernel
theorem d_Model_write_149 : decode b_Model_write 149 = .ok (.goto (-33), 3) := by decide +kernel
theorem d_Model_write_152 : decode b_Model_write 152 = .ok (.aload_n 0, 1) := by decide +kernel
theorem d_Model_write_153 : decode b_Model_write 153 = .ok (.dup, 1) := by decide +kernel
theorem d_Model_write_154 : decode b_Model_write 154 = .ok (.getfield 110, 3) := by decide +kernel
theorem d_Model_write_157 : decode b_Model_write 157 = .ok (.iload_n 3, 1) := by decide +kernel
theorem d_Model_write_158 : decode b_Model_write 158 = .ok (.iadd, 1) := by decide +kernel
theorem d_Model_write_159 : decode b_Model_write 159 = .ok (.putfield 110, 3) := by decide +kernel
theorem d_Model_write_162 : decode b_Model_write 162 = .ok (.aload_n 0, 1) := by decide +kernel
theorem d_Model_write_163 : decode b_Model_write 163 = .ok (.getfield 110, 3) := by decide +kernel
theorem d_Model_write_166 : decode b_Model_write 166 = .ok (.ireturn, 1) := by decide +kernel
theorem d_Law_write_0 : decode b_Law_write 0 = .ok (.aload 4, 2) := by decide +kernel
theorem d_Law_write_2 : decode b_Law_write 2 = .ok (.iconst 0, 1) := by decide +kernel
theorem d_Law_write_3 : decode b_Law_write 3 = .ok (.aload_n 0, 1) := by decide +kernel
theorem d_Law_write_4 : decode b_Law_write 4 = .ok (.lload_n 1, 1) := by decide +kernel
theorem d_Law_write_5 : decode b_Law_write 5 = .ok (.iload_n 3, 1) := by decide +kernel
theorem d_Law_write_6 : decode b_Law_write 6 = .ok (.invokevirtual 7, 3) := by decide +kernel
theorem d_Law_write_9 : decode b_Law_write 9 = .ok (.i2l, 1) := by decide +kernel
theorem d_Law_write_10 : decode b_Law_write 10 = .ok (.lastore, 1) := by decide +kernel
theorem d_Law_write_11 : decode b_Law_write 11 = .ok (.goto 11, 3) := by decide +kernel
theorem d_Law_write_14 : decode b_Law_write 14 = .ok (.astore 5, 2) := by decide +kernel
theorem d_Law_write_16 : decode b_Law_write 16 = .ok (.iconst 1, 1) := by decide +kernel
theorem d_Law_write_17 : decode b_Law_write 17 = .ok (.ireturn, 1) := by decide +kernel
theorem d_Law_write_18 : decode b_Law_write 18 = .ok (.astore 5, 2) := by decide +kernel
theorem d_Law_write_20 : decode b_Law_write 20 = .ok (.iconst 2, 1) := by decide +kernel
theorem d_Law_write_21 : decode b_Law_write 21 = .ok (.ireturn, 1) := by decide +kernel
theorem d_Law_write_22 : decode b_Law_write 22 = .ok (.iconst 0, 1) := by decide +kernel
theorem d_Law_write_23 : decode b_Law_write 23 = .ok (.ireturn, 1) := by decide +kernel
theorem d_Law_law_0 : decode code 0 = .ok (.new 8, 3) := by decide +kernel
theorem d_Law_law_3 : decode code 3 = .ok (.dup, 1) := by decide +kernel
theorem d_Law_law_4 : decode code 4 = .ok (.invokespecial 38, 3) := by decide +kernel
theorem d_Law_law_7 : decode code 7 = .ok (.astore_n 1, 1) := by decide +kernel
theorem d_Law_law_8 : decode code 8 = .ok (.new 39, 3) := by decide +kernel
theorem d_Law_law_11 : decode code 11 = .ok (.dup, 1) := by decide +kernel
theorem d_Law_law_12 : decode code 12 = .ok (.invokespecial 41, 3) := by decide +kernel
theorem d_Law_law_15 : decode code 15 = .ok (.astore_n 2, 1) := by decide +kernel
theorem d_Law_law_16 : decode code 16 = .ok (.iconst 1, 1) := by decide +kernel
theorem d_Law_law_17 : decode code 17 = .ok (.newarray .long, 2) := by decide +kernel
theorem d_Law_law_19 : decode code 19 = .ok (.astore_n 3, 1) := by decide +kernel
theorem d_Law_law_20 : decode code 20 = .ok (.iconst 0, 1) := by decide +kernel
theorem d_Law_law_21 : decode code 21 = .ok (.istore 4, 2) := by decide +kernel
theorem d_Law_law_23 : decode code 23 = .ok (.iload 4, 2) := by decide +kernel
theorem d_Law_law_25 : decode code 25 = .ok (.aload_n 0, 1) := by decide +kernel
theorem d_Law_law_26 : decode code 26 = .ok (.arraylength, 1) := by decide +kernel
theorem d_Law_law_27 : decode code 27 = .ok (.iconst 5, 1) := by decide +kernel
theorem d_Law_law_28 : decode code 28 = .ok (.isub, 1) := by decide +kernel
theorem d_Law_law_29 : decode code 29 = .ok (.if_icmp .gt 510, 3) := by decide +kernel
theorem d_Law_law_32 : decode code 32 = .ok (.aload_n 0, 1) := by decide +kernel
theorem d_Law_law_33 : decode code 33 = .ok (.iload 4, 2) := by decide +kernel
theorem d_Law_law_35 : decode code 35 = .ok (.iaload, 1) := by decide +kernel
theorem d_Law_law_36 : decode code 36 = .ok (.bipush 7, 2) := by decide +kernel
theorem d_Law_law_38 : decode code 38 = .ok (.iand, 1) := by decide +kernel
theorem d_Law_law_39 : decode code 39 = .ok (.tableswitch 494 0 7 #[45, 145, 158, 270, 314, 327, 383, 438], 45) := by decide +kernel
theorem d_Law_law_84 : decode code 84 = .ok (.aload_n 1, 1) := by decide +kernel
theorem d_Law_law_85 : decode code 85 = .ok (.aload_n 0, 1) := by decide +kernel
theorem d_Law_law_86 : decode code 86 = .ok (.iload 4, 2) := by decide +kernel
theorem d_Law_law_88 : decode code 88 = .ok (.iconst 1, 1) := by decide +kernel
theorem d_Law_law_89 : decode code 89 = .ok (.iadd, 1) := by decide +kernel
theorem d_Law_law_90 : decode code 90 = .ok (.iaload, 1) := by decide +kernel
theorem d_Law_law_91 : decode code 91 = .ok (.i2l, 1) := by decide +kernel
theorem d_Law_law_92 : decode code 92 = .ok (.bipush 32, 2) := by decide +kernel
theorem d_Law_law_94 : decode code 94 = .ok (.lshl, 1) := by decide +kernel
theorem d_Law_law_95 : decode code 95 = .ok (.aload_n 0, 1) := by decide +kernel
theorem d_Law_law_96 : decode code 96 = .ok (.iload 4, 2) := by decide +kernel
theorem d_Law_law_98 : decode code 98 = .ok (.iconst 2, 1) := by decide +kernel
theorem d_Law_law_99 : decode code 99 = .ok (.iadd, 1) := by decide +kernel
theorem d_Law_law_100 : decode code 100 = .ok (.iaload, 1) := by decide +kernel
theorem d_Law_law_101 : decode code 101 = .ok (.i2l, 1) := by decide +kernel
theorem d_Law_law_102 : decode code 102 = .ok (.ldc2_w 42, 3) := by decide +kernel
theorem d_Law_law_105 : decode code 105 = .ok (.land, 1) := by decide +kernel
theorem d_Law_law_106 : decode code 106 = .ok (.lor, 1) := by decide +kernel
theorem d_Law_law_107 : decode code 107 = .ok (.aload_n 0, 1) := by decide +kernel
theorem d_Law_law_108 : decode code 108 = .ok (.iload 4, 2) := by decide +kernel
theorem d_Law_law_110 : decode code 110 = .ok (.iconst 3, 1) := by decide +kernel
theorem d_Law_law_111 : decode code 111 = .ok (.iadd, 1) := by decide +kernel
theorem d_Law_law_112 : decode code 112 = .ok (.iaload, 1) := by decide +kernel
theorem d_Law_law_113 : decode code 113 = .ok (.aload_n 3, 1) := by decide +kernel
theorem d_Law_law_114 : decode code 114 = .ok (.invokestatic 44, 3) := by decide +kernel
theorem d_Law_law_117 : decode code 117 = .ok (.istore 5, 2) := by decide +kernel
theorem d_Law_law_119 : decode code 119 = .ok (.aload_n 2, 1) := by decide +kernel
theorem d_Law_law_120 : decode code 120 = .ok (.aload_n 0, 1) := by decide +kernel
theorem d_Law_law_121 : decode code 121 = .ok (.iload 4, 2) := by decide +kernel
theorem d_Law_law_123 : decode code 123 = .ok (.iconst 1, 1) := by decide +kernel
theorem d_Law_law_124 : decode code 124 = .ok (.iadd, 1) := by decide +kernel
theorem d_Law_law_125 : decode code 125 = .ok (.iaload, 1) := by decide +kernel
theorem d_Law_law_126 : decode code 126 = .ok (.i2l, 1) := by decide +kernel
theorem d_Law_law_127 : decode code 127 = .ok (.bipush 32, 2) := by decide +kernel
theorem d_Law_law_129 : decode code 129 = .ok (.lshl, 1) := by decide +kernel
theorem d_Law_law_130 : decode code 130 = .ok (.aload_n 0, 1) := by decide +kernel
theorem d_Law_law_131 : decode code 131 = .ok (.iload 4, 2) := by decide +kernel
theorem d_Law_law_133 : decode code 133 = .ok (.iconst 2, 1) := by decide +kernel
theorem d_Law_law_134 : decode code 134 = .ok (.iadd, 1) := by decide +kernel
theorem d_Law_law_135 : decode code 135 = .ok (.iaload, 1) := by decide +kernel
theorem d_Law_law_136 : decode code 136 = .ok (.i2l, 1) := by decide +kernel
theorem d_Law_law_137 : decode code 137 = .ok (.ldc2_w 42, 3) := by decide +kernel
theorem d_Law_law_140 : decode code 140 = .ok (.land, 1) := by decide +kernel
theorem d_Law_law_141 : decode code 141 = .ok (.lor, 1) := by decide +kernel
theorem d_Law_law_142 : decode code 142 = .ok (.aload_n 0, 1) := by decide +kernel
theorem d_Law_law_143 : decode code 143 = .ok (.iload 4, 2) := by decide +kernel
theorem d_Law_law_145 : decode code 145 = .ok (.iconst 3, 1) := by decide +kernel
theorem d_Law_law_146 : decode code 146 = .ok (.iadd, 1) := by decide +kernel
theorem d_Law_law_147 : decode code 147 = .ok (.iaload, 1) := by decide +kernel
theorem d_Law_law_148 : decode code 148 = .ok (.invokevirtual 49, 3) := by decide +kernel
theorem d_Law_law_151 : decode code 151 = .ok (.istore 6, 2) := by decide +kernel
theorem d_Law_law_153 : decode code 153 = .ok (.aload_n 2, 1) := by decide +kernel
theorem d_Law_law_154 : decode code 154 = .ok (.invokevirtual 50, 3) := by decide +kernel
theorem d_Law_law_157 : decode code 157 = .ok (.iload 5, 2) := by decide +kernel
theorem d_Law_law_159 : decode code 159 = .ok (.if_icmp .eq 5, 3) := by decide +kernel
theorem d_Law_law_162 : decode code 162 = .ok (.iconst 0, 1) := by decide +kernel
theorem d_Law_law_163 : decode code 163 = .ok (.ireturn, 1) := by decide +kernel
theorem d_Law_law_164 : decode code 164 = .ok (.iload 5, 2) := by decide +kernel
theorem d_Law_law_166 : decode code 166 = .ok (.ifCond .ne 15, 3) := by decide +kernel
theorem d_Law_law_169 : decode code 169 = .ok (.aload_n 3, 1) := by decide +kernel
theorem d_Law_law_170 : decode code 170 = .ok (.iconst 0, 1) := by decide +kernel
theorem d_Law_law_171 : decode code 171 = .ok (.laload, 1) := by decide +kernel
theorem d_Law_law_172 : decode code 172 = .ok (.iload 6, 2) := by decide +kernel
theorem d_Law_law_174 : decode code 174 = .ok (.i2l, 1) := by decide +kernel
theorem d_Law_law_175 : decode code 175 = .ok (.lcmp, 1) := by decide +kernel
theorem d_Law_law_176 : decode code 176 = .ok (.ifCond .eq 5, 3) := by decide +kernel
theorem d_Law_law_179 : decode code 179 = .ok (.iconst 0, 1) := by decide +kernel
theorem d_Law_law_180 : decode code 180 = .ok (.ireturn, 1) := by decide +kernel
theorem d_Law_law_181 : decode code 181 = .ok (.goto 352, 3) := by decide +kernel
theorem d_Law_law_184 : decode code 184 = .ok (.aload_n 1, 1) := by decide +kernel
