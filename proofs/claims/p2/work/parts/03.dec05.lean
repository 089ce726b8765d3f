theorem d_Blocks_lay_74 : decode b_Blocks_lay 74 = .ok (.invokevirtual 48, 3) := by decide +kernel
theorem d_Blocks_lay_77 : decode b_Blocks_lay 77 = .ok (.iload_n 3, 1) := by decide +kernel
theorem d_Blocks_lay_78 : decode b_Blocks_lay 78 = .ok (.invokevirtual 64, 3) := by decide +kernel
theorem d_Blocks_lay_81 : decode b_Blocks_lay 81 = .ok (.invokevirtual 67, 3) := by decide +kernel
theorem d_Blocks_lay_84 : decode b_Blocks_lay 84 = .ok (.istore 7, 2) := by decide +kernel
theorem d_Blocks_lay_86 : decode b_Blocks_lay 86 = .ok (.iload 7, 2) := by decide +kernel
theorem d_Blocks_lay_88 : decode b_Blocks_lay 88 = .ok (.ifCond .ne 9, 3) := by decide +kernel
theorem d_Blocks_lay_91 : decode b_Blocks_lay 91 = .ok (.aload_n 1, 1) := by decide +kernel
theorem d_Blocks_lay_92 : decode b_Blocks_lay 92 = .ok (.iload_n 3, 1) := by decide +kernel
theorem d_Blocks_lay_93 : decode b_Blocks_lay 93 = .ok (.invokevirtual 71, 3) := by decide +kernel
theorem d_Blocks_lay_96 : decode b_Blocks_lay 96 = .ok (.ireturn, 1) := by decide +kernel
theorem d_Blocks_lay_97 : decode b_Blocks_lay 97 = .ok (.aload_n 0, 1) := by decide +kernel
theorem d_Blocks_lay_98 : decode b_Blocks_lay 98 = .ok (.getfield 23, 3) := by decide +kernel
theorem d_Blocks_lay_101 : decode b_Blocks_lay 101 = .ok (.iload 4, 2) := by decide +kernel
theorem d_Blocks_lay_103 : decode b_Blocks_lay 103 = .ok (.lload 5, 2) := by decide +kernel
theorem d_Blocks_lay_105 : decode b_Blocks_lay 105 = .ok (.invokevirtual 74, 3) := by decide +kernel
theorem d_Blocks_lay_108 : decode b_Blocks_lay 108 = .ok (.iinc 3 1, 3) := by decide +kernel
theorem d_Blocks_lay_111 : decode b_Blocks_lay 111 = .ok (.goto (-90), 3) := by decide +kernel
theorem d_Blocks_lay_114 : decode b_Blocks_lay 114 = .ok (.aload_n 0, 1) := by decide +kernel
theorem d_Blocks_lay_115 : decode b_Blocks_lay 115 = .ok (.aload_n 1, 1) := by decide +kernel
theorem d_Blocks_lay_116 : decode b_Blocks_lay 116 = .ok (.aload_n 1, 1) := by decide +kernel
theorem d_Blocks_lay_117 : decode b_Blocks_lay 117 = .ok (.invokevirtual 39, 3) := by decide +kernel
theorem d_Blocks_lay_120 : decode b_Blocks_lay 120 = .ok (.invokevirtual 44, 3) := by decide +kernel
theorem d_Blocks_lay_123 : decode b_Blocks_lay 123 = .ok (.aload_n 0, 1) := by decide +kernel
theorem d_Blocks_lay_124 : decode b_Blocks_lay 124 = .ok (.iconst 1, 1) := by decide +kernel
theorem d_Blocks_lay_125 : decode b_Blocks_lay 125 = .ok (.invokevirtual 78, 3) := by decide +kernel
theorem d_Blocks_lay_128 : decode b_Blocks_lay 128 = .ok (.aload_n 0, 1) := by decide +kernel
theorem d_Blocks_lay_129 : decode b_Blocks_lay 129 = .ok (.getfield 12, 3) := by decide +kernel
theorem d_Blocks_lay_132 : decode b_Blocks_lay 132 = .ok (.invokevirtual 82, 3) := by decide +kernel
theorem d_Blocks_lay_135 : decode b_Blocks_lay 135 = .ok (.ifCond .ne 7, 3) := by decide +kernel
theorem d_Blocks_lay_138 : decode b_Blocks_lay 138 = .ok (.iconst (-1), 1) := by decide +kernel
theorem d_Blocks_lay_139 : decode b_Blocks_lay 139 = .ok (.goto 4, 3) := by decide +kernel
theorem d_Blocks_lay_142 : decode b_Blocks_lay 142 = .ok (.iload_n 2, 1) := by decide +kernel
theorem d_Blocks_lay_143 : decode b_Blocks_lay 143 = .ok (.ireturn, 1) := by decide +kernel
theorem d_Blocks_putBefore_0 : decode b_Blocks_putBefore 0 = .ok (.aload_n 1, 1) := by decide +kernel
theorem d_Blocks_putBefore_1 : decode b_Blocks_putBefore 1 = .ok (.invokevirtual 48, 3) := by decide +kernel
theorem d_Blocks_putBefore_4 : decode b_Blocks_putBefore 4 = .ok (.iload_n 2, 1) := by decide +kernel
theorem d_Blocks_putBefore_5 : decode b_Blocks_putBefore 5 = .ok (.invokestatic 83, 3) := by decide +kernel
theorem d_Blocks_putBefore_8 : decode b_Blocks_putBefore 8 = .ok (.ifCond .eq 15, 3) := by decide +kernel
theorem d_Blocks_putBefore_11 : decode b_Blocks_putBefore 11 = .ok (.aload_n 0, 1) := by decide +kernel
theorem d_Blocks_putBefore_12 : decode b_Blocks_putBefore 12 = .ok (.aload_n 1, 1) := by decide +kernel
theorem d_Blocks_putBefore_13 : decode b_Blocks_putBefore 13 = .ok (.iload_n 2, 1) := by decide +kernel
theorem d_Blocks_putBefore_14 : decode b_Blocks_putBefore 14 = .ok (.invokevirtual 87, 3) := by decide +kernel
theorem d_Blocks_putBefore_17 : decode b_Blocks_putBefore 17 = .ok (.invokevirtual 90, 3) := by decide +kernel
theorem d_Blocks_putBefore_20 : decode b_Blocks_putBefore 20 = .ok (.goto 24, 3) := by decide +kernel
theorem d_Blocks_putBefore_23 : decode b_Blocks_putBefore 23 = .ok (.iload_n 2, 1) := by decide +kernel
theorem d_Blocks_putBefore_24 : decode b_Blocks_putBefore 24 = .ok (.ifCond .le 20, 3) := by decide +kernel
theorem d_Blocks_putBefore_27 : decode b_Blocks_putBefore 27 = .ok (.aload_n 1, 1) := by decide +kernel
theorem d_Blocks_putBefore_28 : decode b_Blocks_putBefore 28 = .ok (.iload_n 2, 1) := by decide +kernel
theorem d_Blocks_putBefore_29 : decode b_Blocks_putBefore 29 = .ok (.invokevirtual 93, 3) := by decide +kernel
theorem d_Blocks_putBefore_32 : decode b_Blocks_putBefore 32 = .ok (.ifCond .eq 12, 3) := by decide +kernel
theorem d_Blocks_putBefore_35 : decode b_Blocks_putBefore 35 = .ok (.aload_n 0, 1) := by decide +kernel
theorem d_Blocks_putBefore_36 : decode b_Blocks_putBefore 36 = .ok (.aload_n 1, 1) := by decide +kernel
theorem d_Blocks_putBefore_37 : decode b_Blocks_putBefore 37 = .ok (.iload_n 2, 1) := by decide +kernel
theorem d_Blocks_putBefore_38 : decode b_Blocks_putBefore 38 = .ok (.invokevirtual 87, 3) := by decide +kernel
theorem d_Blocks_putBefore_41 : decode b_Blocks_putBefore 41 = .ok (.invokevirtual 96, 3) := by decide +kernel
theorem d_Blocks_putBefore_44 : decode b_Blocks_putBefore 44 = .ok (.return_, 1) := by decide +kernel
theorem d_Blocks_beginsBlock_0 : decode b_Blocks_beginsBlock 0 = .ok (.aload_n 0, 1) := by decide +kernel
theorem d_Blocks_beginsBlock_1 : decode b_Blocks_beginsBlock 1 = .ok (.iload_n 1, 1) := by decide +kernel
theorem d_Blocks_beginsBlock_2 : decode b_Blocks_beginsBlock 2 = .ok (.bipush 123, 2) := by decide +kernel
theorem d_Blocks_beginsBlock_4 : decode b_Blocks_beginsBlock 4 = .ok (.invokevirtual 99, 3) := by decide +kernel
theorem d_Blocks_beginsBlock_7 : decode b_Blocks_beginsBlock 7 = .ok (.ifCond .eq 5, 3) := by decide +kernel
theorem d_Blocks_beginsBlock_10 : decode b_Blocks_beginsBlock 10 = .ok (.iconst 0, 1) := by decide +kernel
theorem d_Blocks_beginsBlock_11 : decode b_Blocks_beginsBlock 11 = .ok (.ireturn, 1) := by decide +kernel
theorem d_Blocks_beginsBlock_12 : decode b_Blocks_beginsBlock 12 = .ok (.aload_n 0, 1) := by decide +kernel
theorem d_Blocks_beginsBlock_13 : decode b_Blocks_beginsBlock 13 = .ok (.iload_n 1, 1) := by decide +kernel
theorem d_Blocks_beginsBlock_14 : decode b_Blocks_beginsBlock 14 = .ok (.iconst 1, 1) := by decide +kernel
theorem d_Blocks_beginsBlock_15 : decode b_Blocks_beginsBlock 15 = .ok (.isub, 1) := by decide +kernel
theorem d_Blocks_beginsBlock_16 : decode b_Blocks_beginsBlock 16 = .ok (.invokevirtual 64, 3) := by decide +kernel
theorem d_Blocks_beginsBlock_19 : decode b_Blocks_beginsBlock 19 = .ok (.tableswitch 31 0 3 #[29, 29, 29, 29], 29) := by decide +kernel
theorem d_Blocks_beginsBlock_48 : decode b_Blocks_beginsBlock 48 = .ok (.iconst 1, 1) := by decide +kernel
theorem d_Blocks_beginsBlock_49 : decode b_Blocks_beginsBlock 49 = .ok (.ireturn, 1) := by decide +kernel
theorem d_Blocks_beginsBlock_50 : decode b_Blocks_beginsBlock 50 = .ok (.iload_n 1, 1) := by decide +kernel
theorem d_Blocks_beginsBlock_51 : decode b_Blocks_beginsBlock 51 = .ok (.ifCond .ne 7, 3) := by decide +kernel
theorem d_Blocks_beginsBlock_54 : decode b_Blocks_beginsBlock 54 = .ok (.iconst 1, 1) := by decide +kernel
theorem d_Blocks_beginsBlock_55 : decode b_Blocks_beginsBlock 55 = .ok (.goto 4, 3) := by decide +kernel
theorem d_Blocks_beginsBlock_58 : decode b_Blocks_beginsBlock 58 = .ok (.iconst 0, 1) := by decide +kernel
theorem d_Blocks_beginsBlock_59 : decode b_Blocks_beginsBlock 59 = .ok (.ireturn, 1) := by decide +kernel
theorem d_Blocks_begin_0 : decode b_Blocks_begin 0 = .ok (.aload_n 0, 1) := by decide +kernel
theorem d_Blocks_begin_1 : decode b_Blocks_begin 1 = .ok (.dup, 1) := by decide +kernel
theorem d_Blocks_begin_2 : decode b_Blocks_begin 2 = .ok (.getfield 27, 3) := by decide +kernel
theorem d_Blocks_begin_5 : decode b_Blocks_begin 5 = .ok (.iconst 1, 1) := by decide +kernel
theorem d_Blocks_begin_6 : decode b_Blocks_begin 6 = .ok (.iadd, 1) := by decide +kernel
theorem d_Blocks_begin_7 : decode b_Blocks_begin 7 = .ok (.putfield 27, 3) := by decide +kernel
theorem d_Blocks_begin_10 : decode b_Blocks_begin 10 = .ok (.aload_n 0, 1) := by decide +kernel
theorem d_Blocks_begin_11 : decode b_Blocks_begin 11 = .ok (.bipush 123, 2) := by decide +kernel
theorem d_Blocks_begin_13 : decode b_Blocks_begin 13 = .ok (.invokevirtual 103, 3) := by decide +kernel
theorem d_Blocks_begin_16 : decode b_Blocks_begin 16 = .ok (.iload_n 1, 1) := by decide +kernel
theorem d_Blocks_begin_17 : decode b_Blocks_begin 17 = .ok (.aload_n 0, 1) := by decide +kernel
theorem d_Blocks_begin_18 : decode b_Blocks_begin 18 = .ok (.getfield 12, 3) := by decide +kernel
theorem d_Blocks_begin_21 : decode b_Blocks_begin 21 = .ok (.invokevirtual 107, 3) := by decide +kernel
theorem d_Blocks_begin_24 : decode b_Blocks_begin 24 = .ok (.if_icmp .le 14, 3) := by decide +kernel
theorem d_Blocks_begin_27 : decode b_Blocks_begin 27 = .ok (.aload_n 0, 1) := by decide +kernel
theorem d_Blocks_begin_28 : decode b_Blocks_begin 28 = .ok (.getfield 12, 3) := by decide +kernel
theorem d_Blocks_begin_31 : decode b_Blocks_begin 31 = .ok (.iload_n 1, 1) := by decide +kernel
theorem d_Blocks_begin_32 : decode b_Blocks_begin 32 = .ok (.invokevirtual 110, 3) := by decide +kernel
theorem d_Blocks_begin_35 : decode b_Blocks_begin 35 = .ok (.goto 18, 3) := by decide +kernel
theorem d_Blocks_begin_38 : decode b_Blocks_begin 38 = .ok (.aload_n 0, 1) := by decide +kernel
theorem d_Blocks_begin_39 : decode b_Blocks_begin 39 = .ok (.bipush 125, 2) := by decide +kernel
theorem d_Blocks_begin_41 : decode b_Blocks_begin 41 = .ok (.invokevirtual 103, 3) := by decide +kernel
theorem d_Blocks_begin_44 : decode b_Blocks_begin 44 = .ok (.iload_n 1, 1) := by decide +kernel
theorem d_Blocks_begin_45 : decode b_Blocks_begin 45 = .ok (.ifCond .le 8, 3) := by decide +kernel
theorem d_Blocks_begin_48 : decode b_Blocks_begin 48 = .ok (.aload_n 0, 1) := by decide +kernel
theorem d_Blocks_begin_49 : decode b_Blocks_begin 49 = .ok (.iload_n 1, 1) := by decide +kernel
theorem d_Blocks_begin_50 : decode b_Blocks_begin 50 = .ok (.invokevirtual 96, 3) := by decide +kernel
theorem d_Blocks_begin_53 : decode b_Blocks_begin 53 = .ok (.return_, 1) := by decide +kernel
theorem d_Blocks_mark_0 : decode b_Blocks_mark 0 = .ok (.aload_n 0, 1) := by decide +kernel
theorem d_Blocks_mark_1 : decode b_Blocks_mark 1 = .ok (.getfield 12, 3) := by decide +kernel
theorem d_Blocks_mark_4 : decode b_Blocks_mark 4 = .ok (.invokevirtual 82, 3) := by decide +kernel
theorem d_Blocks_mark_7 : decode b_Blocks_mark 7 = .ok (.istore_n 2, 1) := by decide +kernel
theorem d_Blocks_mark_8 : decode b_Blocks_mark 8 = .ok (.iload_n 2, 1) := by decide +kernel
theorem d_Blocks_mark_9 : decode b_Blocks_mark 9 = .ok (.ifCond .le 40, 3) := by decide +kernel
theorem d_Blocks_mark_12 : decode b_Blocks_mark 12 = .ok (.aload_n 0, 1) := by decide +kernel
theorem d_Blocks_mark_13 : decode b_Blocks_mark 13 = .ok (.getfield 12, 3) := by decide +kernel
theorem d_Blocks_mark_16 : decode b_Blocks_mark 16 = .ok (.invokevirtual 113, 3) := by decide +kernel
theorem d_Blocks_mark_19 : decode b_Blocks_mark 19 = .ok (.iload_n 1, 1) := by decide +kernel
theorem d_Blocks_mark_20 : decode b_Blocks_mark 20 = .ok (.if_icmp .le 29, 3) := by decide +kernel
theorem d_Blocks_mark_23 : decode b_Blocks_mark 23 = .ok (.aload_n 0, 1) := by decide +kernel
theorem d_Blocks_mark_24 : decode b_Blocks_mark 24 = .ok (.getfield 12, 3) := by decide +kernel
theorem d_Blocks_mark_27 : decode b_Blocks_mark 27 = .ok (.invokevirtual 116, 3) := by decide +kernel
theorem d_Blocks_mark_30 : decode b_Blocks_mark 30 = .ok (.aload_n 0, 1) := by decide +kernel
theorem d_Blocks_mark_31 : decode b_Blocks_mark 31 = .ok (.bipush 125, 2) := by decide +kernel
theorem d_Blocks_mark_33 : decode b_Blocks_mark 33 = .ok (.invokevirtual 103, 3) := by decide +kernel
theorem d_Blocks_mark_36 : decode b_Blocks_mark 36 = .ok (.aload_n 0, 1) := by decide +kernel
theorem d_Blocks_mark_37 : decode b_Blocks_mark 37 = .ok (.getfield 12, 3) := by decide +kernel
theorem d_Blocks_mark_40 : decode b_Blocks_mark 40 = .ok (.invokevirtual 119, 3) := by decide +kernel
theorem d_Blocks_mark_43 : decode b_Blocks_mark 43 = .ok (.iinc 2 (-1), 3) := by decide +kernel
theorem d_Blocks_mark_46 : decode b_Blocks_mark 46 = .ok (.goto (-38), 3) := by decide +kernel
theorem d_Blocks_mark_49 : decode b_Blocks_mark 49 = .ok (.aload_n 0, 1) := by decide +kernel
theorem d_Blocks_mark_50 : decode b_Blocks_mark 50 = .ok (.getfield 12, 3) := by decide +kernel
theorem d_Blocks_mark_53 : decode b_Blocks_mark 53 = .ok (.invokevirtual 113, 3) := by decide +kernel
theorem d_Blocks_mark_56 : decode b_Blocks_mark 56 = .ok (.iload_n 1, 1) := by decide +kernel
theorem d_Blocks_mark_57 : decode b_Blocks_mark 57 = .ok (.if_icmp .ne 16, 3) := by decide +kernel
theorem d_Blocks_mark_60 : decode b_Blocks_mark 60 = .ok (.aload_n 0, 1) := by decide +kernel
theorem d_Blocks_mark_61 : decode b_Blocks_mark 61 = .ok (.getfield 12, 3) := by decide +kernel
theorem d_Blocks_mark_64 : decode b_Blocks_mark 64 = .ok (.invokevirtual 116, 3) := by decide +kernel
theorem d_Blocks_mark_67 : decode b_Blocks_mark 67 = .ok (.aload_n 0, 1) := by decide +kernel
theorem d_Blocks_mark_68 : decode b_Blocks_mark 68 = .ok (.bipush 59, 2) := by decide +kernel
theorem d_Blocks_mark_70 : decode b_Blocks_mark 70 = .ok (.invokevirtual 103, 3) := by decide +kernel
theorem d_Blocks_mark_73 : decode b_Blocks_mark 73 = .ok (.return_, 1) := by decide +kernel
theorem d_Blocks_putIn_0 : decode b_Blocks_putIn 0 = .ok (.aload_n 0, 1) := by decide +kernel
theorem d_Blocks_putIn_1 : decode b_Blocks_putIn 1 = .ok (.getfield 23, 3) := by decide +kernel
theorem d_Blocks_putIn_4 : decode b_Blocks_putIn 4 = .ok (.iconst 4, 1) := by decide +kernel
theorem d_Blocks_putIn_5 : decode b_Blocks_putIn 5 = .ok (.iload_n 1, 1) := by decide +kernel
theorem d_Blocks_putIn_6 : decode b_Blocks_putIn 6 = .ok (.i2l, 1) := by decide +kernel
theorem d_Blocks_putIn_7 : decode b_Blocks_putIn 7 = .ok (.invokevirtual 74, 3) := by decide +kernel
theorem d_Blocks_putIn_10 : decode b_Blocks_putIn 10 = .ok (.return_, 1) := by decide +kernel
theorem d_Blocks_passWord_0 : decode b_Blocks_passWord 0 = .ok (.iload_n 1, 1) := by decide +kernel
theorem d_Blocks_passWord_1 : decode b_Blocks_passWord 1 = .ok (.tableswitch 125 0 8 #[51, 125, 125, 112, 119, 61, 83, 105, 72], 51) := by decide +kernel
theorem d_Blocks_passWord_52 : decode b_Blocks_passWord 52 = .ok (.aload_n 0, 1) := by decide +kernel
theorem d_Blocks_passWord_53 : decode b_Blocks_passWord 53 = .ok (.getfield 12, 3) := by decide +kernel
theorem d_Blocks_passWord_56 : decode b_Blocks_passWord 56 = .ok (.iconst (-1), 1) := by decide +kernel
theorem d_Blocks_passWord_57 : decode b_Blocks_passWord 57 = .ok (.invokevirtual 110, 3) := by decide +kernel
theorem d_Blocks_passWord_60 : decode b_Blocks_passWord 60 = .ok (.iconst 1, 1) := by decide +kernel
theorem d_Blocks_passWord_61 : decode b_Blocks_passWord 61 = .ok (.ireturn, 1) := by decide +kernel
theorem d_Blocks_passWord_62 : decode b_Blocks_passWord 62 = .ok (.aload_n 0, 1) := by decide +kernel
theorem d_Blocks_passWord_63 : decode b_Blocks_passWord 63 = .ok (.getfield 12, 3) := by decide +kernel
theorem d_Blocks_passWord_66 : decode b_Blocks_passWord 66 = .ok (.bipush (-2), 2) := by decide +kernel
theorem d_Blocks_passWord_68 : decode b_Blocks_passWord 68 = .ok (.invokevirtual 110, 3) := by decide +kernel
theorem d_Blocks_passWord_71 : decode b_Blocks_passWord 71 = .ok (.iconst 1, 1) := by decide +kernel
theorem d_Blocks_passWord_72 : decode b_Blocks_passWord 72 = .ok (.ireturn, 1) := by decide +kernel
theorem d_Blocks_passWord_73 : decode b_Blocks_passWord 73 = .ok (.aload_n 0, 1) := by decide +kernel
theorem d_Blocks_passWord_74 : decode b_Blocks_passWord 74 = .ok (.getfield 12, 3) := by decide +kernel
theorem d_Blocks_passWord_77 : decode b_Blocks_passWord 77 = .ok (.bipush (-4), 2) := by decide +kernel
theorem d_Blocks_passWord_79 : decode b_Blocks_passWord 79 = .ok (.invokevirtual 110, 3) := by decide +kernel
theorem d_Blocks_passWord_82 : decode b_Blocks_passWord 82 = .ok (.iconst 1, 1) := by decide +kernel
theorem d_Blocks_passWord_83 : decode b_Blocks_passWord 83 = .ok (.ireturn, 1) := by decide +kernel
theorem d_Blocks_passWord_84 : decode b_Blocks_passWord 84 = .ok (.aload_n 0, 1) := by decide +kernel
theorem d_Blocks_passWord_85 : decode b_Blocks_passWord 85 = .ok (.bipush (-2), 2) := by decide +kernel
theorem d_Blocks_passWord_87 : decode b_Blocks_passWord 87 = .ok (.invokevirtual 122, 3) := by decide +kernel
theorem d_Blocks_passWord_90 : decode b_Blocks_passWord 90 = .ok (.istore_n 2, 1) := by decide +kernel
theorem d_Blocks_passWord_91 : decode b_Blocks_passWord 91 = .ok (.iload_n 2, 1) := by decide +kernel
theorem d_Blocks_passWord_92 : decode b_Blocks_passWord 92 = .ok (.ifCond .eq 12, 3) := by decide +kernel
theorem d_Blocks_passWord_95 : decode b_Blocks_passWord 95 = .ok (.aload_n 0, 1) := by decide +kernel
theorem d_Blocks_passWord_96 : decode b_Blocks_passWord 96 = .ok (.getfield 12, 3) := by decide +kernel
theorem d_Blocks_passWord_99 : decode b_Blocks_passWord 99 = .ok (.bipush (-3), 2) := by decide +kernel
theorem d_Blocks_passWord_101 : decode b_Blocks_passWord 101 = .ok (.invokevirtual 110, 3) := by decide +kernel
theorem d_Blocks_passWord_104 : decode b_Blocks_passWord 104 = .ok (.iload_n 2, 1) := by decide +kernel
theorem d_Blocks_passWord_105 : decode b_Blocks_passWord 105 = .ok (.ireturn, 1) := by decide +kernel
theorem d_Blocks_passWord_106 : decode b_Blocks_passWord 106 = .ok (.aload_n 0, 1) := by decide +kernel
theorem d_Blocks_passWord_107 : decode b_Blocks_passWord 107 = .ok (.bipush (-3), 2) := by decide +kernel
theorem d_Blocks_passWord_109 : decode b_Blocks_passWord 109 = .ok (.invokevirtual 122, 3) := by decide +kernel
theorem d_Blocks_passWord_112 : decode b_Blocks_passWord 112 = .ok (.ireturn, 1) := by decide +kernel
theorem d_Blocks_passWord_113 : decode b_Blocks_passWord 113 = .ok (.aload_n 0, 1) := by decide +kernel
theorem d_Blocks_passWord_114 : decode b_Blocks_passWord 114 = .ok (.bipush (-4), 2) := by decide +kernel
theorem d_Blocks_passWord_116 : decode b_Blocks_passWord 116 = .ok (.invokevirtual 122, 3) := by decide +kernel
theorem d_Blocks_passWord_119 : decode b_Blocks_passWord 119 = .ok (.ireturn, 1) := by decide +kernel
theorem d_Blocks_passWord_120 : decode b_Blocks_passWord 120 = .ok (.aload_n 0, 1) := by decide +kernel
theorem d_Blocks_passWord_121 : decode b_Blocks_passWord 121 = .ok (.iconst (-1), 1) := by decide +kernel
theorem d_Blocks_passWord_122 : decode b_Blocks_passWord 122 = .ok (.invokevirtual 122, 3) := by decide +kernel
theorem d_Blocks_passWord_125 : decode b_Blocks_passWord 125 = .ok (.ireturn, 1) := by decide +kernel
theorem d_Blocks_passWord_126 : decode b_Blocks_passWord 126 = .ok (.iconst 1, 1) := by decide +kernel
theorem d_Blocks_passWord_127 : decode b_Blocks_passWord 127 = .ok (.ireturn, 1) := by decide +kernel
theorem d_Blocks_passSign_0 : decode b_Blocks_passSign 0 = .ok (.iload_n 1, 1) := by decide +kernel
theorem d_Blocks_passSign_1 : decode b_Blocks_passSign 1 = .ok (.lookupswitch 141 #[(40, 75), (41, 107), (44, 126), (59, 132), (91, 86), (93, 114), (123, 97), (125, 121)], 75) := by decide +kernel
theorem d_Blocks_passSign_76 : decode b_Blocks_passSign 76 = .ok (.aload_n 0, 1) := by decide +kernel
theorem d_Blocks_passSign_77 : decode b_Blocks_passSign 77 = .ok (.getfield 12, 3) := by decide +kernel
theorem d_Blocks_passSign_80 : decode b_Blocks_passSign 80 = .ok (.bipush (-5), 2) := by decide +kernel
theorem d_Blocks_passSign_82 : decode b_Blocks_passSign 82 = .ok (.invokevirtual 110, 3) := by decide +kernel
theorem d_Blocks_passSign_85 : decode b_Blocks_passSign 85 = .ok (.iconst 1, 1) := by decide +kernel
theorem d_Blocks_passSign_86 : decode b_Blocks_passSign 86 = .ok (.ireturn, 1) := by decide +kernel
theorem d_Blocks_passSign_87 : decode b_Blocks_passSign 87 = .ok (.aload_n 0, 1) := by decide +kernel
theorem d_Blocks_passSign_88 : decode b_Blocks_passSign 88 = .ok (.getfield 12, 3) := by decide +kernel
theorem d_Blocks_passSign_91 : decode b_Blocks_passSign 91 = .ok (.bipush (-6), 2) := by decide +kernel
theorem d_Blocks_passSign_93 : decode b_Blocks_passSign 93 = .ok (.invokevirtual 110, 3) := by decide +kernel
theorem d_Blocks_passSign_96 : decode b_Blocks_passSign 96 = .ok (.iconst 1, 1) := by decide +kernel
theorem d_Blocks_passSign_97 : decode b_Blocks_passSign 97 = .ok (.ireturn, 1) := by decide +kernel
theorem d_Blocks_passSign_98 : decode b_Blocks_passSign 98 = .ok (.aload_n 0, 1) := by decide +kernel
theorem d_Blocks_passSign_99 : decode b_Blocks_passSign 99 = .ok (.getfield 12, 3) := by decide +kernel
theorem d_Blocks_passSign_102 : decode b_Blocks_passSign 102 = .ok (.iconst 0, 1) := by decide +kernel
theorem d_Blocks_passSign_103 : decode b_Blocks_passSign 103 = .ok (.invokevirtual 110, 3) := by decide +kernel
theorem d_Blocks_passSign_106 : decode b_Blocks_passSign 106 = .ok (.iconst 1, 1) := by decide +kernel
theorem d_Blocks_passSign_107 : decode b_Blocks_passSign 107 = .ok (.ireturn, 1) := by decide +kernel
theorem d_Blocks_passSign_108 : decode b_Blocks_passSign 108 = .ok (.aload_n 0, 1) := by decide +kernel
theorem d_Blocks_passSign_109 : decode b_Blocks_passSign 109 = .ok (.bipush (-5), 2) := by decide +kernel
theorem d_Blocks_passSign_111 : decode b_Blocks_passSign 111 = .ok (.invokevirtual 122, 3) := by decide +kernel
theorem d_Blocks_passSign_114 : decode b_Blocks_passSign 114 = .ok (.ireturn, 1) := by decide +kernel
theorem d_Blocks_passSign_115 : decode b_Blocks_passSign 115 = .ok (.aload_n 0, 1) := by decide +kernel
theorem d_Blocks_passSign_116 : decode b_Blocks_passSign 116 = .ok (.bipush (-6), 2) := by decide +kernel
theorem d_Blocks_passSign_118 : decode b_Blocks_passSign 118 = .ok (.invokevirtual 122, 3) := by decide +kernel
theorem d_Blocks_passSign_121 : decode b_Blocks_passSign 121 = .ok (.ireturn, 1) := by decide +kernel
theorem d_Blocks_passSign_122 : decode b_Blocks_passSign 122 = .ok (.aload_n 0, 1) := by decide +kernel
theorem d_Blocks_passSign_123 : decode b_Blocks_passSign 123 = .ok (.invokevirtual 125, 3) := by decide +kernel
theorem d_Blocks_passSign_126 : decode b_Blocks_passSign 126 = .ok (.ireturn, 1) := by decide +kernel
theorem d_Blocks_passSign_127 : decode b_Blocks_passSign 127 = .ok (.aload_n 0, 1) := by decide +kernel
theorem d_Blocks_passSign_128 : decode b_Blocks_passSign 128 = .ok (.invokevirtual 129, 3) := by decide +kernel
theorem d_Blocks_passSign_131 : decode b_Blocks_passSign 131 = .ok (.iconst 1, 1) := by decide +kernel
theorem d_Blocks_passSign_132 : decode b_Blocks_passSign 132 = .ok (.ireturn, 1) := by decide +kernel
theorem d_Blocks_passSign_133 : decode b_Blocks_passSign 133 = .ok (.aload_n 0, 1) := by decide +kernel
theorem d_Blocks_passSign_134 : decode b_Blocks_passSign 134 = .ok (.getfield 12, 3) := by decide +kernel
theorem d_Blocks_passSign_137 : decode b_Blocks_passSign 137 = .ok (.invokevirtual 116, 3) := by decide +kernel
theorem d_Blocks_passSign_140 : decode b_Blocks_passSign 140 = .ok (.iconst 1, 1) := by decide +kernel
theorem d_Blocks_passSign_141 : decode b_Blocks_passSign 141 = .ok (.ireturn, 1) := by decide +kernel
theorem d_Blocks_passSign_142 : decode b_Blocks_passSign 142 = .ok (.iconst 1, 1) := by decide +kernel
theorem d_Blocks_passSign_143 : decode b_Blocks_passSign 143 = .ok (.ireturn, 1) := by decide +kernel
theorem d_Blocks_passBrace_0 : decode b_Blocks_passBrace 0 = .ok (.aload_n 0, 1) := by decide +kernel
theorem d_Blocks_passBrace_1 : decode b_Blocks_passBrace 1 = .ok (.getfield 12, 3) := by decide +kernel
theorem d_Blocks_passBrace_4 : decode b_Blocks_passBrace 4 = .ok (.invokevirtual 116, 3) := by decide +kernel
theorem d_Blocks_passBrace_7 : decode b_Blocks_passBrace 7 = .ok (.aload_n 0, 1) := by decide +kernel
theorem d_Blocks_passBrace_8 : decode b_Blocks_passBrace 8 = .ok (.getfield 12, 3) := by decide +kernel
theorem d_Blocks_passBrace_11 : decode b_Blocks_passBrace 11 = .ok (.invokevirtual 132, 3) := by decide +kernel
theorem d_Blocks_passBrace_14 : decode b_Blocks_passBrace 14 = .ok (.ifCond .ne 7, 3) := by decide +kernel
theorem d_Blocks_passBrace_17 : decode b_Blocks_passBrace 17 = .ok (.iconst 1, 1) := by decide +kernel
theorem d_Blocks_passBrace_18 : decode b_Blocks_passBrace 18 = .ok (.goto 4, 3) := by decide +kernel
theorem d_Blocks_passBrace_21 : decode b_Blocks_passBrace 21 = .ok (.iconst 0, 1) := by decide +kernel
theorem d_Blocks_passBrace_22 : decode b_Blocks_passBrace 22 = .ok (.istore_n 1, 1) := by decide +kernel
theorem d_Blocks_passBrace_23 : decode b_Blocks_passBrace 23 = .ok (.iload_n 1, 1) := by decide +kernel
theorem d_Blocks_passBrace_24 : decode b_Blocks_passBrace 24 = .ok (.ifCond .eq 10, 3) := by decide +kernel
theorem d_Blocks_passBrace_27 : decode b_Blocks_passBrace 27 = .ok (.aload_n 0, 1) := by decide +kernel
theorem d_Blocks_passBrace_28 : decode b_Blocks_passBrace 28 = .ok (.getfield 12, 3) := by decide +kernel
