theorem d_Model_emit_8 : decode b_Model_emit 8 = .ok (.iload_n 1, 1) := by decide +kernel
theorem d_Model_emit_9 : decode b_Model_emit 9 = .ok (.iastore, 1) := by decide +kernel
theorem d_Model_emit_10 : decode b_Model_emit 10 = .ok (.aload_n 0, 1) := by decide +kernel
theorem d_Model_emit_11 : decode b_Model_emit 11 = .ok (.getfield 40, 3) := by decide +kernel
theorem d_Model_emit_14 : decode b_Model_emit 14 = .ok (.aload_n 0, 1) := by decide +kernel
theorem d_Model_emit_15 : decode b_Model_emit 15 = .ok (.getfield 188, 3) := by decide +kernel
theorem d_Model_emit_18 : decode b_Model_emit 18 = .ok (.lload_n 2, 1) := by decide +kernel
theorem d_Model_emit_19 : decode b_Model_emit 19 = .ok (.lastore, 1) := by decide +kernel
theorem d_Model_emit_20 : decode b_Model_emit 20 = .ok (.aload_n 0, 1) := by decide +kernel
theorem d_Model_emit_21 : decode b_Model_emit 21 = .ok (.getfield 43, 3) := by decide +kernel
theorem d_Model_emit_24 : decode b_Model_emit 24 = .ok (.aload_n 0, 1) := by decide +kernel
theorem d_Model_emit_25 : decode b_Model_emit 25 = .ok (.getfield 188, 3) := by decide +kernel
theorem d_Model_emit_28 : decode b_Model_emit 28 = .ok (.iconst 0, 1) := by decide +kernel
theorem d_Model_emit_29 : decode b_Model_emit 29 = .ok (.iastore, 1) := by decide +kernel
theorem d_Model_emit_30 : decode b_Model_emit 30 = .ok (.aload_n 0, 1) := by decide +kernel
theorem d_Model_emit_31 : decode b_Model_emit 31 = .ok (.getfield 46, 3) := by decide +kernel
theorem d_Model_emit_34 : decode b_Model_emit 34 = .ok (.aload_n 0, 1) := by decide +kernel
theorem d_Model_emit_35 : decode b_Model_emit 35 = .ok (.getfield 188, 3) := by decide +kernel
theorem d_Model_emit_38 : decode b_Model_emit 38 = .ok (.iconst 0, 1) := by decide +kernel
theorem d_Model_emit_39 : decode b_Model_emit 39 = .ok (.iastore, 1) := by decide +kernel
theorem d_Model_emit_40 : decode b_Model_emit 40 = .ok (.aload_n 0, 1) := by decide +kernel
theorem d_Model_emit_41 : decode b_Model_emit 41 = .ok (.getfield 52, 3) := by decide +kernel
theorem d_Model_emit_44 : decode b_Model_emit 44 = .ok (.aload_n 0, 1) := by decide +kernel
theorem d_Model_emit_45 : decode b_Model_emit 45 = .ok (.getfield 188, 3) := by decide +kernel
theorem d_Model_emit_48 : decode b_Model_emit 48 = .ok (.iconst 0, 1) := by decide +kernel
theorem d_Model_emit_49 : decode b_Model_emit 49 = .ok (.bastore, 1) := by decide +kernel
theorem d_Model_emit_50 : decode b_Model_emit 50 = .ok (.aload_n 0, 1) := by decide +kernel
theorem d_Model_emit_51 : decode b_Model_emit 51 = .ok (.dup, 1) := by decide +kernel
theorem d_Model_emit_52 : decode b_Model_emit 52 = .ok (.getfield 188, 3) := by decide +kernel
theorem d_Model_emit_55 : decode b_Model_emit 55 = .ok (.iconst 1, 1) := by decide +kernel
theorem d_Model_emit_56 : decode b_Model_emit 56 = .ok (.iadd, 1) := by decide +kernel
theorem d_Model_emit_57 : decode b_Model_emit 57 = .ok (.putfield 188, 3) := by decide +kernel
theorem d_Model_emit_60 : decode b_Model_emit 60 = .ok (.return_, 1) := by decide +kernel
theorem d_Model_begin_0 : decode b_Model_begin 0 = .ok (.iload_n 1, 1) := by decide +kernel
theorem d_Model_begin_1 : decode b_Model_begin 1 = .ok (.aload_n 0, 1) := by decide +kernel
theorem d_Model_begin_2 : decode b_Model_begin 2 = .ok (.getfield 144, 3) := by decide +kernel
theorem d_Model_begin_5 : decode b_Model_begin 5 = .ok (.if_icmp .ge 12, 3) := by decide +kernel
theorem d_Model_begin_17 : decode b_Model_begin 17 = .ok (.iconst 0, 1) := by decide +kernel
theorem d_Model_begin_18 : decode b_Model_begin 18 = .ok (.istore_n 2, 1) := by decide +kernel
theorem d_Model_begin_19 : decode b_Model_begin 19 = .ok (.aload_n 0, 1) := by decide +kernel
theorem d_Model_begin_20 : decode b_Model_begin 20 = .ok (.getfield 191, 3) := by decide +kernel
theorem d_Model_begin_23 : decode b_Model_begin 23 = .ok (.iconst 1, 1) := by decide +kernel
theorem d_Model_begin_24 : decode b_Model_begin 24 = .ok (.isub, 1) := by decide +kernel
theorem d_Model_begin_25 : decode b_Model_begin 25 = .ok (.istore_n 3, 1) := by decide +kernel
theorem d_Model_begin_26 : decode b_Model_begin 26 = .ok (.iload_n 3, 1) := by decide +kernel
theorem d_Model_begin_27 : decode b_Model_begin 27 = .ok (.ifCond .lt 18, 3) := by decide +kernel
theorem d_Model_begin_45 : decode b_Model_begin 45 = .ok (.aload_n 0, 1) := by decide +kernel
theorem d_Model_begin_46 : decode b_Model_begin 46 = .ok (.iconst 4, 1) := by decide +kernel
theorem d_Model_begin_47 : decode b_Model_begin 47 = .ok (.ldc2_w 238, 3) := by decide +kernel
theorem d_Model_begin_50 : decode b_Model_begin 50 = .ok (.invokevirtual 208, 3) := by decide +kernel
theorem d_Model_begin_53 : decode b_Model_begin 53 = .ok (.aload_n 0, 1) := by decide +kernel
theorem d_Model_begin_54 : decode b_Model_begin 54 = .ok (.dup, 1) := by decide +kernel
theorem d_Model_begin_55 : decode b_Model_begin 55 = .ok (.getfield 240, 3) := by decide +kernel
theorem d_Model_begin_58 : decode b_Model_begin 58 = .ok (.iconst 1, 1) := by decide +kernel
theorem d_Model_begin_59 : decode b_Model_begin 59 = .ok (.iadd, 1) := by decide +kernel
theorem d_Model_begin_60 : decode b_Model_begin 60 = .ok (.putfield 240, 3) := by decide +kernel
theorem d_Model_begin_63 : decode b_Model_begin 63 = .ok (.iload_n 2, 1) := by decide +kernel
theorem d_Model_begin_64 : decode b_Model_begin 64 = .ok (.iload_n 3, 1) := by decide +kernel
theorem d_Model_begin_65 : decode b_Model_begin 65 = .ok (.ifCond .lt 12, 3) := by decide +kernel
theorem d_Model_begin_77 : decode b_Model_begin 77 = .ok (.iconst 0, 1) := by decide +kernel
theorem d_Model_begin_78 : decode b_Model_begin 78 = .ok (.if_icmp .le 11, 3) := by decide +kernel
theorem d_Model_begin_89 : decode b_Model_begin 89 = .ok (.aload_n 0, 1) := by decide +kernel
theorem d_Model_begin_90 : decode b_Model_begin 90 = .ok (.iconst 4, 1) := by decide +kernel
theorem d_Model_begin_91 : decode b_Model_begin 91 = .ok (.ldc2_w 206, 3) := by decide +kernel
theorem d_Model_begin_94 : decode b_Model_begin 94 = .ok (.invokevirtual 208, 3) := by decide +kernel
theorem d_Model_begin_97 : decode b_Model_begin 97 = .ok (.iload_n 1, 1) := by decide +kernel
theorem d_Model_begin_98 : decode b_Model_begin 98 = .ok (.aload_n 0, 1) := by decide +kernel
theorem d_Model_begin_99 : decode b_Model_begin 99 = .ok (.getfield 144, 3) := by decide +kernel
theorem d_Model_begin_102 : decode b_Model_begin 102 = .ok (.if_icmp .ge 8, 3) := by decide +kernel
theorem d_Model_begin_110 : decode b_Model_begin 110 = .ok (.return_, 1) := by decide +kernel
theorem d_Model_top_0 : decode b_Model_top 0 = .ok (.aload_n 0, 1) := by decide +kernel
theorem d_Model_top_1 : decode b_Model_top 1 = .ok (.getfield 191, 3) := by decide +kernel
theorem d_Model_top_4 : decode b_Model_top 4 = .ok (.ifCond .le 17, 3) := by decide +kernel
theorem d_Model_top_21 : decode b_Model_top 21 = .ok (.bipush (-11), 2) := by decide +kernel
theorem d_Model_top_23 : decode b_Model_top 23 = .ok (.ireturn, 1) := by decide +kernel
theorem d_Model_leave_0 : decode b_Model_leave 0 = .ok (.aload_n 0, 1) := by decide +kernel
theorem d_Model_leave_1 : decode b_Model_leave 1 = .ok (.invokevirtual 197, 3) := by decide +kernel
theorem d_Model_leave_4 : decode b_Model_leave 4 = .ok (.ifCond .gt 15, 3) := by decide +kernel
theorem d_Model_leave_7 : decode b_Model_leave 7 = .ok (.iload_n 1, 1) := by decide +kernel
theorem d_Model_leave_8 : decode b_Model_leave 8 = .ok (.ifCond .eq 39, 3) := by decide +kernel
theorem d_Model_leave_11 : decode b_Model_leave 11 = .ok (.aload_n 0, 1) := by decide +kernel
theorem d_Model_leave_12 : decode b_Model_leave 12 = .ok (.invokevirtual 197, 3) := by decide +kernel
theorem d_Model_leave_15 : decode b_Model_leave 15 = .ok (.iconst (-1), 1) := by decide +kernel
theorem d_Model_leave_16 : decode b_Model_leave 16 = .ok (.if_icmp .ne 31, 3) := by decide +kernel
theorem d_Model_leave_47 : decode b_Model_leave 47 = .ok (.return_, 1) := by decide +kernel
theorem d_Model_lay_0 : decode b_Model_lay 0 = .ok (.aload_n 0, 1) := by decide +kernel
theorem d_Model_lay_1 : decode b_Model_lay 1 = .ok (.iconst 0, 1) := by decide +kernel
theorem d_Model_lay_2 : decode b_Model_lay 2 = .ok (.putfield 191, 3) := by decide +kernel
theorem d_Model_lay_5 : decode b_Model_lay 5 = .ok (.aload_n 0, 1) := by decide +kernel
theorem d_Model_lay_6 : decode b_Model_lay 6 = .ok (.iconst 0, 1) := by decide +kernel
theorem d_Model_lay_7 : decode b_Model_lay 7 = .ok (.putfield 194, 3) := by decide +kernel
theorem d_Model_lay_10 : decode b_Model_lay 10 = .ok (.aload_n 0, 1) := by decide +kernel
theorem d_Model_lay_11 : decode b_Model_lay 11 = .ok (.iconst 0, 1) := by decide +kernel
theorem d_Model_lay_12 : decode b_Model_lay 12 = .ok (.putfield 188, 3) := by decide +kernel
theorem d_Model_lay_15 : decode b_Model_lay 15 = .ok (.aload_n 0, 1) := by decide +kernel
theorem d_Model_lay_16 : decode b_Model_lay 16 = .ok (.iconst 0, 1) := by decide +kernel
theorem d_Model_lay_17 : decode b_Model_lay 17 = .ok (.putfield 240, 3) := by decide +kernel
theorem d_Model_lay_20 : decode b_Model_lay 20 = .ok (.iconst 0, 1) := by decide +kernel
theorem d_Model_lay_21 : decode b_Model_lay 21 = .ok (.istore_n 1, 1) := by decide +kernel
theorem d_Model_lay_22 : decode b_Model_lay 22 = .ok (.iload_n 1, 1) := by decide +kernel
theorem d_Model_lay_23 : decode b_Model_lay 23 = .ok (.aload_n 0, 1) := by decide +kernel
theorem d_Model_lay_24 : decode b_Model_lay 24 = .ok (.getfield 144, 3) := by decide +kernel
theorem d_Model_lay_27 : decode b_Model_lay 27 = .ok (.if_icmp .ge 112, 3) := by decide +kernel
theorem d_Model_lay_139 : decode b_Model_lay 139 = .ok (.aload_n 0, 1) := by decide +kernel
theorem d_Model_lay_140 : decode b_Model_lay 140 = .ok (.getfield 123, 3) := by decide +kernel
theorem d_Model_lay_143 : decode b_Model_lay 143 = .ok (.ifCond .le 4, 3) := by decide +kernel
theorem d_Model_lay_147 : decode b_Model_lay 147 = .ok (.aload_n 0, 1) := by decide +kernel
theorem d_Model_lay_148 : decode b_Model_lay 148 = .ok (.aload_n 0, 1) := by decide +kernel
theorem d_Model_lay_149 : decode b_Model_lay 149 = .ok (.getfield 144, 3) := by decide +kernel
theorem d_Model_lay_152 : decode b_Model_lay 152 = .ok (.invokevirtual 246, 3) := by decide +kernel
theorem d_Model_lay_155 : decode b_Model_lay 155 = .ok (.ifCond .eq 11, 3) := by decide +kernel
theorem d_Model_lay_158 : decode b_Model_lay 158 = .ok (.aload_n 0, 1) := by decide +kernel
theorem d_Model_lay_159 : decode b_Model_lay 159 = .ok (.aload_n 0, 1) := by decide +kernel
theorem d_Model_lay_160 : decode b_Model_lay 160 = .ok (.getfield 144, 3) := by decide +kernel
theorem d_Model_lay_163 : decode b_Model_lay 163 = .ok (.invokevirtual 249, 3) := by decide +kernel
theorem d_Model_lay_166 : decode b_Model_lay 166 = .ok (.aload_n 0, 1) := by decide +kernel
theorem d_Model_lay_167 : decode b_Model_lay 167 = .ok (.iconst 1, 1) := by decide +kernel
theorem d_Model_lay_168 : decode b_Model_lay 168 = .ok (.invokevirtual 214, 3) := by decide +kernel
theorem d_Model_lay_171 : decode b_Model_lay 171 = .ok (.aload_n 0, 1) := by decide +kernel
theorem d_Model_lay_172 : decode b_Model_lay 172 = .ok (.getfield 191, 3) := by decide +kernel
theorem d_Model_lay_175 : decode b_Model_lay 175 = .ok (.ifCond .le 12, 3) := by decide +kernel
theorem d_Model_lay_187 : decode b_Model_lay 187 = .ok (.return_, 1) := by decide +kernel
theorem d_Model_partners_0 : decode b_Model_partners 0 = .ok (.iconst 0, 1) := by decide +kernel
theorem d_Model_partners_1 : decode b_Model_partners 1 = .ok (.istore_n 1, 1) := by decide +kernel
theorem d_Model_partners_2 : decode b_Model_partners 2 = .ok (.iconst 0, 1) := by decide +kernel
theorem d_Model_partners_3 : decode b_Model_partners 3 = .ok (.istore_n 2, 1) := by decide +kernel
theorem d_Model_partners_4 : decode b_Model_partners 4 = .ok (.iload_n 2, 1) := by decide +kernel
theorem d_Model_partners_5 : decode b_Model_partners 5 = .ok (.aload_n 0, 1) := by decide +kernel
theorem d_Model_partners_6 : decode b_Model_partners 6 = .ok (.getfield 188, 3) := by decide +kernel
theorem d_Model_partners_9 : decode b_Model_partners 9 = .ok (.if_icmp .ge 128, 3) := by decide +kernel
theorem d_Model_partners_12 : decode b_Model_partners 12 = .ok (.aload_n 0, 1) := by decide +kernel
theorem d_Model_partners_13 : decode b_Model_partners 13 = .ok (.getfield 37, 3) := by decide +kernel
theorem d_Model_partners_16 : decode b_Model_partners 16 = .ok (.iload_n 2, 1) := by decide +kernel
theorem d_Model_partners_17 : decode b_Model_partners 17 = .ok (.iaload, 1) := by decide +kernel
theorem d_Model_partners_18 : decode b_Model_partners 18 = .ok (.iconst 3, 1) := by decide +kernel
theorem d_Model_partners_19 : decode b_Model_partners 19 = .ok (.if_icmp .ne 33, 3) := by decide +kernel
theorem d_Model_partners_52 : decode b_Model_partners 52 = .ok (.iconst 0, 1) := by decide +kernel
theorem d_Model_partners_53 : decode b_Model_partners 53 = .ok (.istore_n 3, 1) := by decide +kernel
theorem d_Model_partners_54 : decode b_Model_partners 54 = .ok (.aload_n 0, 1) := by decide +kernel
theorem d_Model_partners_55 : decode b_Model_partners 55 = .ok (.getfield 37, 3) := by decide +kernel
theorem d_Model_partners_58 : decode b_Model_partners 58 = .ok (.iload_n 2, 1) := by decide +kernel
theorem d_Model_partners_59 : decode b_Model_partners 59 = .ok (.iaload, 1) := by decide +kernel
theorem d_Model_partners_60 : decode b_Model_partners 60 = .ok (.iconst 3, 1) := by decide +kernel
theorem d_Model_partners_61 : decode b_Model_partners 61 = .ok (.if_icmp .ne 33, 3) := by decide +kernel
theorem d_Model_partners_94 : decode b_Model_partners 94 = .ok (.iconst 0, 1) := by decide +kernel
theorem d_Model_partners_95 : decode b_Model_partners 95 = .ok (.istore 4, 2) := by decide +kernel
theorem d_Model_partners_97 : decode b_Model_partners 97 = .ok (.iload_n 3, 1) := by decide +kernel
theorem d_Model_partners_98 : decode b_Model_partners 98 = .ok (.ifCond .eq 13, 3) := by decide +kernel
theorem d_Model_partners_111 : decode b_Model_partners 111 = .ok (.iload 4, 2) := by decide +kernel
theorem d_Model_partners_113 : decode b_Model_partners 113 = .ok (.ifCond .eq 18, 3) := by decide +kernel
theorem d_Model_partners_131 : decode b_Model_partners 131 = .ok (.iinc 2 1, 3) := by decide +kernel
theorem d_Model_partners_134 : decode b_Model_partners 134 = .ok (.goto (-130), 3) := by decide +kernel
theorem d_Model_partners_137 : decode b_Model_partners 137 = .ok (.return_, 1) := by decide +kernel
theorem d_Model_plainName_0 : decode b_Model_plainName 0 = .ok (.iload_n 1, 1) := by decide +kernel
theorem d_Model_plainName_1 : decode b_Model_plainName 1 = .ok (.aload_n 0, 1) := by decide +kernel
theorem d_Model_plainName_2 : decode b_Model_plainName 2 = .ok (.getfield 188, 3) := by decide +kernel
theorem d_Model_plainName_5 : decode b_Model_plainName 5 = .ok (.if_icmp .ge 28, 3) := by decide +kernel
theorem d_Model_plainName_8 : decode b_Model_plainName 8 = .ok (.aload_n 0, 1) := by decide +kernel
theorem d_Model_plainName_9 : decode b_Model_plainName 9 = .ok (.getfield 37, 3) := by decide +kernel
theorem d_Model_plainName_12 : decode b_Model_plainName 12 = .ok (.iload_n 1, 1) := by decide +kernel
theorem d_Model_plainName_13 : decode b_Model_plainName 13 = .ok (.iaload, 1) := by decide +kernel
theorem d_Model_plainName_14 : decode b_Model_plainName 14 = .ok (.ifCond .ne 19, 3) := by decide +kernel
theorem d_Model_plainName_33 : decode b_Model_plainName 33 = .ok (.iconst 0, 1) := by decide +kernel
theorem d_Model_plainName_34 : decode b_Model_plainName 34 = .ok (.ireturn, 1) := by decide +kernel
theorem d_Model_tick_0 : decode b_Model_tick 0 = .ok (.iload_n 1, 1) := by decide +kernel
theorem d_Model_tick_1 : decode b_Model_tick 1 = .ok (.aload_n 0, 1) := by decide +kernel
theorem d_Model_tick_2 : decode b_Model_tick 2 = .ok (.getfield 188, 3) := by decide +kernel
theorem d_Model_tick_5 : decode b_Model_tick 5 = .ok (.if_icmp .ge 30, 3) := by decide +kernel
theorem d_Model_tick_8 : decode b_Model_tick 8 = .ok (.aload_n 0, 1) := by decide +kernel
theorem d_Model_tick_9 : decode b_Model_tick 9 = .ok (.getfield 37, 3) := by decide +kernel
theorem d_Model_tick_12 : decode b_Model_tick 12 = .ok (.iload_n 1, 1) := by decide +kernel
theorem d_Model_tick_13 : decode b_Model_tick 13 = .ok (.iaload, 1) := by decide +kernel
theorem d_Model_tick_14 : decode b_Model_tick 14 = .ok (.iconst 3, 1) := by decide +kernel
theorem d_Model_tick_15 : decode b_Model_tick 15 = .ok (.if_icmp .ne 20, 3) := by decide +kernel
theorem d_Model_tick_35 : decode b_Model_tick 35 = .ok (.iconst 0, 1) := by decide +kernel
theorem d_Model_tick_36 : decode b_Model_tick 36 = .ok (.ireturn, 1) := by decide +kernel
theorem d_Model_extent_0 : decode b_Model_extent 0 = .ok (.iload_n 1, 1) := by decide +kernel
theorem d_Model_extent_1 : decode b_Model_extent 1 = .ok (.aload_n 0, 1) := by decide +kernel
theorem d_Model_extent_2 : decode b_Model_extent 2 = .ok (.getfield 188, 3) := by decide +kernel
theorem d_Model_extent_5 : decode b_Model_extent 5 = .ok (.if_icmp .lt 5, 3) := by decide +kernel
theorem d_Model_extent_10 : decode b_Model_extent 10 = .ok (.aload_n 0, 1) := by decide +kernel
theorem d_Model_extent_11 : decode b_Model_extent 11 = .ok (.iload_n 1, 1) := by decide +kernel
theorem d_Model_extent_12 : decode b_Model_extent 12 = .ok (.invokevirtual 284, 3) := by decide +kernel
theorem d_Model_extent_15 : decode b_Model_extent 15 = .ok (.ifCond .ne 13, 3) := by decide +kernel
theorem d_Model_extent_18 : decode b_Model_extent 18 = .ok (.aload_n 0, 1) := by decide +kernel
theorem d_Model_extent_19 : decode b_Model_extent 19 = .ok (.getfield 37, 3) := by decide +kernel
theorem d_Model_extent_22 : decode b_Model_extent 22 = .ok (.iload_n 1, 1) := by decide +kernel
theorem d_Model_extent_23 : decode b_Model_extent 23 = .ok (.iaload, 1) := by decide +kernel
theorem d_Model_extent_24 : decode b_Model_extent 24 = .ok (.iconst 1, 1) := by decide +kernel
theorem d_Model_extent_25 : decode b_Model_extent 25 = .ok (.if_icmp .ne 5, 3) := by decide +kernel
theorem d_Model_extent_30 : decode b_Model_extent 30 = .ok (.aload_n 0, 1) := by decide +kernel
theorem d_Model_extent_31 : decode b_Model_extent 31 = .ok (.getfield 37, 3) := by decide +kernel
theorem d_Model_extent_34 : decode b_Model_extent 34 = .ok (.iload_n 1, 1) := by decide +kernel
theorem d_Model_extent_35 : decode b_Model_extent 35 = .ok (.iaload, 1) := by decide +kernel
theorem d_Model_extent_36 : decode b_Model_extent 36 = .ok (.iconst 3, 1) := by decide +kernel
theorem d_Model_extent_37 : decode b_Model_extent 37 = .ok (.if_icmp .ne 40, 3) := by decide +kernel
theorem d_Model_extent_77 : decode b_Model_extent 77 = .ok (.aload_n 0, 1) := by decide +kernel
theorem d_Model_extent_78 : decode b_Model_extent 78 = .ok (.getfield 37, 3) := by decide +kernel
theorem d_Model_extent_81 : decode b_Model_extent 81 = .ok (.iload_n 1, 1) := by decide +kernel
theorem d_Model_extent_82 : decode b_Model_extent 82 = .ok (.iaload, 1) := by decide +kernel
theorem d_Model_extent_83 : decode b_Model_extent 83 = .ok (.iconst 2, 1) := by decide +kernel
theorem d_Model_extent_84 : decode b_Model_extent 84 = .ok (.if_icmp .ne 21, 3) := by decide +kernel
theorem d_Model_extent_105 : decode b_Model_extent 105 = .ok (.aload_n 0, 1) := by decide +kernel
theorem d_Model_extent_106 : decode b_Model_extent 106 = .ok (.iload_n 1, 1) := by decide +kernel
theorem d_Model_extent_107 : decode b_Model_extent 107 = .ok (.invokevirtual 290, 3) := by decide +kernel
theorem d_Model_extent_110 : decode b_Model_extent 110 = .ok (.ifCond .eq 27, 3) := by decide +kernel
theorem d_Model_extent_137 : decode b_Model_extent 137 = .ok (.iconst 0, 1) := by decide +kernel
theorem d_Model_extent_138 : decode b_Model_extent 138 = .ok (.ireturn, 1) := by decide +kernel
theorem d_Model_around_0 : decode b_Model_around 0 = .ok (.aload_n 0, 1) := by decide +kernel
theorem d_Model_around_1 : decode b_Model_around 1 = .ok (.iconst 0, 1) := by decide +kernel
theorem d_Model_around_2 : decode b_Model_around 2 = .ok (.putfield 337, 3) := by decide +kernel
theorem d_Model_around_5 : decode b_Model_around 5 = .ok (.aload_n 0, 1) := by decide +kernel
theorem d_Model_around_6 : decode b_Model_around 6 = .ok (.iconst 0, 1) := by decide +kernel
theorem d_Model_around_7 : decode b_Model_around 7 = .ok (.putfield 334, 3) := by decide +kernel
theorem d_Model_around_10 : decode b_Model_around 10 = .ok (.aload_n 0, 1) := by decide +kernel
theorem d_Model_around_11 : decode b_Model_around 11 = .ok (.invokevirtual 340, 3) := by decide +kernel
theorem d_Model_around_14 : decode b_Model_around 14 = .ok (.iconst 0, 1) := by decide +kernel
theorem d_Model_around_15 : decode b_Model_around 15 = .ok (.istore_n 1, 1) := by decide +kernel
theorem d_Model_around_16 : decode b_Model_around 16 = .ok (.iload_n 1, 1) := by decide +kernel
theorem d_Model_around_17 : decode b_Model_around 17 = .ok (.aload_n 0, 1) := by decide +kernel
theorem d_Model_around_18 : decode b_Model_around 18 = .ok (.getfield 188, 3) := by decide +kernel
theorem d_Model_around_21 : decode b_Model_around 21 = .ok (.if_icmp .ge 42, 3) := by decide +kernel
theorem d_Model_around_24 : decode b_Model_around 24 = .ok (.aload_n 0, 1) := by decide +kernel
theorem d_Model_around_25 : decode b_Model_around 25 = .ok (.getfield 52, 3) := by decide +kernel
theorem d_Model_around_28 : decode b_Model_around 28 = .ok (.iload_n 1, 1) := by decide +kernel
theorem d_Model_around_29 : decode b_Model_around 29 = .ok (.baload, 1) := by decide +kernel
theorem d_Model_around_30 : decode b_Model_around 30 = .ok (.ifCond .ne 27, 3) := by decide +kernel
theorem d_Model_around_33 : decode b_Model_around 33 = .ok (.aload_n 0, 1) := by decide +kernel
theorem d_Model_around_34 : decode b_Model_around 34 = .ok (.iload_n 1, 1) := by decide +kernel
theorem d_Model_around_35 : decode b_Model_around 35 = .ok (.invokevirtual 298, 3) := by decide +kernel
theorem d_Model_around_38 : decode b_Model_around 38 = .ok (.ifCond .le 19, 3) := by decide +kernel
theorem d_Model_around_57 : decode b_Model_around 57 = .ok (.iinc 1 1, 3) := by decide +kernel
theorem d_Model_around_60 : decode b_Model_around 60 = .ok (.goto (-44), 3) := by decide +kernel
theorem d_Model_around_63 : decode b_Model_around 63 = .ok (.return_, 1) := by decide +kernel
theorem d_Model_add_0 : decode b_Model_add 0 = .ok (.aload_n 0, 1) := by decide +kernel
theorem d_Model_add_1 : decode b_Model_add 1 = .ok (.getfield 55, 3) := by decide +kernel
theorem d_Model_add_4 : decode b_Model_add 4 = .ok (.aload_n 0, 1) := by decide +kernel
theorem d_Model_add_5 : decode b_Model_add 5 = .ok (.getfield 353, 3) := by decide +kernel
theorem d_Model_add_8 : decode b_Model_add 8 = .ok (.iload_n 1, 1) := by decide +kernel
theorem d_Model_add_9 : decode b_Model_add 9 = .ok (.iastore, 1) := by decide +kernel
theorem d_Model_add_10 : decode b_Model_add 10 = .ok (.aload_n 0, 1) := by decide +kernel
theorem d_Model_add_11 : decode b_Model_add 11 = .ok (.getfield 58, 3) := by decide +kernel
theorem d_Model_add_14 : decode b_Model_add 14 = .ok (.aload_n 0, 1) := by decide +kernel
theorem d_Model_add_15 : decode b_Model_add 15 = .ok (.getfield 353, 3) := by decide +kernel
theorem d_Model_add_18 : decode b_Model_add 18 = .ok (.lload_n 2, 1) := by decide +kernel
theorem d_Model_add_19 : decode b_Model_add 19 = .ok (.lastore, 1) := by decide +kernel
theorem d_Model_add_20 : decode b_Model_add 20 = .ok (.aload_n 0, 1) := by decide +kernel
theorem d_Model_add_21 : decode b_Model_add 21 = .ok (.dup, 1) := by decide +kernel
theorem d_Model_add_22 : decode b_Model_add 22 = .ok (.getfield 353, 3) := by decide +kernel
theorem d_Model_add_25 : decode b_Model_add 25 = .ok (.iconst 1, 1) := by decide +kernel
