theorem d_Model_emit_52 : decode b_Model_emit 52 = .ok (.getfield 188, 3) := by decide +kernel
theorem d_Model_emit_55 : decode b_Model_emit 55 = .ok (.iconst 1, 1) := by decide +kernel
theorem d_Model_emit_56 : decode b_Model_emit 56 = .ok (.iadd, 1) := by decide +kernel
theorem d_Model_emit_57 : decode b_Model_emit 57 = .ok (.putfield 188, 3) := by decide +kernel
theorem d_Model_emit_60 : decode b_Model_emit 60 = .ok (.return_, 1) := by decide +kernel
theorem d_Model_push_0 : decode b_Model_push 0 = .ok (.aload_n 0, 1) := by decide +kernel
theorem d_Model_push_1 : decode b_Model_push 1 = .ok (.getfield 34, 3) := by decide +kernel
theorem d_Model_push_4 : decode b_Model_push 4 = .ok (.aload_n 0, 1) := by decide +kernel
theorem d_Model_push_5 : decode b_Model_push 5 = .ok (.getfield 191, 3) := by decide +kernel
theorem d_Model_push_8 : decode b_Model_push 8 = .ok (.iload_n 1, 1) := by decide +kernel
theorem d_Model_push_9 : decode b_Model_push 9 = .ok (.iastore, 1) := by decide +kernel
theorem d_Model_push_10 : decode b_Model_push 10 = .ok (.aload_n 0, 1) := by decide +kernel
theorem d_Model_push_11 : decode b_Model_push 11 = .ok (.dup, 1) := by decide +kernel
theorem d_Model_push_12 : decode b_Model_push 12 = .ok (.getfield 191, 3) := by decide +kernel
theorem d_Model_push_15 : decode b_Model_push 15 = .ok (.iconst 1, 1) := by decide +kernel
theorem d_Model_push_16 : decode b_Model_push 16 = .ok (.iadd, 1) := by decide +kernel
theorem d_Model_push_17 : decode b_Model_push 17 = .ok (.putfield 191, 3) := by decide +kernel
theorem d_Model_push_20 : decode b_Model_push 20 = .ok (.aload_n 0, 1) := by decide +kernel
theorem d_Model_push_21 : decode b_Model_push 21 = .ok (.aload_n 0, 1) := by decide +kernel
theorem d_Model_push_22 : decode b_Model_push 22 = .ok (.getfield 191, 3) := by decide +kernel
theorem d_Model_push_25 : decode b_Model_push 25 = .ok (.aload_n 0, 1) := by decide +kernel
theorem d_Model_push_26 : decode b_Model_push 26 = .ok (.getfield 194, 3) := by decide +kernel
theorem d_Model_push_29 : decode b_Model_push 29 = .ok (.if_icmp .le 10, 3) := by decide +kernel
theorem d_Model_push_32 : decode b_Model_push 32 = .ok (.aload_n 0, 1) := by decide +kernel
theorem d_Model_push_33 : decode b_Model_push 33 = .ok (.getfield 191, 3) := by decide +kernel
theorem d_Model_push_36 : decode b_Model_push 36 = .ok (.goto 7, 3) := by decide +kernel
theorem d_Model_push_39 : decode b_Model_push 39 = .ok (.aload_n 0, 1) := by decide +kernel
theorem d_Model_push_40 : decode b_Model_push 40 = .ok (.getfield 194, 3) := by decide +kernel
theorem d_Model_push_43 : decode b_Model_push 43 = .ok (.putfield 194, 3) := by decide +kernel
theorem d_Model_push_46 : decode b_Model_push 46 = .ok (.return_, 1) := by decide +kernel
theorem d_Model_top_0 : decode b_Model_top 0 = .ok (.aload_n 0, 1) := by decide +kernel
theorem d_Model_top_1 : decode b_Model_top 1 = .ok (.getfield 191, 3) := by decide +kernel
theorem d_Model_top_4 : decode b_Model_top 4 = .ok (.ifCond .le 17, 3) := by decide +kernel
theorem d_Model_top_7 : decode b_Model_top 7 = .ok (.aload_n 0, 1) := by decide +kernel
theorem d_Model_top_8 : decode b_Model_top 8 = .ok (.getfield 34, 3) := by decide +kernel
theorem d_Model_top_11 : decode b_Model_top 11 = .ok (.aload_n 0, 1) := by decide +kernel
theorem d_Model_top_12 : decode b_Model_top 12 = .ok (.getfield 191, 3) := by decide +kernel
theorem d_Model_top_15 : decode b_Model_top 15 = .ok (.iconst 1, 1) := by decide +kernel
theorem d_Model_top_16 : decode b_Model_top 16 = .ok (.isub, 1) := by decide +kernel
theorem d_Model_top_17 : decode b_Model_top 17 = .ok (.iaload, 1) := by decide +kernel
theorem d_Model_top_18 : decode b_Model_top 18 = .ok (.goto 5, 3) := by decide +kernel
theorem d_Model_top_21 : decode b_Model_top 21 = .ok (.bipush (-11), 2) := by decide +kernel
theorem d_Model_top_23 : decode b_Model_top 23 = .ok (.ireturn, 1) := by decide +kernel
theorem d_Model_belowLets_0 : decode b_Model_belowLets 0 = .ok (.aload_n 0, 1) := by decide +kernel
theorem d_Model_belowLets_1 : decode b_Model_belowLets 1 = .ok (.getfield 191, 3) := by decide +kernel
theorem d_Model_belowLets_4 : decode b_Model_belowLets 4 = .ok (.iconst 1, 1) := by decide +kernel
theorem d_Model_belowLets_5 : decode b_Model_belowLets 5 = .ok (.isub, 1) := by decide +kernel
theorem d_Model_belowLets_6 : decode b_Model_belowLets 6 = .ok (.istore_n 1, 1) := by decide +kernel
theorem d_Model_belowLets_7 : decode b_Model_belowLets 7 = .ok (.iload_n 1, 1) := by decide +kernel
theorem d_Model_belowLets_8 : decode b_Model_belowLets 8 = .ok (.ifCond .lt 19, 3) := by decide +kernel
theorem d_Model_belowLets_11 : decode b_Model_belowLets 11 = .ok (.aload_n 0, 1) := by decide +kernel
theorem d_Model_belowLets_12 : decode b_Model_belowLets 12 = .ok (.getfield 34, 3) := by decide +kernel
theorem d_Model_belowLets_15 : decode b_Model_belowLets 15 = .ok (.iload_n 1, 1) := by decide +kernel
theorem d_Model_belowLets_16 : decode b_Model_belowLets 16 = .ok (.iaload, 1) := by decide +kernel
theorem d_Model_belowLets_17 : decode b_Model_belowLets 17 = .ok (.iconst (-1), 1) := by decide +kernel
theorem d_Model_belowLets_18 : decode b_Model_belowLets 18 = .ok (.if_icmp .ne 9, 3) := by decide +kernel
theorem d_Model_belowLets_21 : decode b_Model_belowLets 21 = .ok (.iinc 1 (-1), 3) := by decide +kernel
theorem d_Model_belowLets_24 : decode b_Model_belowLets 24 = .ok (.goto (-17), 3) := by decide +kernel
theorem d_Model_belowLets_27 : decode b_Model_belowLets 27 = .ok (.iload_n 1, 1) := by decide +kernel
theorem d_Model_belowLets_28 : decode b_Model_belowLets 28 = .ok (.ifCond .lt 12, 3) := by decide +kernel
theorem d_Model_belowLets_31 : decode b_Model_belowLets 31 = .ok (.aload_n 0, 1) := by decide +kernel
theorem d_Model_belowLets_32 : decode b_Model_belowLets 32 = .ok (.getfield 34, 3) := by decide +kernel
theorem d_Model_belowLets_35 : decode b_Model_belowLets 35 = .ok (.iload_n 1, 1) := by decide +kernel
theorem d_Model_belowLets_36 : decode b_Model_belowLets 36 = .ok (.iaload, 1) := by decide +kernel
theorem d_Model_belowLets_37 : decode b_Model_belowLets 37 = .ok (.goto 5, 3) := by decide +kernel
theorem d_Model_belowLets_40 : decode b_Model_belowLets 40 = .ok (.bipush (-11), 2) := by decide +kernel
theorem d_Model_belowLets_42 : decode b_Model_belowLets 42 = .ok (.ireturn, 1) := by decide +kernel
theorem d_Model_dropLets_0 : decode b_Model_dropLets 0 = .ok (.aload_n 0, 1) := by decide +kernel
theorem d_Model_dropLets_1 : decode b_Model_dropLets 1 = .ok (.invokevirtual 197, 3) := by decide +kernel
theorem d_Model_dropLets_4 : decode b_Model_dropLets 4 = .ok (.iconst (-1), 1) := by decide +kernel
theorem d_Model_dropLets_5 : decode b_Model_dropLets 5 = .ok (.if_icmp .ne 16, 3) := by decide +kernel
theorem d_Model_dropLets_8 : decode b_Model_dropLets 8 = .ok (.aload_n 0, 1) := by decide +kernel
theorem d_Model_dropLets_9 : decode b_Model_dropLets 9 = .ok (.dup, 1) := by decide +kernel
theorem d_Model_dropLets_10 : decode b_Model_dropLets 10 = .ok (.getfield 191, 3) := by decide +kernel
theorem d_Model_dropLets_13 : decode b_Model_dropLets 13 = .ok (.iconst 1, 1) := by decide +kernel
theorem d_Model_dropLets_14 : decode b_Model_dropLets 14 = .ok (.isub, 1) := by decide +kernel
theorem d_Model_dropLets_15 : decode b_Model_dropLets 15 = .ok (.putfield 191, 3) := by decide +kernel
theorem d_Model_dropLets_18 : decode b_Model_dropLets 18 = .ok (.goto (-18), 3) := by decide +kernel
theorem d_Model_dropLets_21 : decode b_Model_dropLets 21 = .ok (.return_, 1) := by decide +kernel
theorem d_Model_mark_0 : decode b_Model_mark 0 = .ok (.aload_n 0, 1) := by decide +kernel
theorem d_Model_mark_1 : decode b_Model_mark 1 = .ok (.invokevirtual 200, 3) := by decide +kernel
theorem d_Model_mark_4 : decode b_Model_mark 4 = .ok (.iload_n 1, 1) := by decide +kernel
theorem d_Model_mark_5 : decode b_Model_mark 5 = .ok (.if_icmp .le 28, 3) := by decide +kernel
theorem d_Model_mark_8 : decode b_Model_mark 8 = .ok (.aload_n 0, 1) := by decide +kernel
theorem d_Model_mark_9 : decode b_Model_mark 9 = .ok (.invokevirtual 203, 3) := by decide +kernel
theorem d_Model_mark_12 : decode b_Model_mark 12 = .ok (.aload_n 0, 1) := by decide +kernel
theorem d_Model_mark_13 : decode b_Model_mark 13 = .ok (.iconst 4, 1) := by decide +kernel
theorem d_Model_mark_14 : decode b_Model_mark 14 = .ok (.ldc2_w 206, 3) := by decide +kernel
theorem d_Model_mark_17 : decode b_Model_mark 17 = .ok (.invokevirtual 208, 3) := by decide +kernel
theorem d_Model_mark_20 : decode b_Model_mark 20 = .ok (.aload_n 0, 1) := by decide +kernel
theorem d_Model_mark_21 : decode b_Model_mark 21 = .ok (.dup, 1) := by decide +kernel
theorem d_Model_mark_22 : decode b_Model_mark 22 = .ok (.getfield 191, 3) := by decide +kernel
theorem d_Model_mark_25 : decode b_Model_mark 25 = .ok (.iconst 1, 1) := by decide +kernel
theorem d_Model_mark_26 : decode b_Model_mark 26 = .ok (.isub, 1) := by decide +kernel
theorem d_Model_mark_27 : decode b_Model_mark 27 = .ok (.putfield 191, 3) := by decide +kernel
theorem d_Model_mark_30 : decode b_Model_mark 30 = .ok (.goto (-30), 3) := by decide +kernel
theorem d_Model_mark_33 : decode b_Model_mark 33 = .ok (.aload_n 0, 1) := by decide +kernel
theorem d_Model_mark_34 : decode b_Model_mark 34 = .ok (.invokevirtual 200, 3) := by decide +kernel
theorem d_Model_mark_37 : decode b_Model_mark 37 = .ok (.iload_n 1, 1) := by decide +kernel
theorem d_Model_mark_38 : decode b_Model_mark 38 = .ok (.if_icmp .ne 15, 3) := by decide +kernel
theorem d_Model_mark_41 : decode b_Model_mark 41 = .ok (.aload_n 0, 1) := by decide +kernel
theorem d_Model_mark_42 : decode b_Model_mark 42 = .ok (.invokevirtual 203, 3) := by decide +kernel
theorem d_Model_mark_45 : decode b_Model_mark 45 = .ok (.aload_n 0, 1) := by decide +kernel
theorem d_Model_mark_46 : decode b_Model_mark 46 = .ok (.iconst 4, 1) := by decide +kernel
theorem d_Model_mark_47 : decode b_Model_mark 47 = .ok (.ldc2_w 212, 3) := by decide +kernel
theorem d_Model_mark_50 : decode b_Model_mark 50 = .ok (.invokevirtual 208, 3) := by decide +kernel
theorem d_Model_mark_53 : decode b_Model_mark 53 = .ok (.return_, 1) := by decide +kernel
theorem d_Model_leave_0 : decode b_Model_leave 0 = .ok (.aload_n 0, 1) := by decide +kernel
theorem d_Model_leave_1 : decode b_Model_leave 1 = .ok (.invokevirtual 197, 3) := by decide +kernel
theorem d_Model_leave_4 : decode b_Model_leave 4 = .ok (.ifCond .gt 15, 3) := by decide +kernel
theorem d_Model_leave_7 : decode b_Model_leave 7 = .ok (.iload_n 1, 1) := by decide +kernel
theorem d_Model_leave_8 : decode b_Model_leave 8 = .ok (.ifCond .eq 39, 3) := by decide +kernel
theorem d_Model_leave_11 : decode b_Model_leave 11 = .ok (.aload_n 0, 1) := by decide +kernel
theorem d_Model_leave_12 : decode b_Model_leave 12 = .ok (.invokevirtual 197, 3) := by decide +kernel
theorem d_Model_leave_15 : decode b_Model_leave 15 = .ok (.iconst (-1), 1) := by decide +kernel
theorem d_Model_leave_16 : decode b_Model_leave 16 = .ok (.if_icmp .ne 31, 3) := by decide +kernel
theorem d_Model_leave_19 : decode b_Model_leave 19 = .ok (.aload_n 0, 1) := by decide +kernel
theorem d_Model_leave_20 : decode b_Model_leave 20 = .ok (.invokevirtual 197, 3) := by decide +kernel
theorem d_Model_leave_23 : decode b_Model_leave 23 = .ok (.ifCond .le 11, 3) := by decide +kernel
theorem d_Model_leave_26 : decode b_Model_leave 26 = .ok (.aload_n 0, 1) := by decide +kernel
theorem d_Model_leave_27 : decode b_Model_leave 27 = .ok (.iconst 4, 1) := by decide +kernel
theorem d_Model_leave_28 : decode b_Model_leave 28 = .ok (.ldc2_w 206, 3) := by decide +kernel
theorem d_Model_leave_31 : decode b_Model_leave 31 = .ok (.invokevirtual 208, 3) := by decide +kernel
theorem d_Model_leave_34 : decode b_Model_leave 34 = .ok (.aload_n 0, 1) := by decide +kernel
theorem d_Model_leave_35 : decode b_Model_leave 35 = .ok (.dup, 1) := by decide +kernel
theorem d_Model_leave_36 : decode b_Model_leave 36 = .ok (.getfield 191, 3) := by decide +kernel
theorem d_Model_leave_39 : decode b_Model_leave 39 = .ok (.iconst 1, 1) := by decide +kernel
theorem d_Model_leave_40 : decode b_Model_leave 40 = .ok (.isub, 1) := by decide +kernel
theorem d_Model_leave_41 : decode b_Model_leave 41 = .ok (.putfield 191, 3) := by decide +kernel
theorem d_Model_leave_44 : decode b_Model_leave 44 = .ok (.goto (-44), 3) := by decide +kernel
theorem d_Model_leave_47 : decode b_Model_leave 47 = .ok (.return_, 1) := by decide +kernel
theorem d_Model_closes_0 : decode b_Model_closes 0 = .ok (.aload_n 0, 1) := by decide +kernel
theorem d_Model_closes_1 : decode b_Model_closes 1 = .ok (.iload_n 1, 1) := by decide +kernel
theorem d_Model_closes_2 : decode b_Model_closes 2 = .ok (.iconst (-1), 1) := by decide +kernel
theorem d_Model_closes_3 : decode b_Model_closes 3 = .ok (.if_icmp .eq 7, 3) := by decide +kernel
theorem d_Model_closes_6 : decode b_Model_closes 6 = .ok (.iconst 1, 1) := by decide +kernel
theorem d_Model_closes_7 : decode b_Model_closes 7 = .ok (.goto 4, 3) := by decide +kernel
theorem d_Model_closes_10 : decode b_Model_closes 10 = .ok (.iconst 0, 1) := by decide +kernel
theorem d_Model_closes_11 : decode b_Model_closes 11 = .ok (.invokevirtual 214, 3) := by decide +kernel
theorem d_Model_closes_14 : decode b_Model_closes 14 = .ok (.aload_n 0, 1) := by decide +kernel
theorem d_Model_closes_15 : decode b_Model_closes 15 = .ok (.invokevirtual 197, 3) := by decide +kernel
theorem d_Model_closes_18 : decode b_Model_closes 18 = .ok (.iload_n 1, 1) := by decide +kernel
theorem d_Model_closes_19 : decode b_Model_closes 19 = .ok (.if_icmp .eq 17, 3) := by decide +kernel
theorem d_Model_closes_22 : decode b_Model_closes 22 = .ok (.aload_n 0, 1) := by decide +kernel
theorem d_Model_closes_23 : decode b_Model_closes 23 = .ok (.iconst 1, 1) := by decide +kernel
theorem d_Model_closes_24 : decode b_Model_closes 24 = .ok (.aload_n 0, 1) := by decide +kernel
theorem d_Model_closes_25 : decode b_Model_closes 25 = .ok (.getfield 24, 3) := by decide +kernel
theorem d_Model_closes_28 : decode b_Model_closes 28 = .ok (.iload_n 3, 1) := by decide +kernel
theorem d_Model_closes_29 : decode b_Model_closes 29 = .ok (.iaload, 1) := by decide +kernel
theorem d_Model_closes_30 : decode b_Model_closes 30 = .ok (.invokevirtual 140, 3) := by decide +kernel
theorem d_Model_closes_33 : decode b_Model_closes 33 = .ok (.goto 13, 3) := by decide +kernel
theorem d_Model_closes_36 : decode b_Model_closes 36 = .ok (.aload_n 0, 1) := by decide +kernel
theorem d_Model_closes_37 : decode b_Model_closes 37 = .ok (.dup, 1) := by decide +kernel
theorem d_Model_closes_38 : decode b_Model_closes 38 = .ok (.getfield 191, 3) := by decide +kernel
theorem d_Model_closes_41 : decode b_Model_closes 41 = .ok (.iconst 1, 1) := by decide +kernel
theorem d_Model_closes_42 : decode b_Model_closes 42 = .ok (.isub, 1) := by decide +kernel
theorem d_Model_closes_43 : decode b_Model_closes 43 = .ok (.putfield 191, 3) := by decide +kernel
theorem d_Model_closes_46 : decode b_Model_closes 46 = .ok (.aload_n 0, 1) := by decide +kernel
theorem d_Model_closes_47 : decode b_Model_closes 47 = .ok (.getfield 123, 3) := by decide +kernel
theorem d_Model_closes_50 : decode b_Model_closes 50 = .ok (.ifCond .ne 12, 3) := by decide +kernel
theorem d_Model_closes_53 : decode b_Model_closes 53 = .ok (.iload_n 2, 1) := by decide +kernel
theorem d_Model_closes_54 : decode b_Model_closes 54 = .ok (.ifCond .eq 8, 3) := by decide +kernel
theorem d_Model_closes_57 : decode b_Model_closes 57 = .ok (.aload_n 0, 1) := by decide +kernel
theorem d_Model_closes_58 : decode b_Model_closes 58 = .ok (.iload_n 2, 1) := by decide +kernel
theorem d_Model_closes_59 : decode b_Model_closes 59 = .ok (.invokevirtual 218, 3) := by decide +kernel
theorem d_Model_closes_62 : decode b_Model_closes 62 = .ok (.return_, 1) := by decide +kernel
theorem d_Model_comma_0 : decode b_Model_comma 0 = .ok (.aload_n 0, 1) := by decide +kernel
theorem d_Model_comma_1 : decode b_Model_comma 1 = .ok (.getfield 191, 3) := by decide +kernel
theorem d_Model_comma_4 : decode b_Model_comma 4 = .ok (.iconst 1, 1) := by decide +kernel
theorem d_Model_comma_5 : decode b_Model_comma 5 = .ok (.isub, 1) := by decide +kernel
theorem d_Model_comma_6 : decode b_Model_comma 6 = .ok (.istore_n 1, 1) := by decide +kernel
theorem d_Model_comma_7 : decode b_Model_comma 7 = .ok (.iload_n 1, 1) := by decide +kernel
theorem d_Model_comma_8 : decode b_Model_comma 8 = .ok (.ifCond .lt 28, 3) := by decide +kernel
theorem d_Model_comma_11 : decode b_Model_comma 11 = .ok (.aload_n 0, 1) := by decide +kernel
theorem d_Model_comma_12 : decode b_Model_comma 12 = .ok (.getfield 34, 3) := by decide +kernel
theorem d_Model_comma_15 : decode b_Model_comma 15 = .ok (.iload_n 1, 1) := by decide +kernel
theorem d_Model_comma_16 : decode b_Model_comma 16 = .ok (.iaload, 1) := by decide +kernel
theorem d_Model_comma_17 : decode b_Model_comma 17 = .ok (.iconst (-1), 1) := by decide +kernel
theorem d_Model_comma_18 : decode b_Model_comma 18 = .ok (.if_icmp .eq 12, 3) := by decide +kernel
theorem d_Model_comma_21 : decode b_Model_comma 21 = .ok (.aload_n 0, 1) := by decide +kernel
theorem d_Model_comma_22 : decode b_Model_comma 22 = .ok (.getfield 34, 3) := by decide +kernel
theorem d_Model_comma_25 : decode b_Model_comma 25 = .ok (.iload_n 1, 1) := by decide +kernel
theorem d_Model_comma_26 : decode b_Model_comma 26 = .ok (.iaload, 1) := by decide +kernel
theorem d_Model_comma_27 : decode b_Model_comma 27 = .ok (.ifCond .le 9, 3) := by decide +kernel
theorem d_Model_comma_30 : decode b_Model_comma 30 = .ok (.iinc 1 (-1), 3) := by decide +kernel
theorem d_Model_comma_33 : decode b_Model_comma 33 = .ok (.goto (-26), 3) := by decide +kernel
theorem d_Model_comma_36 : decode b_Model_comma 36 = .ok (.iload_n 1, 1) := by decide +kernel
theorem d_Model_comma_37 : decode b_Model_comma 37 = .ok (.ifCond .lt 30, 3) := by decide +kernel
theorem d_Model_comma_40 : decode b_Model_comma 40 = .ok (.aload_n 0, 1) := by decide +kernel
theorem d_Model_comma_41 : decode b_Model_comma 41 = .ok (.getfield 34, 3) := by decide +kernel
theorem d_Model_comma_44 : decode b_Model_comma 44 = .ok (.iload_n 1, 1) := by decide +kernel
theorem d_Model_comma_45 : decode b_Model_comma 45 = .ok (.iaload, 1) := by decide +kernel
theorem d_Model_comma_46 : decode b_Model_comma 46 = .ok (.bipush (-5), 2) := by decide +kernel
theorem d_Model_comma_48 : decode b_Model_comma 48 = .ok (.if_icmp .eq 14, 3) := by decide +kernel
theorem d_Model_comma_51 : decode b_Model_comma 51 = .ok (.aload_n 0, 1) := by decide +kernel
theorem d_Model_comma_52 : decode b_Model_comma 52 = .ok (.getfield 34, 3) := by decide +kernel
theorem d_Model_comma_55 : decode b_Model_comma 55 = .ok (.iload_n 1, 1) := by decide +kernel
theorem d_Model_comma_56 : decode b_Model_comma 56 = .ok (.iaload, 1) := by decide +kernel
theorem d_Model_comma_57 : decode b_Model_comma 57 = .ok (.bipush (-6), 2) := by decide +kernel
theorem d_Model_comma_59 : decode b_Model_comma 59 = .ok (.if_icmp .ne 8, 3) := by decide +kernel
theorem d_Model_comma_62 : decode b_Model_comma 62 = .ok (.aload_n 0, 1) := by decide +kernel
theorem d_Model_comma_63 : decode b_Model_comma 63 = .ok (.iconst 1, 1) := by decide +kernel
theorem d_Model_comma_64 : decode b_Model_comma 64 = .ok (.invokevirtual 214, 3) := by decide +kernel
theorem d_Model_comma_67 : decode b_Model_comma 67 = .ok (.return_, 1) := by decide +kernel
theorem d_Model_signs_0 : decode b_Model_signs 0 = .ok (.lload_n 2, 1) := by decide +kernel
theorem d_Model_signs_1 : decode b_Model_signs 1 = .ok (.ldc2_w 222, 3) := by decide +kernel
theorem d_Model_signs_4 : decode b_Model_signs 4 = .ok (.lcmp, 1) := by decide +kernel
theorem d_Model_signs_5 : decode b_Model_signs 5 = .ok (.ifCond .ne 9, 3) := by decide +kernel
theorem d_Model_signs_8 : decode b_Model_signs 8 = .ok (.aload_n 0, 1) := by decide +kernel
theorem d_Model_signs_9 : decode b_Model_signs 9 = .ok (.bipush (-5), 2) := by decide +kernel
theorem d_Model_signs_11 : decode b_Model_signs 11 = .ok (.invokevirtual 218, 3) := by decide +kernel
theorem d_Model_signs_14 : decode b_Model_signs 14 = .ok (.lload_n 2, 1) := by decide +kernel
theorem d_Model_signs_15 : decode b_Model_signs 15 = .ok (.ldc2_w 224, 3) := by decide +kernel
theorem d_Model_signs_18 : decode b_Model_signs 18 = .ok (.lcmp, 1) := by decide +kernel
theorem d_Model_signs_19 : decode b_Model_signs 19 = .ok (.ifCond .ne 9, 3) := by decide +kernel
theorem d_Model_signs_22 : decode b_Model_signs 22 = .ok (.aload_n 0, 1) := by decide +kernel
theorem d_Model_signs_23 : decode b_Model_signs 23 = .ok (.bipush (-6), 2) := by decide +kernel
theorem d_Model_signs_25 : decode b_Model_signs 25 = .ok (.invokevirtual 218, 3) := by decide +kernel
theorem d_Model_signs_28 : decode b_Model_signs 28 = .ok (.lload_n 2, 1) := by decide +kernel
theorem d_Model_signs_29 : decode b_Model_signs 29 = .ok (.ldc2_w 226, 3) := by decide +kernel
theorem d_Model_signs_32 : decode b_Model_signs 32 = .ok (.lcmp, 1) := by decide +kernel
theorem d_Model_signs_33 : decode b_Model_signs 33 = .ok (.ifCond .ne 11, 3) := by decide +kernel
theorem d_Model_signs_36 : decode b_Model_signs 36 = .ok (.aload_n 0, 1) := by decide +kernel
theorem d_Model_signs_37 : decode b_Model_signs 37 = .ok (.bipush (-5), 2) := by decide +kernel
theorem d_Model_signs_39 : decode b_Model_signs 39 = .ok (.iconst 0, 1) := by decide +kernel
theorem d_Model_signs_40 : decode b_Model_signs 40 = .ok (.iload_n 1, 1) := by decide +kernel
theorem d_Model_signs_41 : decode b_Model_signs 41 = .ok (.invokevirtual 228, 3) := by decide +kernel
theorem d_Model_signs_44 : decode b_Model_signs 44 = .ok (.lload_n 2, 1) := by decide +kernel
theorem d_Model_signs_45 : decode b_Model_signs 45 = .ok (.ldc2_w 231, 3) := by decide +kernel
theorem d_Model_signs_48 : decode b_Model_signs 48 = .ok (.lcmp, 1) := by decide +kernel
theorem d_Model_signs_49 : decode b_Model_signs 49 = .ok (.ifCond .ne 11, 3) := by decide +kernel
theorem d_Model_signs_52 : decode b_Model_signs 52 = .ok (.aload_n 0, 1) := by decide +kernel
theorem d_Model_signs_53 : decode b_Model_signs 53 = .ok (.bipush (-6), 2) := by decide +kernel
theorem d_Model_signs_55 : decode b_Model_signs 55 = .ok (.iconst 0, 1) := by decide +kernel
theorem d_Model_signs_56 : decode b_Model_signs 56 = .ok (.iload_n 1, 1) := by decide +kernel
theorem d_Model_signs_57 : decode b_Model_signs 57 = .ok (.invokevirtual 228, 3) := by decide +kernel
theorem d_Model_signs_60 : decode b_Model_signs 60 = .ok (.lload_n 2, 1) := by decide +kernel
theorem d_Model_signs_61 : decode b_Model_signs 61 = .ok (.ldc2_w 233, 3) := by decide +kernel
theorem d_Model_signs_64 : decode b_Model_signs 64 = .ok (.lcmp, 1) := by decide +kernel
theorem d_Model_signs_65 : decode b_Model_signs 65 = .ok (.ifCond .ne 7, 3) := by decide +kernel
theorem d_Model_signs_68 : decode b_Model_signs 68 = .ok (.aload_n 0, 1) := by decide +kernel
theorem d_Model_signs_69 : decode b_Model_signs 69 = .ok (.invokevirtual 235, 3) := by decide +kernel
theorem d_Model_signs_72 : decode b_Model_signs 72 = .ok (.lload_n 2, 1) := by decide +kernel
theorem d_Model_signs_73 : decode b_Model_signs 73 = .ok (.ldc2_w 238, 3) := by decide +kernel
theorem d_Model_signs_76 : decode b_Model_signs 76 = .ok (.lcmp, 1) := by decide +kernel
theorem d_Model_signs_77 : decode b_Model_signs 77 = .ok (.ifCond .ne 8, 3) := by decide +kernel
theorem d_Model_signs_80 : decode b_Model_signs 80 = .ok (.aload_n 0, 1) := by decide +kernel
theorem d_Model_signs_81 : decode b_Model_signs 81 = .ok (.iconst 0, 1) := by decide +kernel
theorem d_Model_signs_82 : decode b_Model_signs 82 = .ok (.invokevirtual 218, 3) := by decide +kernel
theorem d_Model_signs_85 : decode b_Model_signs 85 = .ok (.lload_n 2, 1) := by decide +kernel
