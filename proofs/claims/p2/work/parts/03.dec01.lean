theorem d_Fixities_find_21 : decode b_Fixities_find 21 = .ok (.iload_n 3, 1) := by decide +kernel
theorem d_Fixities_find_22 : decode b_Fixities_find 22 = .ok (.ireturn, 1) := by decide +kernel
theorem d_Fixities_find_23 : decode b_Fixities_find 23 = .ok (.iinc 3 1, 3) := by decide +kernel
theorem d_Fixities_find_26 : decode b_Fixities_find 26 = .ok (.goto (-24), 3) := by decide +kernel
theorem d_Fixities_find_29 : decode b_Fixities_find 29 = .ok (.iconst (-1), 1) := by decide +kernel
theorem d_Fixities_find_30 : decode b_Fixities_find 30 = .ok (.ireturn, 1) := by decide +kernel
theorem d_Tokens_init_0 : decode b_Tokens_init 0 = .ok (.aload_n 0, 1) := by decide +kernel
theorem d_Tokens_init_1 : decode b_Tokens_init 1 = .ok (.invokespecial 3, 3) := by decide +kernel
theorem d_Tokens_init_4 : decode b_Tokens_init 4 = .ok (.aload_n 0, 1) := by decide +kernel
theorem d_Tokens_init_5 : decode b_Tokens_init 5 = .ok (.iload_n 1, 1) := by decide +kernel
theorem d_Tokens_init_6 : decode b_Tokens_init 6 = .ok (.newarray .int, 2) := by decide +kernel
theorem d_Tokens_init_8 : decode b_Tokens_init 8 = .ok (.putfield 9, 3) := by decide +kernel
theorem d_Tokens_init_11 : decode b_Tokens_init 11 = .ok (.aload_n 0, 1) := by decide +kernel
theorem d_Tokens_init_12 : decode b_Tokens_init 12 = .ok (.iload_n 1, 1) := by decide +kernel
theorem d_Tokens_init_13 : decode b_Tokens_init 13 = .ok (.newarray .long, 2) := by decide +kernel
theorem d_Tokens_init_15 : decode b_Tokens_init 15 = .ok (.putfield 15, 3) := by decide +kernel
theorem d_Tokens_init_18 : decode b_Tokens_init 18 = .ok (.return_, 1) := by decide +kernel
theorem d_Tokens_clear_0 : decode b_Tokens_clear 0 = .ok (.aload_n 0, 1) := by decide +kernel
theorem d_Tokens_clear_1 : decode b_Tokens_clear 1 = .ok (.iconst 0, 1) := by decide +kernel
theorem d_Tokens_clear_2 : decode b_Tokens_clear 2 = .ok (.putfield 19, 3) := by decide +kernel
theorem d_Tokens_clear_5 : decode b_Tokens_clear 5 = .ok (.return_, 1) := by decide +kernel
theorem d_Tokens_size_0 : decode b_Tokens_size 0 = .ok (.aload_n 0, 1) := by decide +kernel
theorem d_Tokens_size_1 : decode b_Tokens_size 1 = .ok (.getfield 19, 3) := by decide +kernel
theorem d_Tokens_size_4 : decode b_Tokens_size 4 = .ok (.ireturn, 1) := by decide +kernel
theorem d_Tokens_add_0 : decode b_Tokens_add 0 = .ok (.aload_n 0, 1) := by decide +kernel
theorem d_Tokens_add_1 : decode b_Tokens_add 1 = .ok (.getfield 19, 3) := by decide +kernel
theorem d_Tokens_add_4 : decode b_Tokens_add 4 = .ok (.aload_n 0, 1) := by decide +kernel
theorem d_Tokens_add_5 : decode b_Tokens_add 5 = .ok (.getfield 9, 3) := by decide +kernel
theorem d_Tokens_add_8 : decode b_Tokens_add 8 = .ok (.arraylength, 1) := by decide +kernel
theorem d_Tokens_add_9 : decode b_Tokens_add 9 = .ok (.if_icmp .ge 33, 3) := by decide +kernel
theorem d_Tokens_add_12 : decode b_Tokens_add 12 = .ok (.aload_n 0, 1) := by decide +kernel
theorem d_Tokens_add_13 : decode b_Tokens_add 13 = .ok (.getfield 9, 3) := by decide +kernel
theorem d_Tokens_add_16 : decode b_Tokens_add 16 = .ok (.aload_n 0, 1) := by decide +kernel
theorem d_Tokens_add_17 : decode b_Tokens_add 17 = .ok (.getfield 19, 3) := by decide +kernel
theorem d_Tokens_add_20 : decode b_Tokens_add 20 = .ok (.iload_n 1, 1) := by decide +kernel
theorem d_Tokens_add_21 : decode b_Tokens_add 21 = .ok (.iastore, 1) := by decide +kernel
theorem d_Tokens_add_22 : decode b_Tokens_add 22 = .ok (.aload_n 0, 1) := by decide +kernel
theorem d_Tokens_add_23 : decode b_Tokens_add 23 = .ok (.getfield 15, 3) := by decide +kernel
theorem d_Tokens_add_26 : decode b_Tokens_add 26 = .ok (.aload_n 0, 1) := by decide +kernel
theorem d_Tokens_add_27 : decode b_Tokens_add 27 = .ok (.getfield 19, 3) := by decide +kernel
theorem d_Tokens_add_30 : decode b_Tokens_add 30 = .ok (.lload_n 2, 1) := by decide +kernel
theorem d_Tokens_add_31 : decode b_Tokens_add 31 = .ok (.lastore, 1) := by decide +kernel
theorem d_Tokens_add_32 : decode b_Tokens_add 32 = .ok (.aload_n 0, 1) := by decide +kernel
theorem d_Tokens_add_33 : decode b_Tokens_add 33 = .ok (.dup, 1) := by decide +kernel
theorem d_Tokens_add_34 : decode b_Tokens_add 34 = .ok (.getfield 19, 3) := by decide +kernel
theorem d_Tokens_add_37 : decode b_Tokens_add 37 = .ok (.iconst 1, 1) := by decide +kernel
theorem d_Tokens_add_38 : decode b_Tokens_add 38 = .ok (.iadd, 1) := by decide +kernel
theorem d_Tokens_add_39 : decode b_Tokens_add 39 = .ok (.putfield 19, 3) := by decide +kernel
theorem d_Tokens_add_42 : decode b_Tokens_add 42 = .ok (.return_, 1) := by decide +kernel
theorem d_Tokens_addTimes_0 : decode b_Tokens_addTimes 0 = .ok (.iconst 0, 1) := by decide +kernel
theorem d_Tokens_addTimes_1 : decode b_Tokens_addTimes 1 = .ok (.istore 5, 2) := by decide +kernel
theorem d_Tokens_addTimes_3 : decode b_Tokens_addTimes 3 = .ok (.iload 5, 2) := by decide +kernel
theorem d_Tokens_addTimes_5 : decode b_Tokens_addTimes 5 = .ok (.iload_n 1, 1) := by decide +kernel
theorem d_Tokens_addTimes_6 : decode b_Tokens_addTimes 6 = .ok (.if_icmp .ge 15, 3) := by decide +kernel
theorem d_Tokens_addTimes_9 : decode b_Tokens_addTimes 9 = .ok (.aload_n 0, 1) := by decide +kernel
theorem d_Tokens_addTimes_10 : decode b_Tokens_addTimes 10 = .ok (.iload_n 2, 1) := by decide +kernel
theorem d_Tokens_addTimes_11 : decode b_Tokens_addTimes 11 = .ok (.lload_n 3, 1) := by decide +kernel
theorem d_Tokens_addTimes_12 : decode b_Tokens_addTimes 12 = .ok (.invokevirtual 23, 3) := by decide +kernel
theorem d_Tokens_addTimes_15 : decode b_Tokens_addTimes 15 = .ok (.iinc 5 1, 3) := by decide +kernel
theorem d_Tokens_addTimes_18 : decode b_Tokens_addTimes 18 = .ok (.goto (-15), 3) := by decide +kernel
theorem d_Tokens_addTimes_21 : decode b_Tokens_addTimes 21 = .ok (.return_, 1) := by decide +kernel
theorem d_Tokens_has_0 : decode b_Tokens_has 0 = .ok (.iload_n 1, 1) := by decide +kernel
theorem d_Tokens_has_1 : decode b_Tokens_has 1 = .ok (.ifCond .lt 15, 3) := by decide +kernel
theorem d_Tokens_has_4 : decode b_Tokens_has 4 = .ok (.iload_n 1, 1) := by decide +kernel
theorem d_Tokens_has_5 : decode b_Tokens_has 5 = .ok (.aload_n 0, 1) := by decide +kernel
theorem d_Tokens_has_6 : decode b_Tokens_has 6 = .ok (.getfield 19, 3) := by decide +kernel
theorem d_Tokens_has_9 : decode b_Tokens_has 9 = .ok (.if_icmp .ge 7, 3) := by decide +kernel
theorem d_Tokens_has_12 : decode b_Tokens_has 12 = .ok (.iconst 1, 1) := by decide +kernel
theorem d_Tokens_has_13 : decode b_Tokens_has 13 = .ok (.goto 4, 3) := by decide +kernel
theorem d_Tokens_has_16 : decode b_Tokens_has 16 = .ok (.iconst 0, 1) := by decide +kernel
theorem d_Tokens_has_17 : decode b_Tokens_has 17 = .ok (.ireturn, 1) := by decide +kernel
theorem d_Tokens_kindAt_0 : decode b_Tokens_kindAt 0 = .ok (.aload_n 0, 1) := by decide +kernel
theorem d_Tokens_kindAt_1 : decode b_Tokens_kindAt 1 = .ok (.iload_n 1, 1) := by decide +kernel
theorem d_Tokens_kindAt_2 : decode b_Tokens_kindAt 2 = .ok (.invokevirtual 27, 3) := by decide +kernel
theorem d_Tokens_kindAt_5 : decode b_Tokens_kindAt 5 = .ok (.ifCond .eq 12, 3) := by decide +kernel
theorem d_Tokens_kindAt_8 : decode b_Tokens_kindAt 8 = .ok (.aload_n 0, 1) := by decide +kernel
theorem d_Tokens_kindAt_9 : decode b_Tokens_kindAt 9 = .ok (.getfield 9, 3) := by decide +kernel
theorem d_Tokens_kindAt_12 : decode b_Tokens_kindAt 12 = .ok (.iload_n 1, 1) := by decide +kernel
theorem d_Tokens_kindAt_13 : decode b_Tokens_kindAt 13 = .ok (.iaload, 1) := by decide +kernel
theorem d_Tokens_kindAt_14 : decode b_Tokens_kindAt 14 = .ok (.goto 4, 3) := by decide +kernel
theorem d_Tokens_kindAt_17 : decode b_Tokens_kindAt 17 = .ok (.iconst (-1), 1) := by decide +kernel
theorem d_Tokens_kindAt_18 : decode b_Tokens_kindAt 18 = .ok (.ireturn, 1) := by decide +kernel
theorem d_Tokens_valueAt_0 : decode b_Tokens_valueAt 0 = .ok (.aload_n 0, 1) := by decide +kernel
theorem d_Tokens_valueAt_1 : decode b_Tokens_valueAt 1 = .ok (.iload_n 1, 1) := by decide +kernel
theorem d_Tokens_valueAt_2 : decode b_Tokens_valueAt 2 = .ok (.invokevirtual 27, 3) := by decide +kernel
theorem d_Tokens_valueAt_5 : decode b_Tokens_valueAt 5 = .ok (.ifCond .eq 12, 3) := by decide +kernel
theorem d_Tokens_valueAt_8 : decode b_Tokens_valueAt 8 = .ok (.aload_n 0, 1) := by decide +kernel
theorem d_Tokens_valueAt_9 : decode b_Tokens_valueAt 9 = .ok (.getfield 15, 3) := by decide +kernel
theorem d_Tokens_valueAt_12 : decode b_Tokens_valueAt 12 = .ok (.iload_n 1, 1) := by decide +kernel
theorem d_Tokens_valueAt_13 : decode b_Tokens_valueAt 13 = .ok (.laload, 1) := by decide +kernel
theorem d_Tokens_valueAt_14 : decode b_Tokens_valueAt 14 = .ok (.goto 4, 3) := by decide +kernel
theorem d_Tokens_valueAt_17 : decode b_Tokens_valueAt 17 = .ok (.lconst 0, 1) := by decide +kernel
theorem d_Tokens_valueAt_18 : decode b_Tokens_valueAt 18 = .ok (.lreturn, 1) := by decide +kernel
theorem d_Tokens_isSign_0 : decode b_Tokens_isSign 0 = .ok (.iload_n 1, 1) := by decide +kernel
theorem d_Tokens_isSign_1 : decode b_Tokens_isSign 1 = .ok (.ifCond .lt 37, 3) := by decide +kernel
theorem d_Tokens_isSign_4 : decode b_Tokens_isSign 4 = .ok (.iload_n 1, 1) := by decide +kernel
theorem d_Tokens_isSign_5 : decode b_Tokens_isSign 5 = .ok (.aload_n 0, 1) := by decide +kernel
theorem d_Tokens_isSign_6 : decode b_Tokens_isSign 6 = .ok (.getfield 19, 3) := by decide +kernel
theorem d_Tokens_isSign_9 : decode b_Tokens_isSign 9 = .ok (.if_icmp .ge 29, 3) := by decide +kernel
theorem d_Tokens_isSign_12 : decode b_Tokens_isSign 12 = .ok (.aload_n 0, 1) := by decide +kernel
theorem d_Tokens_isSign_13 : decode b_Tokens_isSign 13 = .ok (.getfield 9, 3) := by decide +kernel
theorem d_Tokens_isSign_16 : decode b_Tokens_isSign 16 = .ok (.iload_n 1, 1) := by decide +kernel
theorem d_Tokens_isSign_17 : decode b_Tokens_isSign 17 = .ok (.iaload, 1) := by decide +kernel
theorem d_Tokens_isSign_18 : decode b_Tokens_isSign 18 = .ok (.iconst 3, 1) := by decide +kernel
theorem d_Tokens_isSign_19 : decode b_Tokens_isSign 19 = .ok (.if_icmp .ne 19, 3) := by decide +kernel
theorem d_Tokens_isSign_22 : decode b_Tokens_isSign 22 = .ok (.aload_n 0, 1) := by decide +kernel
theorem d_Tokens_isSign_23 : decode b_Tokens_isSign 23 = .ok (.getfield 15, 3) := by decide +kernel
theorem d_Tokens_isSign_26 : decode b_Tokens_isSign 26 = .ok (.iload_n 1, 1) := by decide +kernel
theorem d_Tokens_isSign_27 : decode b_Tokens_isSign 27 = .ok (.laload, 1) := by decide +kernel
theorem d_Tokens_isSign_28 : decode b_Tokens_isSign 28 = .ok (.iload_n 2, 1) := by decide +kernel
theorem d_Tokens_isSign_29 : decode b_Tokens_isSign 29 = .ok (.i2l, 1) := by decide +kernel
theorem d_Tokens_isSign_30 : decode b_Tokens_isSign 30 = .ok (.lcmp, 1) := by decide +kernel
theorem d_Tokens_isSign_31 : decode b_Tokens_isSign 31 = .ok (.ifCond .ne 7, 3) := by decide +kernel
theorem d_Tokens_isSign_34 : decode b_Tokens_isSign 34 = .ok (.iconst 1, 1) := by decide +kernel
theorem d_Tokens_isSign_35 : decode b_Tokens_isSign 35 = .ok (.goto 4, 3) := by decide +kernel
theorem d_Tokens_isSign_38 : decode b_Tokens_isSign 38 = .ok (.iconst 0, 1) := by decide +kernel
theorem d_Tokens_isSign_39 : decode b_Tokens_isSign 39 = .ok (.ireturn, 1) := by decide +kernel
theorem d_Tokens_opensBracket_0 : decode b_Tokens_opensBracket 0 = .ok (.aload_n 0, 1) := by decide +kernel
theorem d_Tokens_opensBracket_1 : decode b_Tokens_opensBracket 1 = .ok (.iload_n 1, 1) := by decide +kernel
theorem d_Tokens_opensBracket_2 : decode b_Tokens_opensBracket 2 = .ok (.bipush 40, 2) := by decide +kernel
theorem d_Tokens_opensBracket_4 : decode b_Tokens_opensBracket 4 = .ok (.invokevirtual 31, 3) := by decide +kernel
theorem d_Tokens_opensBracket_7 : decode b_Tokens_opensBracket 7 = .ok (.ifCond .ne 13, 3) := by decide +kernel
theorem d_Tokens_opensBracket_10 : decode b_Tokens_opensBracket 10 = .ok (.aload_n 0, 1) := by decide +kernel
theorem d_Tokens_opensBracket_11 : decode b_Tokens_opensBracket 11 = .ok (.iload_n 1, 1) := by decide +kernel
theorem d_Tokens_opensBracket_12 : decode b_Tokens_opensBracket 12 = .ok (.bipush 91, 2) := by decide +kernel
theorem d_Tokens_opensBracket_14 : decode b_Tokens_opensBracket 14 = .ok (.invokevirtual 31, 3) := by decide +kernel
theorem d_Tokens_opensBracket_17 : decode b_Tokens_opensBracket 17 = .ok (.ifCond .eq 7, 3) := by decide +kernel
theorem d_Tokens_opensBracket_20 : decode b_Tokens_opensBracket 20 = .ok (.iconst 1, 1) := by decide +kernel
theorem d_Tokens_opensBracket_21 : decode b_Tokens_opensBracket 21 = .ok (.goto 4, 3) := by decide +kernel
theorem d_Tokens_opensBracket_24 : decode b_Tokens_opensBracket 24 = .ok (.iconst 0, 1) := by decide +kernel
theorem d_Tokens_opensBracket_25 : decode b_Tokens_opensBracket 25 = .ok (.ireturn, 1) := by decide +kernel
theorem d_Tokens_closesBracket_0 : decode b_Tokens_closesBracket 0 = .ok (.aload_n 0, 1) := by decide +kernel
theorem d_Tokens_closesBracket_1 : decode b_Tokens_closesBracket 1 = .ok (.iload_n 1, 1) := by decide +kernel
theorem d_Tokens_closesBracket_2 : decode b_Tokens_closesBracket 2 = .ok (.bipush 41, 2) := by decide +kernel
theorem d_Tokens_closesBracket_4 : decode b_Tokens_closesBracket 4 = .ok (.invokevirtual 31, 3) := by decide +kernel
theorem d_Tokens_closesBracket_7 : decode b_Tokens_closesBracket 7 = .ok (.ifCond .ne 13, 3) := by decide +kernel
theorem d_Tokens_closesBracket_10 : decode b_Tokens_closesBracket 10 = .ok (.aload_n 0, 1) := by decide +kernel
theorem d_Tokens_closesBracket_11 : decode b_Tokens_closesBracket 11 = .ok (.iload_n 1, 1) := by decide +kernel
theorem d_Tokens_closesBracket_12 : decode b_Tokens_closesBracket 12 = .ok (.bipush 93, 2) := by decide +kernel
theorem d_Tokens_closesBracket_14 : decode b_Tokens_closesBracket 14 = .ok (.invokevirtual 31, 3) := by decide +kernel
theorem d_Tokens_closesBracket_17 : decode b_Tokens_closesBracket 17 = .ok (.ifCond .eq 7, 3) := by decide +kernel
theorem d_Tokens_closesBracket_20 : decode b_Tokens_closesBracket 20 = .ok (.iconst 1, 1) := by decide +kernel
theorem d_Tokens_closesBracket_21 : decode b_Tokens_closesBracket 21 = .ok (.goto 4, 3) := by decide +kernel
theorem d_Tokens_closesBracket_24 : decode b_Tokens_closesBracket 24 = .ok (.iconst 0, 1) := by decide +kernel
theorem d_Tokens_closesBracket_25 : decode b_Tokens_closesBracket 25 = .ok (.ireturn, 1) := by decide +kernel
theorem d_Tokens_wordAt_0 : decode b_Tokens_wordAt 0 = .ok (.aload_n 0, 1) := by decide +kernel
theorem d_Tokens_wordAt_1 : decode b_Tokens_wordAt 1 = .ok (.iload_n 1, 1) := by decide +kernel
theorem d_Tokens_wordAt_2 : decode b_Tokens_wordAt 2 = .ok (.invokevirtual 27, 3) := by decide +kernel
theorem d_Tokens_wordAt_5 : decode b_Tokens_wordAt 5 = .ok (.ifCond .eq 27, 3) := by decide +kernel
theorem d_Tokens_wordAt_8 : decode b_Tokens_wordAt 8 = .ok (.aload_n 0, 1) := by decide +kernel
theorem d_Tokens_wordAt_9 : decode b_Tokens_wordAt 9 = .ok (.getfield 9, 3) := by decide +kernel
theorem d_Tokens_wordAt_12 : decode b_Tokens_wordAt 12 = .ok (.iload_n 1, 1) := by decide +kernel
theorem d_Tokens_wordAt_13 : decode b_Tokens_wordAt 13 = .ok (.iaload, 1) := by decide +kernel
theorem d_Tokens_wordAt_14 : decode b_Tokens_wordAt 14 = .ok (.ifCond .ne 18, 3) := by decide +kernel
theorem d_Tokens_wordAt_17 : decode b_Tokens_wordAt 17 = .ok (.getstatic 35, 3) := by decide +kernel
theorem d_Tokens_wordAt_20 : decode b_Tokens_wordAt 20 = .ok (.aload_n 0, 1) := by decide +kernel
theorem d_Tokens_wordAt_21 : decode b_Tokens_wordAt 21 = .ok (.getfield 15, 3) := by decide +kernel
theorem d_Tokens_wordAt_24 : decode b_Tokens_wordAt 24 = .ok (.iload_n 1, 1) := by decide +kernel
theorem d_Tokens_wordAt_25 : decode b_Tokens_wordAt 25 = .ok (.laload, 1) := by decide +kernel
theorem d_Tokens_wordAt_26 : decode b_Tokens_wordAt 26 = .ok (.invokestatic 38, 3) := by decide +kernel
theorem d_Tokens_wordAt_29 : decode b_Tokens_wordAt 29 = .ok (.goto 4, 3) := by decide +kernel
theorem d_Tokens_wordAt_32 : decode b_Tokens_wordAt 32 = .ok (.iconst (-1), 1) := by decide +kernel
theorem d_Tokens_wordAt_33 : decode b_Tokens_wordAt 33 = .ok (.ireturn, 1) := by decide +kernel
theorem d_Tokens_isFreeName_0 : decode b_Tokens_isFreeName 0 = .ok (.aload_n 0, 1) := by decide +kernel
theorem d_Tokens_isFreeName_1 : decode b_Tokens_isFreeName 1 = .ok (.iload_n 1, 1) := by decide +kernel
theorem d_Tokens_isFreeName_2 : decode b_Tokens_isFreeName 2 = .ok (.invokevirtual 27, 3) := by decide +kernel
theorem d_Tokens_isFreeName_5 : decode b_Tokens_isFreeName 5 = .ok (.ifCond .eq 32, 3) := by decide +kernel
theorem d_Tokens_isFreeName_8 : decode b_Tokens_isFreeName 8 = .ok (.aload_n 0, 1) := by decide +kernel
theorem d_Tokens_isFreeName_9 : decode b_Tokens_isFreeName 9 = .ok (.getfield 9, 3) := by decide +kernel
theorem d_Tokens_isFreeName_12 : decode b_Tokens_isFreeName 12 = .ok (.iload_n 1, 1) := by decide +kernel
theorem d_Tokens_isFreeName_13 : decode b_Tokens_isFreeName 13 = .ok (.iaload, 1) := by decide +kernel
theorem d_Tokens_isFreeName_14 : decode b_Tokens_isFreeName 14 = .ok (.ifCond .ne 23, 3) := by decide +kernel
theorem d_Tokens_isFreeName_17 : decode b_Tokens_isFreeName 17 = .ok (.getstatic 35, 3) := by decide +kernel
theorem d_Tokens_isFreeName_20 : decode b_Tokens_isFreeName 20 = .ok (.aload_n 0, 1) := by decide +kernel
theorem d_Tokens_isFreeName_21 : decode b_Tokens_isFreeName 21 = .ok (.getfield 15, 3) := by decide +kernel
theorem d_Tokens_isFreeName_24 : decode b_Tokens_isFreeName 24 = .ok (.iload_n 1, 1) := by decide +kernel
theorem d_Tokens_isFreeName_25 : decode b_Tokens_isFreeName 25 = .ok (.laload, 1) := by decide +kernel
theorem d_Tokens_isFreeName_26 : decode b_Tokens_isFreeName 26 = .ok (.invokestatic 38, 3) := by decide +kernel
theorem d_Tokens_isFreeName_29 : decode b_Tokens_isFreeName 29 = .ok (.iconst (-1), 1) := by decide +kernel
theorem d_Tokens_isFreeName_30 : decode b_Tokens_isFreeName 30 = .ok (.if_icmp .ne 7, 3) := by decide +kernel
theorem d_Tokens_isFreeName_33 : decode b_Tokens_isFreeName 33 = .ok (.iconst 1, 1) := by decide +kernel
theorem d_Tokens_isFreeName_34 : decode b_Tokens_isFreeName 34 = .ok (.goto 4, 3) := by decide +kernel
theorem d_Tokens_isFreeName_37 : decode b_Tokens_isFreeName 37 = .ok (.iconst 0, 1) := by decide +kernel
theorem d_Tokens_isFreeName_38 : decode b_Tokens_isFreeName 38 = .ok (.ireturn, 1) := by decide +kernel
theorem d_Tokens_isFreeOperator_0 : decode b_Tokens_isFreeOperator 0 = .ok (.aload_n 0, 1) := by decide +kernel
theorem d_Tokens_isFreeOperator_1 : decode b_Tokens_isFreeOperator 1 = .ok (.iload_n 1, 1) := by decide +kernel
theorem d_Tokens_isFreeOperator_2 : decode b_Tokens_isFreeOperator 2 = .ok (.invokevirtual 27, 3) := by decide +kernel
theorem d_Tokens_isFreeOperator_5 : decode b_Tokens_isFreeOperator 5 = .ok (.ifCond .eq 33, 3) := by decide +kernel
theorem d_Tokens_isFreeOperator_8 : decode b_Tokens_isFreeOperator 8 = .ok (.aload_n 0, 1) := by decide +kernel
theorem d_Tokens_isFreeOperator_9 : decode b_Tokens_isFreeOperator 9 = .ok (.getfield 9, 3) := by decide +kernel
theorem d_Tokens_isFreeOperator_12 : decode b_Tokens_isFreeOperator 12 = .ok (.iload_n 1, 1) := by decide +kernel
theorem d_Tokens_isFreeOperator_13 : decode b_Tokens_isFreeOperator 13 = .ok (.iaload, 1) := by decide +kernel
theorem d_Tokens_isFreeOperator_14 : decode b_Tokens_isFreeOperator 14 = .ok (.iconst 2, 1) := by decide +kernel
theorem d_Tokens_isFreeOperator_15 : decode b_Tokens_isFreeOperator 15 = .ok (.if_icmp .ne 23, 3) := by decide +kernel
theorem d_Tokens_isFreeOperator_18 : decode b_Tokens_isFreeOperator 18 = .ok (.getstatic 42, 3) := by decide +kernel
theorem d_Tokens_isFreeOperator_21 : decode b_Tokens_isFreeOperator 21 = .ok (.aload_n 0, 1) := by decide +kernel
theorem d_Tokens_isFreeOperator_22 : decode b_Tokens_isFreeOperator 22 = .ok (.getfield 15, 3) := by decide +kernel
theorem d_Tokens_isFreeOperator_25 : decode b_Tokens_isFreeOperator 25 = .ok (.iload_n 1, 1) := by decide +kernel
theorem d_Tokens_isFreeOperator_26 : decode b_Tokens_isFreeOperator 26 = .ok (.laload, 1) := by decide +kernel
theorem d_Tokens_isFreeOperator_27 : decode b_Tokens_isFreeOperator 27 = .ok (.invokestatic 38, 3) := by decide +kernel
theorem d_Tokens_isFreeOperator_30 : decode b_Tokens_isFreeOperator 30 = .ok (.iconst (-1), 1) := by decide +kernel
theorem d_Tokens_isFreeOperator_31 : decode b_Tokens_isFreeOperator 31 = .ok (.if_icmp .ne 7, 3) := by decide +kernel
theorem d_Tokens_isFreeOperator_34 : decode b_Tokens_isFreeOperator 34 = .ok (.iconst 1, 1) := by decide +kernel
theorem d_Tokens_isFreeOperator_35 : decode b_Tokens_isFreeOperator 35 = .ok (.goto 4, 3) := by decide +kernel
theorem d_Tokens_isFreeOperator_38 : decode b_Tokens_isFreeOperator 38 = .ok (.iconst 0, 1) := by decide +kernel
theorem d_Tokens_isFreeOperator_39 : decode b_Tokens_isFreeOperator 39 = .ok (.ireturn, 1) := by decide +kernel
theorem d_Tokens_find_0 : decode b_Tokens_find 0 = .ok (.iconst 0, 1) := by decide +kernel
theorem d_Tokens_find_1 : decode b_Tokens_find 1 = .ok (.istore_n 3, 1) := by decide +kernel
theorem d_Tokens_find_2 : decode b_Tokens_find 2 = .ok (.iload_n 3, 1) := by decide +kernel
theorem d_Tokens_find_3 : decode b_Tokens_find 3 = .ok (.aload_n 0, 1) := by decide +kernel
theorem d_Tokens_find_4 : decode b_Tokens_find 4 = .ok (.arraylength, 1) := by decide +kernel
theorem d_Tokens_find_5 : decode b_Tokens_find 5 = .ok (.if_icmp .ge 19, 3) := by decide +kernel
theorem d_Tokens_find_8 : decode b_Tokens_find 8 = .ok (.aload_n 0, 1) := by decide +kernel
theorem d_Tokens_find_9 : decode b_Tokens_find 9 = .ok (.iload_n 3, 1) := by decide +kernel
theorem d_Tokens_find_10 : decode b_Tokens_find 10 = .ok (.laload, 1) := by decide +kernel
theorem d_Tokens_find_11 : decode b_Tokens_find 11 = .ok (.lload_n 1, 1) := by decide +kernel
theorem d_Tokens_find_12 : decode b_Tokens_find 12 = .ok (.lcmp, 1) := by decide +kernel
theorem d_Tokens_find_13 : decode b_Tokens_find 13 = .ok (.ifCond .ne 5, 3) := by decide +kernel
theorem d_Tokens_find_16 : decode b_Tokens_find 16 = .ok (.iload_n 3, 1) := by decide +kernel
theorem d_Tokens_find_17 : decode b_Tokens_find 17 = .ok (.ireturn, 1) := by decide +kernel
theorem d_Tokens_find_18 : decode b_Tokens_find 18 = .ok (.iinc 3 1, 3) := by decide +kernel
theorem d_Tokens_find_21 : decode b_Tokens_find 21 = .ok (.goto (-19), 3) := by decide +kernel
theorem d_Tokens_find_24 : decode b_Tokens_find 24 = .ok (.iconst (-1), 1) := by decide +kernel
theorem d_Tokens_find_25 : decode b_Tokens_find 25 = .ok (.ireturn, 1) := by decide +kernel
theorem d_Lexemes_init_0 : decode b_Lexemes_init 0 = .ok (.aload_n 0, 1) := by decide +kernel
theorem d_Lexemes_init_1 : decode b_Lexemes_init 1 = .ok (.invokespecial 3, 3) := by decide +kernel
theorem d_Lexemes_init_4 : decode b_Lexemes_init 4 = .ok (.aload_n 0, 1) := by decide +kernel
theorem d_Lexemes_init_5 : decode b_Lexemes_init 5 = .ok (.new 9, 3) := by decide +kernel
theorem d_Lexemes_init_8 : decode b_Lexemes_init 8 = .ok (.dup, 1) := by decide +kernel
theorem d_Lexemes_init_9 : decode b_Lexemes_init 9 = .ok (.bipush 90, 2) := by decide +kernel
theorem d_Lexemes_init_11 : decode b_Lexemes_init 11 = .ok (.invokespecial 11, 3) := by decide +kernel
theorem d_Lexemes_init_14 : decode b_Lexemes_init 14 = .ok (.putfield 14, 3) := by decide +kernel
theorem d_Lexemes_init_17 : decode b_Lexemes_init 17 = .ok (.aload_n 0, 1) := by decide +kernel
theorem d_Lexemes_init_18 : decode b_Lexemes_init 18 = .ok (.bipush 90, 2) := by decide +kernel
theorem d_Lexemes_init_20 : decode b_Lexemes_init 20 = .ok (.newarray .int, 2) := by decide +kernel
theorem d_Lexemes_init_22 : decode b_Lexemes_init 22 = .ok (.putfield 20, 3) := by decide +kernel
theorem d_Lexemes_init_25 : decode b_Lexemes_init 25 = .ok (.aload_n 0, 1) := by decide +kernel
theorem d_Lexemes_init_26 : decode b_Lexemes_init 26 = .ok (.bipush 90, 2) := by decide +kernel
theorem d_Lexemes_init_28 : decode b_Lexemes_init 28 = .ok (.newarray .int, 2) := by decide +kernel
theorem d_Lexemes_init_30 : decode b_Lexemes_init 30 = .ok (.putfield 24, 3) := by decide +kernel
theorem d_Lexemes_init_33 : decode b_Lexemes_init 33 = .ok (.aload_n 0, 1) := by decide +kernel
theorem d_Lexemes_init_34 : decode b_Lexemes_init 34 = .ok (.bipush 90, 2) := by decide +kernel
theorem d_Lexemes_init_36 : decode b_Lexemes_init 36 = .ok (.newarray .boolean, 2) := by decide +kernel
theorem d_Lexemes_init_38 : decode b_Lexemes_init 38 = .ok (.putfield 27, 3) := by decide +kernel
theorem d_Lexemes_init_41 : decode b_Lexemes_init 41 = .ok (.return_, 1) := by decide +kernel
theorem d_Lexemes_clear_0 : decode b_Lexemes_clear 0 = .ok (.aload_n 0, 1) := by decide +kernel
theorem d_Lexemes_clear_1 : decode b_Lexemes_clear 1 = .ok (.getfield 14, 3) := by decide +kernel
theorem d_Lexemes_clear_4 : decode b_Lexemes_clear 4 = .ok (.invokevirtual 31, 3) := by decide +kernel
theorem d_Lexemes_clear_7 : decode b_Lexemes_clear 7 = .ok (.return_, 1) := by decide +kernel
theorem d_Lexemes_size_0 : decode b_Lexemes_size 0 = .ok (.aload_n 0, 1) := by decide +kernel
