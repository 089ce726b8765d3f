theorem d_Resolver_init_5 : decode b_Resolver_init 5 = .ok (.bipush 90, 2) := by decide +kernel
theorem d_Resolver_init_7 : decode b_Resolver_init 7 = .ok (.newarray .int, 2) := by decide +kernel
theorem d_Resolver_init_9 : decode b_Resolver_init 9 = .ok (.putfield 9, 3) := by decide +kernel
theorem d_Resolver_init_12 : decode b_Resolver_init 12 = .ok (.aload_n 0, 1) := by decide +kernel
theorem d_Resolver_init_13 : decode b_Resolver_init 13 = .ok (.bipush 90, 2) := by decide +kernel
theorem d_Resolver_init_15 : decode b_Resolver_init 15 = .ok (.newarray .int, 2) := by decide +kernel
theorem d_Resolver_init_17 : decode b_Resolver_init 17 = .ok (.putfield 15, 3) := by decide +kernel
theorem d_Resolver_init_20 : decode b_Resolver_init 20 = .ok (.aload_n 0, 1) := by decide +kernel
theorem d_Resolver_init_21 : decode b_Resolver_init 21 = .ok (.bipush 90, 2) := by decide +kernel
theorem d_Resolver_init_23 : decode b_Resolver_init 23 = .ok (.newarray .int, 2) := by decide +kernel
theorem d_Resolver_init_25 : decode b_Resolver_init 25 = .ok (.putfield 18, 3) := by decide +kernel
theorem d_Resolver_init_28 : decode b_Resolver_init 28 = .ok (.aload_n 0, 1) := by decide +kernel
theorem d_Resolver_init_29 : decode b_Resolver_init 29 = .ok (.bipush 90, 2) := by decide +kernel
theorem d_Resolver_init_31 : decode b_Resolver_init 31 = .ok (.newarray .int, 2) := by decide +kernel
theorem d_Resolver_init_33 : decode b_Resolver_init 33 = .ok (.putfield 21, 3) := by decide +kernel
theorem d_Resolver_init_36 : decode b_Resolver_init 36 = .ok (.aload_n 0, 1) := by decide +kernel
theorem d_Resolver_init_37 : decode b_Resolver_init 37 = .ok (.bipush 90, 2) := by decide +kernel
theorem d_Resolver_init_39 : decode b_Resolver_init 39 = .ok (.newarray .int, 2) := by decide +kernel
theorem d_Resolver_init_41 : decode b_Resolver_init 41 = .ok (.putfield 24, 3) := by decide +kernel
theorem d_Resolver_init_44 : decode b_Resolver_init 44 = .ok (.aload_n 0, 1) := by decide +kernel
theorem d_Resolver_init_45 : decode b_Resolver_init 45 = .ok (.bipush 90, 2) := by decide +kernel
theorem d_Resolver_init_47 : decode b_Resolver_init 47 = .ok (.newarray .int, 2) := by decide +kernel
theorem d_Resolver_init_49 : decode b_Resolver_init 49 = .ok (.putfield 27, 3) := by decide +kernel
theorem d_Resolver_init_52 : decode b_Resolver_init 52 = .ok (.aload_n 0, 1) := by decide +kernel
theorem d_Resolver_init_53 : decode b_Resolver_init 53 = .ok (.bipush 90, 2) := by decide +kernel
theorem d_Resolver_init_55 : decode b_Resolver_init 55 = .ok (.newarray .int, 2) := by decide +kernel
theorem d_Resolver_init_57 : decode b_Resolver_init 57 = .ok (.putfield 30, 3) := by decide +kernel
theorem d_Resolver_init_60 : decode b_Resolver_init 60 = .ok (.return_, 1) := by decide +kernel
theorem d_Resolver_clear_0 : decode b_Resolver_clear 0 = .ok (.aload_n 0, 1) := by decide +kernel
theorem d_Resolver_clear_1 : decode b_Resolver_clear 1 = .ok (.iconst 0, 1) := by decide +kernel
theorem d_Resolver_clear_2 : decode b_Resolver_clear 2 = .ok (.putfield 33, 3) := by decide +kernel
theorem d_Resolver_clear_5 : decode b_Resolver_clear 5 = .ok (.aload_n 0, 1) := by decide +kernel
theorem d_Resolver_clear_6 : decode b_Resolver_clear 6 = .ok (.invokevirtual 37, 3) := by decide +kernel
theorem d_Resolver_clear_9 : decode b_Resolver_clear 9 = .ok (.return_, 1) := by decide +kernel
theorem d_Resolver_startRow_0 : decode b_Resolver_startRow 0 = .ok (.aload_n 0, 1) := by decide +kernel
theorem d_Resolver_startRow_1 : decode b_Resolver_startRow 1 = .ok (.aload_n 0, 1) := by decide +kernel
theorem d_Resolver_startRow_2 : decode b_Resolver_startRow 2 = .ok (.getfield 33, 3) := by decide +kernel
theorem d_Resolver_startRow_5 : decode b_Resolver_startRow 5 = .ok (.putfield 40, 3) := by decide +kernel
theorem d_Resolver_startRow_8 : decode b_Resolver_startRow 8 = .ok (.aload_n 0, 1) := by decide +kernel
theorem d_Resolver_startRow_9 : decode b_Resolver_startRow 9 = .ok (.iconst 0, 1) := by decide +kernel
theorem d_Resolver_startRow_10 : decode b_Resolver_startRow 10 = .ok (.putfield 43, 3) := by decide +kernel
theorem d_Resolver_startRow_13 : decode b_Resolver_startRow 13 = .ok (.aload_n 0, 1) := by decide +kernel
theorem d_Resolver_startRow_14 : decode b_Resolver_startRow 14 = .ok (.iconst 0, 1) := by decide +kernel
theorem d_Resolver_startRow_15 : decode b_Resolver_startRow 15 = .ok (.putfield 46, 3) := by decide +kernel
theorem d_Resolver_startRow_18 : decode b_Resolver_startRow 18 = .ok (.return_, 1) := by decide +kernel
theorem d_Resolver_giveUpRow_0 : decode b_Resolver_giveUpRow 0 = .ok (.aload_n 0, 1) := by decide +kernel
theorem d_Resolver_giveUpRow_1 : decode b_Resolver_giveUpRow 1 = .ok (.aload_n 0, 1) := by decide +kernel
theorem d_Resolver_giveUpRow_2 : decode b_Resolver_giveUpRow 2 = .ok (.getfield 40, 3) := by decide +kernel
theorem d_Resolver_giveUpRow_5 : decode b_Resolver_giveUpRow 5 = .ok (.putfield 33, 3) := by decide +kernel
theorem d_Resolver_giveUpRow_8 : decode b_Resolver_giveUpRow 8 = .ok (.return_, 1) := by decide +kernel
theorem d_Resolver_finishRow_0 : decode b_Resolver_finishRow 0 = .ok (.aload_n 0, 1) := by decide +kernel
theorem d_Resolver_finishRow_1 : decode b_Resolver_finishRow 1 = .ok (.getfield 46, 3) := by decide +kernel
theorem d_Resolver_finishRow_4 : decode b_Resolver_finishRow 4 = .ok (.istore_n 1, 1) := by decide +kernel
theorem d_Resolver_finishRow_5 : decode b_Resolver_finishRow 5 = .ok (.iload_n 1, 1) := by decide +kernel
theorem d_Resolver_finishRow_6 : decode b_Resolver_finishRow 6 = .ok (.ifCond .le 13, 3) := by decide +kernel
theorem d_Resolver_finishRow_9 : decode b_Resolver_finishRow 9 = .ok (.aload_n 0, 1) := by decide +kernel
theorem d_Resolver_finishRow_10 : decode b_Resolver_finishRow 10 = .ok (.invokevirtual 49, 3) := by decide +kernel
theorem d_Resolver_finishRow_13 : decode b_Resolver_finishRow 13 = .ok (.iinc 1 (-1), 3) := by decide +kernel
theorem d_Resolver_finishRow_16 : decode b_Resolver_finishRow 16 = .ok (.goto (-11), 3) := by decide +kernel
theorem d_Resolver_finishRow_19 : decode b_Resolver_finishRow 19 = .ok (.return_, 1) := by decide +kernel
theorem d_Resolver_takeOperand_0 : decode b_Resolver_takeOperand 0 = .ok (.aload_n 0, 1) := by decide +kernel
theorem d_Resolver_takeOperand_1 : decode b_Resolver_takeOperand 1 = .ok (.getfield 43, 3) := by decide +kernel
theorem d_Resolver_takeOperand_4 : decode b_Resolver_takeOperand 4 = .ok (.bipush 90, 2) := by decide +kernel
theorem d_Resolver_takeOperand_6 : decode b_Resolver_takeOperand 6 = .ok (.if_icmp .ge 33, 3) := by decide +kernel
theorem d_Resolver_takeOperand_9 : decode b_Resolver_takeOperand 9 = .ok (.aload_n 0, 1) := by decide +kernel
theorem d_Resolver_takeOperand_10 : decode b_Resolver_takeOperand 10 = .ok (.getfield 18, 3) := by decide +kernel
theorem d_Resolver_takeOperand_13 : decode b_Resolver_takeOperand 13 = .ok (.aload_n 0, 1) := by decide +kernel
theorem d_Resolver_takeOperand_14 : decode b_Resolver_takeOperand 14 = .ok (.getfield 43, 3) := by decide +kernel
theorem d_Resolver_takeOperand_17 : decode b_Resolver_takeOperand 17 = .ok (.iload_n 1, 1) := by decide +kernel
theorem d_Resolver_takeOperand_18 : decode b_Resolver_takeOperand 18 = .ok (.iastore, 1) := by decide +kernel
theorem d_Resolver_takeOperand_19 : decode b_Resolver_takeOperand 19 = .ok (.aload_n 0, 1) := by decide +kernel
theorem d_Resolver_takeOperand_20 : decode b_Resolver_takeOperand 20 = .ok (.getfield 21, 3) := by decide +kernel
theorem d_Resolver_takeOperand_23 : decode b_Resolver_takeOperand 23 = .ok (.aload_n 0, 1) := by decide +kernel
theorem d_Resolver_takeOperand_24 : decode b_Resolver_takeOperand 24 = .ok (.getfield 43, 3) := by decide +kernel
theorem d_Resolver_takeOperand_27 : decode b_Resolver_takeOperand 27 = .ok (.iload_n 2, 1) := by decide +kernel
theorem d_Resolver_takeOperand_28 : decode b_Resolver_takeOperand 28 = .ok (.iastore, 1) := by decide +kernel
theorem d_Resolver_takeOperand_29 : decode b_Resolver_takeOperand 29 = .ok (.aload_n 0, 1) := by decide +kernel
theorem d_Resolver_takeOperand_30 : decode b_Resolver_takeOperand 30 = .ok (.dup, 1) := by decide +kernel
theorem d_Resolver_takeOperand_31 : decode b_Resolver_takeOperand 31 = .ok (.getfield 43, 3) := by decide +kernel
theorem d_Resolver_takeOperand_34 : decode b_Resolver_takeOperand 34 = .ok (.iconst 1, 1) := by decide +kernel
theorem d_Resolver_takeOperand_35 : decode b_Resolver_takeOperand 35 = .ok (.iadd, 1) := by decide +kernel
theorem d_Resolver_takeOperand_36 : decode b_Resolver_takeOperand 36 = .ok (.putfield 43, 3) := by decide +kernel
theorem d_Resolver_takeOperand_39 : decode b_Resolver_takeOperand 39 = .ok (.return_, 1) := by decide +kernel
theorem d_Resolver_takeMinus_0 : decode b_Resolver_takeMinus 0 = .ok (.aload_n 0, 1) := by decide +kernel
theorem d_Resolver_takeMinus_1 : decode b_Resolver_takeMinus 1 = .ok (.getfield 46, 3) := by decide +kernel
theorem d_Resolver_takeMinus_4 : decode b_Resolver_takeMinus 4 = .ok (.ifCond .le 21, 3) := by decide +kernel
theorem d_Resolver_takeMinus_7 : decode b_Resolver_takeMinus 7 = .ok (.aload_n 0, 1) := by decide +kernel
theorem d_Resolver_takeMinus_8 : decode b_Resolver_takeMinus 8 = .ok (.getfield 24, 3) := by decide +kernel
theorem d_Resolver_takeMinus_11 : decode b_Resolver_takeMinus 11 = .ok (.aload_n 0, 1) := by decide +kernel
theorem d_Resolver_takeMinus_12 : decode b_Resolver_takeMinus 12 = .ok (.getfield 46, 3) := by decide +kernel
theorem d_Resolver_takeMinus_15 : decode b_Resolver_takeMinus 15 = .ok (.iconst 1, 1) := by decide +kernel
theorem d_Resolver_takeMinus_16 : decode b_Resolver_takeMinus 16 = .ok (.isub, 1) := by decide +kernel
theorem d_Resolver_takeMinus_17 : decode b_Resolver_takeMinus 17 = .ok (.iaload, 1) := by decide +kernel
theorem d_Resolver_takeMinus_18 : decode b_Resolver_takeMinus 18 = .ok (.bipush 6, 2) := by decide +kernel
theorem d_Resolver_takeMinus_20 : decode b_Resolver_takeMinus 20 = .ok (.if_icmp .lt 5, 3) := by decide +kernel
theorem d_Resolver_takeMinus_23 : decode b_Resolver_takeMinus 23 = .ok (.iconst 0, 1) := by decide +kernel
theorem d_Resolver_takeMinus_24 : decode b_Resolver_takeMinus 24 = .ok (.ireturn, 1) := by decide +kernel
theorem d_Resolver_takeMinus_25 : decode b_Resolver_takeMinus 25 = .ok (.aload_n 0, 1) := by decide +kernel
theorem d_Resolver_takeMinus_26 : decode b_Resolver_takeMinus 26 = .ok (.bipush 6, 2) := by decide +kernel
theorem d_Resolver_takeMinus_28 : decode b_Resolver_takeMinus 28 = .ok (.iconst 0, 1) := by decide +kernel
theorem d_Resolver_takeMinus_29 : decode b_Resolver_takeMinus 29 = .ok (.iload_n 1, 1) := by decide +kernel
theorem d_Resolver_takeMinus_30 : decode b_Resolver_takeMinus 30 = .ok (.invokevirtual 52, 3) := by decide +kernel
theorem d_Resolver_takeMinus_33 : decode b_Resolver_takeMinus 33 = .ok (.iconst 1, 1) := by decide +kernel
theorem d_Resolver_takeMinus_34 : decode b_Resolver_takeMinus 34 = .ok (.ireturn, 1) := by decide +kernel
theorem d_Resolver_takeOperation_0 : decode b_Resolver_takeOperation 0 = .ok (.aload_n 0, 1) := by decide +kernel
theorem d_Resolver_takeOperation_1 : decode b_Resolver_takeOperation 1 = .ok (.getfield 46, 3) := by decide +kernel
theorem d_Resolver_takeOperation_4 : decode b_Resolver_takeOperation 4 = .ok (.iconst 1, 1) := by decide +kernel
theorem d_Resolver_takeOperation_5 : decode b_Resolver_takeOperation 5 = .ok (.isub, 1) := by decide +kernel
theorem d_Resolver_takeOperation_6 : decode b_Resolver_takeOperation 6 = .ok (.istore_n 3, 1) := by decide +kernel
theorem d_Resolver_takeOperation_7 : decode b_Resolver_takeOperation 7 = .ok (.iload_n 3, 1) := by decide +kernel
theorem d_Resolver_takeOperation_8 : decode b_Resolver_takeOperation 8 = .ok (.ifCond .lt 74, 3) := by decide +kernel
theorem d_Resolver_takeOperation_11 : decode b_Resolver_takeOperation 11 = .ok (.aload_n 0, 1) := by decide +kernel
theorem d_Resolver_takeOperation_12 : decode b_Resolver_takeOperation 12 = .ok (.getfield 24, 3) := by decide +kernel
theorem d_Resolver_takeOperation_15 : decode b_Resolver_takeOperation 15 = .ok (.iload_n 3, 1) := by decide +kernel
theorem d_Resolver_takeOperation_16 : decode b_Resolver_takeOperation 16 = .ok (.iaload, 1) := by decide +kernel
theorem d_Resolver_takeOperation_17 : decode b_Resolver_takeOperation 17 = .ok (.iload_n 1, 1) := by decide +kernel
theorem d_Resolver_takeOperation_18 : decode b_Resolver_takeOperation 18 = .ok (.if_icmp .ne 7, 3) := by decide +kernel
theorem d_Resolver_takeOperation_21 : decode b_Resolver_takeOperation 21 = .ok (.iconst 1, 1) := by decide +kernel
theorem d_Resolver_takeOperation_22 : decode b_Resolver_takeOperation 22 = .ok (.goto 4, 3) := by decide +kernel
theorem d_Resolver_takeOperation_25 : decode b_Resolver_takeOperation 25 = .ok (.iconst 0, 1) := by decide +kernel
theorem d_Resolver_takeOperation_26 : decode b_Resolver_takeOperation 26 = .ok (.istore 4, 2) := by decide +kernel
theorem d_Resolver_takeOperation_28 : decode b_Resolver_takeOperation 28 = .ok (.iload 4, 2) := by decide +kernel
theorem d_Resolver_takeOperation_30 : decode b_Resolver_takeOperation 30 = .ok (.ifCond .eq 20, 3) := by decide +kernel
theorem d_Resolver_takeOperation_33 : decode b_Resolver_takeOperation 33 = .ok (.aload_n 0, 1) := by decide +kernel
theorem d_Resolver_takeOperation_34 : decode b_Resolver_takeOperation 34 = .ok (.getfield 27, 3) := by decide +kernel
theorem d_Resolver_takeOperation_37 : decode b_Resolver_takeOperation 37 = .ok (.iload_n 3, 1) := by decide +kernel
theorem d_Resolver_takeOperation_38 : decode b_Resolver_takeOperation 38 = .ok (.iaload, 1) := by decide +kernel
theorem d_Resolver_takeOperation_39 : decode b_Resolver_takeOperation 39 = .ok (.iload_n 2, 1) := by decide +kernel
theorem d_Resolver_takeOperation_40 : decode b_Resolver_takeOperation 40 = .ok (.if_icmp .ne 8, 3) := by decide +kernel
theorem d_Resolver_takeOperation_43 : decode b_Resolver_takeOperation 43 = .ok (.iload_n 2, 1) := by decide +kernel
theorem d_Resolver_takeOperation_44 : decode b_Resolver_takeOperation 44 = .ok (.iconst 2, 1) := by decide +kernel
theorem d_Resolver_takeOperation_45 : decode b_Resolver_takeOperation 45 = .ok (.if_icmp .ne 5, 3) := by decide +kernel
theorem d_Resolver_takeOperation_48 : decode b_Resolver_takeOperation 48 = .ok (.iconst 0, 1) := by decide +kernel
theorem d_Resolver_takeOperation_49 : decode b_Resolver_takeOperation 49 = .ok (.ireturn, 1) := by decide +kernel
theorem d_Resolver_takeOperation_50 : decode b_Resolver_takeOperation 50 = .ok (.aload_n 0, 1) := by decide +kernel
theorem d_Resolver_takeOperation_51 : decode b_Resolver_takeOperation 51 = .ok (.getfield 24, 3) := by decide +kernel
theorem d_Resolver_takeOperation_54 : decode b_Resolver_takeOperation 54 = .ok (.iload_n 3, 1) := by decide +kernel
theorem d_Resolver_takeOperation_55 : decode b_Resolver_takeOperation 55 = .ok (.iaload, 1) := by decide +kernel
theorem d_Resolver_takeOperation_56 : decode b_Resolver_takeOperation 56 = .ok (.iload_n 1, 1) := by decide +kernel
theorem d_Resolver_takeOperation_57 : decode b_Resolver_takeOperation 57 = .ok (.if_icmp .lt 25, 3) := by decide +kernel
theorem d_Resolver_takeOperation_60 : decode b_Resolver_takeOperation 60 = .ok (.iload 4, 2) := by decide +kernel
theorem d_Resolver_takeOperation_62 : decode b_Resolver_takeOperation 62 = .ok (.ifCond .eq 10, 3) := by decide +kernel
theorem d_Resolver_takeOperation_65 : decode b_Resolver_takeOperation 65 = .ok (.iload_n 2, 1) := by decide +kernel
theorem d_Resolver_takeOperation_66 : decode b_Resolver_takeOperation 66 = .ok (.ifCond .eq 6, 3) := by decide +kernel
theorem d_Resolver_takeOperation_69 : decode b_Resolver_takeOperation 69 = .ok (.goto 13, 3) := by decide +kernel
theorem d_Resolver_takeOperation_72 : decode b_Resolver_takeOperation 72 = .ok (.aload_n 0, 1) := by decide +kernel
theorem d_Resolver_takeOperation_73 : decode b_Resolver_takeOperation 73 = .ok (.invokevirtual 49, 3) := by decide +kernel
theorem d_Resolver_takeOperation_76 : decode b_Resolver_takeOperation 76 = .ok (.iinc 3 (-1), 3) := by decide +kernel
theorem d_Resolver_takeOperation_79 : decode b_Resolver_takeOperation 79 = .ok (.goto (-72), 3) := by decide +kernel
theorem d_Resolver_takeOperation_82 : decode b_Resolver_takeOperation 82 = .ok (.aload_n 0, 1) := by decide +kernel
theorem d_Resolver_takeOperation_83 : decode b_Resolver_takeOperation 83 = .ok (.iload_n 1, 1) := by decide +kernel
theorem d_Resolver_takeOperation_84 : decode b_Resolver_takeOperation 84 = .ok (.iload_n 2, 1) := by decide +kernel
theorem d_Resolver_takeOperation_85 : decode b_Resolver_takeOperation 85 = .ok (.iconst (-1), 1) := by decide +kernel
theorem d_Resolver_takeOperation_86 : decode b_Resolver_takeOperation 86 = .ok (.invokevirtual 52, 3) := by decide +kernel
theorem d_Resolver_takeOperation_89 : decode b_Resolver_takeOperation 89 = .ok (.iconst 1, 1) := by decide +kernel
theorem d_Resolver_takeOperation_90 : decode b_Resolver_takeOperation 90 = .ok (.ireturn, 1) := by decide +kernel
theorem d_Resolver_letWait_0 : decode b_Resolver_letWait 0 = .ok (.aload_n 0, 1) := by decide +kernel
theorem d_Resolver_letWait_1 : decode b_Resolver_letWait 1 = .ok (.getfield 46, 3) := by decide +kernel
theorem d_Resolver_letWait_4 : decode b_Resolver_letWait 4 = .ok (.bipush 90, 2) := by decide +kernel
theorem d_Resolver_letWait_6 : decode b_Resolver_letWait 6 = .ok (.if_icmp .ge 43, 3) := by decide +kernel
theorem d_Resolver_letWait_9 : decode b_Resolver_letWait 9 = .ok (.aload_n 0, 1) := by decide +kernel
theorem d_Resolver_letWait_10 : decode b_Resolver_letWait 10 = .ok (.getfield 24, 3) := by decide +kernel
theorem d_Resolver_letWait_13 : decode b_Resolver_letWait 13 = .ok (.aload_n 0, 1) := by decide +kernel
theorem d_Resolver_letWait_14 : decode b_Resolver_letWait 14 = .ok (.getfield 46, 3) := by decide +kernel
theorem d_Resolver_letWait_17 : decode b_Resolver_letWait 17 = .ok (.iload_n 1, 1) := by decide +kernel
theorem d_Resolver_letWait_18 : decode b_Resolver_letWait 18 = .ok (.iastore, 1) := by decide +kernel
theorem d_Resolver_letWait_19 : decode b_Resolver_letWait 19 = .ok (.aload_n 0, 1) := by decide +kernel
theorem d_Resolver_letWait_20 : decode b_Resolver_letWait 20 = .ok (.getfield 27, 3) := by decide +kernel
theorem d_Resolver_letWait_23 : decode b_Resolver_letWait 23 = .ok (.aload_n 0, 1) := by decide +kernel
theorem d_Resolver_letWait_24 : decode b_Resolver_letWait 24 = .ok (.getfield 46, 3) := by decide +kernel
theorem d_Resolver_letWait_27 : decode b_Resolver_letWait 27 = .ok (.iload_n 2, 1) := by decide +kernel
theorem d_Resolver_letWait_28 : decode b_Resolver_letWait 28 = .ok (.iastore, 1) := by decide +kernel
theorem d_Resolver_letWait_29 : decode b_Resolver_letWait 29 = .ok (.aload_n 0, 1) := by decide +kernel
theorem d_Resolver_letWait_30 : decode b_Resolver_letWait 30 = .ok (.getfield 30, 3) := by decide +kernel
theorem d_Resolver_letWait_33 : decode b_Resolver_letWait 33 = .ok (.aload_n 0, 1) := by decide +kernel
theorem d_Resolver_letWait_34 : decode b_Resolver_letWait 34 = .ok (.getfield 46, 3) := by decide +kernel
theorem d_Resolver_letWait_37 : decode b_Resolver_letWait 37 = .ok (.iload_n 3, 1) := by decide +kernel
theorem d_Resolver_letWait_38 : decode b_Resolver_letWait 38 = .ok (.iastore, 1) := by decide +kernel
theorem d_Resolver_letWait_39 : decode b_Resolver_letWait 39 = .ok (.aload_n 0, 1) := by decide +kernel
theorem d_Resolver_letWait_40 : decode b_Resolver_letWait 40 = .ok (.dup, 1) := by decide +kernel
theorem d_Resolver_letWait_41 : decode b_Resolver_letWait 41 = .ok (.getfield 46, 3) := by decide +kernel
theorem d_Resolver_letWait_44 : decode b_Resolver_letWait 44 = .ok (.iconst 1, 1) := by decide +kernel
theorem d_Resolver_letWait_45 : decode b_Resolver_letWait 45 = .ok (.iadd, 1) := by decide +kernel
theorem d_Resolver_letWait_46 : decode b_Resolver_letWait 46 = .ok (.putfield 46, 3) := by decide +kernel
theorem d_Resolver_letWait_49 : decode b_Resolver_letWait 49 = .ok (.return_, 1) := by decide +kernel
theorem d_Resolver_giveSides_0 : decode b_Resolver_giveSides 0 = .ok (.aload_n 0, 1) := by decide +kernel
theorem d_Resolver_giveSides_1 : decode b_Resolver_giveSides 1 = .ok (.getfield 46, 3) := by decide +kernel
theorem d_Resolver_giveSides_4 : decode b_Resolver_giveSides 4 = .ok (.iconst 1, 1) := by decide +kernel
theorem d_Resolver_giveSides_5 : decode b_Resolver_giveSides 5 = .ok (.if_icmp .lt 11, 3) := by decide +kernel
theorem d_Resolver_giveSides_8 : decode b_Resolver_giveSides 8 = .ok (.aload_n 0, 1) := by decide +kernel
theorem d_Resolver_giveSides_9 : decode b_Resolver_giveSides 9 = .ok (.getfield 43, 3) := by decide +kernel
theorem d_Resolver_giveSides_12 : decode b_Resolver_giveSides 12 = .ok (.iconst 1, 1) := by decide +kernel
theorem d_Resolver_giveSides_13 : decode b_Resolver_giveSides 13 = .ok (.if_icmp .ge 4, 3) := by decide +kernel
theorem d_Resolver_giveSides_16 : decode b_Resolver_giveSides 16 = .ok (.return_, 1) := by decide +kernel
theorem d_Resolver_giveSides_17 : decode b_Resolver_giveSides 17 = .ok (.aload_n 0, 1) := by decide +kernel
theorem d_Resolver_giveSides_18 : decode b_Resolver_giveSides 18 = .ok (.dup, 1) := by decide +kernel
theorem d_Resolver_giveSides_19 : decode b_Resolver_giveSides 19 = .ok (.getfield 46, 3) := by decide +kernel
theorem d_Resolver_giveSides_22 : decode b_Resolver_giveSides 22 = .ok (.iconst 1, 1) := by decide +kernel
theorem d_Resolver_giveSides_23 : decode b_Resolver_giveSides 23 = .ok (.isub, 1) := by decide +kernel
theorem d_Resolver_giveSides_24 : decode b_Resolver_giveSides 24 = .ok (.putfield 46, 3) := by decide +kernel
theorem d_Resolver_giveSides_27 : decode b_Resolver_giveSides 27 = .ok (.aload_n 0, 1) := by decide +kernel
theorem d_Resolver_giveSides_28 : decode b_Resolver_giveSides 28 = .ok (.getfield 30, 3) := by decide +kernel
theorem d_Resolver_giveSides_31 : decode b_Resolver_giveSides 31 = .ok (.aload_n 0, 1) := by decide +kernel
theorem d_Resolver_giveSides_32 : decode b_Resolver_giveSides 32 = .ok (.getfield 46, 3) := by decide +kernel
theorem d_Resolver_giveSides_35 : decode b_Resolver_giveSides 35 = .ok (.iaload, 1) := by decide +kernel
theorem d_Resolver_giveSides_36 : decode b_Resolver_giveSides 36 = .ok (.iconst (-1), 1) := by decide +kernel
theorem d_Resolver_giveSides_37 : decode b_Resolver_giveSides 37 = .ok (.if_icmp .eq 26, 3) := by decide +kernel
theorem d_Resolver_giveSides_40 : decode b_Resolver_giveSides 40 = .ok (.aload_n 0, 1) := by decide +kernel
theorem d_Resolver_giveSides_41 : decode b_Resolver_giveSides 41 = .ok (.getfield 18, 3) := by decide +kernel
theorem d_Resolver_giveSides_44 : decode b_Resolver_giveSides 44 = .ok (.aload_n 0, 1) := by decide +kernel
theorem d_Resolver_giveSides_45 : decode b_Resolver_giveSides 45 = .ok (.getfield 43, 3) := by decide +kernel
theorem d_Resolver_giveSides_48 : decode b_Resolver_giveSides 48 = .ok (.iconst 1, 1) := by decide +kernel
theorem d_Resolver_giveSides_49 : decode b_Resolver_giveSides 49 = .ok (.isub, 1) := by decide +kernel
theorem d_Resolver_giveSides_50 : decode b_Resolver_giveSides 50 = .ok (.aload_n 0, 1) := by decide +kernel
theorem d_Resolver_giveSides_51 : decode b_Resolver_giveSides 51 = .ok (.getfield 30, 3) := by decide +kernel
theorem d_Resolver_giveSides_54 : decode b_Resolver_giveSides 54 = .ok (.aload_n 0, 1) := by decide +kernel
theorem d_Resolver_giveSides_55 : decode b_Resolver_giveSides 55 = .ok (.getfield 46, 3) := by decide +kernel
theorem d_Resolver_giveSides_58 : decode b_Resolver_giveSides 58 = .ok (.iaload, 1) := by decide +kernel
theorem d_Resolver_giveSides_59 : decode b_Resolver_giveSides 59 = .ok (.iastore, 1) := by decide +kernel
theorem d_Resolver_giveSides_60 : decode b_Resolver_giveSides 60 = .ok (.goto 41, 3) := by decide +kernel
theorem d_Resolver_giveSides_63 : decode b_Resolver_giveSides 63 = .ok (.aload_n 0, 1) := by decide +kernel
theorem d_Resolver_giveSides_64 : decode b_Resolver_giveSides 64 = .ok (.getfield 43, 3) := by decide +kernel
theorem d_Resolver_giveSides_67 : decode b_Resolver_giveSides 67 = .ok (.iconst 2, 1) := by decide +kernel
theorem d_Resolver_giveSides_68 : decode b_Resolver_giveSides 68 = .ok (.if_icmp .lt 33, 3) := by decide +kernel
theorem d_Resolver_giveSides_71 : decode b_Resolver_giveSides 71 = .ok (.aload_n 0, 1) := by decide +kernel
theorem d_Resolver_giveSides_72 : decode b_Resolver_giveSides 72 = .ok (.dup, 1) := by decide +kernel
theorem d_Resolver_giveSides_73 : decode b_Resolver_giveSides 73 = .ok (.getfield 43, 3) := by decide +kernel
theorem d_Resolver_giveSides_76 : decode b_Resolver_giveSides 76 = .ok (.iconst 1, 1) := by decide +kernel
theorem d_Resolver_giveSides_77 : decode b_Resolver_giveSides 77 = .ok (.isub, 1) := by decide +kernel
theorem d_Resolver_giveSides_78 : decode b_Resolver_giveSides 78 = .ok (.putfield 43, 3) := by decide +kernel
theorem d_Resolver_giveSides_81 : decode b_Resolver_giveSides 81 = .ok (.aload_n 0, 1) := by decide +kernel
theorem d_Resolver_giveSides_82 : decode b_Resolver_giveSides 82 = .ok (.getfield 21, 3) := by decide +kernel
theorem d_Resolver_giveSides_85 : decode b_Resolver_giveSides 85 = .ok (.aload_n 0, 1) := by decide +kernel
theorem d_Resolver_giveSides_86 : decode b_Resolver_giveSides 86 = .ok (.getfield 43, 3) := by decide +kernel
theorem d_Resolver_giveSides_89 : decode b_Resolver_giveSides 89 = .ok (.iconst 1, 1) := by decide +kernel
theorem d_Resolver_giveSides_90 : decode b_Resolver_giveSides 90 = .ok (.isub, 1) := by decide +kernel
theorem d_Resolver_giveSides_91 : decode b_Resolver_giveSides 91 = .ok (.aload_n 0, 1) := by decide +kernel
theorem d_Resolver_giveSides_92 : decode b_Resolver_giveSides 92 = .ok (.getfield 21, 3) := by decide +kernel
theorem d_Resolver_giveSides_95 : decode b_Resolver_giveSides 95 = .ok (.aload_n 0, 1) := by decide +kernel
theorem d_Resolver_giveSides_96 : decode b_Resolver_giveSides 96 = .ok (.getfield 43, 3) := by decide +kernel
theorem d_Resolver_giveSides_99 : decode b_Resolver_giveSides 99 = .ok (.iaload, 1) := by decide +kernel
theorem d_Resolver_giveSides_100 : decode b_Resolver_giveSides 100 = .ok (.iastore, 1) := by decide +kernel
theorem d_Resolver_giveSides_101 : decode b_Resolver_giveSides 101 = .ok (.aload_n 0, 1) := by decide +kernel
theorem d_Resolver_giveSides_102 : decode b_Resolver_giveSides 102 = .ok (.getfield 33, 3) := by decide +kernel
theorem d_Resolver_giveSides_105 : decode b_Resolver_giveSides 105 = .ok (.bipush 90, 2) := by decide +kernel
theorem d_Resolver_giveSides_107 : decode b_Resolver_giveSides 107 = .ok (.if_icmp .ge 53, 3) := by decide +kernel
theorem d_Resolver_giveSides_110 : decode b_Resolver_giveSides 110 = .ok (.aload_n 0, 1) := by decide +kernel
theorem d_Resolver_giveSides_111 : decode b_Resolver_giveSides 111 = .ok (.getfield 9, 3) := by decide +kernel
theorem d_Resolver_giveSides_114 : decode b_Resolver_giveSides 114 = .ok (.aload_n 0, 1) := by decide +kernel
theorem d_Resolver_giveSides_115 : decode b_Resolver_giveSides 115 = .ok (.getfield 33, 3) := by decide +kernel
