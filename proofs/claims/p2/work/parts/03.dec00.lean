theorem d_Text_init_0 : decode b_Text_init 0 = .ok (.aload_n 0, 1) := by decide +kernel
theorem d_Text_init_1 : decode b_Text_init 1 = .ok (.invokespecial 3, 3) := by decide +kernel
theorem d_Text_init_4 : decode b_Text_init 4 = .ok (.aload_n 0, 1) := by decide +kernel
theorem d_Text_init_5 : decode b_Text_init 5 = .ok (.sipush 240, 3) := by decide +kernel
theorem d_Text_init_8 : decode b_Text_init 8 = .ok (.newarray .char, 2) := by decide +kernel
theorem d_Text_init_10 : decode b_Text_init 10 = .ok (.putfield 9, 3) := by decide +kernel
theorem d_Text_init_13 : decode b_Text_init 13 = .ok (.return_, 1) := by decide +kernel
theorem d_Text_areCharacters_0 : decode b_Text_areCharacters 0 = .ok (.iconst 0, 1) := by decide +kernel
theorem d_Text_areCharacters_1 : decode b_Text_areCharacters 1 = .ok (.istore_n 3, 1) := by decide +kernel
theorem d_Text_areCharacters_2 : decode b_Text_areCharacters 2 = .ok (.iload_n 3, 1) := by decide +kernel
theorem d_Text_areCharacters_3 : decode b_Text_areCharacters 3 = .ok (.iload_n 2, 1) := by decide +kernel
theorem d_Text_areCharacters_4 : decode b_Text_areCharacters 4 = .ok (.if_icmp .ge 39, 3) := by decide +kernel
theorem d_Text_areCharacters_7 : decode b_Text_areCharacters 7 = .ok (.lload_n 0, 1) := by decide +kernel
theorem d_Text_areCharacters_8 : decode b_Text_areCharacters 8 = .ok (.iload_n 3, 1) := by decide +kernel
theorem d_Text_areCharacters_9 : decode b_Text_areCharacters 9 = .ok (.invokestatic 15, 3) := by decide +kernel
theorem d_Text_areCharacters_12 : decode b_Text_areCharacters 12 = .ok (.istore 4, 2) := by decide +kernel
theorem d_Text_areCharacters_14 : decode b_Text_areCharacters 14 = .ok (.iload 4, 2) := by decide +kernel
theorem d_Text_areCharacters_16 : decode b_Text_areCharacters 16 = .ok (.bipush 10, 2) := by decide +kernel
theorem d_Text_areCharacters_18 : decode b_Text_areCharacters 18 = .ok (.if_icmp .eq 19, 3) := by decide +kernel
theorem d_Text_areCharacters_21 : decode b_Text_areCharacters 21 = .ok (.iload 4, 2) := by decide +kernel
theorem d_Text_areCharacters_23 : decode b_Text_areCharacters 23 = .ok (.bipush 32, 2) := by decide +kernel
theorem d_Text_areCharacters_25 : decode b_Text_areCharacters 25 = .ok (.if_icmp .lt 10, 3) := by decide +kernel
theorem d_Text_areCharacters_28 : decode b_Text_areCharacters 28 = .ok (.iload 4, 2) := by decide +kernel
theorem d_Text_areCharacters_30 : decode b_Text_areCharacters 30 = .ok (.bipush 126, 2) := by decide +kernel
theorem d_Text_areCharacters_32 : decode b_Text_areCharacters 32 = .ok (.if_icmp .le 5, 3) := by decide +kernel
theorem d_Text_areCharacters_35 : decode b_Text_areCharacters 35 = .ok (.iconst 0, 1) := by decide +kernel
theorem d_Text_areCharacters_36 : decode b_Text_areCharacters 36 = .ok (.ireturn, 1) := by decide +kernel
theorem d_Text_areCharacters_37 : decode b_Text_areCharacters 37 = .ok (.iinc 3 1, 3) := by decide +kernel
theorem d_Text_areCharacters_40 : decode b_Text_areCharacters 40 = .ok (.goto (-38), 3) := by decide +kernel
theorem d_Text_areCharacters_43 : decode b_Text_areCharacters 43 = .ok (.iconst 1, 1) := by decide +kernel
theorem d_Text_areCharacters_44 : decode b_Text_areCharacters 44 = .ok (.ireturn, 1) := by decide +kernel
theorem d_Text_byteOf_0 : decode b_Text_byteOf 0 = .ok (.lload_n 0, 1) := by decide +kernel
theorem d_Text_byteOf_1 : decode b_Text_byteOf 1 = .ok (.bipush 8, 2) := by decide +kernel
theorem d_Text_byteOf_3 : decode b_Text_byteOf 3 = .ok (.iload_n 2, 1) := by decide +kernel
theorem d_Text_byteOf_4 : decode b_Text_byteOf 4 = .ok (.imul, 1) := by decide +kernel
theorem d_Text_byteOf_5 : decode b_Text_byteOf 5 = .ok (.lushr, 1) := by decide +kernel
theorem d_Text_byteOf_6 : decode b_Text_byteOf 6 = .ok (.l2i, 1) := by decide +kernel
theorem d_Text_byteOf_7 : decode b_Text_byteOf 7 = .ok (.sipush 255, 3) := by decide +kernel
theorem d_Text_byteOf_10 : decode b_Text_byteOf 10 = .ok (.iand, 1) := by decide +kernel
theorem d_Text_byteOf_11 : decode b_Text_byteOf 11 = .ok (.ireturn, 1) := by decide +kernel
theorem d_Text_length_0 : decode b_Text_length 0 = .ok (.aload_n 0, 1) := by decide +kernel
theorem d_Text_length_1 : decode b_Text_length 1 = .ok (.getfield 19, 3) := by decide +kernel
theorem d_Text_length_4 : decode b_Text_length 4 = .ok (.ireturn, 1) := by decide +kernel
theorem d_Text_hasRoomFor_0 : decode b_Text_hasRoomFor 0 = .ok (.iload_n 1, 1) := by decide +kernel
theorem d_Text_hasRoomFor_1 : decode b_Text_hasRoomFor 1 = .ok (.sipush 240, 3) := by decide +kernel
theorem d_Text_hasRoomFor_4 : decode b_Text_hasRoomFor 4 = .ok (.aload_n 0, 1) := by decide +kernel
theorem d_Text_hasRoomFor_5 : decode b_Text_hasRoomFor 5 = .ok (.getfield 19, 3) := by decide +kernel
theorem d_Text_hasRoomFor_8 : decode b_Text_hasRoomFor 8 = .ok (.isub, 1) := by decide +kernel
theorem d_Text_hasRoomFor_9 : decode b_Text_hasRoomFor 9 = .ok (.if_icmp .gt 7, 3) := by decide +kernel
theorem d_Text_hasRoomFor_12 : decode b_Text_hasRoomFor 12 = .ok (.iconst 1, 1) := by decide +kernel
theorem d_Text_hasRoomFor_13 : decode b_Text_hasRoomFor 13 = .ok (.goto 4, 3) := by decide +kernel
theorem d_Text_hasRoomFor_16 : decode b_Text_hasRoomFor 16 = .ok (.iconst 0, 1) := by decide +kernel
theorem d_Text_hasRoomFor_17 : decode b_Text_hasRoomFor 17 = .ok (.ireturn, 1) := by decide +kernel
theorem d_Text_append_0 : decode b_Text_append 0 = .ok (.iconst 0, 1) := by decide +kernel
theorem d_Text_append_1 : decode b_Text_append 1 = .ok (.istore 4, 2) := by decide +kernel
theorem d_Text_append_3 : decode b_Text_append 3 = .ok (.iload 4, 2) := by decide +kernel
theorem d_Text_append_5 : decode b_Text_append 5 = .ok (.iload_n 3, 1) := by decide +kernel
theorem d_Text_append_6 : decode b_Text_append 6 = .ok (.if_icmp .ge 45, 3) := by decide +kernel
theorem d_Text_append_9 : decode b_Text_append 9 = .ok (.aload_n 0, 1) := by decide +kernel
theorem d_Text_append_10 : decode b_Text_append 10 = .ok (.getfield 19, 3) := by decide +kernel
theorem d_Text_append_13 : decode b_Text_append 13 = .ok (.sipush 240, 3) := by decide +kernel
theorem d_Text_append_16 : decode b_Text_append 16 = .ok (.if_icmp .ge 35, 3) := by decide +kernel
theorem d_Text_append_19 : decode b_Text_append 19 = .ok (.aload_n 0, 1) := by decide +kernel
theorem d_Text_append_20 : decode b_Text_append 20 = .ok (.getfield 9, 3) := by decide +kernel
theorem d_Text_append_23 : decode b_Text_append 23 = .ok (.aload_n 0, 1) := by decide +kernel
theorem d_Text_append_24 : decode b_Text_append 24 = .ok (.getfield 19, 3) := by decide +kernel
theorem d_Text_append_27 : decode b_Text_append 27 = .ok (.lload_n 1, 1) := by decide +kernel
theorem d_Text_append_28 : decode b_Text_append 28 = .ok (.iload 4, 2) := by decide +kernel
theorem d_Text_append_30 : decode b_Text_append 30 = .ok (.invokestatic 15, 3) := by decide +kernel
theorem d_Text_append_33 : decode b_Text_append 33 = .ok (.i2c, 1) := by decide +kernel
theorem d_Text_append_34 : decode b_Text_append 34 = .ok (.castore, 1) := by decide +kernel
theorem d_Text_append_35 : decode b_Text_append 35 = .ok (.aload_n 0, 1) := by decide +kernel
theorem d_Text_append_36 : decode b_Text_append 36 = .ok (.dup, 1) := by decide +kernel
theorem d_Text_append_37 : decode b_Text_append 37 = .ok (.getfield 19, 3) := by decide +kernel
theorem d_Text_append_40 : decode b_Text_append 40 = .ok (.iconst 1, 1) := by decide +kernel
theorem d_Text_append_41 : decode b_Text_append 41 = .ok (.iadd, 1) := by decide +kernel
theorem d_Text_append_42 : decode b_Text_append 42 = .ok (.putfield 19, 3) := by decide +kernel
theorem d_Text_append_45 : decode b_Text_append 45 = .ok (.iinc 4 1, 3) := by decide +kernel
theorem d_Text_append_48 : decode b_Text_append 48 = .ok (.goto (-45), 3) := by decide +kernel
theorem d_Text_append_51 : decode b_Text_append 51 = .ok (.return_, 1) := by decide +kernel
theorem d_Text_clear_0 : decode b_Text_clear 0 = .ok (.aload_n 0, 1) := by decide +kernel
theorem d_Text_clear_1 : decode b_Text_clear 1 = .ok (.iconst 0, 1) := by decide +kernel
theorem d_Text_clear_2 : decode b_Text_clear 2 = .ok (.putfield 19, 3) := by decide +kernel
theorem d_Text_clear_5 : decode b_Text_clear 5 = .ok (.return_, 1) := by decide +kernel
theorem d_Text_at_0 : decode b_Text_at 0 = .ok (.iload_n 1, 1) := by decide +kernel
theorem d_Text_at_1 : decode b_Text_at 1 = .ok (.ifCond .lt 20, 3) := by decide +kernel
theorem d_Text_at_4 : decode b_Text_at 4 = .ok (.iload_n 1, 1) := by decide +kernel
theorem d_Text_at_5 : decode b_Text_at 5 = .ok (.aload_n 0, 1) := by decide +kernel
theorem d_Text_at_6 : decode b_Text_at 6 = .ok (.getfield 19, 3) := by decide +kernel
theorem d_Text_at_9 : decode b_Text_at 9 = .ok (.if_icmp .ge 12, 3) := by decide +kernel
theorem d_Text_at_12 : decode b_Text_at 12 = .ok (.aload_n 0, 1) := by decide +kernel
theorem d_Text_at_13 : decode b_Text_at 13 = .ok (.getfield 9, 3) := by decide +kernel
theorem d_Text_at_16 : decode b_Text_at 16 = .ok (.iload_n 1, 1) := by decide +kernel
theorem d_Text_at_17 : decode b_Text_at 17 = .ok (.caload, 1) := by decide +kernel
theorem d_Text_at_18 : decode b_Text_at 18 = .ok (.goto 4, 3) := by decide +kernel
theorem d_Text_at_21 : decode b_Text_at 21 = .ok (.iconst 0, 1) := by decide +kernel
theorem d_Text_at_22 : decode b_Text_at 22 = .ok (.ireturn, 1) := by decide +kernel
theorem d_Text_packed_0 : decode b_Text_packed 0 = .ok (.lconst 0, 1) := by decide +kernel
theorem d_Text_packed_1 : decode b_Text_packed 1 = .ok (.lstore_n 3, 1) := by decide +kernel
theorem d_Text_packed_2 : decode b_Text_packed 2 = .ok (.iload_n 2, 1) := by decide +kernel
theorem d_Text_packed_3 : decode b_Text_packed 3 = .ok (.iconst 1, 1) := by decide +kernel
theorem d_Text_packed_4 : decode b_Text_packed 4 = .ok (.isub, 1) := by decide +kernel
theorem d_Text_packed_5 : decode b_Text_packed 5 = .ok (.istore 5, 2) := by decide +kernel
theorem d_Text_packed_7 : decode b_Text_packed 7 = .ok (.iload 5, 2) := by decide +kernel
theorem d_Text_packed_9 : decode b_Text_packed 9 = .ok (.iload_n 1, 1) := by decide +kernel
theorem d_Text_packed_10 : decode b_Text_packed 10 = .ok (.if_icmp .lt 22, 3) := by decide +kernel
theorem d_Text_packed_13 : decode b_Text_packed 13 = .ok (.lload_n 3, 1) := by decide +kernel
theorem d_Text_packed_14 : decode b_Text_packed 14 = .ok (.bipush 8, 2) := by decide +kernel
theorem d_Text_packed_16 : decode b_Text_packed 16 = .ok (.lshl, 1) := by decide +kernel
theorem d_Text_packed_17 : decode b_Text_packed 17 = .ok (.aload_n 0, 1) := by decide +kernel
theorem d_Text_packed_18 : decode b_Text_packed 18 = .ok (.iload 5, 2) := by decide +kernel
theorem d_Text_packed_20 : decode b_Text_packed 20 = .ok (.invokevirtual 23, 3) := by decide +kernel
theorem d_Text_packed_23 : decode b_Text_packed 23 = .ok (.i2l, 1) := by decide +kernel
theorem d_Text_packed_24 : decode b_Text_packed 24 = .ok (.lor, 1) := by decide +kernel
theorem d_Text_packed_25 : decode b_Text_packed 25 = .ok (.lstore_n 3, 1) := by decide +kernel
theorem d_Text_packed_26 : decode b_Text_packed 26 = .ok (.iinc 5 (-1), 3) := by decide +kernel
theorem d_Text_packed_29 : decode b_Text_packed 29 = .ok (.goto (-22), 3) := by decide +kernel
theorem d_Text_packed_32 : decode b_Text_packed 32 = .ok (.lload_n 3, 1) := by decide +kernel
theorem d_Text_packed_33 : decode b_Text_packed 33 = .ok (.lreturn, 1) := by decide +kernel
theorem d_Text_number_0 : decode b_Text_number 0 = .ok (.lconst 0, 1) := by decide +kernel
theorem d_Text_number_1 : decode b_Text_number 1 = .ok (.lstore_n 3, 1) := by decide +kernel
theorem d_Text_number_2 : decode b_Text_number 2 = .ok (.iload_n 1, 1) := by decide +kernel
theorem d_Text_number_3 : decode b_Text_number 3 = .ok (.istore 5, 2) := by decide +kernel
theorem d_Text_number_5 : decode b_Text_number 5 = .ok (.iload 5, 2) := by decide +kernel
theorem d_Text_number_7 : decode b_Text_number 7 = .ok (.iload_n 2, 1) := by decide +kernel
theorem d_Text_number_8 : decode b_Text_number 8 = .ok (.if_icmp .ge 26, 3) := by decide +kernel
theorem d_Text_number_11 : decode b_Text_number 11 = .ok (.lload_n 3, 1) := by decide +kernel
theorem d_Text_number_12 : decode b_Text_number 12 = .ok (.ldc2_w 27, 3) := by decide +kernel
theorem d_Text_number_15 : decode b_Text_number 15 = .ok (.lmul, 1) := by decide +kernel
theorem d_Text_number_16 : decode b_Text_number 16 = .ok (.aload_n 0, 1) := by decide +kernel
theorem d_Text_number_17 : decode b_Text_number 17 = .ok (.iload 5, 2) := by decide +kernel
theorem d_Text_number_19 : decode b_Text_number 19 = .ok (.invokevirtual 23, 3) := by decide +kernel
theorem d_Text_number_22 : decode b_Text_number 22 = .ok (.bipush 48, 2) := by decide +kernel
theorem d_Text_number_24 : decode b_Text_number 24 = .ok (.isub, 1) := by decide +kernel
theorem d_Text_number_25 : decode b_Text_number 25 = .ok (.i2l, 1) := by decide +kernel
theorem d_Text_number_26 : decode b_Text_number 26 = .ok (.ladd, 1) := by decide +kernel
theorem d_Text_number_27 : decode b_Text_number 27 = .ok (.lstore_n 3, 1) := by decide +kernel
theorem d_Text_number_28 : decode b_Text_number 28 = .ok (.iinc 5 1, 3) := by decide +kernel
theorem d_Text_number_31 : decode b_Text_number 31 = .ok (.goto (-26), 3) := by decide +kernel
theorem d_Text_number_34 : decode b_Text_number 34 = .ok (.lload_n 3, 1) := by decide +kernel
theorem d_Text_number_35 : decode b_Text_number 35 = .ok (.lreturn, 1) := by decide +kernel
theorem d_Fixities_init_0 : decode b_Fixities_init 0 = .ok (.aload_n 0, 1) := by decide +kernel
theorem d_Fixities_init_1 : decode b_Fixities_init 1 = .ok (.invokespecial 3, 3) := by decide +kernel
theorem d_Fixities_init_4 : decode b_Fixities_init 4 = .ok (.aload_n 0, 1) := by decide +kernel
theorem d_Fixities_init_5 : decode b_Fixities_init 5 = .ok (.bipush 12, 2) := by decide +kernel
theorem d_Fixities_init_7 : decode b_Fixities_init 7 = .ok (.newarray .long, 2) := by decide +kernel
theorem d_Fixities_init_9 : decode b_Fixities_init 9 = .ok (.putfield 9, 3) := by decide +kernel
theorem d_Fixities_init_12 : decode b_Fixities_init 12 = .ok (.aload_n 0, 1) := by decide +kernel
theorem d_Fixities_init_13 : decode b_Fixities_init 13 = .ok (.bipush 12, 2) := by decide +kernel
theorem d_Fixities_init_15 : decode b_Fixities_init 15 = .ok (.newarray .int, 2) := by decide +kernel
theorem d_Fixities_init_17 : decode b_Fixities_init 17 = .ok (.putfield 15, 3) := by decide +kernel
theorem d_Fixities_init_20 : decode b_Fixities_init 20 = .ok (.aload_n 0, 1) := by decide +kernel
theorem d_Fixities_init_21 : decode b_Fixities_init 21 = .ok (.bipush 12, 2) := by decide +kernel
theorem d_Fixities_init_23 : decode b_Fixities_init 23 = .ok (.newarray .int, 2) := by decide +kernel
theorem d_Fixities_init_25 : decode b_Fixities_init 25 = .ok (.putfield 19, 3) := by decide +kernel
theorem d_Fixities_init_28 : decode b_Fixities_init 28 = .ok (.return_, 1) := by decide +kernel
theorem d_Fixities_size_0 : decode b_Fixities_size 0 = .ok (.aload_n 0, 1) := by decide +kernel
theorem d_Fixities_size_1 : decode b_Fixities_size 1 = .ok (.getfield 22, 3) := by decide +kernel
theorem d_Fixities_size_4 : decode b_Fixities_size 4 = .ok (.ireturn, 1) := by decide +kernel
theorem d_Fixities_hasRoomFor_0 : decode b_Fixities_hasRoomFor 0 = .ok (.aload_n 0, 1) := by decide +kernel
theorem d_Fixities_hasRoomFor_1 : decode b_Fixities_hasRoomFor 1 = .ok (.getfield 22, 3) := by decide +kernel
theorem d_Fixities_hasRoomFor_4 : decode b_Fixities_hasRoomFor 4 = .ok (.bipush 12, 2) := by decide +kernel
theorem d_Fixities_hasRoomFor_6 : decode b_Fixities_hasRoomFor 6 = .ok (.if_icmp .lt 12, 3) := by decide +kernel
theorem d_Fixities_hasRoomFor_9 : decode b_Fixities_hasRoomFor 9 = .ok (.aload_n 0, 1) := by decide +kernel
theorem d_Fixities_hasRoomFor_10 : decode b_Fixities_hasRoomFor 10 = .ok (.lload_n 1, 1) := by decide +kernel
theorem d_Fixities_hasRoomFor_11 : decode b_Fixities_hasRoomFor 11 = .ok (.invokevirtual 26, 3) := by decide +kernel
theorem d_Fixities_hasRoomFor_14 : decode b_Fixities_hasRoomFor 14 = .ok (.iconst (-1), 1) := by decide +kernel
theorem d_Fixities_hasRoomFor_15 : decode b_Fixities_hasRoomFor 15 = .ok (.if_icmp .eq 7, 3) := by decide +kernel
theorem d_Fixities_hasRoomFor_18 : decode b_Fixities_hasRoomFor 18 = .ok (.iconst 1, 1) := by decide +kernel
theorem d_Fixities_hasRoomFor_19 : decode b_Fixities_hasRoomFor 19 = .ok (.goto 4, 3) := by decide +kernel
theorem d_Fixities_hasRoomFor_22 : decode b_Fixities_hasRoomFor 22 = .ok (.iconst 0, 1) := by decide +kernel
theorem d_Fixities_hasRoomFor_23 : decode b_Fixities_hasRoomFor 23 = .ok (.ireturn, 1) := by decide +kernel
theorem d_Fixities_set_0 : decode b_Fixities_set 0 = .ok (.aload_n 0, 1) := by decide +kernel
theorem d_Fixities_set_1 : decode b_Fixities_set 1 = .ok (.lload_n 1, 1) := by decide +kernel
theorem d_Fixities_set_2 : decode b_Fixities_set 2 = .ok (.invokevirtual 26, 3) := by decide +kernel
theorem d_Fixities_set_5 : decode b_Fixities_set 5 = .ok (.istore 5, 2) := by decide +kernel
theorem d_Fixities_set_7 : decode b_Fixities_set 7 = .ok (.iload 5, 2) := by decide +kernel
theorem d_Fixities_set_9 : decode b_Fixities_set 9 = .ok (.iconst (-1), 1) := by decide +kernel
theorem d_Fixities_set_10 : decode b_Fixities_set 10 = .ok (.if_icmp .ne 9, 3) := by decide +kernel
theorem d_Fixities_set_13 : decode b_Fixities_set 13 = .ok (.aload_n 0, 1) := by decide +kernel
theorem d_Fixities_set_14 : decode b_Fixities_set 14 = .ok (.getfield 22, 3) := by decide +kernel
theorem d_Fixities_set_17 : decode b_Fixities_set 17 = .ok (.istore 5, 2) := by decide +kernel
theorem d_Fixities_set_19 : decode b_Fixities_set 19 = .ok (.iload 5, 2) := by decide +kernel
theorem d_Fixities_set_21 : decode b_Fixities_set 21 = .ok (.bipush 12, 2) := by decide +kernel
theorem d_Fixities_set_23 : decode b_Fixities_set 23 = .ok (.if_icmp .ge 43, 3) := by decide +kernel
theorem d_Fixities_set_26 : decode b_Fixities_set 26 = .ok (.aload_n 0, 1) := by decide +kernel
theorem d_Fixities_set_27 : decode b_Fixities_set 27 = .ok (.getfield 9, 3) := by decide +kernel
theorem d_Fixities_set_30 : decode b_Fixities_set 30 = .ok (.iload 5, 2) := by decide +kernel
theorem d_Fixities_set_32 : decode b_Fixities_set 32 = .ok (.lload_n 1, 1) := by decide +kernel
theorem d_Fixities_set_33 : decode b_Fixities_set 33 = .ok (.lastore, 1) := by decide +kernel
theorem d_Fixities_set_34 : decode b_Fixities_set 34 = .ok (.aload_n 0, 1) := by decide +kernel
theorem d_Fixities_set_35 : decode b_Fixities_set 35 = .ok (.getfield 15, 3) := by decide +kernel
theorem d_Fixities_set_38 : decode b_Fixities_set 38 = .ok (.iload 5, 2) := by decide +kernel
theorem d_Fixities_set_40 : decode b_Fixities_set 40 = .ok (.iload_n 3, 1) := by decide +kernel
theorem d_Fixities_set_41 : decode b_Fixities_set 41 = .ok (.iastore, 1) := by decide +kernel
theorem d_Fixities_set_42 : decode b_Fixities_set 42 = .ok (.aload_n 0, 1) := by decide +kernel
theorem d_Fixities_set_43 : decode b_Fixities_set 43 = .ok (.getfield 19, 3) := by decide +kernel
theorem d_Fixities_set_46 : decode b_Fixities_set 46 = .ok (.iload 5, 2) := by decide +kernel
theorem d_Fixities_set_48 : decode b_Fixities_set 48 = .ok (.iload 4, 2) := by decide +kernel
theorem d_Fixities_set_50 : decode b_Fixities_set 50 = .ok (.iastore, 1) := by decide +kernel
theorem d_Fixities_set_51 : decode b_Fixities_set 51 = .ok (.aload_n 0, 1) := by decide +kernel
theorem d_Fixities_set_52 : decode b_Fixities_set 52 = .ok (.aload_n 0, 1) := by decide +kernel
theorem d_Fixities_set_53 : decode b_Fixities_set 53 = .ok (.getfield 22, 3) := by decide +kernel
theorem d_Fixities_set_56 : decode b_Fixities_set 56 = .ok (.iload 5, 2) := by decide +kernel
theorem d_Fixities_set_58 : decode b_Fixities_set 58 = .ok (.iconst 1, 1) := by decide +kernel
theorem d_Fixities_set_59 : decode b_Fixities_set 59 = .ok (.iadd, 1) := by decide +kernel
theorem d_Fixities_set_60 : decode b_Fixities_set 60 = .ok (.invokestatic 30, 3) := by decide +kernel
theorem d_Fixities_set_63 : decode b_Fixities_set 63 = .ok (.putfield 22, 3) := by decide +kernel
theorem d_Fixities_set_66 : decode b_Fixities_set 66 = .ok (.return_, 1) := by decide +kernel
theorem d_Fixities_sideOf_0 : decode b_Fixities_sideOf 0 = .ok (.aload_n 0, 1) := by decide +kernel
theorem d_Fixities_sideOf_1 : decode b_Fixities_sideOf 1 = .ok (.lload_n 1, 1) := by decide +kernel
theorem d_Fixities_sideOf_2 : decode b_Fixities_sideOf 2 = .ok (.invokevirtual 26, 3) := by decide +kernel
theorem d_Fixities_sideOf_5 : decode b_Fixities_sideOf 5 = .ok (.istore_n 3, 1) := by decide +kernel
theorem d_Fixities_sideOf_6 : decode b_Fixities_sideOf 6 = .ok (.iload_n 3, 1) := by decide +kernel
theorem d_Fixities_sideOf_7 : decode b_Fixities_sideOf 7 = .ok (.iconst (-1), 1) := by decide +kernel
theorem d_Fixities_sideOf_8 : decode b_Fixities_sideOf 8 = .ok (.if_icmp .ne 7, 3) := by decide +kernel
theorem d_Fixities_sideOf_11 : decode b_Fixities_sideOf 11 = .ok (.iconst 0, 1) := by decide +kernel
theorem d_Fixities_sideOf_12 : decode b_Fixities_sideOf 12 = .ok (.goto 9, 3) := by decide +kernel
theorem d_Fixities_sideOf_15 : decode b_Fixities_sideOf 15 = .ok (.aload_n 0, 1) := by decide +kernel
theorem d_Fixities_sideOf_16 : decode b_Fixities_sideOf 16 = .ok (.getfield 15, 3) := by decide +kernel
theorem d_Fixities_sideOf_19 : decode b_Fixities_sideOf 19 = .ok (.iload_n 3, 1) := by decide +kernel
theorem d_Fixities_sideOf_20 : decode b_Fixities_sideOf 20 = .ok (.iaload, 1) := by decide +kernel
theorem d_Fixities_sideOf_21 : decode b_Fixities_sideOf 21 = .ok (.ireturn, 1) := by decide +kernel
theorem d_Fixities_levelOf_0 : decode b_Fixities_levelOf 0 = .ok (.aload_n 0, 1) := by decide +kernel
theorem d_Fixities_levelOf_1 : decode b_Fixities_levelOf 1 = .ok (.lload_n 1, 1) := by decide +kernel
theorem d_Fixities_levelOf_2 : decode b_Fixities_levelOf 2 = .ok (.invokevirtual 26, 3) := by decide +kernel
theorem d_Fixities_levelOf_5 : decode b_Fixities_levelOf 5 = .ok (.istore_n 3, 1) := by decide +kernel
theorem d_Fixities_levelOf_6 : decode b_Fixities_levelOf 6 = .ok (.iload_n 3, 1) := by decide +kernel
theorem d_Fixities_levelOf_7 : decode b_Fixities_levelOf 7 = .ok (.iconst (-1), 1) := by decide +kernel
theorem d_Fixities_levelOf_8 : decode b_Fixities_levelOf 8 = .ok (.if_icmp .ne 8, 3) := by decide +kernel
theorem d_Fixities_levelOf_11 : decode b_Fixities_levelOf 11 = .ok (.bipush 9, 2) := by decide +kernel
theorem d_Fixities_levelOf_13 : decode b_Fixities_levelOf 13 = .ok (.goto 9, 3) := by decide +kernel
theorem d_Fixities_levelOf_16 : decode b_Fixities_levelOf 16 = .ok (.aload_n 0, 1) := by decide +kernel
theorem d_Fixities_levelOf_17 : decode b_Fixities_levelOf 17 = .ok (.getfield 19, 3) := by decide +kernel
theorem d_Fixities_levelOf_20 : decode b_Fixities_levelOf 20 = .ok (.iload_n 3, 1) := by decide +kernel
theorem d_Fixities_levelOf_21 : decode b_Fixities_levelOf 21 = .ok (.iaload, 1) := by decide +kernel
theorem d_Fixities_levelOf_22 : decode b_Fixities_levelOf 22 = .ok (.ireturn, 1) := by decide +kernel
theorem d_Fixities_find_0 : decode b_Fixities_find 0 = .ok (.iconst 0, 1) := by decide +kernel
theorem d_Fixities_find_1 : decode b_Fixities_find 1 = .ok (.istore_n 3, 1) := by decide +kernel
theorem d_Fixities_find_2 : decode b_Fixities_find 2 = .ok (.iload_n 3, 1) := by decide +kernel
theorem d_Fixities_find_3 : decode b_Fixities_find 3 = .ok (.aload_n 0, 1) := by decide +kernel
theorem d_Fixities_find_4 : decode b_Fixities_find 4 = .ok (.getfield 22, 3) := by decide +kernel
theorem d_Fixities_find_7 : decode b_Fixities_find 7 = .ok (.if_icmp .ge 22, 3) := by decide +kernel
theorem d_Fixities_find_10 : decode b_Fixities_find 10 = .ok (.aload_n 0, 1) := by decide +kernel
theorem d_Fixities_find_11 : decode b_Fixities_find 11 = .ok (.getfield 9, 3) := by decide +kernel
theorem d_Fixities_find_14 : decode b_Fixities_find 14 = .ok (.iload_n 3, 1) := by decide +kernel
theorem d_Fixities_find_15 : decode b_Fixities_find 15 = .ok (.laload, 1) := by decide +kernel
theorem d_Fixities_find_16 : decode b_Fixities_find 16 = .ok (.lload_n 1, 1) := by decide +kernel
theorem d_Fixities_find_17 : decode b_Fixities_find 17 = .ok (.lcmp, 1) := by decide +kernel
theorem d_Fixities_find_18 : decode b_Fixities_find 18 = .ok (.ifCond .ne 5, 3) := by decide +kernel
