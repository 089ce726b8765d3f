theorem d_Text_init_0 : decode b_Text_init 0 = .ok (.aload_n 0, 1) := by decide +kernel
theorem d_Text_init_1 : decode b_Text_init 1 = .ok (.invokespecial 3, 3) := by decide +kernel
theorem d_Text_init_4 : decode b_Text_init 4 = .ok (.aload_n 0, 1) := by decide +kernel
theorem d_Text_init_5 : decode b_Text_init 5 = .ok (.sipush 240, 3) := by decide +kernel
theorem d_Text_init_8 : decode b_Text_init 8 = .ok (.newarray .char, 2) := by decide +kernel
theorem d_Text_init_10 : decode b_Text_init 10 = .ok (.putfield 9, 3) := by decide +kernel
theorem d_Text_init_13 : decode b_Text_init 13 = .ok (.return_, 1) := by decide +kernel
theorem d_Text_areCharacters_0 : decode b_Text_areCharacters 0 = .ok (.iconst 0, 1) := by decide +kernel
theorem d_Text_areCharacters_1 : decode b_Text_areCharacters 1 = .ok (.istore_n 3, 1) := by decide +kernel
theorem d_Text_areCharacters_2 : decode b_Text_areCharacters 2 = .ok (.iload_n 3, 1) := by decide +kernel
theorem d_Text_areCharacters_3 : decode b_Text_areCharacters 3 = .ok (.iload_n 2, 1) := by decide +kernel
theorem d_Text_areCharacters_4 : decode b_Text_areCharacters 4 = .ok (.if_icmp .ge 39, 3) := by decide +kernel
theorem d_Text_areCharacters_7 : decode b_Text_areCharacters 7 = .ok (.lload_n 0, 1) := by decide +kernel
theorem d_Text_areCharacters_8 : decode b_Text_areCharacters 8 = .ok (.iload_n 3, 1) := by decide +kernel
theorem d_Text_areCharacters_9 : decode b_Text_areCharacters 9 = .ok (.invokestatic 15, 3) := by decide +kernel
theorem d_Text_areCharacters_12 : decode b_Text_areCharacters 12 = .ok (.istore 4, 2) := by decide +kernel
theorem d_Text_areCharacters_14 : decode b_Text_areCharacters 14 = .ok (.iload 4, 2) := by decide +kernel
theorem d_Text_areCharacters_16 : decode b_Text_areCharacters 16 = .ok (.bipush 10, 2) := by decide +kernel
theorem d_Text_areCharacters_18 : decode b_Text_areCharacters 18 = .ok (.if_icmp .eq 19, 3) := by decide +kernel
theorem d_Text_areCharacters_21 : decode b_Text_areCharacters 21 = .ok (.iload 4, 2) := by decide +kernel
theorem d_Text_areCharacters_23 : decode b_Text_areCharacters 23 = .ok (.bipush 32, 2) := by decide +kernel
theorem d_Text_areCharacters_25 : decode b_Text_areCharacters 25 = .ok (.if_icmp .lt 10, 3) := by decide +kernel
theorem d_Text_areCharacters_28 : decode b_Text_areCharacters 28 = .ok (.iload 4, 2) := by decide +kernel
theorem d_Text_areCharacters_30 : decode b_Text_areCharacters 30 = .ok (.bipush 126, 2) := by decide +kernel
theorem d_Text_areCharacters_32 : decode b_Text_areCharacters 32 = .ok (.if_icmp .le 5, 3) := by decide +kernel
theorem d_Text_areCharacters_35 : decode b_Text_areCharacters 35 = .ok (.iconst 0, 1) := by decide +kernel
theorem d_Text_areCharacters_36 : decode b_Text_areCharacters 36 = .ok (.ireturn, 1) := by decide +kernel
theorem d_Text_areCharacters_37 : decode b_Text_areCharacters 37 = .ok (.iinc 3 1, 3) := by decide +kernel
theorem d_Text_areCharacters_40 : decode b_Text_areCharacters 40 = .ok (.goto (-38), 3) := by decide +kernel
theorem d_Text_areCharacters_43 : decode b_Text_areCharacters 43 = .ok (.iconst 1, 1) := by decide +kernel
theorem d_Text_areCharacters_44 : decode b_Text_areCharacters 44 = .ok (.ireturn, 1) := by decide +kernel
theorem d_Text_byteOf_0 : decode b_Text_byteOf 0 = .ok (.lload_n 0, 1) := by decide +kernel
theorem d_Text_byteOf_1 : decode b_Text_byteOf 1 = .ok (.bipush 8, 2) := by decide +kernel
theorem d_Text_byteOf_3 : decode b_Text_byteOf 3 = .ok (.iload_n 2, 1) := by decide +kernel
theorem d_Text_byteOf_4 : decode b_Text_byteOf 4 = .ok (.imul, 1) := by decide +kernel
theorem d_Text_byteOf_5 : decode b_Text_byteOf 5 = .ok (.lushr, 1) := by decide +kernel
theorem d_Text_byteOf_6 : decode b_Text_byteOf 6 = .ok (.l2i, 1) := by decide +kernel
theorem d_Text_byteOf_7 : decode b_Text_byteOf 7 = .ok (.sipush 255, 3) := by decide +kernel
theorem d_Text_byteOf_10 : decode b_Text_byteOf 10 = .ok (.iand, 1) := by decide +kernel
theorem d_Text_byteOf_11 : decode b_Text_byteOf 11 = .ok (.ireturn, 1) := by decide +kernel
theorem d_Text_length_0 : decode b_Text_length 0 = .ok (.aload_n 0, 1) := by decide +kernel
theorem d_Text_length_1 : decode b_Text_length 1 = .ok (.getfield 19, 3) := by decide +kernel
theorem d_Text_length_4 : decode b_Text_length 4 = .ok (.ireturn, 1) := by decide +kernel
theorem d_Text_hasRoomFor_0 : decode b_Text_hasRoomFor 0 = .ok (.iload_n 1, 1) := by decide +kernel
theorem d_Text_hasRoomFor_1 : decode b_Text_hasRoomFor 1 = .ok (.sipush 240, 3) := by decide +kernel
theorem d_Text_hasRoomFor_4 : decode b_Text_hasRoomFor 4 = .ok (.aload_n 0, 1) := by decide +kernel
theorem d_Text_hasRoomFor_5 : decode b_Text_hasRoomFor 5 = .ok (.getfield 19, 3) := by decide +kernel
theorem d_Text_hasRoomFor_8 : decode b_Text_hasRoomFor 8 = .ok (.isub, 1) := by decide +kernel
theorem d_Text_hasRoomFor_9 : decode b_Text_hasRoomFor 9 = .ok (.if_icmp .gt 7, 3) := by decide +kernel
theorem d_Text_hasRoomFor_12 : decode b_Text_hasRoomFor 12 = .ok (.iconst 1, 1) := by decide +kernel
theorem d_Text_hasRoomFor_13 : decode b_Text_hasRoomFor 13 = .ok (.goto 4, 3) := by decide +kernel
theorem d_Text_hasRoomFor_16 : decode b_Text_hasRoomFor 16 = .ok (.iconst 0, 1) := by decide +kernel
theorem d_Text_hasRoomFor_17 : decode b_Text_hasRoomFor 17 = .ok (.ireturn, 1) := by decide +kernel
theorem d_Text_append_0 : decode b_Text_append 0 = .ok (.iconst 0, 1) := by decide +kernel
theorem d_Text_append_1 : decode b_Text_append 1 = .ok (.istore 4, 2) := by decide +kernel
theorem d_Text_append_3 : decode b_Text_append 3 = .ok (.iload 4, 2) := by decide +kernel
theorem d_Text_append_5 : decode b_Text_append 5 = .ok (.iload_n 3, 1) := by decide +kernel
theorem d_Text_append_6 : decode b_Text_append 6 = .ok (.if_icmp .ge 45, 3) := by decide +kernel
theorem d_Text_append_9 : decode b_Text_append 9 = .ok (.aload_n 0, 1) := by decide +kernel
theorem d_Text_append_10 : decode b_Text_append 10 = .ok (.getfield 19, 3) := by decide +kernel
theorem d_Text_append_13 : decode b_Text_append 13 = .ok (.sipush 240, 3) := by decide +kernel
theorem d_Text_append_16 : decode b_Text_append 16 = .ok (.if_icmp .ge 35, 3) := by decide +kernel
theorem d_Text_append_19 : decode b_Text_append 19 = .ok (.aload_n 0, 1) := by decide +kernel
theorem d_Text_append_20 : decode b_Text_append 20 = .ok (.getfield 9, 3) := by decide +kernel
theorem d_Text_append_23 : decode b_Text_append 23 = .ok (.aload_n 0, 1) := by decide +kernel
theorem d_Text_append_24 : decode b_Text_append 24 = .ok (.getfield 19, 3) := by decide +kernel
theorem d_Text_append_27 : decode b_Text_append 27 = .ok (.lload_n 1, 1) := by decide +kernel
theorem d_Text_append_28 : decode b_Text_append 28 = .ok (.iload 4, 2) := by decide +kernel
theorem d_Text_append_30 : decode b_Text_append 30 = .ok (.invokestatic 15, 3) := by decide +kernel
theorem d_Text_append_33 : decode b_Text_append 33 = .ok (.i2c, 1) := by decide +kernel
theorem d_Text_append_34 : decode b_Text_append 34 = .ok (.castore, 1) := by decide +kernel
theorem d_Text_append_35 : decode b_Text_append 35 = .ok (.aload_n 0, 1) := by decide +kernel
theorem d_Text_append_36 : decode b_Text_append 36 = .ok (.dup, 1) := by decide +kernel
theorem d_Text_append_37 : decode b_Text_append 37 = .ok (.getfield 19, 3) := by decide +kernel
theorem d_Text_append_40 : decode b_Text_append 40 = .ok (.iconst 1, 1) := by decide +kernel
theorem d_Text_append_41 : decode b_Text_append 41 = .ok (.iadd, 1) := by decide +kernel
theorem d_Text_append_42 : decode b_Text_append 42 = .ok (.putfield 19, 3) := by decide +kernel
theorem d_Text_append_45 : decode b_Text_append 45 = .ok (.iinc 4 1, 3) := by decide +kernel
theorem d_Text_append_48 : decode b_Text_append 48 = .ok (.goto (-45), 3) := by decide +kernel
theorem d_Text_append_51 : decode b_Text_append 51 = .ok (.return_, 1) := by decide +kernel
theorem d_Text_clear_0 : decode b_Text_clear 0 = .ok (.aload_n 0, 1) := by decide +kernel
theorem d_Text_clear_1 : decode b_Text_clear 1 = .ok (.iconst 0, 1) := by decide +kernel
theorem d_Text_clear_2 : decode b_Text_clear 2 = .ok (.putfield 19, 3) := by decide +kernel
theorem d_Text_clear_5 : decode b_Text_clear 5 = .ok (.return_, 1) := by decide +kernel
theorem d_Text_at_0 : decode b_Text_at 0 = .ok (.iload_n 1, 1) := by decide +kernel
theorem d_Text_at_1 : decode b_Text_at 1 = .ok (.ifCond .lt 20, 3) := by decide +kernel
theorem d_Text_at_4 : decode b_Text_at 4 = .ok (.iload_n 1, 1) := by decide +kernel
theorem d_Text_at_5 : decode b_Text_at 5 = .ok (.aload_n 0, 1) := by decide +kernel
theorem d_Text_at_6 : decode b_Text_at 6 = .ok (.getfield 19, 3) := by decide +kernel
theorem d_Text_at_9 : decode b_Text_at 9 = .ok (.if_icmp .ge 12, 3) := by decide +kernel
theorem d_Text_at_12 : decode b_Text_at 12 = .ok (.aload_n 0, 1) := by decide +kernel
theorem d_Text_at_13 : decode b_Text_at 13 = .ok (.getfield 9, 3) := by decide +kernel
theorem d_Text_at_16 : decode b_Text_at 16 = .ok (.iload_n 1, 1) := by decide +kernel
theorem d_Text_at_17 : decode b_Text_at 17 = .ok (.caload, 1) := by decide +kernel
theorem d_Text_at_18 : decode b_Text_at 18 = .ok (.goto 4, 3) := by decide +kernel
theorem d_Text_at_21 : decode b_Text_at 21 = .ok (.iconst 0, 1) := by decide +kernel
theorem d_Text_at_22 : decode b_Text_at 22 = .ok (.ireturn, 1) := by decide +kernel
theorem d_Text_packed_0 : decode b_Text_packed 0 = .ok (.lconst 0, 1) := by decide +kernel
theorem d_Text_packed_1 : decode b_Text_packed 1 = .ok (.lstore_n 3, 1) := by decide +kernel
theorem d_Text_packed_2 : decode b_Text_packed 2 = .ok (.iload_n 2, 1) := by decide +kernel
theorem d_Text_packed_3 : decode b_Text_packed 3 = .ok (.iconst 1, 1) := by decide +kernel
theorem d_Text_packed_4 : decode b_Text_packed 4 = .ok (.isub, 1) := by decide +kernel
theorem d_Text_packed_5 : decode b_Text_packed 5 = .ok (.istore 5, 2) := by decide +kernel
theorem d_Text_packed_7 : decode b_Text_packed 7 = .ok (.iload 5, 2) := by decide +kernel
theorem d_Text_packed_9 : decode b_Text_packed 9 = .ok (.iload_n 1, 1) := by decide +kernel
theorem d_Text_packed_10 : decode b_Text_packed 10 = .ok (.if_icmp .lt 22, 3) := by decide +kernel
theorem d_Text_packed_13 : decode b_Text_packed 13 = .ok (.lload_n 3, 1) := by decide +kernel
theorem d_Text_packed_14 : decode b_Text_packed 14 = .ok (.bipush 8, 2) := by decide +kernel
theorem d_Text_packed_16 : decode b_Text_packed 16 = .ok (.lshl, 1) := by decide +kernel
theorem d_Text_packed_17 : decode b_Text_packed 17 = .ok (.aload_n 0, 1) := by decide +kernel
theorem d_Text_packed_18 : decode b_Text_packed 18 = .ok (.iload 5, 2) := by decide +kernel
theorem d_Text_packed_20 : decode b_Text_packed 20 = .ok (.invokevirtual 23, 3) := by decide +kernel
theorem d_Text_packed_23 : decode b_Text_packed 23 = .ok (.i2l, 1) := by decide +kernel
theorem d_Text_packed_24 : decode b_Text_packed 24 = .ok (.lor, 1) := by decide +kernel
theorem d_Text_packed_25 : decode b_Text_packed 25 = .ok (.lstore_n 3, 1) := by decide +kernel
theorem d_Text_packed_26 : decode b_Text_packed 26 = .ok (.iinc 5 (-1), 3) := by decide +kernel
theorem d_Text_packed_29 : decode b_Text_packed 29 = .ok (.goto (-22), 3) := by decide +kernel
theorem d_Text_packed_32 : decode b_Text_packed 32 = .ok (.lload_n 3, 1) := by decide +kernel
theorem d_Text_packed_33 : decode b_Text_packed 33 = .ok (.lreturn, 1) := by decide +kernel
theorem d_Text_number_0 : decode b_Text_number 0 = .ok (.lconst 0, 1) := by decide +kernel
theorem d_Text_number_1 : decode b_Text_number 1 = .ok (.lstore_n 3, 1) := by decide +kernel
theorem d_Text_number_2 : decode b_Text_number 2 = .ok (.iload_n 1, 1) := by decide +kernel
theorem d_Text_number_3 : decode b_Text_number 3 = .ok (.istore 5, 2) := by decide +kernel
theorem d_Text_number_5 : decode b_Text_number 5 = .ok (.iload 5, 2) := by decide +kernel
theorem d_Text_number_7 : decode b_Text_number 7 = .ok (.iload_n 2, 1) := by decide +kernel
theorem d_Text_number_8 : decode b_Text_number 8 = .ok (.if_icmp .ge 26, 3) := by decide +kernel
theorem d_Text_number_11 : decode b_Text_number 11 = .ok (.lload_n 3, 1) := by decide +kernel
theorem d_Text_number_12 : decode b_Text_number 12 = .ok (.ldc2_w 27, 3) := by decide +kernel
theorem d_Text_number_15 : decode b_Text_number 15 = .ok (.lmul, 1) := by decide +kernel
theorem d_Text_number_16 : decode b_Text_number 16 = .ok (.aload_n 0, 1) := by decide +kernel
theorem d_Text_number_17 : decode b_Text_number 17 = .ok (.iload 5, 2) := by decide +kernel
theorem d_Text_number_19 : decode b_Text_number 19 = .ok (.invokevirtual 23, 3) := by decide +kernel
theorem d_Text_number_22 : decode b_Text_number 22 = .ok (.bipush 48, 2) := by decide +kernel
theorem d_Text_number_24 : decode b_Text_number 24 = .ok (.isub, 1) := by decide +kernel
theorem d_Text_number_25 : decode b_Text_number 25 = .ok (.i2l, 1) := by decide +kernel
theorem d_Text_number_26 : decode b_Text_number 26 = .ok (.ladd, 1) := by decide +kernel
theorem d_Text_number_27 : decode b_Text_number 27 = .ok (.lstore_n 3, 1) := by decide +kernel
theorem d_Text_number_28 : decode b_Text_number 28 = .ok (.iinc 5 1, 3) := by decide +kernel
theorem d_Text_number_31 : decode b_Text_number 31 = .ok (.goto (-26), 3) := by decide +kernel
theorem d_Text_number_34 : decode b_Text_number 34 = .ok (.lload_n 3, 1) := by decide +kernel
theorem d_Text_number_35 : decode b_Text_number 35 = .ok (.lreturn, 1) := by decide +kernel
theorem d_Fixities_init_0 : decode b_Fixities_init 0 = .ok (.aload_n 0, 1) := by decide +kernel
theorem d_Fixities_init_1 : decode b_Fixities_init 1 = .ok (.invokespecial 3, 3) := by decide +kernel
theorem d_Fixities_init_4 : decode b_Fixities_init 4 = .ok (.aload_n 0, 1) := by decide +kernel
theorem d_Fixities_init_5 : decode b_Fixities_init 5 = .ok (.bipush 12, 2) := by decide +kernel
theorem d_Fixities_init_7 : decode b_Fixities_init 7 = .ok (.newarray .long, 2) := by decide +kernel
theorem d_Fixities_init_9 : decode b_Fixities_init 9 = .ok (.putfield 9, 3) := by decide +kernel
theorem d_Fixities_init_12 : decode b_Fixities_init 12 = .ok (.aload_n 0, 1) := by decide +kernel
theorem d_Fixities_init_13 : decode b_Fixities_init 13 = .ok (.bipush 12, 2) := by decide +kernel
theorem d_Fixities_init_15 : decode b_Fixities_init 15 = .ok (.newarray .int, 2) := by decide +kernel
theorem d_Fixities_init_17 : decode b_Fixities_init 17 = .ok (.putfield 15, 3) := by decide +kernel
theorem d_Fixities_init_20 : decode b_Fixities_init 20 = .ok (.aload_n 0, 1) := by decide +kernel
theorem d_Fixities_init_21 : decode b_Fixities_init 21 = .ok (.bipush 12, 2) := by decide +kernel
theorem d_Fixities_init_23 : decode b_Fixities_init 23 = .ok (.newarray .int, 2) := by decide +kernel
theorem d_Fixities_init_25 : decode b_Fixities_init 25 = .ok (.putfield 19, 3) := by decide +kernel
theorem d_Fixities_init_28 : decode b_Fixities_init 28 = .ok (.return_, 1) := by decide +kernel
theorem d_Fixities_size_0 : decode b_Fixities_size 0 = .ok (.aload_n 0, 1) := by decide +kernel
theorem d_Fixities_size_1 : decode b_Fixities_size 1 = .ok (.getfield 22, 3) := by decide +kernel
theorem d_Fixities_size_4 : decode b_Fixities_size 4 = .ok (.ireturn, 1) := by decide +kernel
theorem d_Fixities_hasRoomFor_0 : decode b_Fixities_hasRoomFor 0 = .ok (.aload_n 0, 1) := by decide +kernel
theorem d_Fixities_hasRoomFor_1 : decode b_Fixities_hasRoomFor 1 = .ok (.getfield 22, 3) := by decide +kernel
theorem d_Fixities_hasRoomFor_4 : decode b_Fixities_hasRoomFor 4 = .ok (.bipush 12, 2) := by decide +kernel
theorem d_Fixities_hasRoomFor_6 : decode b_Fixities_hasRoomFor 6 = .ok (.if_icmp .lt 12, 3) := by decide +kernel
theorem d_Fixities_hasRoomFor_9 : decode b_Fixities_hasRoomFor 9 = .ok (.aload_n 0, 1) := by decide +kernel
theorem d_Fixities_hasRoomFor_10 : decode b_Fixities_hasRoomFor 10 = .ok (.lload_n 1, 1) := by decide +kernel
theorem d_Fixities_hasRoomFor_11 : decode b_Fixities_hasRoomFor 11 = .ok (.invokevirtual 26, 3) := by decide +kernel
theorem d_Fixities_hasRoomFor_14 : decode b_Fixities_hasRoomFor 14 = .ok (.iconst (-1), 1) := by decide +kernel
theorem d_Fixities_hasRoomFor_15 : decode b_Fixities_hasRoomFor 15 = .ok (.if_icmp .eq 7, 3) := by decide +kernel
theorem d_Fixities_hasRoomFor_18 : decode b_Fixities_hasRoomFor 18 = .ok (.iconst 1, 1) := by decide +kernel
theorem d_Fixities_hasRoomFor_19 : decode b_Fixities_hasRoomFor 19 = .ok (.goto 4, 3) := by decide +kernel
theorem d_Fixities_hasRoomFor_22 : decode b_Fixities_hasRoomFor 22 = .ok (.iconst 0, 1) := by decide +kernel
theorem d_Fixities_hasRoomFor_23 : decode b_Fixities_hasRoomFor 23 = .ok (.ireturn, 1) := by decide +kernel
theorem d_Fixities_set_0 : decode b_Fixities_set 0 = .ok (.aload_n 0, 1) := by decide +kernel
theorem d_Fixities_set_1 : decode b_Fixities_set 1 = .ok (.lload_n 1, 1) := by decide +kernel
theorem d_Fixities_set_2 : decode b_Fixities_set 2 = .ok (.invokevirtual 26, 3) := by decide +kernel
theorem d_Fixities_set_5 : decode b_Fixities_set 5 = .ok (.istore 5, 2) := by decide +kernel
theorem d_Fixities_set_7 : decode b_Fixities_set 7 = .ok (.iload 5, 2) := by decide +kernel
theorem d_Fixities_set_9 : decode b_Fixities_set 9 = .ok (.iconst (-1), 1) := by decide +kernel
theorem d_Fixities_set_10 : decode b_Fixities_set 10 = .ok (.if_icmp .ne 9, 3) := by decide +kernel
theorem d_Fixities_set_13 : decode b_Fixities_set 13 = .ok (.aload_n 0, 1) := by decide +kernel
theorem d_Fixities_set_14 : decode b_Fixities_set 14 = .ok (.getfield 22, 3) := by decide +kernel
theorem d_Fixities_set_17 : decode b_Fixities_set 17 = .ok (.istore 5, 2) := by decide +kernel
theorem d_Fixities_set_19 : decode b_Fixities_set 19 = .ok (.iload 5, 2) := by decide +kernel
theorem d_Fixities_set_21 : decode b_Fixities_set 21 = .ok (.bipush 12, 2) := by decide +kernel
theorem d_Fixities_set_23 : decode b_Fixities_set 23 = .ok (.if_icmp .ge 43, 3) := by decide +kernel
theorem d_Fixities_set_26 : decode b_Fixities_set 26 = .ok (.aload_n 0, 1) := by decide +kernel
theorem d_Fixities_set_27 : decode b_Fixities_set 27 = .ok (.getfield 9, 3) := by decide +kernel
theorem d_Fixities_set_30 : decode b_Fixities_set 30 = .ok (.iload 5, 2) := by decide +kernel
theorem d_Fixities_set_32 : decode b_Fixities_set 32 = .ok (.lload_n 1, 1) := by decide +kernel
theorem d_Fixities_set_33 : decode b_Fixities_set 33 = .ok (.lastore, 1) := by decide +kernel
theorem d_Fixities_set_34 : decode b_Fixities_set 34 = .ok (.aload_n 0, 1) := by decide +kernel
theorem d_Fixities_set_35 : decode b_Fixities_set 35 = .ok (.getfield 15, 3) := by decide +kernel
theorem d_Fixities_set_38 : decode b_Fixities_set 38 = .ok (.iload 5, 2) := by decide +kernel
theorem d_Fixities_set_40 : decode b_Fixities_set 40 = .ok (.iload_n 3, 1) := by decide +kernel
theorem d_Fixities_set_41 : decode b_Fixities_set 41 = .ok (.iastore, 1) := by decide +kernel
theorem d_Fixities_set_42 : decode b_Fixities_set 42 = .ok (.aload_n 0, 1) := by decide +kernel
theorem d_Fixities_set_43 : decode b_Fixities_set 43 = .ok (.getfield 19, 3) := by decide +kernel
theorem d_Fixities_set_46 : decode b_Fixities_set 46 = .ok (.iload 5, 2) := by decide +kernel
theorem d_Fixities_set_48 : decode b_Fixities_set 48 = .ok (.iload 4, 2) := by decide +kernel
theorem d_Fixities_set_50 : decode b_Fixities_set 50 = .ok (.iastore, 1) := by decide +kernel
theorem d_Fixities_set_51 : decode b_Fixities_set 51 = .ok (.aload_n 0, 1) := by decide +kernel
theorem d_Fixities_set_52 : decode b_Fixities_set 52 = .ok (.aload_n 0, 1) := by decide +kernel
theorem d_Fixities_set_53 : decode b_Fixities_set 53 = .ok (.getfield 22, 3) := by decide +kernel
theorem d_Fixities_set_56 : decode b_Fixities_set 56 = .ok (.iload 5, 2) := by decide +kernel
theorem d_Fixities_set_58 : decode b_Fixities_set 58 = .ok (.iconst 1, 1) := by decide +kernel
theorem d_Fixities_set_59 : decode b_Fixities_set 59 = .ok (.iadd, 1) := by decide +kernel
theorem d_Fixities_set_60 : decode b_Fixities_set 60 = .ok (.invokestatic 30, 3) := by decide +kernel
theorem d_Fixities_set_63 : decode b_Fixities_set 63 = .ok (.putfield 22, 3) := by decide +kernel
theorem d_Fixities_set_66 : decode b_Fixities_set 66 = .ok (.return_, 1) := by decide +kernel
theorem d_Fixities_sideOf_0 : decode b_Fixities_sideOf 0 = .ok (.aload_n 0, 1) := by decide +kernel
theorem d_Fixities_sideOf_1 : decode b_Fixities_sideOf 1 = .ok (.lload_n 1, 1) := by decide +kernel
theorem d_Fixities_sideOf_2 : decode b_Fixities_sideOf 2 = .ok (.invokevirtual 26, 3) := by decide +kernel
theorem d_Fixities_sideOf_5 : decode b_Fixities_sideOf 5 = .ok (.istore_n 3, 1) := by decide +kernel
theorem d_Fixities_sideOf_6 : decode b_Fixities_sideOf 6 = .ok (.iload_n 3, 1) := by decide +kernel
theorem d_Fixities_sideOf_7 : decode b_Fixities_sideOf 7 = .ok (.iconst (-1), 1) := by decide +kernel
theorem d_Fixities_sideOf_8 : decode b_Fixities_sideOf 8 = .ok (.if_icmp .ne 7, 3) := by decide +kernel
theorem d_Fixities_sideOf_11 : decode b_Fixities_sideOf 11 = .ok (.iconst 0, 1) := by decide +kernel
theorem d_Fixities_sideOf_12 : decode b_Fixities_sideOf 12 = .ok (.goto 9, 3) := by decide +kernel
theorem d_Fixities_sideOf_15 : decode b_Fixities_sideOf 15 = .ok (.aload_n 0, 1) := by decide +kernel
theorem d_Fixities_sideOf_16 : decode b_Fixities_sideOf 16 = .ok (.getfield 15, 3) := by decide +kernel
theorem d_Fixities_sideOf_19 : decode b_Fixities_sideOf 19 = .ok (.iload_n 3, 1) := by decide +kernel
theorem d_Fixities_sideOf_20 : decode b_Fixities_sideOf 20 = .ok (.iaload, 1) := by decide +kernel
theorem d_Fixities_sideOf_21 : decode b_Fixities_sideOf 21 = .ok (.ireturn, 1) := by decide +kernel
theorem d_Fixities_levelOf_0 : decode b_Fixities_levelOf 0 = .ok (.aload_n 0, 1) := by decide +kernel
theorem d_Fixities_levelOf_1 : decode b_Fixities_levelOf 1 = .ok (.lload_n 1, 1) := by decide +kernel
theorem d_Fixities_levelOf_2 : decode b_Fixities_levelOf 2 = .ok (.invokevirtual 26, 3) := by decide +kernel
theorem d_Fixities_levelOf_5 : decode b_Fixities_levelOf 5 = .ok (.istore_n 3, 1) := by decide +kernel
theorem d_Fixities_levelOf_6 : decode b_Fixities_levelOf 6 = .ok (.iload_n 3, 1) := by decide +kernel
theorem d_Fixities_levelOf_7 : decode b_Fixities_levelOf 7 = .ok (.iconst (-1), 1) := by decide +kernel
theorem d_Fixities_levelOf_8 : decode b_Fixities_levelOf 8 = .ok (.if_icmp .ne 8, 3) := by decide +kernel
theorem d_Fixities_levelOf_11 : decode b_Fixities_levelOf 11 = .ok (.bipush 9, 2) := by decide +kernel
theorem d_Fixities_levelOf_13 : decode b_Fixities_levelOf 13 = .ok (.goto 9, 3) := by decide +kernel
theorem d_Fixities_levelOf_16 : decode b_Fixities_levelOf 16 = .ok (.aload_n 0, 1) := by decide +kernel
theorem d_Fixities_levelOf_17 : decode b_Fixities_levelOf 17 = .ok (.getfield 19, 3) := by decide +kernel
theorem d_Fixities_levelOf_20 : decode b_Fixities_levelOf 20 = .ok (.iload_n 3, 1) := by decide +kernel
theorem d_Fixities_levelOf_21 : decode b_Fixities_levelOf 21 = .ok (.iaload, 1) := by decide +kernel
theorem d_Fixities_levelOf_22 : decode b_Fixities_levelOf 22 = .ok (.ireturn, 1) := by decide +kernel
theorem d_Fixities_find_0 : decode b_Fixities_find 0 = .ok (.iconst 0, 1) := by decide +kernel
theorem d_Fixities_find_1 : decode b_Fixities_find 1 = .ok (.istore_n 3, 1) := by decide +kernel
theorem d_Fixities_find_2 : decode b_Fixities_find 2 = .ok (.iload_n 3, 1) := by decide +kernel
theorem d_Fixities_find_3 : decode b_Fixities_find 3 = .ok (.aload_n 0, 1) := by decide +kernel
theorem d_Fixities_find_4 : decode b_Fixities_find 4 = .ok (.getfield 22, 3) := by decide +kernel
theorem d_Fixities_find_7 : decode b_Fixities_find 7 = .ok (.if_icmp .ge 22, 3) := by decide +kernel
theorem d_Fixities_find_10 : decode b_Fixities_find 10 = .ok (.aload_n 0, 1) := by decide +kernel
theorem d_Fixities_find_11 : decode b_Fixities_find 11 = .ok (.getfield 9, 3) := by decide +kernel
theorem d_Fixities_find_14 : decode b_Fixities_find 14 = .ok (.iload_n 3, 1) := by decide +kernel
theorem d_Fixities_find_15 : decode b_Fixities_find 15 = .ok (.laload, 1) := by decide +kernel
theorem d_Fixities_find_16 : decode b_Fixities_find 16 = .ok (.lload_n 1, 1) := by decide +kernel
theorem d_Fixities_find_17 : decode b_Fixities_find 17 = .ok (.lcmp, 1) := by decide +kernel
theorem d_Fixities_find_18 : decode b_Fixities_find 18 = .ok (.ifCond .ne 5, 3) := by decide +kernel
theorem d_Fixities_find_21 : decode b_Fixities_find 21 = .ok (.iload_n 3, 1) := by decide +kernel
theorem d_Fixities_find_22 : decode b_Fixities_find 22 = .ok (.ireturn, 1) := by decide +kernel
theorem d_Fixities_find_23 : decode b_Fixities_find 23 = .ok (.iinc 3 1, 3) := by decide +kernel
theorem d_Fixities_find_26 : decode b_Fixities_find 26 = .ok (.goto (-24), 3) := by decide +kernel
theorem d_Fixities_find_29 : decode b_Fixities_find 29 = .ok (.iconst (-1), 1) := by decide +kernel
theorem d_Fixities_find_30 : decode b_Fixities_find 30 = .ok (.ireturn, 1) := by decide +kernel
theorem d_Tokens_init_0 : decode b_Tokens_init 0 = .ok (.aload_n 0, 1) := by decide +kernel
theorem d_Tokens_init_1 : decode b_Tokens_init 1 = .ok (.invokespecial 3, 3) := by decide +kernel
theorem d_Tokens_init_4 : decode b_Tokens_init 4 = .ok (.aload_n 0, 1) := by decide +kernel
theorem d_Tokens_init_5 : decode b_Tokens_init 5 = .ok (.iload_n 1, 1) := by decide +kernel
theorem d_Tokens_init_6 : decode b_Tokens_init 6 = .ok (.newarray .int, 2) := by decide +kernel
theorem d_Tokens_init_8 : decode b_Tokens_init 8 = .ok (.putfield 9, 3) := by decide +kernel
theorem d_Tokens_init_11 : decode b_Tokens_init 11 = .ok (.aload_n 0, 1) := by decide +kernel
theorem d_Tokens_init_12 : decode b_Tokens_init 12 = .ok (.iload_n 1, 1) := by decide +kernel
theorem d_Tokens_init_13 : decode b_Tokens_init 13 = .ok (.newarray .long, 2) := by decide +kernel
theorem d_Tokens_init_15 : decode b_Tokens_init 15 = .ok (.putfield 15, 3) := by decide +kernel
theorem d_Tokens_init_18 : decode b_Tokens_init 18 = .ok (.return_, 1) := by decide +kernel
theorem d_Tokens_clear_0 : decode b_Tokens_clear 0 = .ok (.aload_n 0, 1) := by decide +kernel
theorem d_Tokens_clear_1 : decode b_Tokens_clear 1 = .ok (.iconst 0, 1) := by decide +kernel
theorem d_Tokens_clear_2 : decode b_Tokens_clear 2 = .ok (.putfield 19, 3) := by decide +kernel
theorem d_Tokens_clear_5 : decode b_Tokens_clear 5 = .ok (.return_, 1) := by decide +kernel
theorem d_Tokens_size_0 : decode b_Tokens_size 0 = .ok (.aload_n 0, 1) := by decide +kernel
theorem d_Tokens_size_1 : decode b_Tokens_size 1 = .ok (.getfield 19, 3) := by decide +kernel
theorem d_Tokens_size_4 : decode b_Tokens_size 4 = .ok (.ireturn, 1) := by decide +kernel
theorem d_Tokens_add_0 : decode b_Tokens_add 0 = .ok (.aload_n 0, 1) := by decide +kernel
theorem d_Tokens_add_1 : decode b_Tokens_add 1 = .ok (.getfield 19, 3) := by decide +kernel
theorem d_Tokens_add_4 : decode b_Tokens_add 4 = .ok (.aload_n 0, 1) := by decide +kernel
theorem d_Tokens_add_5 : decode b_Tokens_add 5 = .ok (.getfield 9, 3) := by decide +kernel
theorem d_Tokens_add_8 : decode b_Tokens_add 8 = .ok (.arraylength, 1) := by decide +kernel
theorem d_Tokens_add_9 : decode b_Tokens_add 9 = .ok (.if_icmp .ge 33, 3) := by decide +kernel
theorem d_Tokens_add_12 : decode b_Tokens_add 12 = .ok (.aload_n 0, 1) := by decide +kernel
theorem d_Tokens_add_13 : decode b_Tokens_add 13 = .ok (.getfield 9, 3) := by decide +kernel
theorem d_Tokens_add_16 : decode b_Tokens_add 16 = .ok (.aload_n 0, 1) := by decide +kernel
theorem d_Tokens_add_17 : decode b_Tokens_add 17 = .ok (.getfield 19, 3) := by decide +kernel
theorem d_Tokens_add_20 : decode b_Tokens_add 20 = .ok (.iload_n 1, 1) := by decide +kernel
theorem d_Tokens_add_21 : decode b_Tokens_add 21 = .ok (.iastore, 1) := by decide +kernel
theorem d_Tokens_add_22 : decode b_Tokens_add 22 = .ok (.aload_n 0, 1) := by decide +kernel
theorem d_Tokens_add_23 : decode b_Tokens_add 23 = .ok (.getfield 15, 3) := by decide +kernel
theorem d_Tokens_add_26 : decode b_Tokens_add 26 = .ok (.aload_n 0, 1) := by decide +kernel
theorem d_Tokens_add_27 : decode b_Tokens_add 27 = .ok (.getfield 19, 3) := by decide +kernel
theorem d_Tokens_add_30 : decode b_Tokens_add 30 = .ok (.lload_n 2, 1) := by decide +kernel
theorem d_Tokens_add_31 : decode b_Tokens_add 31 = .ok (.lastore, 1) := by decide +kernel
theorem d_Tokens_add_32 : decode b_Tokens_add 32 = .ok (.aload_n 0, 1) := by decide +kernel
theorem d_Tokens_add_33 : decode b_Tokens_add 33 = .ok (.dup, 1) := by decide +kernel
theorem d_Tokens_add_34 : decode b_Tokens_add 34 = .ok (.getfield 19, 3) := by decide +kernel
theorem d_Tokens_add_37 : decode b_Tokens_add 37 = .ok (.iconst 1, 1) := by decide +kernel
theorem d_Tokens_add_38 : decode b_Tokens_add 38 = .ok (.iadd, 1) := by decide +kernel
theorem d_Tokens_add_39 : decode b_Tokens_add 39 = .ok (.putfield 19, 3) := by decide +kernel
theorem d_Tokens_add_42 : decode b_Tokens_add 42 = .ok (.return_, 1) := by decide +kernel
theorem d_Tokens_addTimes_0 : decode b_Tokens_addTimes 0 = .ok (.iconst 0, 1) := by decide +kernel
theorem d_Tokens_addTimes_1 : decode b_Tokens_addTimes 1 = .ok (.istore 5, 2) := by decide +kernel
theorem d_Tokens_addTimes_3 : decode b_Tokens_addTimes 3 = .ok (.iload 5, 2) := by decide +kernel
theorem d_Tokens_addTimes_5 : decode b_Tokens_addTimes 5 = .ok (.iload_n 1, 1) := by decide +kernel
theorem d_Tokens_addTimes_6 : decode b_Tokens_addTimes 6 = .ok (.if_icmp .ge 15, 3) := by decide +kernel
theorem d_Tokens_addTimes_9 : decode b_Tokens_addTimes 9 = .ok (.aload_n 0, 1) := by decide +kernel
theorem d_Tokens_addTimes_10 : decode b_Tokens_addTimes 10 = .ok (.iload_n 2, 1) := by decide +kernel
theorem d_Tokens_addTimes_11 : decode b_Tokens_addTimes 11 = .ok (.lload_n 3, 1) := by decide +kernel
theorem d_Tokens_addTimes_12 : decode b_Tokens_addTimes 12 = .ok (.invokevirtual 23, 3) := by decide +kernel
theorem d_Tokens_addTimes_15 : decode b_Tokens_addTimes 15 = .ok (.iinc 5 1, 3) := by decide +kernel
theorem d_Tokens_addTimes_18 : decode b_Tokens_addTimes 18 = .ok (.goto (-15), 3) := by decide +kernel
theorem d_Tokens_addTimes_21 : decode b_Tokens_addTimes 21 = .ok (.return_, 1) := by decide +kernel
theorem d_Tokens_has_0 : decode b_Tokens_has 0 = .ok (.iload_n 1, 1) := by decide +kernel
theorem d_Tokens_has_1 : decode b_Tokens_has 1 = .ok (.ifCond .lt 15, 3) := by decide +kernel
theorem d_Tokens_has_4 : decode b_Tokens_has 4 = .ok (.iload_n 1, 1) := by decide +kernel
theorem d_Tokens_has_5 : decode b_Tokens_has 5 = .ok (.aload_n 0, 1) := by decide +kernel
theorem d_Tokens_has_6 : decode b_Tokens_has 6 = .ok (.getfield 19, 3) := by decide +kernel
theorem d_Tokens_has_9 : decode b_Tokens_has 9 = .ok (.if_icmp .ge 7, 3) := by decide +kernel
theorem d_Tokens_has_12 : decode b_Tokens_has 12 = .ok (.iconst 1, 1) := by decide +kernel
theorem d_Tokens_has_13 : decode b_Tokens_has 13 = .ok (.goto 4, 3) := by decide +kernel
theorem d_Tokens_has_16 : decode b_Tokens_has 16 = .ok (.iconst 0, 1) := by decide +kernel
theorem d_Tokens_has_17 : decode b_Tokens_has 17 = .ok (.ireturn, 1) := by decide +kernel
theorem d_Tokens_kindAt_0 : decode b_Tokens_kindAt 0 = .ok (.aload_n 0, 1) := by decide +kernel
theorem d_Tokens_kindAt_1 : decode b_Tokens_kindAt 1 = .ok (.iload_n 1, 1) := by decide +kernel
theorem d_Tokens_kindAt_2 : decode b_Tokens_kindAt 2 = .ok (.invokevirtual 27, 3) := by decide +kernel
theorem d_Tokens_kindAt_5 : decode b_Tokens_kindAt 5 = .ok (.ifCond .eq 12, 3) := by decide +kernel
theorem d_Tokens_kindAt_8 : decode b_Tokens_kindAt 8 = .ok (.aload_n 0, 1) := by decide +kernel
theorem d_Tokens_kindAt_9 : decode b_Tokens_kindAt 9 = .ok (.getfield 9, 3) := by decide +kernel
theorem d_Tokens_kindAt_12 : decode b_Tokens_kindAt 12 = .ok (.iload_n 1, 1) := by decide +kernel
theorem d_Tokens_kindAt_13 : decode b_Tokens_kindAt 13 = .ok (.iaload, 1) := by decide +kernel
theorem d_Tokens_kindAt_14 : decode b_Tokens_kindAt 14 = .ok (.goto 4, 3) := by decide +kernel
theorem d_Tokens_kindAt_17 : decode b_Tokens_kindAt 17 = .ok (.iconst (-1), 1) := by decide +kernel
theorem d_Tokens_kindAt_18 : decode b_Tokens_kindAt 18 = .ok (.ireturn, 1) := by decide +kernel
theorem d_Tokens_valueAt_0 : decode b_Tokens_valueAt 0 = .ok (.aload_n 0, 1) := by decide +kernel
theorem d_Tokens_valueAt_1 : decode b_Tokens_valueAt 1 = .ok (.iload_n 1, 1) := by decide +kernel
theorem d_Tokens_valueAt_2 : decode b_Tokens_valueAt 2 = .ok (.invokevirtual 27, 3) := by decide +kernel
theorem d_Tokens_valueAt_5 : decode b_Tokens_valueAt 5 = .ok (.ifCond .eq 12, 3) := by decide +kernel
theorem d_Tokens_valueAt_8 : decode b_Tokens_valueAt 8 = .ok (.aload_n 0, 1) := by decide +kernel
theorem d_Tokens_valueAt_9 : decode b_Tokens_valueAt 9 = .ok (.getfield 15, 3) := by decide +kernel
theorem d_Tokens_valueAt_12 : decode b_Tokens_valueAt 12 = .ok (.iload_n 1, 1) := by decide +kernel
theorem d_Tokens_valueAt_13 : decode b_Tokens_valueAt 13 = .ok (.laload, 1) := by decide +kernel
theorem d_Tokens_valueAt_14 : decode b_Tokens_valueAt 14 = .ok (.goto 4, 3) := by decide +kernel
theorem d_Tokens_valueAt_17 : decode b_Tokens_valueAt 17 = .ok (.lconst 0, 1) := by decide +kernel
theorem d_Tokens_valueAt_18 : decode b_Tokens_valueAt 18 = .ok (.lreturn, 1) := by decide +kernel
theorem d_Tokens_isSign_0 : decode b_Tokens_isSign 0 = .ok (.iload_n 1, 1) := by decide +kernel
theorem d_Tokens_isSign_1 : decode b_Tokens_isSign 1 = .ok (.ifCond .lt 37, 3) := by decide +kernel
theorem d_Tokens_isSign_4 : decode b_Tokens_isSign 4 = .ok (.iload_n 1, 1) := by decide +kernel
theorem d_Tokens_isSign_5 : decode b_Tokens_isSign 5 = .ok (.aload_n 0, 1) := by decide +kernel
theorem d_Tokens_isSign_6 : decode b_Tokens_isSign 6 = .ok (.getfield 19, 3) := by decide +kernel
theorem d_Tokens_isSign_9 : decode b_Tokens_isSign 9 = .ok (.if_icmp .ge 29, 3) := by decide +kernel
theorem d_Tokens_isSign_12 : decode b_Tokens_isSign 12 = .ok (.aload_n 0, 1) := by decide +kernel
theorem d_Tokens_isSign_13 : decode b_Tokens_isSign 13 = .ok (.getfield 9, 3) := by decide +kernel
theorem d_Tokens_isSign_16 : decode b_Tokens_isSign 16 = .ok (.iload_n 1, 1) := by decide +kernel
theorem d_Tokens_isSign_17 : decode b_Tokens_isSign 17 = .ok (.iaload, 1) := by decide +kernel
theorem d_Tokens_isSign_18 : decode b_Tokens_isSign 18 = .ok (.iconst 3, 1) := by decide +kernel
theorem d_Tokens_isSign_19 : decode b_Tokens_isSign 19 = .ok (.if_icmp .ne 19, 3) := by decide +kernel
theorem d_Tokens_isSign_22 : decode b_Tokens_isSign 22 = .ok (.aload_n 0, 1) := by decide +kernel
theorem d_Tokens_isSign_23 : decode b_Tokens_isSign 23 = .ok (.getfield 15, 3) := by decide +kernel
theorem d_Tokens_isSign_26 : decode b_Tokens_isSign 26 = .ok (.iload_n 1, 1) := by decide +kernel
theorem d_Tokens_isSign_27 : decode b_Tokens_isSign 27 = .ok (.laload, 1) := by decide +kernel
theorem d_Tokens_isSign_28 : decode b_Tokens_isSign 28 = .ok (.iload_n 2, 1) := by decide +kernel
theorem d_Tokens_isSign_29 : decode b_Tokens_isSign 29 = .ok (.i2l, 1) := by decide +kernel
theorem d_Tokens_isSign_30 : decode b_Tokens_isSign 30 = .ok (.lcmp, 1) := by decide +kernel
theorem d_Tokens_isSign_31 : decode b_Tokens_isSign 31 = .ok (.ifCond .ne 7, 3) := by decide +kernel
theorem d_Tokens_isSign_34 : decode b_Tokens_isSign 34 = .ok (.iconst 1, 1) := by decide +kernel
theorem d_Tokens_isSign_35 : decode b_Tokens_isSign 35 = .ok (.goto 4, 3) := by decide +kernel
theorem d_Tokens_isSign_38 : decode b_Tokens_isSign 38 = .ok (.iconst 0, 1) := by decide +kernel
theorem d_Tokens_isSign_39 : decode b_Tokens_isSign 39 = .ok (.ireturn, 1) := by decide +kernel
theorem d_Tokens_opensBracket_0 : decode b_Tokens_opensBracket 0 = .ok (.aload_n 0, 1) := by decide +kernel
theorem d_Tokens_opensBracket_1 : decode b_Tokens_opensBracket 1 = .ok (.iload_n 1, 1) := by decide +kernel
theorem d_Tokens_opensBracket_2 : decode b_Tokens_opensBracket 2 = .ok (.bipush 40, 2) := by decide +kernel
theorem d_Tokens_opensBracket_4 : decode b_Tokens_opensBracket 4 = .ok (.invokevirtual 31, 3) := by decide +kernel
theorem d_Tokens_opensBracket_7 : decode b_Tokens_opensBracket 7 = .ok (.ifCond .ne 13, 3) := by decide +kernel
theorem d_Tokens_opensBracket_10 : decode b_Tokens_opensBracket 10 = .ok (.aload_n 0, 1) := by decide +kernel
theorem d_Tokens_opensBracket_11 : decode b_Tokens_opensBracket 11 = .ok (.iload_n 1, 1) := by decide +kernel
theorem d_Tokens_opensBracket_12 : decode b_Tokens_opensBracket 12 = .ok (.bipush 91, 2) := by decide +kernel
theorem d_Tokens_opensBracket_14 : decode b_Tokens_opensBracket 14 = .ok (.invokevirtual 31, 3) := by decide +kernel
theorem d_Tokens_opensBracket_17 : decode b_Tokens_opensBracket 17 = .ok (.ifCond .eq 7, 3) := by decide +kernel
theorem d_Tokens_opensBracket_20 : decode b_Tokens_opensBracket 20 = .ok (.iconst 1, 1) := by decide +kernel
theorem d_Tokens_opensBracket_21 : decode b_Tokens_opensBracket 21 = .ok (.goto 4, 3) := by decide +kernel
theorem d_Tokens_opensBracket_24 : decode b_Tokens_opensBracket 24 = .ok (.iconst 0, 1) := by decide +kernel
theorem d_Tokens_opensBracket_25 : decode b_Tokens_opensBracket 25 = .ok (.ireturn, 1) := by decide +kernel
theorem d_Tokens_closesBracket_0 : decode b_Tokens_closesBracket 0 = .ok (.aload_n 0, 1) := by decide +kernel
theorem d_Tokens_closesBracket_1 : decode b_Tokens_closesBracket 1 = .ok (.iload_n 1, 1) := by decide +kernel
theorem d_Tokens_closesBracket_2 : decode b_Tokens_closesBracket 2 = .ok (.bipush 41, 2) := by decide +kernel
theorem d_Tokens_closesBracket_4 : decode b_Tokens_closesBracket 4 = .ok (.invokevirtual 31, 3) := by decide +kernel
theorem d_Tokens_closesBracket_7 : decode b_Tokens_closesBracket 7 = .ok (.ifCond .ne 13, 3) := by decide +kernel
theorem d_Tokens_closesBracket_10 : decode b_Tokens_closesBracket 10 = .ok (.aload_n 0, 1) := by decide +kernel
theorem d_Tokens_closesBracket_11 : decode b_Tokens_closesBracket 11 = .ok (.iload_n 1, 1) := by decide +kernel
theorem d_Tokens_closesBracket_12 : decode b_Tokens_closesBracket 12 = .ok (.bipush 93, 2) := by decide +kernel
theorem d_Tokens_closesBracket_14 : decode b_Tokens_closesBracket 14 = .ok (.invokevirtual 31, 3) := by decide +kernel
theorem d_Tokens_closesBracket_17 : decode b_Tokens_closesBracket 17 = .ok (.ifCond .eq 7, 3) := by decide +kernel
theorem d_Tokens_closesBracket_20 : decode b_Tokens_closesBracket 20 = .ok (.iconst 1, 1) := by decide +kernel
theorem d_Tokens_closesBracket_21 : decode b_Tokens_closesBracket 21 = .ok (.goto 4, 3) := by decide +kernel
theorem d_Tokens_closesBracket_24 : decode b_Tokens_closesBracket 24 = .ok (.iconst 0, 1) := by decide +kernel
theorem d_Tokens_closesBracket_25 : decode b_Tokens_closesBracket 25 = .ok (.ireturn, 1) := by decide +kernel
theorem d_Tokens_wordAt_0 : decode b_Tokens_wordAt 0 = .ok (.aload_n 0, 1) := by decide +kernel
theorem d_Tokens_wordAt_1 : decode b_Tokens_wordAt 1 = .ok (.iload_n 1, 1) := by decide +kernel
theorem d_Tokens_wordAt_2 : decode b_Tokens_wordAt 2 = .ok (.invokevirtual 27, 3) := by decide +kernel
theorem d_Tokens_wordAt_5 : decode b_Tokens_wordAt 5 = .ok (.ifCond .eq 27, 3) := by decide +kernel
theorem d_Tokens_wordAt_8 : decode b_Tokens_wordAt 8 = .ok (.aload_n 0, 1) := by decide +kernel
theorem d_Tokens_wordAt_9 : decode b_Tokens_wordAt 9 = .ok (.getfield 9, 3) := by decide +kernel
theorem d_Tokens_wordAt_12 : decode b_Tokens_wordAt 12 = .ok (.iload_n 1, 1) := by decide +kernel
theorem d_Tokens_wordAt_13 : decode b_Tokens_wordAt 13 = .ok (.iaload, 1) := by decide +kernel
theorem d_Tokens_wordAt_14 : decode b_Tokens_wordAt 14 = .ok (.ifCond .ne 18, 3) := by decide +kernel
theorem d_Tokens_wordAt_17 : decode b_Tokens_wordAt 17 = .ok (.getstatic 35, 3) := by decide +kernel
theorem d_Tokens_wordAt_20 : decode b_Tokens_wordAt 20 = .ok (.aload_n 0, 1) := by decide +kernel
theorem d_Tokens_wordAt_21 : decode b_Tokens_wordAt 21 = .ok (.getfield 15, 3) := by decide +kernel
theorem d_Tokens_wordAt_24 : decode b_Tokens_wordAt 24 = .ok (.iload_n 1, 1) := by decide +kernel
theorem d_Tokens_wordAt_25 : decode b_Tokens_wordAt 25 = .ok (.laload, 1) := by decide +kernel
theorem d_Tokens_wordAt_26 : decode b_Tokens_wordAt 26 = .ok (.invokestatic 38, 3) := by decide +kernel
theorem d_Tokens_wordAt_29 : decode b_Tokens_wordAt 29 = .ok (.goto 4, 3) := by decide +kernel
theorem d_Tokens_wordAt_32 : decode b_Tokens_wordAt 32 = .ok (.iconst (-1), 1) := by decide +kernel
theorem d_Tokens_wordAt_33 : decode b_Tokens_wordAt 33 = .ok (.ireturn, 1) := by decide +kernel
theorem d_Tokens_isFreeName_0 : decode b_Tokens_isFreeName 0 = .ok (.aload_n 0, 1) := by decide +kernel
theorem d_Tokens_isFreeName_1 : decode b_Tokens_isFreeName 1 = .ok (.iload_n 1, 1) := by decide +kernel
theorem d_Tokens_isFreeName_2 : decode b_Tokens_isFreeName 2 = .ok (.invokevirtual 27, 3) := by decide +kernel
theorem d_Tokens_isFreeName_5 : decode b_Tokens_isFreeName 5 = .ok (.ifCond .eq 32, 3) := by decide +kernel
theorem d_Tokens_isFreeName_8 : decode b_Tokens_isFreeName 8 = .ok (.aload_n 0, 1) := by decide +kernel
theorem d_Tokens_isFreeName_9 : decode b_Tokens_isFreeName 9 = .ok (.getfield 9, 3) := by decide +kernel
theorem d_Tokens_isFreeName_12 : decode b_Tokens_isFreeName 12 = .ok (.iload_n 1, 1) := by decide +kernel
theorem d_Tokens_isFreeName_13 : decode b_Tokens_isFreeName 13 = .ok (.iaload, 1) := by decide +kernel
theorem d_Tokens_isFreeName_14 : decode b_Tokens_isFreeName 14 = .ok (.ifCond .ne 23, 3) := by decide +kernel
theorem d_Tokens_isFreeName_17 : decode b_Tokens_isFreeName 17 = .ok (.getstatic 35, 3) := by decide +kernel
theorem d_Tokens_isFreeName_20 : decode b_Tokens_isFreeName 20 = .ok (.aload_n 0, 1) := by decide +kernel
theorem d_Tokens_isFreeName_21 : decode b_Tokens_isFreeName 21 = .ok (.getfield 15, 3) := by decide +kernel
theorem d_Tokens_isFreeName_24 : decode b_Tokens_isFreeName 24 = .ok (.iload_n 1, 1) := by decide +kernel
theorem d_Tokens_isFreeName_25 : decode b_Tokens_isFreeName 25 = .ok (.laload, 1) := by decide +kernel
theorem d_Tokens_isFreeName_26 : decode b_Tokens_isFreeName 26 = .ok (.invokestatic 38, 3) := by decide +kernel
theorem d_Tokens_isFreeName_29 : decode b_Tokens_isFreeName 29 = .ok (.iconst (-1), 1) := by decide +kernel
theorem d_Tokens_isFreeName_30 : decode b_Tokens_isFreeName 30 = .ok (.if_icmp .ne 7, 3) := by decide +kernel
theorem d_Tokens_isFreeName_33 : decode b_Tokens_isFreeName 33 = .ok (.iconst 1, 1) := by decide +kernel
theorem d_Tokens_isFreeName_34 : decode b_Tokens_isFreeName 34 = .ok (.goto 4, 3) := by decide +kernel
theorem d_Tokens_isFreeName_37 : decode b_Tokens_isFreeName 37 = .ok (.iconst 0, 1) := by decide +kernel
theorem d_Tokens_isFreeName_38 : decode b_Tokens_isFreeName 38 = .ok (.ireturn, 1) := by decide +kernel
theorem d_Tokens_isFreeOperator_0 : decode b_Tokens_isFreeOperator 0 = .ok (.aload_n 0, 1) := by decide +kernel
theorem d_Tokens_isFreeOperator_1 : decode b_Tokens_isFreeOperator 1 = .ok (.iload_n 1, 1) := by decide +kernel
theorem d_Tokens_isFreeOperator_2 : decode b_Tokens_isFreeOperator 2 = .ok (.invokevirtual 27, 3) := by decide +kernel
theorem d_Tokens_isFreeOperator_5 : decode b_Tokens_isFreeOperator 5 = .ok (.ifCond .eq 33, 3) := by decide +kernel
theorem d_Tokens_isFreeOperator_8 : decode b_Tokens_isFreeOperator 8 = .ok (.aload_n 0, 1) := by decide +kernel
theorem d_Tokens_isFreeOperator_9 : decode b_Tokens_isFreeOperator 9 = .ok (.getfield 9, 3) := by decide +kernel
theorem d_Tokens_isFreeOperator_12 : decode b_Tokens_isFreeOperator 12 = .ok (.iload_n 1, 1) := by decide +kernel
theorem d_Tokens_isFreeOperator_13 : decode b_Tokens_isFreeOperator 13 = .ok (.iaload, 1) := by decide +kernel
theorem d_Tokens_isFreeOperator_14 : decode b_Tokens_isFreeOperator 14 = .ok (.iconst 2, 1) := by decide +kernel
theorem d_Tokens_isFreeOperator_15 : decode b_Tokens_isFreeOperator 15 = .ok (.if_icmp .ne 23, 3) := by decide +kernel
theorem d_Tokens_isFreeOperator_18 : decode b_Tokens_isFreeOperator 18 = .ok (.getstatic 42, 3) := by decide +kernel
theorem d_Tokens_isFreeOperator_21 : decode b_Tokens_isFreeOperator 21 = .ok (.aload_n 0, 1) := by decide +kernel
theorem d_Tokens_isFreeOperator_22 : decode b_Tokens_isFreeOperator 22 = .ok (.getfield 15, 3) := by decide +kernel
theorem d_Tokens_isFreeOperator_25 : decode b_Tokens_isFreeOperator 25 = .ok (.iload_n 1, 1) := by decide +kernel
theorem d_Tokens_isFreeOperator_26 : decode b_Tokens_isFreeOperator 26 = .ok (.laload, 1) := by decide +kernel
theorem d_Tokens_isFreeOperator_27 : decode b_Tokens_isFreeOperator 27 = .ok (.invokestatic 38, 3) := by decide +kernel
theorem d_Tokens_isFreeOperator_30 : decode b_Tokens_isFreeOperator 30 = .ok (.iconst (-1), 1) := by decide +kernel
theorem d_Tokens_isFreeOperator_31 : decode b_Tokens_isFreeOperator 31 = .ok (.if_icmp .ne 7, 3) := by decide +kernel
theorem d_Tokens_isFreeOperator_34 : decode b_Tokens_isFreeOperator 34 = .ok (.iconst 1, 1) := by decide +kernel
theorem d_Tokens_isFreeOperator_35 : decode b_Tokens_isFreeOperator 35 = .ok (.goto 4, 3) := by decide +kernel
theorem d_Tokens_isFreeOperator_38 : decode b_Tokens_isFreeOperator 38 = .ok (.iconst 0, 1) := by decide +kernel
theorem d_Tokens_isFreeOperator_39 : decode b_Tokens_isFreeOperator 39 = .ok (.ireturn, 1) := by decide +kernel
theorem d_Tokens_find_0 : decode b_Tokens_find 0 = .ok (.iconst 0, 1) := by decide +kernel
theorem d_Tokens_find_1 : decode b_Tokens_find 1 = .ok (.istore_n 3, 1) := by decide +kernel
theorem d_Tokens_find_2 : decode b_Tokens_find 2 = .ok (.iload_n 3, 1) := by decide +kernel
theorem d_Tokens_find_3 : decode b_Tokens_find 3 = .ok (.aload_n 0, 1) := by decide +kernel
theorem d_Tokens_find_4 : decode b_Tokens_find 4 = .ok (.arraylength, 1) := by decide +kernel
theorem d_Tokens_find_5 : decode b_Tokens_find 5 = .ok (.if_icmp .ge 19, 3) := by decide +kernel
theorem d_Tokens_find_8 : decode b_Tokens_find 8 = .ok (.aload_n 0, 1) := by decide +kernel
theorem d_Tokens_find_9 : decode b_Tokens_find 9 = .ok (.iload_n 3, 1) := by decide +kernel
theorem d_Tokens_find_10 : decode b_Tokens_find 10 = .ok (.laload, 1) := by decide +kernel
theorem d_Tokens_find_11 : decode b_Tokens_find 11 = .ok (.lload_n 1, 1) := by decide +kernel
theorem d_Tokens_find_12 : decode b_Tokens_find 12 = .ok (.lcmp, 1) := by decide +kernel
theorem d_Tokens_find_13 : decode b_Tokens_find 13 = .ok (.ifCond .ne 5, 3) := by decide +kernel
theorem d_Tokens_find_16 : decode b_Tokens_find 16 = .ok (.iload_n 3, 1) := by decide +kernel
theorem d_Tokens_find_17 : decode b_Tokens_find 17 = .ok (.ireturn, 1) := by decide +kernel
theorem d_Tokens_find_18 : decode b_Tokens_find 18 = .ok (.iinc 3 1, 3) := by decide +kernel
theorem d_Tokens_find_21 : decode b_Tokens_find 21 = .ok (.goto (-19), 3) := by decide +kernel
theorem d_Tokens_find_24 : decode b_Tokens_find 24 = .ok (.iconst (-1), 1) := by decide +kernel
theorem d_Tokens_find_25 : decode b_Tokens_find 25 = .ok (.ireturn, 1) := by decide +kernel
theorem d_Lexemes_init_0 : decode b_Lexemes_init 0 = .ok (.aload_n 0, 1) := by decide +kernel
theorem d_Lexemes_init_1 : decode b_Lexemes_init 1 = .ok (.invokespecial 3, 3) := by decide +kernel
theorem d_Lexemes_init_4 : decode b_Lexemes_init 4 = .ok (.aload_n 0, 1) := by decide +kernel
theorem d_Lexemes_init_5 : decode b_Lexemes_init 5 = .ok (.new 9, 3) := by decide +kernel
theorem d_Lexemes_init_8 : decode b_Lexemes_init 8 = .ok (.dup, 1) := by decide +kernel
theorem d_Lexemes_init_9 : decode b_Lexemes_init 9 = .ok (.bipush 90, 2) := by decide +kernel
theorem d_Lexemes_init_11 : decode b_Lexemes_init 11 = .ok (.invokespecial 11, 3) := by decide +kernel
theorem d_Lexemes_init_14 : decode b_Lexemes_init 14 = .ok (.putfield 14, 3) := by decide +kernel
theorem d_Lexemes_init_17 : decode b_Lexemes_init 17 = .ok (.aload_n 0, 1) := by decide +kernel
theorem d_Lexemes_init_18 : decode b_Lexemes_init 18 = .ok (.bipush 90, 2) := by decide +kernel
theorem d_Lexemes_init_20 : decode b_Lexemes_init 20 = .ok (.newarray .int, 2) := by decide +kernel
theorem d_Lexemes_init_22 : decode b_Lexemes_init 22 = .ok (.putfield 20, 3) := by decide +kernel
theorem d_Lexemes_init_25 : decode b_Lexemes_init 25 = .ok (.aload_n 0, 1) := by decide +kernel
theorem d_Lexemes_init_26 : decode b_Lexemes_init 26 = .ok (.bipush 90, 2) := by decide +kernel
theorem d_Lexemes_init_28 : decode b_Lexemes_init 28 = .ok (.newarray .int, 2) := by decide +kernel
theorem d_Lexemes_init_30 : decode b_Lexemes_init 30 = .ok (.putfield 24, 3) := by decide +kernel
theorem d_Lexemes_init_33 : decode b_Lexemes_init 33 = .ok (.aload_n 0, 1) := by decide +kernel
theorem d_Lexemes_init_34 : decode b_Lexemes_init 34 = .ok (.bipush 90, 2) := by decide +kernel
theorem d_Lexemes_init_36 : decode b_Lexemes_init 36 = .ok (.newarray .boolean, 2) := by decide +kernel
theorem d_Lexemes_init_38 : decode b_Lexemes_init 38 = .ok (.putfield 27, 3) := by decide +kernel
theorem d_Lexemes_init_41 : decode b_Lexemes_init 41 = .ok (.return_, 1) := by decide +kernel
theorem d_Lexemes_clear_0 : decode b_Lexemes_clear 0 = .ok (.aload_n 0, 1) := by decide +kernel
theorem d_Lexemes_clear_1 : decode b_Lexemes_clear 1 = .ok (.getfield 14, 3) := by decide +kernel
theorem d_Lexemes_clear_4 : decode b_Lexemes_clear 4 = .ok (.invokevirtual 31, 3) := by decide +kernel
theorem d_Lexemes_clear_7 : decode b_Lexemes_clear 7 = .ok (.return_, 1) := by decide +kernel
theorem d_Lexemes_size_0 : decode b_Lexemes_size 0 = .ok (.aload_n 0, 1) := by decide +kernel
theorem d_Lexemes_size_1 : decode b_Lexemes_size 1 = .ok (.getfield 14, 3) := by decide +kernel
theorem d_Lexemes_size_4 : decode b_Lexemes_size 4 = .ok (.invokevirtual 34, 3) := by decide +kernel
theorem d_Lexemes_size_7 : decode b_Lexemes_size 7 = .ok (.ireturn, 1) := by decide +kernel
theorem d_Lexemes_isFull_0 : decode b_Lexemes_isFull 0 = .ok (.aload_n 0, 1) := by decide +kernel
theorem d_Lexemes_isFull_1 : decode b_Lexemes_isFull 1 = .ok (.getfield 14, 3) := by decide +kernel
theorem d_Lexemes_isFull_4 : decode b_Lexemes_isFull 4 = .ok (.invokevirtual 34, 3) := by decide +kernel
theorem d_Lexemes_isFull_7 : decode b_Lexemes_isFull 7 = .ok (.bipush 90, 2) := by decide +kernel
theorem d_Lexemes_isFull_9 : decode b_Lexemes_isFull 9 = .ok (.if_icmp .lt 7, 3) := by decide +kernel
theorem d_Lexemes_isFull_12 : decode b_Lexemes_isFull 12 = .ok (.iconst 1, 1) := by decide +kernel
theorem d_Lexemes_isFull_13 : decode b_Lexemes_isFull 13 = .ok (.goto 4, 3) := by decide +kernel
theorem d_Lexemes_isFull_16 : decode b_Lexemes_isFull 16 = .ok (.iconst 0, 1) := by decide +kernel
theorem d_Lexemes_isFull_17 : decode b_Lexemes_isFull 17 = .ok (.ireturn, 1) := by decide +kernel
theorem d_Lexemes_tokens_0 : decode b_Lexemes_tokens 0 = .ok (.aload_n 0, 1) := by decide +kernel
theorem d_Lexemes_tokens_1 : decode b_Lexemes_tokens 1 = .ok (.getfield 14, 3) := by decide +kernel
theorem d_Lexemes_tokens_4 : decode b_Lexemes_tokens 4 = .ok (.areturn, 1) := by decide +kernel
theorem d_Lexemes_add_0 : decode b_Lexemes_add 0 = .ok (.aload_n 0, 1) := by decide +kernel
theorem d_Lexemes_add_1 : decode b_Lexemes_add 1 = .ok (.getfield 14, 3) := by decide +kernel
theorem d_Lexemes_add_4 : decode b_Lexemes_add 4 = .ok (.invokevirtual 34, 3) := by decide +kernel
theorem d_Lexemes_add_7 : decode b_Lexemes_add 7 = .ok (.istore 7, 2) := by decide +kernel
theorem d_Lexemes_add_9 : decode b_Lexemes_add 9 = .ok (.iload 7, 2) := by decide +kernel
theorem d_Lexemes_add_11 : decode b_Lexemes_add 11 = .ok (.bipush 90, 2) := by decide +kernel
theorem d_Lexemes_add_13 : decode b_Lexemes_add 13 = .ok (.if_icmp .ge 39, 3) := by decide +kernel
theorem d_Lexemes_add_16 : decode b_Lexemes_add 16 = .ok (.aload_n 0, 1) := by decide +kernel
theorem d_Lexemes_add_17 : decode b_Lexemes_add 17 = .ok (.getfield 20, 3) := by decide +kernel
theorem d_Lexemes_add_20 : decode b_Lexemes_add 20 = .ok (.iload 7, 2) := by decide +kernel
theorem d_Lexemes_add_22 : decode b_Lexemes_add 22 = .ok (.iload 4, 2) := by decide +kernel
theorem d_Lexemes_add_24 : decode b_Lexemes_add 24 = .ok (.iastore, 1) := by decide +kernel
theorem d_Lexemes_add_25 : decode b_Lexemes_add 25 = .ok (.aload_n 0, 1) := by decide +kernel
theorem d_Lexemes_add_26 : decode b_Lexemes_add 26 = .ok (.getfield 24, 3) := by decide +kernel
theorem d_Lexemes_add_29 : decode b_Lexemes_add 29 = .ok (.iload 7, 2) := by decide +kernel
theorem d_Lexemes_add_31 : decode b_Lexemes_add 31 = .ok (.iload 5, 2) := by decide +kernel
theorem d_Lexemes_add_33 : decode b_Lexemes_add 33 = .ok (.iastore, 1) := by decide +kernel
theorem d_Lexemes_add_34 : decode b_Lexemes_add 34 = .ok (.aload_n 0, 1) := by decide +kernel
theorem d_Lexemes_add_35 : decode b_Lexemes_add 35 = .ok (.getfield 27, 3) := by decide +kernel
theorem d_Lexemes_add_38 : decode b_Lexemes_add 38 = .ok (.iload 7, 2) := by decide +kernel
theorem d_Lexemes_add_40 : decode b_Lexemes_add 40 = .ok (.iload 6, 2) := by decide +kernel
theorem d_Lexemes_add_42 : decode b_Lexemes_add 42 = .ok (.bastore, 1) := by decide +kernel
theorem d_Lexemes_add_43 : decode b_Lexemes_add 43 = .ok (.aload_n 0, 1) := by decide +kernel
theorem d_Lexemes_add_44 : decode b_Lexemes_add 44 = .ok (.getfield 14, 3) := by decide +kernel
theorem d_Lexemes_add_47 : decode b_Lexemes_add 47 = .ok (.iload_n 1, 1) := by decide +kernel
theorem d_Lexemes_add_48 : decode b_Lexemes_add 48 = .ok (.lload_n 2, 1) := by decide +kernel
theorem d_Lexemes_add_49 : decode b_Lexemes_add 49 = .ok (.invokevirtual 38, 3) := by decide +kernel
theorem d_Lexemes_add_52 : decode b_Lexemes_add 52 = .ok (.return_, 1) := by decide +kernel
theorem d_Lexemes_placeAt_0 : decode b_Lexemes_placeAt 0 = .ok (.aload_n 0, 1) := by decide +kernel
theorem d_Lexemes_placeAt_1 : decode b_Lexemes_placeAt 1 = .ok (.getfield 14, 3) := by decide +kernel
theorem d_Lexemes_placeAt_4 : decode b_Lexemes_placeAt 4 = .ok (.iload_n 1, 1) := by decide +kernel
theorem d_Lexemes_placeAt_5 : decode b_Lexemes_placeAt 5 = .ok (.invokevirtual 42, 3) := by decide +kernel
theorem d_Lexemes_placeAt_8 : decode b_Lexemes_placeAt 8 = .ok (.ifCond .eq 12, 3) := by decide +kernel
theorem d_Lexemes_placeAt_11 : decode b_Lexemes_placeAt 11 = .ok (.aload_n 0, 1) := by decide +kernel
theorem d_Lexemes_placeAt_12 : decode b_Lexemes_placeAt 12 = .ok (.getfield 20, 3) := by decide +kernel
theorem d_Lexemes_placeAt_15 : decode b_Lexemes_placeAt 15 = .ok (.iload_n 1, 1) := by decide +kernel
theorem d_Lexemes_placeAt_16 : decode b_Lexemes_placeAt 16 = .ok (.iaload, 1) := by decide +kernel
theorem d_Lexemes_placeAt_17 : decode b_Lexemes_placeAt 17 = .ok (.goto 4, 3) := by decide +kernel
theorem d_Lexemes_placeAt_20 : decode b_Lexemes_placeAt 20 = .ok (.iconst (-1), 1) := by decide +kernel
theorem d_Lexemes_placeAt_21 : decode b_Lexemes_placeAt 21 = .ok (.ireturn, 1) := by decide +kernel
theorem d_Lexemes_columnAt_0 : decode b_Lexemes_columnAt 0 = .ok (.aload_n 0, 1) := by decide +kernel
theorem d_Lexemes_columnAt_1 : decode b_Lexemes_columnAt 1 = .ok (.getfield 14, 3) := by decide +kernel
theorem d_Lexemes_columnAt_4 : decode b_Lexemes_columnAt 4 = .ok (.iload_n 1, 1) := by decide +kernel
theorem d_Lexemes_columnAt_5 : decode b_Lexemes_columnAt 5 = .ok (.invokevirtual 42, 3) := by decide +kernel
theorem d_Lexemes_columnAt_8 : decode b_Lexemes_columnAt 8 = .ok (.ifCond .eq 12, 3) := by decide +kernel
theorem d_Lexemes_columnAt_11 : decode b_Lexemes_columnAt 11 = .ok (.aload_n 0, 1) := by decide +kernel
theorem d_Lexemes_columnAt_12 : decode b_Lexemes_columnAt 12 = .ok (.getfield 24, 3) := by decide +kernel
theorem d_Lexemes_columnAt_15 : decode b_Lexemes_columnAt 15 = .ok (.iload_n 1, 1) := by decide +kernel
theorem d_Lexemes_columnAt_16 : decode b_Lexemes_columnAt 16 = .ok (.iaload, 1) := by decide +kernel
theorem d_Lexemes_columnAt_17 : decode b_Lexemes_columnAt 17 = .ok (.goto 4, 3) := by decide +kernel
theorem d_Lexemes_columnAt_20 : decode b_Lexemes_columnAt 20 = .ok (.iconst 0, 1) := by decide +kernel
theorem d_Lexemes_columnAt_21 : decode b_Lexemes_columnAt 21 = .ok (.ireturn, 1) := by decide +kernel
theorem d_Lexemes_isLineFirst_0 : decode b_Lexemes_isLineFirst 0 = .ok (.aload_n 0, 1) := by decide +kernel
theorem d_Lexemes_isLineFirst_1 : decode b_Lexemes_isLineFirst 1 = .ok (.getfield 14, 3) := by decide +kernel
theorem d_Lexemes_isLineFirst_4 : decode b_Lexemes_isLineFirst 4 = .ok (.iload_n 1, 1) := by decide +kernel
theorem d_Lexemes_isLineFirst_5 : decode b_Lexemes_isLineFirst 5 = .ok (.invokevirtual 42, 3) := by decide +kernel
theorem d_Lexemes_isLineFirst_8 : decode b_Lexemes_isLineFirst 8 = .ok (.ifCond .eq 16, 3) := by decide +kernel
theorem d_Lexemes_isLineFirst_11 : decode b_Lexemes_isLineFirst 11 = .ok (.aload_n 0, 1) := by decide +kernel
theorem d_Lexemes_isLineFirst_12 : decode b_Lexemes_isLineFirst 12 = .ok (.getfield 27, 3) := by decide +kernel
theorem d_Lexemes_isLineFirst_15 : decode b_Lexemes_isLineFirst 15 = .ok (.iload_n 1, 1) := by decide +kernel
theorem d_Lexemes_isLineFirst_16 : decode b_Lexemes_isLineFirst 16 = .ok (.baload, 1) := by decide +kernel
theorem d_Lexemes_isLineFirst_17 : decode b_Lexemes_isLineFirst 17 = .ok (.ifCond .eq 7, 3) := by decide +kernel
theorem d_Lexemes_isLineFirst_20 : decode b_Lexemes_isLineFirst 20 = .ok (.iconst 1, 1) := by decide +kernel
theorem d_Lexemes_isLineFirst_21 : decode b_Lexemes_isLineFirst 21 = .ok (.goto 4, 3) := by decide +kernel
theorem d_Lexemes_isLineFirst_24 : decode b_Lexemes_isLineFirst 24 = .ok (.iconst 0, 1) := by decide +kernel
theorem d_Lexemes_isLineFirst_25 : decode b_Lexemes_isLineFirst 25 = .ok (.ireturn, 1) := by decide +kernel
theorem d_Cutter_init_0 : decode b_Cutter_init 0 = .ok (.aload_n 0, 1) := by decide +kernel
theorem d_Cutter_init_1 : decode b_Cutter_init 1 = .ok (.invokespecial 3, 3) := by decide +kernel
theorem d_Cutter_init_4 : decode b_Cutter_init 4 = .ok (.aload_n 0, 1) := by decide +kernel
theorem d_Cutter_init_5 : decode b_Cutter_init 5 = .ok (.new 9, 3) := by decide +kernel
theorem d_Cutter_init_8 : decode b_Cutter_init 8 = .ok (.dup, 1) := by decide +kernel
theorem d_Cutter_init_9 : decode b_Cutter_init 9 = .ok (.invokespecial 11, 3) := by decide +kernel
theorem d_Cutter_init_12 : decode b_Cutter_init 12 = .ok (.putfield 12, 3) := by decide +kernel
theorem d_Cutter_init_15 : decode b_Cutter_init 15 = .ok (.aload_n 0, 1) := by decide +kernel
theorem d_Cutter_init_16 : decode b_Cutter_init 16 = .ok (.iconst (-1), 1) := by decide +kernel
theorem d_Cutter_init_17 : decode b_Cutter_init 17 = .ok (.putfield 18, 3) := by decide +kernel
theorem d_Cutter_init_20 : decode b_Cutter_init 20 = .ok (.return_, 1) := by decide +kernel
theorem d_Cutter_lexemes_0 : decode b_Cutter_lexemes 0 = .ok (.aload_n 0, 1) := by decide +kernel
theorem d_Cutter_lexemes_1 : decode b_Cutter_lexemes 1 = .ok (.getfield 12, 3) := by decide +kernel
theorem d_Cutter_lexemes_4 : decode b_Cutter_lexemes 4 = .ok (.areturn, 1) := by decide +kernel
theorem d_Cutter_foundTooMany_0 : decode b_Cutter_foundTooMany 0 = .ok (.aload_n 0, 1) := by decide +kernel
theorem d_Cutter_foundTooMany_1 : decode b_Cutter_foundTooMany 1 = .ok (.getfield 22, 3) := by decide +kernel
theorem d_Cutter_foundTooMany_4 : decode b_Cutter_foundTooMany 4 = .ok (.ireturn, 1) := by decide +kernel
theorem d_Cutter_cut_0 : decode b_Cutter_cut 0 = .ok (.aload_n 0, 1) := by decide +kernel
theorem d_Cutter_cut_1 : decode b_Cutter_cut 1 = .ok (.getfield 12, 3) := by decide +kernel
theorem d_Cutter_cut_4 : decode b_Cutter_cut 4 = .ok (.invokevirtual 26, 3) := by decide +kernel
theorem d_Cutter_cut_7 : decode b_Cutter_cut 7 = .ok (.aload_n 0, 1) := by decide +kernel
theorem d_Cutter_cut_8 : decode b_Cutter_cut 8 = .ok (.iconst 0, 1) := by decide +kernel
theorem d_Cutter_cut_9 : decode b_Cutter_cut 9 = .ok (.putfield 29, 3) := by decide +kernel
theorem d_Cutter_cut_12 : decode b_Cutter_cut 12 = .ok (.aload_n 0, 1) := by decide +kernel
theorem d_Cutter_cut_13 : decode b_Cutter_cut 13 = .ok (.iconst 0, 1) := by decide +kernel
theorem d_Cutter_cut_14 : decode b_Cutter_cut 14 = .ok (.putfield 32, 3) := by decide +kernel
theorem d_Cutter_cut_17 : decode b_Cutter_cut 17 = .ok (.aload_n 0, 1) := by decide +kernel
theorem d_Cutter_cut_18 : decode b_Cutter_cut 18 = .ok (.iconst 1, 1) := by decide +kernel
theorem d_Cutter_cut_19 : decode b_Cutter_cut 19 = .ok (.putfield 35, 3) := by decide +kernel
theorem d_Cutter_cut_22 : decode b_Cutter_cut 22 = .ok (.aload_n 0, 1) := by decide +kernel
theorem d_Cutter_cut_23 : decode b_Cutter_cut 23 = .ok (.iconst (-1), 1) := by decide +kernel
theorem d_Cutter_cut_24 : decode b_Cutter_cut 24 = .ok (.putfield 18, 3) := by decide +kernel
theorem d_Cutter_cut_27 : decode b_Cutter_cut 27 = .ok (.aload_n 0, 1) := by decide +kernel
theorem d_Cutter_cut_28 : decode b_Cutter_cut 28 = .ok (.iconst 0, 1) := by decide +kernel
theorem d_Cutter_cut_29 : decode b_Cutter_cut 29 = .ok (.putfield 22, 3) := by decide +kernel
theorem d_Cutter_cut_32 : decode b_Cutter_cut 32 = .ok (.iconst 0, 1) := by decide +kernel
theorem d_Cutter_cut_33 : decode b_Cutter_cut 33 = .ok (.istore_n 2, 1) := by decide +kernel
theorem d_Cutter_cut_34 : decode b_Cutter_cut 34 = .ok (.iload_n 2, 1) := by decide +kernel
theorem d_Cutter_cut_35 : decode b_Cutter_cut 35 = .ok (.sipush 240, 3) := by decide +kernel
theorem d_Cutter_cut_38 : decode b_Cutter_cut 38 = .ok (.if_icmp .ge 84, 3) := by decide +kernel
theorem d_Cutter_cut_41 : decode b_Cutter_cut 41 = .ok (.aload_n 0, 1) := by decide +kernel
theorem d_Cutter_cut_42 : decode b_Cutter_cut 42 = .ok (.getfield 29, 3) := by decide +kernel
theorem d_Cutter_cut_45 : decode b_Cutter_cut 45 = .ok (.aload_n 1, 1) := by decide +kernel
theorem d_Cutter_cut_46 : decode b_Cutter_cut 46 = .ok (.invokevirtual 38, 3) := by decide +kernel
theorem d_Cutter_cut_49 : decode b_Cutter_cut 49 = .ok (.if_icmp .ge 73, 3) := by decide +kernel
theorem d_Cutter_cut_52 : decode b_Cutter_cut 52 = .ok (.aload_n 0, 1) := by decide +kernel
theorem d_Cutter_cut_53 : decode b_Cutter_cut 53 = .ok (.getfield 18, 3) := by decide +kernel
theorem d_Cutter_cut_56 : decode b_Cutter_cut 56 = .ok (.iconst (-1), 1) := by decide +kernel
theorem d_Cutter_cut_57 : decode b_Cutter_cut 57 = .ok (.if_icmp .eq 6, 3) := by decide +kernel
theorem d_Cutter_cut_60 : decode b_Cutter_cut 60 = .ok (.goto 62, 3) := by decide +kernel
theorem d_Cutter_cut_63 : decode b_Cutter_cut 63 = .ok (.aload_n 1, 1) := by decide +kernel
theorem d_Cutter_cut_64 : decode b_Cutter_cut 64 = .ok (.aload_n 0, 1) := by decide +kernel
theorem d_Cutter_cut_65 : decode b_Cutter_cut 65 = .ok (.getfield 29, 3) := by decide +kernel
theorem d_Cutter_cut_68 : decode b_Cutter_cut 68 = .ok (.invokevirtual 44, 3) := by decide +kernel
theorem d_Cutter_cut_71 : decode b_Cutter_cut 71 = .ok (.invokestatic 47, 3) := by decide +kernel
theorem d_Cutter_cut_74 : decode b_Cutter_cut 74 = .ok (.ifCond .eq 18, 3) := by decide +kernel
theorem d_Cutter_cut_77 : decode b_Cutter_cut 77 = .ok (.aload_n 0, 1) := by decide +kernel
theorem d_Cutter_cut_78 : decode b_Cutter_cut 78 = .ok (.aload_n 1, 1) := by decide +kernel
theorem d_Cutter_cut_79 : decode b_Cutter_cut 79 = .ok (.aload_n 0, 1) := by decide +kernel
theorem d_Cutter_cut_80 : decode b_Cutter_cut 80 = .ok (.getfield 29, 3) := by decide +kernel
theorem d_Cutter_cut_83 : decode b_Cutter_cut 83 = .ok (.invokevirtual 44, 3) := by decide +kernel
theorem d_Cutter_cut_86 : decode b_Cutter_cut 86 = .ok (.invokevirtual 51, 3) := by decide +kernel
theorem d_Cutter_cut_89 : decode b_Cutter_cut 89 = .ok (.goto 27, 3) := by decide +kernel
theorem d_Cutter_cut_92 : decode b_Cutter_cut 92 = .ok (.aload_n 1, 1) := by decide +kernel
theorem d_Cutter_cut_93 : decode b_Cutter_cut 93 = .ok (.aload_n 0, 1) := by decide +kernel
theorem d_Cutter_cut_94 : decode b_Cutter_cut 94 = .ok (.getfield 29, 3) := by decide +kernel
theorem d_Cutter_cut_97 : decode b_Cutter_cut 97 = .ok (.invokestatic 55, 3) := by decide +kernel
theorem d_Cutter_cut_100 : decode b_Cutter_cut 100 = .ok (.ifCond .eq 11, 3) := by decide +kernel
theorem d_Cutter_cut_103 : decode b_Cutter_cut 103 = .ok (.aload_n 0, 1) := by decide +kernel
theorem d_Cutter_cut_104 : decode b_Cutter_cut 104 = .ok (.aload_n 1, 1) := by decide +kernel
theorem d_Cutter_cut_105 : decode b_Cutter_cut 105 = .ok (.invokevirtual 59, 3) := by decide +kernel
theorem d_Cutter_cut_108 : decode b_Cutter_cut 108 = .ok (.goto 8, 3) := by decide +kernel
theorem d_Cutter_cut_111 : decode b_Cutter_cut 111 = .ok (.aload_n 0, 1) := by decide +kernel
theorem d_Cutter_cut_112 : decode b_Cutter_cut 112 = .ok (.aload_n 1, 1) := by decide +kernel
theorem d_Cutter_cut_113 : decode b_Cutter_cut 113 = .ok (.invokevirtual 63, 3) := by decide +kernel
theorem d_Cutter_cut_116 : decode b_Cutter_cut 116 = .ok (.iinc 2 1, 3) := by decide +kernel
theorem d_Cutter_cut_119 : decode b_Cutter_cut 119 = .ok (.goto (-85), 3) := by decide +kernel
theorem d_Cutter_cut_122 : decode b_Cutter_cut 122 = .ok (.aload_n 0, 1) := by decide +kernel
theorem d_Cutter_cut_123 : decode b_Cutter_cut 123 = .ok (.getfield 18, 3) := by decide +kernel
theorem d_Cutter_cut_126 : decode b_Cutter_cut 126 = .ok (.ireturn, 1) := by decide +kernel
theorem d_Cutter_isBlank_0 : decode b_Cutter_isBlank 0 = .ok (.iload_n 0, 1) := by decide +kernel
theorem d_Cutter_isBlank_1 : decode b_Cutter_isBlank 1 = .ok (.bipush 32, 2) := by decide +kernel
theorem d_Cutter_isBlank_3 : decode b_Cutter_isBlank 3 = .ok (.if_icmp .eq 9, 3) := by decide +kernel
theorem d_Cutter_isBlank_6 : decode b_Cutter_isBlank 6 = .ok (.iload_n 0, 1) := by decide +kernel
theorem d_Cutter_isBlank_7 : decode b_Cutter_isBlank 7 = .ok (.bipush 10, 2) := by decide +kernel
theorem d_Cutter_isBlank_9 : decode b_Cutter_isBlank 9 = .ok (.if_icmp .ne 7, 3) := by decide +kernel
theorem d_Cutter_isBlank_12 : decode b_Cutter_isBlank 12 = .ok (.iconst 1, 1) := by decide +kernel
theorem d_Cutter_isBlank_13 : decode b_Cutter_isBlank 13 = .ok (.goto 4, 3) := by decide +kernel
theorem d_Cutter_isBlank_16 : decode b_Cutter_isBlank 16 = .ok (.iconst 0, 1) := by decide +kernel
theorem d_Cutter_isBlank_17 : decode b_Cutter_isBlank 17 = .ok (.ireturn, 1) := by decide +kernel
theorem d_Cutter_passCharacter_0 : decode b_Cutter_passCharacter 0 = .ok (.aload_n 0, 1) := by decide +kernel
theorem d_Cutter_passCharacter_1 : decode b_Cutter_passCharacter 1 = .ok (.dup, 1) := by decide +kernel
theorem d_Cutter_passCharacter_2 : decode b_Cutter_passCharacter 2 = .ok (.getfield 29, 3) := by decide +kernel
theorem d_Cutter_passCharacter_5 : decode b_Cutter_passCharacter 5 = .ok (.iconst 1, 1) := by decide +kernel
theorem d_Cutter_passCharacter_6 : decode b_Cutter_passCharacter 6 = .ok (.iadd, 1) := by decide +kernel
theorem d_Cutter_passCharacter_7 : decode b_Cutter_passCharacter 7 = .ok (.putfield 29, 3) := by decide +kernel
theorem d_Cutter_passCharacter_10 : decode b_Cutter_passCharacter 10 = .ok (.iload_n 1, 1) := by decide +kernel
theorem d_Cutter_passCharacter_11 : decode b_Cutter_passCharacter 11 = .ok (.bipush 10, 2) := by decide +kernel
theorem d_Cutter_passCharacter_13 : decode b_Cutter_passCharacter 13 = .ok (.if_icmp .ne 16, 3) := by decide +kernel
theorem d_Cutter_passCharacter_16 : decode b_Cutter_passCharacter 16 = .ok (.aload_n 0, 1) := by decide +kernel
theorem d_Cutter_passCharacter_17 : decode b_Cutter_passCharacter 17 = .ok (.aload_n 0, 1) := by decide +kernel
theorem d_Cutter_passCharacter_18 : decode b_Cutter_passCharacter 18 = .ok (.getfield 29, 3) := by decide +kernel
theorem d_Cutter_passCharacter_21 : decode b_Cutter_passCharacter 21 = .ok (.putfield 32, 3) := by decide +kernel
theorem d_Cutter_passCharacter_24 : decode b_Cutter_passCharacter 24 = .ok (.aload_n 0, 1) := by decide +kernel
theorem d_Cutter_passCharacter_25 : decode b_Cutter_passCharacter 25 = .ok (.iconst 1, 1) := by decide +kernel
theorem d_Cutter_passCharacter_26 : decode b_Cutter_passCharacter 26 = .ok (.putfield 35, 3) := by decide +kernel
theorem d_Cutter_passCharacter_29 : decode b_Cutter_passCharacter 29 = .ok (.return_, 1) := by decide +kernel
theorem d_Cutter_opensComment_0 : decode b_Cutter_opensComment 0 = .ok (.aload_n 0, 1) := by decide +kernel
theorem d_Cutter_opensComment_1 : decode b_Cutter_opensComment 1 = .ok (.iload_n 1, 1) := by decide +kernel
theorem d_Cutter_opensComment_2 : decode b_Cutter_opensComment 2 = .ok (.invokevirtual 44, 3) := by decide +kernel
theorem d_Cutter_opensComment_5 : decode b_Cutter_opensComment 5 = .ok (.bipush 123, 2) := by decide +kernel
theorem d_Cutter_opensComment_7 : decode b_Cutter_opensComment 7 = .ok (.if_icmp .ne 19, 3) := by decide +kernel
theorem d_Cutter_opensComment_10 : decode b_Cutter_opensComment 10 = .ok (.aload_n 0, 1) := by decide +kernel
theorem d_Cutter_opensComment_11 : decode b_Cutter_opensComment 11 = .ok (.iload_n 1, 1) := by decide +kernel
theorem d_Cutter_opensComment_12 : decode b_Cutter_opensComment 12 = .ok (.iconst 1, 1) := by decide +kernel
theorem d_Cutter_opensComment_13 : decode b_Cutter_opensComment 13 = .ok (.iadd, 1) := by decide +kernel
theorem d_Cutter_opensComment_14 : decode b_Cutter_opensComment 14 = .ok (.invokevirtual 44, 3) := by decide +kernel
theorem d_Cutter_opensComment_17 : decode b_Cutter_opensComment 17 = .ok (.bipush 45, 2) := by decide +kernel
theorem d_Cutter_opensComment_19 : decode b_Cutter_opensComment 19 = .ok (.if_icmp .ne 7, 3) := by decide +kernel
theorem d_Cutter_opensComment_22 : decode b_Cutter_opensComment 22 = .ok (.iconst 1, 1) := by decide +kernel
theorem d_Cutter_opensComment_23 : decode b_Cutter_opensComment 23 = .ok (.goto 4, 3) := by decide +kernel
theorem d_Cutter_opensComment_26 : decode b_Cutter_opensComment 26 = .ok (.iconst 0, 1) := by decide +kernel
theorem d_Cutter_opensComment_27 : decode b_Cutter_opensComment 27 = .ok (.ireturn, 1) := by decide +kernel
theorem d_Cutter_closesComment_0 : decode b_Cutter_closesComment 0 = .ok (.aload_n 0, 1) := by decide +kernel
theorem d_Cutter_closesComment_1 : decode b_Cutter_closesComment 1 = .ok (.iload_n 1, 1) := by decide +kernel
theorem d_Cutter_closesComment_2 : decode b_Cutter_closesComment 2 = .ok (.invokevirtual 44, 3) := by decide +kernel
theorem d_Cutter_closesComment_5 : decode b_Cutter_closesComment 5 = .ok (.bipush 45, 2) := by decide +kernel
theorem d_Cutter_closesComment_7 : decode b_Cutter_closesComment 7 = .ok (.if_icmp .ne 19, 3) := by decide +kernel
theorem d_Cutter_closesComment_10 : decode b_Cutter_closesComment 10 = .ok (.aload_n 0, 1) := by decide +kernel
theorem d_Cutter_closesComment_11 : decode b_Cutter_closesComment 11 = .ok (.iload_n 1, 1) := by decide +kernel
theorem d_Cutter_closesComment_12 : decode b_Cutter_closesComment 12 = .ok (.iconst 1, 1) := by decide +kernel
theorem d_Cutter_closesComment_13 : decode b_Cutter_closesComment 13 = .ok (.iadd, 1) := by decide +kernel
theorem d_Cutter_closesComment_14 : decode b_Cutter_closesComment 14 = .ok (.invokevirtual 44, 3) := by decide +kernel
theorem d_Cutter_closesComment_17 : decode b_Cutter_closesComment 17 = .ok (.bipush 125, 2) := by decide +kernel
theorem d_Cutter_closesComment_19 : decode b_Cutter_closesComment 19 = .ok (.if_icmp .ne 7, 3) := by decide +kernel
theorem d_Cutter_closesComment_22 : decode b_Cutter_closesComment 22 = .ok (.iconst 1, 1) := by decide +kernel
theorem d_Cutter_closesComment_23 : decode b_Cutter_closesComment 23 = .ok (.goto 4, 3) := by decide +kernel
theorem d_Cutter_closesComment_26 : decode b_Cutter_closesComment 26 = .ok (.iconst 0, 1) := by decide +kernel
theorem d_Cutter_closesComment_27 : decode b_Cutter_closesComment 27 = .ok (.ireturn, 1) := by decide +kernel
theorem d_Cutter_passComment_0 : decode b_Cutter_passComment 0 = .ok (.aload_n 0, 1) := by decide +kernel
theorem d_Cutter_passComment_1 : decode b_Cutter_passComment 1 = .ok (.getfield 29, 3) := by decide +kernel
theorem d_Cutter_passComment_4 : decode b_Cutter_passComment 4 = .ok (.istore_n 2, 1) := by decide +kernel
theorem d_Cutter_passComment_5 : decode b_Cutter_passComment 5 = .ok (.iconst 0, 1) := by decide +kernel
theorem d_Cutter_passComment_6 : decode b_Cutter_passComment 6 = .ok (.istore_n 3, 1) := by decide +kernel
theorem d_Cutter_passComment_7 : decode b_Cutter_passComment 7 = .ok (.iconst 0, 1) := by decide +kernel
theorem d_Cutter_passComment_8 : decode b_Cutter_passComment 8 = .ok (.istore 4, 2) := by decide +kernel
theorem d_Cutter_passComment_10 : decode b_Cutter_passComment 10 = .ok (.iload 4, 2) := by decide +kernel
theorem d_Cutter_passComment_12 : decode b_Cutter_passComment 12 = .ok (.sipush 240, 3) := by decide +kernel
theorem d_Cutter_passComment_15 : decode b_Cutter_passComment 15 = .ok (.if_icmp .ge 91, 3) := by decide +kernel
theorem d_Cutter_passComment_18 : decode b_Cutter_passComment 18 = .ok (.aload_n 0, 1) := by decide +kernel
theorem d_Cutter_passComment_19 : decode b_Cutter_passComment 19 = .ok (.getfield 29, 3) := by decide +kernel
theorem d_Cutter_passComment_22 : decode b_Cutter_passComment 22 = .ok (.aload_n 1, 1) := by decide +kernel
theorem d_Cutter_passComment_23 : decode b_Cutter_passComment 23 = .ok (.invokevirtual 38, 3) := by decide +kernel
theorem d_Cutter_passComment_26 : decode b_Cutter_passComment 26 = .ok (.if_icmp .ge 80, 3) := by decide +kernel
theorem d_Cutter_passComment_29 : decode b_Cutter_passComment 29 = .ok (.aload_n 1, 1) := by decide +kernel
theorem d_Cutter_passComment_30 : decode b_Cutter_passComment 30 = .ok (.aload_n 0, 1) := by decide +kernel
theorem d_Cutter_passComment_31 : decode b_Cutter_passComment 31 = .ok (.getfield 29, 3) := by decide +kernel
theorem d_Cutter_passComment_34 : decode b_Cutter_passComment 34 = .ok (.invokestatic 55, 3) := by decide +kernel
theorem d_Cutter_passComment_37 : decode b_Cutter_passComment 37 = .ok (.ifCond .eq 19, 3) := by decide +kernel
theorem d_Cutter_passComment_40 : decode b_Cutter_passComment 40 = .ok (.iinc 3 1, 3) := by decide +kernel
theorem d_Cutter_passComment_43 : decode b_Cutter_passComment 43 = .ok (.aload_n 0, 1) := by decide +kernel
theorem d_Cutter_passComment_44 : decode b_Cutter_passComment 44 = .ok (.dup, 1) := by decide +kernel
theorem d_Cutter_passComment_45 : decode b_Cutter_passComment 45 = .ok (.getfield 29, 3) := by decide +kernel
theorem d_Cutter_passComment_48 : decode b_Cutter_passComment 48 = .ok (.iconst 2, 1) := by decide +kernel
theorem d_Cutter_passComment_49 : decode b_Cutter_passComment 49 = .ok (.iadd, 1) := by decide +kernel
theorem d_Cutter_passComment_50 : decode b_Cutter_passComment 50 = .ok (.putfield 29, 3) := by decide +kernel
theorem d_Cutter_passComment_53 : decode b_Cutter_passComment 53 = .ok (.goto 42, 3) := by decide +kernel
theorem d_Cutter_passComment_56 : decode b_Cutter_passComment 56 = .ok (.aload_n 1, 1) := by decide +kernel
theorem d_Cutter_passComment_57 : decode b_Cutter_passComment 57 = .ok (.aload_n 0, 1) := by decide +kernel
theorem d_Cutter_passComment_58 : decode b_Cutter_passComment 58 = .ok (.getfield 29, 3) := by decide +kernel
theorem d_Cutter_passComment_61 : decode b_Cutter_passComment 61 = .ok (.invokestatic 66, 3) := by decide +kernel
theorem d_Cutter_passComment_64 : decode b_Cutter_passComment 64 = .ok (.ifCond .eq 19, 3) := by decide +kernel
theorem d_Cutter_passComment_67 : decode b_Cutter_passComment 67 = .ok (.iinc 3 (-1), 3) := by decide +kernel
theorem d_Cutter_passComment_70 : decode b_Cutter_passComment 70 = .ok (.aload_n 0, 1) := by decide +kernel
theorem d_Cutter_passComment_71 : decode b_Cutter_passComment 71 = .ok (.dup, 1) := by decide +kernel
theorem d_Cutter_passComment_72 : decode b_Cutter_passComment 72 = .ok (.getfield 29, 3) := by decide +kernel
theorem d_Cutter_passComment_75 : decode b_Cutter_passComment 75 = .ok (.iconst 2, 1) := by decide +kernel
theorem d_Cutter_passComment_76 : decode b_Cutter_passComment 76 = .ok (.iadd, 1) := by decide +kernel
theorem d_Cutter_passComment_77 : decode b_Cutter_passComment 77 = .ok (.putfield 29, 3) := by decide +kernel
theorem d_Cutter_passComment_80 : decode b_Cutter_passComment 80 = .ok (.goto 15, 3) := by decide +kernel
theorem d_Cutter_passComment_83 : decode b_Cutter_passComment 83 = .ok (.aload_n 0, 1) := by decide +kernel
theorem d_Cutter_passComment_84 : decode b_Cutter_passComment 84 = .ok (.aload_n 1, 1) := by decide +kernel
theorem d_Cutter_passComment_85 : decode b_Cutter_passComment 85 = .ok (.aload_n 0, 1) := by decide +kernel
theorem d_Cutter_passComment_86 : decode b_Cutter_passComment 86 = .ok (.getfield 29, 3) := by decide +kernel
theorem d_Cutter_passComment_89 : decode b_Cutter_passComment 89 = .ok (.invokevirtual 44, 3) := by decide +kernel
theorem d_Cutter_passComment_92 : decode b_Cutter_passComment 92 = .ok (.invokevirtual 51, 3) := by decide +kernel
theorem d_Cutter_passComment_95 : decode b_Cutter_passComment 95 = .ok (.iload_n 3, 1) := by decide +kernel
theorem d_Cutter_passComment_96 : decode b_Cutter_passComment 96 = .ok (.ifCond .ne 4, 3) := by decide +kernel
theorem d_Cutter_passComment_99 : decode b_Cutter_passComment 99 = .ok (.return_, 1) := by decide +kernel
theorem d_Cutter_passComment_100 : decode b_Cutter_passComment 100 = .ok (.iinc 4 1, 3) := by decide +kernel
theorem d_Cutter_passComment_103 : decode b_Cutter_passComment 103 = .ok (.goto (-93), 3) := by decide +kernel
theorem d_Cutter_passComment_106 : decode b_Cutter_passComment 106 = .ok (.aload_n 0, 1) := by decide +kernel
theorem d_Cutter_passComment_107 : decode b_Cutter_passComment 107 = .ok (.iload_n 2, 1) := by decide +kernel
theorem d_Cutter_passComment_108 : decode b_Cutter_passComment 108 = .ok (.putfield 18, 3) := by decide +kernel
theorem d_Cutter_passComment_111 : decode b_Cutter_passComment 111 = .ok (.return_, 1) := by decide +kernel
theorem d_Cutter_cutLexeme_0 : decode b_Cutter_cutLexeme 0 = .ok (.aload_n 1, 1) := by decide +kernel
theorem d_Cutter_cutLexeme_1 : decode b_Cutter_cutLexeme 1 = .ok (.aload_n 0, 1) := by decide +kernel
theorem d_Cutter_cutLexeme_2 : decode b_Cutter_cutLexeme 2 = .ok (.getfield 29, 3) := by decide +kernel
theorem d_Cutter_cutLexeme_5 : decode b_Cutter_cutLexeme 5 = .ok (.invokevirtual 44, 3) := by decide +kernel
theorem d_Cutter_cutLexeme_8 : decode b_Cutter_cutLexeme 8 = .ok (.invokestatic 69, 3) := by decide +kernel
theorem d_Cutter_cutLexeme_11 : decode b_Cutter_cutLexeme 11 = .ok (.istore_n 2, 1) := by decide +kernel
theorem d_Cutter_cutLexeme_12 : decode b_Cutter_cutLexeme 12 = .ok (.aload_n 0, 1) := by decide +kernel
theorem d_Cutter_cutLexeme_13 : decode b_Cutter_cutLexeme 13 = .ok (.aload_n 1, 1) := by decide +kernel
theorem d_Cutter_cutLexeme_14 : decode b_Cutter_cutLexeme 14 = .ok (.iload_n 2, 1) := by decide +kernel
theorem d_Cutter_cutLexeme_15 : decode b_Cutter_cutLexeme 15 = .ok (.invokevirtual 73, 3) := by decide +kernel
theorem d_Cutter_cutLexeme_18 : decode b_Cutter_cutLexeme 18 = .ok (.istore_n 3, 1) := by decide +kernel
theorem d_Cutter_cutLexeme_19 : decode b_Cutter_cutLexeme 19 = .ok (.iload_n 2, 1) := by decide +kernel
theorem d_Cutter_cutLexeme_20 : decode b_Cutter_cutLexeme 20 = .ok (.iconst 2, 1) := by decide +kernel
theorem d_Cutter_cutLexeme_21 : decode b_Cutter_cutLexeme 21 = .ok (.if_icmp .ne 24, 3) := by decide +kernel
theorem d_Cutter_cutLexeme_24 : decode b_Cutter_cutLexeme 24 = .ok (.aload_n 0, 1) := by decide +kernel
theorem d_Cutter_cutLexeme_25 : decode b_Cutter_cutLexeme 25 = .ok (.aload_n 1, 1) := by decide +kernel
theorem d_Cutter_cutLexeme_26 : decode b_Cutter_cutLexeme 26 = .ok (.iload_n 3, 1) := by decide +kernel
theorem d_Cutter_cutLexeme_27 : decode b_Cutter_cutLexeme 27 = .ok (.invokevirtual 77, 3) := by decide +kernel
theorem d_Cutter_cutLexeme_30 : decode b_Cutter_cutLexeme 30 = .ok (.ifCond .eq 15, 3) := by decide +kernel
theorem d_Cutter_cutLexeme_33 : decode b_Cutter_cutLexeme 33 = .ok (.aload_n 0, 1) := by decide +kernel
theorem d_Cutter_cutLexeme_34 : decode b_Cutter_cutLexeme 34 = .ok (.aload_n 1, 1) := by decide +kernel
theorem d_Cutter_cutLexeme_35 : decode b_Cutter_cutLexeme 35 = .ok (.iload_n 3, 1) := by decide +kernel
theorem d_Cutter_cutLexeme_36 : decode b_Cutter_cutLexeme 36 = .ok (.invokestatic 80, 3) := by decide +kernel
theorem d_Cutter_cutLexeme_39 : decode b_Cutter_cutLexeme 39 = .ok (.putfield 29, 3) := by decide +kernel
theorem d_Cutter_cutLexeme_42 : decode b_Cutter_cutLexeme 42 = .ok (.goto 65, 3) := by decide +kernel
theorem d_Cutter_cutLexeme_45 : decode b_Cutter_cutLexeme 45 = .ok (.iload_n 2, 1) := by decide +kernel
theorem d_Cutter_cutLexeme_46 : decode b_Cutter_cutLexeme 46 = .ok (.iconst (-1), 1) := by decide +kernel
theorem d_Cutter_cutLexeme_47 : decode b_Cutter_cutLexeme 47 = .ok (.if_icmp .eq 16, 3) := by decide +kernel
theorem d_Cutter_cutLexeme_50 : decode b_Cutter_cutLexeme 50 = .ok (.iload_n 3, 1) := by decide +kernel
theorem d_Cutter_cutLexeme_51 : decode b_Cutter_cutLexeme 51 = .ok (.aload_n 0, 1) := by decide +kernel
theorem d_Cutter_cutLexeme_52 : decode b_Cutter_cutLexeme 52 = .ok (.getfield 29, 3) := by decide +kernel
theorem d_Cutter_cutLexeme_55 : decode b_Cutter_cutLexeme 55 = .ok (.isub, 1) := by decide +kernel
theorem d_Cutter_cutLexeme_56 : decode b_Cutter_cutLexeme 56 = .ok (.iload_n 2, 1) := by decide +kernel
theorem d_Cutter_cutLexeme_57 : decode b_Cutter_cutLexeme 57 = .ok (.invokestatic 83, 3) := by decide +kernel
theorem d_Cutter_cutLexeme_60 : decode b_Cutter_cutLexeme 60 = .ok (.if_icmp .le 14, 3) := by decide +kernel
theorem d_Cutter_cutLexeme_63 : decode b_Cutter_cutLexeme 63 = .ok (.aload_n 0, 1) := by decide +kernel
theorem d_Cutter_cutLexeme_64 : decode b_Cutter_cutLexeme 64 = .ok (.aload_n 0, 1) := by decide +kernel
theorem d_Cutter_cutLexeme_65 : decode b_Cutter_cutLexeme 65 = .ok (.getfield 29, 3) := by decide +kernel
theorem d_Cutter_cutLexeme_68 : decode b_Cutter_cutLexeme 68 = .ok (.putfield 18, 3) := by decide +kernel
theorem d_Cutter_cutLexeme_71 : decode b_Cutter_cutLexeme 71 = .ok (.goto 36, 3) := by decide +kernel
theorem d_Cutter_cutLexeme_74 : decode b_Cutter_cutLexeme 74 = .ok (.aload_n 0, 1) := by decide +kernel
theorem d_Cutter_cutLexeme_75 : decode b_Cutter_cutLexeme 75 = .ok (.getfield 12, 3) := by decide +kernel
theorem d_Cutter_cutLexeme_78 : decode b_Cutter_cutLexeme 78 = .ok (.invokevirtual 87, 3) := by decide +kernel
theorem d_Cutter_cutLexeme_81 : decode b_Cutter_cutLexeme 81 = .ok (.ifCond .eq 19, 3) := by decide +kernel
theorem d_Cutter_cutLexeme_84 : decode b_Cutter_cutLexeme 84 = .ok (.aload_n 0, 1) := by decide +kernel
theorem d_Cutter_cutLexeme_85 : decode b_Cutter_cutLexeme 85 = .ok (.aload_n 0, 1) := by decide +kernel
theorem d_Cutter_cutLexeme_86 : decode b_Cutter_cutLexeme 86 = .ok (.getfield 29, 3) := by decide +kernel
theorem d_Cutter_cutLexeme_89 : decode b_Cutter_cutLexeme 89 = .ok (.putfield 18, 3) := by decide +kernel
theorem d_Cutter_cutLexeme_92 : decode b_Cutter_cutLexeme 92 = .ok (.aload_n 0, 1) := by decide +kernel
theorem d_Cutter_cutLexeme_93 : decode b_Cutter_cutLexeme 93 = .ok (.iconst 1, 1) := by decide +kernel
theorem d_Cutter_cutLexeme_94 : decode b_Cutter_cutLexeme 94 = .ok (.putfield 22, 3) := by decide +kernel
theorem d_Cutter_cutLexeme_97 : decode b_Cutter_cutLexeme 97 = .ok (.goto 10, 3) := by decide +kernel
theorem d_Cutter_cutLexeme_100 : decode b_Cutter_cutLexeme 100 = .ok (.aload_n 0, 1) := by decide +kernel
theorem d_Cutter_cutLexeme_101 : decode b_Cutter_cutLexeme 101 = .ok (.aload_n 1, 1) := by decide +kernel
theorem d_Cutter_cutLexeme_102 : decode b_Cutter_cutLexeme 102 = .ok (.iload_n 2, 1) := by decide +kernel
theorem d_Cutter_cutLexeme_103 : decode b_Cutter_cutLexeme 103 = .ok (.iload_n 3, 1) := by decide +kernel
theorem d_Cutter_cutLexeme_104 : decode b_Cutter_cutLexeme 104 = .ok (.invokevirtual 91, 3) := by decide +kernel
theorem d_Cutter_cutLexeme_107 : decode b_Cutter_cutLexeme 107 = .ok (.return_, 1) := by decide +kernel
theorem d_Cutter_take_0 : decode b_Cutter_take 0 = .ok (.iload_n 2, 1) := by decide +kernel
theorem d_Cutter_take_1 : decode b_Cutter_take 1 = .ok (.iconst 1, 1) := by decide +kernel
theorem d_Cutter_take_2 : decode b_Cutter_take 2 = .ok (.if_icmp .ne 15, 3) := by decide +kernel
theorem d_Cutter_take_5 : decode b_Cutter_take 5 = .ok (.aload_n 1, 1) := by decide +kernel
theorem d_Cutter_take_6 : decode b_Cutter_take 6 = .ok (.aload_n 0, 1) := by decide +kernel
theorem d_Cutter_take_7 : decode b_Cutter_take 7 = .ok (.getfield 29, 3) := by decide +kernel
theorem d_Cutter_take_10 : decode b_Cutter_take 10 = .ok (.iload_n 3, 1) := by decide +kernel
theorem d_Cutter_take_11 : decode b_Cutter_take 11 = .ok (.invokevirtual 95, 3) := by decide +kernel
theorem d_Cutter_take_14 : decode b_Cutter_take 14 = .ok (.goto 12, 3) := by decide +kernel
theorem d_Cutter_take_17 : decode b_Cutter_take 17 = .ok (.aload_n 1, 1) := by decide +kernel
theorem d_Cutter_take_18 : decode b_Cutter_take 18 = .ok (.aload_n 0, 1) := by decide +kernel
theorem d_Cutter_take_19 : decode b_Cutter_take 19 = .ok (.getfield 29, 3) := by decide +kernel
theorem d_Cutter_take_22 : decode b_Cutter_take 22 = .ok (.iload_n 3, 1) := by decide +kernel
theorem d_Cutter_take_23 : decode b_Cutter_take 23 = .ok (.invokevirtual 99, 3) := by decide +kernel
theorem d_Cutter_take_26 : decode b_Cutter_take 26 = .ok (.lstore 4, 2) := by decide +kernel
theorem d_Cutter_take_28 : decode b_Cutter_take 28 = .ok (.aload_n 0, 1) := by decide +kernel
theorem d_Cutter_take_29 : decode b_Cutter_take 29 = .ok (.getfield 12, 3) := by decide +kernel
theorem d_Cutter_take_32 : decode b_Cutter_take 32 = .ok (.iload_n 2, 1) := by decide +kernel
theorem d_Cutter_take_33 : decode b_Cutter_take 33 = .ok (.lload 4, 2) := by decide +kernel
theorem d_Cutter_take_35 : decode b_Cutter_take 35 = .ok (.aload_n 0, 1) := by decide +kernel
theorem d_Cutter_take_36 : decode b_Cutter_take 36 = .ok (.getfield 29, 3) := by decide +kernel
theorem d_Cutter_take_39 : decode b_Cutter_take 39 = .ok (.aload_n 0, 1) := by decide +kernel
theorem d_Cutter_take_40 : decode b_Cutter_take 40 = .ok (.getfield 29, 3) := by decide +kernel
theorem d_Cutter_take_43 : decode b_Cutter_take 43 = .ok (.aload_n 0, 1) := by decide +kernel
theorem d_Cutter_take_44 : decode b_Cutter_take 44 = .ok (.getfield 32, 3) := by decide +kernel
theorem d_Cutter_take_47 : decode b_Cutter_take 47 = .ok (.isub, 1) := by decide +kernel
theorem d_Cutter_take_48 : decode b_Cutter_take 48 = .ok (.iconst 1, 1) := by decide +kernel
theorem d_Cutter_take_49 : decode b_Cutter_take 49 = .ok (.iadd, 1) := by decide +kernel
theorem d_Cutter_take_50 : decode b_Cutter_take 50 = .ok (.aload_n 0, 1) := by decide +kernel
theorem d_Cutter_take_51 : decode b_Cutter_take 51 = .ok (.getfield 35, 3) := by decide +kernel
theorem d_Cutter_take_54 : decode b_Cutter_take 54 = .ok (.invokevirtual 102, 3) := by decide +kernel
theorem d_Cutter_take_57 : decode b_Cutter_take 57 = .ok (.aload_n 0, 1) := by decide +kernel
theorem d_Cutter_take_58 : decode b_Cutter_take 58 = .ok (.iconst 0, 1) := by decide +kernel
theorem d_Cutter_take_59 : decode b_Cutter_take 59 = .ok (.putfield 35, 3) := by decide +kernel
theorem d_Cutter_take_62 : decode b_Cutter_take 62 = .ok (.aload_n 0, 1) := by decide +kernel
theorem d_Cutter_take_63 : decode b_Cutter_take 63 = .ok (.iload_n 3, 1) := by decide +kernel
theorem d_Cutter_take_64 : decode b_Cutter_take 64 = .ok (.putfield 29, 3) := by decide +kernel
theorem d_Cutter_take_67 : decode b_Cutter_take 67 = .ok (.return_, 1) := by decide +kernel
theorem d_Cutter_kindBegunBy_0 : decode b_Cutter_kindBegunBy 0 = .ok (.iload_n 0, 1) := by decide +kernel
theorem d_Cutter_kindBegunBy_1 : decode b_Cutter_kindBegunBy 1 = .ok (.invokestatic 106, 3) := by decide +kernel
theorem d_Cutter_kindBegunBy_4 : decode b_Cutter_kindBegunBy 4 = .ok (.ifCond .eq 5, 3) := by decide +kernel
theorem d_Cutter_kindBegunBy_7 : decode b_Cutter_kindBegunBy 7 = .ok (.iconst 0, 1) := by decide +kernel
theorem d_Cutter_kindBegunBy_8 : decode b_Cutter_kindBegunBy 8 = .ok (.ireturn, 1) := by decide +kernel
theorem d_Cutter_kindBegunBy_9 : decode b_Cutter_kindBegunBy 9 = .ok (.iload_n 0, 1) := by decide +kernel
theorem d_Cutter_kindBegunBy_10 : decode b_Cutter_kindBegunBy 10 = .ok (.invokestatic 109, 3) := by decide +kernel
theorem d_Cutter_kindBegunBy_13 : decode b_Cutter_kindBegunBy 13 = .ok (.ifCond .eq 5, 3) := by decide +kernel
theorem d_Cutter_kindBegunBy_16 : decode b_Cutter_kindBegunBy 16 = .ok (.iconst 1, 1) := by decide +kernel
theorem d_Cutter_kindBegunBy_17 : decode b_Cutter_kindBegunBy 17 = .ok (.ireturn, 1) := by decide +kernel
theorem d_Cutter_kindBegunBy_18 : decode b_Cutter_kindBegunBy 18 = .ok (.iload_n 0, 1) := by decide +kernel
theorem d_Cutter_kindBegunBy_19 : decode b_Cutter_kindBegunBy 19 = .ok (.invokestatic 112, 3) := by decide +kernel
theorem d_Cutter_kindBegunBy_22 : decode b_Cutter_kindBegunBy 22 = .ok (.ifCond .eq 5, 3) := by decide +kernel
theorem d_Cutter_kindBegunBy_25 : decode b_Cutter_kindBegunBy 25 = .ok (.iconst 2, 1) := by decide +kernel
theorem d_Cutter_kindBegunBy_26 : decode b_Cutter_kindBegunBy 26 = .ok (.ireturn, 1) := by decide +kernel
theorem d_Cutter_kindBegunBy_27 : decode b_Cutter_kindBegunBy 27 = .ok (.iload_n 0, 1) := by decide +kernel
theorem d_Cutter_kindBegunBy_28 : decode b_Cutter_kindBegunBy 28 = .ok (.invokestatic 115, 3) := by decide +kernel
theorem d_Cutter_kindBegunBy_31 : decode b_Cutter_kindBegunBy 31 = .ok (.ifCond .eq 7, 3) := by decide +kernel
theorem d_Cutter_kindBegunBy_34 : decode b_Cutter_kindBegunBy 34 = .ok (.iconst 3, 1) := by decide +kernel
theorem d_Cutter_kindBegunBy_35 : decode b_Cutter_kindBegunBy 35 = .ok (.goto 4, 3) := by decide +kernel
theorem d_Cutter_kindBegunBy_38 : decode b_Cutter_kindBegunBy 38 = .ok (.iconst (-1), 1) := by decide +kernel
theorem d_Cutter_kindBegunBy_39 : decode b_Cutter_kindBegunBy 39 = .ok (.ireturn, 1) := by decide +kernel
theorem d_Cutter_longest_0 : decode b_Cutter_longest 0 = .ok (.iload_n 0, 1) := by decide +kernel
theorem d_Cutter_longest_1 : decode b_Cutter_longest 1 = .ok (.iconst 1, 1) := by decide +kernel
theorem d_Cutter_longest_2 : decode b_Cutter_longest 2 = .ok (.if_icmp .ne 8, 3) := by decide +kernel
theorem d_Cutter_longest_5 : decode b_Cutter_longest 5 = .ok (.bipush 9, 2) := by decide +kernel
theorem d_Cutter_longest_7 : decode b_Cutter_longest 7 = .ok (.goto 5, 3) := by decide +kernel
theorem d_Cutter_longest_10 : decode b_Cutter_longest 10 = .ok (.bipush 7, 2) := by decide +kernel
theorem d_Cutter_longest_12 : decode b_Cutter_longest 12 = .ok (.ireturn, 1) := by decide +kernel
theorem d_Cutter_lexemeEnd_0 : decode b_Cutter_lexemeEnd 0 = .ok (.aload_n 0, 1) := by decide +kernel
theorem d_Cutter_lexemeEnd_1 : decode b_Cutter_lexemeEnd 1 = .ok (.getfield 29, 3) := by decide +kernel
theorem d_Cutter_lexemeEnd_4 : decode b_Cutter_lexemeEnd 4 = .ok (.iconst 1, 1) := by decide +kernel
theorem d_Cutter_lexemeEnd_5 : decode b_Cutter_lexemeEnd 5 = .ok (.iadd, 1) := by decide +kernel
theorem d_Cutter_lexemeEnd_6 : decode b_Cutter_lexemeEnd 6 = .ok (.istore_n 3, 1) := by decide +kernel
theorem d_Cutter_lexemeEnd_7 : decode b_Cutter_lexemeEnd 7 = .ok (.iload_n 3, 1) := by decide +kernel
theorem d_Cutter_lexemeEnd_8 : decode b_Cutter_lexemeEnd 8 = .ok (.aload_n 1, 1) := by decide +kernel
theorem d_Cutter_lexemeEnd_9 : decode b_Cutter_lexemeEnd 9 = .ok (.invokevirtual 38, 3) := by decide +kernel
theorem d_Cutter_lexemeEnd_12 : decode b_Cutter_lexemeEnd 12 = .ok (.if_icmp .ge 23, 3) := by decide +kernel
theorem d_Cutter_lexemeEnd_15 : decode b_Cutter_lexemeEnd 15 = .ok (.iload_n 2, 1) := by decide +kernel
theorem d_Cutter_lexemeEnd_16 : decode b_Cutter_lexemeEnd 16 = .ok (.aload_n 1, 1) := by decide +kernel
theorem d_Cutter_lexemeEnd_17 : decode b_Cutter_lexemeEnd 17 = .ok (.iload_n 3, 1) := by decide +kernel
theorem d_Cutter_lexemeEnd_18 : decode b_Cutter_lexemeEnd 18 = .ok (.invokevirtual 44, 3) := by decide +kernel
theorem d_Cutter_lexemeEnd_21 : decode b_Cutter_lexemeEnd 21 = .ok (.invokestatic 118, 3) := by decide +kernel
theorem d_Cutter_lexemeEnd_24 : decode b_Cutter_lexemeEnd 24 = .ok (.ifCond .ne 5, 3) := by decide +kernel
theorem d_Cutter_lexemeEnd_27 : decode b_Cutter_lexemeEnd 27 = .ok (.iload_n 3, 1) := by decide +kernel
theorem d_Cutter_lexemeEnd_28 : decode b_Cutter_lexemeEnd 28 = .ok (.ireturn, 1) := by decide +kernel
theorem d_Cutter_lexemeEnd_29 : decode b_Cutter_lexemeEnd 29 = .ok (.iinc 3 1, 3) := by decide +kernel
theorem d_Cutter_lexemeEnd_32 : decode b_Cutter_lexemeEnd 32 = .ok (.goto (-25), 3) := by decide +kernel
theorem d_Cutter_lexemeEnd_35 : decode b_Cutter_lexemeEnd 35 = .ok (.aload_n 1, 1) := by decide +kernel
theorem d_Cutter_lexemeEnd_36 : decode b_Cutter_lexemeEnd 36 = .ok (.invokevirtual 38, 3) := by decide +kernel
theorem d_Cutter_lexemeEnd_39 : decode b_Cutter_lexemeEnd 39 = .ok (.ireturn, 1) := by decide +kernel
theorem d_Cutter_goesOn_0 : decode b_Cutter_goesOn 0 = .ok (.iload_n 0, 1) := by decide +kernel
theorem d_Cutter_goesOn_1 : decode b_Cutter_goesOn 1 = .ok (.tableswitch 63 0 2 #[27, 53, 58], 27) := by decide +kernel
theorem d_Cutter_goesOn_28 : decode b_Cutter_goesOn 28 = .ok (.iload_n 1, 1) := by decide +kernel
theorem d_Cutter_goesOn_29 : decode b_Cutter_goesOn 29 = .ok (.invokestatic 106, 3) := by decide +kernel
theorem d_Cutter_goesOn_32 : decode b_Cutter_goesOn 32 = .ok (.ifCond .ne 16, 3) := by decide +kernel
theorem d_Cutter_goesOn_35 : decode b_Cutter_goesOn 35 = .ok (.iload_n 1, 1) := by decide +kernel
theorem d_Cutter_goesOn_36 : decode b_Cutter_goesOn 36 = .ok (.invokestatic 109, 3) := by decide +kernel
theorem d_Cutter_goesOn_39 : decode b_Cutter_goesOn 39 = .ok (.ifCond .ne 9, 3) := by decide +kernel
theorem d_Cutter_goesOn_42 : decode b_Cutter_goesOn 42 = .ok (.iload_n 1, 1) := by decide +kernel
theorem d_Cutter_goesOn_43 : decode b_Cutter_goesOn 43 = .ok (.bipush 39, 2) := by decide +kernel
theorem d_Cutter_goesOn_45 : decode b_Cutter_goesOn 45 = .ok (.if_icmp .ne 7, 3) := by decide +kernel
theorem d_Cutter_goesOn_48 : decode b_Cutter_goesOn 48 = .ok (.iconst 1, 1) := by decide +kernel
theorem d_Cutter_goesOn_49 : decode b_Cutter_goesOn 49 = .ok (.goto 4, 3) := by decide +kernel
theorem d_Cutter_goesOn_52 : decode b_Cutter_goesOn 52 = .ok (.iconst 0, 1) := by decide +kernel
theorem d_Cutter_goesOn_53 : decode b_Cutter_goesOn 53 = .ok (.ireturn, 1) := by decide +kernel
theorem d_Cutter_goesOn_54 : decode b_Cutter_goesOn 54 = .ok (.iload_n 1, 1) := by decide +kernel
theorem d_Cutter_goesOn_55 : decode b_Cutter_goesOn 55 = .ok (.invokestatic 109, 3) := by decide +kernel
theorem d_Cutter_goesOn_58 : decode b_Cutter_goesOn 58 = .ok (.ireturn, 1) := by decide +kernel
theorem d_Cutter_goesOn_59 : decode b_Cutter_goesOn 59 = .ok (.iload_n 1, 1) := by decide +kernel
theorem d_Cutter_goesOn_60 : decode b_Cutter_goesOn 60 = .ok (.invokestatic 112, 3) := by decide +kernel
theorem d_Cutter_goesOn_63 : decode b_Cutter_goesOn 63 = .ok (.ireturn, 1) := by decide +kernel
theorem d_Cutter_goesOn_64 : decode b_Cutter_goesOn 64 = .ok (.iconst 0, 1) := by decide +kernel
theorem d_Cutter_goesOn_65 : decode b_Cutter_goesOn 65 = .ok (.ireturn, 1) := by decide +kernel
theorem d_Cutter_isDashes_0 : decode b_Cutter_isDashes 0 = .ok (.aload_n 0, 1) := by decide +kernel
theorem d_Cutter_isDashes_1 : decode b_Cutter_isDashes 1 = .ok (.getfield 29, 3) := by decide +kernel
theorem d_Cutter_isDashes_4 : decode b_Cutter_isDashes 4 = .ok (.istore_n 3, 1) := by decide +kernel
theorem d_Cutter_isDashes_5 : decode b_Cutter_isDashes 5 = .ok (.iload_n 3, 1) := by decide +kernel
theorem d_Cutter_isDashes_6 : decode b_Cutter_isDashes 6 = .ok (.iload_n 2, 1) := by decide +kernel
theorem d_Cutter_isDashes_7 : decode b_Cutter_isDashes 7 = .ok (.if_icmp .ge 21, 3) := by decide +kernel
theorem d_Cutter_isDashes_10 : decode b_Cutter_isDashes 10 = .ok (.aload_n 1, 1) := by decide +kernel
theorem d_Cutter_isDashes_11 : decode b_Cutter_isDashes 11 = .ok (.iload_n 3, 1) := by decide +kernel
theorem d_Cutter_isDashes_12 : decode b_Cutter_isDashes 12 = .ok (.invokevirtual 44, 3) := by decide +kernel
theorem d_Cutter_isDashes_15 : decode b_Cutter_isDashes 15 = .ok (.bipush 45, 2) := by decide +kernel
theorem d_Cutter_isDashes_17 : decode b_Cutter_isDashes 17 = .ok (.if_icmp .eq 5, 3) := by decide +kernel
theorem d_Cutter_isDashes_20 : decode b_Cutter_isDashes 20 = .ok (.iconst 0, 1) := by decide +kernel
theorem d_Cutter_isDashes_21 : decode b_Cutter_isDashes 21 = .ok (.ireturn, 1) := by decide +kernel
theorem d_Cutter_isDashes_22 : decode b_Cutter_isDashes 22 = .ok (.iinc 3 1, 3) := by decide +kernel
theorem d_Cutter_isDashes_25 : decode b_Cutter_isDashes 25 = .ok (.goto (-20), 3) := by decide +kernel
theorem d_Cutter_isDashes_28 : decode b_Cutter_isDashes 28 = .ok (.iload_n 2, 1) := by decide +kernel
theorem d_Cutter_isDashes_29 : decode b_Cutter_isDashes 29 = .ok (.aload_n 0, 1) := by decide +kernel
theorem d_Cutter_isDashes_30 : decode b_Cutter_isDashes 30 = .ok (.getfield 29, 3) := by decide +kernel
theorem d_Cutter_isDashes_33 : decode b_Cutter_isDashes 33 = .ok (.isub, 1) := by decide +kernel
theorem d_Cutter_isDashes_34 : decode b_Cutter_isDashes 34 = .ok (.iconst 2, 1) := by decide +kernel
theorem d_Cutter_isDashes_35 : decode b_Cutter_isDashes 35 = .ok (.if_icmp .lt 7, 3) := by decide +kernel
theorem d_Cutter_isDashes_38 : decode b_Cutter_isDashes 38 = .ok (.iconst 1, 1) := by decide +kernel
theorem d_Cutter_isDashes_39 : decode b_Cutter_isDashes 39 = .ok (.goto 4, 3) := by decide +kernel
theorem d_Cutter_isDashes_42 : decode b_Cutter_isDashes 42 = .ok (.iconst 0, 1) := by decide +kernel
theorem d_Cutter_isDashes_43 : decode b_Cutter_isDashes 43 = .ok (.ireturn, 1) := by decide +kernel
theorem d_Cutter_lineEnd_0 : decode b_Cutter_lineEnd 0 = .ok (.iload_n 1, 1) := by decide +kernel
theorem d_Cutter_lineEnd_1 : decode b_Cutter_lineEnd 1 = .ok (.istore_n 2, 1) := by decide +kernel
theorem d_Cutter_lineEnd_2 : decode b_Cutter_lineEnd 2 = .ok (.iload_n 2, 1) := by decide +kernel
theorem d_Cutter_lineEnd_3 : decode b_Cutter_lineEnd 3 = .ok (.aload_n 0, 1) := by decide +kernel
theorem d_Cutter_lineEnd_4 : decode b_Cutter_lineEnd 4 = .ok (.invokevirtual 38, 3) := by decide +kernel
theorem d_Cutter_lineEnd_7 : decode b_Cutter_lineEnd 7 = .ok (.if_icmp .ge 21, 3) := by decide +kernel
theorem d_Cutter_lineEnd_10 : decode b_Cutter_lineEnd 10 = .ok (.aload_n 0, 1) := by decide +kernel
theorem d_Cutter_lineEnd_11 : decode b_Cutter_lineEnd 11 = .ok (.iload_n 2, 1) := by decide +kernel
theorem d_Cutter_lineEnd_12 : decode b_Cutter_lineEnd 12 = .ok (.invokevirtual 44, 3) := by decide +kernel
theorem d_Cutter_lineEnd_15 : decode b_Cutter_lineEnd 15 = .ok (.bipush 10, 2) := by decide +kernel
theorem d_Cutter_lineEnd_17 : decode b_Cutter_lineEnd 17 = .ok (.if_icmp .ne 5, 3) := by decide +kernel
theorem d_Cutter_lineEnd_20 : decode b_Cutter_lineEnd 20 = .ok (.iload_n 2, 1) := by decide +kernel
theorem d_Cutter_lineEnd_21 : decode b_Cutter_lineEnd 21 = .ok (.ireturn, 1) := by decide +kernel
theorem d_Cutter_lineEnd_22 : decode b_Cutter_lineEnd 22 = .ok (.iinc 2 1, 3) := by decide +kernel
theorem d_Cutter_lineEnd_25 : decode b_Cutter_lineEnd 25 = .ok (.goto (-23), 3) := by decide +kernel
theorem d_Cutter_lineEnd_28 : decode b_Cutter_lineEnd 28 = .ok (.aload_n 0, 1) := by decide +kernel
theorem d_Cutter_lineEnd_29 : decode b_Cutter_lineEnd 29 = .ok (.invokevirtual 38, 3) := by decide +kernel
theorem d_Cutter_lineEnd_32 : decode b_Cutter_lineEnd 32 = .ok (.ireturn, 1) := by decide +kernel
theorem d_Cutter_isLetter_0 : decode b_Cutter_isLetter 0 = .ok (.iload_n 0, 1) := by decide +kernel
theorem d_Cutter_isLetter_1 : decode b_Cutter_isLetter 1 = .ok (.bipush 97, 2) := by decide +kernel
theorem d_Cutter_isLetter_3 : decode b_Cutter_isLetter 3 = .ok (.if_icmp .lt 9, 3) := by decide +kernel
theorem d_Cutter_isLetter_6 : decode b_Cutter_isLetter 6 = .ok (.iload_n 0, 1) := by decide +kernel
theorem d_Cutter_isLetter_7 : decode b_Cutter_isLetter 7 = .ok (.bipush 122, 2) := by decide +kernel
theorem d_Cutter_isLetter_9 : decode b_Cutter_isLetter 9 = .ok (.if_icmp .le 21, 3) := by decide +kernel
theorem d_Cutter_isLetter_12 : decode b_Cutter_isLetter 12 = .ok (.iload_n 0, 1) := by decide +kernel
theorem d_Cutter_isLetter_13 : decode b_Cutter_isLetter 13 = .ok (.bipush 65, 2) := by decide +kernel
theorem d_Cutter_isLetter_15 : decode b_Cutter_isLetter 15 = .ok (.if_icmp .lt 9, 3) := by decide +kernel
theorem d_Cutter_isLetter_18 : decode b_Cutter_isLetter 18 = .ok (.iload_n 0, 1) := by decide +kernel
theorem d_Cutter_isLetter_19 : decode b_Cutter_isLetter 19 = .ok (.bipush 90, 2) := by decide +kernel
