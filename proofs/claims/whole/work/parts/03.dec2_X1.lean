theorem dX1_init_0 : decode cX1_init 0 = .ok (.aload_n 0, 1) := by decide +kernel
theorem dX1_init_1 : decode cX1_init 1 = .ok (.invokespecial 3, 3) := by decide +kernel
theorem dX1_init_4 : decode cX1_init 4 = .ok (.aload_n 0, 1) := by decide +kernel
theorem dX1_init_5 : decode cX1_init 5 = .ok (.sipush 8192, 3) := by decide +kernel
theorem dX1_init_8 : decode cX1_init 8 = .ok (.newarray .byte, 2) := by decide +kernel
theorem dX1_init_10 : decode cX1_init 10 = .ok (.putfield 9, 3) := by decide +kernel
theorem dX1_init_13 : decode cX1_init 13 = .ok (.return_, 1) := by decide +kernel
theorem dX1_size_0 : decode cX1_size 0 = .ok (.aload_n 0, 1) := by decide +kernel
theorem dX1_size_1 : decode cX1_size 1 = .ok (.getfield 15, 3) := by decide +kernel
theorem dX1_size_4 : decode cX1_size 4 = .ok (.ireturn, 1) := by decide +kernel
theorem dX1_hasRoomFor_0 : decode cX1_hasRoomFor 0 = .ok (.iload_n 1, 1) := by decide +kernel
theorem dX1_hasRoomFor_1 : decode cX1_hasRoomFor 1 = .ok (.aload_n 0, 1) := by decide +kernel
theorem dX1_hasRoomFor_2 : decode cX1_hasRoomFor 2 = .ok (.getfield 9, 3) := by decide +kernel
theorem dX1_hasRoomFor_5 : decode cX1_hasRoomFor 5 = .ok (.arraylength, 1) := by decide +kernel
theorem dX1_hasRoomFor_6 : decode cX1_hasRoomFor 6 = .ok (.aload_n 0, 1) := by decide +kernel
theorem dX1_hasRoomFor_7 : decode cX1_hasRoomFor 7 = .ok (.getfield 15, 3) := by decide +kernel
theorem dX1_hasRoomFor_10 : decode cX1_hasRoomFor 10 = .ok (.isub, 1) := by decide +kernel
theorem dX1_hasRoomFor_11 : decode cX1_hasRoomFor 11 = .ok (.if_icmp .gt 7, 3) := by decide +kernel
theorem dX1_hasRoomFor_14 : decode cX1_hasRoomFor 14 = .ok (.iconst 1, 1) := by decide +kernel
theorem dX1_hasRoomFor_15 : decode cX1_hasRoomFor 15 = .ok (.goto 4, 3) := by decide +kernel
theorem dX1_hasRoomFor_18 : decode cX1_hasRoomFor 18 = .ok (.iconst 0, 1) := by decide +kernel
theorem dX1_hasRoomFor_19 : decode cX1_hasRoomFor 19 = .ok (.ireturn, 1) := by decide +kernel
theorem dX1_get_0 : decode cX1_get 0 = .ok (.iload_n 1, 1) := by decide +kernel
theorem dX1_get_1 : decode cX1_get 1 = .ok (.ifCond .lt 33, 3) := by decide +kernel
theorem dX1_get_4 : decode cX1_get 4 = .ok (.iload_n 1, 1) := by decide +kernel
theorem dX1_get_5 : decode cX1_get 5 = .ok (.aload_n 0, 1) := by decide +kernel
theorem dX1_get_6 : decode cX1_get 6 = .ok (.getfield 15, 3) := by decide +kernel
theorem dX1_get_9 : decode cX1_get 9 = .ok (.if_icmp .ge 25, 3) := by decide +kernel
theorem dX1_get_12 : decode cX1_get 12 = .ok (.iload_n 1, 1) := by decide +kernel
theorem dX1_get_13 : decode cX1_get 13 = .ok (.aload_n 0, 1) := by decide +kernel
theorem dX1_get_14 : decode cX1_get 14 = .ok (.getfield 9, 3) := by decide +kernel
theorem dX1_get_17 : decode cX1_get 17 = .ok (.arraylength, 1) := by decide +kernel
theorem dX1_get_18 : decode cX1_get 18 = .ok (.if_icmp .ge 16, 3) := by decide +kernel
theorem dX1_get_21 : decode cX1_get 21 = .ok (.aload_n 0, 1) := by decide +kernel
theorem dX1_get_22 : decode cX1_get 22 = .ok (.getfield 9, 3) := by decide +kernel
theorem dX1_get_25 : decode cX1_get 25 = .ok (.iload_n 1, 1) := by decide +kernel
theorem dX1_get_26 : decode cX1_get 26 = .ok (.baload, 1) := by decide +kernel
theorem dX1_get_27 : decode cX1_get 27 = .ok (.sipush 255, 3) := by decide +kernel
theorem dX1_get_30 : decode cX1_get 30 = .ok (.iand, 1) := by decide +kernel
theorem dX1_get_31 : decode cX1_get 31 = .ok (.goto 4, 3) := by decide +kernel
theorem dX1_get_34 : decode cX1_get 34 = .ok (.iconst (-1), 1) := by decide +kernel
theorem dX1_get_35 : decode cX1_get 35 = .ok (.ireturn, 1) := by decide +kernel
theorem dX1_add_0 : decode cX1_add 0 = .ok (.aload_n 0, 1) := by decide +kernel
theorem dX1_add_1 : decode cX1_add 1 = .ok (.getfield 15, 3) := by decide +kernel
theorem dX1_add_4 : decode cX1_add 4 = .ok (.ifCond .lt 36, 3) := by decide +kernel
theorem dX1_add_7 : decode cX1_add 7 = .ok (.aload_n 0, 1) := by decide +kernel
theorem dX1_add_8 : decode cX1_add 8 = .ok (.getfield 15, 3) := by decide +kernel
theorem dX1_add_11 : decode cX1_add 11 = .ok (.aload_n 0, 1) := by decide +kernel
theorem dX1_add_12 : decode cX1_add 12 = .ok (.getfield 9, 3) := by decide +kernel
theorem dX1_add_15 : decode cX1_add 15 = .ok (.arraylength, 1) := by decide +kernel
theorem dX1_add_16 : decode cX1_add 16 = .ok (.if_icmp .ge 24, 3) := by decide +kernel
theorem dX1_add_19 : decode cX1_add 19 = .ok (.aload_n 0, 1) := by decide +kernel
theorem dX1_add_20 : decode cX1_add 20 = .ok (.getfield 9, 3) := by decide +kernel
theorem dX1_add_23 : decode cX1_add 23 = .ok (.aload_n 0, 1) := by decide +kernel
theorem dX1_add_24 : decode cX1_add 24 = .ok (.getfield 15, 3) := by decide +kernel
theorem dX1_add_27 : decode cX1_add 27 = .ok (.iload_n 1, 1) := by decide +kernel
theorem dX1_add_28 : decode cX1_add 28 = .ok (.i2b, 1) := by decide +kernel
theorem dX1_add_29 : decode cX1_add 29 = .ok (.bastore, 1) := by decide +kernel
theorem dX1_add_30 : decode cX1_add 30 = .ok (.aload_n 0, 1) := by decide +kernel
theorem dX1_add_31 : decode cX1_add 31 = .ok (.dup, 1) := by decide +kernel
theorem dX1_add_32 : decode cX1_add 32 = .ok (.getfield 15, 3) := by decide +kernel
theorem dX1_add_35 : decode cX1_add 35 = .ok (.iconst 1, 1) := by decide +kernel
theorem dX1_add_36 : decode cX1_add 36 = .ok (.iadd, 1) := by decide +kernel
theorem dX1_add_37 : decode cX1_add 37 = .ok (.putfield 15, 3) := by decide +kernel
theorem dX1_add_40 : decode cX1_add 40 = .ok (.return_, 1) := by decide +kernel
theorem dX1_addNumber_0 : decode cX1_addNumber 0 = .ok (.iload_n 2, 1) := by decide +kernel
theorem dX1_addNumber_1 : decode cX1_addNumber 1 = .ok (.iconst 1, 1) := by decide +kernel
theorem dX1_addNumber_2 : decode cX1_addNumber 2 = .ok (.isub, 1) := by decide +kernel
theorem dX1_addNumber_3 : decode cX1_addNumber 3 = .ok (.istore_n 3, 1) := by decide +kernel
theorem dX1_addNumber_4 : decode cX1_addNumber 4 = .ok (.iload_n 3, 1) := by decide +kernel
theorem dX1_addNumber_5 : decode cX1_addNumber 5 = .ok (.ifCond .lt 19, 3) := by decide +kernel
theorem dX1_addNumber_8 : decode cX1_addNumber 8 = .ok (.aload_n 0, 1) := by decide +kernel
theorem dX1_addNumber_9 : decode cX1_addNumber 9 = .ok (.iload_n 1, 1) := by decide +kernel
theorem dX1_addNumber_10 : decode cX1_addNumber 10 = .ok (.bipush 8, 2) := by decide +kernel
theorem dX1_addNumber_12 : decode cX1_addNumber 12 = .ok (.iload_n 3, 1) := by decide +kernel
theorem dX1_addNumber_13 : decode cX1_addNumber 13 = .ok (.imul, 1) := by decide +kernel
theorem dX1_addNumber_14 : decode cX1_addNumber 14 = .ok (.iushr, 1) := by decide +kernel
theorem dX1_addNumber_15 : decode cX1_addNumber 15 = .ok (.invokevirtual 19, 3) := by decide +kernel
theorem dX1_addNumber_18 : decode cX1_addNumber 18 = .ok (.iinc 3 (-1), 3) := by decide +kernel
theorem dX1_addNumber_21 : decode cX1_addNumber 21 = .ok (.goto (-17), 3) := by decide +kernel
theorem dX1_addNumber_24 : decode cX1_addNumber 24 = .ok (.return_, 1) := by decide +kernel
theorem dX1_number_0 : decode cX1_number 0 = .ok (.iconst 0, 1) := by decide +kernel
theorem dX1_number_1 : decode cX1_number 1 = .ok (.istore_n 3, 1) := by decide +kernel
theorem dX1_number_2 : decode cX1_number 2 = .ok (.iconst 0, 1) := by decide +kernel
theorem dX1_number_3 : decode cX1_number 3 = .ok (.istore 4, 2) := by decide +kernel
theorem dX1_number_5 : decode cX1_number 5 = .ok (.iload 4, 2) := by decide +kernel
theorem dX1_number_7 : decode cX1_number 7 = .ok (.iload_n 2, 1) := by decide +kernel
theorem dX1_number_8 : decode cX1_number 8 = .ok (.if_icmp .ge 27, 3) := by decide +kernel
theorem dX1_number_11 : decode cX1_number 11 = .ok (.iload_n 3, 1) := by decide +kernel
theorem dX1_number_12 : decode cX1_number 12 = .ok (.bipush 8, 2) := by decide +kernel
theorem dX1_number_14 : decode cX1_number 14 = .ok (.ishl, 1) := by decide +kernel
theorem dX1_number_15 : decode cX1_number 15 = .ok (.aload_n 0, 1) := by decide +kernel
theorem dX1_number_16 : decode cX1_number 16 = .ok (.iload_n 1, 1) := by decide +kernel
theorem dX1_number_17 : decode cX1_number 17 = .ok (.iload 4, 2) := by decide +kernel
theorem dX1_number_19 : decode cX1_number 19 = .ok (.iadd, 1) := by decide +kernel
theorem dX1_number_20 : decode cX1_number 20 = .ok (.invokevirtual 23, 3) := by decide +kernel
theorem dX1_number_23 : decode cX1_number 23 = .ok (.sipush 255, 3) := by decide +kernel
theorem dX1_number_26 : decode cX1_number 26 = .ok (.iand, 1) := by decide +kernel
theorem dX1_number_27 : decode cX1_number 27 = .ok (.ior, 1) := by decide +kernel
theorem dX1_number_28 : decode cX1_number 28 = .ok (.istore_n 3, 1) := by decide +kernel
theorem dX1_number_29 : decode cX1_number 29 = .ok (.iinc 4 1, 3) := by decide +kernel
theorem dX1_number_32 : decode cX1_number 32 = .ok (.goto (-27), 3) := by decide +kernel
theorem dX1_number_35 : decode cX1_number 35 = .ok (.iload_n 3, 1) := by decide +kernel
theorem dX1_number_36 : decode cX1_number 36 = .ok (.ireturn, 1) := by decide +kernel
theorem dX1_sumOf_0 : decode cX1_sumOf 0 = .ok (.iload_n 3, 1) := by decide +kernel
theorem dX1_sumOf_1 : decode cX1_sumOf 1 = .ok (.istore 4, 2) := by decide +kernel
theorem dX1_sumOf_3 : decode cX1_sumOf 3 = .ok (.iload_n 1, 1) := by decide +kernel
theorem dX1_sumOf_4 : decode cX1_sumOf 4 = .ok (.istore 5, 2) := by decide +kernel
theorem dX1_sumOf_6 : decode cX1_sumOf 6 = .ok (.iload 5, 2) := by decide +kernel
theorem dX1_sumOf_8 : decode cX1_sumOf 8 = .ok (.iload_n 2, 1) := by decide +kernel
theorem dX1_sumOf_9 : decode cX1_sumOf 9 = .ok (.if_icmp .ge 32, 3) := by decide +kernel
theorem dX1_sumOf_12 : decode cX1_sumOf 12 = .ok (.iload 4, 2) := by decide +kernel
theorem dX1_sumOf_14 : decode cX1_sumOf 14 = .ok (.aload_n 0, 1) := by decide +kernel
theorem dX1_sumOf_15 : decode cX1_sumOf 15 = .ok (.iload 5, 2) := by decide +kernel
theorem dX1_sumOf_17 : decode cX1_sumOf 17 = .ok (.invokevirtual 23, 3) := by decide +kernel
theorem dX1_sumOf_20 : decode cX1_sumOf 20 = .ok (.sipush 255, 3) := by decide +kernel
theorem dX1_sumOf_23 : decode cX1_sumOf 23 = .ok (.iand, 1) := by decide +kernel
theorem dX1_sumOf_24 : decode cX1_sumOf 24 = .ok (.ixor, 1) := by decide +kernel
theorem dX1_sumOf_25 : decode cX1_sumOf 25 = .ok (.bipush 13, 2) := by decide +kernel
theorem dX1_sumOf_27 : decode cX1_sumOf 27 = .ok (.invokestatic 27, 3) := by decide +kernel
theorem dX1_sumOf_30 : decode cX1_sumOf 30 = .ok (.ldc 33, 2) := by decide +kernel
theorem dX1_sumOf_32 : decode cX1_sumOf 32 = .ok (.imul, 1) := by decide +kernel
theorem dX1_sumOf_33 : decode cX1_sumOf 33 = .ok (.istore 4, 2) := by decide +kernel
theorem dX1_sumOf_35 : decode cX1_sumOf 35 = .ok (.iinc 5 1, 3) := by decide +kernel
theorem dX1_sumOf_38 : decode cX1_sumOf 38 = .ok (.goto (-32), 3) := by decide +kernel
theorem dX1_sumOf_41 : decode cX1_sumOf 41 = .ok (.iload 4, 2) := by decide +kernel
theorem dX1_sumOf_43 : decode cX1_sumOf 43 = .ok (.ireturn, 1) := by decide +kernel
theorem dX1_alter_0 : decode cX1_alter 0 = .ok (.iload_n 1, 1) := by decide +kernel
theorem dX1_alter_1 : decode cX1_alter 1 = .ok (.ifCond .lt 35, 3) := by decide +kernel
theorem dX1_alter_4 : decode cX1_alter 4 = .ok (.iload_n 1, 1) := by decide +kernel
theorem dX1_alter_5 : decode cX1_alter 5 = .ok (.aload_n 0, 1) := by decide +kernel
theorem dX1_alter_6 : decode cX1_alter 6 = .ok (.getfield 15, 3) := by decide +kernel
theorem dX1_alter_9 : decode cX1_alter 9 = .ok (.if_icmp .ge 27, 3) := by decide +kernel
theorem dX1_alter_12 : decode cX1_alter 12 = .ok (.iload_n 1, 1) := by decide +kernel
theorem dX1_alter_13 : decode cX1_alter 13 = .ok (.aload_n 0, 1) := by decide +kernel
theorem dX1_alter_14 : decode cX1_alter 14 = .ok (.getfield 9, 3) := by decide +kernel
theorem dX1_alter_17 : decode cX1_alter 17 = .ok (.arraylength, 1) := by decide +kernel
theorem dX1_alter_18 : decode cX1_alter 18 = .ok (.if_icmp .ge 18, 3) := by decide +kernel
theorem dX1_alter_21 : decode cX1_alter 21 = .ok (.aload_n 0, 1) := by decide +kernel
theorem dX1_alter_22 : decode cX1_alter 22 = .ok (.getfield 9, 3) := by decide +kernel
theorem dX1_alter_25 : decode cX1_alter 25 = .ok (.iload_n 1, 1) := by decide +kernel
theorem dX1_alter_26 : decode cX1_alter 26 = .ok (.aload_n 0, 1) := by decide +kernel
theorem dX1_alter_27 : decode cX1_alter 27 = .ok (.getfield 9, 3) := by decide +kernel
theorem dX1_alter_30 : decode cX1_alter 30 = .ok (.iload_n 1, 1) := by decide +kernel
theorem dX1_alter_31 : decode cX1_alter 31 = .ok (.baload, 1) := by decide +kernel
theorem dX1_alter_32 : decode cX1_alter 32 = .ok (.iload_n 2, 1) := by decide +kernel
theorem dX1_alter_33 : decode cX1_alter 33 = .ok (.ixor, 1) := by decide +kernel
theorem dX1_alter_34 : decode cX1_alter 34 = .ok (.i2b, 1) := by decide +kernel
theorem dX1_alter_35 : decode cX1_alter 35 = .ok (.bastore, 1) := by decide +kernel
theorem dX1_alter_36 : decode cX1_alter 36 = .ok (.return_, 1) := by decide +kernel
theorem dX1_cutTo_0 : decode cX1_cutTo 0 = .ok (.iload_n 1, 1) := by decide +kernel
theorem dX1_cutTo_1 : decode cX1_cutTo 1 = .ok (.ifCond .lt 16, 3) := by decide +kernel
theorem dX1_cutTo_4 : decode cX1_cutTo 4 = .ok (.iload_n 1, 1) := by decide +kernel
theorem dX1_cutTo_5 : decode cX1_cutTo 5 = .ok (.aload_n 0, 1) := by decide +kernel
theorem dX1_cutTo_6 : decode cX1_cutTo 6 = .ok (.getfield 15, 3) := by decide +kernel
theorem dX1_cutTo_9 : decode cX1_cutTo 9 = .ok (.if_icmp .ge 8, 3) := by decide +kernel
theorem dX1_cutTo_12 : decode cX1_cutTo 12 = .ok (.aload_n 0, 1) := by decide +kernel
theorem dX1_cutTo_13 : decode cX1_cutTo 13 = .ok (.iload_n 1, 1) := by decide +kernel
theorem dX1_cutTo_14 : decode cX1_cutTo 14 = .ok (.putfield 15, 3) := by decide +kernel
theorem dX1_cutTo_17 : decode cX1_cutTo 17 = .ok (.return_, 1) := by decide +kernel
theorem dX1_dropFirst_0 : decode cX1_dropFirst 0 = .ok (.iload_n 1, 1) := by decide +kernel
theorem dX1_dropFirst_1 : decode cX1_dropFirst 1 = .ok (.ifCond .lt 52, 3) := by decide +kernel
theorem dX1_dropFirst_4 : decode cX1_dropFirst 4 = .ok (.iload_n 1, 1) := by decide +kernel
theorem dX1_dropFirst_5 : decode cX1_dropFirst 5 = .ok (.aload_n 0, 1) := by decide +kernel
theorem dX1_dropFirst_6 : decode cX1_dropFirst 6 = .ok (.getfield 15, 3) := by decide +kernel
theorem dX1_dropFirst_9 : decode cX1_dropFirst 9 = .ok (.if_icmp .gt 44, 3) := by decide +kernel
theorem dX1_dropFirst_12 : decode cX1_dropFirst 12 = .ok (.aload_n 0, 1) := by decide +kernel
theorem dX1_dropFirst_13 : decode cX1_dropFirst 13 = .ok (.getfield 15, 3) := by decide +kernel
theorem dX1_dropFirst_16 : decode cX1_dropFirst 16 = .ok (.aload_n 0, 1) := by decide +kernel
theorem dX1_dropFirst_17 : decode cX1_dropFirst 17 = .ok (.getfield 9, 3) := by decide +kernel
theorem dX1_dropFirst_20 : decode cX1_dropFirst 20 = .ok (.arraylength, 1) := by decide +kernel
theorem dX1_dropFirst_21 : decode cX1_dropFirst 21 = .ok (.if_icmp .gt 32, 3) := by decide +kernel
theorem dX1_dropFirst_24 : decode cX1_dropFirst 24 = .ok (.aload_n 0, 1) := by decide +kernel
theorem dX1_dropFirst_25 : decode cX1_dropFirst 25 = .ok (.getfield 9, 3) := by decide +kernel
theorem dX1_dropFirst_28 : decode cX1_dropFirst 28 = .ok (.iload_n 1, 1) := by decide +kernel
theorem dX1_dropFirst_29 : decode cX1_dropFirst 29 = .ok (.aload_n 0, 1) := by decide +kernel
theorem dX1_dropFirst_30 : decode cX1_dropFirst 30 = .ok (.getfield 9, 3) := by decide +kernel
theorem dX1_dropFirst_33 : decode cX1_dropFirst 33 = .ok (.iconst 0, 1) := by decide +kernel
theorem dX1_dropFirst_34 : decode cX1_dropFirst 34 = .ok (.aload_n 0, 1) := by decide +kernel
theorem dX1_dropFirst_35 : decode cX1_dropFirst 35 = .ok (.getfield 15, 3) := by decide +kernel
theorem dX1_dropFirst_38 : decode cX1_dropFirst 38 = .ok (.iload_n 1, 1) := by decide +kernel
theorem dX1_dropFirst_39 : decode cX1_dropFirst 39 = .ok (.isub, 1) := by decide +kernel
theorem dX1_dropFirst_40 : decode cX1_dropFirst 40 = .ok (.invokestatic 34, 3) := by decide +kernel
theorem dX1_dropFirst_43 : decode cX1_dropFirst 43 = .ok (.aload_n 0, 1) := by decide +kernel
theorem dX1_dropFirst_44 : decode cX1_dropFirst 44 = .ok (.dup, 1) := by decide +kernel
theorem dX1_dropFirst_45 : decode cX1_dropFirst 45 = .ok (.getfield 15, 3) := by decide +kernel
theorem dX1_dropFirst_48 : decode cX1_dropFirst 48 = .ok (.iload_n 1, 1) := by decide +kernel
theorem dX1_dropFirst_49 : decode cX1_dropFirst 49 = .ok (.isub, 1) := by decide +kernel
theorem dX1_dropFirst_50 : decode cX1_dropFirst 50 = .ok (.putfield 15, 3) := by decide +kernel
theorem dX1_dropFirst_53 : decode cX1_dropFirst 53 = .ok (.return_, 1) := by decide +kernel
theorem dX1_agrees_0 : decode cX1_agrees 0 = .ok (.iload_n 2, 1) := by decide +kernel
theorem dX1_agrees_1 : decode cX1_agrees 1 = .ok (.istore 4, 2) := by decide +kernel
theorem dX1_agrees_3 : decode cX1_agrees 3 = .ok (.iload 4, 2) := by decide +kernel
theorem dX1_agrees_5 : decode cX1_agrees 5 = .ok (.iload_n 3, 1) := by decide +kernel
theorem dX1_agrees_6 : decode cX1_agrees 6 = .ok (.if_icmp .ge 26, 3) := by decide +kernel
theorem dX1_agrees_9 : decode cX1_agrees 9 = .ok (.aload_n 0, 1) := by decide +kernel
theorem dX1_agrees_10 : decode cX1_agrees 10 = .ok (.iload 4, 2) := by decide +kernel
theorem dX1_agrees_12 : decode cX1_agrees 12 = .ok (.invokevirtual 23, 3) := by decide +kernel
theorem dX1_agrees_15 : decode cX1_agrees 15 = .ok (.aload_n 1, 1) := by decide +kernel
theorem dX1_agrees_16 : decode cX1_agrees 16 = .ok (.iload 4, 2) := by decide +kernel
theorem dX1_agrees_18 : decode cX1_agrees 18 = .ok (.invokevirtual 23, 3) := by decide +kernel
theorem dX1_agrees_21 : decode cX1_agrees 21 = .ok (.if_icmp .eq 5, 3) := by decide +kernel
theorem dX1_agrees_24 : decode cX1_agrees 24 = .ok (.iconst 0, 1) := by decide +kernel
theorem dX1_agrees_25 : decode cX1_agrees 25 = .ok (.ireturn, 1) := by decide +kernel
theorem dX1_agrees_26 : decode cX1_agrees 26 = .ok (.iinc 4 1, 3) := by decide +kernel
theorem dX1_agrees_29 : decode cX1_agrees 29 = .ok (.goto (-26), 3) := by decide +kernel
theorem dX1_agrees_32 : decode cX1_agrees 32 = .ok (.iconst 1, 1) := by decide +kernel
theorem dX1_agrees_33 : decode cX1_agrees 33 = .ok (.ireturn, 1) := by decide +kernel
theorem dX1_copyFrom_0 : decode cX1_copyFrom 0 = .ok (.iload_n 2, 1) := by decide +kernel
theorem dX1_copyFrom_1 : decode cX1_copyFrom 1 = .ok (.istore 4, 2) := by decide +kernel
theorem dX1_copyFrom_3 : decode cX1_copyFrom 3 = .ok (.iload 4, 2) := by decide +kernel
theorem dX1_copyFrom_5 : decode cX1_copyFrom 5 = .ok (.iload_n 3, 1) := by decide +kernel
theorem dX1_copyFrom_6 : decode cX1_copyFrom 6 = .ok (.if_icmp .ge 69, 3) := by decide +kernel
theorem dX1_copyFrom_9 : decode cX1_copyFrom 9 = .ok (.iload 4, 2) := by decide +kernel
theorem dX1_copyFrom_11 : decode cX1_copyFrom 11 = .ok (.aload_n 0, 1) := by decide +kernel
theorem dX1_copyFrom_12 : decode cX1_copyFrom 12 = .ok (.getfield 15, 3) := by decide +kernel
theorem dX1_copyFrom_15 : decode cX1_copyFrom 15 = .ok (.if_icmp .ne 16, 3) := by decide +kernel
theorem dX1_copyFrom_18 : decode cX1_copyFrom 18 = .ok (.aload_n 0, 1) := by decide +kernel
theorem dX1_copyFrom_19 : decode cX1_copyFrom 19 = .ok (.aload_n 1, 1) := by decide +kernel
theorem dX1_copyFrom_20 : decode cX1_copyFrom 20 = .ok (.iload 4, 2) := by decide +kernel
theorem dX1_copyFrom_22 : decode cX1_copyFrom 22 = .ok (.invokevirtual 23, 3) := by decide +kernel
theorem dX1_copyFrom_25 : decode cX1_copyFrom 25 = .ok (.invokevirtual 19, 3) := by decide +kernel
theorem dX1_copyFrom_28 : decode cX1_copyFrom 28 = .ok (.goto 41, 3) := by decide +kernel
theorem dX1_copyFrom_31 : decode cX1_copyFrom 31 = .ok (.iload 4, 2) := by decide +kernel
theorem dX1_copyFrom_33 : decode cX1_copyFrom 33 = .ok (.ifCond .lt 36, 3) := by decide +kernel
theorem dX1_copyFrom_36 : decode cX1_copyFrom 36 = .ok (.iload 4, 2) := by decide +kernel
theorem dX1_copyFrom_38 : decode cX1_copyFrom 38 = .ok (.aload_n 0, 1) := by decide +kernel
theorem dX1_copyFrom_39 : decode cX1_copyFrom 39 = .ok (.getfield 15, 3) := by decide +kernel
theorem dX1_copyFrom_42 : decode cX1_copyFrom 42 = .ok (.if_icmp .ge 27, 3) := by decide +kernel
theorem dX1_copyFrom_45 : decode cX1_copyFrom 45 = .ok (.iload 4, 2) := by decide +kernel
theorem dX1_copyFrom_47 : decode cX1_copyFrom 47 = .ok (.aload_n 0, 1) := by decide +kernel
theorem dX1_copyFrom_48 : decode cX1_copyFrom 48 = .ok (.getfield 9, 3) := by decide +kernel
theorem dX1_copyFrom_51 : decode cX1_copyFrom 51 = .ok (.arraylength, 1) := by decide +kernel
theorem dX1_copyFrom_52 : decode cX1_copyFrom 52 = .ok (.if_icmp .ge 17, 3) := by decide +kernel
theorem dX1_copyFrom_55 : decode cX1_copyFrom 55 = .ok (.aload_n 0, 1) := by decide +kernel
theorem dX1_copyFrom_56 : decode cX1_copyFrom 56 = .ok (.getfield 9, 3) := by decide +kernel
theorem dX1_copyFrom_59 : decode cX1_copyFrom 59 = .ok (.iload 4, 2) := by decide +kernel
theorem dX1_copyFrom_61 : decode cX1_copyFrom 61 = .ok (.aload_n 1, 1) := by decide +kernel
theorem dX1_copyFrom_62 : decode cX1_copyFrom 62 = .ok (.iload 4, 2) := by decide +kernel
theorem dX1_copyFrom_64 : decode cX1_copyFrom 64 = .ok (.invokevirtual 23, 3) := by decide +kernel
theorem dX1_copyFrom_67 : decode cX1_copyFrom 67 = .ok (.i2b, 1) := by decide +kernel
theorem dX1_copyFrom_68 : decode cX1_copyFrom 68 = .ok (.bastore, 1) := by decide +kernel
theorem dX1_copyFrom_69 : decode cX1_copyFrom 69 = .ok (.iinc 4 1, 3) := by decide +kernel
theorem dX1_copyFrom_72 : decode cX1_copyFrom 72 = .ok (.goto (-69), 3) := by decide +kernel
theorem dX1_copyFrom_75 : decode cX1_copyFrom 75 = .ok (.return_, 1) := by decide +kernel
