theorem dX2_init_0 : decode cX2_init 0 = .ok (.aload_n 0, 1) := by decide +kernel
theorem dX2_init_1 : decode cX2_init 1 = .ok (.invokespecial 3, 3) := by decide +kernel
theorem dX2_init_4 : decode cX2_init 4 = .ok (.aload_n 0, 1) := by decide +kernel
theorem dX2_init_5 : decode cX2_init 5 = .ok (.sipush 600, 3) := by decide +kernel
theorem dX2_init_8 : decode cX2_init 8 = .ok (.newarray .int, 2) := by decide +kernel
theorem dX2_init_10 : decode cX2_init 10 = .ok (.putfield 9, 3) := by decide +kernel
theorem dX2_init_13 : decode cX2_init 13 = .ok (.aload_n 0, 1) := by decide +kernel
theorem dX2_init_14 : decode cX2_init 14 = .ok (.sipush 600, 3) := by decide +kernel
theorem dX2_init_17 : decode cX2_init 17 = .ok (.newarray .int, 2) := by decide +kernel
theorem dX2_init_19 : decode cX2_init 19 = .ok (.putfield 15, 3) := by decide +kernel
theorem dX2_init_22 : decode cX2_init 22 = .ok (.aload_n 0, 1) := by decide +kernel
theorem dX2_init_23 : decode cX2_init 23 = .ok (.sipush 600, 3) := by decide +kernel
theorem dX2_init_26 : decode cX2_init 26 = .ok (.newarray .boolean, 2) := by decide +kernel
theorem dX2_init_28 : decode cX2_init 28 = .ok (.putfield 18, 3) := by decide +kernel
theorem dX2_init_31 : decode cX2_init 31 = .ok (.aload_n 0, 1) := by decide +kernel
theorem dX2_init_32 : decode cX2_init 32 = .ok (.ldc 22, 2) := by decide +kernel
theorem dX2_init_34 : decode cX2_init 34 = .ok (.newarray .byte, 2) := by decide +kernel
theorem dX2_init_36 : decode cX2_init 36 = .ok (.putfield 23, 3) := by decide +kernel
theorem dX2_init_39 : decode cX2_init 39 = .ok (.return_, 1) := by decide +kernel
theorem dX2_count_0 : decode cX2_count 0 = .ok (.aload_n 0, 1) := by decide +kernel
theorem dX2_count_1 : decode cX2_count 1 = .ok (.getfield 27, 3) := by decide +kernel
theorem dX2_count_4 : decode cX2_count 4 = .ok (.ireturn, 1) := by decide +kernel
theorem dX2_cutTo_0 : decode cX2_cutTo 0 = .ok (.iload_n 1, 1) := by decide +kernel
theorem dX2_cutTo_1 : decode cX2_cutTo 1 = .ok (.ifCond .lt 16, 3) := by decide +kernel
theorem dX2_cutTo_4 : decode cX2_cutTo 4 = .ok (.iload_n 1, 1) := by decide +kernel
theorem dX2_cutTo_5 : decode cX2_cutTo 5 = .ok (.aload_n 0, 1) := by decide +kernel
theorem dX2_cutTo_6 : decode cX2_cutTo 6 = .ok (.getfield 27, 3) := by decide +kernel
theorem dX2_cutTo_9 : decode cX2_cutTo 9 = .ok (.if_icmp .ge 8, 3) := by decide +kernel
theorem dX2_cutTo_12 : decode cX2_cutTo 12 = .ok (.aload_n 0, 1) := by decide +kernel
theorem dX2_cutTo_13 : decode cX2_cutTo 13 = .ok (.iload_n 1, 1) := by decide +kernel
theorem dX2_cutTo_14 : decode cX2_cutTo 14 = .ok (.putfield 27, 3) := by decide +kernel
theorem dX2_cutTo_17 : decode cX2_cutTo 17 = .ok (.return_, 1) := by decide +kernel
theorem dX2_begin_0 : decode cX2_begin 0 = .ok (.aload_n 0, 1) := by decide +kernel
theorem dX2_begin_1 : decode cX2_begin 1 = .ok (.getfield 27, 3) := by decide +kernel
theorem dX2_begin_4 : decode cX2_begin 4 = .ok (.ifCond .lt 53, 3) := by decide +kernel
theorem dX2_begin_7 : decode cX2_begin 7 = .ok (.aload_n 0, 1) := by decide +kernel
theorem dX2_begin_8 : decode cX2_begin 8 = .ok (.getfield 27, 3) := by decide +kernel
theorem dX2_begin_11 : decode cX2_begin 11 = .ok (.sipush 600, 3) := by decide +kernel
theorem dX2_begin_14 : decode cX2_begin 14 = .ok (.if_icmp .ge 43, 3) := by decide +kernel
theorem dX2_begin_17 : decode cX2_begin 17 = .ok (.aload_n 0, 1) := by decide +kernel
theorem dX2_begin_18 : decode cX2_begin 18 = .ok (.getfield 9, 3) := by decide +kernel
theorem dX2_begin_21 : decode cX2_begin 21 = .ok (.aload_n 0, 1) := by decide +kernel
theorem dX2_begin_22 : decode cX2_begin 22 = .ok (.getfield 27, 3) := by decide +kernel
theorem dX2_begin_25 : decode cX2_begin 25 = .ok (.iload_n 1, 1) := by decide +kernel
theorem dX2_begin_26 : decode cX2_begin 26 = .ok (.iastore, 1) := by decide +kernel
theorem dX2_begin_27 : decode cX2_begin 27 = .ok (.aload_n 0, 1) := by decide +kernel
theorem dX2_begin_28 : decode cX2_begin 28 = .ok (.getfield 15, 3) := by decide +kernel
theorem dX2_begin_31 : decode cX2_begin 31 = .ok (.aload_n 0, 1) := by decide +kernel
theorem dX2_begin_32 : decode cX2_begin 32 = .ok (.getfield 27, 3) := by decide +kernel
theorem dX2_begin_35 : decode cX2_begin 35 = .ok (.iconst 0, 1) := by decide +kernel
theorem dX2_begin_36 : decode cX2_begin 36 = .ok (.iastore, 1) := by decide +kernel
theorem dX2_begin_37 : decode cX2_begin 37 = .ok (.aload_n 0, 1) := by decide +kernel
theorem dX2_begin_38 : decode cX2_begin 38 = .ok (.getfield 18, 3) := by decide +kernel
theorem dX2_begin_41 : decode cX2_begin 41 = .ok (.aload_n 0, 1) := by decide +kernel
theorem dX2_begin_42 : decode cX2_begin 42 = .ok (.getfield 27, 3) := by decide +kernel
theorem dX2_begin_45 : decode cX2_begin 45 = .ok (.iconst 0, 1) := by decide +kernel
theorem dX2_begin_46 : decode cX2_begin 46 = .ok (.bastore, 1) := by decide +kernel
theorem dX2_begin_47 : decode cX2_begin 47 = .ok (.aload_n 0, 1) := by decide +kernel
theorem dX2_begin_48 : decode cX2_begin 48 = .ok (.dup, 1) := by decide +kernel
theorem dX2_begin_49 : decode cX2_begin 49 = .ok (.getfield 27, 3) := by decide +kernel
theorem dX2_begin_52 : decode cX2_begin 52 = .ok (.iconst 1, 1) := by decide +kernel
theorem dX2_begin_53 : decode cX2_begin 53 = .ok (.iadd, 1) := by decide +kernel
theorem dX2_begin_54 : decode cX2_begin 54 = .ok (.putfield 27, 3) := by decide +kernel
theorem dX2_begin_57 : decode cX2_begin 57 = .ok (.return_, 1) := by decide +kernel
theorem dX2_push_0 : decode cX2_push 0 = .ok (.aload_n 0, 1) := by decide +kernel
theorem dX2_push_1 : decode cX2_push 1 = .ok (.getfield 27, 3) := by decide +kernel
theorem dX2_push_4 : decode cX2_push 4 = .ok (.iconst 1, 1) := by decide +kernel
theorem dX2_push_5 : decode cX2_push 5 = .ok (.isub, 1) := by decide +kernel
theorem dX2_push_6 : decode cX2_push 6 = .ok (.istore_n 2, 1) := by decide +kernel
theorem dX2_push_7 : decode cX2_push 7 = .ok (.aload_n 0, 1) := by decide +kernel
theorem dX2_push_8 : decode cX2_push 8 = .ok (.iload_n 2, 1) := by decide +kernel
theorem dX2_push_9 : decode cX2_push 9 = .ok (.invokevirtual 31, 3) := by decide +kernel
theorem dX2_push_12 : decode cX2_push 12 = .ok (.ifCond .ne 4, 3) := by decide +kernel
theorem dX2_push_15 : decode cX2_push 15 = .ok (.return_, 1) := by decide +kernel
theorem dX2_push_16 : decode cX2_push 16 = .ok (.aload_n 0, 1) := by decide +kernel
theorem dX2_push_17 : decode cX2_push 17 = .ok (.getfield 15, 3) := by decide +kernel
theorem dX2_push_20 : decode cX2_push 20 = .ok (.iload_n 2, 1) := by decide +kernel
theorem dX2_push_21 : decode cX2_push 21 = .ok (.iaload, 1) := by decide +kernel
theorem dX2_push_22 : decode cX2_push 22 = .ok (.istore_n 3, 1) := by decide +kernel
theorem dX2_push_23 : decode cX2_push 23 = .ok (.iload_n 3, 1) := by decide +kernel
theorem dX2_push_24 : decode cX2_push 24 = .ok (.ifCond .lt 31, 3) := by decide +kernel
theorem dX2_push_27 : decode cX2_push 27 = .ok (.iload_n 3, 1) := by decide +kernel
theorem dX2_push_28 : decode cX2_push 28 = .ok (.bipush 64, 2) := by decide +kernel
theorem dX2_push_30 : decode cX2_push 30 = .ok (.if_icmp .ge 25, 3) := by decide +kernel
theorem dX2_push_33 : decode cX2_push 33 = .ok (.aload_n 0, 1) := by decide +kernel
theorem dX2_push_34 : decode cX2_push 34 = .ok (.getfield 23, 3) := by decide +kernel
theorem dX2_push_37 : decode cX2_push 37 = .ok (.iload_n 2, 1) := by decide +kernel
theorem dX2_push_38 : decode cX2_push 38 = .ok (.bipush 64, 2) := by decide +kernel
theorem dX2_push_40 : decode cX2_push 40 = .ok (.imul, 1) := by decide +kernel
theorem dX2_push_41 : decode cX2_push 41 = .ok (.iload_n 3, 1) := by decide +kernel
theorem dX2_push_42 : decode cX2_push 42 = .ok (.iadd, 1) := by decide +kernel
theorem dX2_push_43 : decode cX2_push 43 = .ok (.iload_n 1, 1) := by decide +kernel
theorem dX2_push_44 : decode cX2_push 44 = .ok (.i2b, 1) := by decide +kernel
theorem dX2_push_45 : decode cX2_push 45 = .ok (.bastore, 1) := by decide +kernel
theorem dX2_push_46 : decode cX2_push 46 = .ok (.aload_n 0, 1) := by decide +kernel
theorem dX2_push_47 : decode cX2_push 47 = .ok (.getfield 15, 3) := by decide +kernel
theorem dX2_push_50 : decode cX2_push 50 = .ok (.iload_n 2, 1) := by decide +kernel
theorem dX2_push_51 : decode cX2_push 51 = .ok (.iload_n 3, 1) := by decide +kernel
theorem dX2_push_52 : decode cX2_push 52 = .ok (.iconst 1, 1) := by decide +kernel
theorem dX2_push_53 : decode cX2_push 53 = .ok (.iadd, 1) := by decide +kernel
theorem dX2_push_54 : decode cX2_push 54 = .ok (.iastore, 1) := by decide +kernel
theorem dX2_push_55 : decode cX2_push 55 = .ok (.return_, 1) := by decide +kernel
theorem dX2_endGroupHere_0 : decode cX2_endGroupHere 0 = .ok (.aload_n 0, 1) := by decide +kernel
theorem dX2_endGroupHere_1 : decode cX2_endGroupHere 1 = .ok (.aload_n 0, 1) := by decide +kernel
theorem dX2_endGroupHere_2 : decode cX2_endGroupHere 2 = .ok (.getfield 27, 3) := by decide +kernel
theorem dX2_endGroupHere_5 : decode cX2_endGroupHere 5 = .ok (.iconst 1, 1) := by decide +kernel
theorem dX2_endGroupHere_6 : decode cX2_endGroupHere 6 = .ok (.isub, 1) := by decide +kernel
theorem dX2_endGroupHere_7 : decode cX2_endGroupHere 7 = .ok (.invokevirtual 31, 3) := by decide +kernel
theorem dX2_endGroupHere_10 : decode cX2_endGroupHere 10 = .ok (.ifCond .eq 15, 3) := by decide +kernel
theorem dX2_endGroupHere_13 : decode cX2_endGroupHere 13 = .ok (.aload_n 0, 1) := by decide +kernel
theorem dX2_endGroupHere_14 : decode cX2_endGroupHere 14 = .ok (.getfield 18, 3) := by decide +kernel
theorem dX2_endGroupHere_17 : decode cX2_endGroupHere 17 = .ok (.aload_n 0, 1) := by decide +kernel
theorem dX2_endGroupHere_18 : decode cX2_endGroupHere 18 = .ok (.getfield 27, 3) := by decide +kernel
theorem dX2_endGroupHere_21 : decode cX2_endGroupHere 21 = .ok (.iconst 1, 1) := by decide +kernel
theorem dX2_endGroupHere_22 : decode cX2_endGroupHere 22 = .ok (.isub, 1) := by decide +kernel
theorem dX2_endGroupHere_23 : decode cX2_endGroupHere 23 = .ok (.iconst 1, 1) := by decide +kernel
theorem dX2_endGroupHere_24 : decode cX2_endGroupHere 24 = .ok (.bastore, 1) := by decide +kernel
theorem dX2_endGroupHere_25 : decode cX2_endGroupHere 25 = .ok (.return_, 1) := by decide +kernel
theorem dX2_has_0 : decode cX2_has 0 = .ok (.iload_n 1, 1) := by decide +kernel
theorem dX2_has_1 : decode cX2_has 1 = .ok (.ifCond .lt 22, 3) := by decide +kernel
theorem dX2_has_4 : decode cX2_has 4 = .ok (.iload_n 1, 1) := by decide +kernel
theorem dX2_has_5 : decode cX2_has 5 = .ok (.aload_n 0, 1) := by decide +kernel
theorem dX2_has_6 : decode cX2_has 6 = .ok (.getfield 27, 3) := by decide +kernel
theorem dX2_has_9 : decode cX2_has 9 = .ok (.if_icmp .ge 14, 3) := by decide +kernel
theorem dX2_has_12 : decode cX2_has 12 = .ok (.iload_n 1, 1) := by decide +kernel
theorem dX2_has_13 : decode cX2_has 13 = .ok (.sipush 600, 3) := by decide +kernel
theorem dX2_has_16 : decode cX2_has 16 = .ok (.if_icmp .ge 7, 3) := by decide +kernel
theorem dX2_has_19 : decode cX2_has 19 = .ok (.iconst 1, 1) := by decide +kernel
theorem dX2_has_20 : decode cX2_has 20 = .ok (.goto 4, 3) := by decide +kernel
theorem dX2_has_23 : decode cX2_has 23 = .ok (.iconst 0, 1) := by decide +kernel
theorem dX2_has_24 : decode cX2_has 24 = .ok (.ireturn, 1) := by decide +kernel
theorem dX2_endsGroup_0 : decode cX2_endsGroup 0 = .ok (.aload_n 0, 1) := by decide +kernel
theorem dX2_endsGroup_1 : decode cX2_endsGroup 1 = .ok (.iload_n 1, 1) := by decide +kernel
theorem dX2_endsGroup_2 : decode cX2_endsGroup 2 = .ok (.invokevirtual 31, 3) := by decide +kernel
theorem dX2_endsGroup_5 : decode cX2_endsGroup 5 = .ok (.ifCond .eq 16, 3) := by decide +kernel
theorem dX2_endsGroup_8 : decode cX2_endsGroup 8 = .ok (.aload_n 0, 1) := by decide +kernel
theorem dX2_endsGroup_9 : decode cX2_endsGroup 9 = .ok (.getfield 18, 3) := by decide +kernel
theorem dX2_endsGroup_12 : decode cX2_endsGroup 12 = .ok (.iload_n 1, 1) := by decide +kernel
theorem dX2_endsGroup_13 : decode cX2_endsGroup 13 = .ok (.baload, 1) := by decide +kernel
theorem dX2_endsGroup_14 : decode cX2_endsGroup 14 = .ok (.ifCond .eq 7, 3) := by decide +kernel
theorem dX2_endsGroup_17 : decode cX2_endsGroup 17 = .ok (.iconst 1, 1) := by decide +kernel
theorem dX2_endsGroup_18 : decode cX2_endsGroup 18 = .ok (.goto 4, 3) := by decide +kernel
theorem dX2_endsGroup_21 : decode cX2_endsGroup 21 = .ok (.iconst 0, 1) := by decide +kernel
theorem dX2_endsGroup_22 : decode cX2_endsGroup 22 = .ok (.ireturn, 1) := by decide +kernel
theorem dX2_secondOf_0 : decode cX2_secondOf 0 = .ok (.aload_n 0, 1) := by decide +kernel
theorem dX2_secondOf_1 : decode cX2_secondOf 1 = .ok (.iload_n 1, 1) := by decide +kernel
theorem dX2_secondOf_2 : decode cX2_secondOf 2 = .ok (.invokevirtual 31, 3) := by decide +kernel
theorem dX2_secondOf_5 : decode cX2_secondOf 5 = .ok (.ifCond .eq 12, 3) := by decide +kernel
theorem dX2_secondOf_8 : decode cX2_secondOf 8 = .ok (.aload_n 0, 1) := by decide +kernel
theorem dX2_secondOf_9 : decode cX2_secondOf 9 = .ok (.getfield 9, 3) := by decide +kernel
theorem dX2_secondOf_12 : decode cX2_secondOf 12 = .ok (.iload_n 1, 1) := by decide +kernel
theorem dX2_secondOf_13 : decode cX2_secondOf 13 = .ok (.iaload, 1) := by decide +kernel
theorem dX2_secondOf_14 : decode cX2_secondOf 14 = .ok (.goto 4, 3) := by decide +kernel
theorem dX2_secondOf_17 : decode cX2_secondOf 17 = .ok (.iconst 0, 1) := by decide +kernel
theorem dX2_secondOf_18 : decode cX2_secondOf 18 = .ok (.ireturn, 1) := by decide +kernel
theorem dX2_lastSecond_0 : decode cX2_lastSecond 0 = .ok (.aload_n 0, 1) := by decide +kernel
theorem dX2_lastSecond_1 : decode cX2_lastSecond 1 = .ok (.aload_n 0, 1) := by decide +kernel
theorem dX2_lastSecond_2 : decode cX2_lastSecond 2 = .ok (.getfield 27, 3) := by decide +kernel
theorem dX2_lastSecond_5 : decode cX2_lastSecond 5 = .ok (.iconst 1, 1) := by decide +kernel
theorem dX2_lastSecond_6 : decode cX2_lastSecond 6 = .ok (.isub, 1) := by decide +kernel
theorem dX2_lastSecond_7 : decode cX2_lastSecond 7 = .ok (.invokevirtual 35, 3) := by decide +kernel
theorem dX2_lastSecond_10 : decode cX2_lastSecond 10 = .ok (.ireturn, 1) := by decide +kernel
theorem dX2_monthOf_0 : decode cX2_monthOf 0 = .ok (.aload_n 0, 1) := by decide +kernel
theorem dX2_monthOf_1 : decode cX2_monthOf 1 = .ok (.iload_n 1, 1) := by decide +kernel
theorem dX2_monthOf_2 : decode cX2_monthOf 2 = .ok (.invokevirtual 35, 3) := by decide +kernel
theorem dX2_monthOf_5 : decode cX2_monthOf 5 = .ok (.ldc 39, 2) := by decide +kernel
theorem dX2_monthOf_7 : decode cX2_monthOf 7 = .ok (.idiv, 1) := by decide +kernel
theorem dX2_monthOf_8 : decode cX2_monthOf 8 = .ok (.ireturn, 1) := by decide +kernel
theorem dX2_lengthOf_0 : decode cX2_lengthOf 0 = .ok (.aload_n 0, 1) := by decide +kernel
theorem dX2_lengthOf_1 : decode cX2_lengthOf 1 = .ok (.iload_n 1, 1) := by decide +kernel
theorem dX2_lengthOf_2 : decode cX2_lengthOf 2 = .ok (.invokevirtual 31, 3) := by decide +kernel
theorem dX2_lengthOf_5 : decode cX2_lengthOf 5 = .ok (.ifCond .eq 12, 3) := by decide +kernel
theorem dX2_lengthOf_8 : decode cX2_lengthOf 8 = .ok (.aload_n 0, 1) := by decide +kernel
theorem dX2_lengthOf_9 : decode cX2_lengthOf 9 = .ok (.getfield 15, 3) := by decide +kernel
theorem dX2_lengthOf_12 : decode cX2_lengthOf 12 = .ok (.iload_n 1, 1) := by decide +kernel
theorem dX2_lengthOf_13 : decode cX2_lengthOf 13 = .ok (.iaload, 1) := by decide +kernel
theorem dX2_lengthOf_14 : decode cX2_lengthOf 14 = .ok (.goto 4, 3) := by decide +kernel
theorem dX2_lengthOf_17 : decode cX2_lengthOf 17 = .ok (.iconst 0, 1) := by decide +kernel
theorem dX2_lengthOf_18 : decode cX2_lengthOf 18 = .ok (.ireturn, 1) := by decide +kernel
theorem dX2_contentAt_0 : decode cX2_contentAt 0 = .ok (.iload_n 2, 1) := by decide +kernel
theorem dX2_contentAt_1 : decode cX2_contentAt 1 = .ok (.ifCond .lt 18, 3) := by decide +kernel
theorem dX2_contentAt_4 : decode cX2_contentAt 4 = .ok (.iload_n 2, 1) := by decide +kernel
theorem dX2_contentAt_5 : decode cX2_contentAt 5 = .ok (.aload_n 0, 1) := by decide +kernel
theorem dX2_contentAt_6 : decode cX2_contentAt 6 = .ok (.iload_n 1, 1) := by decide +kernel
theorem dX2_contentAt_7 : decode cX2_contentAt 7 = .ok (.invokevirtual 40, 3) := by decide +kernel
theorem dX2_contentAt_10 : decode cX2_contentAt 10 = .ok (.if_icmp .ge 9, 3) := by decide +kernel
theorem dX2_contentAt_13 : decode cX2_contentAt 13 = .ok (.iload_n 2, 1) := by decide +kernel
theorem dX2_contentAt_14 : decode cX2_contentAt 14 = .ok (.bipush 64, 2) := by decide +kernel
theorem dX2_contentAt_16 : decode cX2_contentAt 16 = .ok (.if_icmp .lt 5, 3) := by decide +kernel
theorem dX2_contentAt_19 : decode cX2_contentAt 19 = .ok (.iconst (-1), 1) := by decide +kernel
theorem dX2_contentAt_20 : decode cX2_contentAt 20 = .ok (.ireturn, 1) := by decide +kernel
theorem dX2_contentAt_21 : decode cX2_contentAt 21 = .ok (.aload_n 0, 1) := by decide +kernel
theorem dX2_contentAt_22 : decode cX2_contentAt 22 = .ok (.getfield 23, 3) := by decide +kernel
theorem dX2_contentAt_25 : decode cX2_contentAt 25 = .ok (.iload_n 1, 1) := by decide +kernel
theorem dX2_contentAt_26 : decode cX2_contentAt 26 = .ok (.bipush 64, 2) := by decide +kernel
theorem dX2_contentAt_28 : decode cX2_contentAt 28 = .ok (.imul, 1) := by decide +kernel
theorem dX2_contentAt_29 : decode cX2_contentAt 29 = .ok (.iload_n 2, 1) := by decide +kernel
theorem dX2_contentAt_30 : decode cX2_contentAt 30 = .ok (.iadd, 1) := by decide +kernel
theorem dX2_contentAt_31 : decode cX2_contentAt 31 = .ok (.baload, 1) := by decide +kernel
theorem dX2_contentAt_32 : decode cX2_contentAt 32 = .ok (.sipush 255, 3) := by decide +kernel
theorem dX2_contentAt_35 : decode cX2_contentAt 35 = .ok (.iand, 1) := by decide +kernel
theorem dX2_contentAt_36 : decode cX2_contentAt 36 = .ok (.ireturn, 1) := by decide +kernel
theorem dX2_bytesInFile_0 : decode cX2_bytesInFile 0 = .ok (.iconst 0, 1) := by decide +kernel
theorem dX2_bytesInFile_1 : decode cX2_bytesInFile 1 = .ok (.istore_n 3, 1) := by decide +kernel
theorem dX2_bytesInFile_2 : decode cX2_bytesInFile 2 = .ok (.iload_n 1, 1) := by decide +kernel
theorem dX2_bytesInFile_3 : decode cX2_bytesInFile 3 = .ok (.istore 4, 2) := by decide +kernel
theorem dX2_bytesInFile_5 : decode cX2_bytesInFile 5 = .ok (.iload 4, 2) := by decide +kernel
theorem dX2_bytesInFile_7 : decode cX2_bytesInFile 7 = .ok (.iload_n 2, 1) := by decide +kernel
theorem dX2_bytesInFile_8 : decode cX2_bytesInFile 8 = .ok (.if_icmp .ge 37, 3) := by decide +kernel
theorem dX2_bytesInFile_11 : decode cX2_bytesInFile 11 = .ok (.iload_n 3, 1) := by decide +kernel
theorem dX2_bytesInFile_12 : decode cX2_bytesInFile 12 = .ok (.aload_n 0, 1) := by decide +kernel
theorem dX2_bytesInFile_13 : decode cX2_bytesInFile 13 = .ok (.iload 4, 2) := by decide +kernel
theorem dX2_bytesInFile_15 : decode cX2_bytesInFile 15 = .ok (.invokevirtual 40, 3) := by decide +kernel
theorem dX2_bytesInFile_18 : decode cX2_bytesInFile 18 = .ok (.bipush 11, 2) := by decide +kernel
theorem dX2_bytesInFile_20 : decode cX2_bytesInFile 20 = .ok (.iadd, 1) := by decide +kernel
theorem dX2_bytesInFile_21 : decode cX2_bytesInFile 21 = .ok (.aload_n 0, 1) := by decide +kernel
theorem dX2_bytesInFile_22 : decode cX2_bytesInFile 22 = .ok (.iload 4, 2) := by decide +kernel
theorem dX2_bytesInFile_24 : decode cX2_bytesInFile 24 = .ok (.invokevirtual 43, 3) := by decide +kernel
theorem dX2_bytesInFile_27 : decode cX2_bytesInFile 27 = .ok (.ifCond .eq 8, 3) := by decide +kernel
theorem dX2_bytesInFile_30 : decode cX2_bytesInFile 30 = .ok (.bipush 6, 2) := by decide +kernel
theorem dX2_bytesInFile_32 : decode cX2_bytesInFile 32 = .ok (.goto 4, 3) := by decide +kernel
theorem dX2_bytesInFile_35 : decode cX2_bytesInFile 35 = .ok (.iconst 0, 1) := by decide +kernel
theorem dX2_bytesInFile_36 : decode cX2_bytesInFile 36 = .ok (.iadd, 1) := by decide +kernel
theorem dX2_bytesInFile_37 : decode cX2_bytesInFile 37 = .ok (.iadd, 1) := by decide +kernel
theorem dX2_bytesInFile_38 : decode cX2_bytesInFile 38 = .ok (.istore_n 3, 1) := by decide +kernel
theorem dX2_bytesInFile_39 : decode cX2_bytesInFile 39 = .ok (.iinc 4 1, 3) := by decide +kernel
theorem dX2_bytesInFile_42 : decode cX2_bytesInFile 42 = .ok (.goto (-37), 3) := by decide +kernel
theorem dX2_bytesInFile_45 : decode cX2_bytesInFile 45 = .ok (.iload_n 3, 1) := by decide +kernel
theorem dX2_bytesInFile_46 : decode cX2_bytesInFile 46 = .ok (.ireturn, 1) := by decide +kernel
