theorem dX3_init_0 : decode cX3_init 0 = .ok (.aload_n 0, 1) := by decide +kernel
theorem dX3_init_1 : decode cX3_init 1 = .ok (.invokespecial 3, 3) := by decide +kernel
theorem dX3_init_4 : decode cX3_init 4 = .ok (.aload_n 0, 1) := by decide +kernel
theorem dX3_init_5 : decode cX3_init 5 = .ok (.new 9, 3) := by decide +kernel
theorem dX3_init_8 : decode cX3_init 8 = .ok (.dup, 1) := by decide +kernel
theorem dX3_init_9 : decode cX3_init 9 = .ok (.invokespecial 11, 3) := by decide +kernel
theorem dX3_init_12 : decode cX3_init 12 = .ok (.putfield 12, 3) := by decide +kernel
theorem dX3_init_15 : decode cX3_init 15 = .ok (.aload_n 0, 1) := by decide +kernel
theorem dX3_init_16 : decode cX3_init 16 = .ok (.new 9, 3) := by decide +kernel
theorem dX3_init_19 : decode cX3_init 19 = .ok (.dup, 1) := by decide +kernel
theorem dX3_init_20 : decode cX3_init 20 = .ok (.invokespecial 11, 3) := by decide +kernel
theorem dX3_init_23 : decode cX3_init 23 = .ok (.putfield 16, 3) := by decide +kernel
theorem dX3_init_26 : decode cX3_init 26 = .ok (.aload_n 0, 1) := by decide +kernel
theorem dX3_init_27 : decode cX3_init 27 = .ok (.new 19, 3) := by decide +kernel
theorem dX3_init_30 : decode cX3_init 30 = .ok (.dup, 1) := by decide +kernel
theorem dX3_init_31 : decode cX3_init 31 = .ok (.invokespecial 21, 3) := by decide +kernel
theorem dX3_init_34 : decode cX3_init 34 = .ok (.putfield 22, 3) := by decide +kernel
theorem dX3_init_37 : decode cX3_init 37 = .ok (.aload_n 0, 1) := by decide +kernel
theorem dX3_init_38 : decode cX3_init 38 = .ok (.bipush 64, 2) := by decide +kernel
theorem dX3_init_40 : decode cX3_init 40 = .ok (.newarray .byte, 2) := by decide +kernel
theorem dX3_init_42 : decode cX3_init 42 = .ok (.putfield 26, 3) := by decide +kernel
theorem dX3_init_45 : decode cX3_init 45 = .ok (.aload_n 0, 1) := by decide +kernel
theorem dX3_init_46 : decode cX3_init 46 = .ok (.iconst (-1), 1) := by decide +kernel
theorem dX3_init_47 : decode cX3_init 47 = .ok (.putfield 30, 3) := by decide +kernel
theorem dX3_init_50 : decode cX3_init 50 = .ok (.return_, 1) := by decide +kernel
theorem dX3_feed_0 : decode cX3_feed 0 = .ok (.aload_n 0, 1) := by decide +kernel
theorem dX3_feed_1 : decode cX3_feed 1 = .ok (.getfield 34, 3) := by decide +kernel
theorem dX3_feed_4 : decode cX3_feed 4 = .ok (.ifCond .ne 33, 3) := by decide +kernel
theorem dX3_feed_7 : decode cX3_feed 7 = .ok (.iload_n 1, 1) := by decide +kernel
theorem dX3_feed_8 : decode cX3_feed 8 = .ok (.ifCond .lt 29, 3) := by decide +kernel
theorem dX3_feed_11 : decode cX3_feed 11 = .ok (.iload_n 1, 1) := by decide +kernel
theorem dX3_feed_12 : decode cX3_feed 12 = .ok (.sipush 255, 3) := by decide +kernel
theorem dX3_feed_15 : decode cX3_feed 15 = .ok (.if_icmp .gt 22, 3) := by decide +kernel
theorem dX3_feed_18 : decode cX3_feed 18 = .ok (.aload_n 0, 1) := by decide +kernel
theorem dX3_feed_19 : decode cX3_feed 19 = .ok (.getfield 38, 3) := by decide +kernel
theorem dX3_feed_22 : decode cX3_feed 22 = .ok (.ifCond .lt 15, 3) := by decide +kernel
theorem dX3_feed_25 : decode cX3_feed 25 = .ok (.aload_n 0, 1) := by decide +kernel
theorem dX3_feed_26 : decode cX3_feed 26 = .ok (.getfield 38, 3) := by decide +kernel
theorem dX3_feed_29 : decode cX3_feed 29 = .ok (.aload_n 0, 1) := by decide +kernel
theorem dX3_feed_30 : decode cX3_feed 30 = .ok (.getfield 26, 3) := by decide +kernel
theorem dX3_feed_33 : decode cX3_feed 33 = .ok (.arraylength, 1) := by decide +kernel
theorem dX3_feed_34 : decode cX3_feed 34 = .ok (.if_icmp .lt 5, 3) := by decide +kernel
theorem dX3_feed_37 : decode cX3_feed 37 = .ok (.iconst 0, 1) := by decide +kernel
theorem dX3_feed_38 : decode cX3_feed 38 = .ok (.ireturn, 1) := by decide +kernel
theorem dX3_feed_39 : decode cX3_feed 39 = .ok (.aload_n 0, 1) := by decide +kernel
theorem dX3_feed_40 : decode cX3_feed 40 = .ok (.getfield 26, 3) := by decide +kernel
theorem dX3_feed_43 : decode cX3_feed 43 = .ok (.aload_n 0, 1) := by decide +kernel
theorem dX3_feed_44 : decode cX3_feed 44 = .ok (.getfield 38, 3) := by decide +kernel
theorem dX3_feed_47 : decode cX3_feed 47 = .ok (.iload_n 1, 1) := by decide +kernel
theorem dX3_feed_48 : decode cX3_feed 48 = .ok (.i2b, 1) := by decide +kernel
theorem dX3_feed_49 : decode cX3_feed 49 = .ok (.bastore, 1) := by decide +kernel
theorem dX3_feed_50 : decode cX3_feed 50 = .ok (.aload_n 0, 1) := by decide +kernel
theorem dX3_feed_51 : decode cX3_feed 51 = .ok (.dup, 1) := by decide +kernel
theorem dX3_feed_52 : decode cX3_feed 52 = .ok (.getfield 38, 3) := by decide +kernel
theorem dX3_feed_55 : decode cX3_feed 55 = .ok (.iconst 1, 1) := by decide +kernel
theorem dX3_feed_56 : decode cX3_feed 56 = .ok (.iadd, 1) := by decide +kernel
theorem dX3_feed_57 : decode cX3_feed 57 = .ok (.putfield 38, 3) := by decide +kernel
theorem dX3_feed_60 : decode cX3_feed 60 = .ok (.iconst 1, 1) := by decide +kernel
theorem dX3_feed_61 : decode cX3_feed 61 = .ok (.ireturn, 1) := by decide +kernel
theorem dX3_row_0 : decode cX3_row 0 = .ok (.aload_n 0, 1) := by decide +kernel
theorem dX3_row_1 : decode cX3_row 1 = .ok (.getfield 34, 3) := by decide +kernel
theorem dX3_row_4 : decode cX3_row 4 = .ok (.ifCond .ne 27, 3) := by decide +kernel
theorem dX3_row_7 : decode cX3_row 7 = .ok (.aload_n 0, 1) := by decide +kernel
theorem dX3_row_8 : decode cX3_row 8 = .ok (.getfield 38, 3) := by decide +kernel
theorem dX3_row_11 : decode cX3_row 11 = .ok (.ifCond .eq 20, 3) := by decide +kernel
theorem dX3_row_14 : decode cX3_row 14 = .ok (.iload_n 1, 1) := by decide +kernel
theorem dX3_row_15 : decode cX3_row 15 = .ok (.ldc 41, 2) := by decide +kernel
theorem dX3_row_17 : decode cX3_row 17 = .ok (.if_icmp .gt 14, 3) := by decide +kernel
theorem dX3_row_20 : decode cX3_row 20 = .ok (.iload_n 1, 1) := by decide +kernel
theorem dX3_row_21 : decode cX3_row 21 = .ok (.aload_n 0, 1) := by decide +kernel
theorem dX3_row_22 : decode cX3_row 22 = .ok (.getfield 22, 3) := by decide +kernel
theorem dX3_row_25 : decode cX3_row 25 = .ok (.invokevirtual 42, 3) := by decide +kernel
theorem dX3_row_28 : decode cX3_row 28 = .ok (.if_icmp .ge 5, 3) := by decide +kernel
theorem dX3_row_31 : decode cX3_row 31 = .ok (.iconst (-1), 1) := by decide +kernel
theorem dX3_row_32 : decode cX3_row 32 = .ok (.ireturn, 1) := by decide +kernel
theorem dX3_row_33 : decode cX3_row 33 = .ok (.aload_n 0, 1) := by decide +kernel
theorem dX3_row_34 : decode cX3_row 34 = .ok (.getfield 22, 3) := by decide +kernel
theorem dX3_row_37 : decode cX3_row 37 = .ok (.invokevirtual 46, 3) := by decide +kernel
theorem dX3_row_40 : decode cX3_row 40 = .ok (.aload_n 0, 1) := by decide +kernel
theorem dX3_row_41 : decode cX3_row 41 = .ok (.getfield 49, 3) := by decide +kernel
theorem dX3_row_44 : decode cX3_row 44 = .ok (.isub, 1) := by decide +kernel
theorem dX3_row_45 : decode cX3_row 45 = .ok (.istore_n 2, 1) := by decide +kernel
theorem dX3_row_46 : decode cX3_row 46 = .ok (.iload_n 2, 1) := by decide +kernel
theorem dX3_row_47 : decode cX3_row 47 = .ok (.bipush 16, 2) := by decide +kernel
theorem dX3_row_49 : decode cX3_row 49 = .ok (.if_icmp .ge 16, 3) := by decide +kernel
theorem dX3_row_52 : decode cX3_row 52 = .ok (.aload_n 0, 1) := by decide +kernel
theorem dX3_row_53 : decode cX3_row 53 = .ok (.getfield 22, 3) := by decide +kernel
theorem dX3_row_56 : decode cX3_row 56 = .ok (.invokevirtual 46, 3) := by decide +kernel
theorem dX3_row_59 : decode cX3_row 59 = .ok (.sipush 600, 3) := by decide +kernel
theorem dX3_row_62 : decode cX3_row 62 = .ok (.if_icmp .lt 6, 3) := by decide +kernel
theorem dX3_row_65 : decode cX3_row 65 = .ok (.bipush (-2), 2) := by decide +kernel
theorem dX3_row_67 : decode cX3_row 67 = .ok (.ireturn, 1) := by decide +kernel
theorem dX3_row_68 : decode cX3_row 68 = .ok (.aload_n 0, 1) := by decide +kernel
theorem dX3_row_69 : decode cX3_row 69 = .ok (.getfield 22, 3) := by decide +kernel
theorem dX3_row_72 : decode cX3_row 72 = .ok (.iload_n 1, 1) := by decide +kernel
theorem dX3_row_73 : decode cX3_row 73 = .ok (.invokevirtual 52, 3) := by decide +kernel
theorem dX3_row_76 : decode cX3_row 76 = .ok (.iconst 0, 1) := by decide +kernel
theorem dX3_row_77 : decode cX3_row 77 = .ok (.istore_n 3, 1) := by decide +kernel
theorem dX3_row_78 : decode cX3_row 78 = .ok (.iload_n 3, 1) := by decide +kernel
theorem dX3_row_79 : decode cX3_row 79 = .ok (.aload_n 0, 1) := by decide +kernel
theorem dX3_row_80 : decode cX3_row 80 = .ok (.getfield 38, 3) := by decide +kernel
theorem dX3_row_83 : decode cX3_row 83 = .ok (.if_icmp .ge 31, 3) := by decide +kernel
theorem dX3_row_86 : decode cX3_row 86 = .ok (.iload_n 3, 1) := by decide +kernel
theorem dX3_row_87 : decode cX3_row 87 = .ok (.aload_n 0, 1) := by decide +kernel
theorem dX3_row_88 : decode cX3_row 88 = .ok (.getfield 26, 3) := by decide +kernel
theorem dX3_row_91 : decode cX3_row 91 = .ok (.arraylength, 1) := by decide +kernel
theorem dX3_row_92 : decode cX3_row 92 = .ok (.if_icmp .ge 22, 3) := by decide +kernel
theorem dX3_row_95 : decode cX3_row 95 = .ok (.aload_n 0, 1) := by decide +kernel
theorem dX3_row_96 : decode cX3_row 96 = .ok (.getfield 22, 3) := by decide +kernel
theorem dX3_row_99 : decode cX3_row 99 = .ok (.aload_n 0, 1) := by decide +kernel
theorem dX3_row_100 : decode cX3_row 100 = .ok (.getfield 26, 3) := by decide +kernel
theorem dX3_row_103 : decode cX3_row 103 = .ok (.iload_n 3, 1) := by decide +kernel
theorem dX3_row_104 : decode cX3_row 104 = .ok (.baload, 1) := by decide +kernel
theorem dX3_row_105 : decode cX3_row 105 = .ok (.invokevirtual 56, 3) := by decide +kernel
theorem dX3_row_108 : decode cX3_row 108 = .ok (.iinc 3 1, 3) := by decide +kernel
theorem dX3_row_111 : decode cX3_row 111 = .ok (.goto (-33), 3) := by decide +kernel
theorem dX3_row_114 : decode cX3_row 114 = .ok (.aload_n 0, 1) := by decide +kernel
theorem dX3_row_115 : decode cX3_row 115 = .ok (.iconst 0, 1) := by decide +kernel
theorem dX3_row_116 : decode cX3_row 116 = .ok (.putfield 38, 3) := by decide +kernel
theorem dX3_row_119 : decode cX3_row 119 = .ok (.iload_n 2, 1) := by decide +kernel
theorem dX3_row_120 : decode cX3_row 120 = .ok (.ireturn, 1) := by decide +kernel
theorem dX3_endGroup_0 : decode cX3_endGroup 0 = .ok (.aload_n 0, 1) := by decide +kernel
theorem dX3_endGroup_1 : decode cX3_endGroup 1 = .ok (.getfield 34, 3) := by decide +kernel
theorem dX3_endGroup_4 : decode cX3_endGroup 4 = .ok (.ifCond .ne 17, 3) := by decide +kernel
theorem dX3_endGroup_7 : decode cX3_endGroup 7 = .ok (.aload_n 0, 1) := by decide +kernel
theorem dX3_endGroup_8 : decode cX3_endGroup 8 = .ok (.getfield 22, 3) := by decide +kernel
theorem dX3_endGroup_11 : decode cX3_endGroup 11 = .ok (.invokevirtual 46, 3) := by decide +kernel
theorem dX3_endGroup_14 : decode cX3_endGroup 14 = .ok (.aload_n 0, 1) := by decide +kernel
theorem dX3_endGroup_15 : decode cX3_endGroup 15 = .ok (.getfield 49, 3) := by decide +kernel
theorem dX3_endGroup_18 : decode cX3_endGroup 18 = .ok (.if_icmp .ne 5, 3) := by decide +kernel
theorem dX3_endGroup_21 : decode cX3_endGroup 21 = .ok (.iconst 0, 1) := by decide +kernel
theorem dX3_endGroup_22 : decode cX3_endGroup 22 = .ok (.ireturn, 1) := by decide +kernel
theorem dX3_endGroup_23 : decode cX3_endGroup 23 = .ok (.aload_n 0, 1) := by decide +kernel
theorem dX3_endGroup_24 : decode cX3_endGroup 24 = .ok (.getfield 22, 3) := by decide +kernel
theorem dX3_endGroup_27 : decode cX3_endGroup 27 = .ok (.aload_n 0, 1) := by decide +kernel
theorem dX3_endGroup_28 : decode cX3_endGroup 28 = .ok (.getfield 49, 3) := by decide +kernel
theorem dX3_endGroup_31 : decode cX3_endGroup 31 = .ok (.aload_n 0, 1) := by decide +kernel
theorem dX3_endGroup_32 : decode cX3_endGroup 32 = .ok (.getfield 22, 3) := by decide +kernel
theorem dX3_endGroup_35 : decode cX3_endGroup 35 = .ok (.invokevirtual 46, 3) := by decide +kernel
theorem dX3_endGroup_38 : decode cX3_endGroup 38 = .ok (.invokevirtual 59, 3) := by decide +kernel
theorem dX3_endGroup_41 : decode cX3_endGroup 41 = .ok (.bipush 6, 2) := by decide +kernel
theorem dX3_endGroup_43 : decode cX3_endGroup 43 = .ok (.iadd, 1) := by decide +kernel
theorem dX3_endGroup_44 : decode cX3_endGroup 44 = .ok (.istore_n 1, 1) := by decide +kernel
theorem dX3_endGroup_45 : decode cX3_endGroup 45 = .ok (.aload_n 0, 1) := by decide +kernel
theorem dX3_endGroup_46 : decode cX3_endGroup 46 = .ok (.getfield 12, 3) := by decide +kernel
theorem dX3_endGroup_49 : decode cX3_endGroup 49 = .ok (.iload_n 1, 1) := by decide +kernel
theorem dX3_endGroup_50 : decode cX3_endGroup 50 = .ok (.invokevirtual 63, 3) := by decide +kernel
theorem dX3_endGroup_53 : decode cX3_endGroup 53 = .ok (.ifCond .eq 14, 3) := by decide +kernel
theorem dX3_endGroup_56 : decode cX3_endGroup 56 = .ok (.aload_n 0, 1) := by decide +kernel
theorem dX3_endGroup_57 : decode cX3_endGroup 57 = .ok (.getfield 16, 3) := by decide +kernel
theorem dX3_endGroup_60 : decode cX3_endGroup 60 = .ok (.iload_n 1, 1) := by decide +kernel
theorem dX3_endGroup_61 : decode cX3_endGroup 61 = .ok (.invokevirtual 63, 3) := by decide +kernel
theorem dX3_endGroup_64 : decode cX3_endGroup 64 = .ok (.ifCond .ne 5, 3) := by decide +kernel
theorem dX3_endGroup_67 : decode cX3_endGroup 67 = .ok (.iconst 0, 1) := by decide +kernel
theorem dX3_endGroup_68 : decode cX3_endGroup 68 = .ok (.ireturn, 1) := by decide +kernel
theorem dX3_endGroup_69 : decode cX3_endGroup 69 = .ok (.aload_n 0, 1) := by decide +kernel
theorem dX3_endGroup_70 : decode cX3_endGroup 70 = .ok (.getfield 12, 3) := by decide +kernel
theorem dX3_endGroup_73 : decode cX3_endGroup 73 = .ok (.aload_n 0, 1) := by decide +kernel
theorem dX3_endGroup_74 : decode cX3_endGroup 74 = .ok (.getfield 22, 3) := by decide +kernel
theorem dX3_endGroup_77 : decode cX3_endGroup 77 = .ok (.aload_n 0, 1) := by decide +kernel
theorem dX3_endGroup_78 : decode cX3_endGroup 78 = .ok (.getfield 49, 3) := by decide +kernel
theorem dX3_endGroup_81 : decode cX3_endGroup 81 = .ok (.invokestatic 67, 3) := by decide +kernel
theorem dX3_endGroup_84 : decode cX3_endGroup 84 = .ok (.aload_n 0, 1) := by decide +kernel
theorem dX3_endGroup_85 : decode cX3_endGroup 85 = .ok (.getfield 16, 3) := by decide +kernel
theorem dX3_endGroup_88 : decode cX3_endGroup 88 = .ok (.aload_n 0, 1) := by decide +kernel
theorem dX3_endGroup_89 : decode cX3_endGroup 89 = .ok (.getfield 22, 3) := by decide +kernel
theorem dX3_endGroup_92 : decode cX3_endGroup 92 = .ok (.aload_n 0, 1) := by decide +kernel
theorem dX3_endGroup_93 : decode cX3_endGroup 93 = .ok (.getfield 49, 3) := by decide +kernel
theorem dX3_endGroup_96 : decode cX3_endGroup 96 = .ok (.invokestatic 67, 3) := by decide +kernel
theorem dX3_endGroup_99 : decode cX3_endGroup 99 = .ok (.aload_n 0, 1) := by decide +kernel
theorem dX3_endGroup_100 : decode cX3_endGroup 100 = .ok (.getfield 22, 3) := by decide +kernel
theorem dX3_endGroup_103 : decode cX3_endGroup 103 = .ok (.invokevirtual 73, 3) := by decide +kernel
theorem dX3_endGroup_106 : decode cX3_endGroup 106 = .ok (.aload_n 0, 1) := by decide +kernel
theorem dX3_endGroup_107 : decode cX3_endGroup 107 = .ok (.aload_n 0, 1) := by decide +kernel
theorem dX3_endGroup_108 : decode cX3_endGroup 108 = .ok (.getfield 22, 3) := by decide +kernel
theorem dX3_endGroup_111 : decode cX3_endGroup 111 = .ok (.invokevirtual 46, 3) := by decide +kernel
theorem dX3_endGroup_114 : decode cX3_endGroup 114 = .ok (.putfield 49, 3) := by decide +kernel
theorem dX3_endGroup_117 : decode cX3_endGroup 117 = .ok (.iconst 1, 1) := by decide +kernel
theorem dX3_endGroup_118 : decode cX3_endGroup 118 = .ok (.ireturn, 1) := by decide +kernel
theorem dX3_crash_0 : decode cX3_crash 0 = .ok (.iload_n 1, 1) := by decide +kernel
theorem dX3_crash_1 : decode cX3_crash 1 = .ok (.invokestatic 76, 3) := by decide +kernel
theorem dX3_crash_4 : decode cX3_crash 4 = .ok (.ifCond .eq 19, 3) := by decide +kernel
theorem dX3_crash_7 : decode cX3_crash 7 = .ok (.iload_n 2, 1) := by decide +kernel
theorem dX3_crash_8 : decode cX3_crash 8 = .ok (.ifCond .lt 15, 3) := by decide +kernel
theorem dX3_crash_11 : decode cX3_crash 11 = .ok (.iload_n 2, 1) := by decide +kernel
theorem dX3_crash_12 : decode cX3_crash 12 = .ok (.aload_n 0, 1) := by decide +kernel
theorem dX3_crash_13 : decode cX3_crash 13 = .ok (.iload_n 1, 1) := by decide +kernel
theorem dX3_crash_14 : decode cX3_crash 14 = .ok (.invokevirtual 79, 3) := by decide +kernel
theorem dX3_crash_17 : decode cX3_crash 17 = .ok (.invokevirtual 83, 3) := by decide +kernel
theorem dX3_crash_20 : decode cX3_crash 20 = .ok (.if_icmp .le 5, 3) := by decide +kernel
theorem dX3_crash_23 : decode cX3_crash 23 = .ok (.iconst 0, 1) := by decide +kernel
theorem dX3_crash_24 : decode cX3_crash 24 = .ok (.ireturn, 1) := by decide +kernel
theorem dX3_crash_25 : decode cX3_crash 25 = .ok (.aload_n 0, 1) := by decide +kernel
theorem dX3_crash_26 : decode cX3_crash 26 = .ok (.iload_n 1, 1) := by decide +kernel
theorem dX3_crash_27 : decode cX3_crash 27 = .ok (.invokevirtual 79, 3) := by decide +kernel
theorem dX3_crash_30 : decode cX3_crash 30 = .ok (.iload_n 2, 1) := by decide +kernel
theorem dX3_crash_31 : decode cX3_crash 31 = .ok (.invokevirtual 86, 3) := by decide +kernel
theorem dX3_crash_34 : decode cX3_crash 34 = .ok (.aload_n 0, 1) := by decide +kernel
theorem dX3_crash_35 : decode cX3_crash 35 = .ok (.invokevirtual 89, 3) := by decide +kernel
theorem dX3_crash_38 : decode cX3_crash 38 = .ok (.aload_n 0, 1) := by decide +kernel
theorem dX3_crash_39 : decode cX3_crash 39 = .ok (.iconst 1, 1) := by decide +kernel
theorem dX3_crash_40 : decode cX3_crash 40 = .ok (.putfield 34, 3) := by decide +kernel
theorem dX3_crash_43 : decode cX3_crash 43 = .ok (.iconst 1, 1) := by decide +kernel
theorem dX3_crash_44 : decode cX3_crash 44 = .ok (.ireturn, 1) := by decide +kernel
theorem dX3_reopen_0 : decode cX3_reopen 0 = .ok (.aload_n 0, 1) := by decide +kernel
theorem dX3_reopen_1 : decode cX3_reopen 1 = .ok (.invokevirtual 89, 3) := by decide +kernel
theorem dX3_reopen_4 : decode cX3_reopen 4 = .ok (.aload_n 0, 1) := by decide +kernel
theorem dX3_reopen_5 : decode cX3_reopen 5 = .ok (.iconst 0, 1) := by decide +kernel
theorem dX3_reopen_6 : decode cX3_reopen 6 = .ok (.putfield 34, 3) := by decide +kernel
theorem dX3_reopen_9 : decode cX3_reopen 9 = .ok (.aload_n 0, 1) := by decide +kernel
theorem dX3_reopen_10 : decode cX3_reopen 10 = .ok (.iconst 0, 1) := by decide +kernel
theorem dX3_reopen_11 : decode cX3_reopen 11 = .ok (.putfield 92, 3) := by decide +kernel
theorem dX3_reopen_14 : decode cX3_reopen 14 = .ok (.aload_n 0, 1) := by decide +kernel
theorem dX3_reopen_15 : decode cX3_reopen 15 = .ok (.invokevirtual 95, 3) := by decide +kernel
theorem dX3_reopen_18 : decode cX3_reopen 18 = .ok (.istore_n 1, 1) := by decide +kernel
theorem dX3_reopen_19 : decode cX3_reopen 19 = .ok (.aload_n 0, 1) := by decide +kernel
theorem dX3_reopen_20 : decode cX3_reopen 20 = .ok (.iload_n 1, 1) := by decide +kernel
theorem dX3_reopen_21 : decode cX3_reopen 21 = .ok (.aload_n 0, 1) := by decide +kernel
theorem dX3_reopen_22 : decode cX3_reopen 22 = .ok (.getfield 12, 3) := by decide +kernel
theorem dX3_reopen_25 : decode cX3_reopen 25 = .ok (.invokevirtual 83, 3) := by decide +kernel
theorem dX3_reopen_28 : decode cX3_reopen 28 = .ok (.if_icmp .lt 14, 3) := by decide +kernel
theorem dX3_reopen_31 : decode cX3_reopen 31 = .ok (.iload_n 1, 1) := by decide +kernel
theorem dX3_reopen_32 : decode cX3_reopen 32 = .ok (.aload_n 0, 1) := by decide +kernel
theorem dX3_reopen_33 : decode cX3_reopen 33 = .ok (.getfield 16, 3) := by decide +kernel
theorem dX3_reopen_36 : decode cX3_reopen 36 = .ok (.invokevirtual 83, 3) := by decide +kernel
theorem dX3_reopen_39 : decode cX3_reopen 39 = .ok (.if_icmp .ge 7, 3) := by decide +kernel
theorem dX3_reopen_42 : decode cX3_reopen 42 = .ok (.iload_n 1, 1) := by decide +kernel
theorem dX3_reopen_43 : decode cX3_reopen 43 = .ok (.goto 4, 3) := by decide +kernel
theorem dX3_reopen_46 : decode cX3_reopen 46 = .ok (.iconst (-1), 1) := by decide +kernel
theorem dX3_reopen_47 : decode cX3_reopen 47 = .ok (.putfield 30, 3) := by decide +kernel
theorem dX3_reopen_50 : decode cX3_reopen 50 = .ok (.aload_n 0, 1) := by decide +kernel
theorem dX3_reopen_51 : decode cX3_reopen 51 = .ok (.getfield 12, 3) := by decide +kernel
theorem dX3_reopen_54 : decode cX3_reopen 54 = .ok (.iload_n 1, 1) := by decide +kernel
theorem dX3_reopen_55 : decode cX3_reopen 55 = .ok (.invokevirtual 86, 3) := by decide +kernel
theorem dX3_reopen_58 : decode cX3_reopen 58 = .ok (.aload_n 0, 1) := by decide +kernel
theorem dX3_reopen_59 : decode cX3_reopen 59 = .ok (.getfield 16, 3) := by decide +kernel
theorem dX3_reopen_62 : decode cX3_reopen 62 = .ok (.iload_n 1, 1) := by decide +kernel
theorem dX3_reopen_63 : decode cX3_reopen 63 = .ok (.invokevirtual 86, 3) := by decide +kernel
theorem dX3_reopen_66 : decode cX3_reopen 66 = .ok (.aload_n 0, 1) := by decide +kernel
theorem dX3_reopen_67 : decode cX3_reopen 67 = .ok (.aload_n 0, 1) := by decide +kernel
theorem dX3_reopen_68 : decode cX3_reopen 68 = .ok (.getfield 22, 3) := by decide +kernel
theorem dX3_reopen_71 : decode cX3_reopen 71 = .ok (.invokevirtual 46, 3) := by decide +kernel
theorem dX3_reopen_74 : decode cX3_reopen 74 = .ok (.putfield 49, 3) := by decide +kernel
theorem dX3_reopen_77 : decode cX3_reopen 77 = .ok (.aload_n 0, 1) := by decide +kernel
theorem dX3_reopen_78 : decode cX3_reopen 78 = .ok (.getfield 49, 3) := by decide +kernel
theorem dX3_reopen_81 : decode cX3_reopen 81 = .ok (.ireturn, 1) := by decide +kernel
theorem dX3_byteAt_0 : decode cX3_byteAt 0 = .ok (.iload_n 1, 1) := by decide +kernel
theorem dX3_byteAt_1 : decode cX3_byteAt 1 = .ok (.ifCond .lt 11, 3) := by decide +kernel
theorem dX3_byteAt_4 : decode cX3_byteAt 4 = .ok (.iload_n 1, 1) := by decide +kernel
theorem dX3_byteAt_5 : decode cX3_byteAt 5 = .ok (.aload_n 0, 1) := by decide +kernel
theorem dX3_byteAt_6 : decode cX3_byteAt 6 = .ok (.getfield 49, 3) := by decide +kernel
theorem dX3_byteAt_9 : decode cX3_byteAt 9 = .ok (.if_icmp .lt 13, 3) := by decide +kernel
theorem dX3_byteAt_12 : decode cX3_byteAt 12 = .ok (.new 98, 3) := by decide +kernel
theorem dX3_byteAt_15 : decode cX3_byteAt 15 = .ok (.dup, 1) := by decide +kernel
theorem dX3_byteAt_16 : decode cX3_byteAt 16 = .ok (.ldc 100, 2) := by decide +kernel
theorem dX3_byteAt_18 : decode cX3_byteAt 18 = .ok (.invokespecial 102, 3) := by decide +kernel
theorem dX3_byteAt_21 : decode cX3_byteAt 21 = .ok (.athrow, 1) := by decide +kernel
theorem dX3_byteAt_22 : decode cX3_byteAt 22 = .ok (.aload_n 0, 1) := by decide +kernel
theorem dX3_byteAt_23 : decode cX3_byteAt 23 = .ok (.getfield 22, 3) := by decide +kernel
theorem dX3_byteAt_26 : decode cX3_byteAt 26 = .ok (.iload_n 1, 1) := by decide +kernel
theorem dX3_byteAt_27 : decode cX3_byteAt 27 = .ok (.iload_n 2, 1) := by decide +kernel
theorem dX3_byteAt_28 : decode cX3_byteAt 28 = .ok (.invokevirtual 105, 3) := by decide +kernel
theorem dX3_byteAt_31 : decode cX3_byteAt 31 = .ok (.ireturn, 1) := by decide +kernel
theorem dX3_poke_0 : decode cX3_poke 0 = .ok (.iload_n 1, 1) := by decide +kernel
theorem dX3_poke_1 : decode cX3_poke 1 = .ok (.invokestatic 76, 3) := by decide +kernel
theorem dX3_poke_4 : decode cX3_poke 4 = .ok (.ifCond .eq 31, 3) := by decide +kernel
theorem dX3_poke_7 : decode cX3_poke 7 = .ok (.iload_n 2, 1) := by decide +kernel
theorem dX3_poke_8 : decode cX3_poke 8 = .ok (.ifCond .lt 27, 3) := by decide +kernel
theorem dX3_poke_11 : decode cX3_poke 11 = .ok (.iload_n 2, 1) := by decide +kernel
theorem dX3_poke_12 : decode cX3_poke 12 = .ok (.aload_n 0, 1) := by decide +kernel
theorem dX3_poke_13 : decode cX3_poke 13 = .ok (.iload_n 1, 1) := by decide +kernel
theorem dX3_poke_14 : decode cX3_poke 14 = .ok (.invokevirtual 79, 3) := by decide +kernel
theorem dX3_poke_17 : decode cX3_poke 17 = .ok (.invokevirtual 83, 3) := by decide +kernel
theorem dX3_poke_20 : decode cX3_poke 20 = .ok (.if_icmp .ge 15, 3) := by decide +kernel
theorem dX3_poke_23 : decode cX3_poke 23 = .ok (.iload_n 3, 1) := by decide +kernel
theorem dX3_poke_24 : decode cX3_poke 24 = .ok (.iconst 1, 1) := by decide +kernel
theorem dX3_poke_25 : decode cX3_poke 25 = .ok (.if_icmp .lt 10, 3) := by decide +kernel
theorem dX3_poke_28 : decode cX3_poke 28 = .ok (.iload_n 3, 1) := by decide +kernel
theorem dX3_poke_29 : decode cX3_poke 29 = .ok (.sipush 255, 3) := by decide +kernel
theorem dX3_poke_32 : decode cX3_poke 32 = .ok (.if_icmp .le 5, 3) := by decide +kernel
theorem dX3_poke_35 : decode cX3_poke 35 = .ok (.iconst 0, 1) := by decide +kernel
theorem dX3_poke_36 : decode cX3_poke 36 = .ok (.ireturn, 1) := by decide +kernel
theorem dX3_poke_37 : decode cX3_poke 37 = .ok (.aload_n 0, 1) := by decide +kernel
theorem dX3_poke_38 : decode cX3_poke 38 = .ok (.iload_n 1, 1) := by decide +kernel
theorem dX3_poke_39 : decode cX3_poke 39 = .ok (.invokevirtual 79, 3) := by decide +kernel
theorem dX3_poke_42 : decode cX3_poke 42 = .ok (.iload_n 2, 1) := by decide +kernel
theorem dX3_poke_43 : decode cX3_poke 43 = .ok (.iload_n 3, 1) := by decide +kernel
theorem dX3_poke_44 : decode cX3_poke 44 = .ok (.invokevirtual 108, 3) := by decide +kernel
theorem dX3_poke_47 : decode cX3_poke 47 = .ok (.iconst 1, 1) := by decide +kernel
theorem dX3_poke_48 : decode cX3_poke 48 = .ok (.ireturn, 1) := by decide +kernel
theorem dX3_repaired_0 : decode cX3_repaired 0 = .ok (.aload_n 0, 1) := by decide +kernel
theorem dX3_repaired_1 : decode cX3_repaired 1 = .ok (.getfield 92, 3) := by decide +kernel
theorem dX3_repaired_4 : decode cX3_repaired 4 = .ok (.ireturn, 1) := by decide +kernel
theorem dX3_badAt_0 : decode cX3_badAt 0 = .ok (.aload_n 0, 1) := by decide +kernel
theorem dX3_badAt_1 : decode cX3_badAt 1 = .ok (.getfield 30, 3) := by decide +kernel
theorem dX3_badAt_4 : decode cX3_badAt 4 = .ok (.ireturn, 1) := by decide +kernel
theorem dX3_move_0 : decode cX3_move 0 = .ok (.aload_n 0, 1) := by decide +kernel
theorem dX3_move_1 : decode cX3_move 1 = .ok (.getfield 34, 3) := by decide +kernel
theorem dX3_move_4 : decode cX3_move 4 = .ok (.ifCond .ne 24, 3) := by decide +kernel
theorem dX3_move_7 : decode cX3_move 7 = .ok (.aload_n 0, 1) := by decide +kernel
theorem dX3_move_8 : decode cX3_move 8 = .ok (.getfield 22, 3) := by decide +kernel
theorem dX3_move_11 : decode cX3_move 11 = .ok (.invokevirtual 46, 3) := by decide +kernel
theorem dX3_move_14 : decode cX3_move 14 = .ok (.aload_n 0, 1) := by decide +kernel
theorem dX3_move_15 : decode cX3_move 15 = .ok (.getfield 49, 3) := by decide +kernel
theorem dX3_move_18 : decode cX3_move 18 = .ok (.if_icmp .ne 10, 3) := by decide +kernel
theorem dX3_move_21 : decode cX3_move 21 = .ok (.aload_n 0, 1) := by decide +kernel
theorem dX3_move_22 : decode cX3_move 22 = .ok (.invokevirtual 112, 3) := by decide +kernel
theorem dX3_move_25 : decode cX3_move 25 = .ok (.ifCond .ne 5, 3) := by decide +kernel
theorem dX3_move_28 : decode cX3_move 28 = .ok (.iconst 0, 1) := by decide +kernel
theorem dX3_move_29 : decode cX3_move 29 = .ok (.ireturn, 1) := by decide +kernel
theorem dX3_move_30 : decode cX3_move 30 = .ok (.aload_n 0, 1) := by decide +kernel
theorem dX3_move_31 : decode cX3_move 31 = .ok (.iload_n 1, 1) := by decide +kernel
theorem dX3_move_32 : decode cX3_move 32 = .ok (.invokevirtual 116, 3) := by decide +kernel
theorem dX3_move_35 : decode cX3_move 35 = .ok (.istore_n 2, 1) := by decide +kernel
theorem dX3_move_36 : decode cX3_move 36 = .ok (.iload_n 2, 1) := by decide +kernel
theorem dX3_move_37 : decode cX3_move 37 = .ok (.aload_n 0, 1) := by decide +kernel
theorem dX3_move_38 : decode cX3_move 38 = .ok (.getfield 120, 3) := by decide +kernel
theorem dX3_move_41 : decode cX3_move 41 = .ok (.if_icmp .ne 5, 3) := by decide +kernel
theorem dX3_move_44 : decode cX3_move 44 = .ok (.iconst 0, 1) := by decide +kernel
theorem dX3_move_45 : decode cX3_move 45 = .ok (.ireturn, 1) := by decide +kernel
theorem dX3_move_46 : decode cX3_move 46 = .ok (.aload_n 0, 1) := by decide +kernel
theorem dX3_move_47 : decode cX3_move 47 = .ok (.getfield 22, 3) := by decide +kernel
theorem dX3_move_50 : decode cX3_move 50 = .ok (.aload_n 0, 1) := by decide +kernel
theorem dX3_move_51 : decode cX3_move 51 = .ok (.getfield 120, 3) := by decide +kernel
theorem dX3_move_54 : decode cX3_move 54 = .ok (.iload_n 2, 1) := by decide +kernel
theorem dX3_move_55 : decode cX3_move 55 = .ok (.invokevirtual 59, 3) := by decide +kernel
theorem dX3_move_58 : decode cX3_move 58 = .ok (.istore_n 3, 1) := by decide +kernel
theorem dX3_move_59 : decode cX3_move 59 = .ok (.aload_n 0, 1) := by decide +kernel
theorem dX3_move_60 : decode cX3_move 60 = .ok (.getfield 12, 3) := by decide +kernel
theorem dX3_move_63 : decode cX3_move 63 = .ok (.iload_n 3, 1) := by decide +kernel
theorem dX3_move_64 : decode cX3_move 64 = .ok (.invokevirtual 123, 3) := by decide +kernel
theorem dX3_move_67 : decode cX3_move 67 = .ok (.aload_n 0, 1) := by decide +kernel
theorem dX3_move_68 : decode cX3_move 68 = .ok (.getfield 16, 3) := by decide +kernel
theorem dX3_move_71 : decode cX3_move 71 = .ok (.iload_n 3, 1) := by decide +kernel
theorem dX3_move_72 : decode cX3_move 72 = .ok (.invokevirtual 123, 3) := by decide +kernel
theorem dX3_move_75 : decode cX3_move 75 = .ok (.aload_n 0, 1) := by decide +kernel
theorem dX3_move_76 : decode cX3_move 76 = .ok (.iload_n 2, 1) := by decide +kernel
theorem dX3_move_77 : decode cX3_move 77 = .ok (.putfield 120, 3) := by decide +kernel
theorem dX3_move_80 : decode cX3_move 80 = .ok (.iconst 1, 1) := by decide +kernel
theorem dX3_move_81 : decode cX3_move 81 = .ok (.ireturn, 1) := by decide +kernel
theorem dX3_rows_0 : decode cX3_rows 0 = .ok (.iconst 0, 1) := by decide +kernel
theorem dX3_rows_1 : decode cX3_rows 1 = .ok (.istore_n 2, 1) := by decide +kernel
theorem dX3_rows_2 : decode cX3_rows 2 = .ok (.iconst 0, 1) := by decide +kernel
theorem dX3_rows_3 : decode cX3_rows 3 = .ok (.istore_n 3, 1) := by decide +kernel
theorem dX3_rows_4 : decode cX3_rows 4 = .ok (.iload_n 3, 1) := by decide +kernel
theorem dX3_rows_5 : decode cX3_rows 5 = .ok (.aload_n 0, 1) := by decide +kernel
theorem dX3_rows_6 : decode cX3_rows 6 = .ok (.getfield 49, 3) := by decide +kernel
theorem dX3_rows_9 : decode cX3_rows 9 = .ok (.if_icmp .ge 24, 3) := by decide +kernel
theorem dX3_rows_12 : decode cX3_rows 12 = .ok (.aload_n 0, 1) := by decide +kernel
theorem dX3_rows_13 : decode cX3_rows 13 = .ok (.getfield 22, 3) := by decide +kernel
theorem dX3_rows_16 : decode cX3_rows 16 = .ok (.iload_n 3, 1) := by decide +kernel
theorem dX3_rows_17 : decode cX3_rows 17 = .ok (.invokevirtual 126, 3) := by decide +kernel
theorem dX3_rows_20 : decode cX3_rows 20 = .ok (.iload_n 1, 1) := by decide +kernel
theorem dX3_rows_21 : decode cX3_rows 21 = .ok (.if_icmp .ne 6, 3) := by decide +kernel
theorem dX3_rows_24 : decode cX3_rows 24 = .ok (.iinc 2 1, 3) := by decide +kernel
theorem dX3_rows_27 : decode cX3_rows 27 = .ok (.iinc 3 1, 3) := by decide +kernel
theorem dX3_rows_30 : decode cX3_rows 30 = .ok (.goto (-26), 3) := by decide +kernel
theorem dX3_rows_33 : decode cX3_rows 33 = .ok (.iload_n 2, 1) := by decide +kernel
theorem dX3_rows_34 : decode cX3_rows 34 = .ok (.ireturn, 1) := by decide +kernel
theorem dX3_same_0 : decode cX3_same 0 = .ok (.aload_n 0, 1) := by decide +kernel
theorem dX3_same_1 : decode cX3_same 1 = .ok (.getfield 12, 3) := by decide +kernel
theorem dX3_same_4 : decode cX3_same 4 = .ok (.invokevirtual 83, 3) := by decide +kernel
theorem dX3_same_7 : decode cX3_same 7 = .ok (.aload_n 0, 1) := by decide +kernel
theorem dX3_same_8 : decode cX3_same 8 = .ok (.getfield 16, 3) := by decide +kernel
theorem dX3_same_11 : decode cX3_same 11 = .ok (.invokevirtual 83, 3) := by decide +kernel
theorem dX3_same_14 : decode cX3_same 14 = .ok (.if_icmp .ne 29, 3) := by decide +kernel
theorem dX3_same_17 : decode cX3_same 17 = .ok (.aload_n 0, 1) := by decide +kernel
theorem dX3_same_18 : decode cX3_same 18 = .ok (.getfield 12, 3) := by decide +kernel
theorem dX3_same_21 : decode cX3_same 21 = .ok (.aload_n 0, 1) := by decide +kernel
theorem dX3_same_22 : decode cX3_same 22 = .ok (.getfield 16, 3) := by decide +kernel
theorem dX3_same_25 : decode cX3_same 25 = .ok (.iconst 0, 1) := by decide +kernel
theorem dX3_same_26 : decode cX3_same 26 = .ok (.aload_n 0, 1) := by decide +kernel
theorem dX3_same_27 : decode cX3_same 27 = .ok (.getfield 12, 3) := by decide +kernel
theorem dX3_same_30 : decode cX3_same 30 = .ok (.invokevirtual 83, 3) := by decide +kernel
theorem dX3_same_33 : decode cX3_same 33 = .ok (.invokevirtual 129, 3) := by decide +kernel
theorem dX3_same_36 : decode cX3_same 36 = .ok (.ifCond .eq 7, 3) := by decide +kernel
theorem dX3_same_39 : decode cX3_same 39 = .ok (.iconst 1, 1) := by decide +kernel
theorem dX3_same_40 : decode cX3_same 40 = .ok (.goto 4, 3) := by decide +kernel
theorem dX3_same_43 : decode cX3_same 43 = .ok (.iconst 0, 1) := by decide +kernel
theorem dX3_same_44 : decode cX3_same 44 = .ok (.ireturn, 1) := by decide +kernel
theorem dX3_isFile_0 : decode cX3_isFile 0 = .ok (.iload_n 0, 1) := by decide +kernel
theorem dX3_isFile_1 : decode cX3_isFile 1 = .ok (.ifCond .eq 8, 3) := by decide +kernel
theorem dX3_isFile_4 : decode cX3_isFile 4 = .ok (.iload_n 0, 1) := by decide +kernel
theorem dX3_isFile_5 : decode cX3_isFile 5 = .ok (.iconst 1, 1) := by decide +kernel
theorem dX3_isFile_6 : decode cX3_isFile 6 = .ok (.if_icmp .ne 7, 3) := by decide +kernel
theorem dX3_isFile_9 : decode cX3_isFile 9 = .ok (.iconst 1, 1) := by decide +kernel
theorem dX3_isFile_10 : decode cX3_isFile 10 = .ok (.goto 4, 3) := by decide +kernel
theorem dX3_isFile_13 : decode cX3_isFile 13 = .ok (.iconst 0, 1) := by decide +kernel
theorem dX3_isFile_14 : decode cX3_isFile 14 = .ok (.ireturn, 1) := by decide +kernel
theorem dX3_fileOf_0 : decode cX3_fileOf 0 = .ok (.iload_n 1, 1) := by decide +kernel
theorem dX3_fileOf_1 : decode cX3_fileOf 1 = .ok (.ifCond .ne 10, 3) := by decide +kernel
theorem dX3_fileOf_4 : decode cX3_fileOf 4 = .ok (.aload_n 0, 1) := by decide +kernel
theorem dX3_fileOf_5 : decode cX3_fileOf 5 = .ok (.getfield 12, 3) := by decide +kernel
theorem dX3_fileOf_8 : decode cX3_fileOf 8 = .ok (.goto 7, 3) := by decide +kernel
theorem dX3_fileOf_11 : decode cX3_fileOf 11 = .ok (.aload_n 0, 1) := by decide +kernel
theorem dX3_fileOf_12 : decode cX3_fileOf 12 = .ok (.getfield 16, 3) := by decide +kernel
theorem dX3_fileOf_15 : decode cX3_fileOf 15 = .ok (.areturn, 1) := by decide +kernel
theorem dX3_forgetAllButMoved_0 : decode cX3_forgetAllButMoved 0 = .ok (.aload_n 0, 1) := by decide +kernel
theorem dX3_forgetAllButMoved_1 : decode cX3_forgetAllButMoved 1 = .ok (.getfield 22, 3) := by decide +kernel
theorem dX3_forgetAllButMoved_4 : decode cX3_forgetAllButMoved 4 = .ok (.aload_n 0, 1) := by decide +kernel
theorem dX3_forgetAllButMoved_5 : decode cX3_forgetAllButMoved 5 = .ok (.getfield 120, 3) := by decide +kernel
theorem dX3_forgetAllButMoved_8 : decode cX3_forgetAllButMoved 8 = .ok (.invokevirtual 133, 3) := by decide +kernel
theorem dX3_forgetAllButMoved_11 : decode cX3_forgetAllButMoved 11 = .ok (.aload_n 0, 1) := by decide +kernel
theorem dX3_forgetAllButMoved_12 : decode cX3_forgetAllButMoved 12 = .ok (.aload_n 0, 1) := by decide +kernel
theorem dX3_forgetAllButMoved_13 : decode cX3_forgetAllButMoved 13 = .ok (.getfield 120, 3) := by decide +kernel
theorem dX3_forgetAllButMoved_16 : decode cX3_forgetAllButMoved 16 = .ok (.putfield 49, 3) := by decide +kernel
theorem dX3_forgetAllButMoved_19 : decode cX3_forgetAllButMoved 19 = .ok (.aload_n 0, 1) := by decide +kernel
theorem dX3_forgetAllButMoved_20 : decode cX3_forgetAllButMoved 20 = .ok (.iconst 0, 1) := by decide +kernel
theorem dX3_forgetAllButMoved_21 : decode cX3_forgetAllButMoved 21 = .ok (.putfield 38, 3) := by decide +kernel
theorem dX3_forgetAllButMoved_24 : decode cX3_forgetAllButMoved 24 = .ok (.return_, 1) := by decide +kernel
theorem dX3_takeGoodGroups_0 : decode cX3_takeGoodGroups 0 = .ok (.iconst 0, 1) := by decide +kernel
theorem dX3_takeGoodGroups_1 : decode cX3_takeGoodGroups 1 = .ok (.istore_n 1, 1) := by decide +kernel
theorem dX3_takeGoodGroups_2 : decode cX3_takeGoodGroups 2 = .ok (.iconst 0, 1) := by decide +kernel
theorem dX3_takeGoodGroups_3 : decode cX3_takeGoodGroups 3 = .ok (.istore_n 2, 1) := by decide +kernel
theorem dX3_takeGoodGroups_4 : decode cX3_takeGoodGroups 4 = .ok (.iload_n 2, 1) := by decide +kernel
theorem dX3_takeGoodGroups_5 : decode cX3_takeGoodGroups 5 = .ok (.sipush 600, 3) := by decide +kernel
theorem dX3_takeGoodGroups_8 : decode cX3_takeGoodGroups 8 = .ok (.if_icmp .ge 51, 3) := by decide +kernel
theorem dX3_takeGoodGroups_11 : decode cX3_takeGoodGroups 11 = .ok (.aload_n 0, 1) := by decide +kernel
theorem dX3_takeGoodGroups_12 : decode cX3_takeGoodGroups 12 = .ok (.aload_n 0, 1) := by decide +kernel
theorem dX3_takeGoodGroups_13 : decode cX3_takeGoodGroups 13 = .ok (.getfield 12, 3) := by decide +kernel
theorem dX3_takeGoodGroups_16 : decode cX3_takeGoodGroups 16 = .ok (.aload_n 0, 1) := by decide +kernel
theorem dX3_takeGoodGroups_17 : decode cX3_takeGoodGroups 17 = .ok (.getfield 16, 3) := by decide +kernel
theorem dX3_takeGoodGroups_20 : decode cX3_takeGoodGroups 20 = .ok (.iload_n 1, 1) := by decide +kernel
theorem dX3_takeGoodGroups_21 : decode cX3_takeGoodGroups 21 = .ok (.invokevirtual 134, 3) := by decide +kernel
theorem dX3_takeGoodGroups_24 : decode cX3_takeGoodGroups 24 = .ok (.istore_n 3, 1) := by decide +kernel
theorem dX3_takeGoodGroups_25 : decode cX3_takeGoodGroups 25 = .ok (.iload_n 3, 1) := by decide +kernel
theorem dX3_takeGoodGroups_26 : decode cX3_takeGoodGroups 26 = .ok (.iconst (-1), 1) := by decide +kernel
theorem dX3_takeGoodGroups_27 : decode cX3_takeGoodGroups 27 = .ok (.if_icmp .ne 17, 3) := by decide +kernel
theorem dX3_takeGoodGroups_30 : decode cX3_takeGoodGroups 30 = .ok (.aload_n 0, 1) := by decide +kernel
theorem dX3_takeGoodGroups_31 : decode cX3_takeGoodGroups 31 = .ok (.aload_n 0, 1) := by decide +kernel
theorem dX3_takeGoodGroups_32 : decode cX3_takeGoodGroups 32 = .ok (.getfield 16, 3) := by decide +kernel
theorem dX3_takeGoodGroups_35 : decode cX3_takeGoodGroups 35 = .ok (.aload_n 0, 1) := by decide +kernel
theorem dX3_takeGoodGroups_36 : decode cX3_takeGoodGroups 36 = .ok (.getfield 12, 3) := by decide +kernel
theorem dX3_takeGoodGroups_39 : decode cX3_takeGoodGroups 39 = .ok (.iload_n 1, 1) := by decide +kernel
theorem dX3_takeGoodGroups_40 : decode cX3_takeGoodGroups 40 = .ok (.invokevirtual 134, 3) := by decide +kernel
theorem dX3_takeGoodGroups_43 : decode cX3_takeGoodGroups 43 = .ok (.istore_n 3, 1) := by decide +kernel
theorem dX3_takeGoodGroups_44 : decode cX3_takeGoodGroups 44 = .ok (.iload_n 3, 1) := by decide +kernel
theorem dX3_takeGoodGroups_45 : decode cX3_takeGoodGroups 45 = .ok (.iconst (-1), 1) := by decide +kernel
theorem dX3_takeGoodGroups_46 : decode cX3_takeGoodGroups 46 = .ok (.if_icmp .ne 5, 3) := by decide +kernel
theorem dX3_takeGoodGroups_49 : decode cX3_takeGoodGroups 49 = .ok (.iload_n 1, 1) := by decide +kernel
theorem dX3_takeGoodGroups_50 : decode cX3_takeGoodGroups 50 = .ok (.ireturn, 1) := by decide +kernel
theorem dX3_takeGoodGroups_51 : decode cX3_takeGoodGroups 51 = .ok (.iload_n 3, 1) := by decide +kernel
theorem dX3_takeGoodGroups_52 : decode cX3_takeGoodGroups 52 = .ok (.istore_n 1, 1) := by decide +kernel
theorem dX3_takeGoodGroups_53 : decode cX3_takeGoodGroups 53 = .ok (.iinc 2 1, 3) := by decide +kernel
theorem dX3_takeGoodGroups_56 : decode cX3_takeGoodGroups 56 = .ok (.goto (-52), 3) := by decide +kernel
theorem dX3_takeGoodGroups_59 : decode cX3_takeGoodGroups 59 = .ok (.iload_n 1, 1) := by decide +kernel
theorem dX3_takeGoodGroups_60 : decode cX3_takeGoodGroups 60 = .ok (.ireturn, 1) := by decide +kernel
theorem dX3_takeGroup_0 : decode cX3_takeGroup 0 = .ok (.aload_n 1, 1) := by decide +kernel
theorem dX3_takeGroup_1 : decode cX3_takeGroup 1 = .ok (.iload_n 3, 1) := by decide +kernel
theorem dX3_takeGroup_2 : decode cX3_takeGroup 2 = .ok (.aload_n 0, 1) := by decide +kernel
theorem dX3_takeGroup_3 : decode cX3_takeGroup 3 = .ok (.getfield 22, 3) := by decide +kernel
theorem dX3_takeGroup_6 : decode cX3_takeGroup 6 = .ok (.invokestatic 138, 3) := by decide +kernel
theorem dX3_takeGroup_9 : decode cX3_takeGroup 9 = .ok (.istore 4, 2) := by decide +kernel
theorem dX3_takeGroup_11 : decode cX3_takeGroup 11 = .ok (.iload 4, 2) := by decide +kernel
theorem dX3_takeGroup_13 : decode cX3_takeGroup 13 = .ok (.iconst (-1), 1) := by decide +kernel
theorem dX3_takeGroup_14 : decode cX3_takeGroup 14 = .ok (.if_icmp .ne 5, 3) := by decide +kernel
theorem dX3_takeGroup_17 : decode cX3_takeGroup 17 = .ok (.iconst (-1), 1) := by decide +kernel
theorem dX3_takeGroup_18 : decode cX3_takeGroup 18 = .ok (.ireturn, 1) := by decide +kernel
theorem dX3_takeGroup_19 : decode cX3_takeGroup 19 = .ok (.aload_n 1, 1) := by decide +kernel
theorem dX3_takeGroup_20 : decode cX3_takeGroup 20 = .ok (.iload_n 3, 1) := by decide +kernel
theorem dX3_takeGroup_21 : decode cX3_takeGroup 21 = .ok (.iload 4, 2) := by decide +kernel
theorem dX3_takeGroup_23 : decode cX3_takeGroup 23 = .ok (.aload_n 0, 1) := by decide +kernel
theorem dX3_takeGroup_24 : decode cX3_takeGroup 24 = .ok (.getfield 22, 3) := by decide +kernel
theorem dX3_takeGroup_27 : decode cX3_takeGroup 27 = .ok (.invokestatic 142, 3) := by decide +kernel
theorem dX3_takeGroup_30 : decode cX3_takeGroup 30 = .ok (.aload_n 1, 1) := by decide +kernel
theorem dX3_takeGroup_31 : decode cX3_takeGroup 31 = .ok (.aload_n 2, 1) := by decide +kernel
theorem dX3_takeGroup_32 : decode cX3_takeGroup 32 = .ok (.iload_n 3, 1) := by decide +kernel
theorem dX3_takeGroup_33 : decode cX3_takeGroup 33 = .ok (.iload 4, 2) := by decide +kernel
theorem dX3_takeGroup_35 : decode cX3_takeGroup 35 = .ok (.invokevirtual 129, 3) := by decide +kernel
theorem dX3_takeGroup_38 : decode cX3_takeGroup 38 = .ok (.ifCond .ne 21, 3) := by decide +kernel
theorem dX3_takeGroup_41 : decode cX3_takeGroup 41 = .ok (.aload_n 2, 1) := by decide +kernel
theorem dX3_takeGroup_42 : decode cX3_takeGroup 42 = .ok (.aload_n 1, 1) := by decide +kernel
theorem dX3_takeGroup_43 : decode cX3_takeGroup 43 = .ok (.iload_n 3, 1) := by decide +kernel
theorem dX3_takeGroup_44 : decode cX3_takeGroup 44 = .ok (.iload 4, 2) := by decide +kernel
theorem dX3_takeGroup_46 : decode cX3_takeGroup 46 = .ok (.invokevirtual 146, 3) := by decide +kernel
theorem dX3_takeGroup_49 : decode cX3_takeGroup 49 = .ok (.aload_n 0, 1) := by decide +kernel
theorem dX3_takeGroup_50 : decode cX3_takeGroup 50 = .ok (.dup, 1) := by decide +kernel
theorem dX3_takeGroup_51 : decode cX3_takeGroup 51 = .ok (.getfield 92, 3) := by decide +kernel
theorem dX3_takeGroup_54 : decode cX3_takeGroup 54 = .ok (.iconst 1, 1) := by decide +kernel
theorem dX3_takeGroup_55 : decode cX3_takeGroup 55 = .ok (.iadd, 1) := by decide +kernel
theorem dX3_takeGroup_56 : decode cX3_takeGroup 56 = .ok (.putfield 92, 3) := by decide +kernel
theorem dX3_takeGroup_59 : decode cX3_takeGroup 59 = .ok (.iload 4, 2) := by decide +kernel
theorem dX3_takeGroup_61 : decode cX3_takeGroup 61 = .ok (.ireturn, 1) := by decide +kernel
theorem dX3_endOfGroupsUpTo_0 : decode cX3_endOfGroupsUpTo 0 = .ok (.aload_n 0, 1) := by decide +kernel
theorem dX3_endOfGroupsUpTo_1 : decode cX3_endOfGroupsUpTo 1 = .ok (.getfield 120, 3) := by decide +kernel
theorem dX3_endOfGroupsUpTo_4 : decode cX3_endOfGroupsUpTo 4 = .ok (.istore_n 2, 1) := by decide +kernel
theorem dX3_endOfGroupsUpTo_5 : decode cX3_endOfGroupsUpTo 5 = .ok (.aload_n 0, 1) := by decide +kernel
theorem dX3_endOfGroupsUpTo_6 : decode cX3_endOfGroupsUpTo 6 = .ok (.getfield 120, 3) := by decide +kernel
theorem dX3_endOfGroupsUpTo_9 : decode cX3_endOfGroupsUpTo 9 = .ok (.istore_n 3, 1) := by decide +kernel
theorem dX3_endOfGroupsUpTo_10 : decode cX3_endOfGroupsUpTo 10 = .ok (.iload_n 3, 1) := by decide +kernel
theorem dX3_endOfGroupsUpTo_11 : decode cX3_endOfGroupsUpTo 11 = .ok (.aload_n 0, 1) := by decide +kernel
theorem dX3_endOfGroupsUpTo_12 : decode cX3_endOfGroupsUpTo 12 = .ok (.getfield 49, 3) := by decide +kernel
theorem dX3_endOfGroupsUpTo_15 : decode cX3_endOfGroupsUpTo 15 = .ok (.if_icmp .ge 36, 3) := by decide +kernel
theorem dX3_endOfGroupsUpTo_18 : decode cX3_endOfGroupsUpTo 18 = .ok (.aload_n 0, 1) := by decide +kernel
theorem dX3_endOfGroupsUpTo_19 : decode cX3_endOfGroupsUpTo 19 = .ok (.getfield 22, 3) := by decide +kernel
theorem dX3_endOfGroupsUpTo_22 : decode cX3_endOfGroupsUpTo 22 = .ok (.iload_n 3, 1) := by decide +kernel
theorem dX3_endOfGroupsUpTo_23 : decode cX3_endOfGroupsUpTo 23 = .ok (.invokevirtual 126, 3) := by decide +kernel
theorem dX3_endOfGroupsUpTo_26 : decode cX3_endOfGroupsUpTo 26 = .ok (.iload_n 1, 1) := by decide +kernel
theorem dX3_endOfGroupsUpTo_27 : decode cX3_endOfGroupsUpTo 27 = .ok (.if_icmp .gt 24, 3) := by decide +kernel
theorem dX3_endOfGroupsUpTo_30 : decode cX3_endOfGroupsUpTo 30 = .ok (.aload_n 0, 1) := by decide +kernel
theorem dX3_endOfGroupsUpTo_31 : decode cX3_endOfGroupsUpTo 31 = .ok (.getfield 22, 3) := by decide +kernel
theorem dX3_endOfGroupsUpTo_34 : decode cX3_endOfGroupsUpTo 34 = .ok (.iload_n 3, 1) := by decide +kernel
theorem dX3_endOfGroupsUpTo_35 : decode cX3_endOfGroupsUpTo 35 = .ok (.invokevirtual 150, 3) := by decide +kernel
theorem dX3_endOfGroupsUpTo_38 : decode cX3_endOfGroupsUpTo 38 = .ok (.ifCond .eq 7, 3) := by decide +kernel
theorem dX3_endOfGroupsUpTo_41 : decode cX3_endOfGroupsUpTo 41 = .ok (.iload_n 3, 1) := by decide +kernel
theorem dX3_endOfGroupsUpTo_42 : decode cX3_endOfGroupsUpTo 42 = .ok (.iconst 1, 1) := by decide +kernel
theorem dX3_endOfGroupsUpTo_43 : decode cX3_endOfGroupsUpTo 43 = .ok (.iadd, 1) := by decide +kernel
theorem dX3_endOfGroupsUpTo_44 : decode cX3_endOfGroupsUpTo 44 = .ok (.istore_n 2, 1) := by decide +kernel
theorem dX3_endOfGroupsUpTo_45 : decode cX3_endOfGroupsUpTo 45 = .ok (.iinc 3 1, 3) := by decide +kernel
theorem dX3_endOfGroupsUpTo_48 : decode cX3_endOfGroupsUpTo 48 = .ok (.goto (-38), 3) := by decide +kernel
theorem dX3_endOfGroupsUpTo_51 : decode cX3_endOfGroupsUpTo 51 = .ok (.iload_n 2, 1) := by decide +kernel
theorem dX3_endOfGroupsUpTo_52 : decode cX3_endOfGroupsUpTo 52 = .ok (.ireturn, 1) := by decide +kernel
