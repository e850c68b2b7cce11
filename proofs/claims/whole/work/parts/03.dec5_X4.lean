theorem dX4_init_0 : decode cX4_init 0 = .ok (.aload_n 0, 1) := by decide +kernel
theorem dX4_init_1 : decode cX4_init 1 = .ok (.invokespecial 1, 3) := by decide +kernel
theorem dX4_init_4 : decode cX4_init 4 = .ok (.aload_n 0, 1) := by decide +kernel
theorem dX4_init_5 : decode cX4_init 5 = .ok (.sipush 16384, 3) := by decide +kernel
theorem dX4_init_8 : decode cX4_init 8 = .ok (.newarray .int, 2) := by decide +kernel
theorem dX4_init_10 : decode cX4_init 10 = .ok (.putfield 9, 3) := by decide +kernel
theorem dX4_init_13 : decode cX4_init 13 = .ok (.aload_n 0, 1) := by decide +kernel
theorem dX4_init_14 : decode cX4_init 14 = .ok (.iconst 2, 1) := by decide +kernel
theorem dX4_init_15 : decode cX4_init 15 = .ok (.newarray .int, 2) := by decide +kernel
theorem dX4_init_17 : decode cX4_init 17 = .ok (.putfield 13, 3) := by decide +kernel
theorem dX4_init_20 : decode cX4_init 20 = .ok (.aload_n 0, 1) := by decide +kernel
theorem dX4_init_21 : decode cX4_init 21 = .ok (.sipush 600, 3) := by decide +kernel
theorem dX4_init_24 : decode cX4_init 24 = .ok (.newarray .int, 2) := by decide +kernel
theorem dX4_init_26 : decode cX4_init 26 = .ok (.putfield 16, 3) := by decide +kernel
theorem dX4_init_29 : decode cX4_init 29 = .ok (.aload_n 0, 1) := by decide +kernel
theorem dX4_init_30 : decode cX4_init 30 = .ok (.sipush 600, 3) := by decide +kernel
theorem dX4_init_33 : decode cX4_init 33 = .ok (.newarray .int, 2) := by decide +kernel
theorem dX4_init_35 : decode cX4_init 35 = .ok (.putfield 19, 3) := by decide +kernel
theorem dX4_init_38 : decode cX4_init 38 = .ok (.aload_n 0, 1) := by decide +kernel
theorem dX4_init_39 : decode cX4_init 39 = .ok (.ldc 22, 2) := by decide +kernel
theorem dX4_init_41 : decode cX4_init 41 = .ok (.newarray .int, 2) := by decide +kernel
theorem dX4_init_43 : decode cX4_init 43 = .ok (.putfield 23, 3) := by decide +kernel
theorem dX4_init_46 : decode cX4_init 46 = .ok (.aload_n 0, 1) := by decide +kernel
theorem dX4_init_47 : decode cX4_init 47 = .ok (.sipush 600, 3) := by decide +kernel
theorem dX4_init_50 : decode cX4_init 50 = .ok (.newarray .int, 2) := by decide +kernel
theorem dX4_init_52 : decode cX4_init 52 = .ok (.putfield 26, 3) := by decide +kernel
theorem dX4_init_55 : decode cX4_init 55 = .ok (.aload_n 0, 1) := by decide +kernel
theorem dX4_init_56 : decode cX4_init 56 = .ok (.sipush 600, 3) := by decide +kernel
theorem dX4_init_59 : decode cX4_init 59 = .ok (.newarray .int, 2) := by decide +kernel
theorem dX4_init_61 : decode cX4_init 61 = .ok (.putfield 29, 3) := by decide +kernel
theorem dX4_init_64 : decode cX4_init 64 = .ok (.aload_n 0, 1) := by decide +kernel
theorem dX4_init_65 : decode cX4_init 65 = .ok (.bipush 16, 2) := by decide +kernel
theorem dX4_init_67 : decode cX4_init 67 = .ok (.newarray .int, 2) := by decide +kernel
theorem dX4_init_69 : decode cX4_init 69 = .ok (.putfield 32, 3) := by decide +kernel
theorem dX4_init_72 : decode cX4_init 72 = .ok (.aload_n 0, 1) := by decide +kernel
theorem dX4_init_73 : decode cX4_init 73 = .ok (.bipush 16, 2) := by decide +kernel
theorem dX4_init_75 : decode cX4_init 75 = .ok (.newarray .int, 2) := by decide +kernel
theorem dX4_init_77 : decode cX4_init 77 = .ok (.putfield 35, 3) := by decide +kernel
theorem dX4_init_80 : decode cX4_init 80 = .ok (.aload_n 0, 1) := by decide +kernel
theorem dX4_init_81 : decode cX4_init 81 = .ok (.sipush 1024, 3) := by decide +kernel
theorem dX4_init_84 : decode cX4_init 84 = .ok (.newarray .int, 2) := by decide +kernel
theorem dX4_init_86 : decode cX4_init 86 = .ok (.putfield 38, 3) := by decide +kernel
theorem dX4_init_89 : decode cX4_init 89 = .ok (.aload_n 0, 1) := by decide +kernel
theorem dX4_init_90 : decode cX4_init 90 = .ok (.bipush 64, 2) := by decide +kernel
theorem dX4_init_92 : decode cX4_init 92 = .ok (.newarray .int, 2) := by decide +kernel
theorem dX4_init_94 : decode cX4_init 94 = .ok (.putfield 41, 3) := by decide +kernel
theorem dX4_init_97 : decode cX4_init 97 = .ok (.aload_n 0, 1) := by decide +kernel
theorem dX4_init_98 : decode cX4_init 98 = .ok (.iconst (-1), 1) := by decide +kernel
theorem dX4_init_99 : decode cX4_init 99 = .ok (.putfield 44, 3) := by decide +kernel
theorem dX4_init_102 : decode cX4_init 102 = .ok (.return_, 1) := by decide +kernel
theorem dX4_thrown_0 : decode cX4_thrown 0 = .ok (.aload_n 0, 1) := by decide +kernel
theorem dX4_thrown_1 : decode cX4_thrown 1 = .ok (.getfield 48, 3) := by decide +kernel
theorem dX4_thrown_4 : decode cX4_thrown 4 = .ok (.ireturn, 1) := by decide +kernel
theorem dX4_summed_0 : decode cX4_summed 0 = .ok (.iload_n 0, 1) := by decide +kernel
theorem dX4_summed_1 : decode cX4_summed 1 = .ok (.iload_n 1, 1) := by decide +kernel
theorem dX4_summed_2 : decode cX4_summed 2 = .ok (.ixor, 1) := by decide +kernel
theorem dX4_summed_3 : decode cX4_summed 3 = .ok (.istore_n 2, 1) := by decide +kernel
theorem dX4_summed_4 : decode cX4_summed 4 = .ok (.iload_n 2, 1) := by decide +kernel
theorem dX4_summed_5 : decode cX4_summed 5 = .ok (.bipush 13, 2) := by decide +kernel
theorem dX4_summed_7 : decode cX4_summed 7 = .ok (.ishl, 1) := by decide +kernel
theorem dX4_summed_8 : decode cX4_summed 8 = .ok (.iload_n 2, 1) := by decide +kernel
theorem dX4_summed_9 : decode cX4_summed 9 = .ok (.bipush 19, 2) := by decide +kernel
theorem dX4_summed_11 : decode cX4_summed 11 = .ok (.iushr, 1) := by decide +kernel
theorem dX4_summed_12 : decode cX4_summed 12 = .ok (.ior, 1) := by decide +kernel
theorem dX4_summed_13 : decode cX4_summed 13 = .ok (.ldc 51, 2) := by decide +kernel
theorem dX4_summed_15 : decode cX4_summed 15 = .ok (.imul, 1) := by decide +kernel
theorem dX4_summed_16 : decode cX4_summed 16 = .ok (.ireturn, 1) := by decide +kernel
theorem dX4_feed_0 : decode cX4_feed 0 = .ok (.aload_n 0, 1) := by decide +kernel
theorem dX4_feed_1 : decode cX4_feed 1 = .ok (.iconst 0, 1) := by decide +kernel
theorem dX4_feed_2 : decode cX4_feed 2 = .ok (.putfield 48, 3) := by decide +kernel
theorem dX4_feed_5 : decode cX4_feed 5 = .ok (.aload_n 0, 1) := by decide +kernel
theorem dX4_feed_6 : decode cX4_feed 6 = .ok (.getfield 52, 3) := by decide +kernel
theorem dX4_feed_9 : decode cX4_feed 9 = .ok (.ifCond .ne 23, 3) := by decide +kernel
theorem dX4_feed_12 : decode cX4_feed 12 = .ok (.iload_n 1, 1) := by decide +kernel
theorem dX4_feed_13 : decode cX4_feed 13 = .ok (.ifCond .lt 19, 3) := by decide +kernel
theorem dX4_feed_16 : decode cX4_feed 16 = .ok (.iload_n 1, 1) := by decide +kernel
theorem dX4_feed_17 : decode cX4_feed 17 = .ok (.sipush 255, 3) := by decide +kernel
theorem dX4_feed_20 : decode cX4_feed 20 = .ok (.if_icmp .gt 12, 3) := by decide +kernel
theorem dX4_feed_23 : decode cX4_feed 23 = .ok (.aload_n 0, 1) := by decide +kernel
theorem dX4_feed_24 : decode cX4_feed 24 = .ok (.getfield 56, 3) := by decide +kernel
theorem dX4_feed_27 : decode cX4_feed 27 = .ok (.bipush 64, 2) := by decide +kernel
theorem dX4_feed_29 : decode cX4_feed 29 = .ok (.if_icmp .ne 5, 3) := by decide +kernel
theorem dX4_feed_32 : decode cX4_feed 32 = .ok (.iconst 0, 1) := by decide +kernel
theorem dX4_feed_33 : decode cX4_feed 33 = .ok (.ireturn, 1) := by decide +kernel
theorem dX4_feed_34 : decode cX4_feed 34 = .ok (.aload_n 0, 1) := by decide +kernel
theorem dX4_feed_35 : decode cX4_feed 35 = .ok (.getfield 41, 3) := by decide +kernel
theorem dX4_feed_38 : decode cX4_feed 38 = .ok (.aload_n 0, 1) := by decide +kernel
theorem dX4_feed_39 : decode cX4_feed 39 = .ok (.getfield 56, 3) := by decide +kernel
theorem dX4_feed_42 : decode cX4_feed 42 = .ok (.iload_n 1, 1) := by decide +kernel
theorem dX4_feed_43 : decode cX4_feed 43 = .ok (.iastore, 1) := by decide +kernel
theorem dX4_feed_44 : decode cX4_feed 44 = .ok (.aload_n 0, 1) := by decide +kernel
theorem dX4_feed_45 : decode cX4_feed 45 = .ok (.dup, 1) := by decide +kernel
theorem dX4_feed_46 : decode cX4_feed 46 = .ok (.getfield 56, 3) := by decide +kernel
theorem dX4_feed_49 : decode cX4_feed 49 = .ok (.iconst 1, 1) := by decide +kernel
theorem dX4_feed_50 : decode cX4_feed 50 = .ok (.iadd, 1) := by decide +kernel
theorem dX4_feed_51 : decode cX4_feed 51 = .ok (.putfield 56, 3) := by decide +kernel
theorem dX4_feed_54 : decode cX4_feed 54 = .ok (.iconst 1, 1) := by decide +kernel
theorem dX4_feed_55 : decode cX4_feed 55 = .ok (.ireturn, 1) := by decide +kernel
theorem dX4_lastSecond_0 : decode cX4_lastSecond 0 = .ok (.aload_n 0, 1) := by decide +kernel
theorem dX4_lastSecond_1 : decode cX4_lastSecond 1 = .ok (.getfield 59, 3) := by decide +kernel
theorem dX4_lastSecond_4 : decode cX4_lastSecond 4 = .ok (.ifCond .le 17, 3) := by decide +kernel
theorem dX4_lastSecond_7 : decode cX4_lastSecond 7 = .ok (.aload_n 0, 1) := by decide +kernel
theorem dX4_lastSecond_8 : decode cX4_lastSecond 8 = .ok (.getfield 32, 3) := by decide +kernel
theorem dX4_lastSecond_11 : decode cX4_lastSecond 11 = .ok (.aload_n 0, 1) := by decide +kernel
theorem dX4_lastSecond_12 : decode cX4_lastSecond 12 = .ok (.getfield 59, 3) := by decide +kernel
theorem dX4_lastSecond_15 : decode cX4_lastSecond 15 = .ok (.iconst 1, 1) := by decide +kernel
theorem dX4_lastSecond_16 : decode cX4_lastSecond 16 = .ok (.isub, 1) := by decide +kernel
theorem dX4_lastSecond_17 : decode cX4_lastSecond 17 = .ok (.iaload, 1) := by decide +kernel
theorem dX4_lastSecond_18 : decode cX4_lastSecond 18 = .ok (.goto 25, 3) := by decide +kernel
theorem dX4_lastSecond_21 : decode cX4_lastSecond 21 = .ok (.aload_n 0, 1) := by decide +kernel
theorem dX4_lastSecond_22 : decode cX4_lastSecond 22 = .ok (.getfield 62, 3) := by decide +kernel
theorem dX4_lastSecond_25 : decode cX4_lastSecond 25 = .ok (.ifCond .le 17, 3) := by decide +kernel
theorem dX4_lastSecond_28 : decode cX4_lastSecond 28 = .ok (.aload_n 0, 1) := by decide +kernel
theorem dX4_lastSecond_29 : decode cX4_lastSecond 29 = .ok (.getfield 16, 3) := by decide +kernel
theorem dX4_lastSecond_32 : decode cX4_lastSecond 32 = .ok (.aload_n 0, 1) := by decide +kernel
theorem dX4_lastSecond_33 : decode cX4_lastSecond 33 = .ok (.getfield 62, 3) := by decide +kernel
theorem dX4_lastSecond_36 : decode cX4_lastSecond 36 = .ok (.iconst 1, 1) := by decide +kernel
theorem dX4_lastSecond_37 : decode cX4_lastSecond 37 = .ok (.isub, 1) := by decide +kernel
theorem dX4_lastSecond_38 : decode cX4_lastSecond 38 = .ok (.iaload, 1) := by decide +kernel
theorem dX4_lastSecond_39 : decode cX4_lastSecond 39 = .ok (.goto 4, 3) := by decide +kernel
theorem dX4_lastSecond_42 : decode cX4_lastSecond 42 = .ok (.iconst 0, 1) := by decide +kernel
theorem dX4_lastSecond_43 : decode cX4_lastSecond 43 = .ok (.ireturn, 1) := by decide +kernel
theorem dX4_row_0 : decode cX4_row 0 = .ok (.aload_n 0, 1) := by decide +kernel
theorem dX4_row_1 : decode cX4_row 1 = .ok (.iconst 0, 1) := by decide +kernel
theorem dX4_row_2 : decode cX4_row 2 = .ok (.putfield 48, 3) := by decide +kernel
theorem dX4_row_5 : decode cX4_row 5 = .ok (.aload_n 0, 1) := by decide +kernel
theorem dX4_row_6 : decode cX4_row 6 = .ok (.getfield 52, 3) := by decide +kernel
theorem dX4_row_9 : decode cX4_row 9 = .ok (.ifCond .ne 28, 3) := by decide +kernel
theorem dX4_row_12 : decode cX4_row 12 = .ok (.aload_n 0, 1) := by decide +kernel
theorem dX4_row_13 : decode cX4_row 13 = .ok (.getfield 56, 3) := by decide +kernel
theorem dX4_row_16 : decode cX4_row 16 = .ok (.ifCond .eq 21, 3) := by decide +kernel
theorem dX4_row_19 : decode cX4_row 19 = .ok (.iload_n 1, 1) := by decide +kernel
theorem dX4_row_20 : decode cX4_row 20 = .ok (.ifCond .lt 17, 3) := by decide +kernel
theorem dX4_row_23 : decode cX4_row 23 = .ok (.iload_n 1, 1) := by decide +kernel
theorem dX4_row_24 : decode cX4_row 24 = .ok (.ldc 65, 2) := by decide +kernel
theorem dX4_row_26 : decode cX4_row 26 = .ok (.if_icmp .gt 11, 3) := by decide +kernel
theorem dX4_row_29 : decode cX4_row 29 = .ok (.iload_n 1, 1) := by decide +kernel
theorem dX4_row_30 : decode cX4_row 30 = .ok (.aload_n 0, 1) := by decide +kernel
theorem dX4_row_31 : decode cX4_row 31 = .ok (.invokevirtual 66, 3) := by decide +kernel
theorem dX4_row_34 : decode cX4_row 34 = .ok (.if_icmp .ge 5, 3) := by decide +kernel
theorem dX4_row_37 : decode cX4_row 37 = .ok (.iconst (-1), 1) := by decide +kernel
theorem dX4_row_38 : decode cX4_row 38 = .ok (.ireturn, 1) := by decide +kernel
theorem dX4_row_39 : decode cX4_row 39 = .ok (.aload_n 0, 1) := by decide +kernel
theorem dX4_row_40 : decode cX4_row 40 = .ok (.getfield 59, 3) := by decide +kernel
theorem dX4_row_43 : decode cX4_row 43 = .ok (.bipush 16, 2) := by decide +kernel
theorem dX4_row_45 : decode cX4_row 45 = .ok (.if_icmp .eq 18, 3) := by decide +kernel
theorem dX4_row_48 : decode cX4_row 48 = .ok (.aload_n 0, 1) := by decide +kernel
theorem dX4_row_49 : decode cX4_row 49 = .ok (.getfield 62, 3) := by decide +kernel
theorem dX4_row_52 : decode cX4_row 52 = .ok (.aload_n 0, 1) := by decide +kernel
theorem dX4_row_53 : decode cX4_row 53 = .ok (.getfield 59, 3) := by decide +kernel
theorem dX4_row_56 : decode cX4_row 56 = .ok (.iadd, 1) := by decide +kernel
theorem dX4_row_57 : decode cX4_row 57 = .ok (.sipush 600, 3) := by decide +kernel
theorem dX4_row_60 : decode cX4_row 60 = .ok (.if_icmp .ne 6, 3) := by decide +kernel
theorem dX4_row_63 : decode cX4_row 63 = .ok (.bipush (-2), 2) := by decide +kernel
theorem dX4_row_65 : decode cX4_row 65 = .ok (.ireturn, 1) := by decide +kernel
theorem dX4_row_66 : decode cX4_row 66 = .ok (.aload_n 0, 1) := by decide +kernel
theorem dX4_row_67 : decode cX4_row 67 = .ok (.getfield 32, 3) := by decide +kernel
theorem dX4_row_70 : decode cX4_row 70 = .ok (.aload_n 0, 1) := by decide +kernel
theorem dX4_row_71 : decode cX4_row 71 = .ok (.getfield 59, 3) := by decide +kernel
theorem dX4_row_74 : decode cX4_row 74 = .ok (.iload_n 1, 1) := by decide +kernel
theorem dX4_row_75 : decode cX4_row 75 = .ok (.iastore, 1) := by decide +kernel
theorem dX4_row_76 : decode cX4_row 76 = .ok (.aload_n 0, 1) := by decide +kernel
theorem dX4_row_77 : decode cX4_row 77 = .ok (.getfield 35, 3) := by decide +kernel
theorem dX4_row_80 : decode cX4_row 80 = .ok (.aload_n 0, 1) := by decide +kernel
theorem dX4_row_81 : decode cX4_row 81 = .ok (.getfield 59, 3) := by decide +kernel
theorem dX4_row_84 : decode cX4_row 84 = .ok (.aload_n 0, 1) := by decide +kernel
theorem dX4_row_85 : decode cX4_row 85 = .ok (.getfield 56, 3) := by decide +kernel
theorem dX4_row_88 : decode cX4_row 88 = .ok (.iastore, 1) := by decide +kernel
theorem dX4_row_89 : decode cX4_row 89 = .ok (.iconst 0, 1) := by decide +kernel
theorem dX4_row_90 : decode cX4_row 90 = .ok (.istore_n 2, 1) := by decide +kernel
theorem dX4_row_91 : decode cX4_row 91 = .ok (.iload_n 2, 1) := by decide +kernel
theorem dX4_row_92 : decode cX4_row 92 = .ok (.aload_n 0, 1) := by decide +kernel
theorem dX4_row_93 : decode cX4_row 93 = .ok (.getfield 56, 3) := by decide +kernel
theorem dX4_row_96 : decode cX4_row 96 = .ok (.if_icmp .ge 29, 3) := by decide +kernel
theorem dX4_row_99 : decode cX4_row 99 = .ok (.aload_n 0, 1) := by decide +kernel
theorem dX4_row_100 : decode cX4_row 100 = .ok (.getfield 38, 3) := by decide +kernel
theorem dX4_row_103 : decode cX4_row 103 = .ok (.aload_n 0, 1) := by decide +kernel
theorem dX4_row_104 : decode cX4_row 104 = .ok (.getfield 59, 3) := by decide +kernel
theorem dX4_row_107 : decode cX4_row 107 = .ok (.bipush 64, 2) := by decide +kernel
theorem dX4_row_109 : decode cX4_row 109 = .ok (.imul, 1) := by decide +kernel
theorem dX4_row_110 : decode cX4_row 110 = .ok (.iload_n 2, 1) := by decide +kernel
theorem dX4_row_111 : decode cX4_row 111 = .ok (.iadd, 1) := by decide +kernel
theorem dX4_row_112 : decode cX4_row 112 = .ok (.aload_n 0, 1) := by decide +kernel
theorem dX4_row_113 : decode cX4_row 113 = .ok (.getfield 41, 3) := by decide +kernel
theorem dX4_row_116 : decode cX4_row 116 = .ok (.iload_n 2, 1) := by decide +kernel
theorem dX4_row_117 : decode cX4_row 117 = .ok (.iaload, 1) := by decide +kernel
theorem dX4_row_118 : decode cX4_row 118 = .ok (.iastore, 1) := by decide +kernel
theorem dX4_row_119 : decode cX4_row 119 = .ok (.iinc 2 1, 3) := by decide +kernel
theorem dX4_row_122 : decode cX4_row 122 = .ok (.goto (-31), 3) := by decide +kernel
theorem dX4_row_125 : decode cX4_row 125 = .ok (.aload_n 0, 1) := by decide +kernel
theorem dX4_row_126 : decode cX4_row 126 = .ok (.iconst 0, 1) := by decide +kernel
theorem dX4_row_127 : decode cX4_row 127 = .ok (.putfield 56, 3) := by decide +kernel
theorem dX4_row_130 : decode cX4_row 130 = .ok (.aload_n 0, 1) := by decide +kernel
theorem dX4_row_131 : decode cX4_row 131 = .ok (.dup, 1) := by decide +kernel
theorem dX4_row_132 : decode cX4_row 132 = .ok (.getfield 59, 3) := by decide +kernel
theorem dX4_row_135 : decode cX4_row 135 = .ok (.iconst 1, 1) := by decide +kernel
theorem dX4_row_136 : decode cX4_row 136 = .ok (.iadd, 1) := by decide +kernel
theorem dX4_row_137 : decode cX4_row 137 = .ok (.putfield 59, 3) := by decide +kernel
theorem dX4_row_140 : decode cX4_row 140 = .ok (.aload_n 0, 1) := by decide +kernel
theorem dX4_row_141 : decode cX4_row 141 = .ok (.getfield 59, 3) := by decide +kernel
theorem dX4_row_144 : decode cX4_row 144 = .ok (.iconst 1, 1) := by decide +kernel
theorem dX4_row_145 : decode cX4_row 145 = .ok (.isub, 1) := by decide +kernel
theorem dX4_row_146 : decode cX4_row 146 = .ok (.ireturn, 1) := by decide +kernel
theorem dX4_write_0 : decode cX4_write 0 = .ok (.aload_n 0, 1) := by decide +kernel
theorem dX4_write_1 : decode cX4_write 1 = .ok (.getfield 9, 3) := by decide +kernel
theorem dX4_write_4 : decode cX4_write 4 = .ok (.aload_n 0, 1) := by decide +kernel
theorem dX4_write_5 : decode cX4_write 5 = .ok (.getfield 70, 3) := by decide +kernel
theorem dX4_write_8 : decode cX4_write 8 = .ok (.iload_n 2, 1) := by decide +kernel
theorem dX4_write_9 : decode cX4_write 9 = .ok (.iastore, 1) := by decide +kernel
theorem dX4_write_10 : decode cX4_write 10 = .ok (.aload_n 0, 1) := by decide +kernel
theorem dX4_write_11 : decode cX4_write 11 = .ok (.getfield 9, 3) := by decide +kernel
theorem dX4_write_14 : decode cX4_write 14 = .ok (.sipush 8192, 3) := by decide +kernel
theorem dX4_write_17 : decode cX4_write 17 = .ok (.aload_n 0, 1) := by decide +kernel
theorem dX4_write_18 : decode cX4_write 18 = .ok (.getfield 70, 3) := by decide +kernel
theorem dX4_write_21 : decode cX4_write 21 = .ok (.iadd, 1) := by decide +kernel
theorem dX4_write_22 : decode cX4_write 22 = .ok (.iload_n 2, 1) := by decide +kernel
theorem dX4_write_23 : decode cX4_write 23 = .ok (.iastore, 1) := by decide +kernel
theorem dX4_write_24 : decode cX4_write 24 = .ok (.aload_n 0, 1) := by decide +kernel
theorem dX4_write_25 : decode cX4_write 25 = .ok (.dup, 1) := by decide +kernel
theorem dX4_write_26 : decode cX4_write 26 = .ok (.getfield 70, 3) := by decide +kernel
theorem dX4_write_29 : decode cX4_write 29 = .ok (.iconst 1, 1) := by decide +kernel
theorem dX4_write_30 : decode cX4_write 30 = .ok (.iadd, 1) := by decide +kernel
theorem dX4_write_31 : decode cX4_write 31 = .ok (.putfield 70, 3) := by decide +kernel
theorem dX4_write_34 : decode cX4_write 34 = .ok (.iload_n 1, 1) := by decide +kernel
theorem dX4_write_35 : decode cX4_write 35 = .ok (.iload_n 2, 1) := by decide +kernel
theorem dX4_write_36 : decode cX4_write 36 = .ok (.invokestatic 73, 3) := by decide +kernel
theorem dX4_write_39 : decode cX4_write 39 = .ok (.ireturn, 1) := by decide +kernel
theorem dX4_four_0 : decode cX4_four 0 = .ok (.bipush 24, 2) := by decide +kernel
theorem dX4_four_2 : decode cX4_four 2 = .ok (.istore_n 2, 1) := by decide +kernel
theorem dX4_four_3 : decode cX4_four 3 = .ok (.iload_n 2, 1) := by decide +kernel
theorem dX4_four_4 : decode cX4_four 4 = .ok (.ifCond .lt 22, 3) := by decide +kernel
theorem dX4_four_7 : decode cX4_four 7 = .ok (.aload_n 0, 1) := by decide +kernel
theorem dX4_four_8 : decode cX4_four 8 = .ok (.iconst 0, 1) := by decide +kernel
theorem dX4_four_9 : decode cX4_four 9 = .ok (.iload_n 1, 1) := by decide +kernel
theorem dX4_four_10 : decode cX4_four 10 = .ok (.iload_n 2, 1) := by decide +kernel
theorem dX4_four_11 : decode cX4_four 11 = .ok (.iushr, 1) := by decide +kernel
theorem dX4_four_12 : decode cX4_four 12 = .ok (.sipush 255, 3) := by decide +kernel
theorem dX4_four_15 : decode cX4_four 15 = .ok (.iand, 1) := by decide +kernel
theorem dX4_four_16 : decode cX4_four 16 = .ok (.invokevirtual 77, 3) := by decide +kernel
theorem dX4_four_19 : decode cX4_four 19 = .ok (.istore_n 3, 1) := by decide +kernel
theorem dX4_four_20 : decode cX4_four 20 = .ok (.iinc 2 (-8), 3) := by decide +kernel
theorem dX4_four_23 : decode cX4_four 23 = .ok (.goto (-20), 3) := by decide +kernel
theorem dX4_four_26 : decode cX4_four 26 = .ok (.return_, 1) := by decide +kernel
theorem dX4_endGroup_0 : decode cX4_endGroup 0 = .ok (.aload_n 0, 1) := by decide +kernel
theorem dX4_endGroup_1 : decode cX4_endGroup 1 = .ok (.iconst 0, 1) := by decide +kernel
theorem dX4_endGroup_2 : decode cX4_endGroup 2 = .ok (.putfield 48, 3) := by decide +kernel
theorem dX4_endGroup_5 : decode cX4_endGroup 5 = .ok (.bipush 6, 2) := by decide +kernel
theorem dX4_endGroup_7 : decode cX4_endGroup 7 = .ok (.istore_n 1, 1) := by decide +kernel
theorem dX4_endGroup_8 : decode cX4_endGroup 8 = .ok (.iconst 0, 1) := by decide +kernel
theorem dX4_endGroup_9 : decode cX4_endGroup 9 = .ok (.istore_n 2, 1) := by decide +kernel
theorem dX4_endGroup_10 : decode cX4_endGroup 10 = .ok (.iload_n 2, 1) := by decide +kernel
theorem dX4_endGroup_11 : decode cX4_endGroup 11 = .ok (.aload_n 0, 1) := by decide +kernel
theorem dX4_endGroup_12 : decode cX4_endGroup 12 = .ok (.getfield 59, 3) := by decide +kernel
theorem dX4_endGroup_15 : decode cX4_endGroup 15 = .ok (.if_icmp .ge 21, 3) := by decide +kernel
theorem dX4_endGroup_18 : decode cX4_endGroup 18 = .ok (.iload_n 1, 1) := by decide +kernel
theorem dX4_endGroup_19 : decode cX4_endGroup 19 = .ok (.bipush 11, 2) := by decide +kernel
theorem dX4_endGroup_21 : decode cX4_endGroup 21 = .ok (.aload_n 0, 1) := by decide +kernel
theorem dX4_endGroup_22 : decode cX4_endGroup 22 = .ok (.getfield 35, 3) := by decide +kernel
theorem dX4_endGroup_25 : decode cX4_endGroup 25 = .ok (.iload_n 2, 1) := by decide +kernel
theorem dX4_endGroup_26 : decode cX4_endGroup 26 = .ok (.iaload, 1) := by decide +kernel
theorem dX4_endGroup_27 : decode cX4_endGroup 27 = .ok (.iadd, 1) := by decide +kernel
theorem dX4_endGroup_28 : decode cX4_endGroup 28 = .ok (.iadd, 1) := by decide +kernel
theorem dX4_endGroup_29 : decode cX4_endGroup 29 = .ok (.istore_n 1, 1) := by decide +kernel
theorem dX4_endGroup_30 : decode cX4_endGroup 30 = .ok (.iinc 2 1, 3) := by decide +kernel
theorem dX4_endGroup_33 : decode cX4_endGroup 33 = .ok (.goto (-23), 3) := by decide +kernel
theorem dX4_endGroup_36 : decode cX4_endGroup 36 = .ok (.aload_n 0, 1) := by decide +kernel
theorem dX4_endGroup_37 : decode cX4_endGroup 37 = .ok (.getfield 52, 3) := by decide +kernel
theorem dX4_endGroup_40 : decode cX4_endGroup 40 = .ok (.ifCond .ne 38, 3) := by decide +kernel
theorem dX4_endGroup_43 : decode cX4_endGroup 43 = .ok (.aload_n 0, 1) := by decide +kernel
theorem dX4_endGroup_44 : decode cX4_endGroup 44 = .ok (.getfield 59, 3) := by decide +kernel
theorem dX4_endGroup_47 : decode cX4_endGroup 47 = .ok (.ifCond .eq 31, 3) := by decide +kernel
theorem dX4_endGroup_50 : decode cX4_endGroup 50 = .ok (.aload_n 0, 1) := by decide +kernel
theorem dX4_endGroup_51 : decode cX4_endGroup 51 = .ok (.getfield 13, 3) := by decide +kernel
theorem dX4_endGroup_54 : decode cX4_endGroup 54 = .ok (.iconst 0, 1) := by decide +kernel
theorem dX4_endGroup_55 : decode cX4_endGroup 55 = .ok (.iaload, 1) := by decide +kernel
theorem dX4_endGroup_56 : decode cX4_endGroup 56 = .ok (.iload_n 1, 1) := by decide +kernel
theorem dX4_endGroup_57 : decode cX4_endGroup 57 = .ok (.iadd, 1) := by decide +kernel
theorem dX4_endGroup_58 : decode cX4_endGroup 58 = .ok (.sipush 8192, 3) := by decide +kernel
theorem dX4_endGroup_61 : decode cX4_endGroup 61 = .ok (.if_icmp .gt 17, 3) := by decide +kernel
theorem dX4_endGroup_64 : decode cX4_endGroup 64 = .ok (.aload_n 0, 1) := by decide +kernel
theorem dX4_endGroup_65 : decode cX4_endGroup 65 = .ok (.getfield 13, 3) := by decide +kernel
theorem dX4_endGroup_68 : decode cX4_endGroup 68 = .ok (.iconst 1, 1) := by decide +kernel
theorem dX4_endGroup_69 : decode cX4_endGroup 69 = .ok (.iaload, 1) := by decide +kernel
theorem dX4_endGroup_70 : decode cX4_endGroup 70 = .ok (.iload_n 1, 1) := by decide +kernel
theorem dX4_endGroup_71 : decode cX4_endGroup 71 = .ok (.iadd, 1) := by decide +kernel
theorem dX4_endGroup_72 : decode cX4_endGroup 72 = .ok (.sipush 8192, 3) := by decide +kernel
theorem dX4_endGroup_75 : decode cX4_endGroup 75 = .ok (.if_icmp .le 5, 3) := by decide +kernel
theorem dX4_endGroup_78 : decode cX4_endGroup 78 = .ok (.iconst 0, 1) := by decide +kernel
theorem dX4_endGroup_79 : decode cX4_endGroup 79 = .ok (.ireturn, 1) := by decide +kernel
theorem dX4_endGroup_80 : decode cX4_endGroup 80 = .ok (.aload_n 0, 1) := by decide +kernel
theorem dX4_endGroup_81 : decode cX4_endGroup 81 = .ok (.aload_n 0, 1) := by decide +kernel
theorem dX4_endGroup_82 : decode cX4_endGroup 82 = .ok (.getfield 13, 3) := by decide +kernel
theorem dX4_endGroup_85 : decode cX4_endGroup 85 = .ok (.iconst 0, 1) := by decide +kernel
theorem dX4_endGroup_86 : decode cX4_endGroup 86 = .ok (.iaload, 1) := by decide +kernel
theorem dX4_endGroup_87 : decode cX4_endGroup 87 = .ok (.putfield 70, 3) := by decide +kernel
theorem dX4_endGroup_90 : decode cX4_endGroup 90 = .ok (.iconst 0, 1) := by decide +kernel
theorem dX4_endGroup_91 : decode cX4_endGroup 91 = .ok (.istore_n 2, 1) := by decide +kernel
theorem dX4_endGroup_92 : decode cX4_endGroup 92 = .ok (.iconst 0, 1) := by decide +kernel
theorem dX4_endGroup_93 : decode cX4_endGroup 93 = .ok (.istore_n 3, 1) := by decide +kernel
theorem dX4_endGroup_94 : decode cX4_endGroup 94 = .ok (.iload_n 3, 1) := by decide +kernel
theorem dX4_endGroup_95 : decode cX4_endGroup 95 = .ok (.aload_n 0, 1) := by decide +kernel
theorem dX4_endGroup_96 : decode cX4_endGroup 96 = .ok (.getfield 59, 3) := by decide +kernel
theorem dX4_endGroup_99 : decode cX4_endGroup 99 = .ok (.if_icmp .ge 192, 3) := by decide +kernel
theorem dX4_endGroup_102 : decode cX4_endGroup 102 = .ok (.aload_n 0, 1) := by decide +kernel
theorem dX4_endGroup_103 : decode cX4_endGroup 103 = .ok (.iconst 0, 1) := by decide +kernel
theorem dX4_endGroup_104 : decode cX4_endGroup 104 = .ok (.aload_n 0, 1) := by decide +kernel
theorem dX4_endGroup_105 : decode cX4_endGroup 105 = .ok (.getfield 35, 3) := by decide +kernel
theorem dX4_endGroup_108 : decode cX4_endGroup 108 = .ok (.iload_n 3, 1) := by decide +kernel
theorem dX4_endGroup_109 : decode cX4_endGroup 109 = .ok (.iaload, 1) := by decide +kernel
theorem dX4_endGroup_110 : decode cX4_endGroup 110 = .ok (.invokevirtual 77, 3) := by decide +kernel
theorem dX4_endGroup_113 : decode cX4_endGroup 113 = .ok (.istore_n 2, 1) := by decide +kernel
theorem dX4_endGroup_114 : decode cX4_endGroup 114 = .ok (.bipush 24, 2) := by decide +kernel
theorem dX4_endGroup_116 : decode cX4_endGroup 116 = .ok (.istore 4, 2) := by decide +kernel
theorem dX4_endGroup_118 : decode cX4_endGroup 118 = .ok (.iload 4, 2) := by decide +kernel
theorem dX4_endGroup_120 : decode cX4_endGroup 120 = .ok (.ifCond .lt 28, 3) := by decide +kernel
theorem dX4_endGroup_123 : decode cX4_endGroup 123 = .ok (.aload_n 0, 1) := by decide +kernel
theorem dX4_endGroup_124 : decode cX4_endGroup 124 = .ok (.iload_n 2, 1) := by decide +kernel
theorem dX4_endGroup_125 : decode cX4_endGroup 125 = .ok (.aload_n 0, 1) := by decide +kernel
theorem dX4_endGroup_126 : decode cX4_endGroup 126 = .ok (.getfield 32, 3) := by decide +kernel
theorem dX4_endGroup_129 : decode cX4_endGroup 129 = .ok (.iload_n 3, 1) := by decide +kernel
theorem dX4_endGroup_130 : decode cX4_endGroup 130 = .ok (.iaload, 1) := by decide +kernel
theorem dX4_endGroup_131 : decode cX4_endGroup 131 = .ok (.iload 4, 2) := by decide +kernel
theorem dX4_endGroup_133 : decode cX4_endGroup 133 = .ok (.iushr, 1) := by decide +kernel
theorem dX4_endGroup_134 : decode cX4_endGroup 134 = .ok (.sipush 255, 3) := by decide +kernel
theorem dX4_endGroup_137 : decode cX4_endGroup 137 = .ok (.iand, 1) := by decide +kernel
theorem dX4_endGroup_138 : decode cX4_endGroup 138 = .ok (.invokevirtual 77, 3) := by decide +kernel
theorem dX4_endGroup_141 : decode cX4_endGroup 141 = .ok (.istore_n 2, 1) := by decide +kernel
theorem dX4_endGroup_142 : decode cX4_endGroup 142 = .ok (.iinc 4 (-8), 3) := by decide +kernel
theorem dX4_endGroup_145 : decode cX4_endGroup 145 = .ok (.goto (-27), 3) := by decide +kernel
theorem dX4_endGroup_148 : decode cX4_endGroup 148 = .ok (.iconst 0, 1) := by decide +kernel
theorem dX4_endGroup_149 : decode cX4_endGroup 149 = .ok (.istore 4, 2) := by decide +kernel
theorem dX4_endGroup_151 : decode cX4_endGroup 151 = .ok (.iload 4, 2) := by decide +kernel
theorem dX4_endGroup_153 : decode cX4_endGroup 153 = .ok (.aload_n 0, 1) := by decide +kernel
theorem dX4_endGroup_154 : decode cX4_endGroup 154 = .ok (.getfield 35, 3) := by decide +kernel
theorem dX4_endGroup_157 : decode cX4_endGroup 157 = .ok (.iload_n 3, 1) := by decide +kernel
theorem dX4_endGroup_158 : decode cX4_endGroup 158 = .ok (.iaload, 1) := by decide +kernel
theorem dX4_endGroup_159 : decode cX4_endGroup 159 = .ok (.if_icmp .ge 54, 3) := by decide +kernel
theorem dX4_endGroup_162 : decode cX4_endGroup 162 = .ok (.aload_n 0, 1) := by decide +kernel
theorem dX4_endGroup_163 : decode cX4_endGroup 163 = .ok (.iload_n 2, 1) := by decide +kernel
theorem dX4_endGroup_164 : decode cX4_endGroup 164 = .ok (.aload_n 0, 1) := by decide +kernel
theorem dX4_endGroup_165 : decode cX4_endGroup 165 = .ok (.getfield 38, 3) := by decide +kernel
theorem dX4_endGroup_168 : decode cX4_endGroup 168 = .ok (.iload_n 3, 1) := by decide +kernel
theorem dX4_endGroup_169 : decode cX4_endGroup 169 = .ok (.bipush 64, 2) := by decide +kernel
theorem dX4_endGroup_171 : decode cX4_endGroup 171 = .ok (.imul, 1) := by decide +kernel
theorem dX4_endGroup_172 : decode cX4_endGroup 172 = .ok (.iload 4, 2) := by decide +kernel
theorem dX4_endGroup_174 : decode cX4_endGroup 174 = .ok (.iadd, 1) := by decide +kernel
theorem dX4_endGroup_175 : decode cX4_endGroup 175 = .ok (.iaload, 1) := by decide +kernel
theorem dX4_endGroup_176 : decode cX4_endGroup 176 = .ok (.invokevirtual 77, 3) := by decide +kernel
theorem dX4_endGroup_179 : decode cX4_endGroup 179 = .ok (.istore_n 2, 1) := by decide +kernel
theorem dX4_endGroup_180 : decode cX4_endGroup 180 = .ok (.aload_n 0, 1) := by decide +kernel
theorem dX4_endGroup_181 : decode cX4_endGroup 181 = .ok (.getfield 23, 3) := by decide +kernel
theorem dX4_endGroup_184 : decode cX4_endGroup 184 = .ok (.aload_n 0, 1) := by decide +kernel
theorem dX4_endGroup_185 : decode cX4_endGroup 185 = .ok (.getfield 62, 3) := by decide +kernel
theorem dX4_endGroup_188 : decode cX4_endGroup 188 = .ok (.bipush 64, 2) := by decide +kernel
theorem dX4_endGroup_190 : decode cX4_endGroup 190 = .ok (.imul, 1) := by decide +kernel
theorem dX4_endGroup_191 : decode cX4_endGroup 191 = .ok (.iload 4, 2) := by decide +kernel
theorem dX4_endGroup_193 : decode cX4_endGroup 193 = .ok (.iadd, 1) := by decide +kernel
theorem dX4_endGroup_194 : decode cX4_endGroup 194 = .ok (.aload_n 0, 1) := by decide +kernel
theorem dX4_endGroup_195 : decode cX4_endGroup 195 = .ok (.getfield 38, 3) := by decide +kernel
theorem dX4_endGroup_198 : decode cX4_endGroup 198 = .ok (.iload_n 3, 1) := by decide +kernel
theorem dX4_endGroup_199 : decode cX4_endGroup 199 = .ok (.bipush 64, 2) := by decide +kernel
theorem dX4_endGroup_201 : decode cX4_endGroup 201 = .ok (.imul, 1) := by decide +kernel
theorem dX4_endGroup_202 : decode cX4_endGroup 202 = .ok (.iload 4, 2) := by decide +kernel
theorem dX4_endGroup_204 : decode cX4_endGroup 204 = .ok (.iadd, 1) := by decide +kernel
theorem dX4_endGroup_205 : decode cX4_endGroup 205 = .ok (.iaload, 1) := by decide +kernel
theorem dX4_endGroup_206 : decode cX4_endGroup 206 = .ok (.iastore, 1) := by decide +kernel
theorem dX4_endGroup_207 : decode cX4_endGroup 207 = .ok (.iinc 4 1, 3) := by decide +kernel
theorem dX4_endGroup_210 : decode cX4_endGroup 210 = .ok (.goto (-59), 3) := by decide +kernel
theorem dX4_endGroup_213 : decode cX4_endGroup 213 = .ok (.aload_n 0, 1) := by decide +kernel
theorem dX4_endGroup_214 : decode cX4_endGroup 214 = .ok (.iload_n 2, 1) := by decide +kernel
theorem dX4_endGroup_215 : decode cX4_endGroup 215 = .ok (.aload_n 0, 1) := by decide +kernel
theorem dX4_endGroup_216 : decode cX4_endGroup 216 = .ok (.getfield 62, 3) := by decide +kernel
theorem dX4_endGroup_219 : decode cX4_endGroup 219 = .ok (.bipush 8, 2) := by decide +kernel
theorem dX4_endGroup_221 : decode cX4_endGroup 221 = .ok (.iushr, 1) := by decide +kernel
theorem dX4_endGroup_222 : decode cX4_endGroup 222 = .ok (.invokevirtual 77, 3) := by decide +kernel
theorem dX4_endGroup_225 : decode cX4_endGroup 225 = .ok (.istore_n 2, 1) := by decide +kernel
theorem dX4_endGroup_226 : decode cX4_endGroup 226 = .ok (.aload_n 0, 1) := by decide +kernel
theorem dX4_endGroup_227 : decode cX4_endGroup 227 = .ok (.iload_n 2, 1) := by decide +kernel
theorem dX4_endGroup_228 : decode cX4_endGroup 228 = .ok (.aload_n 0, 1) := by decide +kernel
theorem dX4_endGroup_229 : decode cX4_endGroup 229 = .ok (.getfield 62, 3) := by decide +kernel
theorem dX4_endGroup_232 : decode cX4_endGroup 232 = .ok (.sipush 255, 3) := by decide +kernel
theorem dX4_endGroup_235 : decode cX4_endGroup 235 = .ok (.iand, 1) := by decide +kernel
theorem dX4_endGroup_236 : decode cX4_endGroup 236 = .ok (.invokevirtual 77, 3) := by decide +kernel
theorem dX4_endGroup_239 : decode cX4_endGroup 239 = .ok (.istore_n 2, 1) := by decide +kernel
theorem dX4_endGroup_240 : decode cX4_endGroup 240 = .ok (.aload_n 0, 1) := by decide +kernel
theorem dX4_endGroup_241 : decode cX4_endGroup 241 = .ok (.iload_n 2, 1) := by decide +kernel
theorem dX4_endGroup_242 : decode cX4_endGroup 242 = .ok (.invokevirtual 80, 3) := by decide +kernel
theorem dX4_endGroup_245 : decode cX4_endGroup 245 = .ok (.aload_n 0, 1) := by decide +kernel
theorem dX4_endGroup_246 : decode cX4_endGroup 246 = .ok (.getfield 16, 3) := by decide +kernel
theorem dX4_endGroup_249 : decode cX4_endGroup 249 = .ok (.aload_n 0, 1) := by decide +kernel
theorem dX4_endGroup_250 : decode cX4_endGroup 250 = .ok (.getfield 62, 3) := by decide +kernel
theorem dX4_endGroup_253 : decode cX4_endGroup 253 = .ok (.aload_n 0, 1) := by decide +kernel
theorem dX4_endGroup_254 : decode cX4_endGroup 254 = .ok (.getfield 32, 3) := by decide +kernel
theorem dX4_endGroup_257 : decode cX4_endGroup 257 = .ok (.iload_n 3, 1) := by decide +kernel
theorem dX4_endGroup_258 : decode cX4_endGroup 258 = .ok (.iaload, 1) := by decide +kernel
theorem dX4_endGroup_259 : decode cX4_endGroup 259 = .ok (.iastore, 1) := by decide +kernel
theorem dX4_endGroup_260 : decode cX4_endGroup 260 = .ok (.aload_n 0, 1) := by decide +kernel
theorem dX4_endGroup_261 : decode cX4_endGroup 261 = .ok (.getfield 19, 3) := by decide +kernel
theorem dX4_endGroup_264 : decode cX4_endGroup 264 = .ok (.aload_n 0, 1) := by decide +kernel
theorem dX4_endGroup_265 : decode cX4_endGroup 265 = .ok (.getfield 62, 3) := by decide +kernel
theorem dX4_endGroup_268 : decode cX4_endGroup 268 = .ok (.aload_n 0, 1) := by decide +kernel
theorem dX4_endGroup_269 : decode cX4_endGroup 269 = .ok (.getfield 35, 3) := by decide +kernel
theorem dX4_endGroup_272 : decode cX4_endGroup 272 = .ok (.iload_n 3, 1) := by decide +kernel
theorem dX4_endGroup_273 : decode cX4_endGroup 273 = .ok (.iaload, 1) := by decide +kernel
theorem dX4_endGroup_274 : decode cX4_endGroup 274 = .ok (.iastore, 1) := by decide +kernel
theorem dX4_endGroup_275 : decode cX4_endGroup 275 = .ok (.aload_n 0, 1) := by decide +kernel
theorem dX4_endGroup_276 : decode cX4_endGroup 276 = .ok (.dup, 1) := by decide +kernel
theorem dX4_endGroup_277 : decode cX4_endGroup 277 = .ok (.getfield 62, 3) := by decide +kernel
theorem dX4_endGroup_280 : decode cX4_endGroup 280 = .ok (.iconst 1, 1) := by decide +kernel
theorem dX4_endGroup_281 : decode cX4_endGroup 281 = .ok (.iadd, 1) := by decide +kernel
theorem dX4_endGroup_282 : decode cX4_endGroup 282 = .ok (.putfield 62, 3) := by decide +kernel
theorem dX4_endGroup_285 : decode cX4_endGroup 285 = .ok (.iinc 3 1, 3) := by decide +kernel
theorem dX4_endGroup_288 : decode cX4_endGroup 288 = .ok (.goto (-194), 3) := by decide +kernel
theorem dX4_endGroup_291 : decode cX4_endGroup 291 = .ok (.aload_n 0, 1) := by decide +kernel
theorem dX4_endGroup_292 : decode cX4_endGroup 292 = .ok (.iload_n 2, 1) := by decide +kernel
theorem dX4_endGroup_293 : decode cX4_endGroup 293 = .ok (.iconst 0, 1) := by decide +kernel
theorem dX4_endGroup_294 : decode cX4_endGroup 294 = .ok (.invokevirtual 77, 3) := by decide +kernel
theorem dX4_endGroup_297 : decode cX4_endGroup 297 = .ok (.istore_n 2, 1) := by decide +kernel
theorem dX4_endGroup_298 : decode cX4_endGroup 298 = .ok (.aload_n 0, 1) := by decide +kernel
theorem dX4_endGroup_299 : decode cX4_endGroup 299 = .ok (.iload_n 2, 1) := by decide +kernel
theorem dX4_endGroup_300 : decode cX4_endGroup 300 = .ok (.aload_n 0, 1) := by decide +kernel
theorem dX4_endGroup_301 : decode cX4_endGroup 301 = .ok (.getfield 59, 3) := by decide +kernel
theorem dX4_endGroup_304 : decode cX4_endGroup 304 = .ok (.invokevirtual 77, 3) := by decide +kernel
theorem dX4_endGroup_307 : decode cX4_endGroup 307 = .ok (.istore_n 2, 1) := by decide +kernel
theorem dX4_endGroup_308 : decode cX4_endGroup 308 = .ok (.aload_n 0, 1) := by decide +kernel
theorem dX4_endGroup_309 : decode cX4_endGroup 309 = .ok (.iload_n 2, 1) := by decide +kernel
theorem dX4_endGroup_310 : decode cX4_endGroup 310 = .ok (.invokevirtual 80, 3) := by decide +kernel
theorem dX4_endGroup_313 : decode cX4_endGroup 313 = .ok (.aload_n 0, 1) := by decide +kernel
theorem dX4_endGroup_314 : decode cX4_endGroup 314 = .ok (.getfield 13, 3) := by decide +kernel
theorem dX4_endGroup_317 : decode cX4_endGroup 317 = .ok (.iconst 0, 1) := by decide +kernel
theorem dX4_endGroup_318 : decode cX4_endGroup 318 = .ok (.aload_n 0, 1) := by decide +kernel
theorem dX4_endGroup_319 : decode cX4_endGroup 319 = .ok (.getfield 70, 3) := by decide +kernel
theorem dX4_endGroup_322 : decode cX4_endGroup 322 = .ok (.iastore, 1) := by decide +kernel
theorem dX4_endGroup_323 : decode cX4_endGroup 323 = .ok (.aload_n 0, 1) := by decide +kernel
theorem dX4_endGroup_324 : decode cX4_endGroup 324 = .ok (.getfield 13, 3) := by decide +kernel
theorem dX4_endGroup_327 : decode cX4_endGroup 327 = .ok (.iconst 1, 1) := by decide +kernel
theorem dX4_endGroup_328 : decode cX4_endGroup 328 = .ok (.aload_n 0, 1) := by decide +kernel
theorem dX4_endGroup_329 : decode cX4_endGroup 329 = .ok (.getfield 70, 3) := by decide +kernel
theorem dX4_endGroup_332 : decode cX4_endGroup 332 = .ok (.iastore, 1) := by decide +kernel
theorem dX4_endGroup_333 : decode cX4_endGroup 333 = .ok (.aload_n 0, 1) := by decide +kernel
theorem dX4_endGroup_334 : decode cX4_endGroup 334 = .ok (.getfield 26, 3) := by decide +kernel
theorem dX4_endGroup_337 : decode cX4_endGroup 337 = .ok (.aload_n 0, 1) := by decide +kernel
theorem dX4_endGroup_338 : decode cX4_endGroup 338 = .ok (.getfield 84, 3) := by decide +kernel
theorem dX4_endGroup_341 : decode cX4_endGroup 341 = .ok (.aload_n 0, 1) := by decide +kernel
theorem dX4_endGroup_342 : decode cX4_endGroup 342 = .ok (.getfield 59, 3) := by decide +kernel
theorem dX4_endGroup_345 : decode cX4_endGroup 345 = .ok (.iastore, 1) := by decide +kernel
theorem dX4_endGroup_346 : decode cX4_endGroup 346 = .ok (.aload_n 0, 1) := by decide +kernel
theorem dX4_endGroup_347 : decode cX4_endGroup 347 = .ok (.getfield 29, 3) := by decide +kernel
theorem dX4_endGroup_350 : decode cX4_endGroup 350 = .ok (.aload_n 0, 1) := by decide +kernel
theorem dX4_endGroup_351 : decode cX4_endGroup 351 = .ok (.getfield 84, 3) := by decide +kernel
theorem dX4_endGroup_354 : decode cX4_endGroup 354 = .ok (.iload_n 1, 1) := by decide +kernel
theorem dX4_endGroup_355 : decode cX4_endGroup 355 = .ok (.iastore, 1) := by decide +kernel
theorem dX4_endGroup_356 : decode cX4_endGroup 356 = .ok (.aload_n 0, 1) := by decide +kernel
theorem dX4_endGroup_357 : decode cX4_endGroup 357 = .ok (.dup, 1) := by decide +kernel
theorem dX4_endGroup_358 : decode cX4_endGroup 358 = .ok (.getfield 84, 3) := by decide +kernel
theorem dX4_endGroup_361 : decode cX4_endGroup 361 = .ok (.iconst 1, 1) := by decide +kernel
theorem dX4_endGroup_362 : decode cX4_endGroup 362 = .ok (.iadd, 1) := by decide +kernel
theorem dX4_endGroup_363 : decode cX4_endGroup 363 = .ok (.putfield 84, 3) := by decide +kernel
theorem dX4_endGroup_366 : decode cX4_endGroup 366 = .ok (.aload_n 0, 1) := by decide +kernel
theorem dX4_endGroup_367 : decode cX4_endGroup 367 = .ok (.iconst 0, 1) := by decide +kernel
theorem dX4_endGroup_368 : decode cX4_endGroup 368 = .ok (.putfield 59, 3) := by decide +kernel
theorem dX4_endGroup_371 : decode cX4_endGroup 371 = .ok (.iconst 1, 1) := by decide +kernel
theorem dX4_endGroup_372 : decode cX4_endGroup 372 = .ok (.ireturn, 1) := by decide +kernel
theorem dX4_forget_0 : decode cX4_forget 0 = .ok (.aload_n 0, 1) := by decide +kernel
theorem dX4_forget_1 : decode cX4_forget 1 = .ok (.iconst 0, 1) := by decide +kernel
theorem dX4_forget_2 : decode cX4_forget 2 = .ok (.putfield 56, 3) := by decide +kernel
theorem dX4_forget_5 : decode cX4_forget 5 = .ok (.aload_n 0, 1) := by decide +kernel
theorem dX4_forget_6 : decode cX4_forget 6 = .ok (.iconst 0, 1) := by decide +kernel
theorem dX4_forget_7 : decode cX4_forget 7 = .ok (.putfield 59, 3) := by decide +kernel
theorem dX4_forget_10 : decode cX4_forget 10 = .ok (.aload_n 0, 1) := by decide +kernel
theorem dX4_forget_11 : decode cX4_forget 11 = .ok (.aload_n 0, 1) := by decide +kernel
theorem dX4_forget_12 : decode cX4_forget 12 = .ok (.getfield 87, 3) := by decide +kernel
theorem dX4_forget_15 : decode cX4_forget 15 = .ok (.putfield 62, 3) := by decide +kernel
theorem dX4_forget_18 : decode cX4_forget 18 = .ok (.aload_n 0, 1) := by decide +kernel
theorem dX4_forget_19 : decode cX4_forget 19 = .ok (.iconst 0, 1) := by decide +kernel
theorem dX4_forget_20 : decode cX4_forget 20 = .ok (.putfield 84, 3) := by decide +kernel
theorem dX4_forget_23 : decode cX4_forget 23 = .ok (.return_, 1) := by decide +kernel
theorem dX4_crash_0 : decode cX4_crash 0 = .ok (.aload_n 0, 1) := by decide +kernel
theorem dX4_crash_1 : decode cX4_crash 1 = .ok (.iconst 0, 1) := by decide +kernel
theorem dX4_crash_2 : decode cX4_crash 2 = .ok (.putfield 48, 3) := by decide +kernel
theorem dX4_crash_5 : decode cX4_crash 5 = .ok (.iload_n 1, 1) := by decide +kernel
theorem dX4_crash_6 : decode cX4_crash 6 = .ok (.ifCond .lt 22, 3) := by decide +kernel
theorem dX4_crash_9 : decode cX4_crash 9 = .ok (.iload_n 1, 1) := by decide +kernel
theorem dX4_crash_10 : decode cX4_crash 10 = .ok (.iconst 1, 1) := by decide +kernel
theorem dX4_crash_11 : decode cX4_crash 11 = .ok (.if_icmp .gt 17, 3) := by decide +kernel
theorem dX4_crash_14 : decode cX4_crash 14 = .ok (.iload_n 2, 1) := by decide +kernel
theorem dX4_crash_15 : decode cX4_crash 15 = .ok (.ifCond .lt 13, 3) := by decide +kernel
theorem dX4_crash_18 : decode cX4_crash 18 = .ok (.iload_n 2, 1) := by decide +kernel
theorem dX4_crash_19 : decode cX4_crash 19 = .ok (.aload_n 0, 1) := by decide +kernel
theorem dX4_crash_20 : decode cX4_crash 20 = .ok (.getfield 13, 3) := by decide +kernel
theorem dX4_crash_23 : decode cX4_crash 23 = .ok (.iload_n 1, 1) := by decide +kernel
theorem dX4_crash_24 : decode cX4_crash 24 = .ok (.iaload, 1) := by decide +kernel
theorem dX4_crash_25 : decode cX4_crash 25 = .ok (.if_icmp .le 5, 3) := by decide +kernel
theorem dX4_crash_28 : decode cX4_crash 28 = .ok (.iconst 0, 1) := by decide +kernel
theorem dX4_crash_29 : decode cX4_crash 29 = .ok (.ireturn, 1) := by decide +kernel
theorem dX4_crash_30 : decode cX4_crash 30 = .ok (.aload_n 0, 1) := by decide +kernel
theorem dX4_crash_31 : decode cX4_crash 31 = .ok (.getfield 13, 3) := by decide +kernel
theorem dX4_crash_34 : decode cX4_crash 34 = .ok (.iload_n 1, 1) := by decide +kernel
theorem dX4_crash_35 : decode cX4_crash 35 = .ok (.iload_n 2, 1) := by decide +kernel
theorem dX4_crash_36 : decode cX4_crash 36 = .ok (.iastore, 1) := by decide +kernel
theorem dX4_crash_37 : decode cX4_crash 37 = .ok (.aload_n 0, 1) := by decide +kernel
theorem dX4_crash_38 : decode cX4_crash 38 = .ok (.invokevirtual 90, 3) := by decide +kernel
theorem dX4_crash_41 : decode cX4_crash 41 = .ok (.aload_n 0, 1) := by decide +kernel
theorem dX4_crash_42 : decode cX4_crash 42 = .ok (.iconst 1, 1) := by decide +kernel
theorem dX4_crash_43 : decode cX4_crash 43 = .ok (.putfield 52, 3) := by decide +kernel
theorem dX4_crash_46 : decode cX4_crash 46 = .ok (.iconst 1, 1) := by decide +kernel
theorem dX4_crash_47 : decode cX4_crash 47 = .ok (.ireturn, 1) := by decide +kernel
theorem dX4_poke_0 : decode cX4_poke 0 = .ok (.aload_n 0, 1) := by decide +kernel
theorem dX4_poke_1 : decode cX4_poke 1 = .ok (.iconst 0, 1) := by decide +kernel
theorem dX4_poke_2 : decode cX4_poke 2 = .ok (.putfield 48, 3) := by decide +kernel
theorem dX4_poke_5 : decode cX4_poke 5 = .ok (.iload_n 1, 1) := by decide +kernel
theorem dX4_poke_6 : decode cX4_poke 6 = .ok (.ifCond .lt 34, 3) := by decide +kernel
theorem dX4_poke_9 : decode cX4_poke 9 = .ok (.iload_n 1, 1) := by decide +kernel
theorem dX4_poke_10 : decode cX4_poke 10 = .ok (.iconst 1, 1) := by decide +kernel
theorem dX4_poke_11 : decode cX4_poke 11 = .ok (.if_icmp .gt 29, 3) := by decide +kernel
theorem dX4_poke_14 : decode cX4_poke 14 = .ok (.iload_n 2, 1) := by decide +kernel
theorem dX4_poke_15 : decode cX4_poke 15 = .ok (.ifCond .lt 25, 3) := by decide +kernel
theorem dX4_poke_18 : decode cX4_poke 18 = .ok (.iload_n 2, 1) := by decide +kernel
theorem dX4_poke_19 : decode cX4_poke 19 = .ok (.aload_n 0, 1) := by decide +kernel
theorem dX4_poke_20 : decode cX4_poke 20 = .ok (.getfield 13, 3) := by decide +kernel
theorem dX4_poke_23 : decode cX4_poke 23 = .ok (.iload_n 1, 1) := by decide +kernel
theorem dX4_poke_24 : decode cX4_poke 24 = .ok (.iaload, 1) := by decide +kernel
theorem dX4_poke_25 : decode cX4_poke 25 = .ok (.if_icmp .ge 15, 3) := by decide +kernel
theorem dX4_poke_28 : decode cX4_poke 28 = .ok (.iload_n 3, 1) := by decide +kernel
theorem dX4_poke_29 : decode cX4_poke 29 = .ok (.iconst 1, 1) := by decide +kernel
theorem dX4_poke_30 : decode cX4_poke 30 = .ok (.if_icmp .lt 10, 3) := by decide +kernel
theorem dX4_poke_33 : decode cX4_poke 33 = .ok (.iload_n 3, 1) := by decide +kernel
theorem dX4_poke_34 : decode cX4_poke 34 = .ok (.sipush 255, 3) := by decide +kernel
theorem dX4_poke_37 : decode cX4_poke 37 = .ok (.if_icmp .le 5, 3) := by decide +kernel
theorem dX4_poke_40 : decode cX4_poke 40 = .ok (.iconst 0, 1) := by decide +kernel
theorem dX4_poke_41 : decode cX4_poke 41 = .ok (.ireturn, 1) := by decide +kernel
theorem dX4_poke_42 : decode cX4_poke 42 = .ok (.aload_n 0, 1) := by decide +kernel
theorem dX4_poke_43 : decode cX4_poke 43 = .ok (.getfield 9, 3) := by decide +kernel
theorem dX4_poke_46 : decode cX4_poke 46 = .ok (.iload_n 1, 1) := by decide +kernel
theorem dX4_poke_47 : decode cX4_poke 47 = .ok (.sipush 8192, 3) := by decide +kernel
theorem dX4_poke_50 : decode cX4_poke 50 = .ok (.imul, 1) := by decide +kernel
theorem dX4_poke_51 : decode cX4_poke 51 = .ok (.iload_n 2, 1) := by decide +kernel
theorem dX4_poke_52 : decode cX4_poke 52 = .ok (.iadd, 1) := by decide +kernel
theorem dX4_poke_53 : decode cX4_poke 53 = .ok (.dup2, 1) := by decide +kernel
theorem dX4_poke_54 : decode cX4_poke 54 = .ok (.iaload, 1) := by decide +kernel
theorem dX4_poke_55 : decode cX4_poke 55 = .ok (.iload_n 3, 1) := by decide +kernel
theorem dX4_poke_56 : decode cX4_poke 56 = .ok (.ixor, 1) := by decide +kernel
theorem dX4_poke_57 : decode cX4_poke 57 = .ok (.iastore, 1) := by decide +kernel
theorem dX4_poke_58 : decode cX4_poke 58 = .ok (.iconst 1, 1) := by decide +kernel
theorem dX4_poke_59 : decode cX4_poke 59 = .ok (.ireturn, 1) := by decide +kernel
theorem dX4_same_0 : decode cX4_same 0 = .ok (.aload_n 0, 1) := by decide +kernel
theorem dX4_same_1 : decode cX4_same 1 = .ok (.iconst 0, 1) := by decide +kernel
theorem dX4_same_2 : decode cX4_same 2 = .ok (.putfield 48, 3) := by decide +kernel
theorem dX4_same_5 : decode cX4_same 5 = .ok (.aload_n 0, 1) := by decide +kernel
theorem dX4_same_6 : decode cX4_same 6 = .ok (.iconst 0, 1) := by decide +kernel
theorem dX4_same_7 : decode cX4_same 7 = .ok (.aload_n 0, 1) := by decide +kernel
theorem dX4_same_8 : decode cX4_same 8 = .ok (.getfield 13, 3) := by decide +kernel
theorem dX4_same_11 : decode cX4_same 11 = .ok (.iconst 0, 1) := by decide +kernel
theorem dX4_same_12 : decode cX4_same 12 = .ok (.iaload, 1) := by decide +kernel
theorem dX4_same_13 : decode cX4_same 13 = .ok (.invokevirtual 93, 3) := by decide +kernel
theorem dX4_same_16 : decode cX4_same 16 = .ok (.ifCond .eq 22, 3) := by decide +kernel
theorem dX4_same_19 : decode cX4_same 19 = .ok (.aload_n 0, 1) := by decide +kernel
theorem dX4_same_20 : decode cX4_same 20 = .ok (.getfield 13, 3) := by decide +kernel
theorem dX4_same_23 : decode cX4_same 23 = .ok (.iconst 0, 1) := by decide +kernel
theorem dX4_same_24 : decode cX4_same 24 = .ok (.iaload, 1) := by decide +kernel
theorem dX4_same_25 : decode cX4_same 25 = .ok (.aload_n 0, 1) := by decide +kernel
theorem dX4_same_26 : decode cX4_same 26 = .ok (.getfield 13, 3) := by decide +kernel
theorem dX4_same_29 : decode cX4_same 29 = .ok (.iconst 1, 1) := by decide +kernel
theorem dX4_same_30 : decode cX4_same 30 = .ok (.iaload, 1) := by decide +kernel
theorem dX4_same_31 : decode cX4_same 31 = .ok (.if_icmp .ne 7, 3) := by decide +kernel
theorem dX4_same_34 : decode cX4_same 34 = .ok (.iconst 1, 1) := by decide +kernel
theorem dX4_same_35 : decode cX4_same 35 = .ok (.goto 4, 3) := by decide +kernel
theorem dX4_same_38 : decode cX4_same 38 = .ok (.iconst 0, 1) := by decide +kernel
theorem dX4_same_39 : decode cX4_same 39 = .ok (.ireturn, 1) := by decide +kernel
theorem dX4_areSame_0 : decode cX4_areSame 0 = .ok (.iconst 1, 1) := by decide +kernel
theorem dX4_areSame_1 : decode cX4_areSame 1 = .ok (.istore_n 3, 1) := by decide +kernel
theorem dX4_areSame_2 : decode cX4_areSame 2 = .ok (.iload_n 1, 1) := by decide +kernel
theorem dX4_areSame_3 : decode cX4_areSame 3 = .ok (.istore 4, 2) := by decide +kernel
theorem dX4_areSame_5 : decode cX4_areSame 5 = .ok (.iload 4, 2) := by decide +kernel
theorem dX4_areSame_7 : decode cX4_areSame 7 = .ok (.iload_n 2, 1) := by decide +kernel
theorem dX4_areSame_8 : decode cX4_areSame 8 = .ok (.if_icmp .ge 62, 3) := by decide +kernel
theorem dX4_areSame_11 : decode cX4_areSame 11 = .ok (.iload_n 3, 1) := by decide +kernel
theorem dX4_areSame_12 : decode cX4_areSame 12 = .ok (.ifCond .eq 58, 3) := by decide +kernel
theorem dX4_areSame_15 : decode cX4_areSame 15 = .ok (.iload 4, 2) := by decide +kernel
theorem dX4_areSame_17 : decode cX4_areSame 17 = .ok (.aload_n 0, 1) := by decide +kernel
theorem dX4_areSame_18 : decode cX4_areSame 18 = .ok (.getfield 13, 3) := by decide +kernel
theorem dX4_areSame_21 : decode cX4_areSame 21 = .ok (.iconst 0, 1) := by decide +kernel
theorem dX4_areSame_22 : decode cX4_areSame 22 = .ok (.iaload, 1) := by decide +kernel
theorem dX4_areSame_23 : decode cX4_areSame 23 = .ok (.if_icmp .ge 39, 3) := by decide +kernel
theorem dX4_areSame_26 : decode cX4_areSame 26 = .ok (.iload 4, 2) := by decide +kernel
theorem dX4_areSame_28 : decode cX4_areSame 28 = .ok (.aload_n 0, 1) := by decide +kernel
theorem dX4_areSame_29 : decode cX4_areSame 29 = .ok (.getfield 13, 3) := by decide +kernel
theorem dX4_areSame_32 : decode cX4_areSame 32 = .ok (.iconst 1, 1) := by decide +kernel
theorem dX4_areSame_33 : decode cX4_areSame 33 = .ok (.iaload, 1) := by decide +kernel
theorem dX4_areSame_34 : decode cX4_areSame 34 = .ok (.if_icmp .ge 28, 3) := by decide +kernel
theorem dX4_areSame_37 : decode cX4_areSame 37 = .ok (.aload_n 0, 1) := by decide +kernel
theorem dX4_areSame_38 : decode cX4_areSame 38 = .ok (.getfield 9, 3) := by decide +kernel
theorem dX4_areSame_41 : decode cX4_areSame 41 = .ok (.iload 4, 2) := by decide +kernel
theorem dX4_areSame_43 : decode cX4_areSame 43 = .ok (.iaload, 1) := by decide +kernel
theorem dX4_areSame_44 : decode cX4_areSame 44 = .ok (.aload_n 0, 1) := by decide +kernel
theorem dX4_areSame_45 : decode cX4_areSame 45 = .ok (.getfield 9, 3) := by decide +kernel
theorem dX4_areSame_48 : decode cX4_areSame 48 = .ok (.sipush 8192, 3) := by decide +kernel
theorem dX4_areSame_51 : decode cX4_areSame 51 = .ok (.iload 4, 2) := by decide +kernel
theorem dX4_areSame_53 : decode cX4_areSame 53 = .ok (.iadd, 1) := by decide +kernel
theorem dX4_areSame_54 : decode cX4_areSame 54 = .ok (.iaload, 1) := by decide +kernel
theorem dX4_areSame_55 : decode cX4_areSame 55 = .ok (.if_icmp .ne 7, 3) := by decide +kernel
theorem dX4_areSame_58 : decode cX4_areSame 58 = .ok (.iconst 1, 1) := by decide +kernel
theorem dX4_areSame_59 : decode cX4_areSame 59 = .ok (.goto 4, 3) := by decide +kernel
theorem dX4_areSame_62 : decode cX4_areSame 62 = .ok (.iconst 0, 1) := by decide +kernel
theorem dX4_areSame_63 : decode cX4_areSame 63 = .ok (.istore_n 3, 1) := by decide +kernel
theorem dX4_areSame_64 : decode cX4_areSame 64 = .ok (.iinc 4 1, 3) := by decide +kernel
theorem dX4_areSame_67 : decode cX4_areSame 67 = .ok (.goto (-62), 3) := by decide +kernel
theorem dX4_areSame_70 : decode cX4_areSame 70 = .ok (.iload_n 3, 1) := by decide +kernel
theorem dX4_areSame_71 : decode cX4_areSame 71 = .ok (.ireturn, 1) := by decide +kernel
theorem dX4_number_0 : decode cX4_number 0 = .ok (.iconst 0, 1) := by decide +kernel
theorem dX4_number_1 : decode cX4_number 1 = .ok (.istore 4, 2) := by decide +kernel
theorem dX4_number_3 : decode cX4_number 3 = .ok (.iconst 0, 1) := by decide +kernel
theorem dX4_number_4 : decode cX4_number 4 = .ok (.istore 5, 2) := by decide +kernel
theorem dX4_number_6 : decode cX4_number 6 = .ok (.iload 5, 2) := by decide +kernel
theorem dX4_number_8 : decode cX4_number 8 = .ok (.iload_n 3, 1) := by decide +kernel
theorem dX4_number_9 : decode cX4_number 9 = .ok (.if_icmp .ge 32, 3) := by decide +kernel
theorem dX4_number_12 : decode cX4_number 12 = .ok (.iload 4, 2) := by decide +kernel
theorem dX4_number_14 : decode cX4_number 14 = .ok (.bipush 8, 2) := by decide +kernel
theorem dX4_number_16 : decode cX4_number 16 = .ok (.ishl, 1) := by decide +kernel
theorem dX4_number_17 : decode cX4_number 17 = .ok (.aload_n 0, 1) := by decide +kernel
theorem dX4_number_18 : decode cX4_number 18 = .ok (.getfield 9, 3) := by decide +kernel
theorem dX4_number_21 : decode cX4_number 21 = .ok (.iload_n 1, 1) := by decide +kernel
theorem dX4_number_22 : decode cX4_number 22 = .ok (.sipush 8192, 3) := by decide +kernel
theorem dX4_number_25 : decode cX4_number 25 = .ok (.imul, 1) := by decide +kernel
theorem dX4_number_26 : decode cX4_number 26 = .ok (.iload_n 2, 1) := by decide +kernel
theorem dX4_number_27 : decode cX4_number 27 = .ok (.iadd, 1) := by decide +kernel
theorem dX4_number_28 : decode cX4_number 28 = .ok (.iload 5, 2) := by decide +kernel
theorem dX4_number_30 : decode cX4_number 30 = .ok (.iadd, 1) := by decide +kernel
theorem dX4_number_31 : decode cX4_number 31 = .ok (.iaload, 1) := by decide +kernel
theorem dX4_number_32 : decode cX4_number 32 = .ok (.ior, 1) := by decide +kernel
theorem dX4_number_33 : decode cX4_number 33 = .ok (.istore 4, 2) := by decide +kernel
theorem dX4_number_35 : decode cX4_number 35 = .ok (.iinc 5 1, 3) := by decide +kernel
theorem dX4_number_38 : decode cX4_number 38 = .ok (.goto (-32), 3) := by decide +kernel
theorem dX4_number_41 : decode cX4_number 41 = .ok (.iload 4, 2) := by decide +kernel
theorem dX4_number_43 : decode cX4_number 43 = .ok (.ireturn, 1) := by decide +kernel
theorem dX4_sumOf_0 : decode cX4_sumOf 0 = .ok (.iload 4, 2) := by decide +kernel
theorem dX4_sumOf_2 : decode cX4_sumOf 2 = .ok (.istore 5, 2) := by decide +kernel
theorem dX4_sumOf_4 : decode cX4_sumOf 4 = .ok (.iload_n 2, 1) := by decide +kernel
theorem dX4_sumOf_5 : decode cX4_sumOf 5 = .ok (.istore 6, 2) := by decide +kernel
theorem dX4_sumOf_7 : decode cX4_sumOf 7 = .ok (.iload 6, 2) := by decide +kernel
theorem dX4_sumOf_9 : decode cX4_sumOf 9 = .ok (.iload_n 3, 1) := by decide +kernel
theorem dX4_sumOf_10 : decode cX4_sumOf 10 = .ok (.if_icmp .ge 29, 3) := by decide +kernel
theorem dX4_sumOf_13 : decode cX4_sumOf 13 = .ok (.iload 5, 2) := by decide +kernel
theorem dX4_sumOf_15 : decode cX4_sumOf 15 = .ok (.aload_n 0, 1) := by decide +kernel
theorem dX4_sumOf_16 : decode cX4_sumOf 16 = .ok (.getfield 9, 3) := by decide +kernel
theorem dX4_sumOf_19 : decode cX4_sumOf 19 = .ok (.iload_n 1, 1) := by decide +kernel
theorem dX4_sumOf_20 : decode cX4_sumOf 20 = .ok (.sipush 8192, 3) := by decide +kernel
theorem dX4_sumOf_23 : decode cX4_sumOf 23 = .ok (.imul, 1) := by decide +kernel
theorem dX4_sumOf_24 : decode cX4_sumOf 24 = .ok (.iload 6, 2) := by decide +kernel
theorem dX4_sumOf_26 : decode cX4_sumOf 26 = .ok (.iadd, 1) := by decide +kernel
theorem dX4_sumOf_27 : decode cX4_sumOf 27 = .ok (.iaload, 1) := by decide +kernel
theorem dX4_sumOf_28 : decode cX4_sumOf 28 = .ok (.invokestatic 73, 3) := by decide +kernel
theorem dX4_sumOf_31 : decode cX4_sumOf 31 = .ok (.istore 5, 2) := by decide +kernel
theorem dX4_sumOf_33 : decode cX4_sumOf 33 = .ok (.iinc 6 1, 3) := by decide +kernel
theorem dX4_sumOf_36 : decode cX4_sumOf 36 = .ok (.goto (-29), 3) := by decide +kernel
theorem dX4_sumOf_39 : decode cX4_sumOf 39 = .ok (.iload 5, 2) := by decide +kernel
theorem dX4_sumOf_41 : decode cX4_sumOf 41 = .ok (.ireturn, 1) := by decide +kernel
theorem dX4_isGood_0 : decode cX4_isGood 0 = .ok (.iload_n 2, 1) := by decide +kernel
theorem dX4_isGood_1 : decode cX4_isGood 1 = .ok (.istore_n 3, 1) := by decide +kernel
theorem dX4_isGood_2 : decode cX4_isGood 2 = .ok (.iconst 0, 1) := by decide +kernel
theorem dX4_isGood_3 : decode cX4_isGood 3 = .ok (.istore 4, 2) := by decide +kernel
theorem dX4_isGood_5 : decode cX4_isGood 5 = .ok (.aload_n 0, 1) := by decide +kernel
theorem dX4_isGood_6 : decode cX4_isGood 6 = .ok (.getfield 62, 3) := by decide +kernel
theorem dX4_isGood_9 : decode cX4_isGood 9 = .ok (.ifCond .le 17, 3) := by decide +kernel
theorem dX4_isGood_12 : decode cX4_isGood 12 = .ok (.aload_n 0, 1) := by decide +kernel
theorem dX4_isGood_13 : decode cX4_isGood 13 = .ok (.getfield 16, 3) := by decide +kernel
theorem dX4_isGood_16 : decode cX4_isGood 16 = .ok (.aload_n 0, 1) := by decide +kernel
theorem dX4_isGood_17 : decode cX4_isGood 17 = .ok (.getfield 62, 3) := by decide +kernel
theorem dX4_isGood_20 : decode cX4_isGood 20 = .ok (.iconst 1, 1) := by decide +kernel
theorem dX4_isGood_21 : decode cX4_isGood 21 = .ok (.isub, 1) := by decide +kernel
theorem dX4_isGood_22 : decode cX4_isGood 22 = .ok (.iaload, 1) := by decide +kernel
theorem dX4_isGood_23 : decode cX4_isGood 23 = .ok (.goto 4, 3) := by decide +kernel
theorem dX4_isGood_26 : decode cX4_isGood 26 = .ok (.iconst 0, 1) := by decide +kernel
theorem dX4_isGood_27 : decode cX4_isGood 27 = .ok (.istore 5, 2) := by decide +kernel
theorem dX4_isGood_29 : decode cX4_isGood 29 = .ok (.iconst 0, 1) := by decide +kernel
theorem dX4_isGood_30 : decode cX4_isGood 30 = .ok (.istore 6, 2) := by decide +kernel
theorem dX4_isGood_32 : decode cX4_isGood 32 = .ok (.iload_n 3, 1) := by decide +kernel
theorem dX4_isGood_33 : decode cX4_isGood 33 = .ok (.aload_n 0, 1) := by decide +kernel
theorem dX4_isGood_34 : decode cX4_isGood 34 = .ok (.getfield 13, 3) := by decide +kernel
theorem dX4_isGood_37 : decode cX4_isGood 37 = .ok (.iload_n 1, 1) := by decide +kernel
theorem dX4_isGood_38 : decode cX4_isGood 38 = .ok (.iaload, 1) := by decide +kernel
theorem dX4_isGood_39 : decode cX4_isGood 39 = .ok (.if_icmp .ge 165, 3) := by decide +kernel
theorem dX4_isGood_42 : decode cX4_isGood 42 = .ok (.aload_n 0, 1) := by decide +kernel
theorem dX4_isGood_43 : decode cX4_isGood 43 = .ok (.getfield 9, 3) := by decide +kernel
theorem dX4_isGood_46 : decode cX4_isGood 46 = .ok (.iload_n 1, 1) := by decide +kernel
theorem dX4_isGood_47 : decode cX4_isGood 47 = .ok (.sipush 8192, 3) := by decide +kernel
theorem dX4_isGood_50 : decode cX4_isGood 50 = .ok (.imul, 1) := by decide +kernel
theorem dX4_isGood_51 : decode cX4_isGood 51 = .ok (.iload_n 3, 1) := by decide +kernel
theorem dX4_isGood_52 : decode cX4_isGood 52 = .ok (.iadd, 1) := by decide +kernel
theorem dX4_isGood_53 : decode cX4_isGood 53 = .ok (.iaload, 1) := by decide +kernel
theorem dX4_isGood_54 : decode cX4_isGood 54 = .ok (.ifCond .eq 150, 3) := by decide +kernel
theorem dX4_isGood_57 : decode cX4_isGood 57 = .ok (.aload_n 0, 1) := by decide +kernel
theorem dX4_isGood_58 : decode cX4_isGood 58 = .ok (.getfield 9, 3) := by decide +kernel
theorem dX4_isGood_61 : decode cX4_isGood 61 = .ok (.iload_n 1, 1) := by decide +kernel
theorem dX4_isGood_62 : decode cX4_isGood 62 = .ok (.sipush 8192, 3) := by decide +kernel
theorem dX4_isGood_65 : decode cX4_isGood 65 = .ok (.imul, 1) := by decide +kernel
theorem dX4_isGood_66 : decode cX4_isGood 66 = .ok (.iload_n 3, 1) := by decide +kernel
theorem dX4_isGood_67 : decode cX4_isGood 67 = .ok (.iadd, 1) := by decide +kernel
theorem dX4_isGood_68 : decode cX4_isGood 68 = .ok (.iaload, 1) := by decide +kernel
theorem dX4_isGood_69 : decode cX4_isGood 69 = .ok (.istore 7, 2) := by decide +kernel
