theorem dX0_write_0 : decode cX0_write 0 = .ok (.iconst 0, 1) := by decide +kernel
theorem dX0_write_1 : decode cX0_write 1 = .ok (.istore_n 3, 1) := by decide +kernel
theorem dX0_write_2 : decode cX0_write 2 = .ok (.iload_n 2, 1) := by decide +kernel
theorem dX0_write_3 : decode cX0_write 3 = .ok (.istore 4, 2) := by decide +kernel
theorem dX0_write_5 : decode cX0_write 5 = .ok (.iload 4, 2) := by decide +kernel
theorem dX0_write_7 : decode cX0_write 7 = .ok (.aload_n 1, 1) := by decide +kernel
theorem dX0_write_8 : decode cX0_write 8 = .ok (.invokevirtual 9, 3) := by decide +kernel
theorem dX0_write_11 : decode cX0_write 11 = .ok (.if_icmp .ge 17, 3) := by decide +kernel
theorem dX0_write_14 : decode cX0_write 14 = .ok (.aload_n 0, 1) := by decide +kernel
theorem dX0_write_15 : decode cX0_write 15 = .ok (.aload_n 1, 1) := by decide +kernel
theorem dX0_write_16 : decode cX0_write 16 = .ok (.iload 4, 2) := by decide +kernel
theorem dX0_write_18 : decode cX0_write 18 = .ok (.invokestatic 15, 3) := by decide +kernel
theorem dX0_write_21 : decode cX0_write 21 = .ok (.istore_n 3, 1) := by decide +kernel
theorem dX0_write_22 : decode cX0_write 22 = .ok (.iinc 4 1, 3) := by decide +kernel
theorem dX0_write_25 : decode cX0_write 25 = .ok (.goto (-20), 3) := by decide +kernel
theorem dX0_write_28 : decode cX0_write 28 = .ok (.aload_n 0, 1) := by decide +kernel
theorem dX0_write_29 : decode cX0_write 29 = .ok (.invokevirtual 21, 3) := by decide +kernel
theorem dX0_write_32 : decode cX0_write 32 = .ok (.istore 4, 2) := by decide +kernel
theorem dX0_write_34 : decode cX0_write 34 = .ok (.aload_n 0, 1) := by decide +kernel
theorem dX0_write_35 : decode cX0_write 35 = .ok (.iconst 0, 1) := by decide +kernel
theorem dX0_write_36 : decode cX0_write 36 = .ok (.invokevirtual 26, 3) := by decide +kernel
theorem dX0_write_39 : decode cX0_write 39 = .ok (.aload_n 0, 1) := by decide +kernel
theorem dX0_write_40 : decode cX0_write 40 = .ok (.aload_n 1, 1) := by decide +kernel
theorem dX0_write_41 : decode cX0_write 41 = .ok (.invokevirtual 9, 3) := by decide +kernel
theorem dX0_write_44 : decode cX0_write 44 = .ok (.iload_n 2, 1) := by decide +kernel
theorem dX0_write_45 : decode cX0_write 45 = .ok (.isub, 1) := by decide +kernel
theorem dX0_write_46 : decode cX0_write 46 = .ok (.invokevirtual 26, 3) := by decide +kernel
theorem dX0_write_49 : decode cX0_write 49 = .ok (.aload_n 0, 1) := by decide +kernel
theorem dX0_write_50 : decode cX0_write 50 = .ok (.aload_n 0, 1) := by decide +kernel
theorem dX0_write_51 : decode cX0_write 51 = .ok (.iload 4, 2) := by decide +kernel
theorem dX0_write_53 : decode cX0_write 53 = .ok (.iload 4, 2) := by decide +kernel
theorem dX0_write_55 : decode cX0_write 55 = .ok (.iconst 2, 1) := by decide +kernel
theorem dX0_write_56 : decode cX0_write 56 = .ok (.iadd, 1) := by decide +kernel
theorem dX0_write_57 : decode cX0_write 57 = .ok (.iload_n 3, 1) := by decide +kernel
theorem dX0_write_58 : decode cX0_write 58 = .ok (.invokevirtual 30, 3) := by decide +kernel
theorem dX0_write_61 : decode cX0_write 61 = .ok (.iconst 4, 1) := by decide +kernel
theorem dX0_write_62 : decode cX0_write 62 = .ok (.invokevirtual 34, 3) := by decide +kernel
theorem dX0_write_65 : decode cX0_write 65 = .ok (.return_, 1) := by decide +kernel
theorem dX0_writeRow_0 : decode cX0_writeRow 0 = .ok (.aload_n 0, 1) := by decide +kernel
theorem dX0_writeRow_1 : decode cX0_writeRow 1 = .ok (.invokevirtual 21, 3) := by decide +kernel
theorem dX0_writeRow_4 : decode cX0_writeRow 4 = .ok (.istore_n 3, 1) := by decide +kernel
theorem dX0_writeRow_5 : decode cX0_writeRow 5 = .ok (.aload_n 1, 1) := by decide +kernel
theorem dX0_writeRow_6 : decode cX0_writeRow 6 = .ok (.iload_n 2, 1) := by decide +kernel
theorem dX0_writeRow_7 : decode cX0_writeRow 7 = .ok (.invokevirtual 38, 3) := by decide +kernel
theorem dX0_writeRow_10 : decode cX0_writeRow 10 = .ok (.istore 4, 2) := by decide +kernel
theorem dX0_writeRow_12 : decode cX0_writeRow 12 = .ok (.aload_n 0, 1) := by decide +kernel
theorem dX0_writeRow_13 : decode cX0_writeRow 13 = .ok (.iload 4, 2) := by decide +kernel
theorem dX0_writeRow_15 : decode cX0_writeRow 15 = .ok (.invokevirtual 26, 3) := by decide +kernel
theorem dX0_writeRow_18 : decode cX0_writeRow 18 = .ok (.aload_n 0, 1) := by decide +kernel
theorem dX0_writeRow_19 : decode cX0_writeRow 19 = .ok (.aload_n 1, 1) := by decide +kernel
theorem dX0_writeRow_20 : decode cX0_writeRow 20 = .ok (.iload_n 2, 1) := by decide +kernel
theorem dX0_writeRow_21 : decode cX0_writeRow 21 = .ok (.invokevirtual 42, 3) := by decide +kernel
theorem dX0_writeRow_24 : decode cX0_writeRow 24 = .ok (.iconst 4, 1) := by decide +kernel
theorem dX0_writeRow_25 : decode cX0_writeRow 25 = .ok (.invokevirtual 34, 3) := by decide +kernel
theorem dX0_writeRow_28 : decode cX0_writeRow 28 = .ok (.iconst 0, 1) := by decide +kernel
theorem dX0_writeRow_29 : decode cX0_writeRow 29 = .ok (.istore 5, 2) := by decide +kernel
theorem dX0_writeRow_31 : decode cX0_writeRow 31 = .ok (.iload 5, 2) := by decide +kernel
theorem dX0_writeRow_33 : decode cX0_writeRow 33 = .ok (.iload 4, 2) := by decide +kernel
theorem dX0_writeRow_35 : decode cX0_writeRow 35 = .ok (.if_icmp .ge 20, 3) := by decide +kernel
theorem dX0_writeRow_38 : decode cX0_writeRow 38 = .ok (.aload_n 0, 1) := by decide +kernel
theorem dX0_writeRow_39 : decode cX0_writeRow 39 = .ok (.aload_n 1, 1) := by decide +kernel
theorem dX0_writeRow_40 : decode cX0_writeRow 40 = .ok (.iload_n 2, 1) := by decide +kernel
theorem dX0_writeRow_41 : decode cX0_writeRow 41 = .ok (.iload 5, 2) := by decide +kernel
theorem dX0_writeRow_43 : decode cX0_writeRow 43 = .ok (.invokevirtual 45, 3) := by decide +kernel
theorem dX0_writeRow_46 : decode cX0_writeRow 46 = .ok (.invokevirtual 26, 3) := by decide +kernel
theorem dX0_writeRow_49 : decode cX0_writeRow 49 = .ok (.iinc 5 1, 3) := by decide +kernel
theorem dX0_writeRow_52 : decode cX0_writeRow 52 = .ok (.goto (-21), 3) := by decide +kernel
theorem dX0_writeRow_55 : decode cX0_writeRow 55 = .ok (.aload_n 0, 1) := by decide +kernel
theorem dX0_writeRow_56 : decode cX0_writeRow 56 = .ok (.iload_n 2, 1) := by decide +kernel
theorem dX0_writeRow_57 : decode cX0_writeRow 57 = .ok (.iconst 2, 1) := by decide +kernel
theorem dX0_writeRow_58 : decode cX0_writeRow 58 = .ok (.invokevirtual 34, 3) := by decide +kernel
theorem dX0_writeRow_61 : decode cX0_writeRow 61 = .ok (.aload_n 0, 1) := by decide +kernel
theorem dX0_writeRow_62 : decode cX0_writeRow 62 = .ok (.iload_n 3, 1) := by decide +kernel
theorem dX0_writeRow_63 : decode cX0_writeRow 63 = .ok (.aload_n 0, 1) := by decide +kernel
theorem dX0_writeRow_64 : decode cX0_writeRow 64 = .ok (.invokevirtual 21, 3) := by decide +kernel
theorem dX0_writeRow_67 : decode cX0_writeRow 67 = .ok (.iconst 0, 1) := by decide +kernel
theorem dX0_writeRow_68 : decode cX0_writeRow 68 = .ok (.invokevirtual 30, 3) := by decide +kernel
theorem dX0_writeRow_71 : decode cX0_writeRow 71 = .ok (.istore 5, 2) := by decide +kernel
theorem dX0_writeRow_73 : decode cX0_writeRow 73 = .ok (.aload_n 0, 1) := by decide +kernel
theorem dX0_writeRow_74 : decode cX0_writeRow 74 = .ok (.iload 5, 2) := by decide +kernel
theorem dX0_writeRow_76 : decode cX0_writeRow 76 = .ok (.iconst 4, 1) := by decide +kernel
theorem dX0_writeRow_77 : decode cX0_writeRow 77 = .ok (.invokevirtual 34, 3) := by decide +kernel
theorem dX0_writeRow_80 : decode cX0_writeRow 80 = .ok (.iload 5, 2) := by decide +kernel
theorem dX0_writeRow_82 : decode cX0_writeRow 82 = .ok (.ireturn, 1) := by decide +kernel
theorem dX0_endOfGood_0 : decode cX0_endOfGood 0 = .ok (.iload_n 1, 1) := by decide +kernel
theorem dX0_endOfGood_1 : decode cX0_endOfGood 1 = .ok (.istore_n 3, 1) := by decide +kernel
theorem dX0_endOfGood_2 : decode cX0_endOfGood 2 = .ok (.iconst 0, 1) := by decide +kernel
theorem dX0_endOfGood_3 : decode cX0_endOfGood 3 = .ok (.istore 4, 2) := by decide +kernel
theorem dX0_endOfGood_5 : decode cX0_endOfGood 5 = .ok (.aload_n 2, 1) := by decide +kernel
theorem dX0_endOfGood_6 : decode cX0_endOfGood 6 = .ok (.invokevirtual 49, 3) := by decide +kernel
theorem dX0_endOfGood_9 : decode cX0_endOfGood 9 = .ok (.istore 5, 2) := by decide +kernel
theorem dX0_endOfGood_11 : decode cX0_endOfGood 11 = .ok (.iload 4, 2) := by decide +kernel
theorem dX0_endOfGood_13 : decode cX0_endOfGood 13 = .ok (.bipush 16, 2) := by decide +kernel
theorem dX0_endOfGood_15 : decode cX0_endOfGood 15 = .ok (.if_icmp .ge 57, 3) := by decide +kernel
theorem dX0_endOfGood_18 : decode cX0_endOfGood 18 = .ok (.aload_n 0, 1) := by decide +kernel
theorem dX0_endOfGood_19 : decode cX0_endOfGood 19 = .ok (.iload_n 3, 1) := by decide +kernel
theorem dX0_endOfGood_20 : decode cX0_endOfGood 20 = .ok (.invokevirtual 52, 3) := by decide +kernel
theorem dX0_endOfGood_23 : decode cX0_endOfGood 23 = .ok (.ifCond .le 49, 3) := by decide +kernel
theorem dX0_endOfGood_26 : decode cX0_endOfGood 26 = .ok (.aload_n 0, 1) := by decide +kernel
theorem dX0_endOfGood_27 : decode cX0_endOfGood 27 = .ok (.iload_n 3, 1) := by decide +kernel
theorem dX0_endOfGood_28 : decode cX0_endOfGood 28 = .ok (.aload_n 2, 1) := by decide +kernel
theorem dX0_endOfGood_29 : decode cX0_endOfGood 29 = .ok (.invokevirtual 9, 3) := by decide +kernel
theorem dX0_endOfGood_32 : decode cX0_endOfGood 32 = .ok (.iload 4, 2) := by decide +kernel
theorem dX0_endOfGood_34 : decode cX0_endOfGood 34 = .ok (.iadd, 1) := by decide +kernel
theorem dX0_endOfGood_35 : decode cX0_endOfGood 35 = .ok (.iload 5, 2) := by decide +kernel
theorem dX0_endOfGood_37 : decode cX0_endOfGood 37 = .ok (.invokestatic 55, 3) := by decide +kernel
theorem dX0_endOfGood_40 : decode cX0_endOfGood 40 = .ok (.ifCond .ne 5, 3) := by decide +kernel
theorem dX0_endOfGood_43 : decode cX0_endOfGood 43 = .ok (.iconst (-1), 1) := by decide +kernel
theorem dX0_endOfGood_44 : decode cX0_endOfGood 44 = .ok (.ireturn, 1) := by decide +kernel
theorem dX0_endOfGood_45 : decode cX0_endOfGood 45 = .ok (.aload_n 0, 1) := by decide +kernel
theorem dX0_endOfGood_46 : decode cX0_endOfGood 46 = .ok (.iload_n 3, 1) := by decide +kernel
theorem dX0_endOfGood_47 : decode cX0_endOfGood 47 = .ok (.iconst 1, 1) := by decide +kernel
theorem dX0_endOfGood_48 : decode cX0_endOfGood 48 = .ok (.iadd, 1) := by decide +kernel
theorem dX0_endOfGood_49 : decode cX0_endOfGood 49 = .ok (.iconst 4, 1) := by decide +kernel
theorem dX0_endOfGood_50 : decode cX0_endOfGood 50 = .ok (.invokevirtual 59, 3) := by decide +kernel
theorem dX0_endOfGood_53 : decode cX0_endOfGood 53 = .ok (.istore 5, 2) := by decide +kernel
theorem dX0_endOfGood_55 : decode cX0_endOfGood 55 = .ok (.iload_n 3, 1) := by decide +kernel
theorem dX0_endOfGood_56 : decode cX0_endOfGood 56 = .ok (.aload_n 0, 1) := by decide +kernel
theorem dX0_endOfGood_57 : decode cX0_endOfGood 57 = .ok (.iload_n 3, 1) := by decide +kernel
theorem dX0_endOfGood_58 : decode cX0_endOfGood 58 = .ok (.invokevirtual 52, 3) := by decide +kernel
theorem dX0_endOfGood_61 : decode cX0_endOfGood 61 = .ok (.bipush 11, 2) := by decide +kernel
theorem dX0_endOfGood_63 : decode cX0_endOfGood 63 = .ok (.iadd, 1) := by decide +kernel
theorem dX0_endOfGood_64 : decode cX0_endOfGood 64 = .ok (.iadd, 1) := by decide +kernel
theorem dX0_endOfGood_65 : decode cX0_endOfGood 65 = .ok (.istore_n 3, 1) := by decide +kernel
theorem dX0_endOfGood_66 : decode cX0_endOfGood 66 = .ok (.iinc 4 1, 3) := by decide +kernel
theorem dX0_endOfGood_69 : decode cX0_endOfGood 69 = .ok (.goto (-58), 3) := by decide +kernel
theorem dX0_endOfGood_72 : decode cX0_endOfGood 72 = .ok (.iload 4, 2) := by decide +kernel
theorem dX0_endOfGood_74 : decode cX0_endOfGood 74 = .ok (.ifCond .le 20, 3) := by decide +kernel
theorem dX0_endOfGood_77 : decode cX0_endOfGood 77 = .ok (.aload_n 0, 1) := by decide +kernel
theorem dX0_endOfGood_78 : decode cX0_endOfGood 78 = .ok (.iload_n 3, 1) := by decide +kernel
theorem dX0_endOfGood_79 : decode cX0_endOfGood 79 = .ok (.iload 4, 2) := by decide +kernel
theorem dX0_endOfGood_81 : decode cX0_endOfGood 81 = .ok (.invokestatic 62, 3) := by decide +kernel
theorem dX0_endOfGood_84 : decode cX0_endOfGood 84 = .ok (.ifCond .eq 10, 3) := by decide +kernel
theorem dX0_endOfGood_87 : decode cX0_endOfGood 87 = .ok (.iload_n 3, 1) := by decide +kernel
theorem dX0_endOfGood_88 : decode cX0_endOfGood 88 = .ok (.bipush 6, 2) := by decide +kernel
theorem dX0_endOfGood_90 : decode cX0_endOfGood 90 = .ok (.iadd, 1) := by decide +kernel
theorem dX0_endOfGood_91 : decode cX0_endOfGood 91 = .ok (.goto 4, 3) := by decide +kernel
theorem dX0_endOfGood_94 : decode cX0_endOfGood 94 = .ok (.iconst (-1), 1) := by decide +kernel
theorem dX0_endOfGood_95 : decode cX0_endOfGood 95 = .ok (.ireturn, 1) := by decide +kernel
theorem dX0_isRowGood_0 : decode cX0_isRowGood 0 = .ok (.aload_n 0, 1) := by decide +kernel
theorem dX0_isRowGood_1 : decode cX0_isRowGood 1 = .ok (.iload_n 1, 1) := by decide +kernel
theorem dX0_isRowGood_2 : decode cX0_isRowGood 2 = .ok (.invokevirtual 52, 3) := by decide +kernel
theorem dX0_isRowGood_5 : decode cX0_isRowGood 5 = .ok (.istore 4, 2) := by decide +kernel
theorem dX0_isRowGood_7 : decode cX0_isRowGood 7 = .ok (.iload_n 1, 1) := by decide +kernel
theorem dX0_isRowGood_8 : decode cX0_isRowGood 8 = .ok (.iload 4, 2) := by decide +kernel
theorem dX0_isRowGood_10 : decode cX0_isRowGood 10 = .ok (.iadd, 1) := by decide +kernel
theorem dX0_isRowGood_11 : decode cX0_isRowGood 11 = .ok (.bipush 11, 2) := by decide +kernel
theorem dX0_isRowGood_13 : decode cX0_isRowGood 13 = .ok (.iadd, 1) := by decide +kernel
theorem dX0_isRowGood_14 : decode cX0_isRowGood 14 = .ok (.istore 5, 2) := by decide +kernel
theorem dX0_isRowGood_16 : decode cX0_isRowGood 16 = .ok (.iload 4, 2) := by decide +kernel
theorem dX0_isRowGood_18 : decode cX0_isRowGood 18 = .ok (.iconst 1, 1) := by decide +kernel
theorem dX0_isRowGood_19 : decode cX0_isRowGood 19 = .ok (.if_icmp .lt 26, 3) := by decide +kernel
theorem dX0_isRowGood_22 : decode cX0_isRowGood 22 = .ok (.iload 4, 2) := by decide +kernel
theorem dX0_isRowGood_24 : decode cX0_isRowGood 24 = .ok (.bipush 64, 2) := by decide +kernel
theorem dX0_isRowGood_26 : decode cX0_isRowGood 26 = .ok (.if_icmp .gt 19, 3) := by decide +kernel
theorem dX0_isRowGood_29 : decode cX0_isRowGood 29 = .ok (.iload 5, 2) := by decide +kernel
theorem dX0_isRowGood_31 : decode cX0_isRowGood 31 = .ok (.aload_n 0, 1) := by decide +kernel
theorem dX0_isRowGood_32 : decode cX0_isRowGood 32 = .ok (.invokevirtual 21, 3) := by decide +kernel
theorem dX0_isRowGood_35 : decode cX0_isRowGood 35 = .ok (.if_icmp .gt 10, 3) := by decide +kernel
theorem dX0_isRowGood_38 : decode cX0_isRowGood 38 = .ok (.iload_n 2, 1) := by decide +kernel
theorem dX0_isRowGood_39 : decode cX0_isRowGood 39 = .ok (.sipush 600, 3) := by decide +kernel
theorem dX0_isRowGood_42 : decode cX0_isRowGood 42 = .ok (.if_icmp .lt 5, 3) := by decide +kernel
theorem dX0_isRowGood_45 : decode cX0_isRowGood 45 = .ok (.iconst 0, 1) := by decide +kernel
theorem dX0_isRowGood_46 : decode cX0_isRowGood 46 = .ok (.ireturn, 1) := by decide +kernel
theorem dX0_isRowGood_47 : decode cX0_isRowGood 47 = .ok (.aload_n 0, 1) := by decide +kernel
theorem dX0_isRowGood_48 : decode cX0_isRowGood 48 = .ok (.iload_n 1, 1) := by decide +kernel
theorem dX0_isRowGood_49 : decode cX0_isRowGood 49 = .ok (.iconst 1, 1) := by decide +kernel
theorem dX0_isRowGood_50 : decode cX0_isRowGood 50 = .ok (.iadd, 1) := by decide +kernel
theorem dX0_isRowGood_51 : decode cX0_isRowGood 51 = .ok (.iconst 4, 1) := by decide +kernel
theorem dX0_isRowGood_52 : decode cX0_isRowGood 52 = .ok (.invokevirtual 59, 3) := by decide +kernel
theorem dX0_isRowGood_55 : decode cX0_isRowGood 55 = .ok (.istore 6, 2) := by decide +kernel
theorem dX0_isRowGood_57 : decode cX0_isRowGood 57 = .ok (.iload 6, 2) := by decide +kernel
theorem dX0_isRowGood_59 : decode cX0_isRowGood 59 = .ok (.iload_n 3, 1) := by decide +kernel
theorem dX0_isRowGood_60 : decode cX0_isRowGood 60 = .ok (.if_icmp .lt 10, 3) := by decide +kernel
theorem dX0_isRowGood_63 : decode cX0_isRowGood 63 = .ok (.iload 6, 2) := by decide +kernel
theorem dX0_isRowGood_65 : decode cX0_isRowGood 65 = .ok (.ldc 66, 2) := by decide +kernel
theorem dX0_isRowGood_67 : decode cX0_isRowGood 67 = .ok (.if_icmp .le 5, 3) := by decide +kernel
theorem dX0_isRowGood_70 : decode cX0_isRowGood 70 = .ok (.iconst 0, 1) := by decide +kernel
theorem dX0_isRowGood_71 : decode cX0_isRowGood 71 = .ok (.ireturn, 1) := by decide +kernel
theorem dX0_isRowGood_72 : decode cX0_isRowGood 72 = .ok (.iload 5, 2) := by decide +kernel
theorem dX0_isRowGood_74 : decode cX0_isRowGood 74 = .ok (.iconst 4, 1) := by decide +kernel
theorem dX0_isRowGood_75 : decode cX0_isRowGood 75 = .ok (.isub, 1) := by decide +kernel
theorem dX0_isRowGood_76 : decode cX0_isRowGood 76 = .ok (.istore 7, 2) := by decide +kernel
theorem dX0_isRowGood_78 : decode cX0_isRowGood 78 = .ok (.aload_n 0, 1) := by decide +kernel
theorem dX0_isRowGood_79 : decode cX0_isRowGood 79 = .ok (.iload 7, 2) := by decide +kernel
theorem dX0_isRowGood_81 : decode cX0_isRowGood 81 = .ok (.iconst 2, 1) := by decide +kernel
theorem dX0_isRowGood_82 : decode cX0_isRowGood 82 = .ok (.isub, 1) := by decide +kernel
theorem dX0_isRowGood_83 : decode cX0_isRowGood 83 = .ok (.iconst 2, 1) := by decide +kernel
theorem dX0_isRowGood_84 : decode cX0_isRowGood 84 = .ok (.invokevirtual 59, 3) := by decide +kernel
theorem dX0_isRowGood_87 : decode cX0_isRowGood 87 = .ok (.iload_n 2, 1) := by decide +kernel
theorem dX0_isRowGood_88 : decode cX0_isRowGood 88 = .ok (.if_icmp .ne 25, 3) := by decide +kernel
theorem dX0_isRowGood_91 : decode cX0_isRowGood 91 = .ok (.aload_n 0, 1) := by decide +kernel
theorem dX0_isRowGood_92 : decode cX0_isRowGood 92 = .ok (.iload 7, 2) := by decide +kernel
theorem dX0_isRowGood_94 : decode cX0_isRowGood 94 = .ok (.iconst 4, 1) := by decide +kernel
theorem dX0_isRowGood_95 : decode cX0_isRowGood 95 = .ok (.invokevirtual 59, 3) := by decide +kernel
theorem dX0_isRowGood_98 : decode cX0_isRowGood 98 = .ok (.aload_n 0, 1) := by decide +kernel
theorem dX0_isRowGood_99 : decode cX0_isRowGood 99 = .ok (.iload_n 1, 1) := by decide +kernel
theorem dX0_isRowGood_100 : decode cX0_isRowGood 100 = .ok (.iload 7, 2) := by decide +kernel
theorem dX0_isRowGood_102 : decode cX0_isRowGood 102 = .ok (.iconst 0, 1) := by decide +kernel
theorem dX0_isRowGood_103 : decode cX0_isRowGood 103 = .ok (.invokevirtual 30, 3) := by decide +kernel
theorem dX0_isRowGood_106 : decode cX0_isRowGood 106 = .ok (.if_icmp .ne 7, 3) := by decide +kernel
theorem dX0_isRowGood_109 : decode cX0_isRowGood 109 = .ok (.iconst 1, 1) := by decide +kernel
theorem dX0_isRowGood_110 : decode cX0_isRowGood 110 = .ok (.goto 4, 3) := by decide +kernel
theorem dX0_isRowGood_113 : decode cX0_isRowGood 113 = .ok (.iconst 0, 1) := by decide +kernel
theorem dX0_isRowGood_114 : decode cX0_isRowGood 114 = .ok (.ireturn, 1) := by decide +kernel
theorem dX0_isEndGood_0 : decode cX0_isEndGood 0 = .ok (.iload_n 1, 1) := by decide +kernel
theorem dX0_isEndGood_1 : decode cX0_isEndGood 1 = .ok (.bipush 6, 2) := by decide +kernel
theorem dX0_isEndGood_3 : decode cX0_isEndGood 3 = .ok (.iadd, 1) := by decide +kernel
theorem dX0_isEndGood_4 : decode cX0_isEndGood 4 = .ok (.aload_n 0, 1) := by decide +kernel
theorem dX0_isEndGood_5 : decode cX0_isEndGood 5 = .ok (.invokevirtual 21, 3) := by decide +kernel
theorem dX0_isEndGood_8 : decode cX0_isEndGood 8 = .ok (.if_icmp .gt 22, 3) := by decide +kernel
theorem dX0_isEndGood_11 : decode cX0_isEndGood 11 = .ok (.aload_n 0, 1) := by decide +kernel
theorem dX0_isEndGood_12 : decode cX0_isEndGood 12 = .ok (.iload_n 1, 1) := by decide +kernel
theorem dX0_isEndGood_13 : decode cX0_isEndGood 13 = .ok (.invokevirtual 52, 3) := by decide +kernel
theorem dX0_isEndGood_16 : decode cX0_isEndGood 16 = .ok (.ifCond .ne 14, 3) := by decide +kernel
theorem dX0_isEndGood_19 : decode cX0_isEndGood 19 = .ok (.aload_n 0, 1) := by decide +kernel
theorem dX0_isEndGood_20 : decode cX0_isEndGood 20 = .ok (.iload_n 1, 1) := by decide +kernel
theorem dX0_isEndGood_21 : decode cX0_isEndGood 21 = .ok (.iconst 1, 1) := by decide +kernel
theorem dX0_isEndGood_22 : decode cX0_isEndGood 22 = .ok (.iadd, 1) := by decide +kernel
theorem dX0_isEndGood_23 : decode cX0_isEndGood 23 = .ok (.invokevirtual 52, 3) := by decide +kernel
theorem dX0_isEndGood_26 : decode cX0_isEndGood 26 = .ok (.iload_n 2, 1) := by decide +kernel
theorem dX0_isEndGood_27 : decode cX0_isEndGood 27 = .ok (.if_icmp .eq 5, 3) := by decide +kernel
theorem dX0_isEndGood_30 : decode cX0_isEndGood 30 = .ok (.iconst 0, 1) := by decide +kernel
theorem dX0_isEndGood_31 : decode cX0_isEndGood 31 = .ok (.ireturn, 1) := by decide +kernel
theorem dX0_isEndGood_32 : decode cX0_isEndGood 32 = .ok (.aload_n 0, 1) := by decide +kernel
theorem dX0_isEndGood_33 : decode cX0_isEndGood 33 = .ok (.iload_n 1, 1) := by decide +kernel
theorem dX0_isEndGood_34 : decode cX0_isEndGood 34 = .ok (.iconst 4, 1) := by decide +kernel
theorem dX0_isEndGood_35 : decode cX0_isEndGood 35 = .ok (.isub, 1) := by decide +kernel
theorem dX0_isEndGood_36 : decode cX0_isEndGood 36 = .ok (.iconst 4, 1) := by decide +kernel
theorem dX0_isEndGood_37 : decode cX0_isEndGood 37 = .ok (.invokevirtual 59, 3) := by decide +kernel
theorem dX0_isEndGood_40 : decode cX0_isEndGood 40 = .ok (.istore_n 3, 1) := by decide +kernel
theorem dX0_isEndGood_41 : decode cX0_isEndGood 41 = .ok (.aload_n 0, 1) := by decide +kernel
theorem dX0_isEndGood_42 : decode cX0_isEndGood 42 = .ok (.iload_n 1, 1) := by decide +kernel
theorem dX0_isEndGood_43 : decode cX0_isEndGood 43 = .ok (.iconst 2, 1) := by decide +kernel
theorem dX0_isEndGood_44 : decode cX0_isEndGood 44 = .ok (.iadd, 1) := by decide +kernel
theorem dX0_isEndGood_45 : decode cX0_isEndGood 45 = .ok (.iconst 4, 1) := by decide +kernel
theorem dX0_isEndGood_46 : decode cX0_isEndGood 46 = .ok (.invokevirtual 59, 3) := by decide +kernel
theorem dX0_isEndGood_49 : decode cX0_isEndGood 49 = .ok (.aload_n 0, 1) := by decide +kernel
theorem dX0_isEndGood_50 : decode cX0_isEndGood 50 = .ok (.iload_n 1, 1) := by decide +kernel
theorem dX0_isEndGood_51 : decode cX0_isEndGood 51 = .ok (.iload_n 1, 1) := by decide +kernel
theorem dX0_isEndGood_52 : decode cX0_isEndGood 52 = .ok (.iconst 2, 1) := by decide +kernel
theorem dX0_isEndGood_53 : decode cX0_isEndGood 53 = .ok (.iadd, 1) := by decide +kernel
theorem dX0_isEndGood_54 : decode cX0_isEndGood 54 = .ok (.iload_n 3, 1) := by decide +kernel
theorem dX0_isEndGood_55 : decode cX0_isEndGood 55 = .ok (.invokevirtual 30, 3) := by decide +kernel
theorem dX0_isEndGood_58 : decode cX0_isEndGood 58 = .ok (.if_icmp .ne 7, 3) := by decide +kernel
theorem dX0_isEndGood_61 : decode cX0_isEndGood 61 = .ok (.iconst 1, 1) := by decide +kernel
theorem dX0_isEndGood_62 : decode cX0_isEndGood 62 = .ok (.goto 4, 3) := by decide +kernel
theorem dX0_isEndGood_65 : decode cX0_isEndGood 65 = .ok (.iconst 0, 1) := by decide +kernel
theorem dX0_isEndGood_66 : decode cX0_isEndGood 66 = .ok (.ireturn, 1) := by decide +kernel
theorem dX0_read_0 : decode cX0_read 0 = .ok (.iload_n 1, 1) := by decide +kernel
theorem dX0_read_1 : decode cX0_read 1 = .ok (.istore 4, 2) := by decide +kernel
theorem dX0_read_3 : decode cX0_read 3 = .ok (.aload_n 0, 1) := by decide +kernel
theorem dX0_read_4 : decode cX0_read 4 = .ok (.iload_n 2, 1) := by decide +kernel
theorem dX0_read_5 : decode cX0_read 5 = .ok (.bipush 6, 2) := by decide +kernel
theorem dX0_read_7 : decode cX0_read 7 = .ok (.isub, 1) := by decide +kernel
theorem dX0_read_8 : decode cX0_read 8 = .ok (.iconst 1, 1) := by decide +kernel
theorem dX0_read_9 : decode cX0_read 9 = .ok (.iadd, 1) := by decide +kernel
theorem dX0_read_10 : decode cX0_read 10 = .ok (.invokevirtual 52, 3) := by decide +kernel
theorem dX0_read_13 : decode cX0_read 13 = .ok (.istore 5, 2) := by decide +kernel
theorem dX0_read_15 : decode cX0_read 15 = .ok (.iconst 0, 1) := by decide +kernel
theorem dX0_read_16 : decode cX0_read 16 = .ok (.istore 6, 2) := by decide +kernel
theorem dX0_read_18 : decode cX0_read 18 = .ok (.iload 6, 2) := by decide +kernel
theorem dX0_read_20 : decode cX0_read 20 = .ok (.iload 5, 2) := by decide +kernel
theorem dX0_read_22 : decode cX0_read 22 = .ok (.if_icmp .ge 77, 3) := by decide +kernel
theorem dX0_read_25 : decode cX0_read 25 = .ok (.aload_n 0, 1) := by decide +kernel
theorem dX0_read_26 : decode cX0_read 26 = .ok (.iload 4, 2) := by decide +kernel
theorem dX0_read_28 : decode cX0_read 28 = .ok (.invokevirtual 52, 3) := by decide +kernel
theorem dX0_read_31 : decode cX0_read 31 = .ok (.istore 7, 2) := by decide +kernel
theorem dX0_read_33 : decode cX0_read 33 = .ok (.iload 4, 2) := by decide +kernel
theorem dX0_read_35 : decode cX0_read 35 = .ok (.iconst 1, 1) := by decide +kernel
theorem dX0_read_36 : decode cX0_read 36 = .ok (.iadd, 1) := by decide +kernel
theorem dX0_read_37 : decode cX0_read 37 = .ok (.iconst 4, 1) := by decide +kernel
theorem dX0_read_38 : decode cX0_read 38 = .ok (.iadd, 1) := by decide +kernel
theorem dX0_read_39 : decode cX0_read 39 = .ok (.istore 8, 2) := by decide +kernel
theorem dX0_read_41 : decode cX0_read 41 = .ok (.aload_n 3, 1) := by decide +kernel
theorem dX0_read_42 : decode cX0_read 42 = .ok (.aload_n 0, 1) := by decide +kernel
theorem dX0_read_43 : decode cX0_read 43 = .ok (.iload 4, 2) := by decide +kernel
theorem dX0_read_45 : decode cX0_read 45 = .ok (.iconst 1, 1) := by decide +kernel
theorem dX0_read_46 : decode cX0_read 46 = .ok (.iadd, 1) := by decide +kernel
theorem dX0_read_47 : decode cX0_read 47 = .ok (.iconst 4, 1) := by decide +kernel
theorem dX0_read_48 : decode cX0_read 48 = .ok (.invokevirtual 59, 3) := by decide +kernel
theorem dX0_read_51 : decode cX0_read 51 = .ok (.invokevirtual 67, 3) := by decide +kernel
theorem dX0_read_54 : decode cX0_read 54 = .ok (.iconst 0, 1) := by decide +kernel
theorem dX0_read_55 : decode cX0_read 55 = .ok (.istore 9, 2) := by decide +kernel
theorem dX0_read_57 : decode cX0_read 57 = .ok (.iload 9, 2) := by decide +kernel
theorem dX0_read_59 : decode cX0_read 59 = .ok (.iload 7, 2) := by decide +kernel
theorem dX0_read_61 : decode cX0_read 61 = .ok (.if_icmp .ge 22, 3) := by decide +kernel
theorem dX0_read_64 : decode cX0_read 64 = .ok (.aload_n 3, 1) := by decide +kernel
theorem dX0_read_65 : decode cX0_read 65 = .ok (.aload_n 0, 1) := by decide +kernel
theorem dX0_read_66 : decode cX0_read 66 = .ok (.iload 8, 2) := by decide +kernel
theorem dX0_read_68 : decode cX0_read 68 = .ok (.iload 9, 2) := by decide +kernel
theorem dX0_read_70 : decode cX0_read 70 = .ok (.iadd, 1) := by decide +kernel
theorem dX0_read_71 : decode cX0_read 71 = .ok (.invokevirtual 52, 3) := by decide +kernel
theorem dX0_read_74 : decode cX0_read 74 = .ok (.invokevirtual 70, 3) := by decide +kernel
theorem dX0_read_77 : decode cX0_read 77 = .ok (.iinc 9 1, 3) := by decide +kernel
theorem dX0_read_80 : decode cX0_read 80 = .ok (.goto (-23), 3) := by decide +kernel
theorem dX0_read_83 : decode cX0_read 83 = .ok (.iload 4, 2) := by decide +kernel
theorem dX0_read_85 : decode cX0_read 85 = .ok (.iload 7, 2) := by decide +kernel
theorem dX0_read_87 : decode cX0_read 87 = .ok (.bipush 11, 2) := by decide +kernel
theorem dX0_read_89 : decode cX0_read 89 = .ok (.iadd, 1) := by decide +kernel
theorem dX0_read_90 : decode cX0_read 90 = .ok (.iadd, 1) := by decide +kernel
theorem dX0_read_91 : decode cX0_read 91 = .ok (.istore 4, 2) := by decide +kernel
theorem dX0_read_93 : decode cX0_read 93 = .ok (.iinc 6 1, 3) := by decide +kernel
theorem dX0_read_96 : decode cX0_read 96 = .ok (.goto (-78), 3) := by decide +kernel
theorem dX0_read_99 : decode cX0_read 99 = .ok (.aload_n 3, 1) := by decide +kernel
theorem dX0_read_100 : decode cX0_read 100 = .ok (.invokevirtual 73, 3) := by decide +kernel
theorem dX0_read_103 : decode cX0_read 103 = .ok (.return_, 1) := by decide +kernel
