theorem dX6_laysGoods_15 : decode cX6_laysGoods 15 = .ok (.iaload, 1) := by decide +kernel
theorem dX6_laysGoods_16 : decode cX6_laysGoods 16 = .ok (.if_icmp .ge 42, 3) := by decide +kernel
theorem dX6_laysGoods_19 : decode cX6_laysGoods 19 = .ok (.iload_n 1, 1) := by decide +kernel
theorem dX6_laysGoods_20 : decode cX6_laysGoods 20 = .ok (.iload 4, 2) := by decide +kernel
theorem dX6_laysGoods_22 : decode cX6_laysGoods 22 = .ok (.ishr, 1) := by decide +kernel
theorem dX6_laysGoods_23 : decode cX6_laysGoods 23 = .ok (.iconst 1, 1) := by decide +kernel
theorem dX6_laysGoods_24 : decode cX6_laysGoods 24 = .ok (.iand, 1) := by decide +kernel
theorem dX6_laysGoods_25 : decode cX6_laysGoods 25 = .ok (.ifCond .ne 6, 3) := by decide +kernel
theorem dX6_laysGoods_28 : decode cX6_laysGoods 28 = .ok (.goto 24, 3) := by decide +kernel
theorem dX6_laysGoods_31 : decode cX6_laysGoods 31 = .ok (.aload_n 0, 1) := by decide +kernel
theorem dX6_laysGoods_32 : decode cX6_laysGoods 32 = .ok (.getfield 56, 3) := by decide +kernel
theorem dX6_laysGoods_35 : decode cX6_laysGoods 35 = .ok (.aload_n 0, 1) := by decide +kernel
theorem dX6_laysGoods_36 : decode cX6_laysGoods 36 = .ok (.getfield 360, 3) := by decide +kernel
theorem dX6_laysGoods_39 : decode cX6_laysGoods 39 = .ok (.iload 4, 2) := by decide +kernel
theorem dX6_laysGoods_41 : decode cX6_laysGoods 41 = .ok (.iastore, 1) := by decide +kernel
theorem dX6_laysGoods_42 : decode cX6_laysGoods 42 = .ok (.aload_n 0, 1) := by decide +kernel
theorem dX6_laysGoods_43 : decode cX6_laysGoods 43 = .ok (.dup, 1) := by decide +kernel
theorem dX6_laysGoods_44 : decode cX6_laysGoods 44 = .ok (.getfield 360, 3) := by decide +kernel
theorem dX6_laysGoods_47 : decode cX6_laysGoods 47 = .ok (.iconst 1, 1) := by decide +kernel
theorem dX6_laysGoods_48 : decode cX6_laysGoods 48 = .ok (.iadd, 1) := by decide +kernel
theorem dX6_laysGoods_49 : decode cX6_laysGoods 49 = .ok (.putfield 360, 3) := by decide +kernel
theorem dX6_laysGoods_52 : decode cX6_laysGoods 52 = .ok (.iinc 4 1, 3) := by decide +kernel
theorem dX6_laysGoods_55 : decode cX6_laysGoods 55 = .ok (.goto (-47), 3) := by decide +kernel
theorem dX6_laysGoods_58 : decode cX6_laysGoods 58 = .ok (.sipush 1440, 3) := by decide +kernel
theorem dX6_laysGoods_61 : decode cX6_laysGoods 61 = .ok (.aload_n 0, 1) := by decide +kernel
theorem dX6_laysGoods_62 : decode cX6_laysGoods 62 = .ok (.getfield 17, 3) := by decide +kernel
theorem dX6_laysGoods_65 : decode cX6_laysGoods 65 = .ok (.iconst 1, 1) := by decide +kernel
theorem dX6_laysGoods_66 : decode cX6_laysGoods 66 = .ok (.iaload, 1) := by decide +kernel
theorem dX6_laysGoods_67 : decode cX6_laysGoods 67 = .ok (.aload_n 0, 1) := by decide +kernel
theorem dX6_laysGoods_68 : decode cX6_laysGoods 68 = .ok (.getfield 360, 3) := by decide +kernel
theorem dX6_laysGoods_71 : decode cX6_laysGoods 71 = .ok (.iconst 1, 1) := by decide +kernel
theorem dX6_laysGoods_72 : decode cX6_laysGoods 72 = .ok (.isub, 1) := by decide +kernel
theorem dX6_laysGoods_73 : decode cX6_laysGoods 73 = .ok (.imul, 1) := by decide +kernel
theorem dX6_laysGoods_74 : decode cX6_laysGoods 74 = .ok (.iadd, 1) := by decide +kernel
theorem dX6_laysGoods_75 : decode cX6_laysGoods 75 = .ok (.istore 4, 2) := by decide +kernel
theorem dX6_laysGoods_77 : decode cX6_laysGoods 77 = .ok (.iconst 0, 1) := by decide +kernel
theorem dX6_laysGoods_78 : decode cX6_laysGoods 78 = .ok (.istore 5, 2) := by decide +kernel
theorem dX6_laysGoods_80 : decode cX6_laysGoods 80 = .ok (.iload 5, 2) := by decide +kernel
theorem dX6_laysGoods_82 : decode cX6_laysGoods 82 = .ok (.aload_n 0, 1) := by decide +kernel
theorem dX6_laysGoods_83 : decode cX6_laysGoods 83 = .ok (.getfield 360, 3) := by decide +kernel
theorem dX6_laysGoods_86 : decode cX6_laysGoods 86 = .ok (.if_icmp .ge 60, 3) := by decide +kernel
theorem dX6_laysGoods_89 : decode cX6_laysGoods 89 = .ok (.iconst 0, 1) := by decide +kernel
theorem dX6_laysGoods_90 : decode cX6_laysGoods 90 = .ok (.istore 6, 2) := by decide +kernel
theorem dX6_laysGoods_92 : decode cX6_laysGoods 92 = .ok (.iload 6, 2) := by decide +kernel
theorem dX6_laysGoods_94 : decode cX6_laysGoods 94 = .ok (.iload 4, 2) := by decide +kernel
theorem dX6_laysGoods_96 : decode cX6_laysGoods 96 = .ok (.if_icmp .ge 44, 3) := by decide +kernel
theorem dX6_laysGoods_99 : decode cX6_laysGoods 99 = .ok (.aload_n 0, 1) := by decide +kernel
theorem dX6_laysGoods_100 : decode cX6_laysGoods 100 = .ok (.getfield 53, 3) := by decide +kernel
theorem dX6_laysGoods_103 : decode cX6_laysGoods 103 = .ok (.sipush 2640, 3) := by decide +kernel
theorem dX6_laysGoods_106 : decode cX6_laysGoods 106 = .ok (.aload_n 0, 1) := by decide +kernel
theorem dX6_laysGoods_107 : decode cX6_laysGoods 107 = .ok (.getfield 56, 3) := by decide +kernel
theorem dX6_laysGoods_110 : decode cX6_laysGoods 110 = .ok (.iload 5, 2) := by decide +kernel
theorem dX6_laysGoods_112 : decode cX6_laysGoods 112 = .ok (.iaload, 1) := by decide +kernel
theorem dX6_laysGoods_113 : decode cX6_laysGoods 113 = .ok (.imul, 1) := by decide +kernel
theorem dX6_laysGoods_114 : decode cX6_laysGoods 114 = .ok (.iload 6, 2) := by decide +kernel
theorem dX6_laysGoods_116 : decode cX6_laysGoods 116 = .ok (.iadd, 1) := by decide +kernel
theorem dX6_laysGoods_117 : decode cX6_laysGoods 117 = .ok (.aload_n 0, 1) := by decide +kernel
theorem dX6_laysGoods_118 : decode cX6_laysGoods 118 = .ok (.aload_n 0, 1) := by decide +kernel
theorem dX6_laysGoods_119 : decode cX6_laysGoods 119 = .ok (.getfield 56, 3) := by decide +kernel
theorem dX6_laysGoods_122 : decode cX6_laysGoods 122 = .ok (.iload 5, 2) := by decide +kernel
theorem dX6_laysGoods_124 : decode cX6_laysGoods 124 = .ok (.iaload, 1) := by decide +kernel
theorem dX6_laysGoods_125 : decode cX6_laysGoods 125 = .ok (.iload_n 3, 1) := by decide +kernel
theorem dX6_laysGoods_126 : decode cX6_laysGoods 126 = .ok (.iload 6, 2) := by decide +kernel
theorem dX6_laysGoods_128 : decode cX6_laysGoods 128 = .ok (.iadd, 1) := by decide +kernel
theorem dX6_laysGoods_129 : decode cX6_laysGoods 129 = .ok (.iload_n 2, 1) := by decide +kernel
theorem dX6_laysGoods_130 : decode cX6_laysGoods 130 = .ok (.invokevirtual 318, 3) := by decide +kernel
theorem dX6_laysGoods_133 : decode cX6_laysGoods 133 = .ok (.bastore, 1) := by decide +kernel
theorem dX6_laysGoods_134 : decode cX6_laysGoods 134 = .ok (.iinc 6 1, 3) := by decide +kernel
theorem dX6_laysGoods_137 : decode cX6_laysGoods 137 = .ok (.goto (-45), 3) := by decide +kernel
theorem dX6_laysGoods_140 : decode cX6_laysGoods 140 = .ok (.iinc 5 1, 3) := by decide +kernel
theorem dX6_laysGoods_143 : decode cX6_laysGoods 143 = .ok (.goto (-63), 3) := by decide +kernel
theorem dX6_laysGoods_146 : decode cX6_laysGoods 146 = .ok (.return_, 1) := by decide +kernel
theorem dX6_firstStart_0 : decode cX6_firstStart 0 = .ok (.iconst 0, 1) := by decide +kernel
theorem dX6_firstStart_1 : decode cX6_firstStart 1 = .ok (.istore_n 1, 1) := by decide +kernel
theorem dX6_firstStart_2 : decode cX6_firstStart 2 = .ok (.iload_n 1, 1) := by decide +kernel
theorem dX6_firstStart_3 : decode cX6_firstStart 3 = .ok (.sipush 1440, 3) := by decide +kernel
theorem dX6_firstStart_6 : decode cX6_firstStart 6 = .ok (.if_icmp .ge 64, 3) := by decide +kernel
theorem dX6_firstStart_9 : decode cX6_firstStart 9 = .ok (.iconst 1, 1) := by decide +kernel
theorem dX6_firstStart_10 : decode cX6_firstStart 10 = .ok (.istore_n 2, 1) := by decide +kernel
theorem dX6_firstStart_11 : decode cX6_firstStart 11 = .ok (.iconst 0, 1) := by decide +kernel
theorem dX6_firstStart_12 : decode cX6_firstStart 12 = .ok (.istore_n 3, 1) := by decide +kernel
theorem dX6_firstStart_13 : decode cX6_firstStart 13 = .ok (.iload_n 3, 1) := by decide +kernel
theorem dX6_firstStart_14 : decode cX6_firstStart 14 = .ok (.aload_n 0, 1) := by decide +kernel
theorem dX6_firstStart_15 : decode cX6_firstStart 15 = .ok (.getfield 360, 3) := by decide +kernel
theorem dX6_firstStart_18 : decode cX6_firstStart 18 = .ok (.if_icmp .ge 40, 3) := by decide +kernel
theorem dX6_firstStart_21 : decode cX6_firstStart 21 = .ok (.iload_n 2, 1) := by decide +kernel
theorem dX6_firstStart_22 : decode cX6_firstStart 22 = .ok (.ifCond .eq 36, 3) := by decide +kernel
theorem dX6_firstStart_25 : decode cX6_firstStart 25 = .ok (.aload_n 0, 1) := by decide +kernel
theorem dX6_firstStart_26 : decode cX6_firstStart 26 = .ok (.getfield 53, 3) := by decide +kernel
theorem dX6_firstStart_29 : decode cX6_firstStart 29 = .ok (.sipush 2640, 3) := by decide +kernel
theorem dX6_firstStart_32 : decode cX6_firstStart 32 = .ok (.aload_n 0, 1) := by decide +kernel
theorem dX6_firstStart_33 : decode cX6_firstStart 33 = .ok (.getfield 56, 3) := by decide +kernel
theorem dX6_firstStart_36 : decode cX6_firstStart 36 = .ok (.iload_n 3, 1) := by decide +kernel
theorem dX6_firstStart_37 : decode cX6_firstStart 37 = .ok (.iaload, 1) := by decide +kernel
theorem dX6_firstStart_38 : decode cX6_firstStart 38 = .ok (.imul, 1) := by decide +kernel
theorem dX6_firstStart_39 : decode cX6_firstStart 39 = .ok (.iload_n 1, 1) := by decide +kernel
theorem dX6_firstStart_40 : decode cX6_firstStart 40 = .ok (.iadd, 1) := by decide +kernel
theorem dX6_firstStart_41 : decode cX6_firstStart 41 = .ok (.iload_n 3, 1) := by decide +kernel
theorem dX6_firstStart_42 : decode cX6_firstStart 42 = .ok (.aload_n 0, 1) := by decide +kernel
theorem dX6_firstStart_43 : decode cX6_firstStart 43 = .ok (.getfield 17, 3) := by decide +kernel
theorem dX6_firstStart_46 : decode cX6_firstStart 46 = .ok (.iconst 1, 1) := by decide +kernel
theorem dX6_firstStart_47 : decode cX6_firstStart 47 = .ok (.iaload, 1) := by decide +kernel
theorem dX6_firstStart_48 : decode cX6_firstStart 48 = .ok (.imul, 1) := by decide +kernel
theorem dX6_firstStart_49 : decode cX6_firstStart 49 = .ok (.iadd, 1) := by decide +kernel
theorem dX6_firstStart_50 : decode cX6_firstStart 50 = .ok (.baload, 1) := by decide +kernel
theorem dX6_firstStart_51 : decode cX6_firstStart 51 = .ok (.istore_n 2, 1) := by decide +kernel
theorem dX6_firstStart_52 : decode cX6_firstStart 52 = .ok (.iinc 3 1, 3) := by decide +kernel
theorem dX6_firstStart_55 : decode cX6_firstStart 55 = .ok (.goto (-42), 3) := by decide +kernel
theorem dX6_firstStart_58 : decode cX6_firstStart 58 = .ok (.iload_n 2, 1) := by decide +kernel
theorem dX6_firstStart_59 : decode cX6_firstStart 59 = .ok (.ifCond .eq 5, 3) := by decide +kernel
theorem dX6_firstStart_62 : decode cX6_firstStart 62 = .ok (.iload_n 1, 1) := by decide +kernel
theorem dX6_firstStart_63 : decode cX6_firstStart 63 = .ok (.ireturn, 1) := by decide +kernel
theorem dX6_firstStart_64 : decode cX6_firstStart 64 = .ok (.iinc 1 1, 3) := by decide +kernel
theorem dX6_firstStart_67 : decode cX6_firstStart 67 = .ok (.goto (-65), 3) := by decide +kernel
theorem dX6_firstStart_70 : decode cX6_firstStart 70 = .ok (.iconst (-1), 1) := by decide +kernel
theorem dX6_firstStart_71 : decode cX6_firstStart 71 = .ok (.ireturn, 1) := by decide +kernel
theorem dX6_convoy_0 : decode cX6_convoy 0 = .ok (.aload_n 0, 1) := by decide +kernel
theorem dX6_convoy_1 : decode cX6_convoy 1 = .ok (.iconst 0, 1) := by decide +kernel
theorem dX6_convoy_2 : decode cX6_convoy 2 = .ok (.putfield 1, 3) := by decide +kernel
theorem dX6_convoy_5 : decode cX6_convoy 5 = .ok (.aload_n 0, 1) := by decide +kernel
theorem dX6_convoy_6 : decode cX6_convoy 6 = .ok (.aload_n 0, 1) := by decide +kernel
theorem dX6_convoy_7 : decode cX6_convoy 7 = .ok (.iload_n 1, 1) := by decide +kernel
theorem dX6_convoy_8 : decode cX6_convoy 8 = .ok (.invokevirtual 363, 3) := by decide +kernel
theorem dX6_convoy_11 : decode cX6_convoy 11 = .ok (.ifCond .eq 21, 3) := by decide +kernel
theorem dX6_convoy_14 : decode cX6_convoy 14 = .ok (.iload_n 2, 1) := by decide +kernel
theorem dX6_convoy_15 : decode cX6_convoy 15 = .ok (.invokestatic 339, 3) := by decide +kernel
theorem dX6_convoy_18 : decode cX6_convoy 18 = .ok (.ifCond .eq 14, 3) := by decide +kernel
theorem dX6_convoy_21 : decode cX6_convoy 21 = .ok (.iload_n 3, 1) := by decide +kernel
theorem dX6_convoy_22 : decode cX6_convoy 22 = .ok (.invokestatic 336, 3) := by decide +kernel
theorem dX6_convoy_25 : decode cX6_convoy 25 = .ok (.ifCond .eq 7, 3) := by decide +kernel
theorem dX6_convoy_28 : decode cX6_convoy 28 = .ok (.iconst 1, 1) := by decide +kernel
theorem dX6_convoy_29 : decode cX6_convoy 29 = .ok (.goto 4, 3) := by decide +kernel
theorem dX6_convoy_32 : decode cX6_convoy 32 = .ok (.iconst 0, 1) := by decide +kernel
theorem dX6_convoy_33 : decode cX6_convoy 33 = .ok (.iconst 1, 1) := by decide +kernel
theorem dX6_convoy_34 : decode cX6_convoy 34 = .ok (.iconst 1, 1) := by decide +kernel
theorem dX6_convoy_35 : decode cX6_convoy 35 = .ok (.invokevirtual 196, 3) := by decide +kernel
theorem dX6_convoy_38 : decode cX6_convoy 38 = .ok (.ifCond .ne 5, 3) := by decide +kernel
theorem dX6_convoy_41 : decode cX6_convoy 41 = .ok (.iconst 0, 1) := by decide +kernel
theorem dX6_convoy_42 : decode cX6_convoy 42 = .ok (.ireturn, 1) := by decide +kernel
theorem dX6_convoy_43 : decode cX6_convoy 43 = .ok (.aload_n 0, 1) := by decide +kernel
theorem dX6_convoy_44 : decode cX6_convoy 44 = .ok (.iload_n 1, 1) := by decide +kernel
theorem dX6_convoy_45 : decode cX6_convoy 45 = .ok (.iload_n 2, 1) := by decide +kernel
theorem dX6_convoy_46 : decode cX6_convoy 46 = .ok (.iload_n 3, 1) := by decide +kernel
theorem dX6_convoy_47 : decode cX6_convoy 47 = .ok (.invokevirtual 366, 3) := by decide +kernel
theorem dX6_convoy_50 : decode cX6_convoy 50 = .ok (.aload_n 0, 1) := by decide +kernel
theorem dX6_convoy_51 : decode cX6_convoy 51 = .ok (.invokevirtual 369, 3) := by decide +kernel
theorem dX6_convoy_54 : decode cX6_convoy 54 = .ok (.istore 4, 2) := by decide +kernel
theorem dX6_convoy_56 : decode cX6_convoy 56 = .ok (.iload 4, 2) := by decide +kernel
theorem dX6_convoy_58 : decode cX6_convoy 58 = .ok (.iconst (-1), 1) := by decide +kernel
theorem dX6_convoy_59 : decode cX6_convoy 59 = .ok (.if_icmp .ne 7, 3) := by decide +kernel
theorem dX6_convoy_62 : decode cX6_convoy 62 = .ok (.iconst (-1), 1) := by decide +kernel
theorem dX6_convoy_63 : decode cX6_convoy 63 = .ok (.goto 7, 3) := by decide +kernel
theorem dX6_convoy_66 : decode cX6_convoy 66 = .ok (.iload_n 3, 1) := by decide +kernel
theorem dX6_convoy_67 : decode cX6_convoy 67 = .ok (.iload 4, 2) := by decide +kernel
theorem dX6_convoy_69 : decode cX6_convoy 69 = .ok (.iadd, 1) := by decide +kernel
theorem dX6_convoy_70 : decode cX6_convoy 70 = .ok (.ireturn, 1) := by decide +kernel
theorem dX6_hasNextLine_0 : decode cX6_hasNextLine 0 = .ok (.aload_n 0, 1) := by decide +kernel
theorem dX6_hasNextLine_1 : decode cX6_hasNextLine 1 = .ok (.getfield 360, 3) := by decide +kernel
theorem dX6_hasNextLine_4 : decode cX6_hasNextLine 4 = .ok (.iconst 2, 1) := by decide +kernel
theorem dX6_hasNextLine_5 : decode cX6_hasNextLine 5 = .ok (.isub, 1) := by decide +kernel
theorem dX6_hasNextLine_6 : decode cX6_hasNextLine 6 = .ok (.istore_n 1, 1) := by decide +kernel
theorem dX6_hasNextLine_7 : decode cX6_hasNextLine 7 = .ok (.iload_n 1, 1) := by decide +kernel
theorem dX6_hasNextLine_8 : decode cX6_hasNextLine 8 = .ok (.ifCond .lt 26, 3) := by decide +kernel
theorem dX6_hasNextLine_11 : decode cX6_hasNextLine 11 = .ok (.aload_n 0, 1) := by decide +kernel
theorem dX6_hasNextLine_12 : decode cX6_hasNextLine 12 = .ok (.getfield 56, 3) := by decide +kernel
theorem dX6_hasNextLine_15 : decode cX6_hasNextLine 15 = .ok (.iload_n 1, 1) := by decide +kernel
theorem dX6_hasNextLine_16 : decode cX6_hasNextLine 16 = .ok (.iaload, 1) := by decide +kernel
theorem dX6_hasNextLine_17 : decode cX6_hasNextLine 17 = .ok (.aload_n 0, 1) := by decide +kernel
theorem dX6_hasNextLine_18 : decode cX6_hasNextLine 18 = .ok (.getfield 56, 3) := by decide +kernel
theorem dX6_hasNextLine_21 : decode cX6_hasNextLine 21 = .ok (.iload_n 1, 1) := by decide +kernel
theorem dX6_hasNextLine_22 : decode cX6_hasNextLine 22 = .ok (.iconst 1, 1) := by decide +kernel
theorem dX6_hasNextLine_23 : decode cX6_hasNextLine 23 = .ok (.iadd, 1) := by decide +kernel
theorem dX6_hasNextLine_24 : decode cX6_hasNextLine 24 = .ok (.iaload, 1) := by decide +kernel
theorem dX6_hasNextLine_25 : decode cX6_hasNextLine 25 = .ok (.if_icmp .le 9, 3) := by decide +kernel
theorem dX6_hasNextLine_28 : decode cX6_hasNextLine 28 = .ok (.iinc 1 (-1), 3) := by decide +kernel
theorem dX6_hasNextLine_31 : decode cX6_hasNextLine 31 = .ok (.goto (-24), 3) := by decide +kernel
theorem dX6_hasNextLine_34 : decode cX6_hasNextLine 34 = .ok (.iload_n 1, 1) := by decide +kernel
theorem dX6_hasNextLine_35 : decode cX6_hasNextLine 35 = .ok (.ifCond .ge 5, 3) := by decide +kernel
theorem dX6_hasNextLine_38 : decode cX6_hasNextLine 38 = .ok (.iconst 0, 1) := by decide +kernel
theorem dX6_hasNextLine_39 : decode cX6_hasNextLine 39 = .ok (.ireturn, 1) := by decide +kernel
theorem dX6_hasNextLine_40 : decode cX6_hasNextLine 40 = .ok (.aload_n 0, 1) := by decide +kernel
theorem dX6_hasNextLine_41 : decode cX6_hasNextLine 41 = .ok (.getfield 360, 3) := by decide +kernel
theorem dX6_hasNextLine_44 : decode cX6_hasNextLine 44 = .ok (.iconst 1, 1) := by decide +kernel
theorem dX6_hasNextLine_45 : decode cX6_hasNextLine 45 = .ok (.isub, 1) := by decide +kernel
theorem dX6_hasNextLine_46 : decode cX6_hasNextLine 46 = .ok (.istore_n 2, 1) := by decide +kernel
theorem dX6_hasNextLine_47 : decode cX6_hasNextLine 47 = .ok (.aload_n 0, 1) := by decide +kernel
theorem dX6_hasNextLine_48 : decode cX6_hasNextLine 48 = .ok (.getfield 56, 3) := by decide +kernel
theorem dX6_hasNextLine_51 : decode cX6_hasNextLine 51 = .ok (.iload_n 2, 1) := by decide +kernel
theorem dX6_hasNextLine_52 : decode cX6_hasNextLine 52 = .ok (.iaload, 1) := by decide +kernel
theorem dX6_hasNextLine_53 : decode cX6_hasNextLine 53 = .ok (.aload_n 0, 1) := by decide +kernel
theorem dX6_hasNextLine_54 : decode cX6_hasNextLine 54 = .ok (.getfield 56, 3) := by decide +kernel
theorem dX6_hasNextLine_57 : decode cX6_hasNextLine 57 = .ok (.iload_n 1, 1) := by decide +kernel
theorem dX6_hasNextLine_58 : decode cX6_hasNextLine 58 = .ok (.iaload, 1) := by decide +kernel
theorem dX6_hasNextLine_59 : decode cX6_hasNextLine 59 = .ok (.if_icmp .ge 9, 3) := by decide +kernel
theorem dX6_hasNextLine_62 : decode cX6_hasNextLine 62 = .ok (.iinc 2 (-1), 3) := by decide +kernel
theorem dX6_hasNextLine_65 : decode cX6_hasNextLine 65 = .ok (.goto (-18), 3) := by decide +kernel
theorem dX6_hasNextLine_68 : decode cX6_hasNextLine 68 = .ok (.aload_n 0, 1) := by decide +kernel
theorem dX6_hasNextLine_69 : decode cX6_hasNextLine 69 = .ok (.iload_n 1, 1) := by decide +kernel
theorem dX6_hasNextLine_70 : decode cX6_hasNextLine 70 = .ok (.iload_n 2, 1) := by decide +kernel
theorem dX6_hasNextLine_71 : decode cX6_hasNextLine 71 = .ok (.invokevirtual 372, 3) := by decide +kernel
theorem dX6_hasNextLine_74 : decode cX6_hasNextLine 74 = .ok (.iload_n 1, 1) := by decide +kernel
theorem dX6_hasNextLine_75 : decode cX6_hasNextLine 75 = .ok (.iconst 1, 1) := by decide +kernel
theorem dX6_hasNextLine_76 : decode cX6_hasNextLine 76 = .ok (.iadd, 1) := by decide +kernel
theorem dX6_hasNextLine_77 : decode cX6_hasNextLine 77 = .ok (.istore_n 3, 1) := by decide +kernel
theorem dX6_hasNextLine_78 : decode cX6_hasNextLine 78 = .ok (.aload_n 0, 1) := by decide +kernel
theorem dX6_hasNextLine_79 : decode cX6_hasNextLine 79 = .ok (.getfield 360, 3) := by decide +kernel
theorem dX6_hasNextLine_82 : decode cX6_hasNextLine 82 = .ok (.iconst 1, 1) := by decide +kernel
theorem dX6_hasNextLine_83 : decode cX6_hasNextLine 83 = .ok (.isub, 1) := by decide +kernel
theorem dX6_hasNextLine_84 : decode cX6_hasNextLine 84 = .ok (.istore 4, 2) := by decide +kernel
theorem dX6_hasNextLine_86 : decode cX6_hasNextLine 86 = .ok (.iload_n 3, 1) := by decide +kernel
theorem dX6_hasNextLine_87 : decode cX6_hasNextLine 87 = .ok (.iload 4, 2) := by decide +kernel
theorem dX6_hasNextLine_89 : decode cX6_hasNextLine 89 = .ok (.if_icmp .ge 19, 3) := by decide +kernel
theorem dX6_hasNextLine_92 : decode cX6_hasNextLine 92 = .ok (.aload_n 0, 1) := by decide +kernel
theorem dX6_hasNextLine_93 : decode cX6_hasNextLine 93 = .ok (.iload_n 3, 1) := by decide +kernel
theorem dX6_hasNextLine_94 : decode cX6_hasNextLine 94 = .ok (.iload 4, 2) := by decide +kernel
theorem dX6_hasNextLine_96 : decode cX6_hasNextLine 96 = .ok (.invokevirtual 372, 3) := by decide +kernel
theorem dX6_hasNextLine_99 : decode cX6_hasNextLine 99 = .ok (.iinc 3 1, 3) := by decide +kernel
theorem dX6_hasNextLine_102 : decode cX6_hasNextLine 102 = .ok (.iinc 4 (-1), 3) := by decide +kernel
theorem dX6_hasNextLine_105 : decode cX6_hasNextLine 105 = .ok (.goto (-19), 3) := by decide +kernel
theorem dX6_hasNextLine_108 : decode cX6_hasNextLine 108 = .ok (.iconst 1, 1) := by decide +kernel
theorem dX6_hasNextLine_109 : decode cX6_hasNextLine 109 = .ok (.ireturn, 1) := by decide +kernel
theorem dX6_exchanges_0 : decode cX6_exchanges 0 = .ok (.aload_n 0, 1) := by decide +kernel
theorem dX6_exchanges_1 : decode cX6_exchanges 1 = .ok (.getfield 56, 3) := by decide +kernel
theorem dX6_exchanges_4 : decode cX6_exchanges 4 = .ok (.iload_n 1, 1) := by decide +kernel
theorem dX6_exchanges_5 : decode cX6_exchanges 5 = .ok (.iaload, 1) := by decide +kernel
theorem dX6_exchanges_6 : decode cX6_exchanges 6 = .ok (.istore_n 3, 1) := by decide +kernel
theorem dX6_exchanges_7 : decode cX6_exchanges 7 = .ok (.aload_n 0, 1) := by decide +kernel
theorem dX6_exchanges_8 : decode cX6_exchanges 8 = .ok (.getfield 56, 3) := by decide +kernel
theorem dX6_exchanges_11 : decode cX6_exchanges 11 = .ok (.iload_n 1, 1) := by decide +kernel
theorem dX6_exchanges_12 : decode cX6_exchanges 12 = .ok (.aload_n 0, 1) := by decide +kernel
theorem dX6_exchanges_13 : decode cX6_exchanges 13 = .ok (.getfield 56, 3) := by decide +kernel
theorem dX6_exchanges_16 : decode cX6_exchanges 16 = .ok (.iload_n 2, 1) := by decide +kernel
theorem dX6_exchanges_17 : decode cX6_exchanges 17 = .ok (.iaload, 1) := by decide +kernel
theorem dX6_exchanges_18 : decode cX6_exchanges 18 = .ok (.iastore, 1) := by decide +kernel
theorem dX6_exchanges_19 : decode cX6_exchanges 19 = .ok (.aload_n 0, 1) := by decide +kernel
theorem dX6_exchanges_20 : decode cX6_exchanges 20 = .ok (.getfield 56, 3) := by decide +kernel
theorem dX6_exchanges_23 : decode cX6_exchanges 23 = .ok (.iload_n 2, 1) := by decide +kernel
theorem dX6_exchanges_24 : decode cX6_exchanges 24 = .ok (.iload_n 3, 1) := by decide +kernel
theorem dX6_exchanges_25 : decode cX6_exchanges 25 = .ok (.iastore, 1) := by decide +kernel
theorem dX6_exchanges_26 : decode cX6_exchanges 26 = .ok (.return_, 1) := by decide +kernel
theorem dX6_order_0 : decode cX6_order 0 = .ok (.aload_n 0, 1) := by decide +kernel
theorem dX6_order_1 : decode cX6_order 1 = .ok (.iconst 0, 1) := by decide +kernel
theorem dX6_order_2 : decode cX6_order 2 = .ok (.putfield 1, 3) := by decide +kernel
theorem dX6_order_5 : decode cX6_order 5 = .ok (.aload_n 0, 1) := by decide +kernel
theorem dX6_order_6 : decode cX6_order 6 = .ok (.aload_n 0, 1) := by decide +kernel
theorem dX6_order_7 : decode cX6_order 7 = .ok (.iload_n 1, 1) := by decide +kernel
theorem dX6_order_8 : decode cX6_order 8 = .ok (.invokevirtual 363, 3) := by decide +kernel
theorem dX6_order_11 : decode cX6_order 11 = .ok (.ifCond .eq 21, 3) := by decide +kernel
theorem dX6_order_14 : decode cX6_order 14 = .ok (.iload_n 2, 1) := by decide +kernel
theorem dX6_order_15 : decode cX6_order 15 = .ok (.invokestatic 339, 3) := by decide +kernel
theorem dX6_order_18 : decode cX6_order 18 = .ok (.ifCond .eq 14, 3) := by decide +kernel
theorem dX6_order_21 : decode cX6_order 21 = .ok (.iload_n 3, 1) := by decide +kernel
theorem dX6_order_22 : decode cX6_order 22 = .ok (.invokestatic 336, 3) := by decide +kernel
theorem dX6_order_25 : decode cX6_order 25 = .ok (.ifCond .eq 7, 3) := by decide +kernel
theorem dX6_order_28 : decode cX6_order 28 = .ok (.iconst 1, 1) := by decide +kernel
theorem dX6_order_29 : decode cX6_order 29 = .ok (.goto 4, 3) := by decide +kernel
theorem dX6_order_32 : decode cX6_order 32 = .ok (.iconst 0, 1) := by decide +kernel
theorem dX6_order_33 : decode cX6_order 33 = .ok (.iconst 1, 1) := by decide +kernel
theorem dX6_order_34 : decode cX6_order 34 = .ok (.iconst 1, 1) := by decide +kernel
theorem dX6_order_35 : decode cX6_order 35 = .ok (.invokevirtual 196, 3) := by decide +kernel
theorem dX6_order_38 : decode cX6_order 38 = .ok (.ifCond .eq 28, 3) := by decide +kernel
theorem dX6_order_41 : decode cX6_order 41 = .ok (.aload_n 0, 1) := by decide +kernel
theorem dX6_order_42 : decode cX6_order 42 = .ok (.iload 4, 2) := by decide +kernel
theorem dX6_order_44 : decode cX6_order 44 = .ok (.i2l, 1) := by decide +kernel
theorem dX6_order_45 : decode cX6_order 45 = .ok (.ldc2_w 375, 3) := by decide +kernel
theorem dX6_order_48 : decode cX6_order 48 = .ok (.iload_n 1, 1) := by decide +kernel
theorem dX6_order_49 : decode cX6_order 49 = .ok (.invokestatic 377, 3) := by decide +kernel
theorem dX6_order_52 : decode cX6_order 52 = .ok (.iconst 1, 1) := by decide +kernel
theorem dX6_order_53 : decode cX6_order 53 = .ok (.isub, 1) := by decide +kernel
theorem dX6_order_54 : decode cX6_order 54 = .ok (.i2l, 1) := by decide +kernel
theorem dX6_order_55 : decode cX6_order 55 = .ok (.invokestatic 122, 3) := by decide +kernel
theorem dX6_order_58 : decode cX6_order 58 = .ok (.iconst 2, 1) := by decide +kernel
theorem dX6_order_59 : decode cX6_order 59 = .ok (.iconst 0, 1) := by decide +kernel
theorem dX6_order_60 : decode cX6_order 60 = .ok (.invokevirtual 196, 3) := by decide +kernel
theorem dX6_order_63 : decode cX6_order 63 = .ok (.ifCond .ne 5, 3) := by decide +kernel
theorem dX6_order_66 : decode cX6_order 66 = .ok (.iconst 0, 1) := by decide +kernel
theorem dX6_order_67 : decode cX6_order 67 = .ok (.ireturn, 1) := by decide +kernel
theorem dX6_order_68 : decode cX6_order 68 = .ok (.aload_n 0, 1) := by decide +kernel
theorem dX6_order_69 : decode cX6_order 69 = .ok (.iload_n 1, 1) := by decide +kernel
theorem dX6_order_70 : decode cX6_order 70 = .ok (.iload_n 2, 1) := by decide +kernel
theorem dX6_order_71 : decode cX6_order 71 = .ok (.iload_n 3, 1) := by decide +kernel
theorem dX6_order_72 : decode cX6_order 72 = .ok (.invokevirtual 366, 3) := by decide +kernel
theorem dX6_order_75 : decode cX6_order 75 = .ok (.aload_n 0, 1) := by decide +kernel
theorem dX6_order_76 : decode cX6_order 76 = .ok (.iconst (-1), 1) := by decide +kernel
theorem dX6_order_77 : decode cX6_order 77 = .ok (.putfield 382, 3) := by decide +kernel
theorem dX6_order_80 : decode cX6_order 80 = .ok (.iconst 1, 1) := by decide +kernel
theorem dX6_order_81 : decode cX6_order 81 = .ok (.istore 5, 2) := by decide +kernel
theorem dX6_order_83 : decode cX6_order 83 = .ok (.iload 5, 2) := by decide +kernel
theorem dX6_order_85 : decode cX6_order 85 = .ok (.ifCond .eq 79, 3) := by decide +kernel
theorem dX6_order_88 : decode cX6_order 88 = .ok (.aload_n 0, 1) := by decide +kernel
theorem dX6_order_89 : decode cX6_order 89 = .ok (.invokevirtual 369, 3) := by decide +kernel
theorem dX6_order_92 : decode cX6_order 92 = .ok (.istore 6, 2) := by decide +kernel
theorem dX6_order_94 : decode cX6_order 94 = .ok (.iload 6, 2) := by decide +kernel
theorem dX6_order_96 : decode cX6_order 96 = .ok (.iconst (-1), 1) := by decide +kernel
theorem dX6_order_97 : decode cX6_order 97 = .ok (.if_icmp .eq 58, 3) := by decide +kernel
theorem dX6_order_100 : decode cX6_order 100 = .ok (.aload_n 0, 1) := by decide +kernel
theorem dX6_order_101 : decode cX6_order 101 = .ok (.getfield 382, 3) := by decide +kernel
theorem dX6_order_104 : decode cX6_order 104 = .ok (.iconst (-1), 1) := by decide +kernel
theorem dX6_order_105 : decode cX6_order 105 = .ok (.if_icmp .eq 12, 3) := by decide +kernel
theorem dX6_order_108 : decode cX6_order 108 = .ok (.iload 6, 2) := by decide +kernel
theorem dX6_order_110 : decode cX6_order 110 = .ok (.aload_n 0, 1) := by decide +kernel
theorem dX6_order_111 : decode cX6_order 111 = .ok (.getfield 382, 3) := by decide +kernel
theorem dX6_order_114 : decode cX6_order 114 = .ok (.if_icmp .ge 41, 3) := by decide +kernel
theorem dX6_order_117 : decode cX6_order 117 = .ok (.aload_n 0, 1) := by decide +kernel
theorem dX6_order_118 : decode cX6_order 118 = .ok (.iload 6, 2) := by decide +kernel
theorem dX6_order_120 : decode cX6_order 120 = .ok (.putfield 382, 3) := by decide +kernel
theorem dX6_order_123 : decode cX6_order 123 = .ok (.iconst 0, 1) := by decide +kernel
theorem dX6_order_124 : decode cX6_order 124 = .ok (.istore 7, 2) := by decide +kernel
theorem dX6_order_126 : decode cX6_order 126 = .ok (.iload 7, 2) := by decide +kernel
theorem dX6_order_128 : decode cX6_order 128 = .ok (.aload_n 0, 1) := by decide +kernel
theorem dX6_order_129 : decode cX6_order 129 = .ok (.getfield 360, 3) := by decide +kernel
theorem dX6_order_132 : decode cX6_order 132 = .ok (.if_icmp .ge 23, 3) := by decide +kernel
theorem dX6_order_135 : decode cX6_order 135 = .ok (.aload_n 0, 1) := by decide +kernel
theorem dX6_order_136 : decode cX6_order 136 = .ok (.getfield 59, 3) := by decide +kernel
theorem dX6_order_139 : decode cX6_order 139 = .ok (.iload 7, 2) := by decide +kernel
theorem dX6_order_141 : decode cX6_order 141 = .ok (.aload_n 0, 1) := by decide +kernel
theorem dX6_order_142 : decode cX6_order 142 = .ok (.getfield 56, 3) := by decide +kernel
theorem dX6_order_145 : decode cX6_order 145 = .ok (.iload 7, 2) := by decide +kernel
theorem dX6_order_147 : decode cX6_order 147 = .ok (.iaload, 1) := by decide +kernel
theorem dX6_order_148 : decode cX6_order 148 = .ok (.iastore, 1) := by decide +kernel
theorem dX6_order_149 : decode cX6_order 149 = .ok (.iinc 7 1, 3) := by decide +kernel
theorem dX6_order_152 : decode cX6_order 152 = .ok (.goto (-26), 3) := by decide +kernel
theorem dX6_order_155 : decode cX6_order 155 = .ok (.aload_n 0, 1) := by decide +kernel
theorem dX6_order_156 : decode cX6_order 156 = .ok (.invokevirtual 385, 3) := by decide +kernel
theorem dX6_order_159 : decode cX6_order 159 = .ok (.istore 5, 2) := by decide +kernel
theorem dX6_order_161 : decode cX6_order 161 = .ok (.goto (-78), 3) := by decide +kernel
theorem dX6_order_164 : decode cX6_order 164 = .ok (.aload_n 0, 1) := by decide +kernel
theorem dX6_order_165 : decode cX6_order 165 = .ok (.getfield 382, 3) := by decide +kernel
theorem dX6_order_168 : decode cX6_order 168 = .ok (.iconst (-1), 1) := by decide +kernel
theorem dX6_order_169 : decode cX6_order 169 = .ok (.if_icmp .ne 5, 3) := by decide +kernel
theorem dX6_order_172 : decode cX6_order 172 = .ok (.iconst (-1), 1) := by decide +kernel
theorem dX6_order_173 : decode cX6_order 173 = .ok (.ireturn, 1) := by decide +kernel
theorem dX6_order_174 : decode cX6_order 174 = .ok (.iload 4, 2) := by decide +kernel
theorem dX6_order_176 : decode cX6_order 176 = .ok (.iconst (-1), 1) := by decide +kernel
theorem dX6_order_177 : decode cX6_order 177 = .ok (.if_icmp .ne 12, 3) := by decide +kernel
theorem dX6_order_180 : decode cX6_order 180 = .ok (.iload_n 3, 1) := by decide +kernel
theorem dX6_order_181 : decode cX6_order 181 = .ok (.aload_n 0, 1) := by decide +kernel
theorem dX6_order_182 : decode cX6_order 182 = .ok (.getfield 382, 3) := by decide +kernel
theorem dX6_order_185 : decode cX6_order 185 = .ok (.iadd, 1) := by decide +kernel
theorem dX6_order_186 : decode cX6_order 186 = .ok (.goto 10, 3) := by decide +kernel
theorem dX6_order_189 : decode cX6_order 189 = .ok (.aload_n 0, 1) := by decide +kernel
theorem dX6_order_190 : decode cX6_order 190 = .ok (.getfield 59, 3) := by decide +kernel
theorem dX6_order_193 : decode cX6_order 193 = .ok (.iload 4, 2) := by decide +kernel
theorem dX6_order_195 : decode cX6_order 195 = .ok (.iaload, 1) := by decide +kernel
theorem dX6_order_196 : decode cX6_order 196 = .ok (.ireturn, 1) := by decide +kernel
theorem dX6_close_0 : decode cX6_close 0 = .ok (.aload_n 0, 1) := by decide +kernel
theorem dX6_close_1 : decode cX6_close 1 = .ok (.iconst 0, 1) := by decide +kernel
theorem dX6_close_2 : decode cX6_close 2 = .ok (.putfield 1, 3) := by decide +kernel
theorem dX6_close_5 : decode cX6_close 5 = .ok (.aload_n 0, 1) := by decide +kernel
theorem dX6_close_6 : decode cX6_close 6 = .ok (.iload_n 1, 1) := by decide +kernel
theorem dX6_close_7 : decode cX6_close 7 = .ok (.iload_n 2, 1) := by decide +kernel
theorem dX6_close_8 : decode cX6_close 8 = .ok (.iload_n 3, 1) := by decide +kernel
theorem dX6_close_9 : decode cX6_close 9 = .ok (.invokevirtual 348, 3) := by decide +kernel
theorem dX6_close_12 : decode cX6_close 12 = .ok (.ifCond .eq 13, 3) := by decide +kernel
theorem dX6_close_15 : decode cX6_close 15 = .ok (.aload_n 0, 1) := by decide +kernel
theorem dX6_close_16 : decode cX6_close 16 = .ok (.iload_n 1, 1) := by decide +kernel
theorem dX6_close_17 : decode cX6_close 17 = .ok (.iload_n 2, 1) := by decide +kernel
theorem dX6_close_18 : decode cX6_close 18 = .ok (.iload_n 3, 1) := by decide +kernel
theorem dX6_close_19 : decode cX6_close 19 = .ok (.invokevirtual 322, 3) := by decide +kernel
theorem dX6_close_22 : decode cX6_close 22 = .ok (.goto 4, 3) := by decide +kernel
theorem dX6_close_25 : decode cX6_close 25 = .ok (.iconst 0, 1) := by decide +kernel
theorem dX6_close_26 : decode cX6_close 26 = .ok (.ireturn, 1) := by decide +kernel
theorem dX6_aground_0 : decode cX6_aground 0 = .ok (.aload_n 0, 1) := by decide +kernel
theorem dX6_aground_1 : decode cX6_aground 1 = .ok (.iconst 0, 1) := by decide +kernel
theorem dX6_aground_2 : decode cX6_aground 2 = .ok (.putfield 1, 3) := by decide +kernel
theorem dX6_aground_5 : decode cX6_aground 5 = .ok (.iconst 0, 1) := by decide +kernel
theorem dX6_aground_6 : decode cX6_aground 6 = .ok (.istore_n 1, 1) := by decide +kernel
theorem dX6_aground_7 : decode cX6_aground 7 = .ok (.iconst 0, 1) := by decide +kernel
theorem dX6_aground_8 : decode cX6_aground 8 = .ok (.istore_n 2, 1) := by decide +kernel
theorem dX6_aground_9 : decode cX6_aground 9 = .ok (.iload_n 2, 1) := by decide +kernel
theorem dX6_aground_10 : decode cX6_aground 10 = .ok (.aload_n 0, 1) := by decide +kernel
theorem dX6_aground_11 : decode cX6_aground 11 = .ok (.getfield 17, 3) := by decide +kernel
theorem dX6_aground_14 : decode cX6_aground 14 = .ok (.iconst 5, 1) := by decide +kernel
theorem dX6_aground_15 : decode cX6_aground 15 = .ok (.iaload, 1) := by decide +kernel
theorem dX6_aground_16 : decode cX6_aground 16 = .ok (.if_icmp .ge 45, 3) := by decide +kernel
theorem dX6_aground_19 : decode cX6_aground 19 = .ok (.aload_n 0, 1) := by decide +kernel
theorem dX6_aground_20 : decode cX6_aground 20 = .ok (.iload_n 2, 1) := by decide +kernel
theorem dX6_aground_21 : decode cX6_aground 21 = .ok (.invokevirtual 309, 3) := by decide +kernel
theorem dX6_aground_24 : decode cX6_aground 24 = .ok (.ifCond .eq 31, 3) := by decide +kernel
theorem dX6_aground_27 : decode cX6_aground 27 = .ok (.aload_n 0, 1) := by decide +kernel
theorem dX6_aground_28 : decode cX6_aground 28 = .ok (.iload_n 2, 1) := by decide +kernel
theorem dX6_aground_29 : decode cX6_aground 29 = .ok (.aload_n 0, 1) := by decide +kernel
theorem dX6_aground_30 : decode cX6_aground 30 = .ok (.iload_n 2, 1) := by decide +kernel
theorem dX6_aground_31 : decode cX6_aground 31 = .ok (.bipush 6, 2) := by decide +kernel
theorem dX6_aground_33 : decode cX6_aground 33 = .ok (.invokevirtual 241, 3) := by decide +kernel
theorem dX6_aground_36 : decode cX6_aground 36 = .ok (.aload_n 0, 1) := by decide +kernel
theorem dX6_aground_37 : decode cX6_aground 37 = .ok (.iload_n 2, 1) := by decide +kernel
theorem dX6_aground_38 : decode cX6_aground 38 = .ok (.bipush 7, 2) := by decide +kernel
theorem dX6_aground_40 : decode cX6_aground 40 = .ok (.invokevirtual 241, 3) := by decide +kernel
theorem dX6_aground_43 : decode cX6_aground 43 = .ok (.invokevirtual 318, 3) := by decide +kernel
theorem dX6_aground_46 : decode cX6_aground 46 = .ok (.ifCond .ne 9, 3) := by decide +kernel
theorem dX6_aground_49 : decode cX6_aground 49 = .ok (.iload_n 1, 1) := by decide +kernel
theorem dX6_aground_50 : decode cX6_aground 50 = .ok (.iconst 1, 1) := by decide +kernel
theorem dX6_aground_51 : decode cX6_aground 51 = .ok (.iload_n 2, 1) := by decide +kernel
theorem dX6_aground_52 : decode cX6_aground 52 = .ok (.ishl, 1) := by decide +kernel
theorem dX6_aground_53 : decode cX6_aground 53 = .ok (.ior, 1) := by decide +kernel
theorem dX6_aground_54 : decode cX6_aground 54 = .ok (.istore_n 1, 1) := by decide +kernel
theorem dX6_aground_55 : decode cX6_aground 55 = .ok (.iinc 2 1, 3) := by decide +kernel
theorem dX6_aground_58 : decode cX6_aground 58 = .ok (.goto (-49), 3) := by decide +kernel
theorem dX6_aground_61 : decode cX6_aground 61 = .ok (.iload_n 1, 1) := by decide +kernel
theorem dX6_aground_62 : decode cX6_aground 62 = .ok (.ireturn, 1) := by decide +kernel
theorem dX6_print_0 : decode cX6_print 0 = .ok (.aload_n 0, 1) := by decide +kernel
theorem dX6_print_1 : decode cX6_print 1 = .ok (.iconst 0, 1) := by decide +kernel
theorem dX6_print_2 : decode cX6_print 2 = .ok (.putfield 1, 3) := by decide +kernel
theorem dX6_print_5 : decode cX6_print 5 = .ok (.lconst 0, 1) := by decide +kernel
theorem dX6_print_6 : decode cX6_print 6 = .ok (.lstore_n 1, 1) := by decide +kernel
theorem dX6_print_7 : decode cX6_print 7 = .ok (.iconst 0, 1) := by decide +kernel
theorem dX6_print_8 : decode cX6_print 8 = .ok (.istore_n 3, 1) := by decide +kernel
theorem dX6_print_9 : decode cX6_print 9 = .ok (.iload_n 3, 1) := by decide +kernel
theorem dX6_print_10 : decode cX6_print 10 = .ok (.aload_n 0, 1) := by decide +kernel
theorem dX6_print_11 : decode cX6_print 11 = .ok (.getfield 17, 3) := by decide +kernel
theorem dX6_print_14 : decode cX6_print 14 = .ok (.iconst 4, 1) := by decide +kernel
theorem dX6_print_15 : decode cX6_print 15 = .ok (.iaload, 1) := by decide +kernel
theorem dX6_print_16 : decode cX6_print 16 = .ok (.if_icmp .ge 23, 3) := by decide +kernel
theorem dX6_print_19 : decode cX6_print 19 = .ok (.ldc2_w 389, 3) := by decide +kernel
theorem dX6_print_22 : decode cX6_print 22 = .ok (.lload_n 1, 1) := by decide +kernel
theorem dX6_print_23 : decode cX6_print 23 = .ok (.lmul, 1) := by decide +kernel
theorem dX6_print_24 : decode cX6_print 24 = .ok (.aload_n 0, 1) := by decide +kernel
theorem dX6_print_25 : decode cX6_print 25 = .ok (.iload_n 3, 1) := by decide +kernel
theorem dX6_print_26 : decode cX6_print 26 = .ok (.iconst 1, 1) := by decide +kernel
theorem dX6_print_27 : decode cX6_print 27 = .ok (.invokevirtual 222, 3) := by decide +kernel
theorem dX6_print_30 : decode cX6_print 30 = .ok (.i2l, 1) := by decide +kernel
theorem dX6_print_31 : decode cX6_print 31 = .ok (.ladd, 1) := by decide +kernel
theorem dX6_print_32 : decode cX6_print 32 = .ok (.lstore_n 1, 1) := by decide +kernel
theorem dX6_print_33 : decode cX6_print 33 = .ok (.iinc 3 1, 3) := by decide +kernel
theorem dX6_print_36 : decode cX6_print 36 = .ok (.goto (-27), 3) := by decide +kernel
theorem dX6_print_39 : decode cX6_print 39 = .ok (.iconst 0, 1) := by decide +kernel
theorem dX6_print_40 : decode cX6_print 40 = .ok (.istore_n 3, 1) := by decide +kernel
theorem dX6_print_41 : decode cX6_print 41 = .ok (.iload_n 3, 1) := by decide +kernel
theorem dX6_print_42 : decode cX6_print 42 = .ok (.aload_n 0, 1) := by decide +kernel
theorem dX6_print_43 : decode cX6_print 43 = .ok (.getfield 17, 3) := by decide +kernel
theorem dX6_print_46 : decode cX6_print 46 = .ok (.iconst 5, 1) := by decide +kernel
theorem dX6_print_47 : decode cX6_print 47 = .ok (.iaload, 1) := by decide +kernel
theorem dX6_print_48 : decode cX6_print 48 = .ok (.if_icmp .ge 53, 3) := by decide +kernel
theorem dX6_print_51 : decode cX6_print 51 = .ok (.ldc2_w 389, 3) := by decide +kernel
theorem dX6_print_54 : decode cX6_print 54 = .ok (.lload_n 1, 1) := by decide +kernel
theorem dX6_print_55 : decode cX6_print 55 = .ok (.lmul, 1) := by decide +kernel
theorem dX6_print_56 : decode cX6_print 56 = .ok (.aload_n 0, 1) := by decide +kernel
theorem dX6_print_57 : decode cX6_print 57 = .ok (.iload_n 3, 1) := by decide +kernel
theorem dX6_print_58 : decode cX6_print 58 = .ok (.iconst 0, 1) := by decide +kernel
theorem dX6_print_59 : decode cX6_print 59 = .ok (.invokevirtual 241, 3) := by decide +kernel
theorem dX6_print_62 : decode cX6_print 62 = .ok (.i2l, 1) := by decide +kernel
theorem dX6_print_63 : decode cX6_print 63 = .ok (.ladd, 1) := by decide +kernel
theorem dX6_print_64 : decode cX6_print 64 = .ok (.lstore_n 1, 1) := by decide +kernel
theorem dX6_print_65 : decode cX6_print 65 = .ok (.ldc2_w 389, 3) := by decide +kernel
theorem dX6_print_68 : decode cX6_print 68 = .ok (.lload_n 1, 1) := by decide +kernel
theorem dX6_print_69 : decode cX6_print 69 = .ok (.lmul, 1) := by decide +kernel
theorem dX6_print_70 : decode cX6_print 70 = .ok (.aload_n 0, 1) := by decide +kernel
theorem dX6_print_71 : decode cX6_print 71 = .ok (.iload_n 3, 1) := by decide +kernel
theorem dX6_print_72 : decode cX6_print 72 = .ok (.bipush 6, 2) := by decide +kernel
theorem dX6_print_74 : decode cX6_print 74 = .ok (.invokevirtual 241, 3) := by decide +kernel
theorem dX6_print_77 : decode cX6_print 77 = .ok (.i2l, 1) := by decide +kernel
theorem dX6_print_78 : decode cX6_print 78 = .ok (.ladd, 1) := by decide +kernel
theorem dX6_print_79 : decode cX6_print 79 = .ok (.lstore_n 1, 1) := by decide +kernel
theorem dX6_print_80 : decode cX6_print 80 = .ok (.ldc2_w 389, 3) := by decide +kernel
theorem dX6_print_83 : decode cX6_print 83 = .ok (.lload_n 1, 1) := by decide +kernel
theorem dX6_print_84 : decode cX6_print 84 = .ok (.lmul, 1) := by decide +kernel
theorem dX6_print_85 : decode cX6_print 85 = .ok (.aload_n 0, 1) := by decide +kernel
theorem dX6_print_86 : decode cX6_print 86 = .ok (.iload_n 3, 1) := by decide +kernel
theorem dX6_print_87 : decode cX6_print 87 = .ok (.bipush 7, 2) := by decide +kernel
theorem dX6_print_89 : decode cX6_print 89 = .ok (.invokevirtual 241, 3) := by decide +kernel
theorem dX6_print_92 : decode cX6_print 92 = .ok (.i2l, 1) := by decide +kernel
theorem dX6_print_93 : decode cX6_print 93 = .ok (.ladd, 1) := by decide +kernel
theorem dX6_print_94 : decode cX6_print 94 = .ok (.lstore_n 1, 1) := by decide +kernel
theorem dX6_print_95 : decode cX6_print 95 = .ok (.iinc 3 1, 3) := by decide +kernel
theorem dX6_print_98 : decode cX6_print 98 = .ok (.goto (-57), 3) := by decide +kernel
theorem dX6_print_101 : decode cX6_print 101 = .ok (.ldc2_w 389, 3) := by decide +kernel
theorem dX6_print_104 : decode cX6_print 104 = .ok (.lload_n 1, 1) := by decide +kernel
theorem dX6_print_105 : decode cX6_print 105 = .ok (.lmul, 1) := by decide +kernel
theorem dX6_print_106 : decode cX6_print 106 = .ok (.aload_n 0, 1) := by decide +kernel
theorem dX6_print_107 : decode cX6_print 107 = .ok (.getfield 17, 3) := by decide +kernel
theorem dX6_print_110 : decode cX6_print 110 = .ok (.iconst 2, 1) := by decide +kernel
theorem dX6_print_111 : decode cX6_print 111 = .ok (.iaload, 1) := by decide +kernel
theorem dX6_print_112 : decode cX6_print 112 = .ok (.i2l, 1) := by decide +kernel
theorem dX6_print_113 : decode cX6_print 113 = .ok (.ladd, 1) := by decide +kernel
theorem dX6_print_114 : decode cX6_print 114 = .ok (.lreturn, 1) := by decide +kernel
theorem dX6_status_0 : decode cX6_status 0 = .ok (.aload_n 0, 1) := by decide +kernel
theorem dX6_status_1 : decode cX6_status 1 = .ok (.iconst 0, 1) := by decide +kernel
theorem dX6_status_2 : decode cX6_status 2 = .ok (.putfield 1, 3) := by decide +kernel
theorem dX6_status_5 : decode cX6_status 5 = .ok (.iload_n 1, 1) := by decide +kernel
theorem dX6_status_6 : decode cX6_status 6 = .ok (.i2l, 1) := by decide +kernel
theorem dX6_status_7 : decode cX6_status 7 = .ok (.lconst 0, 1) := by decide +kernel
theorem dX6_status_8 : decode cX6_status 8 = .ok (.ldc2_w 330, 3) := by decide +kernel
theorem dX6_status_11 : decode cX6_status 11 = .ok (.invokestatic 122, 3) := by decide +kernel
theorem dX6_status_14 : decode cX6_status 14 = .ok (.ifCond .eq 12, 3) := by decide +kernel
theorem dX6_status_17 : decode cX6_status 17 = .ok (.aload_n 0, 1) := by decide +kernel
theorem dX6_status_18 : decode cX6_status 18 = .ok (.getfield 7, 3) := by decide +kernel
theorem dX6_status_21 : decode cX6_status 21 = .ok (.iload_n 1, 1) := by decide +kernel
theorem dX6_status_22 : decode cX6_status 22 = .ok (.iaload, 1) := by decide +kernel
theorem dX6_status_23 : decode cX6_status 23 = .ok (.goto 4, 3) := by decide +kernel
theorem dX6_status_26 : decode cX6_status 26 = .ok (.iconst (-1), 1) := by decide +kernel
theorem dX6_status_27 : decode cX6_status 27 = .ok (.ireturn, 1) := by decide +kernel
