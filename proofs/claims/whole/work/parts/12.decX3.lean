theorem dX3_init_0 : decode cX3_init 0 = .ok (.aload_n 0, 1) := by decide +kernel
theorem dX3_init_1 : decode cX3_init 1 = .ok (.invokespecial 3, 3) := by decide +kernel
theorem dX3_init_4 : decode cX3_init 4 = .ok (.aload_n 0, 1) := by decide +kernel
theorem dX3_init_5 : decode cX3_init 5 = .ok (.sipush 600, 3) := by decide +kernel
theorem dX3_init_8 : decode cX3_init 8 = .ok (.newarray .int, 2) := by decide +kernel
theorem dX3_init_10 : decode cX3_init 10 = .ok (.putfield 9, 3) := by decide +kernel
theorem dX3_init_13 : decode cX3_init 13 = .ok (.aload_n 0, 1) := by decide +kernel
theorem dX3_init_14 : decode cX3_init 14 = .ok (.new 15, 3) := by decide +kernel
theorem dX3_init_17 : decode cX3_init 17 = .ok (.dup, 1) := by decide +kernel
theorem dX3_init_18 : decode cX3_init 18 = .ok (.invokespecial 17, 3) := by decide +kernel
theorem dX3_init_21 : decode cX3_init 21 = .ok (.putfield 18, 3) := by decide +kernel
theorem dX3_init_24 : decode cX3_init 24 = .ok (.aload_n 0, 1) := by decide +kernel
theorem dX3_init_25 : decode cX3_init 25 = .ok (.aload_n 1, 1) := by decide +kernel
theorem dX3_init_26 : decode cX3_init 26 = .ok (.putfield 22, 3) := by decide +kernel
theorem dX3_init_29 : decode cX3_init 29 = .ok (.return_, 1) := by decide +kernel
theorem dX3_read_0 : decode cX3_read 0 = .ok (.aload_n 0, 1) := by decide +kernel
theorem dX3_read_1 : decode cX3_read 1 = .ok (.iconst 0, 1) := by decide +kernel
theorem dX3_read_2 : decode cX3_read 2 = .ok (.putfield 26, 3) := by decide +kernel
theorem dX3_read_5 : decode cX3_read 5 = .ok (.aload_n 0, 1) := by decide +kernel
theorem dX3_read_6 : decode cX3_read 6 = .ok (.iload_n 1, 1) := by decide +kernel
theorem dX3_read_7 : decode cX3_read 7 = .ok (.aload_n 0, 1) := by decide +kernel
theorem dX3_read_8 : decode cX3_read 8 = .ok (.getfield 22, 3) := by decide +kernel
theorem dX3_read_11 : decode cX3_read 11 = .ok (.arraylength, 1) := by decide +kernel
theorem dX3_read_12 : decode cX3_read 12 = .ok (.invokestatic 30, 3) := by decide +kernel
theorem dX3_read_15 : decode cX3_read 15 = .ok (.putfield 36, 3) := by decide +kernel
theorem dX3_read_18 : decode cX3_read 18 = .ok (.aload_n 0, 1) := by decide +kernel
theorem dX3_read_19 : decode cX3_read 19 = .ok (.iconst 0, 1) := by decide +kernel
theorem dX3_read_20 : decode cX3_read 20 = .ok (.putfield 39, 3) := by decide +kernel
theorem dX3_read_23 : decode cX3_read 23 = .ok (.aload_n 0, 1) := by decide +kernel
theorem dX3_read_24 : decode cX3_read 24 = .ok (.iconst 0, 1) := by decide +kernel
theorem dX3_read_25 : decode cX3_read 25 = .ok (.putfield 42, 3) := by decide +kernel
theorem dX3_read_28 : decode cX3_read 28 = .ok (.aload_n 0, 1) := by decide +kernel
theorem dX3_read_29 : decode cX3_read 29 = .ok (.iconst 0, 1) := by decide +kernel
theorem dX3_read_30 : decode cX3_read 30 = .ok (.putfield 45, 3) := by decide +kernel
theorem dX3_read_33 : decode cX3_read 33 = .ok (.aload_n 0, 1) := by decide +kernel
theorem dX3_read_34 : decode cX3_read 34 = .ok (.iconst 0, 1) := by decide +kernel
theorem dX3_read_35 : decode cX3_read 35 = .ok (.putfield 49, 3) := by decide +kernel
theorem dX3_read_38 : decode cX3_read 38 = .ok (.aload_n 0, 1) := by decide +kernel
theorem dX3_read_39 : decode cX3_read 39 = .ok (.getfield 18, 3) := by decide +kernel
theorem dX3_read_42 : decode cX3_read 42 = .ok (.invokevirtual 52, 3) := by decide +kernel
theorem dX3_read_45 : decode cX3_read 45 = .ok (.aload_n 0, 1) := by decide +kernel
theorem dX3_read_46 : decode cX3_read 46 = .ok (.invokevirtual 55, 3) := by decide +kernel
theorem dX3_read_49 : decode cX3_read 49 = .ok (.iconst 0, 1) := by decide +kernel
theorem dX3_read_50 : decode cX3_read 50 = .ok (.istore_n 2, 1) := by decide +kernel
theorem dX3_read_51 : decode cX3_read 51 = .ok (.iload_n 2, 1) := by decide +kernel
theorem dX3_read_52 : decode cX3_read 52 = .ok (.sipush 600, 3) := by decide +kernel
theorem dX3_read_55 : decode cX3_read 55 = .ok (.if_icmp .ge 28, 3) := by decide +kernel
theorem dX3_read_58 : decode cX3_read 58 = .ok (.aload_n 0, 1) := by decide +kernel
theorem dX3_read_59 : decode cX3_read 59 = .ok (.getfield 39, 3) := by decide +kernel
theorem dX3_read_62 : decode cX3_read 62 = .ok (.ifCond .ne 21, 3) := by decide +kernel
theorem dX3_read_65 : decode cX3_read 65 = .ok (.aload_n 0, 1) := by decide +kernel
theorem dX3_read_66 : decode cX3_read 66 = .ok (.invokevirtual 58, 3) := by decide +kernel
theorem dX3_read_69 : decode cX3_read 69 = .ok (.iconst (-1), 1) := by decide +kernel
theorem dX3_read_70 : decode cX3_read 70 = .ok (.if_icmp .eq 13, 3) := by decide +kernel
theorem dX3_read_73 : decode cX3_read 73 = .ok (.aload_n 0, 1) := by decide +kernel
theorem dX3_read_74 : decode cX3_read 74 = .ok (.invokevirtual 62, 3) := by decide +kernel
theorem dX3_read_77 : decode cX3_read 77 = .ok (.iinc 2 1, 3) := by decide +kernel
theorem dX3_read_80 : decode cX3_read 80 = .ok (.goto (-29), 3) := by decide +kernel
theorem dX3_read_83 : decode cX3_read 83 = .ok (.aload_n 0, 1) := by decide +kernel
theorem dX3_read_84 : decode cX3_read 84 = .ok (.getfield 39, 3) := by decide +kernel
theorem dX3_read_87 : decode cX3_read 87 = .ok (.ifCond .ne 28, 3) := by decide +kernel
theorem dX3_read_90 : decode cX3_read 90 = .ok (.aload_n 0, 1) := by decide +kernel
theorem dX3_read_91 : decode cX3_read 91 = .ok (.getfield 42, 3) := by decide +kernel
theorem dX3_read_94 : decode cX3_read 94 = .ok (.ifCond .le 21, 3) := by decide +kernel
theorem dX3_read_97 : decode cX3_read 97 = .ok (.aload_n 0, 1) := by decide +kernel
theorem dX3_read_98 : decode cX3_read 98 = .ok (.getfield 18, 3) := by decide +kernel
theorem dX3_read_101 : decode cX3_read 101 = .ok (.aload_n 0, 1) := by decide +kernel
theorem dX3_read_102 : decode cX3_read 102 = .ok (.getfield 9, 3) := by decide +kernel
theorem dX3_read_105 : decode cX3_read 105 = .ok (.aload_n 0, 1) := by decide +kernel
theorem dX3_read_106 : decode cX3_read 106 = .ok (.getfield 42, 3) := by decide +kernel
theorem dX3_read_109 : decode cX3_read 109 = .ok (.invokestatic 65, 3) := by decide +kernel
theorem dX3_read_112 : decode cX3_read 112 = .ok (.putfield 71, 3) := by decide +kernel
theorem dX3_read_115 : decode cX3_read 115 = .ok (.aload_n 0, 1) := by decide +kernel
theorem dX3_read_116 : decode cX3_read 116 = .ok (.getfield 39, 3) := by decide +kernel
theorem dX3_read_119 : decode cX3_read 119 = .ok (.ireturn, 1) := by decide +kernel
theorem dX3_readMean_0 : decode cX3_readMean 0 = .ok (.aload_n 0, 1) := by decide +kernel
theorem dX3_readMean_1 : decode cX3_readMean 1 = .ok (.ldc 74, 2) := by decide +kernel
theorem dX3_readMean_3 : decode cX3_readMean 3 = .ok (.invokevirtual 76, 3) := by decide +kernel
theorem dX3_readMean_6 : decode cX3_readMean 6 = .ok (.ifCond .ne 12, 3) := by decide +kernel
theorem dX3_readMean_9 : decode cX3_readMean 9 = .ok (.aload_n 0, 1) := by decide +kernel
theorem dX3_readMean_10 : decode cX3_readMean 10 = .ok (.iconst 1, 1) := by decide +kernel
theorem dX3_readMean_11 : decode cX3_readMean 11 = .ok (.aload_n 0, 1) := by decide +kernel
theorem dX3_readMean_12 : decode cX3_readMean 12 = .ok (.getfield 26, 3) := by decide +kernel
theorem dX3_readMean_15 : decode cX3_readMean 15 = .ok (.invokevirtual 80, 3) := by decide +kernel
theorem dX3_readMean_18 : decode cX3_readMean 18 = .ok (.aload_n 0, 1) := by decide +kernel
theorem dX3_readMean_19 : decode cX3_readMean 19 = .ok (.getfield 18, 3) := by decide +kernel
theorem dX3_readMean_22 : decode cX3_readMean 22 = .ok (.aload_n 0, 1) := by decide +kernel
theorem dX3_readMean_23 : decode cX3_readMean 23 = .ok (.iconst 0, 1) := by decide +kernel
theorem dX3_readMean_24 : decode cX3_readMean 24 = .ok (.sipush 1000, 3) := by decide +kernel
theorem dX3_readMean_27 : decode cX3_readMean 27 = .ok (.invokevirtual 84, 3) := by decide +kernel
theorem dX3_readMean_30 : decode cX3_readMean 30 = .ok (.putfield 87, 3) := by decide +kernel
theorem dX3_readMean_33 : decode cX3_readMean 33 = .ok (.aload_n 0, 1) := by decide +kernel
theorem dX3_readMean_34 : decode cX3_readMean 34 = .ok (.bipush 59, 2) := by decide +kernel
theorem dX3_readMean_36 : decode cX3_readMean 36 = .ok (.invokevirtual 89, 3) := by decide +kernel
theorem dX3_readMean_39 : decode cX3_readMean 39 = .ok (.return_, 1) := by decide +kernel
theorem dX3_readStatement_0 : decode cX3_readStatement 0 = .ok (.aload_n 0, 1) := by decide +kernel
theorem dX3_readStatement_1 : decode cX3_readStatement 1 = .ok (.invokevirtual 93, 3) := by decide +kernel
theorem dX3_readStatement_4 : decode cX3_readStatement 4 = .ok (.aload_n 0, 1) := by decide +kernel
theorem dX3_readStatement_5 : decode cX3_readStatement 5 = .ok (.getfield 26, 3) := by decide +kernel
theorem dX3_readStatement_8 : decode cX3_readStatement 8 = .ok (.istore_n 1, 1) := by decide +kernel
theorem dX3_readStatement_9 : decode cX3_readStatement 9 = .ok (.aload_n 0, 1) := by decide +kernel
theorem dX3_readStatement_10 : decode cX3_readStatement 10 = .ok (.ldc 96, 2) := by decide +kernel
theorem dX3_readStatement_12 : decode cX3_readStatement 12 = .ok (.invokevirtual 76, 3) := by decide +kernel
theorem dX3_readStatement_15 : decode cX3_readStatement 15 = .ok (.ifCond .eq 11, 3) := by decide +kernel
theorem dX3_readStatement_18 : decode cX3_readStatement 18 = .ok (.aload_n 0, 1) := by decide +kernel
theorem dX3_readStatement_19 : decode cX3_readStatement 19 = .ok (.iload_n 1, 1) := by decide +kernel
theorem dX3_readStatement_20 : decode cX3_readStatement 20 = .ok (.invokevirtual 98, 3) := by decide +kernel
theorem dX3_readStatement_23 : decode cX3_readStatement 23 = .ok (.goto 134, 3) := by decide +kernel
theorem dX3_readStatement_26 : decode cX3_readStatement 26 = .ok (.aload_n 0, 1) := by decide +kernel
theorem dX3_readStatement_27 : decode cX3_readStatement 27 = .ok (.ldc 101, 2) := by decide +kernel
theorem dX3_readStatement_29 : decode cX3_readStatement 29 = .ok (.invokevirtual 76, 3) := by decide +kernel
theorem dX3_readStatement_32 : decode cX3_readStatement 32 = .ok (.ifCond .eq 11, 3) := by decide +kernel
theorem dX3_readStatement_35 : decode cX3_readStatement 35 = .ok (.aload_n 0, 1) := by decide +kernel
theorem dX3_readStatement_36 : decode cX3_readStatement 36 = .ok (.iload_n 1, 1) := by decide +kernel
theorem dX3_readStatement_37 : decode cX3_readStatement 37 = .ok (.invokevirtual 103, 3) := by decide +kernel
theorem dX3_readStatement_40 : decode cX3_readStatement 40 = .ok (.goto 117, 3) := by decide +kernel
theorem dX3_readStatement_43 : decode cX3_readStatement 43 = .ok (.aload_n 0, 1) := by decide +kernel
theorem dX3_readStatement_44 : decode cX3_readStatement 44 = .ok (.ldc 106, 2) := by decide +kernel
theorem dX3_readStatement_46 : decode cX3_readStatement 46 = .ok (.invokevirtual 76, 3) := by decide +kernel
theorem dX3_readStatement_49 : decode cX3_readStatement 49 = .ok (.ifCond .eq 11, 3) := by decide +kernel
theorem dX3_readStatement_52 : decode cX3_readStatement 52 = .ok (.aload_n 0, 1) := by decide +kernel
theorem dX3_readStatement_53 : decode cX3_readStatement 53 = .ok (.iload_n 1, 1) := by decide +kernel
theorem dX3_readStatement_54 : decode cX3_readStatement 54 = .ok (.invokevirtual 108, 3) := by decide +kernel
theorem dX3_readStatement_57 : decode cX3_readStatement 57 = .ok (.goto 100, 3) := by decide +kernel
theorem dX3_readStatement_60 : decode cX3_readStatement 60 = .ok (.aload_n 0, 1) := by decide +kernel
theorem dX3_readStatement_61 : decode cX3_readStatement 61 = .ok (.getfield 42, 3) := by decide +kernel
theorem dX3_readStatement_64 : decode cX3_readStatement 64 = .ok (.ifCond .ne 20, 3) := by decide +kernel
theorem dX3_readStatement_67 : decode cX3_readStatement 67 = .ok (.aload_n 0, 1) := by decide +kernel
theorem dX3_readStatement_68 : decode cX3_readStatement 68 = .ok (.ldc 111, 2) := by decide +kernel
theorem dX3_readStatement_70 : decode cX3_readStatement 70 = .ok (.invokevirtual 76, 3) := by decide +kernel
theorem dX3_readStatement_73 : decode cX3_readStatement 73 = .ok (.ifCond .eq 11, 3) := by decide +kernel
theorem dX3_readStatement_76 : decode cX3_readStatement 76 = .ok (.aload_n 0, 1) := by decide +kernel
theorem dX3_readStatement_77 : decode cX3_readStatement 77 = .ok (.iconst 0, 1) := by decide +kernel
theorem dX3_readStatement_78 : decode cX3_readStatement 78 = .ok (.invokevirtual 113, 3) := by decide +kernel
theorem dX3_readStatement_81 : decode cX3_readStatement 81 = .ok (.goto 76, 3) := by decide +kernel
theorem dX3_readStatement_84 : decode cX3_readStatement 84 = .ok (.aload_n 0, 1) := by decide +kernel
theorem dX3_readStatement_85 : decode cX3_readStatement 85 = .ok (.getfield 45, 3) := by decide +kernel
theorem dX3_readStatement_88 : decode cX3_readStatement 88 = .ok (.ifCond .ne 35, 3) := by decide +kernel
theorem dX3_readStatement_91 : decode cX3_readStatement 91 = .ok (.aload_n 0, 1) := by decide +kernel
theorem dX3_readStatement_92 : decode cX3_readStatement 92 = .ok (.ldc 116, 2) := by decide +kernel
theorem dX3_readStatement_94 : decode cX3_readStatement 94 = .ok (.invokevirtual 76, 3) := by decide +kernel
theorem dX3_readStatement_97 : decode cX3_readStatement 97 = .ok (.ifCond .eq 26, 3) := by decide +kernel
theorem dX3_readStatement_100 : decode cX3_readStatement 100 = .ok (.aload_n 0, 1) := by decide +kernel
theorem dX3_readStatement_101 : decode cX3_readStatement 101 = .ok (.iconst 1, 1) := by decide +kernel
theorem dX3_readStatement_102 : decode cX3_readStatement 102 = .ok (.putfield 45, 3) := by decide +kernel
theorem dX3_readStatement_105 : decode cX3_readStatement 105 = .ok (.aload_n 0, 1) := by decide +kernel
theorem dX3_readStatement_106 : decode cX3_readStatement 106 = .ok (.getfield 18, 3) := by decide +kernel
theorem dX3_readStatement_109 : decode cX3_readStatement 109 = .ok (.aload_n 0, 1) := by decide +kernel
theorem dX3_readStatement_110 : decode cX3_readStatement 110 = .ok (.iconst 0, 1) := by decide +kernel
theorem dX3_readStatement_111 : decode cX3_readStatement 111 = .ok (.sipush 240, 3) := by decide +kernel
theorem dX3_readStatement_114 : decode cX3_readStatement 114 = .ok (.invokevirtual 84, 3) := by decide +kernel
theorem dX3_readStatement_117 : decode cX3_readStatement 117 = .ok (.putfield 118, 3) := by decide +kernel
theorem dX3_readStatement_120 : decode cX3_readStatement 120 = .ok (.goto 37, 3) := by decide +kernel
theorem dX3_readStatement_123 : decode cX3_readStatement 123 = .ok (.aload_n 0, 1) := by decide +kernel
theorem dX3_readStatement_124 : decode cX3_readStatement 124 = .ok (.getfield 49, 3) := by decide +kernel
theorem dX3_readStatement_127 : decode cX3_readStatement 127 = .ok (.ifCond .ne 24, 3) := by decide +kernel
theorem dX3_readStatement_130 : decode cX3_readStatement 130 = .ok (.aload_n 0, 1) := by decide +kernel
theorem dX3_readStatement_131 : decode cX3_readStatement 131 = .ok (.ldc 120, 2) := by decide +kernel
theorem dX3_readStatement_133 : decode cX3_readStatement 133 = .ok (.invokevirtual 76, 3) := by decide +kernel
theorem dX3_readStatement_136 : decode cX3_readStatement 136 = .ok (.ifCond .eq 15, 3) := by decide +kernel
theorem dX3_readStatement_139 : decode cX3_readStatement 139 = .ok (.aload_n 0, 1) := by decide +kernel
theorem dX3_readStatement_140 : decode cX3_readStatement 140 = .ok (.iconst 1, 1) := by decide +kernel
theorem dX3_readStatement_141 : decode cX3_readStatement 141 = .ok (.putfield 49, 3) := by decide +kernel
theorem dX3_readStatement_144 : decode cX3_readStatement 144 = .ok (.aload_n 0, 1) := by decide +kernel
theorem dX3_readStatement_145 : decode cX3_readStatement 145 = .ok (.invokevirtual 122, 3) := by decide +kernel
theorem dX3_readStatement_148 : decode cX3_readStatement 148 = .ok (.goto 9, 3) := by decide +kernel
theorem dX3_readStatement_151 : decode cX3_readStatement 151 = .ok (.aload_n 0, 1) := by decide +kernel
theorem dX3_readStatement_152 : decode cX3_readStatement 152 = .ok (.iconst 1, 1) := by decide +kernel
theorem dX3_readStatement_153 : decode cX3_readStatement 153 = .ok (.iload_n 1, 1) := by decide +kernel
theorem dX3_readStatement_154 : decode cX3_readStatement 154 = .ok (.invokevirtual 80, 3) := by decide +kernel
theorem dX3_readStatement_157 : decode cX3_readStatement 157 = .ok (.aload_n 0, 1) := by decide +kernel
theorem dX3_readStatement_158 : decode cX3_readStatement 158 = .ok (.bipush 59, 2) := by decide +kernel
theorem dX3_readStatement_160 : decode cX3_readStatement 160 = .ok (.invokevirtual 89, 3) := by decide +kernel
theorem dX3_readStatement_163 : decode cX3_readStatement 163 = .ok (.return_, 1) := by decide +kernel
theorem dX3_readWave_0 : decode cX3_readWave 0 = .ok (.aload_n 0, 1) := by decide +kernel
theorem dX3_readWave_1 : decode cX3_readWave 1 = .ok (.getfield 18, 3) := by decide +kernel
theorem dX3_readWave_4 : decode cX3_readWave 4 = .ok (.getfield 125, 3) := by decide +kernel
theorem dX3_readWave_7 : decode cX3_readWave 7 = .ok (.bipush 6, 2) := by decide +kernel
theorem dX3_readWave_9 : decode cX3_readWave 9 = .ok (.if_icmp .lt 10, 3) := by decide +kernel
theorem dX3_readWave_12 : decode cX3_readWave 12 = .ok (.aload_n 0, 1) := by decide +kernel
theorem dX3_readWave_13 : decode cX3_readWave 13 = .ok (.iconst 3, 1) := by decide +kernel
theorem dX3_readWave_14 : decode cX3_readWave 14 = .ok (.iload_n 1, 1) := by decide +kernel
theorem dX3_readWave_15 : decode cX3_readWave 15 = .ok (.invokevirtual 80, 3) := by decide +kernel
theorem dX3_readWave_18 : decode cX3_readWave 18 = .ok (.return_, 1) := by decide +kernel
theorem dX3_readWave_19 : decode cX3_readWave 19 = .ok (.aload_n 0, 1) := by decide +kernel
theorem dX3_readWave_20 : decode cX3_readWave 20 = .ok (.aload_n 0, 1) := by decide +kernel
theorem dX3_readWave_21 : decode cX3_readWave 21 = .ok (.getfield 18, 3) := by decide +kernel
theorem dX3_readWave_24 : decode cX3_readWave 24 = .ok (.getfield 128, 3) := by decide +kernel
theorem dX3_readWave_27 : decode cX3_readWave 27 = .ok (.aload_n 0, 1) := by decide +kernel
theorem dX3_readWave_28 : decode cX3_readWave 28 = .ok (.getfield 18, 3) := by decide +kernel
theorem dX3_readWave_31 : decode cX3_readWave 31 = .ok (.getfield 125, 3) := by decide +kernel
theorem dX3_readWave_34 : decode cX3_readWave 34 = .ok (.iconst 3, 1) := by decide +kernel
theorem dX3_readWave_35 : decode cX3_readWave 35 = .ok (.imul, 1) := by decide +kernel
theorem dX3_readWave_36 : decode cX3_readWave 36 = .ok (.getstatic 131, 3) := by decide +kernel
theorem dX3_readWave_39 : decode cX3_readWave 39 = .ok (.invokevirtual 134, 3) := by decide +kernel
theorem dX3_readWave_42 : decode cX3_readWave 42 = .ok (.aload_n 0, 1) := by decide +kernel
theorem dX3_readWave_43 : decode cX3_readWave 43 = .ok (.getfield 18, 3) := by decide +kernel
theorem dX3_readWave_46 : decode cX3_readWave 46 = .ok (.dup, 1) := by decide +kernel
theorem dX3_readWave_47 : decode cX3_readWave 47 = .ok (.getfield 125, 3) := by decide +kernel
theorem dX3_readWave_50 : decode cX3_readWave 50 = .ok (.iconst 1, 1) := by decide +kernel
theorem dX3_readWave_51 : decode cX3_readWave 51 = .ok (.iadd, 1) := by decide +kernel
theorem dX3_readWave_52 : decode cX3_readWave 52 = .ok (.putfield 125, 3) := by decide +kernel
theorem dX3_readWave_55 : decode cX3_readWave 55 = .ok (.return_, 1) := by decide +kernel
theorem dX3_readBar_0 : decode cX3_readBar 0 = .ok (.aload_n 0, 1) := by decide +kernel
theorem dX3_readBar_1 : decode cX3_readBar 1 = .ok (.getfield 18, 3) := by decide +kernel
theorem dX3_readBar_4 : decode cX3_readBar 4 = .ok (.getfield 138, 3) := by decide +kernel
theorem dX3_readBar_7 : decode cX3_readBar 7 = .ok (.bipush 6, 2) := by decide +kernel
theorem dX3_readBar_9 : decode cX3_readBar 9 = .ok (.if_icmp .lt 10, 3) := by decide +kernel
theorem dX3_readBar_12 : decode cX3_readBar 12 = .ok (.aload_n 0, 1) := by decide +kernel
theorem dX3_readBar_13 : decode cX3_readBar 13 = .ok (.iconst 3, 1) := by decide +kernel
theorem dX3_readBar_14 : decode cX3_readBar 14 = .ok (.iload_n 1, 1) := by decide +kernel
theorem dX3_readBar_15 : decode cX3_readBar 15 = .ok (.invokevirtual 80, 3) := by decide +kernel
theorem dX3_readBar_18 : decode cX3_readBar 18 = .ok (.return_, 1) := by decide +kernel
theorem dX3_readBar_19 : decode cX3_readBar 19 = .ok (.aload_n 0, 1) := by decide +kernel
theorem dX3_readBar_20 : decode cX3_readBar 20 = .ok (.getfield 18, 3) := by decide +kernel
theorem dX3_readBar_23 : decode cX3_readBar 23 = .ok (.getfield 138, 3) := by decide +kernel
theorem dX3_readBar_26 : decode cX3_readBar 26 = .ok (.bipush 6, 2) := by decide +kernel
theorem dX3_readBar_28 : decode cX3_readBar 28 = .ok (.imul, 1) := by decide +kernel
theorem dX3_readBar_29 : decode cX3_readBar 29 = .ok (.istore_n 2, 1) := by decide +kernel
theorem dX3_readBar_30 : decode cX3_readBar 30 = .ok (.aload_n 0, 1) := by decide +kernel
theorem dX3_readBar_31 : decode cX3_readBar 31 = .ok (.aload_n 0, 1) := by decide +kernel
theorem dX3_readBar_32 : decode cX3_readBar 32 = .ok (.getfield 18, 3) := by decide +kernel
theorem dX3_readBar_35 : decode cX3_readBar 35 = .ok (.getfield 141, 3) := by decide +kernel
theorem dX3_readBar_38 : decode cX3_readBar 38 = .ok (.iload_n 2, 1) := by decide +kernel
theorem dX3_readBar_39 : decode cX3_readBar 39 = .ok (.getstatic 144, 3) := by decide +kernel
theorem dX3_readBar_42 : decode cX3_readBar 42 = .ok (.invokevirtual 134, 3) := by decide +kernel
theorem dX3_readBar_45 : decode cX3_readBar 45 = .ok (.aload_n 0, 1) := by decide +kernel
theorem dX3_readBar_46 : decode cX3_readBar 46 = .ok (.getfield 18, 3) := by decide +kernel
theorem dX3_readBar_49 : decode cX3_readBar 49 = .ok (.getfield 141, 3) := by decide +kernel
theorem dX3_readBar_52 : decode cX3_readBar 52 = .ok (.iload_n 2, 1) := by decide +kernel
theorem dX3_readBar_53 : decode cX3_readBar 53 = .ok (.iconst 5, 1) := by decide +kernel
theorem dX3_readBar_54 : decode cX3_readBar 54 = .ok (.iadd, 1) := by decide +kernel
theorem dX3_readBar_55 : decode cX3_readBar 55 = .ok (.aload_n 0, 1) := by decide +kernel
theorem dX3_readBar_56 : decode cX3_readBar 56 = .ok (.ldc 147, 2) := by decide +kernel
theorem dX3_readBar_58 : decode cX3_readBar 58 = .ok (.invokevirtual 76, 3) := by decide +kernel
theorem dX3_readBar_61 : decode cX3_readBar 61 = .ok (.ifCond .eq 7, 3) := by decide +kernel
theorem dX3_readBar_64 : decode cX3_readBar 64 = .ok (.iconst 1, 1) := by decide +kernel
theorem dX3_readBar_65 : decode cX3_readBar 65 = .ok (.goto 4, 3) := by decide +kernel
theorem dX3_readBar_68 : decode cX3_readBar 68 = .ok (.iconst 0, 1) := by decide +kernel
theorem dX3_readBar_69 : decode cX3_readBar 69 = .ok (.iastore, 1) := by decide +kernel
theorem dX3_readBar_70 : decode cX3_readBar 70 = .ok (.aload_n 0, 1) := by decide +kernel
theorem dX3_readBar_71 : decode cX3_readBar 71 = .ok (.getfield 18, 3) := by decide +kernel
theorem dX3_readBar_74 : decode cX3_readBar 74 = .ok (.dup, 1) := by decide +kernel
theorem dX3_readBar_75 : decode cX3_readBar 75 = .ok (.getfield 138, 3) := by decide +kernel
theorem dX3_readBar_78 : decode cX3_readBar 78 = .ok (.iconst 1, 1) := by decide +kernel
theorem dX3_readBar_79 : decode cX3_readBar 79 = .ok (.iadd, 1) := by decide +kernel
theorem dX3_readBar_80 : decode cX3_readBar 80 = .ok (.putfield 138, 3) := by decide +kernel
theorem dX3_readBar_83 : decode cX3_readBar 83 = .ok (.return_, 1) := by decide +kernel
theorem dX3_readShip_0 : decode cX3_readShip 0 = .ok (.aload_n 0, 1) := by decide +kernel
theorem dX3_readShip_1 : decode cX3_readShip 1 = .ok (.getfield 18, 3) := by decide +kernel
theorem dX3_readShip_4 : decode cX3_readShip 4 = .ok (.getfield 149, 3) := by decide +kernel
theorem dX3_readShip_7 : decode cX3_readShip 7 = .ok (.bipush 6, 2) := by decide +kernel
theorem dX3_readShip_9 : decode cX3_readShip 9 = .ok (.if_icmp .lt 10, 3) := by decide +kernel
theorem dX3_readShip_12 : decode cX3_readShip 12 = .ok (.aload_n 0, 1) := by decide +kernel
theorem dX3_readShip_13 : decode cX3_readShip 13 = .ok (.iconst 3, 1) := by decide +kernel
theorem dX3_readShip_14 : decode cX3_readShip 14 = .ok (.iload_n 1, 1) := by decide +kernel
theorem dX3_readShip_15 : decode cX3_readShip 15 = .ok (.invokevirtual 80, 3) := by decide +kernel
theorem dX3_readShip_18 : decode cX3_readShip 18 = .ok (.return_, 1) := by decide +kernel
theorem dX3_readShip_19 : decode cX3_readShip 19 = .ok (.aload_n 0, 1) := by decide +kernel
theorem dX3_readShip_20 : decode cX3_readShip 20 = .ok (.getfield 18, 3) := by decide +kernel
theorem dX3_readShip_23 : decode cX3_readShip 23 = .ok (.getfield 149, 3) := by decide +kernel
theorem dX3_readShip_26 : decode cX3_readShip 26 = .ok (.bipush 8, 2) := by decide +kernel
theorem dX3_readShip_28 : decode cX3_readShip 28 = .ok (.imul, 1) := by decide +kernel
theorem dX3_readShip_29 : decode cX3_readShip 29 = .ok (.istore_n 2, 1) := by decide +kernel
theorem dX3_readShip_30 : decode cX3_readShip 30 = .ok (.aload_n 0, 1) := by decide +kernel
theorem dX3_readShip_31 : decode cX3_readShip 31 = .ok (.aload_n 0, 1) := by decide +kernel
theorem dX3_readShip_32 : decode cX3_readShip 32 = .ok (.getfield 18, 3) := by decide +kernel
theorem dX3_readShip_35 : decode cX3_readShip 35 = .ok (.getfield 152, 3) := by decide +kernel
theorem dX3_readShip_38 : decode cX3_readShip 38 = .ok (.iload_n 2, 1) := by decide +kernel
theorem dX3_readShip_39 : decode cX3_readShip 39 = .ok (.getstatic 155, 3) := by decide +kernel
theorem dX3_readShip_42 : decode cX3_readShip 42 = .ok (.invokevirtual 134, 3) := by decide +kernel
theorem dX3_readShip_45 : decode cX3_readShip 45 = .ok (.aload_n 0, 1) := by decide +kernel
theorem dX3_readShip_46 : decode cX3_readShip 46 = .ok (.getfield 18, 3) := by decide +kernel
theorem dX3_readShip_49 : decode cX3_readShip 49 = .ok (.getfield 152, 3) := by decide +kernel
theorem dX3_readShip_52 : decode cX3_readShip 52 = .ok (.iload_n 2, 1) := by decide +kernel
theorem dX3_readShip_53 : decode cX3_readShip 53 = .ok (.iconst 4, 1) := by decide +kernel
theorem dX3_readShip_54 : decode cX3_readShip 54 = .ok (.iadd, 1) := by decide +kernel
theorem dX3_readShip_55 : decode cX3_readShip 55 = .ok (.aload_n 0, 1) := by decide +kernel
theorem dX3_readShip_56 : decode cX3_readShip 56 = .ok (.aload_n 0, 1) := by decide +kernel
theorem dX3_readShip_57 : decode cX3_readShip 57 = .ok (.getfield 18, 3) := by decide +kernel
theorem dX3_readShip_60 : decode cX3_readShip 60 = .ok (.getfield 152, 3) := by decide +kernel
theorem dX3_readShip_63 : decode cX3_readShip 63 = .ok (.iload_n 2, 1) := by decide +kernel
theorem dX3_readShip_64 : decode cX3_readShip 64 = .ok (.iconst 3, 1) := by decide +kernel
theorem dX3_readShip_65 : decode cX3_readShip 65 = .ok (.iadd, 1) := by decide +kernel
theorem dX3_readShip_66 : decode cX3_readShip 66 = .ok (.iaload, 1) := by decide +kernel
theorem dX3_readShip_67 : decode cX3_readShip 67 = .ok (.bipush 25, 2) := by decide +kernel
theorem dX3_readShip_69 : decode cX3_readShip 69 = .ok (.invokevirtual 84, 3) := by decide +kernel
theorem dX3_readShip_72 : decode cX3_readShip 72 = .ok (.iastore, 1) := by decide +kernel
theorem dX3_readShip_73 : decode cX3_readShip 73 = .ok (.aload_n 0, 1) := by decide +kernel
theorem dX3_readShip_74 : decode cX3_readShip 74 = .ok (.getfield 18, 3) := by decide +kernel
theorem dX3_readShip_77 : decode cX3_readShip 77 = .ok (.getfield 152, 3) := by decide +kernel
theorem dX3_readShip_80 : decode cX3_readShip 80 = .ok (.iload_n 2, 1) := by decide +kernel
theorem dX3_readShip_81 : decode cX3_readShip 81 = .ok (.iconst 5, 1) := by decide +kernel
theorem dX3_readShip_82 : decode cX3_readShip 82 = .ok (.iadd, 1) := by decide +kernel
theorem dX3_readShip_83 : decode cX3_readShip 83 = .ok (.aload_n 0, 1) := by decide +kernel
theorem dX3_readShip_84 : decode cX3_readShip 84 = .ok (.ldc 158, 2) := by decide +kernel
theorem dX3_readShip_86 : decode cX3_readShip 86 = .ok (.invokevirtual 76, 3) := by decide +kernel
theorem dX3_readShip_89 : decode cX3_readShip 89 = .ok (.ifCond .eq 7, 3) := by decide +kernel
theorem dX3_readShip_92 : decode cX3_readShip 92 = .ok (.iconst 1, 1) := by decide +kernel
theorem dX3_readShip_93 : decode cX3_readShip 93 = .ok (.goto 4, 3) := by decide +kernel
theorem dX3_readShip_96 : decode cX3_readShip 96 = .ok (.iconst 0, 1) := by decide +kernel
theorem dX3_readShip_97 : decode cX3_readShip 97 = .ok (.iastore, 1) := by decide +kernel
theorem dX3_readShip_98 : decode cX3_readShip 98 = .ok (.aload_n 0, 1) := by decide +kernel
theorem dX3_readShip_99 : decode cX3_readShip 99 = .ok (.getfield 18, 3) := by decide +kernel
theorem dX3_readShip_102 : decode cX3_readShip 102 = .ok (.aload_n 0, 1) := by decide +kernel
theorem dX3_readShip_103 : decode cX3_readShip 103 = .ok (.getfield 18, 3) := by decide +kernel
theorem dX3_readShip_106 : decode cX3_readShip 106 = .ok (.getfield 149, 3) := by decide +kernel
theorem dX3_readShip_109 : decode cX3_readShip 109 = .ok (.iconst (-1), 1) := by decide +kernel
theorem dX3_readShip_110 : decode cX3_readShip 110 = .ok (.iconst (-1), 1) := by decide +kernel
theorem dX3_readShip_111 : decode cX3_readShip 111 = .ok (.invokevirtual 160, 3) := by decide +kernel
theorem dX3_readShip_114 : decode cX3_readShip 114 = .ok (.aload_n 0, 1) := by decide +kernel
theorem dX3_readShip_115 : decode cX3_readShip 115 = .ok (.getfield 18, 3) := by decide +kernel
theorem dX3_readShip_118 : decode cX3_readShip 118 = .ok (.dup, 1) := by decide +kernel
theorem dX3_readShip_119 : decode cX3_readShip 119 = .ok (.getfield 149, 3) := by decide +kernel
theorem dX3_readShip_122 : decode cX3_readShip 122 = .ok (.iconst 1, 1) := by decide +kernel
theorem dX3_readShip_123 : decode cX3_readShip 123 = .ok (.iadd, 1) := by decide +kernel
theorem dX3_readShip_124 : decode cX3_readShip 124 = .ok (.putfield 149, 3) := by decide +kernel
theorem dX3_readShip_127 : decode cX3_readShip 127 = .ok (.return_, 1) := by decide +kernel
theorem dX3_readSurge_0 : decode cX3_readSurge 0 = .ok (.aload_n 0, 1) := by decide +kernel
theorem dX3_readSurge_1 : decode cX3_readSurge 1 = .ok (.bipush 45, 2) := by decide +kernel
theorem dX3_readSurge_3 : decode cX3_readSurge 3 = .ok (.invokevirtual 164, 3) := by decide +kernel
theorem dX3_readSurge_6 : decode cX3_readSurge 6 = .ok (.istore_n 1, 1) := by decide +kernel
theorem dX3_readSurge_7 : decode cX3_readSurge 7 = .ok (.aload_n 0, 1) := by decide +kernel
theorem dX3_readSurge_8 : decode cX3_readSurge 8 = .ok (.iconst 0, 1) := by decide +kernel
theorem dX3_readSurge_9 : decode cX3_readSurge 9 = .ok (.sipush 300, 3) := by decide +kernel
theorem dX3_readSurge_12 : decode cX3_readSurge 12 = .ok (.invokevirtual 84, 3) := by decide +kernel
theorem dX3_readSurge_15 : decode cX3_readSurge 15 = .ok (.istore_n 2, 1) := by decide +kernel
theorem dX3_readSurge_16 : decode cX3_readSurge 16 = .ok (.aload_n 0, 1) := by decide +kernel
theorem dX3_readSurge_17 : decode cX3_readSurge 17 = .ok (.getfield 18, 3) := by decide +kernel
theorem dX3_readSurge_20 : decode cX3_readSurge 20 = .ok (.iload_n 1, 1) := by decide +kernel
theorem dX3_readSurge_21 : decode cX3_readSurge 21 = .ok (.ifCond .eq 8, 3) := by decide +kernel
theorem dX3_readSurge_24 : decode cX3_readSurge 24 = .ok (.iload_n 2, 1) := by decide +kernel
theorem dX3_readSurge_25 : decode cX3_readSurge 25 = .ok (.ineg, 1) := by decide +kernel
theorem dX3_readSurge_26 : decode cX3_readSurge 26 = .ok (.goto 4, 3) := by decide +kernel
theorem dX3_readSurge_29 : decode cX3_readSurge 29 = .ok (.iload_n 2, 1) := by decide +kernel
theorem dX3_readSurge_30 : decode cX3_readSurge 30 = .ok (.putfield 168, 3) := by decide +kernel
theorem dX3_readSurge_33 : decode cX3_readSurge 33 = .ok (.return_, 1) := by decide +kernel
theorem dX3_readNumbers_0 : decode cX3_readNumbers 0 = .ok (.iconst 0, 1) := by decide +kernel
theorem dX3_readNumbers_1 : decode cX3_readNumbers 1 = .ok (.istore 4, 2) := by decide +kernel
theorem dX3_readNumbers_3 : decode cX3_readNumbers 3 = .ok (.iconst 2, 1) := by decide +kernel
theorem dX3_readNumbers_4 : decode cX3_readNumbers 4 = .ok (.iload 4, 2) := by decide +kernel
theorem dX3_readNumbers_6 : decode cX3_readNumbers 6 = .ok (.imul, 1) := by decide +kernel
theorem dX3_readNumbers_7 : decode cX3_readNumbers 7 = .ok (.iconst 1, 1) := by decide +kernel
theorem dX3_readNumbers_8 : decode cX3_readNumbers 8 = .ok (.iadd, 1) := by decide +kernel
theorem dX3_readNumbers_9 : decode cX3_readNumbers 9 = .ok (.aload_n 3, 1) := by decide +kernel
theorem dX3_readNumbers_10 : decode cX3_readNumbers 10 = .ok (.arraylength, 1) := by decide +kernel
theorem dX3_readNumbers_11 : decode cX3_readNumbers 11 = .ok (.if_icmp .ge 42, 3) := by decide +kernel
theorem dX3_readNumbers_14 : decode cX3_readNumbers 14 = .ok (.iload_n 2, 1) := by decide +kernel
theorem dX3_readNumbers_15 : decode cX3_readNumbers 15 = .ok (.iload 4, 2) := by decide +kernel
theorem dX3_readNumbers_17 : decode cX3_readNumbers 17 = .ok (.iadd, 1) := by decide +kernel
theorem dX3_readNumbers_18 : decode cX3_readNumbers 18 = .ok (.aload_n 1, 1) := by decide +kernel
theorem dX3_readNumbers_19 : decode cX3_readNumbers 19 = .ok (.arraylength, 1) := by decide +kernel
theorem dX3_readNumbers_20 : decode cX3_readNumbers 20 = .ok (.if_icmp .ge 33, 3) := by decide +kernel
theorem dX3_readNumbers_23 : decode cX3_readNumbers 23 = .ok (.aload_n 1, 1) := by decide +kernel
theorem dX3_readNumbers_24 : decode cX3_readNumbers 24 = .ok (.iload_n 2, 1) := by decide +kernel
theorem dX3_readNumbers_25 : decode cX3_readNumbers 25 = .ok (.iload 4, 2) := by decide +kernel
theorem dX3_readNumbers_27 : decode cX3_readNumbers 27 = .ok (.iadd, 1) := by decide +kernel
theorem dX3_readNumbers_28 : decode cX3_readNumbers 28 = .ok (.aload_n 0, 1) := by decide +kernel
theorem dX3_readNumbers_29 : decode cX3_readNumbers 29 = .ok (.aload_n 3, 1) := by decide +kernel
theorem dX3_readNumbers_30 : decode cX3_readNumbers 30 = .ok (.iconst 2, 1) := by decide +kernel
theorem dX3_readNumbers_31 : decode cX3_readNumbers 31 = .ok (.iload 4, 2) := by decide +kernel
theorem dX3_readNumbers_33 : decode cX3_readNumbers 33 = .ok (.imul, 1) := by decide +kernel
theorem dX3_readNumbers_34 : decode cX3_readNumbers 34 = .ok (.iaload, 1) := by decide +kernel
theorem dX3_readNumbers_35 : decode cX3_readNumbers 35 = .ok (.aload_n 3, 1) := by decide +kernel
theorem dX3_readNumbers_36 : decode cX3_readNumbers 36 = .ok (.iconst 2, 1) := by decide +kernel
theorem dX3_readNumbers_37 : decode cX3_readNumbers 37 = .ok (.iload 4, 2) := by decide +kernel
theorem dX3_readNumbers_39 : decode cX3_readNumbers 39 = .ok (.imul, 1) := by decide +kernel
theorem dX3_readNumbers_40 : decode cX3_readNumbers 40 = .ok (.iconst 1, 1) := by decide +kernel
theorem dX3_readNumbers_41 : decode cX3_readNumbers 41 = .ok (.iadd, 1) := by decide +kernel
theorem dX3_readNumbers_42 : decode cX3_readNumbers 42 = .ok (.iaload, 1) := by decide +kernel
theorem dX3_readNumbers_43 : decode cX3_readNumbers 43 = .ok (.invokevirtual 84, 3) := by decide +kernel
theorem dX3_readNumbers_46 : decode cX3_readNumbers 46 = .ok (.iastore, 1) := by decide +kernel
theorem dX3_readNumbers_47 : decode cX3_readNumbers 47 = .ok (.iinc 4 1, 3) := by decide +kernel
theorem dX3_readNumbers_50 : decode cX3_readNumbers 50 = .ok (.goto (-47), 3) := by decide +kernel
theorem dX3_readNumbers_53 : decode cX3_readNumbers 53 = .ok (.return_, 1) := by decide +kernel
theorem dX3_readSum_0 : decode cX3_readSum 0 = .ok (.aload_n 0, 1) := by decide +kernel
theorem dX3_readSum_1 : decode cX3_readSum 1 = .ok (.iload_n 1, 1) := by decide +kernel
theorem dX3_readSum_2 : decode cX3_readSum 2 = .ok (.invokevirtual 170, 3) := by decide +kernel
theorem dX3_readSum_5 : decode cX3_readSum 5 = .ok (.iconst 0, 1) := by decide +kernel
theorem dX3_readSum_6 : decode cX3_readSum 6 = .ok (.istore_n 2, 1) := by decide +kernel
theorem dX3_readSum_7 : decode cX3_readSum 7 = .ok (.iload_n 2, 1) := by decide +kernel
theorem dX3_readSum_8 : decode cX3_readSum 8 = .ok (.sipush 600, 3) := by decide +kernel
theorem dX3_readSum_11 : decode cX3_readSum 11 = .ok (.if_icmp .ge 57, 3) := by decide +kernel
theorem dX3_readSum_14 : decode cX3_readSum 14 = .ok (.aload_n 0, 1) := by decide +kernel
theorem dX3_readSum_15 : decode cX3_readSum 15 = .ok (.getfield 39, 3) := by decide +kernel
theorem dX3_readSum_18 : decode cX3_readSum 18 = .ok (.ifCond .ne 50, 3) := by decide +kernel
theorem dX3_readSum_21 : decode cX3_readSum 21 = .ok (.aload_n 0, 1) := by decide +kernel
theorem dX3_readSum_22 : decode cX3_readSum 22 = .ok (.bipush 43, 2) := by decide +kernel
theorem dX3_readSum_24 : decode cX3_readSum 24 = .ok (.invokevirtual 164, 3) := by decide +kernel
theorem dX3_readSum_27 : decode cX3_readSum 27 = .ok (.istore_n 3, 1) := by decide +kernel
theorem dX3_readSum_28 : decode cX3_readSum 28 = .ok (.iload_n 3, 1) := by decide +kernel
theorem dX3_readSum_29 : decode cX3_readSum 29 = .ok (.ifCond .ne 13, 3) := by decide +kernel
theorem dX3_readSum_32 : decode cX3_readSum 32 = .ok (.aload_n 0, 1) := by decide +kernel
theorem dX3_readSum_33 : decode cX3_readSum 33 = .ok (.bipush 45, 2) := by decide +kernel
theorem dX3_readSum_35 : decode cX3_readSum 35 = .ok (.invokevirtual 164, 3) := by decide +kernel
theorem dX3_readSum_38 : decode cX3_readSum 38 = .ok (.ifCond .ne 4, 3) := by decide +kernel
theorem dX3_readSum_41 : decode cX3_readSum 41 = .ok (.return_, 1) := by decide +kernel
theorem dX3_readSum_42 : decode cX3_readSum 42 = .ok (.aload_n 0, 1) := by decide +kernel
theorem dX3_readSum_43 : decode cX3_readSum 43 = .ok (.iload_n 1, 1) := by decide +kernel
theorem dX3_readSum_44 : decode cX3_readSum 44 = .ok (.invokevirtual 170, 3) := by decide +kernel
theorem dX3_readSum_47 : decode cX3_readSum 47 = .ok (.aload_n 0, 1) := by decide +kernel
theorem dX3_readSum_48 : decode cX3_readSum 48 = .ok (.iload_n 3, 1) := by decide +kernel
theorem dX3_readSum_49 : decode cX3_readSum 49 = .ok (.ifCond .eq 8, 3) := by decide +kernel
theorem dX3_readSum_52 : decode cX3_readSum 52 = .ok (.bipush (-5), 2) := by decide +kernel
theorem dX3_readSum_54 : decode cX3_readSum 54 = .ok (.goto 5, 3) := by decide +kernel
theorem dX3_readSum_57 : decode cX3_readSum 57 = .ok (.bipush (-6), 2) := by decide +kernel
theorem dX3_readSum_59 : decode cX3_readSum 59 = .ok (.invokevirtual 173, 3) := by decide +kernel
theorem dX3_readSum_62 : decode cX3_readSum 62 = .ok (.iinc 2 1, 3) := by decide +kernel
theorem dX3_readSum_65 : decode cX3_readSum 65 = .ok (.goto (-58), 3) := by decide +kernel
theorem dX3_readSum_68 : decode cX3_readSum 68 = .ok (.return_, 1) := by decide +kernel
theorem dX3_readProduct_0 : decode cX3_readProduct 0 = .ok (.aload_n 0, 1) := by decide +kernel
theorem dX3_readProduct_1 : decode cX3_readProduct 1 = .ok (.iload_n 1, 1) := by decide +kernel
theorem dX3_readProduct_2 : decode cX3_readProduct 2 = .ok (.invokevirtual 176, 3) := by decide +kernel
theorem dX3_readProduct_5 : decode cX3_readProduct 5 = .ok (.iconst 0, 1) := by decide +kernel
theorem dX3_readProduct_6 : decode cX3_readProduct 6 = .ok (.istore_n 2, 1) := by decide +kernel
theorem dX3_readProduct_7 : decode cX3_readProduct 7 = .ok (.iload_n 2, 1) := by decide +kernel
theorem dX3_readProduct_8 : decode cX3_readProduct 8 = .ok (.sipush 600, 3) := by decide +kernel
theorem dX3_readProduct_11 : decode cX3_readProduct 11 = .ok (.if_icmp .ge 57, 3) := by decide +kernel
theorem dX3_readProduct_14 : decode cX3_readProduct 14 = .ok (.aload_n 0, 1) := by decide +kernel
theorem dX3_readProduct_15 : decode cX3_readProduct 15 = .ok (.getfield 39, 3) := by decide +kernel
theorem dX3_readProduct_18 : decode cX3_readProduct 18 = .ok (.ifCond .ne 50, 3) := by decide +kernel
theorem dX3_readProduct_21 : decode cX3_readProduct 21 = .ok (.aload_n 0, 1) := by decide +kernel
theorem dX3_readProduct_22 : decode cX3_readProduct 22 = .ok (.bipush 42, 2) := by decide +kernel
theorem dX3_readProduct_24 : decode cX3_readProduct 24 = .ok (.invokevirtual 164, 3) := by decide +kernel
theorem dX3_readProduct_27 : decode cX3_readProduct 27 = .ok (.istore_n 3, 1) := by decide +kernel
theorem dX3_readProduct_28 : decode cX3_readProduct 28 = .ok (.iload_n 3, 1) := by decide +kernel
theorem dX3_readProduct_29 : decode cX3_readProduct 29 = .ok (.ifCond .ne 13, 3) := by decide +kernel
theorem dX3_readProduct_32 : decode cX3_readProduct 32 = .ok (.aload_n 0, 1) := by decide +kernel
theorem dX3_readProduct_33 : decode cX3_readProduct 33 = .ok (.bipush 47, 2) := by decide +kernel
theorem dX3_readProduct_35 : decode cX3_readProduct 35 = .ok (.invokevirtual 164, 3) := by decide +kernel
theorem dX3_readProduct_38 : decode cX3_readProduct 38 = .ok (.ifCond .ne 4, 3) := by decide +kernel
theorem dX3_readProduct_41 : decode cX3_readProduct 41 = .ok (.return_, 1) := by decide +kernel
theorem dX3_readProduct_42 : decode cX3_readProduct 42 = .ok (.aload_n 0, 1) := by decide +kernel
theorem dX3_readProduct_43 : decode cX3_readProduct 43 = .ok (.iload_n 1, 1) := by decide +kernel
theorem dX3_readProduct_44 : decode cX3_readProduct 44 = .ok (.invokevirtual 176, 3) := by decide +kernel
theorem dX3_readProduct_47 : decode cX3_readProduct 47 = .ok (.aload_n 0, 1) := by decide +kernel
theorem dX3_readProduct_48 : decode cX3_readProduct 48 = .ok (.iload_n 3, 1) := by decide +kernel
theorem dX3_readProduct_49 : decode cX3_readProduct 49 = .ok (.ifCond .eq 8, 3) := by decide +kernel
theorem dX3_readProduct_52 : decode cX3_readProduct 52 = .ok (.bipush (-7), 2) := by decide +kernel
theorem dX3_readProduct_54 : decode cX3_readProduct 54 = .ok (.goto 5, 3) := by decide +kernel
theorem dX3_readProduct_57 : decode cX3_readProduct 57 = .ok (.bipush (-8), 2) := by decide +kernel
theorem dX3_readProduct_59 : decode cX3_readProduct 59 = .ok (.invokevirtual 173, 3) := by decide +kernel
theorem dX3_readProduct_62 : decode cX3_readProduct 62 = .ok (.iinc 2 1, 3) := by decide +kernel
theorem dX3_readProduct_65 : decode cX3_readProduct 65 = .ok (.goto (-58), 3) := by decide +kernel
theorem dX3_readProduct_68 : decode cX3_readProduct 68 = .ok (.return_, 1) := by decide +kernel
theorem dX3_readUnit_0 : decode cX3_readUnit 0 = .ok (.aload_n 0, 1) := by decide +kernel
theorem dX3_readUnit_1 : decode cX3_readUnit 1 = .ok (.invokevirtual 58, 3) := by decide +kernel
theorem dX3_readUnit_4 : decode cX3_readUnit 4 = .ok (.istore_n 2, 1) := by decide +kernel
theorem dX3_readUnit_5 : decode cX3_readUnit 5 = .ok (.iload_n 2, 1) := by decide +kernel
theorem dX3_readUnit_6 : decode cX3_readUnit 6 = .ok (.bipush 40, 2) := by decide +kernel
theorem dX3_readUnit_8 : decode cX3_readUnit 8 = .ok (.if_icmp .ne 20, 3) := by decide +kernel
theorem dX3_readUnit_11 : decode cX3_readUnit 11 = .ok (.iload_n 1, 1) := by decide +kernel
theorem dX3_readUnit_12 : decode cX3_readUnit 12 = .ok (.iconst 4, 1) := by decide +kernel
theorem dX3_readUnit_13 : decode cX3_readUnit 13 = .ok (.if_icmp .lt 15, 3) := by decide +kernel
theorem dX3_readUnit_16 : decode cX3_readUnit 16 = .ok (.aload_n 0, 1) := by decide +kernel
theorem dX3_readUnit_17 : decode cX3_readUnit 17 = .ok (.iconst 4, 1) := by decide +kernel
theorem dX3_readUnit_18 : decode cX3_readUnit 18 = .ok (.aload_n 0, 1) := by decide +kernel
theorem dX3_readUnit_19 : decode cX3_readUnit 19 = .ok (.getfield 26, 3) := by decide +kernel
theorem dX3_readUnit_22 : decode cX3_readUnit 22 = .ok (.invokevirtual 80, 3) := by decide +kernel
theorem dX3_readUnit_25 : decode cX3_readUnit 25 = .ok (.goto 138, 3) := by decide +kernel
theorem dX3_readUnit_28 : decode cX3_readUnit 28 = .ok (.iload_n 2, 1) := by decide +kernel
theorem dX3_readUnit_29 : decode cX3_readUnit 29 = .ok (.bipush 40, 2) := by decide +kernel
theorem dX3_readUnit_31 : decode cX3_readUnit 31 = .ok (.if_icmp .ne 41, 3) := by decide +kernel
theorem dX3_readUnit_34 : decode cX3_readUnit 34 = .ok (.aload_n 0, 1) := by decide +kernel
theorem dX3_readUnit_35 : decode cX3_readUnit 35 = .ok (.dup, 1) := by decide +kernel
theorem dX3_readUnit_36 : decode cX3_readUnit 36 = .ok (.getfield 26, 3) := by decide +kernel
theorem dX3_readUnit_39 : decode cX3_readUnit 39 = .ok (.iconst 1, 1) := by decide +kernel
theorem dX3_readUnit_40 : decode cX3_readUnit 40 = .ok (.iadd, 1) := by decide +kernel
theorem dX3_readUnit_41 : decode cX3_readUnit 41 = .ok (.putfield 26, 3) := by decide +kernel
theorem dX3_readUnit_44 : decode cX3_readUnit 44 = .ok (.aload_n 0, 1) := by decide +kernel
theorem dX3_readUnit_45 : decode cX3_readUnit 45 = .ok (.iload_n 1, 1) := by decide +kernel
theorem dX3_readUnit_46 : decode cX3_readUnit 46 = .ok (.iconst 1, 1) := by decide +kernel
theorem dX3_readUnit_47 : decode cX3_readUnit 47 = .ok (.iadd, 1) := by decide +kernel
theorem dX3_readUnit_48 : decode cX3_readUnit 48 = .ok (.invokevirtual 113, 3) := by decide +kernel
theorem dX3_readUnit_51 : decode cX3_readUnit 51 = .ok (.aload_n 0, 1) := by decide +kernel
theorem dX3_readUnit_52 : decode cX3_readUnit 52 = .ok (.bipush 41, 2) := by decide +kernel
theorem dX3_readUnit_54 : decode cX3_readUnit 54 = .ok (.invokevirtual 164, 3) := by decide +kernel
theorem dX3_readUnit_57 : decode cX3_readUnit 57 = .ok (.ifCond .ne 106, 3) := by decide +kernel
theorem dX3_readUnit_60 : decode cX3_readUnit 60 = .ok (.aload_n 0, 1) := by decide +kernel
theorem dX3_readUnit_61 : decode cX3_readUnit 61 = .ok (.iconst 1, 1) := by decide +kernel
theorem dX3_readUnit_62 : decode cX3_readUnit 62 = .ok (.aload_n 0, 1) := by decide +kernel
theorem dX3_readUnit_63 : decode cX3_readUnit 63 = .ok (.getfield 26, 3) := by decide +kernel
theorem dX3_readUnit_66 : decode cX3_readUnit 66 = .ok (.invokevirtual 80, 3) := by decide +kernel
theorem dX3_readUnit_69 : decode cX3_readUnit 69 = .ok (.goto 94, 3) := by decide +kernel
theorem dX3_readUnit_72 : decode cX3_readUnit 72 = .ok (.aload_n 0, 1) := by decide +kernel
theorem dX3_readUnit_73 : decode cX3_readUnit 73 = .ok (.ldc 179, 2) := by decide +kernel
theorem dX3_readUnit_75 : decode cX3_readUnit 75 = .ok (.invokevirtual 76, 3) := by decide +kernel
theorem dX3_readUnit_78 : decode cX3_readUnit 78 = .ok (.ifCond .eq 11, 3) := by decide +kernel
theorem dX3_readUnit_81 : decode cX3_readUnit 81 = .ok (.aload_n 0, 1) := by decide +kernel
theorem dX3_readUnit_82 : decode cX3_readUnit 82 = .ok (.iconst (-1), 1) := by decide +kernel
theorem dX3_readUnit_83 : decode cX3_readUnit 83 = .ok (.invokevirtual 173, 3) := by decide +kernel
theorem dX3_readUnit_86 : decode cX3_readUnit 86 = .ok (.goto 77, 3) := by decide +kernel
theorem dX3_readUnit_89 : decode cX3_readUnit 89 = .ok (.aload_n 0, 1) := by decide +kernel
theorem dX3_readUnit_90 : decode cX3_readUnit 90 = .ok (.ldc 181, 2) := by decide +kernel
theorem dX3_readUnit_92 : decode cX3_readUnit 92 = .ok (.invokevirtual 76, 3) := by decide +kernel
theorem dX3_readUnit_95 : decode cX3_readUnit 95 = .ok (.ifCond .eq 12, 3) := by decide +kernel
theorem dX3_readUnit_98 : decode cX3_readUnit 98 = .ok (.aload_n 0, 1) := by decide +kernel
theorem dX3_readUnit_99 : decode cX3_readUnit 99 = .ok (.bipush (-2), 2) := by decide +kernel
theorem dX3_readUnit_101 : decode cX3_readUnit 101 = .ok (.invokevirtual 173, 3) := by decide +kernel
theorem dX3_readUnit_104 : decode cX3_readUnit 104 = .ok (.goto 59, 3) := by decide +kernel
theorem dX3_readUnit_107 : decode cX3_readUnit 107 = .ok (.aload_n 0, 1) := by decide +kernel
theorem dX3_readUnit_108 : decode cX3_readUnit 108 = .ok (.ldc 183, 2) := by decide +kernel
theorem dX3_readUnit_110 : decode cX3_readUnit 110 = .ok (.invokevirtual 76, 3) := by decide +kernel
theorem dX3_readUnit_113 : decode cX3_readUnit 113 = .ok (.ifCond .eq 12, 3) := by decide +kernel
theorem dX3_readUnit_116 : decode cX3_readUnit 116 = .ok (.aload_n 0, 1) := by decide +kernel
theorem dX3_readUnit_117 : decode cX3_readUnit 117 = .ok (.bipush (-3), 2) := by decide +kernel
theorem dX3_readUnit_119 : decode cX3_readUnit 119 = .ok (.invokevirtual 173, 3) := by decide +kernel
theorem dX3_readUnit_122 : decode cX3_readUnit 122 = .ok (.goto 41, 3) := by decide +kernel
theorem dX3_readUnit_125 : decode cX3_readUnit 125 = .ok (.aload_n 0, 1) := by decide +kernel
theorem dX3_readUnit_126 : decode cX3_readUnit 126 = .ok (.ldc 185, 2) := by decide +kernel
theorem dX3_readUnit_128 : decode cX3_readUnit 128 = .ok (.invokevirtual 76, 3) := by decide +kernel
theorem dX3_readUnit_131 : decode cX3_readUnit 131 = .ok (.ifCond .eq 20, 3) := by decide +kernel
theorem dX3_readUnit_134 : decode cX3_readUnit 134 = .ok (.aload_n 0, 1) := by decide +kernel
theorem dX3_readUnit_135 : decode cX3_readUnit 135 = .ok (.getfield 18, 3) := by decide +kernel
theorem dX3_readUnit_138 : decode cX3_readUnit 138 = .ok (.iconst 1, 1) := by decide +kernel
theorem dX3_readUnit_139 : decode cX3_readUnit 139 = .ok (.putfield 187, 3) := by decide +kernel
theorem dX3_readUnit_142 : decode cX3_readUnit 142 = .ok (.aload_n 0, 1) := by decide +kernel
theorem dX3_readUnit_143 : decode cX3_readUnit 143 = .ok (.bipush (-4), 2) := by decide +kernel
theorem dX3_readUnit_145 : decode cX3_readUnit 145 = .ok (.invokevirtual 173, 3) := by decide +kernel
theorem dX3_readUnit_148 : decode cX3_readUnit 148 = .ok (.goto 15, 3) := by decide +kernel
theorem dX3_readUnit_151 : decode cX3_readUnit 151 = .ok (.aload_n 0, 1) := by decide +kernel
theorem dX3_readUnit_152 : decode cX3_readUnit 152 = .ok (.aload_n 0, 1) := by decide +kernel
theorem dX3_readUnit_153 : decode cX3_readUnit 153 = .ok (.iconst 0, 1) := by decide +kernel
theorem dX3_readUnit_154 : decode cX3_readUnit 154 = .ok (.sipush 9999, 3) := by decide +kernel
theorem dX3_readUnit_157 : decode cX3_readUnit 157 = .ok (.invokevirtual 84, 3) := by decide +kernel
theorem dX3_readUnit_160 : decode cX3_readUnit 160 = .ok (.invokevirtual 173, 3) := by decide +kernel
theorem dX3_readUnit_163 : decode cX3_readUnit 163 = .ok (.return_, 1) := by decide +kernel
theorem dX3_putItem_0 : decode cX3_putItem 0 = .ok (.aload_n 0, 1) := by decide +kernel
theorem dX3_putItem_1 : decode cX3_putItem 1 = .ok (.getfield 42, 3) := by decide +kernel
theorem dX3_putItem_4 : decode cX3_putItem 4 = .ok (.aload_n 0, 1) := by decide +kernel
theorem dX3_putItem_5 : decode cX3_putItem 5 = .ok (.getfield 9, 3) := by decide +kernel
theorem dX3_putItem_8 : decode cX3_putItem 8 = .ok (.arraylength, 1) := by decide +kernel
theorem dX3_putItem_9 : decode cX3_putItem 9 = .ok (.if_icmp .ge 23, 3) := by decide +kernel
theorem dX3_putItem_12 : decode cX3_putItem 12 = .ok (.aload_n 0, 1) := by decide +kernel
theorem dX3_putItem_13 : decode cX3_putItem 13 = .ok (.getfield 9, 3) := by decide +kernel
theorem dX3_putItem_16 : decode cX3_putItem 16 = .ok (.aload_n 0, 1) := by decide +kernel
theorem dX3_putItem_17 : decode cX3_putItem 17 = .ok (.getfield 42, 3) := by decide +kernel
theorem dX3_putItem_20 : decode cX3_putItem 20 = .ok (.iload_n 1, 1) := by decide +kernel
theorem dX3_putItem_21 : decode cX3_putItem 21 = .ok (.iastore, 1) := by decide +kernel
theorem dX3_putItem_22 : decode cX3_putItem 22 = .ok (.aload_n 0, 1) := by decide +kernel
theorem dX3_putItem_23 : decode cX3_putItem 23 = .ok (.dup, 1) := by decide +kernel
theorem dX3_putItem_24 : decode cX3_putItem 24 = .ok (.getfield 42, 3) := by decide +kernel
theorem dX3_putItem_27 : decode cX3_putItem 27 = .ok (.iconst 1, 1) := by decide +kernel
theorem dX3_putItem_28 : decode cX3_putItem 28 = .ok (.iadd, 1) := by decide +kernel
theorem dX3_putItem_29 : decode cX3_putItem 29 = .ok (.putfield 42, 3) := by decide +kernel
theorem dX3_putItem_32 : decode cX3_putItem 32 = .ok (.return_, 1) := by decide +kernel
theorem dX3_readNumber_0 : decode cX3_readNumber 0 = .ok (.aload_n 0, 1) := by decide +kernel
theorem dX3_readNumber_1 : decode cX3_readNumber 1 = .ok (.invokevirtual 93, 3) := by decide +kernel
theorem dX3_readNumber_4 : decode cX3_readNumber 4 = .ok (.aload_n 0, 1) := by decide +kernel
theorem dX3_readNumber_5 : decode cX3_readNumber 5 = .ok (.getfield 26, 3) := by decide +kernel
theorem dX3_readNumber_8 : decode cX3_readNumber 8 = .ok (.istore_n 3, 1) := by decide +kernel
theorem dX3_readNumber_9 : decode cX3_readNumber 9 = .ok (.iconst 0, 1) := by decide +kernel
theorem dX3_readNumber_10 : decode cX3_readNumber 10 = .ok (.istore 4, 2) := by decide +kernel
theorem dX3_readNumber_12 : decode cX3_readNumber 12 = .ok (.aload_n 0, 1) := by decide +kernel
theorem dX3_readNumber_13 : decode cX3_readNumber 13 = .ok (.getfield 26, 3) := by decide +kernel
theorem dX3_readNumber_16 : decode cX3_readNumber 16 = .ok (.aload_n 0, 1) := by decide +kernel
theorem dX3_readNumber_17 : decode cX3_readNumber 17 = .ok (.getfield 36, 3) := by decide +kernel
theorem dX3_readNumber_20 : decode cX3_readNumber 20 = .ok (.if_icmp .ge 56, 3) := by decide +kernel
theorem dX3_readNumber_23 : decode cX3_readNumber 23 = .ok (.aload_n 0, 1) := by decide +kernel
theorem dX3_readNumber_24 : decode cX3_readNumber 24 = .ok (.getfield 22, 3) := by decide +kernel
theorem dX3_readNumber_27 : decode cX3_readNumber 27 = .ok (.aload_n 0, 1) := by decide +kernel
theorem dX3_readNumber_28 : decode cX3_readNumber 28 = .ok (.getfield 26, 3) := by decide +kernel
theorem dX3_readNumber_31 : decode cX3_readNumber 31 = .ok (.baload, 1) := by decide +kernel
theorem dX3_readNumber_32 : decode cX3_readNumber 32 = .ok (.invokestatic 190, 3) := by decide +kernel
theorem dX3_readNumber_35 : decode cX3_readNumber 35 = .ok (.ifCond .eq 41, 3) := by decide +kernel
theorem dX3_readNumber_38 : decode cX3_readNumber 38 = .ok (.iload 4, 2) := by decide +kernel
theorem dX3_readNumber_40 : decode cX3_readNumber 40 = .ok (.bipush 10, 2) := by decide +kernel
theorem dX3_readNumber_42 : decode cX3_readNumber 42 = .ok (.imul, 1) := by decide +kernel
theorem dX3_readNumber_43 : decode cX3_readNumber 43 = .ok (.aload_n 0, 1) := by decide +kernel
theorem dX3_readNumber_44 : decode cX3_readNumber 44 = .ok (.getfield 22, 3) := by decide +kernel
theorem dX3_readNumber_47 : decode cX3_readNumber 47 = .ok (.aload_n 0, 1) := by decide +kernel
theorem dX3_readNumber_48 : decode cX3_readNumber 48 = .ok (.getfield 26, 3) := by decide +kernel
theorem dX3_readNumber_51 : decode cX3_readNumber 51 = .ok (.baload, 1) := by decide +kernel
theorem dX3_readNumber_52 : decode cX3_readNumber 52 = .ok (.iadd, 1) := by decide +kernel
theorem dX3_readNumber_53 : decode cX3_readNumber 53 = .ok (.bipush 48, 2) := by decide +kernel
theorem dX3_readNumber_55 : decode cX3_readNumber 55 = .ok (.isub, 1) := by decide +kernel
theorem dX3_readNumber_56 : decode cX3_readNumber 56 = .ok (.ldc 193, 2) := by decide +kernel
theorem dX3_readNumber_58 : decode cX3_readNumber 58 = .ok (.invokestatic 30, 3) := by decide +kernel
theorem dX3_readNumber_61 : decode cX3_readNumber 61 = .ok (.istore 4, 2) := by decide +kernel
theorem dX3_readNumber_63 : decode cX3_readNumber 63 = .ok (.aload_n 0, 1) := by decide +kernel
theorem dX3_readNumber_64 : decode cX3_readNumber 64 = .ok (.dup, 1) := by decide +kernel
theorem dX3_readNumber_65 : decode cX3_readNumber 65 = .ok (.getfield 26, 3) := by decide +kernel
theorem dX3_readNumber_68 : decode cX3_readNumber 68 = .ok (.iconst 1, 1) := by decide +kernel
theorem dX3_readNumber_69 : decode cX3_readNumber 69 = .ok (.iadd, 1) := by decide +kernel
theorem dX3_readNumber_70 : decode cX3_readNumber 70 = .ok (.putfield 26, 3) := by decide +kernel
theorem dX3_readNumber_73 : decode cX3_readNumber 73 = .ok (.goto (-61), 3) := by decide +kernel
theorem dX3_readNumber_76 : decode cX3_readNumber 76 = .ok (.aload_n 0, 1) := by decide +kernel
theorem dX3_readNumber_77 : decode cX3_readNumber 77 = .ok (.getfield 26, 3) := by decide +kernel
theorem dX3_readNumber_80 : decode cX3_readNumber 80 = .ok (.iload_n 3, 1) := by decide +kernel
theorem dX3_readNumber_81 : decode cX3_readNumber 81 = .ok (.if_icmp .ne 12, 3) := by decide +kernel
theorem dX3_readNumber_84 : decode cX3_readNumber 84 = .ok (.aload_n 0, 1) := by decide +kernel
theorem dX3_readNumber_85 : decode cX3_readNumber 85 = .ok (.iconst 1, 1) := by decide +kernel
theorem dX3_readNumber_86 : decode cX3_readNumber 86 = .ok (.iload_n 3, 1) := by decide +kernel
theorem dX3_readNumber_87 : decode cX3_readNumber 87 = .ok (.invokevirtual 80, 3) := by decide +kernel
theorem dX3_readNumber_90 : decode cX3_readNumber 90 = .ok (.goto 21, 3) := by decide +kernel
theorem dX3_readNumber_93 : decode cX3_readNumber 93 = .ok (.iload 4, 2) := by decide +kernel
theorem dX3_readNumber_95 : decode cX3_readNumber 95 = .ok (.iload_n 1, 1) := by decide +kernel
theorem dX3_readNumber_96 : decode cX3_readNumber 96 = .ok (.if_icmp .lt 9, 3) := by decide +kernel
theorem dX3_readNumber_99 : decode cX3_readNumber 99 = .ok (.iload 4, 2) := by decide +kernel
theorem dX3_readNumber_101 : decode cX3_readNumber 101 = .ok (.iload_n 2, 1) := by decide +kernel
theorem dX3_readNumber_102 : decode cX3_readNumber 102 = .ok (.if_icmp .le 9, 3) := by decide +kernel
theorem dX3_readNumber_105 : decode cX3_readNumber 105 = .ok (.aload_n 0, 1) := by decide +kernel
theorem dX3_readNumber_106 : decode cX3_readNumber 106 = .ok (.iconst 2, 1) := by decide +kernel
theorem dX3_readNumber_107 : decode cX3_readNumber 107 = .ok (.iload_n 3, 1) := by decide +kernel
theorem dX3_readNumber_108 : decode cX3_readNumber 108 = .ok (.invokevirtual 80, 3) := by decide +kernel
theorem dX3_readNumber_111 : decode cX3_readNumber 111 = .ok (.iload 4, 2) := by decide +kernel
theorem dX3_readNumber_113 : decode cX3_readNumber 113 = .ok (.ireturn, 1) := by decide +kernel
theorem dX3_takesWord_0 : decode cX3_takesWord 0 = .ok (.aload_n 0, 1) := by decide +kernel
theorem dX3_takesWord_1 : decode cX3_takesWord 1 = .ok (.invokevirtual 93, 3) := by decide +kernel
theorem dX3_takesWord_4 : decode cX3_takesWord 4 = .ok (.aload_n 0, 1) := by decide +kernel
theorem dX3_takesWord_5 : decode cX3_takesWord 5 = .ok (.getfield 26, 3) := by decide +kernel
theorem dX3_takesWord_8 : decode cX3_takesWord 8 = .ok (.aload_n 1, 1) := by decide +kernel
theorem dX3_takesWord_9 : decode cX3_takesWord 9 = .ok (.invokevirtual 194, 3) := by decide +kernel
theorem dX3_takesWord_12 : decode cX3_takesWord 12 = .ok (.iadd, 1) := by decide +kernel
theorem dX3_takesWord_13 : decode cX3_takesWord 13 = .ok (.istore_n 2, 1) := by decide +kernel
theorem dX3_takesWord_14 : decode cX3_takesWord 14 = .ok (.aload_n 0, 1) := by decide +kernel
theorem dX3_takesWord_15 : decode cX3_takesWord 15 = .ok (.getfield 39, 3) := by decide +kernel
theorem dX3_takesWord_18 : decode cX3_takesWord 18 = .ok (.ifCond .ne 31, 3) := by decide +kernel
theorem dX3_takesWord_21 : decode cX3_takesWord 21 = .ok (.iload_n 2, 1) := by decide +kernel
theorem dX3_takesWord_22 : decode cX3_takesWord 22 = .ok (.aload_n 0, 1) := by decide +kernel
theorem dX3_takesWord_23 : decode cX3_takesWord 23 = .ok (.getfield 36, 3) := by decide +kernel
theorem dX3_takesWord_26 : decode cX3_takesWord 26 = .ok (.if_icmp .gt 23, 3) := by decide +kernel
theorem dX3_takesWord_29 : decode cX3_takesWord 29 = .ok (.iload_n 2, 1) := by decide +kernel
theorem dX3_takesWord_30 : decode cX3_takesWord 30 = .ok (.aload_n 0, 1) := by decide +kernel
theorem dX3_takesWord_31 : decode cX3_takesWord 31 = .ok (.getfield 36, 3) := by decide +kernel
theorem dX3_takesWord_34 : decode cX3_takesWord 34 = .ok (.if_icmp .ge 17, 3) := by decide +kernel
theorem dX3_takesWord_37 : decode cX3_takesWord 37 = .ok (.aload_n 0, 1) := by decide +kernel
theorem dX3_takesWord_38 : decode cX3_takesWord 38 = .ok (.getfield 22, 3) := by decide +kernel
theorem dX3_takesWord_41 : decode cX3_takesWord 41 = .ok (.iload_n 2, 1) := by decide +kernel
theorem dX3_takesWord_42 : decode cX3_takesWord 42 = .ok (.baload, 1) := by decide +kernel
theorem dX3_takesWord_43 : decode cX3_takesWord 43 = .ok (.invokestatic 199, 3) := by decide +kernel
theorem dX3_takesWord_46 : decode cX3_takesWord 46 = .ok (.ifCond .eq 5, 3) := by decide +kernel
theorem dX3_takesWord_49 : decode cX3_takesWord 49 = .ok (.iconst 0, 1) := by decide +kernel
theorem dX3_takesWord_50 : decode cX3_takesWord 50 = .ok (.ireturn, 1) := by decide +kernel
theorem dX3_takesWord_51 : decode cX3_takesWord 51 = .ok (.iconst 0, 1) := by decide +kernel
theorem dX3_takesWord_52 : decode cX3_takesWord 52 = .ok (.istore_n 3, 1) := by decide +kernel
theorem dX3_takesWord_53 : decode cX3_takesWord 53 = .ok (.iload_n 3, 1) := by decide +kernel
theorem dX3_takesWord_54 : decode cX3_takesWord 54 = .ok (.aload_n 1, 1) := by decide +kernel
theorem dX3_takesWord_55 : decode cX3_takesWord 55 = .ok (.invokevirtual 194, 3) := by decide +kernel
theorem dX3_takesWord_58 : decode cX3_takesWord 58 = .ok (.if_icmp .ge 30, 3) := by decide +kernel
theorem dX3_takesWord_61 : decode cX3_takesWord 61 = .ok (.aload_n 0, 1) := by decide +kernel
theorem dX3_takesWord_62 : decode cX3_takesWord 62 = .ok (.getfield 22, 3) := by decide +kernel
theorem dX3_takesWord_65 : decode cX3_takesWord 65 = .ok (.aload_n 0, 1) := by decide +kernel
theorem dX3_takesWord_66 : decode cX3_takesWord 66 = .ok (.getfield 26, 3) := by decide +kernel
theorem dX3_takesWord_69 : decode cX3_takesWord 69 = .ok (.iload_n 3, 1) := by decide +kernel
theorem dX3_takesWord_70 : decode cX3_takesWord 70 = .ok (.iadd, 1) := by decide +kernel
theorem dX3_takesWord_71 : decode cX3_takesWord 71 = .ok (.baload, 1) := by decide +kernel
theorem dX3_takesWord_72 : decode cX3_takesWord 72 = .ok (.aload_n 1, 1) := by decide +kernel
theorem dX3_takesWord_73 : decode cX3_takesWord 73 = .ok (.iload_n 3, 1) := by decide +kernel
theorem dX3_takesWord_74 : decode cX3_takesWord 74 = .ok (.invokevirtual 202, 3) := by decide +kernel
theorem dX3_takesWord_77 : decode cX3_takesWord 77 = .ok (.if_icmp .eq 5, 3) := by decide +kernel
theorem dX3_takesWord_80 : decode cX3_takesWord 80 = .ok (.iconst 0, 1) := by decide +kernel
theorem dX3_takesWord_81 : decode cX3_takesWord 81 = .ok (.ireturn, 1) := by decide +kernel
theorem dX3_takesWord_82 : decode cX3_takesWord 82 = .ok (.iinc 3 1, 3) := by decide +kernel
theorem dX3_takesWord_85 : decode cX3_takesWord 85 = .ok (.goto (-32), 3) := by decide +kernel
theorem dX3_takesWord_88 : decode cX3_takesWord 88 = .ok (.aload_n 0, 1) := by decide +kernel
theorem dX3_takesWord_89 : decode cX3_takesWord 89 = .ok (.iload_n 2, 1) := by decide +kernel
theorem dX3_takesWord_90 : decode cX3_takesWord 90 = .ok (.putfield 26, 3) := by decide +kernel
theorem dX3_takesWord_93 : decode cX3_takesWord 93 = .ok (.iconst 1, 1) := by decide +kernel
theorem dX3_takesWord_94 : decode cX3_takesWord 94 = .ok (.ireturn, 1) := by decide +kernel
theorem dX3_needSign_0 : decode cX3_needSign 0 = .ok (.aload_n 0, 1) := by decide +kernel
theorem dX3_needSign_1 : decode cX3_needSign 1 = .ok (.iload_n 1, 1) := by decide +kernel
theorem dX3_needSign_2 : decode cX3_needSign 2 = .ok (.invokevirtual 164, 3) := by decide +kernel
theorem dX3_needSign_5 : decode cX3_needSign 5 = .ok (.ifCond .ne 12, 3) := by decide +kernel
theorem dX3_needSign_8 : decode cX3_needSign 8 = .ok (.aload_n 0, 1) := by decide +kernel
theorem dX3_needSign_9 : decode cX3_needSign 9 = .ok (.iconst 1, 1) := by decide +kernel
theorem dX3_needSign_10 : decode cX3_needSign 10 = .ok (.aload_n 0, 1) := by decide +kernel
theorem dX3_needSign_11 : decode cX3_needSign 11 = .ok (.getfield 26, 3) := by decide +kernel
theorem dX3_needSign_14 : decode cX3_needSign 14 = .ok (.invokevirtual 80, 3) := by decide +kernel
theorem dX3_needSign_17 : decode cX3_needSign 17 = .ok (.return_, 1) := by decide +kernel
theorem dX3_takesSign_0 : decode cX3_takesSign 0 = .ok (.aload_n 0, 1) := by decide +kernel
theorem dX3_takesSign_1 : decode cX3_takesSign 1 = .ok (.invokevirtual 93, 3) := by decide +kernel
theorem dX3_takesSign_4 : decode cX3_takesSign 4 = .ok (.aload_n 0, 1) := by decide +kernel
theorem dX3_takesSign_5 : decode cX3_takesSign 5 = .ok (.getfield 39, 3) := by decide +kernel
theorem dX3_takesSign_8 : decode cX3_takesSign 8 = .ok (.ifCond .ne 27, 3) := by decide +kernel
theorem dX3_takesSign_11 : decode cX3_takesSign 11 = .ok (.aload_n 0, 1) := by decide +kernel
theorem dX3_takesSign_12 : decode cX3_takesSign 12 = .ok (.getfield 26, 3) := by decide +kernel
theorem dX3_takesSign_15 : decode cX3_takesSign 15 = .ok (.aload_n 0, 1) := by decide +kernel
theorem dX3_takesSign_16 : decode cX3_takesSign 16 = .ok (.getfield 36, 3) := by decide +kernel
theorem dX3_takesSign_19 : decode cX3_takesSign 19 = .ok (.if_icmp .ge 16, 3) := by decide +kernel
theorem dX3_takesSign_22 : decode cX3_takesSign 22 = .ok (.aload_n 0, 1) := by decide +kernel
theorem dX3_takesSign_23 : decode cX3_takesSign 23 = .ok (.getfield 22, 3) := by decide +kernel
theorem dX3_takesSign_26 : decode cX3_takesSign 26 = .ok (.aload_n 0, 1) := by decide +kernel
theorem dX3_takesSign_27 : decode cX3_takesSign 27 = .ok (.getfield 26, 3) := by decide +kernel
theorem dX3_takesSign_30 : decode cX3_takesSign 30 = .ok (.baload, 1) := by decide +kernel
theorem dX3_takesSign_31 : decode cX3_takesSign 31 = .ok (.iload_n 1, 1) := by decide +kernel
theorem dX3_takesSign_32 : decode cX3_takesSign 32 = .ok (.if_icmp .eq 5, 3) := by decide +kernel
theorem dX3_takesSign_35 : decode cX3_takesSign 35 = .ok (.iconst 0, 1) := by decide +kernel
theorem dX3_takesSign_36 : decode cX3_takesSign 36 = .ok (.ireturn, 1) := by decide +kernel
theorem dX3_takesSign_37 : decode cX3_takesSign 37 = .ok (.aload_n 0, 1) := by decide +kernel
theorem dX3_takesSign_38 : decode cX3_takesSign 38 = .ok (.dup, 1) := by decide +kernel
theorem dX3_takesSign_39 : decode cX3_takesSign 39 = .ok (.getfield 26, 3) := by decide +kernel
theorem dX3_takesSign_42 : decode cX3_takesSign 42 = .ok (.iconst 1, 1) := by decide +kernel
theorem dX3_takesSign_43 : decode cX3_takesSign 43 = .ok (.iadd, 1) := by decide +kernel
theorem dX3_takesSign_44 : decode cX3_takesSign 44 = .ok (.putfield 26, 3) := by decide +kernel
theorem dX3_takesSign_47 : decode cX3_takesSign 47 = .ok (.iconst 1, 1) := by decide +kernel
theorem dX3_takesSign_48 : decode cX3_takesSign 48 = .ok (.ireturn, 1) := by decide +kernel
theorem dX3_peekSign_0 : decode cX3_peekSign 0 = .ok (.aload_n 0, 1) := by decide +kernel
theorem dX3_peekSign_1 : decode cX3_peekSign 1 = .ok (.invokevirtual 93, 3) := by decide +kernel
theorem dX3_peekSign_4 : decode cX3_peekSign 4 = .ok (.aload_n 0, 1) := by decide +kernel
theorem dX3_peekSign_5 : decode cX3_peekSign 5 = .ok (.getfield 26, 3) := by decide +kernel
theorem dX3_peekSign_8 : decode cX3_peekSign 8 = .ok (.aload_n 0, 1) := by decide +kernel
theorem dX3_peekSign_9 : decode cX3_peekSign 9 = .ok (.getfield 36, 3) := by decide +kernel
theorem dX3_peekSign_12 : decode cX3_peekSign 12 = .ok (.if_icmp .ge 19, 3) := by decide +kernel
theorem dX3_peekSign_15 : decode cX3_peekSign 15 = .ok (.aload_n 0, 1) := by decide +kernel
theorem dX3_peekSign_16 : decode cX3_peekSign 16 = .ok (.getfield 22, 3) := by decide +kernel
theorem dX3_peekSign_19 : decode cX3_peekSign 19 = .ok (.aload_n 0, 1) := by decide +kernel
theorem dX3_peekSign_20 : decode cX3_peekSign 20 = .ok (.getfield 26, 3) := by decide +kernel
theorem dX3_peekSign_23 : decode cX3_peekSign 23 = .ok (.baload, 1) := by decide +kernel
theorem dX3_peekSign_24 : decode cX3_peekSign 24 = .ok (.sipush 255, 3) := by decide +kernel
theorem dX3_peekSign_27 : decode cX3_peekSign 27 = .ok (.iand, 1) := by decide +kernel
theorem dX3_peekSign_28 : decode cX3_peekSign 28 = .ok (.goto 4, 3) := by decide +kernel
theorem dX3_peekSign_31 : decode cX3_peekSign 31 = .ok (.iconst (-1), 1) := by decide +kernel
theorem dX3_peekSign_32 : decode cX3_peekSign 32 = .ok (.ireturn, 1) := by decide +kernel
theorem dX3_skipBlanks_0 : decode cX3_skipBlanks 0 = .ok (.aload_n 0, 1) := by decide +kernel
theorem dX3_skipBlanks_1 : decode cX3_skipBlanks 1 = .ok (.getfield 26, 3) := by decide +kernel
theorem dX3_skipBlanks_4 : decode cX3_skipBlanks 4 = .ok (.aload_n 0, 1) := by decide +kernel
theorem dX3_skipBlanks_5 : decode cX3_skipBlanks 5 = .ok (.getfield 36, 3) := by decide +kernel
theorem dX3_skipBlanks_8 : decode cX3_skipBlanks 8 = .ok (.if_icmp .ge 30, 3) := by decide +kernel
theorem dX3_skipBlanks_11 : decode cX3_skipBlanks 11 = .ok (.aload_n 0, 1) := by decide +kernel
theorem dX3_skipBlanks_12 : decode cX3_skipBlanks 12 = .ok (.getfield 22, 3) := by decide +kernel
theorem dX3_skipBlanks_15 : decode cX3_skipBlanks 15 = .ok (.aload_n 0, 1) := by decide +kernel
theorem dX3_skipBlanks_16 : decode cX3_skipBlanks 16 = .ok (.getfield 26, 3) := by decide +kernel
theorem dX3_skipBlanks_19 : decode cX3_skipBlanks 19 = .ok (.baload, 1) := by decide +kernel
theorem dX3_skipBlanks_20 : decode cX3_skipBlanks 20 = .ok (.bipush 32, 2) := by decide +kernel
theorem dX3_skipBlanks_22 : decode cX3_skipBlanks 22 = .ok (.if_icmp .ne 16, 3) := by decide +kernel
theorem dX3_skipBlanks_25 : decode cX3_skipBlanks 25 = .ok (.aload_n 0, 1) := by decide +kernel
theorem dX3_skipBlanks_26 : decode cX3_skipBlanks 26 = .ok (.dup, 1) := by decide +kernel
theorem dX3_skipBlanks_27 : decode cX3_skipBlanks 27 = .ok (.getfield 26, 3) := by decide +kernel
theorem dX3_skipBlanks_30 : decode cX3_skipBlanks 30 = .ok (.iconst 1, 1) := by decide +kernel
theorem dX3_skipBlanks_31 : decode cX3_skipBlanks 31 = .ok (.iadd, 1) := by decide +kernel
theorem dX3_skipBlanks_32 : decode cX3_skipBlanks 32 = .ok (.putfield 26, 3) := by decide +kernel
theorem dX3_skipBlanks_35 : decode cX3_skipBlanks 35 = .ok (.goto (-35), 3) := by decide +kernel
theorem dX3_skipBlanks_38 : decode cX3_skipBlanks 38 = .ok (.return_, 1) := by decide +kernel
theorem dX3_note_0 : decode cX3_note 0 = .ok (.aload_n 0, 1) := by decide +kernel
theorem dX3_note_1 : decode cX3_note 1 = .ok (.getfield 39, 3) := by decide +kernel
theorem dX3_note_4 : decode cX3_note 4 = .ok (.ifCond .ne 13, 3) := by decide +kernel
theorem dX3_note_7 : decode cX3_note 7 = .ok (.aload_n 0, 1) := by decide +kernel
theorem dX3_note_8 : decode cX3_note 8 = .ok (.iload_n 1, 1) := by decide +kernel
theorem dX3_note_9 : decode cX3_note 9 = .ok (.putfield 39, 3) := by decide +kernel
theorem dX3_note_12 : decode cX3_note 12 = .ok (.aload_n 0, 1) := by decide +kernel
theorem dX3_note_13 : decode cX3_note 13 = .ok (.iload_n 2, 1) := by decide +kernel
theorem dX3_note_14 : decode cX3_note 14 = .ok (.putfield 206, 3) := by decide +kernel
theorem dX3_note_17 : decode cX3_note 17 = .ok (.return_, 1) := by decide +kernel
theorem dX3_isDigit_0 : decode cX3_isDigit 0 = .ok (.iload_n 0, 1) := by decide +kernel
theorem dX3_isDigit_1 : decode cX3_isDigit 1 = .ok (.bipush 48, 2) := by decide +kernel
theorem dX3_isDigit_3 : decode cX3_isDigit 3 = .ok (.if_icmp .lt 13, 3) := by decide +kernel
theorem dX3_isDigit_6 : decode cX3_isDigit 6 = .ok (.iload_n 0, 1) := by decide +kernel
theorem dX3_isDigit_7 : decode cX3_isDigit 7 = .ok (.bipush 57, 2) := by decide +kernel
theorem dX3_isDigit_9 : decode cX3_isDigit 9 = .ok (.if_icmp .gt 7, 3) := by decide +kernel
theorem dX3_isDigit_12 : decode cX3_isDigit 12 = .ok (.iconst 1, 1) := by decide +kernel
theorem dX3_isDigit_13 : decode cX3_isDigit 13 = .ok (.goto 4, 3) := by decide +kernel
theorem dX3_isDigit_16 : decode cX3_isDigit 16 = .ok (.iconst 0, 1) := by decide +kernel
theorem dX3_isDigit_17 : decode cX3_isDigit 17 = .ok (.ireturn, 1) := by decide +kernel
theorem dX3_isLetter_0 : decode cX3_isLetter 0 = .ok (.iload_n 0, 1) := by decide +kernel
theorem dX3_isLetter_1 : decode cX3_isLetter 1 = .ok (.bipush 97, 2) := by decide +kernel
theorem dX3_isLetter_3 : decode cX3_isLetter 3 = .ok (.if_icmp .lt 13, 3) := by decide +kernel
theorem dX3_isLetter_6 : decode cX3_isLetter 6 = .ok (.iload_n 0, 1) := by decide +kernel
theorem dX3_isLetter_7 : decode cX3_isLetter 7 = .ok (.bipush 122, 2) := by decide +kernel
theorem dX3_isLetter_9 : decode cX3_isLetter 9 = .ok (.if_icmp .gt 7, 3) := by decide +kernel
theorem dX3_isLetter_12 : decode cX3_isLetter 12 = .ok (.iconst 1, 1) := by decide +kernel
theorem dX3_isLetter_13 : decode cX3_isLetter 13 = .ok (.goto 4, 3) := by decide +kernel
theorem dX3_isLetter_16 : decode cX3_isLetter 16 = .ok (.iconst 0, 1) := by decide +kernel
theorem dX3_isLetter_17 : decode cX3_isLetter 17 = .ok (.ireturn, 1) := by decide +kernel
