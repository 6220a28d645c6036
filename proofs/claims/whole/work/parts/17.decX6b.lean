theorem dX6_barRead_122 : decode cX6_barRead 122 = .ok (.iaload, 1) := by decide +kernel
theorem dX6_barRead_123 : decode cX6_barRead 123 = .ok (.iconst 1, 1) := by decide +kernel
theorem dX6_barRead_124 : decode cX6_barRead 124 = .ok (.iadd, 1) := by decide +kernel
theorem dX6_barRead_125 : decode cX6_barRead 125 = .ok (.iastore, 1) := by decide +kernel
theorem dX6_barRead_126 : decode cX6_barRead 126 = .ok (.return_, 1) := by decide +kernel
theorem dX6_shipRead_0 : decode cX6_shipRead 0 = .ok (.bipush 60, 2) := by decide +kernel
theorem dX6_shipRead_2 : decode cX6_shipRead 2 = .ok (.bipush 8, 2) := by decide +kernel
theorem dX6_shipRead_4 : decode cX6_shipRead 4 = .ok (.aload_n 0, 1) := by decide +kernel
theorem dX6_shipRead_5 : decode cX6_shipRead 5 = .ok (.getfield 20, 3) := by decide +kernel
theorem dX6_shipRead_8 : decode cX6_shipRead 8 = .ok (.iconst 5, 1) := by decide +kernel
theorem dX6_shipRead_9 : decode cX6_shipRead 9 = .ok (.iaload, 1) := by decide +kernel
theorem dX6_shipRead_10 : decode cX6_shipRead 10 = .ok (.imul, 1) := by decide +kernel
theorem dX6_shipRead_11 : decode cX6_shipRead 11 = .ok (.iadd, 1) := by decide +kernel
theorem dX6_shipRead_12 : decode cX6_shipRead 12 = .ok (.istore_n 1, 1) := by decide +kernel
theorem dX6_shipRead_13 : decode cX6_shipRead 13 = .ok (.aload_n 0, 1) := by decide +kernel
theorem dX6_shipRead_14 : decode cX6_shipRead 14 = .ok (.getfield 20, 3) := by decide +kernel
theorem dX6_shipRead_17 : decode cX6_shipRead 17 = .ok (.iload_n 1, 1) := by decide +kernel
theorem dX6_shipRead_18 : decode cX6_shipRead 18 = .ok (.iconst 0, 1) := by decide +kernel
theorem dX6_shipRead_19 : decode cX6_shipRead 19 = .ok (.iadd, 1) := by decide +kernel
theorem dX6_shipRead_20 : decode cX6_shipRead 20 = .ok (.aload_n 0, 1) := by decide +kernel
theorem dX6_shipRead_21 : decode cX6_shipRead 21 = .ok (.bipush 100, 2) := by decide +kernel
theorem dX6_shipRead_23 : decode cX6_shipRead 23 = .ok (.sipush 2500, 3) := by decide +kernel
theorem dX6_shipRead_26 : decode cX6_shipRead 26 = .ok (.invokevirtual 155, 3) := by decide +kernel
theorem dX6_shipRead_29 : decode cX6_shipRead 29 = .ok (.iastore, 1) := by decide +kernel
theorem dX6_shipRead_30 : decode cX6_shipRead 30 = .ok (.aload_n 0, 1) := by decide +kernel
theorem dX6_shipRead_31 : decode cX6_shipRead 31 = .ok (.getfield 20, 3) := by decide +kernel
theorem dX6_shipRead_34 : decode cX6_shipRead 34 = .ok (.iload_n 1, 1) := by decide +kernel
theorem dX6_shipRead_35 : decode cX6_shipRead 35 = .ok (.iconst 1, 1) := by decide +kernel
theorem dX6_shipRead_36 : decode cX6_shipRead 36 = .ok (.iadd, 1) := by decide +kernel
theorem dX6_shipRead_37 : decode cX6_shipRead 37 = .ok (.aload_n 0, 1) := by decide +kernel
theorem dX6_shipRead_38 : decode cX6_shipRead 38 = .ok (.bipush 40, 2) := by decide +kernel
theorem dX6_shipRead_40 : decode cX6_shipRead 40 = .ok (.bipush 95, 2) := by decide +kernel
theorem dX6_shipRead_42 : decode cX6_shipRead 42 = .ok (.invokevirtual 155, 3) := by decide +kernel
theorem dX6_shipRead_45 : decode cX6_shipRead 45 = .ok (.iastore, 1) := by decide +kernel
theorem dX6_shipRead_46 : decode cX6_shipRead 46 = .ok (.aload_n 0, 1) := by decide +kernel
theorem dX6_shipRead_47 : decode cX6_shipRead 47 = .ok (.getfield 20, 3) := by decide +kernel
theorem dX6_shipRead_50 : decode cX6_shipRead 50 = .ok (.iload_n 1, 1) := by decide +kernel
theorem dX6_shipRead_51 : decode cX6_shipRead 51 = .ok (.iconst 2, 1) := by decide +kernel
theorem dX6_shipRead_52 : decode cX6_shipRead 52 = .ok (.iadd, 1) := by decide +kernel
theorem dX6_shipRead_53 : decode cX6_shipRead 53 = .ok (.aload_n 0, 1) := by decide +kernel
theorem dX6_shipRead_54 : decode cX6_shipRead 54 = .ok (.iconst 0, 1) := by decide +kernel
theorem dX6_shipRead_55 : decode cX6_shipRead 55 = .ok (.sipush 300, 3) := by decide +kernel
theorem dX6_shipRead_58 : decode cX6_shipRead 58 = .ok (.invokevirtual 155, 3) := by decide +kernel
theorem dX6_shipRead_61 : decode cX6_shipRead 61 = .ok (.iastore, 1) := by decide +kernel
theorem dX6_shipRead_62 : decode cX6_shipRead 62 = .ok (.aload_n 0, 1) := by decide +kernel
theorem dX6_shipRead_63 : decode cX6_shipRead 63 = .ok (.getfield 20, 3) := by decide +kernel
theorem dX6_shipRead_66 : decode cX6_shipRead 66 = .ok (.iload_n 1, 1) := by decide +kernel
theorem dX6_shipRead_67 : decode cX6_shipRead 67 = .ok (.iconst 3, 1) := by decide +kernel
theorem dX6_shipRead_68 : decode cX6_shipRead 68 = .ok (.iadd, 1) := by decide +kernel
theorem dX6_shipRead_69 : decode cX6_shipRead 69 = .ok (.aload_n 0, 1) := by decide +kernel
theorem dX6_shipRead_70 : decode cX6_shipRead 70 = .ok (.iconst 4, 1) := by decide +kernel
theorem dX6_shipRead_71 : decode cX6_shipRead 71 = .ok (.bipush 25, 2) := by decide +kernel
theorem dX6_shipRead_73 : decode cX6_shipRead 73 = .ok (.invokevirtual 155, 3) := by decide +kernel
theorem dX6_shipRead_76 : decode cX6_shipRead 76 = .ok (.iastore, 1) := by decide +kernel
theorem dX6_shipRead_77 : decode cX6_shipRead 77 = .ok (.aload_n 0, 1) := by decide +kernel
theorem dX6_shipRead_78 : decode cX6_shipRead 78 = .ok (.getfield 20, 3) := by decide +kernel
theorem dX6_shipRead_81 : decode cX6_shipRead 81 = .ok (.iload_n 1, 1) := by decide +kernel
theorem dX6_shipRead_82 : decode cX6_shipRead 82 = .ok (.iconst 4, 1) := by decide +kernel
theorem dX6_shipRead_83 : decode cX6_shipRead 83 = .ok (.iadd, 1) := by decide +kernel
theorem dX6_shipRead_84 : decode cX6_shipRead 84 = .ok (.aload_n 0, 1) := by decide +kernel
theorem dX6_shipRead_85 : decode cX6_shipRead 85 = .ok (.iconst 4, 1) := by decide +kernel
theorem dX6_shipRead_86 : decode cX6_shipRead 86 = .ok (.aload_n 0, 1) := by decide +kernel
theorem dX6_shipRead_87 : decode cX6_shipRead 87 = .ok (.getfield 20, 3) := by decide +kernel
theorem dX6_shipRead_90 : decode cX6_shipRead 90 = .ok (.iload_n 1, 1) := by decide +kernel
theorem dX6_shipRead_91 : decode cX6_shipRead 91 = .ok (.iconst 3, 1) := by decide +kernel
theorem dX6_shipRead_92 : decode cX6_shipRead 92 = .ok (.iadd, 1) := by decide +kernel
theorem dX6_shipRead_93 : decode cX6_shipRead 93 = .ok (.iaload, 1) := by decide +kernel
theorem dX6_shipRead_94 : decode cX6_shipRead 94 = .ok (.invokestatic 160, 3) := by decide +kernel
theorem dX6_shipRead_97 : decode cX6_shipRead 97 = .ok (.bipush 25, 2) := by decide +kernel
theorem dX6_shipRead_99 : decode cX6_shipRead 99 = .ok (.invokevirtual 155, 3) := by decide +kernel
theorem dX6_shipRead_102 : decode cX6_shipRead 102 = .ok (.iastore, 1) := by decide +kernel
theorem dX6_shipRead_103 : decode cX6_shipRead 103 = .ok (.aload_n 0, 1) := by decide +kernel
theorem dX6_shipRead_104 : decode cX6_shipRead 104 = .ok (.getfield 20, 3) := by decide +kernel
theorem dX6_shipRead_107 : decode cX6_shipRead 107 = .ok (.iload_n 1, 1) := by decide +kernel
theorem dX6_shipRead_108 : decode cX6_shipRead 108 = .ok (.iconst 5, 1) := by decide +kernel
theorem dX6_shipRead_109 : decode cX6_shipRead 109 = .ok (.iadd, 1) := by decide +kernel
theorem dX6_shipRead_110 : decode cX6_shipRead 110 = .ok (.aload_n 0, 1) := by decide +kernel
theorem dX6_shipRead_111 : decode cX6_shipRead 111 = .ok (.ldc 163, 2) := by decide +kernel
theorem dX6_shipRead_113 : decode cX6_shipRead 113 = .ok (.invokevirtual 146, 3) := by decide +kernel
theorem dX6_shipRead_116 : decode cX6_shipRead 116 = .ok (.ifCond .eq 7, 3) := by decide +kernel
theorem dX6_shipRead_119 : decode cX6_shipRead 119 = .ok (.iconst 1, 1) := by decide +kernel
theorem dX6_shipRead_120 : decode cX6_shipRead 120 = .ok (.goto 4, 3) := by decide +kernel
theorem dX6_shipRead_123 : decode cX6_shipRead 123 = .ok (.iconst 0, 1) := by decide +kernel
theorem dX6_shipRead_124 : decode cX6_shipRead 124 = .ok (.iastore, 1) := by decide +kernel
theorem dX6_shipRead_125 : decode cX6_shipRead 125 = .ok (.aload_n 0, 1) := by decide +kernel
theorem dX6_shipRead_126 : decode cX6_shipRead 126 = .ok (.getfield 20, 3) := by decide +kernel
theorem dX6_shipRead_129 : decode cX6_shipRead 129 = .ok (.iload_n 1, 1) := by decide +kernel
theorem dX6_shipRead_130 : decode cX6_shipRead 130 = .ok (.bipush 6, 2) := by decide +kernel
theorem dX6_shipRead_132 : decode cX6_shipRead 132 = .ok (.iadd, 1) := by decide +kernel
theorem dX6_shipRead_133 : decode cX6_shipRead 133 = .ok (.iconst (-1), 1) := by decide +kernel
theorem dX6_shipRead_134 : decode cX6_shipRead 134 = .ok (.iastore, 1) := by decide +kernel
theorem dX6_shipRead_135 : decode cX6_shipRead 135 = .ok (.aload_n 0, 1) := by decide +kernel
theorem dX6_shipRead_136 : decode cX6_shipRead 136 = .ok (.getfield 20, 3) := by decide +kernel
theorem dX6_shipRead_139 : decode cX6_shipRead 139 = .ok (.iload_n 1, 1) := by decide +kernel
theorem dX6_shipRead_140 : decode cX6_shipRead 140 = .ok (.bipush 7, 2) := by decide +kernel
theorem dX6_shipRead_142 : decode cX6_shipRead 142 = .ok (.iadd, 1) := by decide +kernel
theorem dX6_shipRead_143 : decode cX6_shipRead 143 = .ok (.iconst (-1), 1) := by decide +kernel
theorem dX6_shipRead_144 : decode cX6_shipRead 144 = .ok (.iastore, 1) := by decide +kernel
theorem dX6_shipRead_145 : decode cX6_shipRead 145 = .ok (.aload_n 0, 1) := by decide +kernel
theorem dX6_shipRead_146 : decode cX6_shipRead 146 = .ok (.getfield 20, 3) := by decide +kernel
theorem dX6_shipRead_149 : decode cX6_shipRead 149 = .ok (.iconst 5, 1) := by decide +kernel
theorem dX6_shipRead_150 : decode cX6_shipRead 150 = .ok (.dup2, 1) := by decide +kernel
theorem dX6_shipRead_151 : decode cX6_shipRead 151 = .ok (.iaload, 1) := by decide +kernel
theorem dX6_shipRead_152 : decode cX6_shipRead 152 = .ok (.iconst 1, 1) := by decide +kernel
theorem dX6_shipRead_153 : decode cX6_shipRead 153 = .ok (.iadd, 1) := by decide +kernel
theorem dX6_shipRead_154 : decode cX6_shipRead 154 = .ok (.iastore, 1) := by decide +kernel
theorem dX6_shipRead_155 : decode cX6_shipRead 155 = .ok (.return_, 1) := by decide +kernel
theorem dX6_isOnce_0 : decode cX6_isOnce 0 = .ok (.aload_n 0, 1) := by decide +kernel
theorem dX6_isOnce_1 : decode cX6_isOnce 1 = .ok (.invokevirtual 84, 3) := by decide +kernel
theorem dX6_isOnce_4 : decode cX6_isOnce 4 = .ok (.pop, 1) := by decide +kernel
theorem dX6_isOnce_5 : decode cX6_isOnce 5 = .ok (.aload_n 0, 1) := by decide +kernel
theorem dX6_isOnce_6 : decode cX6_isOnce 6 = .ok (.getfield 78, 3) := by decide +kernel
theorem dX6_isOnce_9 : decode cX6_isOnce 9 = .ok (.istore_n 3, 1) := by decide +kernel
theorem dX6_isOnce_10 : decode cX6_isOnce 10 = .ok (.aload_n 0, 1) := by decide +kernel
theorem dX6_isOnce_11 : decode cX6_isOnce 11 = .ok (.aload_n 1, 1) := by decide +kernel
theorem dX6_isOnce_12 : decode cX6_isOnce 12 = .ok (.invokevirtual 146, 3) := by decide +kernel
theorem dX6_isOnce_15 : decode cX6_isOnce 15 = .ok (.ifCond .ne 5, 3) := by decide +kernel
theorem dX6_isOnce_18 : decode cX6_isOnce 18 = .ok (.iconst 0, 1) := by decide +kernel
theorem dX6_isOnce_19 : decode cX6_isOnce 19 = .ok (.ireturn, 1) := by decide +kernel
theorem dX6_isOnce_20 : decode cX6_isOnce 20 = .ok (.aload_n 0, 1) := by decide +kernel
theorem dX6_isOnce_21 : decode cX6_isOnce 21 = .ok (.getfield 165, 3) := by decide +kernel
theorem dX6_isOnce_24 : decode cX6_isOnce 24 = .ok (.iload_n 2, 1) := by decide +kernel
theorem dX6_isOnce_25 : decode cX6_isOnce 25 = .ok (.ishr, 1) := by decide +kernel
theorem dX6_isOnce_26 : decode cX6_isOnce 26 = .ok (.iconst 1, 1) := by decide +kernel
theorem dX6_isOnce_27 : decode cX6_isOnce 27 = .ok (.iand, 1) := by decide +kernel
theorem dX6_isOnce_28 : decode cX6_isOnce 28 = .ok (.iconst 1, 1) := by decide +kernel
theorem dX6_isOnce_29 : decode cX6_isOnce 29 = .ok (.if_icmp .ne 9, 3) := by decide +kernel
theorem dX6_isOnce_32 : decode cX6_isOnce 32 = .ok (.aload_n 0, 1) := by decide +kernel
theorem dX6_isOnce_33 : decode cX6_isOnce 33 = .ok (.iconst 1, 1) := by decide +kernel
theorem dX6_isOnce_34 : decode cX6_isOnce 34 = .ok (.iload_n 3, 1) := by decide +kernel
theorem dX6_isOnce_35 : decode cX6_isOnce 35 = .ok (.invokevirtual 111, 3) := by decide +kernel
theorem dX6_isOnce_38 : decode cX6_isOnce 38 = .ok (.aload_n 0, 1) := by decide +kernel
theorem dX6_isOnce_39 : decode cX6_isOnce 39 = .ok (.dup, 1) := by decide +kernel
theorem dX6_isOnce_40 : decode cX6_isOnce 40 = .ok (.getfield 165, 3) := by decide +kernel
theorem dX6_isOnce_43 : decode cX6_isOnce 43 = .ok (.iconst 1, 1) := by decide +kernel
theorem dX6_isOnce_44 : decode cX6_isOnce 44 = .ok (.iload_n 2, 1) := by decide +kernel
theorem dX6_isOnce_45 : decode cX6_isOnce 45 = .ok (.ishl, 1) := by decide +kernel
theorem dX6_isOnce_46 : decode cX6_isOnce 46 = .ok (.ior, 1) := by decide +kernel
theorem dX6_isOnce_47 : decode cX6_isOnce 47 = .ok (.putfield 165, 3) := by decide +kernel
theorem dX6_isOnce_50 : decode cX6_isOnce 50 = .ok (.iconst 1, 1) := by decide +kernel
theorem dX6_isOnce_51 : decode cX6_isOnce 51 = .ok (.ireturn, 1) := by decide +kernel
theorem dX6_isOneMore_0 : decode cX6_isOneMore 0 = .ok (.aload_n 0, 1) := by decide +kernel
theorem dX6_isOneMore_1 : decode cX6_isOneMore 1 = .ok (.invokevirtual 84, 3) := by decide +kernel
theorem dX6_isOneMore_4 : decode cX6_isOneMore 4 = .ok (.pop, 1) := by decide +kernel
theorem dX6_isOneMore_5 : decode cX6_isOneMore 5 = .ok (.aload_n 0, 1) := by decide +kernel
theorem dX6_isOneMore_6 : decode cX6_isOneMore 6 = .ok (.getfield 78, 3) := by decide +kernel
theorem dX6_isOneMore_9 : decode cX6_isOneMore 9 = .ok (.istore_n 3, 1) := by decide +kernel
theorem dX6_isOneMore_10 : decode cX6_isOneMore 10 = .ok (.aload_n 0, 1) := by decide +kernel
theorem dX6_isOneMore_11 : decode cX6_isOneMore 11 = .ok (.aload_n 1, 1) := by decide +kernel
theorem dX6_isOneMore_12 : decode cX6_isOneMore 12 = .ok (.invokevirtual 146, 3) := by decide +kernel
theorem dX6_isOneMore_15 : decode cX6_isOneMore 15 = .ok (.ifCond .ne 5, 3) := by decide +kernel
theorem dX6_isOneMore_18 : decode cX6_isOneMore 18 = .ok (.iconst 0, 1) := by decide +kernel
theorem dX6_isOneMore_19 : decode cX6_isOneMore 19 = .ok (.ireturn, 1) := by decide +kernel
theorem dX6_isOneMore_20 : decode cX6_isOneMore 20 = .ok (.aload_n 0, 1) := by decide +kernel
theorem dX6_isOneMore_21 : decode cX6_isOneMore 21 = .ok (.getfield 20, 3) := by decide +kernel
theorem dX6_isOneMore_24 : decode cX6_isOneMore 24 = .ok (.iload_n 2, 1) := by decide +kernel
theorem dX6_isOneMore_25 : decode cX6_isOneMore 25 = .ok (.iaload, 1) := by decide +kernel
theorem dX6_isOneMore_26 : decode cX6_isOneMore 26 = .ok (.bipush 6, 2) := by decide +kernel
theorem dX6_isOneMore_28 : decode cX6_isOneMore 28 = .ok (.if_icmp .ne 9, 3) := by decide +kernel
theorem dX6_isOneMore_31 : decode cX6_isOneMore 31 = .ok (.aload_n 0, 1) := by decide +kernel
theorem dX6_isOneMore_32 : decode cX6_isOneMore 32 = .ok (.iconst 3, 1) := by decide +kernel
theorem dX6_isOneMore_33 : decode cX6_isOneMore 33 = .ok (.iload_n 3, 1) := by decide +kernel
theorem dX6_isOneMore_34 : decode cX6_isOneMore 34 = .ok (.invokevirtual 111, 3) := by decide +kernel
theorem dX6_isOneMore_37 : decode cX6_isOneMore 37 = .ok (.iconst 1, 1) := by decide +kernel
theorem dX6_isOneMore_38 : decode cX6_isOneMore 38 = .ok (.ireturn, 1) := by decide +kernel
theorem dX6_lineRead_0 : decode cX6_lineRead 0 = .ok (.aload_n 0, 1) := by decide +kernel
theorem dX6_lineRead_1 : decode cX6_lineRead 1 = .ok (.invokevirtual 84, 3) := by decide +kernel
theorem dX6_lineRead_4 : decode cX6_lineRead 4 = .ok (.pop, 1) := by decide +kernel
theorem dX6_lineRead_5 : decode cX6_lineRead 5 = .ok (.aload_n 0, 1) := by decide +kernel
theorem dX6_lineRead_6 : decode cX6_lineRead 6 = .ok (.getfield 78, 3) := by decide +kernel
theorem dX6_lineRead_9 : decode cX6_lineRead 9 = .ok (.istore_n 1, 1) := by decide +kernel
theorem dX6_lineRead_10 : decode cX6_lineRead 10 = .ok (.aload_n 0, 1) := by decide +kernel
theorem dX6_lineRead_11 : decode cX6_lineRead 11 = .ok (.ldc 168, 2) := by decide +kernel
theorem dX6_lineRead_13 : decode cX6_lineRead 13 = .ok (.iconst 3, 1) := by decide +kernel
theorem dX6_lineRead_14 : decode cX6_lineRead 14 = .ok (.invokevirtual 170, 3) := by decide +kernel
theorem dX6_lineRead_17 : decode cX6_lineRead 17 = .ok (.ifCond .eq 17, 3) := by decide +kernel
theorem dX6_lineRead_20 : decode cX6_lineRead 20 = .ok (.aload_n 0, 1) := by decide +kernel
theorem dX6_lineRead_21 : decode cX6_lineRead 21 = .ok (.getfield 72, 3) := by decide +kernel
theorem dX6_lineRead_24 : decode cX6_lineRead 24 = .ok (.ifCond .ne 159, 3) := by decide +kernel
theorem dX6_lineRead_27 : decode cX6_lineRead 27 = .ok (.aload_n 0, 1) := by decide +kernel
theorem dX6_lineRead_28 : decode cX6_lineRead 28 = .ok (.invokevirtual 174, 3) := by decide +kernel
theorem dX6_lineRead_31 : decode cX6_lineRead 31 = .ok (.goto 152, 3) := by decide +kernel
theorem dX6_lineRead_34 : decode cX6_lineRead 34 = .ok (.aload_n 0, 1) := by decide +kernel
theorem dX6_lineRead_35 : decode cX6_lineRead 35 = .ok (.ldc 177, 2) := by decide +kernel
theorem dX6_lineRead_37 : decode cX6_lineRead 37 = .ok (.iconst 4, 1) := by decide +kernel
theorem dX6_lineRead_38 : decode cX6_lineRead 38 = .ok (.invokevirtual 170, 3) := by decide +kernel
theorem dX6_lineRead_41 : decode cX6_lineRead 41 = .ok (.ifCond .eq 17, 3) := by decide +kernel
theorem dX6_lineRead_44 : decode cX6_lineRead 44 = .ok (.aload_n 0, 1) := by decide +kernel
theorem dX6_lineRead_45 : decode cX6_lineRead 45 = .ok (.getfield 72, 3) := by decide +kernel
theorem dX6_lineRead_48 : decode cX6_lineRead 48 = .ok (.ifCond .ne 135, 3) := by decide +kernel
theorem dX6_lineRead_51 : decode cX6_lineRead 51 = .ok (.aload_n 0, 1) := by decide +kernel
theorem dX6_lineRead_52 : decode cX6_lineRead 52 = .ok (.invokevirtual 179, 3) := by decide +kernel
theorem dX6_lineRead_55 : decode cX6_lineRead 55 = .ok (.goto 128, 3) := by decide +kernel
theorem dX6_lineRead_58 : decode cX6_lineRead 58 = .ok (.aload_n 0, 1) := by decide +kernel
theorem dX6_lineRead_59 : decode cX6_lineRead 59 = .ok (.ldc 182, 2) := by decide +kernel
theorem dX6_lineRead_61 : decode cX6_lineRead 61 = .ok (.iconst 5, 1) := by decide +kernel
theorem dX6_lineRead_62 : decode cX6_lineRead 62 = .ok (.invokevirtual 170, 3) := by decide +kernel
theorem dX6_lineRead_65 : decode cX6_lineRead 65 = .ok (.ifCond .eq 17, 3) := by decide +kernel
theorem dX6_lineRead_68 : decode cX6_lineRead 68 = .ok (.aload_n 0, 1) := by decide +kernel
theorem dX6_lineRead_69 : decode cX6_lineRead 69 = .ok (.getfield 72, 3) := by decide +kernel
theorem dX6_lineRead_72 : decode cX6_lineRead 72 = .ok (.ifCond .ne 111, 3) := by decide +kernel
theorem dX6_lineRead_75 : decode cX6_lineRead 75 = .ok (.aload_n 0, 1) := by decide +kernel
theorem dX6_lineRead_76 : decode cX6_lineRead 76 = .ok (.invokevirtual 184, 3) := by decide +kernel
theorem dX6_lineRead_79 : decode cX6_lineRead 79 = .ok (.goto 104, 3) := by decide +kernel
theorem dX6_lineRead_82 : decode cX6_lineRead 82 = .ok (.aload_n 0, 1) := by decide +kernel
theorem dX6_lineRead_83 : decode cX6_lineRead 83 = .ok (.ldc 187, 2) := by decide +kernel
theorem dX6_lineRead_85 : decode cX6_lineRead 85 = .ok (.iconst 0, 1) := by decide +kernel
theorem dX6_lineRead_86 : decode cX6_lineRead 86 = .ok (.invokevirtual 189, 3) := by decide +kernel
theorem dX6_lineRead_89 : decode cX6_lineRead 89 = .ok (.ifCond .eq 17, 3) := by decide +kernel
theorem dX6_lineRead_92 : decode cX6_lineRead 92 = .ok (.aload_n 0, 1) := by decide +kernel
theorem dX6_lineRead_93 : decode cX6_lineRead 93 = .ok (.getfield 72, 3) := by decide +kernel
theorem dX6_lineRead_96 : decode cX6_lineRead 96 = .ok (.ifCond .ne 87, 3) := by decide +kernel
theorem dX6_lineRead_99 : decode cX6_lineRead 99 = .ok (.aload_n 0, 1) := by decide +kernel
theorem dX6_lineRead_100 : decode cX6_lineRead 100 = .ok (.invokevirtual 141, 3) := by decide +kernel
theorem dX6_lineRead_103 : decode cX6_lineRead 103 = .ok (.goto 80, 3) := by decide +kernel
theorem dX6_lineRead_106 : decode cX6_lineRead 106 = .ok (.aload_n 0, 1) := by decide +kernel
theorem dX6_lineRead_107 : decode cX6_lineRead 107 = .ok (.ldc 192, 2) := by decide +kernel
theorem dX6_lineRead_109 : decode cX6_lineRead 109 = .ok (.iconst 1, 1) := by decide +kernel
theorem dX6_lineRead_110 : decode cX6_lineRead 110 = .ok (.invokevirtual 189, 3) := by decide +kernel
theorem dX6_lineRead_113 : decode cX6_lineRead 113 = .ok (.ifCond .eq 20, 3) := by decide +kernel
theorem dX6_lineRead_116 : decode cX6_lineRead 116 = .ok (.aload_n 0, 1) := by decide +kernel
theorem dX6_lineRead_117 : decode cX6_lineRead 117 = .ok (.getfield 20, 3) := by decide +kernel
theorem dX6_lineRead_120 : decode cX6_lineRead 120 = .ok (.iconst 1, 1) := by decide +kernel
theorem dX6_lineRead_121 : decode cX6_lineRead 121 = .ok (.aload_n 0, 1) := by decide +kernel
theorem dX6_lineRead_122 : decode cX6_lineRead 122 = .ok (.iconst 0, 1) := by decide +kernel
theorem dX6_lineRead_123 : decode cX6_lineRead 123 = .ok (.sipush 240, 3) := by decide +kernel
theorem dX6_lineRead_126 : decode cX6_lineRead 126 = .ok (.invokevirtual 155, 3) := by decide +kernel
theorem dX6_lineRead_129 : decode cX6_lineRead 129 = .ok (.iastore, 1) := by decide +kernel
theorem dX6_lineRead_130 : decode cX6_lineRead 130 = .ok (.goto 53, 3) := by decide +kernel
theorem dX6_lineRead_133 : decode cX6_lineRead 133 = .ok (.aload_n 0, 1) := by decide +kernel
theorem dX6_lineRead_134 : decode cX6_lineRead 134 = .ok (.ldc 194, 2) := by decide +kernel
theorem dX6_lineRead_136 : decode cX6_lineRead 136 = .ok (.iconst 2, 1) := by decide +kernel
theorem dX6_lineRead_137 : decode cX6_lineRead 137 = .ok (.invokevirtual 189, 3) := by decide +kernel
theorem dX6_lineRead_140 : decode cX6_lineRead 140 = .ok (.ifCond .eq 37, 3) := by decide +kernel
theorem dX6_lineRead_143 : decode cX6_lineRead 143 = .ok (.aload_n 0, 1) := by decide +kernel
theorem dX6_lineRead_144 : decode cX6_lineRead 144 = .ok (.bipush 45, 2) := by decide +kernel
theorem dX6_lineRead_146 : decode cX6_lineRead 146 = .ok (.invokevirtual 129, 3) := by decide +kernel
theorem dX6_lineRead_149 : decode cX6_lineRead 149 = .ok (.ifCond .eq 7, 3) := by decide +kernel
theorem dX6_lineRead_152 : decode cX6_lineRead 152 = .ok (.iconst (-1), 1) := by decide +kernel
theorem dX6_lineRead_153 : decode cX6_lineRead 153 = .ok (.goto 4, 3) := by decide +kernel
theorem dX6_lineRead_156 : decode cX6_lineRead 156 = .ok (.iconst 1, 1) := by decide +kernel
theorem dX6_lineRead_157 : decode cX6_lineRead 157 = .ok (.istore_n 2, 1) := by decide +kernel
theorem dX6_lineRead_158 : decode cX6_lineRead 158 = .ok (.aload_n 0, 1) := by decide +kernel
theorem dX6_lineRead_159 : decode cX6_lineRead 159 = .ok (.getfield 20, 3) := by decide +kernel
theorem dX6_lineRead_162 : decode cX6_lineRead 162 = .ok (.iconst 2, 1) := by decide +kernel
theorem dX6_lineRead_163 : decode cX6_lineRead 163 = .ok (.iload_n 2, 1) := by decide +kernel
theorem dX6_lineRead_164 : decode cX6_lineRead 164 = .ok (.aload_n 0, 1) := by decide +kernel
theorem dX6_lineRead_165 : decode cX6_lineRead 165 = .ok (.iconst 0, 1) := by decide +kernel
theorem dX6_lineRead_166 : decode cX6_lineRead 166 = .ok (.sipush 300, 3) := by decide +kernel
theorem dX6_lineRead_169 : decode cX6_lineRead 169 = .ok (.invokevirtual 155, 3) := by decide +kernel
theorem dX6_lineRead_172 : decode cX6_lineRead 172 = .ok (.imul, 1) := by decide +kernel
theorem dX6_lineRead_173 : decode cX6_lineRead 173 = .ok (.iastore, 1) := by decide +kernel
theorem dX6_lineRead_174 : decode cX6_lineRead 174 = .ok (.goto 9, 3) := by decide +kernel
theorem dX6_lineRead_177 : decode cX6_lineRead 177 = .ok (.aload_n 0, 1) := by decide +kernel
theorem dX6_lineRead_178 : decode cX6_lineRead 178 = .ok (.iconst 1, 1) := by decide +kernel
theorem dX6_lineRead_179 : decode cX6_lineRead 179 = .ok (.iload_n 1, 1) := by decide +kernel
theorem dX6_lineRead_180 : decode cX6_lineRead 180 = .ok (.invokevirtual 111, 3) := by decide +kernel
theorem dX6_lineRead_183 : decode cX6_lineRead 183 = .ok (.aload_n 0, 1) := by decide +kernel
theorem dX6_lineRead_184 : decode cX6_lineRead 184 = .ok (.getfield 72, 3) := by decide +kernel
theorem dX6_lineRead_187 : decode cX6_lineRead 187 = .ok (.ifCond .ne 21, 3) := by decide +kernel
theorem dX6_lineRead_190 : decode cX6_lineRead 190 = .ok (.aload_n 0, 1) := by decide +kernel
theorem dX6_lineRead_191 : decode cX6_lineRead 191 = .ok (.bipush 59, 2) := by decide +kernel
theorem dX6_lineRead_193 : decode cX6_lineRead 193 = .ok (.invokevirtual 129, 3) := by decide +kernel
theorem dX6_lineRead_196 : decode cX6_lineRead 196 = .ok (.ifCond .ne 12, 3) := by decide +kernel
theorem dX6_lineRead_199 : decode cX6_lineRead 199 = .ok (.aload_n 0, 1) := by decide +kernel
theorem dX6_lineRead_200 : decode cX6_lineRead 200 = .ok (.iconst 1, 1) := by decide +kernel
theorem dX6_lineRead_201 : decode cX6_lineRead 201 = .ok (.aload_n 0, 1) := by decide +kernel
theorem dX6_lineRead_202 : decode cX6_lineRead 202 = .ok (.getfield 78, 3) := by decide +kernel
theorem dX6_lineRead_205 : decode cX6_lineRead 205 = .ok (.invokevirtual 111, 3) := by decide +kernel
theorem dX6_lineRead_208 : decode cX6_lineRead 208 = .ok (.return_, 1) := by decide +kernel
theorem dX6_text_0 : decode cX6_text 0 = .ok (.aload_n 0, 1) := by decide +kernel
theorem dX6_text_1 : decode cX6_text 1 = .ok (.iconst 0, 1) := by decide +kernel
theorem dX6_text_2 : decode cX6_text 2 = .ok (.putfield 1, 3) := by decide +kernel
theorem dX6_text_5 : decode cX6_text 5 = .ok (.aload_n 0, 1) := by decide +kernel
theorem dX6_text_6 : decode cX6_text 6 = .ok (.iload_n 1, 1) := by decide +kernel
theorem dX6_text_7 : decode cX6_text 7 = .ok (.i2l, 1) := by decide +kernel
theorem dX6_text_8 : decode cX6_text 8 = .ok (.lconst 0, 1) := by decide +kernel
theorem dX6_text_9 : decode cX6_text 9 = .ok (.aload_n 0, 1) := by decide +kernel
theorem dX6_text_10 : decode cX6_text 10 = .ok (.getfield 65, 3) := by decide +kernel
theorem dX6_text_13 : decode cX6_text 13 = .ok (.i2l, 1) := by decide +kernel
theorem dX6_text_14 : decode cX6_text 14 = .ok (.invokestatic 122, 3) := by decide +kernel
theorem dX6_text_17 : decode cX6_text 17 = .ok (.iconst 1, 1) := by decide +kernel
theorem dX6_text_18 : decode cX6_text 18 = .ok (.iconst 1, 1) := by decide +kernel
theorem dX6_text_19 : decode cX6_text 19 = .ok (.invokevirtual 196, 3) := by decide +kernel
theorem dX6_text_22 : decode cX6_text 22 = .ok (.ifCond .ne 5, 3) := by decide +kernel
theorem dX6_text_25 : decode cX6_text 25 = .ok (.iconst 0, 1) := by decide +kernel
theorem dX6_text_26 : decode cX6_text 26 = .ok (.ireturn, 1) := by decide +kernel
theorem dX6_text_27 : decode cX6_text 27 = .ok (.iconst 0, 1) := by decide +kernel
theorem dX6_text_28 : decode cX6_text 28 = .ok (.istore_n 2, 1) := by decide +kernel
theorem dX6_text_29 : decode cX6_text 29 = .ok (.iload_n 2, 1) := by decide +kernel
theorem dX6_text_30 : decode cX6_text 30 = .ok (.iload_n 1, 1) := by decide +kernel
theorem dX6_text_31 : decode cX6_text 31 = .ok (.if_icmp .ge 21, 3) := by decide +kernel
theorem dX6_text_34 : decode cX6_text 34 = .ok (.aload_n 0, 1) := by decide +kernel
theorem dX6_text_35 : decode cX6_text 35 = .ok (.getfield 30, 3) := by decide +kernel
theorem dX6_text_38 : decode cX6_text 38 = .ok (.iload_n 2, 1) := by decide +kernel
theorem dX6_text_39 : decode cX6_text 39 = .ok (.aload_n 0, 1) := by decide +kernel
theorem dX6_text_40 : decode cX6_text 40 = .ok (.getfield 26, 3) := by decide +kernel
theorem dX6_text_43 : decode cX6_text 43 = .ok (.iload_n 2, 1) := by decide +kernel
theorem dX6_text_44 : decode cX6_text 44 = .ok (.baload, 1) := by decide +kernel
theorem dX6_text_45 : decode cX6_text 45 = .ok (.bastore, 1) := by decide +kernel
theorem dX6_text_46 : decode cX6_text 46 = .ok (.iinc 2 1, 3) := by decide +kernel
theorem dX6_text_49 : decode cX6_text 49 = .ok (.goto (-20), 3) := by decide +kernel
theorem dX6_text_52 : decode cX6_text 52 = .ok (.aload_n 0, 1) := by decide +kernel
theorem dX6_text_53 : decode cX6_text 53 = .ok (.iconst 0, 1) := by decide +kernel
theorem dX6_text_54 : decode cX6_text 54 = .ok (.putfield 65, 3) := by decide +kernel
theorem dX6_text_57 : decode cX6_text 57 = .ok (.aload_n 0, 1) := by decide +kernel
theorem dX6_text_58 : decode cX6_text 58 = .ok (.iload_n 1, 1) := by decide +kernel
theorem dX6_text_59 : decode cX6_text 59 = .ok (.putfield 81, 3) := by decide +kernel
theorem dX6_text_62 : decode cX6_text 62 = .ok (.aload_n 0, 1) := by decide +kernel
theorem dX6_text_63 : decode cX6_text 63 = .ok (.iconst 0, 1) := by decide +kernel
theorem dX6_text_64 : decode cX6_text 64 = .ok (.putfield 78, 3) := by decide +kernel
theorem dX6_text_67 : decode cX6_text 67 = .ok (.aload_n 0, 1) := by decide +kernel
theorem dX6_text_68 : decode cX6_text 68 = .ok (.iconst 0, 1) := by decide +kernel
theorem dX6_text_69 : decode cX6_text 69 = .ok (.putfield 72, 3) := by decide +kernel
theorem dX6_text_72 : decode cX6_text 72 = .ok (.aload_n 0, 1) := by decide +kernel
theorem dX6_text_73 : decode cX6_text 73 = .ok (.iconst 0, 1) := by decide +kernel
theorem dX6_text_74 : decode cX6_text 74 = .ok (.putfield 138, 3) := by decide +kernel
theorem dX6_text_77 : decode cX6_text 77 = .ok (.aload_n 0, 1) := by decide +kernel
theorem dX6_text_78 : decode cX6_text 78 = .ok (.iconst 0, 1) := by decide +kernel
theorem dX6_text_79 : decode cX6_text 79 = .ok (.putfield 165, 3) := by decide +kernel
theorem dX6_text_82 : decode cX6_text 82 = .ok (.iconst 0, 1) := by decide +kernel
theorem dX6_text_83 : decode cX6_text 83 = .ok (.istore_n 2, 1) := by decide +kernel
theorem dX6_text_84 : decode cX6_text 84 = .ok (.iload_n 2, 1) := by decide +kernel
theorem dX6_text_85 : decode cX6_text 85 = .ok (.sipush 709, 3) := by decide +kernel
theorem dX6_text_88 : decode cX6_text 88 = .ok (.if_icmp .ge 16, 3) := by decide +kernel
theorem dX6_text_91 : decode cX6_text 91 = .ok (.aload_n 0, 1) := by decide +kernel
theorem dX6_text_92 : decode cX6_text 92 = .ok (.getfield 20, 3) := by decide +kernel
theorem dX6_text_95 : decode cX6_text 95 = .ok (.iload_n 2, 1) := by decide +kernel
theorem dX6_text_96 : decode cX6_text 96 = .ok (.iconst 0, 1) := by decide +kernel
theorem dX6_text_97 : decode cX6_text 97 = .ok (.iastore, 1) := by decide +kernel
theorem dX6_text_98 : decode cX6_text 98 = .ok (.iinc 2 1, 3) := by decide +kernel
theorem dX6_text_101 : decode cX6_text 101 = .ok (.goto (-17), 3) := by decide +kernel
theorem dX6_text_104 : decode cX6_text 104 = .ok (.aload_n 0, 1) := by decide +kernel
theorem dX6_text_105 : decode cX6_text 105 = .ok (.getfield 20, 3) := by decide +kernel
theorem dX6_text_108 : decode cX6_text 108 = .ok (.iconst 1, 1) := by decide +kernel
theorem dX6_text_109 : decode cX6_text 109 = .ok (.bipush 15, 2) := by decide +kernel
theorem dX6_text_111 : decode cX6_text 111 = .ok (.iastore, 1) := by decide +kernel
theorem dX6_text_112 : decode cX6_text 112 = .ok (.aload_n 0, 1) := by decide +kernel
theorem dX6_text_113 : decode cX6_text 113 = .ok (.ldc 200, 2) := by decide +kernel
theorem dX6_text_115 : decode cX6_text 115 = .ok (.invokevirtual 146, 3) := by decide +kernel
theorem dX6_text_118 : decode cX6_text 118 = .ok (.ifCond .ne 12, 3) := by decide +kernel
theorem dX6_text_121 : decode cX6_text 121 = .ok (.aload_n 0, 1) := by decide +kernel
theorem dX6_text_122 : decode cX6_text 122 = .ok (.iconst 1, 1) := by decide +kernel
theorem dX6_text_123 : decode cX6_text 123 = .ok (.aload_n 0, 1) := by decide +kernel
theorem dX6_text_124 : decode cX6_text 124 = .ok (.getfield 78, 3) := by decide +kernel
theorem dX6_text_127 : decode cX6_text 127 = .ok (.invokevirtual 111, 3) := by decide +kernel
theorem dX6_text_130 : decode cX6_text 130 = .ok (.aload_n 0, 1) := by decide +kernel
theorem dX6_text_131 : decode cX6_text 131 = .ok (.getfield 20, 3) := by decide +kernel
theorem dX6_text_134 : decode cX6_text 134 = .ok (.iconst 0, 1) := by decide +kernel
theorem dX6_text_135 : decode cX6_text 135 = .ok (.aload_n 0, 1) := by decide +kernel
theorem dX6_text_136 : decode cX6_text 136 = .ok (.iconst 0, 1) := by decide +kernel
theorem dX6_text_137 : decode cX6_text 137 = .ok (.sipush 1000, 3) := by decide +kernel
theorem dX6_text_140 : decode cX6_text 140 = .ok (.invokevirtual 155, 3) := by decide +kernel
theorem dX6_text_143 : decode cX6_text 143 = .ok (.iastore, 1) := by decide +kernel
theorem dX6_text_144 : decode cX6_text 144 = .ok (.aload_n 0, 1) := by decide +kernel
theorem dX6_text_145 : decode cX6_text 145 = .ok (.getfield 72, 3) := by decide +kernel
theorem dX6_text_148 : decode cX6_text 148 = .ok (.ifCond .ne 21, 3) := by decide +kernel
theorem dX6_text_151 : decode cX6_text 151 = .ok (.aload_n 0, 1) := by decide +kernel
theorem dX6_text_152 : decode cX6_text 152 = .ok (.bipush 59, 2) := by decide +kernel
theorem dX6_text_154 : decode cX6_text 154 = .ok (.invokevirtual 129, 3) := by decide +kernel
theorem dX6_text_157 : decode cX6_text 157 = .ok (.ifCond .ne 12, 3) := by decide +kernel
theorem dX6_text_160 : decode cX6_text 160 = .ok (.aload_n 0, 1) := by decide +kernel
theorem dX6_text_161 : decode cX6_text 161 = .ok (.iconst 1, 1) := by decide +kernel
theorem dX6_text_162 : decode cX6_text 162 = .ok (.aload_n 0, 1) := by decide +kernel
theorem dX6_text_163 : decode cX6_text 163 = .ok (.getfield 78, 3) := by decide +kernel
theorem dX6_text_166 : decode cX6_text 166 = .ok (.invokevirtual 111, 3) := by decide +kernel
theorem dX6_text_169 : decode cX6_text 169 = .ok (.aload_n 0, 1) := by decide +kernel
theorem dX6_text_170 : decode cX6_text 170 = .ok (.getfield 72, 3) := by decide +kernel
theorem dX6_text_173 : decode cX6_text 173 = .ok (.ifCond .ne 28, 3) := by decide +kernel
theorem dX6_text_176 : decode cX6_text 176 = .ok (.aload_n 0, 1) := by decide +kernel
theorem dX6_text_177 : decode cX6_text 177 = .ok (.invokevirtual 84, 3) := by decide +kernel
theorem dX6_text_180 : decode cX6_text 180 = .ok (.ifCond .ne 14, 3) := by decide +kernel
theorem dX6_text_183 : decode cX6_text 183 = .ok (.aload_n 0, 1) := by decide +kernel
theorem dX6_text_184 : decode cX6_text 184 = .ok (.getfield 78, 3) := by decide +kernel
theorem dX6_text_187 : decode cX6_text 187 = .ok (.aload_n 0, 1) := by decide +kernel
theorem dX6_text_188 : decode cX6_text 188 = .ok (.getfield 81, 3) := by decide +kernel
theorem dX6_text_191 : decode cX6_text 191 = .ok (.if_icmp .ge 10, 3) := by decide +kernel
theorem dX6_text_194 : decode cX6_text 194 = .ok (.aload_n 0, 1) := by decide +kernel
theorem dX6_text_195 : decode cX6_text 195 = .ok (.invokevirtual 202, 3) := by decide +kernel
theorem dX6_text_198 : decode cX6_text 198 = .ok (.goto (-29), 3) := by decide +kernel
theorem dX6_text_201 : decode cX6_text 201 = .ok (.aload_n 0, 1) := by decide +kernel
theorem dX6_text_202 : decode cX6_text 202 = .ok (.aload_n 0, 1) := by decide +kernel
theorem dX6_text_203 : decode cX6_text 203 = .ok (.getfield 72, 3) := by decide +kernel
theorem dX6_text_206 : decode cX6_text 206 = .ok (.ifCond .le 10, 3) := by decide +kernel
theorem dX6_text_209 : decode cX6_text 209 = .ok (.aload_n 0, 1) := by decide +kernel
theorem dX6_text_210 : decode cX6_text 210 = .ok (.getfield 75, 3) := by decide +kernel
theorem dX6_text_213 : decode cX6_text 213 = .ok (.goto 4, 3) := by decide +kernel
theorem dX6_text_216 : decode cX6_text 216 = .ok (.iconst (-1), 1) := by decide +kernel
theorem dX6_text_217 : decode cX6_text 217 = .ok (.putfield 33, 3) := by decide +kernel
theorem dX6_text_220 : decode cX6_text 220 = .ok (.aload_n 0, 1) := by decide +kernel
theorem dX6_text_221 : decode cX6_text 221 = .ok (.getfield 72, 3) := by decide +kernel
theorem dX6_text_224 : decode cX6_text 224 = .ok (.ifCond .le 11, 3) := by decide +kernel
theorem dX6_text_227 : decode cX6_text 227 = .ok (.aload_n 0, 1) := by decide +kernel
theorem dX6_text_228 : decode cX6_text 228 = .ok (.getfield 72, 3) := by decide +kernel
theorem dX6_text_231 : decode cX6_text 231 = .ok (.bipush 10, 2) := by decide +kernel
theorem dX6_text_233 : decode cX6_text 233 = .ok (.isub, 1) := by decide +kernel
theorem dX6_text_234 : decode cX6_text 234 = .ok (.ireturn, 1) := by decide +kernel
theorem dX6_text_235 : decode cX6_text 235 = .ok (.aload_n 0, 1) := by decide +kernel
theorem dX6_text_236 : decode cX6_text 236 = .ok (.invokevirtual 205, 3) := by decide +kernel
theorem dX6_text_239 : decode cX6_text 239 = .ok (.iconst 0, 1) := by decide +kernel
theorem dX6_text_240 : decode cX6_text 240 = .ok (.istore_n 2, 1) := by decide +kernel
theorem dX6_text_241 : decode cX6_text 241 = .ok (.iload_n 2, 1) := by decide +kernel
theorem dX6_text_242 : decode cX6_text 242 = .ok (.sipush 709, 3) := by decide +kernel
theorem dX6_text_245 : decode cX6_text 245 = .ok (.if_icmp .ge 21, 3) := by decide +kernel
theorem dX6_text_248 : decode cX6_text 248 = .ok (.aload_n 0, 1) := by decide +kernel
theorem dX6_text_249 : decode cX6_text 249 = .ok (.getfield 17, 3) := by decide +kernel
theorem dX6_text_252 : decode cX6_text 252 = .ok (.iload_n 2, 1) := by decide +kernel
theorem dX6_text_253 : decode cX6_text 253 = .ok (.aload_n 0, 1) := by decide +kernel
theorem dX6_text_254 : decode cX6_text 254 = .ok (.getfield 20, 3) := by decide +kernel
theorem dX6_text_257 : decode cX6_text 257 = .ok (.iload_n 2, 1) := by decide +kernel
theorem dX6_text_258 : decode cX6_text 258 = .ok (.iaload, 1) := by decide +kernel
theorem dX6_text_259 : decode cX6_text 259 = .ok (.iastore, 1) := by decide +kernel
theorem dX6_text_260 : decode cX6_text 260 = .ok (.iinc 2 1, 3) := by decide +kernel
theorem dX6_text_263 : decode cX6_text 263 = .ok (.goto (-22), 3) := by decide +kernel
theorem dX6_text_266 : decode cX6_text 266 = .ok (.aload_n 0, 1) := by decide +kernel
theorem dX6_text_267 : decode cX6_text 267 = .ok (.getfield 17, 3) := by decide +kernel
theorem dX6_text_270 : decode cX6_text 270 = .ok (.iconst 4, 1) := by decide +kernel
theorem dX6_text_271 : decode cX6_text 271 = .ok (.iaload, 1) := by decide +kernel
theorem dX6_text_272 : decode cX6_text 272 = .ok (.aload_n 0, 1) := by decide +kernel
theorem dX6_text_273 : decode cX6_text 273 = .ok (.getfield 17, 3) := by decide +kernel
theorem dX6_text_276 : decode cX6_text 276 = .ok (.iconst 5, 1) := by decide +kernel
theorem dX6_text_277 : decode cX6_text 277 = .ok (.iaload, 1) := by decide +kernel
theorem dX6_text_278 : decode cX6_text 278 = .ok (.iadd, 1) := by decide +kernel
theorem dX6_text_279 : decode cX6_text 279 = .ok (.ireturn, 1) := by decide +kernel
theorem dX6_fault_0 : decode cX6_fault 0 = .ok (.aload_n 0, 1) := by decide +kernel
theorem dX6_fault_1 : decode cX6_fault 1 = .ok (.iconst 0, 1) := by decide +kernel
theorem dX6_fault_2 : decode cX6_fault 2 = .ok (.putfield 1, 3) := by decide +kernel
theorem dX6_fault_5 : decode cX6_fault 5 = .ok (.aload_n 0, 1) := by decide +kernel
theorem dX6_fault_6 : decode cX6_fault 6 = .ok (.getfield 33, 3) := by decide +kernel
theorem dX6_fault_9 : decode cX6_fault 9 = .ok (.ireturn, 1) := by decide +kernel
theorem dX6_partOf_0 : decode cX6_partOf 0 = .ok (.iload_n 0, 1) := by decide +kernel
theorem dX6_partOf_1 : decode cX6_partOf 1 = .ok (.i2l, 1) := by decide +kernel
theorem dX6_partOf_2 : decode cX6_partOf 2 = .ok (.iload_n 2, 1) := by decide +kernel
theorem dX6_partOf_3 : decode cX6_partOf 3 = .ok (.i2l, 1) := by decide +kernel
theorem dX6_partOf_4 : decode cX6_partOf 4 = .ok (.lsub, 1) := by decide +kernel
theorem dX6_partOf_5 : decode cX6_partOf 5 = .ok (.iload_n 1, 1) := by decide +kernel
theorem dX6_partOf_6 : decode cX6_partOf 6 = .ok (.i2l, 1) := by decide +kernel
theorem dX6_partOf_7 : decode cX6_partOf 7 = .ok (.invokestatic 208, 3) := by decide +kernel
theorem dX6_partOf_10 : decode cX6_partOf 10 = .ok (.ldc2_w 212, 3) := by decide +kernel
theorem dX6_partOf_13 : decode cX6_partOf 13 = .ok (.lmul, 1) := by decide +kernel
theorem dX6_partOf_14 : decode cX6_partOf 14 = .ok (.iload_n 1, 1) := by decide +kernel
theorem dX6_partOf_15 : decode cX6_partOf 15 = .ok (.i2l, 1) := by decide +kernel
theorem dX6_partOf_16 : decode cX6_partOf 16 = .ok (.ldiv, 1) := by decide +kernel
theorem dX6_partOf_17 : decode cX6_partOf 17 = .ok (.l2i, 1) := by decide +kernel
theorem dX6_partOf_18 : decode cX6_partOf 18 = .ok (.istore_n 3, 1) := by decide +kernel
theorem dX6_partOf_19 : decode cX6_partOf 19 = .ok (.iload_n 3, 1) := by decide +kernel
theorem dX6_partOf_20 : decode cX6_partOf 20 = .ok (.sipush 1800, 3) := by decide +kernel
theorem dX6_partOf_23 : decode cX6_partOf 23 = .ok (.if_icmp .lt 7, 3) := by decide +kernel
theorem dX6_partOf_26 : decode cX6_partOf 26 = .ok (.iconst (-1), 1) := by decide +kernel
theorem dX6_partOf_27 : decode cX6_partOf 27 = .ok (.goto 4, 3) := by decide +kernel
theorem dX6_partOf_30 : decode cX6_partOf 30 = .ok (.iconst 1, 1) := by decide +kernel
theorem dX6_partOf_31 : decode cX6_partOf 31 = .ok (.istore 4, 2) := by decide +kernel
theorem dX6_partOf_33 : decode cX6_partOf 33 = .ok (.iload_n 3, 1) := by decide +kernel
theorem dX6_partOf_34 : decode cX6_partOf 34 = .ok (.sipush 1800, 3) := by decide +kernel
theorem dX6_partOf_37 : decode cX6_partOf 37 = .ok (.if_icmp .lt 11, 3) := by decide +kernel
theorem dX6_partOf_40 : decode cX6_partOf 40 = .ok (.iload_n 3, 1) := by decide +kernel
theorem dX6_partOf_41 : decode cX6_partOf 41 = .ok (.sipush 1800, 3) := by decide +kernel
theorem dX6_partOf_44 : decode cX6_partOf 44 = .ok (.isub, 1) := by decide +kernel
theorem dX6_partOf_45 : decode cX6_partOf 45 = .ok (.goto 4, 3) := by decide +kernel
theorem dX6_partOf_48 : decode cX6_partOf 48 = .ok (.iload_n 3, 1) := by decide +kernel
theorem dX6_partOf_49 : decode cX6_partOf 49 = .ok (.istore_n 3, 1) := by decide +kernel
theorem dX6_partOf_50 : decode cX6_partOf 50 = .ok (.iload_n 3, 1) := by decide +kernel
theorem dX6_partOf_51 : decode cX6_partOf 51 = .ok (.i2l, 1) := by decide +kernel
theorem dX6_partOf_52 : decode cX6_partOf 52 = .ok (.sipush 1800, 3) := by decide +kernel
theorem dX6_partOf_55 : decode cX6_partOf 55 = .ok (.iload_n 3, 1) := by decide +kernel
theorem dX6_partOf_56 : decode cX6_partOf 56 = .ok (.isub, 1) := by decide +kernel
theorem dX6_partOf_57 : decode cX6_partOf 57 = .ok (.i2l, 1) := by decide +kernel
theorem dX6_partOf_58 : decode cX6_partOf 58 = .ok (.lmul, 1) := by decide +kernel
theorem dX6_partOf_59 : decode cX6_partOf 59 = .ok (.lstore 5, 2) := by decide +kernel
theorem dX6_partOf_61 : decode cX6_partOf 61 = .ok (.iload 4, 2) := by decide +kernel
theorem dX6_partOf_63 : decode cX6_partOf 63 = .ok (.ldc2_w 214, 3) := by decide +kernel
theorem dX6_partOf_66 : decode cX6_partOf 66 = .ok (.lload 5, 2) := by decide +kernel
theorem dX6_partOf_68 : decode cX6_partOf 68 = .ok (.lmul, 1) := by decide +kernel
theorem dX6_partOf_69 : decode cX6_partOf 69 = .ok (.ldc2_w 216, 3) := by decide +kernel
theorem dX6_partOf_72 : decode cX6_partOf 72 = .ok (.lload 5, 2) := by decide +kernel
theorem dX6_partOf_74 : decode cX6_partOf 74 = .ok (.lsub, 1) := by decide +kernel
theorem dX6_partOf_75 : decode cX6_partOf 75 = .ok (.ldiv, 1) := by decide +kernel
theorem dX6_partOf_76 : decode cX6_partOf 76 = .ok (.l2i, 1) := by decide +kernel
theorem dX6_partOf_77 : decode cX6_partOf 77 = .ok (.imul, 1) := by decide +kernel
theorem dX6_partOf_78 : decode cX6_partOf 78 = .ok (.ireturn, 1) := by decide +kernel
theorem dX6_heightIn_0 : decode cX6_heightIn 0 = .ok (.aload_n 0, 1) := by decide +kernel
theorem dX6_heightIn_1 : decode cX6_heightIn 1 = .ok (.getfield 17, 3) := by decide +kernel
theorem dX6_heightIn_4 : decode cX6_heightIn 4 = .ok (.iconst 0, 1) := by decide +kernel
theorem dX6_heightIn_5 : decode cX6_heightIn 5 = .ok (.iaload, 1) := by decide +kernel
theorem dX6_heightIn_6 : decode cX6_heightIn 6 = .ok (.aload_n 0, 1) := by decide +kernel
theorem dX6_heightIn_7 : decode cX6_heightIn 7 = .ok (.getfield 17, 3) := by decide +kernel
theorem dX6_heightIn_10 : decode cX6_heightIn 10 = .ok (.iconst 2, 1) := by decide +kernel
theorem dX6_heightIn_11 : decode cX6_heightIn 11 = .ok (.iaload, 1) := by decide +kernel
theorem dX6_heightIn_12 : decode cX6_heightIn 12 = .ok (.iadd, 1) := by decide +kernel
theorem dX6_heightIn_13 : decode cX6_heightIn 13 = .ok (.istore_n 2, 1) := by decide +kernel
theorem dX6_heightIn_14 : decode cX6_heightIn 14 = .ok (.iconst 0, 1) := by decide +kernel
theorem dX6_heightIn_15 : decode cX6_heightIn 15 = .ok (.istore_n 3, 1) := by decide +kernel
theorem dX6_heightIn_16 : decode cX6_heightIn 16 = .ok (.iload_n 3, 1) := by decide +kernel
theorem dX6_heightIn_17 : decode cX6_heightIn 17 = .ok (.aload_n 0, 1) := by decide +kernel
theorem dX6_heightIn_18 : decode cX6_heightIn 18 = .ok (.getfield 17, 3) := by decide +kernel
theorem dX6_heightIn_21 : decode cX6_heightIn 21 = .ok (.iconst 3, 1) := by decide +kernel
theorem dX6_heightIn_22 : decode cX6_heightIn 22 = .ok (.iaload, 1) := by decide +kernel
theorem dX6_heightIn_23 : decode cX6_heightIn 23 = .ok (.if_icmp .ge 54, 3) := by decide +kernel
theorem dX6_heightIn_26 : decode cX6_heightIn 26 = .ok (.bipush 6, 2) := by decide +kernel
theorem dX6_heightIn_28 : decode cX6_heightIn 28 = .ok (.iconst 3, 1) := by decide +kernel
theorem dX6_heightIn_29 : decode cX6_heightIn 29 = .ok (.iload_n 3, 1) := by decide +kernel
theorem dX6_heightIn_30 : decode cX6_heightIn 30 = .ok (.imul, 1) := by decide +kernel
theorem dX6_heightIn_31 : decode cX6_heightIn 31 = .ok (.iadd, 1) := by decide +kernel
theorem dX6_heightIn_32 : decode cX6_heightIn 32 = .ok (.istore 4, 2) := by decide +kernel
theorem dX6_heightIn_34 : decode cX6_heightIn 34 = .ok (.iload_n 2, 1) := by decide +kernel
theorem dX6_heightIn_35 : decode cX6_heightIn 35 = .ok (.aload_n 0, 1) := by decide +kernel
theorem dX6_heightIn_36 : decode cX6_heightIn 36 = .ok (.getfield 17, 3) := by decide +kernel
theorem dX6_heightIn_39 : decode cX6_heightIn 39 = .ok (.iload 4, 2) := by decide +kernel
theorem dX6_heightIn_41 : decode cX6_heightIn 41 = .ok (.iaload, 1) := by decide +kernel
theorem dX6_heightIn_42 : decode cX6_heightIn 42 = .ok (.iload_n 1, 1) := by decide +kernel
theorem dX6_heightIn_43 : decode cX6_heightIn 43 = .ok (.aload_n 0, 1) := by decide +kernel
theorem dX6_heightIn_44 : decode cX6_heightIn 44 = .ok (.getfield 17, 3) := by decide +kernel
theorem dX6_heightIn_47 : decode cX6_heightIn 47 = .ok (.iload 4, 2) := by decide +kernel
theorem dX6_heightIn_49 : decode cX6_heightIn 49 = .ok (.iconst 1, 1) := by decide +kernel
theorem dX6_heightIn_50 : decode cX6_heightIn 50 = .ok (.iadd, 1) := by decide +kernel
theorem dX6_heightIn_51 : decode cX6_heightIn 51 = .ok (.iaload, 1) := by decide +kernel
theorem dX6_heightIn_52 : decode cX6_heightIn 52 = .ok (.aload_n 0, 1) := by decide +kernel
theorem dX6_heightIn_53 : decode cX6_heightIn 53 = .ok (.getfield 17, 3) := by decide +kernel
theorem dX6_heightIn_56 : decode cX6_heightIn 56 = .ok (.iload 4, 2) := by decide +kernel
theorem dX6_heightIn_58 : decode cX6_heightIn 58 = .ok (.iconst 2, 1) := by decide +kernel
theorem dX6_heightIn_59 : decode cX6_heightIn 59 = .ok (.iadd, 1) := by decide +kernel
theorem dX6_heightIn_60 : decode cX6_heightIn 60 = .ok (.iaload, 1) := by decide +kernel
theorem dX6_heightIn_61 : decode cX6_heightIn 61 = .ok (.invokestatic 218, 3) := by decide +kernel
theorem dX6_heightIn_64 : decode cX6_heightIn 64 = .ok (.imul, 1) := by decide +kernel
theorem dX6_heightIn_65 : decode cX6_heightIn 65 = .ok (.sipush 1000, 3) := by decide +kernel
theorem dX6_heightIn_68 : decode cX6_heightIn 68 = .ok (.idiv, 1) := by decide +kernel
theorem dX6_heightIn_69 : decode cX6_heightIn 69 = .ok (.iadd, 1) := by decide +kernel
theorem dX6_heightIn_70 : decode cX6_heightIn 70 = .ok (.istore_n 2, 1) := by decide +kernel
theorem dX6_heightIn_71 : decode cX6_heightIn 71 = .ok (.iinc 3 1, 3) := by decide +kernel
theorem dX6_heightIn_74 : decode cX6_heightIn 74 = .ok (.goto (-58), 3) := by decide +kernel
theorem dX6_heightIn_77 : decode cX6_heightIn 77 = .ok (.iload_n 2, 1) := by decide +kernel
theorem dX6_heightIn_78 : decode cX6_heightIn 78 = .ok (.ireturn, 1) := by decide +kernel
theorem dX6_waterAt_0 : decode cX6_waterAt 0 = .ok (.aload_n 0, 1) := by decide +kernel
theorem dX6_waterAt_1 : decode cX6_waterAt 1 = .ok (.iload_n 1, 1) := by decide +kernel
theorem dX6_waterAt_2 : decode cX6_waterAt 2 = .ok (.iconst 1, 1) := by decide +kernel
theorem dX6_waterAt_3 : decode cX6_waterAt 3 = .ok (.invokevirtual 222, 3) := by decide +kernel
theorem dX6_waterAt_6 : decode cX6_waterAt 6 = .ok (.aload_n 0, 1) := by decide +kernel
theorem dX6_waterAt_7 : decode cX6_waterAt 7 = .ok (.iload_n 2, 1) := by decide +kernel
theorem dX6_waterAt_8 : decode cX6_waterAt 8 = .ok (.aload_n 0, 1) := by decide +kernel
theorem dX6_waterAt_9 : decode cX6_waterAt 9 = .ok (.iload_n 1, 1) := by decide +kernel
theorem dX6_waterAt_10 : decode cX6_waterAt 10 = .ok (.iconst 3, 1) := by decide +kernel
theorem dX6_waterAt_11 : decode cX6_waterAt 11 = .ok (.invokevirtual 222, 3) := by decide +kernel
theorem dX6_waterAt_14 : decode cX6_waterAt 14 = .ok (.isub, 1) := by decide +kernel
theorem dX6_waterAt_15 : decode cX6_waterAt 15 = .ok (.invokevirtual 225, 3) := by decide +kernel
theorem dX6_waterAt_18 : decode cX6_waterAt 18 = .ok (.aload_n 0, 1) := by decide +kernel
theorem dX6_waterAt_19 : decode cX6_waterAt 19 = .ok (.iload_n 1, 1) := by decide +kernel
theorem dX6_waterAt_20 : decode cX6_waterAt 20 = .ok (.iconst 4, 1) := by decide +kernel
theorem dX6_waterAt_21 : decode cX6_waterAt 21 = .ok (.invokevirtual 222, 3) := by decide +kernel
theorem dX6_waterAt_24 : decode cX6_waterAt 24 = .ok (.imul, 1) := by decide +kernel
theorem dX6_waterAt_25 : decode cX6_waterAt 25 = .ok (.bipush 100, 2) := by decide +kernel
theorem dX6_waterAt_27 : decode cX6_waterAt 27 = .ok (.idiv, 1) := by decide +kernel
theorem dX6_waterAt_28 : decode cX6_waterAt 28 = .ok (.iadd, 1) := by decide +kernel
theorem dX6_waterAt_29 : decode cX6_waterAt 29 = .ok (.ireturn, 1) := by decide +kernel
theorem dX6_held_0 : decode cX6_held 0 = .ok (.ldc2_w 229, 3) := by decide +kernel
theorem dX6_held_3 : decode cX6_held 3 = .ok (.ldc2_w 231, 3) := by decide +kernel
theorem dX6_held_6 : decode cX6_held 6 = .ok (.lload_n 0, 1) := by decide +kernel
theorem dX6_held_7 : decode cX6_held 7 = .ok (.invokestatic 233, 3) := by decide +kernel
theorem dX6_held_10 : decode cX6_held 10 = .ok (.invokestatic 235, 3) := by decide +kernel
theorem dX6_held_13 : decode cX6_held 13 = .ok (.lreturn, 1) := by decide +kernel
theorem dX6_joined0_0 : decode cX6_joined0 0 = .ok (.iload_n 0, 1) := by decide +kernel
theorem dX6_joined0_1 : decode cX6_joined0 1 = .ok (.bipush (-11), 2) := by decide +kernel
theorem dX6_joined0_3 : decode cX6_joined0 3 = .ok (.if_icmp .ne 10, 3) := by decide +kernel
theorem dX6_joined0_6 : decode cX6_joined0 6 = .ok (.lload_n 1, 1) := by decide +kernel
theorem dX6_joined0_7 : decode cX6_joined0 7 = .ok (.lload_n 3, 1) := by decide +kernel
theorem dX6_joined0_8 : decode cX6_joined0 8 = .ok (.ladd, 1) := by decide +kernel
theorem dX6_joined0_9 : decode cX6_joined0 9 = .ok (.invokestatic 237, 3) := by decide +kernel
theorem dX6_joined0_12 : decode cX6_joined0 12 = .ok (.lreturn, 1) := by decide +kernel
theorem dX6_joined0_13 : decode cX6_joined0 13 = .ok (.iload_n 0, 1) := by decide +kernel
theorem dX6_joined0_14 : decode cX6_joined0 14 = .ok (.bipush (-12), 2) := by decide +kernel
theorem dX6_joined0_16 : decode cX6_joined0 16 = .ok (.if_icmp .ne 10, 3) := by decide +kernel
theorem dX6_joined0_19 : decode cX6_joined0 19 = .ok (.lload_n 1, 1) := by decide +kernel
theorem dX6_joined0_20 : decode cX6_joined0 20 = .ok (.lload_n 3, 1) := by decide +kernel
theorem dX6_joined0_21 : decode cX6_joined0 21 = .ok (.lsub, 1) := by decide +kernel
theorem dX6_joined0_22 : decode cX6_joined0 22 = .ok (.invokestatic 237, 3) := by decide +kernel
theorem dX6_joined0_25 : decode cX6_joined0 25 = .ok (.lreturn, 1) := by decide +kernel
theorem dX6_joined0_26 : decode cX6_joined0 26 = .ok (.iload_n 0, 1) := by decide +kernel
theorem dX6_joined0_27 : decode cX6_joined0 27 = .ok (.bipush (-13), 2) := by decide +kernel
theorem dX6_joined0_29 : decode cX6_joined0 29 = .ok (.if_icmp .ne 10, 3) := by decide +kernel
theorem dX6_joined0_32 : decode cX6_joined0 32 = .ok (.lload_n 1, 1) := by decide +kernel
theorem dX6_joined0_33 : decode cX6_joined0 33 = .ok (.lload_n 3, 1) := by decide +kernel
theorem dX6_joined0_34 : decode cX6_joined0 34 = .ok (.lmul, 1) := by decide +kernel
theorem dX6_joined0_35 : decode cX6_joined0 35 = .ok (.invokestatic 237, 3) := by decide +kernel
theorem dX6_joined0_38 : decode cX6_joined0 38 = .ok (.lreturn, 1) := by decide +kernel
theorem dX6_joined0_39 : decode cX6_joined0 39 = .ok (.lload_n 3, 1) := by decide +kernel
theorem dX6_joined0_40 : decode cX6_joined0 40 = .ok (.lconst 0, 1) := by decide +kernel
theorem dX6_joined0_41 : decode cX6_joined0 41 = .ok (.lcmp, 1) := by decide +kernel
theorem dX6_joined0_42 : decode cX6_joined0 42 = .ok (.ifCond .ne 7, 3) := by decide +kernel
theorem dX6_joined0_45 : decode cX6_joined0 45 = .ok (.lconst 0, 1) := by decide +kernel
theorem dX6_joined0_46 : decode cX6_joined0 46 = .ok (.goto 9, 3) := by decide +kernel
theorem dX6_joined0_49 : decode cX6_joined0 49 = .ok (.lload_n 1, 1) := by decide +kernel
theorem dX6_joined0_50 : decode cX6_joined0 50 = .ok (.lload_n 3, 1) := by decide +kernel
theorem dX6_joined0_51 : decode cX6_joined0 51 = .ok (.ldiv, 1) := by decide +kernel
theorem dX6_joined0_52 : decode cX6_joined0 52 = .ok (.invokestatic 237, 3) := by decide +kernel
theorem dX6_joined0_55 : decode cX6_joined0 55 = .ok (.lreturn, 1) := by decide +kernel
theorem dX6_sinks_0 : decode cX6_sinks 0 = .ok (.aload_n 0, 1) := by decide +kernel
theorem dX6_sinks_1 : decode cX6_sinks 1 = .ok (.getfield 17, 3) := by decide +kernel
theorem dX6_sinks_4 : decode cX6_sinks 4 = .ok (.bipush 108, 2) := by decide +kernel
theorem dX6_sinks_6 : decode cX6_sinks 6 = .ok (.iaload, 1) := by decide +kernel
theorem dX6_sinks_7 : decode cX6_sinks 7 = .ok (.ifCond .ne 19, 3) := by decide +kernel
theorem dX6_sinks_10 : decode cX6_sinks 10 = .ok (.aload_n 0, 1) := by decide +kernel
theorem dX6_sinks_11 : decode cX6_sinks 11 = .ok (.iload_n 1, 1) := by decide +kernel
theorem dX6_sinks_12 : decode cX6_sinks 12 = .ok (.iconst 1, 1) := by decide +kernel
theorem dX6_sinks_13 : decode cX6_sinks 13 = .ok (.invokevirtual 241, 3) := by decide +kernel
theorem dX6_sinks_16 : decode cX6_sinks 16 = .ok (.iload 4, 2) := by decide +kernel
theorem dX6_sinks_18 : decode cX6_sinks 18 = .ok (.imul, 1) := by decide +kernel
theorem dX6_sinks_19 : decode cX6_sinks 19 = .ok (.iload 4, 2) := by decide +kernel
theorem dX6_sinks_21 : decode cX6_sinks 21 = .ok (.imul, 1) := by decide +kernel
theorem dX6_sinks_22 : decode cX6_sinks 22 = .ok (.bipush 100, 2) := by decide +kernel
theorem dX6_sinks_24 : decode cX6_sinks 24 = .ok (.idiv, 1) := by decide +kernel
theorem dX6_sinks_25 : decode cX6_sinks 25 = .ok (.ireturn, 1) := by decide +kernel
theorem dX6_sinks_26 : decode cX6_sinks 26 = .ok (.iconst 0, 1) := by decide +kernel
theorem dX6_sinks_27 : decode cX6_sinks 27 = .ok (.istore 5, 2) := by decide +kernel
theorem dX6_sinks_29 : decode cX6_sinks 29 = .ok (.iconst 0, 1) := by decide +kernel
theorem dX6_sinks_30 : decode cX6_sinks 30 = .ok (.istore 6, 2) := by decide +kernel
theorem dX6_sinks_32 : decode cX6_sinks 32 = .ok (.iload 6, 2) := by decide +kernel
theorem dX6_sinks_34 : decode cX6_sinks 34 = .ok (.aload_n 0, 1) := by decide +kernel
theorem dX6_sinks_35 : decode cX6_sinks 35 = .ok (.getfield 17, 3) := by decide +kernel
theorem dX6_sinks_38 : decode cX6_sinks 38 = .ok (.bipush 108, 2) := by decide +kernel
theorem dX6_sinks_40 : decode cX6_sinks 40 = .ok (.iaload, 1) := by decide +kernel
theorem dX6_sinks_41 : decode cX6_sinks 41 = .ok (.if_icmp .ge 128, 3) := by decide +kernel
theorem dX6_sinks_44 : decode cX6_sinks 44 = .ok (.aload_n 0, 1) := by decide +kernel
theorem dX6_sinks_45 : decode cX6_sinks 45 = .ok (.getfield 17, 3) := by decide +kernel
theorem dX6_sinks_48 : decode cX6_sinks 48 = .ok (.bipush 109, 2) := by decide +kernel
theorem dX6_sinks_50 : decode cX6_sinks 50 = .ok (.iload 6, 2) := by decide +kernel
theorem dX6_sinks_52 : decode cX6_sinks 52 = .ok (.iadd, 1) := by decide +kernel
theorem dX6_sinks_53 : decode cX6_sinks 53 = .ok (.iaload, 1) := by decide +kernel
theorem dX6_sinks_54 : decode cX6_sinks 54 = .ok (.istore 7, 2) := by decide +kernel
theorem dX6_sinks_56 : decode cX6_sinks 56 = .ok (.iload 7, 2) := by decide +kernel
theorem dX6_sinks_58 : decode cX6_sinks 58 = .ok (.bipush (-11), 2) := by decide +kernel
theorem dX6_sinks_60 : decode cX6_sinks 60 = .ok (.if_icmp .gt 39, 3) := by decide +kernel
theorem dX6_sinks_63 : decode cX6_sinks 63 = .ok (.iinc 5 (-1), 3) := by decide +kernel
theorem dX6_sinks_66 : decode cX6_sinks 66 = .ok (.aload_n 0, 1) := by decide +kernel
theorem dX6_sinks_67 : decode cX6_sinks 67 = .ok (.getfield 36, 3) := by decide +kernel
theorem dX6_sinks_70 : decode cX6_sinks 70 = .ok (.iload 5, 2) := by decide +kernel
theorem dX6_sinks_72 : decode cX6_sinks 72 = .ok (.iconst 1, 1) := by decide +kernel
theorem dX6_sinks_73 : decode cX6_sinks 73 = .ok (.isub, 1) := by decide +kernel
theorem dX6_sinks_74 : decode cX6_sinks 74 = .ok (.iload 7, 2) := by decide +kernel
theorem dX6_sinks_76 : decode cX6_sinks 76 = .ok (.aload_n 0, 1) := by decide +kernel
theorem dX6_sinks_77 : decode cX6_sinks 77 = .ok (.getfield 36, 3) := by decide +kernel
theorem dX6_sinks_80 : decode cX6_sinks 80 = .ok (.iload 5, 2) := by decide +kernel
theorem dX6_sinks_82 : decode cX6_sinks 82 = .ok (.iconst 1, 1) := by decide +kernel
theorem dX6_sinks_83 : decode cX6_sinks 83 = .ok (.isub, 1) := by decide +kernel
theorem dX6_sinks_84 : decode cX6_sinks 84 = .ok (.laload, 1) := by decide +kernel
theorem dX6_sinks_85 : decode cX6_sinks 85 = .ok (.aload_n 0, 1) := by decide +kernel
theorem dX6_sinks_86 : decode cX6_sinks 86 = .ok (.getfield 36, 3) := by decide +kernel
theorem dX6_sinks_89 : decode cX6_sinks 89 = .ok (.iload 5, 2) := by decide +kernel
theorem dX6_sinks_91 : decode cX6_sinks 91 = .ok (.laload, 1) := by decide +kernel
theorem dX6_sinks_92 : decode cX6_sinks 92 = .ok (.invokestatic 244, 3) := by decide +kernel
theorem dX6_sinks_95 : decode cX6_sinks 95 = .ok (.lastore, 1) := by decide +kernel
theorem dX6_sinks_96 : decode cX6_sinks 96 = .ok (.goto 67, 3) := by decide +kernel
theorem dX6_sinks_99 : decode cX6_sinks 99 = .ok (.aload_n 0, 1) := by decide +kernel
theorem dX6_sinks_100 : decode cX6_sinks 100 = .ok (.getfield 36, 3) := by decide +kernel
theorem dX6_sinks_103 : decode cX6_sinks 103 = .ok (.iload 5, 2) := by decide +kernel
theorem dX6_sinks_105 : decode cX6_sinks 105 = .ok (.iload 7, 2) := by decide +kernel
theorem dX6_sinks_107 : decode cX6_sinks 107 = .ok (.ifCond .lt 9, 3) := by decide +kernel
theorem dX6_sinks_110 : decode cX6_sinks 110 = .ok (.iload 7, 2) := by decide +kernel
theorem dX6_sinks_112 : decode cX6_sinks 112 = .ok (.i2l, 1) := by decide +kernel
theorem dX6_sinks_113 : decode cX6_sinks 113 = .ok (.goto 46, 3) := by decide +kernel
theorem dX6_sinks_116 : decode cX6_sinks 116 = .ok (.iload 7, 2) := by decide +kernel
theorem dX6_sinks_118 : decode cX6_sinks 118 = .ok (.iconst (-1), 1) := by decide +kernel
theorem dX6_sinks_119 : decode cX6_sinks 119 = .ok (.if_icmp .ne 9, 3) := by decide +kernel
theorem dX6_sinks_122 : decode cX6_sinks 122 = .ok (.iload 4, 2) := by decide +kernel
theorem dX6_sinks_124 : decode cX6_sinks 124 = .ok (.i2l, 1) := by decide +kernel
theorem dX6_sinks_125 : decode cX6_sinks 125 = .ok (.goto 34, 3) := by decide +kernel
theorem dX6_sinks_128 : decode cX6_sinks 128 = .ok (.iload 7, 2) := by decide +kernel
theorem dX6_sinks_130 : decode cX6_sinks 130 = .ok (.bipush (-2), 2) := by decide +kernel
theorem dX6_sinks_132 : decode cX6_sinks 132 = .ok (.if_icmp .ne 13, 3) := by decide +kernel
theorem dX6_sinks_135 : decode cX6_sinks 135 = .ok (.aload_n 0, 1) := by decide +kernel
theorem dX6_sinks_136 : decode cX6_sinks 136 = .ok (.iload_n 1, 1) := by decide +kernel
theorem dX6_sinks_137 : decode cX6_sinks 137 = .ok (.iconst 1, 1) := by decide +kernel
theorem dX6_sinks_138 : decode cX6_sinks 138 = .ok (.invokevirtual 241, 3) := by decide +kernel
theorem dX6_sinks_141 : decode cX6_sinks 141 = .ok (.i2l, 1) := by decide +kernel
theorem dX6_sinks_142 : decode cX6_sinks 142 = .ok (.goto 17, 3) := by decide +kernel
theorem dX6_sinks_145 : decode cX6_sinks 145 = .ok (.iload 7, 2) := by decide +kernel
theorem dX6_sinks_147 : decode cX6_sinks 147 = .ok (.bipush (-3), 2) := by decide +kernel
theorem dX6_sinks_149 : decode cX6_sinks 149 = .ok (.if_icmp .ne 8, 3) := by decide +kernel
theorem dX6_sinks_152 : decode cX6_sinks 152 = .ok (.iload_n 2, 1) := by decide +kernel
theorem dX6_sinks_153 : decode cX6_sinks 153 = .ok (.i2l, 1) := by decide +kernel
theorem dX6_sinks_154 : decode cX6_sinks 154 = .ok (.goto 5, 3) := by decide +kernel
theorem dX6_sinks_157 : decode cX6_sinks 157 = .ok (.iload_n 3, 1) := by decide +kernel
theorem dX6_sinks_158 : decode cX6_sinks 158 = .ok (.i2l, 1) := by decide +kernel
theorem dX6_sinks_159 : decode cX6_sinks 159 = .ok (.lastore, 1) := by decide +kernel
theorem dX6_sinks_160 : decode cX6_sinks 160 = .ok (.iinc 5 1, 3) := by decide +kernel
theorem dX6_sinks_163 : decode cX6_sinks 163 = .ok (.iinc 6 1, 3) := by decide +kernel
theorem dX6_sinks_166 : decode cX6_sinks 166 = .ok (.goto (-134), 3) := by decide +kernel
theorem dX6_sinks_169 : decode cX6_sinks 169 = .ok (.lconst 0, 1) := by decide +kernel
theorem dX6_sinks_170 : decode cX6_sinks 170 = .ok (.ldc2_w 248, 3) := by decide +kernel
theorem dX6_sinks_173 : decode cX6_sinks 173 = .ok (.aload_n 0, 1) := by decide +kernel
theorem dX6_sinks_174 : decode cX6_sinks 174 = .ok (.getfield 36, 3) := by decide +kernel
theorem dX6_sinks_177 : decode cX6_sinks 177 = .ok (.iconst 0, 1) := by decide +kernel
theorem dX6_sinks_178 : decode cX6_sinks 178 = .ok (.laload, 1) := by decide +kernel
theorem dX6_sinks_179 : decode cX6_sinks 179 = .ok (.invokestatic 233, 3) := by decide +kernel
theorem dX6_sinks_182 : decode cX6_sinks 182 = .ok (.invokestatic 235, 3) := by decide +kernel
theorem dX6_sinks_185 : decode cX6_sinks 185 = .ok (.l2i, 1) := by decide +kernel
theorem dX6_sinks_186 : decode cX6_sinks 186 = .ok (.ireturn, 1) := by decide +kernel
theorem dX6_leftBy_0 : decode cX6_leftBy 0 = .ok (.aload_n 0, 1) := by decide +kernel
theorem dX6_leftBy_1 : decode cX6_leftBy 1 = .ok (.iload_n 3, 1) := by decide +kernel
theorem dX6_leftBy_2 : decode cX6_leftBy 2 = .ok (.iload 4, 2) := by decide +kernel
theorem dX6_leftBy_4 : decode cX6_leftBy 4 = .ok (.invokevirtual 250, 3) := by decide +kernel
theorem dX6_leftBy_7 : decode cX6_leftBy 7 = .ok (.istore 6, 2) := by decide +kernel
theorem dX6_leftBy_9 : decode cX6_leftBy 9 = .ok (.iload 6, 2) := by decide +kernel
theorem dX6_leftBy_11 : decode cX6_leftBy 11 = .ok (.iload_n 2, 1) := by decide +kernel
theorem dX6_leftBy_12 : decode cX6_leftBy 12 = .ok (.isub, 1) := by decide +kernel
theorem dX6_leftBy_13 : decode cX6_leftBy 13 = .ok (.aload_n 0, 1) := by decide +kernel
theorem dX6_leftBy_14 : decode cX6_leftBy 14 = .ok (.iload_n 1, 1) := by decide +kernel
theorem dX6_leftBy_15 : decode cX6_leftBy 15 = .ok (.iload_n 2, 1) := by decide +kernel
theorem dX6_leftBy_16 : decode cX6_leftBy 16 = .ok (.iload 6, 2) := by decide +kernel
theorem dX6_leftBy_18 : decode cX6_leftBy 18 = .ok (.iload 5, 2) := by decide +kernel
theorem dX6_leftBy_20 : decode cX6_leftBy 20 = .ok (.invokevirtual 253, 3) := by decide +kernel
theorem dX6_leftBy_23 : decode cX6_leftBy 23 = .ok (.isub, 1) := by decide +kernel
theorem dX6_leftBy_24 : decode cX6_leftBy 24 = .ok (.ireturn, 1) := by decide +kernel
theorem dX6_isClear_0 : decode cX6_isClear 0 = .ok (.aload_n 0, 1) := by decide +kernel
theorem dX6_isClear_1 : decode cX6_isClear 1 = .ok (.iload_n 1, 1) := by decide +kernel
theorem dX6_isClear_2 : decode cX6_isClear 2 = .ok (.iload_n 2, 1) := by decide +kernel
theorem dX6_isClear_3 : decode cX6_isClear 3 = .ok (.iload_n 3, 1) := by decide +kernel
theorem dX6_isClear_4 : decode cX6_isClear 4 = .ok (.iload 4, 2) := by decide +kernel
theorem dX6_isClear_6 : decode cX6_isClear 6 = .ok (.iload 5, 2) := by decide +kernel
theorem dX6_isClear_8 : decode cX6_isClear 8 = .ok (.invokevirtual 257, 3) := by decide +kernel
theorem dX6_isClear_11 : decode cX6_isClear 11 = .ok (.aload_n 0, 1) := by decide +kernel
theorem dX6_isClear_12 : decode cX6_isClear 12 = .ok (.iload_n 1, 1) := by decide +kernel
theorem dX6_isClear_13 : decode cX6_isClear 13 = .ok (.iconst 2, 1) := by decide +kernel
theorem dX6_isClear_14 : decode cX6_isClear 14 = .ok (.invokevirtual 241, 3) := by decide +kernel
theorem dX6_isClear_17 : decode cX6_isClear 17 = .ok (.if_icmp .lt 7, 3) := by decide +kernel
theorem dX6_isClear_20 : decode cX6_isClear 20 = .ok (.iconst 1, 1) := by decide +kernel
theorem dX6_isClear_21 : decode cX6_isClear 21 = .ok (.goto 4, 3) := by decide +kernel
theorem dX6_isClear_24 : decode cX6_isClear 24 = .ok (.iconst 0, 1) := by decide +kernel
theorem dX6_isClear_25 : decode cX6_isClear 25 = .ok (.ireturn, 1) := by decide +kernel
theorem dX6_takes_0 : decode cX6_takes 0 = .ok (.bipush 6, 2) := by decide +kernel
theorem dX6_takes_2 : decode cX6_takes 2 = .ok (.iload_n 0, 1) := by decide +kernel
theorem dX6_takes_3 : decode cX6_takes 3 = .ok (.imul, 1) := by decide +kernel
theorem dX6_takes_4 : decode cX6_takes 4 = .ok (.iload_n 1, 1) := by decide +kernel
theorem dX6_takes_5 : decode cX6_takes 5 = .ok (.iadd, 1) := by decide +kernel
theorem dX6_takes_6 : decode cX6_takes 6 = .ok (.iconst 1, 1) := by decide +kernel
theorem dX6_takes_7 : decode cX6_takes 7 = .ok (.isub, 1) := by decide +kernel
theorem dX6_takes_8 : decode cX6_takes 8 = .ok (.iload_n 1, 1) := by decide +kernel
theorem dX6_takes_9 : decode cX6_takes 9 = .ok (.idiv, 1) := by decide +kernel
theorem dX6_takes_10 : decode cX6_takes 10 = .ok (.ireturn, 1) := by decide +kernel
theorem dX6_canPass_0 : decode cX6_canPass 0 = .ok (.iconst 0, 1) := by decide +kernel
theorem dX6_canPass_1 : decode cX6_canPass 1 = .ok (.istore 6, 2) := by decide +kernel
theorem dX6_canPass_3 : decode cX6_canPass 3 = .ok (.iload 6, 2) := by decide +kernel
theorem dX6_canPass_5 : decode cX6_canPass 5 = .ok (.aload_n 0, 1) := by decide +kernel
theorem dX6_canPass_6 : decode cX6_canPass 6 = .ok (.iload_n 3, 1) := by decide +kernel
theorem dX6_canPass_7 : decode cX6_canPass 7 = .ok (.iconst 2, 1) := by decide +kernel
theorem dX6_canPass_8 : decode cX6_canPass 8 = .ok (.invokevirtual 222, 3) := by decide +kernel
theorem dX6_canPass_11 : decode cX6_canPass 11 = .ok (.iload 5, 2) := by decide +kernel
theorem dX6_canPass_13 : decode cX6_canPass 13 = .ok (.invokestatic 261, 3) := by decide +kernel
theorem dX6_canPass_16 : decode cX6_canPass 16 = .ok (.if_icmp .gt 28, 3) := by decide +kernel
theorem dX6_canPass_19 : decode cX6_canPass 19 = .ok (.aload_n 0, 1) := by decide +kernel
theorem dX6_canPass_20 : decode cX6_canPass 20 = .ok (.iload_n 1, 1) := by decide +kernel
theorem dX6_canPass_21 : decode cX6_canPass 21 = .ok (.iload_n 2, 1) := by decide +kernel
theorem dX6_canPass_22 : decode cX6_canPass 22 = .ok (.iload_n 3, 1) := by decide +kernel
theorem dX6_canPass_23 : decode cX6_canPass 23 = .ok (.iload 4, 2) := by decide +kernel
theorem dX6_canPass_25 : decode cX6_canPass 25 = .ok (.iload 6, 2) := by decide +kernel
theorem dX6_canPass_27 : decode cX6_canPass 27 = .ok (.iadd, 1) := by decide +kernel
theorem dX6_canPass_28 : decode cX6_canPass 28 = .ok (.iload 5, 2) := by decide +kernel
theorem dX6_canPass_30 : decode cX6_canPass 30 = .ok (.invokevirtual 264, 3) := by decide +kernel
theorem dX6_canPass_33 : decode cX6_canPass 33 = .ok (.ifCond .ne 5, 3) := by decide +kernel
theorem dX6_canPass_36 : decode cX6_canPass 36 = .ok (.iconst 0, 1) := by decide +kernel
theorem dX6_canPass_37 : decode cX6_canPass 37 = .ok (.ireturn, 1) := by decide +kernel
theorem dX6_canPass_38 : decode cX6_canPass 38 = .ok (.iinc 6 1, 3) := by decide +kernel
theorem dX6_canPass_41 : decode cX6_canPass 41 = .ok (.goto (-38), 3) := by decide +kernel
theorem dX6_canPass_44 : decode cX6_canPass 44 = .ok (.iconst 1, 1) := by decide +kernel
theorem dX6_canPass_45 : decode cX6_canPass 45 = .ok (.ireturn, 1) := by decide +kernel
theorem dX6_barOn_0 : decode cX6_barOn 0 = .ok (.aload_n 0, 1) := by decide +kernel
theorem dX6_barOn_1 : decode cX6_barOn 1 = .ok (.iload_n 1, 1) := by decide +kernel
theorem dX6_barOn_2 : decode cX6_barOn 2 = .ok (.iconst 5, 1) := by decide +kernel
theorem dX6_barOn_3 : decode cX6_barOn 3 = .ok (.invokevirtual 241, 3) := by decide +kernel
theorem dX6_barOn_6 : decode cX6_barOn 6 = .ok (.iconst 1, 1) := by decide +kernel
theorem dX6_barOn_7 : decode cX6_barOn 7 = .ok (.if_icmp .ne 16, 3) := by decide +kernel
theorem dX6_barOn_10 : decode cX6_barOn 10 = .ok (.aload_n 0, 1) := by decide +kernel
theorem dX6_barOn_11 : decode cX6_barOn 11 = .ok (.getfield 17, 3) := by decide +kernel
theorem dX6_barOn_14 : decode cX6_barOn 14 = .ok (.iconst 4, 1) := by decide +kernel
theorem dX6_barOn_15 : decode cX6_barOn 15 = .ok (.iaload, 1) := by decide +kernel
theorem dX6_barOn_16 : decode cX6_barOn 16 = .ok (.iconst 1, 1) := by decide +kernel
theorem dX6_barOn_17 : decode cX6_barOn 17 = .ok (.isub, 1) := by decide +kernel
theorem dX6_barOn_18 : decode cX6_barOn 18 = .ok (.iload_n 2, 1) := by decide +kernel
theorem dX6_barOn_19 : decode cX6_barOn 19 = .ok (.isub, 1) := by decide +kernel
theorem dX6_barOn_20 : decode cX6_barOn 20 = .ok (.goto 4, 3) := by decide +kernel
theorem dX6_barOn_23 : decode cX6_barOn 23 = .ok (.iload_n 2, 1) := by decide +kernel
theorem dX6_barOn_24 : decode cX6_barOn 24 = .ok (.ireturn, 1) := by decide +kernel
theorem dX6_farOn_0 : decode cX6_farOn 0 = .ok (.aload_n 0, 1) := by decide +kernel
theorem dX6_farOn_1 : decode cX6_farOn 1 = .ok (.iload_n 1, 1) := by decide +kernel
theorem dX6_farOn_2 : decode cX6_farOn 2 = .ok (.iconst 5, 1) := by decide +kernel
theorem dX6_farOn_3 : decode cX6_farOn 3 = .ok (.invokevirtual 241, 3) := by decide +kernel
theorem dX6_farOn_6 : decode cX6_farOn 6 = .ok (.ifCond .ne 10, 3) := by decide +kernel
theorem dX6_farOn_9 : decode cX6_farOn 9 = .ok (.aload_n 0, 1) := by decide +kernel
theorem dX6_farOn_10 : decode cX6_farOn 10 = .ok (.iload_n 2, 1) := by decide +kernel
theorem dX6_farOn_11 : decode cX6_farOn 11 = .ok (.iconst 0, 1) := by decide +kernel
theorem dX6_farOn_12 : decode cX6_farOn 12 = .ok (.invokevirtual 222, 3) := by decide +kernel
theorem dX6_farOn_15 : decode cX6_farOn 15 = .ok (.ireturn, 1) := by decide +kernel
theorem dX6_farOn_16 : decode cX6_farOn 16 = .ok (.iload_n 2, 1) := by decide +kernel
theorem dX6_farOn_17 : decode cX6_farOn 17 = .ok (.ifCond .ne 7, 3) := by decide +kernel
theorem dX6_farOn_20 : decode cX6_farOn 20 = .ok (.iconst 0, 1) := by decide +kernel
theorem dX6_farOn_21 : decode cX6_farOn 21 = .ok (.goto 16, 3) := by decide +kernel
theorem dX6_farOn_24 : decode cX6_farOn 24 = .ok (.aload_n 0, 1) := by decide +kernel
theorem dX6_farOn_25 : decode cX6_farOn 25 = .ok (.aload_n 0, 1) := by decide +kernel
theorem dX6_farOn_26 : decode cX6_farOn 26 = .ok (.getfield 17, 3) := by decide +kernel
theorem dX6_farOn_29 : decode cX6_farOn 29 = .ok (.iconst 4, 1) := by decide +kernel
theorem dX6_farOn_30 : decode cX6_farOn 30 = .ok (.iaload, 1) := by decide +kernel
theorem dX6_farOn_31 : decode cX6_farOn 31 = .ok (.iload_n 2, 1) := by decide +kernel
