theorem dX2_init_0 : decode cX2_init 0 = .ok (.aload_n 0, 1) := by decide +kernel
theorem dX2_init_1 : decode cX2_init 1 = .ok (.invokespecial 3, 3) := by decide +kernel
theorem dX2_init_4 : decode cX2_init 4 = .ok (.aload_n 0, 1) := by decide +kernel
theorem dX2_init_5 : decode cX2_init 5 = .ok (.bipush 16, 2) := by decide +kernel
theorem dX2_init_7 : decode cX2_init 7 = .ok (.newarray .long, 2) := by decide +kernel
theorem dX2_init_9 : decode cX2_init 9 = .ok (.putfield 11, 3) := by decide +kernel
theorem dX2_init_12 : decode cX2_init 12 = .ok (.aload_n 0, 1) := by decide +kernel
theorem dX2_init_13 : decode cX2_init 13 = .ok (.sipush 2670, 3) := by decide +kernel
theorem dX2_init_16 : decode cX2_init 16 = .ok (.newarray .int, 2) := by decide +kernel
theorem dX2_init_18 : decode cX2_init 18 = .ok (.putfield 15, 3) := by decide +kernel
theorem dX2_init_21 : decode cX2_init 21 = .ok (.aload_n 0, 1) := by decide +kernel
theorem dX2_init_22 : decode cX2_init 22 = .ok (.sipush 2670, 3) := by decide +kernel
theorem dX2_init_25 : decode cX2_init 25 = .ok (.newarray .int, 2) := by decide +kernel
theorem dX2_init_27 : decode cX2_init 27 = .ok (.putfield 19, 3) := by decide +kernel
theorem dX2_init_30 : decode cX2_init 30 = .ok (.aload_n 0, 1) := by decide +kernel
theorem dX2_init_31 : decode cX2_init 31 = .ok (.sipush 2640, 3) := by decide +kernel
theorem dX2_init_34 : decode cX2_init 34 = .ok (.newarray .int, 2) := by decide +kernel
theorem dX2_init_36 : decode cX2_init 36 = .ok (.putfield 22, 3) := by decide +kernel
theorem dX2_init_39 : decode cX2_init 39 = .ok (.aload_n 0, 1) := by decide +kernel
theorem dX2_init_40 : decode cX2_init 40 = .ok (.sipush 1001, 3) := by decide +kernel
theorem dX2_init_43 : decode cX2_init 43 = .ok (.newarray .byte, 2) := by decide +kernel
theorem dX2_init_45 : decode cX2_init 45 = .ok (.putfield 25, 3) := by decide +kernel
theorem dX2_init_48 : decode cX2_init 48 = .ok (.aload_n 0, 1) := by decide +kernel
theorem dX2_init_49 : decode cX2_init 49 = .ok (.sipush 1001, 3) := by decide +kernel
theorem dX2_init_52 : decode cX2_init 52 = .ok (.newarray .byte, 2) := by decide +kernel
theorem dX2_init_54 : decode cX2_init 54 = .ok (.putfield 29, 3) := by decide +kernel
theorem dX2_init_57 : decode cX2_init 57 = .ok (.aload_n 0, 1) := by decide +kernel
theorem dX2_init_58 : decode cX2_init 58 = .ok (.bipush 6, 2) := by decide +kernel
theorem dX2_init_60 : decode cX2_init 60 = .ok (.newarray .int, 2) := by decide +kernel
theorem dX2_init_62 : decode cX2_init 62 = .ok (.putfield 32, 3) := by decide +kernel
theorem dX2_init_65 : decode cX2_init 65 = .ok (.aload_n 0, 1) := by decide +kernel
theorem dX2_init_66 : decode cX2_init 66 = .ok (.aload_n 1, 1) := by decide +kernel
theorem dX2_init_67 : decode cX2_init 67 = .ok (.putfield 35, 3) := by decide +kernel
theorem dX2_init_70 : decode cX2_init 70 = .ok (.aload_n 0, 1) := by decide +kernel
theorem dX2_init_71 : decode cX2_init 71 = .ok (.aload_n 2, 1) := by decide +kernel
theorem dX2_init_72 : decode cX2_init 72 = .ok (.putfield 39, 3) := by decide +kernel
theorem dX2_init_75 : decode cX2_init 75 = .ok (.return_, 1) := by decide +kernel
theorem dX2_sinks_0 : decode cX2_sinks 0 = .ok (.aload_n 0, 1) := by decide +kernel
theorem dX2_sinks_1 : decode cX2_sinks 1 = .ok (.getfield 35, 3) := by decide +kernel
theorem dX2_sinks_4 : decode cX2_sinks 4 = .ok (.iload_n 1, 1) := by decide +kernel
theorem dX2_sinks_5 : decode cX2_sinks 5 = .ok (.iconst 1, 1) := by decide +kernel
theorem dX2_sinks_6 : decode cX2_sinks 6 = .ok (.invokevirtual 43, 3) := by decide +kernel
theorem dX2_sinks_9 : decode cX2_sinks 9 = .ok (.istore 5, 2) := by decide +kernel
theorem dX2_sinks_11 : decode cX2_sinks 11 = .ok (.aload_n 0, 1) := by decide +kernel
theorem dX2_sinks_12 : decode cX2_sinks 12 = .ok (.getfield 35, 3) := by decide +kernel
theorem dX2_sinks_15 : decode cX2_sinks 15 = .ok (.getfield 49, 3) := by decide +kernel
theorem dX2_sinks_18 : decode cX2_sinks 18 = .ok (.arraylength, 1) := by decide +kernel
theorem dX2_sinks_19 : decode cX2_sinks 19 = .ok (.ifCond .ne 13, 3) := by decide +kernel
theorem dX2_sinks_22 : decode cX2_sinks 22 = .ok (.iload 5, 2) := by decide +kernel
theorem dX2_sinks_24 : decode cX2_sinks 24 = .ok (.iload_n 2, 1) := by decide +kernel
theorem dX2_sinks_25 : decode cX2_sinks 25 = .ok (.imul, 1) := by decide +kernel
theorem dX2_sinks_26 : decode cX2_sinks 26 = .ok (.iload_n 2, 1) := by decide +kernel
theorem dX2_sinks_27 : decode cX2_sinks 27 = .ok (.imul, 1) := by decide +kernel
theorem dX2_sinks_28 : decode cX2_sinks 28 = .ok (.bipush 100, 2) := by decide +kernel
theorem dX2_sinks_30 : decode cX2_sinks 30 = .ok (.idiv, 1) := by decide +kernel
theorem dX2_sinks_31 : decode cX2_sinks 31 = .ok (.ireturn, 1) := by decide +kernel
theorem dX2_sinks_32 : decode cX2_sinks 32 = .ok (.iconst 0, 1) := by decide +kernel
theorem dX2_sinks_33 : decode cX2_sinks 33 = .ok (.istore 6, 2) := by decide +kernel
theorem dX2_sinks_35 : decode cX2_sinks 35 = .ok (.iconst 0, 1) := by decide +kernel
theorem dX2_sinks_36 : decode cX2_sinks 36 = .ok (.istore 7, 2) := by decide +kernel
theorem dX2_sinks_38 : decode cX2_sinks 38 = .ok (.iload 7, 2) := by decide +kernel
theorem dX2_sinks_40 : decode cX2_sinks 40 = .ok (.aload_n 0, 1) := by decide +kernel
theorem dX2_sinks_41 : decode cX2_sinks 41 = .ok (.getfield 35, 3) := by decide +kernel
theorem dX2_sinks_44 : decode cX2_sinks 44 = .ok (.getfield 49, 3) := by decide +kernel
theorem dX2_sinks_47 : decode cX2_sinks 47 = .ok (.arraylength, 1) := by decide +kernel
theorem dX2_sinks_48 : decode cX2_sinks 48 = .ok (.if_icmp .ge 137, 3) := by decide +kernel
theorem dX2_sinks_51 : decode cX2_sinks 51 = .ok (.aload_n 0, 1) := by decide +kernel
theorem dX2_sinks_52 : decode cX2_sinks 52 = .ok (.getfield 35, 3) := by decide +kernel
theorem dX2_sinks_55 : decode cX2_sinks 55 = .ok (.getfield 49, 3) := by decide +kernel
theorem dX2_sinks_58 : decode cX2_sinks 58 = .ok (.iload 7, 2) := by decide +kernel
theorem dX2_sinks_60 : decode cX2_sinks 60 = .ok (.iaload, 1) := by decide +kernel
theorem dX2_sinks_61 : decode cX2_sinks 61 = .ok (.istore 8, 2) := by decide +kernel
theorem dX2_sinks_63 : decode cX2_sinks 63 = .ok (.iload 8, 2) := by decide +kernel
theorem dX2_sinks_65 : decode cX2_sinks 65 = .ok (.bipush (-5), 2) := by decide +kernel
theorem dX2_sinks_67 : decode cX2_sinks 67 = .ok (.if_icmp .gt 45, 3) := by decide +kernel
theorem dX2_sinks_70 : decode cX2_sinks 70 = .ok (.iload 6, 2) := by decide +kernel
theorem dX2_sinks_72 : decode cX2_sinks 72 = .ok (.iconst 2, 1) := by decide +kernel
theorem dX2_sinks_73 : decode cX2_sinks 73 = .ok (.if_icmp .lt 106, 3) := by decide +kernel
theorem dX2_sinks_76 : decode cX2_sinks 76 = .ok (.iinc 6 (-1), 3) := by decide +kernel
theorem dX2_sinks_79 : decode cX2_sinks 79 = .ok (.aload_n 0, 1) := by decide +kernel
theorem dX2_sinks_80 : decode cX2_sinks 80 = .ok (.getfield 11, 3) := by decide +kernel
theorem dX2_sinks_83 : decode cX2_sinks 83 = .ok (.iload 6, 2) := by decide +kernel
theorem dX2_sinks_85 : decode cX2_sinks 85 = .ok (.iconst 1, 1) := by decide +kernel
theorem dX2_sinks_86 : decode cX2_sinks 86 = .ok (.isub, 1) := by decide +kernel
theorem dX2_sinks_87 : decode cX2_sinks 87 = .ok (.iload 8, 2) := by decide +kernel
theorem dX2_sinks_89 : decode cX2_sinks 89 = .ok (.aload_n 0, 1) := by decide +kernel
theorem dX2_sinks_90 : decode cX2_sinks 90 = .ok (.getfield 11, 3) := by decide +kernel
theorem dX2_sinks_93 : decode cX2_sinks 93 = .ok (.iload 6, 2) := by decide +kernel
theorem dX2_sinks_95 : decode cX2_sinks 95 = .ok (.iconst 1, 1) := by decide +kernel
theorem dX2_sinks_96 : decode cX2_sinks 96 = .ok (.isub, 1) := by decide +kernel
theorem dX2_sinks_97 : decode cX2_sinks 97 = .ok (.laload, 1) := by decide +kernel
theorem dX2_sinks_98 : decode cX2_sinks 98 = .ok (.aload_n 0, 1) := by decide +kernel
theorem dX2_sinks_99 : decode cX2_sinks 99 = .ok (.getfield 11, 3) := by decide +kernel
theorem dX2_sinks_102 : decode cX2_sinks 102 = .ok (.iload 6, 2) := by decide +kernel
theorem dX2_sinks_104 : decode cX2_sinks 104 = .ok (.laload, 1) := by decide +kernel
theorem dX2_sinks_105 : decode cX2_sinks 105 = .ok (.invokestatic 52, 3) := by decide +kernel
theorem dX2_sinks_108 : decode cX2_sinks 108 = .ok (.lastore, 1) := by decide +kernel
theorem dX2_sinks_109 : decode cX2_sinks 109 = .ok (.goto 70, 3) := by decide +kernel
theorem dX2_sinks_112 : decode cX2_sinks 112 = .ok (.iload 6, 2) := by decide +kernel
theorem dX2_sinks_114 : decode cX2_sinks 114 = .ok (.bipush 16, 2) := by decide +kernel
theorem dX2_sinks_116 : decode cX2_sinks 116 = .ok (.if_icmp .ge 63, 3) := by decide +kernel
theorem dX2_sinks_119 : decode cX2_sinks 119 = .ok (.aload_n 0, 1) := by decide +kernel
theorem dX2_sinks_120 : decode cX2_sinks 120 = .ok (.getfield 11, 3) := by decide +kernel
theorem dX2_sinks_123 : decode cX2_sinks 123 = .ok (.iload 6, 2) := by decide +kernel
theorem dX2_sinks_125 : decode cX2_sinks 125 = .ok (.iload 8, 2) := by decide +kernel
theorem dX2_sinks_127 : decode cX2_sinks 127 = .ok (.ifCond .lt 9, 3) := by decide +kernel
theorem dX2_sinks_130 : decode cX2_sinks 130 = .ok (.iload 8, 2) := by decide +kernel
theorem dX2_sinks_132 : decode cX2_sinks 132 = .ok (.i2l, 1) := by decide +kernel
theorem dX2_sinks_133 : decode cX2_sinks 133 = .ok (.goto 42, 3) := by decide +kernel
theorem dX2_sinks_136 : decode cX2_sinks 136 = .ok (.iload 8, 2) := by decide +kernel
theorem dX2_sinks_138 : decode cX2_sinks 138 = .ok (.iconst (-1), 1) := by decide +kernel
theorem dX2_sinks_139 : decode cX2_sinks 139 = .ok (.if_icmp .ne 8, 3) := by decide +kernel
theorem dX2_sinks_142 : decode cX2_sinks 142 = .ok (.iload_n 2, 1) := by decide +kernel
theorem dX2_sinks_143 : decode cX2_sinks 143 = .ok (.i2l, 1) := by decide +kernel
theorem dX2_sinks_144 : decode cX2_sinks 144 = .ok (.goto 31, 3) := by decide +kernel
theorem dX2_sinks_147 : decode cX2_sinks 147 = .ok (.iload 8, 2) := by decide +kernel
theorem dX2_sinks_149 : decode cX2_sinks 149 = .ok (.bipush (-2), 2) := by decide +kernel
theorem dX2_sinks_151 : decode cX2_sinks 151 = .ok (.if_icmp .ne 9, 3) := by decide +kernel
theorem dX2_sinks_154 : decode cX2_sinks 154 = .ok (.iload 5, 2) := by decide +kernel
theorem dX2_sinks_156 : decode cX2_sinks 156 = .ok (.i2l, 1) := by decide +kernel
theorem dX2_sinks_157 : decode cX2_sinks 157 = .ok (.goto 18, 3) := by decide +kernel
theorem dX2_sinks_160 : decode cX2_sinks 160 = .ok (.iload 8, 2) := by decide +kernel
theorem dX2_sinks_162 : decode cX2_sinks 162 = .ok (.bipush (-3), 2) := by decide +kernel
theorem dX2_sinks_164 : decode cX2_sinks 164 = .ok (.if_icmp .ne 8, 3) := by decide +kernel
theorem dX2_sinks_167 : decode cX2_sinks 167 = .ok (.iload_n 3, 1) := by decide +kernel
theorem dX2_sinks_168 : decode cX2_sinks 168 = .ok (.i2l, 1) := by decide +kernel
theorem dX2_sinks_169 : decode cX2_sinks 169 = .ok (.goto 6, 3) := by decide +kernel
theorem dX2_sinks_172 : decode cX2_sinks 172 = .ok (.iload 4, 2) := by decide +kernel
theorem dX2_sinks_174 : decode cX2_sinks 174 = .ok (.i2l, 1) := by decide +kernel
theorem dX2_sinks_175 : decode cX2_sinks 175 = .ok (.lastore, 1) := by decide +kernel
theorem dX2_sinks_176 : decode cX2_sinks 176 = .ok (.iinc 6 1, 3) := by decide +kernel
theorem dX2_sinks_179 : decode cX2_sinks 179 = .ok (.iinc 7 1, 3) := by decide +kernel
theorem dX2_sinks_182 : decode cX2_sinks 182 = .ok (.goto (-144), 3) := by decide +kernel
theorem dX2_sinks_185 : decode cX2_sinks 185 = .ok (.lconst 0, 1) := by decide +kernel
theorem dX2_sinks_186 : decode cX2_sinks 186 = .ok (.ldc2_w 56, 3) := by decide +kernel
theorem dX2_sinks_189 : decode cX2_sinks 189 = .ok (.aload_n 0, 1) := by decide +kernel
theorem dX2_sinks_190 : decode cX2_sinks 190 = .ok (.getfield 11, 3) := by decide +kernel
theorem dX2_sinks_193 : decode cX2_sinks 193 = .ok (.iconst 0, 1) := by decide +kernel
theorem dX2_sinks_194 : decode cX2_sinks 194 = .ok (.laload, 1) := by decide +kernel
theorem dX2_sinks_195 : decode cX2_sinks 195 = .ok (.invokestatic 58, 3) := by decide +kernel
theorem dX2_sinks_198 : decode cX2_sinks 198 = .ok (.invokestatic 64, 3) := by decide +kernel
theorem dX2_sinks_201 : decode cX2_sinks 201 = .ok (.l2i, 1) := by decide +kernel
theorem dX2_sinks_202 : decode cX2_sinks 202 = .ok (.ireturn, 1) := by decide +kernel
theorem dX2_joinedBy_0 : decode cX2_joinedBy 0 = .ok (.iload_n 0, 1) := by decide +kernel
theorem dX2_joinedBy_1 : decode cX2_joinedBy 1 = .ok (.tableswitch 48 (-7) (-5) #[41, 34, 27], 27) := by decide +kernel
theorem dX2_joinedBy_28 : decode cX2_joinedBy 28 = .ok (.lload_n 1, 1) := by decide +kernel
theorem dX2_joinedBy_29 : decode cX2_joinedBy 29 = .ok (.lload_n 3, 1) := by decide +kernel
theorem dX2_joinedBy_30 : decode cX2_joinedBy 30 = .ok (.ladd, 1) := by decide +kernel
theorem dX2_joinedBy_31 : decode cX2_joinedBy 31 = .ok (.invokestatic 67, 3) := by decide +kernel
theorem dX2_joinedBy_34 : decode cX2_joinedBy 34 = .ok (.lreturn, 1) := by decide +kernel
theorem dX2_joinedBy_35 : decode cX2_joinedBy 35 = .ok (.lload_n 1, 1) := by decide +kernel
theorem dX2_joinedBy_36 : decode cX2_joinedBy 36 = .ok (.lload_n 3, 1) := by decide +kernel
theorem dX2_joinedBy_37 : decode cX2_joinedBy 37 = .ok (.lsub, 1) := by decide +kernel
theorem dX2_joinedBy_38 : decode cX2_joinedBy 38 = .ok (.invokestatic 67, 3) := by decide +kernel
theorem dX2_joinedBy_41 : decode cX2_joinedBy 41 = .ok (.lreturn, 1) := by decide +kernel
theorem dX2_joinedBy_42 : decode cX2_joinedBy 42 = .ok (.lload_n 1, 1) := by decide +kernel
theorem dX2_joinedBy_43 : decode cX2_joinedBy 43 = .ok (.lload_n 3, 1) := by decide +kernel
theorem dX2_joinedBy_44 : decode cX2_joinedBy 44 = .ok (.lmul, 1) := by decide +kernel
theorem dX2_joinedBy_45 : decode cX2_joinedBy 45 = .ok (.invokestatic 67, 3) := by decide +kernel
theorem dX2_joinedBy_48 : decode cX2_joinedBy 48 = .ok (.lreturn, 1) := by decide +kernel
theorem dX2_joinedBy_49 : decode cX2_joinedBy 49 = .ok (.lload_n 3, 1) := by decide +kernel
theorem dX2_joinedBy_50 : decode cX2_joinedBy 50 = .ok (.lconst 0, 1) := by decide +kernel
theorem dX2_joinedBy_51 : decode cX2_joinedBy 51 = .ok (.lcmp, 1) := by decide +kernel
theorem dX2_joinedBy_52 : decode cX2_joinedBy 52 = .ok (.ifCond .ne 7, 3) := by decide +kernel
theorem dX2_joinedBy_55 : decode cX2_joinedBy 55 = .ok (.lconst 0, 1) := by decide +kernel
theorem dX2_joinedBy_56 : decode cX2_joinedBy 56 = .ok (.goto 6, 3) := by decide +kernel
theorem dX2_joinedBy_59 : decode cX2_joinedBy 59 = .ok (.lload_n 1, 1) := by decide +kernel
theorem dX2_joinedBy_60 : decode cX2_joinedBy 60 = .ok (.lload_n 3, 1) := by decide +kernel
theorem dX2_joinedBy_61 : decode cX2_joinedBy 61 = .ok (.ldiv, 1) := by decide +kernel
theorem dX2_joinedBy_62 : decode cX2_joinedBy 62 = .ok (.lreturn, 1) := by decide +kernel
theorem dX2_held_0 : decode cX2_held 0 = .ok (.lload_n 0, 1) := by decide +kernel
theorem dX2_held_1 : decode cX2_held 1 = .ok (.ldc2_w 71, 3) := by decide +kernel
theorem dX2_held_4 : decode cX2_held 4 = .ok (.lcmp, 1) := by decide +kernel
theorem dX2_held_5 : decode cX2_held 5 = .ok (.ifCond .le 9, 3) := by decide +kernel
theorem dX2_held_8 : decode cX2_held 8 = .ok (.ldc2_w 71, 3) := by decide +kernel
theorem dX2_held_11 : decode cX2_held 11 = .ok (.goto 18, 3) := by decide +kernel
theorem dX2_held_14 : decode cX2_held 14 = .ok (.lload_n 0, 1) := by decide +kernel
theorem dX2_held_15 : decode cX2_held 15 = .ok (.ldc2_w 73, 3) := by decide +kernel
theorem dX2_held_18 : decode cX2_held 18 = .ok (.lcmp, 1) := by decide +kernel
theorem dX2_held_19 : decode cX2_held 19 = .ok (.ifCond .ge 9, 3) := by decide +kernel
theorem dX2_held_22 : decode cX2_held 22 = .ok (.ldc2_w 73, 3) := by decide +kernel
theorem dX2_held_25 : decode cX2_held 25 = .ok (.goto 4, 3) := by decide +kernel
theorem dX2_held_28 : decode cX2_held 28 = .ok (.lload_n 0, 1) := by decide +kernel
theorem dX2_held_29 : decode cX2_held 29 = .ok (.lreturn, 1) := by decide +kernel
theorem dX2_belowKeel_0 : decode cX2_belowKeel 0 = .ok (.iload 4, 2) := by decide +kernel
theorem dX2_belowKeel_2 : decode cX2_belowKeel 2 = .ok (.iload_n 3, 1) := by decide +kernel
theorem dX2_belowKeel_3 : decode cX2_belowKeel 3 = .ok (.isub, 1) := by decide +kernel
theorem dX2_belowKeel_4 : decode cX2_belowKeel 4 = .ok (.aload_n 0, 1) := by decide +kernel
theorem dX2_belowKeel_5 : decode cX2_belowKeel 5 = .ok (.iload_n 1, 1) := by decide +kernel
theorem dX2_belowKeel_6 : decode cX2_belowKeel 6 = .ok (.iload_n 2, 1) := by decide +kernel
theorem dX2_belowKeel_7 : decode cX2_belowKeel 7 = .ok (.iload_n 3, 1) := by decide +kernel
theorem dX2_belowKeel_8 : decode cX2_belowKeel 8 = .ok (.iload 4, 2) := by decide +kernel
theorem dX2_belowKeel_10 : decode cX2_belowKeel 10 = .ok (.invokevirtual 75, 3) := by decide +kernel
theorem dX2_belowKeel_13 : decode cX2_belowKeel 13 = .ok (.isub, 1) := by decide +kernel
theorem dX2_belowKeel_14 : decode cX2_belowKeel 14 = .ok (.ireturn, 1) := by decide +kernel
theorem dX2_isClear_0 : decode cX2_isClear 0 = .ok (.aload_n 0, 1) := by decide +kernel
theorem dX2_isClear_1 : decode cX2_isClear 1 = .ok (.iload_n 1, 1) := by decide +kernel
theorem dX2_isClear_2 : decode cX2_isClear 2 = .ok (.iload_n 2, 1) := by decide +kernel
theorem dX2_isClear_3 : decode cX2_isClear 3 = .ok (.iload_n 3, 1) := by decide +kernel
theorem dX2_isClear_4 : decode cX2_isClear 4 = .ok (.iload 4, 2) := by decide +kernel
theorem dX2_isClear_6 : decode cX2_isClear 6 = .ok (.invokevirtual 79, 3) := by decide +kernel
theorem dX2_isClear_9 : decode cX2_isClear 9 = .ok (.aload_n 0, 1) := by decide +kernel
theorem dX2_isClear_10 : decode cX2_isClear 10 = .ok (.getfield 35, 3) := by decide +kernel
theorem dX2_isClear_13 : decode cX2_isClear 13 = .ok (.iload_n 1, 1) := by decide +kernel
theorem dX2_isClear_14 : decode cX2_isClear 14 = .ok (.iconst 2, 1) := by decide +kernel
theorem dX2_isClear_15 : decode cX2_isClear 15 = .ok (.invokevirtual 43, 3) := by decide +kernel
theorem dX2_isClear_18 : decode cX2_isClear 18 = .ok (.if_icmp .lt 7, 3) := by decide +kernel
theorem dX2_isClear_21 : decode cX2_isClear 21 = .ok (.iconst 1, 1) := by decide +kernel
theorem dX2_isClear_22 : decode cX2_isClear 22 = .ok (.goto 4, 3) := by decide +kernel
theorem dX2_isClear_25 : decode cX2_isClear 25 = .ok (.iconst 0, 1) := by decide +kernel
theorem dX2_isClear_26 : decode cX2_isClear 26 = .ok (.ireturn, 1) := by decide +kernel
theorem dX2_isGood_0 : decode cX2_isGood 0 = .ok (.aload_n 0, 1) := by decide +kernel
theorem dX2_isGood_1 : decode cX2_isGood 1 = .ok (.iload_n 1, 1) := by decide +kernel
theorem dX2_isGood_2 : decode cX2_isGood 2 = .ok (.iload_n 2, 1) := by decide +kernel
theorem dX2_isGood_3 : decode cX2_isGood 3 = .ok (.iload_n 3, 1) := by decide +kernel
theorem dX2_isGood_4 : decode cX2_isGood 4 = .ok (.invokevirtual 82, 3) := by decide +kernel
theorem dX2_isGood_7 : decode cX2_isGood 7 = .ok (.istore 4, 2) := by decide +kernel
theorem dX2_isGood_9 : decode cX2_isGood 9 = .ok (.aload_n 0, 1) := by decide +kernel
theorem dX2_isGood_10 : decode cX2_isGood 10 = .ok (.iload_n 1, 1) := by decide +kernel
theorem dX2_isGood_11 : decode cX2_isGood 11 = .ok (.iload_n 3, 1) := by decide +kernel
theorem dX2_isGood_12 : decode cX2_isGood 12 = .ok (.aload_n 0, 1) := by decide +kernel
theorem dX2_isGood_13 : decode cX2_isGood 13 = .ok (.getfield 35, 3) := by decide +kernel
theorem dX2_isGood_16 : decode cX2_isGood 16 = .ok (.iload_n 1, 1) := by decide +kernel
theorem dX2_isGood_17 : decode cX2_isGood 17 = .ok (.iconst 0, 1) := by decide +kernel
theorem dX2_isGood_18 : decode cX2_isGood 18 = .ok (.invokevirtual 43, 3) := by decide +kernel
theorem dX2_isGood_21 : decode cX2_isGood 21 = .ok (.iload 4, 2) := by decide +kernel
theorem dX2_isGood_23 : decode cX2_isGood 23 = .ok (.invokevirtual 86, 3) := by decide +kernel
theorem dX2_isGood_26 : decode cX2_isGood 26 = .ok (.iconst (-1), 1) := by decide +kernel
theorem dX2_isGood_27 : decode cX2_isGood 27 = .ok (.if_icmp .ne 7, 3) := by decide +kernel
theorem dX2_isGood_30 : decode cX2_isGood 30 = .ok (.iconst 1, 1) := by decide +kernel
theorem dX2_isGood_31 : decode cX2_isGood 31 = .ok (.goto 4, 3) := by decide +kernel
theorem dX2_isGood_34 : decode cX2_isGood 34 = .ok (.iconst 0, 1) := by decide +kernel
theorem dX2_isGood_35 : decode cX2_isGood 35 = .ok (.ireturn, 1) := by decide +kernel
theorem dX2_leastBelowKeel_0 : decode cX2_leastBelowKeel 0 = .ok (.aload_n 0, 1) := by decide +kernel
theorem dX2_leastBelowKeel_1 : decode cX2_leastBelowKeel 1 = .ok (.iload_n 1, 1) := by decide +kernel
theorem dX2_leastBelowKeel_2 : decode cX2_leastBelowKeel 2 = .ok (.iload_n 2, 1) := by decide +kernel
theorem dX2_leastBelowKeel_3 : decode cX2_leastBelowKeel 3 = .ok (.iload_n 3, 1) := by decide +kernel
theorem dX2_leastBelowKeel_4 : decode cX2_leastBelowKeel 4 = .ok (.invokevirtual 82, 3) := by decide +kernel
theorem dX2_leastBelowKeel_7 : decode cX2_leastBelowKeel 7 = .ok (.istore 4, 2) := by decide +kernel
theorem dX2_leastBelowKeel_9 : decode cX2_leastBelowKeel 9 = .ok (.iload 4, 2) := by decide +kernel
theorem dX2_leastBelowKeel_11 : decode cX2_leastBelowKeel 11 = .ok (.ifCond .ne 6, 3) := by decide +kernel
theorem dX2_leastBelowKeel_14 : decode cX2_leastBelowKeel 14 = .ok (.ldc 89, 2) := by decide +kernel
theorem dX2_leastBelowKeel_16 : decode cX2_leastBelowKeel 16 = .ok (.ireturn, 1) := by decide +kernel
theorem dX2_leastBelowKeel_17 : decode cX2_leastBelowKeel 17 = .ok (.aload_n 0, 1) := by decide +kernel
theorem dX2_leastBelowKeel_18 : decode cX2_leastBelowKeel 18 = .ok (.getfield 35, 3) := by decide +kernel
theorem dX2_leastBelowKeel_21 : decode cX2_leastBelowKeel 21 = .ok (.iload_n 1, 1) := by decide +kernel
theorem dX2_leastBelowKeel_22 : decode cX2_leastBelowKeel 22 = .ok (.iconst 0, 1) := by decide +kernel
theorem dX2_leastBelowKeel_23 : decode cX2_leastBelowKeel 23 = .ok (.invokevirtual 43, 3) := by decide +kernel
theorem dX2_leastBelowKeel_26 : decode cX2_leastBelowKeel 26 = .ok (.istore 5, 2) := by decide +kernel
theorem dX2_leastBelowKeel_28 : decode cX2_leastBelowKeel 28 = .ok (.aload_n 0, 1) := by decide +kernel
theorem dX2_leastBelowKeel_29 : decode cX2_leastBelowKeel 29 = .ok (.iload_n 1, 1) := by decide +kernel
theorem dX2_leastBelowKeel_30 : decode cX2_leastBelowKeel 30 = .ok (.iload_n 3, 1) := by decide +kernel
theorem dX2_leastBelowKeel_31 : decode cX2_leastBelowKeel 31 = .ok (.iload 5, 2) := by decide +kernel
theorem dX2_leastBelowKeel_33 : decode cX2_leastBelowKeel 33 = .ok (.aload_n 0, 1) := by decide +kernel
theorem dX2_leastBelowKeel_34 : decode cX2_leastBelowKeel 34 = .ok (.getfield 15, 3) := by decide +kernel
theorem dX2_leastBelowKeel_37 : decode cX2_leastBelowKeel 37 = .ok (.iconst 0, 1) := by decide +kernel
theorem dX2_leastBelowKeel_38 : decode cX2_leastBelowKeel 38 = .ok (.iaload, 1) := by decide +kernel
theorem dX2_leastBelowKeel_39 : decode cX2_leastBelowKeel 39 = .ok (.invokevirtual 79, 3) := by decide +kernel
theorem dX2_leastBelowKeel_42 : decode cX2_leastBelowKeel 42 = .ok (.istore 6, 2) := by decide +kernel
theorem dX2_leastBelowKeel_44 : decode cX2_leastBelowKeel 44 = .ok (.iconst 1, 1) := by decide +kernel
theorem dX2_leastBelowKeel_45 : decode cX2_leastBelowKeel 45 = .ok (.istore 7, 2) := by decide +kernel
theorem dX2_leastBelowKeel_47 : decode cX2_leastBelowKeel 47 = .ok (.iload 7, 2) := by decide +kernel
theorem dX2_leastBelowKeel_49 : decode cX2_leastBelowKeel 49 = .ok (.iload 4, 2) := by decide +kernel
theorem dX2_leastBelowKeel_51 : decode cX2_leastBelowKeel 51 = .ok (.if_icmp .ge 31, 3) := by decide +kernel
theorem dX2_leastBelowKeel_54 : decode cX2_leastBelowKeel 54 = .ok (.iload 6, 2) := by decide +kernel
theorem dX2_leastBelowKeel_56 : decode cX2_leastBelowKeel 56 = .ok (.aload_n 0, 1) := by decide +kernel
theorem dX2_leastBelowKeel_57 : decode cX2_leastBelowKeel 57 = .ok (.iload_n 1, 1) := by decide +kernel
theorem dX2_leastBelowKeel_58 : decode cX2_leastBelowKeel 58 = .ok (.iload_n 3, 1) := by decide +kernel
theorem dX2_leastBelowKeel_59 : decode cX2_leastBelowKeel 59 = .ok (.iload 5, 2) := by decide +kernel
theorem dX2_leastBelowKeel_61 : decode cX2_leastBelowKeel 61 = .ok (.aload_n 0, 1) := by decide +kernel
theorem dX2_leastBelowKeel_62 : decode cX2_leastBelowKeel 62 = .ok (.getfield 15, 3) := by decide +kernel
theorem dX2_leastBelowKeel_65 : decode cX2_leastBelowKeel 65 = .ok (.iload 7, 2) := by decide +kernel
theorem dX2_leastBelowKeel_67 : decode cX2_leastBelowKeel 67 = .ok (.iaload, 1) := by decide +kernel
theorem dX2_leastBelowKeel_68 : decode cX2_leastBelowKeel 68 = .ok (.invokevirtual 79, 3) := by decide +kernel
theorem dX2_leastBelowKeel_71 : decode cX2_leastBelowKeel 71 = .ok (.invokestatic 90, 3) := by decide +kernel
theorem dX2_leastBelowKeel_74 : decode cX2_leastBelowKeel 74 = .ok (.istore 6, 2) := by decide +kernel
theorem dX2_leastBelowKeel_76 : decode cX2_leastBelowKeel 76 = .ok (.iinc 7 1, 3) := by decide +kernel
theorem dX2_leastBelowKeel_79 : decode cX2_leastBelowKeel 79 = .ok (.goto (-32), 3) := by decide +kernel
theorem dX2_leastBelowKeel_82 : decode cX2_leastBelowKeel 82 = .ok (.iload 6, 2) := by decide +kernel
theorem dX2_leastBelowKeel_84 : decode cX2_leastBelowKeel 84 = .ok (.ireturn, 1) := by decide +kernel
theorem dX2_deepestDraught_0 : decode cX2_deepestDraught 0 = .ok (.aload_n 0, 1) := by decide +kernel
theorem dX2_deepestDraught_1 : decode cX2_deepestDraught 1 = .ok (.iload_n 1, 1) := by decide +kernel
theorem dX2_deepestDraught_2 : decode cX2_deepestDraught 2 = .ok (.iload_n 2, 1) := by decide +kernel
theorem dX2_deepestDraught_3 : decode cX2_deepestDraught 3 = .ok (.iload_n 3, 1) := by decide +kernel
theorem dX2_deepestDraught_4 : decode cX2_deepestDraught 4 = .ok (.invokevirtual 82, 3) := by decide +kernel
theorem dX2_deepestDraught_7 : decode cX2_deepestDraught 7 = .ok (.istore 4, 2) := by decide +kernel
theorem dX2_deepestDraught_9 : decode cX2_deepestDraught 9 = .ok (.sipush 2500, 3) := by decide +kernel
theorem dX2_deepestDraught_12 : decode cX2_deepestDraught 12 = .ok (.istore 5, 2) := by decide +kernel
theorem dX2_deepestDraught_14 : decode cX2_deepestDraught 14 = .ok (.iconst 0, 1) := by decide +kernel
theorem dX2_deepestDraught_15 : decode cX2_deepestDraught 15 = .ok (.istore 6, 2) := by decide +kernel
theorem dX2_deepestDraught_17 : decode cX2_deepestDraught 17 = .ok (.iload 6, 2) := by decide +kernel
theorem dX2_deepestDraught_19 : decode cX2_deepestDraught 19 = .ok (.iload 4, 2) := by decide +kernel
theorem dX2_deepestDraught_21 : decode cX2_deepestDraught 21 = .ok (.if_icmp .ge 33, 3) := by decide +kernel
theorem dX2_deepestDraught_24 : decode cX2_deepestDraught 24 = .ok (.iload 5, 2) := by decide +kernel
theorem dX2_deepestDraught_26 : decode cX2_deepestDraught 26 = .ok (.aload_n 0, 1) := by decide +kernel
theorem dX2_deepestDraught_27 : decode cX2_deepestDraught 27 = .ok (.getfield 15, 3) := by decide +kernel
theorem dX2_deepestDraught_30 : decode cX2_deepestDraught 30 = .ok (.iload 6, 2) := by decide +kernel
theorem dX2_deepestDraught_32 : decode cX2_deepestDraught 32 = .ok (.iaload, 1) := by decide +kernel
theorem dX2_deepestDraught_33 : decode cX2_deepestDraught 33 = .ok (.aload_n 0, 1) := by decide +kernel
theorem dX2_deepestDraught_34 : decode cX2_deepestDraught 34 = .ok (.getfield 35, 3) := by decide +kernel
theorem dX2_deepestDraught_37 : decode cX2_deepestDraught 37 = .ok (.iload_n 1, 1) := by decide +kernel
theorem dX2_deepestDraught_38 : decode cX2_deepestDraught 38 = .ok (.iconst 2, 1) := by decide +kernel
theorem dX2_deepestDraught_39 : decode cX2_deepestDraught 39 = .ok (.invokevirtual 43, 3) := by decide +kernel
theorem dX2_deepestDraught_42 : decode cX2_deepestDraught 42 = .ok (.isub, 1) := by decide +kernel
theorem dX2_deepestDraught_43 : decode cX2_deepestDraught 43 = .ok (.invokestatic 90, 3) := by decide +kernel
theorem dX2_deepestDraught_46 : decode cX2_deepestDraught 46 = .ok (.istore 5, 2) := by decide +kernel
theorem dX2_deepestDraught_48 : decode cX2_deepestDraught 48 = .ok (.iinc 6 1, 3) := by decide +kernel
theorem dX2_deepestDraught_51 : decode cX2_deepestDraught 51 = .ok (.goto (-34), 3) := by decide +kernel
theorem dX2_deepestDraught_54 : decode cX2_deepestDraught 54 = .ok (.iconst 0, 1) := by decide +kernel
theorem dX2_deepestDraught_55 : decode cX2_deepestDraught 55 = .ok (.istore 6, 2) := by decide +kernel
theorem dX2_deepestDraught_57 : decode cX2_deepestDraught 57 = .ok (.iload 5, 2) := by decide +kernel
theorem dX2_deepestDraught_59 : decode cX2_deepestDraught 59 = .ok (.bipush 100, 2) := by decide +kernel
theorem dX2_deepestDraught_61 : decode cX2_deepestDraught 61 = .ok (.if_icmp .lt 60, 3) := by decide +kernel
theorem dX2_deepestDraught_64 : decode cX2_deepestDraught 64 = .ok (.iload 4, 2) := by decide +kernel
theorem dX2_deepestDraught_66 : decode cX2_deepestDraught 66 = .ok (.ifCond .le 24, 3) := by decide +kernel
theorem dX2_deepestDraught_69 : decode cX2_deepestDraught 69 = .ok (.aload_n 0, 1) := by decide +kernel
theorem dX2_deepestDraught_70 : decode cX2_deepestDraught 70 = .ok (.iload_n 1, 1) := by decide +kernel
theorem dX2_deepestDraught_71 : decode cX2_deepestDraught 71 = .ok (.iload_n 3, 1) := by decide +kernel
theorem dX2_deepestDraught_72 : decode cX2_deepestDraught 72 = .ok (.iload 5, 2) := by decide +kernel
theorem dX2_deepestDraught_74 : decode cX2_deepestDraught 74 = .ok (.aload_n 0, 1) := by decide +kernel
theorem dX2_deepestDraught_75 : decode cX2_deepestDraught 75 = .ok (.getfield 15, 3) := by decide +kernel
theorem dX2_deepestDraught_78 : decode cX2_deepestDraught 78 = .ok (.iload 6, 2) := by decide +kernel
theorem dX2_deepestDraught_80 : decode cX2_deepestDraught 80 = .ok (.iaload, 1) := by decide +kernel
theorem dX2_deepestDraught_81 : decode cX2_deepestDraught 81 = .ok (.invokevirtual 92, 3) := by decide +kernel
theorem dX2_deepestDraught_84 : decode cX2_deepestDraught 84 = .ok (.ifCond .ne 6, 3) := by decide +kernel
theorem dX2_deepestDraught_87 : decode cX2_deepestDraught 87 = .ok (.goto 28, 3) := by decide +kernel
theorem dX2_deepestDraught_90 : decode cX2_deepestDraught 90 = .ok (.aload_n 0, 1) := by decide +kernel
theorem dX2_deepestDraught_91 : decode cX2_deepestDraught 91 = .ok (.iload_n 1, 1) := by decide +kernel
theorem dX2_deepestDraught_92 : decode cX2_deepestDraught 92 = .ok (.iload_n 3, 1) := by decide +kernel
theorem dX2_deepestDraught_93 : decode cX2_deepestDraught 93 = .ok (.iload 5, 2) := by decide +kernel
theorem dX2_deepestDraught_95 : decode cX2_deepestDraught 95 = .ok (.iload 4, 2) := by decide +kernel
theorem dX2_deepestDraught_97 : decode cX2_deepestDraught 97 = .ok (.invokevirtual 86, 3) := by decide +kernel
theorem dX2_deepestDraught_100 : decode cX2_deepestDraught 100 = .ok (.istore 7, 2) := by decide +kernel
theorem dX2_deepestDraught_102 : decode cX2_deepestDraught 102 = .ok (.iload 7, 2) := by decide +kernel
theorem dX2_deepestDraught_104 : decode cX2_deepestDraught 104 = .ok (.iconst (-1), 1) := by decide +kernel
theorem dX2_deepestDraught_105 : decode cX2_deepestDraught 105 = .ok (.if_icmp .ne 6, 3) := by decide +kernel
theorem dX2_deepestDraught_108 : decode cX2_deepestDraught 108 = .ok (.iload 5, 2) := by decide +kernel
theorem dX2_deepestDraught_110 : decode cX2_deepestDraught 110 = .ok (.ireturn, 1) := by decide +kernel
theorem dX2_deepestDraught_111 : decode cX2_deepestDraught 111 = .ok (.iload 7, 2) := by decide +kernel
theorem dX2_deepestDraught_113 : decode cX2_deepestDraught 113 = .ok (.istore 6, 2) := by decide +kernel
theorem dX2_deepestDraught_115 : decode cX2_deepestDraught 115 = .ok (.iinc 5 (-1), 3) := by decide +kernel
theorem dX2_deepestDraught_118 : decode cX2_deepestDraught 118 = .ok (.goto (-61), 3) := by decide +kernel
theorem dX2_deepestDraught_121 : decode cX2_deepestDraught 121 = .ok (.iconst (-1), 1) := by decide +kernel
theorem dX2_deepestDraught_122 : decode cX2_deepestDraught 122 = .ok (.ireturn, 1) := by decide +kernel
theorem dX2_gatherWaters_0 : decode cX2_gatherWaters 0 = .ok (.iconst 0, 1) := by decide +kernel
theorem dX2_gatherWaters_1 : decode cX2_gatherWaters 1 = .ok (.istore 4, 2) := by decide +kernel
theorem dX2_gatherWaters_3 : decode cX2_gatherWaters 3 = .ok (.iconst 0, 1) := by decide +kernel
theorem dX2_gatherWaters_4 : decode cX2_gatherWaters 4 = .ok (.istore 5, 2) := by decide +kernel
theorem dX2_gatherWaters_6 : decode cX2_gatherWaters 6 = .ok (.iload 5, 2) := by decide +kernel
theorem dX2_gatherWaters_8 : decode cX2_gatherWaters 8 = .ok (.aload_n 0, 1) := by decide +kernel
theorem dX2_gatherWaters_9 : decode cX2_gatherWaters 9 = .ok (.getfield 35, 3) := by decide +kernel
theorem dX2_gatherWaters_12 : decode cX2_gatherWaters 12 = .ok (.getfield 96, 3) := by decide +kernel
theorem dX2_gatherWaters_15 : decode cX2_gatherWaters 15 = .ok (.if_icmp .ge 109, 3) := by decide +kernel
theorem dX2_gatherWaters_18 : decode cX2_gatherWaters 18 = .ok (.iload_n 2, 1) := by decide +kernel
theorem dX2_gatherWaters_19 : decode cX2_gatherWaters 19 = .ok (.aload_n 0, 1) := by decide +kernel
theorem dX2_gatherWaters_20 : decode cX2_gatherWaters 20 = .ok (.getfield 35, 3) := by decide +kernel
theorem dX2_gatherWaters_23 : decode cX2_gatherWaters 23 = .ok (.iload_n 1, 1) := by decide +kernel
theorem dX2_gatherWaters_24 : decode cX2_gatherWaters 24 = .ok (.iload_n 3, 1) := by decide +kernel
theorem dX2_gatherWaters_25 : decode cX2_gatherWaters 25 = .ok (.iload 5, 2) := by decide +kernel
theorem dX2_gatherWaters_27 : decode cX2_gatherWaters 27 = .ok (.invokevirtual 100, 3) := by decide +kernel
theorem dX2_gatherWaters_30 : decode cX2_gatherWaters 30 = .ok (.iadd, 1) := by decide +kernel
theorem dX2_gatherWaters_31 : decode cX2_gatherWaters 31 = .ok (.istore 6, 2) := by decide +kernel
theorem dX2_gatherWaters_33 : decode cX2_gatherWaters 33 = .ok (.aload_n 0, 1) := by decide +kernel
theorem dX2_gatherWaters_34 : decode cX2_gatherWaters 34 = .ok (.getfield 35, 3) := by decide +kernel
theorem dX2_gatherWaters_37 : decode cX2_gatherWaters 37 = .ok (.iload 5, 2) := by decide +kernel
theorem dX2_gatherWaters_39 : decode cX2_gatherWaters 39 = .ok (.iload_n 3, 1) := by decide +kernel
theorem dX2_gatherWaters_40 : decode cX2_gatherWaters 40 = .ok (.invokevirtual 103, 3) := by decide +kernel
theorem dX2_gatherWaters_43 : decode cX2_gatherWaters 43 = .ok (.istore 7, 2) := by decide +kernel
theorem dX2_gatherWaters_45 : decode cX2_gatherWaters 45 = .ok (.iconst 0, 1) := by decide +kernel
theorem dX2_gatherWaters_46 : decode cX2_gatherWaters 46 = .ok (.istore 8, 2) := by decide +kernel
theorem dX2_gatherWaters_48 : decode cX2_gatherWaters 48 = .ok (.iload 8, 2) := by decide +kernel
theorem dX2_gatherWaters_50 : decode cX2_gatherWaters 50 = .ok (.iload 7, 2) := by decide +kernel
theorem dX2_gatherWaters_52 : decode cX2_gatherWaters 52 = .ok (.if_icmp .gt 66, 3) := by decide +kernel
theorem dX2_gatherWaters_55 : decode cX2_gatherWaters 55 = .ok (.iload 4, 2) := by decide +kernel
theorem dX2_gatherWaters_57 : decode cX2_gatherWaters 57 = .ok (.aload_n 0, 1) := by decide +kernel
theorem dX2_gatherWaters_58 : decode cX2_gatherWaters 58 = .ok (.getfield 15, 3) := by decide +kernel
theorem dX2_gatherWaters_61 : decode cX2_gatherWaters 61 = .ok (.arraylength, 1) := by decide +kernel
theorem dX2_gatherWaters_62 : decode cX2_gatherWaters 62 = .ok (.if_icmp .ge 56, 3) := by decide +kernel
theorem dX2_gatherWaters_65 : decode cX2_gatherWaters 65 = .ok (.aload_n 0, 1) := by decide +kernel
theorem dX2_gatherWaters_66 : decode cX2_gatherWaters 66 = .ok (.getfield 39, 3) := by decide +kernel
theorem dX2_gatherWaters_69 : decode cX2_gatherWaters 69 = .ok (.iload 5, 2) := by decide +kernel
theorem dX2_gatherWaters_71 : decode cX2_gatherWaters 71 = .ok (.iload 6, 2) := by decide +kernel
theorem dX2_gatherWaters_73 : decode cX2_gatherWaters 73 = .ok (.iload 8, 2) := by decide +kernel
theorem dX2_gatherWaters_75 : decode cX2_gatherWaters 75 = .ok (.iadd, 1) := by decide +kernel
theorem dX2_gatherWaters_76 : decode cX2_gatherWaters 76 = .ok (.invokevirtual 106, 3) := by decide +kernel
theorem dX2_gatherWaters_79 : decode cX2_gatherWaters 79 = .ok (.istore 9, 2) := by decide +kernel
theorem dX2_gatherWaters_81 : decode cX2_gatherWaters 81 = .ok (.iload 4, 2) := by decide +kernel
theorem dX2_gatherWaters_83 : decode cX2_gatherWaters 83 = .ok (.ifCond .eq 17, 3) := by decide +kernel
theorem dX2_gatherWaters_86 : decode cX2_gatherWaters 86 = .ok (.aload_n 0, 1) := by decide +kernel
theorem dX2_gatherWaters_87 : decode cX2_gatherWaters 87 = .ok (.getfield 15, 3) := by decide +kernel
theorem dX2_gatherWaters_90 : decode cX2_gatherWaters 90 = .ok (.iload 4, 2) := by decide +kernel
theorem dX2_gatherWaters_92 : decode cX2_gatherWaters 92 = .ok (.iconst 1, 1) := by decide +kernel
theorem dX2_gatherWaters_93 : decode cX2_gatherWaters 93 = .ok (.isub, 1) := by decide +kernel
theorem dX2_gatherWaters_94 : decode cX2_gatherWaters 94 = .ok (.iaload, 1) := by decide +kernel
theorem dX2_gatherWaters_95 : decode cX2_gatherWaters 95 = .ok (.iload 9, 2) := by decide +kernel
theorem dX2_gatherWaters_97 : decode cX2_gatherWaters 97 = .ok (.if_icmp .eq 15, 3) := by decide +kernel
theorem dX2_gatherWaters_100 : decode cX2_gatherWaters 100 = .ok (.aload_n 0, 1) := by decide +kernel
theorem dX2_gatherWaters_101 : decode cX2_gatherWaters 101 = .ok (.getfield 15, 3) := by decide +kernel
theorem dX2_gatherWaters_104 : decode cX2_gatherWaters 104 = .ok (.iload 4, 2) := by decide +kernel
theorem dX2_gatherWaters_106 : decode cX2_gatherWaters 106 = .ok (.iload 9, 2) := by decide +kernel
theorem dX2_gatherWaters_108 : decode cX2_gatherWaters 108 = .ok (.iastore, 1) := by decide +kernel
theorem dX2_gatherWaters_109 : decode cX2_gatherWaters 109 = .ok (.iinc 4 1, 3) := by decide +kernel
theorem dX2_gatherWaters_112 : decode cX2_gatherWaters 112 = .ok (.iinc 8 1, 3) := by decide +kernel
theorem dX2_gatherWaters_115 : decode cX2_gatherWaters 115 = .ok (.goto (-67), 3) := by decide +kernel
theorem dX2_gatherWaters_118 : decode cX2_gatherWaters 118 = .ok (.iinc 5 1, 3) := by decide +kernel
theorem dX2_gatherWaters_121 : decode cX2_gatherWaters 121 = .ok (.goto (-115), 3) := by decide +kernel
theorem dX2_gatherWaters_124 : decode cX2_gatherWaters 124 = .ok (.iload 4, 2) := by decide +kernel
theorem dX2_gatherWaters_126 : decode cX2_gatherWaters 126 = .ok (.ireturn, 1) := by decide +kernel
theorem dX2_firstUnclear_0 : decode cX2_firstUnclear 0 = .ok (.iconst 0, 1) := by decide +kernel
theorem dX2_firstUnclear_1 : decode cX2_firstUnclear 1 = .ok (.istore 5, 2) := by decide +kernel
theorem dX2_firstUnclear_3 : decode cX2_firstUnclear 3 = .ok (.iload 5, 2) := by decide +kernel
theorem dX2_firstUnclear_5 : decode cX2_firstUnclear 5 = .ok (.iload 4, 2) := by decide +kernel
theorem dX2_firstUnclear_7 : decode cX2_firstUnclear 7 = .ok (.if_icmp .ge 29, 3) := by decide +kernel
theorem dX2_firstUnclear_10 : decode cX2_firstUnclear 10 = .ok (.aload_n 0, 1) := by decide +kernel
theorem dX2_firstUnclear_11 : decode cX2_firstUnclear 11 = .ok (.iload_n 1, 1) := by decide +kernel
theorem dX2_firstUnclear_12 : decode cX2_firstUnclear 12 = .ok (.iload_n 2, 1) := by decide +kernel
theorem dX2_firstUnclear_13 : decode cX2_firstUnclear 13 = .ok (.iload_n 3, 1) := by decide +kernel
theorem dX2_firstUnclear_14 : decode cX2_firstUnclear 14 = .ok (.aload_n 0, 1) := by decide +kernel
theorem dX2_firstUnclear_15 : decode cX2_firstUnclear 15 = .ok (.getfield 15, 3) := by decide +kernel
theorem dX2_firstUnclear_18 : decode cX2_firstUnclear 18 = .ok (.iload 5, 2) := by decide +kernel
theorem dX2_firstUnclear_20 : decode cX2_firstUnclear 20 = .ok (.iaload, 1) := by decide +kernel
theorem dX2_firstUnclear_21 : decode cX2_firstUnclear 21 = .ok (.invokevirtual 92, 3) := by decide +kernel
theorem dX2_firstUnclear_24 : decode cX2_firstUnclear 24 = .ok (.ifCond .ne 6, 3) := by decide +kernel
theorem dX2_firstUnclear_27 : decode cX2_firstUnclear 27 = .ok (.iload 5, 2) := by decide +kernel
theorem dX2_firstUnclear_29 : decode cX2_firstUnclear 29 = .ok (.ireturn, 1) := by decide +kernel
theorem dX2_firstUnclear_30 : decode cX2_firstUnclear 30 = .ok (.iinc 5 1, 3) := by decide +kernel
theorem dX2_firstUnclear_33 : decode cX2_firstUnclear 33 = .ok (.goto (-30), 3) := by decide +kernel
theorem dX2_firstUnclear_36 : decode cX2_firstUnclear 36 = .ok (.iconst (-1), 1) := by decide +kernel
theorem dX2_firstUnclear_37 : decode cX2_firstUnclear 37 = .ok (.ireturn, 1) := by decide +kernel
theorem dX2_findPassable_0 : decode cX2_findPassable 0 = .ok (.aload_n 0, 1) := by decide +kernel
theorem dX2_findPassable_1 : decode cX2_findPassable 1 = .ok (.getfield 22, 3) := by decide +kernel
theorem dX2_findPassable_4 : decode cX2_findPassable 4 = .ok (.iconst 1, 1) := by decide +kernel
theorem dX2_findPassable_5 : decode cX2_findPassable 5 = .ok (.iload_n 1, 1) := by decide +kernel
theorem dX2_findPassable_6 : decode cX2_findPassable 6 = .ok (.ishl, 1) := by decide +kernel
theorem dX2_findPassable_7 : decode cX2_findPassable 7 = .ok (.invokestatic 111, 3) := by decide +kernel
theorem dX2_findPassable_10 : decode cX2_findPassable 10 = .ok (.aload_n 0, 1) := by decide +kernel
theorem dX2_findPassable_11 : decode cX2_findPassable 11 = .ok (.iload_n 1, 1) := by decide +kernel
theorem dX2_findPassable_12 : decode cX2_findPassable 12 = .ok (.iload_n 2, 1) := by decide +kernel
theorem dX2_findPassable_13 : decode cX2_findPassable 13 = .ok (.iload_n 3, 1) := by decide +kernel
theorem dX2_findPassable_14 : decode cX2_findPassable 14 = .ok (.iload 4, 2) := by decide +kernel
theorem dX2_findPassable_16 : decode cX2_findPassable 16 = .ok (.sipush 1440, 3) := by decide +kernel
theorem dX2_findPassable_19 : decode cX2_findPassable 19 = .ok (.invokevirtual 117, 3) := by decide +kernel
theorem dX2_findPassable_22 : decode cX2_findPassable 22 = .ok (.return_, 1) := by decide +kernel
theorem dX2_findGood_0 : decode cX2_findGood 0 = .ok (.sipush 1440, 3) := by decide +kernel
theorem dX2_findGood_3 : decode cX2_findGood 3 = .ok (.iload_n 1, 1) := by decide +kernel
theorem dX2_findGood_4 : decode cX2_findGood 4 = .ok (.invokestatic 121, 3) := by decide +kernel
theorem dX2_findGood_7 : decode cX2_findGood 7 = .ok (.iconst 1, 1) := by decide +kernel
theorem dX2_findGood_8 : decode cX2_findGood 8 = .ok (.isub, 1) := by decide +kernel
theorem dX2_findGood_9 : decode cX2_findGood 9 = .ok (.aload_n 0, 1) := by decide +kernel
theorem dX2_findGood_10 : decode cX2_findGood 10 = .ok (.getfield 35, 3) := by decide +kernel
theorem dX2_findGood_13 : decode cX2_findGood 13 = .ok (.getfield 127, 3) := by decide +kernel
theorem dX2_findGood_16 : decode cX2_findGood 16 = .ok (.imul, 1) := by decide +kernel
theorem dX2_findGood_17 : decode cX2_findGood 17 = .ok (.iadd, 1) := by decide +kernel
theorem dX2_findGood_18 : decode cX2_findGood 18 = .ok (.istore 4, 2) := by decide +kernel
theorem dX2_findGood_20 : decode cX2_findGood 20 = .ok (.aload_n 0, 1) := by decide +kernel
theorem dX2_findGood_21 : decode cX2_findGood 21 = .ok (.getfield 22, 3) := by decide +kernel
theorem dX2_findGood_24 : decode cX2_findGood 24 = .ok (.iload_n 1, 1) := by decide +kernel
theorem dX2_findGood_25 : decode cX2_findGood 25 = .ok (.invokestatic 111, 3) := by decide +kernel
theorem dX2_findGood_28 : decode cX2_findGood 28 = .ok (.iconst 0, 1) := by decide +kernel
theorem dX2_findGood_29 : decode cX2_findGood 29 = .ok (.istore 5, 2) := by decide +kernel
theorem dX2_findGood_31 : decode cX2_findGood 31 = .ok (.iload 5, 2) := by decide +kernel
theorem dX2_findGood_33 : decode cX2_findGood 33 = .ok (.aload_n 0, 1) := by decide +kernel
theorem dX2_findGood_34 : decode cX2_findGood 34 = .ok (.getfield 35, 3) := by decide +kernel
theorem dX2_findGood_37 : decode cX2_findGood 37 = .ok (.getfield 130, 3) := by decide +kernel
theorem dX2_findGood_40 : decode cX2_findGood 40 = .ok (.if_icmp .ge 67, 3) := by decide +kernel
theorem dX2_findGood_43 : decode cX2_findGood 43 = .ok (.iload_n 1, 1) := by decide +kernel
theorem dX2_findGood_44 : decode cX2_findGood 44 = .ok (.iload 5, 2) := by decide +kernel
theorem dX2_findGood_46 : decode cX2_findGood 46 = .ok (.ishr, 1) := by decide +kernel
theorem dX2_findGood_47 : decode cX2_findGood 47 = .ok (.iconst 1, 1) := by decide +kernel
theorem dX2_findGood_48 : decode cX2_findGood 48 = .ok (.iand, 1) := by decide +kernel
theorem dX2_findGood_49 : decode cX2_findGood 49 = .ok (.ifCond .ne 6, 3) := by decide +kernel
theorem dX2_findGood_52 : decode cX2_findGood 52 = .ok (.goto 49, 3) := by decide +kernel
theorem dX2_findGood_55 : decode cX2_findGood 55 = .ok (.iconst 0, 1) := by decide +kernel
theorem dX2_findGood_56 : decode cX2_findGood 56 = .ok (.istore 6, 2) := by decide +kernel
theorem dX2_findGood_58 : decode cX2_findGood 58 = .ok (.iload 6, 2) := by decide +kernel
theorem dX2_findGood_60 : decode cX2_findGood 60 = .ok (.aload_n 0, 1) := by decide +kernel
theorem dX2_findGood_61 : decode cX2_findGood 61 = .ok (.getfield 35, 3) := by decide +kernel
theorem dX2_findGood_64 : decode cX2_findGood 64 = .ok (.getfield 96, 3) := by decide +kernel
theorem dX2_findGood_67 : decode cX2_findGood 67 = .ok (.if_icmp .ge 34, 3) := by decide +kernel
theorem dX2_findGood_70 : decode cX2_findGood 70 = .ok (.aload_n 0, 1) := by decide +kernel
theorem dX2_findGood_71 : decode cX2_findGood 71 = .ok (.iload 5, 2) := by decide +kernel
theorem dX2_findGood_73 : decode cX2_findGood 73 = .ok (.iload 6, 2) := by decide +kernel
theorem dX2_findGood_75 : decode cX2_findGood 75 = .ok (.iload_n 2, 1) := by decide +kernel
theorem dX2_findGood_76 : decode cX2_findGood 76 = .ok (.iload_n 3, 1) := by decide +kernel
theorem dX2_findGood_77 : decode cX2_findGood 77 = .ok (.aload_n 0, 1) := by decide +kernel
theorem dX2_findGood_78 : decode cX2_findGood 78 = .ok (.getfield 35, 3) := by decide +kernel
theorem dX2_findGood_81 : decode cX2_findGood 81 = .ok (.iload 5, 2) := by decide +kernel
theorem dX2_findGood_83 : decode cX2_findGood 83 = .ok (.iload_n 2, 1) := by decide +kernel
theorem dX2_findGood_84 : decode cX2_findGood 84 = .ok (.iload 6, 2) := by decide +kernel
theorem dX2_findGood_86 : decode cX2_findGood 86 = .ok (.invokevirtual 100, 3) := by decide +kernel
theorem dX2_findGood_89 : decode cX2_findGood 89 = .ok (.iadd, 1) := by decide +kernel
theorem dX2_findGood_90 : decode cX2_findGood 90 = .ok (.iload 4, 2) := by decide +kernel
theorem dX2_findGood_92 : decode cX2_findGood 92 = .ok (.invokevirtual 117, 3) := by decide +kernel
theorem dX2_findGood_95 : decode cX2_findGood 95 = .ok (.iinc 6 1, 3) := by decide +kernel
theorem dX2_findGood_98 : decode cX2_findGood 98 = .ok (.goto (-40), 3) := by decide +kernel
theorem dX2_findGood_101 : decode cX2_findGood 101 = .ok (.iinc 5 1, 3) := by decide +kernel
theorem dX2_findGood_104 : decode cX2_findGood 104 = .ok (.goto (-73), 3) := by decide +kernel
theorem dX2_findGood_107 : decode cX2_findGood 107 = .ok (.return_, 1) := by decide +kernel
theorem dX2_dropUnpassable_0 : decode cX2_dropUnpassable 0 = .ok (.aload_n 0, 1) := by decide +kernel
theorem dX2_dropUnpassable_1 : decode cX2_dropUnpassable 1 = .ok (.getfield 35, 3) := by decide +kernel
theorem dX2_dropUnpassable_4 : decode cX2_dropUnpassable 4 = .ok (.iload_n 2, 1) := by decide +kernel
theorem dX2_dropUnpassable_5 : decode cX2_dropUnpassable 5 = .ok (.iload_n 3, 1) := by decide +kernel
theorem dX2_dropUnpassable_6 : decode cX2_dropUnpassable 6 = .ok (.invokevirtual 103, 3) := by decide +kernel
theorem dX2_dropUnpassable_9 : decode cX2_dropUnpassable 9 = .ok (.istore 6, 2) := by decide +kernel
theorem dX2_dropUnpassable_11 : decode cX2_dropUnpassable 11 = .ok (.aload_n 0, 1) := by decide +kernel
theorem dX2_dropUnpassable_12 : decode cX2_dropUnpassable 12 = .ok (.iload_n 2, 1) := by decide +kernel
theorem dX2_dropUnpassable_13 : decode cX2_dropUnpassable 13 = .ok (.iload 4, 2) := by decide +kernel
theorem dX2_dropUnpassable_15 : decode cX2_dropUnpassable 15 = .ok (.iload 5, 2) := by decide +kernel
theorem dX2_dropUnpassable_17 : decode cX2_dropUnpassable 17 = .ok (.iload 6, 2) := by decide +kernel
theorem dX2_dropUnpassable_19 : decode cX2_dropUnpassable 19 = .ok (.iadd, 1) := by decide +kernel
theorem dX2_dropUnpassable_20 : decode cX2_dropUnpassable 20 = .ok (.invokevirtual 133, 3) := by decide +kernel
theorem dX2_dropUnpassable_23 : decode cX2_dropUnpassable 23 = .ok (.istore 7, 2) := by decide +kernel
theorem dX2_dropUnpassable_25 : decode cX2_dropUnpassable 25 = .ok (.aload_n 0, 1) := by decide +kernel
theorem dX2_dropUnpassable_26 : decode cX2_dropUnpassable 26 = .ok (.iload_n 1, 1) := by decide +kernel
theorem dX2_dropUnpassable_27 : decode cX2_dropUnpassable 27 = .ok (.iload_n 3, 1) := by decide +kernel
theorem dX2_dropUnpassable_28 : decode cX2_dropUnpassable 28 = .ok (.iconst 0, 1) := by decide +kernel
theorem dX2_dropUnpassable_29 : decode cX2_dropUnpassable 29 = .ok (.iload 7, 2) := by decide +kernel
theorem dX2_dropUnpassable_31 : decode cX2_dropUnpassable 31 = .ok (.invokevirtual 136, 3) := by decide +kernel
theorem dX2_dropUnpassable_34 : decode cX2_dropUnpassable 34 = .ok (.iconst 0, 1) := by decide +kernel
theorem dX2_dropUnpassable_35 : decode cX2_dropUnpassable 35 = .ok (.istore 8, 2) := by decide +kernel
theorem dX2_dropUnpassable_37 : decode cX2_dropUnpassable 37 = .ok (.iload 8, 2) := by decide +kernel
theorem dX2_dropUnpassable_39 : decode cX2_dropUnpassable 39 = .ok (.iload 5, 2) := by decide +kernel
theorem dX2_dropUnpassable_41 : decode cX2_dropUnpassable 41 = .ok (.if_icmp .ge 46, 3) := by decide +kernel
theorem dX2_dropUnpassable_44 : decode cX2_dropUnpassable 44 = .ok (.iload 8, 2) := by decide +kernel
theorem dX2_dropUnpassable_46 : decode cX2_dropUnpassable 46 = .ok (.aload_n 0, 1) := by decide +kernel
theorem dX2_dropUnpassable_47 : decode cX2_dropUnpassable 47 = .ok (.getfield 22, 3) := by decide +kernel
theorem dX2_dropUnpassable_50 : decode cX2_dropUnpassable 50 = .ok (.arraylength, 1) := by decide +kernel
theorem dX2_dropUnpassable_51 : decode cX2_dropUnpassable 51 = .ok (.if_icmp .ge 36, 3) := by decide +kernel
theorem dX2_dropUnpassable_54 : decode cX2_dropUnpassable 54 = .ok (.aload_n 0, 1) := by decide +kernel
theorem dX2_dropUnpassable_55 : decode cX2_dropUnpassable 55 = .ok (.getfield 19, 3) := by decide +kernel
theorem dX2_dropUnpassable_58 : decode cX2_dropUnpassable 58 = .ok (.iload 8, 2) := by decide +kernel
theorem dX2_dropUnpassable_60 : decode cX2_dropUnpassable 60 = .ok (.iaload, 1) := by decide +kernel
theorem dX2_dropUnpassable_61 : decode cX2_dropUnpassable 61 = .ok (.iload 6, 2) := by decide +kernel
theorem dX2_dropUnpassable_63 : decode cX2_dropUnpassable 63 = .ok (.if_icmp .gt 18, 3) := by decide +kernel
theorem dX2_dropUnpassable_66 : decode cX2_dropUnpassable 66 = .ok (.aload_n 0, 1) := by decide +kernel
theorem dX2_dropUnpassable_67 : decode cX2_dropUnpassable 67 = .ok (.getfield 22, 3) := by decide +kernel
theorem dX2_dropUnpassable_70 : decode cX2_dropUnpassable 70 = .ok (.iload 8, 2) := by decide +kernel
theorem dX2_dropUnpassable_72 : decode cX2_dropUnpassable 72 = .ok (.dup2, 1) := by decide +kernel
theorem dX2_dropUnpassable_73 : decode cX2_dropUnpassable 73 = .ok (.iaload, 1) := by decide +kernel
theorem dX2_dropUnpassable_74 : decode cX2_dropUnpassable 74 = .ok (.iconst 1, 1) := by decide +kernel
theorem dX2_dropUnpassable_75 : decode cX2_dropUnpassable 75 = .ok (.iload_n 1, 1) := by decide +kernel
theorem dX2_dropUnpassable_76 : decode cX2_dropUnpassable 76 = .ok (.ishl, 1) := by decide +kernel
theorem dX2_dropUnpassable_77 : decode cX2_dropUnpassable 77 = .ok (.iconst (-1), 1) := by decide +kernel
theorem dX2_dropUnpassable_78 : decode cX2_dropUnpassable 78 = .ok (.ixor, 1) := by decide +kernel
theorem dX2_dropUnpassable_79 : decode cX2_dropUnpassable 79 = .ok (.iand, 1) := by decide +kernel
theorem dX2_dropUnpassable_80 : decode cX2_dropUnpassable 80 = .ok (.iastore, 1) := by decide +kernel
theorem dX2_dropUnpassable_81 : decode cX2_dropUnpassable 81 = .ok (.iinc 8 1, 3) := by decide +kernel
theorem dX2_dropUnpassable_84 : decode cX2_dropUnpassable 84 = .ok (.goto (-47), 3) := by decide +kernel
theorem dX2_dropUnpassable_87 : decode cX2_dropUnpassable 87 = .ok (.return_, 1) := by decide +kernel
theorem dX2_fillWaters_0 : decode cX2_fillWaters 0 = .ok (.iload_n 3, 1) := by decide +kernel
theorem dX2_fillWaters_1 : decode cX2_fillWaters 1 = .ok (.aload_n 0, 1) := by decide +kernel
theorem dX2_fillWaters_2 : decode cX2_fillWaters 2 = .ok (.getfield 15, 3) := by decide +kernel
theorem dX2_fillWaters_5 : decode cX2_fillWaters 5 = .ok (.arraylength, 1) := by decide +kernel
theorem dX2_fillWaters_6 : decode cX2_fillWaters 6 = .ok (.invokestatic 90, 3) := by decide +kernel
theorem dX2_fillWaters_9 : decode cX2_fillWaters 9 = .ok (.istore 4, 2) := by decide +kernel
theorem dX2_fillWaters_11 : decode cX2_fillWaters 11 = .ok (.iconst 0, 1) := by decide +kernel
theorem dX2_fillWaters_12 : decode cX2_fillWaters 12 = .ok (.istore 5, 2) := by decide +kernel
theorem dX2_fillWaters_14 : decode cX2_fillWaters 14 = .ok (.iload 5, 2) := by decide +kernel
theorem dX2_fillWaters_16 : decode cX2_fillWaters 16 = .ok (.iload 4, 2) := by decide +kernel
theorem dX2_fillWaters_18 : decode cX2_fillWaters 18 = .ok (.if_icmp .ge 28, 3) := by decide +kernel
theorem dX2_fillWaters_21 : decode cX2_fillWaters 21 = .ok (.aload_n 0, 1) := by decide +kernel
theorem dX2_fillWaters_22 : decode cX2_fillWaters 22 = .ok (.getfield 15, 3) := by decide +kernel
theorem dX2_fillWaters_25 : decode cX2_fillWaters 25 = .ok (.iload 5, 2) := by decide +kernel
theorem dX2_fillWaters_27 : decode cX2_fillWaters 27 = .ok (.aload_n 0, 1) := by decide +kernel
theorem dX2_fillWaters_28 : decode cX2_fillWaters 28 = .ok (.getfield 39, 3) := by decide +kernel
theorem dX2_fillWaters_31 : decode cX2_fillWaters 31 = .ok (.iload_n 1, 1) := by decide +kernel
theorem dX2_fillWaters_32 : decode cX2_fillWaters 32 = .ok (.iload_n 2, 1) := by decide +kernel
theorem dX2_fillWaters_33 : decode cX2_fillWaters 33 = .ok (.iload 5, 2) := by decide +kernel
theorem dX2_fillWaters_35 : decode cX2_fillWaters 35 = .ok (.iadd, 1) := by decide +kernel
theorem dX2_fillWaters_36 : decode cX2_fillWaters 36 = .ok (.invokevirtual 106, 3) := by decide +kernel
theorem dX2_fillWaters_39 : decode cX2_fillWaters 39 = .ok (.iastore, 1) := by decide +kernel
theorem dX2_fillWaters_40 : decode cX2_fillWaters 40 = .ok (.iinc 5 1, 3) := by decide +kernel
theorem dX2_fillWaters_43 : decode cX2_fillWaters 43 = .ok (.goto (-29), 3) := by decide +kernel
theorem dX2_fillWaters_46 : decode cX2_fillWaters 46 = .ok (.iload 4, 2) := by decide +kernel
theorem dX2_fillWaters_48 : decode cX2_fillWaters 48 = .ok (.ireturn, 1) := by decide +kernel
theorem dX2_fillRuns_0 : decode cX2_fillRuns 0 = .ok (.aload_n 0, 1) := by decide +kernel
theorem dX2_fillRuns_1 : decode cX2_fillRuns 1 = .ok (.getfield 35, 3) := by decide +kernel
theorem dX2_fillRuns_4 : decode cX2_fillRuns 4 = .ok (.iload_n 1, 1) := by decide +kernel
theorem dX2_fillRuns_5 : decode cX2_fillRuns 5 = .ok (.iconst 0, 1) := by decide +kernel
theorem dX2_fillRuns_6 : decode cX2_fillRuns 6 = .ok (.invokevirtual 43, 3) := by decide +kernel
theorem dX2_fillRuns_9 : decode cX2_fillRuns 9 = .ok (.istore 5, 2) := by decide +kernel
theorem dX2_fillRuns_11 : decode cX2_fillRuns 11 = .ok (.iload 5, 2) := by decide +kernel
theorem dX2_fillRuns_13 : decode cX2_fillRuns 13 = .ok (.aload_n 0, 1) := by decide +kernel
theorem dX2_fillRuns_14 : decode cX2_fillRuns 14 = .ok (.getfield 35, 3) := by decide +kernel
theorem dX2_fillRuns_17 : decode cX2_fillRuns 17 = .ok (.iload_n 1, 1) := by decide +kernel
theorem dX2_fillRuns_18 : decode cX2_fillRuns 18 = .ok (.iconst 2, 1) := by decide +kernel
theorem dX2_fillRuns_19 : decode cX2_fillRuns 19 = .ok (.invokevirtual 43, 3) := by decide +kernel
theorem dX2_fillRuns_22 : decode cX2_fillRuns 22 = .ok (.iadd, 1) := by decide +kernel
theorem dX2_fillRuns_23 : decode cX2_fillRuns 23 = .ok (.istore 6, 2) := by decide +kernel
theorem dX2_fillRuns_25 : decode cX2_fillRuns 25 = .ok (.iconst 0, 1) := by decide +kernel
theorem dX2_fillRuns_26 : decode cX2_fillRuns 26 = .ok (.istore 7, 2) := by decide +kernel
theorem dX2_fillRuns_28 : decode cX2_fillRuns 28 = .ok (.iconst 0, 1) := by decide +kernel
theorem dX2_fillRuns_29 : decode cX2_fillRuns 29 = .ok (.istore 8, 2) := by decide +kernel
theorem dX2_fillRuns_31 : decode cX2_fillRuns 31 = .ok (.iload 4, 2) := by decide +kernel
theorem dX2_fillRuns_33 : decode cX2_fillRuns 33 = .ok (.iconst 1, 1) := by decide +kernel
theorem dX2_fillRuns_34 : decode cX2_fillRuns 34 = .ok (.isub, 1) := by decide +kernel
theorem dX2_fillRuns_35 : decode cX2_fillRuns 35 = .ok (.istore 9, 2) := by decide +kernel
theorem dX2_fillRuns_37 : decode cX2_fillRuns 37 = .ok (.iload 9, 2) := by decide +kernel
theorem dX2_fillRuns_39 : decode cX2_fillRuns 39 = .ok (.iload_n 3, 1) := by decide +kernel
theorem dX2_fillRuns_40 : decode cX2_fillRuns 40 = .ok (.if_icmp .lt 98, 3) := by decide +kernel
theorem dX2_fillRuns_43 : decode cX2_fillRuns 43 = .ok (.iload 9, 2) := by decide +kernel
theorem dX2_fillRuns_45 : decode cX2_fillRuns 45 = .ok (.iload 4, 2) := by decide +kernel
theorem dX2_fillRuns_47 : decode cX2_fillRuns 47 = .ok (.iconst 1, 1) := by decide +kernel
theorem dX2_fillRuns_48 : decode cX2_fillRuns 48 = .ok (.isub, 1) := by decide +kernel
theorem dX2_fillRuns_49 : decode cX2_fillRuns 49 = .ok (.if_icmp .eq 32, 3) := by decide +kernel
theorem dX2_fillRuns_52 : decode cX2_fillRuns 52 = .ok (.aload_n 0, 1) := by decide +kernel
theorem dX2_fillRuns_53 : decode cX2_fillRuns 53 = .ok (.getfield 35, 3) := by decide +kernel
theorem dX2_fillRuns_56 : decode cX2_fillRuns 56 = .ok (.getfield 140, 3) := by decide +kernel
theorem dX2_fillRuns_59 : decode cX2_fillRuns 59 = .ok (.ifCond .eq 39, 3) := by decide +kernel
theorem dX2_fillRuns_62 : decode cX2_fillRuns 62 = .ok (.aload_n 0, 1) := by decide +kernel
theorem dX2_fillRuns_63 : decode cX2_fillRuns 63 = .ok (.getfield 15, 3) := by decide +kernel
theorem dX2_fillRuns_66 : decode cX2_fillRuns 66 = .ok (.iload 9, 2) := by decide +kernel
theorem dX2_fillRuns_68 : decode cX2_fillRuns 68 = .ok (.iaload, 1) := by decide +kernel
theorem dX2_fillRuns_69 : decode cX2_fillRuns 69 = .ok (.aload_n 0, 1) := by decide +kernel
theorem dX2_fillRuns_70 : decode cX2_fillRuns 70 = .ok (.getfield 15, 3) := by decide +kernel
theorem dX2_fillRuns_73 : decode cX2_fillRuns 73 = .ok (.iload 9, 2) := by decide +kernel
theorem dX2_fillRuns_75 : decode cX2_fillRuns 75 = .ok (.iconst 1, 1) := by decide +kernel
theorem dX2_fillRuns_76 : decode cX2_fillRuns 76 = .ok (.iadd, 1) := by decide +kernel
theorem dX2_fillRuns_77 : decode cX2_fillRuns 77 = .ok (.iaload, 1) := by decide +kernel
theorem dX2_fillRuns_78 : decode cX2_fillRuns 78 = .ok (.if_icmp .eq 20, 3) := by decide +kernel
theorem dX2_fillRuns_81 : decode cX2_fillRuns 81 = .ok (.aload_n 0, 1) := by decide +kernel
theorem dX2_fillRuns_82 : decode cX2_fillRuns 82 = .ok (.iload_n 1, 1) := by decide +kernel
theorem dX2_fillRuns_83 : decode cX2_fillRuns 83 = .ok (.iload_n 2, 1) := by decide +kernel
theorem dX2_fillRuns_84 : decode cX2_fillRuns 84 = .ok (.iload 5, 2) := by decide +kernel
theorem dX2_fillRuns_86 : decode cX2_fillRuns 86 = .ok (.aload_n 0, 1) := by decide +kernel
theorem dX2_fillRuns_87 : decode cX2_fillRuns 87 = .ok (.getfield 15, 3) := by decide +kernel
theorem dX2_fillRuns_90 : decode cX2_fillRuns 90 = .ok (.iload 9, 2) := by decide +kernel
theorem dX2_fillRuns_92 : decode cX2_fillRuns 92 = .ok (.iaload, 1) := by decide +kernel
theorem dX2_fillRuns_93 : decode cX2_fillRuns 93 = .ok (.invokevirtual 75, 3) := by decide +kernel
theorem dX2_fillRuns_96 : decode cX2_fillRuns 96 = .ok (.istore 7, 2) := by decide +kernel
theorem dX2_fillRuns_98 : decode cX2_fillRuns 98 = .ok (.aload_n 0, 1) := by decide +kernel
theorem dX2_fillRuns_99 : decode cX2_fillRuns 99 = .ok (.getfield 15, 3) := by decide +kernel
theorem dX2_fillRuns_102 : decode cX2_fillRuns 102 = .ok (.iload 9, 2) := by decide +kernel
theorem dX2_fillRuns_104 : decode cX2_fillRuns 104 = .ok (.iaload, 1) := by decide +kernel
theorem dX2_fillRuns_105 : decode cX2_fillRuns 105 = .ok (.iload 7, 2) := by decide +kernel
theorem dX2_fillRuns_107 : decode cX2_fillRuns 107 = .ok (.isub, 1) := by decide +kernel
theorem dX2_fillRuns_108 : decode cX2_fillRuns 108 = .ok (.iload 6, 2) := by decide +kernel
theorem dX2_fillRuns_110 : decode cX2_fillRuns 110 = .ok (.if_icmp .lt 10, 3) := by decide +kernel
theorem dX2_fillRuns_113 : decode cX2_fillRuns 113 = .ok (.iload 8, 2) := by decide +kernel
theorem dX2_fillRuns_115 : decode cX2_fillRuns 115 = .ok (.iconst 1, 1) := by decide +kernel
theorem dX2_fillRuns_116 : decode cX2_fillRuns 116 = .ok (.iadd, 1) := by decide +kernel
theorem dX2_fillRuns_117 : decode cX2_fillRuns 117 = .ok (.goto 4, 3) := by decide +kernel
theorem dX2_fillRuns_120 : decode cX2_fillRuns 120 = .ok (.iconst 0, 1) := by decide +kernel
theorem dX2_fillRuns_121 : decode cX2_fillRuns 121 = .ok (.istore 8, 2) := by decide +kernel
theorem dX2_fillRuns_123 : decode cX2_fillRuns 123 = .ok (.aload_n 0, 1) := by decide +kernel
theorem dX2_fillRuns_124 : decode cX2_fillRuns 124 = .ok (.getfield 19, 3) := by decide +kernel
theorem dX2_fillRuns_127 : decode cX2_fillRuns 127 = .ok (.iload 9, 2) := by decide +kernel
theorem dX2_fillRuns_129 : decode cX2_fillRuns 129 = .ok (.iload 8, 2) := by decide +kernel
theorem dX2_fillRuns_131 : decode cX2_fillRuns 131 = .ok (.iastore, 1) := by decide +kernel
theorem dX2_fillRuns_132 : decode cX2_fillRuns 132 = .ok (.iinc 9 (-1), 3) := by decide +kernel
theorem dX2_fillRuns_135 : decode cX2_fillRuns 135 = .ok (.goto (-98), 3) := by decide +kernel
theorem dX2_fillRuns_138 : decode cX2_fillRuns 138 = .ok (.return_, 1) := by decide +kernel
theorem dX2_windowPlace_0 : decode cX2_windowPlace 0 = .ok (.iconst 0, 1) := by decide +kernel
theorem dX2_windowPlace_1 : decode cX2_windowPlace 1 = .ok (.istore_n 3, 1) := by decide +kernel
theorem dX2_windowPlace_2 : decode cX2_windowPlace 2 = .ok (.iconst 0, 1) := by decide +kernel
theorem dX2_windowPlace_3 : decode cX2_windowPlace 3 = .ok (.istore 4, 2) := by decide +kernel
theorem dX2_windowPlace_5 : decode cX2_windowPlace 5 = .ok (.iload 4, 2) := by decide +kernel
theorem dX2_windowPlace_7 : decode cX2_windowPlace 7 = .ok (.sipush 1440, 3) := by decide +kernel
theorem dX2_windowPlace_10 : decode cX2_windowPlace 10 = .ok (.if_icmp .ge 63, 3) := by decide +kernel
theorem dX2_windowPlace_13 : decode cX2_windowPlace 13 = .ok (.aload_n 0, 1) := by decide +kernel
theorem dX2_windowPlace_14 : decode cX2_windowPlace 14 = .ok (.getfield 22, 3) := by decide +kernel
theorem dX2_windowPlace_17 : decode cX2_windowPlace 17 = .ok (.iload 4, 2) := by decide +kernel
theorem dX2_windowPlace_19 : decode cX2_windowPlace 19 = .ok (.iaload, 1) := by decide +kernel
theorem dX2_windowPlace_20 : decode cX2_windowPlace 20 = .ok (.ifCond .eq 47, 3) := by decide +kernel
theorem dX2_windowPlace_23 : decode cX2_windowPlace 23 = .ok (.iload 4, 2) := by decide +kernel
theorem dX2_windowPlace_25 : decode cX2_windowPlace 25 = .ok (.ifCond .le 18, 3) := by decide +kernel
theorem dX2_windowPlace_28 : decode cX2_windowPlace 28 = .ok (.aload_n 0, 1) := by decide +kernel
theorem dX2_windowPlace_29 : decode cX2_windowPlace 29 = .ok (.getfield 22, 3) := by decide +kernel
theorem dX2_windowPlace_32 : decode cX2_windowPlace 32 = .ok (.iload 4, 2) := by decide +kernel
theorem dX2_windowPlace_34 : decode cX2_windowPlace 34 = .ok (.iconst 1, 1) := by decide +kernel
theorem dX2_windowPlace_35 : decode cX2_windowPlace 35 = .ok (.isub, 1) := by decide +kernel
theorem dX2_windowPlace_36 : decode cX2_windowPlace 36 = .ok (.iaload, 1) := by decide +kernel
theorem dX2_windowPlace_37 : decode cX2_windowPlace 37 = .ok (.ifCond .eq 6, 3) := by decide +kernel
theorem dX2_windowPlace_40 : decode cX2_windowPlace 40 = .ok (.goto 27, 3) := by decide +kernel
theorem dX2_windowPlace_43 : decode cX2_windowPlace 43 = .ok (.iload_n 3, 1) := by decide +kernel
theorem dX2_windowPlace_44 : decode cX2_windowPlace 44 = .ok (.iload_n 1, 1) := by decide +kernel
theorem dX2_windowPlace_45 : decode cX2_windowPlace 45 = .ok (.if_icmp .ne 19, 3) := by decide +kernel
theorem dX2_windowPlace_48 : decode cX2_windowPlace 48 = .ok (.iload_n 2, 1) := by decide +kernel
theorem dX2_windowPlace_49 : decode cX2_windowPlace 49 = .ok (.ifCond .ne 8, 3) := by decide +kernel
theorem dX2_windowPlace_52 : decode cX2_windowPlace 52 = .ok (.iload 4, 2) := by decide +kernel
theorem dX2_windowPlace_54 : decode cX2_windowPlace 54 = .ok (.goto 9, 3) := by decide +kernel
theorem dX2_windowPlace_57 : decode cX2_windowPlace 57 = .ok (.aload_n 0, 1) := by decide +kernel
theorem dX2_windowPlace_58 : decode cX2_windowPlace 58 = .ok (.iload 4, 2) := by decide +kernel
theorem dX2_windowPlace_60 : decode cX2_windowPlace 60 = .ok (.invokevirtual 144, 3) := by decide +kernel
theorem dX2_windowPlace_63 : decode cX2_windowPlace 63 = .ok (.ireturn, 1) := by decide +kernel
theorem dX2_windowPlace_64 : decode cX2_windowPlace 64 = .ok (.iinc 3 1, 3) := by decide +kernel
theorem dX2_windowPlace_67 : decode cX2_windowPlace 67 = .ok (.iinc 4 1, 3) := by decide +kernel
theorem dX2_windowPlace_70 : decode cX2_windowPlace 70 = .ok (.goto (-65), 3) := by decide +kernel
theorem dX2_windowPlace_73 : decode cX2_windowPlace 73 = .ok (.iload_n 1, 1) := by decide +kernel
theorem dX2_windowPlace_74 : decode cX2_windowPlace 74 = .ok (.iconst (-1), 1) := by decide +kernel
theorem dX2_windowPlace_75 : decode cX2_windowPlace 75 = .ok (.if_icmp .ne 7, 3) := by decide +kernel
theorem dX2_windowPlace_78 : decode cX2_windowPlace 78 = .ok (.iload_n 3, 1) := by decide +kernel
theorem dX2_windowPlace_79 : decode cX2_windowPlace 79 = .ok (.goto 5, 3) := by decide +kernel
theorem dX2_windowPlace_82 : decode cX2_windowPlace 82 = .ok (.ldc 89, 2) := by decide +kernel
theorem dX2_windowPlace_84 : decode cX2_windowPlace 84 = .ok (.ireturn, 1) := by decide +kernel
theorem dX2_windowEnd_0 : decode cX2_windowEnd 0 = .ok (.iload_n 1, 1) := by decide +kernel
theorem dX2_windowEnd_1 : decode cX2_windowEnd 1 = .ok (.istore_n 2, 1) := by decide +kernel
theorem dX2_windowEnd_2 : decode cX2_windowEnd 2 = .ok (.iload_n 2, 1) := by decide +kernel
theorem dX2_windowEnd_3 : decode cX2_windowEnd 3 = .ok (.sipush 1439, 3) := by decide +kernel
theorem dX2_windowEnd_6 : decode cX2_windowEnd 6 = .ok (.if_icmp .ge 22, 3) := by decide +kernel
theorem dX2_windowEnd_9 : decode cX2_windowEnd 9 = .ok (.aload_n 0, 1) := by decide +kernel
theorem dX2_windowEnd_10 : decode cX2_windowEnd 10 = .ok (.getfield 22, 3) := by decide +kernel
theorem dX2_windowEnd_13 : decode cX2_windowEnd 13 = .ok (.iload_n 2, 1) := by decide +kernel
theorem dX2_windowEnd_14 : decode cX2_windowEnd 14 = .ok (.iconst 1, 1) := by decide +kernel
theorem dX2_windowEnd_15 : decode cX2_windowEnd 15 = .ok (.iadd, 1) := by decide +kernel
theorem dX2_windowEnd_16 : decode cX2_windowEnd 16 = .ok (.iaload, 1) := by decide +kernel
theorem dX2_windowEnd_17 : decode cX2_windowEnd 17 = .ok (.ifCond .ne 5, 3) := by decide +kernel
theorem dX2_windowEnd_20 : decode cX2_windowEnd 20 = .ok (.iload_n 2, 1) := by decide +kernel
theorem dX2_windowEnd_21 : decode cX2_windowEnd 21 = .ok (.ireturn, 1) := by decide +kernel
theorem dX2_windowEnd_22 : decode cX2_windowEnd 22 = .ok (.iinc 2 1, 3) := by decide +kernel
theorem dX2_windowEnd_25 : decode cX2_windowEnd 25 = .ok (.goto (-23), 3) := by decide +kernel
theorem dX2_windowEnd_28 : decode cX2_windowEnd 28 = .ok (.sipush 1439, 3) := by decide +kernel
theorem dX2_windowEnd_31 : decode cX2_windowEnd 31 = .ok (.ireturn, 1) := by decide +kernel
theorem dX2_soonestEnd_0 : decode cX2_soonestEnd 0 = .ok (.aload_n 0, 1) := by decide +kernel
theorem dX2_soonestEnd_1 : decode cX2_soonestEnd 1 = .ok (.getfield 25, 3) := by decide +kernel
theorem dX2_soonestEnd_4 : decode cX2_soonestEnd 4 = .ok (.iconst 0, 1) := by decide +kernel
theorem dX2_soonestEnd_5 : decode cX2_soonestEnd 5 = .ok (.invokestatic 147, 3) := by decide +kernel
theorem dX2_soonestEnd_8 : decode cX2_soonestEnd 8 = .ok (.aload_n 0, 1) := by decide +kernel
theorem dX2_soonestEnd_9 : decode cX2_soonestEnd 9 = .ok (.getfield 25, 3) := by decide +kernel
theorem dX2_soonestEnd_12 : decode cX2_soonestEnd 12 = .ok (.iconst 0, 1) := by decide +kernel
theorem dX2_soonestEnd_13 : decode cX2_soonestEnd 13 = .ok (.iconst 1, 1) := by decide +kernel
theorem dX2_soonestEnd_14 : decode cX2_soonestEnd 14 = .ok (.bastore, 1) := by decide +kernel
theorem dX2_soonestEnd_15 : decode cX2_soonestEnd 15 = .ok (.aload_n 0, 1) := by decide +kernel
theorem dX2_soonestEnd_16 : decode cX2_soonestEnd 16 = .ok (.getfield 35, 3) := by decide +kernel
theorem dX2_soonestEnd_19 : decode cX2_soonestEnd 19 = .ok (.iload_n 1, 1) := by decide +kernel
theorem dX2_soonestEnd_20 : decode cX2_soonestEnd 20 = .ok (.iconst 5, 1) := by decide +kernel
theorem dX2_soonestEnd_21 : decode cX2_soonestEnd 21 = .ok (.invokevirtual 43, 3) := by decide +kernel
theorem dX2_soonestEnd_24 : decode cX2_soonestEnd 24 = .ok (.iconst 1, 1) := by decide +kernel
theorem dX2_soonestEnd_25 : decode cX2_soonestEnd 25 = .ok (.if_icmp .ne 7, 3) := by decide +kernel
theorem dX2_soonestEnd_28 : decode cX2_soonestEnd 28 = .ok (.iconst 1, 1) := by decide +kernel
theorem dX2_soonestEnd_29 : decode cX2_soonestEnd 29 = .ok (.goto 4, 3) := by decide +kernel
theorem dX2_soonestEnd_32 : decode cX2_soonestEnd 32 = .ok (.iconst 0, 1) := by decide +kernel
theorem dX2_soonestEnd_33 : decode cX2_soonestEnd 33 = .ok (.istore_n 3, 1) := by decide +kernel
theorem dX2_soonestEnd_34 : decode cX2_soonestEnd 34 = .ok (.iconst 0, 1) := by decide +kernel
theorem dX2_soonestEnd_35 : decode cX2_soonestEnd 35 = .ok (.istore 4, 2) := by decide +kernel
theorem dX2_soonestEnd_37 : decode cX2_soonestEnd 37 = .ok (.iconst 0, 1) := by decide +kernel
theorem dX2_soonestEnd_38 : decode cX2_soonestEnd 38 = .ok (.istore 5, 2) := by decide +kernel
theorem dX2_soonestEnd_40 : decode cX2_soonestEnd 40 = .ok (.iload 5, 2) := by decide +kernel
theorem dX2_soonestEnd_42 : decode cX2_soonestEnd 42 = .ok (.aload_n 0, 1) := by decide +kernel
theorem dX2_soonestEnd_43 : decode cX2_soonestEnd 43 = .ok (.getfield 35, 3) := by decide +kernel
theorem dX2_soonestEnd_46 : decode cX2_soonestEnd 46 = .ok (.getfield 96, 3) := by decide +kernel
theorem dX2_soonestEnd_49 : decode cX2_soonestEnd 49 = .ok (.if_icmp .ge 167, 3) := by decide +kernel
theorem dX2_soonestEnd_52 : decode cX2_soonestEnd 52 = .ok (.iload 4, 2) := by decide +kernel
theorem dX2_soonestEnd_54 : decode cX2_soonestEnd 54 = .ok (.iconst (-1), 1) := by decide +kernel
theorem dX2_soonestEnd_55 : decode cX2_soonestEnd 55 = .ok (.if_icmp .eq 161, 3) := by decide +kernel
theorem dX2_soonestEnd_58 : decode cX2_soonestEnd 58 = .ok (.iload_n 3, 1) := by decide +kernel
theorem dX2_soonestEnd_59 : decode cX2_soonestEnd 59 = .ok (.ifCond .eq 18, 3) := by decide +kernel
theorem dX2_soonestEnd_62 : decode cX2_soonestEnd 62 = .ok (.aload_n 0, 1) := by decide +kernel
theorem dX2_soonestEnd_63 : decode cX2_soonestEnd 63 = .ok (.getfield 35, 3) := by decide +kernel
theorem dX2_soonestEnd_66 : decode cX2_soonestEnd 66 = .ok (.getfield 96, 3) := by decide +kernel
theorem dX2_soonestEnd_69 : decode cX2_soonestEnd 69 = .ok (.iconst 1, 1) := by decide +kernel
theorem dX2_soonestEnd_70 : decode cX2_soonestEnd 70 = .ok (.isub, 1) := by decide +kernel
theorem dX2_soonestEnd_71 : decode cX2_soonestEnd 71 = .ok (.iload 5, 2) := by decide +kernel
theorem dX2_soonestEnd_73 : decode cX2_soonestEnd 73 = .ok (.isub, 1) := by decide +kernel
theorem dX2_soonestEnd_74 : decode cX2_soonestEnd 74 = .ok (.goto 5, 3) := by decide +kernel
theorem dX2_soonestEnd_77 : decode cX2_soonestEnd 77 = .ok (.iload 5, 2) := by decide +kernel
theorem dX2_soonestEnd_79 : decode cX2_soonestEnd 79 = .ok (.istore 6, 2) := by decide +kernel
theorem dX2_soonestEnd_81 : decode cX2_soonestEnd 81 = .ok (.aload_n 0, 1) := by decide +kernel
theorem dX2_soonestEnd_82 : decode cX2_soonestEnd 82 = .ok (.iload 6, 2) := by decide +kernel
theorem dX2_soonestEnd_84 : decode cX2_soonestEnd 84 = .ok (.iload_n 2, 1) := by decide +kernel
theorem dX2_soonestEnd_85 : decode cX2_soonestEnd 85 = .ok (.sipush 1001, 3) := by decide +kernel
theorem dX2_soonestEnd_88 : decode cX2_soonestEnd 88 = .ok (.invokevirtual 133, 3) := by decide +kernel
theorem dX2_soonestEnd_91 : decode cX2_soonestEnd 91 = .ok (.pop, 1) := by decide +kernel
theorem dX2_soonestEnd_92 : decode cX2_soonestEnd 92 = .ok (.aload_n 0, 1) := by decide +kernel
theorem dX2_soonestEnd_93 : decode cX2_soonestEnd 93 = .ok (.getfield 29, 3) := by decide +kernel
theorem dX2_soonestEnd_96 : decode cX2_soonestEnd 96 = .ok (.iconst 0, 1) := by decide +kernel
theorem dX2_soonestEnd_97 : decode cX2_soonestEnd 97 = .ok (.invokestatic 147, 3) := by decide +kernel
theorem dX2_soonestEnd_100 : decode cX2_soonestEnd 100 = .ok (.aload_n 0, 1) := by decide +kernel
theorem dX2_soonestEnd_101 : decode cX2_soonestEnd 101 = .ok (.getfield 35, 3) := by decide +kernel
theorem dX2_soonestEnd_104 : decode cX2_soonestEnd 104 = .ok (.iload_n 1, 1) := by decide +kernel
theorem dX2_soonestEnd_105 : decode cX2_soonestEnd 105 = .ok (.iconst 3, 1) := by decide +kernel
theorem dX2_soonestEnd_106 : decode cX2_soonestEnd 106 = .ok (.invokevirtual 43, 3) := by decide +kernel
theorem dX2_soonestEnd_109 : decode cX2_soonestEnd 109 = .ok (.istore 7, 2) := by decide +kernel
theorem dX2_soonestEnd_111 : decode cX2_soonestEnd 111 = .ok (.iload 7, 2) := by decide +kernel
theorem dX2_soonestEnd_113 : decode cX2_soonestEnd 113 = .ok (.aload_n 0, 1) := by decide +kernel
theorem dX2_soonestEnd_114 : decode cX2_soonestEnd 114 = .ok (.getfield 35, 3) := by decide +kernel
theorem dX2_soonestEnd_117 : decode cX2_soonestEnd 117 = .ok (.iload_n 1, 1) := by decide +kernel
theorem dX2_soonestEnd_118 : decode cX2_soonestEnd 118 = .ok (.iconst 4, 1) := by decide +kernel
theorem dX2_soonestEnd_119 : decode cX2_soonestEnd 119 = .ok (.invokevirtual 43, 3) := by decide +kernel
theorem dX2_soonestEnd_122 : decode cX2_soonestEnd 122 = .ok (.if_icmp .gt 64, 3) := by decide +kernel
theorem dX2_soonestEnd_125 : decode cX2_soonestEnd 125 = .ok (.iload_n 3, 1) := by decide +kernel
theorem dX2_soonestEnd_126 : decode cX2_soonestEnd 126 = .ok (.ifCond .ne 17, 3) := by decide +kernel
theorem dX2_soonestEnd_129 : decode cX2_soonestEnd 129 = .ok (.aload_n 0, 1) := by decide +kernel
theorem dX2_soonestEnd_130 : decode cX2_soonestEnd 130 = .ok (.getfield 35, 3) := by decide +kernel
theorem dX2_soonestEnd_133 : decode cX2_soonestEnd 133 = .ok (.iload 6, 2) := by decide +kernel
theorem dX2_soonestEnd_135 : decode cX2_soonestEnd 135 = .ok (.iload 7, 2) := by decide +kernel
theorem dX2_soonestEnd_137 : decode cX2_soonestEnd 137 = .ok (.invokevirtual 150, 3) := by decide +kernel
theorem dX2_soonestEnd_140 : decode cX2_soonestEnd 140 = .ok (.goto 25, 3) := by decide +kernel
theorem dX2_soonestEnd_143 : decode cX2_soonestEnd 143 = .ok (.iload 5, 2) := by decide +kernel
theorem dX2_soonestEnd_145 : decode cX2_soonestEnd 145 = .ok (.ifCond .ne 7, 3) := by decide +kernel
theorem dX2_soonestEnd_148 : decode cX2_soonestEnd 148 = .ok (.iconst 0, 1) := by decide +kernel
theorem dX2_soonestEnd_149 : decode cX2_soonestEnd 149 = .ok (.goto 16, 3) := by decide +kernel
theorem dX2_soonestEnd_152 : decode cX2_soonestEnd 152 = .ok (.aload_n 0, 1) := by decide +kernel
theorem dX2_soonestEnd_153 : decode cX2_soonestEnd 153 = .ok (.getfield 35, 3) := by decide +kernel
theorem dX2_soonestEnd_156 : decode cX2_soonestEnd 156 = .ok (.iload 6, 2) := by decide +kernel
theorem dX2_soonestEnd_158 : decode cX2_soonestEnd 158 = .ok (.iconst 1, 1) := by decide +kernel
theorem dX2_soonestEnd_159 : decode cX2_soonestEnd 159 = .ok (.iadd, 1) := by decide +kernel
theorem dX2_soonestEnd_160 : decode cX2_soonestEnd 160 = .ok (.iload 7, 2) := by decide +kernel
theorem dX2_soonestEnd_162 : decode cX2_soonestEnd 162 = .ok (.invokevirtual 150, 3) := by decide +kernel
theorem dX2_soonestEnd_165 : decode cX2_soonestEnd 165 = .ok (.istore 8, 2) := by decide +kernel
