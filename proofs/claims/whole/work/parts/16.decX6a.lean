theorem dX6_thrown_0 : decode cX6_thrown 0 = .ok (.aload_n 0, 1) := by decide +kernel
theorem dX6_thrown_1 : decode cX6_thrown 1 = .ok (.getfield 1, 3) := by decide +kernel
theorem dX6_thrown_4 : decode cX6_thrown 4 = .ok (.ireturn, 1) := by decide +kernel
theorem dX6_isFine_0 : decode cX6_isFine 0 = .ok (.iload_n 1, 1) := by decide +kernel
theorem dX6_isFine_1 : decode cX6_isFine 1 = .ok (.ifCond .ne 25, 3) := by decide +kernel
theorem dX6_isFine_4 : decode cX6_isFine 4 = .ok (.aload_n 0, 1) := by decide +kernel
theorem dX6_isFine_5 : decode cX6_isFine 5 = .ok (.getfield 1, 3) := by decide +kernel
theorem dX6_isFine_8 : decode cX6_isFine 8 = .ok (.ifCond .ne 18, 3) := by decide +kernel
theorem dX6_isFine_11 : decode cX6_isFine 11 = .ok (.aload_n 0, 1) := by decide +kernel
theorem dX6_isFine_12 : decode cX6_isFine 12 = .ok (.iload_n 2, 1) := by decide +kernel
theorem dX6_isFine_13 : decode cX6_isFine 13 = .ok (.putfield 1, 3) := by decide +kernel
theorem dX6_isFine_16 : decode cX6_isFine 16 = .ok (.aload_n 0, 1) := by decide +kernel
theorem dX6_isFine_17 : decode cX6_isFine 17 = .ok (.getfield 7, 3) := by decide +kernel
theorem dX6_isFine_20 : decode cX6_isFine 20 = .ok (.iload_n 3, 1) := by decide +kernel
theorem dX6_isFine_21 : decode cX6_isFine 21 = .ok (.dup2, 1) := by decide +kernel
theorem dX6_isFine_22 : decode cX6_isFine 22 = .ok (.iaload, 1) := by decide +kernel
theorem dX6_isFine_23 : decode cX6_isFine 23 = .ok (.iconst 1, 1) := by decide +kernel
theorem dX6_isFine_24 : decode cX6_isFine 24 = .ok (.iadd, 1) := by decide +kernel
theorem dX6_isFine_25 : decode cX6_isFine 25 = .ok (.iastore, 1) := by decide +kernel
theorem dX6_isFine_26 : decode cX6_isFine 26 = .ok (.aload_n 0, 1) := by decide +kernel
theorem dX6_isFine_27 : decode cX6_isFine 27 = .ok (.getfield 1, 3) := by decide +kernel
theorem dX6_isFine_30 : decode cX6_isFine 30 = .ok (.ifCond .ne 7, 3) := by decide +kernel
theorem dX6_isFine_33 : decode cX6_isFine 33 = .ok (.iconst 1, 1) := by decide +kernel
theorem dX6_isFine_34 : decode cX6_isFine 34 = .ok (.goto 4, 3) := by decide +kernel
theorem dX6_isFine_37 : decode cX6_isFine 37 = .ok (.iconst 0, 1) := by decide +kernel
theorem dX6_isFine_38 : decode cX6_isFine 38 = .ok (.ireturn, 1) := by decide +kernel
theorem dX6_lies_0 : decode cX6_lies 0 = .ok (.lload_n 0, 1) := by decide +kernel
theorem dX6_lies_1 : decode cX6_lies 1 = .ok (.lload_n 2, 1) := by decide +kernel
theorem dX6_lies_2 : decode cX6_lies 2 = .ok (.lcmp, 1) := by decide +kernel
theorem dX6_lies_3 : decode cX6_lies 3 = .ok (.ifCond .lt 14, 3) := by decide +kernel
theorem dX6_lies_6 : decode cX6_lies 6 = .ok (.lload_n 0, 1) := by decide +kernel
theorem dX6_lies_7 : decode cX6_lies 7 = .ok (.lload 4, 2) := by decide +kernel
theorem dX6_lies_9 : decode cX6_lies 9 = .ok (.lcmp, 1) := by decide +kernel
theorem dX6_lies_10 : decode cX6_lies 10 = .ok (.ifCond .gt 7, 3) := by decide +kernel
theorem dX6_lies_13 : decode cX6_lies 13 = .ok (.iconst 1, 1) := by decide +kernel
theorem dX6_lies_14 : decode cX6_lies 14 = .ok (.goto 4, 3) := by decide +kernel
theorem dX6_lies_17 : decode cX6_lies 17 = .ok (.iconst 0, 1) := by decide +kernel
theorem dX6_lies_18 : decode cX6_lies 18 = .ok (.ireturn, 1) := by decide +kernel
theorem dX6_init_0 : decode cX6_init 0 = .ok (.aload_n 0, 1) := by decide +kernel
theorem dX6_init_1 : decode cX6_init 1 = .ok (.invokespecial 11, 3) := by decide +kernel
theorem dX6_init_4 : decode cX6_init 4 = .ok (.aload_n 0, 1) := by decide +kernel
theorem dX6_init_5 : decode cX6_init 5 = .ok (.iconst 3, 1) := by decide +kernel
theorem dX6_init_6 : decode cX6_init 6 = .ok (.newarray .int, 2) := by decide +kernel
theorem dX6_init_8 : decode cX6_init 8 = .ok (.putfield 7, 3) := by decide +kernel
theorem dX6_init_11 : decode cX6_init 11 = .ok (.aload_n 0, 1) := by decide +kernel
theorem dX6_init_12 : decode cX6_init 12 = .ok (.sipush 709, 3) := by decide +kernel
theorem dX6_init_15 : decode cX6_init 15 = .ok (.newarray .int, 2) := by decide +kernel
theorem dX6_init_17 : decode cX6_init 17 = .ok (.putfield 17, 3) := by decide +kernel
theorem dX6_init_20 : decode cX6_init 20 = .ok (.aload_n 0, 1) := by decide +kernel
theorem dX6_init_21 : decode cX6_init 21 = .ok (.sipush 709, 3) := by decide +kernel
theorem dX6_init_24 : decode cX6_init 24 = .ok (.newarray .int, 2) := by decide +kernel
theorem dX6_init_26 : decode cX6_init 26 = .ok (.putfield 20, 3) := by decide +kernel
theorem dX6_init_29 : decode cX6_init 29 = .ok (.aload_n 0, 1) := by decide +kernel
theorem dX6_init_30 : decode cX6_init 30 = .ok (.sipush 5672, 3) := by decide +kernel
theorem dX6_init_33 : decode cX6_init 33 = .ok (.newarray .int, 2) := by decide +kernel
theorem dX6_init_35 : decode cX6_init 35 = .ok (.putfield 23, 3) := by decide +kernel
theorem dX6_init_38 : decode cX6_init 38 = .ok (.aload_n 0, 1) := by decide +kernel
theorem dX6_init_39 : decode cX6_init 39 = .ok (.sipush 600, 3) := by decide +kernel
theorem dX6_init_42 : decode cX6_init 42 = .ok (.newarray .byte, 2) := by decide +kernel
theorem dX6_init_44 : decode cX6_init 44 = .ok (.putfield 26, 3) := by decide +kernel
theorem dX6_init_47 : decode cX6_init 47 = .ok (.aload_n 0, 1) := by decide +kernel
theorem dX6_init_48 : decode cX6_init 48 = .ok (.sipush 600, 3) := by decide +kernel
theorem dX6_init_51 : decode cX6_init 51 = .ok (.newarray .byte, 2) := by decide +kernel
theorem dX6_init_53 : decode cX6_init 53 = .ok (.putfield 30, 3) := by decide +kernel
theorem dX6_init_56 : decode cX6_init 56 = .ok (.aload_n 0, 1) := by decide +kernel
theorem dX6_init_57 : decode cX6_init 57 = .ok (.iconst (-1), 1) := by decide +kernel
theorem dX6_init_58 : decode cX6_init 58 = .ok (.putfield 33, 3) := by decide +kernel
theorem dX6_init_61 : decode cX6_init 61 = .ok (.aload_n 0, 1) := by decide +kernel
theorem dX6_init_62 : decode cX6_init 62 = .ok (.sipush 600, 3) := by decide +kernel
theorem dX6_init_65 : decode cX6_init 65 = .ok (.newarray .long, 2) := by decide +kernel
theorem dX6_init_67 : decode cX6_init 67 = .ok (.putfield 36, 3) := by decide +kernel
theorem dX6_init_70 : decode cX6_init 70 = .ok (.aload_n 0, 1) := by decide +kernel
theorem dX6_init_71 : decode cX6_init 71 = .ok (.sipush 1440, 3) := by decide +kernel
theorem dX6_init_74 : decode cX6_init 74 = .ok (.newarray .boolean, 2) := by decide +kernel
theorem dX6_init_76 : decode cX6_init 76 = .ok (.putfield 40, 3) := by decide +kernel
theorem dX6_init_79 : decode cX6_init 79 = .ok (.aload_n 0, 1) := by decide +kernel
theorem dX6_init_80 : decode cX6_init 80 = .ok (.sipush 1001, 3) := by decide +kernel
theorem dX6_init_83 : decode cX6_init 83 = .ok (.newarray .boolean, 2) := by decide +kernel
theorem dX6_init_85 : decode cX6_init 85 = .ok (.putfield 44, 3) := by decide +kernel
theorem dX6_init_88 : decode cX6_init 88 = .ok (.aload_n 0, 1) := by decide +kernel
theorem dX6_init_89 : decode cX6_init 89 = .ok (.sipush 1001, 3) := by decide +kernel
theorem dX6_init_92 : decode cX6_init 92 = .ok (.newarray .boolean, 2) := by decide +kernel
theorem dX6_init_94 : decode cX6_init 94 = .ok (.putfield 47, 3) := by decide +kernel
theorem dX6_init_97 : decode cX6_init 97 = .ok (.aload_n 0, 1) := by decide +kernel
theorem dX6_init_98 : decode cX6_init 98 = .ok (.sipush 1001, 3) := by decide +kernel
theorem dX6_init_101 : decode cX6_init 101 = .ok (.newarray .boolean, 2) := by decide +kernel
theorem dX6_init_103 : decode cX6_init 103 = .ok (.putfield 50, 3) := by decide +kernel
theorem dX6_init_106 : decode cX6_init 106 = .ok (.aload_n 0, 1) := by decide +kernel
theorem dX6_init_107 : decode cX6_init 107 = .ok (.sipush 15840, 3) := by decide +kernel
theorem dX6_init_110 : decode cX6_init 110 = .ok (.newarray .boolean, 2) := by decide +kernel
theorem dX6_init_112 : decode cX6_init 112 = .ok (.putfield 53, 3) := by decide +kernel
theorem dX6_init_115 : decode cX6_init 115 = .ok (.aload_n 0, 1) := by decide +kernel
theorem dX6_init_116 : decode cX6_init 116 = .ok (.bipush 6, 2) := by decide +kernel
theorem dX6_init_118 : decode cX6_init 118 = .ok (.newarray .int, 2) := by decide +kernel
theorem dX6_init_120 : decode cX6_init 120 = .ok (.putfield 56, 3) := by decide +kernel
theorem dX6_init_123 : decode cX6_init 123 = .ok (.aload_n 0, 1) := by decide +kernel
theorem dX6_init_124 : decode cX6_init 124 = .ok (.bipush 6, 2) := by decide +kernel
theorem dX6_init_126 : decode cX6_init 126 = .ok (.newarray .int, 2) := by decide +kernel
theorem dX6_init_128 : decode cX6_init 128 = .ok (.putfield 59, 3) := by decide +kernel
theorem dX6_init_131 : decode cX6_init 131 = .ok (.aload_n 0, 1) := by decide +kernel
theorem dX6_init_132 : decode cX6_init 132 = .ok (.getfield 17, 3) := by decide +kernel
theorem dX6_init_135 : decode cX6_init 135 = .ok (.iconst 1, 1) := by decide +kernel
theorem dX6_init_136 : decode cX6_init 136 = .ok (.bipush 15, 2) := by decide +kernel
theorem dX6_init_138 : decode cX6_init 138 = .ok (.iastore, 1) := by decide +kernel
theorem dX6_init_139 : decode cX6_init 139 = .ok (.return_, 1) := by decide +kernel
theorem dX6_keeps_0 : decode cX6_keeps 0 = .ok (.aload_n 0, 1) := by decide +kernel
theorem dX6_keeps_1 : decode cX6_keeps 1 = .ok (.getfield 62, 3) := by decide +kernel
theorem dX6_keeps_4 : decode cX6_keeps 4 = .ok (.bipush 8, 2) := by decide +kernel
theorem dX6_keeps_6 : decode cX6_keeps 6 = .ok (.if_icmp .ne 44, 3) := by decide +kernel
theorem dX6_keeps_9 : decode cX6_keeps 9 = .ok (.iconst 0, 1) := by decide +kernel
theorem dX6_keeps_10 : decode cX6_keeps 10 = .ok (.istore_n 1, 1) := by decide +kernel
theorem dX6_keeps_11 : decode cX6_keeps 11 = .ok (.iload_n 1, 1) := by decide +kernel
theorem dX6_keeps_12 : decode cX6_keeps 12 = .ok (.sipush 4963, 3) := by decide +kernel
theorem dX6_keeps_15 : decode cX6_keeps 15 = .ok (.if_icmp .ge 25, 3) := by decide +kernel
theorem dX6_keeps_18 : decode cX6_keeps 18 = .ok (.aload_n 0, 1) := by decide +kernel
theorem dX6_keeps_19 : decode cX6_keeps 19 = .ok (.getfield 23, 3) := by decide +kernel
theorem dX6_keeps_22 : decode cX6_keeps 22 = .ok (.iload_n 1, 1) := by decide +kernel
theorem dX6_keeps_23 : decode cX6_keeps 23 = .ok (.aload_n 0, 1) := by decide +kernel
theorem dX6_keeps_24 : decode cX6_keeps 24 = .ok (.getfield 23, 3) := by decide +kernel
theorem dX6_keeps_27 : decode cX6_keeps 27 = .ok (.iload_n 1, 1) := by decide +kernel
theorem dX6_keeps_28 : decode cX6_keeps 28 = .ok (.sipush 709, 3) := by decide +kernel
theorem dX6_keeps_31 : decode cX6_keeps 31 = .ok (.iadd, 1) := by decide +kernel
theorem dX6_keeps_32 : decode cX6_keeps 32 = .ok (.iaload, 1) := by decide +kernel
theorem dX6_keeps_33 : decode cX6_keeps 33 = .ok (.iastore, 1) := by decide +kernel
theorem dX6_keeps_34 : decode cX6_keeps 34 = .ok (.iinc 1 1, 3) := by decide +kernel
theorem dX6_keeps_37 : decode cX6_keeps 37 = .ok (.goto (-26), 3) := by decide +kernel
theorem dX6_keeps_40 : decode cX6_keeps 40 = .ok (.aload_n 0, 1) := by decide +kernel
theorem dX6_keeps_41 : decode cX6_keeps 41 = .ok (.dup, 1) := by decide +kernel
theorem dX6_keeps_42 : decode cX6_keeps 42 = .ok (.getfield 62, 3) := by decide +kernel
theorem dX6_keeps_45 : decode cX6_keeps 45 = .ok (.iconst 1, 1) := by decide +kernel
theorem dX6_keeps_46 : decode cX6_keeps 46 = .ok (.isub, 1) := by decide +kernel
theorem dX6_keeps_47 : decode cX6_keeps 47 = .ok (.putfield 62, 3) := by decide +kernel
theorem dX6_keeps_50 : decode cX6_keeps 50 = .ok (.iconst 0, 1) := by decide +kernel
theorem dX6_keeps_51 : decode cX6_keeps 51 = .ok (.istore_n 1, 1) := by decide +kernel
theorem dX6_keeps_52 : decode cX6_keeps 52 = .ok (.iload_n 1, 1) := by decide +kernel
theorem dX6_keeps_53 : decode cX6_keeps 53 = .ok (.sipush 709, 3) := by decide +kernel
theorem dX6_keeps_56 : decode cX6_keeps 56 = .ok (.if_icmp .ge 30, 3) := by decide +kernel
theorem dX6_keeps_59 : decode cX6_keeps 59 = .ok (.aload_n 0, 1) := by decide +kernel
theorem dX6_keeps_60 : decode cX6_keeps 60 = .ok (.getfield 23, 3) := by decide +kernel
theorem dX6_keeps_63 : decode cX6_keeps 63 = .ok (.sipush 709, 3) := by decide +kernel
theorem dX6_keeps_66 : decode cX6_keeps 66 = .ok (.aload_n 0, 1) := by decide +kernel
theorem dX6_keeps_67 : decode cX6_keeps 67 = .ok (.getfield 62, 3) := by decide +kernel
theorem dX6_keeps_70 : decode cX6_keeps 70 = .ok (.imul, 1) := by decide +kernel
theorem dX6_keeps_71 : decode cX6_keeps 71 = .ok (.iload_n 1, 1) := by decide +kernel
theorem dX6_keeps_72 : decode cX6_keeps 72 = .ok (.iadd, 1) := by decide +kernel
theorem dX6_keeps_73 : decode cX6_keeps 73 = .ok (.aload_n 0, 1) := by decide +kernel
theorem dX6_keeps_74 : decode cX6_keeps 74 = .ok (.getfield 17, 3) := by decide +kernel
theorem dX6_keeps_77 : decode cX6_keeps 77 = .ok (.iload_n 1, 1) := by decide +kernel
theorem dX6_keeps_78 : decode cX6_keeps 78 = .ok (.iaload, 1) := by decide +kernel
theorem dX6_keeps_79 : decode cX6_keeps 79 = .ok (.iastore, 1) := by decide +kernel
theorem dX6_keeps_80 : decode cX6_keeps 80 = .ok (.iinc 1 1, 3) := by decide +kernel
theorem dX6_keeps_83 : decode cX6_keeps 83 = .ok (.goto (-31), 3) := by decide +kernel
theorem dX6_keeps_86 : decode cX6_keeps 86 = .ok (.aload_n 0, 1) := by decide +kernel
theorem dX6_keeps_87 : decode cX6_keeps 87 = .ok (.dup, 1) := by decide +kernel
theorem dX6_keeps_88 : decode cX6_keeps 88 = .ok (.getfield 62, 3) := by decide +kernel
theorem dX6_keeps_91 : decode cX6_keeps 91 = .ok (.iconst 1, 1) := by decide +kernel
theorem dX6_keeps_92 : decode cX6_keeps 92 = .ok (.iadd, 1) := by decide +kernel
theorem dX6_keeps_93 : decode cX6_keeps 93 = .ok (.putfield 62, 3) := by decide +kernel
theorem dX6_keeps_96 : decode cX6_keeps 96 = .ok (.return_, 1) := by decide +kernel
theorem dX6_undo_0 : decode cX6_undo 0 = .ok (.aload_n 0, 1) := by decide +kernel
theorem dX6_undo_1 : decode cX6_undo 1 = .ok (.iconst 0, 1) := by decide +kernel
theorem dX6_undo_2 : decode cX6_undo 2 = .ok (.putfield 1, 3) := by decide +kernel
theorem dX6_undo_5 : decode cX6_undo 5 = .ok (.aload_n 0, 1) := by decide +kernel
theorem dX6_undo_6 : decode cX6_undo 6 = .ok (.getfield 62, 3) := by decide +kernel
theorem dX6_undo_9 : decode cX6_undo 9 = .ok (.ifCond .ne 5, 3) := by decide +kernel
theorem dX6_undo_12 : decode cX6_undo 12 = .ok (.iconst (-1), 1) := by decide +kernel
theorem dX6_undo_13 : decode cX6_undo 13 = .ok (.ireturn, 1) := by decide +kernel
theorem dX6_undo_14 : decode cX6_undo 14 = .ok (.aload_n 0, 1) := by decide +kernel
theorem dX6_undo_15 : decode cX6_undo 15 = .ok (.dup, 1) := by decide +kernel
theorem dX6_undo_16 : decode cX6_undo 16 = .ok (.getfield 62, 3) := by decide +kernel
theorem dX6_undo_19 : decode cX6_undo 19 = .ok (.iconst 1, 1) := by decide +kernel
theorem dX6_undo_20 : decode cX6_undo 20 = .ok (.isub, 1) := by decide +kernel
theorem dX6_undo_21 : decode cX6_undo 21 = .ok (.putfield 62, 3) := by decide +kernel
theorem dX6_undo_24 : decode cX6_undo 24 = .ok (.iconst 0, 1) := by decide +kernel
theorem dX6_undo_25 : decode cX6_undo 25 = .ok (.istore_n 1, 1) := by decide +kernel
theorem dX6_undo_26 : decode cX6_undo 26 = .ok (.iload_n 1, 1) := by decide +kernel
theorem dX6_undo_27 : decode cX6_undo 27 = .ok (.sipush 709, 3) := by decide +kernel
theorem dX6_undo_30 : decode cX6_undo 30 = .ok (.if_icmp .ge 30, 3) := by decide +kernel
theorem dX6_undo_33 : decode cX6_undo 33 = .ok (.aload_n 0, 1) := by decide +kernel
theorem dX6_undo_34 : decode cX6_undo 34 = .ok (.getfield 17, 3) := by decide +kernel
theorem dX6_undo_37 : decode cX6_undo 37 = .ok (.iload_n 1, 1) := by decide +kernel
theorem dX6_undo_38 : decode cX6_undo 38 = .ok (.aload_n 0, 1) := by decide +kernel
theorem dX6_undo_39 : decode cX6_undo 39 = .ok (.getfield 23, 3) := by decide +kernel
theorem dX6_undo_42 : decode cX6_undo 42 = .ok (.sipush 709, 3) := by decide +kernel
theorem dX6_undo_45 : decode cX6_undo 45 = .ok (.aload_n 0, 1) := by decide +kernel
theorem dX6_undo_46 : decode cX6_undo 46 = .ok (.getfield 62, 3) := by decide +kernel
theorem dX6_undo_49 : decode cX6_undo 49 = .ok (.imul, 1) := by decide +kernel
theorem dX6_undo_50 : decode cX6_undo 50 = .ok (.iload_n 1, 1) := by decide +kernel
theorem dX6_undo_51 : decode cX6_undo 51 = .ok (.iadd, 1) := by decide +kernel
theorem dX6_undo_52 : decode cX6_undo 52 = .ok (.iaload, 1) := by decide +kernel
theorem dX6_undo_53 : decode cX6_undo 53 = .ok (.iastore, 1) := by decide +kernel
theorem dX6_undo_54 : decode cX6_undo 54 = .ok (.iinc 1 1, 3) := by decide +kernel
theorem dX6_undo_57 : decode cX6_undo 57 = .ok (.goto (-31), 3) := by decide +kernel
theorem dX6_undo_60 : decode cX6_undo 60 = .ok (.aload_n 0, 1) := by decide +kernel
theorem dX6_undo_61 : decode cX6_undo 61 = .ok (.getfield 62, 3) := by decide +kernel
theorem dX6_undo_64 : decode cX6_undo 64 = .ok (.ireturn, 1) := by decide +kernel
theorem dX6_ofBar_0 : decode cX6_ofBar 0 = .ok (.aload_n 0, 1) := by decide +kernel
theorem dX6_ofBar_1 : decode cX6_ofBar 1 = .ok (.getfield 17, 3) := by decide +kernel
theorem dX6_ofBar_4 : decode cX6_ofBar 4 = .ok (.bipush 24, 2) := by decide +kernel
theorem dX6_ofBar_6 : decode cX6_ofBar 6 = .ok (.bipush 6, 2) := by decide +kernel
theorem dX6_ofBar_8 : decode cX6_ofBar 8 = .ok (.iload_n 1, 1) := by decide +kernel
theorem dX6_ofBar_9 : decode cX6_ofBar 9 = .ok (.imul, 1) := by decide +kernel
theorem dX6_ofBar_10 : decode cX6_ofBar 10 = .ok (.iadd, 1) := by decide +kernel
theorem dX6_ofBar_11 : decode cX6_ofBar 11 = .ok (.iload_n 2, 1) := by decide +kernel
theorem dX6_ofBar_12 : decode cX6_ofBar 12 = .ok (.iadd, 1) := by decide +kernel
theorem dX6_ofBar_13 : decode cX6_ofBar 13 = .ok (.iaload, 1) := by decide +kernel
theorem dX6_ofBar_14 : decode cX6_ofBar 14 = .ok (.ireturn, 1) := by decide +kernel
theorem dX6_ofShip_0 : decode cX6_ofShip 0 = .ok (.aload_n 0, 1) := by decide +kernel
theorem dX6_ofShip_1 : decode cX6_ofShip 1 = .ok (.getfield 17, 3) := by decide +kernel
theorem dX6_ofShip_4 : decode cX6_ofShip 4 = .ok (.bipush 60, 2) := by decide +kernel
theorem dX6_ofShip_6 : decode cX6_ofShip 6 = .ok (.bipush 8, 2) := by decide +kernel
theorem dX6_ofShip_8 : decode cX6_ofShip 8 = .ok (.iload_n 1, 1) := by decide +kernel
theorem dX6_ofShip_9 : decode cX6_ofShip 9 = .ok (.imul, 1) := by decide +kernel
theorem dX6_ofShip_10 : decode cX6_ofShip 10 = .ok (.iadd, 1) := by decide +kernel
theorem dX6_ofShip_11 : decode cX6_ofShip 11 = .ok (.iload_n 2, 1) := by decide +kernel
theorem dX6_ofShip_12 : decode cX6_ofShip 12 = .ok (.iadd, 1) := by decide +kernel
theorem dX6_ofShip_13 : decode cX6_ofShip 13 = .ok (.iaload, 1) := by decide +kernel
theorem dX6_ofShip_14 : decode cX6_ofShip 14 = .ok (.ireturn, 1) := by decide +kernel
theorem dX6_feed_0 : decode cX6_feed 0 = .ok (.aload_n 0, 1) := by decide +kernel
theorem dX6_feed_1 : decode cX6_feed 1 = .ok (.iconst 0, 1) := by decide +kernel
theorem dX6_feed_2 : decode cX6_feed 2 = .ok (.putfield 1, 3) := by decide +kernel
theorem dX6_feed_5 : decode cX6_feed 5 = .ok (.aload_n 0, 1) := by decide +kernel
theorem dX6_feed_6 : decode cX6_feed 6 = .ok (.getfield 65, 3) := by decide +kernel
theorem dX6_feed_9 : decode cX6_feed 9 = .ok (.bipush 20, 2) := by decide +kernel
theorem dX6_feed_11 : decode cX6_feed 11 = .ok (.iadd, 1) := by decide +kernel
theorem dX6_feed_12 : decode cX6_feed 12 = .ok (.sipush 600, 3) := by decide +kernel
theorem dX6_feed_15 : decode cX6_feed 15 = .ok (.if_icmp .le 5, 3) := by decide +kernel
theorem dX6_feed_18 : decode cX6_feed 18 = .ok (.iconst (-1), 1) := by decide +kernel
theorem dX6_feed_19 : decode cX6_feed 19 = .ok (.ireturn, 1) := by decide +kernel
theorem dX6_feed_20 : decode cX6_feed 20 = .ok (.aload_n 0, 1) := by decide +kernel
theorem dX6_feed_21 : decode cX6_feed 21 = .ok (.iload_n 1, 1) := by decide +kernel
theorem dX6_feed_22 : decode cX6_feed 22 = .ok (.invokevirtual 68, 3) := by decide +kernel
theorem dX6_feed_25 : decode cX6_feed 25 = .ok (.aload_n 0, 1) := by decide +kernel
theorem dX6_feed_26 : decode cX6_feed 26 = .ok (.iload_n 2, 1) := by decide +kernel
theorem dX6_feed_27 : decode cX6_feed 27 = .ok (.invokevirtual 68, 3) := by decide +kernel
theorem dX6_feed_30 : decode cX6_feed 30 = .ok (.aload_n 0, 1) := by decide +kernel
theorem dX6_feed_31 : decode cX6_feed 31 = .ok (.iload_n 3, 1) := by decide +kernel
theorem dX6_feed_32 : decode cX6_feed 32 = .ok (.invokevirtual 68, 3) := by decide +kernel
theorem dX6_feed_35 : decode cX6_feed 35 = .ok (.aload_n 0, 1) := by decide +kernel
theorem dX6_feed_36 : decode cX6_feed 36 = .ok (.iload 4, 2) := by decide +kernel
theorem dX6_feed_38 : decode cX6_feed 38 = .ok (.invokevirtual 68, 3) := by decide +kernel
theorem dX6_feed_41 : decode cX6_feed 41 = .ok (.aload_n 0, 1) := by decide +kernel
theorem dX6_feed_42 : decode cX6_feed 42 = .ok (.iload 5, 2) := by decide +kernel
theorem dX6_feed_44 : decode cX6_feed 44 = .ok (.invokevirtual 68, 3) := by decide +kernel
theorem dX6_feed_47 : decode cX6_feed 47 = .ok (.aload_n 0, 1) := by decide +kernel
theorem dX6_feed_48 : decode cX6_feed 48 = .ok (.getfield 65, 3) := by decide +kernel
theorem dX6_feed_51 : decode cX6_feed 51 = .ok (.ireturn, 1) := by decide +kernel
theorem dX6_puts_0 : decode cX6_puts 0 = .ok (.bipush 24, 2) := by decide +kernel
theorem dX6_puts_2 : decode cX6_puts 2 = .ok (.istore_n 2, 1) := by decide +kernel
theorem dX6_puts_3 : decode cX6_puts 3 = .ok (.iload_n 2, 1) := by decide +kernel
theorem dX6_puts_4 : decode cX6_puts 4 = .ok (.ifCond .lt 32, 3) := by decide +kernel
theorem dX6_puts_7 : decode cX6_puts 7 = .ok (.aload_n 0, 1) := by decide +kernel
theorem dX6_puts_8 : decode cX6_puts 8 = .ok (.getfield 26, 3) := by decide +kernel
theorem dX6_puts_11 : decode cX6_puts 11 = .ok (.aload_n 0, 1) := by decide +kernel
theorem dX6_puts_12 : decode cX6_puts 12 = .ok (.getfield 65, 3) := by decide +kernel
theorem dX6_puts_15 : decode cX6_puts 15 = .ok (.iload_n 1, 1) := by decide +kernel
theorem dX6_puts_16 : decode cX6_puts 16 = .ok (.iload_n 2, 1) := by decide +kernel
theorem dX6_puts_17 : decode cX6_puts 17 = .ok (.ishr, 1) := by decide +kernel
theorem dX6_puts_18 : decode cX6_puts 18 = .ok (.i2b, 1) := by decide +kernel
theorem dX6_puts_19 : decode cX6_puts 19 = .ok (.bastore, 1) := by decide +kernel
theorem dX6_puts_20 : decode cX6_puts 20 = .ok (.aload_n 0, 1) := by decide +kernel
theorem dX6_puts_21 : decode cX6_puts 21 = .ok (.dup, 1) := by decide +kernel
theorem dX6_puts_22 : decode cX6_puts 22 = .ok (.getfield 65, 3) := by decide +kernel
theorem dX6_puts_25 : decode cX6_puts 25 = .ok (.iconst 1, 1) := by decide +kernel
theorem dX6_puts_26 : decode cX6_puts 26 = .ok (.iadd, 1) := by decide +kernel
theorem dX6_puts_27 : decode cX6_puts 27 = .ok (.putfield 65, 3) := by decide +kernel
theorem dX6_puts_30 : decode cX6_puts 30 = .ok (.iinc 2 (-8), 3) := by decide +kernel
theorem dX6_puts_33 : decode cX6_puts 33 = .ok (.goto (-30), 3) := by decide +kernel
theorem dX6_puts_36 : decode cX6_puts 36 = .ok (.return_, 1) := by decide +kernel
theorem dX6_wrong_0 : decode cX6_wrong 0 = .ok (.aload_n 0, 1) := by decide +kernel
theorem dX6_wrong_1 : decode cX6_wrong 1 = .ok (.getfield 72, 3) := by decide +kernel
theorem dX6_wrong_4 : decode cX6_wrong 4 = .ok (.ifCond .le 4, 3) := by decide +kernel
theorem dX6_wrong_7 : decode cX6_wrong 7 = .ok (.return_, 1) := by decide +kernel
theorem dX6_wrong_8 : decode cX6_wrong 8 = .ok (.aload_n 0, 1) := by decide +kernel
theorem dX6_wrong_9 : decode cX6_wrong 9 = .ok (.iload_n 1, 1) := by decide +kernel
theorem dX6_wrong_10 : decode cX6_wrong 10 = .ok (.putfield 72, 3) := by decide +kernel
theorem dX6_wrong_13 : decode cX6_wrong 13 = .ok (.aload_n 0, 1) := by decide +kernel
theorem dX6_wrong_14 : decode cX6_wrong 14 = .ok (.iload_n 2, 1) := by decide +kernel
theorem dX6_wrong_15 : decode cX6_wrong 15 = .ok (.putfield 75, 3) := by decide +kernel
theorem dX6_wrong_18 : decode cX6_wrong 18 = .ok (.return_, 1) := by decide +kernel
theorem dX6_sign_0 : decode cX6_sign 0 = .ok (.aload_n 0, 1) := by decide +kernel
theorem dX6_sign_1 : decode cX6_sign 1 = .ok (.getfield 78, 3) := by decide +kernel
theorem dX6_sign_4 : decode cX6_sign 4 = .ok (.aload_n 0, 1) := by decide +kernel
theorem dX6_sign_5 : decode cX6_sign 5 = .ok (.getfield 81, 3) := by decide +kernel
theorem dX6_sign_8 : decode cX6_sign 8 = .ok (.if_icmp .ge 30, 3) := by decide +kernel
theorem dX6_sign_11 : decode cX6_sign 11 = .ok (.aload_n 0, 1) := by decide +kernel
theorem dX6_sign_12 : decode cX6_sign 12 = .ok (.getfield 30, 3) := by decide +kernel
theorem dX6_sign_15 : decode cX6_sign 15 = .ok (.aload_n 0, 1) := by decide +kernel
theorem dX6_sign_16 : decode cX6_sign 16 = .ok (.getfield 78, 3) := by decide +kernel
theorem dX6_sign_19 : decode cX6_sign 19 = .ok (.baload, 1) := by decide +kernel
theorem dX6_sign_20 : decode cX6_sign 20 = .ok (.bipush 32, 2) := by decide +kernel
theorem dX6_sign_22 : decode cX6_sign 22 = .ok (.if_icmp .ne 16, 3) := by decide +kernel
theorem dX6_sign_25 : decode cX6_sign 25 = .ok (.aload_n 0, 1) := by decide +kernel
theorem dX6_sign_26 : decode cX6_sign 26 = .ok (.dup, 1) := by decide +kernel
theorem dX6_sign_27 : decode cX6_sign 27 = .ok (.getfield 78, 3) := by decide +kernel
theorem dX6_sign_30 : decode cX6_sign 30 = .ok (.iconst 1, 1) := by decide +kernel
theorem dX6_sign_31 : decode cX6_sign 31 = .ok (.iadd, 1) := by decide +kernel
theorem dX6_sign_32 : decode cX6_sign 32 = .ok (.putfield 78, 3) := by decide +kernel
theorem dX6_sign_35 : decode cX6_sign 35 = .ok (.goto (-35), 3) := by decide +kernel
theorem dX6_sign_38 : decode cX6_sign 38 = .ok (.aload_n 0, 1) := by decide +kernel
theorem dX6_sign_39 : decode cX6_sign 39 = .ok (.getfield 78, 3) := by decide +kernel
theorem dX6_sign_42 : decode cX6_sign 42 = .ok (.aload_n 0, 1) := by decide +kernel
theorem dX6_sign_43 : decode cX6_sign 43 = .ok (.getfield 81, 3) := by decide +kernel
theorem dX6_sign_46 : decode cX6_sign 46 = .ok (.if_icmp .ge 15, 3) := by decide +kernel
theorem dX6_sign_49 : decode cX6_sign 49 = .ok (.aload_n 0, 1) := by decide +kernel
theorem dX6_sign_50 : decode cX6_sign 50 = .ok (.getfield 30, 3) := by decide +kernel
theorem dX6_sign_53 : decode cX6_sign 53 = .ok (.aload_n 0, 1) := by decide +kernel
theorem dX6_sign_54 : decode cX6_sign 54 = .ok (.getfield 78, 3) := by decide +kernel
theorem dX6_sign_57 : decode cX6_sign 57 = .ok (.baload, 1) := by decide +kernel
theorem dX6_sign_58 : decode cX6_sign 58 = .ok (.goto 4, 3) := by decide +kernel
theorem dX6_sign_61 : decode cX6_sign 61 = .ok (.iconst 0, 1) := by decide +kernel
theorem dX6_sign_62 : decode cX6_sign 62 = .ok (.ireturn, 1) := by decide +kernel
theorem dX6_isSmall_0 : decode cX6_isSmall 0 = .ok (.iload_n 1, 1) := by decide +kernel
theorem dX6_isSmall_1 : decode cX6_isSmall 1 = .ok (.aload_n 0, 1) := by decide +kernel
theorem dX6_isSmall_2 : decode cX6_isSmall 2 = .ok (.getfield 81, 3) := by decide +kernel
theorem dX6_isSmall_5 : decode cX6_isSmall 5 = .ok (.if_icmp .ge 29, 3) := by decide +kernel
theorem dX6_isSmall_8 : decode cX6_isSmall 8 = .ok (.aload_n 0, 1) := by decide +kernel
theorem dX6_isSmall_9 : decode cX6_isSmall 9 = .ok (.getfield 30, 3) := by decide +kernel
theorem dX6_isSmall_12 : decode cX6_isSmall 12 = .ok (.iload_n 1, 1) := by decide +kernel
theorem dX6_isSmall_13 : decode cX6_isSmall 13 = .ok (.baload, 1) := by decide +kernel
theorem dX6_isSmall_14 : decode cX6_isSmall 14 = .ok (.bipush 97, 2) := by decide +kernel
theorem dX6_isSmall_16 : decode cX6_isSmall 16 = .ok (.if_icmp .lt 18, 3) := by decide +kernel
theorem dX6_isSmall_19 : decode cX6_isSmall 19 = .ok (.aload_n 0, 1) := by decide +kernel
theorem dX6_isSmall_20 : decode cX6_isSmall 20 = .ok (.getfield 30, 3) := by decide +kernel
theorem dX6_isSmall_23 : decode cX6_isSmall 23 = .ok (.iload_n 1, 1) := by decide +kernel
theorem dX6_isSmall_24 : decode cX6_isSmall 24 = .ok (.baload, 1) := by decide +kernel
theorem dX6_isSmall_25 : decode cX6_isSmall 25 = .ok (.bipush 122, 2) := by decide +kernel
theorem dX6_isSmall_27 : decode cX6_isSmall 27 = .ok (.if_icmp .gt 7, 3) := by decide +kernel
theorem dX6_isSmall_30 : decode cX6_isSmall 30 = .ok (.iconst 1, 1) := by decide +kernel
theorem dX6_isSmall_31 : decode cX6_isSmall 31 = .ok (.goto 4, 3) := by decide +kernel
theorem dX6_isSmall_34 : decode cX6_isSmall 34 = .ok (.iconst 0, 1) := by decide +kernel
theorem dX6_isSmall_35 : decode cX6_isSmall 35 = .ok (.ireturn, 1) := by decide +kernel
theorem dX6_isFigure_0 : decode cX6_isFigure 0 = .ok (.iload_n 1, 1) := by decide +kernel
theorem dX6_isFigure_1 : decode cX6_isFigure 1 = .ok (.aload_n 0, 1) := by decide +kernel
theorem dX6_isFigure_2 : decode cX6_isFigure 2 = .ok (.getfield 81, 3) := by decide +kernel
theorem dX6_isFigure_5 : decode cX6_isFigure 5 = .ok (.if_icmp .ge 29, 3) := by decide +kernel
theorem dX6_isFigure_8 : decode cX6_isFigure 8 = .ok (.aload_n 0, 1) := by decide +kernel
theorem dX6_isFigure_9 : decode cX6_isFigure 9 = .ok (.getfield 30, 3) := by decide +kernel
theorem dX6_isFigure_12 : decode cX6_isFigure 12 = .ok (.iload_n 1, 1) := by decide +kernel
theorem dX6_isFigure_13 : decode cX6_isFigure 13 = .ok (.baload, 1) := by decide +kernel
theorem dX6_isFigure_14 : decode cX6_isFigure 14 = .ok (.bipush 48, 2) := by decide +kernel
theorem dX6_isFigure_16 : decode cX6_isFigure 16 = .ok (.if_icmp .lt 18, 3) := by decide +kernel
theorem dX6_isFigure_19 : decode cX6_isFigure 19 = .ok (.aload_n 0, 1) := by decide +kernel
theorem dX6_isFigure_20 : decode cX6_isFigure 20 = .ok (.getfield 30, 3) := by decide +kernel
theorem dX6_isFigure_23 : decode cX6_isFigure 23 = .ok (.iload_n 1, 1) := by decide +kernel
theorem dX6_isFigure_24 : decode cX6_isFigure 24 = .ok (.baload, 1) := by decide +kernel
theorem dX6_isFigure_25 : decode cX6_isFigure 25 = .ok (.bipush 57, 2) := by decide +kernel
theorem dX6_isFigure_27 : decode cX6_isFigure 27 = .ok (.if_icmp .gt 7, 3) := by decide +kernel
theorem dX6_isFigure_30 : decode cX6_isFigure 30 = .ok (.iconst 1, 1) := by decide +kernel
theorem dX6_isFigure_31 : decode cX6_isFigure 31 = .ok (.goto 4, 3) := by decide +kernel
theorem dX6_isFigure_34 : decode cX6_isFigure 34 = .ok (.iconst 0, 1) := by decide +kernel
theorem dX6_isFigure_35 : decode cX6_isFigure 35 = .ok (.ireturn, 1) := by decide +kernel
theorem dX6_isHere_0 : decode cX6_isHere 0 = .ok (.aload_n 0, 1) := by decide +kernel
theorem dX6_isHere_1 : decode cX6_isHere 1 = .ok (.invokevirtual 84, 3) := by decide +kernel
theorem dX6_isHere_4 : decode cX6_isHere 4 = .ok (.pop, 1) := by decide +kernel
theorem dX6_isHere_5 : decode cX6_isHere 5 = .ok (.iconst 0, 1) := by decide +kernel
theorem dX6_isHere_6 : decode cX6_isHere 6 = .ok (.istore_n 2, 1) := by decide +kernel
theorem dX6_isHere_7 : decode cX6_isHere 7 = .ok (.iload_n 2, 1) := by decide +kernel
theorem dX6_isHere_8 : decode cX6_isHere 8 = .ok (.aload_n 1, 1) := by decide +kernel
theorem dX6_isHere_9 : decode cX6_isHere 9 = .ok (.invokevirtual 88, 3) := by decide +kernel
theorem dX6_isHere_12 : decode cX6_isHere 12 = .ok (.if_icmp .ge 43, 3) := by decide +kernel
theorem dX6_isHere_15 : decode cX6_isHere 15 = .ok (.aload_n 0, 1) := by decide +kernel
theorem dX6_isHere_16 : decode cX6_isHere 16 = .ok (.aload_n 0, 1) := by decide +kernel
theorem dX6_isHere_17 : decode cX6_isHere 17 = .ok (.getfield 78, 3) := by decide +kernel
theorem dX6_isHere_20 : decode cX6_isHere 20 = .ok (.iload_n 2, 1) := by decide +kernel
theorem dX6_isHere_21 : decode cX6_isHere 21 = .ok (.iadd, 1) := by decide +kernel
theorem dX6_isHere_22 : decode cX6_isHere 22 = .ok (.invokevirtual 93, 3) := by decide +kernel
theorem dX6_isHere_25 : decode cX6_isHere 25 = .ok (.ifCond .eq 22, 3) := by decide +kernel
theorem dX6_isHere_28 : decode cX6_isHere 28 = .ok (.aload_n 0, 1) := by decide +kernel
theorem dX6_isHere_29 : decode cX6_isHere 29 = .ok (.getfield 30, 3) := by decide +kernel
theorem dX6_isHere_32 : decode cX6_isHere 32 = .ok (.aload_n 0, 1) := by decide +kernel
theorem dX6_isHere_33 : decode cX6_isHere 33 = .ok (.getfield 78, 3) := by decide +kernel
theorem dX6_isHere_36 : decode cX6_isHere 36 = .ok (.iload_n 2, 1) := by decide +kernel
theorem dX6_isHere_37 : decode cX6_isHere 37 = .ok (.iadd, 1) := by decide +kernel
theorem dX6_isHere_38 : decode cX6_isHere 38 = .ok (.baload, 1) := by decide +kernel
theorem dX6_isHere_39 : decode cX6_isHere 39 = .ok (.aload_n 1, 1) := by decide +kernel
theorem dX6_isHere_40 : decode cX6_isHere 40 = .ok (.iload_n 2, 1) := by decide +kernel
theorem dX6_isHere_41 : decode cX6_isHere 41 = .ok (.invokevirtual 97, 3) := by decide +kernel
theorem dX6_isHere_44 : decode cX6_isHere 44 = .ok (.if_icmp .eq 5, 3) := by decide +kernel
theorem dX6_isHere_47 : decode cX6_isHere 47 = .ok (.iconst 0, 1) := by decide +kernel
theorem dX6_isHere_48 : decode cX6_isHere 48 = .ok (.ireturn, 1) := by decide +kernel
theorem dX6_isHere_49 : decode cX6_isHere 49 = .ok (.iinc 2 1, 3) := by decide +kernel
theorem dX6_isHere_52 : decode cX6_isHere 52 = .ok (.goto (-45), 3) := by decide +kernel
theorem dX6_isHere_55 : decode cX6_isHere 55 = .ok (.aload_n 0, 1) := by decide +kernel
theorem dX6_isHere_56 : decode cX6_isHere 56 = .ok (.aload_n 0, 1) := by decide +kernel
theorem dX6_isHere_57 : decode cX6_isHere 57 = .ok (.getfield 78, 3) := by decide +kernel
theorem dX6_isHere_60 : decode cX6_isHere 60 = .ok (.aload_n 1, 1) := by decide +kernel
theorem dX6_isHere_61 : decode cX6_isHere 61 = .ok (.invokevirtual 88, 3) := by decide +kernel
theorem dX6_isHere_64 : decode cX6_isHere 64 = .ok (.iadd, 1) := by decide +kernel
theorem dX6_isHere_65 : decode cX6_isHere 65 = .ok (.invokevirtual 93, 3) := by decide +kernel
theorem dX6_isHere_68 : decode cX6_isHere 68 = .ok (.ifCond .ne 7, 3) := by decide +kernel
theorem dX6_isHere_71 : decode cX6_isHere 71 = .ok (.iconst 1, 1) := by decide +kernel
theorem dX6_isHere_72 : decode cX6_isHere 72 = .ok (.goto 4, 3) := by decide +kernel
theorem dX6_isHere_75 : decode cX6_isHere 75 = .ok (.iconst 0, 1) := by decide +kernel
theorem dX6_isHere_76 : decode cX6_isHere 76 = .ok (.ireturn, 1) := by decide +kernel
theorem dX6_passesWord_0 : decode cX6_passesWord 0 = .ok (.aload_n 0, 1) := by decide +kernel
theorem dX6_passesWord_1 : decode cX6_passesWord 1 = .ok (.getfield 72, 3) := by decide +kernel
theorem dX6_passesWord_4 : decode cX6_passesWord 4 = .ok (.ifCond .gt 11, 3) := by decide +kernel
theorem dX6_passesWord_7 : decode cX6_passesWord 7 = .ok (.aload_n 0, 1) := by decide +kernel
theorem dX6_passesWord_8 : decode cX6_passesWord 8 = .ok (.aload_n 1, 1) := by decide +kernel
theorem dX6_passesWord_9 : decode cX6_passesWord 9 = .ok (.invokevirtual 101, 3) := by decide +kernel
theorem dX6_passesWord_12 : decode cX6_passesWord 12 = .ok (.ifCond .ne 5, 3) := by decide +kernel
theorem dX6_passesWord_15 : decode cX6_passesWord 15 = .ok (.iconst 0, 1) := by decide +kernel
theorem dX6_passesWord_16 : decode cX6_passesWord 16 = .ok (.ireturn, 1) := by decide +kernel
theorem dX6_passesWord_17 : decode cX6_passesWord 17 = .ok (.aload_n 0, 1) := by decide +kernel
theorem dX6_passesWord_18 : decode cX6_passesWord 18 = .ok (.dup, 1) := by decide +kernel
theorem dX6_passesWord_19 : decode cX6_passesWord 19 = .ok (.getfield 78, 3) := by decide +kernel
theorem dX6_passesWord_22 : decode cX6_passesWord 22 = .ok (.aload_n 1, 1) := by decide +kernel
theorem dX6_passesWord_23 : decode cX6_passesWord 23 = .ok (.invokevirtual 88, 3) := by decide +kernel
theorem dX6_passesWord_26 : decode cX6_passesWord 26 = .ok (.iadd, 1) := by decide +kernel
theorem dX6_passesWord_27 : decode cX6_passesWord 27 = .ok (.putfield 78, 3) := by decide +kernel
theorem dX6_passesWord_30 : decode cX6_passesWord 30 = .ok (.iconst 1, 1) := by decide +kernel
theorem dX6_passesWord_31 : decode cX6_passesWord 31 = .ok (.ireturn, 1) := by decide +kernel
theorem dX6_passesSign_0 : decode cX6_passesSign 0 = .ok (.aload_n 0, 1) := by decide +kernel
theorem dX6_passesSign_1 : decode cX6_passesSign 1 = .ok (.getfield 72, 3) := by decide +kernel
theorem dX6_passesSign_4 : decode cX6_passesSign 4 = .ok (.ifCond .gt 22, 3) := by decide +kernel
theorem dX6_passesSign_7 : decode cX6_passesSign 7 = .ok (.aload_n 0, 1) := by decide +kernel
theorem dX6_passesSign_8 : decode cX6_passesSign 8 = .ok (.invokevirtual 84, 3) := by decide +kernel
theorem dX6_passesSign_11 : decode cX6_passesSign 11 = .ok (.iload_n 1, 1) := by decide +kernel
theorem dX6_passesSign_12 : decode cX6_passesSign 12 = .ok (.if_icmp .ne 14, 3) := by decide +kernel
theorem dX6_passesSign_15 : decode cX6_passesSign 15 = .ok (.aload_n 0, 1) := by decide +kernel
theorem dX6_passesSign_16 : decode cX6_passesSign 16 = .ok (.getfield 78, 3) := by decide +kernel
theorem dX6_passesSign_19 : decode cX6_passesSign 19 = .ok (.aload_n 0, 1) := by decide +kernel
theorem dX6_passesSign_20 : decode cX6_passesSign 20 = .ok (.getfield 81, 3) := by decide +kernel
theorem dX6_passesSign_23 : decode cX6_passesSign 23 = .ok (.if_icmp .lt 5, 3) := by decide +kernel
theorem dX6_passesSign_26 : decode cX6_passesSign 26 = .ok (.iconst 0, 1) := by decide +kernel
theorem dX6_passesSign_27 : decode cX6_passesSign 27 = .ok (.ireturn, 1) := by decide +kernel
theorem dX6_passesSign_28 : decode cX6_passesSign 28 = .ok (.aload_n 0, 1) := by decide +kernel
theorem dX6_passesSign_29 : decode cX6_passesSign 29 = .ok (.dup, 1) := by decide +kernel
theorem dX6_passesSign_30 : decode cX6_passesSign 30 = .ok (.getfield 78, 3) := by decide +kernel
theorem dX6_passesSign_33 : decode cX6_passesSign 33 = .ok (.iconst 1, 1) := by decide +kernel
theorem dX6_passesSign_34 : decode cX6_passesSign 34 = .ok (.iadd, 1) := by decide +kernel
theorem dX6_passesSign_35 : decode cX6_passesSign 35 = .ok (.putfield 78, 3) := by decide +kernel
theorem dX6_passesSign_38 : decode cX6_passesSign 38 = .ok (.iconst 1, 1) := by decide +kernel
theorem dX6_passesSign_39 : decode cX6_passesSign 39 = .ok (.ireturn, 1) := by decide +kernel
theorem dX6_number_0 : decode cX6_number 0 = .ok (.aload_n 0, 1) := by decide +kernel
theorem dX6_number_1 : decode cX6_number 1 = .ok (.invokevirtual 84, 3) := by decide +kernel
theorem dX6_number_4 : decode cX6_number 4 = .ok (.pop, 1) := by decide +kernel
theorem dX6_number_5 : decode cX6_number 5 = .ok (.aload_n 0, 1) := by decide +kernel
theorem dX6_number_6 : decode cX6_number 6 = .ok (.getfield 72, 3) := by decide +kernel
theorem dX6_number_9 : decode cX6_number 9 = .ok (.ifCond .le 5, 3) := by decide +kernel
theorem dX6_number_12 : decode cX6_number 12 = .ok (.iconst 0, 1) := by decide +kernel
theorem dX6_number_13 : decode cX6_number 13 = .ok (.ireturn, 1) := by decide +kernel
theorem dX6_number_14 : decode cX6_number 14 = .ok (.aload_n 0, 1) := by decide +kernel
theorem dX6_number_15 : decode cX6_number 15 = .ok (.aload_n 0, 1) := by decide +kernel
theorem dX6_number_16 : decode cX6_number 16 = .ok (.getfield 78, 3) := by decide +kernel
theorem dX6_number_19 : decode cX6_number 19 = .ok (.putfield 105, 3) := by decide +kernel
theorem dX6_number_22 : decode cX6_number 22 = .ok (.aload_n 0, 1) := by decide +kernel
theorem dX6_number_23 : decode cX6_number 23 = .ok (.aload_n 0, 1) := by decide +kernel
theorem dX6_number_24 : decode cX6_number 24 = .ok (.getfield 78, 3) := by decide +kernel
theorem dX6_number_27 : decode cX6_number 27 = .ok (.invokevirtual 108, 3) := by decide +kernel
theorem dX6_number_30 : decode cX6_number 30 = .ok (.ifCond .ne 12, 3) := by decide +kernel
theorem dX6_number_33 : decode cX6_number 33 = .ok (.aload_n 0, 1) := by decide +kernel
theorem dX6_number_34 : decode cX6_number 34 = .ok (.iconst 1, 1) := by decide +kernel
theorem dX6_number_35 : decode cX6_number 35 = .ok (.aload_n 0, 1) := by decide +kernel
theorem dX6_number_36 : decode cX6_number 36 = .ok (.getfield 78, 3) := by decide +kernel
theorem dX6_number_39 : decode cX6_number 39 = .ok (.invokevirtual 111, 3) := by decide +kernel
theorem dX6_number_42 : decode cX6_number 42 = .ok (.iconst 0, 1) := by decide +kernel
theorem dX6_number_43 : decode cX6_number 43 = .ok (.istore_n 3, 1) := by decide +kernel
theorem dX6_number_44 : decode cX6_number 44 = .ok (.aload_n 0, 1) := by decide +kernel
theorem dX6_number_45 : decode cX6_number 45 = .ok (.getfield 72, 3) := by decide +kernel
theorem dX6_number_48 : decode cX6_number 48 = .ok (.ifCond .ne 50, 3) := by decide +kernel
theorem dX6_number_51 : decode cX6_number 51 = .ok (.aload_n 0, 1) := by decide +kernel
theorem dX6_number_52 : decode cX6_number 52 = .ok (.aload_n 0, 1) := by decide +kernel
theorem dX6_number_53 : decode cX6_number 53 = .ok (.getfield 78, 3) := by decide +kernel
theorem dX6_number_56 : decode cX6_number 56 = .ok (.invokevirtual 108, 3) := by decide +kernel
theorem dX6_number_59 : decode cX6_number 59 = .ok (.ifCond .eq 39, 3) := by decide +kernel
theorem dX6_number_62 : decode cX6_number 62 = .ok (.bipush 10, 2) := by decide +kernel
theorem dX6_number_64 : decode cX6_number 64 = .ok (.iload_n 3, 1) := by decide +kernel
theorem dX6_number_65 : decode cX6_number 65 = .ok (.imul, 1) := by decide +kernel
theorem dX6_number_66 : decode cX6_number 66 = .ok (.aload_n 0, 1) := by decide +kernel
theorem dX6_number_67 : decode cX6_number 67 = .ok (.getfield 30, 3) := by decide +kernel
theorem dX6_number_70 : decode cX6_number 70 = .ok (.aload_n 0, 1) := by decide +kernel
theorem dX6_number_71 : decode cX6_number 71 = .ok (.getfield 78, 3) := by decide +kernel
theorem dX6_number_74 : decode cX6_number 74 = .ok (.baload, 1) := by decide +kernel
theorem dX6_number_75 : decode cX6_number 75 = .ok (.iadd, 1) := by decide +kernel
theorem dX6_number_76 : decode cX6_number 76 = .ok (.bipush 48, 2) := by decide +kernel
theorem dX6_number_78 : decode cX6_number 78 = .ok (.isub, 1) := by decide +kernel
theorem dX6_number_79 : decode cX6_number 79 = .ok (.ldc 115, 2) := by decide +kernel
theorem dX6_number_81 : decode cX6_number 81 = .ok (.invokestatic 116, 3) := by decide +kernel
theorem dX6_number_84 : decode cX6_number 84 = .ok (.istore_n 3, 1) := by decide +kernel
theorem dX6_number_85 : decode cX6_number 85 = .ok (.aload_n 0, 1) := by decide +kernel
theorem dX6_number_86 : decode cX6_number 86 = .ok (.dup, 1) := by decide +kernel
theorem dX6_number_87 : decode cX6_number 87 = .ok (.getfield 78, 3) := by decide +kernel
theorem dX6_number_90 : decode cX6_number 90 = .ok (.iconst 1, 1) := by decide +kernel
theorem dX6_number_91 : decode cX6_number 91 = .ok (.iadd, 1) := by decide +kernel
theorem dX6_number_92 : decode cX6_number 92 = .ok (.putfield 78, 3) := by decide +kernel
theorem dX6_number_95 : decode cX6_number 95 = .ok (.goto (-51), 3) := by decide +kernel
theorem dX6_number_98 : decode cX6_number 98 = .ok (.iload_n 3, 1) := by decide +kernel
theorem dX6_number_99 : decode cX6_number 99 = .ok (.i2l, 1) := by decide +kernel
theorem dX6_number_100 : decode cX6_number 100 = .ok (.iload_n 1, 1) := by decide +kernel
theorem dX6_number_101 : decode cX6_number 101 = .ok (.i2l, 1) := by decide +kernel
theorem dX6_number_102 : decode cX6_number 102 = .ok (.iload_n 2, 1) := by decide +kernel
theorem dX6_number_103 : decode cX6_number 103 = .ok (.i2l, 1) := by decide +kernel
theorem dX6_number_104 : decode cX6_number 104 = .ok (.invokestatic 122, 3) := by decide +kernel
theorem dX6_number_107 : decode cX6_number 107 = .ok (.ifCond .ne 12, 3) := by decide +kernel
theorem dX6_number_110 : decode cX6_number 110 = .ok (.aload_n 0, 1) := by decide +kernel
theorem dX6_number_111 : decode cX6_number 111 = .ok (.iconst 2, 1) := by decide +kernel
theorem dX6_number_112 : decode cX6_number 112 = .ok (.aload_n 0, 1) := by decide +kernel
theorem dX6_number_113 : decode cX6_number 113 = .ok (.getfield 105, 3) := by decide +kernel
theorem dX6_number_116 : decode cX6_number 116 = .ok (.invokevirtual 111, 3) := by decide +kernel
theorem dX6_number_119 : decode cX6_number 119 = .ok (.iload_n 3, 1) := by decide +kernel
theorem dX6_number_120 : decode cX6_number 120 = .ok (.ireturn, 1) := by decide +kernel
theorem dX6_code_0 : decode cX6_code 0 = .ok (.aload_n 0, 1) := by decide +kernel
theorem dX6_code_1 : decode cX6_code 1 = .ok (.getfield 20, 3) := by decide +kernel
theorem dX6_code_4 : decode cX6_code 4 = .ok (.bipush 109, 2) := by decide +kernel
theorem dX6_code_6 : decode cX6_code 6 = .ok (.aload_n 0, 1) := by decide +kernel
theorem dX6_code_7 : decode cX6_code 7 = .ok (.getfield 20, 3) := by decide +kernel
theorem dX6_code_10 : decode cX6_code 10 = .ok (.bipush 108, 2) := by decide +kernel
theorem dX6_code_12 : decode cX6_code 12 = .ok (.iaload, 1) := by decide +kernel
theorem dX6_code_13 : decode cX6_code 13 = .ok (.iadd, 1) := by decide +kernel
theorem dX6_code_14 : decode cX6_code 14 = .ok (.iload_n 1, 1) := by decide +kernel
theorem dX6_code_15 : decode cX6_code 15 = .ok (.iastore, 1) := by decide +kernel
theorem dX6_code_16 : decode cX6_code 16 = .ok (.aload_n 0, 1) := by decide +kernel
theorem dX6_code_17 : decode cX6_code 17 = .ok (.getfield 20, 3) := by decide +kernel
theorem dX6_code_20 : decode cX6_code 20 = .ok (.bipush 108, 2) := by decide +kernel
theorem dX6_code_22 : decode cX6_code 22 = .ok (.dup2, 1) := by decide +kernel
theorem dX6_code_23 : decode cX6_code 23 = .ok (.iaload, 1) := by decide +kernel
theorem dX6_code_24 : decode cX6_code 24 = .ok (.iconst 1, 1) := by decide +kernel
theorem dX6_code_25 : decode cX6_code 25 = .ok (.iadd, 1) := by decide +kernel
theorem dX6_code_26 : decode cX6_code 26 = .ok (.iastore, 1) := by decide +kernel
theorem dX6_code_27 : decode cX6_code 27 = .ok (.return_, 1) := by decide +kernel
theorem dX6_sumRead_0 : decode cX6_sumRead 0 = .ok (.aload_n 0, 1) := by decide +kernel
theorem dX6_sumRead_1 : decode cX6_sumRead 1 = .ok (.invokevirtual 126, 3) := by decide +kernel
theorem dX6_sumRead_4 : decode cX6_sumRead 4 = .ok (.aload_n 0, 1) := by decide +kernel
theorem dX6_sumRead_5 : decode cX6_sumRead 5 = .ok (.getfield 72, 3) := by decide +kernel
theorem dX6_sumRead_8 : decode cX6_sumRead 8 = .ok (.ifCond .ne 50, 3) := by decide +kernel
theorem dX6_sumRead_11 : decode cX6_sumRead 11 = .ok (.aload_n 0, 1) := by decide +kernel
theorem dX6_sumRead_12 : decode cX6_sumRead 12 = .ok (.bipush 43, 2) := by decide +kernel
theorem dX6_sumRead_14 : decode cX6_sumRead 14 = .ok (.invokevirtual 129, 3) := by decide +kernel
theorem dX6_sumRead_17 : decode cX6_sumRead 17 = .ok (.ifCond .eq 8, 3) := by decide +kernel
theorem dX6_sumRead_20 : decode cX6_sumRead 20 = .ok (.bipush (-11), 2) := by decide +kernel
theorem dX6_sumRead_22 : decode cX6_sumRead 22 = .ok (.goto 18, 3) := by decide +kernel
theorem dX6_sumRead_25 : decode cX6_sumRead 25 = .ok (.aload_n 0, 1) := by decide +kernel
theorem dX6_sumRead_26 : decode cX6_sumRead 26 = .ok (.bipush 45, 2) := by decide +kernel
theorem dX6_sumRead_28 : decode cX6_sumRead 28 = .ok (.invokevirtual 129, 3) := by decide +kernel
theorem dX6_sumRead_31 : decode cX6_sumRead 31 = .ok (.ifCond .eq 8, 3) := by decide +kernel
theorem dX6_sumRead_34 : decode cX6_sumRead 34 = .ok (.bipush (-12), 2) := by decide +kernel
theorem dX6_sumRead_36 : decode cX6_sumRead 36 = .ok (.goto 4, 3) := by decide +kernel
theorem dX6_sumRead_39 : decode cX6_sumRead 39 = .ok (.iconst 0, 1) := by decide +kernel
theorem dX6_sumRead_40 : decode cX6_sumRead 40 = .ok (.istore_n 1, 1) := by decide +kernel
theorem dX6_sumRead_41 : decode cX6_sumRead 41 = .ok (.iload_n 1, 1) := by decide +kernel
theorem dX6_sumRead_42 : decode cX6_sumRead 42 = .ok (.ifCond .ne 4, 3) := by decide +kernel
theorem dX6_sumRead_45 : decode cX6_sumRead 45 = .ok (.return_, 1) := by decide +kernel
theorem dX6_sumRead_46 : decode cX6_sumRead 46 = .ok (.aload_n 0, 1) := by decide +kernel
theorem dX6_sumRead_47 : decode cX6_sumRead 47 = .ok (.invokevirtual 126, 3) := by decide +kernel
theorem dX6_sumRead_50 : decode cX6_sumRead 50 = .ok (.aload_n 0, 1) := by decide +kernel
theorem dX6_sumRead_51 : decode cX6_sumRead 51 = .ok (.iload_n 1, 1) := by decide +kernel
theorem dX6_sumRead_52 : decode cX6_sumRead 52 = .ok (.invokevirtual 132, 3) := by decide +kernel
theorem dX6_sumRead_55 : decode cX6_sumRead 55 = .ok (.goto (-51), 3) := by decide +kernel
theorem dX6_sumRead_58 : decode cX6_sumRead 58 = .ok (.return_, 1) := by decide +kernel
theorem dX6_productRead_0 : decode cX6_productRead 0 = .ok (.aload_n 0, 1) := by decide +kernel
theorem dX6_productRead_1 : decode cX6_productRead 1 = .ok (.invokevirtual 135, 3) := by decide +kernel
theorem dX6_productRead_4 : decode cX6_productRead 4 = .ok (.aload_n 0, 1) := by decide +kernel
theorem dX6_productRead_5 : decode cX6_productRead 5 = .ok (.getfield 72, 3) := by decide +kernel
theorem dX6_productRead_8 : decode cX6_productRead 8 = .ok (.ifCond .ne 50, 3) := by decide +kernel
theorem dX6_productRead_11 : decode cX6_productRead 11 = .ok (.aload_n 0, 1) := by decide +kernel
theorem dX6_productRead_12 : decode cX6_productRead 12 = .ok (.bipush 42, 2) := by decide +kernel
theorem dX6_productRead_14 : decode cX6_productRead 14 = .ok (.invokevirtual 129, 3) := by decide +kernel
theorem dX6_productRead_17 : decode cX6_productRead 17 = .ok (.ifCond .eq 8, 3) := by decide +kernel
theorem dX6_productRead_20 : decode cX6_productRead 20 = .ok (.bipush (-13), 2) := by decide +kernel
theorem dX6_productRead_22 : decode cX6_productRead 22 = .ok (.goto 18, 3) := by decide +kernel
theorem dX6_productRead_25 : decode cX6_productRead 25 = .ok (.aload_n 0, 1) := by decide +kernel
theorem dX6_productRead_26 : decode cX6_productRead 26 = .ok (.bipush 47, 2) := by decide +kernel
theorem dX6_productRead_28 : decode cX6_productRead 28 = .ok (.invokevirtual 129, 3) := by decide +kernel
theorem dX6_productRead_31 : decode cX6_productRead 31 = .ok (.ifCond .eq 8, 3) := by decide +kernel
theorem dX6_productRead_34 : decode cX6_productRead 34 = .ok (.bipush (-14), 2) := by decide +kernel
theorem dX6_productRead_36 : decode cX6_productRead 36 = .ok (.goto 4, 3) := by decide +kernel
theorem dX6_productRead_39 : decode cX6_productRead 39 = .ok (.iconst 0, 1) := by decide +kernel
theorem dX6_productRead_40 : decode cX6_productRead 40 = .ok (.istore_n 1, 1) := by decide +kernel
theorem dX6_productRead_41 : decode cX6_productRead 41 = .ok (.iload_n 1, 1) := by decide +kernel
theorem dX6_productRead_42 : decode cX6_productRead 42 = .ok (.ifCond .ne 4, 3) := by decide +kernel
theorem dX6_productRead_45 : decode cX6_productRead 45 = .ok (.return_, 1) := by decide +kernel
theorem dX6_productRead_46 : decode cX6_productRead 46 = .ok (.aload_n 0, 1) := by decide +kernel
theorem dX6_productRead_47 : decode cX6_productRead 47 = .ok (.invokevirtual 135, 3) := by decide +kernel
theorem dX6_productRead_50 : decode cX6_productRead 50 = .ok (.aload_n 0, 1) := by decide +kernel
theorem dX6_productRead_51 : decode cX6_productRead 51 = .ok (.iload_n 1, 1) := by decide +kernel
theorem dX6_productRead_52 : decode cX6_productRead 52 = .ok (.invokevirtual 132, 3) := by decide +kernel
theorem dX6_productRead_55 : decode cX6_productRead 55 = .ok (.goto (-51), 3) := by decide +kernel
theorem dX6_productRead_58 : decode cX6_productRead 58 = .ok (.return_, 1) := by decide +kernel
theorem dX6_partRead_0 : decode cX6_partRead 0 = .ok (.aload_n 0, 1) := by decide +kernel
theorem dX6_partRead_1 : decode cX6_partRead 1 = .ok (.invokevirtual 84, 3) := by decide +kernel
theorem dX6_partRead_4 : decode cX6_partRead 4 = .ok (.istore_n 1, 1) := by decide +kernel
theorem dX6_partRead_5 : decode cX6_partRead 5 = .ok (.aload_n 0, 1) := by decide +kernel
theorem dX6_partRead_6 : decode cX6_partRead 6 = .ok (.getfield 72, 3) := by decide +kernel
theorem dX6_partRead_9 : decode cX6_partRead 9 = .ok (.ifCond .le 4, 3) := by decide +kernel
theorem dX6_partRead_12 : decode cX6_partRead 12 = .ok (.return_, 1) := by decide +kernel
theorem dX6_partRead_13 : decode cX6_partRead 13 = .ok (.iload_n 1, 1) := by decide +kernel
theorem dX6_partRead_14 : decode cX6_partRead 14 = .ok (.bipush 40, 2) := by decide +kernel
theorem dX6_partRead_16 : decode cX6_partRead 16 = .ok (.if_icmp .ne 99, 3) := by decide +kernel
theorem dX6_partRead_19 : decode cX6_partRead 19 = .ok (.aload_n 0, 1) := by decide +kernel
theorem dX6_partRead_20 : decode cX6_partRead 20 = .ok (.getfield 78, 3) := by decide +kernel
theorem dX6_partRead_23 : decode cX6_partRead 23 = .ok (.aload_n 0, 1) := by decide +kernel
theorem dX6_partRead_24 : decode cX6_partRead 24 = .ok (.getfield 81, 3) := by decide +kernel
theorem dX6_partRead_27 : decode cX6_partRead 27 = .ok (.if_icmp .ge 88, 3) := by decide +kernel
theorem dX6_partRead_30 : decode cX6_partRead 30 = .ok (.aload_n 0, 1) := by decide +kernel
theorem dX6_partRead_31 : decode cX6_partRead 31 = .ok (.getfield 138, 3) := by decide +kernel
theorem dX6_partRead_34 : decode cX6_partRead 34 = .ok (.iconst 4, 1) := by decide +kernel
theorem dX6_partRead_35 : decode cX6_partRead 35 = .ok (.if_icmp .ne 12, 3) := by decide +kernel
theorem dX6_partRead_38 : decode cX6_partRead 38 = .ok (.aload_n 0, 1) := by decide +kernel
theorem dX6_partRead_39 : decode cX6_partRead 39 = .ok (.iconst 4, 1) := by decide +kernel
theorem dX6_partRead_40 : decode cX6_partRead 40 = .ok (.aload_n 0, 1) := by decide +kernel
theorem dX6_partRead_41 : decode cX6_partRead 41 = .ok (.getfield 78, 3) := by decide +kernel
theorem dX6_partRead_44 : decode cX6_partRead 44 = .ok (.invokevirtual 111, 3) := by decide +kernel
theorem dX6_partRead_47 : decode cX6_partRead 47 = .ok (.aload_n 0, 1) := by decide +kernel
theorem dX6_partRead_48 : decode cX6_partRead 48 = .ok (.getfield 72, 3) := by decide +kernel
theorem dX6_partRead_51 : decode cX6_partRead 51 = .ok (.ifCond .le 4, 3) := by decide +kernel
theorem dX6_partRead_54 : decode cX6_partRead 54 = .ok (.return_, 1) := by decide +kernel
theorem dX6_partRead_55 : decode cX6_partRead 55 = .ok (.aload_n 0, 1) := by decide +kernel
theorem dX6_partRead_56 : decode cX6_partRead 56 = .ok (.dup, 1) := by decide +kernel
theorem dX6_partRead_57 : decode cX6_partRead 57 = .ok (.getfield 138, 3) := by decide +kernel
theorem dX6_partRead_60 : decode cX6_partRead 60 = .ok (.iconst 1, 1) := by decide +kernel
theorem dX6_partRead_61 : decode cX6_partRead 61 = .ok (.iadd, 1) := by decide +kernel
theorem dX6_partRead_62 : decode cX6_partRead 62 = .ok (.putfield 138, 3) := by decide +kernel
theorem dX6_partRead_65 : decode cX6_partRead 65 = .ok (.aload_n 0, 1) := by decide +kernel
theorem dX6_partRead_66 : decode cX6_partRead 66 = .ok (.dup, 1) := by decide +kernel
theorem dX6_partRead_67 : decode cX6_partRead 67 = .ok (.getfield 78, 3) := by decide +kernel
theorem dX6_partRead_70 : decode cX6_partRead 70 = .ok (.iconst 1, 1) := by decide +kernel
theorem dX6_partRead_71 : decode cX6_partRead 71 = .ok (.iadd, 1) := by decide +kernel
theorem dX6_partRead_72 : decode cX6_partRead 72 = .ok (.putfield 78, 3) := by decide +kernel
theorem dX6_partRead_75 : decode cX6_partRead 75 = .ok (.aload_n 0, 1) := by decide +kernel
theorem dX6_partRead_76 : decode cX6_partRead 76 = .ok (.invokevirtual 141, 3) := by decide +kernel
theorem dX6_partRead_79 : decode cX6_partRead 79 = .ok (.aload_n 0, 1) := by decide +kernel
theorem dX6_partRead_80 : decode cX6_partRead 80 = .ok (.getfield 72, 3) := by decide +kernel
theorem dX6_partRead_83 : decode cX6_partRead 83 = .ok (.ifCond .ne 21, 3) := by decide +kernel
theorem dX6_partRead_86 : decode cX6_partRead 86 = .ok (.aload_n 0, 1) := by decide +kernel
theorem dX6_partRead_87 : decode cX6_partRead 87 = .ok (.bipush 41, 2) := by decide +kernel
theorem dX6_partRead_89 : decode cX6_partRead 89 = .ok (.invokevirtual 129, 3) := by decide +kernel
theorem dX6_partRead_92 : decode cX6_partRead 92 = .ok (.ifCond .ne 12, 3) := by decide +kernel
theorem dX6_partRead_95 : decode cX6_partRead 95 = .ok (.aload_n 0, 1) := by decide +kernel
theorem dX6_partRead_96 : decode cX6_partRead 96 = .ok (.iconst 1, 1) := by decide +kernel
theorem dX6_partRead_97 : decode cX6_partRead 97 = .ok (.aload_n 0, 1) := by decide +kernel
theorem dX6_partRead_98 : decode cX6_partRead 98 = .ok (.getfield 78, 3) := by decide +kernel
theorem dX6_partRead_101 : decode cX6_partRead 101 = .ok (.invokevirtual 111, 3) := by decide +kernel
theorem dX6_partRead_104 : decode cX6_partRead 104 = .ok (.aload_n 0, 1) := by decide +kernel
theorem dX6_partRead_105 : decode cX6_partRead 105 = .ok (.dup, 1) := by decide +kernel
theorem dX6_partRead_106 : decode cX6_partRead 106 = .ok (.getfield 138, 3) := by decide +kernel
theorem dX6_partRead_109 : decode cX6_partRead 109 = .ok (.iconst 1, 1) := by decide +kernel
theorem dX6_partRead_110 : decode cX6_partRead 110 = .ok (.isub, 1) := by decide +kernel
theorem dX6_partRead_111 : decode cX6_partRead 111 = .ok (.putfield 138, 3) := by decide +kernel
theorem dX6_partRead_114 : decode cX6_partRead 114 = .ok (.return_, 1) := by decide +kernel
theorem dX6_partRead_115 : decode cX6_partRead 115 = .ok (.aload_n 0, 1) := by decide +kernel
theorem dX6_partRead_116 : decode cX6_partRead 116 = .ok (.ldc 144, 2) := by decide +kernel
theorem dX6_partRead_118 : decode cX6_partRead 118 = .ok (.invokevirtual 146, 3) := by decide +kernel
theorem dX6_partRead_121 : decode cX6_partRead 121 = .ok (.ifCond .eq 7, 3) := by decide +kernel
theorem dX6_partRead_124 : decode cX6_partRead 124 = .ok (.iconst (-1), 1) := by decide +kernel
theorem dX6_partRead_125 : decode cX6_partRead 125 = .ok (.goto 46, 3) := by decide +kernel
theorem dX6_partRead_128 : decode cX6_partRead 128 = .ok (.aload_n 0, 1) := by decide +kernel
theorem dX6_partRead_129 : decode cX6_partRead 129 = .ok (.ldc 149, 2) := by decide +kernel
theorem dX6_partRead_131 : decode cX6_partRead 131 = .ok (.invokevirtual 146, 3) := by decide +kernel
theorem dX6_partRead_134 : decode cX6_partRead 134 = .ok (.ifCond .eq 8, 3) := by decide +kernel
theorem dX6_partRead_137 : decode cX6_partRead 137 = .ok (.bipush (-2), 2) := by decide +kernel
theorem dX6_partRead_139 : decode cX6_partRead 139 = .ok (.goto 32, 3) := by decide +kernel
theorem dX6_partRead_142 : decode cX6_partRead 142 = .ok (.aload_n 0, 1) := by decide +kernel
theorem dX6_partRead_143 : decode cX6_partRead 143 = .ok (.ldc 151, 2) := by decide +kernel
theorem dX6_partRead_145 : decode cX6_partRead 145 = .ok (.invokevirtual 146, 3) := by decide +kernel
theorem dX6_partRead_148 : decode cX6_partRead 148 = .ok (.ifCond .eq 8, 3) := by decide +kernel
theorem dX6_partRead_151 : decode cX6_partRead 151 = .ok (.bipush (-3), 2) := by decide +kernel
theorem dX6_partRead_153 : decode cX6_partRead 153 = .ok (.goto 18, 3) := by decide +kernel
theorem dX6_partRead_156 : decode cX6_partRead 156 = .ok (.aload_n 0, 1) := by decide +kernel
theorem dX6_partRead_157 : decode cX6_partRead 157 = .ok (.ldc 153, 2) := by decide +kernel
theorem dX6_partRead_159 : decode cX6_partRead 159 = .ok (.invokevirtual 146, 3) := by decide +kernel
theorem dX6_partRead_162 : decode cX6_partRead 162 = .ok (.ifCond .eq 8, 3) := by decide +kernel
theorem dX6_partRead_165 : decode cX6_partRead 165 = .ok (.bipush (-4), 2) := by decide +kernel
theorem dX6_partRead_167 : decode cX6_partRead 167 = .ok (.goto 4, 3) := by decide +kernel
theorem dX6_partRead_170 : decode cX6_partRead 170 = .ok (.iconst 0, 1) := by decide +kernel
theorem dX6_partRead_171 : decode cX6_partRead 171 = .ok (.istore_n 2, 1) := by decide +kernel
theorem dX6_partRead_172 : decode cX6_partRead 172 = .ok (.aload_n 0, 1) := by decide +kernel
theorem dX6_partRead_173 : decode cX6_partRead 173 = .ok (.iload_n 2, 1) := by decide +kernel
theorem dX6_partRead_174 : decode cX6_partRead 174 = .ok (.ifCond .eq 7, 3) := by decide +kernel
theorem dX6_partRead_177 : decode cX6_partRead 177 = .ok (.iload_n 2, 1) := by decide +kernel
theorem dX6_partRead_178 : decode cX6_partRead 178 = .ok (.goto 11, 3) := by decide +kernel
theorem dX6_partRead_181 : decode cX6_partRead 181 = .ok (.aload_n 0, 1) := by decide +kernel
theorem dX6_partRead_182 : decode cX6_partRead 182 = .ok (.iconst 0, 1) := by decide +kernel
theorem dX6_partRead_183 : decode cX6_partRead 183 = .ok (.sipush 9999, 3) := by decide +kernel
theorem dX6_partRead_186 : decode cX6_partRead 186 = .ok (.invokevirtual 155, 3) := by decide +kernel
theorem dX6_partRead_189 : decode cX6_partRead 189 = .ok (.invokevirtual 132, 3) := by decide +kernel
theorem dX6_partRead_192 : decode cX6_partRead 192 = .ok (.return_, 1) := by decide +kernel
theorem dX6_waveRead_0 : decode cX6_waveRead 0 = .ok (.bipush 6, 2) := by decide +kernel
theorem dX6_waveRead_2 : decode cX6_waveRead 2 = .ok (.iconst 3, 1) := by decide +kernel
theorem dX6_waveRead_3 : decode cX6_waveRead 3 = .ok (.aload_n 0, 1) := by decide +kernel
theorem dX6_waveRead_4 : decode cX6_waveRead 4 = .ok (.getfield 20, 3) := by decide +kernel
theorem dX6_waveRead_7 : decode cX6_waveRead 7 = .ok (.iconst 3, 1) := by decide +kernel
theorem dX6_waveRead_8 : decode cX6_waveRead 8 = .ok (.iaload, 1) := by decide +kernel
theorem dX6_waveRead_9 : decode cX6_waveRead 9 = .ok (.imul, 1) := by decide +kernel
theorem dX6_waveRead_10 : decode cX6_waveRead 10 = .ok (.iadd, 1) := by decide +kernel
theorem dX6_waveRead_11 : decode cX6_waveRead 11 = .ok (.istore_n 1, 1) := by decide +kernel
theorem dX6_waveRead_12 : decode cX6_waveRead 12 = .ok (.aload_n 0, 1) := by decide +kernel
theorem dX6_waveRead_13 : decode cX6_waveRead 13 = .ok (.getfield 20, 3) := by decide +kernel
theorem dX6_waveRead_16 : decode cX6_waveRead 16 = .ok (.iload_n 1, 1) := by decide +kernel
theorem dX6_waveRead_17 : decode cX6_waveRead 17 = .ok (.aload_n 0, 1) := by decide +kernel
theorem dX6_waveRead_18 : decode cX6_waveRead 18 = .ok (.iconst 0, 1) := by decide +kernel
theorem dX6_waveRead_19 : decode cX6_waveRead 19 = .ok (.sipush 400, 3) := by decide +kernel
theorem dX6_waveRead_22 : decode cX6_waveRead 22 = .ok (.invokevirtual 155, 3) := by decide +kernel
theorem dX6_waveRead_25 : decode cX6_waveRead 25 = .ok (.iastore, 1) := by decide +kernel
theorem dX6_waveRead_26 : decode cX6_waveRead 26 = .ok (.aload_n 0, 1) := by decide +kernel
theorem dX6_waveRead_27 : decode cX6_waveRead 27 = .ok (.getfield 20, 3) := by decide +kernel
theorem dX6_waveRead_30 : decode cX6_waveRead 30 = .ok (.iload_n 1, 1) := by decide +kernel
theorem dX6_waveRead_31 : decode cX6_waveRead 31 = .ok (.iconst 1, 1) := by decide +kernel
theorem dX6_waveRead_32 : decode cX6_waveRead 32 = .ok (.iadd, 1) := by decide +kernel
theorem dX6_waveRead_33 : decode cX6_waveRead 33 = .ok (.aload_n 0, 1) := by decide +kernel
theorem dX6_waveRead_34 : decode cX6_waveRead 34 = .ok (.bipush 60, 2) := by decide +kernel
theorem dX6_waveRead_36 : decode cX6_waveRead 36 = .ok (.sipush 2000, 3) := by decide +kernel
theorem dX6_waveRead_39 : decode cX6_waveRead 39 = .ok (.invokevirtual 155, 3) := by decide +kernel
theorem dX6_waveRead_42 : decode cX6_waveRead 42 = .ok (.iastore, 1) := by decide +kernel
theorem dX6_waveRead_43 : decode cX6_waveRead 43 = .ok (.aload_n 0, 1) := by decide +kernel
theorem dX6_waveRead_44 : decode cX6_waveRead 44 = .ok (.getfield 20, 3) := by decide +kernel
theorem dX6_waveRead_47 : decode cX6_waveRead 47 = .ok (.iload_n 1, 1) := by decide +kernel
theorem dX6_waveRead_48 : decode cX6_waveRead 48 = .ok (.iconst 2, 1) := by decide +kernel
theorem dX6_waveRead_49 : decode cX6_waveRead 49 = .ok (.iadd, 1) := by decide +kernel
theorem dX6_waveRead_50 : decode cX6_waveRead 50 = .ok (.aload_n 0, 1) := by decide +kernel
theorem dX6_waveRead_51 : decode cX6_waveRead 51 = .ok (.iconst 0, 1) := by decide +kernel
theorem dX6_waveRead_52 : decode cX6_waveRead 52 = .ok (.sipush 2000, 3) := by decide +kernel
theorem dX6_waveRead_55 : decode cX6_waveRead 55 = .ok (.invokevirtual 155, 3) := by decide +kernel
theorem dX6_waveRead_58 : decode cX6_waveRead 58 = .ok (.iastore, 1) := by decide +kernel
theorem dX6_waveRead_59 : decode cX6_waveRead 59 = .ok (.aload_n 0, 1) := by decide +kernel
theorem dX6_waveRead_60 : decode cX6_waveRead 60 = .ok (.getfield 20, 3) := by decide +kernel
theorem dX6_waveRead_63 : decode cX6_waveRead 63 = .ok (.iconst 3, 1) := by decide +kernel
theorem dX6_waveRead_64 : decode cX6_waveRead 64 = .ok (.dup2, 1) := by decide +kernel
theorem dX6_waveRead_65 : decode cX6_waveRead 65 = .ok (.iaload, 1) := by decide +kernel
theorem dX6_waveRead_66 : decode cX6_waveRead 66 = .ok (.iconst 1, 1) := by decide +kernel
theorem dX6_waveRead_67 : decode cX6_waveRead 67 = .ok (.iadd, 1) := by decide +kernel
theorem dX6_waveRead_68 : decode cX6_waveRead 68 = .ok (.iastore, 1) := by decide +kernel
theorem dX6_waveRead_69 : decode cX6_waveRead 69 = .ok (.return_, 1) := by decide +kernel
theorem dX6_barRead_0 : decode cX6_barRead 0 = .ok (.bipush 24, 2) := by decide +kernel
theorem dX6_barRead_2 : decode cX6_barRead 2 = .ok (.bipush 6, 2) := by decide +kernel
theorem dX6_barRead_4 : decode cX6_barRead 4 = .ok (.aload_n 0, 1) := by decide +kernel
theorem dX6_barRead_5 : decode cX6_barRead 5 = .ok (.getfield 20, 3) := by decide +kernel
theorem dX6_barRead_8 : decode cX6_barRead 8 = .ok (.iconst 4, 1) := by decide +kernel
theorem dX6_barRead_9 : decode cX6_barRead 9 = .ok (.iaload, 1) := by decide +kernel
theorem dX6_barRead_10 : decode cX6_barRead 10 = .ok (.imul, 1) := by decide +kernel
theorem dX6_barRead_11 : decode cX6_barRead 11 = .ok (.iadd, 1) := by decide +kernel
theorem dX6_barRead_12 : decode cX6_barRead 12 = .ok (.istore_n 1, 1) := by decide +kernel
theorem dX6_barRead_13 : decode cX6_barRead 13 = .ok (.aload_n 0, 1) := by decide +kernel
theorem dX6_barRead_14 : decode cX6_barRead 14 = .ok (.getfield 20, 3) := by decide +kernel
theorem dX6_barRead_17 : decode cX6_barRead 17 = .ok (.iload_n 1, 1) := by decide +kernel
theorem dX6_barRead_18 : decode cX6_barRead 18 = .ok (.iconst 0, 1) := by decide +kernel
theorem dX6_barRead_19 : decode cX6_barRead 19 = .ok (.iadd, 1) := by decide +kernel
theorem dX6_barRead_20 : decode cX6_barRead 20 = .ok (.aload_n 0, 1) := by decide +kernel
theorem dX6_barRead_21 : decode cX6_barRead 21 = .ok (.iconst 0, 1) := by decide +kernel
theorem dX6_barRead_22 : decode cX6_barRead 22 = .ok (.sipush 200, 3) := by decide +kernel
theorem dX6_barRead_25 : decode cX6_barRead 25 = .ok (.invokevirtual 155, 3) := by decide +kernel
theorem dX6_barRead_28 : decode cX6_barRead 28 = .ok (.iastore, 1) := by decide +kernel
theorem dX6_barRead_29 : decode cX6_barRead 29 = .ok (.aload_n 0, 1) := by decide +kernel
theorem dX6_barRead_30 : decode cX6_barRead 30 = .ok (.getfield 20, 3) := by decide +kernel
theorem dX6_barRead_33 : decode cX6_barRead 33 = .ok (.iload_n 1, 1) := by decide +kernel
theorem dX6_barRead_34 : decode cX6_barRead 34 = .ok (.iconst 1, 1) := by decide +kernel
theorem dX6_barRead_35 : decode cX6_barRead 35 = .ok (.iadd, 1) := by decide +kernel
theorem dX6_barRead_36 : decode cX6_barRead 36 = .ok (.aload_n 0, 1) := by decide +kernel
theorem dX6_barRead_37 : decode cX6_barRead 37 = .ok (.bipush 100, 2) := by decide +kernel
theorem dX6_barRead_39 : decode cX6_barRead 39 = .ok (.sipush 3000, 3) := by decide +kernel
theorem dX6_barRead_42 : decode cX6_barRead 42 = .ok (.invokevirtual 155, 3) := by decide +kernel
theorem dX6_barRead_45 : decode cX6_barRead 45 = .ok (.iastore, 1) := by decide +kernel
theorem dX6_barRead_46 : decode cX6_barRead 46 = .ok (.aload_n 0, 1) := by decide +kernel
theorem dX6_barRead_47 : decode cX6_barRead 47 = .ok (.getfield 20, 3) := by decide +kernel
theorem dX6_barRead_50 : decode cX6_barRead 50 = .ok (.iload_n 1, 1) := by decide +kernel
theorem dX6_barRead_51 : decode cX6_barRead 51 = .ok (.iconst 2, 1) := by decide +kernel
theorem dX6_barRead_52 : decode cX6_barRead 52 = .ok (.iadd, 1) := by decide +kernel
theorem dX6_barRead_53 : decode cX6_barRead 53 = .ok (.aload_n 0, 1) := by decide +kernel
theorem dX6_barRead_54 : decode cX6_barRead 54 = .ok (.iconst 1, 1) := by decide +kernel
theorem dX6_barRead_55 : decode cX6_barRead 55 = .ok (.bipush 20, 2) := by decide +kernel
theorem dX6_barRead_57 : decode cX6_barRead 57 = .ok (.invokevirtual 155, 3) := by decide +kernel
theorem dX6_barRead_60 : decode cX6_barRead 60 = .ok (.iastore, 1) := by decide +kernel
theorem dX6_barRead_61 : decode cX6_barRead 61 = .ok (.aload_n 0, 1) := by decide +kernel
theorem dX6_barRead_62 : decode cX6_barRead 62 = .ok (.getfield 20, 3) := by decide +kernel
theorem dX6_barRead_65 : decode cX6_barRead 65 = .ok (.iload_n 1, 1) := by decide +kernel
theorem dX6_barRead_66 : decode cX6_barRead 66 = .ok (.iconst 3, 1) := by decide +kernel
theorem dX6_barRead_67 : decode cX6_barRead 67 = .ok (.iadd, 1) := by decide +kernel
theorem dX6_barRead_68 : decode cX6_barRead 68 = .ok (.aload_n 0, 1) := by decide +kernel
theorem dX6_barRead_69 : decode cX6_barRead 69 = .ok (.iconst 0, 1) := by decide +kernel
theorem dX6_barRead_70 : decode cX6_barRead 70 = .ok (.sipush 300, 3) := by decide +kernel
theorem dX6_barRead_73 : decode cX6_barRead 73 = .ok (.invokevirtual 155, 3) := by decide +kernel
theorem dX6_barRead_76 : decode cX6_barRead 76 = .ok (.iastore, 1) := by decide +kernel
theorem dX6_barRead_77 : decode cX6_barRead 77 = .ok (.aload_n 0, 1) := by decide +kernel
theorem dX6_barRead_78 : decode cX6_barRead 78 = .ok (.getfield 20, 3) := by decide +kernel
theorem dX6_barRead_81 : decode cX6_barRead 81 = .ok (.iload_n 1, 1) := by decide +kernel
theorem dX6_barRead_82 : decode cX6_barRead 82 = .ok (.iconst 4, 1) := by decide +kernel
theorem dX6_barRead_83 : decode cX6_barRead 83 = .ok (.iadd, 1) := by decide +kernel
theorem dX6_barRead_84 : decode cX6_barRead 84 = .ok (.aload_n 0, 1) := by decide +kernel
theorem dX6_barRead_85 : decode cX6_barRead 85 = .ok (.bipush 50, 2) := by decide +kernel
theorem dX6_barRead_87 : decode cX6_barRead 87 = .ok (.sipush 150, 3) := by decide +kernel
theorem dX6_barRead_90 : decode cX6_barRead 90 = .ok (.invokevirtual 155, 3) := by decide +kernel
theorem dX6_barRead_93 : decode cX6_barRead 93 = .ok (.iastore, 1) := by decide +kernel
theorem dX6_barRead_94 : decode cX6_barRead 94 = .ok (.aload_n 0, 1) := by decide +kernel
theorem dX6_barRead_95 : decode cX6_barRead 95 = .ok (.getfield 20, 3) := by decide +kernel
theorem dX6_barRead_98 : decode cX6_barRead 98 = .ok (.iload_n 1, 1) := by decide +kernel
theorem dX6_barRead_99 : decode cX6_barRead 99 = .ok (.iconst 5, 1) := by decide +kernel
theorem dX6_barRead_100 : decode cX6_barRead 100 = .ok (.iadd, 1) := by decide +kernel
theorem dX6_barRead_101 : decode cX6_barRead 101 = .ok (.aload_n 0, 1) := by decide +kernel
theorem dX6_barRead_102 : decode cX6_barRead 102 = .ok (.ldc 158, 2) := by decide +kernel
theorem dX6_barRead_104 : decode cX6_barRead 104 = .ok (.invokevirtual 146, 3) := by decide +kernel
theorem dX6_barRead_107 : decode cX6_barRead 107 = .ok (.ifCond .eq 7, 3) := by decide +kernel
theorem dX6_barRead_110 : decode cX6_barRead 110 = .ok (.iconst 1, 1) := by decide +kernel
theorem dX6_barRead_111 : decode cX6_barRead 111 = .ok (.goto 4, 3) := by decide +kernel
theorem dX6_barRead_114 : decode cX6_barRead 114 = .ok (.iconst 0, 1) := by decide +kernel
theorem dX6_barRead_115 : decode cX6_barRead 115 = .ok (.iastore, 1) := by decide +kernel
theorem dX6_barRead_116 : decode cX6_barRead 116 = .ok (.aload_n 0, 1) := by decide +kernel
theorem dX6_barRead_117 : decode cX6_barRead 117 = .ok (.getfield 20, 3) := by decide +kernel
theorem dX6_barRead_120 : decode cX6_barRead 120 = .ok (.iconst 4, 1) := by decide +kernel
theorem dX6_barRead_121 : decode cX6_barRead 121 = .ok (.dup2, 1) := by decide +kernel
