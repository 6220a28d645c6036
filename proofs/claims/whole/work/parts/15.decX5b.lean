theorem dX5_aground_48 : decode cX5_aground 48 = .ok (.invokevirtual 109, 3) := by decide +kernel
theorem dX5_aground_51 : decode cX5_aground 51 = .ok (.invokevirtual 122, 3) := by decide +kernel
theorem dX5_aground_54 : decode cX5_aground 54 = .ok (.ifCond .ne 9, 3) := by decide +kernel
theorem dX5_aground_57 : decode cX5_aground 57 = .ok (.iload_n 1, 1) := by decide +kernel
theorem dX5_aground_58 : decode cX5_aground 58 = .ok (.iconst 1, 1) := by decide +kernel
theorem dX5_aground_59 : decode cX5_aground 59 = .ok (.iload_n 2, 1) := by decide +kernel
theorem dX5_aground_60 : decode cX5_aground 60 = .ok (.ishl, 1) := by decide +kernel
theorem dX5_aground_61 : decode cX5_aground 61 = .ok (.ior, 1) := by decide +kernel
theorem dX5_aground_62 : decode cX5_aground 62 = .ok (.istore_n 1, 1) := by decide +kernel
theorem dX5_aground_63 : decode cX5_aground 63 = .ok (.iinc 2 1, 3) := by decide +kernel
theorem dX5_aground_66 : decode cX5_aground 66 = .ok (.goto (-62), 3) := by decide +kernel
theorem dX5_aground_69 : decode cX5_aground 69 = .ok (.iload_n 1, 1) := by decide +kernel
theorem dX5_aground_70 : decode cX5_aground 70 = .ok (.ireturn, 1) := by decide +kernel
theorem dX5_print_0 : decode cX5_print 0 = .ok (.lconst 0, 1) := by decide +kernel
theorem dX5_print_1 : decode cX5_print 1 = .ok (.lstore_n 1, 1) := by decide +kernel
theorem dX5_print_2 : decode cX5_print 2 = .ok (.iconst 0, 1) := by decide +kernel
theorem dX5_print_3 : decode cX5_print 3 = .ok (.istore_n 3, 1) := by decide +kernel
theorem dX5_print_4 : decode cX5_print 4 = .ok (.iload_n 3, 1) := by decide +kernel
theorem dX5_print_5 : decode cX5_print 5 = .ok (.aload_n 0, 1) := by decide +kernel
theorem dX5_print_6 : decode cX5_print 6 = .ok (.getfield 10, 3) := by decide +kernel
theorem dX5_print_9 : decode cX5_print 9 = .ok (.getfield 89, 3) := by decide +kernel
theorem dX5_print_12 : decode cX5_print 12 = .ok (.if_icmp .ge 26, 3) := by decide +kernel
theorem dX5_print_15 : decode cX5_print 15 = .ok (.lload_n 1, 1) := by decide +kernel
theorem dX5_print_16 : decode cX5_print 16 = .ok (.ldc2_w 234, 3) := by decide +kernel
theorem dX5_print_19 : decode cX5_print 19 = .ok (.lmul, 1) := by decide +kernel
theorem dX5_print_20 : decode cX5_print 20 = .ok (.aload_n 0, 1) := by decide +kernel
theorem dX5_print_21 : decode cX5_print 21 = .ok (.getfield 10, 3) := by decide +kernel
theorem dX5_print_24 : decode cX5_print 24 = .ok (.iload_n 3, 1) := by decide +kernel
theorem dX5_print_25 : decode cX5_print 25 = .ok (.iconst 1, 1) := by decide +kernel
theorem dX5_print_26 : decode cX5_print 26 = .ok (.invokevirtual 98, 3) := by decide +kernel
theorem dX5_print_29 : decode cX5_print 29 = .ok (.i2l, 1) := by decide +kernel
theorem dX5_print_30 : decode cX5_print 30 = .ok (.ladd, 1) := by decide +kernel
theorem dX5_print_31 : decode cX5_print 31 = .ok (.lstore_n 1, 1) := by decide +kernel
theorem dX5_print_32 : decode cX5_print 32 = .ok (.iinc 3 1, 3) := by decide +kernel
theorem dX5_print_35 : decode cX5_print 35 = .ok (.goto (-31), 3) := by decide +kernel
theorem dX5_print_38 : decode cX5_print 38 = .ok (.iconst 0, 1) := by decide +kernel
theorem dX5_print_39 : decode cX5_print 39 = .ok (.istore_n 3, 1) := by decide +kernel
theorem dX5_print_40 : decode cX5_print 40 = .ok (.iload_n 3, 1) := by decide +kernel
theorem dX5_print_41 : decode cX5_print 41 = .ok (.aload_n 0, 1) := by decide +kernel
theorem dX5_print_42 : decode cX5_print 42 = .ok (.getfield 10, 3) := by decide +kernel
theorem dX5_print_45 : decode cX5_print 45 = .ok (.getfield 92, 3) := by decide +kernel
theorem dX5_print_48 : decode cX5_print 48 = .ok (.if_icmp .ge 62, 3) := by decide +kernel
theorem dX5_print_51 : decode cX5_print 51 = .ok (.lload_n 1, 1) := by decide +kernel
theorem dX5_print_52 : decode cX5_print 52 = .ok (.ldc2_w 234, 3) := by decide +kernel
theorem dX5_print_55 : decode cX5_print 55 = .ok (.lmul, 1) := by decide +kernel
theorem dX5_print_56 : decode cX5_print 56 = .ok (.aload_n 0, 1) := by decide +kernel
theorem dX5_print_57 : decode cX5_print 57 = .ok (.getfield 10, 3) := by decide +kernel
theorem dX5_print_60 : decode cX5_print 60 = .ok (.iload_n 3, 1) := by decide +kernel
theorem dX5_print_61 : decode cX5_print 61 = .ok (.iconst 0, 1) := by decide +kernel
theorem dX5_print_62 : decode cX5_print 62 = .ok (.invokevirtual 109, 3) := by decide +kernel
theorem dX5_print_65 : decode cX5_print 65 = .ok (.i2l, 1) := by decide +kernel
theorem dX5_print_66 : decode cX5_print 66 = .ok (.ladd, 1) := by decide +kernel
theorem dX5_print_67 : decode cX5_print 67 = .ok (.lstore_n 1, 1) := by decide +kernel
theorem dX5_print_68 : decode cX5_print 68 = .ok (.lload_n 1, 1) := by decide +kernel
theorem dX5_print_69 : decode cX5_print 69 = .ok (.ldc2_w 234, 3) := by decide +kernel
theorem dX5_print_72 : decode cX5_print 72 = .ok (.lmul, 1) := by decide +kernel
theorem dX5_print_73 : decode cX5_print 73 = .ok (.aload_n 0, 1) := by decide +kernel
theorem dX5_print_74 : decode cX5_print 74 = .ok (.getfield 10, 3) := by decide +kernel
theorem dX5_print_77 : decode cX5_print 77 = .ok (.iload_n 3, 1) := by decide +kernel
theorem dX5_print_78 : decode cX5_print 78 = .ok (.bipush 6, 2) := by decide +kernel
theorem dX5_print_80 : decode cX5_print 80 = .ok (.invokevirtual 109, 3) := by decide +kernel
theorem dX5_print_83 : decode cX5_print 83 = .ok (.i2l, 1) := by decide +kernel
theorem dX5_print_84 : decode cX5_print 84 = .ok (.ladd, 1) := by decide +kernel
theorem dX5_print_85 : decode cX5_print 85 = .ok (.lstore_n 1, 1) := by decide +kernel
theorem dX5_print_86 : decode cX5_print 86 = .ok (.lload_n 1, 1) := by decide +kernel
theorem dX5_print_87 : decode cX5_print 87 = .ok (.ldc2_w 234, 3) := by decide +kernel
theorem dX5_print_90 : decode cX5_print 90 = .ok (.lmul, 1) := by decide +kernel
theorem dX5_print_91 : decode cX5_print 91 = .ok (.aload_n 0, 1) := by decide +kernel
theorem dX5_print_92 : decode cX5_print 92 = .ok (.getfield 10, 3) := by decide +kernel
theorem dX5_print_95 : decode cX5_print 95 = .ok (.iload_n 3, 1) := by decide +kernel
theorem dX5_print_96 : decode cX5_print 96 = .ok (.bipush 7, 2) := by decide +kernel
theorem dX5_print_98 : decode cX5_print 98 = .ok (.invokevirtual 109, 3) := by decide +kernel
theorem dX5_print_101 : decode cX5_print 101 = .ok (.i2l, 1) := by decide +kernel
theorem dX5_print_102 : decode cX5_print 102 = .ok (.ladd, 1) := by decide +kernel
theorem dX5_print_103 : decode cX5_print 103 = .ok (.lstore_n 1, 1) := by decide +kernel
theorem dX5_print_104 : decode cX5_print 104 = .ok (.iinc 3 1, 3) := by decide +kernel
theorem dX5_print_107 : decode cX5_print 107 = .ok (.goto (-67), 3) := by decide +kernel
theorem dX5_print_110 : decode cX5_print 110 = .ok (.lload_n 1, 1) := by decide +kernel
theorem dX5_print_111 : decode cX5_print 111 = .ok (.ldc2_w 234, 3) := by decide +kernel
theorem dX5_print_114 : decode cX5_print 114 = .ok (.lmul, 1) := by decide +kernel
theorem dX5_print_115 : decode cX5_print 115 = .ok (.aload_n 0, 1) := by decide +kernel
theorem dX5_print_116 : decode cX5_print 116 = .ok (.getfield 10, 3) := by decide +kernel
theorem dX5_print_119 : decode cX5_print 119 = .ok (.getfield 115, 3) := by decide +kernel
theorem dX5_print_122 : decode cX5_print 122 = .ok (.i2l, 1) := by decide +kernel
theorem dX5_print_123 : decode cX5_print 123 = .ok (.ladd, 1) := by decide +kernel
theorem dX5_print_124 : decode cX5_print 124 = .ok (.lreturn, 1) := by decide +kernel
theorem dX5_status_0 : decode cX5_status 0 = .ok (.iload_n 1, 1) := by decide +kernel
theorem dX5_status_1 : decode cX5_status 1 = .ok (.tableswitch 42 0 2 #[27, 32, 37], 27) := by decide +kernel
theorem dX5_status_28 : decode cX5_status 28 = .ok (.aload_n 0, 1) := by decide +kernel
theorem dX5_status_29 : decode cX5_status 29 = .ok (.getfield 236, 3) := by decide +kernel
theorem dX5_status_32 : decode cX5_status 32 = .ok (.ireturn, 1) := by decide +kernel
theorem dX5_status_33 : decode cX5_status 33 = .ok (.aload_n 0, 1) := by decide +kernel
theorem dX5_status_34 : decode cX5_status 34 = .ok (.getfield 239, 3) := by decide +kernel
theorem dX5_status_37 : decode cX5_status 37 = .ok (.ireturn, 1) := by decide +kernel
theorem dX5_status_38 : decode cX5_status 38 = .ok (.aload_n 0, 1) := by decide +kernel
theorem dX5_status_39 : decode cX5_status 39 = .ok (.getfield 242, 3) := by decide +kernel
theorem dX5_status_42 : decode cX5_status 42 = .ok (.ireturn, 1) := by decide +kernel
theorem dX5_status_43 : decode cX5_status 43 = .ok (.iconst (-1), 1) := by decide +kernel
theorem dX5_status_44 : decode cX5_status 44 = .ok (.ireturn, 1) := by decide +kernel
theorem dX5_putBytes_0 : decode cX5_putBytes 0 = .ok (.bipush 24, 2) := by decide +kernel
theorem dX5_putBytes_2 : decode cX5_putBytes 2 = .ok (.istore_n 2, 1) := by decide +kernel
theorem dX5_putBytes_3 : decode cX5_putBytes 3 = .ok (.iload_n 2, 1) := by decide +kernel
theorem dX5_putBytes_4 : decode cX5_putBytes 4 = .ok (.ifCond .lt 32, 3) := by decide +kernel
theorem dX5_putBytes_7 : decode cX5_putBytes 7 = .ok (.aload_n 0, 1) := by decide +kernel
theorem dX5_putBytes_8 : decode cX5_putBytes 8 = .ok (.getfield 23, 3) := by decide +kernel
theorem dX5_putBytes_11 : decode cX5_putBytes 11 = .ok (.aload_n 0, 1) := by decide +kernel
theorem dX5_putBytes_12 : decode cX5_putBytes 12 = .ok (.getfield 58, 3) := by decide +kernel
theorem dX5_putBytes_15 : decode cX5_putBytes 15 = .ok (.iload_n 1, 1) := by decide +kernel
theorem dX5_putBytes_16 : decode cX5_putBytes 16 = .ok (.iload_n 2, 1) := by decide +kernel
theorem dX5_putBytes_17 : decode cX5_putBytes 17 = .ok (.iushr, 1) := by decide +kernel
theorem dX5_putBytes_18 : decode cX5_putBytes 18 = .ok (.i2b, 1) := by decide +kernel
theorem dX5_putBytes_19 : decode cX5_putBytes 19 = .ok (.bastore, 1) := by decide +kernel
theorem dX5_putBytes_20 : decode cX5_putBytes 20 = .ok (.aload_n 0, 1) := by decide +kernel
theorem dX5_putBytes_21 : decode cX5_putBytes 21 = .ok (.dup, 1) := by decide +kernel
theorem dX5_putBytes_22 : decode cX5_putBytes 22 = .ok (.getfield 58, 3) := by decide +kernel
theorem dX5_putBytes_25 : decode cX5_putBytes 25 = .ok (.iconst 1, 1) := by decide +kernel
theorem dX5_putBytes_26 : decode cX5_putBytes 26 = .ok (.iadd, 1) := by decide +kernel
theorem dX5_putBytes_27 : decode cX5_putBytes 27 = .ok (.putfield 58, 3) := by decide +kernel
theorem dX5_putBytes_30 : decode cX5_putBytes 30 = .ok (.iinc 2 (-8), 3) := by decide +kernel
theorem dX5_putBytes_33 : decode cX5_putBytes 33 = .ok (.goto (-30), 3) := by decide +kernel
theorem dX5_putBytes_36 : decode cX5_putBytes 36 = .ok (.return_, 1) := by decide +kernel
theorem dX5_bookedShips_0 : decode cX5_bookedShips 0 = .ok (.iconst 0, 1) := by decide +kernel
theorem dX5_bookedShips_1 : decode cX5_bookedShips 1 = .ok (.istore_n 1, 1) := by decide +kernel
theorem dX5_bookedShips_2 : decode cX5_bookedShips 2 = .ok (.iconst 0, 1) := by decide +kernel
theorem dX5_bookedShips_3 : decode cX5_bookedShips 3 = .ok (.istore_n 2, 1) := by decide +kernel
theorem dX5_bookedShips_4 : decode cX5_bookedShips 4 = .ok (.iload_n 2, 1) := by decide +kernel
theorem dX5_bookedShips_5 : decode cX5_bookedShips 5 = .ok (.aload_n 0, 1) := by decide +kernel
theorem dX5_bookedShips_6 : decode cX5_bookedShips 6 = .ok (.getfield 10, 3) := by decide +kernel
theorem dX5_bookedShips_9 : decode cX5_bookedShips 9 = .ok (.getfield 92, 3) := by decide +kernel
theorem dX5_bookedShips_12 : decode cX5_bookedShips 12 = .ok (.if_icmp .ge 26, 3) := by decide +kernel
theorem dX5_bookedShips_15 : decode cX5_bookedShips 15 = .ok (.aload_n 0, 1) := by decide +kernel
theorem dX5_bookedShips_16 : decode cX5_bookedShips 16 = .ok (.getfield 10, 3) := by decide +kernel
theorem dX5_bookedShips_19 : decode cX5_bookedShips 19 = .ok (.iload_n 2, 1) := by decide +kernel
theorem dX5_bookedShips_20 : decode cX5_bookedShips 20 = .ok (.invokevirtual 118, 3) := by decide +kernel
theorem dX5_bookedShips_23 : decode cX5_bookedShips 23 = .ok (.ifCond .eq 9, 3) := by decide +kernel
theorem dX5_bookedShips_26 : decode cX5_bookedShips 26 = .ok (.iload_n 1, 1) := by decide +kernel
theorem dX5_bookedShips_27 : decode cX5_bookedShips 27 = .ok (.iconst 1, 1) := by decide +kernel
theorem dX5_bookedShips_28 : decode cX5_bookedShips 28 = .ok (.iload_n 2, 1) := by decide +kernel
theorem dX5_bookedShips_29 : decode cX5_bookedShips 29 = .ok (.ishl, 1) := by decide +kernel
theorem dX5_bookedShips_30 : decode cX5_bookedShips 30 = .ok (.ior, 1) := by decide +kernel
theorem dX5_bookedShips_31 : decode cX5_bookedShips 31 = .ok (.istore_n 1, 1) := by decide +kernel
theorem dX5_bookedShips_32 : decode cX5_bookedShips 32 = .ok (.iinc 2 1, 3) := by decide +kernel
theorem dX5_bookedShips_35 : decode cX5_bookedShips 35 = .ok (.goto (-31), 3) := by decide +kernel
theorem dX5_bookedShips_38 : decode cX5_bookedShips 38 = .ok (.iload_n 1, 1) := by decide +kernel
theorem dX5_bookedShips_39 : decode cX5_bookedShips 39 = .ok (.ireturn, 1) := by decide +kernel
theorem dX5_closeTo_0 : decode cX5_closeTo 0 = .ok (.iconst 0, 1) := by decide +kernel
theorem dX5_closeTo_1 : decode cX5_closeTo 1 = .ok (.istore 4, 2) := by decide +kernel
theorem dX5_closeTo_3 : decode cX5_closeTo 3 = .ok (.iconst 0, 1) := by decide +kernel
theorem dX5_closeTo_4 : decode cX5_closeTo 4 = .ok (.istore 5, 2) := by decide +kernel
theorem dX5_closeTo_6 : decode cX5_closeTo 6 = .ok (.iload 5, 2) := by decide +kernel
theorem dX5_closeTo_8 : decode cX5_closeTo 8 = .ok (.aload_n 0, 1) := by decide +kernel
theorem dX5_closeTo_9 : decode cX5_closeTo 9 = .ok (.getfield 10, 3) := by decide +kernel
theorem dX5_closeTo_12 : decode cX5_closeTo 12 = .ok (.getfield 92, 3) := by decide +kernel
theorem dX5_closeTo_15 : decode cX5_closeTo 15 = .ok (.if_icmp .ge 51, 3) := by decide +kernel
theorem dX5_closeTo_18 : decode cX5_closeTo 18 = .ok (.iload 5, 2) := by decide +kernel
theorem dX5_closeTo_20 : decode cX5_closeTo 20 = .ok (.iload_n 1, 1) := by decide +kernel
theorem dX5_closeTo_21 : decode cX5_closeTo 21 = .ok (.if_icmp .eq 39, 3) := by decide +kernel
theorem dX5_closeTo_24 : decode cX5_closeTo 24 = .ok (.aload_n 0, 1) := by decide +kernel
theorem dX5_closeTo_25 : decode cX5_closeTo 25 = .ok (.getfield 10, 3) := by decide +kernel
theorem dX5_closeTo_28 : decode cX5_closeTo 28 = .ok (.iload 5, 2) := by decide +kernel
theorem dX5_closeTo_30 : decode cX5_closeTo 30 = .ok (.invokevirtual 118, 3) := by decide +kernel
theorem dX5_closeTo_33 : decode cX5_closeTo 33 = .ok (.ifCond .eq 27, 3) := by decide +kernel
theorem dX5_closeTo_36 : decode cX5_closeTo 36 = .ok (.aload_n 0, 1) := by decide +kernel
theorem dX5_closeTo_37 : decode cX5_closeTo 37 = .ok (.getfield 10, 3) := by decide +kernel
theorem dX5_closeTo_40 : decode cX5_closeTo 40 = .ok (.iload_n 1, 1) := by decide +kernel
theorem dX5_closeTo_41 : decode cX5_closeTo 41 = .ok (.iload_n 2, 1) := by decide +kernel
theorem dX5_closeTo_42 : decode cX5_closeTo 42 = .ok (.iload_n 3, 1) := by decide +kernel
theorem dX5_closeTo_43 : decode cX5_closeTo 43 = .ok (.iload 5, 2) := by decide +kernel
theorem dX5_closeTo_45 : decode cX5_closeTo 45 = .ok (.invokevirtual 245, 3) := by decide +kernel
theorem dX5_closeTo_48 : decode cX5_closeTo 48 = .ok (.ifCond .eq 12, 3) := by decide +kernel
theorem dX5_closeTo_51 : decode cX5_closeTo 51 = .ok (.iload 4, 2) := by decide +kernel
theorem dX5_closeTo_53 : decode cX5_closeTo 53 = .ok (.iconst 1, 1) := by decide +kernel
theorem dX5_closeTo_54 : decode cX5_closeTo 54 = .ok (.iload 5, 2) := by decide +kernel
theorem dX5_closeTo_56 : decode cX5_closeTo 56 = .ok (.ishl, 1) := by decide +kernel
theorem dX5_closeTo_57 : decode cX5_closeTo 57 = .ok (.ior, 1) := by decide +kernel
theorem dX5_closeTo_58 : decode cX5_closeTo 58 = .ok (.istore 4, 2) := by decide +kernel
theorem dX5_closeTo_60 : decode cX5_closeTo 60 = .ok (.iinc 5 1, 3) := by decide +kernel
theorem dX5_closeTo_63 : decode cX5_closeTo 63 = .ok (.goto (-57), 3) := by decide +kernel
theorem dX5_closeTo_66 : decode cX5_closeTo 66 = .ok (.iload 4, 2) := by decide +kernel
theorem dX5_closeTo_68 : decode cX5_closeTo 68 = .ok (.ireturn, 1) := by decide +kernel
theorem dX5_windowAnswer_0 : decode cX5_windowAnswer 0 = .ok (.aload_n 0, 1) := by decide +kernel
theorem dX5_windowAnswer_1 : decode cX5_windowAnswer 1 = .ok (.getfield 50, 3) := by decide +kernel
theorem dX5_windowAnswer_4 : decode cX5_windowAnswer 4 = .ok (.iload_n 2, 1) := by decide +kernel
theorem dX5_windowAnswer_5 : decode cX5_windowAnswer 5 = .ok (.iload_n 3, 1) := by decide +kernel
theorem dX5_windowAnswer_6 : decode cX5_windowAnswer 6 = .ok (.invokevirtual 248, 3) := by decide +kernel
theorem dX5_windowAnswer_9 : decode cX5_windowAnswer 9 = .ok (.istore 4, 2) := by decide +kernel
theorem dX5_windowAnswer_11 : decode cX5_windowAnswer 11 = .ok (.iload 4, 2) := by decide +kernel
theorem dX5_windowAnswer_13 : decode cX5_windowAnswer 13 = .ok (.ldc 251, 2) := by decide +kernel
theorem dX5_windowAnswer_15 : decode cX5_windowAnswer 15 = .ok (.if_icmp .ne 7, 3) := by decide +kernel
theorem dX5_windowAnswer_18 : decode cX5_windowAnswer 18 = .ok (.aload_n 0, 1) := by decide +kernel
theorem dX5_windowAnswer_19 : decode cX5_windowAnswer 19 = .ok (.invokevirtual 159, 3) := by decide +kernel
theorem dX5_windowAnswer_22 : decode cX5_windowAnswer 22 = .ok (.iload_n 2, 1) := by decide +kernel
theorem dX5_windowAnswer_23 : decode cX5_windowAnswer 23 = .ok (.iconst (-1), 1) := by decide +kernel
theorem dX5_windowAnswer_24 : decode cX5_windowAnswer 24 = .ok (.if_icmp .ne 8, 3) := by decide +kernel
theorem dX5_windowAnswer_27 : decode cX5_windowAnswer 27 = .ok (.iload 4, 2) := by decide +kernel
theorem dX5_windowAnswer_29 : decode cX5_windowAnswer 29 = .ok (.goto 7, 3) := by decide +kernel
theorem dX5_windowAnswer_32 : decode cX5_windowAnswer 32 = .ok (.iload_n 1, 1) := by decide +kernel
theorem dX5_windowAnswer_33 : decode cX5_windowAnswer 33 = .ok (.iload 4, 2) := by decide +kernel
theorem dX5_windowAnswer_35 : decode cX5_windowAnswer 35 = .ok (.iadd, 1) := by decide +kernel
theorem dX5_windowAnswer_36 : decode cX5_windowAnswer 36 = .ok (.ireturn, 1) := by decide +kernel
theorem dX5_needShipAtBar_0 : decode cX5_needShipAtBar 0 = .ok (.aload_n 0, 1) := by decide +kernel
theorem dX5_needShipAtBar_1 : decode cX5_needShipAtBar 1 = .ok (.iload_n 1, 1) := by decide +kernel
theorem dX5_needShipAtBar_2 : decode cX5_needShipAtBar 2 = .ok (.invokevirtual 106, 3) := by decide +kernel
theorem dX5_needShipAtBar_5 : decode cX5_needShipAtBar 5 = .ok (.aload_n 0, 1) := by decide +kernel
theorem dX5_needShipAtBar_6 : decode cX5_needShipAtBar 6 = .ok (.iload_n 2, 1) := by decide +kernel
theorem dX5_needShipAtBar_7 : decode cX5_needShipAtBar 7 = .ok (.invokevirtual 95, 3) := by decide +kernel
theorem dX5_needShipAtBar_10 : decode cX5_needShipAtBar 10 = .ok (.aload_n 0, 1) := by decide +kernel
theorem dX5_needShipAtBar_11 : decode cX5_needShipAtBar 11 = .ok (.iload_n 3, 1) := by decide +kernel
theorem dX5_needShipAtBar_12 : decode cX5_needShipAtBar 12 = .ok (.invokevirtual 165, 3) := by decide +kernel
theorem dX5_needShipAtBar_15 : decode cX5_needShipAtBar 15 = .ok (.aload_n 0, 1) := by decide +kernel
theorem dX5_needShipAtBar_16 : decode cX5_needShipAtBar 16 = .ok (.iload 4, 2) := by decide +kernel
theorem dX5_needShipAtBar_18 : decode cX5_needShipAtBar 18 = .ok (.invokevirtual 205, 3) := by decide +kernel
theorem dX5_needShipAtBar_21 : decode cX5_needShipAtBar 21 = .ok (.return_, 1) := by decide +kernel
theorem dX5_needPassage_0 : decode cX5_needPassage 0 = .ok (.aload_n 0, 1) := by decide +kernel
theorem dX5_needPassage_1 : decode cX5_needPassage 1 = .ok (.iload_n 1, 1) := by decide +kernel
theorem dX5_needPassage_2 : decode cX5_needPassage 2 = .ok (.invokevirtual 106, 3) := by decide +kernel
theorem dX5_needPassage_5 : decode cX5_needPassage 5 = .ok (.aload_n 0, 1) := by decide +kernel
theorem dX5_needPassage_6 : decode cX5_needPassage 6 = .ok (.iload_n 2, 1) := by decide +kernel
theorem dX5_needPassage_7 : decode cX5_needPassage 7 = .ok (.invokevirtual 165, 3) := by decide +kernel
theorem dX5_needPassage_10 : decode cX5_needPassage 10 = .ok (.aload_n 0, 1) := by decide +kernel
theorem dX5_needPassage_11 : decode cX5_needPassage 11 = .ok (.iload_n 3, 1) := by decide +kernel
theorem dX5_needPassage_12 : decode cX5_needPassage 12 = .ok (.invokevirtual 205, 3) := by decide +kernel
theorem dX5_needPassage_15 : decode cX5_needPassage 15 = .ok (.return_, 1) := by decide +kernel
theorem dX5_needConvoy_0 : decode cX5_needConvoy 0 = .ok (.aload_n 0, 1) := by decide +kernel
theorem dX5_needConvoy_1 : decode cX5_needConvoy 1 = .ok (.iload_n 1, 1) := by decide +kernel
theorem dX5_needConvoy_2 : decode cX5_needConvoy 2 = .ok (.iconst 1, 1) := by decide +kernel
theorem dX5_needConvoy_3 : decode cX5_needConvoy 3 = .ok (.iconst 1, 1) := by decide +kernel
theorem dX5_needConvoy_4 : decode cX5_needConvoy 4 = .ok (.aload_n 0, 1) := by decide +kernel
theorem dX5_needConvoy_5 : decode cX5_needConvoy 5 = .ok (.getfield 10, 3) := by decide +kernel
theorem dX5_needConvoy_8 : decode cX5_needConvoy 8 = .ok (.getfield 92, 3) := by decide +kernel
theorem dX5_needConvoy_11 : decode cX5_needConvoy 11 = .ok (.ishl, 1) := by decide +kernel
theorem dX5_needConvoy_12 : decode cX5_needConvoy 12 = .ok (.iconst 1, 1) := by decide +kernel
theorem dX5_needConvoy_13 : decode cX5_needConvoy 13 = .ok (.isub, 1) := by decide +kernel
theorem dX5_needConvoy_14 : decode cX5_needConvoy 14 = .ok (.invokevirtual 65, 3) := by decide +kernel
theorem dX5_needConvoy_17 : decode cX5_needConvoy 17 = .ok (.aload_n 0, 1) := by decide +kernel
theorem dX5_needConvoy_18 : decode cX5_needConvoy 18 = .ok (.iload_n 2, 1) := by decide +kernel
theorem dX5_needConvoy_19 : decode cX5_needConvoy 19 = .ok (.invokevirtual 205, 3) := by decide +kernel
theorem dX5_needConvoy_22 : decode cX5_needConvoy 22 = .ok (.aload_n 0, 1) := by decide +kernel
theorem dX5_needConvoy_23 : decode cX5_needConvoy 23 = .ok (.iload_n 3, 1) := by decide +kernel
theorem dX5_needConvoy_24 : decode cX5_needConvoy 24 = .ok (.invokevirtual 165, 3) := by decide +kernel
theorem dX5_needConvoy_27 : decode cX5_needConvoy 27 = .ok (.return_, 1) := by decide +kernel
theorem dX5_needEdge_0 : decode cX5_needEdge 0 = .ok (.aload_n 0, 1) := by decide +kernel
theorem dX5_needEdge_1 : decode cX5_needEdge 1 = .ok (.iload_n 2, 1) := by decide +kernel
theorem dX5_needEdge_2 : decode cX5_needEdge 2 = .ok (.iconst 0, 1) := by decide +kernel
theorem dX5_needEdge_3 : decode cX5_needEdge 3 = .ok (.iload_n 1, 1) := by decide +kernel
theorem dX5_needEdge_4 : decode cX5_needEdge 4 = .ok (.iconst (-1), 1) := by decide +kernel
theorem dX5_needEdge_5 : decode cX5_needEdge 5 = .ok (.if_icmp .ne 7, 3) := by decide +kernel
theorem dX5_needEdge_8 : decode cX5_needEdge 8 = .ok (.iconst 0, 1) := by decide +kernel
theorem dX5_needEdge_9 : decode cX5_needEdge 9 = .ok (.goto 4, 3) := by decide +kernel
theorem dX5_needEdge_12 : decode cX5_needEdge 12 = .ok (.iconst 1, 1) := by decide +kernel
theorem dX5_needEdge_13 : decode cX5_needEdge 13 = .ok (.invokevirtual 65, 3) := by decide +kernel
theorem dX5_needEdge_16 : decode cX5_needEdge 16 = .ok (.return_, 1) := by decide +kernel
theorem dX5_needBar_0 : decode cX5_needBar 0 = .ok (.iload_n 1, 1) := by decide +kernel
theorem dX5_needBar_1 : decode cX5_needBar 1 = .ok (.ifCond .lt 14, 3) := by decide +kernel
theorem dX5_needBar_4 : decode cX5_needBar 4 = .ok (.iload_n 1, 1) := by decide +kernel
theorem dX5_needBar_5 : decode cX5_needBar 5 = .ok (.aload_n 0, 1) := by decide +kernel
theorem dX5_needBar_6 : decode cX5_needBar 6 = .ok (.getfield 10, 3) := by decide +kernel
theorem dX5_needBar_9 : decode cX5_needBar 9 = .ok (.getfield 89, 3) := by decide +kernel
theorem dX5_needBar_12 : decode cX5_needBar 12 = .ok (.if_icmp .lt 7, 3) := by decide +kernel
theorem dX5_needBar_15 : decode cX5_needBar 15 = .ok (.aload_n 0, 1) := by decide +kernel
theorem dX5_needBar_16 : decode cX5_needBar 16 = .ok (.invokevirtual 159, 3) := by decide +kernel
theorem dX5_needBar_19 : decode cX5_needBar 19 = .ok (.return_, 1) := by decide +kernel
theorem dX5_needShip_0 : decode cX5_needShip 0 = .ok (.iload_n 1, 1) := by decide +kernel
theorem dX5_needShip_1 : decode cX5_needShip 1 = .ok (.ifCond .lt 14, 3) := by decide +kernel
theorem dX5_needShip_4 : decode cX5_needShip 4 = .ok (.iload_n 1, 1) := by decide +kernel
theorem dX5_needShip_5 : decode cX5_needShip 5 = .ok (.aload_n 0, 1) := by decide +kernel
theorem dX5_needShip_6 : decode cX5_needShip 6 = .ok (.getfield 10, 3) := by decide +kernel
theorem dX5_needShip_9 : decode cX5_needShip 9 = .ok (.getfield 92, 3) := by decide +kernel
theorem dX5_needShip_12 : decode cX5_needShip 12 = .ok (.if_icmp .lt 7, 3) := by decide +kernel
theorem dX5_needShip_15 : decode cX5_needShip 15 = .ok (.aload_n 0, 1) := by decide +kernel
theorem dX5_needShip_16 : decode cX5_needShip 16 = .ok (.invokevirtual 159, 3) := by decide +kernel
theorem dX5_needShip_19 : decode cX5_needShip 19 = .ok (.return_, 1) := by decide +kernel
theorem dX5_needMinute_0 : decode cX5_needMinute 0 = .ok (.aload_n 0, 1) := by decide +kernel
theorem dX5_needMinute_1 : decode cX5_needMinute 1 = .ok (.iload_n 1, 1) := by decide +kernel
theorem dX5_needMinute_2 : decode cX5_needMinute 2 = .ok (.iconst 0, 1) := by decide +kernel
theorem dX5_needMinute_3 : decode cX5_needMinute 3 = .ok (.sipush 10000, 3) := by decide +kernel
theorem dX5_needMinute_6 : decode cX5_needMinute 6 = .ok (.invokevirtual 65, 3) := by decide +kernel
theorem dX5_needMinute_9 : decode cX5_needMinute 9 = .ok (.return_, 1) := by decide +kernel
theorem dX5_needSpeed_0 : decode cX5_needSpeed 0 = .ok (.aload_n 0, 1) := by decide +kernel
theorem dX5_needSpeed_1 : decode cX5_needSpeed 1 = .ok (.iload_n 1, 1) := by decide +kernel
theorem dX5_needSpeed_2 : decode cX5_needSpeed 2 = .ok (.iconst 4, 1) := by decide +kernel
theorem dX5_needSpeed_3 : decode cX5_needSpeed 3 = .ok (.bipush 25, 2) := by decide +kernel
theorem dX5_needSpeed_5 : decode cX5_needSpeed 5 = .ok (.invokevirtual 65, 3) := by decide +kernel
theorem dX5_needSpeed_8 : decode cX5_needSpeed 8 = .ok (.return_, 1) := by decide +kernel
theorem dX5_needWithin_0 : decode cX5_needWithin 0 = .ok (.iload_n 1, 1) := by decide +kernel
theorem dX5_needWithin_1 : decode cX5_needWithin 1 = .ok (.iload_n 2, 1) := by decide +kernel
theorem dX5_needWithin_2 : decode cX5_needWithin 2 = .ok (.if_icmp .lt 8, 3) := by decide +kernel
theorem dX5_needWithin_5 : decode cX5_needWithin 5 = .ok (.iload_n 1, 1) := by decide +kernel
theorem dX5_needWithin_6 : decode cX5_needWithin 6 = .ok (.iload_n 3, 1) := by decide +kernel
theorem dX5_needWithin_7 : decode cX5_needWithin 7 = .ok (.if_icmp .le 7, 3) := by decide +kernel
theorem dX5_needWithin_10 : decode cX5_needWithin 10 = .ok (.aload_n 0, 1) := by decide +kernel
theorem dX5_needWithin_11 : decode cX5_needWithin 11 = .ok (.invokevirtual 252, 3) := by decide +kernel
theorem dX5_needWithin_14 : decode cX5_needWithin 14 = .ok (.return_, 1) := by decide +kernel
theorem dX5_refuseMissing_0 : decode cX5_refuseMissing 0 = .ok (.aload_n 0, 1) := by decide +kernel
theorem dX5_refuseMissing_1 : decode cX5_refuseMissing 1 = .ok (.dup, 1) := by decide +kernel
theorem dX5_refuseMissing_2 : decode cX5_refuseMissing 2 = .ok (.getfield 236, 3) := by decide +kernel
theorem dX5_refuseMissing_5 : decode cX5_refuseMissing 5 = .ok (.iconst 1, 1) := by decide +kernel
theorem dX5_refuseMissing_6 : decode cX5_refuseMissing 6 = .ok (.iadd, 1) := by decide +kernel
theorem dX5_refuseMissing_7 : decode cX5_refuseMissing 7 = .ok (.putfield 236, 3) := by decide +kernel
theorem dX5_refuseMissing_10 : decode cX5_refuseMissing 10 = .ok (.new 255, 3) := by decide +kernel
theorem dX5_refuseMissing_13 : decode cX5_refuseMissing 13 = .ok (.dup, 1) := by decide +kernel
theorem dX5_refuseMissing_14 : decode cX5_refuseMissing 14 = .ok (.ldc_w 257, 3) := by decide +kernel
theorem dX5_refuseMissing_17 : decode cX5_refuseMissing 17 = .ok (.invokespecial 259, 3) := by decide +kernel
theorem dX5_refuseMissing_20 : decode cX5_refuseMissing 20 = .ok (.athrow, 1) := by decide +kernel
theorem dX5_refuseNumber_0 : decode cX5_refuseNumber 0 = .ok (.aload_n 0, 1) := by decide +kernel
theorem dX5_refuseNumber_1 : decode cX5_refuseNumber 1 = .ok (.dup, 1) := by decide +kernel
theorem dX5_refuseNumber_2 : decode cX5_refuseNumber 2 = .ok (.getfield 239, 3) := by decide +kernel
theorem dX5_refuseNumber_5 : decode cX5_refuseNumber 5 = .ok (.iconst 1, 1) := by decide +kernel
theorem dX5_refuseNumber_6 : decode cX5_refuseNumber 6 = .ok (.iadd, 1) := by decide +kernel
theorem dX5_refuseNumber_7 : decode cX5_refuseNumber 7 = .ok (.putfield 239, 3) := by decide +kernel
theorem dX5_refuseNumber_10 : decode cX5_refuseNumber 10 = .ok (.new 262, 3) := by decide +kernel
theorem dX5_refuseNumber_13 : decode cX5_refuseNumber 13 = .ok (.dup, 1) := by decide +kernel
theorem dX5_refuseNumber_14 : decode cX5_refuseNumber 14 = .ok (.ldc_w 264, 3) := by decide +kernel
theorem dX5_refuseNumber_17 : decode cX5_refuseNumber 17 = .ok (.invokespecial 266, 3) := by decide +kernel
theorem dX5_refuseNumber_20 : decode cX5_refuseNumber 20 = .ok (.athrow, 1) := by decide +kernel
theorem dX5_refuseState_0 : decode cX5_refuseState 0 = .ok (.aload_n 0, 1) := by decide +kernel
theorem dX5_refuseState_1 : decode cX5_refuseState 1 = .ok (.dup, 1) := by decide +kernel
theorem dX5_refuseState_2 : decode cX5_refuseState 2 = .ok (.getfield 242, 3) := by decide +kernel
theorem dX5_refuseState_5 : decode cX5_refuseState 5 = .ok (.iconst 1, 1) := by decide +kernel
theorem dX5_refuseState_6 : decode cX5_refuseState 6 = .ok (.iadd, 1) := by decide +kernel
theorem dX5_refuseState_7 : decode cX5_refuseState 7 = .ok (.putfield 242, 3) := by decide +kernel
theorem dX5_refuseState_10 : decode cX5_refuseState 10 = .ok (.new 267, 3) := by decide +kernel
theorem dX5_refuseState_13 : decode cX5_refuseState 13 = .ok (.dup, 1) := by decide +kernel
theorem dX5_refuseState_14 : decode cX5_refuseState 14 = .ok (.ldc_w 269, 3) := by decide +kernel
theorem dX5_refuseState_17 : decode cX5_refuseState 17 = .ok (.invokespecial 271, 3) := by decide +kernel
theorem dX5_refuseState_20 : decode cX5_refuseState 20 = .ok (.athrow, 1) := by decide +kernel
