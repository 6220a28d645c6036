theorem dX6_farOn_32 : decode cX6_farOn 32 = .ok (.isub, 1) := by decide +kernel
theorem dX6_farOn_33 : decode cX6_farOn 33 = .ok (.iconst 0, 1) := by decide +kernel
theorem dX6_farOn_34 : decode cX6_farOn 34 = .ok (.invokevirtual 222, 3) := by decide +kernel
theorem dX6_farOn_37 : decode cX6_farOn 37 = .ok (.ireturn, 1) := by decide +kernel
theorem dX6_comesTo_0 : decode cX6_comesTo 0 = .ok (.iload_n 2, 1) := by decide +kernel
theorem dX6_comesTo_1 : decode cX6_comesTo 1 = .ok (.istore 5, 2) := by decide +kernel
theorem dX6_comesTo_3 : decode cX6_comesTo 3 = .ok (.iconst 0, 1) := by decide +kernel
theorem dX6_comesTo_4 : decode cX6_comesTo 4 = .ok (.istore 6, 2) := by decide +kernel
theorem dX6_comesTo_6 : decode cX6_comesTo 6 = .ok (.iload 6, 2) := by decide +kernel
theorem dX6_comesTo_8 : decode cX6_comesTo 8 = .ok (.iload 4, 2) := by decide +kernel
theorem dX6_comesTo_10 : decode cX6_comesTo 10 = .ok (.if_icmp .gt 53, 3) := by decide +kernel
theorem dX6_comesTo_13 : decode cX6_comesTo 13 = .ok (.iload 5, 2) := by decide +kernel
theorem dX6_comesTo_15 : decode cX6_comesTo 15 = .ok (.aload_n 0, 1) := by decide +kernel
theorem dX6_comesTo_16 : decode cX6_comesTo 16 = .ok (.iload_n 1, 1) := by decide +kernel
theorem dX6_comesTo_17 : decode cX6_comesTo 17 = .ok (.iload 6, 2) := by decide +kernel
theorem dX6_comesTo_19 : decode cX6_comesTo 19 = .ok (.invokevirtual 268, 3) := by decide +kernel
theorem dX6_comesTo_22 : decode cX6_comesTo 22 = .ok (.iload_n 3, 1) := by decide +kernel
theorem dX6_comesTo_23 : decode cX6_comesTo 23 = .ok (.invokestatic 261, 3) := by decide +kernel
theorem dX6_comesTo_26 : decode cX6_comesTo 26 = .ok (.iload 6, 2) := by decide +kernel
theorem dX6_comesTo_28 : decode cX6_comesTo 28 = .ok (.iload 4, 2) := by decide +kernel
theorem dX6_comesTo_30 : decode cX6_comesTo 30 = .ok (.if_icmp .ge 22, 3) := by decide +kernel
theorem dX6_comesTo_33 : decode cX6_comesTo 33 = .ok (.aload_n 0, 1) := by decide +kernel
theorem dX6_comesTo_34 : decode cX6_comesTo 34 = .ok (.aload_n 0, 1) := by decide +kernel
theorem dX6_comesTo_35 : decode cX6_comesTo 35 = .ok (.iload_n 1, 1) := by decide +kernel
theorem dX6_comesTo_36 : decode cX6_comesTo 36 = .ok (.iload 6, 2) := by decide +kernel
theorem dX6_comesTo_38 : decode cX6_comesTo 38 = .ok (.invokevirtual 271, 3) := by decide +kernel
theorem dX6_comesTo_41 : decode cX6_comesTo 41 = .ok (.iconst 2, 1) := by decide +kernel
theorem dX6_comesTo_42 : decode cX6_comesTo 42 = .ok (.invokevirtual 222, 3) := by decide +kernel
theorem dX6_comesTo_45 : decode cX6_comesTo 45 = .ok (.iload_n 3, 1) := by decide +kernel
theorem dX6_comesTo_46 : decode cX6_comesTo 46 = .ok (.invokestatic 261, 3) := by decide +kernel
theorem dX6_comesTo_49 : decode cX6_comesTo 49 = .ok (.goto 4, 3) := by decide +kernel
theorem dX6_comesTo_52 : decode cX6_comesTo 52 = .ok (.iconst 0, 1) := by decide +kernel
theorem dX6_comesTo_53 : decode cX6_comesTo 53 = .ok (.iadd, 1) := by decide +kernel
theorem dX6_comesTo_54 : decode cX6_comesTo 54 = .ok (.iadd, 1) := by decide +kernel
theorem dX6_comesTo_55 : decode cX6_comesTo 55 = .ok (.istore 5, 2) := by decide +kernel
theorem dX6_comesTo_57 : decode cX6_comesTo 57 = .ok (.iinc 6 1, 3) := by decide +kernel
theorem dX6_comesTo_60 : decode cX6_comesTo 60 = .ok (.goto (-54), 3) := by decide +kernel
theorem dX6_comesTo_63 : decode cX6_comesTo 63 = .ok (.iload 5, 2) := by decide +kernel
theorem dX6_comesTo_65 : decode cX6_comesTo 65 = .ok (.ireturn, 1) := by decide +kernel
theorem dX6_endsIn_0 : decode cX6_endsIn 0 = .ok (.aload_n 0, 1) := by decide +kernel
theorem dX6_endsIn_1 : decode cX6_endsIn 1 = .ok (.getfield 17, 3) := by decide +kernel
theorem dX6_endsIn_4 : decode cX6_endsIn 4 = .ok (.iconst 4, 1) := by decide +kernel
theorem dX6_endsIn_5 : decode cX6_endsIn 5 = .ok (.iaload, 1) := by decide +kernel
theorem dX6_endsIn_6 : decode cX6_endsIn 6 = .ok (.iconst 1, 1) := by decide +kernel
theorem dX6_endsIn_7 : decode cX6_endsIn 7 = .ok (.isub, 1) := by decide +kernel
theorem dX6_endsIn_8 : decode cX6_endsIn 8 = .ok (.istore 4, 2) := by decide +kernel
theorem dX6_endsIn_10 : decode cX6_endsIn 10 = .ok (.iload 4, 2) := by decide +kernel
theorem dX6_endsIn_12 : decode cX6_endsIn 12 = .ok (.ifCond .ge 7, 3) := by decide +kernel
theorem dX6_endsIn_15 : decode cX6_endsIn 15 = .ok (.iload_n 2, 1) := by decide +kernel
theorem dX6_endsIn_16 : decode cX6_endsIn 16 = .ok (.goto 29, 3) := by decide +kernel
theorem dX6_endsIn_19 : decode cX6_endsIn 19 = .ok (.aload_n 0, 1) := by decide +kernel
theorem dX6_endsIn_20 : decode cX6_endsIn 20 = .ok (.iload_n 1, 1) := by decide +kernel
theorem dX6_endsIn_21 : decode cX6_endsIn 21 = .ok (.iload_n 2, 1) := by decide +kernel
theorem dX6_endsIn_22 : decode cX6_endsIn 22 = .ok (.iload_n 3, 1) := by decide +kernel
theorem dX6_endsIn_23 : decode cX6_endsIn 23 = .ok (.iload 4, 2) := by decide +kernel
theorem dX6_endsIn_25 : decode cX6_endsIn 25 = .ok (.invokevirtual 274, 3) := by decide +kernel
theorem dX6_endsIn_28 : decode cX6_endsIn 28 = .ok (.aload_n 0, 1) := by decide +kernel
theorem dX6_endsIn_29 : decode cX6_endsIn 29 = .ok (.aload_n 0, 1) := by decide +kernel
theorem dX6_endsIn_30 : decode cX6_endsIn 30 = .ok (.iload_n 1, 1) := by decide +kernel
theorem dX6_endsIn_31 : decode cX6_endsIn 31 = .ok (.iload 4, 2) := by decide +kernel
theorem dX6_endsIn_33 : decode cX6_endsIn 33 = .ok (.invokevirtual 271, 3) := by decide +kernel
theorem dX6_endsIn_36 : decode cX6_endsIn 36 = .ok (.iconst 2, 1) := by decide +kernel
theorem dX6_endsIn_37 : decode cX6_endsIn 37 = .ok (.invokevirtual 222, 3) := by decide +kernel
theorem dX6_endsIn_40 : decode cX6_endsIn 40 = .ok (.iload_n 3, 1) := by decide +kernel
theorem dX6_endsIn_41 : decode cX6_endsIn 41 = .ok (.invokestatic 261, 3) := by decide +kernel
theorem dX6_endsIn_44 : decode cX6_endsIn 44 = .ok (.iadd, 1) := by decide +kernel
theorem dX6_endsIn_45 : decode cX6_endsIn 45 = .ok (.ireturn, 1) := by decide +kernel
theorem dX6_isGood_0 : decode cX6_isGood 0 = .ok (.iload_n 3, 1) := by decide +kernel
theorem dX6_isGood_1 : decode cX6_isGood 1 = .ok (.istore 5, 2) := by decide +kernel
theorem dX6_isGood_3 : decode cX6_isGood 3 = .ok (.iconst 0, 1) := by decide +kernel
theorem dX6_isGood_4 : decode cX6_isGood 4 = .ok (.istore 6, 2) := by decide +kernel
theorem dX6_isGood_6 : decode cX6_isGood 6 = .ok (.iload 6, 2) := by decide +kernel
theorem dX6_isGood_8 : decode cX6_isGood 8 = .ok (.aload_n 0, 1) := by decide +kernel
theorem dX6_isGood_9 : decode cX6_isGood 9 = .ok (.getfield 17, 3) := by decide +kernel
theorem dX6_isGood_12 : decode cX6_isGood 12 = .ok (.iconst 4, 1) := by decide +kernel
theorem dX6_isGood_13 : decode cX6_isGood 13 = .ok (.iaload, 1) := by decide +kernel
theorem dX6_isGood_14 : decode cX6_isGood 14 = .ok (.if_icmp .ge 70, 3) := by decide +kernel
theorem dX6_isGood_17 : decode cX6_isGood 17 = .ok (.iload 5, 2) := by decide +kernel
theorem dX6_isGood_19 : decode cX6_isGood 19 = .ok (.aload_n 0, 1) := by decide +kernel
theorem dX6_isGood_20 : decode cX6_isGood 20 = .ok (.iload_n 1, 1) := by decide +kernel
theorem dX6_isGood_21 : decode cX6_isGood 21 = .ok (.iload 6, 2) := by decide +kernel
theorem dX6_isGood_23 : decode cX6_isGood 23 = .ok (.invokevirtual 268, 3) := by decide +kernel
theorem dX6_isGood_26 : decode cX6_isGood 26 = .ok (.iload 4, 2) := by decide +kernel
theorem dX6_isGood_28 : decode cX6_isGood 28 = .ok (.invokestatic 261, 3) := by decide +kernel
theorem dX6_isGood_31 : decode cX6_isGood 31 = .ok (.iadd, 1) := by decide +kernel
theorem dX6_isGood_32 : decode cX6_isGood 32 = .ok (.istore 5, 2) := by decide +kernel
theorem dX6_isGood_34 : decode cX6_isGood 34 = .ok (.aload_n 0, 1) := by decide +kernel
theorem dX6_isGood_35 : decode cX6_isGood 35 = .ok (.iload_n 1, 1) := by decide +kernel
theorem dX6_isGood_36 : decode cX6_isGood 36 = .ok (.iload_n 2, 1) := by decide +kernel
theorem dX6_isGood_37 : decode cX6_isGood 37 = .ok (.aload_n 0, 1) := by decide +kernel
theorem dX6_isGood_38 : decode cX6_isGood 38 = .ok (.iload_n 1, 1) := by decide +kernel
theorem dX6_isGood_39 : decode cX6_isGood 39 = .ok (.iload 6, 2) := by decide +kernel
theorem dX6_isGood_41 : decode cX6_isGood 41 = .ok (.invokevirtual 271, 3) := by decide +kernel
theorem dX6_isGood_44 : decode cX6_isGood 44 = .ok (.iload 5, 2) := by decide +kernel
theorem dX6_isGood_46 : decode cX6_isGood 46 = .ok (.iload 4, 2) := by decide +kernel
theorem dX6_isGood_48 : decode cX6_isGood 48 = .ok (.invokevirtual 277, 3) := by decide +kernel
theorem dX6_isGood_51 : decode cX6_isGood 51 = .ok (.ifCond .ne 5, 3) := by decide +kernel
theorem dX6_isGood_54 : decode cX6_isGood 54 = .ok (.iconst 0, 1) := by decide +kernel
theorem dX6_isGood_55 : decode cX6_isGood 55 = .ok (.ireturn, 1) := by decide +kernel
theorem dX6_isGood_56 : decode cX6_isGood 56 = .ok (.iload 5, 2) := by decide +kernel
theorem dX6_isGood_58 : decode cX6_isGood 58 = .ok (.aload_n 0, 1) := by decide +kernel
theorem dX6_isGood_59 : decode cX6_isGood 59 = .ok (.aload_n 0, 1) := by decide +kernel
theorem dX6_isGood_60 : decode cX6_isGood 60 = .ok (.iload_n 1, 1) := by decide +kernel
theorem dX6_isGood_61 : decode cX6_isGood 61 = .ok (.iload 6, 2) := by decide +kernel
theorem dX6_isGood_63 : decode cX6_isGood 63 = .ok (.invokevirtual 271, 3) := by decide +kernel
theorem dX6_isGood_66 : decode cX6_isGood 66 = .ok (.iconst 2, 1) := by decide +kernel
theorem dX6_isGood_67 : decode cX6_isGood 67 = .ok (.invokevirtual 222, 3) := by decide +kernel
theorem dX6_isGood_70 : decode cX6_isGood 70 = .ok (.iload 4, 2) := by decide +kernel
theorem dX6_isGood_72 : decode cX6_isGood 72 = .ok (.invokestatic 261, 3) := by decide +kernel
theorem dX6_isGood_75 : decode cX6_isGood 75 = .ok (.iadd, 1) := by decide +kernel
theorem dX6_isGood_76 : decode cX6_isGood 76 = .ok (.istore 5, 2) := by decide +kernel
theorem dX6_isGood_78 : decode cX6_isGood 78 = .ok (.iinc 6 1, 3) := by decide +kernel
theorem dX6_isGood_81 : decode cX6_isGood 81 = .ok (.goto (-75), 3) := by decide +kernel
theorem dX6_isGood_84 : decode cX6_isGood 84 = .ok (.iconst 1, 1) := by decide +kernel
theorem dX6_isGood_85 : decode cX6_isGood 85 = .ok (.ireturn, 1) := by decide +kernel
theorem dX6_goesWell_0 : decode cX6_goesWell 0 = .ok (.aload_n 0, 1) := by decide +kernel
theorem dX6_goesWell_1 : decode cX6_goesWell 1 = .ok (.iload_n 1, 1) := by decide +kernel
theorem dX6_goesWell_2 : decode cX6_goesWell 2 = .ok (.aload_n 0, 1) := by decide +kernel
theorem dX6_goesWell_3 : decode cX6_goesWell 3 = .ok (.iload_n 1, 1) := by decide +kernel
theorem dX6_goesWell_4 : decode cX6_goesWell 4 = .ok (.iconst 0, 1) := by decide +kernel
theorem dX6_goesWell_5 : decode cX6_goesWell 5 = .ok (.invokevirtual 241, 3) := by decide +kernel
theorem dX6_goesWell_8 : decode cX6_goesWell 8 = .ok (.iload_n 2, 1) := by decide +kernel
theorem dX6_goesWell_9 : decode cX6_goesWell 9 = .ok (.iload_n 3, 1) := by decide +kernel
theorem dX6_goesWell_10 : decode cX6_goesWell 10 = .ok (.invokevirtual 280, 3) := by decide +kernel
theorem dX6_goesWell_13 : decode cX6_goesWell 13 = .ok (.ireturn, 1) := by decide +kernel
theorem dX6_isShip_0 : decode cX6_isShip 0 = .ok (.iload_n 1, 1) := by decide +kernel
theorem dX6_isShip_1 : decode cX6_isShip 1 = .ok (.i2l, 1) := by decide +kernel
theorem dX6_isShip_2 : decode cX6_isShip 2 = .ok (.lconst 0, 1) := by decide +kernel
theorem dX6_isShip_3 : decode cX6_isShip 3 = .ok (.aload_n 0, 1) := by decide +kernel
theorem dX6_isShip_4 : decode cX6_isShip 4 = .ok (.getfield 17, 3) := by decide +kernel
theorem dX6_isShip_7 : decode cX6_isShip 7 = .ok (.iconst 5, 1) := by decide +kernel
theorem dX6_isShip_8 : decode cX6_isShip 8 = .ok (.iaload, 1) := by decide +kernel
theorem dX6_isShip_9 : decode cX6_isShip 9 = .ok (.iconst 1, 1) := by decide +kernel
theorem dX6_isShip_10 : decode cX6_isShip 10 = .ok (.isub, 1) := by decide +kernel
theorem dX6_isShip_11 : decode cX6_isShip 11 = .ok (.i2l, 1) := by decide +kernel
theorem dX6_isShip_12 : decode cX6_isShip 12 = .ok (.invokestatic 122, 3) := by decide +kernel
theorem dX6_isShip_15 : decode cX6_isShip 15 = .ok (.ireturn, 1) := by decide +kernel
theorem dX6_isBar_0 : decode cX6_isBar 0 = .ok (.iload_n 1, 1) := by decide +kernel
theorem dX6_isBar_1 : decode cX6_isBar 1 = .ok (.i2l, 1) := by decide +kernel
theorem dX6_isBar_2 : decode cX6_isBar 2 = .ok (.lconst 0, 1) := by decide +kernel
theorem dX6_isBar_3 : decode cX6_isBar 3 = .ok (.aload_n 0, 1) := by decide +kernel
theorem dX6_isBar_4 : decode cX6_isBar 4 = .ok (.getfield 17, 3) := by decide +kernel
theorem dX6_isBar_7 : decode cX6_isBar 7 = .ok (.iconst 4, 1) := by decide +kernel
theorem dX6_isBar_8 : decode cX6_isBar 8 = .ok (.iaload, 1) := by decide +kernel
theorem dX6_isBar_9 : decode cX6_isBar 9 = .ok (.iconst 1, 1) := by decide +kernel
theorem dX6_isBar_10 : decode cX6_isBar 10 = .ok (.isub, 1) := by decide +kernel
theorem dX6_isBar_11 : decode cX6_isBar 11 = .ok (.i2l, 1) := by decide +kernel
theorem dX6_isBar_12 : decode cX6_isBar 12 = .ok (.invokestatic 122, 3) := by decide +kernel
theorem dX6_isBar_15 : decode cX6_isBar 15 = .ok (.ireturn, 1) := by decide +kernel
theorem dX6_isMinute_0 : decode cX6_isMinute 0 = .ok (.iload_n 0, 1) := by decide +kernel
theorem dX6_isMinute_1 : decode cX6_isMinute 1 = .ok (.i2l, 1) := by decide +kernel
theorem dX6_isMinute_2 : decode cX6_isMinute 2 = .ok (.lconst 0, 1) := by decide +kernel
theorem dX6_isMinute_3 : decode cX6_isMinute 3 = .ok (.ldc2_w 284, 3) := by decide +kernel
theorem dX6_isMinute_6 : decode cX6_isMinute 6 = .ok (.invokestatic 122, 3) := by decide +kernel
theorem dX6_isMinute_9 : decode cX6_isMinute 9 = .ok (.ireturn, 1) := by decide +kernel
theorem dX6_isSpeed_0 : decode cX6_isSpeed 0 = .ok (.iload_n 0, 1) := by decide +kernel
theorem dX6_isSpeed_1 : decode cX6_isSpeed 1 = .ok (.i2l, 1) := by decide +kernel
theorem dX6_isSpeed_2 : decode cX6_isSpeed 2 = .ok (.ldc2_w 286, 3) := by decide +kernel
theorem dX6_isSpeed_5 : decode cX6_isSpeed 5 = .ok (.ldc2_w 288, 3) := by decide +kernel
theorem dX6_isSpeed_8 : decode cX6_isSpeed 8 = .ok (.invokestatic 122, 3) := by decide +kernel
theorem dX6_isSpeed_11 : decode cX6_isSpeed 11 = .ok (.ireturn, 1) := by decide +kernel
theorem dX6_isBooked_0 : decode cX6_isBooked 0 = .ok (.aload_n 0, 1) := by decide +kernel
theorem dX6_isBooked_1 : decode cX6_isBooked 1 = .ok (.iload_n 1, 1) := by decide +kernel
theorem dX6_isBooked_2 : decode cX6_isBooked 2 = .ok (.bipush 6, 2) := by decide +kernel
theorem dX6_isBooked_4 : decode cX6_isBooked 4 = .ok (.invokevirtual 241, 3) := by decide +kernel
theorem dX6_isBooked_7 : decode cX6_isBooked 7 = .ok (.iconst (-1), 1) := by decide +kernel
theorem dX6_isBooked_8 : decode cX6_isBooked 8 = .ok (.if_icmp .eq 7, 3) := by decide +kernel
theorem dX6_isBooked_11 : decode cX6_isBooked 11 = .ok (.iconst 1, 1) := by decide +kernel
theorem dX6_isBooked_12 : decode cX6_isBooked 12 = .ok (.goto 4, 3) := by decide +kernel
theorem dX6_isBooked_15 : decode cX6_isBooked 15 = .ok (.iconst 0, 1) := by decide +kernel
theorem dX6_isBooked_16 : decode cX6_isBooked 16 = .ok (.ireturn, 1) := by decide +kernel
theorem dX6_changes_0 : decode cX6_changes 0 = .ok (.aload_n 0, 1) := by decide +kernel
theorem dX6_changes_1 : decode cX6_changes 1 = .ok (.invokevirtual 205, 3) := by decide +kernel
theorem dX6_changes_4 : decode cX6_changes 4 = .ok (.aload_n 0, 1) := by decide +kernel
theorem dX6_changes_5 : decode cX6_changes 5 = .ok (.getfield 17, 3) := by decide +kernel
theorem dX6_changes_8 : decode cX6_changes 8 = .ok (.iload_n 1, 1) := by decide +kernel
theorem dX6_changes_9 : decode cX6_changes 9 = .ok (.iaload, 1) := by decide +kernel
theorem dX6_changes_10 : decode cX6_changes 10 = .ok (.istore_n 3, 1) := by decide +kernel
theorem dX6_changes_11 : decode cX6_changes 11 = .ok (.aload_n 0, 1) := by decide +kernel
theorem dX6_changes_12 : decode cX6_changes 12 = .ok (.getfield 17, 3) := by decide +kernel
theorem dX6_changes_15 : decode cX6_changes 15 = .ok (.iload_n 1, 1) := by decide +kernel
theorem dX6_changes_16 : decode cX6_changes 16 = .ok (.iload_n 2, 1) := by decide +kernel
theorem dX6_changes_17 : decode cX6_changes 17 = .ok (.iastore, 1) := by decide +kernel
theorem dX6_changes_18 : decode cX6_changes 18 = .ok (.iload_n 3, 1) := by decide +kernel
theorem dX6_changes_19 : decode cX6_changes 19 = .ok (.ireturn, 1) := by decide +kernel
theorem dX6_sound_0 : decode cX6_sound 0 = .ok (.aload_n 0, 1) := by decide +kernel
theorem dX6_sound_1 : decode cX6_sound 1 = .ok (.iconst 0, 1) := by decide +kernel
theorem dX6_sound_2 : decode cX6_sound 2 = .ok (.putfield 1, 3) := by decide +kernel
theorem dX6_sound_5 : decode cX6_sound 5 = .ok (.aload_n 0, 1) := by decide +kernel
theorem dX6_sound_6 : decode cX6_sound 6 = .ok (.aload_n 0, 1) := by decide +kernel
theorem dX6_sound_7 : decode cX6_sound 7 = .ok (.iload_n 1, 1) := by decide +kernel
theorem dX6_sound_8 : decode cX6_sound 8 = .ok (.invokevirtual 290, 3) := by decide +kernel
theorem dX6_sound_11 : decode cX6_sound 11 = .ok (.iconst 1, 1) := by decide +kernel
theorem dX6_sound_12 : decode cX6_sound 12 = .ok (.iconst 0, 1) := by decide +kernel
theorem dX6_sound_13 : decode cX6_sound 13 = .ok (.invokevirtual 196, 3) := by decide +kernel
theorem dX6_sound_16 : decode cX6_sound 16 = .ok (.ifCond .eq 23, 3) := by decide +kernel
theorem dX6_sound_19 : decode cX6_sound 19 = .ok (.aload_n 0, 1) := by decide +kernel
theorem dX6_sound_20 : decode cX6_sound 20 = .ok (.iload_n 2, 1) := by decide +kernel
theorem dX6_sound_21 : decode cX6_sound 21 = .ok (.i2l, 1) := by decide +kernel
theorem dX6_sound_22 : decode cX6_sound 22 = .ok (.ldc2_w 293, 3) := by decide +kernel
theorem dX6_sound_25 : decode cX6_sound 25 = .ok (.ldc2_w 295, 3) := by decide +kernel
theorem dX6_sound_28 : decode cX6_sound 28 = .ok (.invokestatic 122, 3) := by decide +kernel
theorem dX6_sound_31 : decode cX6_sound 31 = .ok (.iconst 2, 1) := by decide +kernel
theorem dX6_sound_32 : decode cX6_sound 32 = .ok (.iconst 1, 1) := by decide +kernel
theorem dX6_sound_33 : decode cX6_sound 33 = .ok (.invokevirtual 196, 3) := by decide +kernel
theorem dX6_sound_36 : decode cX6_sound 36 = .ok (.ifCond .ne 5, 3) := by decide +kernel
theorem dX6_sound_39 : decode cX6_sound 39 = .ok (.iconst 0, 1) := by decide +kernel
theorem dX6_sound_40 : decode cX6_sound 40 = .ok (.ireturn, 1) := by decide +kernel
theorem dX6_sound_41 : decode cX6_sound 41 = .ok (.aload_n 0, 1) := by decide +kernel
theorem dX6_sound_42 : decode cX6_sound 42 = .ok (.bipush 24, 2) := by decide +kernel
theorem dX6_sound_44 : decode cX6_sound 44 = .ok (.bipush 6, 2) := by decide +kernel
theorem dX6_sound_46 : decode cX6_sound 46 = .ok (.iload_n 1, 1) := by decide +kernel
theorem dX6_sound_47 : decode cX6_sound 47 = .ok (.imul, 1) := by decide +kernel
theorem dX6_sound_48 : decode cX6_sound 48 = .ok (.iadd, 1) := by decide +kernel
theorem dX6_sound_49 : decode cX6_sound 49 = .ok (.iconst 1, 1) := by decide +kernel
theorem dX6_sound_50 : decode cX6_sound 50 = .ok (.iadd, 1) := by decide +kernel
theorem dX6_sound_51 : decode cX6_sound 51 = .ok (.iload_n 2, 1) := by decide +kernel
theorem dX6_sound_52 : decode cX6_sound 52 = .ok (.invokevirtual 297, 3) := by decide +kernel
theorem dX6_sound_55 : decode cX6_sound 55 = .ok (.ireturn, 1) := by decide +kernel
theorem dX6_load_0 : decode cX6_load 0 = .ok (.aload_n 0, 1) := by decide +kernel
theorem dX6_load_1 : decode cX6_load 1 = .ok (.iconst 0, 1) := by decide +kernel
theorem dX6_load_2 : decode cX6_load 2 = .ok (.putfield 1, 3) := by decide +kernel
theorem dX6_load_5 : decode cX6_load 5 = .ok (.aload_n 0, 1) := by decide +kernel
theorem dX6_load_6 : decode cX6_load 6 = .ok (.aload_n 0, 1) := by decide +kernel
theorem dX6_load_7 : decode cX6_load 7 = .ok (.iload_n 1, 1) := by decide +kernel
theorem dX6_load_8 : decode cX6_load 8 = .ok (.invokevirtual 300, 3) := by decide +kernel
theorem dX6_load_11 : decode cX6_load 11 = .ok (.iconst 1, 1) := by decide +kernel
theorem dX6_load_12 : decode cX6_load 12 = .ok (.iconst 0, 1) := by decide +kernel
theorem dX6_load_13 : decode cX6_load 13 = .ok (.invokevirtual 196, 3) := by decide +kernel
theorem dX6_load_16 : decode cX6_load 16 = .ok (.ifCond .eq 23, 3) := by decide +kernel
theorem dX6_load_19 : decode cX6_load 19 = .ok (.aload_n 0, 1) := by decide +kernel
theorem dX6_load_20 : decode cX6_load 20 = .ok (.iload_n 2, 1) := by decide +kernel
theorem dX6_load_21 : decode cX6_load 21 = .ok (.i2l, 1) := by decide +kernel
theorem dX6_load_22 : decode cX6_load 22 = .ok (.ldc2_w 293, 3) := by decide +kernel
theorem dX6_load_25 : decode cX6_load 25 = .ok (.ldc2_w 303, 3) := by decide +kernel
theorem dX6_load_28 : decode cX6_load 28 = .ok (.invokestatic 122, 3) := by decide +kernel
theorem dX6_load_31 : decode cX6_load 31 = .ok (.iconst 2, 1) := by decide +kernel
theorem dX6_load_32 : decode cX6_load 32 = .ok (.iconst 1, 1) := by decide +kernel
theorem dX6_load_33 : decode cX6_load 33 = .ok (.invokevirtual 196, 3) := by decide +kernel
theorem dX6_load_36 : decode cX6_load 36 = .ok (.ifCond .ne 5, 3) := by decide +kernel
theorem dX6_load_39 : decode cX6_load 39 = .ok (.iconst 0, 1) := by decide +kernel
theorem dX6_load_40 : decode cX6_load 40 = .ok (.ireturn, 1) := by decide +kernel
theorem dX6_load_41 : decode cX6_load 41 = .ok (.aload_n 0, 1) := by decide +kernel
theorem dX6_load_42 : decode cX6_load 42 = .ok (.bipush 60, 2) := by decide +kernel
theorem dX6_load_44 : decode cX6_load 44 = .ok (.bipush 8, 2) := by decide +kernel
theorem dX6_load_46 : decode cX6_load 46 = .ok (.iload_n 1, 1) := by decide +kernel
theorem dX6_load_47 : decode cX6_load 47 = .ok (.imul, 1) := by decide +kernel
theorem dX6_load_48 : decode cX6_load 48 = .ok (.iadd, 1) := by decide +kernel
theorem dX6_load_49 : decode cX6_load 49 = .ok (.iconst 0, 1) := by decide +kernel
theorem dX6_load_50 : decode cX6_load 50 = .ok (.iadd, 1) := by decide +kernel
theorem dX6_load_51 : decode cX6_load 51 = .ok (.iload_n 2, 1) := by decide +kernel
theorem dX6_load_52 : decode cX6_load 52 = .ok (.invokevirtual 297, 3) := by decide +kernel
theorem dX6_load_55 : decode cX6_load 55 = .ok (.ireturn, 1) := by decide +kernel
theorem dX6_surge_0 : decode cX6_surge 0 = .ok (.aload_n 0, 1) := by decide +kernel
theorem dX6_surge_1 : decode cX6_surge 1 = .ok (.iconst 0, 1) := by decide +kernel
theorem dX6_surge_2 : decode cX6_surge 2 = .ok (.putfield 1, 3) := by decide +kernel
theorem dX6_surge_5 : decode cX6_surge 5 = .ok (.aload_n 0, 1) := by decide +kernel
theorem dX6_surge_6 : decode cX6_surge 6 = .ok (.iload_n 1, 1) := by decide +kernel
theorem dX6_surge_7 : decode cX6_surge 7 = .ok (.i2l, 1) := by decide +kernel
theorem dX6_surge_8 : decode cX6_surge 8 = .ok (.ldc2_w 305, 3) := by decide +kernel
theorem dX6_surge_11 : decode cX6_surge 11 = .ok (.ldc2_w 307, 3) := by decide +kernel
theorem dX6_surge_14 : decode cX6_surge 14 = .ok (.invokestatic 122, 3) := by decide +kernel
theorem dX6_surge_17 : decode cX6_surge 17 = .ok (.iconst 1, 1) := by decide +kernel
theorem dX6_surge_18 : decode cX6_surge 18 = .ok (.iconst 1, 1) := by decide +kernel
theorem dX6_surge_19 : decode cX6_surge 19 = .ok (.invokevirtual 196, 3) := by decide +kernel
theorem dX6_surge_22 : decode cX6_surge 22 = .ok (.ifCond .eq 12, 3) := by decide +kernel
theorem dX6_surge_25 : decode cX6_surge 25 = .ok (.aload_n 0, 1) := by decide +kernel
theorem dX6_surge_26 : decode cX6_surge 26 = .ok (.iconst 2, 1) := by decide +kernel
theorem dX6_surge_27 : decode cX6_surge 27 = .ok (.iload_n 1, 1) := by decide +kernel
theorem dX6_surge_28 : decode cX6_surge 28 = .ok (.invokevirtual 297, 3) := by decide +kernel
theorem dX6_surge_31 : decode cX6_surge 31 = .ok (.goto 4, 3) := by decide +kernel
theorem dX6_surge_34 : decode cX6_surge 34 = .ok (.iconst 0, 1) := by decide +kernel
theorem dX6_surge_35 : decode cX6_surge 35 = .ok (.ireturn, 1) := by decide +kernel
theorem dX6_areClose_0 : decode cX6_areClose 0 = .ok (.iconst 0, 1) := by decide +kernel
theorem dX6_areClose_1 : decode cX6_areClose 1 = .ok (.istore 7, 2) := by decide +kernel
theorem dX6_areClose_3 : decode cX6_areClose 3 = .ok (.iload 7, 2) := by decide +kernel
theorem dX6_areClose_5 : decode cX6_areClose 5 = .ok (.aload_n 0, 1) := by decide +kernel
theorem dX6_areClose_6 : decode cX6_areClose 6 = .ok (.getfield 17, 3) := by decide +kernel
theorem dX6_areClose_9 : decode cX6_areClose 9 = .ok (.iconst 4, 1) := by decide +kernel
theorem dX6_areClose_10 : decode cX6_areClose 10 = .ok (.iaload, 1) := by decide +kernel
theorem dX6_areClose_11 : decode cX6_areClose 11 = .ok (.if_icmp .ge 138, 3) := by decide +kernel
theorem dX6_areClose_14 : decode cX6_areClose 14 = .ok (.aload_n 0, 1) := by decide +kernel
theorem dX6_areClose_15 : decode cX6_areClose 15 = .ok (.iload_n 1, 1) := by decide +kernel
theorem dX6_areClose_16 : decode cX6_areClose 16 = .ok (.iload 7, 2) := by decide +kernel
theorem dX6_areClose_18 : decode cX6_areClose 18 = .ok (.invokevirtual 271, 3) := by decide +kernel
theorem dX6_areClose_21 : decode cX6_areClose 21 = .ok (.istore 8, 2) := by decide +kernel
theorem dX6_areClose_23 : decode cX6_areClose 23 = .ok (.aload_n 0, 1) := by decide +kernel
theorem dX6_areClose_24 : decode cX6_areClose 24 = .ok (.iload_n 1, 1) := by decide +kernel
theorem dX6_areClose_25 : decode cX6_areClose 25 = .ok (.iload_n 2, 1) := by decide +kernel
theorem dX6_areClose_26 : decode cX6_areClose 26 = .ok (.iload_n 3, 1) := by decide +kernel
theorem dX6_areClose_27 : decode cX6_areClose 27 = .ok (.iload 7, 2) := by decide +kernel
theorem dX6_areClose_29 : decode cX6_areClose 29 = .ok (.invokevirtual 274, 3) := by decide +kernel
theorem dX6_areClose_32 : decode cX6_areClose 32 = .ok (.istore 9, 2) := by decide +kernel
theorem dX6_areClose_34 : decode cX6_areClose 34 = .ok (.iload 9, 2) := by decide +kernel
theorem dX6_areClose_36 : decode cX6_areClose 36 = .ok (.aload_n 0, 1) := by decide +kernel
theorem dX6_areClose_37 : decode cX6_areClose 37 = .ok (.iload 8, 2) := by decide +kernel
theorem dX6_areClose_39 : decode cX6_areClose 39 = .ok (.iconst 2, 1) := by decide +kernel
theorem dX6_areClose_40 : decode cX6_areClose 40 = .ok (.invokevirtual 222, 3) := by decide +kernel
theorem dX6_areClose_43 : decode cX6_areClose 43 = .ok (.iload_n 3, 1) := by decide +kernel
theorem dX6_areClose_44 : decode cX6_areClose 44 = .ok (.invokestatic 261, 3) := by decide +kernel
theorem dX6_areClose_47 : decode cX6_areClose 47 = .ok (.iadd, 1) := by decide +kernel
theorem dX6_areClose_48 : decode cX6_areClose 48 = .ok (.istore 10, 2) := by decide +kernel
theorem dX6_areClose_50 : decode cX6_areClose 50 = .ok (.aload_n 0, 1) := by decide +kernel
theorem dX6_areClose_51 : decode cX6_areClose 51 = .ok (.iload 4, 2) := by decide +kernel
theorem dX6_areClose_53 : decode cX6_areClose 53 = .ok (.iload 5, 2) := by decide +kernel
theorem dX6_areClose_55 : decode cX6_areClose 55 = .ok (.iload 6, 2) := by decide +kernel
theorem dX6_areClose_57 : decode cX6_areClose 57 = .ok (.aload_n 0, 1) := by decide +kernel
theorem dX6_areClose_58 : decode cX6_areClose 58 = .ok (.iload 4, 2) := by decide +kernel
theorem dX6_areClose_60 : decode cX6_areClose 60 = .ok (.iconst 5, 1) := by decide +kernel
theorem dX6_areClose_61 : decode cX6_areClose 61 = .ok (.invokevirtual 241, 3) := by decide +kernel
theorem dX6_areClose_64 : decode cX6_areClose 64 = .ok (.iconst 1, 1) := by decide +kernel
theorem dX6_areClose_65 : decode cX6_areClose 65 = .ok (.if_icmp .ne 17, 3) := by decide +kernel
theorem dX6_areClose_68 : decode cX6_areClose 68 = .ok (.aload_n 0, 1) := by decide +kernel
theorem dX6_areClose_69 : decode cX6_areClose 69 = .ok (.getfield 17, 3) := by decide +kernel
theorem dX6_areClose_72 : decode cX6_areClose 72 = .ok (.iconst 4, 1) := by decide +kernel
theorem dX6_areClose_73 : decode cX6_areClose 73 = .ok (.iaload, 1) := by decide +kernel
theorem dX6_areClose_74 : decode cX6_areClose 74 = .ok (.iconst 1, 1) := by decide +kernel
theorem dX6_areClose_75 : decode cX6_areClose 75 = .ok (.isub, 1) := by decide +kernel
theorem dX6_areClose_76 : decode cX6_areClose 76 = .ok (.iload 8, 2) := by decide +kernel
theorem dX6_areClose_78 : decode cX6_areClose 78 = .ok (.isub, 1) := by decide +kernel
theorem dX6_areClose_79 : decode cX6_areClose 79 = .ok (.goto 5, 3) := by decide +kernel
theorem dX6_areClose_82 : decode cX6_areClose 82 = .ok (.iload 8, 2) := by decide +kernel
theorem dX6_areClose_84 : decode cX6_areClose 84 = .ok (.invokevirtual 274, 3) := by decide +kernel
theorem dX6_areClose_87 : decode cX6_areClose 87 = .ok (.istore 11, 2) := by decide +kernel
theorem dX6_areClose_89 : decode cX6_areClose 89 = .ok (.iload 11, 2) := by decide +kernel
theorem dX6_areClose_91 : decode cX6_areClose 91 = .ok (.aload_n 0, 1) := by decide +kernel
theorem dX6_areClose_92 : decode cX6_areClose 92 = .ok (.iload 8, 2) := by decide +kernel
theorem dX6_areClose_94 : decode cX6_areClose 94 = .ok (.iconst 2, 1) := by decide +kernel
theorem dX6_areClose_95 : decode cX6_areClose 95 = .ok (.invokevirtual 222, 3) := by decide +kernel
theorem dX6_areClose_98 : decode cX6_areClose 98 = .ok (.iload 6, 2) := by decide +kernel
theorem dX6_areClose_100 : decode cX6_areClose 100 = .ok (.invokestatic 261, 3) := by decide +kernel
theorem dX6_areClose_103 : decode cX6_areClose 103 = .ok (.iadd, 1) := by decide +kernel
theorem dX6_areClose_104 : decode cX6_areClose 104 = .ok (.istore 12, 2) := by decide +kernel
theorem dX6_areClose_106 : decode cX6_areClose 106 = .ok (.iconst 0, 1) := by decide +kernel
theorem dX6_areClose_107 : decode cX6_areClose 107 = .ok (.iload 11, 2) := by decide +kernel
theorem dX6_areClose_109 : decode cX6_areClose 109 = .ok (.iload 10, 2) := by decide +kernel
theorem dX6_areClose_111 : decode cX6_areClose 111 = .ok (.isub, 1) := by decide +kernel
theorem dX6_areClose_112 : decode cX6_areClose 112 = .ok (.iload 9, 2) := by decide +kernel
theorem dX6_areClose_114 : decode cX6_areClose 114 = .ok (.iload 12, 2) := by decide +kernel
theorem dX6_areClose_116 : decode cX6_areClose 116 = .ok (.isub, 1) := by decide +kernel
theorem dX6_areClose_117 : decode cX6_areClose 117 = .ok (.invokestatic 160, 3) := by decide +kernel
theorem dX6_areClose_120 : decode cX6_areClose 120 = .ok (.invokestatic 160, 3) := by decide +kernel
theorem dX6_areClose_123 : decode cX6_areClose 123 = .ok (.istore 13, 2) := by decide +kernel
theorem dX6_areClose_125 : decode cX6_areClose 125 = .ok (.iload 13, 2) := by decide +kernel
theorem dX6_areClose_127 : decode cX6_areClose 127 = .ok (.ifCond .eq 14, 3) := by decide +kernel
theorem dX6_areClose_130 : decode cX6_areClose 130 = .ok (.iload 13, 2) := by decide +kernel
theorem dX6_areClose_132 : decode cX6_areClose 132 = .ok (.aload_n 0, 1) := by decide +kernel
theorem dX6_areClose_133 : decode cX6_areClose 133 = .ok (.getfield 17, 3) := by decide +kernel
theorem dX6_areClose_136 : decode cX6_areClose 136 = .ok (.iconst 1, 1) := by decide +kernel
theorem dX6_areClose_137 : decode cX6_areClose 137 = .ok (.iaload, 1) := by decide +kernel
theorem dX6_areClose_138 : decode cX6_areClose 138 = .ok (.if_icmp .ge 5, 3) := by decide +kernel
theorem dX6_areClose_141 : decode cX6_areClose 141 = .ok (.iconst 1, 1) := by decide +kernel
theorem dX6_areClose_142 : decode cX6_areClose 142 = .ok (.ireturn, 1) := by decide +kernel
theorem dX6_areClose_143 : decode cX6_areClose 143 = .ok (.iinc 7 1, 3) := by decide +kernel
theorem dX6_areClose_146 : decode cX6_areClose 146 = .ok (.goto (-143), 3) := by decide +kernel
theorem dX6_areClose_149 : decode cX6_areClose 149 = .ok (.iconst 0, 1) := by decide +kernel
theorem dX6_areClose_150 : decode cX6_areClose 150 = .ok (.ireturn, 1) := by decide +kernel
theorem dX6_closeTo_0 : decode cX6_closeTo 0 = .ok (.iconst 0, 1) := by decide +kernel
theorem dX6_closeTo_1 : decode cX6_closeTo 1 = .ok (.istore 4, 2) := by decide +kernel
theorem dX6_closeTo_3 : decode cX6_closeTo 3 = .ok (.iconst 0, 1) := by decide +kernel
theorem dX6_closeTo_4 : decode cX6_closeTo 4 = .ok (.istore 5, 2) := by decide +kernel
theorem dX6_closeTo_6 : decode cX6_closeTo 6 = .ok (.iload 5, 2) := by decide +kernel
theorem dX6_closeTo_8 : decode cX6_closeTo 8 = .ok (.aload_n 0, 1) := by decide +kernel
theorem dX6_closeTo_9 : decode cX6_closeTo 9 = .ok (.getfield 17, 3) := by decide +kernel
theorem dX6_closeTo_12 : decode cX6_closeTo 12 = .ok (.iconst 5, 1) := by decide +kernel
theorem dX6_closeTo_13 : decode cX6_closeTo 13 = .ok (.iaload, 1) := by decide +kernel
theorem dX6_closeTo_14 : decode cX6_closeTo 14 = .ok (.if_icmp .ge 61, 3) := by decide +kernel
theorem dX6_closeTo_17 : decode cX6_closeTo 17 = .ok (.iload 5, 2) := by decide +kernel
theorem dX6_closeTo_19 : decode cX6_closeTo 19 = .ok (.iload_n 1, 1) := by decide +kernel
theorem dX6_closeTo_20 : decode cX6_closeTo 20 = .ok (.if_icmp .eq 49, 3) := by decide +kernel
theorem dX6_closeTo_23 : decode cX6_closeTo 23 = .ok (.aload_n 0, 1) := by decide +kernel
theorem dX6_closeTo_24 : decode cX6_closeTo 24 = .ok (.iload 5, 2) := by decide +kernel
theorem dX6_closeTo_26 : decode cX6_closeTo 26 = .ok (.invokevirtual 309, 3) := by decide +kernel
theorem dX6_closeTo_29 : decode cX6_closeTo 29 = .ok (.ifCond .eq 40, 3) := by decide +kernel
theorem dX6_closeTo_32 : decode cX6_closeTo 32 = .ok (.aload_n 0, 1) := by decide +kernel
theorem dX6_closeTo_33 : decode cX6_closeTo 33 = .ok (.iload_n 1, 1) := by decide +kernel
theorem dX6_closeTo_34 : decode cX6_closeTo 34 = .ok (.iload_n 2, 1) := by decide +kernel
theorem dX6_closeTo_35 : decode cX6_closeTo 35 = .ok (.iload_n 3, 1) := by decide +kernel
theorem dX6_closeTo_36 : decode cX6_closeTo 36 = .ok (.iload 5, 2) := by decide +kernel
theorem dX6_closeTo_38 : decode cX6_closeTo 38 = .ok (.aload_n 0, 1) := by decide +kernel
theorem dX6_closeTo_39 : decode cX6_closeTo 39 = .ok (.iload 5, 2) := by decide +kernel
theorem dX6_closeTo_41 : decode cX6_closeTo 41 = .ok (.bipush 6, 2) := by decide +kernel
theorem dX6_closeTo_43 : decode cX6_closeTo 43 = .ok (.invokevirtual 241, 3) := by decide +kernel
theorem dX6_closeTo_46 : decode cX6_closeTo 46 = .ok (.aload_n 0, 1) := by decide +kernel
theorem dX6_closeTo_47 : decode cX6_closeTo 47 = .ok (.iload 5, 2) := by decide +kernel
theorem dX6_closeTo_49 : decode cX6_closeTo 49 = .ok (.bipush 7, 2) := by decide +kernel
theorem dX6_closeTo_51 : decode cX6_closeTo 51 = .ok (.invokevirtual 241, 3) := by decide +kernel
theorem dX6_closeTo_54 : decode cX6_closeTo 54 = .ok (.invokevirtual 312, 3) := by decide +kernel
theorem dX6_closeTo_57 : decode cX6_closeTo 57 = .ok (.ifCond .eq 12, 3) := by decide +kernel
theorem dX6_closeTo_60 : decode cX6_closeTo 60 = .ok (.iload 4, 2) := by decide +kernel
theorem dX6_closeTo_62 : decode cX6_closeTo 62 = .ok (.iconst 1, 1) := by decide +kernel
theorem dX6_closeTo_63 : decode cX6_closeTo 63 = .ok (.iload 5, 2) := by decide +kernel
theorem dX6_closeTo_65 : decode cX6_closeTo 65 = .ok (.ishl, 1) := by decide +kernel
theorem dX6_closeTo_66 : decode cX6_closeTo 66 = .ok (.ior, 1) := by decide +kernel
theorem dX6_closeTo_67 : decode cX6_closeTo 67 = .ok (.istore 4, 2) := by decide +kernel
theorem dX6_closeTo_69 : decode cX6_closeTo 69 = .ok (.iinc 5 1, 3) := by decide +kernel
theorem dX6_closeTo_72 : decode cX6_closeTo 72 = .ok (.goto (-66), 3) := by decide +kernel
theorem dX6_closeTo_75 : decode cX6_closeTo 75 = .ok (.iload 4, 2) := by decide +kernel
theorem dX6_closeTo_77 : decode cX6_closeTo 77 = .ok (.ireturn, 1) := by decide +kernel
theorem dX6_book_0 : decode cX6_book 0 = .ok (.aload_n 0, 1) := by decide +kernel
theorem dX6_book_1 : decode cX6_book 1 = .ok (.iconst 0, 1) := by decide +kernel
theorem dX6_book_2 : decode cX6_book 2 = .ok (.putfield 1, 3) := by decide +kernel
theorem dX6_book_5 : decode cX6_book 5 = .ok (.aload_n 0, 1) := by decide +kernel
theorem dX6_book_6 : decode cX6_book 6 = .ok (.aload_n 0, 1) := by decide +kernel
theorem dX6_book_7 : decode cX6_book 7 = .ok (.iload_n 1, 1) := by decide +kernel
theorem dX6_book_8 : decode cX6_book 8 = .ok (.invokevirtual 300, 3) := by decide +kernel
theorem dX6_book_11 : decode cX6_book 11 = .ok (.iconst 1, 1) := by decide +kernel
theorem dX6_book_12 : decode cX6_book 12 = .ok (.iconst 0, 1) := by decide +kernel
theorem dX6_book_13 : decode cX6_book 13 = .ok (.invokevirtual 196, 3) := by decide +kernel
theorem dX6_book_16 : decode cX6_book 16 = .ok (.ifCond .eq 51, 3) := by decide +kernel
theorem dX6_book_19 : decode cX6_book 19 = .ok (.aload_n 0, 1) := by decide +kernel
theorem dX6_book_20 : decode cX6_book 20 = .ok (.iload_n 2, 1) := by decide +kernel
theorem dX6_book_21 : decode cX6_book 21 = .ok (.i2l, 1) := by decide +kernel
theorem dX6_book_22 : decode cX6_book 22 = .ok (.lconst 0, 1) := by decide +kernel
theorem dX6_book_23 : decode cX6_book 23 = .ok (.ldc2_w 316, 3) := by decide +kernel
theorem dX6_book_26 : decode cX6_book 26 = .ok (.invokestatic 122, 3) := by decide +kernel
theorem dX6_book_29 : decode cX6_book 29 = .ok (.ifCond .eq 29, 3) := by decide +kernel
theorem dX6_book_32 : decode cX6_book 32 = .ok (.iload_n 3, 1) := by decide +kernel
theorem dX6_book_33 : decode cX6_book 33 = .ok (.i2l, 1) := by decide +kernel
theorem dX6_book_34 : decode cX6_book 34 = .ok (.aload_n 0, 1) := by decide +kernel
theorem dX6_book_35 : decode cX6_book 35 = .ok (.iload_n 1, 1) := by decide +kernel
theorem dX6_book_36 : decode cX6_book 36 = .ok (.iconst 3, 1) := by decide +kernel
theorem dX6_book_37 : decode cX6_book 37 = .ok (.invokevirtual 241, 3) := by decide +kernel
theorem dX6_book_40 : decode cX6_book 40 = .ok (.i2l, 1) := by decide +kernel
theorem dX6_book_41 : decode cX6_book 41 = .ok (.aload_n 0, 1) := by decide +kernel
theorem dX6_book_42 : decode cX6_book 42 = .ok (.iload_n 1, 1) := by decide +kernel
theorem dX6_book_43 : decode cX6_book 43 = .ok (.iconst 4, 1) := by decide +kernel
theorem dX6_book_44 : decode cX6_book 44 = .ok (.invokevirtual 241, 3) := by decide +kernel
theorem dX6_book_47 : decode cX6_book 47 = .ok (.i2l, 1) := by decide +kernel
theorem dX6_book_48 : decode cX6_book 48 = .ok (.invokestatic 122, 3) := by decide +kernel
theorem dX6_book_51 : decode cX6_book 51 = .ok (.ifCond .eq 7, 3) := by decide +kernel
theorem dX6_book_54 : decode cX6_book 54 = .ok (.iconst 1, 1) := by decide +kernel
theorem dX6_book_55 : decode cX6_book 55 = .ok (.goto 4, 3) := by decide +kernel
theorem dX6_book_58 : decode cX6_book 58 = .ok (.iconst 0, 1) := by decide +kernel
theorem dX6_book_59 : decode cX6_book 59 = .ok (.iconst 2, 1) := by decide +kernel
theorem dX6_book_60 : decode cX6_book 60 = .ok (.iconst 1, 1) := by decide +kernel
theorem dX6_book_61 : decode cX6_book 61 = .ok (.invokevirtual 196, 3) := by decide +kernel
theorem dX6_book_64 : decode cX6_book 64 = .ok (.ifCond .ne 5, 3) := by decide +kernel
theorem dX6_book_67 : decode cX6_book 67 = .ok (.iconst 0, 1) := by decide +kernel
theorem dX6_book_68 : decode cX6_book 68 = .ok (.ireturn, 1) := by decide +kernel
theorem dX6_book_69 : decode cX6_book 69 = .ok (.aload_n 0, 1) := by decide +kernel
theorem dX6_book_70 : decode cX6_book 70 = .ok (.aload_n 0, 1) := by decide +kernel
theorem dX6_book_71 : decode cX6_book 71 = .ok (.iload_n 1, 1) := by decide +kernel
theorem dX6_book_72 : decode cX6_book 72 = .ok (.invokevirtual 309, 3) := by decide +kernel
theorem dX6_book_75 : decode cX6_book 75 = .ok (.ifCond .ne 27, 3) := by decide +kernel
theorem dX6_book_78 : decode cX6_book 78 = .ok (.aload_n 0, 1) := by decide +kernel
theorem dX6_book_79 : decode cX6_book 79 = .ok (.iload_n 1, 1) := by decide +kernel
theorem dX6_book_80 : decode cX6_book 80 = .ok (.iload_n 2, 1) := by decide +kernel
theorem dX6_book_81 : decode cX6_book 81 = .ok (.iload_n 3, 1) := by decide +kernel
theorem dX6_book_82 : decode cX6_book 82 = .ok (.invokevirtual 318, 3) := by decide +kernel
theorem dX6_book_85 : decode cX6_book 85 = .ok (.ifCond .eq 17, 3) := by decide +kernel
theorem dX6_book_88 : decode cX6_book 88 = .ok (.aload_n 0, 1) := by decide +kernel
theorem dX6_book_89 : decode cX6_book 89 = .ok (.iload_n 1, 1) := by decide +kernel
theorem dX6_book_90 : decode cX6_book 90 = .ok (.iload_n 2, 1) := by decide +kernel
theorem dX6_book_91 : decode cX6_book 91 = .ok (.iload_n 3, 1) := by decide +kernel
theorem dX6_book_92 : decode cX6_book 92 = .ok (.invokevirtual 322, 3) := by decide +kernel
theorem dX6_book_95 : decode cX6_book 95 = .ok (.ifCond .ne 7, 3) := by decide +kernel
theorem dX6_book_98 : decode cX6_book 98 = .ok (.iconst 1, 1) := by decide +kernel
theorem dX6_book_99 : decode cX6_book 99 = .ok (.goto 4, 3) := by decide +kernel
theorem dX6_book_102 : decode cX6_book 102 = .ok (.iconst 0, 1) := by decide +kernel
theorem dX6_book_103 : decode cX6_book 103 = .ok (.iconst 3, 1) := by decide +kernel
theorem dX6_book_104 : decode cX6_book 104 = .ok (.iconst 2, 1) := by decide +kernel
theorem dX6_book_105 : decode cX6_book 105 = .ok (.invokevirtual 196, 3) := by decide +kernel
theorem dX6_book_108 : decode cX6_book 108 = .ok (.ifCond .ne 5, 3) := by decide +kernel
theorem dX6_book_111 : decode cX6_book 111 = .ok (.iconst 0, 1) := by decide +kernel
theorem dX6_book_112 : decode cX6_book 112 = .ok (.ireturn, 1) := by decide +kernel
theorem dX6_book_113 : decode cX6_book 113 = .ok (.aload_n 0, 1) := by decide +kernel
theorem dX6_book_114 : decode cX6_book 114 = .ok (.invokevirtual 205, 3) := by decide +kernel
theorem dX6_book_117 : decode cX6_book 117 = .ok (.aload_n 0, 1) := by decide +kernel
theorem dX6_book_118 : decode cX6_book 118 = .ok (.getfield 17, 3) := by decide +kernel
theorem dX6_book_121 : decode cX6_book 121 = .ok (.bipush 60, 2) := by decide +kernel
theorem dX6_book_123 : decode cX6_book 123 = .ok (.bipush 8, 2) := by decide +kernel
theorem dX6_book_125 : decode cX6_book 125 = .ok (.iload_n 1, 1) := by decide +kernel
theorem dX6_book_126 : decode cX6_book 126 = .ok (.imul, 1) := by decide +kernel
theorem dX6_book_127 : decode cX6_book 127 = .ok (.iadd, 1) := by decide +kernel
theorem dX6_book_128 : decode cX6_book 128 = .ok (.bipush 6, 2) := by decide +kernel
theorem dX6_book_130 : decode cX6_book 130 = .ok (.iadd, 1) := by decide +kernel
theorem dX6_book_131 : decode cX6_book 131 = .ok (.iload_n 2, 1) := by decide +kernel
theorem dX6_book_132 : decode cX6_book 132 = .ok (.iastore, 1) := by decide +kernel
theorem dX6_book_133 : decode cX6_book 133 = .ok (.aload_n 0, 1) := by decide +kernel
theorem dX6_book_134 : decode cX6_book 134 = .ok (.getfield 17, 3) := by decide +kernel
theorem dX6_book_137 : decode cX6_book 137 = .ok (.bipush 60, 2) := by decide +kernel
theorem dX6_book_139 : decode cX6_book 139 = .ok (.bipush 8, 2) := by decide +kernel
theorem dX6_book_141 : decode cX6_book 141 = .ok (.iload_n 1, 1) := by decide +kernel
theorem dX6_book_142 : decode cX6_book 142 = .ok (.imul, 1) := by decide +kernel
theorem dX6_book_143 : decode cX6_book 143 = .ok (.iadd, 1) := by decide +kernel
theorem dX6_book_144 : decode cX6_book 144 = .ok (.bipush 7, 2) := by decide +kernel
theorem dX6_book_146 : decode cX6_book 146 = .ok (.iadd, 1) := by decide +kernel
theorem dX6_book_147 : decode cX6_book 147 = .ok (.iload_n 3, 1) := by decide +kernel
theorem dX6_book_148 : decode cX6_book 148 = .ok (.iastore, 1) := by decide +kernel
theorem dX6_book_149 : decode cX6_book 149 = .ok (.aload_n 0, 1) := by decide +kernel
theorem dX6_book_150 : decode cX6_book 150 = .ok (.iload_n 1, 1) := by decide +kernel
theorem dX6_book_151 : decode cX6_book 151 = .ok (.iload_n 2, 1) := by decide +kernel
theorem dX6_book_152 : decode cX6_book 152 = .ok (.iload_n 3, 1) := by decide +kernel
theorem dX6_book_153 : decode cX6_book 153 = .ok (.invokevirtual 325, 3) := by decide +kernel
theorem dX6_book_156 : decode cX6_book 156 = .ok (.ireturn, 1) := by decide +kernel
theorem dX6_cancel_0 : decode cX6_cancel 0 = .ok (.aload_n 0, 1) := by decide +kernel
theorem dX6_cancel_1 : decode cX6_cancel 1 = .ok (.iconst 0, 1) := by decide +kernel
theorem dX6_cancel_2 : decode cX6_cancel 2 = .ok (.putfield 1, 3) := by decide +kernel
theorem dX6_cancel_5 : decode cX6_cancel 5 = .ok (.aload_n 0, 1) := by decide +kernel
theorem dX6_cancel_6 : decode cX6_cancel 6 = .ok (.aload_n 0, 1) := by decide +kernel
theorem dX6_cancel_7 : decode cX6_cancel 7 = .ok (.iload_n 1, 1) := by decide +kernel
theorem dX6_cancel_8 : decode cX6_cancel 8 = .ok (.invokevirtual 300, 3) := by decide +kernel
theorem dX6_cancel_11 : decode cX6_cancel 11 = .ok (.iconst 1, 1) := by decide +kernel
theorem dX6_cancel_12 : decode cX6_cancel 12 = .ok (.iconst 0, 1) := by decide +kernel
theorem dX6_cancel_13 : decode cX6_cancel 13 = .ok (.invokevirtual 196, 3) := by decide +kernel
theorem dX6_cancel_16 : decode cX6_cancel 16 = .ok (.ifCond .eq 17, 3) := by decide +kernel
theorem dX6_cancel_19 : decode cX6_cancel 19 = .ok (.aload_n 0, 1) := by decide +kernel
theorem dX6_cancel_20 : decode cX6_cancel 20 = .ok (.aload_n 0, 1) := by decide +kernel
theorem dX6_cancel_21 : decode cX6_cancel 21 = .ok (.iload_n 1, 1) := by decide +kernel
theorem dX6_cancel_22 : decode cX6_cancel 22 = .ok (.invokevirtual 309, 3) := by decide +kernel
theorem dX6_cancel_25 : decode cX6_cancel 25 = .ok (.iconst 2, 1) := by decide +kernel
theorem dX6_cancel_26 : decode cX6_cancel 26 = .ok (.iconst 2, 1) := by decide +kernel
theorem dX6_cancel_27 : decode cX6_cancel 27 = .ok (.invokevirtual 196, 3) := by decide +kernel
theorem dX6_cancel_30 : decode cX6_cancel 30 = .ok (.ifCond .ne 5, 3) := by decide +kernel
theorem dX6_cancel_33 : decode cX6_cancel 33 = .ok (.iconst 0, 1) := by decide +kernel
theorem dX6_cancel_34 : decode cX6_cancel 34 = .ok (.ireturn, 1) := by decide +kernel
theorem dX6_cancel_35 : decode cX6_cancel 35 = .ok (.aload_n 0, 1) := by decide +kernel
theorem dX6_cancel_36 : decode cX6_cancel 36 = .ok (.bipush 60, 2) := by decide +kernel
theorem dX6_cancel_38 : decode cX6_cancel 38 = .ok (.bipush 8, 2) := by decide +kernel
theorem dX6_cancel_40 : decode cX6_cancel 40 = .ok (.iload_n 1, 1) := by decide +kernel
theorem dX6_cancel_41 : decode cX6_cancel 41 = .ok (.imul, 1) := by decide +kernel
theorem dX6_cancel_42 : decode cX6_cancel 42 = .ok (.iadd, 1) := by decide +kernel
theorem dX6_cancel_43 : decode cX6_cancel 43 = .ok (.bipush 6, 2) := by decide +kernel
theorem dX6_cancel_45 : decode cX6_cancel 45 = .ok (.iadd, 1) := by decide +kernel
theorem dX6_cancel_46 : decode cX6_cancel 46 = .ok (.iconst (-1), 1) := by decide +kernel
theorem dX6_cancel_47 : decode cX6_cancel 47 = .ok (.invokevirtual 297, 3) := by decide +kernel
theorem dX6_cancel_50 : decode cX6_cancel 50 = .ok (.istore_n 2, 1) := by decide +kernel
theorem dX6_cancel_51 : decode cX6_cancel 51 = .ok (.aload_n 0, 1) := by decide +kernel
theorem dX6_cancel_52 : decode cX6_cancel 52 = .ok (.getfield 17, 3) := by decide +kernel
theorem dX6_cancel_55 : decode cX6_cancel 55 = .ok (.bipush 60, 2) := by decide +kernel
theorem dX6_cancel_57 : decode cX6_cancel 57 = .ok (.bipush 8, 2) := by decide +kernel
theorem dX6_cancel_59 : decode cX6_cancel 59 = .ok (.iload_n 1, 1) := by decide +kernel
theorem dX6_cancel_60 : decode cX6_cancel 60 = .ok (.imul, 1) := by decide +kernel
theorem dX6_cancel_61 : decode cX6_cancel 61 = .ok (.iadd, 1) := by decide +kernel
theorem dX6_cancel_62 : decode cX6_cancel 62 = .ok (.bipush 7, 2) := by decide +kernel
theorem dX6_cancel_64 : decode cX6_cancel 64 = .ok (.iadd, 1) := by decide +kernel
theorem dX6_cancel_65 : decode cX6_cancel 65 = .ok (.iconst (-1), 1) := by decide +kernel
theorem dX6_cancel_66 : decode cX6_cancel 66 = .ok (.iastore, 1) := by decide +kernel
theorem dX6_cancel_67 : decode cX6_cancel 67 = .ok (.iload_n 2, 1) := by decide +kernel
theorem dX6_cancel_68 : decode cX6_cancel 68 = .ok (.ireturn, 1) := by decide +kernel
theorem dX6_told_0 : decode cX6_told 0 = .ok (.aload_n 0, 1) := by decide +kernel
theorem dX6_told_1 : decode cX6_told 1 = .ok (.iconst 0, 1) := by decide +kernel
theorem dX6_told_2 : decode cX6_told 2 = .ok (.putfield 1, 3) := by decide +kernel
theorem dX6_told_5 : decode cX6_told 5 = .ok (.aload_n 0, 1) := by decide +kernel
theorem dX6_told_6 : decode cX6_told 6 = .ok (.iload_n 1, 1) := by decide +kernel
theorem dX6_told_7 : decode cX6_told 7 = .ok (.i2l, 1) := by decide +kernel
theorem dX6_told_8 : decode cX6_told 8 = .ok (.lconst 0, 1) := by decide +kernel
theorem dX6_told_9 : decode cX6_told 9 = .ok (.ldc2_w 328, 3) := by decide +kernel
theorem dX6_told_12 : decode cX6_told 12 = .ok (.invokestatic 122, 3) := by decide +kernel
theorem dX6_told_15 : decode cX6_told 15 = .ok (.iconst 1, 1) := by decide +kernel
theorem dX6_told_16 : decode cX6_told 16 = .ok (.iconst 1, 1) := by decide +kernel
theorem dX6_told_17 : decode cX6_told 17 = .ok (.invokevirtual 196, 3) := by decide +kernel
theorem dX6_told_20 : decode cX6_told 20 = .ok (.ifCond .ne 5, 3) := by decide +kernel
theorem dX6_told_23 : decode cX6_told 23 = .ok (.iconst 0, 1) := by decide +kernel
theorem dX6_told_24 : decode cX6_told 24 = .ok (.ireturn, 1) := by decide +kernel
theorem dX6_told_25 : decode cX6_told 25 = .ok (.iload_n 1, 1) := by decide +kernel
theorem dX6_told_26 : decode cX6_told 26 = .ok (.tableswitch 133 0 7 #[46, 53, 60, 67, 74, 81, 88, 128], 46) := by decide +kernel
theorem dX6_told_72 : decode cX6_told 72 = .ok (.aload_n 0, 1) := by decide +kernel
theorem dX6_told_73 : decode cX6_told 73 = .ok (.getfield 17, 3) := by decide +kernel
theorem dX6_told_76 : decode cX6_told 76 = .ok (.iconst 3, 1) := by decide +kernel
theorem dX6_told_77 : decode cX6_told 77 = .ok (.iaload, 1) := by decide +kernel
theorem dX6_told_78 : decode cX6_told 78 = .ok (.ireturn, 1) := by decide +kernel
theorem dX6_told_79 : decode cX6_told 79 = .ok (.aload_n 0, 1) := by decide +kernel
theorem dX6_told_80 : decode cX6_told 80 = .ok (.getfield 17, 3) := by decide +kernel
theorem dX6_told_83 : decode cX6_told 83 = .ok (.iconst 4, 1) := by decide +kernel
theorem dX6_told_84 : decode cX6_told 84 = .ok (.iaload, 1) := by decide +kernel
theorem dX6_told_85 : decode cX6_told 85 = .ok (.ireturn, 1) := by decide +kernel
theorem dX6_told_86 : decode cX6_told 86 = .ok (.aload_n 0, 1) := by decide +kernel
theorem dX6_told_87 : decode cX6_told 87 = .ok (.getfield 17, 3) := by decide +kernel
theorem dX6_told_90 : decode cX6_told 90 = .ok (.iconst 5, 1) := by decide +kernel
theorem dX6_told_91 : decode cX6_told 91 = .ok (.iaload, 1) := by decide +kernel
theorem dX6_told_92 : decode cX6_told 92 = .ok (.ireturn, 1) := by decide +kernel
theorem dX6_told_93 : decode cX6_told 93 = .ok (.aload_n 0, 1) := by decide +kernel
theorem dX6_told_94 : decode cX6_told 94 = .ok (.getfield 17, 3) := by decide +kernel
theorem dX6_told_97 : decode cX6_told 97 = .ok (.iconst 0, 1) := by decide +kernel
theorem dX6_told_98 : decode cX6_told 98 = .ok (.iaload, 1) := by decide +kernel
theorem dX6_told_99 : decode cX6_told 99 = .ok (.ireturn, 1) := by decide +kernel
theorem dX6_told_100 : decode cX6_told 100 = .ok (.aload_n 0, 1) := by decide +kernel
theorem dX6_told_101 : decode cX6_told 101 = .ok (.getfield 17, 3) := by decide +kernel
theorem dX6_told_104 : decode cX6_told 104 = .ok (.iconst 1, 1) := by decide +kernel
theorem dX6_told_105 : decode cX6_told 105 = .ok (.iaload, 1) := by decide +kernel
theorem dX6_told_106 : decode cX6_told 106 = .ok (.ireturn, 1) := by decide +kernel
theorem dX6_told_107 : decode cX6_told 107 = .ok (.aload_n 0, 1) := by decide +kernel
theorem dX6_told_108 : decode cX6_told 108 = .ok (.getfield 17, 3) := by decide +kernel
theorem dX6_told_111 : decode cX6_told 111 = .ok (.iconst 2, 1) := by decide +kernel
theorem dX6_told_112 : decode cX6_told 112 = .ok (.iaload, 1) := by decide +kernel
theorem dX6_told_113 : decode cX6_told 113 = .ok (.ireturn, 1) := by decide +kernel
theorem dX6_told_114 : decode cX6_told 114 = .ok (.iconst 0, 1) := by decide +kernel
theorem dX6_told_115 : decode cX6_told 115 = .ok (.istore_n 2, 1) := by decide +kernel
theorem dX6_told_116 : decode cX6_told 116 = .ok (.iconst 0, 1) := by decide +kernel
theorem dX6_told_117 : decode cX6_told 117 = .ok (.istore_n 3, 1) := by decide +kernel
theorem dX6_told_118 : decode cX6_told 118 = .ok (.iload_n 3, 1) := by decide +kernel
theorem dX6_told_119 : decode cX6_told 119 = .ok (.aload_n 0, 1) := by decide +kernel
theorem dX6_told_120 : decode cX6_told 120 = .ok (.getfield 17, 3) := by decide +kernel
theorem dX6_told_123 : decode cX6_told 123 = .ok (.iconst 5, 1) := by decide +kernel
theorem dX6_told_124 : decode cX6_told 124 = .ok (.iaload, 1) := by decide +kernel
theorem dX6_told_125 : decode cX6_told 125 = .ok (.if_icmp .ge 27, 3) := by decide +kernel
theorem dX6_told_128 : decode cX6_told 128 = .ok (.iload_n 2, 1) := by decide +kernel
theorem dX6_told_129 : decode cX6_told 129 = .ok (.aload_n 0, 1) := by decide +kernel
theorem dX6_told_130 : decode cX6_told 130 = .ok (.iload_n 3, 1) := by decide +kernel
theorem dX6_told_131 : decode cX6_told 131 = .ok (.invokevirtual 309, 3) := by decide +kernel
theorem dX6_told_134 : decode cX6_told 134 = .ok (.ifCond .eq 9, 3) := by decide +kernel
theorem dX6_told_137 : decode cX6_told 137 = .ok (.iconst 1, 1) := by decide +kernel
theorem dX6_told_138 : decode cX6_told 138 = .ok (.iload_n 3, 1) := by decide +kernel
theorem dX6_told_139 : decode cX6_told 139 = .ok (.ishl, 1) := by decide +kernel
theorem dX6_told_140 : decode cX6_told 140 = .ok (.goto 4, 3) := by decide +kernel
theorem dX6_told_143 : decode cX6_told 143 = .ok (.iconst 0, 1) := by decide +kernel
theorem dX6_told_144 : decode cX6_told 144 = .ok (.ior, 1) := by decide +kernel
theorem dX6_told_145 : decode cX6_told 145 = .ok (.istore_n 2, 1) := by decide +kernel
theorem dX6_told_146 : decode cX6_told 146 = .ok (.iinc 3 1, 3) := by decide +kernel
theorem dX6_told_149 : decode cX6_told 149 = .ok (.goto (-31), 3) := by decide +kernel
theorem dX6_told_152 : decode cX6_told 152 = .ok (.iload_n 2, 1) := by decide +kernel
theorem dX6_told_153 : decode cX6_told 153 = .ok (.ireturn, 1) := by decide +kernel
theorem dX6_told_154 : decode cX6_told 154 = .ok (.aload_n 0, 1) := by decide +kernel
theorem dX6_told_155 : decode cX6_told 155 = .ok (.getfield 65, 3) := by decide +kernel
theorem dX6_told_158 : decode cX6_told 158 = .ok (.ireturn, 1) := by decide +kernel
theorem dX6_told_159 : decode cX6_told 159 = .ok (.aload_n 0, 1) := by decide +kernel
theorem dX6_told_160 : decode cX6_told 160 = .ok (.getfield 62, 3) := by decide +kernel
theorem dX6_told_163 : decode cX6_told 163 = .ok (.ireturn, 1) := by decide +kernel
theorem dX6_wave_0 : decode cX6_wave 0 = .ok (.aload_n 0, 1) := by decide +kernel
theorem dX6_wave_1 : decode cX6_wave 1 = .ok (.iconst 0, 1) := by decide +kernel
theorem dX6_wave_2 : decode cX6_wave 2 = .ok (.putfield 1, 3) := by decide +kernel
theorem dX6_wave_5 : decode cX6_wave 5 = .ok (.aload_n 0, 1) := by decide +kernel
theorem dX6_wave_6 : decode cX6_wave 6 = .ok (.iload_n 1, 1) := by decide +kernel
theorem dX6_wave_7 : decode cX6_wave 7 = .ok (.i2l, 1) := by decide +kernel
theorem dX6_wave_8 : decode cX6_wave 8 = .ok (.lconst 0, 1) := by decide +kernel
theorem dX6_wave_9 : decode cX6_wave 9 = .ok (.aload_n 0, 1) := by decide +kernel
theorem dX6_wave_10 : decode cX6_wave 10 = .ok (.getfield 17, 3) := by decide +kernel
theorem dX6_wave_13 : decode cX6_wave 13 = .ok (.iconst 3, 1) := by decide +kernel
theorem dX6_wave_14 : decode cX6_wave 14 = .ok (.iaload, 1) := by decide +kernel
theorem dX6_wave_15 : decode cX6_wave 15 = .ok (.iconst 1, 1) := by decide +kernel
theorem dX6_wave_16 : decode cX6_wave 16 = .ok (.isub, 1) := by decide +kernel
theorem dX6_wave_17 : decode cX6_wave 17 = .ok (.i2l, 1) := by decide +kernel
theorem dX6_wave_18 : decode cX6_wave 18 = .ok (.invokestatic 122, 3) := by decide +kernel
theorem dX6_wave_21 : decode cX6_wave 21 = .ok (.iconst 1, 1) := by decide +kernel
theorem dX6_wave_22 : decode cX6_wave 22 = .ok (.iconst 0, 1) := by decide +kernel
theorem dX6_wave_23 : decode cX6_wave 23 = .ok (.invokevirtual 196, 3) := by decide +kernel
theorem dX6_wave_26 : decode cX6_wave 26 = .ok (.ifCond .eq 21, 3) := by decide +kernel
theorem dX6_wave_29 : decode cX6_wave 29 = .ok (.aload_n 0, 1) := by decide +kernel
theorem dX6_wave_30 : decode cX6_wave 30 = .ok (.iload_n 2, 1) := by decide +kernel
theorem dX6_wave_31 : decode cX6_wave 31 = .ok (.i2l, 1) := by decide +kernel
theorem dX6_wave_32 : decode cX6_wave 32 = .ok (.lconst 0, 1) := by decide +kernel
theorem dX6_wave_33 : decode cX6_wave 33 = .ok (.ldc2_w 330, 3) := by decide +kernel
theorem dX6_wave_36 : decode cX6_wave 36 = .ok (.invokestatic 122, 3) := by decide +kernel
theorem dX6_wave_39 : decode cX6_wave 39 = .ok (.iconst 2, 1) := by decide +kernel
theorem dX6_wave_40 : decode cX6_wave 40 = .ok (.iconst 1, 1) := by decide +kernel
theorem dX6_wave_41 : decode cX6_wave 41 = .ok (.invokevirtual 196, 3) := by decide +kernel
theorem dX6_wave_44 : decode cX6_wave 44 = .ok (.ifCond .ne 5, 3) := by decide +kernel
theorem dX6_wave_47 : decode cX6_wave 47 = .ok (.iconst 0, 1) := by decide +kernel
theorem dX6_wave_48 : decode cX6_wave 48 = .ok (.ireturn, 1) := by decide +kernel
theorem dX6_wave_49 : decode cX6_wave 49 = .ok (.aload_n 0, 1) := by decide +kernel
theorem dX6_wave_50 : decode cX6_wave 50 = .ok (.getfield 17, 3) := by decide +kernel
theorem dX6_wave_53 : decode cX6_wave 53 = .ok (.bipush 6, 2) := by decide +kernel
theorem dX6_wave_55 : decode cX6_wave 55 = .ok (.iconst 3, 1) := by decide +kernel
theorem dX6_wave_56 : decode cX6_wave 56 = .ok (.iload_n 1, 1) := by decide +kernel
theorem dX6_wave_57 : decode cX6_wave 57 = .ok (.imul, 1) := by decide +kernel
theorem dX6_wave_58 : decode cX6_wave 58 = .ok (.iadd, 1) := by decide +kernel
theorem dX6_wave_59 : decode cX6_wave 59 = .ok (.iload_n 2, 1) := by decide +kernel
theorem dX6_wave_60 : decode cX6_wave 60 = .ok (.iadd, 1) := by decide +kernel
theorem dX6_wave_61 : decode cX6_wave 61 = .ok (.iaload, 1) := by decide +kernel
theorem dX6_wave_62 : decode cX6_wave 62 = .ok (.ireturn, 1) := by decide +kernel
theorem dX6_bar_0 : decode cX6_bar 0 = .ok (.aload_n 0, 1) := by decide +kernel
theorem dX6_bar_1 : decode cX6_bar 1 = .ok (.iconst 0, 1) := by decide +kernel
theorem dX6_bar_2 : decode cX6_bar 2 = .ok (.putfield 1, 3) := by decide +kernel
theorem dX6_bar_5 : decode cX6_bar 5 = .ok (.aload_n 0, 1) := by decide +kernel
theorem dX6_bar_6 : decode cX6_bar 6 = .ok (.aload_n 0, 1) := by decide +kernel
theorem dX6_bar_7 : decode cX6_bar 7 = .ok (.iload_n 1, 1) := by decide +kernel
theorem dX6_bar_8 : decode cX6_bar 8 = .ok (.invokevirtual 290, 3) := by decide +kernel
theorem dX6_bar_11 : decode cX6_bar 11 = .ok (.iconst 1, 1) := by decide +kernel
theorem dX6_bar_12 : decode cX6_bar 12 = .ok (.iconst 0, 1) := by decide +kernel
theorem dX6_bar_13 : decode cX6_bar 13 = .ok (.invokevirtual 196, 3) := by decide +kernel
theorem dX6_bar_16 : decode cX6_bar 16 = .ok (.ifCond .eq 21, 3) := by decide +kernel
theorem dX6_bar_19 : decode cX6_bar 19 = .ok (.aload_n 0, 1) := by decide +kernel
theorem dX6_bar_20 : decode cX6_bar 20 = .ok (.iload_n 2, 1) := by decide +kernel
theorem dX6_bar_21 : decode cX6_bar 21 = .ok (.i2l, 1) := by decide +kernel
theorem dX6_bar_22 : decode cX6_bar 22 = .ok (.lconst 0, 1) := by decide +kernel
theorem dX6_bar_23 : decode cX6_bar 23 = .ok (.ldc2_w 332, 3) := by decide +kernel
theorem dX6_bar_26 : decode cX6_bar 26 = .ok (.invokestatic 122, 3) := by decide +kernel
theorem dX6_bar_29 : decode cX6_bar 29 = .ok (.iconst 2, 1) := by decide +kernel
theorem dX6_bar_30 : decode cX6_bar 30 = .ok (.iconst 1, 1) := by decide +kernel
theorem dX6_bar_31 : decode cX6_bar 31 = .ok (.invokevirtual 196, 3) := by decide +kernel
theorem dX6_bar_34 : decode cX6_bar 34 = .ok (.ifCond .ne 5, 3) := by decide +kernel
theorem dX6_bar_37 : decode cX6_bar 37 = .ok (.iconst 0, 1) := by decide +kernel
theorem dX6_bar_38 : decode cX6_bar 38 = .ok (.ireturn, 1) := by decide +kernel
theorem dX6_bar_39 : decode cX6_bar 39 = .ok (.aload_n 0, 1) := by decide +kernel
theorem dX6_bar_40 : decode cX6_bar 40 = .ok (.iload_n 1, 1) := by decide +kernel
theorem dX6_bar_41 : decode cX6_bar 41 = .ok (.iload_n 2, 1) := by decide +kernel
theorem dX6_bar_42 : decode cX6_bar 42 = .ok (.invokevirtual 222, 3) := by decide +kernel
theorem dX6_bar_45 : decode cX6_bar 45 = .ok (.ireturn, 1) := by decide +kernel
theorem dX6_ship_0 : decode cX6_ship 0 = .ok (.aload_n 0, 1) := by decide +kernel
theorem dX6_ship_1 : decode cX6_ship 1 = .ok (.iconst 0, 1) := by decide +kernel
theorem dX6_ship_2 : decode cX6_ship 2 = .ok (.putfield 1, 3) := by decide +kernel
theorem dX6_ship_5 : decode cX6_ship 5 = .ok (.aload_n 0, 1) := by decide +kernel
theorem dX6_ship_6 : decode cX6_ship 6 = .ok (.aload_n 0, 1) := by decide +kernel
theorem dX6_ship_7 : decode cX6_ship 7 = .ok (.iload_n 1, 1) := by decide +kernel
theorem dX6_ship_8 : decode cX6_ship 8 = .ok (.invokevirtual 300, 3) := by decide +kernel
theorem dX6_ship_11 : decode cX6_ship 11 = .ok (.iconst 1, 1) := by decide +kernel
theorem dX6_ship_12 : decode cX6_ship 12 = .ok (.iconst 0, 1) := by decide +kernel
theorem dX6_ship_13 : decode cX6_ship 13 = .ok (.invokevirtual 196, 3) := by decide +kernel
theorem dX6_ship_16 : decode cX6_ship 16 = .ok (.ifCond .eq 21, 3) := by decide +kernel
theorem dX6_ship_19 : decode cX6_ship 19 = .ok (.aload_n 0, 1) := by decide +kernel
theorem dX6_ship_20 : decode cX6_ship 20 = .ok (.iload_n 2, 1) := by decide +kernel
theorem dX6_ship_21 : decode cX6_ship 21 = .ok (.i2l, 1) := by decide +kernel
theorem dX6_ship_22 : decode cX6_ship 22 = .ok (.lconst 0, 1) := by decide +kernel
theorem dX6_ship_23 : decode cX6_ship 23 = .ok (.ldc2_w 334, 3) := by decide +kernel
theorem dX6_ship_26 : decode cX6_ship 26 = .ok (.invokestatic 122, 3) := by decide +kernel
theorem dX6_ship_29 : decode cX6_ship 29 = .ok (.iconst 2, 1) := by decide +kernel
theorem dX6_ship_30 : decode cX6_ship 30 = .ok (.iconst 1, 1) := by decide +kernel
theorem dX6_ship_31 : decode cX6_ship 31 = .ok (.invokevirtual 196, 3) := by decide +kernel
theorem dX6_ship_34 : decode cX6_ship 34 = .ok (.ifCond .ne 5, 3) := by decide +kernel
theorem dX6_ship_37 : decode cX6_ship 37 = .ok (.iconst 0, 1) := by decide +kernel
theorem dX6_ship_38 : decode cX6_ship 38 = .ok (.ireturn, 1) := by decide +kernel
theorem dX6_ship_39 : decode cX6_ship 39 = .ok (.aload_n 0, 1) := by decide +kernel
theorem dX6_ship_40 : decode cX6_ship 40 = .ok (.iload_n 1, 1) := by decide +kernel
theorem dX6_ship_41 : decode cX6_ship 41 = .ok (.iload_n 2, 1) := by decide +kernel
theorem dX6_ship_42 : decode cX6_ship 42 = .ok (.invokevirtual 241, 3) := by decide +kernel
theorem dX6_ship_45 : decode cX6_ship 45 = .ok (.ireturn, 1) := by decide +kernel
theorem dX6_height_0 : decode cX6_height 0 = .ok (.aload_n 0, 1) := by decide +kernel
theorem dX6_height_1 : decode cX6_height 1 = .ok (.iconst 0, 1) := by decide +kernel
theorem dX6_height_2 : decode cX6_height 2 = .ok (.putfield 1, 3) := by decide +kernel
theorem dX6_height_5 : decode cX6_height 5 = .ok (.aload_n 0, 1) := by decide +kernel
theorem dX6_height_6 : decode cX6_height 6 = .ok (.iload_n 1, 1) := by decide +kernel
theorem dX6_height_7 : decode cX6_height 7 = .ok (.invokestatic 336, 3) := by decide +kernel
theorem dX6_height_10 : decode cX6_height 10 = .ok (.iconst 1, 1) := by decide +kernel
theorem dX6_height_11 : decode cX6_height 11 = .ok (.iconst 1, 1) := by decide +kernel
theorem dX6_height_12 : decode cX6_height 12 = .ok (.invokevirtual 196, 3) := by decide +kernel
theorem dX6_height_15 : decode cX6_height 15 = .ok (.ifCond .eq 11, 3) := by decide +kernel
theorem dX6_height_18 : decode cX6_height 18 = .ok (.aload_n 0, 1) := by decide +kernel
theorem dX6_height_19 : decode cX6_height 19 = .ok (.iload_n 1, 1) := by decide +kernel
theorem dX6_height_20 : decode cX6_height 20 = .ok (.invokevirtual 225, 3) := by decide +kernel
theorem dX6_height_23 : decode cX6_height 23 = .ok (.goto 4, 3) := by decide +kernel
theorem dX6_height_26 : decode cX6_height 26 = .ok (.iconst 0, 1) := by decide +kernel
theorem dX6_height_27 : decode cX6_height 27 = .ok (.ireturn, 1) := by decide +kernel
theorem dX6_peak_0 : decode cX6_peak 0 = .ok (.aload_n 0, 1) := by decide +kernel
theorem dX6_peak_1 : decode cX6_peak 1 = .ok (.iconst 0, 1) := by decide +kernel
theorem dX6_peak_2 : decode cX6_peak 2 = .ok (.putfield 1, 3) := by decide +kernel
theorem dX6_peak_5 : decode cX6_peak 5 = .ok (.aload_n 0, 1) := by decide +kernel
theorem dX6_peak_6 : decode cX6_peak 6 = .ok (.iload_n 1, 1) := by decide +kernel
theorem dX6_peak_7 : decode cX6_peak 7 = .ok (.invokestatic 336, 3) := by decide +kernel
theorem dX6_peak_10 : decode cX6_peak 10 = .ok (.ifCond .eq 29, 3) := by decide +kernel
theorem dX6_peak_13 : decode cX6_peak 13 = .ok (.iload_n 2, 1) := by decide +kernel
theorem dX6_peak_14 : decode cX6_peak 14 = .ok (.i2l, 1) := by decide +kernel
theorem dX6_peak_15 : decode cX6_peak 15 = .ok (.lconst 1, 1) := by decide +kernel
theorem dX6_peak_16 : decode cX6_peak 16 = .ok (.ldc2_w 316, 3) := by decide +kernel
theorem dX6_peak_19 : decode cX6_peak 19 = .ok (.invokestatic 122, 3) := by decide +kernel
theorem dX6_peak_22 : decode cX6_peak 22 = .ok (.ifCond .eq 17, 3) := by decide +kernel
theorem dX6_peak_25 : decode cX6_peak 25 = .ok (.iload_n 3, 1) := by decide +kernel
theorem dX6_peak_26 : decode cX6_peak 26 = .ok (.i2l, 1) := by decide +kernel
theorem dX6_peak_27 : decode cX6_peak 27 = .ok (.lconst 0, 1) := by decide +kernel
theorem dX6_peak_28 : decode cX6_peak 28 = .ok (.lconst 1, 1) := by decide +kernel
theorem dX6_peak_29 : decode cX6_peak 29 = .ok (.invokestatic 122, 3) := by decide +kernel
theorem dX6_peak_32 : decode cX6_peak 32 = .ok (.ifCond .eq 7, 3) := by decide +kernel
theorem dX6_peak_35 : decode cX6_peak 35 = .ok (.iconst 1, 1) := by decide +kernel
theorem dX6_peak_36 : decode cX6_peak 36 = .ok (.goto 4, 3) := by decide +kernel
theorem dX6_peak_39 : decode cX6_peak 39 = .ok (.iconst 0, 1) := by decide +kernel
theorem dX6_peak_40 : decode cX6_peak 40 = .ok (.iconst 1, 1) := by decide +kernel
theorem dX6_peak_41 : decode cX6_peak 41 = .ok (.iconst 1, 1) := by decide +kernel
theorem dX6_peak_42 : decode cX6_peak 42 = .ok (.invokevirtual 196, 3) := by decide +kernel
theorem dX6_peak_45 : decode cX6_peak 45 = .ok (.ifCond .ne 5, 3) := by decide +kernel
theorem dX6_peak_48 : decode cX6_peak 48 = .ok (.iconst 0, 1) := by decide +kernel
theorem dX6_peak_49 : decode cX6_peak 49 = .ok (.ireturn, 1) := by decide +kernel
theorem dX6_peak_50 : decode cX6_peak 50 = .ok (.iload_n 1, 1) := by decide +kernel
theorem dX6_peak_51 : decode cX6_peak 51 = .ok (.istore 4, 2) := by decide +kernel
theorem dX6_peak_53 : decode cX6_peak 53 = .ok (.iload_n 1, 1) := by decide +kernel
theorem dX6_peak_54 : decode cX6_peak 54 = .ok (.iconst 1, 1) := by decide +kernel
theorem dX6_peak_55 : decode cX6_peak 55 = .ok (.iadd, 1) := by decide +kernel
theorem dX6_peak_56 : decode cX6_peak 56 = .ok (.istore 5, 2) := by decide +kernel
theorem dX6_peak_58 : decode cX6_peak 58 = .ok (.iload 5, 2) := by decide +kernel
theorem dX6_peak_60 : decode cX6_peak 60 = .ok (.iload_n 1, 1) := by decide +kernel
theorem dX6_peak_61 : decode cX6_peak 61 = .ok (.iload_n 2, 1) := by decide +kernel
theorem dX6_peak_62 : decode cX6_peak 62 = .ok (.iadd, 1) := by decide +kernel
theorem dX6_peak_63 : decode cX6_peak 63 = .ok (.if_icmp .ge 50, 3) := by decide +kernel
theorem dX6_peak_66 : decode cX6_peak 66 = .ok (.iload_n 3, 1) := by decide +kernel
theorem dX6_peak_67 : decode cX6_peak 67 = .ok (.ifCond .ne 21, 3) := by decide +kernel
theorem dX6_peak_70 : decode cX6_peak 70 = .ok (.aload_n 0, 1) := by decide +kernel
theorem dX6_peak_71 : decode cX6_peak 71 = .ok (.iload 5, 2) := by decide +kernel
theorem dX6_peak_73 : decode cX6_peak 73 = .ok (.invokevirtual 225, 3) := by decide +kernel
theorem dX6_peak_76 : decode cX6_peak 76 = .ok (.aload_n 0, 1) := by decide +kernel
theorem dX6_peak_77 : decode cX6_peak 77 = .ok (.iload 4, 2) := by decide +kernel
theorem dX6_peak_79 : decode cX6_peak 79 = .ok (.invokevirtual 225, 3) := by decide +kernel
theorem dX6_peak_82 : decode cX6_peak 82 = .ok (.if_icmp .le 25, 3) := by decide +kernel
theorem dX6_peak_85 : decode cX6_peak 85 = .ok (.goto 18, 3) := by decide +kernel
theorem dX6_peak_88 : decode cX6_peak 88 = .ok (.aload_n 0, 1) := by decide +kernel
theorem dX6_peak_89 : decode cX6_peak 89 = .ok (.iload 5, 2) := by decide +kernel
theorem dX6_peak_91 : decode cX6_peak 91 = .ok (.invokevirtual 225, 3) := by decide +kernel
theorem dX6_peak_94 : decode cX6_peak 94 = .ok (.aload_n 0, 1) := by decide +kernel
theorem dX6_peak_95 : decode cX6_peak 95 = .ok (.iload 4, 2) := by decide +kernel
theorem dX6_peak_97 : decode cX6_peak 97 = .ok (.invokevirtual 225, 3) := by decide +kernel
theorem dX6_peak_100 : decode cX6_peak 100 = .ok (.if_icmp .ge 7, 3) := by decide +kernel
theorem dX6_peak_103 : decode cX6_peak 103 = .ok (.iload 5, 2) := by decide +kernel
theorem dX6_peak_105 : decode cX6_peak 105 = .ok (.istore 4, 2) := by decide +kernel
theorem dX6_peak_107 : decode cX6_peak 107 = .ok (.iinc 5 1, 3) := by decide +kernel
theorem dX6_peak_110 : decode cX6_peak 110 = .ok (.goto (-52), 3) := by decide +kernel
theorem dX6_peak_113 : decode cX6_peak 113 = .ok (.iload 4, 2) := by decide +kernel
theorem dX6_peak_115 : decode cX6_peak 115 = .ok (.ireturn, 1) := by decide +kernel
theorem dX6_water_0 : decode cX6_water 0 = .ok (.aload_n 0, 1) := by decide +kernel
theorem dX6_water_1 : decode cX6_water 1 = .ok (.iconst 0, 1) := by decide +kernel
theorem dX6_water_2 : decode cX6_water 2 = .ok (.putfield 1, 3) := by decide +kernel
theorem dX6_water_5 : decode cX6_water 5 = .ok (.aload_n 0, 1) := by decide +kernel
