theorem dX6_water_6 : decode cX6_water 6 = .ok (.aload_n 0, 1) := by decide +kernel
theorem dX6_water_7 : decode cX6_water 7 = .ok (.iload_n 1, 1) := by decide +kernel
theorem dX6_water_8 : decode cX6_water 8 = .ok (.invokevirtual 290, 3) := by decide +kernel
theorem dX6_water_11 : decode cX6_water 11 = .ok (.iconst 1, 1) := by decide +kernel
theorem dX6_water_12 : decode cX6_water 12 = .ok (.iconst 0, 1) := by decide +kernel
theorem dX6_water_13 : decode cX6_water 13 = .ok (.invokevirtual 196, 3) := by decide +kernel
theorem dX6_water_16 : decode cX6_water 16 = .ok (.ifCond .eq 16, 3) := by decide +kernel
theorem dX6_water_19 : decode cX6_water 19 = .ok (.aload_n 0, 1) := by decide +kernel
theorem dX6_water_20 : decode cX6_water 20 = .ok (.iload_n 2, 1) := by decide +kernel
theorem dX6_water_21 : decode cX6_water 21 = .ok (.invokestatic 336, 3) := by decide +kernel
theorem dX6_water_24 : decode cX6_water 24 = .ok (.iconst 2, 1) := by decide +kernel
theorem dX6_water_25 : decode cX6_water 25 = .ok (.iconst 1, 1) := by decide +kernel
theorem dX6_water_26 : decode cX6_water 26 = .ok (.invokevirtual 196, 3) := by decide +kernel
theorem dX6_water_29 : decode cX6_water 29 = .ok (.ifCond .ne 5, 3) := by decide +kernel
theorem dX6_water_32 : decode cX6_water 32 = .ok (.iconst 0, 1) := by decide +kernel
theorem dX6_water_33 : decode cX6_water 33 = .ok (.ireturn, 1) := by decide +kernel
theorem dX6_water_34 : decode cX6_water 34 = .ok (.aload_n 0, 1) := by decide +kernel
theorem dX6_water_35 : decode cX6_water 35 = .ok (.iload_n 1, 1) := by decide +kernel
theorem dX6_water_36 : decode cX6_water 36 = .ok (.iload_n 2, 1) := by decide +kernel
theorem dX6_water_37 : decode cX6_water 37 = .ok (.invokevirtual 250, 3) := by decide +kernel
theorem dX6_water_40 : decode cX6_water 40 = .ok (.ireturn, 1) := by decide +kernel
theorem dX6_above_0 : decode cX6_above 0 = .ok (.aload_n 0, 1) := by decide +kernel
theorem dX6_above_1 : decode cX6_above 1 = .ok (.iconst 0, 1) := by decide +kernel
theorem dX6_above_2 : decode cX6_above 2 = .ok (.putfield 1, 3) := by decide +kernel
theorem dX6_above_5 : decode cX6_above 5 = .ok (.aload_n 0, 1) := by decide +kernel
theorem dX6_above_6 : decode cX6_above 6 = .ok (.aload_n 0, 1) := by decide +kernel
theorem dX6_above_7 : decode cX6_above 7 = .ok (.iload_n 1, 1) := by decide +kernel
theorem dX6_above_8 : decode cX6_above 8 = .ok (.invokevirtual 290, 3) := by decide +kernel
theorem dX6_above_11 : decode cX6_above 11 = .ok (.iconst 1, 1) := by decide +kernel
theorem dX6_above_12 : decode cX6_above 12 = .ok (.iconst 0, 1) := by decide +kernel
theorem dX6_above_13 : decode cX6_above 13 = .ok (.invokevirtual 196, 3) := by decide +kernel
theorem dX6_above_16 : decode cX6_above 16 = .ok (.ifCond .eq 37, 3) := by decide +kernel
theorem dX6_above_19 : decode cX6_above 19 = .ok (.aload_n 0, 1) := by decide +kernel
theorem dX6_above_20 : decode cX6_above 20 = .ok (.iload_n 3, 1) := by decide +kernel
theorem dX6_above_21 : decode cX6_above 21 = .ok (.invokestatic 336, 3) := by decide +kernel
theorem dX6_above_24 : decode cX6_above 24 = .ok (.ifCond .eq 20, 3) := by decide +kernel
theorem dX6_above_27 : decode cX6_above 27 = .ok (.iload 4, 2) := by decide +kernel
theorem dX6_above_29 : decode cX6_above 29 = .ok (.i2l, 1) := by decide +kernel
theorem dX6_above_30 : decode cX6_above 30 = .ok (.lconst 0, 1) := by decide +kernel
theorem dX6_above_31 : decode cX6_above 31 = .ok (.ldc2_w 316, 3) := by decide +kernel
theorem dX6_above_34 : decode cX6_above 34 = .ok (.invokestatic 122, 3) := by decide +kernel
theorem dX6_above_37 : decode cX6_above 37 = .ok (.ifCond .eq 7, 3) := by decide +kernel
theorem dX6_above_40 : decode cX6_above 40 = .ok (.iconst 1, 1) := by decide +kernel
theorem dX6_above_41 : decode cX6_above 41 = .ok (.goto 4, 3) := by decide +kernel
theorem dX6_above_44 : decode cX6_above 44 = .ok (.iconst 0, 1) := by decide +kernel
theorem dX6_above_45 : decode cX6_above 45 = .ok (.iconst 2, 1) := by decide +kernel
theorem dX6_above_46 : decode cX6_above 46 = .ok (.iconst 1, 1) := by decide +kernel
theorem dX6_above_47 : decode cX6_above 47 = .ok (.invokevirtual 196, 3) := by decide +kernel
theorem dX6_above_50 : decode cX6_above 50 = .ok (.ifCond .ne 5, 3) := by decide +kernel
theorem dX6_above_53 : decode cX6_above 53 = .ok (.iconst 0, 1) := by decide +kernel
theorem dX6_above_54 : decode cX6_above 54 = .ok (.ireturn, 1) := by decide +kernel
theorem dX6_above_55 : decode cX6_above 55 = .ok (.iconst 0, 1) := by decide +kernel
theorem dX6_above_56 : decode cX6_above 56 = .ok (.istore 5, 2) := by decide +kernel
theorem dX6_above_58 : decode cX6_above 58 = .ok (.iconst 0, 1) := by decide +kernel
theorem dX6_above_59 : decode cX6_above 59 = .ok (.istore 6, 2) := by decide +kernel
theorem dX6_above_61 : decode cX6_above 61 = .ok (.iload 6, 2) := by decide +kernel
theorem dX6_above_63 : decode cX6_above 63 = .ok (.iload 4, 2) := by decide +kernel
theorem dX6_above_65 : decode cX6_above 65 = .ok (.if_icmp .ge 32, 3) := by decide +kernel
theorem dX6_above_68 : decode cX6_above 68 = .ok (.iload 5, 2) := by decide +kernel
theorem dX6_above_70 : decode cX6_above 70 = .ok (.aload_n 0, 1) := by decide +kernel
theorem dX6_above_71 : decode cX6_above 71 = .ok (.iload_n 1, 1) := by decide +kernel
theorem dX6_above_72 : decode cX6_above 72 = .ok (.iload_n 3, 1) := by decide +kernel
theorem dX6_above_73 : decode cX6_above 73 = .ok (.iload 6, 2) := by decide +kernel
theorem dX6_above_75 : decode cX6_above 75 = .ok (.iadd, 1) := by decide +kernel
theorem dX6_above_76 : decode cX6_above 76 = .ok (.invokevirtual 250, 3) := by decide +kernel
theorem dX6_above_79 : decode cX6_above 79 = .ok (.iload_n 2, 1) := by decide +kernel
theorem dX6_above_80 : decode cX6_above 80 = .ok (.if_icmp .lt 7, 3) := by decide +kernel
theorem dX6_above_83 : decode cX6_above 83 = .ok (.iconst 1, 1) := by decide +kernel
theorem dX6_above_84 : decode cX6_above 84 = .ok (.goto 4, 3) := by decide +kernel
theorem dX6_above_87 : decode cX6_above 87 = .ok (.iconst 0, 1) := by decide +kernel
theorem dX6_above_88 : decode cX6_above 88 = .ok (.iadd, 1) := by decide +kernel
theorem dX6_above_89 : decode cX6_above 89 = .ok (.istore 5, 2) := by decide +kernel
theorem dX6_above_91 : decode cX6_above 91 = .ok (.iinc 6 1, 3) := by decide +kernel
theorem dX6_above_94 : decode cX6_above 94 = .ok (.goto (-33), 3) := by decide +kernel
theorem dX6_above_97 : decode cX6_above 97 = .ok (.iload 5, 2) := by decide +kernel
theorem dX6_above_99 : decode cX6_above 99 = .ok (.ireturn, 1) := by decide +kernel
theorem dX6_areTold_0 : decode cX6_areTold 0 = .ok (.aload_n 0, 1) := by decide +kernel
theorem dX6_areTold_1 : decode cX6_areTold 1 = .ok (.aload_n 0, 1) := by decide +kernel
theorem dX6_areTold_2 : decode cX6_areTold 2 = .ok (.iload_n 1, 1) := by decide +kernel
theorem dX6_areTold_3 : decode cX6_areTold 3 = .ok (.invokevirtual 300, 3) := by decide +kernel
theorem dX6_areTold_6 : decode cX6_areTold 6 = .ok (.ifCond .eq 15, 3) := by decide +kernel
theorem dX6_areTold_9 : decode cX6_areTold 9 = .ok (.aload_n 0, 1) := by decide +kernel
theorem dX6_areTold_10 : decode cX6_areTold 10 = .ok (.iload_n 2, 1) := by decide +kernel
theorem dX6_areTold_11 : decode cX6_areTold 11 = .ok (.invokevirtual 290, 3) := by decide +kernel
theorem dX6_areTold_14 : decode cX6_areTold 14 = .ok (.ifCond .eq 7, 3) := by decide +kernel
theorem dX6_areTold_17 : decode cX6_areTold 17 = .ok (.iconst 1, 1) := by decide +kernel
theorem dX6_areTold_18 : decode cX6_areTold 18 = .ok (.goto 4, 3) := by decide +kernel
theorem dX6_areTold_21 : decode cX6_areTold 21 = .ok (.iconst 0, 1) := by decide +kernel
theorem dX6_areTold_22 : decode cX6_areTold 22 = .ok (.iconst 1, 1) := by decide +kernel
theorem dX6_areTold_23 : decode cX6_areTold 23 = .ok (.iconst 0, 1) := by decide +kernel
theorem dX6_areTold_24 : decode cX6_areTold 24 = .ok (.invokevirtual 196, 3) := by decide +kernel
theorem dX6_areTold_27 : decode cX6_areTold 27 = .ok (.ifCond .eq 36, 3) := by decide +kernel
theorem dX6_areTold_30 : decode cX6_areTold 30 = .ok (.aload_n 0, 1) := by decide +kernel
theorem dX6_areTold_31 : decode cX6_areTold 31 = .ok (.iload_n 3, 1) := by decide +kernel
theorem dX6_areTold_32 : decode cX6_areTold 32 = .ok (.invokestatic 336, 3) := by decide +kernel
theorem dX6_areTold_35 : decode cX6_areTold 35 = .ok (.ifCond .eq 15, 3) := by decide +kernel
theorem dX6_areTold_38 : decode cX6_areTold 38 = .ok (.iload 4, 2) := by decide +kernel
theorem dX6_areTold_40 : decode cX6_areTold 40 = .ok (.invokestatic 339, 3) := by decide +kernel
theorem dX6_areTold_43 : decode cX6_areTold 43 = .ok (.ifCond .eq 7, 3) := by decide +kernel
theorem dX6_areTold_46 : decode cX6_areTold 46 = .ok (.iconst 1, 1) := by decide +kernel
theorem dX6_areTold_47 : decode cX6_areTold 47 = .ok (.goto 4, 3) := by decide +kernel
theorem dX6_areTold_50 : decode cX6_areTold 50 = .ok (.iconst 0, 1) := by decide +kernel
theorem dX6_areTold_51 : decode cX6_areTold 51 = .ok (.iconst 2, 1) := by decide +kernel
theorem dX6_areTold_52 : decode cX6_areTold 52 = .ok (.iconst 1, 1) := by decide +kernel
theorem dX6_areTold_53 : decode cX6_areTold 53 = .ok (.invokevirtual 196, 3) := by decide +kernel
theorem dX6_areTold_56 : decode cX6_areTold 56 = .ok (.ifCond .eq 7, 3) := by decide +kernel
theorem dX6_areTold_59 : decode cX6_areTold 59 = .ok (.iconst 1, 1) := by decide +kernel
theorem dX6_areTold_60 : decode cX6_areTold 60 = .ok (.goto 4, 3) := by decide +kernel
theorem dX6_areTold_63 : decode cX6_areTold 63 = .ok (.iconst 0, 1) := by decide +kernel
theorem dX6_areTold_64 : decode cX6_areTold 64 = .ok (.ireturn, 1) := by decide +kernel
theorem dX6_squat_0 : decode cX6_squat 0 = .ok (.aload_n 0, 1) := by decide +kernel
theorem dX6_squat_1 : decode cX6_squat 1 = .ok (.iconst 0, 1) := by decide +kernel
theorem dX6_squat_2 : decode cX6_squat 2 = .ok (.putfield 1, 3) := by decide +kernel
theorem dX6_squat_5 : decode cX6_squat 5 = .ok (.aload_n 0, 1) := by decide +kernel
theorem dX6_squat_6 : decode cX6_squat 6 = .ok (.iload_n 1, 1) := by decide +kernel
theorem dX6_squat_7 : decode cX6_squat 7 = .ok (.iload_n 2, 1) := by decide +kernel
theorem dX6_squat_8 : decode cX6_squat 8 = .ok (.iload_n 3, 1) := by decide +kernel
theorem dX6_squat_9 : decode cX6_squat 9 = .ok (.iload 4, 2) := by decide +kernel
theorem dX6_squat_11 : decode cX6_squat 11 = .ok (.invokevirtual 342, 3) := by decide +kernel
theorem dX6_squat_14 : decode cX6_squat 14 = .ok (.ifCond .eq 25, 3) := by decide +kernel
theorem dX6_squat_17 : decode cX6_squat 17 = .ok (.aload_n 0, 1) := by decide +kernel
theorem dX6_squat_18 : decode cX6_squat 18 = .ok (.iload_n 1, 1) := by decide +kernel
theorem dX6_squat_19 : decode cX6_squat 19 = .ok (.aload_n 0, 1) := by decide +kernel
theorem dX6_squat_20 : decode cX6_squat 20 = .ok (.iload_n 1, 1) := by decide +kernel
theorem dX6_squat_21 : decode cX6_squat 21 = .ok (.iconst 0, 1) := by decide +kernel
theorem dX6_squat_22 : decode cX6_squat 22 = .ok (.invokevirtual 241, 3) := by decide +kernel
theorem dX6_squat_25 : decode cX6_squat 25 = .ok (.aload_n 0, 1) := by decide +kernel
theorem dX6_squat_26 : decode cX6_squat 26 = .ok (.iload_n 2, 1) := by decide +kernel
theorem dX6_squat_27 : decode cX6_squat 27 = .ok (.iload_n 3, 1) := by decide +kernel
theorem dX6_squat_28 : decode cX6_squat 28 = .ok (.invokevirtual 250, 3) := by decide +kernel
theorem dX6_squat_31 : decode cX6_squat 31 = .ok (.iload 4, 2) := by decide +kernel
theorem dX6_squat_33 : decode cX6_squat 33 = .ok (.invokevirtual 253, 3) := by decide +kernel
theorem dX6_squat_36 : decode cX6_squat 36 = .ok (.goto 4, 3) := by decide +kernel
theorem dX6_squat_39 : decode cX6_squat 39 = .ok (.iconst 0, 1) := by decide +kernel
theorem dX6_squat_40 : decode cX6_squat 40 = .ok (.ireturn, 1) := by decide +kernel
theorem dX6_left_0 : decode cX6_left 0 = .ok (.aload_n 0, 1) := by decide +kernel
theorem dX6_left_1 : decode cX6_left 1 = .ok (.iconst 0, 1) := by decide +kernel
theorem dX6_left_2 : decode cX6_left 2 = .ok (.putfield 1, 3) := by decide +kernel
theorem dX6_left_5 : decode cX6_left 5 = .ok (.aload_n 0, 1) := by decide +kernel
theorem dX6_left_6 : decode cX6_left 6 = .ok (.iload_n 1, 1) := by decide +kernel
theorem dX6_left_7 : decode cX6_left 7 = .ok (.iload_n 2, 1) := by decide +kernel
theorem dX6_left_8 : decode cX6_left 8 = .ok (.iload_n 3, 1) := by decide +kernel
theorem dX6_left_9 : decode cX6_left 9 = .ok (.iload 4, 2) := by decide +kernel
theorem dX6_left_11 : decode cX6_left 11 = .ok (.invokevirtual 342, 3) := by decide +kernel
theorem dX6_left_14 : decode cX6_left 14 = .ok (.ifCond .eq 21, 3) := by decide +kernel
theorem dX6_left_17 : decode cX6_left 17 = .ok (.aload_n 0, 1) := by decide +kernel
theorem dX6_left_18 : decode cX6_left 18 = .ok (.iload_n 1, 1) := by decide +kernel
theorem dX6_left_19 : decode cX6_left 19 = .ok (.aload_n 0, 1) := by decide +kernel
theorem dX6_left_20 : decode cX6_left 20 = .ok (.iload_n 1, 1) := by decide +kernel
theorem dX6_left_21 : decode cX6_left 21 = .ok (.iconst 0, 1) := by decide +kernel
theorem dX6_left_22 : decode cX6_left 22 = .ok (.invokevirtual 241, 3) := by decide +kernel
theorem dX6_left_25 : decode cX6_left 25 = .ok (.iload_n 2, 1) := by decide +kernel
theorem dX6_left_26 : decode cX6_left 26 = .ok (.iload_n 3, 1) := by decide +kernel
theorem dX6_left_27 : decode cX6_left 27 = .ok (.iload 4, 2) := by decide +kernel
theorem dX6_left_29 : decode cX6_left 29 = .ok (.invokevirtual 257, 3) := by decide +kernel
theorem dX6_left_32 : decode cX6_left 32 = .ok (.goto 4, 3) := by decide +kernel
theorem dX6_left_35 : decode cX6_left 35 = .ok (.iconst 0, 1) := by decide +kernel
theorem dX6_left_36 : decode cX6_left 36 = .ok (.ireturn, 1) := by decide +kernel
theorem dX6_fastest_0 : decode cX6_fastest 0 = .ok (.aload_n 0, 1) := by decide +kernel
theorem dX6_fastest_1 : decode cX6_fastest 1 = .ok (.iconst 0, 1) := by decide +kernel
theorem dX6_fastest_2 : decode cX6_fastest 2 = .ok (.putfield 1, 3) := by decide +kernel
theorem dX6_fastest_5 : decode cX6_fastest 5 = .ok (.aload_n 0, 1) := by decide +kernel
theorem dX6_fastest_6 : decode cX6_fastest 6 = .ok (.aload_n 0, 1) := by decide +kernel
theorem dX6_fastest_7 : decode cX6_fastest 7 = .ok (.iload_n 1, 1) := by decide +kernel
theorem dX6_fastest_8 : decode cX6_fastest 8 = .ok (.invokevirtual 300, 3) := by decide +kernel
theorem dX6_fastest_11 : decode cX6_fastest 11 = .ok (.ifCond .eq 15, 3) := by decide +kernel
theorem dX6_fastest_14 : decode cX6_fastest 14 = .ok (.aload_n 0, 1) := by decide +kernel
theorem dX6_fastest_15 : decode cX6_fastest 15 = .ok (.iload_n 2, 1) := by decide +kernel
theorem dX6_fastest_16 : decode cX6_fastest 16 = .ok (.invokevirtual 290, 3) := by decide +kernel
theorem dX6_fastest_19 : decode cX6_fastest 19 = .ok (.ifCond .eq 7, 3) := by decide +kernel
theorem dX6_fastest_22 : decode cX6_fastest 22 = .ok (.iconst 1, 1) := by decide +kernel
theorem dX6_fastest_23 : decode cX6_fastest 23 = .ok (.goto 4, 3) := by decide +kernel
theorem dX6_fastest_26 : decode cX6_fastest 26 = .ok (.iconst 0, 1) := by decide +kernel
theorem dX6_fastest_27 : decode cX6_fastest 27 = .ok (.iconst 1, 1) := by decide +kernel
theorem dX6_fastest_28 : decode cX6_fastest 28 = .ok (.iconst 0, 1) := by decide +kernel
theorem dX6_fastest_29 : decode cX6_fastest 29 = .ok (.invokevirtual 196, 3) := by decide +kernel
theorem dX6_fastest_32 : decode cX6_fastest 32 = .ok (.ifCond .eq 16, 3) := by decide +kernel
theorem dX6_fastest_35 : decode cX6_fastest 35 = .ok (.aload_n 0, 1) := by decide +kernel
theorem dX6_fastest_36 : decode cX6_fastest 36 = .ok (.iload_n 3, 1) := by decide +kernel
theorem dX6_fastest_37 : decode cX6_fastest 37 = .ok (.invokestatic 336, 3) := by decide +kernel
theorem dX6_fastest_40 : decode cX6_fastest 40 = .ok (.iconst 2, 1) := by decide +kernel
theorem dX6_fastest_41 : decode cX6_fastest 41 = .ok (.iconst 1, 1) := by decide +kernel
theorem dX6_fastest_42 : decode cX6_fastest 42 = .ok (.invokevirtual 196, 3) := by decide +kernel
theorem dX6_fastest_45 : decode cX6_fastest 45 = .ok (.ifCond .ne 5, 3) := by decide +kernel
theorem dX6_fastest_48 : decode cX6_fastest 48 = .ok (.iconst 0, 1) := by decide +kernel
theorem dX6_fastest_49 : decode cX6_fastest 49 = .ok (.ireturn, 1) := by decide +kernel
theorem dX6_fastest_50 : decode cX6_fastest 50 = .ok (.aload_n 0, 1) := by decide +kernel
theorem dX6_fastest_51 : decode cX6_fastest 51 = .ok (.iload_n 1, 1) := by decide +kernel
theorem dX6_fastest_52 : decode cX6_fastest 52 = .ok (.iconst 4, 1) := by decide +kernel
theorem dX6_fastest_53 : decode cX6_fastest 53 = .ok (.invokevirtual 241, 3) := by decide +kernel
theorem dX6_fastest_56 : decode cX6_fastest 56 = .ok (.istore 4, 2) := by decide +kernel
theorem dX6_fastest_58 : decode cX6_fastest 58 = .ok (.iload 4, 2) := by decide +kernel
theorem dX6_fastest_60 : decode cX6_fastest 60 = .ok (.aload_n 0, 1) := by decide +kernel
theorem dX6_fastest_61 : decode cX6_fastest 61 = .ok (.iload_n 1, 1) := by decide +kernel
theorem dX6_fastest_62 : decode cX6_fastest 62 = .ok (.iconst 3, 1) := by decide +kernel
theorem dX6_fastest_63 : decode cX6_fastest 63 = .ok (.invokevirtual 241, 3) := by decide +kernel
theorem dX6_fastest_66 : decode cX6_fastest 66 = .ok (.if_icmp .lt 30, 3) := by decide +kernel
theorem dX6_fastest_69 : decode cX6_fastest 69 = .ok (.aload_n 0, 1) := by decide +kernel
theorem dX6_fastest_70 : decode cX6_fastest 70 = .ok (.iload_n 1, 1) := by decide +kernel
theorem dX6_fastest_71 : decode cX6_fastest 71 = .ok (.aload_n 0, 1) := by decide +kernel
theorem dX6_fastest_72 : decode cX6_fastest 72 = .ok (.iload_n 1, 1) := by decide +kernel
theorem dX6_fastest_73 : decode cX6_fastest 73 = .ok (.iconst 0, 1) := by decide +kernel
theorem dX6_fastest_74 : decode cX6_fastest 74 = .ok (.invokevirtual 241, 3) := by decide +kernel
theorem dX6_fastest_77 : decode cX6_fastest 77 = .ok (.iload_n 2, 1) := by decide +kernel
theorem dX6_fastest_78 : decode cX6_fastest 78 = .ok (.iload_n 3, 1) := by decide +kernel
theorem dX6_fastest_79 : decode cX6_fastest 79 = .ok (.iload 4, 2) := by decide +kernel
theorem dX6_fastest_81 : decode cX6_fastest 81 = .ok (.invokevirtual 264, 3) := by decide +kernel
theorem dX6_fastest_84 : decode cX6_fastest 84 = .ok (.ifCond .eq 6, 3) := by decide +kernel
theorem dX6_fastest_87 : decode cX6_fastest 87 = .ok (.iload 4, 2) := by decide +kernel
theorem dX6_fastest_89 : decode cX6_fastest 89 = .ok (.ireturn, 1) := by decide +kernel
theorem dX6_fastest_90 : decode cX6_fastest 90 = .ok (.iinc 4 (-1), 3) := by decide +kernel
theorem dX6_fastest_93 : decode cX6_fastest 93 = .ok (.goto (-35), 3) := by decide +kernel
theorem dX6_fastest_96 : decode cX6_fastest 96 = .ok (.iconst (-1), 1) := by decide +kernel
theorem dX6_fastest_97 : decode cX6_fastest 97 = .ok (.ireturn, 1) := by decide +kernel
theorem dX6_rowOf_0 : decode cX6_rowOf 0 = .ok (.iconst 0, 1) := by decide +kernel
theorem dX6_rowOf_1 : decode cX6_rowOf 1 = .ok (.istore 4, 2) := by decide +kernel
theorem dX6_rowOf_3 : decode cX6_rowOf 3 = .ok (.iconst 0, 1) := by decide +kernel
theorem dX6_rowOf_4 : decode cX6_rowOf 4 = .ok (.istore 5, 2) := by decide +kernel
theorem dX6_rowOf_6 : decode cX6_rowOf 6 = .ok (.iload 5, 2) := by decide +kernel
theorem dX6_rowOf_8 : decode cX6_rowOf 8 = .ok (.sipush 1440, 3) := by decide +kernel
theorem dX6_rowOf_11 : decode cX6_rowOf 11 = .ok (.if_icmp .ge 94, 3) := by decide +kernel
theorem dX6_rowOf_14 : decode cX6_rowOf 14 = .ok (.aload_n 0, 1) := by decide +kernel
theorem dX6_rowOf_15 : decode cX6_rowOf 15 = .ok (.getfield 40, 3) := by decide +kernel
theorem dX6_rowOf_18 : decode cX6_rowOf 18 = .ok (.iload 5, 2) := by decide +kernel
theorem dX6_rowOf_20 : decode cX6_rowOf 20 = .ok (.baload, 1) := by decide +kernel
theorem dX6_rowOf_21 : decode cX6_rowOf 21 = .ok (.ifCond .eq 78, 3) := by decide +kernel
theorem dX6_rowOf_24 : decode cX6_rowOf 24 = .ok (.iload 5, 2) := by decide +kernel
theorem dX6_rowOf_26 : decode cX6_rowOf 26 = .ok (.ifCond .le 18, 3) := by decide +kernel
theorem dX6_rowOf_29 : decode cX6_rowOf 29 = .ok (.aload_n 0, 1) := by decide +kernel
theorem dX6_rowOf_30 : decode cX6_rowOf 30 = .ok (.getfield 40, 3) := by decide +kernel
theorem dX6_rowOf_33 : decode cX6_rowOf 33 = .ok (.iload 5, 2) := by decide +kernel
theorem dX6_rowOf_35 : decode cX6_rowOf 35 = .ok (.iconst 1, 1) := by decide +kernel
theorem dX6_rowOf_36 : decode cX6_rowOf 36 = .ok (.isub, 1) := by decide +kernel
theorem dX6_rowOf_37 : decode cX6_rowOf 37 = .ok (.baload, 1) := by decide +kernel
theorem dX6_rowOf_38 : decode cX6_rowOf 38 = .ok (.ifCond .eq 6, 3) := by decide +kernel
theorem dX6_rowOf_41 : decode cX6_rowOf 41 = .ok (.goto 58, 3) := by decide +kernel
theorem dX6_rowOf_44 : decode cX6_rowOf 44 = .ok (.iload 4, 2) := by decide +kernel
theorem dX6_rowOf_46 : decode cX6_rowOf 46 = .ok (.iload_n 2, 1) := by decide +kernel
theorem dX6_rowOf_47 : decode cX6_rowOf 47 = .ok (.if_icmp .ne 49, 3) := by decide +kernel
theorem dX6_rowOf_50 : decode cX6_rowOf 50 = .ok (.iload 5, 2) := by decide +kernel
theorem dX6_rowOf_52 : decode cX6_rowOf 52 = .ok (.istore 6, 2) := by decide +kernel
theorem dX6_rowOf_54 : decode cX6_rowOf 54 = .ok (.iload 6, 2) := by decide +kernel
theorem dX6_rowOf_56 : decode cX6_rowOf 56 = .ok (.iconst 1, 1) := by decide +kernel
theorem dX6_rowOf_57 : decode cX6_rowOf 57 = .ok (.iadd, 1) := by decide +kernel
theorem dX6_rowOf_58 : decode cX6_rowOf 58 = .ok (.sipush 1440, 3) := by decide +kernel
theorem dX6_rowOf_61 : decode cX6_rowOf 61 = .ok (.if_icmp .ge 21, 3) := by decide +kernel
theorem dX6_rowOf_64 : decode cX6_rowOf 64 = .ok (.aload_n 0, 1) := by decide +kernel
theorem dX6_rowOf_65 : decode cX6_rowOf 65 = .ok (.getfield 40, 3) := by decide +kernel
theorem dX6_rowOf_68 : decode cX6_rowOf 68 = .ok (.iload 6, 2) := by decide +kernel
theorem dX6_rowOf_70 : decode cX6_rowOf 70 = .ok (.iconst 1, 1) := by decide +kernel
theorem dX6_rowOf_71 : decode cX6_rowOf 71 = .ok (.iadd, 1) := by decide +kernel
theorem dX6_rowOf_72 : decode cX6_rowOf 72 = .ok (.baload, 1) := by decide +kernel
theorem dX6_rowOf_73 : decode cX6_rowOf 73 = .ok (.ifCond .eq 9, 3) := by decide +kernel
theorem dX6_rowOf_76 : decode cX6_rowOf 76 = .ok (.iinc 6 1, 3) := by decide +kernel
theorem dX6_rowOf_79 : decode cX6_rowOf 79 = .ok (.goto (-25), 3) := by decide +kernel
theorem dX6_rowOf_82 : decode cX6_rowOf 82 = .ok (.iload_n 1, 1) := by decide +kernel
theorem dX6_rowOf_83 : decode cX6_rowOf 83 = .ok (.iload_n 3, 1) := by decide +kernel
theorem dX6_rowOf_84 : decode cX6_rowOf 84 = .ok (.ifCond .ne 8, 3) := by decide +kernel
theorem dX6_rowOf_87 : decode cX6_rowOf 87 = .ok (.iload 5, 2) := by decide +kernel
theorem dX6_rowOf_89 : decode cX6_rowOf 89 = .ok (.goto 5, 3) := by decide +kernel
theorem dX6_rowOf_92 : decode cX6_rowOf 92 = .ok (.iload 6, 2) := by decide +kernel
theorem dX6_rowOf_94 : decode cX6_rowOf 94 = .ok (.iadd, 1) := by decide +kernel
theorem dX6_rowOf_95 : decode cX6_rowOf 95 = .ok (.ireturn, 1) := by decide +kernel
theorem dX6_rowOf_96 : decode cX6_rowOf 96 = .ok (.iinc 4 1, 3) := by decide +kernel
theorem dX6_rowOf_99 : decode cX6_rowOf 99 = .ok (.iinc 5 1, 3) := by decide +kernel
theorem dX6_rowOf_102 : decode cX6_rowOf 102 = .ok (.goto (-96), 3) := by decide +kernel
theorem dX6_rowOf_105 : decode cX6_rowOf 105 = .ok (.iload_n 2, 1) := by decide +kernel
theorem dX6_rowOf_106 : decode cX6_rowOf 106 = .ok (.iconst (-1), 1) := by decide +kernel
theorem dX6_rowOf_107 : decode cX6_rowOf 107 = .ok (.if_icmp .ne 8, 3) := by decide +kernel
theorem dX6_rowOf_110 : decode cX6_rowOf 110 = .ok (.iload 4, 2) := by decide +kernel
theorem dX6_rowOf_112 : decode cX6_rowOf 112 = .ok (.goto 18, 3) := by decide +kernel
theorem dX6_rowOf_115 : decode cX6_rowOf 115 = .ok (.aload_n 0, 1) := by decide +kernel
theorem dX6_rowOf_116 : decode cX6_rowOf 116 = .ok (.iconst 0, 1) := by decide +kernel
theorem dX6_rowOf_117 : decode cX6_rowOf 117 = .ok (.iconst 1, 1) := by decide +kernel
theorem dX6_rowOf_118 : decode cX6_rowOf 118 = .ok (.iconst 0, 1) := by decide +kernel
theorem dX6_rowOf_119 : decode cX6_rowOf 119 = .ok (.invokevirtual 196, 3) := by decide +kernel
theorem dX6_rowOf_122 : decode cX6_rowOf 122 = .ok (.ifCond .eq 7, 3) := by decide +kernel
theorem dX6_rowOf_125 : decode cX6_rowOf 125 = .ok (.iconst 0, 1) := by decide +kernel
theorem dX6_rowOf_126 : decode cX6_rowOf 126 = .ok (.goto 4, 3) := by decide +kernel
theorem dX6_rowOf_129 : decode cX6_rowOf 129 = .ok (.iconst 0, 1) := by decide +kernel
theorem dX6_rowOf_130 : decode cX6_rowOf 130 = .ok (.ireturn, 1) := by decide +kernel
theorem dX6_window_0 : decode cX6_window 0 = .ok (.aload_n 0, 1) := by decide +kernel
theorem dX6_window_1 : decode cX6_window 1 = .ok (.iconst 0, 1) := by decide +kernel
theorem dX6_window_2 : decode cX6_window 2 = .ok (.putfield 1, 3) := by decide +kernel
theorem dX6_window_5 : decode cX6_window 5 = .ok (.aload_n 0, 1) := by decide +kernel
theorem dX6_window_6 : decode cX6_window 6 = .ok (.iload_n 1, 1) := by decide +kernel
theorem dX6_window_7 : decode cX6_window 7 = .ok (.iload_n 2, 1) := by decide +kernel
theorem dX6_window_8 : decode cX6_window 8 = .ok (.iload 4, 2) := by decide +kernel
theorem dX6_window_10 : decode cX6_window 10 = .ok (.iload_n 3, 1) := by decide +kernel
theorem dX6_window_11 : decode cX6_window 11 = .ok (.invokevirtual 342, 3) := by decide +kernel
theorem dX6_window_14 : decode cX6_window 14 = .ok (.ifCond .eq 30, 3) := by decide +kernel
theorem dX6_window_17 : decode cX6_window 17 = .ok (.aload_n 0, 1) := by decide +kernel
theorem dX6_window_18 : decode cX6_window 18 = .ok (.iload 6, 2) := by decide +kernel
theorem dX6_window_20 : decode cX6_window 20 = .ok (.i2l, 1) := by decide +kernel
theorem dX6_window_21 : decode cX6_window 21 = .ok (.lconst 0, 1) := by decide +kernel
theorem dX6_window_22 : decode cX6_window 22 = .ok (.iload 5, 2) := by decide +kernel
theorem dX6_window_24 : decode cX6_window 24 = .ok (.iconst (-1), 1) := by decide +kernel
theorem dX6_window_25 : decode cX6_window 25 = .ok (.if_icmp .ne 7, 3) := by decide +kernel
theorem dX6_window_28 : decode cX6_window 28 = .ok (.lconst 0, 1) := by decide +kernel
theorem dX6_window_29 : decode cX6_window 29 = .ok (.goto 4, 3) := by decide +kernel
theorem dX6_window_32 : decode cX6_window 32 = .ok (.lconst 1, 1) := by decide +kernel
theorem dX6_window_33 : decode cX6_window 33 = .ok (.invokestatic 122, 3) := by decide +kernel
theorem dX6_window_36 : decode cX6_window 36 = .ok (.iconst 2, 1) := by decide +kernel
theorem dX6_window_37 : decode cX6_window 37 = .ok (.iconst 1, 1) := by decide +kernel
theorem dX6_window_38 : decode cX6_window 38 = .ok (.invokevirtual 196, 3) := by decide +kernel
theorem dX6_window_41 : decode cX6_window 41 = .ok (.ifCond .ne 5, 3) := by decide +kernel
theorem dX6_window_44 : decode cX6_window 44 = .ok (.iconst 0, 1) := by decide +kernel
theorem dX6_window_45 : decode cX6_window 45 = .ok (.ireturn, 1) := by decide +kernel
theorem dX6_window_46 : decode cX6_window 46 = .ok (.iconst 0, 1) := by decide +kernel
theorem dX6_window_47 : decode cX6_window 47 = .ok (.istore 7, 2) := by decide +kernel
theorem dX6_window_49 : decode cX6_window 49 = .ok (.iload 7, 2) := by decide +kernel
theorem dX6_window_51 : decode cX6_window 51 = .ok (.sipush 1440, 3) := by decide +kernel
theorem dX6_window_54 : decode cX6_window 54 = .ok (.if_icmp .ge 34, 3) := by decide +kernel
theorem dX6_window_57 : decode cX6_window 57 = .ok (.aload_n 0, 1) := by decide +kernel
theorem dX6_window_58 : decode cX6_window 58 = .ok (.getfield 40, 3) := by decide +kernel
theorem dX6_window_61 : decode cX6_window 61 = .ok (.iload 7, 2) := by decide +kernel
theorem dX6_window_63 : decode cX6_window 63 = .ok (.aload_n 0, 1) := by decide +kernel
theorem dX6_window_64 : decode cX6_window 64 = .ok (.iload_n 1, 1) := by decide +kernel
theorem dX6_window_65 : decode cX6_window 65 = .ok (.aload_n 0, 1) := by decide +kernel
theorem dX6_window_66 : decode cX6_window 66 = .ok (.iload_n 1, 1) := by decide +kernel
theorem dX6_window_67 : decode cX6_window 67 = .ok (.iconst 0, 1) := by decide +kernel
theorem dX6_window_68 : decode cX6_window 68 = .ok (.invokevirtual 241, 3) := by decide +kernel
theorem dX6_window_71 : decode cX6_window 71 = .ok (.iload_n 2, 1) := by decide +kernel
theorem dX6_window_72 : decode cX6_window 72 = .ok (.iload 4, 2) := by decide +kernel
theorem dX6_window_74 : decode cX6_window 74 = .ok (.iload 7, 2) := by decide +kernel
theorem dX6_window_76 : decode cX6_window 76 = .ok (.iadd, 1) := by decide +kernel
theorem dX6_window_77 : decode cX6_window 77 = .ok (.iload_n 3, 1) := by decide +kernel
theorem dX6_window_78 : decode cX6_window 78 = .ok (.invokevirtual 277, 3) := by decide +kernel
theorem dX6_window_81 : decode cX6_window 81 = .ok (.bastore, 1) := by decide +kernel
theorem dX6_window_82 : decode cX6_window 82 = .ok (.iinc 7 1, 3) := by decide +kernel
theorem dX6_window_85 : decode cX6_window 85 = .ok (.goto (-36), 3) := by decide +kernel
theorem dX6_window_88 : decode cX6_window 88 = .ok (.aload_n 0, 1) := by decide +kernel
theorem dX6_window_89 : decode cX6_window 89 = .ok (.iload 4, 2) := by decide +kernel
theorem dX6_window_91 : decode cX6_window 91 = .ok (.iload 5, 2) := by decide +kernel
theorem dX6_window_93 : decode cX6_window 93 = .ok (.iload 6, 2) := by decide +kernel
theorem dX6_window_95 : decode cX6_window 95 = .ok (.invokevirtual 345, 3) := by decide +kernel
theorem dX6_window_98 : decode cX6_window 98 = .ok (.ireturn, 1) := by decide +kernel
theorem dX6_joined_0 : decode cX6_joined 0 = .ok (.aload_n 0, 1) := by decide +kernel
theorem dX6_joined_1 : decode cX6_joined 1 = .ok (.iconst 0, 1) := by decide +kernel
theorem dX6_joined_2 : decode cX6_joined 2 = .ok (.putfield 1, 3) := by decide +kernel
theorem dX6_joined_5 : decode cX6_joined 5 = .ok (.aload_n 0, 1) := by decide +kernel
theorem dX6_joined_6 : decode cX6_joined 6 = .ok (.aload_n 0, 1) := by decide +kernel
theorem dX6_joined_7 : decode cX6_joined 7 = .ok (.iload_n 1, 1) := by decide +kernel
theorem dX6_joined_8 : decode cX6_joined 8 = .ok (.invokevirtual 300, 3) := by decide +kernel
theorem dX6_joined_11 : decode cX6_joined 11 = .ok (.iconst 1, 1) := by decide +kernel
theorem dX6_joined_12 : decode cX6_joined 12 = .ok (.iconst 0, 1) := by decide +kernel
theorem dX6_joined_13 : decode cX6_joined 13 = .ok (.invokevirtual 196, 3) := by decide +kernel
theorem dX6_joined_16 : decode cX6_joined 16 = .ok (.ifCond .eq 52, 3) := by decide +kernel
theorem dX6_joined_19 : decode cX6_joined 19 = .ok (.aload_n 0, 1) := by decide +kernel
theorem dX6_joined_20 : decode cX6_joined 20 = .ok (.iload_n 2, 1) := by decide +kernel
theorem dX6_joined_21 : decode cX6_joined 21 = .ok (.invokestatic 339, 3) := by decide +kernel
theorem dX6_joined_24 : decode cX6_joined 24 = .ok (.ifCond .eq 35, 3) := by decide +kernel
theorem dX6_joined_27 : decode cX6_joined 27 = .ok (.iload_n 3, 1) := by decide +kernel
theorem dX6_joined_28 : decode cX6_joined 28 = .ok (.invokestatic 336, 3) := by decide +kernel
theorem dX6_joined_31 : decode cX6_joined 31 = .ok (.ifCond .eq 28, 3) := by decide +kernel
theorem dX6_joined_34 : decode cX6_joined 34 = .ok (.iload 5, 2) := by decide +kernel
theorem dX6_joined_36 : decode cX6_joined 36 = .ok (.i2l, 1) := by decide +kernel
theorem dX6_joined_37 : decode cX6_joined 37 = .ok (.lconst 0, 1) := by decide +kernel
theorem dX6_joined_38 : decode cX6_joined 38 = .ok (.iload 4, 2) := by decide +kernel
theorem dX6_joined_40 : decode cX6_joined 40 = .ok (.iconst (-1), 1) := by decide +kernel
theorem dX6_joined_41 : decode cX6_joined 41 = .ok (.if_icmp .ne 7, 3) := by decide +kernel
theorem dX6_joined_44 : decode cX6_joined 44 = .ok (.lconst 0, 1) := by decide +kernel
theorem dX6_joined_45 : decode cX6_joined 45 = .ok (.goto 4, 3) := by decide +kernel
theorem dX6_joined_48 : decode cX6_joined 48 = .ok (.lconst 1, 1) := by decide +kernel
theorem dX6_joined_49 : decode cX6_joined 49 = .ok (.invokestatic 122, 3) := by decide +kernel
theorem dX6_joined_52 : decode cX6_joined 52 = .ok (.ifCond .eq 7, 3) := by decide +kernel
theorem dX6_joined_55 : decode cX6_joined 55 = .ok (.iconst 1, 1) := by decide +kernel
theorem dX6_joined_56 : decode cX6_joined 56 = .ok (.goto 4, 3) := by decide +kernel
theorem dX6_joined_59 : decode cX6_joined 59 = .ok (.iconst 0, 1) := by decide +kernel
theorem dX6_joined_60 : decode cX6_joined 60 = .ok (.iconst 2, 1) := by decide +kernel
theorem dX6_joined_61 : decode cX6_joined 61 = .ok (.iconst 1, 1) := by decide +kernel
theorem dX6_joined_62 : decode cX6_joined 62 = .ok (.invokevirtual 196, 3) := by decide +kernel
theorem dX6_joined_65 : decode cX6_joined 65 = .ok (.ifCond .ne 5, 3) := by decide +kernel
theorem dX6_joined_68 : decode cX6_joined 68 = .ok (.iconst 0, 1) := by decide +kernel
theorem dX6_joined_69 : decode cX6_joined 69 = .ok (.ireturn, 1) := by decide +kernel
theorem dX6_joined_70 : decode cX6_joined 70 = .ok (.iconst 0, 1) := by decide +kernel
theorem dX6_joined_71 : decode cX6_joined 71 = .ok (.istore 6, 2) := by decide +kernel
theorem dX6_joined_73 : decode cX6_joined 73 = .ok (.iload 6, 2) := by decide +kernel
theorem dX6_joined_75 : decode cX6_joined 75 = .ok (.sipush 1440, 3) := by decide +kernel
theorem dX6_joined_78 : decode cX6_joined 78 = .ok (.if_icmp .ge 26, 3) := by decide +kernel
theorem dX6_joined_81 : decode cX6_joined 81 = .ok (.aload_n 0, 1) := by decide +kernel
theorem dX6_joined_82 : decode cX6_joined 82 = .ok (.getfield 40, 3) := by decide +kernel
theorem dX6_joined_85 : decode cX6_joined 85 = .ok (.iload 6, 2) := by decide +kernel
theorem dX6_joined_87 : decode cX6_joined 87 = .ok (.aload_n 0, 1) := by decide +kernel
theorem dX6_joined_88 : decode cX6_joined 88 = .ok (.iload_n 1, 1) := by decide +kernel
theorem dX6_joined_89 : decode cX6_joined 89 = .ok (.iload_n 3, 1) := by decide +kernel
theorem dX6_joined_90 : decode cX6_joined 90 = .ok (.iload 6, 2) := by decide +kernel
theorem dX6_joined_92 : decode cX6_joined 92 = .ok (.iadd, 1) := by decide +kernel
theorem dX6_joined_93 : decode cX6_joined 93 = .ok (.iload_n 2, 1) := by decide +kernel
theorem dX6_joined_94 : decode cX6_joined 94 = .ok (.invokevirtual 318, 3) := by decide +kernel
theorem dX6_joined_97 : decode cX6_joined 97 = .ok (.bastore, 1) := by decide +kernel
theorem dX6_joined_98 : decode cX6_joined 98 = .ok (.iinc 6 1, 3) := by decide +kernel
theorem dX6_joined_101 : decode cX6_joined 101 = .ok (.goto (-28), 3) := by decide +kernel
theorem dX6_joined_104 : decode cX6_joined 104 = .ok (.aload_n 0, 1) := by decide +kernel
theorem dX6_joined_105 : decode cX6_joined 105 = .ok (.iload_n 3, 1) := by decide +kernel
theorem dX6_joined_106 : decode cX6_joined 106 = .ok (.iload 4, 2) := by decide +kernel
theorem dX6_joined_108 : decode cX6_joined 108 = .ok (.iload 5, 2) := by decide +kernel
theorem dX6_joined_110 : decode cX6_joined 110 = .ok (.invokevirtual 345, 3) := by decide +kernel
theorem dX6_joined_113 : decode cX6_joined 113 = .ok (.ireturn, 1) := by decide +kernel
theorem dX6_lasts_0 : decode cX6_lasts 0 = .ok (.aload_n 0, 1) := by decide +kernel
theorem dX6_lasts_1 : decode cX6_lasts 1 = .ok (.iconst 0, 1) := by decide +kernel
theorem dX6_lasts_2 : decode cX6_lasts 2 = .ok (.putfield 1, 3) := by decide +kernel
theorem dX6_lasts_5 : decode cX6_lasts 5 = .ok (.aload_n 0, 1) := by decide +kernel
theorem dX6_lasts_6 : decode cX6_lasts 6 = .ok (.aload_n 0, 1) := by decide +kernel
theorem dX6_lasts_7 : decode cX6_lasts 7 = .ok (.iload_n 1, 1) := by decide +kernel
theorem dX6_lasts_8 : decode cX6_lasts 8 = .ok (.invokevirtual 300, 3) := by decide +kernel
theorem dX6_lasts_11 : decode cX6_lasts 11 = .ok (.iconst 1, 1) := by decide +kernel
theorem dX6_lasts_12 : decode cX6_lasts 12 = .ok (.iconst 0, 1) := by decide +kernel
theorem dX6_lasts_13 : decode cX6_lasts 13 = .ok (.invokevirtual 196, 3) := by decide +kernel
theorem dX6_lasts_16 : decode cX6_lasts 16 = .ok (.ifCond .eq 16, 3) := by decide +kernel
theorem dX6_lasts_19 : decode cX6_lasts 19 = .ok (.aload_n 0, 1) := by decide +kernel
theorem dX6_lasts_20 : decode cX6_lasts 20 = .ok (.iload_n 2, 1) := by decide +kernel
theorem dX6_lasts_21 : decode cX6_lasts 21 = .ok (.invokestatic 339, 3) := by decide +kernel
theorem dX6_lasts_24 : decode cX6_lasts 24 = .ok (.iconst 2, 1) := by decide +kernel
theorem dX6_lasts_25 : decode cX6_lasts 25 = .ok (.iconst 1, 1) := by decide +kernel
theorem dX6_lasts_26 : decode cX6_lasts 26 = .ok (.invokevirtual 196, 3) := by decide +kernel
theorem dX6_lasts_29 : decode cX6_lasts 29 = .ok (.ifCond .ne 5, 3) := by decide +kernel
theorem dX6_lasts_32 : decode cX6_lasts 32 = .ok (.iconst 0, 1) := by decide +kernel
theorem dX6_lasts_33 : decode cX6_lasts 33 = .ok (.ireturn, 1) := by decide +kernel
theorem dX6_lasts_34 : decode cX6_lasts 34 = .ok (.aload_n 0, 1) := by decide +kernel
theorem dX6_lasts_35 : decode cX6_lasts 35 = .ok (.iload_n 1, 1) := by decide +kernel
theorem dX6_lasts_36 : decode cX6_lasts 36 = .ok (.iconst 0, 1) := by decide +kernel
theorem dX6_lasts_37 : decode cX6_lasts 37 = .ok (.iload_n 2, 1) := by decide +kernel
theorem dX6_lasts_38 : decode cX6_lasts 38 = .ok (.invokevirtual 325, 3) := by decide +kernel
theorem dX6_lasts_41 : decode cX6_lasts 41 = .ok (.ireturn, 1) := by decide +kernel
theorem dX6_areGiven_0 : decode cX6_areGiven 0 = .ok (.aload_n 0, 1) := by decide +kernel
theorem dX6_areGiven_1 : decode cX6_areGiven 1 = .ok (.aload_n 0, 1) := by decide +kernel
theorem dX6_areGiven_2 : decode cX6_areGiven 2 = .ok (.iload_n 1, 1) := by decide +kernel
theorem dX6_areGiven_3 : decode cX6_areGiven 3 = .ok (.invokevirtual 300, 3) := by decide +kernel
theorem dX6_areGiven_6 : decode cX6_areGiven 6 = .ok (.iconst 1, 1) := by decide +kernel
theorem dX6_areGiven_7 : decode cX6_areGiven 7 = .ok (.iconst 0, 1) := by decide +kernel
theorem dX6_areGiven_8 : decode cX6_areGiven 8 = .ok (.invokevirtual 196, 3) := by decide +kernel
theorem dX6_areGiven_11 : decode cX6_areGiven 11 = .ok (.ifCond .eq 35, 3) := by decide +kernel
theorem dX6_areGiven_14 : decode cX6_areGiven 14 = .ok (.aload_n 0, 1) := by decide +kernel
theorem dX6_areGiven_15 : decode cX6_areGiven 15 = .ok (.iload_n 2, 1) := by decide +kernel
theorem dX6_areGiven_16 : decode cX6_areGiven 16 = .ok (.invokestatic 336, 3) := by decide +kernel
theorem dX6_areGiven_19 : decode cX6_areGiven 19 = .ok (.ifCond .eq 14, 3) := by decide +kernel
theorem dX6_areGiven_22 : decode cX6_areGiven 22 = .ok (.iload_n 3, 1) := by decide +kernel
theorem dX6_areGiven_23 : decode cX6_areGiven 23 = .ok (.invokestatic 339, 3) := by decide +kernel
theorem dX6_areGiven_26 : decode cX6_areGiven 26 = .ok (.ifCond .eq 7, 3) := by decide +kernel
theorem dX6_areGiven_29 : decode cX6_areGiven 29 = .ok (.iconst 1, 1) := by decide +kernel
theorem dX6_areGiven_30 : decode cX6_areGiven 30 = .ok (.goto 4, 3) := by decide +kernel
theorem dX6_areGiven_33 : decode cX6_areGiven 33 = .ok (.iconst 0, 1) := by decide +kernel
theorem dX6_areGiven_34 : decode cX6_areGiven 34 = .ok (.iconst 2, 1) := by decide +kernel
theorem dX6_areGiven_35 : decode cX6_areGiven 35 = .ok (.iconst 1, 1) := by decide +kernel
theorem dX6_areGiven_36 : decode cX6_areGiven 36 = .ok (.invokevirtual 196, 3) := by decide +kernel
theorem dX6_areGiven_39 : decode cX6_areGiven 39 = .ok (.ifCond .eq 7, 3) := by decide +kernel
theorem dX6_areGiven_42 : decode cX6_areGiven 42 = .ok (.iconst 1, 1) := by decide +kernel
theorem dX6_areGiven_43 : decode cX6_areGiven 43 = .ok (.goto 4, 3) := by decide +kernel
theorem dX6_areGiven_46 : decode cX6_areGiven 46 = .ok (.iconst 0, 1) := by decide +kernel
theorem dX6_areGiven_47 : decode cX6_areGiven 47 = .ok (.ireturn, 1) := by decide +kernel
theorem dX6_least_0 : decode cX6_least 0 = .ok (.aload_n 0, 1) := by decide +kernel
theorem dX6_least_1 : decode cX6_least 1 = .ok (.iconst 0, 1) := by decide +kernel
theorem dX6_least_2 : decode cX6_least 2 = .ok (.putfield 1, 3) := by decide +kernel
theorem dX6_least_5 : decode cX6_least 5 = .ok (.aload_n 0, 1) := by decide +kernel
theorem dX6_least_6 : decode cX6_least 6 = .ok (.iload_n 1, 1) := by decide +kernel
theorem dX6_least_7 : decode cX6_least 7 = .ok (.iload_n 2, 1) := by decide +kernel
theorem dX6_least_8 : decode cX6_least 8 = .ok (.iload_n 3, 1) := by decide +kernel
theorem dX6_least_9 : decode cX6_least 9 = .ok (.invokevirtual 348, 3) := by decide +kernel
theorem dX6_least_12 : decode cX6_least 12 = .ok (.ifCond .ne 5, 3) := by decide +kernel
theorem dX6_least_15 : decode cX6_least 15 = .ok (.iconst 0, 1) := by decide +kernel
theorem dX6_least_16 : decode cX6_least 16 = .ok (.ireturn, 1) := by decide +kernel
theorem dX6_least_17 : decode cX6_least 17 = .ok (.ldc_w 351, 3) := by decide +kernel
theorem dX6_least_20 : decode cX6_least 20 = .ok (.istore 4, 2) := by decide +kernel
theorem dX6_least_22 : decode cX6_least 22 = .ok (.iconst 0, 1) := by decide +kernel
theorem dX6_least_23 : decode cX6_least 23 = .ok (.istore 5, 2) := by decide +kernel
theorem dX6_least_25 : decode cX6_least 25 = .ok (.iload 5, 2) := by decide +kernel
theorem dX6_least_27 : decode cX6_least 27 = .ok (.aload_n 0, 1) := by decide +kernel
theorem dX6_least_28 : decode cX6_least 28 = .ok (.getfield 17, 3) := by decide +kernel
theorem dX6_least_31 : decode cX6_least 31 = .ok (.iconst 4, 1) := by decide +kernel
theorem dX6_least_32 : decode cX6_least 32 = .ok (.iaload, 1) := by decide +kernel
theorem dX6_least_33 : decode cX6_least 33 = .ok (.if_icmp .ge 99, 3) := by decide +kernel
theorem dX6_least_36 : decode cX6_least 36 = .ok (.aload_n 0, 1) := by decide +kernel
theorem dX6_least_37 : decode cX6_least 37 = .ok (.iload_n 1, 1) := by decide +kernel
theorem dX6_least_38 : decode cX6_least 38 = .ok (.iload 5, 2) := by decide +kernel
theorem dX6_least_40 : decode cX6_least 40 = .ok (.invokevirtual 271, 3) := by decide +kernel
theorem dX6_least_43 : decode cX6_least 43 = .ok (.istore 6, 2) := by decide +kernel
theorem dX6_least_45 : decode cX6_least 45 = .ok (.aload_n 0, 1) := by decide +kernel
theorem dX6_least_46 : decode cX6_least 46 = .ok (.iload_n 1, 1) := by decide +kernel
theorem dX6_least_47 : decode cX6_least 47 = .ok (.iload_n 2, 1) := by decide +kernel
theorem dX6_least_48 : decode cX6_least 48 = .ok (.iload_n 3, 1) := by decide +kernel
theorem dX6_least_49 : decode cX6_least 49 = .ok (.iload 5, 2) := by decide +kernel
theorem dX6_least_51 : decode cX6_least 51 = .ok (.invokevirtual 274, 3) := by decide +kernel
theorem dX6_least_54 : decode cX6_least 54 = .ok (.istore 7, 2) := by decide +kernel
theorem dX6_least_56 : decode cX6_least 56 = .ok (.iconst 0, 1) := by decide +kernel
theorem dX6_least_57 : decode cX6_least 57 = .ok (.istore 8, 2) := by decide +kernel
theorem dX6_least_59 : decode cX6_least 59 = .ok (.iload 8, 2) := by decide +kernel
theorem dX6_least_61 : decode cX6_least 61 = .ok (.aload_n 0, 1) := by decide +kernel
theorem dX6_least_62 : decode cX6_least 62 = .ok (.iload 6, 2) := by decide +kernel
theorem dX6_least_64 : decode cX6_least 64 = .ok (.iconst 2, 1) := by decide +kernel
theorem dX6_least_65 : decode cX6_least 65 = .ok (.invokevirtual 222, 3) := by decide +kernel
theorem dX6_least_68 : decode cX6_least 68 = .ok (.iload_n 3, 1) := by decide +kernel
theorem dX6_least_69 : decode cX6_least 69 = .ok (.invokestatic 261, 3) := by decide +kernel
theorem dX6_least_72 : decode cX6_least 72 = .ok (.if_icmp .gt 54, 3) := by decide +kernel
theorem dX6_least_75 : decode cX6_least 75 = .ok (.aload_n 0, 1) := by decide +kernel
theorem dX6_least_76 : decode cX6_least 76 = .ok (.iload_n 1, 1) := by decide +kernel
theorem dX6_least_77 : decode cX6_least 77 = .ok (.aload_n 0, 1) := by decide +kernel
theorem dX6_least_78 : decode cX6_least 78 = .ok (.iload_n 1, 1) := by decide +kernel
theorem dX6_least_79 : decode cX6_least 79 = .ok (.iconst 0, 1) := by decide +kernel
theorem dX6_least_80 : decode cX6_least 80 = .ok (.invokevirtual 241, 3) := by decide +kernel
theorem dX6_least_83 : decode cX6_least 83 = .ok (.iload 6, 2) := by decide +kernel
theorem dX6_least_85 : decode cX6_least 85 = .ok (.iload 7, 2) := by decide +kernel
theorem dX6_least_87 : decode cX6_least 87 = .ok (.iload 8, 2) := by decide +kernel
theorem dX6_least_89 : decode cX6_least 89 = .ok (.iadd, 1) := by decide +kernel
theorem dX6_least_90 : decode cX6_least 90 = .ok (.iload_n 3, 1) := by decide +kernel
theorem dX6_least_91 : decode cX6_least 91 = .ok (.invokevirtual 257, 3) := by decide +kernel
theorem dX6_least_94 : decode cX6_least 94 = .ok (.istore 9, 2) := by decide +kernel
theorem dX6_least_96 : decode cX6_least 96 = .ok (.iload 5, 2) := by decide +kernel
theorem dX6_least_98 : decode cX6_least 98 = .ok (.ifCond .ne 13, 3) := by decide +kernel
theorem dX6_least_101 : decode cX6_least 101 = .ok (.iload 8, 2) := by decide +kernel
theorem dX6_least_103 : decode cX6_least 103 = .ok (.ifCond .ne 8, 3) := by decide +kernel
theorem dX6_least_106 : decode cX6_least 106 = .ok (.iload 9, 2) := by decide +kernel
theorem dX6_least_108 : decode cX6_least 108 = .ok (.goto 10, 3) := by decide +kernel
theorem dX6_least_111 : decode cX6_least 111 = .ok (.iload 4, 2) := by decide +kernel
theorem dX6_least_113 : decode cX6_least 113 = .ok (.iload 9, 2) := by decide +kernel
theorem dX6_least_115 : decode cX6_least 115 = .ok (.invokestatic 116, 3) := by decide +kernel
theorem dX6_least_118 : decode cX6_least 118 = .ok (.istore 4, 2) := by decide +kernel
theorem dX6_least_120 : decode cX6_least 120 = .ok (.iinc 8 1, 3) := by decide +kernel
theorem dX6_least_123 : decode cX6_least 123 = .ok (.goto (-64), 3) := by decide +kernel
theorem dX6_least_126 : decode cX6_least 126 = .ok (.iinc 5 1, 3) := by decide +kernel
theorem dX6_least_129 : decode cX6_least 129 = .ok (.goto (-104), 3) := by decide +kernel
theorem dX6_least_132 : decode cX6_least 132 = .ok (.iload 4, 2) := by decide +kernel
theorem dX6_least_134 : decode cX6_least 134 = .ok (.ireturn, 1) := by decide +kernel
theorem dX6_deepest_0 : decode cX6_deepest 0 = .ok (.aload_n 0, 1) := by decide +kernel
theorem dX6_deepest_1 : decode cX6_deepest 1 = .ok (.iconst 0, 1) := by decide +kernel
theorem dX6_deepest_2 : decode cX6_deepest 2 = .ok (.putfield 1, 3) := by decide +kernel
theorem dX6_deepest_5 : decode cX6_deepest 5 = .ok (.aload_n 0, 1) := by decide +kernel
theorem dX6_deepest_6 : decode cX6_deepest 6 = .ok (.iload_n 1, 1) := by decide +kernel
theorem dX6_deepest_7 : decode cX6_deepest 7 = .ok (.iload_n 2, 1) := by decide +kernel
theorem dX6_deepest_8 : decode cX6_deepest 8 = .ok (.iload_n 3, 1) := by decide +kernel
theorem dX6_deepest_9 : decode cX6_deepest 9 = .ok (.invokevirtual 348, 3) := by decide +kernel
theorem dX6_deepest_12 : decode cX6_deepest 12 = .ok (.ifCond .ne 5, 3) := by decide +kernel
theorem dX6_deepest_15 : decode cX6_deepest 15 = .ok (.iconst 0, 1) := by decide +kernel
theorem dX6_deepest_16 : decode cX6_deepest 16 = .ok (.ireturn, 1) := by decide +kernel
theorem dX6_deepest_17 : decode cX6_deepest 17 = .ok (.sipush 2500, 3) := by decide +kernel
theorem dX6_deepest_20 : decode cX6_deepest 20 = .ok (.istore 4, 2) := by decide +kernel
theorem dX6_deepest_22 : decode cX6_deepest 22 = .ok (.iload 4, 2) := by decide +kernel
theorem dX6_deepest_24 : decode cX6_deepest 24 = .ok (.bipush 100, 2) := by decide +kernel
theorem dX6_deepest_26 : decode cX6_deepest 26 = .ok (.if_icmp .lt 24, 3) := by decide +kernel
theorem dX6_deepest_29 : decode cX6_deepest 29 = .ok (.aload_n 0, 1) := by decide +kernel
theorem dX6_deepest_30 : decode cX6_deepest 30 = .ok (.iload_n 1, 1) := by decide +kernel
theorem dX6_deepest_31 : decode cX6_deepest 31 = .ok (.iload 4, 2) := by decide +kernel
theorem dX6_deepest_33 : decode cX6_deepest 33 = .ok (.iload_n 2, 1) := by decide +kernel
theorem dX6_deepest_34 : decode cX6_deepest 34 = .ok (.iload_n 3, 1) := by decide +kernel
theorem dX6_deepest_35 : decode cX6_deepest 35 = .ok (.invokevirtual 280, 3) := by decide +kernel
theorem dX6_deepest_38 : decode cX6_deepest 38 = .ok (.ifCond .eq 6, 3) := by decide +kernel
theorem dX6_deepest_41 : decode cX6_deepest 41 = .ok (.iload 4, 2) := by decide +kernel
theorem dX6_deepest_43 : decode cX6_deepest 43 = .ok (.ireturn, 1) := by decide +kernel
theorem dX6_deepest_44 : decode cX6_deepest 44 = .ok (.iinc 4 (-1), 3) := by decide +kernel
theorem dX6_deepest_47 : decode cX6_deepest 47 = .ok (.goto (-25), 3) := by decide +kernel
theorem dX6_deepest_50 : decode cX6_deepest 50 = .ok (.iconst (-1), 1) := by decide +kernel
theorem dX6_deepest_51 : decode cX6_deepest 51 = .ok (.ireturn, 1) := by decide +kernel
theorem dX6_comesAhead_0 : decode cX6_comesAhead 0 = .ok (.aload_n 0, 1) := by decide +kernel
theorem dX6_comesAhead_1 : decode cX6_comesAhead 1 = .ok (.iload_n 1, 1) := by decide +kernel
theorem dX6_comesAhead_2 : decode cX6_comesAhead 2 = .ok (.iload_n 2, 1) := by decide +kernel
theorem dX6_comesAhead_3 : decode cX6_comesAhead 3 = .ok (.invokevirtual 268, 3) := by decide +kernel
theorem dX6_comesAhead_6 : decode cX6_comesAhead 6 = .ok (.iload_n 3, 1) := by decide +kernel
theorem dX6_comesAhead_7 : decode cX6_comesAhead 7 = .ok (.invokestatic 261, 3) := by decide +kernel
theorem dX6_comesAhead_10 : decode cX6_comesAhead 10 = .ok (.istore 4, 2) := by decide +kernel
theorem dX6_comesAhead_12 : decode cX6_comesAhead 12 = .ok (.aload_n 0, 1) := by decide +kernel
theorem dX6_comesAhead_13 : decode cX6_comesAhead 13 = .ok (.aload_n 0, 1) := by decide +kernel
theorem dX6_comesAhead_14 : decode cX6_comesAhead 14 = .ok (.iload_n 1, 1) := by decide +kernel
theorem dX6_comesAhead_15 : decode cX6_comesAhead 15 = .ok (.iload_n 2, 1) := by decide +kernel
theorem dX6_comesAhead_16 : decode cX6_comesAhead 16 = .ok (.invokevirtual 271, 3) := by decide +kernel
theorem dX6_comesAhead_19 : decode cX6_comesAhead 19 = .ok (.iconst 5, 1) := by decide +kernel
theorem dX6_comesAhead_20 : decode cX6_comesAhead 20 = .ok (.invokevirtual 222, 3) := by decide +kernel
theorem dX6_comesAhead_23 : decode cX6_comesAhead 23 = .ok (.iconst 1, 1) := by decide +kernel
theorem dX6_comesAhead_24 : decode cX6_comesAhead 24 = .ok (.if_icmp .ne 7, 3) := by decide +kernel
theorem dX6_comesAhead_27 : decode cX6_comesAhead 27 = .ok (.iconst 1, 1) := by decide +kernel
theorem dX6_comesAhead_28 : decode cX6_comesAhead 28 = .ok (.goto 4, 3) := by decide +kernel
theorem dX6_comesAhead_31 : decode cX6_comesAhead 31 = .ok (.iconst 0, 1) := by decide +kernel
theorem dX6_comesAhead_32 : decode cX6_comesAhead 32 = .ok (.istore 5, 2) := by decide +kernel
theorem dX6_comesAhead_34 : decode cX6_comesAhead 34 = .ok (.iconst 0, 1) := by decide +kernel
theorem dX6_comesAhead_35 : decode cX6_comesAhead 35 = .ok (.istore 6, 2) := by decide +kernel
theorem dX6_comesAhead_37 : decode cX6_comesAhead 37 = .ok (.iload 6, 2) := by decide +kernel
theorem dX6_comesAhead_39 : decode cX6_comesAhead 39 = .ok (.sipush 1000, 3) := by decide +kernel
theorem dX6_comesAhead_42 : decode cX6_comesAhead 42 = .ok (.if_icmp .gt 63, 3) := by decide +kernel
theorem dX6_comesAhead_45 : decode cX6_comesAhead 45 = .ok (.aload_n 0, 1) := by decide +kernel
theorem dX6_comesAhead_46 : decode cX6_comesAhead 46 = .ok (.getfield 50, 3) := by decide +kernel
theorem dX6_comesAhead_49 : decode cX6_comesAhead 49 = .ok (.iload 6, 2) := by decide +kernel
theorem dX6_comesAhead_51 : decode cX6_comesAhead 51 = .ok (.iload 6, 2) := by decide +kernel
theorem dX6_comesAhead_53 : decode cX6_comesAhead 53 = .ok (.iload 4, 2) := by decide +kernel
theorem dX6_comesAhead_55 : decode cX6_comesAhead 55 = .ok (.if_icmp .lt 16, 3) := by decide +kernel
theorem dX6_comesAhead_58 : decode cX6_comesAhead 58 = .ok (.aload_n 0, 1) := by decide +kernel
theorem dX6_comesAhead_59 : decode cX6_comesAhead 59 = .ok (.getfield 44, 3) := by decide +kernel
theorem dX6_comesAhead_62 : decode cX6_comesAhead 62 = .ok (.iload 6, 2) := by decide +kernel
theorem dX6_comesAhead_64 : decode cX6_comesAhead 64 = .ok (.iload 4, 2) := by decide +kernel
theorem dX6_comesAhead_66 : decode cX6_comesAhead 66 = .ok (.isub, 1) := by decide +kernel
theorem dX6_comesAhead_67 : decode cX6_comesAhead 67 = .ok (.baload, 1) := by decide +kernel
theorem dX6_comesAhead_68 : decode cX6_comesAhead 68 = .ok (.ifCond .ne 25, 3) := by decide +kernel
theorem dX6_comesAhead_71 : decode cX6_comesAhead 71 = .ok (.iload 5, 2) := by decide +kernel
theorem dX6_comesAhead_73 : decode cX6_comesAhead 73 = .ok (.ifCond .eq 24, 3) := by decide +kernel
theorem dX6_comesAhead_76 : decode cX6_comesAhead 76 = .ok (.iload 6, 2) := by decide +kernel
theorem dX6_comesAhead_78 : decode cX6_comesAhead 78 = .ok (.ifCond .le 19, 3) := by decide +kernel
theorem dX6_comesAhead_81 : decode cX6_comesAhead 81 = .ok (.aload_n 0, 1) := by decide +kernel
theorem dX6_comesAhead_82 : decode cX6_comesAhead 82 = .ok (.getfield 50, 3) := by decide +kernel
theorem dX6_comesAhead_85 : decode cX6_comesAhead 85 = .ok (.iload 6, 2) := by decide +kernel
theorem dX6_comesAhead_87 : decode cX6_comesAhead 87 = .ok (.iconst 1, 1) := by decide +kernel
theorem dX6_comesAhead_88 : decode cX6_comesAhead 88 = .ok (.isub, 1) := by decide +kernel
theorem dX6_comesAhead_89 : decode cX6_comesAhead 89 = .ok (.baload, 1) := by decide +kernel
theorem dX6_comesAhead_90 : decode cX6_comesAhead 90 = .ok (.ifCond .eq 7, 3) := by decide +kernel
theorem dX6_comesAhead_93 : decode cX6_comesAhead 93 = .ok (.iconst 1, 1) := by decide +kernel
theorem dX6_comesAhead_94 : decode cX6_comesAhead 94 = .ok (.goto 4, 3) := by decide +kernel
theorem dX6_comesAhead_97 : decode cX6_comesAhead 97 = .ok (.iconst 0, 1) := by decide +kernel
theorem dX6_comesAhead_98 : decode cX6_comesAhead 98 = .ok (.bastore, 1) := by decide +kernel
theorem dX6_comesAhead_99 : decode cX6_comesAhead 99 = .ok (.iinc 6 1, 3) := by decide +kernel
theorem dX6_comesAhead_102 : decode cX6_comesAhead 102 = .ok (.goto (-65), 3) := by decide +kernel
theorem dX6_comesAhead_105 : decode cX6_comesAhead 105 = .ok (.return_, 1) := by decide +kernel
theorem dX6_goesOn_0 : decode cX6_goesOn 0 = .ok (.aload_n 0, 1) := by decide +kernel
theorem dX6_goesOn_1 : decode cX6_goesOn 1 = .ok (.iload_n 1, 1) := by decide +kernel
theorem dX6_goesOn_2 : decode cX6_goesOn 2 = .ok (.iload_n 3, 1) := by decide +kernel
theorem dX6_goesOn_3 : decode cX6_goesOn 3 = .ok (.invokevirtual 271, 3) := by decide +kernel
theorem dX6_goesOn_6 : decode cX6_goesOn 6 = .ok (.istore 5, 2) := by decide +kernel
theorem dX6_goesOn_8 : decode cX6_goesOn 8 = .ok (.aload_n 0, 1) := by decide +kernel
theorem dX6_goesOn_9 : decode cX6_goesOn 9 = .ok (.iload 5, 2) := by decide +kernel
theorem dX6_goesOn_11 : decode cX6_goesOn 11 = .ok (.iconst 2, 1) := by decide +kernel
theorem dX6_goesOn_12 : decode cX6_goesOn 12 = .ok (.invokevirtual 222, 3) := by decide +kernel
theorem dX6_goesOn_15 : decode cX6_goesOn 15 = .ok (.iload 4, 2) := by decide +kernel
theorem dX6_goesOn_17 : decode cX6_goesOn 17 = .ok (.invokestatic 261, 3) := by decide +kernel
theorem dX6_goesOn_20 : decode cX6_goesOn 20 = .ok (.istore 6, 2) := by decide +kernel
theorem dX6_goesOn_22 : decode cX6_goesOn 22 = .ok (.aload_n 0, 1) := by decide +kernel
theorem dX6_goesOn_23 : decode cX6_goesOn 23 = .ok (.iload_n 1, 1) := by decide +kernel
theorem dX6_goesOn_24 : decode cX6_goesOn 24 = .ok (.iload_n 3, 1) := by decide +kernel
theorem dX6_goesOn_25 : decode cX6_goesOn 25 = .ok (.iload 4, 2) := by decide +kernel
theorem dX6_goesOn_27 : decode cX6_goesOn 27 = .ok (.invokevirtual 352, 3) := by decide +kernel
theorem dX6_goesOn_30 : decode cX6_goesOn 30 = .ok (.iconst 0, 1) := by decide +kernel
theorem dX6_goesOn_31 : decode cX6_goesOn 31 = .ok (.istore 7, 2) := by decide +kernel
theorem dX6_goesOn_33 : decode cX6_goesOn 33 = .ok (.iload 7, 2) := by decide +kernel
theorem dX6_goesOn_35 : decode cX6_goesOn 35 = .ok (.iload 6, 2) := by decide +kernel
theorem dX6_goesOn_37 : decode cX6_goesOn 37 = .ok (.iadd, 1) := by decide +kernel
theorem dX6_goesOn_38 : decode cX6_goesOn 38 = .ok (.sipush 1000, 3) := by decide +kernel
theorem dX6_goesOn_41 : decode cX6_goesOn 41 = .ok (.if_icmp .gt 65, 3) := by decide +kernel
theorem dX6_goesOn_44 : decode cX6_goesOn 44 = .ok (.aload_n 0, 1) := by decide +kernel
theorem dX6_goesOn_45 : decode cX6_goesOn 45 = .ok (.getfield 50, 3) := by decide +kernel
theorem dX6_goesOn_48 : decode cX6_goesOn 48 = .ok (.iload 7, 2) := by decide +kernel
theorem dX6_goesOn_50 : decode cX6_goesOn 50 = .ok (.baload, 1) := by decide +kernel
theorem dX6_goesOn_51 : decode cX6_goesOn 51 = .ok (.ifCond .eq 49, 3) := by decide +kernel
theorem dX6_goesOn_54 : decode cX6_goesOn 54 = .ok (.aload_n 0, 1) := by decide +kernel
theorem dX6_goesOn_55 : decode cX6_goesOn 55 = .ok (.getfield 47, 3) := by decide +kernel
theorem dX6_goesOn_58 : decode cX6_goesOn 58 = .ok (.iload 7, 2) := by decide +kernel
theorem dX6_goesOn_60 : decode cX6_goesOn 60 = .ok (.iload 6, 2) := by decide +kernel
theorem dX6_goesOn_62 : decode cX6_goesOn 62 = .ok (.iadd, 1) := by decide +kernel
theorem dX6_goesOn_63 : decode cX6_goesOn 63 = .ok (.baload, 1) := by decide +kernel
theorem dX6_goesOn_64 : decode cX6_goesOn 64 = .ok (.ifCond .ne 36, 3) := by decide +kernel
theorem dX6_goesOn_67 : decode cX6_goesOn 67 = .ok (.aload_n 0, 1) := by decide +kernel
theorem dX6_goesOn_68 : decode cX6_goesOn 68 = .ok (.iload_n 1, 1) := by decide +kernel
theorem dX6_goesOn_69 : decode cX6_goesOn 69 = .ok (.aload_n 0, 1) := by decide +kernel
theorem dX6_goesOn_70 : decode cX6_goesOn 70 = .ok (.iload_n 1, 1) := by decide +kernel
theorem dX6_goesOn_71 : decode cX6_goesOn 71 = .ok (.iconst 0, 1) := by decide +kernel
theorem dX6_goesOn_72 : decode cX6_goesOn 72 = .ok (.invokevirtual 241, 3) := by decide +kernel
theorem dX6_goesOn_75 : decode cX6_goesOn 75 = .ok (.iload 5, 2) := by decide +kernel
theorem dX6_goesOn_77 : decode cX6_goesOn 77 = .ok (.iload_n 2, 1) := by decide +kernel
theorem dX6_goesOn_78 : decode cX6_goesOn 78 = .ok (.iload 7, 2) := by decide +kernel
theorem dX6_goesOn_80 : decode cX6_goesOn 80 = .ok (.iadd, 1) := by decide +kernel
theorem dX6_goesOn_81 : decode cX6_goesOn 81 = .ok (.iload 4, 2) := by decide +kernel
theorem dX6_goesOn_83 : decode cX6_goesOn 83 = .ok (.invokevirtual 277, 3) := by decide +kernel
theorem dX6_goesOn_86 : decode cX6_goesOn 86 = .ok (.ifCond .eq 14, 3) := by decide +kernel
theorem dX6_goesOn_89 : decode cX6_goesOn 89 = .ok (.aload_n 0, 1) := by decide +kernel
theorem dX6_goesOn_90 : decode cX6_goesOn 90 = .ok (.getfield 47, 3) := by decide +kernel
theorem dX6_goesOn_93 : decode cX6_goesOn 93 = .ok (.iload 7, 2) := by decide +kernel
theorem dX6_goesOn_95 : decode cX6_goesOn 95 = .ok (.iload 6, 2) := by decide +kernel
theorem dX6_goesOn_97 : decode cX6_goesOn 97 = .ok (.iadd, 1) := by decide +kernel
theorem dX6_goesOn_98 : decode cX6_goesOn 98 = .ok (.iconst 1, 1) := by decide +kernel
theorem dX6_goesOn_99 : decode cX6_goesOn 99 = .ok (.bastore, 1) := by decide +kernel
theorem dX6_goesOn_100 : decode cX6_goesOn 100 = .ok (.iinc 7 1, 3) := by decide +kernel
theorem dX6_goesOn_103 : decode cX6_goesOn 103 = .ok (.goto (-70), 3) := by decide +kernel
theorem dX6_goesOn_106 : decode cX6_goesOn 106 = .ok (.return_, 1) := by decide +kernel
theorem dX6_soonest_0 : decode cX6_soonest 0 = .ok (.aload_n 0, 1) := by decide +kernel
theorem dX6_soonest_1 : decode cX6_soonest 1 = .ok (.iconst 0, 1) := by decide +kernel
theorem dX6_soonest_2 : decode cX6_soonest 2 = .ok (.putfield 1, 3) := by decide +kernel
theorem dX6_soonest_5 : decode cX6_soonest 5 = .ok (.aload_n 0, 1) := by decide +kernel
theorem dX6_soonest_6 : decode cX6_soonest 6 = .ok (.aload_n 0, 1) := by decide +kernel
theorem dX6_soonest_7 : decode cX6_soonest 7 = .ok (.iload_n 1, 1) := by decide +kernel
theorem dX6_soonest_8 : decode cX6_soonest 8 = .ok (.invokevirtual 300, 3) := by decide +kernel
theorem dX6_soonest_11 : decode cX6_soonest 11 = .ok (.iconst 1, 1) := by decide +kernel
theorem dX6_soonest_12 : decode cX6_soonest 12 = .ok (.iconst 0, 1) := by decide +kernel
theorem dX6_soonest_13 : decode cX6_soonest 13 = .ok (.invokevirtual 196, 3) := by decide +kernel
theorem dX6_soonest_16 : decode cX6_soonest 16 = .ok (.ifCond .eq 16, 3) := by decide +kernel
theorem dX6_soonest_19 : decode cX6_soonest 19 = .ok (.aload_n 0, 1) := by decide +kernel
theorem dX6_soonest_20 : decode cX6_soonest 20 = .ok (.iload_n 2, 1) := by decide +kernel
theorem dX6_soonest_21 : decode cX6_soonest 21 = .ok (.invokestatic 336, 3) := by decide +kernel
theorem dX6_soonest_24 : decode cX6_soonest 24 = .ok (.iconst 2, 1) := by decide +kernel
theorem dX6_soonest_25 : decode cX6_soonest 25 = .ok (.iconst 1, 1) := by decide +kernel
theorem dX6_soonest_26 : decode cX6_soonest 26 = .ok (.invokevirtual 196, 3) := by decide +kernel
theorem dX6_soonest_29 : decode cX6_soonest 29 = .ok (.ifCond .ne 5, 3) := by decide +kernel
theorem dX6_soonest_32 : decode cX6_soonest 32 = .ok (.iconst 0, 1) := by decide +kernel
theorem dX6_soonest_33 : decode cX6_soonest 33 = .ok (.ireturn, 1) := by decide +kernel
theorem dX6_soonest_34 : decode cX6_soonest 34 = .ok (.iconst 0, 1) := by decide +kernel
theorem dX6_soonest_35 : decode cX6_soonest 35 = .ok (.istore_n 3, 1) := by decide +kernel
theorem dX6_soonest_36 : decode cX6_soonest 36 = .ok (.iload_n 3, 1) := by decide +kernel
theorem dX6_soonest_37 : decode cX6_soonest 37 = .ok (.sipush 1000, 3) := by decide +kernel
theorem dX6_soonest_40 : decode cX6_soonest 40 = .ok (.if_icmp .gt 24, 3) := by decide +kernel
theorem dX6_soonest_43 : decode cX6_soonest 43 = .ok (.aload_n 0, 1) := by decide +kernel
theorem dX6_soonest_44 : decode cX6_soonest 44 = .ok (.getfield 44, 3) := by decide +kernel
theorem dX6_soonest_47 : decode cX6_soonest 47 = .ok (.iload_n 3, 1) := by decide +kernel
theorem dX6_soonest_48 : decode cX6_soonest 48 = .ok (.iload_n 3, 1) := by decide +kernel
theorem dX6_soonest_49 : decode cX6_soonest 49 = .ok (.ifCond .ne 7, 3) := by decide +kernel
theorem dX6_soonest_52 : decode cX6_soonest 52 = .ok (.iconst 1, 1) := by decide +kernel
theorem dX6_soonest_53 : decode cX6_soonest 53 = .ok (.goto 4, 3) := by decide +kernel
theorem dX6_soonest_56 : decode cX6_soonest 56 = .ok (.iconst 0, 1) := by decide +kernel
theorem dX6_soonest_57 : decode cX6_soonest 57 = .ok (.bastore, 1) := by decide +kernel
theorem dX6_soonest_58 : decode cX6_soonest 58 = .ok (.iinc 3 1, 3) := by decide +kernel
theorem dX6_soonest_61 : decode cX6_soonest 61 = .ok (.goto (-25), 3) := by decide +kernel
theorem dX6_soonest_64 : decode cX6_soonest 64 = .ok (.iconst 0, 1) := by decide +kernel
theorem dX6_soonest_65 : decode cX6_soonest 65 = .ok (.istore_n 3, 1) := by decide +kernel
theorem dX6_soonest_66 : decode cX6_soonest 66 = .ok (.iload_n 3, 1) := by decide +kernel
theorem dX6_soonest_67 : decode cX6_soonest 67 = .ok (.aload_n 0, 1) := by decide +kernel
theorem dX6_soonest_68 : decode cX6_soonest 68 = .ok (.getfield 17, 3) := by decide +kernel
theorem dX6_soonest_71 : decode cX6_soonest 71 = .ok (.iconst 4, 1) := by decide +kernel
theorem dX6_soonest_72 : decode cX6_soonest 72 = .ok (.iaload, 1) := by decide +kernel
theorem dX6_soonest_73 : decode cX6_soonest 73 = .ok (.if_icmp .ge 99, 3) := by decide +kernel
theorem dX6_soonest_76 : decode cX6_soonest 76 = .ok (.iconst 0, 1) := by decide +kernel
theorem dX6_soonest_77 : decode cX6_soonest 77 = .ok (.istore 4, 2) := by decide +kernel
theorem dX6_soonest_79 : decode cX6_soonest 79 = .ok (.iload 4, 2) := by decide +kernel
theorem dX6_soonest_81 : decode cX6_soonest 81 = .ok (.sipush 1000, 3) := by decide +kernel
theorem dX6_soonest_84 : decode cX6_soonest 84 = .ok (.if_icmp .gt 17, 3) := by decide +kernel
theorem dX6_soonest_87 : decode cX6_soonest 87 = .ok (.aload_n 0, 1) := by decide +kernel
theorem dX6_soonest_88 : decode cX6_soonest 88 = .ok (.getfield 47, 3) := by decide +kernel
theorem dX6_soonest_91 : decode cX6_soonest 91 = .ok (.iload 4, 2) := by decide +kernel
theorem dX6_soonest_93 : decode cX6_soonest 93 = .ok (.iconst 0, 1) := by decide +kernel
theorem dX6_soonest_94 : decode cX6_soonest 94 = .ok (.bastore, 1) := by decide +kernel
theorem dX6_soonest_95 : decode cX6_soonest 95 = .ok (.iinc 4 1, 3) := by decide +kernel
theorem dX6_soonest_98 : decode cX6_soonest 98 = .ok (.goto (-19), 3) := by decide +kernel
theorem dX6_soonest_101 : decode cX6_soonest 101 = .ok (.aload_n 0, 1) := by decide +kernel
theorem dX6_soonest_102 : decode cX6_soonest 102 = .ok (.iload_n 1, 1) := by decide +kernel
theorem dX6_soonest_103 : decode cX6_soonest 103 = .ok (.iconst 3, 1) := by decide +kernel
theorem dX6_soonest_104 : decode cX6_soonest 104 = .ok (.invokevirtual 241, 3) := by decide +kernel
theorem dX6_soonest_107 : decode cX6_soonest 107 = .ok (.istore 4, 2) := by decide +kernel
theorem dX6_soonest_109 : decode cX6_soonest 109 = .ok (.iload 4, 2) := by decide +kernel
theorem dX6_soonest_111 : decode cX6_soonest 111 = .ok (.aload_n 0, 1) := by decide +kernel
theorem dX6_soonest_112 : decode cX6_soonest 112 = .ok (.iload_n 1, 1) := by decide +kernel
theorem dX6_soonest_113 : decode cX6_soonest 113 = .ok (.iconst 4, 1) := by decide +kernel
theorem dX6_soonest_114 : decode cX6_soonest 114 = .ok (.invokevirtual 241, 3) := by decide +kernel
theorem dX6_soonest_117 : decode cX6_soonest 117 = .ok (.if_icmp .gt 18, 3) := by decide +kernel
theorem dX6_soonest_120 : decode cX6_soonest 120 = .ok (.aload_n 0, 1) := by decide +kernel
theorem dX6_soonest_121 : decode cX6_soonest 121 = .ok (.iload_n 1, 1) := by decide +kernel
theorem dX6_soonest_122 : decode cX6_soonest 122 = .ok (.iload_n 2, 1) := by decide +kernel
theorem dX6_soonest_123 : decode cX6_soonest 123 = .ok (.iload_n 3, 1) := by decide +kernel
theorem dX6_soonest_124 : decode cX6_soonest 124 = .ok (.iload 4, 2) := by decide +kernel
theorem dX6_soonest_126 : decode cX6_soonest 126 = .ok (.invokevirtual 356, 3) := by decide +kernel
theorem dX6_soonest_129 : decode cX6_soonest 129 = .ok (.iinc 4 1, 3) := by decide +kernel
theorem dX6_soonest_132 : decode cX6_soonest 132 = .ok (.goto (-23), 3) := by decide +kernel
theorem dX6_soonest_135 : decode cX6_soonest 135 = .ok (.iconst 0, 1) := by decide +kernel
theorem dX6_soonest_136 : decode cX6_soonest 136 = .ok (.istore 4, 2) := by decide +kernel
theorem dX6_soonest_138 : decode cX6_soonest 138 = .ok (.iload 4, 2) := by decide +kernel
theorem dX6_soonest_140 : decode cX6_soonest 140 = .ok (.sipush 1000, 3) := by decide +kernel
theorem dX6_soonest_143 : decode cX6_soonest 143 = .ok (.if_icmp .gt 23, 3) := by decide +kernel
theorem dX6_soonest_146 : decode cX6_soonest 146 = .ok (.aload_n 0, 1) := by decide +kernel
theorem dX6_soonest_147 : decode cX6_soonest 147 = .ok (.getfield 44, 3) := by decide +kernel
theorem dX6_soonest_150 : decode cX6_soonest 150 = .ok (.iload 4, 2) := by decide +kernel
theorem dX6_soonest_152 : decode cX6_soonest 152 = .ok (.aload_n 0, 1) := by decide +kernel
theorem dX6_soonest_153 : decode cX6_soonest 153 = .ok (.getfield 47, 3) := by decide +kernel
theorem dX6_soonest_156 : decode cX6_soonest 156 = .ok (.iload 4, 2) := by decide +kernel
theorem dX6_soonest_158 : decode cX6_soonest 158 = .ok (.baload, 1) := by decide +kernel
theorem dX6_soonest_159 : decode cX6_soonest 159 = .ok (.bastore, 1) := by decide +kernel
theorem dX6_soonest_160 : decode cX6_soonest 160 = .ok (.iinc 4 1, 3) := by decide +kernel
theorem dX6_soonest_163 : decode cX6_soonest 163 = .ok (.goto (-25), 3) := by decide +kernel
theorem dX6_soonest_166 : decode cX6_soonest 166 = .ok (.iinc 3 1, 3) := by decide +kernel
theorem dX6_soonest_169 : decode cX6_soonest 169 = .ok (.goto (-103), 3) := by decide +kernel
theorem dX6_soonest_172 : decode cX6_soonest 172 = .ok (.iconst 0, 1) := by decide +kernel
theorem dX6_soonest_173 : decode cX6_soonest 173 = .ok (.istore_n 3, 1) := by decide +kernel
theorem dX6_soonest_174 : decode cX6_soonest 174 = .ok (.iload_n 3, 1) := by decide +kernel
theorem dX6_soonest_175 : decode cX6_soonest 175 = .ok (.sipush 1000, 3) := by decide +kernel
theorem dX6_soonest_178 : decode cX6_soonest 178 = .ok (.if_icmp .gt 22, 3) := by decide +kernel
theorem dX6_soonest_181 : decode cX6_soonest 181 = .ok (.aload_n 0, 1) := by decide +kernel
theorem dX6_soonest_182 : decode cX6_soonest 182 = .ok (.getfield 44, 3) := by decide +kernel
theorem dX6_soonest_185 : decode cX6_soonest 185 = .ok (.iload_n 3, 1) := by decide +kernel
theorem dX6_soonest_186 : decode cX6_soonest 186 = .ok (.baload, 1) := by decide +kernel
theorem dX6_soonest_187 : decode cX6_soonest 187 = .ok (.ifCond .eq 7, 3) := by decide +kernel
theorem dX6_soonest_190 : decode cX6_soonest 190 = .ok (.iload_n 2, 1) := by decide +kernel
theorem dX6_soonest_191 : decode cX6_soonest 191 = .ok (.iload_n 3, 1) := by decide +kernel
theorem dX6_soonest_192 : decode cX6_soonest 192 = .ok (.iadd, 1) := by decide +kernel
theorem dX6_soonest_193 : decode cX6_soonest 193 = .ok (.ireturn, 1) := by decide +kernel
theorem dX6_soonest_194 : decode cX6_soonest 194 = .ok (.iinc 3 1, 3) := by decide +kernel
theorem dX6_soonest_197 : decode cX6_soonest 197 = .ok (.goto (-23), 3) := by decide +kernel
theorem dX6_soonest_200 : decode cX6_soonest 200 = .ok (.iconst (-1), 1) := by decide +kernel
theorem dX6_soonest_201 : decode cX6_soonest 201 = .ok (.ireturn, 1) := by decide +kernel
theorem dX6_isSet_0 : decode cX6_isSet 0 = .ok (.iload_n 1, 1) := by decide +kernel
theorem dX6_isSet_1 : decode cX6_isSet 1 = .ok (.i2l, 1) := by decide +kernel
theorem dX6_isSet_2 : decode cX6_isSet 2 = .ok (.lconst 1, 1) := by decide +kernel
theorem dX6_isSet_3 : decode cX6_isSet 3 = .ok (.iconst 1, 1) := by decide +kernel
theorem dX6_isSet_4 : decode cX6_isSet 4 = .ok (.aload_n 0, 1) := by decide +kernel
theorem dX6_isSet_5 : decode cX6_isSet 5 = .ok (.getfield 17, 3) := by decide +kernel
theorem dX6_isSet_8 : decode cX6_isSet 8 = .ok (.iconst 5, 1) := by decide +kernel
theorem dX6_isSet_9 : decode cX6_isSet 9 = .ok (.iaload, 1) := by decide +kernel
theorem dX6_isSet_10 : decode cX6_isSet 10 = .ok (.ishl, 1) := by decide +kernel
theorem dX6_isSet_11 : decode cX6_isSet 11 = .ok (.iconst 1, 1) := by decide +kernel
theorem dX6_isSet_12 : decode cX6_isSet 12 = .ok (.isub, 1) := by decide +kernel
theorem dX6_isSet_13 : decode cX6_isSet 13 = .ok (.i2l, 1) := by decide +kernel
theorem dX6_isSet_14 : decode cX6_isSet 14 = .ok (.invokestatic 122, 3) := by decide +kernel
theorem dX6_isSet_17 : decode cX6_isSet 17 = .ok (.ireturn, 1) := by decide +kernel
theorem dX6_laysGoods_0 : decode cX6_laysGoods 0 = .ok (.aload_n 0, 1) := by decide +kernel
theorem dX6_laysGoods_1 : decode cX6_laysGoods 1 = .ok (.iconst 0, 1) := by decide +kernel
theorem dX6_laysGoods_2 : decode cX6_laysGoods 2 = .ok (.putfield 360, 3) := by decide +kernel
theorem dX6_laysGoods_5 : decode cX6_laysGoods 5 = .ok (.iconst 0, 1) := by decide +kernel
theorem dX6_laysGoods_6 : decode cX6_laysGoods 6 = .ok (.istore 4, 2) := by decide +kernel
theorem dX6_laysGoods_8 : decode cX6_laysGoods 8 = .ok (.iload 4, 2) := by decide +kernel
theorem dX6_laysGoods_10 : decode cX6_laysGoods 10 = .ok (.aload_n 0, 1) := by decide +kernel
theorem dX6_laysGoods_11 : decode cX6_laysGoods 11 = .ok (.getfield 17, 3) := by decide +kernel
theorem dX6_laysGoods_14 : decode cX6_laysGoods 14 = .ok (.iconst 5, 1) := by decide +kernel
