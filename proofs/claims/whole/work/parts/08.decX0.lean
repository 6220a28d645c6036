theorem dX0_init_0 : decode cX0_init 0 = .ok (.aload_n 0, 1) := by decide +kernel
theorem dX0_init_1 : decode cX0_init 1 = .ok (.invokespecial 3, 3) := by decide +kernel
theorem dX0_init_4 : decode cX0_init 4 = .ok (.aload_n 0, 1) := by decide +kernel
theorem dX0_init_5 : decode cX0_init 5 = .ok (.bipush 15, 2) := by decide +kernel
theorem dX0_init_7 : decode cX0_init 7 = .ok (.putfield 9, 3) := by decide +kernel
theorem dX0_init_10 : decode cX0_init 10 = .ok (.aload_n 0, 1) := by decide +kernel
theorem dX0_init_11 : decode cX0_init 11 = .ok (.bipush 18, 2) := by decide +kernel
theorem dX0_init_13 : decode cX0_init 13 = .ok (.newarray .int, 2) := by decide +kernel
theorem dX0_init_15 : decode cX0_init 15 = .ok (.putfield 15, 3) := by decide +kernel
theorem dX0_init_18 : decode cX0_init 18 = .ok (.aload_n 0, 1) := by decide +kernel
theorem dX0_init_19 : decode cX0_init 19 = .ok (.bipush 36, 2) := by decide +kernel
theorem dX0_init_21 : decode cX0_init 21 = .ok (.newarray .int, 2) := by decide +kernel
theorem dX0_init_23 : decode cX0_init 23 = .ok (.putfield 19, 3) := by decide +kernel
theorem dX0_init_26 : decode cX0_init 26 = .ok (.aload_n 0, 1) := by decide +kernel
theorem dX0_init_27 : decode cX0_init 27 = .ok (.bipush 48, 2) := by decide +kernel
theorem dX0_init_29 : decode cX0_init 29 = .ok (.newarray .int, 2) := by decide +kernel
theorem dX0_init_31 : decode cX0_init 31 = .ok (.putfield 22, 3) := by decide +kernel
theorem dX0_init_34 : decode cX0_init 34 = .ok (.aload_n 0, 1) := by decide +kernel
theorem dX0_init_35 : decode cX0_init 35 = .ok (.getstatic 25, 3) := by decide +kernel
theorem dX0_init_38 : decode cX0_init 38 = .ok (.putfield 28, 3) := by decide +kernel
theorem dX0_init_41 : decode cX0_init 41 = .ok (.return_, 1) := by decide +kernel
theorem dX0_clear_0 : decode cX0_clear 0 = .ok (.aload_n 0, 1) := by decide +kernel
theorem dX0_clear_1 : decode cX0_clear 1 = .ok (.iconst 0, 1) := by decide +kernel
theorem dX0_clear_2 : decode cX0_clear 2 = .ok (.putfield 31, 3) := by decide +kernel
theorem dX0_clear_5 : decode cX0_clear 5 = .ok (.aload_n 0, 1) := by decide +kernel
theorem dX0_clear_6 : decode cX0_clear 6 = .ok (.bipush 15, 2) := by decide +kernel
theorem dX0_clear_8 : decode cX0_clear 8 = .ok (.putfield 9, 3) := by decide +kernel
theorem dX0_clear_11 : decode cX0_clear 11 = .ok (.aload_n 0, 1) := by decide +kernel
theorem dX0_clear_12 : decode cX0_clear 12 = .ok (.iconst 0, 1) := by decide +kernel
theorem dX0_clear_13 : decode cX0_clear 13 = .ok (.putfield 34, 3) := by decide +kernel
theorem dX0_clear_16 : decode cX0_clear 16 = .ok (.aload_n 0, 1) := by decide +kernel
theorem dX0_clear_17 : decode cX0_clear 17 = .ok (.iconst 0, 1) := by decide +kernel
theorem dX0_clear_18 : decode cX0_clear 18 = .ok (.putfield 37, 3) := by decide +kernel
theorem dX0_clear_21 : decode cX0_clear 21 = .ok (.aload_n 0, 1) := by decide +kernel
theorem dX0_clear_22 : decode cX0_clear 22 = .ok (.iconst 0, 1) := by decide +kernel
theorem dX0_clear_23 : decode cX0_clear 23 = .ok (.putfield 40, 3) := by decide +kernel
theorem dX0_clear_26 : decode cX0_clear 26 = .ok (.aload_n 0, 1) := by decide +kernel
theorem dX0_clear_27 : decode cX0_clear 27 = .ok (.iconst 0, 1) := by decide +kernel
theorem dX0_clear_28 : decode cX0_clear 28 = .ok (.putfield 43, 3) := by decide +kernel
theorem dX0_clear_31 : decode cX0_clear 31 = .ok (.aload_n 0, 1) := by decide +kernel
theorem dX0_clear_32 : decode cX0_clear 32 = .ok (.getstatic 25, 3) := by decide +kernel
theorem dX0_clear_35 : decode cX0_clear 35 = .ok (.putfield 28, 3) := by decide +kernel
theorem dX0_clear_38 : decode cX0_clear 38 = .ok (.aload_n 0, 1) := by decide +kernel
theorem dX0_clear_39 : decode cX0_clear 39 = .ok (.iconst 0, 1) := by decide +kernel
theorem dX0_clear_40 : decode cX0_clear 40 = .ok (.putfield 46, 3) := by decide +kernel
theorem dX0_clear_43 : decode cX0_clear 43 = .ok (.return_, 1) := by decide +kernel
theorem dX0_copyFrom_0 : decode cX0_copyFrom 0 = .ok (.aload_n 0, 1) := by decide +kernel
theorem dX0_copyFrom_1 : decode cX0_copyFrom 1 = .ok (.aload_n 1, 1) := by decide +kernel
theorem dX0_copyFrom_2 : decode cX0_copyFrom 2 = .ok (.getfield 31, 3) := by decide +kernel
theorem dX0_copyFrom_5 : decode cX0_copyFrom 5 = .ok (.putfield 31, 3) := by decide +kernel
theorem dX0_copyFrom_8 : decode cX0_copyFrom 8 = .ok (.aload_n 0, 1) := by decide +kernel
theorem dX0_copyFrom_9 : decode cX0_copyFrom 9 = .ok (.aload_n 1, 1) := by decide +kernel
theorem dX0_copyFrom_10 : decode cX0_copyFrom 10 = .ok (.getfield 9, 3) := by decide +kernel
theorem dX0_copyFrom_13 : decode cX0_copyFrom 13 = .ok (.putfield 9, 3) := by decide +kernel
theorem dX0_copyFrom_16 : decode cX0_copyFrom 16 = .ok (.aload_n 0, 1) := by decide +kernel
theorem dX0_copyFrom_17 : decode cX0_copyFrom 17 = .ok (.aload_n 1, 1) := by decide +kernel
theorem dX0_copyFrom_18 : decode cX0_copyFrom 18 = .ok (.getfield 34, 3) := by decide +kernel
theorem dX0_copyFrom_21 : decode cX0_copyFrom 21 = .ok (.putfield 34, 3) := by decide +kernel
theorem dX0_copyFrom_24 : decode cX0_copyFrom 24 = .ok (.aload_n 0, 1) := by decide +kernel
theorem dX0_copyFrom_25 : decode cX0_copyFrom 25 = .ok (.aload_n 1, 1) := by decide +kernel
theorem dX0_copyFrom_26 : decode cX0_copyFrom 26 = .ok (.getfield 37, 3) := by decide +kernel
theorem dX0_copyFrom_29 : decode cX0_copyFrom 29 = .ok (.putfield 37, 3) := by decide +kernel
theorem dX0_copyFrom_32 : decode cX0_copyFrom 32 = .ok (.aload_n 0, 1) := by decide +kernel
theorem dX0_copyFrom_33 : decode cX0_copyFrom 33 = .ok (.aload_n 1, 1) := by decide +kernel
theorem dX0_copyFrom_34 : decode cX0_copyFrom 34 = .ok (.getfield 40, 3) := by decide +kernel
theorem dX0_copyFrom_37 : decode cX0_copyFrom 37 = .ok (.putfield 40, 3) := by decide +kernel
theorem dX0_copyFrom_40 : decode cX0_copyFrom 40 = .ok (.aload_n 0, 1) := by decide +kernel
theorem dX0_copyFrom_41 : decode cX0_copyFrom 41 = .ok (.aload_n 1, 1) := by decide +kernel
theorem dX0_copyFrom_42 : decode cX0_copyFrom 42 = .ok (.getfield 43, 3) := by decide +kernel
theorem dX0_copyFrom_45 : decode cX0_copyFrom 45 = .ok (.putfield 43, 3) := by decide +kernel
theorem dX0_copyFrom_48 : decode cX0_copyFrom 48 = .ok (.aload_n 1, 1) := by decide +kernel
theorem dX0_copyFrom_49 : decode cX0_copyFrom 49 = .ok (.getfield 15, 3) := by decide +kernel
theorem dX0_copyFrom_52 : decode cX0_copyFrom 52 = .ok (.iconst 0, 1) := by decide +kernel
theorem dX0_copyFrom_53 : decode cX0_copyFrom 53 = .ok (.aload_n 0, 1) := by decide +kernel
theorem dX0_copyFrom_54 : decode cX0_copyFrom 54 = .ok (.getfield 15, 3) := by decide +kernel
theorem dX0_copyFrom_57 : decode cX0_copyFrom 57 = .ok (.iconst 0, 1) := by decide +kernel
theorem dX0_copyFrom_58 : decode cX0_copyFrom 58 = .ok (.aload_n 0, 1) := by decide +kernel
theorem dX0_copyFrom_59 : decode cX0_copyFrom 59 = .ok (.getfield 15, 3) := by decide +kernel
theorem dX0_copyFrom_62 : decode cX0_copyFrom 62 = .ok (.arraylength, 1) := by decide +kernel
theorem dX0_copyFrom_63 : decode cX0_copyFrom 63 = .ok (.invokestatic 50, 3) := by decide +kernel
theorem dX0_copyFrom_66 : decode cX0_copyFrom 66 = .ok (.aload_n 1, 1) := by decide +kernel
theorem dX0_copyFrom_67 : decode cX0_copyFrom 67 = .ok (.getfield 19, 3) := by decide +kernel
theorem dX0_copyFrom_70 : decode cX0_copyFrom 70 = .ok (.iconst 0, 1) := by decide +kernel
theorem dX0_copyFrom_71 : decode cX0_copyFrom 71 = .ok (.aload_n 0, 1) := by decide +kernel
theorem dX0_copyFrom_72 : decode cX0_copyFrom 72 = .ok (.getfield 19, 3) := by decide +kernel
theorem dX0_copyFrom_75 : decode cX0_copyFrom 75 = .ok (.iconst 0, 1) := by decide +kernel
theorem dX0_copyFrom_76 : decode cX0_copyFrom 76 = .ok (.aload_n 0, 1) := by decide +kernel
theorem dX0_copyFrom_77 : decode cX0_copyFrom 77 = .ok (.getfield 19, 3) := by decide +kernel
theorem dX0_copyFrom_80 : decode cX0_copyFrom 80 = .ok (.arraylength, 1) := by decide +kernel
theorem dX0_copyFrom_81 : decode cX0_copyFrom 81 = .ok (.invokestatic 50, 3) := by decide +kernel
theorem dX0_copyFrom_84 : decode cX0_copyFrom 84 = .ok (.aload_n 1, 1) := by decide +kernel
theorem dX0_copyFrom_85 : decode cX0_copyFrom 85 = .ok (.getfield 22, 3) := by decide +kernel
theorem dX0_copyFrom_88 : decode cX0_copyFrom 88 = .ok (.iconst 0, 1) := by decide +kernel
theorem dX0_copyFrom_89 : decode cX0_copyFrom 89 = .ok (.aload_n 0, 1) := by decide +kernel
theorem dX0_copyFrom_90 : decode cX0_copyFrom 90 = .ok (.getfield 22, 3) := by decide +kernel
theorem dX0_copyFrom_93 : decode cX0_copyFrom 93 = .ok (.iconst 0, 1) := by decide +kernel
theorem dX0_copyFrom_94 : decode cX0_copyFrom 94 = .ok (.aload_n 0, 1) := by decide +kernel
theorem dX0_copyFrom_95 : decode cX0_copyFrom 95 = .ok (.getfield 22, 3) := by decide +kernel
theorem dX0_copyFrom_98 : decode cX0_copyFrom 98 = .ok (.arraylength, 1) := by decide +kernel
theorem dX0_copyFrom_99 : decode cX0_copyFrom 99 = .ok (.invokestatic 50, 3) := by decide +kernel
theorem dX0_copyFrom_102 : decode cX0_copyFrom 102 = .ok (.aload_n 0, 1) := by decide +kernel
theorem dX0_copyFrom_103 : decode cX0_copyFrom 103 = .ok (.aload_n 1, 1) := by decide +kernel
theorem dX0_copyFrom_104 : decode cX0_copyFrom 104 = .ok (.getfield 28, 3) := by decide +kernel
theorem dX0_copyFrom_107 : decode cX0_copyFrom 107 = .ok (.putfield 28, 3) := by decide +kernel
theorem dX0_copyFrom_110 : decode cX0_copyFrom 110 = .ok (.aload_n 0, 1) := by decide +kernel
theorem dX0_copyFrom_111 : decode cX0_copyFrom 111 = .ok (.aload_n 1, 1) := by decide +kernel
theorem dX0_copyFrom_112 : decode cX0_copyFrom 112 = .ok (.getfield 46, 3) := by decide +kernel
theorem dX0_copyFrom_115 : decode cX0_copyFrom 115 = .ok (.putfield 46, 3) := by decide +kernel
theorem dX0_copyFrom_118 : decode cX0_copyFrom 118 = .ok (.aload_n 0, 1) := by decide +kernel
theorem dX0_copyFrom_119 : decode cX0_copyFrom 119 = .ok (.aload_n 1, 1) := by decide +kernel
theorem dX0_copyFrom_120 : decode cX0_copyFrom 120 = .ok (.getfield 56, 3) := by decide +kernel
theorem dX0_copyFrom_123 : decode cX0_copyFrom 123 = .ok (.putfield 56, 3) := by decide +kernel
theorem dX0_copyFrom_126 : decode cX0_copyFrom 126 = .ok (.return_, 1) := by decide +kernel
theorem dX0_waveOf_0 : decode cX0_waveOf 0 = .ok (.aload_n 0, 1) := by decide +kernel
theorem dX0_waveOf_1 : decode cX0_waveOf 1 = .ok (.getfield 15, 3) := by decide +kernel
theorem dX0_waveOf_4 : decode cX0_waveOf 4 = .ok (.iload_n 1, 1) := by decide +kernel
theorem dX0_waveOf_5 : decode cX0_waveOf 5 = .ok (.iconst 3, 1) := by decide +kernel
theorem dX0_waveOf_6 : decode cX0_waveOf 6 = .ok (.imul, 1) := by decide +kernel
theorem dX0_waveOf_7 : decode cX0_waveOf 7 = .ok (.iload_n 2, 1) := by decide +kernel
theorem dX0_waveOf_8 : decode cX0_waveOf 8 = .ok (.iadd, 1) := by decide +kernel
theorem dX0_waveOf_9 : decode cX0_waveOf 9 = .ok (.iaload, 1) := by decide +kernel
theorem dX0_waveOf_10 : decode cX0_waveOf 10 = .ok (.ireturn, 1) := by decide +kernel
theorem dX0_barOf_0 : decode cX0_barOf 0 = .ok (.aload_n 0, 1) := by decide +kernel
theorem dX0_barOf_1 : decode cX0_barOf 1 = .ok (.getfield 19, 3) := by decide +kernel
theorem dX0_barOf_4 : decode cX0_barOf 4 = .ok (.iload_n 1, 1) := by decide +kernel
theorem dX0_barOf_5 : decode cX0_barOf 5 = .ok (.bipush 6, 2) := by decide +kernel
theorem dX0_barOf_7 : decode cX0_barOf 7 = .ok (.imul, 1) := by decide +kernel
theorem dX0_barOf_8 : decode cX0_barOf 8 = .ok (.iload_n 2, 1) := by decide +kernel
theorem dX0_barOf_9 : decode cX0_barOf 9 = .ok (.iadd, 1) := by decide +kernel
theorem dX0_barOf_10 : decode cX0_barOf 10 = .ok (.iaload, 1) := by decide +kernel
theorem dX0_barOf_11 : decode cX0_barOf 11 = .ok (.ireturn, 1) := by decide +kernel
theorem dX0_shipOf_0 : decode cX0_shipOf 0 = .ok (.aload_n 0, 1) := by decide +kernel
theorem dX0_shipOf_1 : decode cX0_shipOf 1 = .ok (.getfield 22, 3) := by decide +kernel
theorem dX0_shipOf_4 : decode cX0_shipOf 4 = .ok (.iload_n 1, 1) := by decide +kernel
theorem dX0_shipOf_5 : decode cX0_shipOf 5 = .ok (.bipush 8, 2) := by decide +kernel
theorem dX0_shipOf_7 : decode cX0_shipOf 7 = .ok (.imul, 1) := by decide +kernel
theorem dX0_shipOf_8 : decode cX0_shipOf 8 = .ok (.iload_n 2, 1) := by decide +kernel
theorem dX0_shipOf_9 : decode cX0_shipOf 9 = .ok (.iadd, 1) := by decide +kernel
theorem dX0_shipOf_10 : decode cX0_shipOf 10 = .ok (.iaload, 1) := by decide +kernel
theorem dX0_shipOf_11 : decode cX0_shipOf 11 = .ok (.ireturn, 1) := by decide +kernel
theorem dX0_isBooked_0 : decode cX0_isBooked 0 = .ok (.aload_n 0, 1) := by decide +kernel
theorem dX0_isBooked_1 : decode cX0_isBooked 1 = .ok (.iload_n 1, 1) := by decide +kernel
theorem dX0_isBooked_2 : decode cX0_isBooked 2 = .ok (.bipush 6, 2) := by decide +kernel
theorem dX0_isBooked_4 : decode cX0_isBooked 4 = .ok (.invokevirtual 59, 3) := by decide +kernel
theorem dX0_isBooked_7 : decode cX0_isBooked 7 = .ok (.iconst (-1), 1) := by decide +kernel
theorem dX0_isBooked_8 : decode cX0_isBooked 8 = .ok (.if_icmp .eq 7, 3) := by decide +kernel
theorem dX0_isBooked_11 : decode cX0_isBooked 11 = .ok (.iconst 1, 1) := by decide +kernel
theorem dX0_isBooked_12 : decode cX0_isBooked 12 = .ok (.goto 4, 3) := by decide +kernel
theorem dX0_isBooked_15 : decode cX0_isBooked 15 = .ok (.iconst 0, 1) := by decide +kernel
theorem dX0_isBooked_16 : decode cX0_isBooked 16 = .ok (.ireturn, 1) := by decide +kernel
theorem dX0_putBooking_0 : decode cX0_putBooking 0 = .ok (.aload_n 0, 1) := by decide +kernel
theorem dX0_putBooking_1 : decode cX0_putBooking 1 = .ok (.getfield 22, 3) := by decide +kernel
theorem dX0_putBooking_4 : decode cX0_putBooking 4 = .ok (.iload_n 1, 1) := by decide +kernel
theorem dX0_putBooking_5 : decode cX0_putBooking 5 = .ok (.bipush 8, 2) := by decide +kernel
theorem dX0_putBooking_7 : decode cX0_putBooking 7 = .ok (.imul, 1) := by decide +kernel
theorem dX0_putBooking_8 : decode cX0_putBooking 8 = .ok (.bipush 6, 2) := by decide +kernel
theorem dX0_putBooking_10 : decode cX0_putBooking 10 = .ok (.iadd, 1) := by decide +kernel
theorem dX0_putBooking_11 : decode cX0_putBooking 11 = .ok (.iload_n 2, 1) := by decide +kernel
theorem dX0_putBooking_12 : decode cX0_putBooking 12 = .ok (.iastore, 1) := by decide +kernel
theorem dX0_putBooking_13 : decode cX0_putBooking 13 = .ok (.aload_n 0, 1) := by decide +kernel
theorem dX0_putBooking_14 : decode cX0_putBooking 14 = .ok (.getfield 22, 3) := by decide +kernel
theorem dX0_putBooking_17 : decode cX0_putBooking 17 = .ok (.iload_n 1, 1) := by decide +kernel
theorem dX0_putBooking_18 : decode cX0_putBooking 18 = .ok (.bipush 8, 2) := by decide +kernel
theorem dX0_putBooking_20 : decode cX0_putBooking 20 = .ok (.imul, 1) := by decide +kernel
theorem dX0_putBooking_21 : decode cX0_putBooking 21 = .ok (.bipush 7, 2) := by decide +kernel
theorem dX0_putBooking_23 : decode cX0_putBooking 23 = .ok (.iadd, 1) := by decide +kernel
theorem dX0_putBooking_24 : decode cX0_putBooking 24 = .ok (.iload_n 3, 1) := by decide +kernel
theorem dX0_putBooking_25 : decode cX0_putBooking 25 = .ok (.iastore, 1) := by decide +kernel
theorem dX0_putBooking_26 : decode cX0_putBooking 26 = .ok (.return_, 1) := by decide +kernel
theorem dX0_farTime_0 : decode cX0_farTime 0 = .ok (.aload_n 0, 1) := by decide +kernel
theorem dX0_farTime_1 : decode cX0_farTime 1 = .ok (.iload_n 1, 1) := by decide +kernel
theorem dX0_farTime_2 : decode cX0_farTime 2 = .ok (.iconst 0, 1) := by decide +kernel
theorem dX0_farTime_3 : decode cX0_farTime 3 = .ok (.invokevirtual 63, 3) := by decide +kernel
theorem dX0_farTime_6 : decode cX0_farTime 6 = .ok (.iload_n 2, 1) := by decide +kernel
theorem dX0_farTime_7 : decode cX0_farTime 7 = .ok (.invokestatic 66, 3) := by decide +kernel
theorem dX0_farTime_10 : decode cX0_farTime 10 = .ok (.ireturn, 1) := by decide +kernel
theorem dX0_lengthTime_0 : decode cX0_lengthTime 0 = .ok (.aload_n 0, 1) := by decide +kernel
theorem dX0_lengthTime_1 : decode cX0_lengthTime 1 = .ok (.iload_n 1, 1) := by decide +kernel
theorem dX0_lengthTime_2 : decode cX0_lengthTime 2 = .ok (.iconst 2, 1) := by decide +kernel
theorem dX0_lengthTime_3 : decode cX0_lengthTime 3 = .ok (.invokevirtual 63, 3) := by decide +kernel
theorem dX0_lengthTime_6 : decode cX0_lengthTime 6 = .ok (.iload_n 2, 1) := by decide +kernel
theorem dX0_lengthTime_7 : decode cX0_lengthTime 7 = .ok (.invokestatic 66, 3) := by decide +kernel
theorem dX0_lengthTime_10 : decode cX0_lengthTime 10 = .ok (.ireturn, 1) := by decide +kernel
theorem dX0_comesAfter_0 : decode cX0_comesAfter 0 = .ok (.iconst 0, 1) := by decide +kernel
theorem dX0_comesAfter_1 : decode cX0_comesAfter 1 = .ok (.istore 4, 2) := by decide +kernel
theorem dX0_comesAfter_3 : decode cX0_comesAfter 3 = .ok (.aload_n 0, 1) := by decide +kernel
theorem dX0_comesAfter_4 : decode cX0_comesAfter 4 = .ok (.iload_n 1, 1) := by decide +kernel
theorem dX0_comesAfter_5 : decode cX0_comesAfter 5 = .ok (.iconst 5, 1) := by decide +kernel
theorem dX0_comesAfter_6 : decode cX0_comesAfter 6 = .ok (.invokevirtual 59, 3) := by decide +kernel
theorem dX0_comesAfter_9 : decode cX0_comesAfter 9 = .ok (.iconst 1, 1) := by decide +kernel
theorem dX0_comesAfter_10 : decode cX0_comesAfter 10 = .ok (.if_icmp .ne 46, 3) := by decide +kernel
theorem dX0_comesAfter_13 : decode cX0_comesAfter 13 = .ok (.aload_n 0, 1) := by decide +kernel
theorem dX0_comesAfter_14 : decode cX0_comesAfter 14 = .ok (.getfield 40, 3) := by decide +kernel
theorem dX0_comesAfter_17 : decode cX0_comesAfter 17 = .ok (.iconst 1, 1) := by decide +kernel
theorem dX0_comesAfter_18 : decode cX0_comesAfter 18 = .ok (.isub, 1) := by decide +kernel
theorem dX0_comesAfter_19 : decode cX0_comesAfter 19 = .ok (.istore 5, 2) := by decide +kernel
theorem dX0_comesAfter_21 : decode cX0_comesAfter 21 = .ok (.iload 5, 2) := by decide +kernel
theorem dX0_comesAfter_23 : decode cX0_comesAfter 23 = .ok (.iload_n 3, 1) := by decide +kernel
theorem dX0_comesAfter_24 : decode cX0_comesAfter 24 = .ok (.if_icmp .le 29, 3) := by decide +kernel
theorem dX0_comesAfter_27 : decode cX0_comesAfter 27 = .ok (.iload 4, 2) := by decide +kernel
theorem dX0_comesAfter_29 : decode cX0_comesAfter 29 = .ok (.aload_n 0, 1) := by decide +kernel
theorem dX0_comesAfter_30 : decode cX0_comesAfter 30 = .ok (.iload 5, 2) := by decide +kernel
theorem dX0_comesAfter_32 : decode cX0_comesAfter 32 = .ok (.iload_n 2, 1) := by decide +kernel
theorem dX0_comesAfter_33 : decode cX0_comesAfter 33 = .ok (.invokevirtual 69, 3) := by decide +kernel
theorem dX0_comesAfter_36 : decode cX0_comesAfter 36 = .ok (.aload_n 0, 1) := by decide +kernel
theorem dX0_comesAfter_37 : decode cX0_comesAfter 37 = .ok (.iload 5, 2) := by decide +kernel
theorem dX0_comesAfter_39 : decode cX0_comesAfter 39 = .ok (.iload_n 2, 1) := by decide +kernel
theorem dX0_comesAfter_40 : decode cX0_comesAfter 40 = .ok (.invokevirtual 72, 3) := by decide +kernel
theorem dX0_comesAfter_43 : decode cX0_comesAfter 43 = .ok (.iadd, 1) := by decide +kernel
theorem dX0_comesAfter_44 : decode cX0_comesAfter 44 = .ok (.iadd, 1) := by decide +kernel
theorem dX0_comesAfter_45 : decode cX0_comesAfter 45 = .ok (.istore 4, 2) := by decide +kernel
theorem dX0_comesAfter_47 : decode cX0_comesAfter 47 = .ok (.iinc 5 (-1), 3) := by decide +kernel
theorem dX0_comesAfter_50 : decode cX0_comesAfter 50 = .ok (.goto (-29), 3) := by decide +kernel
theorem dX0_comesAfter_53 : decode cX0_comesAfter 53 = .ok (.iload 4, 2) := by decide +kernel
theorem dX0_comesAfter_55 : decode cX0_comesAfter 55 = .ok (.ireturn, 1) := by decide +kernel
theorem dX0_comesAfter_56 : decode cX0_comesAfter 56 = .ok (.iconst 0, 1) := by decide +kernel
theorem dX0_comesAfter_57 : decode cX0_comesAfter 57 = .ok (.istore 5, 2) := by decide +kernel
theorem dX0_comesAfter_59 : decode cX0_comesAfter 59 = .ok (.iload 5, 2) := by decide +kernel
theorem dX0_comesAfter_61 : decode cX0_comesAfter 61 = .ok (.iload_n 3, 1) := by decide +kernel
theorem dX0_comesAfter_62 : decode cX0_comesAfter 62 = .ok (.if_icmp .ge 29, 3) := by decide +kernel
theorem dX0_comesAfter_65 : decode cX0_comesAfter 65 = .ok (.iload 4, 2) := by decide +kernel
theorem dX0_comesAfter_67 : decode cX0_comesAfter 67 = .ok (.aload_n 0, 1) := by decide +kernel
theorem dX0_comesAfter_68 : decode cX0_comesAfter 68 = .ok (.iload 5, 2) := by decide +kernel
theorem dX0_comesAfter_70 : decode cX0_comesAfter 70 = .ok (.iload_n 2, 1) := by decide +kernel
theorem dX0_comesAfter_71 : decode cX0_comesAfter 71 = .ok (.invokevirtual 72, 3) := by decide +kernel
theorem dX0_comesAfter_74 : decode cX0_comesAfter 74 = .ok (.aload_n 0, 1) := by decide +kernel
theorem dX0_comesAfter_75 : decode cX0_comesAfter 75 = .ok (.iload 5, 2) := by decide +kernel
theorem dX0_comesAfter_77 : decode cX0_comesAfter 77 = .ok (.iload_n 2, 1) := by decide +kernel
theorem dX0_comesAfter_78 : decode cX0_comesAfter 78 = .ok (.invokevirtual 69, 3) := by decide +kernel
theorem dX0_comesAfter_81 : decode cX0_comesAfter 81 = .ok (.iadd, 1) := by decide +kernel
theorem dX0_comesAfter_82 : decode cX0_comesAfter 82 = .ok (.iadd, 1) := by decide +kernel
theorem dX0_comesAfter_83 : decode cX0_comesAfter 83 = .ok (.istore 4, 2) := by decide +kernel
theorem dX0_comesAfter_85 : decode cX0_comesAfter 85 = .ok (.iinc 5 1, 3) := by decide +kernel
theorem dX0_comesAfter_88 : decode cX0_comesAfter 88 = .ok (.goto (-29), 3) := by decide +kernel
theorem dX0_comesAfter_91 : decode cX0_comesAfter 91 = .ok (.iload 4, 2) := by decide +kernel
theorem dX0_comesAfter_93 : decode cX0_comesAfter 93 = .ok (.aload_n 0, 1) := by decide +kernel
theorem dX0_comesAfter_94 : decode cX0_comesAfter 94 = .ok (.iload_n 3, 1) := by decide +kernel
theorem dX0_comesAfter_95 : decode cX0_comesAfter 95 = .ok (.iload_n 2, 1) := by decide +kernel
theorem dX0_comesAfter_96 : decode cX0_comesAfter 96 = .ok (.invokevirtual 72, 3) := by decide +kernel
theorem dX0_comesAfter_99 : decode cX0_comesAfter 99 = .ok (.iadd, 1) := by decide +kernel
theorem dX0_comesAfter_100 : decode cX0_comesAfter 100 = .ok (.ireturn, 1) := by decide +kernel
theorem dX0_passageTime_0 : decode cX0_passageTime 0 = .ok (.aload_n 0, 1) := by decide +kernel
theorem dX0_passageTime_1 : decode cX0_passageTime 1 = .ok (.getfield 40, 3) := by decide +kernel
theorem dX0_passageTime_4 : decode cX0_passageTime 4 = .ok (.ifCond .ne 5, 3) := by decide +kernel
theorem dX0_passageTime_7 : decode cX0_passageTime 7 = .ok (.iconst 0, 1) := by decide +kernel
theorem dX0_passageTime_8 : decode cX0_passageTime 8 = .ok (.ireturn, 1) := by decide +kernel
theorem dX0_passageTime_9 : decode cX0_passageTime 9 = .ok (.aload_n 0, 1) := by decide +kernel
theorem dX0_passageTime_10 : decode cX0_passageTime 10 = .ok (.iload_n 1, 1) := by decide +kernel
theorem dX0_passageTime_11 : decode cX0_passageTime 11 = .ok (.iconst 5, 1) := by decide +kernel
theorem dX0_passageTime_12 : decode cX0_passageTime 12 = .ok (.invokevirtual 59, 3) := by decide +kernel
theorem dX0_passageTime_15 : decode cX0_passageTime 15 = .ok (.iconst 1, 1) := by decide +kernel
theorem dX0_passageTime_16 : decode cX0_passageTime 16 = .ok (.if_icmp .ne 7, 3) := by decide +kernel
theorem dX0_passageTime_19 : decode cX0_passageTime 19 = .ok (.iconst 0, 1) := by decide +kernel
theorem dX0_passageTime_20 : decode cX0_passageTime 20 = .ok (.goto 9, 3) := by decide +kernel
theorem dX0_passageTime_23 : decode cX0_passageTime 23 = .ok (.aload_n 0, 1) := by decide +kernel
theorem dX0_passageTime_24 : decode cX0_passageTime 24 = .ok (.getfield 40, 3) := by decide +kernel
theorem dX0_passageTime_27 : decode cX0_passageTime 27 = .ok (.iconst 1, 1) := by decide +kernel
theorem dX0_passageTime_28 : decode cX0_passageTime 28 = .ok (.isub, 1) := by decide +kernel
theorem dX0_passageTime_29 : decode cX0_passageTime 29 = .ok (.istore_n 3, 1) := by decide +kernel
theorem dX0_passageTime_30 : decode cX0_passageTime 30 = .ok (.aload_n 0, 1) := by decide +kernel
theorem dX0_passageTime_31 : decode cX0_passageTime 31 = .ok (.iload_n 1, 1) := by decide +kernel
theorem dX0_passageTime_32 : decode cX0_passageTime 32 = .ok (.iload_n 2, 1) := by decide +kernel
theorem dX0_passageTime_33 : decode cX0_passageTime 33 = .ok (.iload_n 3, 1) := by decide +kernel
theorem dX0_passageTime_34 : decode cX0_passageTime 34 = .ok (.invokevirtual 75, 3) := by decide +kernel
theorem dX0_passageTime_37 : decode cX0_passageTime 37 = .ok (.aload_n 0, 1) := by decide +kernel
theorem dX0_passageTime_38 : decode cX0_passageTime 38 = .ok (.iload_n 3, 1) := by decide +kernel
theorem dX0_passageTime_39 : decode cX0_passageTime 39 = .ok (.iload_n 2, 1) := by decide +kernel
theorem dX0_passageTime_40 : decode cX0_passageTime 40 = .ok (.invokevirtual 69, 3) := by decide +kernel
theorem dX0_passageTime_43 : decode cX0_passageTime 43 = .ok (.iadd, 1) := by decide +kernel
theorem dX0_passageTime_44 : decode cX0_passageTime 44 = .ok (.ireturn, 1) := by decide +kernel
theorem dX0_meets_0 : decode cX0_meets 0 = .ok (.aload_n 0, 1) := by decide +kernel
theorem dX0_meets_1 : decode cX0_meets 1 = .ok (.iload 4, 2) := by decide +kernel
theorem dX0_meets_3 : decode cX0_meets 3 = .ok (.bipush 7, 2) := by decide +kernel
theorem dX0_meets_5 : decode cX0_meets 5 = .ok (.invokevirtual 59, 3) := by decide +kernel
theorem dX0_meets_8 : decode cX0_meets 8 = .ok (.istore 5, 2) := by decide +kernel
theorem dX0_meets_10 : decode cX0_meets 10 = .ok (.iconst 0, 1) := by decide +kernel
theorem dX0_meets_11 : decode cX0_meets 11 = .ok (.istore 6, 2) := by decide +kernel
theorem dX0_meets_13 : decode cX0_meets 13 = .ok (.iload 6, 2) := by decide +kernel
theorem dX0_meets_15 : decode cX0_meets 15 = .ok (.aload_n 0, 1) := by decide +kernel
theorem dX0_meets_16 : decode cX0_meets 16 = .ok (.getfield 40, 3) := by decide +kernel
theorem dX0_meets_19 : decode cX0_meets 19 = .ok (.if_icmp .ge 102, 3) := by decide +kernel
theorem dX0_meets_22 : decode cX0_meets 22 = .ok (.iload_n 2, 1) := by decide +kernel
theorem dX0_meets_23 : decode cX0_meets 23 = .ok (.aload_n 0, 1) := by decide +kernel
theorem dX0_meets_24 : decode cX0_meets 24 = .ok (.iload_n 1, 1) := by decide +kernel
theorem dX0_meets_25 : decode cX0_meets 25 = .ok (.iload_n 3, 1) := by decide +kernel
theorem dX0_meets_26 : decode cX0_meets 26 = .ok (.iload 6, 2) := by decide +kernel
theorem dX0_meets_28 : decode cX0_meets 28 = .ok (.invokevirtual 75, 3) := by decide +kernel
theorem dX0_meets_31 : decode cX0_meets 31 = .ok (.iadd, 1) := by decide +kernel
theorem dX0_meets_32 : decode cX0_meets 32 = .ok (.istore 7, 2) := by decide +kernel
theorem dX0_meets_34 : decode cX0_meets 34 = .ok (.iload 7, 2) := by decide +kernel
theorem dX0_meets_36 : decode cX0_meets 36 = .ok (.aload_n 0, 1) := by decide +kernel
theorem dX0_meets_37 : decode cX0_meets 37 = .ok (.iload 6, 2) := by decide +kernel
theorem dX0_meets_39 : decode cX0_meets 39 = .ok (.iload_n 3, 1) := by decide +kernel
theorem dX0_meets_40 : decode cX0_meets 40 = .ok (.invokevirtual 69, 3) := by decide +kernel
theorem dX0_meets_43 : decode cX0_meets 43 = .ok (.iadd, 1) := by decide +kernel
theorem dX0_meets_44 : decode cX0_meets 44 = .ok (.istore 8, 2) := by decide +kernel
theorem dX0_meets_46 : decode cX0_meets 46 = .ok (.aload_n 0, 1) := by decide +kernel
theorem dX0_meets_47 : decode cX0_meets 47 = .ok (.iload 4, 2) := by decide +kernel
theorem dX0_meets_49 : decode cX0_meets 49 = .ok (.bipush 6, 2) := by decide +kernel
theorem dX0_meets_51 : decode cX0_meets 51 = .ok (.invokevirtual 59, 3) := by decide +kernel
theorem dX0_meets_54 : decode cX0_meets 54 = .ok (.aload_n 0, 1) := by decide +kernel
theorem dX0_meets_55 : decode cX0_meets 55 = .ok (.iload 4, 2) := by decide +kernel
theorem dX0_meets_57 : decode cX0_meets 57 = .ok (.iload 5, 2) := by decide +kernel
theorem dX0_meets_59 : decode cX0_meets 59 = .ok (.iload 6, 2) := by decide +kernel
theorem dX0_meets_61 : decode cX0_meets 61 = .ok (.invokevirtual 75, 3) := by decide +kernel
theorem dX0_meets_64 : decode cX0_meets 64 = .ok (.iadd, 1) := by decide +kernel
theorem dX0_meets_65 : decode cX0_meets 65 = .ok (.istore 9, 2) := by decide +kernel
theorem dX0_meets_67 : decode cX0_meets 67 = .ok (.iload 9, 2) := by decide +kernel
theorem dX0_meets_69 : decode cX0_meets 69 = .ok (.aload_n 0, 1) := by decide +kernel
theorem dX0_meets_70 : decode cX0_meets 70 = .ok (.iload 6, 2) := by decide +kernel
theorem dX0_meets_72 : decode cX0_meets 72 = .ok (.iload 5, 2) := by decide +kernel
theorem dX0_meets_74 : decode cX0_meets 74 = .ok (.invokevirtual 69, 3) := by decide +kernel
theorem dX0_meets_77 : decode cX0_meets 77 = .ok (.iadd, 1) := by decide +kernel
theorem dX0_meets_78 : decode cX0_meets 78 = .ok (.istore 10, 2) := by decide +kernel
theorem dX0_meets_80 : decode cX0_meets 80 = .ok (.iconst 0, 1) := by decide +kernel
theorem dX0_meets_81 : decode cX0_meets 81 = .ok (.iload 9, 2) := by decide +kernel
theorem dX0_meets_83 : decode cX0_meets 83 = .ok (.iload 8, 2) := by decide +kernel
theorem dX0_meets_85 : decode cX0_meets 85 = .ok (.isub, 1) := by decide +kernel
theorem dX0_meets_86 : decode cX0_meets 86 = .ok (.iload 7, 2) := by decide +kernel
theorem dX0_meets_88 : decode cX0_meets 88 = .ok (.iload 10, 2) := by decide +kernel
theorem dX0_meets_90 : decode cX0_meets 90 = .ok (.isub, 1) := by decide +kernel
theorem dX0_meets_91 : decode cX0_meets 91 = .ok (.invokestatic 79, 3) := by decide +kernel
theorem dX0_meets_94 : decode cX0_meets 94 = .ok (.invokestatic 79, 3) := by decide +kernel
theorem dX0_meets_97 : decode cX0_meets 97 = .ok (.istore 11, 2) := by decide +kernel
theorem dX0_meets_99 : decode cX0_meets 99 = .ok (.iload 11, 2) := by decide +kernel
theorem dX0_meets_101 : decode cX0_meets 101 = .ok (.ifCond .eq 12, 3) := by decide +kernel
theorem dX0_meets_104 : decode cX0_meets 104 = .ok (.iload 11, 2) := by decide +kernel
theorem dX0_meets_106 : decode cX0_meets 106 = .ok (.aload_n 0, 1) := by decide +kernel
theorem dX0_meets_107 : decode cX0_meets 107 = .ok (.getfield 9, 3) := by decide +kernel
theorem dX0_meets_110 : decode cX0_meets 110 = .ok (.if_icmp .ge 5, 3) := by decide +kernel
theorem dX0_meets_113 : decode cX0_meets 113 = .ok (.iconst 1, 1) := by decide +kernel
theorem dX0_meets_114 : decode cX0_meets 114 = .ok (.ireturn, 1) := by decide +kernel
theorem dX0_meets_115 : decode cX0_meets 115 = .ok (.iinc 6 1, 3) := by decide +kernel
theorem dX0_meets_118 : decode cX0_meets 118 = .ok (.goto (-105), 3) := by decide +kernel
theorem dX0_meets_121 : decode cX0_meets 121 = .ok (.iconst 0, 1) := by decide +kernel
theorem dX0_meets_122 : decode cX0_meets 122 = .ok (.ireturn, 1) := by decide +kernel
theorem dX0_timeFor_0 : decode cX0_timeFor 0 = .ok (.iload_n 1, 1) := by decide +kernel
theorem dX0_timeFor_1 : decode cX0_timeFor 1 = .ok (.iconst 1, 1) := by decide +kernel
theorem dX0_timeFor_2 : decode cX0_timeFor 2 = .ok (.if_icmp .ge 7, 3) := by decide +kernel
theorem dX0_timeFor_5 : decode cX0_timeFor 5 = .ok (.iconst 0, 1) := by decide +kernel
theorem dX0_timeFor_6 : decode cX0_timeFor 6 = .ok (.goto 13, 3) := by decide +kernel
theorem dX0_timeFor_9 : decode cX0_timeFor 9 = .ok (.bipush 6, 2) := by decide +kernel
theorem dX0_timeFor_11 : decode cX0_timeFor 11 = .ok (.iload_n 0, 1) := by decide +kernel
theorem dX0_timeFor_12 : decode cX0_timeFor 12 = .ok (.imul, 1) := by decide +kernel
theorem dX0_timeFor_13 : decode cX0_timeFor 13 = .ok (.iload_n 1, 1) := by decide +kernel
theorem dX0_timeFor_14 : decode cX0_timeFor 14 = .ok (.iadd, 1) := by decide +kernel
theorem dX0_timeFor_15 : decode cX0_timeFor 15 = .ok (.iconst 1, 1) := by decide +kernel
theorem dX0_timeFor_16 : decode cX0_timeFor 16 = .ok (.isub, 1) := by decide +kernel
theorem dX0_timeFor_17 : decode cX0_timeFor 17 = .ok (.iload_n 1, 1) := by decide +kernel
theorem dX0_timeFor_18 : decode cX0_timeFor 18 = .ok (.idiv, 1) := by decide +kernel
theorem dX0_timeFor_19 : decode cX0_timeFor 19 = .ok (.ireturn, 1) := by decide +kernel
