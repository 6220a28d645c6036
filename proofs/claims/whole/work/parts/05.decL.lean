theorem dL_text_0 : decode cL_text 0 = .ok (.aload_n 2, 1) := by decide +kernel
theorem dL_text_1 : decode cL_text 1 = .ok (.iconst 0, 1) := by decide +kernel
theorem dL_text_2 : decode cL_text 2 = .ok (.aload_n 0, 1) := by decide +kernel
theorem dL_text_3 : decode cL_text 3 = .ok (.iload_n 1, 1) := by decide +kernel
theorem dL_text_4 : decode cL_text 4 = .ok (.invokevirtual 7, 3) := by decide +kernel
theorem dL_text_7 : decode cL_text 7 = .ok (.i2l, 1) := by decide +kernel
theorem dL_text_8 : decode cL_text 8 = .ok (.lastore, 1) := by decide +kernel
theorem dL_text_9 : decode cL_text 9 = .ok (.goto 6, 3) := by decide +kernel
theorem dL_text_12 : decode cL_text 12 = .ok (.astore_n 3, 1) := by decide +kernel
theorem dL_text_13 : decode cL_text 13 = .ok (.iconst 1, 1) := by decide +kernel
theorem dL_text_14 : decode cL_text 14 = .ok (.ireturn, 1) := by decide +kernel
theorem dL_text_15 : decode cL_text 15 = .ok (.iconst 0, 1) := by decide +kernel
theorem dL_text_16 : decode cL_text 16 = .ok (.ireturn, 1) := by decide +kernel
theorem dL_sound_0 : decode cL_sound 0 = .ok (.aload_n 3, 1) := by decide +kernel
theorem dL_sound_1 : decode cL_sound 1 = .ok (.iconst 0, 1) := by decide +kernel
theorem dL_sound_2 : decode cL_sound 2 = .ok (.aload_n 0, 1) := by decide +kernel
theorem dL_sound_3 : decode cL_sound 3 = .ok (.iload_n 1, 1) := by decide +kernel
theorem dL_sound_4 : decode cL_sound 4 = .ok (.iload_n 2, 1) := by decide +kernel
theorem dL_sound_5 : decode cL_sound 5 = .ok (.invokevirtual 15, 3) := by decide +kernel
theorem dL_sound_8 : decode cL_sound 8 = .ok (.i2l, 1) := by decide +kernel
theorem dL_sound_9 : decode cL_sound 9 = .ok (.lastore, 1) := by decide +kernel
theorem dL_sound_10 : decode cL_sound 10 = .ok (.goto 11, 3) := by decide +kernel
theorem dL_sound_13 : decode cL_sound 13 = .ok (.astore 4, 2) := by decide +kernel
theorem dL_sound_15 : decode cL_sound 15 = .ok (.iconst 1, 1) := by decide +kernel
theorem dL_sound_16 : decode cL_sound 16 = .ok (.ireturn, 1) := by decide +kernel
theorem dL_sound_17 : decode cL_sound 17 = .ok (.astore 4, 2) := by decide +kernel
theorem dL_sound_19 : decode cL_sound 19 = .ok (.iconst 2, 1) := by decide +kernel
theorem dL_sound_20 : decode cL_sound 20 = .ok (.ireturn, 1) := by decide +kernel
theorem dL_sound_21 : decode cL_sound 21 = .ok (.iconst 0, 1) := by decide +kernel
theorem dL_sound_22 : decode cL_sound 22 = .ok (.ireturn, 1) := by decide +kernel
theorem dL_load_0 : decode cL_load 0 = .ok (.aload_n 3, 1) := by decide +kernel
theorem dL_load_1 : decode cL_load 1 = .ok (.iconst 0, 1) := by decide +kernel
theorem dL_load_2 : decode cL_load 2 = .ok (.aload_n 0, 1) := by decide +kernel
theorem dL_load_3 : decode cL_load 3 = .ok (.iload_n 1, 1) := by decide +kernel
theorem dL_load_4 : decode cL_load 4 = .ok (.iload_n 2, 1) := by decide +kernel
theorem dL_load_5 : decode cL_load 5 = .ok (.invokevirtual 21, 3) := by decide +kernel
theorem dL_load_8 : decode cL_load 8 = .ok (.i2l, 1) := by decide +kernel
theorem dL_load_9 : decode cL_load 9 = .ok (.lastore, 1) := by decide +kernel
theorem dL_load_10 : decode cL_load 10 = .ok (.goto 11, 3) := by decide +kernel
theorem dL_load_13 : decode cL_load 13 = .ok (.astore 4, 2) := by decide +kernel
theorem dL_load_15 : decode cL_load 15 = .ok (.iconst 1, 1) := by decide +kernel
theorem dL_load_16 : decode cL_load 16 = .ok (.ireturn, 1) := by decide +kernel
theorem dL_load_17 : decode cL_load 17 = .ok (.astore 4, 2) := by decide +kernel
theorem dL_load_19 : decode cL_load 19 = .ok (.iconst 2, 1) := by decide +kernel
theorem dL_load_20 : decode cL_load 20 = .ok (.ireturn, 1) := by decide +kernel
theorem dL_load_21 : decode cL_load 21 = .ok (.iconst 0, 1) := by decide +kernel
theorem dL_load_22 : decode cL_load 22 = .ok (.ireturn, 1) := by decide +kernel
theorem dL_surge_0 : decode cL_surge 0 = .ok (.aload_n 2, 1) := by decide +kernel
theorem dL_surge_1 : decode cL_surge 1 = .ok (.iconst 0, 1) := by decide +kernel
theorem dL_surge_2 : decode cL_surge 2 = .ok (.aload_n 0, 1) := by decide +kernel
theorem dL_surge_3 : decode cL_surge 3 = .ok (.iload_n 1, 1) := by decide +kernel
theorem dL_surge_4 : decode cL_surge 4 = .ok (.invokevirtual 24, 3) := by decide +kernel
theorem dL_surge_7 : decode cL_surge 7 = .ok (.i2l, 1) := by decide +kernel
theorem dL_surge_8 : decode cL_surge 8 = .ok (.lastore, 1) := by decide +kernel
theorem dL_surge_9 : decode cL_surge 9 = .ok (.goto 6, 3) := by decide +kernel
theorem dL_surge_12 : decode cL_surge 12 = .ok (.astore_n 3, 1) := by decide +kernel
theorem dL_surge_13 : decode cL_surge 13 = .ok (.iconst 1, 1) := by decide +kernel
theorem dL_surge_14 : decode cL_surge 14 = .ok (.ireturn, 1) := by decide +kernel
theorem dL_surge_15 : decode cL_surge 15 = .ok (.iconst 0, 1) := by decide +kernel
theorem dL_surge_16 : decode cL_surge 16 = .ok (.ireturn, 1) := by decide +kernel
theorem dL_book_0 : decode cL_book 0 = .ok (.aload 4, 2) := by decide +kernel
theorem dL_book_2 : decode cL_book 2 = .ok (.iconst 0, 1) := by decide +kernel
theorem dL_book_3 : decode cL_book 3 = .ok (.aload_n 0, 1) := by decide +kernel
theorem dL_book_4 : decode cL_book 4 = .ok (.iload_n 1, 1) := by decide +kernel
theorem dL_book_5 : decode cL_book 5 = .ok (.iload_n 2, 1) := by decide +kernel
theorem dL_book_6 : decode cL_book 6 = .ok (.iload_n 3, 1) := by decide +kernel
theorem dL_book_7 : decode cL_book 7 = .ok (.invokevirtual 27, 3) := by decide +kernel
theorem dL_book_10 : decode cL_book 10 = .ok (.i2l, 1) := by decide +kernel
theorem dL_book_11 : decode cL_book 11 = .ok (.lastore, 1) := by decide +kernel
theorem dL_book_12 : decode cL_book 12 = .ok (.goto 15, 3) := by decide +kernel
theorem dL_book_15 : decode cL_book 15 = .ok (.astore 5, 2) := by decide +kernel
theorem dL_book_17 : decode cL_book 17 = .ok (.iconst 1, 1) := by decide +kernel
theorem dL_book_18 : decode cL_book 18 = .ok (.ireturn, 1) := by decide +kernel
theorem dL_book_19 : decode cL_book 19 = .ok (.astore 5, 2) := by decide +kernel
theorem dL_book_21 : decode cL_book 21 = .ok (.iconst 2, 1) := by decide +kernel
theorem dL_book_22 : decode cL_book 22 = .ok (.ireturn, 1) := by decide +kernel
theorem dL_book_23 : decode cL_book 23 = .ok (.astore 5, 2) := by decide +kernel
theorem dL_book_25 : decode cL_book 25 = .ok (.iconst 3, 1) := by decide +kernel
theorem dL_book_26 : decode cL_book 26 = .ok (.ireturn, 1) := by decide +kernel
theorem dL_book_27 : decode cL_book 27 = .ok (.iconst 0, 1) := by decide +kernel
theorem dL_book_28 : decode cL_book 28 = .ok (.ireturn, 1) := by decide +kernel
theorem dL_cancel_0 : decode cL_cancel 0 = .ok (.aload_n 2, 1) := by decide +kernel
theorem dL_cancel_1 : decode cL_cancel 1 = .ok (.iconst 0, 1) := by decide +kernel
theorem dL_cancel_2 : decode cL_cancel 2 = .ok (.aload_n 0, 1) := by decide +kernel
theorem dL_cancel_3 : decode cL_cancel 3 = .ok (.iload_n 1, 1) := by decide +kernel
theorem dL_cancel_4 : decode cL_cancel 4 = .ok (.invokevirtual 33, 3) := by decide +kernel
theorem dL_cancel_7 : decode cL_cancel 7 = .ok (.i2l, 1) := by decide +kernel
theorem dL_cancel_8 : decode cL_cancel 8 = .ok (.lastore, 1) := by decide +kernel
theorem dL_cancel_9 : decode cL_cancel 9 = .ok (.goto 9, 3) := by decide +kernel
theorem dL_cancel_12 : decode cL_cancel 12 = .ok (.astore_n 3, 1) := by decide +kernel
theorem dL_cancel_13 : decode cL_cancel 13 = .ok (.iconst 1, 1) := by decide +kernel
theorem dL_cancel_14 : decode cL_cancel 14 = .ok (.ireturn, 1) := by decide +kernel
theorem dL_cancel_15 : decode cL_cancel 15 = .ok (.astore_n 3, 1) := by decide +kernel
theorem dL_cancel_16 : decode cL_cancel 16 = .ok (.iconst 2, 1) := by decide +kernel
theorem dL_cancel_17 : decode cL_cancel 17 = .ok (.ireturn, 1) := by decide +kernel
theorem dL_cancel_18 : decode cL_cancel 18 = .ok (.iconst 0, 1) := by decide +kernel
theorem dL_cancel_19 : decode cL_cancel 19 = .ok (.ireturn, 1) := by decide +kernel
theorem dL_told_0 : decode cL_told 0 = .ok (.aload_n 2, 1) := by decide +kernel
theorem dL_told_1 : decode cL_told 1 = .ok (.iconst 0, 1) := by decide +kernel
theorem dL_told_2 : decode cL_told 2 = .ok (.aload_n 0, 1) := by decide +kernel
theorem dL_told_3 : decode cL_told 3 = .ok (.iload_n 1, 1) := by decide +kernel
theorem dL_told_4 : decode cL_told 4 = .ok (.invokevirtual 36, 3) := by decide +kernel
theorem dL_told_7 : decode cL_told 7 = .ok (.i2l, 1) := by decide +kernel
theorem dL_told_8 : decode cL_told 8 = .ok (.lastore, 1) := by decide +kernel
theorem dL_told_9 : decode cL_told 9 = .ok (.goto 6, 3) := by decide +kernel
theorem dL_told_12 : decode cL_told 12 = .ok (.astore_n 3, 1) := by decide +kernel
theorem dL_told_13 : decode cL_told 13 = .ok (.iconst 1, 1) := by decide +kernel
theorem dL_told_14 : decode cL_told 14 = .ok (.ireturn, 1) := by decide +kernel
theorem dL_told_15 : decode cL_told 15 = .ok (.iconst 0, 1) := by decide +kernel
theorem dL_told_16 : decode cL_told 16 = .ok (.ireturn, 1) := by decide +kernel
theorem dL_wave_0 : decode cL_wave 0 = .ok (.aload_n 3, 1) := by decide +kernel
theorem dL_wave_1 : decode cL_wave 1 = .ok (.iconst 0, 1) := by decide +kernel
theorem dL_wave_2 : decode cL_wave 2 = .ok (.aload_n 0, 1) := by decide +kernel
theorem dL_wave_3 : decode cL_wave 3 = .ok (.iload_n 1, 1) := by decide +kernel
theorem dL_wave_4 : decode cL_wave 4 = .ok (.iload_n 2, 1) := by decide +kernel
theorem dL_wave_5 : decode cL_wave 5 = .ok (.invokevirtual 39, 3) := by decide +kernel
theorem dL_wave_8 : decode cL_wave 8 = .ok (.i2l, 1) := by decide +kernel
theorem dL_wave_9 : decode cL_wave 9 = .ok (.lastore, 1) := by decide +kernel
theorem dL_wave_10 : decode cL_wave 10 = .ok (.goto 11, 3) := by decide +kernel
theorem dL_wave_13 : decode cL_wave 13 = .ok (.astore 4, 2) := by decide +kernel
theorem dL_wave_15 : decode cL_wave 15 = .ok (.iconst 1, 1) := by decide +kernel
theorem dL_wave_16 : decode cL_wave 16 = .ok (.ireturn, 1) := by decide +kernel
theorem dL_wave_17 : decode cL_wave 17 = .ok (.astore 4, 2) := by decide +kernel
theorem dL_wave_19 : decode cL_wave 19 = .ok (.iconst 2, 1) := by decide +kernel
theorem dL_wave_20 : decode cL_wave 20 = .ok (.ireturn, 1) := by decide +kernel
theorem dL_wave_21 : decode cL_wave 21 = .ok (.iconst 0, 1) := by decide +kernel
theorem dL_wave_22 : decode cL_wave 22 = .ok (.ireturn, 1) := by decide +kernel
theorem dL_bar_0 : decode cL_bar 0 = .ok (.aload_n 3, 1) := by decide +kernel
theorem dL_bar_1 : decode cL_bar 1 = .ok (.iconst 0, 1) := by decide +kernel
theorem dL_bar_2 : decode cL_bar 2 = .ok (.aload_n 0, 1) := by decide +kernel
theorem dL_bar_3 : decode cL_bar 3 = .ok (.iload_n 1, 1) := by decide +kernel
theorem dL_bar_4 : decode cL_bar 4 = .ok (.iload_n 2, 1) := by decide +kernel
theorem dL_bar_5 : decode cL_bar 5 = .ok (.invokevirtual 42, 3) := by decide +kernel
theorem dL_bar_8 : decode cL_bar 8 = .ok (.i2l, 1) := by decide +kernel
theorem dL_bar_9 : decode cL_bar 9 = .ok (.lastore, 1) := by decide +kernel
theorem dL_bar_10 : decode cL_bar 10 = .ok (.goto 11, 3) := by decide +kernel
theorem dL_bar_13 : decode cL_bar 13 = .ok (.astore 4, 2) := by decide +kernel
theorem dL_bar_15 : decode cL_bar 15 = .ok (.iconst 1, 1) := by decide +kernel
theorem dL_bar_16 : decode cL_bar 16 = .ok (.ireturn, 1) := by decide +kernel
theorem dL_bar_17 : decode cL_bar 17 = .ok (.astore 4, 2) := by decide +kernel
theorem dL_bar_19 : decode cL_bar 19 = .ok (.iconst 2, 1) := by decide +kernel
theorem dL_bar_20 : decode cL_bar 20 = .ok (.ireturn, 1) := by decide +kernel
theorem dL_bar_21 : decode cL_bar 21 = .ok (.iconst 0, 1) := by decide +kernel
theorem dL_bar_22 : decode cL_bar 22 = .ok (.ireturn, 1) := by decide +kernel
theorem dL_ship_0 : decode cL_ship 0 = .ok (.aload_n 3, 1) := by decide +kernel
theorem dL_ship_1 : decode cL_ship 1 = .ok (.iconst 0, 1) := by decide +kernel
theorem dL_ship_2 : decode cL_ship 2 = .ok (.aload_n 0, 1) := by decide +kernel
theorem dL_ship_3 : decode cL_ship 3 = .ok (.iload_n 1, 1) := by decide +kernel
theorem dL_ship_4 : decode cL_ship 4 = .ok (.iload_n 2, 1) := by decide +kernel
theorem dL_ship_5 : decode cL_ship 5 = .ok (.invokevirtual 45, 3) := by decide +kernel
theorem dL_ship_8 : decode cL_ship 8 = .ok (.i2l, 1) := by decide +kernel
theorem dL_ship_9 : decode cL_ship 9 = .ok (.lastore, 1) := by decide +kernel
theorem dL_ship_10 : decode cL_ship 10 = .ok (.goto 11, 3) := by decide +kernel
theorem dL_ship_13 : decode cL_ship 13 = .ok (.astore 4, 2) := by decide +kernel
theorem dL_ship_15 : decode cL_ship 15 = .ok (.iconst 1, 1) := by decide +kernel
theorem dL_ship_16 : decode cL_ship 16 = .ok (.ireturn, 1) := by decide +kernel
theorem dL_ship_17 : decode cL_ship 17 = .ok (.astore 4, 2) := by decide +kernel
theorem dL_ship_19 : decode cL_ship 19 = .ok (.iconst 2, 1) := by decide +kernel
theorem dL_ship_20 : decode cL_ship 20 = .ok (.ireturn, 1) := by decide +kernel
theorem dL_ship_21 : decode cL_ship 21 = .ok (.iconst 0, 1) := by decide +kernel
theorem dL_ship_22 : decode cL_ship 22 = .ok (.ireturn, 1) := by decide +kernel
theorem dL_height_0 : decode cL_height 0 = .ok (.aload_n 2, 1) := by decide +kernel
theorem dL_height_1 : decode cL_height 1 = .ok (.iconst 0, 1) := by decide +kernel
theorem dL_height_2 : decode cL_height 2 = .ok (.aload_n 0, 1) := by decide +kernel
theorem dL_height_3 : decode cL_height 3 = .ok (.iload_n 1, 1) := by decide +kernel
theorem dL_height_4 : decode cL_height 4 = .ok (.invokevirtual 48, 3) := by decide +kernel
theorem dL_height_7 : decode cL_height 7 = .ok (.i2l, 1) := by decide +kernel
theorem dL_height_8 : decode cL_height 8 = .ok (.lastore, 1) := by decide +kernel
theorem dL_height_9 : decode cL_height 9 = .ok (.goto 6, 3) := by decide +kernel
theorem dL_height_12 : decode cL_height 12 = .ok (.astore_n 3, 1) := by decide +kernel
theorem dL_height_13 : decode cL_height 13 = .ok (.iconst 1, 1) := by decide +kernel
theorem dL_height_14 : decode cL_height 14 = .ok (.ireturn, 1) := by decide +kernel
theorem dL_height_15 : decode cL_height 15 = .ok (.iconst 0, 1) := by decide +kernel
theorem dL_height_16 : decode cL_height 16 = .ok (.ireturn, 1) := by decide +kernel
theorem dL_peak_0 : decode cL_peak 0 = .ok (.aload 4, 2) := by decide +kernel
theorem dL_peak_2 : decode cL_peak 2 = .ok (.iconst 0, 1) := by decide +kernel
theorem dL_peak_3 : decode cL_peak 3 = .ok (.aload_n 0, 1) := by decide +kernel
theorem dL_peak_4 : decode cL_peak 4 = .ok (.iload_n 1, 1) := by decide +kernel
theorem dL_peak_5 : decode cL_peak 5 = .ok (.iload_n 2, 1) := by decide +kernel
theorem dL_peak_6 : decode cL_peak 6 = .ok (.iload_n 3, 1) := by decide +kernel
theorem dL_peak_7 : decode cL_peak 7 = .ok (.invokevirtual 51, 3) := by decide +kernel
theorem dL_peak_10 : decode cL_peak 10 = .ok (.i2l, 1) := by decide +kernel
theorem dL_peak_11 : decode cL_peak 11 = .ok (.lastore, 1) := by decide +kernel
theorem dL_peak_12 : decode cL_peak 12 = .ok (.goto 7, 3) := by decide +kernel
theorem dL_peak_15 : decode cL_peak 15 = .ok (.astore 5, 2) := by decide +kernel
theorem dL_peak_17 : decode cL_peak 17 = .ok (.iconst 1, 1) := by decide +kernel
theorem dL_peak_18 : decode cL_peak 18 = .ok (.ireturn, 1) := by decide +kernel
theorem dL_peak_19 : decode cL_peak 19 = .ok (.iconst 0, 1) := by decide +kernel
theorem dL_peak_20 : decode cL_peak 20 = .ok (.ireturn, 1) := by decide +kernel
theorem dL_water_0 : decode cL_water 0 = .ok (.aload_n 3, 1) := by decide +kernel
theorem dL_water_1 : decode cL_water 1 = .ok (.iconst 0, 1) := by decide +kernel
theorem dL_water_2 : decode cL_water 2 = .ok (.aload_n 0, 1) := by decide +kernel
theorem dL_water_3 : decode cL_water 3 = .ok (.iload_n 1, 1) := by decide +kernel
theorem dL_water_4 : decode cL_water 4 = .ok (.iload_n 2, 1) := by decide +kernel
theorem dL_water_5 : decode cL_water 5 = .ok (.invokevirtual 54, 3) := by decide +kernel
theorem dL_water_8 : decode cL_water 8 = .ok (.i2l, 1) := by decide +kernel
theorem dL_water_9 : decode cL_water 9 = .ok (.lastore, 1) := by decide +kernel
theorem dL_water_10 : decode cL_water 10 = .ok (.goto 11, 3) := by decide +kernel
theorem dL_water_13 : decode cL_water 13 = .ok (.astore 4, 2) := by decide +kernel
theorem dL_water_15 : decode cL_water 15 = .ok (.iconst 1, 1) := by decide +kernel
theorem dL_water_16 : decode cL_water 16 = .ok (.ireturn, 1) := by decide +kernel
theorem dL_water_17 : decode cL_water 17 = .ok (.astore 4, 2) := by decide +kernel
theorem dL_water_19 : decode cL_water 19 = .ok (.iconst 2, 1) := by decide +kernel
theorem dL_water_20 : decode cL_water 20 = .ok (.ireturn, 1) := by decide +kernel
theorem dL_water_21 : decode cL_water 21 = .ok (.iconst 0, 1) := by decide +kernel
theorem dL_water_22 : decode cL_water 22 = .ok (.ireturn, 1) := by decide +kernel
theorem dL_above_0 : decode cL_above 0 = .ok (.aload 5, 2) := by decide +kernel
theorem dL_above_2 : decode cL_above 2 = .ok (.iconst 0, 1) := by decide +kernel
theorem dL_above_3 : decode cL_above 3 = .ok (.aload_n 0, 1) := by decide +kernel
theorem dL_above_4 : decode cL_above 4 = .ok (.iload_n 1, 1) := by decide +kernel
theorem dL_above_5 : decode cL_above 5 = .ok (.iload_n 2, 1) := by decide +kernel
theorem dL_above_6 : decode cL_above 6 = .ok (.iload_n 3, 1) := by decide +kernel
theorem dL_above_7 : decode cL_above 7 = .ok (.iload 4, 2) := by decide +kernel
theorem dL_above_9 : decode cL_above 9 = .ok (.invokevirtual 57, 3) := by decide +kernel
theorem dL_above_12 : decode cL_above 12 = .ok (.i2l, 1) := by decide +kernel
theorem dL_above_13 : decode cL_above 13 = .ok (.lastore, 1) := by decide +kernel
theorem dL_above_14 : decode cL_above 14 = .ok (.goto 11, 3) := by decide +kernel
theorem dL_above_17 : decode cL_above 17 = .ok (.astore 6, 2) := by decide +kernel
theorem dL_above_19 : decode cL_above 19 = .ok (.iconst 1, 1) := by decide +kernel
theorem dL_above_20 : decode cL_above 20 = .ok (.ireturn, 1) := by decide +kernel
theorem dL_above_21 : decode cL_above 21 = .ok (.astore 6, 2) := by decide +kernel
theorem dL_above_23 : decode cL_above 23 = .ok (.iconst 2, 1) := by decide +kernel
theorem dL_above_24 : decode cL_above 24 = .ok (.ireturn, 1) := by decide +kernel
theorem dL_above_25 : decode cL_above 25 = .ok (.iconst 0, 1) := by decide +kernel
theorem dL_above_26 : decode cL_above 26 = .ok (.ireturn, 1) := by decide +kernel
theorem dL_squat_0 : decode cL_squat 0 = .ok (.aload 5, 2) := by decide +kernel
theorem dL_squat_2 : decode cL_squat 2 = .ok (.iconst 0, 1) := by decide +kernel
theorem dL_squat_3 : decode cL_squat 3 = .ok (.aload_n 0, 1) := by decide +kernel
theorem dL_squat_4 : decode cL_squat 4 = .ok (.iload_n 1, 1) := by decide +kernel
theorem dL_squat_5 : decode cL_squat 5 = .ok (.iload_n 2, 1) := by decide +kernel
theorem dL_squat_6 : decode cL_squat 6 = .ok (.iload_n 3, 1) := by decide +kernel
theorem dL_squat_7 : decode cL_squat 7 = .ok (.iload 4, 2) := by decide +kernel
theorem dL_squat_9 : decode cL_squat 9 = .ok (.invokevirtual 61, 3) := by decide +kernel
theorem dL_squat_12 : decode cL_squat 12 = .ok (.i2l, 1) := by decide +kernel
theorem dL_squat_13 : decode cL_squat 13 = .ok (.lastore, 1) := by decide +kernel
theorem dL_squat_14 : decode cL_squat 14 = .ok (.goto 11, 3) := by decide +kernel
theorem dL_squat_17 : decode cL_squat 17 = .ok (.astore 6, 2) := by decide +kernel
theorem dL_squat_19 : decode cL_squat 19 = .ok (.iconst 1, 1) := by decide +kernel
theorem dL_squat_20 : decode cL_squat 20 = .ok (.ireturn, 1) := by decide +kernel
theorem dL_squat_21 : decode cL_squat 21 = .ok (.astore 6, 2) := by decide +kernel
theorem dL_squat_23 : decode cL_squat 23 = .ok (.iconst 2, 1) := by decide +kernel
theorem dL_squat_24 : decode cL_squat 24 = .ok (.ireturn, 1) := by decide +kernel
theorem dL_squat_25 : decode cL_squat 25 = .ok (.iconst 0, 1) := by decide +kernel
theorem dL_squat_26 : decode cL_squat 26 = .ok (.ireturn, 1) := by decide +kernel
theorem dL_left_0 : decode cL_left 0 = .ok (.aload 5, 2) := by decide +kernel
theorem dL_left_2 : decode cL_left 2 = .ok (.iconst 0, 1) := by decide +kernel
theorem dL_left_3 : decode cL_left 3 = .ok (.aload_n 0, 1) := by decide +kernel
theorem dL_left_4 : decode cL_left 4 = .ok (.iload_n 1, 1) := by decide +kernel
theorem dL_left_5 : decode cL_left 5 = .ok (.iload_n 2, 1) := by decide +kernel
theorem dL_left_6 : decode cL_left 6 = .ok (.iload_n 3, 1) := by decide +kernel
theorem dL_left_7 : decode cL_left 7 = .ok (.iload 4, 2) := by decide +kernel
theorem dL_left_9 : decode cL_left 9 = .ok (.invokevirtual 64, 3) := by decide +kernel
theorem dL_left_12 : decode cL_left 12 = .ok (.i2l, 1) := by decide +kernel
theorem dL_left_13 : decode cL_left 13 = .ok (.lastore, 1) := by decide +kernel
theorem dL_left_14 : decode cL_left 14 = .ok (.goto 11, 3) := by decide +kernel
theorem dL_left_17 : decode cL_left 17 = .ok (.astore 6, 2) := by decide +kernel
theorem dL_left_19 : decode cL_left 19 = .ok (.iconst 1, 1) := by decide +kernel
theorem dL_left_20 : decode cL_left 20 = .ok (.ireturn, 1) := by decide +kernel
theorem dL_left_21 : decode cL_left 21 = .ok (.astore 6, 2) := by decide +kernel
theorem dL_left_23 : decode cL_left 23 = .ok (.iconst 2, 1) := by decide +kernel
theorem dL_left_24 : decode cL_left 24 = .ok (.ireturn, 1) := by decide +kernel
theorem dL_left_25 : decode cL_left 25 = .ok (.iconst 0, 1) := by decide +kernel
theorem dL_left_26 : decode cL_left 26 = .ok (.ireturn, 1) := by decide +kernel
theorem dL_fastest_0 : decode cL_fastest 0 = .ok (.aload 4, 2) := by decide +kernel
theorem dL_fastest_2 : decode cL_fastest 2 = .ok (.iconst 0, 1) := by decide +kernel
theorem dL_fastest_3 : decode cL_fastest 3 = .ok (.aload_n 0, 1) := by decide +kernel
theorem dL_fastest_4 : decode cL_fastest 4 = .ok (.iload_n 1, 1) := by decide +kernel
theorem dL_fastest_5 : decode cL_fastest 5 = .ok (.iload_n 2, 1) := by decide +kernel
theorem dL_fastest_6 : decode cL_fastest 6 = .ok (.iload_n 3, 1) := by decide +kernel
theorem dL_fastest_7 : decode cL_fastest 7 = .ok (.invokevirtual 67, 3) := by decide +kernel
theorem dL_fastest_10 : decode cL_fastest 10 = .ok (.i2l, 1) := by decide +kernel
theorem dL_fastest_11 : decode cL_fastest 11 = .ok (.lastore, 1) := by decide +kernel
theorem dL_fastest_12 : decode cL_fastest 12 = .ok (.goto 11, 3) := by decide +kernel
theorem dL_fastest_15 : decode cL_fastest 15 = .ok (.astore 5, 2) := by decide +kernel
theorem dL_fastest_17 : decode cL_fastest 17 = .ok (.iconst 1, 1) := by decide +kernel
theorem dL_fastest_18 : decode cL_fastest 18 = .ok (.ireturn, 1) := by decide +kernel
theorem dL_fastest_19 : decode cL_fastest 19 = .ok (.astore 5, 2) := by decide +kernel
theorem dL_fastest_21 : decode cL_fastest 21 = .ok (.iconst 2, 1) := by decide +kernel
theorem dL_fastest_22 : decode cL_fastest 22 = .ok (.ireturn, 1) := by decide +kernel
theorem dL_fastest_23 : decode cL_fastest 23 = .ok (.iconst 0, 1) := by decide +kernel
theorem dL_fastest_24 : decode cL_fastest 24 = .ok (.ireturn, 1) := by decide +kernel
theorem dL_window_0 : decode cL_window 0 = .ok (.aload 7, 2) := by decide +kernel
theorem dL_window_2 : decode cL_window 2 = .ok (.iconst 0, 1) := by decide +kernel
theorem dL_window_3 : decode cL_window 3 = .ok (.aload_n 0, 1) := by decide +kernel
theorem dL_window_4 : decode cL_window 4 = .ok (.iload_n 1, 1) := by decide +kernel
theorem dL_window_5 : decode cL_window 5 = .ok (.iload_n 2, 1) := by decide +kernel
theorem dL_window_6 : decode cL_window 6 = .ok (.iload_n 3, 1) := by decide +kernel
theorem dL_window_7 : decode cL_window 7 = .ok (.iload 4, 2) := by decide +kernel
theorem dL_window_9 : decode cL_window 9 = .ok (.iload 5, 2) := by decide +kernel
theorem dL_window_11 : decode cL_window 11 = .ok (.iload 6, 2) := by decide +kernel
theorem dL_window_13 : decode cL_window 13 = .ok (.invokevirtual 70, 3) := by decide +kernel
theorem dL_window_16 : decode cL_window 16 = .ok (.i2l, 1) := by decide +kernel
theorem dL_window_17 : decode cL_window 17 = .ok (.lastore, 1) := by decide +kernel
theorem dL_window_18 : decode cL_window 18 = .ok (.goto 11, 3) := by decide +kernel
theorem dL_window_21 : decode cL_window 21 = .ok (.astore 8, 2) := by decide +kernel
theorem dL_window_23 : decode cL_window 23 = .ok (.iconst 1, 1) := by decide +kernel
theorem dL_window_24 : decode cL_window 24 = .ok (.ireturn, 1) := by decide +kernel
theorem dL_window_25 : decode cL_window 25 = .ok (.astore 8, 2) := by decide +kernel
theorem dL_window_27 : decode cL_window 27 = .ok (.iconst 2, 1) := by decide +kernel
theorem dL_window_28 : decode cL_window 28 = .ok (.ireturn, 1) := by decide +kernel
theorem dL_window_29 : decode cL_window 29 = .ok (.iconst 0, 1) := by decide +kernel
theorem dL_window_30 : decode cL_window 30 = .ok (.ireturn, 1) := by decide +kernel
theorem dL_joined_0 : decode cL_joined 0 = .ok (.aload 6, 2) := by decide +kernel
theorem dL_joined_2 : decode cL_joined 2 = .ok (.iconst 0, 1) := by decide +kernel
theorem dL_joined_3 : decode cL_joined 3 = .ok (.aload_n 0, 1) := by decide +kernel
theorem dL_joined_4 : decode cL_joined 4 = .ok (.iload_n 1, 1) := by decide +kernel
theorem dL_joined_5 : decode cL_joined 5 = .ok (.iload_n 2, 1) := by decide +kernel
theorem dL_joined_6 : decode cL_joined 6 = .ok (.iload_n 3, 1) := by decide +kernel
theorem dL_joined_7 : decode cL_joined 7 = .ok (.iload 4, 2) := by decide +kernel
theorem dL_joined_9 : decode cL_joined 9 = .ok (.iload 5, 2) := by decide +kernel
theorem dL_joined_11 : decode cL_joined 11 = .ok (.invokevirtual 74, 3) := by decide +kernel
theorem dL_joined_14 : decode cL_joined 14 = .ok (.i2l, 1) := by decide +kernel
theorem dL_joined_15 : decode cL_joined 15 = .ok (.lastore, 1) := by decide +kernel
theorem dL_joined_16 : decode cL_joined 16 = .ok (.goto 11, 3) := by decide +kernel
theorem dL_joined_19 : decode cL_joined 19 = .ok (.astore 7, 2) := by decide +kernel
theorem dL_joined_21 : decode cL_joined 21 = .ok (.iconst 1, 1) := by decide +kernel
theorem dL_joined_22 : decode cL_joined 22 = .ok (.ireturn, 1) := by decide +kernel
theorem dL_joined_23 : decode cL_joined 23 = .ok (.astore 7, 2) := by decide +kernel
theorem dL_joined_25 : decode cL_joined 25 = .ok (.iconst 2, 1) := by decide +kernel
theorem dL_joined_26 : decode cL_joined 26 = .ok (.ireturn, 1) := by decide +kernel
theorem dL_joined_27 : decode cL_joined 27 = .ok (.iconst 0, 1) := by decide +kernel
theorem dL_joined_28 : decode cL_joined 28 = .ok (.ireturn, 1) := by decide +kernel
theorem dL_lasts_0 : decode cL_lasts 0 = .ok (.aload_n 3, 1) := by decide +kernel
theorem dL_lasts_1 : decode cL_lasts 1 = .ok (.iconst 0, 1) := by decide +kernel
theorem dL_lasts_2 : decode cL_lasts 2 = .ok (.aload_n 0, 1) := by decide +kernel
theorem dL_lasts_3 : decode cL_lasts 3 = .ok (.iload_n 1, 1) := by decide +kernel
theorem dL_lasts_4 : decode cL_lasts 4 = .ok (.iload_n 2, 1) := by decide +kernel
theorem dL_lasts_5 : decode cL_lasts 5 = .ok (.invokevirtual 78, 3) := by decide +kernel
theorem dL_lasts_8 : decode cL_lasts 8 = .ok (.i2l, 1) := by decide +kernel
theorem dL_lasts_9 : decode cL_lasts 9 = .ok (.lastore, 1) := by decide +kernel
theorem dL_lasts_10 : decode cL_lasts 10 = .ok (.goto 11, 3) := by decide +kernel
theorem dL_lasts_13 : decode cL_lasts 13 = .ok (.astore 4, 2) := by decide +kernel
theorem dL_lasts_15 : decode cL_lasts 15 = .ok (.iconst 1, 1) := by decide +kernel
theorem dL_lasts_16 : decode cL_lasts 16 = .ok (.ireturn, 1) := by decide +kernel
theorem dL_lasts_17 : decode cL_lasts 17 = .ok (.astore 4, 2) := by decide +kernel
theorem dL_lasts_19 : decode cL_lasts 19 = .ok (.iconst 2, 1) := by decide +kernel
theorem dL_lasts_20 : decode cL_lasts 20 = .ok (.ireturn, 1) := by decide +kernel
theorem dL_lasts_21 : decode cL_lasts 21 = .ok (.iconst 0, 1) := by decide +kernel
theorem dL_lasts_22 : decode cL_lasts 22 = .ok (.ireturn, 1) := by decide +kernel
theorem dL_least_0 : decode cL_least 0 = .ok (.aload 4, 2) := by decide +kernel
theorem dL_least_2 : decode cL_least 2 = .ok (.iconst 0, 1) := by decide +kernel
theorem dL_least_3 : decode cL_least 3 = .ok (.aload_n 0, 1) := by decide +kernel
theorem dL_least_4 : decode cL_least 4 = .ok (.iload_n 1, 1) := by decide +kernel
theorem dL_least_5 : decode cL_least 5 = .ok (.iload_n 2, 1) := by decide +kernel
theorem dL_least_6 : decode cL_least 6 = .ok (.iload_n 3, 1) := by decide +kernel
theorem dL_least_7 : decode cL_least 7 = .ok (.invokevirtual 81, 3) := by decide +kernel
theorem dL_least_10 : decode cL_least 10 = .ok (.i2l, 1) := by decide +kernel
theorem dL_least_11 : decode cL_least 11 = .ok (.lastore, 1) := by decide +kernel
theorem dL_least_12 : decode cL_least 12 = .ok (.goto 11, 3) := by decide +kernel
theorem dL_least_15 : decode cL_least 15 = .ok (.astore 5, 2) := by decide +kernel
theorem dL_least_17 : decode cL_least 17 = .ok (.iconst 1, 1) := by decide +kernel
theorem dL_least_18 : decode cL_least 18 = .ok (.ireturn, 1) := by decide +kernel
theorem dL_least_19 : decode cL_least 19 = .ok (.astore 5, 2) := by decide +kernel
theorem dL_least_21 : decode cL_least 21 = .ok (.iconst 2, 1) := by decide +kernel
theorem dL_least_22 : decode cL_least 22 = .ok (.ireturn, 1) := by decide +kernel
theorem dL_least_23 : decode cL_least 23 = .ok (.iconst 0, 1) := by decide +kernel
theorem dL_least_24 : decode cL_least 24 = .ok (.ireturn, 1) := by decide +kernel
theorem dL_deepest_0 : decode cL_deepest 0 = .ok (.aload 4, 2) := by decide +kernel
theorem dL_deepest_2 : decode cL_deepest 2 = .ok (.iconst 0, 1) := by decide +kernel
theorem dL_deepest_3 : decode cL_deepest 3 = .ok (.aload_n 0, 1) := by decide +kernel
theorem dL_deepest_4 : decode cL_deepest 4 = .ok (.iload_n 1, 1) := by decide +kernel
theorem dL_deepest_5 : decode cL_deepest 5 = .ok (.iload_n 2, 1) := by decide +kernel
theorem dL_deepest_6 : decode cL_deepest 6 = .ok (.iload_n 3, 1) := by decide +kernel
theorem dL_deepest_7 : decode cL_deepest 7 = .ok (.invokevirtual 84, 3) := by decide +kernel
theorem dL_deepest_10 : decode cL_deepest 10 = .ok (.i2l, 1) := by decide +kernel
theorem dL_deepest_11 : decode cL_deepest 11 = .ok (.lastore, 1) := by decide +kernel
theorem dL_deepest_12 : decode cL_deepest 12 = .ok (.goto 11, 3) := by decide +kernel
theorem dL_deepest_15 : decode cL_deepest 15 = .ok (.astore 5, 2) := by decide +kernel
theorem dL_deepest_17 : decode cL_deepest 17 = .ok (.iconst 1, 1) := by decide +kernel
theorem dL_deepest_18 : decode cL_deepest 18 = .ok (.ireturn, 1) := by decide +kernel
theorem dL_deepest_19 : decode cL_deepest 19 = .ok (.astore 5, 2) := by decide +kernel
theorem dL_deepest_21 : decode cL_deepest 21 = .ok (.iconst 2, 1) := by decide +kernel
theorem dL_deepest_22 : decode cL_deepest 22 = .ok (.ireturn, 1) := by decide +kernel
theorem dL_deepest_23 : decode cL_deepest 23 = .ok (.iconst 0, 1) := by decide +kernel
theorem dL_deepest_24 : decode cL_deepest 24 = .ok (.ireturn, 1) := by decide +kernel
theorem dL_soonest_0 : decode cL_soonest 0 = .ok (.aload_n 3, 1) := by decide +kernel
theorem dL_soonest_1 : decode cL_soonest 1 = .ok (.iconst 0, 1) := by decide +kernel
theorem dL_soonest_2 : decode cL_soonest 2 = .ok (.aload_n 0, 1) := by decide +kernel
theorem dL_soonest_3 : decode cL_soonest 3 = .ok (.iload_n 1, 1) := by decide +kernel
theorem dL_soonest_4 : decode cL_soonest 4 = .ok (.iload_n 2, 1) := by decide +kernel
theorem dL_soonest_5 : decode cL_soonest 5 = .ok (.invokevirtual 87, 3) := by decide +kernel
theorem dL_soonest_8 : decode cL_soonest 8 = .ok (.i2l, 1) := by decide +kernel
theorem dL_soonest_9 : decode cL_soonest 9 = .ok (.lastore, 1) := by decide +kernel
theorem dL_soonest_10 : decode cL_soonest 10 = .ok (.goto 11, 3) := by decide +kernel
theorem dL_soonest_13 : decode cL_soonest 13 = .ok (.astore 4, 2) := by decide +kernel
theorem dL_soonest_15 : decode cL_soonest 15 = .ok (.iconst 1, 1) := by decide +kernel
theorem dL_soonest_16 : decode cL_soonest 16 = .ok (.ireturn, 1) := by decide +kernel
theorem dL_soonest_17 : decode cL_soonest 17 = .ok (.astore 4, 2) := by decide +kernel
theorem dL_soonest_19 : decode cL_soonest 19 = .ok (.iconst 2, 1) := by decide +kernel
theorem dL_soonest_20 : decode cL_soonest 20 = .ok (.ireturn, 1) := by decide +kernel
theorem dL_soonest_21 : decode cL_soonest 21 = .ok (.iconst 0, 1) := by decide +kernel
theorem dL_soonest_22 : decode cL_soonest 22 = .ok (.ireturn, 1) := by decide +kernel
theorem dL_convoy_0 : decode cL_convoy 0 = .ok (.aload 4, 2) := by decide +kernel
theorem dL_convoy_2 : decode cL_convoy 2 = .ok (.iconst 0, 1) := by decide +kernel
theorem dL_convoy_3 : decode cL_convoy 3 = .ok (.aload_n 0, 1) := by decide +kernel
theorem dL_convoy_4 : decode cL_convoy 4 = .ok (.iload_n 1, 1) := by decide +kernel
theorem dL_convoy_5 : decode cL_convoy 5 = .ok (.iload_n 2, 1) := by decide +kernel
theorem dL_convoy_6 : decode cL_convoy 6 = .ok (.iload_n 3, 1) := by decide +kernel
theorem dL_convoy_7 : decode cL_convoy 7 = .ok (.invokevirtual 90, 3) := by decide +kernel
theorem dL_convoy_10 : decode cL_convoy 10 = .ok (.i2l, 1) := by decide +kernel
theorem dL_convoy_11 : decode cL_convoy 11 = .ok (.lastore, 1) := by decide +kernel
theorem dL_convoy_12 : decode cL_convoy 12 = .ok (.goto 7, 3) := by decide +kernel
theorem dL_convoy_15 : decode cL_convoy 15 = .ok (.astore 5, 2) := by decide +kernel
theorem dL_convoy_17 : decode cL_convoy 17 = .ok (.iconst 1, 1) := by decide +kernel
theorem dL_convoy_18 : decode cL_convoy 18 = .ok (.ireturn, 1) := by decide +kernel
theorem dL_convoy_19 : decode cL_convoy 19 = .ok (.iconst 0, 1) := by decide +kernel
theorem dL_convoy_20 : decode cL_convoy 20 = .ok (.ireturn, 1) := by decide +kernel
theorem dL_order_0 : decode cL_order 0 = .ok (.aload 5, 2) := by decide +kernel
theorem dL_order_2 : decode cL_order 2 = .ok (.iconst 0, 1) := by decide +kernel
theorem dL_order_3 : decode cL_order 3 = .ok (.aload_n 0, 1) := by decide +kernel
theorem dL_order_4 : decode cL_order 4 = .ok (.iload_n 1, 1) := by decide +kernel
theorem dL_order_5 : decode cL_order 5 = .ok (.iload_n 2, 1) := by decide +kernel
theorem dL_order_6 : decode cL_order 6 = .ok (.iload_n 3, 1) := by decide +kernel
theorem dL_order_7 : decode cL_order 7 = .ok (.iload 4, 2) := by decide +kernel
theorem dL_order_9 : decode cL_order 9 = .ok (.invokevirtual 93, 3) := by decide +kernel
theorem dL_order_12 : decode cL_order 12 = .ok (.i2l, 1) := by decide +kernel
theorem dL_order_13 : decode cL_order 13 = .ok (.lastore, 1) := by decide +kernel
theorem dL_order_14 : decode cL_order 14 = .ok (.goto 11, 3) := by decide +kernel
theorem dL_order_17 : decode cL_order 17 = .ok (.astore 6, 2) := by decide +kernel
theorem dL_order_19 : decode cL_order 19 = .ok (.iconst 1, 1) := by decide +kernel
theorem dL_order_20 : decode cL_order 20 = .ok (.ireturn, 1) := by decide +kernel
theorem dL_order_21 : decode cL_order 21 = .ok (.astore 6, 2) := by decide +kernel
theorem dL_order_23 : decode cL_order 23 = .ok (.iconst 2, 1) := by decide +kernel
theorem dL_order_24 : decode cL_order 24 = .ok (.ireturn, 1) := by decide +kernel
theorem dL_order_25 : decode cL_order 25 = .ok (.iconst 0, 1) := by decide +kernel
theorem dL_order_26 : decode cL_order 26 = .ok (.ireturn, 1) := by decide +kernel
theorem dL_close_0 : decode cL_close 0 = .ok (.aload 4, 2) := by decide +kernel
theorem dL_close_2 : decode cL_close 2 = .ok (.iconst 0, 1) := by decide +kernel
theorem dL_close_3 : decode cL_close 3 = .ok (.aload_n 0, 1) := by decide +kernel
theorem dL_close_4 : decode cL_close 4 = .ok (.iload_n 1, 1) := by decide +kernel
theorem dL_close_5 : decode cL_close 5 = .ok (.iload_n 2, 1) := by decide +kernel
theorem dL_close_6 : decode cL_close 6 = .ok (.iload_n 3, 1) := by decide +kernel
theorem dL_close_7 : decode cL_close 7 = .ok (.invokevirtual 96, 3) := by decide +kernel
theorem dL_close_10 : decode cL_close 10 = .ok (.i2l, 1) := by decide +kernel
theorem dL_close_11 : decode cL_close 11 = .ok (.lastore, 1) := by decide +kernel
theorem dL_close_12 : decode cL_close 12 = .ok (.goto 11, 3) := by decide +kernel
theorem dL_close_15 : decode cL_close 15 = .ok (.astore 5, 2) := by decide +kernel
theorem dL_close_17 : decode cL_close 17 = .ok (.iconst 1, 1) := by decide +kernel
theorem dL_close_18 : decode cL_close 18 = .ok (.ireturn, 1) := by decide +kernel
theorem dL_close_19 : decode cL_close 19 = .ok (.astore 5, 2) := by decide +kernel
theorem dL_close_21 : decode cL_close 21 = .ok (.iconst 2, 1) := by decide +kernel
theorem dL_close_22 : decode cL_close 22 = .ok (.ireturn, 1) := by decide +kernel
theorem dL_close_23 : decode cL_close 23 = .ok (.iconst 0, 1) := by decide +kernel
theorem dL_close_24 : decode cL_close 24 = .ok (.ireturn, 1) := by decide +kernel
