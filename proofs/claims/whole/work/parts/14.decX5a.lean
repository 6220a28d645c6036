theorem dX5_init_0 : decode cX5_init 0 = .ok (.aload_n 0, 1) := by decide +kernel
theorem dX5_init_1 : decode cX5_init 1 = .ok (.invokespecial 1, 3) := by decide +kernel
theorem dX5_init_4 : decode cX5_init 4 = .ok (.aload_n 0, 1) := by decide +kernel
theorem dX5_init_5 : decode cX5_init 5 = .ok (.new 7, 3) := by decide +kernel
theorem dX5_init_8 : decode cX5_init 8 = .ok (.dup, 1) := by decide +kernel
theorem dX5_init_9 : decode cX5_init 9 = .ok (.invokespecial 9, 3) := by decide +kernel
theorem dX5_init_12 : decode cX5_init 12 = .ok (.putfield 10, 3) := by decide +kernel
theorem dX5_init_15 : decode cX5_init 15 = .ok (.aload_n 0, 1) := by decide +kernel
theorem dX5_init_16 : decode cX5_init 16 = .ok (.new 16, 3) := by decide +kernel
theorem dX5_init_19 : decode cX5_init 19 = .ok (.dup, 1) := by decide +kernel
theorem dX5_init_20 : decode cX5_init 20 = .ok (.invokespecial 18, 3) := by decide +kernel
theorem dX5_init_23 : decode cX5_init 23 = .ok (.putfield 19, 3) := by decide +kernel
theorem dX5_init_26 : decode cX5_init 26 = .ok (.aload_n 0, 1) := by decide +kernel
theorem dX5_init_27 : decode cX5_init 27 = .ok (.sipush 600, 3) := by decide +kernel
theorem dX5_init_30 : decode cX5_init 30 = .ok (.newarray .byte, 2) := by decide +kernel
theorem dX5_init_32 : decode cX5_init 32 = .ok (.putfield 23, 3) := by decide +kernel
theorem dX5_init_35 : decode cX5_init 35 = .ok (.aload_n 0, 1) := by decide +kernel
theorem dX5_init_36 : decode cX5_init 36 = .ok (.new 27, 3) := by decide +kernel
theorem dX5_init_39 : decode cX5_init 39 = .ok (.dup, 1) := by decide +kernel
theorem dX5_init_40 : decode cX5_init 40 = .ok (.aload_n 0, 1) := by decide +kernel
theorem dX5_init_41 : decode cX5_init 41 = .ok (.getfield 23, 3) := by decide +kernel
theorem dX5_init_44 : decode cX5_init 44 = .ok (.invokespecial 29, 3) := by decide +kernel
theorem dX5_init_47 : decode cX5_init 47 = .ok (.putfield 32, 3) := by decide +kernel
theorem dX5_init_50 : decode cX5_init 50 = .ok (.aload_n 0, 1) := by decide +kernel
theorem dX5_init_51 : decode cX5_init 51 = .ok (.new 36, 3) := by decide +kernel
theorem dX5_init_54 : decode cX5_init 54 = .ok (.dup, 1) := by decide +kernel
theorem dX5_init_55 : decode cX5_init 55 = .ok (.aload_n 0, 1) := by decide +kernel
theorem dX5_init_56 : decode cX5_init 56 = .ok (.getfield 10, 3) := by decide +kernel
theorem dX5_init_59 : decode cX5_init 59 = .ok (.invokespecial 38, 3) := by decide +kernel
theorem dX5_init_62 : decode cX5_init 62 = .ok (.putfield 41, 3) := by decide +kernel
theorem dX5_init_65 : decode cX5_init 65 = .ok (.aload_n 0, 1) := by decide +kernel
theorem dX5_init_66 : decode cX5_init 66 = .ok (.new 45, 3) := by decide +kernel
theorem dX5_init_69 : decode cX5_init 69 = .ok (.dup, 1) := by decide +kernel
theorem dX5_init_70 : decode cX5_init 70 = .ok (.aload_n 0, 1) := by decide +kernel
theorem dX5_init_71 : decode cX5_init 71 = .ok (.getfield 10, 3) := by decide +kernel
theorem dX5_init_74 : decode cX5_init 74 = .ok (.aload_n 0, 1) := by decide +kernel
theorem dX5_init_75 : decode cX5_init 75 = .ok (.getfield 41, 3) := by decide +kernel
theorem dX5_init_78 : decode cX5_init 78 = .ok (.invokespecial 47, 3) := by decide +kernel
theorem dX5_init_81 : decode cX5_init 81 = .ok (.putfield 50, 3) := by decide +kernel
theorem dX5_init_84 : decode cX5_init 84 = .ok (.aload_n 0, 1) := by decide +kernel
theorem dX5_init_85 : decode cX5_init 85 = .ok (.iconst (-1), 1) := by decide +kernel
theorem dX5_init_86 : decode cX5_init 86 = .ok (.putfield 54, 3) := by decide +kernel
theorem dX5_init_89 : decode cX5_init 89 = .ok (.return_, 1) := by decide +kernel
theorem dX5_feed_0 : decode cX5_feed 0 = .ok (.aload_n 0, 1) := by decide +kernel
theorem dX5_feed_1 : decode cX5_feed 1 = .ok (.getfield 58, 3) := by decide +kernel
theorem dX5_feed_4 : decode cX5_feed 4 = .ok (.bipush 20, 2) := by decide +kernel
theorem dX5_feed_6 : decode cX5_feed 6 = .ok (.iadd, 1) := by decide +kernel
theorem dX5_feed_7 : decode cX5_feed 7 = .ok (.sipush 600, 3) := by decide +kernel
theorem dX5_feed_10 : decode cX5_feed 10 = .ok (.if_icmp .le 5, 3) := by decide +kernel
theorem dX5_feed_13 : decode cX5_feed 13 = .ok (.iconst (-1), 1) := by decide +kernel
theorem dX5_feed_14 : decode cX5_feed 14 = .ok (.ireturn, 1) := by decide +kernel
theorem dX5_feed_15 : decode cX5_feed 15 = .ok (.aload_n 0, 1) := by decide +kernel
theorem dX5_feed_16 : decode cX5_feed 16 = .ok (.iload_n 1, 1) := by decide +kernel
theorem dX5_feed_17 : decode cX5_feed 17 = .ok (.invokevirtual 61, 3) := by decide +kernel
theorem dX5_feed_20 : decode cX5_feed 20 = .ok (.aload_n 0, 1) := by decide +kernel
theorem dX5_feed_21 : decode cX5_feed 21 = .ok (.iload_n 2, 1) := by decide +kernel
theorem dX5_feed_22 : decode cX5_feed 22 = .ok (.invokevirtual 61, 3) := by decide +kernel
theorem dX5_feed_25 : decode cX5_feed 25 = .ok (.aload_n 0, 1) := by decide +kernel
theorem dX5_feed_26 : decode cX5_feed 26 = .ok (.iload_n 3, 1) := by decide +kernel
theorem dX5_feed_27 : decode cX5_feed 27 = .ok (.invokevirtual 61, 3) := by decide +kernel
theorem dX5_feed_30 : decode cX5_feed 30 = .ok (.aload_n 0, 1) := by decide +kernel
theorem dX5_feed_31 : decode cX5_feed 31 = .ok (.iload 4, 2) := by decide +kernel
theorem dX5_feed_33 : decode cX5_feed 33 = .ok (.invokevirtual 61, 3) := by decide +kernel
theorem dX5_feed_36 : decode cX5_feed 36 = .ok (.aload_n 0, 1) := by decide +kernel
theorem dX5_feed_37 : decode cX5_feed 37 = .ok (.iload 5, 2) := by decide +kernel
theorem dX5_feed_39 : decode cX5_feed 39 = .ok (.invokevirtual 61, 3) := by decide +kernel
theorem dX5_feed_42 : decode cX5_feed 42 = .ok (.aload_n 0, 1) := by decide +kernel
theorem dX5_feed_43 : decode cX5_feed 43 = .ok (.getfield 58, 3) := by decide +kernel
theorem dX5_feed_46 : decode cX5_feed 46 = .ok (.ireturn, 1) := by decide +kernel
theorem dX5_text_0 : decode cX5_text 0 = .ok (.aload_n 0, 1) := by decide +kernel
theorem dX5_text_1 : decode cX5_text 1 = .ok (.iload_n 1, 1) := by decide +kernel
theorem dX5_text_2 : decode cX5_text 2 = .ok (.iconst 0, 1) := by decide +kernel
theorem dX5_text_3 : decode cX5_text 3 = .ok (.aload_n 0, 1) := by decide +kernel
theorem dX5_text_4 : decode cX5_text 4 = .ok (.getfield 58, 3) := by decide +kernel
theorem dX5_text_7 : decode cX5_text 7 = .ok (.invokevirtual 65, 3) := by decide +kernel
theorem dX5_text_10 : decode cX5_text 10 = .ok (.aload_n 0, 1) := by decide +kernel
theorem dX5_text_11 : decode cX5_text 11 = .ok (.iconst 0, 1) := by decide +kernel
theorem dX5_text_12 : decode cX5_text 12 = .ok (.putfield 58, 3) := by decide +kernel
theorem dX5_text_15 : decode cX5_text 15 = .ok (.aload_n 0, 1) := by decide +kernel
theorem dX5_text_16 : decode cX5_text 16 = .ok (.getfield 32, 3) := by decide +kernel
theorem dX5_text_19 : decode cX5_text 19 = .ok (.iload_n 1, 1) := by decide +kernel
theorem dX5_text_20 : decode cX5_text 20 = .ok (.invokevirtual 69, 3) := by decide +kernel
theorem dX5_text_23 : decode cX5_text 23 = .ok (.istore_n 2, 1) := by decide +kernel
theorem dX5_text_24 : decode cX5_text 24 = .ok (.iload_n 2, 1) := by decide +kernel
theorem dX5_text_25 : decode cX5_text 25 = .ok (.ifCond .eq 19, 3) := by decide +kernel
theorem dX5_text_28 : decode cX5_text 28 = .ok (.aload_n 0, 1) := by decide +kernel
theorem dX5_text_29 : decode cX5_text 29 = .ok (.aload_n 0, 1) := by decide +kernel
theorem dX5_text_30 : decode cX5_text 30 = .ok (.getfield 32, 3) := by decide +kernel
theorem dX5_text_33 : decode cX5_text 33 = .ok (.getfield 73, 3) := by decide +kernel
theorem dX5_text_36 : decode cX5_text 36 = .ok (.putfield 54, 3) := by decide +kernel
theorem dX5_text_39 : decode cX5_text 39 = .ok (.iload_n 2, 1) := by decide +kernel
theorem dX5_text_40 : decode cX5_text 40 = .ok (.bipush 10, 2) := by decide +kernel
theorem dX5_text_42 : decode cX5_text 42 = .ok (.isub, 1) := by decide +kernel
theorem dX5_text_43 : decode cX5_text 43 = .ok (.ireturn, 1) := by decide +kernel
theorem dX5_text_44 : decode cX5_text 44 = .ok (.aload_n 0, 1) := by decide +kernel
theorem dX5_text_45 : decode cX5_text 45 = .ok (.iconst (-1), 1) := by decide +kernel
theorem dX5_text_46 : decode cX5_text 46 = .ok (.putfield 54, 3) := by decide +kernel
theorem dX5_text_49 : decode cX5_text 49 = .ok (.aload_n 0, 1) := by decide +kernel
theorem dX5_text_50 : decode cX5_text 50 = .ok (.getfield 19, 3) := by decide +kernel
theorem dX5_text_53 : decode cX5_text 53 = .ok (.aload_n 0, 1) := by decide +kernel
theorem dX5_text_54 : decode cX5_text 54 = .ok (.getfield 10, 3) := by decide +kernel
theorem dX5_text_57 : decode cX5_text 57 = .ok (.invokevirtual 74, 3) := by decide +kernel
theorem dX5_text_60 : decode cX5_text 60 = .ok (.aload_n 0, 1) := by decide +kernel
theorem dX5_text_61 : decode cX5_text 61 = .ok (.dup, 1) := by decide +kernel
theorem dX5_text_62 : decode cX5_text 62 = .ok (.getfield 77, 3) := by decide +kernel
theorem dX5_text_65 : decode cX5_text 65 = .ok (.iconst 1, 1) := by decide +kernel
theorem dX5_text_66 : decode cX5_text 66 = .ok (.iadd, 1) := by decide +kernel
theorem dX5_text_67 : decode cX5_text 67 = .ok (.putfield 77, 3) := by decide +kernel
theorem dX5_text_70 : decode cX5_text 70 = .ok (.aload_n 0, 1) := by decide +kernel
theorem dX5_text_71 : decode cX5_text 71 = .ok (.getfield 10, 3) := by decide +kernel
theorem dX5_text_74 : decode cX5_text 74 = .ok (.aload_n 0, 1) := by decide +kernel
theorem dX5_text_75 : decode cX5_text 75 = .ok (.getfield 32, 3) := by decide +kernel
theorem dX5_text_78 : decode cX5_text 78 = .ok (.getfield 80, 3) := by decide +kernel
theorem dX5_text_81 : decode cX5_text 81 = .ok (.invokevirtual 83, 3) := by decide +kernel
theorem dX5_text_84 : decode cX5_text 84 = .ok (.aload_n 0, 1) := by decide +kernel
theorem dX5_text_85 : decode cX5_text 85 = .ok (.getfield 10, 3) := by decide +kernel
theorem dX5_text_88 : decode cX5_text 88 = .ok (.aload_n 0, 1) := by decide +kernel
theorem dX5_text_89 : decode cX5_text 89 = .ok (.getfield 77, 3) := by decide +kernel
theorem dX5_text_92 : decode cX5_text 92 = .ok (.putfield 86, 3) := by decide +kernel
theorem dX5_text_95 : decode cX5_text 95 = .ok (.aload_n 0, 1) := by decide +kernel
theorem dX5_text_96 : decode cX5_text 96 = .ok (.getfield 10, 3) := by decide +kernel
theorem dX5_text_99 : decode cX5_text 99 = .ok (.getfield 89, 3) := by decide +kernel
theorem dX5_text_102 : decode cX5_text 102 = .ok (.aload_n 0, 1) := by decide +kernel
theorem dX5_text_103 : decode cX5_text 103 = .ok (.getfield 10, 3) := by decide +kernel
theorem dX5_text_106 : decode cX5_text 106 = .ok (.getfield 92, 3) := by decide +kernel
theorem dX5_text_109 : decode cX5_text 109 = .ok (.iadd, 1) := by decide +kernel
theorem dX5_text_110 : decode cX5_text 110 = .ok (.ireturn, 1) := by decide +kernel
theorem dX5_fault_0 : decode cX5_fault 0 = .ok (.aload_n 0, 1) := by decide +kernel
theorem dX5_fault_1 : decode cX5_fault 1 = .ok (.getfield 54, 3) := by decide +kernel
theorem dX5_fault_4 : decode cX5_fault 4 = .ok (.ireturn, 1) := by decide +kernel
theorem dX5_sound_0 : decode cX5_sound 0 = .ok (.aload_n 0, 1) := by decide +kernel
theorem dX5_sound_1 : decode cX5_sound 1 = .ok (.iload_n 1, 1) := by decide +kernel
theorem dX5_sound_2 : decode cX5_sound 2 = .ok (.invokevirtual 95, 3) := by decide +kernel
theorem dX5_sound_5 : decode cX5_sound 5 = .ok (.aload_n 0, 1) := by decide +kernel
theorem dX5_sound_6 : decode cX5_sound 6 = .ok (.iload_n 2, 1) := by decide +kernel
theorem dX5_sound_7 : decode cX5_sound 7 = .ok (.bipush 100, 2) := by decide +kernel
theorem dX5_sound_9 : decode cX5_sound 9 = .ok (.sipush 3000, 3) := by decide +kernel
theorem dX5_sound_12 : decode cX5_sound 12 = .ok (.invokevirtual 65, 3) := by decide +kernel
theorem dX5_sound_15 : decode cX5_sound 15 = .ok (.aload_n 0, 1) := by decide +kernel
theorem dX5_sound_16 : decode cX5_sound 16 = .ok (.getfield 19, 3) := by decide +kernel
theorem dX5_sound_19 : decode cX5_sound 19 = .ok (.aload_n 0, 1) := by decide +kernel
theorem dX5_sound_20 : decode cX5_sound 20 = .ok (.getfield 10, 3) := by decide +kernel
theorem dX5_sound_23 : decode cX5_sound 23 = .ok (.invokevirtual 74, 3) := by decide +kernel
theorem dX5_sound_26 : decode cX5_sound 26 = .ok (.aload_n 0, 1) := by decide +kernel
theorem dX5_sound_27 : decode cX5_sound 27 = .ok (.getfield 10, 3) := by decide +kernel
theorem dX5_sound_30 : decode cX5_sound 30 = .ok (.iload_n 1, 1) := by decide +kernel
theorem dX5_sound_31 : decode cX5_sound 31 = .ok (.iconst 1, 1) := by decide +kernel
theorem dX5_sound_32 : decode cX5_sound 32 = .ok (.invokevirtual 98, 3) := by decide +kernel
theorem dX5_sound_35 : decode cX5_sound 35 = .ok (.istore_n 3, 1) := by decide +kernel
theorem dX5_sound_36 : decode cX5_sound 36 = .ok (.aload_n 0, 1) := by decide +kernel
theorem dX5_sound_37 : decode cX5_sound 37 = .ok (.getfield 10, 3) := by decide +kernel
theorem dX5_sound_40 : decode cX5_sound 40 = .ok (.getfield 102, 3) := by decide +kernel
theorem dX5_sound_43 : decode cX5_sound 43 = .ok (.iload_n 1, 1) := by decide +kernel
theorem dX5_sound_44 : decode cX5_sound 44 = .ok (.bipush 6, 2) := by decide +kernel
theorem dX5_sound_46 : decode cX5_sound 46 = .ok (.imul, 1) := by decide +kernel
theorem dX5_sound_47 : decode cX5_sound 47 = .ok (.iconst 1, 1) := by decide +kernel
theorem dX5_sound_48 : decode cX5_sound 48 = .ok (.iadd, 1) := by decide +kernel
theorem dX5_sound_49 : decode cX5_sound 49 = .ok (.iload_n 2, 1) := by decide +kernel
theorem dX5_sound_50 : decode cX5_sound 50 = .ok (.iastore, 1) := by decide +kernel
theorem dX5_sound_51 : decode cX5_sound 51 = .ok (.iload_n 3, 1) := by decide +kernel
theorem dX5_sound_52 : decode cX5_sound 52 = .ok (.ireturn, 1) := by decide +kernel
theorem dX5_load_0 : decode cX5_load 0 = .ok (.aload_n 0, 1) := by decide +kernel
theorem dX5_load_1 : decode cX5_load 1 = .ok (.iload_n 1, 1) := by decide +kernel
theorem dX5_load_2 : decode cX5_load 2 = .ok (.invokevirtual 106, 3) := by decide +kernel
theorem dX5_load_5 : decode cX5_load 5 = .ok (.aload_n 0, 1) := by decide +kernel
theorem dX5_load_6 : decode cX5_load 6 = .ok (.iload_n 2, 1) := by decide +kernel
theorem dX5_load_7 : decode cX5_load 7 = .ok (.bipush 100, 2) := by decide +kernel
theorem dX5_load_9 : decode cX5_load 9 = .ok (.sipush 2500, 3) := by decide +kernel
theorem dX5_load_12 : decode cX5_load 12 = .ok (.invokevirtual 65, 3) := by decide +kernel
theorem dX5_load_15 : decode cX5_load 15 = .ok (.aload_n 0, 1) := by decide +kernel
theorem dX5_load_16 : decode cX5_load 16 = .ok (.getfield 19, 3) := by decide +kernel
theorem dX5_load_19 : decode cX5_load 19 = .ok (.aload_n 0, 1) := by decide +kernel
theorem dX5_load_20 : decode cX5_load 20 = .ok (.getfield 10, 3) := by decide +kernel
theorem dX5_load_23 : decode cX5_load 23 = .ok (.invokevirtual 74, 3) := by decide +kernel
theorem dX5_load_26 : decode cX5_load 26 = .ok (.aload_n 0, 1) := by decide +kernel
theorem dX5_load_27 : decode cX5_load 27 = .ok (.getfield 10, 3) := by decide +kernel
theorem dX5_load_30 : decode cX5_load 30 = .ok (.iload_n 1, 1) := by decide +kernel
theorem dX5_load_31 : decode cX5_load 31 = .ok (.iconst 0, 1) := by decide +kernel
theorem dX5_load_32 : decode cX5_load 32 = .ok (.invokevirtual 109, 3) := by decide +kernel
theorem dX5_load_35 : decode cX5_load 35 = .ok (.istore_n 3, 1) := by decide +kernel
theorem dX5_load_36 : decode cX5_load 36 = .ok (.aload_n 0, 1) := by decide +kernel
theorem dX5_load_37 : decode cX5_load 37 = .ok (.getfield 10, 3) := by decide +kernel
theorem dX5_load_40 : decode cX5_load 40 = .ok (.getfield 112, 3) := by decide +kernel
theorem dX5_load_43 : decode cX5_load 43 = .ok (.iload_n 1, 1) := by decide +kernel
theorem dX5_load_44 : decode cX5_load 44 = .ok (.bipush 8, 2) := by decide +kernel
theorem dX5_load_46 : decode cX5_load 46 = .ok (.imul, 1) := by decide +kernel
theorem dX5_load_47 : decode cX5_load 47 = .ok (.iconst 0, 1) := by decide +kernel
theorem dX5_load_48 : decode cX5_load 48 = .ok (.iadd, 1) := by decide +kernel
theorem dX5_load_49 : decode cX5_load 49 = .ok (.iload_n 2, 1) := by decide +kernel
theorem dX5_load_50 : decode cX5_load 50 = .ok (.iastore, 1) := by decide +kernel
theorem dX5_load_51 : decode cX5_load 51 = .ok (.iload_n 3, 1) := by decide +kernel
theorem dX5_load_52 : decode cX5_load 52 = .ok (.ireturn, 1) := by decide +kernel
theorem dX5_surge_0 : decode cX5_surge 0 = .ok (.aload_n 0, 1) := by decide +kernel
theorem dX5_surge_1 : decode cX5_surge 1 = .ok (.iload_n 1, 1) := by decide +kernel
theorem dX5_surge_2 : decode cX5_surge 2 = .ok (.sipush (-300), 3) := by decide +kernel
theorem dX5_surge_5 : decode cX5_surge 5 = .ok (.sipush 300, 3) := by decide +kernel
theorem dX5_surge_8 : decode cX5_surge 8 = .ok (.invokevirtual 65, 3) := by decide +kernel
theorem dX5_surge_11 : decode cX5_surge 11 = .ok (.aload_n 0, 1) := by decide +kernel
theorem dX5_surge_12 : decode cX5_surge 12 = .ok (.getfield 19, 3) := by decide +kernel
theorem dX5_surge_15 : decode cX5_surge 15 = .ok (.aload_n 0, 1) := by decide +kernel
theorem dX5_surge_16 : decode cX5_surge 16 = .ok (.getfield 10, 3) := by decide +kernel
theorem dX5_surge_19 : decode cX5_surge 19 = .ok (.invokevirtual 74, 3) := by decide +kernel
theorem dX5_surge_22 : decode cX5_surge 22 = .ok (.aload_n 0, 1) := by decide +kernel
theorem dX5_surge_23 : decode cX5_surge 23 = .ok (.getfield 10, 3) := by decide +kernel
theorem dX5_surge_26 : decode cX5_surge 26 = .ok (.getfield 115, 3) := by decide +kernel
theorem dX5_surge_29 : decode cX5_surge 29 = .ok (.istore_n 2, 1) := by decide +kernel
theorem dX5_surge_30 : decode cX5_surge 30 = .ok (.aload_n 0, 1) := by decide +kernel
theorem dX5_surge_31 : decode cX5_surge 31 = .ok (.getfield 10, 3) := by decide +kernel
theorem dX5_surge_34 : decode cX5_surge 34 = .ok (.iload_n 1, 1) := by decide +kernel
theorem dX5_surge_35 : decode cX5_surge 35 = .ok (.putfield 115, 3) := by decide +kernel
theorem dX5_surge_38 : decode cX5_surge 38 = .ok (.iload_n 2, 1) := by decide +kernel
theorem dX5_surge_39 : decode cX5_surge 39 = .ok (.ireturn, 1) := by decide +kernel
theorem dX5_book_0 : decode cX5_book 0 = .ok (.aload_n 0, 1) := by decide +kernel
theorem dX5_book_1 : decode cX5_book 1 = .ok (.iload_n 1, 1) := by decide +kernel
theorem dX5_book_2 : decode cX5_book 2 = .ok (.invokevirtual 106, 3) := by decide +kernel
theorem dX5_book_5 : decode cX5_book 5 = .ok (.aload_n 0, 1) := by decide +kernel
theorem dX5_book_6 : decode cX5_book 6 = .ok (.iload_n 2, 1) := by decide +kernel
theorem dX5_book_7 : decode cX5_book 7 = .ok (.iconst 0, 1) := by decide +kernel
theorem dX5_book_8 : decode cX5_book 8 = .ok (.sipush 2000, 3) := by decide +kernel
theorem dX5_book_11 : decode cX5_book 11 = .ok (.invokevirtual 65, 3) := by decide +kernel
theorem dX5_book_14 : decode cX5_book 14 = .ok (.aload_n 0, 1) := by decide +kernel
theorem dX5_book_15 : decode cX5_book 15 = .ok (.iload_n 3, 1) := by decide +kernel
theorem dX5_book_16 : decode cX5_book 16 = .ok (.aload_n 0, 1) := by decide +kernel
theorem dX5_book_17 : decode cX5_book 17 = .ok (.getfield 10, 3) := by decide +kernel
theorem dX5_book_20 : decode cX5_book 20 = .ok (.iload_n 1, 1) := by decide +kernel
theorem dX5_book_21 : decode cX5_book 21 = .ok (.iconst 3, 1) := by decide +kernel
theorem dX5_book_22 : decode cX5_book 22 = .ok (.invokevirtual 109, 3) := by decide +kernel
theorem dX5_book_25 : decode cX5_book 25 = .ok (.aload_n 0, 1) := by decide +kernel
theorem dX5_book_26 : decode cX5_book 26 = .ok (.getfield 10, 3) := by decide +kernel
theorem dX5_book_29 : decode cX5_book 29 = .ok (.iload_n 1, 1) := by decide +kernel
theorem dX5_book_30 : decode cX5_book 30 = .ok (.iconst 4, 1) := by decide +kernel
theorem dX5_book_31 : decode cX5_book 31 = .ok (.invokevirtual 109, 3) := by decide +kernel
theorem dX5_book_34 : decode cX5_book 34 = .ok (.invokevirtual 65, 3) := by decide +kernel
theorem dX5_book_37 : decode cX5_book 37 = .ok (.aload_n 0, 1) := by decide +kernel
theorem dX5_book_38 : decode cX5_book 38 = .ok (.getfield 10, 3) := by decide +kernel
theorem dX5_book_41 : decode cX5_book 41 = .ok (.iload_n 1, 1) := by decide +kernel
theorem dX5_book_42 : decode cX5_book 42 = .ok (.invokevirtual 118, 3) := by decide +kernel
theorem dX5_book_45 : decode cX5_book 45 = .ok (.ifCond .ne 26, 3) := by decide +kernel
theorem dX5_book_48 : decode cX5_book 48 = .ok (.aload_n 0, 1) := by decide +kernel
theorem dX5_book_49 : decode cX5_book 49 = .ok (.getfield 50, 3) := by decide +kernel
theorem dX5_book_52 : decode cX5_book 52 = .ok (.iload_n 1, 1) := by decide +kernel
theorem dX5_book_53 : decode cX5_book 53 = .ok (.iload_n 2, 1) := by decide +kernel
theorem dX5_book_54 : decode cX5_book 54 = .ok (.iload_n 3, 1) := by decide +kernel
theorem dX5_book_55 : decode cX5_book 55 = .ok (.invokevirtual 122, 3) := by decide +kernel
theorem dX5_book_58 : decode cX5_book 58 = .ok (.ifCond .eq 13, 3) := by decide +kernel
theorem dX5_book_61 : decode cX5_book 61 = .ok (.aload_n 0, 1) := by decide +kernel
theorem dX5_book_62 : decode cX5_book 62 = .ok (.iload_n 1, 1) := by decide +kernel
theorem dX5_book_63 : decode cX5_book 63 = .ok (.iload_n 2, 1) := by decide +kernel
theorem dX5_book_64 : decode cX5_book 64 = .ok (.iload_n 3, 1) := by decide +kernel
theorem dX5_book_65 : decode cX5_book 65 = .ok (.invokevirtual 126, 3) := by decide +kernel
theorem dX5_book_68 : decode cX5_book 68 = .ok (.ifCond .eq 7, 3) := by decide +kernel
theorem dX5_book_71 : decode cX5_book 71 = .ok (.aload_n 0, 1) := by decide +kernel
theorem dX5_book_72 : decode cX5_book 72 = .ok (.invokevirtual 130, 3) := by decide +kernel
theorem dX5_book_75 : decode cX5_book 75 = .ok (.aload_n 0, 1) := by decide +kernel
theorem dX5_book_76 : decode cX5_book 76 = .ok (.getfield 19, 3) := by decide +kernel
theorem dX5_book_79 : decode cX5_book 79 = .ok (.aload_n 0, 1) := by decide +kernel
theorem dX5_book_80 : decode cX5_book 80 = .ok (.getfield 10, 3) := by decide +kernel
theorem dX5_book_83 : decode cX5_book 83 = .ok (.invokevirtual 74, 3) := by decide +kernel
theorem dX5_book_86 : decode cX5_book 86 = .ok (.aload_n 0, 1) := by decide +kernel
theorem dX5_book_87 : decode cX5_book 87 = .ok (.getfield 10, 3) := by decide +kernel
theorem dX5_book_90 : decode cX5_book 90 = .ok (.iload_n 1, 1) := by decide +kernel
theorem dX5_book_91 : decode cX5_book 91 = .ok (.iload_n 2, 1) := by decide +kernel
theorem dX5_book_92 : decode cX5_book 92 = .ok (.iload_n 3, 1) := by decide +kernel
theorem dX5_book_93 : decode cX5_book 93 = .ok (.invokevirtual 133, 3) := by decide +kernel
theorem dX5_book_96 : decode cX5_book 96 = .ok (.iload_n 2, 1) := by decide +kernel
theorem dX5_book_97 : decode cX5_book 97 = .ok (.aload_n 0, 1) := by decide +kernel
theorem dX5_book_98 : decode cX5_book 98 = .ok (.getfield 10, 3) := by decide +kernel
theorem dX5_book_101 : decode cX5_book 101 = .ok (.iload_n 1, 1) := by decide +kernel
theorem dX5_book_102 : decode cX5_book 102 = .ok (.iload_n 3, 1) := by decide +kernel
theorem dX5_book_103 : decode cX5_book 103 = .ok (.invokevirtual 136, 3) := by decide +kernel
theorem dX5_book_106 : decode cX5_book 106 = .ok (.iadd, 1) := by decide +kernel
theorem dX5_book_107 : decode cX5_book 107 = .ok (.ireturn, 1) := by decide +kernel
theorem dX5_cancel_0 : decode cX5_cancel 0 = .ok (.aload_n 0, 1) := by decide +kernel
theorem dX5_cancel_1 : decode cX5_cancel 1 = .ok (.iload_n 1, 1) := by decide +kernel
theorem dX5_cancel_2 : decode cX5_cancel 2 = .ok (.invokevirtual 106, 3) := by decide +kernel
theorem dX5_cancel_5 : decode cX5_cancel 5 = .ok (.aload_n 0, 1) := by decide +kernel
theorem dX5_cancel_6 : decode cX5_cancel 6 = .ok (.getfield 10, 3) := by decide +kernel
theorem dX5_cancel_9 : decode cX5_cancel 9 = .ok (.iload_n 1, 1) := by decide +kernel
theorem dX5_cancel_10 : decode cX5_cancel 10 = .ok (.invokevirtual 118, 3) := by decide +kernel
theorem dX5_cancel_13 : decode cX5_cancel 13 = .ok (.ifCond .ne 7, 3) := by decide +kernel
theorem dX5_cancel_16 : decode cX5_cancel 16 = .ok (.aload_n 0, 1) := by decide +kernel
theorem dX5_cancel_17 : decode cX5_cancel 17 = .ok (.invokevirtual 130, 3) := by decide +kernel
theorem dX5_cancel_20 : decode cX5_cancel 20 = .ok (.aload_n 0, 1) := by decide +kernel
theorem dX5_cancel_21 : decode cX5_cancel 21 = .ok (.getfield 19, 3) := by decide +kernel
theorem dX5_cancel_24 : decode cX5_cancel 24 = .ok (.aload_n 0, 1) := by decide +kernel
theorem dX5_cancel_25 : decode cX5_cancel 25 = .ok (.getfield 10, 3) := by decide +kernel
theorem dX5_cancel_28 : decode cX5_cancel 28 = .ok (.invokevirtual 74, 3) := by decide +kernel
theorem dX5_cancel_31 : decode cX5_cancel 31 = .ok (.aload_n 0, 1) := by decide +kernel
theorem dX5_cancel_32 : decode cX5_cancel 32 = .ok (.getfield 10, 3) := by decide +kernel
theorem dX5_cancel_35 : decode cX5_cancel 35 = .ok (.iload_n 1, 1) := by decide +kernel
theorem dX5_cancel_36 : decode cX5_cancel 36 = .ok (.bipush 6, 2) := by decide +kernel
theorem dX5_cancel_38 : decode cX5_cancel 38 = .ok (.invokevirtual 109, 3) := by decide +kernel
theorem dX5_cancel_41 : decode cX5_cancel 41 = .ok (.istore_n 2, 1) := by decide +kernel
theorem dX5_cancel_42 : decode cX5_cancel 42 = .ok (.aload_n 0, 1) := by decide +kernel
theorem dX5_cancel_43 : decode cX5_cancel 43 = .ok (.getfield 10, 3) := by decide +kernel
theorem dX5_cancel_46 : decode cX5_cancel 46 = .ok (.iload_n 1, 1) := by decide +kernel
theorem dX5_cancel_47 : decode cX5_cancel 47 = .ok (.iconst (-1), 1) := by decide +kernel
theorem dX5_cancel_48 : decode cX5_cancel 48 = .ok (.iconst (-1), 1) := by decide +kernel
theorem dX5_cancel_49 : decode cX5_cancel 49 = .ok (.invokevirtual 133, 3) := by decide +kernel
theorem dX5_cancel_52 : decode cX5_cancel 52 = .ok (.iload_n 2, 1) := by decide +kernel
theorem dX5_cancel_53 : decode cX5_cancel 53 = .ok (.ireturn, 1) := by decide +kernel
theorem dX5_undo_0 : decode cX5_undo 0 = .ok (.aload_n 0, 1) := by decide +kernel
theorem dX5_undo_1 : decode cX5_undo 1 = .ok (.getfield 19, 3) := by decide +kernel
theorem dX5_undo_4 : decode cX5_undo 4 = .ok (.aload_n 0, 1) := by decide +kernel
theorem dX5_undo_5 : decode cX5_undo 5 = .ok (.getfield 10, 3) := by decide +kernel
theorem dX5_undo_8 : decode cX5_undo 8 = .ok (.invokevirtual 139, 3) := by decide +kernel
theorem dX5_undo_11 : decode cX5_undo 11 = .ok (.ifCond .eq 13, 3) := by decide +kernel
theorem dX5_undo_14 : decode cX5_undo 14 = .ok (.aload_n 0, 1) := by decide +kernel
theorem dX5_undo_15 : decode cX5_undo 15 = .ok (.getfield 19, 3) := by decide +kernel
theorem dX5_undo_18 : decode cX5_undo 18 = .ok (.getfield 143, 3) := by decide +kernel
theorem dX5_undo_21 : decode cX5_undo 21 = .ok (.goto 4, 3) := by decide +kernel
theorem dX5_undo_24 : decode cX5_undo 24 = .ok (.iconst (-1), 1) := by decide +kernel
theorem dX5_undo_25 : decode cX5_undo 25 = .ok (.ireturn, 1) := by decide +kernel
theorem dX5_told_0 : decode cX5_told 0 = .ok (.aload_n 0, 1) := by decide +kernel
theorem dX5_told_1 : decode cX5_told 1 = .ok (.iload_n 1, 1) := by decide +kernel
theorem dX5_told_2 : decode cX5_told 2 = .ok (.iconst 0, 1) := by decide +kernel
theorem dX5_told_3 : decode cX5_told 3 = .ok (.bipush 8, 2) := by decide +kernel
theorem dX5_told_5 : decode cX5_told 5 = .ok (.invokevirtual 65, 3) := by decide +kernel
theorem dX5_told_8 : decode cX5_told 8 = .ok (.iload_n 1, 1) := by decide +kernel
theorem dX5_told_9 : decode cX5_told 9 = .ok (.tableswitch 105 0 7 #[47, 55, 63, 71, 79, 87, 95, 100], 47) := by decide +kernel
theorem dX5_told_56 : decode cX5_told 56 = .ok (.aload_n 0, 1) := by decide +kernel
theorem dX5_told_57 : decode cX5_told 57 = .ok (.getfield 10, 3) := by decide +kernel
theorem dX5_told_60 : decode cX5_told 60 = .ok (.getfield 146, 3) := by decide +kernel
theorem dX5_told_63 : decode cX5_told 63 = .ok (.ireturn, 1) := by decide +kernel
theorem dX5_told_64 : decode cX5_told 64 = .ok (.aload_n 0, 1) := by decide +kernel
theorem dX5_told_65 : decode cX5_told 65 = .ok (.getfield 10, 3) := by decide +kernel
theorem dX5_told_68 : decode cX5_told 68 = .ok (.getfield 89, 3) := by decide +kernel
theorem dX5_told_71 : decode cX5_told 71 = .ok (.ireturn, 1) := by decide +kernel
theorem dX5_told_72 : decode cX5_told 72 = .ok (.aload_n 0, 1) := by decide +kernel
theorem dX5_told_73 : decode cX5_told 73 = .ok (.getfield 10, 3) := by decide +kernel
theorem dX5_told_76 : decode cX5_told 76 = .ok (.getfield 92, 3) := by decide +kernel
theorem dX5_told_79 : decode cX5_told 79 = .ok (.ireturn, 1) := by decide +kernel
theorem dX5_told_80 : decode cX5_told 80 = .ok (.aload_n 0, 1) := by decide +kernel
theorem dX5_told_81 : decode cX5_told 81 = .ok (.getfield 10, 3) := by decide +kernel
theorem dX5_told_84 : decode cX5_told 84 = .ok (.getfield 149, 3) := by decide +kernel
theorem dX5_told_87 : decode cX5_told 87 = .ok (.ireturn, 1) := by decide +kernel
theorem dX5_told_88 : decode cX5_told 88 = .ok (.aload_n 0, 1) := by decide +kernel
theorem dX5_told_89 : decode cX5_told 89 = .ok (.getfield 10, 3) := by decide +kernel
theorem dX5_told_92 : decode cX5_told 92 = .ok (.getfield 152, 3) := by decide +kernel
theorem dX5_told_95 : decode cX5_told 95 = .ok (.ireturn, 1) := by decide +kernel
theorem dX5_told_96 : decode cX5_told 96 = .ok (.aload_n 0, 1) := by decide +kernel
theorem dX5_told_97 : decode cX5_told 97 = .ok (.getfield 10, 3) := by decide +kernel
theorem dX5_told_100 : decode cX5_told 100 = .ok (.getfield 115, 3) := by decide +kernel
theorem dX5_told_103 : decode cX5_told 103 = .ok (.ireturn, 1) := by decide +kernel
theorem dX5_told_104 : decode cX5_told 104 = .ok (.aload_n 0, 1) := by decide +kernel
theorem dX5_told_105 : decode cX5_told 105 = .ok (.invokevirtual 155, 3) := by decide +kernel
theorem dX5_told_108 : decode cX5_told 108 = .ok (.ireturn, 1) := by decide +kernel
theorem dX5_told_109 : decode cX5_told 109 = .ok (.aload_n 0, 1) := by decide +kernel
theorem dX5_told_110 : decode cX5_told 110 = .ok (.getfield 58, 3) := by decide +kernel
theorem dX5_told_113 : decode cX5_told 113 = .ok (.ireturn, 1) := by decide +kernel
theorem dX5_told_114 : decode cX5_told 114 = .ok (.aload_n 0, 1) := by decide +kernel
theorem dX5_told_115 : decode cX5_told 115 = .ok (.getfield 19, 3) := by decide +kernel
theorem dX5_told_118 : decode cX5_told 118 = .ok (.getfield 143, 3) := by decide +kernel
theorem dX5_told_121 : decode cX5_told 121 = .ok (.ireturn, 1) := by decide +kernel
theorem dX5_wave_0 : decode cX5_wave 0 = .ok (.iload_n 1, 1) := by decide +kernel
theorem dX5_wave_1 : decode cX5_wave 1 = .ok (.ifCond .lt 14, 3) := by decide +kernel
theorem dX5_wave_4 : decode cX5_wave 4 = .ok (.iload_n 1, 1) := by decide +kernel
theorem dX5_wave_5 : decode cX5_wave 5 = .ok (.aload_n 0, 1) := by decide +kernel
theorem dX5_wave_6 : decode cX5_wave 6 = .ok (.getfield 10, 3) := by decide +kernel
theorem dX5_wave_9 : decode cX5_wave 9 = .ok (.getfield 146, 3) := by decide +kernel
theorem dX5_wave_12 : decode cX5_wave 12 = .ok (.if_icmp .lt 7, 3) := by decide +kernel
theorem dX5_wave_15 : decode cX5_wave 15 = .ok (.aload_n 0, 1) := by decide +kernel
theorem dX5_wave_16 : decode cX5_wave 16 = .ok (.invokevirtual 159, 3) := by decide +kernel
theorem dX5_wave_19 : decode cX5_wave 19 = .ok (.aload_n 0, 1) := by decide +kernel
theorem dX5_wave_20 : decode cX5_wave 20 = .ok (.iload_n 2, 1) := by decide +kernel
theorem dX5_wave_21 : decode cX5_wave 21 = .ok (.iconst 0, 1) := by decide +kernel
theorem dX5_wave_22 : decode cX5_wave 22 = .ok (.iconst 2, 1) := by decide +kernel
theorem dX5_wave_23 : decode cX5_wave 23 = .ok (.invokevirtual 65, 3) := by decide +kernel
theorem dX5_wave_26 : decode cX5_wave 26 = .ok (.aload_n 0, 1) := by decide +kernel
theorem dX5_wave_27 : decode cX5_wave 27 = .ok (.getfield 10, 3) := by decide +kernel
theorem dX5_wave_30 : decode cX5_wave 30 = .ok (.iload_n 1, 1) := by decide +kernel
theorem dX5_wave_31 : decode cX5_wave 31 = .ok (.iload_n 2, 1) := by decide +kernel
theorem dX5_wave_32 : decode cX5_wave 32 = .ok (.invokevirtual 162, 3) := by decide +kernel
theorem dX5_wave_35 : decode cX5_wave 35 = .ok (.ireturn, 1) := by decide +kernel
theorem dX5_bar_0 : decode cX5_bar 0 = .ok (.aload_n 0, 1) := by decide +kernel
theorem dX5_bar_1 : decode cX5_bar 1 = .ok (.iload_n 1, 1) := by decide +kernel
theorem dX5_bar_2 : decode cX5_bar 2 = .ok (.invokevirtual 95, 3) := by decide +kernel
theorem dX5_bar_5 : decode cX5_bar 5 = .ok (.aload_n 0, 1) := by decide +kernel
theorem dX5_bar_6 : decode cX5_bar 6 = .ok (.iload_n 2, 1) := by decide +kernel
theorem dX5_bar_7 : decode cX5_bar 7 = .ok (.iconst 0, 1) := by decide +kernel
theorem dX5_bar_8 : decode cX5_bar 8 = .ok (.iconst 5, 1) := by decide +kernel
theorem dX5_bar_9 : decode cX5_bar 9 = .ok (.invokevirtual 65, 3) := by decide +kernel
theorem dX5_bar_12 : decode cX5_bar 12 = .ok (.aload_n 0, 1) := by decide +kernel
theorem dX5_bar_13 : decode cX5_bar 13 = .ok (.getfield 10, 3) := by decide +kernel
theorem dX5_bar_16 : decode cX5_bar 16 = .ok (.iload_n 1, 1) := by decide +kernel
theorem dX5_bar_17 : decode cX5_bar 17 = .ok (.iload_n 2, 1) := by decide +kernel
theorem dX5_bar_18 : decode cX5_bar 18 = .ok (.invokevirtual 98, 3) := by decide +kernel
theorem dX5_bar_21 : decode cX5_bar 21 = .ok (.ireturn, 1) := by decide +kernel
theorem dX5_ship_0 : decode cX5_ship 0 = .ok (.aload_n 0, 1) := by decide +kernel
theorem dX5_ship_1 : decode cX5_ship 1 = .ok (.iload_n 1, 1) := by decide +kernel
theorem dX5_ship_2 : decode cX5_ship 2 = .ok (.invokevirtual 106, 3) := by decide +kernel
theorem dX5_ship_5 : decode cX5_ship 5 = .ok (.aload_n 0, 1) := by decide +kernel
theorem dX5_ship_6 : decode cX5_ship 6 = .ok (.iload_n 2, 1) := by decide +kernel
theorem dX5_ship_7 : decode cX5_ship 7 = .ok (.iconst 0, 1) := by decide +kernel
theorem dX5_ship_8 : decode cX5_ship 8 = .ok (.bipush 7, 2) := by decide +kernel
theorem dX5_ship_10 : decode cX5_ship 10 = .ok (.invokevirtual 65, 3) := by decide +kernel
theorem dX5_ship_13 : decode cX5_ship 13 = .ok (.aload_n 0, 1) := by decide +kernel
theorem dX5_ship_14 : decode cX5_ship 14 = .ok (.getfield 10, 3) := by decide +kernel
theorem dX5_ship_17 : decode cX5_ship 17 = .ok (.iload_n 1, 1) := by decide +kernel
theorem dX5_ship_18 : decode cX5_ship 18 = .ok (.iload_n 2, 1) := by decide +kernel
theorem dX5_ship_19 : decode cX5_ship 19 = .ok (.invokevirtual 109, 3) := by decide +kernel
theorem dX5_ship_22 : decode cX5_ship 22 = .ok (.ireturn, 1) := by decide +kernel
theorem dX5_height_0 : decode cX5_height 0 = .ok (.aload_n 0, 1) := by decide +kernel
theorem dX5_height_1 : decode cX5_height 1 = .ok (.iload_n 1, 1) := by decide +kernel
theorem dX5_height_2 : decode cX5_height 2 = .ok (.invokevirtual 165, 3) := by decide +kernel
theorem dX5_height_5 : decode cX5_height 5 = .ok (.aload_n 0, 1) := by decide +kernel
theorem dX5_height_6 : decode cX5_height 6 = .ok (.getfield 41, 3) := by decide +kernel
theorem dX5_height_9 : decode cX5_height 9 = .ok (.iload_n 1, 1) := by decide +kernel
theorem dX5_height_10 : decode cX5_height 10 = .ok (.invokevirtual 168, 3) := by decide +kernel
theorem dX5_height_13 : decode cX5_height 13 = .ok (.ireturn, 1) := by decide +kernel
theorem dX5_peak_0 : decode cX5_peak 0 = .ok (.aload_n 0, 1) := by decide +kernel
theorem dX5_peak_1 : decode cX5_peak 1 = .ok (.iload_n 1, 1) := by decide +kernel
theorem dX5_peak_2 : decode cX5_peak 2 = .ok (.invokevirtual 165, 3) := by decide +kernel
theorem dX5_peak_5 : decode cX5_peak 5 = .ok (.aload_n 0, 1) := by decide +kernel
theorem dX5_peak_6 : decode cX5_peak 6 = .ok (.iload_n 2, 1) := by decide +kernel
theorem dX5_peak_7 : decode cX5_peak 7 = .ok (.iconst 1, 1) := by decide +kernel
theorem dX5_peak_8 : decode cX5_peak 8 = .ok (.sipush 2000, 3) := by decide +kernel
theorem dX5_peak_11 : decode cX5_peak 11 = .ok (.invokevirtual 65, 3) := by decide +kernel
theorem dX5_peak_14 : decode cX5_peak 14 = .ok (.aload_n 0, 1) := by decide +kernel
theorem dX5_peak_15 : decode cX5_peak 15 = .ok (.iload_n 3, 1) := by decide +kernel
theorem dX5_peak_16 : decode cX5_peak 16 = .ok (.iconst 0, 1) := by decide +kernel
theorem dX5_peak_17 : decode cX5_peak 17 = .ok (.iconst 1, 1) := by decide +kernel
theorem dX5_peak_18 : decode cX5_peak 18 = .ok (.invokevirtual 65, 3) := by decide +kernel
theorem dX5_peak_21 : decode cX5_peak 21 = .ok (.iload_n 3, 1) := by decide +kernel
theorem dX5_peak_22 : decode cX5_peak 22 = .ok (.ifCond .ne 7, 3) := by decide +kernel
theorem dX5_peak_25 : decode cX5_peak 25 = .ok (.iconst 1, 1) := by decide +kernel
theorem dX5_peak_26 : decode cX5_peak 26 = .ok (.goto 4, 3) := by decide +kernel
theorem dX5_peak_29 : decode cX5_peak 29 = .ok (.iconst (-1), 1) := by decide +kernel
theorem dX5_peak_30 : decode cX5_peak 30 = .ok (.istore 4, 2) := by decide +kernel
theorem dX5_peak_32 : decode cX5_peak 32 = .ok (.iload_n 1, 1) := by decide +kernel
theorem dX5_peak_33 : decode cX5_peak 33 = .ok (.istore 5, 2) := by decide +kernel
theorem dX5_peak_35 : decode cX5_peak 35 = .ok (.iload 4, 2) := by decide +kernel
theorem dX5_peak_37 : decode cX5_peak 37 = .ok (.aload_n 0, 1) := by decide +kernel
theorem dX5_peak_38 : decode cX5_peak 38 = .ok (.getfield 41, 3) := by decide +kernel
theorem dX5_peak_41 : decode cX5_peak 41 = .ok (.iload_n 1, 1) := by decide +kernel
theorem dX5_peak_42 : decode cX5_peak 42 = .ok (.invokevirtual 168, 3) := by decide +kernel
theorem dX5_peak_45 : decode cX5_peak 45 = .ok (.imul, 1) := by decide +kernel
theorem dX5_peak_46 : decode cX5_peak 46 = .ok (.istore 6, 2) := by decide +kernel
theorem dX5_peak_48 : decode cX5_peak 48 = .ok (.iconst 1, 1) := by decide +kernel
theorem dX5_peak_49 : decode cX5_peak 49 = .ok (.istore 7, 2) := by decide +kernel
theorem dX5_peak_51 : decode cX5_peak 51 = .ok (.iload 7, 2) := by decide +kernel
theorem dX5_peak_53 : decode cX5_peak 53 = .ok (.iload_n 2, 1) := by decide +kernel
theorem dX5_peak_54 : decode cX5_peak 54 = .ok (.if_icmp .ge 42, 3) := by decide +kernel
theorem dX5_peak_57 : decode cX5_peak 57 = .ok (.iload 4, 2) := by decide +kernel
theorem dX5_peak_59 : decode cX5_peak 59 = .ok (.aload_n 0, 1) := by decide +kernel
theorem dX5_peak_60 : decode cX5_peak 60 = .ok (.getfield 41, 3) := by decide +kernel
theorem dX5_peak_63 : decode cX5_peak 63 = .ok (.iload_n 1, 1) := by decide +kernel
theorem dX5_peak_64 : decode cX5_peak 64 = .ok (.iload 7, 2) := by decide +kernel
theorem dX5_peak_66 : decode cX5_peak 66 = .ok (.iadd, 1) := by decide +kernel
theorem dX5_peak_67 : decode cX5_peak 67 = .ok (.invokevirtual 168, 3) := by decide +kernel
theorem dX5_peak_70 : decode cX5_peak 70 = .ok (.imul, 1) := by decide +kernel
theorem dX5_peak_71 : decode cX5_peak 71 = .ok (.istore 8, 2) := by decide +kernel
theorem dX5_peak_73 : decode cX5_peak 73 = .ok (.iload 8, 2) := by decide +kernel
theorem dX5_peak_75 : decode cX5_peak 75 = .ok (.iload 6, 2) := by decide +kernel
theorem dX5_peak_77 : decode cX5_peak 77 = .ok (.if_icmp .le 13, 3) := by decide +kernel
theorem dX5_peak_80 : decode cX5_peak 80 = .ok (.iload_n 1, 1) := by decide +kernel
theorem dX5_peak_81 : decode cX5_peak 81 = .ok (.iload 7, 2) := by decide +kernel
theorem dX5_peak_83 : decode cX5_peak 83 = .ok (.iadd, 1) := by decide +kernel
theorem dX5_peak_84 : decode cX5_peak 84 = .ok (.istore 5, 2) := by decide +kernel
theorem dX5_peak_86 : decode cX5_peak 86 = .ok (.iload 8, 2) := by decide +kernel
theorem dX5_peak_88 : decode cX5_peak 88 = .ok (.istore 6, 2) := by decide +kernel
theorem dX5_peak_90 : decode cX5_peak 90 = .ok (.iinc 7 1, 3) := by decide +kernel
theorem dX5_peak_93 : decode cX5_peak 93 = .ok (.goto (-42), 3) := by decide +kernel
theorem dX5_peak_96 : decode cX5_peak 96 = .ok (.iload 5, 2) := by decide +kernel
theorem dX5_peak_98 : decode cX5_peak 98 = .ok (.ireturn, 1) := by decide +kernel
theorem dX5_water_0 : decode cX5_water 0 = .ok (.aload_n 0, 1) := by decide +kernel
theorem dX5_water_1 : decode cX5_water 1 = .ok (.iload_n 1, 1) := by decide +kernel
theorem dX5_water_2 : decode cX5_water 2 = .ok (.invokevirtual 95, 3) := by decide +kernel
theorem dX5_water_5 : decode cX5_water 5 = .ok (.aload_n 0, 1) := by decide +kernel
theorem dX5_water_6 : decode cX5_water 6 = .ok (.iload_n 2, 1) := by decide +kernel
theorem dX5_water_7 : decode cX5_water 7 = .ok (.invokevirtual 165, 3) := by decide +kernel
theorem dX5_water_10 : decode cX5_water 10 = .ok (.aload_n 0, 1) := by decide +kernel
theorem dX5_water_11 : decode cX5_water 11 = .ok (.getfield 41, 3) := by decide +kernel
theorem dX5_water_14 : decode cX5_water 14 = .ok (.iload_n 1, 1) := by decide +kernel
theorem dX5_water_15 : decode cX5_water 15 = .ok (.iload_n 2, 1) := by decide +kernel
theorem dX5_water_16 : decode cX5_water 16 = .ok (.invokevirtual 171, 3) := by decide +kernel
theorem dX5_water_19 : decode cX5_water 19 = .ok (.ireturn, 1) := by decide +kernel
theorem dX5_above_0 : decode cX5_above 0 = .ok (.aload_n 0, 1) := by decide +kernel
theorem dX5_above_1 : decode cX5_above 1 = .ok (.iload_n 1, 1) := by decide +kernel
theorem dX5_above_2 : decode cX5_above 2 = .ok (.invokevirtual 95, 3) := by decide +kernel
theorem dX5_above_5 : decode cX5_above 5 = .ok (.aload_n 0, 1) := by decide +kernel
theorem dX5_above_6 : decode cX5_above 6 = .ok (.iload_n 3, 1) := by decide +kernel
theorem dX5_above_7 : decode cX5_above 7 = .ok (.invokevirtual 165, 3) := by decide +kernel
theorem dX5_above_10 : decode cX5_above 10 = .ok (.aload_n 0, 1) := by decide +kernel
theorem dX5_above_11 : decode cX5_above 11 = .ok (.iload 4, 2) := by decide +kernel
theorem dX5_above_13 : decode cX5_above 13 = .ok (.iconst 0, 1) := by decide +kernel
theorem dX5_above_14 : decode cX5_above 14 = .ok (.sipush 2000, 3) := by decide +kernel
theorem dX5_above_17 : decode cX5_above 17 = .ok (.invokevirtual 65, 3) := by decide +kernel
theorem dX5_above_20 : decode cX5_above 20 = .ok (.iconst 0, 1) := by decide +kernel
theorem dX5_above_21 : decode cX5_above 21 = .ok (.istore 5, 2) := by decide +kernel
theorem dX5_above_23 : decode cX5_above 23 = .ok (.iconst 0, 1) := by decide +kernel
theorem dX5_above_24 : decode cX5_above 24 = .ok (.istore 6, 2) := by decide +kernel
theorem dX5_above_26 : decode cX5_above 26 = .ok (.iload 6, 2) := by decide +kernel
theorem dX5_above_28 : decode cX5_above 28 = .ok (.iload 4, 2) := by decide +kernel
theorem dX5_above_30 : decode cX5_above 30 = .ok (.if_icmp .ge 28, 3) := by decide +kernel
theorem dX5_above_33 : decode cX5_above 33 = .ok (.aload_n 0, 1) := by decide +kernel
theorem dX5_above_34 : decode cX5_above 34 = .ok (.getfield 41, 3) := by decide +kernel
theorem dX5_above_37 : decode cX5_above 37 = .ok (.iload_n 1, 1) := by decide +kernel
theorem dX5_above_38 : decode cX5_above 38 = .ok (.iload_n 3, 1) := by decide +kernel
theorem dX5_above_39 : decode cX5_above 39 = .ok (.iload 6, 2) := by decide +kernel
theorem dX5_above_41 : decode cX5_above 41 = .ok (.iadd, 1) := by decide +kernel
theorem dX5_above_42 : decode cX5_above 42 = .ok (.invokevirtual 171, 3) := by decide +kernel
theorem dX5_above_45 : decode cX5_above 45 = .ok (.iload_n 2, 1) := by decide +kernel
theorem dX5_above_46 : decode cX5_above 46 = .ok (.if_icmp .lt 6, 3) := by decide +kernel
theorem dX5_above_49 : decode cX5_above 49 = .ok (.iinc 5 1, 3) := by decide +kernel
theorem dX5_above_52 : decode cX5_above 52 = .ok (.iinc 6 1, 3) := by decide +kernel
theorem dX5_above_55 : decode cX5_above 55 = .ok (.goto (-29), 3) := by decide +kernel
theorem dX5_above_58 : decode cX5_above 58 = .ok (.iload 5, 2) := by decide +kernel
theorem dX5_above_60 : decode cX5_above 60 = .ok (.ireturn, 1) := by decide +kernel
theorem dX5_squat_0 : decode cX5_squat 0 = .ok (.aload_n 0, 1) := by decide +kernel
theorem dX5_squat_1 : decode cX5_squat 1 = .ok (.iload_n 1, 1) := by decide +kernel
theorem dX5_squat_2 : decode cX5_squat 2 = .ok (.iload_n 2, 1) := by decide +kernel
theorem dX5_squat_3 : decode cX5_squat 3 = .ok (.iload_n 3, 1) := by decide +kernel
theorem dX5_squat_4 : decode cX5_squat 4 = .ok (.iload 4, 2) := by decide +kernel
theorem dX5_squat_6 : decode cX5_squat 6 = .ok (.invokevirtual 174, 3) := by decide +kernel
theorem dX5_squat_9 : decode cX5_squat 9 = .ok (.aload_n 0, 1) := by decide +kernel
theorem dX5_squat_10 : decode cX5_squat 10 = .ok (.getfield 50, 3) := by decide +kernel
theorem dX5_squat_13 : decode cX5_squat 13 = .ok (.iload_n 1, 1) := by decide +kernel
theorem dX5_squat_14 : decode cX5_squat 14 = .ok (.iload 4, 2) := by decide +kernel
theorem dX5_squat_16 : decode cX5_squat 16 = .ok (.aload_n 0, 1) := by decide +kernel
theorem dX5_squat_17 : decode cX5_squat 17 = .ok (.getfield 10, 3) := by decide +kernel
theorem dX5_squat_20 : decode cX5_squat 20 = .ok (.iload_n 1, 1) := by decide +kernel
theorem dX5_squat_21 : decode cX5_squat 21 = .ok (.iconst 0, 1) := by decide +kernel
theorem dX5_squat_22 : decode cX5_squat 22 = .ok (.invokevirtual 109, 3) := by decide +kernel
theorem dX5_squat_25 : decode cX5_squat 25 = .ok (.aload_n 0, 1) := by decide +kernel
theorem dX5_squat_26 : decode cX5_squat 26 = .ok (.getfield 41, 3) := by decide +kernel
theorem dX5_squat_29 : decode cX5_squat 29 = .ok (.iload_n 2, 1) := by decide +kernel
theorem dX5_squat_30 : decode cX5_squat 30 = .ok (.iload_n 3, 1) := by decide +kernel
theorem dX5_squat_31 : decode cX5_squat 31 = .ok (.invokevirtual 171, 3) := by decide +kernel
theorem dX5_squat_34 : decode cX5_squat 34 = .ok (.invokevirtual 178, 3) := by decide +kernel
theorem dX5_squat_37 : decode cX5_squat 37 = .ok (.ireturn, 1) := by decide +kernel
theorem dX5_left_0 : decode cX5_left 0 = .ok (.aload_n 0, 1) := by decide +kernel
theorem dX5_left_1 : decode cX5_left 1 = .ok (.iload_n 1, 1) := by decide +kernel
theorem dX5_left_2 : decode cX5_left 2 = .ok (.iload_n 2, 1) := by decide +kernel
theorem dX5_left_3 : decode cX5_left 3 = .ok (.iload_n 3, 1) := by decide +kernel
theorem dX5_left_4 : decode cX5_left 4 = .ok (.iload 4, 2) := by decide +kernel
theorem dX5_left_6 : decode cX5_left 6 = .ok (.invokevirtual 174, 3) := by decide +kernel
theorem dX5_left_9 : decode cX5_left 9 = .ok (.aload_n 0, 1) := by decide +kernel
theorem dX5_left_10 : decode cX5_left 10 = .ok (.getfield 50, 3) := by decide +kernel
theorem dX5_left_13 : decode cX5_left 13 = .ok (.iload_n 1, 1) := by decide +kernel
theorem dX5_left_14 : decode cX5_left 14 = .ok (.iload 4, 2) := by decide +kernel
theorem dX5_left_16 : decode cX5_left 16 = .ok (.aload_n 0, 1) := by decide +kernel
theorem dX5_left_17 : decode cX5_left 17 = .ok (.getfield 10, 3) := by decide +kernel
theorem dX5_left_20 : decode cX5_left 20 = .ok (.iload_n 1, 1) := by decide +kernel
theorem dX5_left_21 : decode cX5_left 21 = .ok (.iconst 0, 1) := by decide +kernel
theorem dX5_left_22 : decode cX5_left 22 = .ok (.invokevirtual 109, 3) := by decide +kernel
theorem dX5_left_25 : decode cX5_left 25 = .ok (.aload_n 0, 1) := by decide +kernel
theorem dX5_left_26 : decode cX5_left 26 = .ok (.getfield 41, 3) := by decide +kernel
theorem dX5_left_29 : decode cX5_left 29 = .ok (.iload_n 2, 1) := by decide +kernel
theorem dX5_left_30 : decode cX5_left 30 = .ok (.iload_n 3, 1) := by decide +kernel
theorem dX5_left_31 : decode cX5_left 31 = .ok (.invokevirtual 171, 3) := by decide +kernel
theorem dX5_left_34 : decode cX5_left 34 = .ok (.invokevirtual 182, 3) := by decide +kernel
theorem dX5_left_37 : decode cX5_left 37 = .ok (.ireturn, 1) := by decide +kernel
theorem dX5_fastest_0 : decode cX5_fastest 0 = .ok (.aload_n 0, 1) := by decide +kernel
theorem dX5_fastest_1 : decode cX5_fastest 1 = .ok (.iload_n 1, 1) := by decide +kernel
theorem dX5_fastest_2 : decode cX5_fastest 2 = .ok (.invokevirtual 106, 3) := by decide +kernel
theorem dX5_fastest_5 : decode cX5_fastest 5 = .ok (.aload_n 0, 1) := by decide +kernel
theorem dX5_fastest_6 : decode cX5_fastest 6 = .ok (.iload_n 2, 1) := by decide +kernel
theorem dX5_fastest_7 : decode cX5_fastest 7 = .ok (.invokevirtual 95, 3) := by decide +kernel
theorem dX5_fastest_10 : decode cX5_fastest 10 = .ok (.aload_n 0, 1) := by decide +kernel
theorem dX5_fastest_11 : decode cX5_fastest 11 = .ok (.iload_n 3, 1) := by decide +kernel
theorem dX5_fastest_12 : decode cX5_fastest 12 = .ok (.invokevirtual 165, 3) := by decide +kernel
theorem dX5_fastest_15 : decode cX5_fastest 15 = .ok (.aload_n 0, 1) := by decide +kernel
theorem dX5_fastest_16 : decode cX5_fastest 16 = .ok (.getfield 10, 3) := by decide +kernel
theorem dX5_fastest_19 : decode cX5_fastest 19 = .ok (.iload_n 1, 1) := by decide +kernel
theorem dX5_fastest_20 : decode cX5_fastest 20 = .ok (.iconst 0, 1) := by decide +kernel
theorem dX5_fastest_21 : decode cX5_fastest 21 = .ok (.invokevirtual 109, 3) := by decide +kernel
theorem dX5_fastest_24 : decode cX5_fastest 24 = .ok (.istore 4, 2) := by decide +kernel
theorem dX5_fastest_26 : decode cX5_fastest 26 = .ok (.aload_n 0, 1) := by decide +kernel
theorem dX5_fastest_27 : decode cX5_fastest 27 = .ok (.getfield 41, 3) := by decide +kernel
theorem dX5_fastest_30 : decode cX5_fastest 30 = .ok (.iload_n 2, 1) := by decide +kernel
theorem dX5_fastest_31 : decode cX5_fastest 31 = .ok (.iload_n 3, 1) := by decide +kernel
theorem dX5_fastest_32 : decode cX5_fastest 32 = .ok (.invokevirtual 171, 3) := by decide +kernel
theorem dX5_fastest_35 : decode cX5_fastest 35 = .ok (.istore 5, 2) := by decide +kernel
theorem dX5_fastest_37 : decode cX5_fastest 37 = .ok (.aload_n 0, 1) := by decide +kernel
theorem dX5_fastest_38 : decode cX5_fastest 38 = .ok (.getfield 10, 3) := by decide +kernel
theorem dX5_fastest_41 : decode cX5_fastest 41 = .ok (.iload_n 1, 1) := by decide +kernel
theorem dX5_fastest_42 : decode cX5_fastest 42 = .ok (.iconst 4, 1) := by decide +kernel
theorem dX5_fastest_43 : decode cX5_fastest 43 = .ok (.invokevirtual 109, 3) := by decide +kernel
theorem dX5_fastest_46 : decode cX5_fastest 46 = .ok (.istore 6, 2) := by decide +kernel
theorem dX5_fastest_48 : decode cX5_fastest 48 = .ok (.iload 6, 2) := by decide +kernel
theorem dX5_fastest_50 : decode cX5_fastest 50 = .ok (.aload_n 0, 1) := by decide +kernel
theorem dX5_fastest_51 : decode cX5_fastest 51 = .ok (.getfield 10, 3) := by decide +kernel
theorem dX5_fastest_54 : decode cX5_fastest 54 = .ok (.iload_n 1, 1) := by decide +kernel
theorem dX5_fastest_55 : decode cX5_fastest 55 = .ok (.iconst 3, 1) := by decide +kernel
theorem dX5_fastest_56 : decode cX5_fastest 56 = .ok (.invokevirtual 109, 3) := by decide +kernel
theorem dX5_fastest_59 : decode cX5_fastest 59 = .ok (.if_icmp .lt 29, 3) := by decide +kernel
theorem dX5_fastest_62 : decode cX5_fastest 62 = .ok (.aload_n 0, 1) := by decide +kernel
theorem dX5_fastest_63 : decode cX5_fastest 63 = .ok (.getfield 50, 3) := by decide +kernel
theorem dX5_fastest_66 : decode cX5_fastest 66 = .ok (.iload_n 1, 1) := by decide +kernel
theorem dX5_fastest_67 : decode cX5_fastest 67 = .ok (.iload 6, 2) := by decide +kernel
theorem dX5_fastest_69 : decode cX5_fastest 69 = .ok (.iload 4, 2) := by decide +kernel
theorem dX5_fastest_71 : decode cX5_fastest 71 = .ok (.iload 5, 2) := by decide +kernel
theorem dX5_fastest_73 : decode cX5_fastest 73 = .ok (.invokevirtual 185, 3) := by decide +kernel
theorem dX5_fastest_76 : decode cX5_fastest 76 = .ok (.ifCond .eq 6, 3) := by decide +kernel
theorem dX5_fastest_79 : decode cX5_fastest 79 = .ok (.iload 6, 2) := by decide +kernel
theorem dX5_fastest_81 : decode cX5_fastest 81 = .ok (.ireturn, 1) := by decide +kernel
theorem dX5_fastest_82 : decode cX5_fastest 82 = .ok (.iinc 6 (-1), 3) := by decide +kernel
theorem dX5_fastest_85 : decode cX5_fastest 85 = .ok (.goto (-37), 3) := by decide +kernel
theorem dX5_fastest_88 : decode cX5_fastest 88 = .ok (.iconst (-1), 1) := by decide +kernel
theorem dX5_fastest_89 : decode cX5_fastest 89 = .ok (.ireturn, 1) := by decide +kernel
theorem dX5_window_0 : decode cX5_window 0 = .ok (.aload_n 0, 1) := by decide +kernel
theorem dX5_window_1 : decode cX5_window 1 = .ok (.iload_n 1, 1) := by decide +kernel
theorem dX5_window_2 : decode cX5_window 2 = .ok (.iload_n 2, 1) := by decide +kernel
theorem dX5_window_3 : decode cX5_window 3 = .ok (.iload 4, 2) := by decide +kernel
theorem dX5_window_5 : decode cX5_window 5 = .ok (.iload_n 3, 1) := by decide +kernel
theorem dX5_window_6 : decode cX5_window 6 = .ok (.invokevirtual 174, 3) := by decide +kernel
theorem dX5_window_9 : decode cX5_window 9 = .ok (.aload_n 0, 1) := by decide +kernel
theorem dX5_window_10 : decode cX5_window 10 = .ok (.iload 5, 2) := by decide +kernel
theorem dX5_window_12 : decode cX5_window 12 = .ok (.iload 6, 2) := by decide +kernel
theorem dX5_window_14 : decode cX5_window 14 = .ok (.invokevirtual 189, 3) := by decide +kernel
theorem dX5_window_17 : decode cX5_window 17 = .ok (.aload_n 0, 1) := by decide +kernel
theorem dX5_window_18 : decode cX5_window 18 = .ok (.getfield 50, 3) := by decide +kernel
theorem dX5_window_21 : decode cX5_window 21 = .ok (.iload_n 1, 1) := by decide +kernel
theorem dX5_window_22 : decode cX5_window 22 = .ok (.iload_n 2, 1) := by decide +kernel
theorem dX5_window_23 : decode cX5_window 23 = .ok (.iload_n 3, 1) := by decide +kernel
theorem dX5_window_24 : decode cX5_window 24 = .ok (.iload 4, 2) := by decide +kernel
theorem dX5_window_26 : decode cX5_window 26 = .ok (.invokevirtual 193, 3) := by decide +kernel
theorem dX5_window_29 : decode cX5_window 29 = .ok (.aload_n 0, 1) := by decide +kernel
theorem dX5_window_30 : decode cX5_window 30 = .ok (.iload 4, 2) := by decide +kernel
theorem dX5_window_32 : decode cX5_window 32 = .ok (.iload 5, 2) := by decide +kernel
theorem dX5_window_34 : decode cX5_window 34 = .ok (.iload 6, 2) := by decide +kernel
theorem dX5_window_36 : decode cX5_window 36 = .ok (.invokevirtual 196, 3) := by decide +kernel
theorem dX5_window_39 : decode cX5_window 39 = .ok (.ireturn, 1) := by decide +kernel
theorem dX5_joined_0 : decode cX5_joined 0 = .ok (.aload_n 0, 1) := by decide +kernel
theorem dX5_joined_1 : decode cX5_joined 1 = .ok (.iload_n 1, 1) := by decide +kernel
theorem dX5_joined_2 : decode cX5_joined 2 = .ok (.iload_n 3, 1) := by decide +kernel
theorem dX5_joined_3 : decode cX5_joined 3 = .ok (.iload_n 2, 1) := by decide +kernel
theorem dX5_joined_4 : decode cX5_joined 4 = .ok (.invokevirtual 199, 3) := by decide +kernel
theorem dX5_joined_7 : decode cX5_joined 7 = .ok (.aload_n 0, 1) := by decide +kernel
theorem dX5_joined_8 : decode cX5_joined 8 = .ok (.iload 4, 2) := by decide +kernel
theorem dX5_joined_10 : decode cX5_joined 10 = .ok (.iload 5, 2) := by decide +kernel
theorem dX5_joined_12 : decode cX5_joined 12 = .ok (.invokevirtual 189, 3) := by decide +kernel
theorem dX5_joined_15 : decode cX5_joined 15 = .ok (.aload_n 0, 1) := by decide +kernel
theorem dX5_joined_16 : decode cX5_joined 16 = .ok (.getfield 50, 3) := by decide +kernel
theorem dX5_joined_19 : decode cX5_joined 19 = .ok (.iconst 1, 1) := by decide +kernel
theorem dX5_joined_20 : decode cX5_joined 20 = .ok (.iload_n 1, 1) := by decide +kernel
theorem dX5_joined_21 : decode cX5_joined 21 = .ok (.ishl, 1) := by decide +kernel
theorem dX5_joined_22 : decode cX5_joined 22 = .ok (.iload_n 2, 1) := by decide +kernel
theorem dX5_joined_23 : decode cX5_joined 23 = .ok (.iload_n 3, 1) := by decide +kernel
theorem dX5_joined_24 : decode cX5_joined 24 = .ok (.invokevirtual 202, 3) := by decide +kernel
theorem dX5_joined_27 : decode cX5_joined 27 = .ok (.aload_n 0, 1) := by decide +kernel
theorem dX5_joined_28 : decode cX5_joined 28 = .ok (.iload_n 3, 1) := by decide +kernel
theorem dX5_joined_29 : decode cX5_joined 29 = .ok (.iload 4, 2) := by decide +kernel
theorem dX5_joined_31 : decode cX5_joined 31 = .ok (.iload 5, 2) := by decide +kernel
theorem dX5_joined_33 : decode cX5_joined 33 = .ok (.invokevirtual 196, 3) := by decide +kernel
theorem dX5_joined_36 : decode cX5_joined 36 = .ok (.ireturn, 1) := by decide +kernel
theorem dX5_lasts_0 : decode cX5_lasts 0 = .ok (.aload_n 0, 1) := by decide +kernel
theorem dX5_lasts_1 : decode cX5_lasts 1 = .ok (.iload_n 1, 1) := by decide +kernel
theorem dX5_lasts_2 : decode cX5_lasts 2 = .ok (.invokevirtual 106, 3) := by decide +kernel
theorem dX5_lasts_5 : decode cX5_lasts 5 = .ok (.aload_n 0, 1) := by decide +kernel
theorem dX5_lasts_6 : decode cX5_lasts 6 = .ok (.iload_n 2, 1) := by decide +kernel
theorem dX5_lasts_7 : decode cX5_lasts 7 = .ok (.invokevirtual 205, 3) := by decide +kernel
theorem dX5_lasts_10 : decode cX5_lasts 10 = .ok (.aload_n 0, 1) := by decide +kernel
theorem dX5_lasts_11 : decode cX5_lasts 11 = .ok (.getfield 10, 3) := by decide +kernel
theorem dX5_lasts_14 : decode cX5_lasts 14 = .ok (.iload_n 1, 1) := by decide +kernel
theorem dX5_lasts_15 : decode cX5_lasts 15 = .ok (.iload_n 2, 1) := by decide +kernel
theorem dX5_lasts_16 : decode cX5_lasts 16 = .ok (.invokevirtual 136, 3) := by decide +kernel
theorem dX5_lasts_19 : decode cX5_lasts 19 = .ok (.ireturn, 1) := by decide +kernel
theorem dX5_least_0 : decode cX5_least 0 = .ok (.aload_n 0, 1) := by decide +kernel
theorem dX5_least_1 : decode cX5_least 1 = .ok (.iload_n 1, 1) := by decide +kernel
theorem dX5_least_2 : decode cX5_least 2 = .ok (.iload_n 2, 1) := by decide +kernel
theorem dX5_least_3 : decode cX5_least 3 = .ok (.iload_n 3, 1) := by decide +kernel
theorem dX5_least_4 : decode cX5_least 4 = .ok (.invokevirtual 199, 3) := by decide +kernel
theorem dX5_least_7 : decode cX5_least 7 = .ok (.aload_n 0, 1) := by decide +kernel
theorem dX5_least_8 : decode cX5_least 8 = .ok (.getfield 50, 3) := by decide +kernel
theorem dX5_least_11 : decode cX5_least 11 = .ok (.iload_n 1, 1) := by decide +kernel
theorem dX5_least_12 : decode cX5_least 12 = .ok (.iload_n 2, 1) := by decide +kernel
theorem dX5_least_13 : decode cX5_least 13 = .ok (.iload_n 3, 1) := by decide +kernel
theorem dX5_least_14 : decode cX5_least 14 = .ok (.invokevirtual 208, 3) := by decide +kernel
theorem dX5_least_17 : decode cX5_least 17 = .ok (.ireturn, 1) := by decide +kernel
theorem dX5_deepest_0 : decode cX5_deepest 0 = .ok (.aload_n 0, 1) := by decide +kernel
theorem dX5_deepest_1 : decode cX5_deepest 1 = .ok (.iload_n 1, 1) := by decide +kernel
theorem dX5_deepest_2 : decode cX5_deepest 2 = .ok (.iload_n 2, 1) := by decide +kernel
theorem dX5_deepest_3 : decode cX5_deepest 3 = .ok (.iload_n 3, 1) := by decide +kernel
theorem dX5_deepest_4 : decode cX5_deepest 4 = .ok (.invokevirtual 199, 3) := by decide +kernel
theorem dX5_deepest_7 : decode cX5_deepest 7 = .ok (.aload_n 0, 1) := by decide +kernel
theorem dX5_deepest_8 : decode cX5_deepest 8 = .ok (.getfield 50, 3) := by decide +kernel
theorem dX5_deepest_11 : decode cX5_deepest 11 = .ok (.iload_n 1, 1) := by decide +kernel
theorem dX5_deepest_12 : decode cX5_deepest 12 = .ok (.iload_n 2, 1) := by decide +kernel
theorem dX5_deepest_13 : decode cX5_deepest 13 = .ok (.iload_n 3, 1) := by decide +kernel
theorem dX5_deepest_14 : decode cX5_deepest 14 = .ok (.invokevirtual 211, 3) := by decide +kernel
theorem dX5_deepest_17 : decode cX5_deepest 17 = .ok (.ireturn, 1) := by decide +kernel
theorem dX5_soonest_0 : decode cX5_soonest 0 = .ok (.aload_n 0, 1) := by decide +kernel
theorem dX5_soonest_1 : decode cX5_soonest 1 = .ok (.iload_n 1, 1) := by decide +kernel
theorem dX5_soonest_2 : decode cX5_soonest 2 = .ok (.invokevirtual 106, 3) := by decide +kernel
theorem dX5_soonest_5 : decode cX5_soonest 5 = .ok (.aload_n 0, 1) := by decide +kernel
theorem dX5_soonest_6 : decode cX5_soonest 6 = .ok (.iload_n 2, 1) := by decide +kernel
theorem dX5_soonest_7 : decode cX5_soonest 7 = .ok (.invokevirtual 165, 3) := by decide +kernel
theorem dX5_soonest_10 : decode cX5_soonest 10 = .ok (.aload_n 0, 1) := by decide +kernel
theorem dX5_soonest_11 : decode cX5_soonest 11 = .ok (.getfield 50, 3) := by decide +kernel
theorem dX5_soonest_14 : decode cX5_soonest 14 = .ok (.iload_n 1, 1) := by decide +kernel
theorem dX5_soonest_15 : decode cX5_soonest 15 = .ok (.iload_n 2, 1) := by decide +kernel
theorem dX5_soonest_16 : decode cX5_soonest 16 = .ok (.invokevirtual 214, 3) := by decide +kernel
theorem dX5_soonest_19 : decode cX5_soonest 19 = .ok (.ireturn, 1) := by decide +kernel
theorem dX5_convoy_0 : decode cX5_convoy 0 = .ok (.aload_n 0, 1) := by decide +kernel
theorem dX5_convoy_1 : decode cX5_convoy 1 = .ok (.iload_n 1, 1) := by decide +kernel
theorem dX5_convoy_2 : decode cX5_convoy 2 = .ok (.iload_n 2, 1) := by decide +kernel
theorem dX5_convoy_3 : decode cX5_convoy 3 = .ok (.iload_n 3, 1) := by decide +kernel
theorem dX5_convoy_4 : decode cX5_convoy 4 = .ok (.invokevirtual 217, 3) := by decide +kernel
theorem dX5_convoy_7 : decode cX5_convoy 7 = .ok (.aload_n 0, 1) := by decide +kernel
theorem dX5_convoy_8 : decode cX5_convoy 8 = .ok (.getfield 50, 3) := by decide +kernel
theorem dX5_convoy_11 : decode cX5_convoy 11 = .ok (.iload_n 1, 1) := by decide +kernel
theorem dX5_convoy_12 : decode cX5_convoy 12 = .ok (.iload_n 2, 1) := by decide +kernel
theorem dX5_convoy_13 : decode cX5_convoy 13 = .ok (.iload_n 3, 1) := by decide +kernel
theorem dX5_convoy_14 : decode cX5_convoy 14 = .ok (.invokevirtual 202, 3) := by decide +kernel
theorem dX5_convoy_17 : decode cX5_convoy 17 = .ok (.aload_n 0, 1) := by decide +kernel
theorem dX5_convoy_18 : decode cX5_convoy 18 = .ok (.getfield 50, 3) := by decide +kernel
theorem dX5_convoy_21 : decode cX5_convoy 21 = .ok (.iload_n 1, 1) := by decide +kernel
theorem dX5_convoy_22 : decode cX5_convoy 22 = .ok (.invokevirtual 220, 3) := by decide +kernel
theorem dX5_convoy_25 : decode cX5_convoy 25 = .ok (.istore 4, 2) := by decide +kernel
theorem dX5_convoy_27 : decode cX5_convoy 27 = .ok (.iload 4, 2) := by decide +kernel
theorem dX5_convoy_29 : decode cX5_convoy 29 = .ok (.iconst (-1), 1) := by decide +kernel
theorem dX5_convoy_30 : decode cX5_convoy 30 = .ok (.if_icmp .ne 7, 3) := by decide +kernel
theorem dX5_convoy_33 : decode cX5_convoy 33 = .ok (.iconst (-1), 1) := by decide +kernel
theorem dX5_convoy_34 : decode cX5_convoy 34 = .ok (.goto 7, 3) := by decide +kernel
theorem dX5_convoy_37 : decode cX5_convoy 37 = .ok (.iload_n 3, 1) := by decide +kernel
theorem dX5_convoy_38 : decode cX5_convoy 38 = .ok (.iload 4, 2) := by decide +kernel
theorem dX5_convoy_40 : decode cX5_convoy 40 = .ok (.iadd, 1) := by decide +kernel
theorem dX5_convoy_41 : decode cX5_convoy 41 = .ok (.ireturn, 1) := by decide +kernel
theorem dX5_order_0 : decode cX5_order 0 = .ok (.aload_n 0, 1) := by decide +kernel
theorem dX5_order_1 : decode cX5_order 1 = .ok (.iload_n 1, 1) := by decide +kernel
theorem dX5_order_2 : decode cX5_order 2 = .ok (.iload_n 2, 1) := by decide +kernel
theorem dX5_order_3 : decode cX5_order 3 = .ok (.iload_n 3, 1) := by decide +kernel
theorem dX5_order_4 : decode cX5_order 4 = .ok (.invokevirtual 217, 3) := by decide +kernel
theorem dX5_order_7 : decode cX5_order 7 = .ok (.iload 4, 2) := by decide +kernel
theorem dX5_order_9 : decode cX5_order 9 = .ok (.iconst (-1), 1) := by decide +kernel
theorem dX5_order_10 : decode cX5_order 10 = .ok (.if_icmp .lt 12, 3) := by decide +kernel
theorem dX5_order_13 : decode cX5_order 13 = .ok (.iload 4, 2) := by decide +kernel
theorem dX5_order_15 : decode cX5_order 15 = .ok (.iload_n 1, 1) := by decide +kernel
theorem dX5_order_16 : decode cX5_order 16 = .ok (.invokestatic 223, 3) := by decide +kernel
theorem dX5_order_19 : decode cX5_order 19 = .ok (.if_icmp .lt 7, 3) := by decide +kernel
theorem dX5_order_22 : decode cX5_order 22 = .ok (.aload_n 0, 1) := by decide +kernel
theorem dX5_order_23 : decode cX5_order 23 = .ok (.invokevirtual 159, 3) := by decide +kernel
theorem dX5_order_26 : decode cX5_order 26 = .ok (.aload_n 0, 1) := by decide +kernel
theorem dX5_order_27 : decode cX5_order 27 = .ok (.getfield 50, 3) := by decide +kernel
theorem dX5_order_30 : decode cX5_order 30 = .ok (.iload_n 1, 1) := by decide +kernel
theorem dX5_order_31 : decode cX5_order 31 = .ok (.iload_n 2, 1) := by decide +kernel
theorem dX5_order_32 : decode cX5_order 32 = .ok (.iload_n 3, 1) := by decide +kernel
theorem dX5_order_33 : decode cX5_order 33 = .ok (.invokevirtual 202, 3) := by decide +kernel
theorem dX5_order_36 : decode cX5_order 36 = .ok (.aload_n 0, 1) := by decide +kernel
theorem dX5_order_37 : decode cX5_order 37 = .ok (.getfield 50, 3) := by decide +kernel
theorem dX5_order_40 : decode cX5_order 40 = .ok (.iload_n 1, 1) := by decide +kernel
theorem dX5_order_41 : decode cX5_order 41 = .ok (.invokevirtual 228, 3) := by decide +kernel
theorem dX5_order_44 : decode cX5_order 44 = .ok (.istore 5, 2) := by decide +kernel
theorem dX5_order_46 : decode cX5_order 46 = .ok (.iload 5, 2) := by decide +kernel
theorem dX5_order_48 : decode cX5_order 48 = .ok (.iconst (-1), 1) := by decide +kernel
theorem dX5_order_49 : decode cX5_order 49 = .ok (.if_icmp .ne 5, 3) := by decide +kernel
theorem dX5_order_52 : decode cX5_order 52 = .ok (.iconst (-1), 1) := by decide +kernel
theorem dX5_order_53 : decode cX5_order 53 = .ok (.ireturn, 1) := by decide +kernel
theorem dX5_order_54 : decode cX5_order 54 = .ok (.iload 4, 2) := by decide +kernel
theorem dX5_order_56 : decode cX5_order 56 = .ok (.iconst (-1), 1) := by decide +kernel
theorem dX5_order_57 : decode cX5_order 57 = .ok (.if_icmp .ne 10, 3) := by decide +kernel
theorem dX5_order_60 : decode cX5_order 60 = .ok (.iload_n 3, 1) := by decide +kernel
theorem dX5_order_61 : decode cX5_order 61 = .ok (.iload 5, 2) := by decide +kernel
theorem dX5_order_63 : decode cX5_order 63 = .ok (.iadd, 1) := by decide +kernel
theorem dX5_order_64 : decode cX5_order 64 = .ok (.goto 13, 3) := by decide +kernel
theorem dX5_order_67 : decode cX5_order 67 = .ok (.aload_n 0, 1) := by decide +kernel
theorem dX5_order_68 : decode cX5_order 68 = .ok (.getfield 50, 3) := by decide +kernel
theorem dX5_order_71 : decode cX5_order 71 = .ok (.getfield 231, 3) := by decide +kernel
theorem dX5_order_74 : decode cX5_order 74 = .ok (.iload 4, 2) := by decide +kernel
theorem dX5_order_76 : decode cX5_order 76 = .ok (.iaload, 1) := by decide +kernel
theorem dX5_order_77 : decode cX5_order 77 = .ok (.ireturn, 1) := by decide +kernel
theorem dX5_close_0 : decode cX5_close 0 = .ok (.aload_n 0, 1) := by decide +kernel
theorem dX5_close_1 : decode cX5_close 1 = .ok (.iload_n 1, 1) := by decide +kernel
theorem dX5_close_2 : decode cX5_close 2 = .ok (.iload_n 2, 1) := by decide +kernel
theorem dX5_close_3 : decode cX5_close 3 = .ok (.iload_n 3, 1) := by decide +kernel
theorem dX5_close_4 : decode cX5_close 4 = .ok (.invokevirtual 199, 3) := by decide +kernel
theorem dX5_close_7 : decode cX5_close 7 = .ok (.aload_n 0, 1) := by decide +kernel
theorem dX5_close_8 : decode cX5_close 8 = .ok (.iload_n 1, 1) := by decide +kernel
theorem dX5_close_9 : decode cX5_close 9 = .ok (.iload_n 2, 1) := by decide +kernel
theorem dX5_close_10 : decode cX5_close 10 = .ok (.iload_n 3, 1) := by decide +kernel
theorem dX5_close_11 : decode cX5_close 11 = .ok (.invokevirtual 126, 3) := by decide +kernel
theorem dX5_close_14 : decode cX5_close 14 = .ok (.ireturn, 1) := by decide +kernel
theorem dX5_aground_0 : decode cX5_aground 0 = .ok (.iconst 0, 1) := by decide +kernel
theorem dX5_aground_1 : decode cX5_aground 1 = .ok (.istore_n 1, 1) := by decide +kernel
theorem dX5_aground_2 : decode cX5_aground 2 = .ok (.iconst 0, 1) := by decide +kernel
theorem dX5_aground_3 : decode cX5_aground 3 = .ok (.istore_n 2, 1) := by decide +kernel
theorem dX5_aground_4 : decode cX5_aground 4 = .ok (.iload_n 2, 1) := by decide +kernel
theorem dX5_aground_5 : decode cX5_aground 5 = .ok (.aload_n 0, 1) := by decide +kernel
theorem dX5_aground_6 : decode cX5_aground 6 = .ok (.getfield 10, 3) := by decide +kernel
theorem dX5_aground_9 : decode cX5_aground 9 = .ok (.getfield 92, 3) := by decide +kernel
theorem dX5_aground_12 : decode cX5_aground 12 = .ok (.if_icmp .ge 57, 3) := by decide +kernel
theorem dX5_aground_15 : decode cX5_aground 15 = .ok (.aload_n 0, 1) := by decide +kernel
theorem dX5_aground_16 : decode cX5_aground 16 = .ok (.getfield 10, 3) := by decide +kernel
theorem dX5_aground_19 : decode cX5_aground 19 = .ok (.iload_n 2, 1) := by decide +kernel
theorem dX5_aground_20 : decode cX5_aground 20 = .ok (.invokevirtual 118, 3) := by decide +kernel
theorem dX5_aground_23 : decode cX5_aground 23 = .ok (.ifCond .eq 40, 3) := by decide +kernel
theorem dX5_aground_26 : decode cX5_aground 26 = .ok (.aload_n 0, 1) := by decide +kernel
theorem dX5_aground_27 : decode cX5_aground 27 = .ok (.getfield 50, 3) := by decide +kernel
theorem dX5_aground_30 : decode cX5_aground 30 = .ok (.iload_n 2, 1) := by decide +kernel
theorem dX5_aground_31 : decode cX5_aground 31 = .ok (.aload_n 0, 1) := by decide +kernel
theorem dX5_aground_32 : decode cX5_aground 32 = .ok (.getfield 10, 3) := by decide +kernel
theorem dX5_aground_35 : decode cX5_aground 35 = .ok (.iload_n 2, 1) := by decide +kernel
theorem dX5_aground_36 : decode cX5_aground 36 = .ok (.bipush 6, 2) := by decide +kernel
theorem dX5_aground_38 : decode cX5_aground 38 = .ok (.invokevirtual 109, 3) := by decide +kernel
theorem dX5_aground_41 : decode cX5_aground 41 = .ok (.aload_n 0, 1) := by decide +kernel
theorem dX5_aground_42 : decode cX5_aground 42 = .ok (.getfield 10, 3) := by decide +kernel
theorem dX5_aground_45 : decode cX5_aground 45 = .ok (.iload_n 2, 1) := by decide +kernel
theorem dX5_aground_46 : decode cX5_aground 46 = .ok (.bipush 7, 2) := by decide +kernel
