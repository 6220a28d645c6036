theorem dX4_init_0 : decode cX4_init 0 = .ok (.aload_n 0, 1) := by decide +kernel
theorem dX4_init_1 : decode cX4_init 1 = .ok (.invokespecial 3, 3) := by decide +kernel
theorem dX4_init_4 : decode cX4_init 4 = .ok (.aload_n 0, 1) := by decide +kernel
theorem dX4_init_5 : decode cX4_init 5 = .ok (.sipush 15000, 3) := by decide +kernel
theorem dX4_init_8 : decode cX4_init 8 = .ok (.newarray .int, 2) := by decide +kernel
theorem dX4_init_10 : decode cX4_init 10 = .ok (.putfield 11, 3) := by decide +kernel
theorem dX4_init_13 : decode cX4_init 13 = .ok (.aload_n 0, 1) := by decide +kernel
theorem dX4_init_14 : decode cX4_init 14 = .ok (.aload_n 1, 1) := by decide +kernel
theorem dX4_init_15 : decode cX4_init 15 = .ok (.putfield 15, 3) := by decide +kernel
theorem dX4_init_18 : decode cX4_init 18 = .ok (.return_, 1) := by decide +kernel
theorem dX4_waterAt_0 : decode cX4_waterAt 0 = .ok (.aload_n 0, 1) := by decide +kernel
theorem dX4_waterAt_1 : decode cX4_waterAt 1 = .ok (.iload_n 2, 1) := by decide +kernel
theorem dX4_waterAt_2 : decode cX4_waterAt 2 = .ok (.aload_n 0, 1) := by decide +kernel
theorem dX4_waterAt_3 : decode cX4_waterAt 3 = .ok (.getfield 15, 3) := by decide +kernel
theorem dX4_waterAt_6 : decode cX4_waterAt 6 = .ok (.iload_n 1, 1) := by decide +kernel
theorem dX4_waterAt_7 : decode cX4_waterAt 7 = .ok (.iconst 3, 1) := by decide +kernel
theorem dX4_waterAt_8 : decode cX4_waterAt 8 = .ok (.invokevirtual 19, 3) := by decide +kernel
theorem dX4_waterAt_11 : decode cX4_waterAt 11 = .ok (.isub, 1) := by decide +kernel
theorem dX4_waterAt_12 : decode cX4_waterAt 12 = .ok (.invokevirtual 25, 3) := by decide +kernel
theorem dX4_waterAt_15 : decode cX4_waterAt 15 = .ok (.istore_n 3, 1) := by decide +kernel
theorem dX4_waterAt_16 : decode cX4_waterAt 16 = .ok (.aload_n 0, 1) := by decide +kernel
theorem dX4_waterAt_17 : decode cX4_waterAt 17 = .ok (.getfield 15, 3) := by decide +kernel
theorem dX4_waterAt_20 : decode cX4_waterAt 20 = .ok (.iload_n 1, 1) := by decide +kernel
theorem dX4_waterAt_21 : decode cX4_waterAt 21 = .ok (.iconst 1, 1) := by decide +kernel
theorem dX4_waterAt_22 : decode cX4_waterAt 22 = .ok (.invokevirtual 19, 3) := by decide +kernel
theorem dX4_waterAt_25 : decode cX4_waterAt 25 = .ok (.iload_n 3, 1) := by decide +kernel
theorem dX4_waterAt_26 : decode cX4_waterAt 26 = .ok (.aload_n 0, 1) := by decide +kernel
theorem dX4_waterAt_27 : decode cX4_waterAt 27 = .ok (.getfield 15, 3) := by decide +kernel
theorem dX4_waterAt_30 : decode cX4_waterAt 30 = .ok (.iload_n 1, 1) := by decide +kernel
theorem dX4_waterAt_31 : decode cX4_waterAt 31 = .ok (.iconst 4, 1) := by decide +kernel
theorem dX4_waterAt_32 : decode cX4_waterAt 32 = .ok (.invokevirtual 19, 3) := by decide +kernel
theorem dX4_waterAt_35 : decode cX4_waterAt 35 = .ok (.imul, 1) := by decide +kernel
theorem dX4_waterAt_36 : decode cX4_waterAt 36 = .ok (.bipush 100, 2) := by decide +kernel
theorem dX4_waterAt_38 : decode cX4_waterAt 38 = .ok (.idiv, 1) := by decide +kernel
theorem dX4_waterAt_39 : decode cX4_waterAt 39 = .ok (.iadd, 1) := by decide +kernel
theorem dX4_waterAt_40 : decode cX4_waterAt 40 = .ok (.ireturn, 1) := by decide +kernel
theorem dX4_heightAt_0 : decode cX4_heightAt 0 = .ok (.aload_n 0, 1) := by decide +kernel
theorem dX4_heightAt_1 : decode cX4_heightAt 1 = .ok (.getfield 15, 3) := by decide +kernel
theorem dX4_heightAt_4 : decode cX4_heightAt 4 = .ok (.getfield 29, 3) := by decide +kernel
theorem dX4_heightAt_7 : decode cX4_heightAt 7 = .ok (.aload_n 0, 1) := by decide +kernel
theorem dX4_heightAt_8 : decode cX4_heightAt 8 = .ok (.getfield 15, 3) := by decide +kernel
theorem dX4_heightAt_11 : decode cX4_heightAt 11 = .ok (.getfield 33, 3) := by decide +kernel
theorem dX4_heightAt_14 : decode cX4_heightAt 14 = .ok (.iadd, 1) := by decide +kernel
theorem dX4_heightAt_15 : decode cX4_heightAt 15 = .ok (.istore_n 2, 1) := by decide +kernel
theorem dX4_heightAt_16 : decode cX4_heightAt 16 = .ok (.aload_n 0, 1) := by decide +kernel
theorem dX4_heightAt_17 : decode cX4_heightAt 17 = .ok (.getfield 36, 3) := by decide +kernel
theorem dX4_heightAt_20 : decode cX4_heightAt 20 = .ok (.aload_n 0, 1) := by decide +kernel
theorem dX4_heightAt_21 : decode cX4_heightAt 21 = .ok (.getfield 15, 3) := by decide +kernel
theorem dX4_heightAt_24 : decode cX4_heightAt 24 = .ok (.getfield 39, 3) := by decide +kernel
theorem dX4_heightAt_27 : decode cX4_heightAt 27 = .ok (.if_icmp .eq 22, 3) := by decide +kernel
theorem dX4_heightAt_30 : decode cX4_heightAt 30 = .ok (.aload_n 0, 1) := by decide +kernel
theorem dX4_heightAt_31 : decode cX4_heightAt 31 = .ok (.getfield 11, 3) := by decide +kernel
theorem dX4_heightAt_34 : decode cX4_heightAt 34 = .ok (.iconst 0, 1) := by decide +kernel
theorem dX4_heightAt_35 : decode cX4_heightAt 35 = .ok (.invokestatic 42, 3) := by decide +kernel
theorem dX4_heightAt_38 : decode cX4_heightAt 38 = .ok (.aload_n 0, 1) := by decide +kernel
theorem dX4_heightAt_39 : decode cX4_heightAt 39 = .ok (.aload_n 0, 1) := by decide +kernel
theorem dX4_heightAt_40 : decode cX4_heightAt 40 = .ok (.getfield 15, 3) := by decide +kernel
theorem dX4_heightAt_43 : decode cX4_heightAt 43 = .ok (.getfield 39, 3) := by decide +kernel
theorem dX4_heightAt_46 : decode cX4_heightAt 46 = .ok (.putfield 36, 3) := by decide +kernel
theorem dX4_heightAt_49 : decode cX4_heightAt 49 = .ok (.iload_n 1, 1) := by decide +kernel
theorem dX4_heightAt_50 : decode cX4_heightAt 50 = .ok (.sipush 300, 3) := by decide +kernel
theorem dX4_heightAt_53 : decode cX4_heightAt 53 = .ok (.iadd, 1) := by decide +kernel
theorem dX4_heightAt_54 : decode cX4_heightAt 54 = .ok (.istore_n 3, 1) := by decide +kernel
theorem dX4_heightAt_55 : decode cX4_heightAt 55 = .ok (.iload_n 3, 1) := by decide +kernel
theorem dX4_heightAt_56 : decode cX4_heightAt 56 = .ok (.ifCond .lt 12, 3) := by decide +kernel
theorem dX4_heightAt_59 : decode cX4_heightAt 59 = .ok (.iload_n 3, 1) := by decide +kernel
theorem dX4_heightAt_60 : decode cX4_heightAt 60 = .ok (.aload_n 0, 1) := by decide +kernel
theorem dX4_heightAt_61 : decode cX4_heightAt 61 = .ok (.getfield 11, 3) := by decide +kernel
theorem dX4_heightAt_64 : decode cX4_heightAt 64 = .ok (.arraylength, 1) := by decide +kernel
theorem dX4_heightAt_65 : decode cX4_heightAt 65 = .ok (.if_icmp .lt 11, 3) := by decide +kernel
theorem dX4_heightAt_68 : decode cX4_heightAt 68 = .ok (.iload_n 2, 1) := by decide +kernel
theorem dX4_heightAt_69 : decode cX4_heightAt 69 = .ok (.aload_n 0, 1) := by decide +kernel
theorem dX4_heightAt_70 : decode cX4_heightAt 70 = .ok (.iload_n 1, 1) := by decide +kernel
theorem dX4_heightAt_71 : decode cX4_heightAt 71 = .ok (.invokevirtual 48, 3) := by decide +kernel
theorem dX4_heightAt_74 : decode cX4_heightAt 74 = .ok (.iadd, 1) := by decide +kernel
theorem dX4_heightAt_75 : decode cX4_heightAt 75 = .ok (.ireturn, 1) := by decide +kernel
theorem dX4_heightAt_76 : decode cX4_heightAt 76 = .ok (.aload_n 0, 1) := by decide +kernel
theorem dX4_heightAt_77 : decode cX4_heightAt 77 = .ok (.getfield 11, 3) := by decide +kernel
theorem dX4_heightAt_80 : decode cX4_heightAt 80 = .ok (.iload_n 3, 1) := by decide +kernel
theorem dX4_heightAt_81 : decode cX4_heightAt 81 = .ok (.iaload, 1) := by decide +kernel
theorem dX4_heightAt_82 : decode cX4_heightAt 82 = .ok (.ifCond .ne 17, 3) := by decide +kernel
theorem dX4_heightAt_85 : decode cX4_heightAt 85 = .ok (.aload_n 0, 1) := by decide +kernel
theorem dX4_heightAt_86 : decode cX4_heightAt 86 = .ok (.getfield 11, 3) := by decide +kernel
theorem dX4_heightAt_89 : decode cX4_heightAt 89 = .ok (.iload_n 3, 1) := by decide +kernel
theorem dX4_heightAt_90 : decode cX4_heightAt 90 = .ok (.aload_n 0, 1) := by decide +kernel
theorem dX4_heightAt_91 : decode cX4_heightAt 91 = .ok (.iload_n 1, 1) := by decide +kernel
theorem dX4_heightAt_92 : decode cX4_heightAt 92 = .ok (.invokevirtual 48, 3) := by decide +kernel
theorem dX4_heightAt_95 : decode cX4_heightAt 95 = .ok (.ldc 51, 2) := by decide +kernel
theorem dX4_heightAt_97 : decode cX4_heightAt 97 = .ok (.iadd, 1) := by decide +kernel
theorem dX4_heightAt_98 : decode cX4_heightAt 98 = .ok (.iastore, 1) := by decide +kernel
theorem dX4_heightAt_99 : decode cX4_heightAt 99 = .ok (.iload_n 2, 1) := by decide +kernel
theorem dX4_heightAt_100 : decode cX4_heightAt 100 = .ok (.aload_n 0, 1) := by decide +kernel
theorem dX4_heightAt_101 : decode cX4_heightAt 101 = .ok (.getfield 11, 3) := by decide +kernel
theorem dX4_heightAt_104 : decode cX4_heightAt 104 = .ok (.iload_n 3, 1) := by decide +kernel
theorem dX4_heightAt_105 : decode cX4_heightAt 105 = .ok (.iaload, 1) := by decide +kernel
theorem dX4_heightAt_106 : decode cX4_heightAt 106 = .ok (.iadd, 1) := by decide +kernel
theorem dX4_heightAt_107 : decode cX4_heightAt 107 = .ok (.ldc 51, 2) := by decide +kernel
theorem dX4_heightAt_109 : decode cX4_heightAt 109 = .ok (.isub, 1) := by decide +kernel
theorem dX4_heightAt_110 : decode cX4_heightAt 110 = .ok (.ireturn, 1) := by decide +kernel
theorem dX4_sumOfWaves_0 : decode cX4_sumOfWaves 0 = .ok (.iconst 0, 1) := by decide +kernel
theorem dX4_sumOfWaves_1 : decode cX4_sumOfWaves 1 = .ok (.istore_n 2, 1) := by decide +kernel
theorem dX4_sumOfWaves_2 : decode cX4_sumOfWaves 2 = .ok (.iconst 0, 1) := by decide +kernel
theorem dX4_sumOfWaves_3 : decode cX4_sumOfWaves 3 = .ok (.istore_n 3, 1) := by decide +kernel
theorem dX4_sumOfWaves_4 : decode cX4_sumOfWaves 4 = .ok (.iload_n 3, 1) := by decide +kernel
theorem dX4_sumOfWaves_5 : decode cX4_sumOfWaves 5 = .ok (.aload_n 0, 1) := by decide +kernel
theorem dX4_sumOfWaves_6 : decode cX4_sumOfWaves 6 = .ok (.getfield 15, 3) := by decide +kernel
theorem dX4_sumOfWaves_9 : decode cX4_sumOfWaves 9 = .ok (.getfield 52, 3) := by decide +kernel
theorem dX4_sumOfWaves_12 : decode cX4_sumOfWaves 12 = .ok (.if_icmp .ge 71, 3) := by decide +kernel
theorem dX4_sumOfWaves_15 : decode cX4_sumOfWaves 15 = .ok (.iconst 1, 1) := by decide +kernel
theorem dX4_sumOfWaves_16 : decode cX4_sumOfWaves 16 = .ok (.aload_n 0, 1) := by decide +kernel
theorem dX4_sumOfWaves_17 : decode cX4_sumOfWaves 17 = .ok (.getfield 15, 3) := by decide +kernel
theorem dX4_sumOfWaves_20 : decode cX4_sumOfWaves 20 = .ok (.iload_n 3, 1) := by decide +kernel
theorem dX4_sumOfWaves_21 : decode cX4_sumOfWaves 21 = .ok (.iconst 1, 1) := by decide +kernel
theorem dX4_sumOfWaves_22 : decode cX4_sumOfWaves 22 = .ok (.invokevirtual 55, 3) := by decide +kernel
theorem dX4_sumOfWaves_25 : decode cX4_sumOfWaves 25 = .ok (.invokestatic 58, 3) := by decide +kernel
theorem dX4_sumOfWaves_28 : decode cX4_sumOfWaves 28 = .ok (.istore 4, 2) := by decide +kernel
theorem dX4_sumOfWaves_30 : decode cX4_sumOfWaves 30 = .ok (.iload_n 1, 1) := by decide +kernel
theorem dX4_sumOfWaves_31 : decode cX4_sumOfWaves 31 = .ok (.aload_n 0, 1) := by decide +kernel
theorem dX4_sumOfWaves_32 : decode cX4_sumOfWaves 32 = .ok (.getfield 15, 3) := by decide +kernel
theorem dX4_sumOfWaves_35 : decode cX4_sumOfWaves 35 = .ok (.iload_n 3, 1) := by decide +kernel
theorem dX4_sumOfWaves_36 : decode cX4_sumOfWaves 36 = .ok (.iconst 2, 1) := by decide +kernel
theorem dX4_sumOfWaves_37 : decode cX4_sumOfWaves 37 = .ok (.invokevirtual 55, 3) := by decide +kernel
theorem dX4_sumOfWaves_40 : decode cX4_sumOfWaves 40 = .ok (.isub, 1) := by decide +kernel
theorem dX4_sumOfWaves_41 : decode cX4_sumOfWaves 41 = .ok (.iload 4, 2) := by decide +kernel
theorem dX4_sumOfWaves_43 : decode cX4_sumOfWaves 43 = .ok (.invokestatic 63, 3) := by decide +kernel
theorem dX4_sumOfWaves_46 : decode cX4_sumOfWaves 46 = .ok (.istore 5, 2) := by decide +kernel
theorem dX4_sumOfWaves_48 : decode cX4_sumOfWaves 48 = .ok (.iload_n 2, 1) := by decide +kernel
theorem dX4_sumOfWaves_49 : decode cX4_sumOfWaves 49 = .ok (.aload_n 0, 1) := by decide +kernel
theorem dX4_sumOfWaves_50 : decode cX4_sumOfWaves 50 = .ok (.getfield 15, 3) := by decide +kernel
theorem dX4_sumOfWaves_53 : decode cX4_sumOfWaves 53 = .ok (.iload_n 3, 1) := by decide +kernel
theorem dX4_sumOfWaves_54 : decode cX4_sumOfWaves 54 = .ok (.iconst 0, 1) := by decide +kernel
theorem dX4_sumOfWaves_55 : decode cX4_sumOfWaves 55 = .ok (.invokevirtual 55, 3) := by decide +kernel
theorem dX4_sumOfWaves_58 : decode cX4_sumOfWaves 58 = .ok (.iload 5, 2) := by decide +kernel
theorem dX4_sumOfWaves_60 : decode cX4_sumOfWaves 60 = .ok (.sipush 3600, 3) := by decide +kernel
theorem dX4_sumOfWaves_63 : decode cX4_sumOfWaves 63 = .ok (.imul, 1) := by decide +kernel
theorem dX4_sumOfWaves_64 : decode cX4_sumOfWaves 64 = .ok (.iload 4, 2) := by decide +kernel
theorem dX4_sumOfWaves_66 : decode cX4_sumOfWaves 66 = .ok (.idiv, 1) := by decide +kernel
theorem dX4_sumOfWaves_67 : decode cX4_sumOfWaves 67 = .ok (.invokestatic 66, 3) := by decide +kernel
theorem dX4_sumOfWaves_70 : decode cX4_sumOfWaves 70 = .ok (.imul, 1) := by decide +kernel
theorem dX4_sumOfWaves_71 : decode cX4_sumOfWaves 71 = .ok (.sipush 1000, 3) := by decide +kernel
theorem dX4_sumOfWaves_74 : decode cX4_sumOfWaves 74 = .ok (.idiv, 1) := by decide +kernel
theorem dX4_sumOfWaves_75 : decode cX4_sumOfWaves 75 = .ok (.iadd, 1) := by decide +kernel
theorem dX4_sumOfWaves_76 : decode cX4_sumOfWaves 76 = .ok (.istore_n 2, 1) := by decide +kernel
theorem dX4_sumOfWaves_77 : decode cX4_sumOfWaves 77 = .ok (.iinc 3 1, 3) := by decide +kernel
theorem dX4_sumOfWaves_80 : decode cX4_sumOfWaves 80 = .ok (.goto (-76), 3) := by decide +kernel
theorem dX4_sumOfWaves_83 : decode cX4_sumOfWaves 83 = .ok (.iload_n 2, 1) := by decide +kernel
theorem dX4_sumOfWaves_84 : decode cX4_sumOfWaves 84 = .ok (.ireturn, 1) := by decide +kernel
theorem dX4_partOf_0 : decode cX4_partOf 0 = .ok (.iload_n 0, 1) := by decide +kernel
theorem dX4_partOf_1 : decode cX4_partOf 1 = .ok (.sipush 1800, 3) := by decide +kernel
theorem dX4_partOf_4 : decode cX4_partOf 4 = .ok (.if_icmp .ge 7, 3) := by decide +kernel
theorem dX4_partOf_7 : decode cX4_partOf 7 = .ok (.iload_n 0, 1) := by decide +kernel
theorem dX4_partOf_8 : decode cX4_partOf 8 = .ok (.goto 8, 3) := by decide +kernel
theorem dX4_partOf_11 : decode cX4_partOf 11 = .ok (.iload_n 0, 1) := by decide +kernel
theorem dX4_partOf_12 : decode cX4_partOf 12 = .ok (.sipush 1800, 3) := by decide +kernel
theorem dX4_partOf_15 : decode cX4_partOf 15 = .ok (.isub, 1) := by decide +kernel
theorem dX4_partOf_16 : decode cX4_partOf 16 = .ok (.istore_n 1, 1) := by decide +kernel
theorem dX4_partOf_17 : decode cX4_partOf 17 = .ok (.iload_n 1, 1) := by decide +kernel
theorem dX4_partOf_18 : decode cX4_partOf 18 = .ok (.sipush 1800, 3) := by decide +kernel
theorem dX4_partOf_21 : decode cX4_partOf 21 = .ok (.iload_n 1, 1) := by decide +kernel
theorem dX4_partOf_22 : decode cX4_partOf 22 = .ok (.isub, 1) := by decide +kernel
theorem dX4_partOf_23 : decode cX4_partOf 23 = .ok (.imul, 1) := by decide +kernel
theorem dX4_partOf_24 : decode cX4_partOf 24 = .ok (.istore_n 2, 1) := by decide +kernel
theorem dX4_partOf_25 : decode cX4_partOf 25 = .ok (.ldc2_w 69, 3) := by decide +kernel
theorem dX4_partOf_28 : decode cX4_partOf 28 = .ok (.iload_n 2, 1) := by decide +kernel
theorem dX4_partOf_29 : decode cX4_partOf 29 = .ok (.i2l, 1) := by decide +kernel
theorem dX4_partOf_30 : decode cX4_partOf 30 = .ok (.lmul, 1) := by decide +kernel
theorem dX4_partOf_31 : decode cX4_partOf 31 = .ok (.ldc 71, 2) := by decide +kernel
theorem dX4_partOf_33 : decode cX4_partOf 33 = .ok (.iload_n 2, 1) := by decide +kernel
theorem dX4_partOf_34 : decode cX4_partOf 34 = .ok (.isub, 1) := by decide +kernel
theorem dX4_partOf_35 : decode cX4_partOf 35 = .ok (.i2l, 1) := by decide +kernel
theorem dX4_partOf_36 : decode cX4_partOf 36 = .ok (.ldiv, 1) := by decide +kernel
theorem dX4_partOf_37 : decode cX4_partOf 37 = .ok (.l2i, 1) := by decide +kernel
theorem dX4_partOf_38 : decode cX4_partOf 38 = .ok (.istore_n 3, 1) := by decide +kernel
theorem dX4_partOf_39 : decode cX4_partOf 39 = .ok (.iload_n 0, 1) := by decide +kernel
theorem dX4_partOf_40 : decode cX4_partOf 40 = .ok (.sipush 1800, 3) := by decide +kernel
theorem dX4_partOf_43 : decode cX4_partOf 43 = .ok (.if_icmp .ge 7, 3) := by decide +kernel
theorem dX4_partOf_46 : decode cX4_partOf 46 = .ok (.iload_n 3, 1) := by decide +kernel
theorem dX4_partOf_47 : decode cX4_partOf 47 = .ok (.goto 5, 3) := by decide +kernel
theorem dX4_partOf_50 : decode cX4_partOf 50 = .ok (.iload_n 3, 1) := by decide +kernel
theorem dX4_partOf_51 : decode cX4_partOf 51 = .ok (.ineg, 1) := by decide +kernel
theorem dX4_partOf_52 : decode cX4_partOf 52 = .ok (.ireturn, 1) := by decide +kernel
