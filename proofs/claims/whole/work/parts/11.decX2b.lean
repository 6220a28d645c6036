theorem dX2_soonestEnd_167 : decode cX2_soonestEnd 167 = .ok (.aload_n 0, 1) := by decide +kernel
theorem dX2_soonestEnd_168 : decode cX2_soonestEnd 168 = .ok (.iload_n 1, 1) := by decide +kernel
theorem dX2_soonestEnd_169 : decode cX2_soonestEnd 169 = .ok (.iload 6, 2) := by decide +kernel
theorem dX2_soonestEnd_171 : decode cX2_soonestEnd 171 = .ok (.iload 7, 2) := by decide +kernel
theorem dX2_soonestEnd_173 : decode cX2_soonestEnd 173 = .ok (.iload 8, 2) := by decide +kernel
theorem dX2_soonestEnd_175 : decode cX2_soonestEnd 175 = .ok (.iload 4, 2) := by decide +kernel
theorem dX2_soonestEnd_177 : decode cX2_soonestEnd 177 = .ok (.invokevirtual 153, 3) := by decide +kernel
theorem dX2_soonestEnd_180 : decode cX2_soonestEnd 180 = .ok (.iinc 7 1, 3) := by decide +kernel
theorem dX2_soonestEnd_183 : decode cX2_soonestEnd 183 = .ok (.goto (-72), 3) := by decide +kernel
theorem dX2_soonestEnd_186 : decode cX2_soonestEnd 186 = .ok (.aload_n 0, 1) := by decide +kernel
theorem dX2_soonestEnd_187 : decode cX2_soonestEnd 187 = .ok (.getfield 29, 3) := by decide +kernel
theorem dX2_soonestEnd_190 : decode cX2_soonestEnd 190 = .ok (.iconst 0, 1) := by decide +kernel
theorem dX2_soonestEnd_191 : decode cX2_soonestEnd 191 = .ok (.aload_n 0, 1) := by decide +kernel
theorem dX2_soonestEnd_192 : decode cX2_soonestEnd 192 = .ok (.getfield 25, 3) := by decide +kernel
theorem dX2_soonestEnd_195 : decode cX2_soonestEnd 195 = .ok (.iconst 0, 1) := by decide +kernel
theorem dX2_soonestEnd_196 : decode cX2_soonestEnd 196 = .ok (.aload_n 0, 1) := by decide +kernel
theorem dX2_soonestEnd_197 : decode cX2_soonestEnd 197 = .ok (.getfield 25, 3) := by decide +kernel
theorem dX2_soonestEnd_200 : decode cX2_soonestEnd 200 = .ok (.arraylength, 1) := by decide +kernel
theorem dX2_soonestEnd_201 : decode cX2_soonestEnd 201 = .ok (.invokestatic 156, 3) := by decide +kernel
theorem dX2_soonestEnd_204 : decode cX2_soonestEnd 204 = .ok (.aload_n 0, 1) := by decide +kernel
theorem dX2_soonestEnd_205 : decode cX2_soonestEnd 205 = .ok (.invokevirtual 162, 3) := by decide +kernel
theorem dX2_soonestEnd_208 : decode cX2_soonestEnd 208 = .ok (.istore 4, 2) := by decide +kernel
theorem dX2_soonestEnd_210 : decode cX2_soonestEnd 210 = .ok (.iinc 5 1, 3) := by decide +kernel
theorem dX2_soonestEnd_213 : decode cX2_soonestEnd 213 = .ok (.goto (-173), 3) := by decide +kernel
theorem dX2_soonestEnd_216 : decode cX2_soonestEnd 216 = .ok (.iload 4, 2) := by decide +kernel
theorem dX2_soonestEnd_218 : decode cX2_soonestEnd 218 = .ok (.iconst (-1), 1) := by decide +kernel
theorem dX2_soonestEnd_219 : decode cX2_soonestEnd 219 = .ok (.if_icmp .ne 7, 3) := by decide +kernel
theorem dX2_soonestEnd_222 : decode cX2_soonestEnd 222 = .ok (.iconst (-1), 1) := by decide +kernel
theorem dX2_soonestEnd_223 : decode cX2_soonestEnd 223 = .ok (.goto 7, 3) := by decide +kernel
theorem dX2_soonestEnd_226 : decode cX2_soonestEnd 226 = .ok (.iload_n 2, 1) := by decide +kernel
theorem dX2_soonestEnd_227 : decode cX2_soonestEnd 227 = .ok (.iload 4, 2) := by decide +kernel
theorem dX2_soonestEnd_229 : decode cX2_soonestEnd 229 = .ok (.iadd, 1) := by decide +kernel
theorem dX2_soonestEnd_230 : decode cX2_soonestEnd 230 = .ok (.ireturn, 1) := by decide +kernel
theorem dX2_reachBehind_0 : decode cX2_reachBehind 0 = .ok (.aload_n 0, 1) := by decide +kernel
theorem dX2_reachBehind_1 : decode cX2_reachBehind 1 = .ok (.getfield 35, 3) := by decide +kernel
theorem dX2_reachBehind_4 : decode cX2_reachBehind 4 = .ok (.iload_n 2, 1) := by decide +kernel
theorem dX2_reachBehind_5 : decode cX2_reachBehind 5 = .ok (.iload_n 3, 1) := by decide +kernel
theorem dX2_reachBehind_6 : decode cX2_reachBehind 6 = .ok (.invokevirtual 103, 3) := by decide +kernel
theorem dX2_reachBehind_9 : decode cX2_reachBehind 9 = .ok (.istore 6, 2) := by decide +kernel
theorem dX2_reachBehind_11 : decode cX2_reachBehind 11 = .ok (.aload_n 0, 1) := by decide +kernel
theorem dX2_reachBehind_12 : decode cX2_reachBehind 12 = .ok (.getfield 35, 3) := by decide +kernel
theorem dX2_reachBehind_15 : decode cX2_reachBehind 15 = .ok (.iload_n 2, 1) := by decide +kernel
theorem dX2_reachBehind_16 : decode cX2_reachBehind 16 = .ok (.iconst 5, 1) := by decide +kernel
theorem dX2_reachBehind_17 : decode cX2_reachBehind 17 = .ok (.invokevirtual 166, 3) := by decide +kernel
theorem dX2_reachBehind_20 : decode cX2_reachBehind 20 = .ok (.iconst 1, 1) := by decide +kernel
theorem dX2_reachBehind_21 : decode cX2_reachBehind 21 = .ok (.if_icmp .ne 7, 3) := by decide +kernel
theorem dX2_reachBehind_24 : decode cX2_reachBehind 24 = .ok (.iconst 1, 1) := by decide +kernel
theorem dX2_reachBehind_25 : decode cX2_reachBehind 25 = .ok (.goto 4, 3) := by decide +kernel
theorem dX2_reachBehind_28 : decode cX2_reachBehind 28 = .ok (.iconst 0, 1) := by decide +kernel
theorem dX2_reachBehind_29 : decode cX2_reachBehind 29 = .ok (.istore 7, 2) := by decide +kernel
theorem dX2_reachBehind_31 : decode cX2_reachBehind 31 = .ok (.iload 5, 2) := by decide +kernel
theorem dX2_reachBehind_33 : decode cX2_reachBehind 33 = .ok (.iload 4, 2) := by decide +kernel
theorem dX2_reachBehind_35 : decode cX2_reachBehind 35 = .ok (.iadd, 1) := by decide +kernel
theorem dX2_reachBehind_36 : decode cX2_reachBehind 36 = .ok (.istore 8, 2) := by decide +kernel
theorem dX2_reachBehind_38 : decode cX2_reachBehind 38 = .ok (.aload_n 0, 1) := by decide +kernel
theorem dX2_reachBehind_39 : decode cX2_reachBehind 39 = .ok (.iload_n 1, 1) := by decide +kernel
theorem dX2_reachBehind_40 : decode cX2_reachBehind 40 = .ok (.iload_n 3, 1) := by decide +kernel
theorem dX2_reachBehind_41 : decode cX2_reachBehind 41 = .ok (.iload 8, 2) := by decide +kernel
theorem dX2_reachBehind_43 : decode cX2_reachBehind 43 = .ok (.sipush 1001, 3) := by decide +kernel
theorem dX2_reachBehind_46 : decode cX2_reachBehind 46 = .ok (.invokevirtual 136, 3) := by decide +kernel
theorem dX2_reachBehind_49 : decode cX2_reachBehind 49 = .ok (.iload 8, 2) := by decide +kernel
theorem dX2_reachBehind_51 : decode cX2_reachBehind 51 = .ok (.istore 9, 2) := by decide +kernel
theorem dX2_reachBehind_53 : decode cX2_reachBehind 53 = .ok (.iload 9, 2) := by decide +kernel
theorem dX2_reachBehind_55 : decode cX2_reachBehind 55 = .ok (.iload 6, 2) := by decide +kernel
theorem dX2_reachBehind_57 : decode cX2_reachBehind 57 = .ok (.iadd, 1) := by decide +kernel
theorem dX2_reachBehind_58 : decode cX2_reachBehind 58 = .ok (.sipush 1000, 3) := by decide +kernel
theorem dX2_reachBehind_61 : decode cX2_reachBehind 61 = .ok (.if_icmp .gt 50, 3) := by decide +kernel
theorem dX2_reachBehind_64 : decode cX2_reachBehind 64 = .ok (.aload_n 0, 1) := by decide +kernel
theorem dX2_reachBehind_65 : decode cX2_reachBehind 65 = .ok (.getfield 19, 3) := by decide +kernel
theorem dX2_reachBehind_68 : decode cX2_reachBehind 68 = .ok (.iload 9, 2) := by decide +kernel
theorem dX2_reachBehind_70 : decode cX2_reachBehind 70 = .ok (.iaload, 1) := by decide +kernel
theorem dX2_reachBehind_71 : decode cX2_reachBehind 71 = .ok (.iload 6, 2) := by decide +kernel
theorem dX2_reachBehind_73 : decode cX2_reachBehind 73 = .ok (.if_icmp .le 32, 3) := by decide +kernel
theorem dX2_reachBehind_76 : decode cX2_reachBehind 76 = .ok (.iload 7, 2) := by decide +kernel
theorem dX2_reachBehind_78 : decode cX2_reachBehind 78 = .ok (.ifCond .ne 16, 3) := by decide +kernel
theorem dX2_reachBehind_81 : decode cX2_reachBehind 81 = .ok (.aload_n 0, 1) := by decide +kernel
theorem dX2_reachBehind_82 : decode cX2_reachBehind 82 = .ok (.getfield 25, 3) := by decide +kernel
theorem dX2_reachBehind_85 : decode cX2_reachBehind 85 = .ok (.iload 9, 2) := by decide +kernel
theorem dX2_reachBehind_87 : decode cX2_reachBehind 87 = .ok (.iload 4, 2) := by decide +kernel
theorem dX2_reachBehind_89 : decode cX2_reachBehind 89 = .ok (.isub, 1) := by decide +kernel
theorem dX2_reachBehind_90 : decode cX2_reachBehind 90 = .ok (.baload, 1) := by decide +kernel
theorem dX2_reachBehind_91 : decode cX2_reachBehind 91 = .ok (.ifCond .eq 14, 3) := by decide +kernel
theorem dX2_reachBehind_94 : decode cX2_reachBehind 94 = .ok (.aload_n 0, 1) := by decide +kernel
theorem dX2_reachBehind_95 : decode cX2_reachBehind 95 = .ok (.getfield 29, 3) := by decide +kernel
theorem dX2_reachBehind_98 : decode cX2_reachBehind 98 = .ok (.iload 9, 2) := by decide +kernel
theorem dX2_reachBehind_100 : decode cX2_reachBehind 100 = .ok (.iload 6, 2) := by decide +kernel
theorem dX2_reachBehind_102 : decode cX2_reachBehind 102 = .ok (.iadd, 1) := by decide +kernel
theorem dX2_reachBehind_103 : decode cX2_reachBehind 103 = .ok (.iconst 1, 1) := by decide +kernel
theorem dX2_reachBehind_104 : decode cX2_reachBehind 104 = .ok (.bastore, 1) := by decide +kernel
theorem dX2_reachBehind_105 : decode cX2_reachBehind 105 = .ok (.iinc 9 1, 3) := by decide +kernel
theorem dX2_reachBehind_108 : decode cX2_reachBehind 108 = .ok (.goto (-55), 3) := by decide +kernel
theorem dX2_reachBehind_111 : decode cX2_reachBehind 111 = .ok (.return_, 1) := by decide +kernel
theorem dX2_firstReached_0 : decode cX2_firstReached 0 = .ok (.iconst 0, 1) := by decide +kernel
theorem dX2_firstReached_1 : decode cX2_firstReached 1 = .ok (.istore_n 1, 1) := by decide +kernel
theorem dX2_firstReached_2 : decode cX2_firstReached 2 = .ok (.iload_n 1, 1) := by decide +kernel
theorem dX2_firstReached_3 : decode cX2_firstReached 3 = .ok (.aload_n 0, 1) := by decide +kernel
theorem dX2_firstReached_4 : decode cX2_firstReached 4 = .ok (.getfield 25, 3) := by decide +kernel
theorem dX2_firstReached_7 : decode cX2_firstReached 7 = .ok (.arraylength, 1) := by decide +kernel
theorem dX2_firstReached_8 : decode cX2_firstReached 8 = .ok (.if_icmp .ge 20, 3) := by decide +kernel
theorem dX2_firstReached_11 : decode cX2_firstReached 11 = .ok (.aload_n 0, 1) := by decide +kernel
theorem dX2_firstReached_12 : decode cX2_firstReached 12 = .ok (.getfield 25, 3) := by decide +kernel
theorem dX2_firstReached_15 : decode cX2_firstReached 15 = .ok (.iload_n 1, 1) := by decide +kernel
theorem dX2_firstReached_16 : decode cX2_firstReached 16 = .ok (.baload, 1) := by decide +kernel
theorem dX2_firstReached_17 : decode cX2_firstReached 17 = .ok (.ifCond .eq 5, 3) := by decide +kernel
theorem dX2_firstReached_20 : decode cX2_firstReached 20 = .ok (.iload_n 1, 1) := by decide +kernel
theorem dX2_firstReached_21 : decode cX2_firstReached 21 = .ok (.ireturn, 1) := by decide +kernel
theorem dX2_firstReached_22 : decode cX2_firstReached 22 = .ok (.iinc 1 1, 3) := by decide +kernel
theorem dX2_firstReached_25 : decode cX2_firstReached 25 = .ok (.goto (-23), 3) := by decide +kernel
theorem dX2_firstReached_28 : decode cX2_firstReached 28 = .ok (.iconst (-1), 1) := by decide +kernel
theorem dX2_firstReached_29 : decode cX2_firstReached 29 = .ok (.ireturn, 1) := by decide +kernel
theorem dX2_convoyStart_0 : decode cX2_convoyStart 0 = .ok (.iconst 0, 1) := by decide +kernel
theorem dX2_convoyStart_1 : decode cX2_convoyStart 1 = .ok (.istore_n 2, 1) := by decide +kernel
theorem dX2_convoyStart_2 : decode cX2_convoyStart 2 = .ok (.iload_n 2, 1) := by decide +kernel
theorem dX2_convoyStart_3 : decode cX2_convoyStart 3 = .ok (.sipush 1440, 3) := by decide +kernel
theorem dX2_convoyStart_6 : decode cX2_convoyStart 6 = .ok (.if_icmp .ge 20, 3) := by decide +kernel
theorem dX2_convoyStart_9 : decode cX2_convoyStart 9 = .ok (.aload_n 0, 1) := by decide +kernel
theorem dX2_convoyStart_10 : decode cX2_convoyStart 10 = .ok (.iload_n 1, 1) := by decide +kernel
theorem dX2_convoyStart_11 : decode cX2_convoyStart 11 = .ok (.iload_n 2, 1) := by decide +kernel
theorem dX2_convoyStart_12 : decode cX2_convoyStart 12 = .ok (.invokevirtual 169, 3) := by decide +kernel
theorem dX2_convoyStart_15 : decode cX2_convoyStart 15 = .ok (.ifCond .eq 5, 3) := by decide +kernel
theorem dX2_convoyStart_18 : decode cX2_convoyStart 18 = .ok (.iload_n 2, 1) := by decide +kernel
theorem dX2_convoyStart_19 : decode cX2_convoyStart 19 = .ok (.ireturn, 1) := by decide +kernel
theorem dX2_convoyStart_20 : decode cX2_convoyStart 20 = .ok (.iinc 2 1, 3) := by decide +kernel
theorem dX2_convoyStart_23 : decode cX2_convoyStart 23 = .ok (.goto (-21), 3) := by decide +kernel
theorem dX2_convoyStart_26 : decode cX2_convoyStart 26 = .ok (.iconst (-1), 1) := by decide +kernel
theorem dX2_convoyStart_27 : decode cX2_convoyStart 27 = .ok (.ireturn, 1) := by decide +kernel
theorem dX2_allGood_0 : decode cX2_allGood 0 = .ok (.iload_n 2, 1) := by decide +kernel
theorem dX2_allGood_1 : decode cX2_allGood 1 = .ok (.istore_n 3, 1) := by decide +kernel
theorem dX2_allGood_2 : decode cX2_allGood 2 = .ok (.iconst 0, 1) := by decide +kernel
theorem dX2_allGood_3 : decode cX2_allGood 3 = .ok (.istore 4, 2) := by decide +kernel
theorem dX2_allGood_5 : decode cX2_allGood 5 = .ok (.iload 4, 2) := by decide +kernel
theorem dX2_allGood_7 : decode cX2_allGood 7 = .ok (.aload_n 0, 1) := by decide +kernel
theorem dX2_allGood_8 : decode cX2_allGood 8 = .ok (.getfield 35, 3) := by decide +kernel
theorem dX2_allGood_11 : decode cX2_allGood 11 = .ok (.getfield 130, 3) := by decide +kernel
theorem dX2_allGood_14 : decode cX2_allGood 14 = .ok (.if_icmp .ge 54, 3) := by decide +kernel
theorem dX2_allGood_17 : decode cX2_allGood 17 = .ok (.iload_n 3, 1) := by decide +kernel
theorem dX2_allGood_18 : decode cX2_allGood 18 = .ok (.aload_n 0, 1) := by decide +kernel
theorem dX2_allGood_19 : decode cX2_allGood 19 = .ok (.getfield 22, 3) := by decide +kernel
theorem dX2_allGood_22 : decode cX2_allGood 22 = .ok (.arraylength, 1) := by decide +kernel
theorem dX2_allGood_23 : decode cX2_allGood 23 = .ok (.if_icmp .ge 45, 3) := by decide +kernel
theorem dX2_allGood_26 : decode cX2_allGood 26 = .ok (.iload_n 1, 1) := by decide +kernel
theorem dX2_allGood_27 : decode cX2_allGood 27 = .ok (.iload 4, 2) := by decide +kernel
theorem dX2_allGood_29 : decode cX2_allGood 29 = .ok (.ishr, 1) := by decide +kernel
theorem dX2_allGood_30 : decode cX2_allGood 30 = .ok (.iconst 1, 1) := by decide +kernel
theorem dX2_allGood_31 : decode cX2_allGood 31 = .ok (.iand, 1) := by decide +kernel
theorem dX2_allGood_32 : decode cX2_allGood 32 = .ok (.iconst 1, 1) := by decide +kernel
theorem dX2_allGood_33 : decode cX2_allGood 33 = .ok (.if_icmp .ne 29, 3) := by decide +kernel
theorem dX2_allGood_36 : decode cX2_allGood 36 = .ok (.aload_n 0, 1) := by decide +kernel
theorem dX2_allGood_37 : decode cX2_allGood 37 = .ok (.getfield 22, 3) := by decide +kernel
theorem dX2_allGood_40 : decode cX2_allGood 40 = .ok (.iload_n 3, 1) := by decide +kernel
theorem dX2_allGood_41 : decode cX2_allGood 41 = .ok (.iaload, 1) := by decide +kernel
theorem dX2_allGood_42 : decode cX2_allGood 42 = .ok (.iload 4, 2) := by decide +kernel
theorem dX2_allGood_44 : decode cX2_allGood 44 = .ok (.ishr, 1) := by decide +kernel
theorem dX2_allGood_45 : decode cX2_allGood 45 = .ok (.iconst 1, 1) := by decide +kernel
theorem dX2_allGood_46 : decode cX2_allGood 46 = .ok (.iand, 1) := by decide +kernel
theorem dX2_allGood_47 : decode cX2_allGood 47 = .ok (.ifCond .ne 5, 3) := by decide +kernel
theorem dX2_allGood_50 : decode cX2_allGood 50 = .ok (.iconst 0, 1) := by decide +kernel
theorem dX2_allGood_51 : decode cX2_allGood 51 = .ok (.ireturn, 1) := by decide +kernel
theorem dX2_allGood_52 : decode cX2_allGood 52 = .ok (.iload_n 3, 1) := by decide +kernel
theorem dX2_allGood_53 : decode cX2_allGood 53 = .ok (.aload_n 0, 1) := by decide +kernel
theorem dX2_allGood_54 : decode cX2_allGood 54 = .ok (.getfield 35, 3) := by decide +kernel
theorem dX2_allGood_57 : decode cX2_allGood 57 = .ok (.getfield 127, 3) := by decide +kernel
theorem dX2_allGood_60 : decode cX2_allGood 60 = .ok (.iadd, 1) := by decide +kernel
theorem dX2_allGood_61 : decode cX2_allGood 61 = .ok (.istore_n 3, 1) := by decide +kernel
theorem dX2_allGood_62 : decode cX2_allGood 62 = .ok (.iinc 4 1, 3) := by decide +kernel
theorem dX2_allGood_65 : decode cX2_allGood 65 = .ok (.goto (-60), 3) := by decide +kernel
theorem dX2_allGood_68 : decode cX2_allGood 68 = .ok (.iconst 1, 1) := by decide +kernel
theorem dX2_allGood_69 : decode cX2_allGood 69 = .ok (.ireturn, 1) := by decide +kernel
theorem dX2_bestOrderStart_0 : decode cX2_bestOrderStart 0 = .ok (.iconst 0, 1) := by decide +kernel
theorem dX2_bestOrderStart_1 : decode cX2_bestOrderStart 1 = .ok (.istore_n 2, 1) := by decide +kernel
theorem dX2_bestOrderStart_2 : decode cX2_bestOrderStart 2 = .ok (.iload_n 2, 1) := by decide +kernel
theorem dX2_bestOrderStart_3 : decode cX2_bestOrderStart 3 = .ok (.sipush 1440, 3) := by decide +kernel
theorem dX2_bestOrderStart_6 : decode cX2_bestOrderStart 6 = .ok (.if_icmp .ge 26, 3) := by decide +kernel
theorem dX2_bestOrderStart_9 : decode cX2_bestOrderStart 9 = .ok (.aload_n 0, 1) := by decide +kernel
theorem dX2_bestOrderStart_10 : decode cX2_bestOrderStart 10 = .ok (.lconst 0, 1) := by decide +kernel
theorem dX2_bestOrderStart_11 : decode cX2_bestOrderStart 11 = .ok (.putfield 173, 3) := by decide +kernel
theorem dX2_bestOrderStart_14 : decode cX2_bestOrderStart 14 = .ok (.aload_n 0, 1) := by decide +kernel
theorem dX2_bestOrderStart_15 : decode cX2_bestOrderStart 15 = .ok (.iconst 0, 1) := by decide +kernel
theorem dX2_bestOrderStart_16 : decode cX2_bestOrderStart 16 = .ok (.iload_n 1, 1) := by decide +kernel
theorem dX2_bestOrderStart_17 : decode cX2_bestOrderStart 17 = .ok (.iload_n 2, 1) := by decide +kernel
theorem dX2_bestOrderStart_18 : decode cX2_bestOrderStart 18 = .ok (.invokevirtual 177, 3) := by decide +kernel
theorem dX2_bestOrderStart_21 : decode cX2_bestOrderStart 21 = .ok (.ifCond .eq 5, 3) := by decide +kernel
theorem dX2_bestOrderStart_24 : decode cX2_bestOrderStart 24 = .ok (.iload_n 2, 1) := by decide +kernel
theorem dX2_bestOrderStart_25 : decode cX2_bestOrderStart 25 = .ok (.ireturn, 1) := by decide +kernel
theorem dX2_bestOrderStart_26 : decode cX2_bestOrderStart 26 = .ok (.iinc 2 1, 3) := by decide +kernel
theorem dX2_bestOrderStart_29 : decode cX2_bestOrderStart 29 = .ok (.goto (-27), 3) := by decide +kernel
theorem dX2_bestOrderStart_32 : decode cX2_bestOrderStart 32 = .ok (.iconst (-1), 1) := by decide +kernel
theorem dX2_bestOrderStart_33 : decode cX2_bestOrderStart 33 = .ok (.ireturn, 1) := by decide +kernel
theorem dX2_linesUp_0 : decode cX2_linesUp 0 = .ok (.iload_n 2, 1) := by decide +kernel
theorem dX2_linesUp_1 : decode cX2_linesUp 1 = .ok (.ifCond .ne 5, 3) := by decide +kernel
theorem dX2_linesUp_4 : decode cX2_linesUp 4 = .ok (.iconst 1, 1) := by decide +kernel
theorem dX2_linesUp_5 : decode cX2_linesUp 5 = .ok (.ireturn, 1) := by decide +kernel
theorem dX2_linesUp_6 : decode cX2_linesUp 6 = .ok (.iload_n 1, 1) := by decide +kernel
theorem dX2_linesUp_7 : decode cX2_linesUp 7 = .ok (.bipush 6, 2) := by decide +kernel
theorem dX2_linesUp_9 : decode cX2_linesUp 9 = .ok (.if_icmp .ge 25, 3) := by decide +kernel
theorem dX2_linesUp_12 : decode cX2_linesUp 12 = .ok (.iload_n 3, 1) := by decide +kernel
theorem dX2_linesUp_13 : decode cX2_linesUp 13 = .ok (.aload_n 0, 1) := by decide +kernel
theorem dX2_linesUp_14 : decode cX2_linesUp 14 = .ok (.getfield 22, 3) := by decide +kernel
theorem dX2_linesUp_17 : decode cX2_linesUp 17 = .ok (.arraylength, 1) := by decide +kernel
theorem dX2_linesUp_18 : decode cX2_linesUp 18 = .ok (.if_icmp .ge 16, 3) := by decide +kernel
theorem dX2_linesUp_21 : decode cX2_linesUp 21 = .ok (.aload_n 0, 1) := by decide +kernel
theorem dX2_linesUp_22 : decode cX2_linesUp 22 = .ok (.getfield 173, 3) := by decide +kernel
theorem dX2_linesUp_25 : decode cX2_linesUp 25 = .ok (.iload_n 2, 1) := by decide +kernel
theorem dX2_linesUp_26 : decode cX2_linesUp 26 = .ok (.lshr, 1) := by decide +kernel
theorem dX2_linesUp_27 : decode cX2_linesUp 27 = .ok (.lconst 1, 1) := by decide +kernel
theorem dX2_linesUp_28 : decode cX2_linesUp 28 = .ok (.land, 1) := by decide +kernel
theorem dX2_linesUp_29 : decode cX2_linesUp 29 = .ok (.lconst 1, 1) := by decide +kernel
theorem dX2_linesUp_30 : decode cX2_linesUp 30 = .ok (.lcmp, 1) := by decide +kernel
theorem dX2_linesUp_31 : decode cX2_linesUp 31 = .ok (.ifCond .ne 5, 3) := by decide +kernel
theorem dX2_linesUp_34 : decode cX2_linesUp 34 = .ok (.iconst 0, 1) := by decide +kernel
theorem dX2_linesUp_35 : decode cX2_linesUp 35 = .ok (.ireturn, 1) := by decide +kernel
theorem dX2_linesUp_36 : decode cX2_linesUp 36 = .ok (.iconst 0, 1) := by decide +kernel
theorem dX2_linesUp_37 : decode cX2_linesUp 37 = .ok (.istore 4, 2) := by decide +kernel
theorem dX2_linesUp_39 : decode cX2_linesUp 39 = .ok (.iload 4, 2) := by decide +kernel
theorem dX2_linesUp_41 : decode cX2_linesUp 41 = .ok (.aload_n 0, 1) := by decide +kernel
theorem dX2_linesUp_42 : decode cX2_linesUp 42 = .ok (.getfield 35, 3) := by decide +kernel
theorem dX2_linesUp_45 : decode cX2_linesUp 45 = .ok (.getfield 130, 3) := by decide +kernel
theorem dX2_linesUp_48 : decode cX2_linesUp 48 = .ok (.if_icmp .ge 62, 3) := by decide +kernel
theorem dX2_linesUp_51 : decode cX2_linesUp 51 = .ok (.aload_n 0, 1) := by decide +kernel
theorem dX2_linesUp_52 : decode cX2_linesUp 52 = .ok (.getfield 22, 3) := by decide +kernel
theorem dX2_linesUp_55 : decode cX2_linesUp 55 = .ok (.iload_n 3, 1) := by decide +kernel
theorem dX2_linesUp_56 : decode cX2_linesUp 56 = .ok (.iaload, 1) := by decide +kernel
theorem dX2_linesUp_57 : decode cX2_linesUp 57 = .ok (.iload_n 2, 1) := by decide +kernel
theorem dX2_linesUp_58 : decode cX2_linesUp 58 = .ok (.iand, 1) := by decide +kernel
theorem dX2_linesUp_59 : decode cX2_linesUp 59 = .ok (.iconst 1, 1) := by decide +kernel
theorem dX2_linesUp_60 : decode cX2_linesUp 60 = .ok (.iload 4, 2) := by decide +kernel
theorem dX2_linesUp_62 : decode cX2_linesUp 62 = .ok (.ishl, 1) := by decide +kernel
theorem dX2_linesUp_63 : decode cX2_linesUp 63 = .ok (.iand, 1) := by decide +kernel
theorem dX2_linesUp_64 : decode cX2_linesUp 64 = .ok (.ifCond .eq 40, 3) := by decide +kernel
theorem dX2_linesUp_67 : decode cX2_linesUp 67 = .ok (.aload_n 0, 1) := by decide +kernel
theorem dX2_linesUp_68 : decode cX2_linesUp 68 = .ok (.getfield 32, 3) := by decide +kernel
theorem dX2_linesUp_71 : decode cX2_linesUp 71 = .ok (.iload_n 1, 1) := by decide +kernel
theorem dX2_linesUp_72 : decode cX2_linesUp 72 = .ok (.iload 4, 2) := by decide +kernel
theorem dX2_linesUp_74 : decode cX2_linesUp 74 = .ok (.iastore, 1) := by decide +kernel
theorem dX2_linesUp_75 : decode cX2_linesUp 75 = .ok (.aload_n 0, 1) := by decide +kernel
theorem dX2_linesUp_76 : decode cX2_linesUp 76 = .ok (.iload_n 1, 1) := by decide +kernel
theorem dX2_linesUp_77 : decode cX2_linesUp 77 = .ok (.iconst 1, 1) := by decide +kernel
theorem dX2_linesUp_78 : decode cX2_linesUp 78 = .ok (.iadd, 1) := by decide +kernel
theorem dX2_linesUp_79 : decode cX2_linesUp 79 = .ok (.iload_n 2, 1) := by decide +kernel
theorem dX2_linesUp_80 : decode cX2_linesUp 80 = .ok (.iconst 1, 1) := by decide +kernel
theorem dX2_linesUp_81 : decode cX2_linesUp 81 = .ok (.iload 4, 2) := by decide +kernel
theorem dX2_linesUp_83 : decode cX2_linesUp 83 = .ok (.ishl, 1) := by decide +kernel
theorem dX2_linesUp_84 : decode cX2_linesUp 84 = .ok (.iconst (-1), 1) := by decide +kernel
theorem dX2_linesUp_85 : decode cX2_linesUp 85 = .ok (.ixor, 1) := by decide +kernel
theorem dX2_linesUp_86 : decode cX2_linesUp 86 = .ok (.iand, 1) := by decide +kernel
theorem dX2_linesUp_87 : decode cX2_linesUp 87 = .ok (.iload_n 3, 1) := by decide +kernel
theorem dX2_linesUp_88 : decode cX2_linesUp 88 = .ok (.aload_n 0, 1) := by decide +kernel
theorem dX2_linesUp_89 : decode cX2_linesUp 89 = .ok (.getfield 35, 3) := by decide +kernel
theorem dX2_linesUp_92 : decode cX2_linesUp 92 = .ok (.getfield 127, 3) := by decide +kernel
theorem dX2_linesUp_95 : decode cX2_linesUp 95 = .ok (.iadd, 1) := by decide +kernel
theorem dX2_linesUp_96 : decode cX2_linesUp 96 = .ok (.invokevirtual 177, 3) := by decide +kernel
theorem dX2_linesUp_99 : decode cX2_linesUp 99 = .ok (.ifCond .eq 5, 3) := by decide +kernel
theorem dX2_linesUp_102 : decode cX2_linesUp 102 = .ok (.iconst 1, 1) := by decide +kernel
theorem dX2_linesUp_103 : decode cX2_linesUp 103 = .ok (.ireturn, 1) := by decide +kernel
theorem dX2_linesUp_104 : decode cX2_linesUp 104 = .ok (.iinc 4 1, 3) := by decide +kernel
theorem dX2_linesUp_107 : decode cX2_linesUp 107 = .ok (.goto (-68), 3) := by decide +kernel
theorem dX2_linesUp_110 : decode cX2_linesUp 110 = .ok (.aload_n 0, 1) := by decide +kernel
theorem dX2_linesUp_111 : decode cX2_linesUp 111 = .ok (.dup, 1) := by decide +kernel
theorem dX2_linesUp_112 : decode cX2_linesUp 112 = .ok (.getfield 173, 3) := by decide +kernel
theorem dX2_linesUp_115 : decode cX2_linesUp 115 = .ok (.lconst 1, 1) := by decide +kernel
theorem dX2_linesUp_116 : decode cX2_linesUp 116 = .ok (.iload_n 2, 1) := by decide +kernel
theorem dX2_linesUp_117 : decode cX2_linesUp 117 = .ok (.lshl, 1) := by decide +kernel
theorem dX2_linesUp_118 : decode cX2_linesUp 118 = .ok (.lor, 1) := by decide +kernel
theorem dX2_linesUp_119 : decode cX2_linesUp 119 = .ok (.putfield 173, 3) := by decide +kernel
theorem dX2_linesUp_122 : decode cX2_linesUp 122 = .ok (.iconst 0, 1) := by decide +kernel
theorem dX2_linesUp_123 : decode cX2_linesUp 123 = .ok (.ireturn, 1) := by decide +kernel
