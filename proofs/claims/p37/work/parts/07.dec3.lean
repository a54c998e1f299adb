theorem dX11_host_66 : decode cX11_host 66 = .ok (.iconst 0, 1) := by decide +kernel
theorem dX11_host_67 : decode cX11_host 67 = .ok (.invokevirtual 452, 3) := by decide +kernel
theorem dX11_host_70 : decode cX11_host 70 = .ok (.invokestatic 458, 3) := by decide +kernel
theorem dX11_host_73 : decode cX11_host 73 = .ok (.istore 6, 2) := by decide +kernel
theorem dX11_host_75 : decode cX11_host 75 = .ok (.iload 6, 2) := by decide +kernel
theorem dX11_host_77 : decode cX11_host 77 = .ok (.iload 4, 2) := by decide +kernel
theorem dX11_host_79 : decode cX11_host 79 = .ok (.if_icmp .gt 6, 3) := by decide +kernel
theorem dX11_host_82 : decode cX11_host 82 = .ok (.goto 10, 3) := by decide +kernel
theorem dX11_host_85 : decode cX11_host 85 = .ok (.iload 5, 2) := by decide +kernel
theorem dX11_host_87 : decode cX11_host 87 = .ok (.istore_n 3, 1) := by decide +kernel
theorem dX11_host_88 : decode cX11_host 88 = .ok (.iload 6, 2) := by decide +kernel
theorem dX11_host_90 : decode cX11_host 90 = .ok (.istore 4, 2) := by decide +kernel
theorem dX11_host_92 : decode cX11_host 92 = .ok (.iinc 5 1, 3) := by decide +kernel
theorem dX11_host_95 : decode cX11_host 95 = .ok (.goto (-68), 3) := by decide +kernel
theorem dX11_host_98 : decode cX11_host 98 = .ok (.iload_n 2, 1) := by decide +kernel
theorem dX11_host_99 : decode cX11_host 99 = .ok (.ifCond .ne 7, 3) := by decide +kernel
theorem dX11_host_102 : decode cX11_host 102 = .ok (.iload_n 3, 1) := by decide +kernel
theorem dX11_host_103 : decode cX11_host 103 = .ok (.goto 5, 3) := by decide +kernel
theorem dX11_host_106 : decode cX11_host 106 = .ok (.iload 4, 2) := by decide +kernel
theorem dX11_host_108 : decode cX11_host 108 = .ok (.ireturn, 1) := by decide +kernel
theorem dX11_layGood_0 : decode cX11_layGood 0 = .ok (.iconst 0, 1) := by decide +kernel
theorem dX11_layGood_1 : decode cX11_layGood 1 = .ok (.istore_n 3, 1) := by decide +kernel
theorem dX11_layGood_2 : decode cX11_layGood 2 = .ok (.iload_n 3, 1) := by decide +kernel
theorem dX11_layGood_3 : decode cX11_layGood 3 = .ok (.bipush 36, 2) := by decide +kernel
theorem dX11_layGood_5 : decode cX11_layGood 5 = .ok (.if_icmp .ge 110, 3) := by decide +kernel
theorem dX11_layGood_8 : decode cX11_layGood 8 = .ok (.aload_n 0, 1) := by decide +kernel
theorem dX11_layGood_9 : decode cX11_layGood 9 = .ok (.invokevirtual 449, 3) := by decide +kernel
theorem dX11_layGood_12 : decode cX11_layGood 12 = .ok (.aload_n 0, 1) := by decide +kernel
theorem dX11_layGood_13 : decode cX11_layGood 13 = .ok (.getfield 91, 3) := by decide +kernel
theorem dX11_layGood_16 : decode cX11_layGood 16 = .ok (.iconst 5, 1) := by decide +kernel
theorem dX11_layGood_17 : decode cX11_layGood 17 = .ok (.iload_n 1, 1) := by decide +kernel
theorem dX11_layGood_18 : decode cX11_layGood 18 = .ok (.iadd, 1) := by decide +kernel
theorem dX11_layGood_19 : decode cX11_layGood 19 = .ok (.iload_n 3, 1) := by decide +kernel
theorem dX11_layGood_20 : decode cX11_layGood 20 = .ok (.bipush 6, 2) := by decide +kernel
theorem dX11_layGood_22 : decode cX11_layGood 22 = .ok (.idiv, 1) := by decide +kernel
theorem dX11_layGood_23 : decode cX11_layGood 23 = .ok (.iastore, 1) := by decide +kernel
theorem dX11_layGood_24 : decode cX11_layGood 24 = .ok (.aload_n 0, 1) := by decide +kernel
theorem dX11_layGood_25 : decode cX11_layGood 25 = .ok (.getfield 91, 3) := by decide +kernel
theorem dX11_layGood_28 : decode cX11_layGood 28 = .ok (.iconst 5, 1) := by decide +kernel
theorem dX11_layGood_29 : decode cX11_layGood 29 = .ok (.iload_n 2, 1) := by decide +kernel
theorem dX11_layGood_30 : decode cX11_layGood 30 = .ok (.iadd, 1) := by decide +kernel
theorem dX11_layGood_31 : decode cX11_layGood 31 = .ok (.iload_n 3, 1) := by decide +kernel
theorem dX11_layGood_32 : decode cX11_layGood 32 = .ok (.bipush 6, 2) := by decide +kernel
theorem dX11_layGood_34 : decode cX11_layGood 34 = .ok (.irem, 1) := by decide +kernel
theorem dX11_layGood_35 : decode cX11_layGood 35 = .ok (.iastore, 1) := by decide +kernel
theorem dX11_layGood_36 : decode cX11_layGood 36 = .ok (.aload_n 0, 1) := by decide +kernel
theorem dX11_layGood_37 : decode cX11_layGood 37 = .ok (.iload_n 1, 1) := by decide +kernel
theorem dX11_layGood_38 : decode cX11_layGood 38 = .ok (.invokevirtual 406, 3) := by decide +kernel
theorem dX11_layGood_41 : decode cX11_layGood 41 = .ok (.istore 4, 2) := by decide +kernel
theorem dX11_layGood_43 : decode cX11_layGood 43 = .ok (.aload_n 0, 1) := by decide +kernel
theorem dX11_layGood_44 : decode cX11_layGood 44 = .ok (.iload_n 2, 1) := by decide +kernel
theorem dX11_layGood_45 : decode cX11_layGood 45 = .ok (.invokevirtual 406, 3) := by decide +kernel
theorem dX11_layGood_48 : decode cX11_layGood 48 = .ok (.istore 5, 2) := by decide +kernel
theorem dX11_layGood_50 : decode cX11_layGood 50 = .ok (.aload_n 0, 1) := by decide +kernel
theorem dX11_layGood_51 : decode cX11_layGood 51 = .ok (.iconst 0, 1) := by decide +kernel
theorem dX11_layGood_52 : decode cX11_layGood 52 = .ok (.iconst 0, 1) := by decide +kernel
theorem dX11_layGood_53 : decode cX11_layGood 53 = .ok (.invokevirtual 452, 3) := by decide +kernel
theorem dX11_layGood_56 : decode cX11_layGood 56 = .ok (.istore 6, 2) := by decide +kernel
theorem dX11_layGood_58 : decode cX11_layGood 58 = .ok (.aload_n 0, 1) := by decide +kernel
theorem dX11_layGood_59 : decode cX11_layGood 59 = .ok (.getfield 109, 3) := by decide +kernel
theorem dX11_layGood_62 : decode cX11_layGood 62 = .ok (.iload_n 3, 1) := by decide +kernel
theorem dX11_layGood_63 : decode cX11_layGood 63 = .ok (.iload 4, 2) := by decide +kernel
theorem dX11_layGood_65 : decode cX11_layGood 65 = .ok (.iload 6, 2) := by decide +kernel
theorem dX11_layGood_67 : decode cX11_layGood 67 = .ok (.iload_n 1, 1) := by decide +kernel
theorem dX11_layGood_68 : decode cX11_layGood 68 = .ok (.invokestatic 272, 3) := by decide +kernel
theorem dX11_layGood_71 : decode cX11_layGood 71 = .ok (.ifCond .eq 8, 3) := by decide +kernel
theorem dX11_layGood_74 : decode cX11_layGood 74 = .ok (.bipush 100, 2) := by decide +kernel
theorem dX11_layGood_76 : decode cX11_layGood 76 = .ok (.goto 4, 3) := by decide +kernel
theorem dX11_layGood_79 : decode cX11_layGood 79 = .ok (.iconst 0, 1) := by decide +kernel
theorem dX11_layGood_80 : decode cX11_layGood 80 = .ok (.iadd, 1) := by decide +kernel
theorem dX11_layGood_81 : decode cX11_layGood 81 = .ok (.iastore, 1) := by decide +kernel
theorem dX11_layGood_82 : decode cX11_layGood 82 = .ok (.aload_n 0, 1) := by decide +kernel
theorem dX11_layGood_83 : decode cX11_layGood 83 = .ok (.getfield 109, 3) := by decide +kernel
theorem dX11_layGood_86 : decode cX11_layGood 86 = .ok (.bipush 36, 2) := by decide +kernel
theorem dX11_layGood_88 : decode cX11_layGood 88 = .ok (.iload_n 3, 1) := by decide +kernel
theorem dX11_layGood_89 : decode cX11_layGood 89 = .ok (.iadd, 1) := by decide +kernel
theorem dX11_layGood_90 : decode cX11_layGood 90 = .ok (.iload 5, 2) := by decide +kernel
theorem dX11_layGood_92 : decode cX11_layGood 92 = .ok (.iload 6, 2) := by decide +kernel
theorem dX11_layGood_94 : decode cX11_layGood 94 = .ok (.iload_n 2, 1) := by decide +kernel
theorem dX11_layGood_95 : decode cX11_layGood 95 = .ok (.invokestatic 272, 3) := by decide +kernel
theorem dX11_layGood_98 : decode cX11_layGood 98 = .ok (.ifCond .eq 8, 3) := by decide +kernel
theorem dX11_layGood_101 : decode cX11_layGood 101 = .ok (.bipush 100, 2) := by decide +kernel
theorem dX11_layGood_103 : decode cX11_layGood 103 = .ok (.goto 4, 3) := by decide +kernel
theorem dX11_layGood_106 : decode cX11_layGood 106 = .ok (.iconst 0, 1) := by decide +kernel
theorem dX11_layGood_107 : decode cX11_layGood 107 = .ok (.iadd, 1) := by decide +kernel
theorem dX11_layGood_108 : decode cX11_layGood 108 = .ok (.iastore, 1) := by decide +kernel
theorem dX11_layGood_109 : decode cX11_layGood 109 = .ok (.iinc 3 1, 3) := by decide +kernel
theorem dX11_layGood_112 : decode cX11_layGood 112 = .ok (.goto (-110), 3) := by decide +kernel
theorem dX11_layGood_115 : decode cX11_layGood 115 = .ok (.return_, 1) := by decide +kernel
theorem dX11_isRest_0 : decode cX11_isRest 0 = .ok (.iconst 0, 1) := by decide +kernel
theorem dX11_isRest_1 : decode cX11_isRest 1 = .ok (.istore_n 2, 1) := by decide +kernel
theorem dX11_isRest_2 : decode cX11_isRest 2 = .ok (.iload_n 2, 1) := by decide +kernel
theorem dX11_isRest_3 : decode cX11_isRest 3 = .ok (.iconst 5, 1) := by decide +kernel
theorem dX11_isRest_4 : decode cX11_isRest 4 = .ok (.if_icmp .gt 62, 3) := by decide +kernel
theorem dX11_isRest_7 : decode cX11_isRest 7 = .ok (.aload_n 0, 1) := by decide +kernel
theorem dX11_isRest_8 : decode cX11_isRest 8 = .ok (.getfield 109, 3) := by decide +kernel
theorem dX11_isRest_11 : decode cX11_isRest 11 = .ok (.bipush 6, 2) := by decide +kernel
theorem dX11_isRest_13 : decode cX11_isRest 13 = .ok (.iload_n 2, 1) := by decide +kernel
theorem dX11_isRest_14 : decode cX11_isRest 14 = .ok (.imul, 1) := by decide +kernel
theorem dX11_isRest_15 : decode cX11_isRest 15 = .ok (.iload_n 1, 1) := by decide +kernel
theorem dX11_isRest_16 : decode cX11_isRest 16 = .ok (.bipush 6, 2) := by decide +kernel
theorem dX11_isRest_18 : decode cX11_isRest 18 = .ok (.irem, 1) := by decide +kernel
theorem dX11_isRest_19 : decode cX11_isRest 19 = .ok (.iadd, 1) := by decide +kernel
theorem dX11_isRest_20 : decode cX11_isRest 20 = .ok (.iaload, 1) := by decide +kernel
theorem dX11_isRest_21 : decode cX11_isRest 21 = .ok (.aload_n 0, 1) := by decide +kernel
theorem dX11_isRest_22 : decode cX11_isRest 22 = .ok (.getfield 109, 3) := by decide +kernel
theorem dX11_isRest_25 : decode cX11_isRest 25 = .ok (.iload_n 1, 1) := by decide +kernel
theorem dX11_isRest_26 : decode cX11_isRest 26 = .ok (.iaload, 1) := by decide +kernel
theorem dX11_isRest_27 : decode cX11_isRest 27 = .ok (.if_icmp .gt 31, 3) := by decide +kernel
theorem dX11_isRest_30 : decode cX11_isRest 30 = .ok (.aload_n 0, 1) := by decide +kernel
theorem dX11_isRest_31 : decode cX11_isRest 31 = .ok (.getfield 109, 3) := by decide +kernel
theorem dX11_isRest_34 : decode cX11_isRest 34 = .ok (.bipush 36, 2) := by decide +kernel
theorem dX11_isRest_36 : decode cX11_isRest 36 = .ok (.iload_n 1, 1) := by decide +kernel
theorem dX11_isRest_37 : decode cX11_isRest 37 = .ok (.iadd, 1) := by decide +kernel
theorem dX11_isRest_38 : decode cX11_isRest 38 = .ok (.iload_n 1, 1) := by decide +kernel
theorem dX11_isRest_39 : decode cX11_isRest 39 = .ok (.bipush 6, 2) := by decide +kernel
theorem dX11_isRest_41 : decode cX11_isRest 41 = .ok (.irem, 1) := by decide +kernel
theorem dX11_isRest_42 : decode cX11_isRest 42 = .ok (.isub, 1) := by decide +kernel
theorem dX11_isRest_43 : decode cX11_isRest 43 = .ok (.iload_n 2, 1) := by decide +kernel
theorem dX11_isRest_44 : decode cX11_isRest 44 = .ok (.iadd, 1) := by decide +kernel
theorem dX11_isRest_45 : decode cX11_isRest 45 = .ok (.iaload, 1) := by decide +kernel
theorem dX11_isRest_46 : decode cX11_isRest 46 = .ok (.aload_n 0, 1) := by decide +kernel
theorem dX11_isRest_47 : decode cX11_isRest 47 = .ok (.getfield 109, 3) := by decide +kernel
theorem dX11_isRest_50 : decode cX11_isRest 50 = .ok (.bipush 36, 2) := by decide +kernel
theorem dX11_isRest_52 : decode cX11_isRest 52 = .ok (.iload_n 1, 1) := by decide +kernel
theorem dX11_isRest_53 : decode cX11_isRest 53 = .ok (.iadd, 1) := by decide +kernel
theorem dX11_isRest_54 : decode cX11_isRest 54 = .ok (.iaload, 1) := by decide +kernel
theorem dX11_isRest_55 : decode cX11_isRest 55 = .ok (.if_icmp .le 5, 3) := by decide +kernel
theorem dX11_isRest_58 : decode cX11_isRest 58 = .ok (.iconst 0, 1) := by decide +kernel
theorem dX11_isRest_59 : decode cX11_isRest 59 = .ok (.ireturn, 1) := by decide +kernel
theorem dX11_isRest_60 : decode cX11_isRest 60 = .ok (.iinc 2 1, 3) := by decide +kernel
theorem dX11_isRest_63 : decode cX11_isRest 63 = .ok (.goto (-61), 3) := by decide +kernel
theorem dX11_isRest_66 : decode cX11_isRest 66 = .ok (.iconst 1, 1) := by decide +kernel
theorem dX11_isRest_67 : decode cX11_isRest 67 = .ok (.ireturn, 1) := by decide +kernel
theorem dX11_rivals_0 : decode cX11_rivals 0 = .ok (.aload_n 0, 1) := by decide +kernel
theorem dX11_rivals_1 : decode cX11_rivals 1 = .ok (.iconst 0, 1) := by decide +kernel
theorem dX11_rivals_2 : decode cX11_rivals 2 = .ok (.putfield 391, 3) := by decide +kernel
theorem dX11_rivals_5 : decode cX11_rivals 5 = .ok (.iload_n 1, 1) := by decide +kernel
theorem dX11_rivals_6 : decode cX11_rivals 6 = .ok (.iload_n 2, 1) := by decide +kernel
theorem dX11_rivals_7 : decode cX11_rivals 7 = .ok (.if_icmp .eq 19, 3) := by decide +kernel
theorem dX11_rivals_10 : decode cX11_rivals 10 = .ok (.aload_n 0, 1) := by decide +kernel
theorem dX11_rivals_11 : decode cX11_rivals 11 = .ok (.iload_n 1, 1) := by decide +kernel
theorem dX11_rivals_12 : decode cX11_rivals 12 = .ok (.invokevirtual 403, 3) := by decide +kernel
theorem dX11_rivals_15 : decode cX11_rivals 15 = .ok (.ifCond .eq 11, 3) := by decide +kernel
theorem dX11_rivals_18 : decode cX11_rivals 18 = .ok (.aload_n 0, 1) := by decide +kernel
theorem dX11_rivals_19 : decode cX11_rivals 19 = .ok (.iload_n 2, 1) := by decide +kernel
theorem dX11_rivals_20 : decode cX11_rivals 20 = .ok (.invokevirtual 403, 3) := by decide +kernel
theorem dX11_rivals_23 : decode cX11_rivals 23 = .ok (.ifCond .ne 5, 3) := by decide +kernel
theorem dX11_rivals_26 : decode cX11_rivals 26 = .ok (.iconst (-1), 1) := by decide +kernel
theorem dX11_rivals_27 : decode cX11_rivals 27 = .ok (.ireturn, 1) := by decide +kernel
theorem dX11_rivals_28 : decode cX11_rivals 28 = .ok (.aload_n 0, 1) := by decide +kernel
theorem dX11_rivals_29 : decode cX11_rivals 29 = .ok (.iload_n 1, 1) := by decide +kernel
theorem dX11_rivals_30 : decode cX11_rivals 30 = .ok (.iload_n 2, 1) := by decide +kernel
theorem dX11_rivals_31 : decode cX11_rivals 31 = .ok (.invokevirtual 479, 3) := by decide +kernel
theorem dX11_rivals_34 : decode cX11_rivals 34 = .ok (.iconst 0, 1) := by decide +kernel
theorem dX11_rivals_35 : decode cX11_rivals 35 = .ok (.istore_n 3, 1) := by decide +kernel
theorem dX11_rivals_36 : decode cX11_rivals 36 = .ok (.iconst 0, 1) := by decide +kernel
theorem dX11_rivals_37 : decode cX11_rivals 37 = .ok (.istore 4, 2) := by decide +kernel
theorem dX11_rivals_39 : decode cX11_rivals 39 = .ok (.iload 4, 2) := by decide +kernel
theorem dX11_rivals_41 : decode cX11_rivals 41 = .ok (.bipush 36, 2) := by decide +kernel
theorem dX11_rivals_43 : decode cX11_rivals 43 = .ok (.if_icmp .ge 55, 3) := by decide +kernel
theorem dX11_rivals_46 : decode cX11_rivals 46 = .ok (.aload_n 0, 1) := by decide +kernel
theorem dX11_rivals_47 : decode cX11_rivals 47 = .ok (.iload 4, 2) := by decide +kernel
theorem dX11_rivals_49 : decode cX11_rivals 49 = .ok (.invokevirtual 482, 3) := by decide +kernel
theorem dX11_rivals_52 : decode cX11_rivals 52 = .ok (.ifCond .ne 6, 3) := by decide +kernel
theorem dX11_rivals_55 : decode cX11_rivals 55 = .ok (.goto 37, 3) := by decide +kernel
theorem dX11_rivals_58 : decode cX11_rivals 58 = .ok (.iload_n 3, 1) := by decide +kernel
theorem dX11_rivals_59 : decode cX11_rivals 59 = .ok (.ifCond .ne 30, 3) := by decide +kernel
theorem dX11_rivals_62 : decode cX11_rivals 62 = .ok (.aload_n 0, 1) := by decide +kernel
theorem dX11_rivals_63 : decode cX11_rivals 63 = .ok (.getfield 103, 3) := by decide +kernel
theorem dX11_rivals_66 : decode cX11_rivals 66 = .ok (.iconst 0, 1) := by decide +kernel
theorem dX11_rivals_67 : decode cX11_rivals 67 = .ok (.iload 4, 2) := by decide +kernel
theorem dX11_rivals_69 : decode cX11_rivals 69 = .ok (.bipush 6, 2) := by decide +kernel
theorem dX11_rivals_71 : decode cX11_rivals 71 = .ok (.idiv, 1) := by decide +kernel
theorem dX11_rivals_72 : decode cX11_rivals 72 = .ok (.iastore, 1) := by decide +kernel
theorem dX11_rivals_73 : decode cX11_rivals 73 = .ok (.aload_n 0, 1) := by decide +kernel
theorem dX11_rivals_74 : decode cX11_rivals 74 = .ok (.getfield 103, 3) := by decide +kernel
theorem dX11_rivals_77 : decode cX11_rivals 77 = .ok (.iconst 1, 1) := by decide +kernel
theorem dX11_rivals_78 : decode cX11_rivals 78 = .ok (.iload 4, 2) := by decide +kernel
theorem dX11_rivals_80 : decode cX11_rivals 80 = .ok (.bipush 6, 2) := by decide +kernel
theorem dX11_rivals_82 : decode cX11_rivals 82 = .ok (.irem, 1) := by decide +kernel
theorem dX11_rivals_83 : decode cX11_rivals 83 = .ok (.iastore, 1) := by decide +kernel
theorem dX11_rivals_84 : decode cX11_rivals 84 = .ok (.aload_n 0, 1) := by decide +kernel
theorem dX11_rivals_85 : decode cX11_rivals 85 = .ok (.iconst 2, 1) := by decide +kernel
theorem dX11_rivals_86 : decode cX11_rivals 86 = .ok (.putfield 391, 3) := by decide +kernel
theorem dX11_rivals_89 : decode cX11_rivals 89 = .ok (.iinc 3 1, 3) := by decide +kernel
theorem dX11_rivals_92 : decode cX11_rivals 92 = .ok (.iinc 4 1, 3) := by decide +kernel
theorem dX11_rivals_95 : decode cX11_rivals 95 = .ok (.goto (-56), 3) := by decide +kernel
theorem dX11_rivals_98 : decode cX11_rivals 98 = .ok (.iload_n 3, 1) := by decide +kernel
theorem dX11_rivals_99 : decode cX11_rivals 99 = .ok (.ireturn, 1) := by decide +kernel
theorem dX11_layPairs_0 : decode cX11_layPairs 0 = .ok (.iconst 1, 1) := by decide +kernel
theorem dX11_layPairs_1 : decode cX11_layPairs 1 = .ok (.istore_n 1, 1) := by decide +kernel
theorem dX11_layPairs_2 : decode cX11_layPairs 2 = .ok (.iload_n 1, 1) := by decide +kernel
theorem dX11_layPairs_3 : decode cX11_layPairs 3 = .ok (.aload_n 0, 1) := by decide +kernel
theorem dX11_layPairs_4 : decode cX11_layPairs 4 = .ok (.invokevirtual 379, 3) := by decide +kernel
theorem dX11_layPairs_7 : decode cX11_layPairs 7 = .ok (.if_icmp .gt 218, 3) := by decide +kernel
theorem dX11_layPairs_10 : decode cX11_layPairs 10 = .ok (.iconst 0, 1) := by decide +kernel
theorem dX11_layPairs_11 : decode cX11_layPairs 11 = .ok (.istore_n 2, 1) := by decide +kernel
theorem dX11_layPairs_12 : decode cX11_layPairs 12 = .ok (.iload_n 1, 1) := by decide +kernel
theorem dX11_layPairs_13 : decode cX11_layPairs 13 = .ok (.iload_n 2, 1) := by decide +kernel
theorem dX11_layPairs_14 : decode cX11_layPairs 14 = .ok (.invokestatic 272, 3) := by decide +kernel
theorem dX11_layPairs_17 : decode cX11_layPairs 17 = .ok (.ifCond .ne 9, 3) := by decide +kernel
theorem dX11_layPairs_20 : decode cX11_layPairs 20 = .ok (.iinc 2 1, 3) := by decide +kernel
theorem dX11_layPairs_23 : decode cX11_layPairs 23 = .ok (.goto (-11), 3) := by decide +kernel
theorem dX11_layPairs_26 : decode cX11_layPairs 26 = .ok (.aload_n 0, 1) := by decide +kernel
theorem dX11_layPairs_27 : decode cX11_layPairs 27 = .ok (.getfield 112, 3) := by decide +kernel
theorem dX11_layPairs_30 : decode cX11_layPairs 30 = .ok (.iload_n 1, 1) := by decide +kernel
theorem dX11_layPairs_31 : decode cX11_layPairs 31 = .ok (.sipush 10000, 3) := by decide +kernel
theorem dX11_layPairs_34 : decode cX11_layPairs 34 = .ok (.iastore, 1) := by decide +kernel
theorem dX11_layPairs_35 : decode cX11_layPairs 35 = .ok (.iload_n 2, 1) := by decide +kernel
theorem dX11_layPairs_36 : decode cX11_layPairs 36 = .ok (.iconst 1, 1) := by decide +kernel
theorem dX11_layPairs_37 : decode cX11_layPairs 37 = .ok (.iadd, 1) := by decide +kernel
theorem dX11_layPairs_38 : decode cX11_layPairs 38 = .ok (.istore_n 3, 1) := by decide +kernel
theorem dX11_layPairs_39 : decode cX11_layPairs 39 = .ok (.iload_n 3, 1) := by decide +kernel
theorem dX11_layPairs_40 : decode cX11_layPairs 40 = .ok (.aload_n 0, 1) := by decide +kernel
theorem dX11_layPairs_41 : decode cX11_layPairs 41 = .ok (.invokevirtual 363, 3) := by decide +kernel
theorem dX11_layPairs_44 : decode cX11_layPairs 44 = .ok (.if_icmp .gt 175, 3) := by decide +kernel
theorem dX11_layPairs_47 : decode cX11_layPairs 47 = .ok (.iload_n 3, 1) := by decide +kernel
theorem dX11_layPairs_48 : decode cX11_layPairs 48 = .ok (.aload_n 0, 1) := by decide +kernel
theorem dX11_layPairs_49 : decode cX11_layPairs 49 = .ok (.invokevirtual 363, 3) := by decide +kernel
theorem dX11_layPairs_52 : decode cX11_layPairs 52 = .ok (.if_icmp .ne 7, 3) := by decide +kernel
theorem dX11_layPairs_55 : decode cX11_layPairs 55 = .ok (.iconst 1, 1) := by decide +kernel
theorem dX11_layPairs_56 : decode cX11_layPairs 56 = .ok (.goto 4, 3) := by decide +kernel
theorem dX11_layPairs_59 : decode cX11_layPairs 59 = .ok (.iconst 0, 1) := by decide +kernel
theorem dX11_layPairs_60 : decode cX11_layPairs 60 = .ok (.istore 4, 2) := by decide +kernel
theorem dX11_layPairs_62 : decode cX11_layPairs 62 = .ok (.iload 4, 2) := by decide +kernel
theorem dX11_layPairs_64 : decode cX11_layPairs 64 = .ok (.ifCond .eq 15, 3) := by decide +kernel
theorem dX11_layPairs_67 : decode cX11_layPairs 67 = .ok (.iload_n 1, 1) := by decide +kernel
theorem dX11_layPairs_68 : decode cX11_layPairs 68 = .ok (.invokestatic 458, 3) := by decide +kernel
theorem dX11_layPairs_71 : decode cX11_layPairs 71 = .ok (.iconst 2, 1) := by decide +kernel
theorem dX11_layPairs_72 : decode cX11_layPairs 72 = .ok (.irem, 1) := by decide +kernel
theorem dX11_layPairs_73 : decode cX11_layPairs 73 = .ok (.ifCond .ne 17, 3) := by decide +kernel
theorem dX11_layPairs_76 : decode cX11_layPairs 76 = .ok (.goto 137, 3) := by decide +kernel
theorem dX11_layPairs_79 : decode cX11_layPairs 79 = .ok (.iload_n 1, 1) := by decide +kernel
theorem dX11_layPairs_80 : decode cX11_layPairs 80 = .ok (.iload_n 3, 1) := by decide +kernel
theorem dX11_layPairs_81 : decode cX11_layPairs 81 = .ok (.invokestatic 272, 3) := by decide +kernel
theorem dX11_layPairs_84 : decode cX11_layPairs 84 = .ok (.ifCond .ne 6, 3) := by decide +kernel
theorem dX11_layPairs_87 : decode cX11_layPairs 87 = .ok (.goto 126, 3) := by decide +kernel
theorem dX11_layPairs_90 : decode cX11_layPairs 90 = .ok (.iload_n 1, 1) := by decide +kernel
theorem dX11_layPairs_91 : decode cX11_layPairs 91 = .ok (.iconst 1, 1) := by decide +kernel
theorem dX11_layPairs_92 : decode cX11_layPairs 92 = .ok (.iload_n 2, 1) := by decide +kernel
theorem dX11_layPairs_93 : decode cX11_layPairs 93 = .ok (.ishl, 1) := by decide +kernel
theorem dX11_layPairs_94 : decode cX11_layPairs 94 = .ok (.iconst (-1), 1) := by decide +kernel
theorem dX11_layPairs_95 : decode cX11_layPairs 95 = .ok (.ixor, 1) := by decide +kernel
theorem dX11_layPairs_96 : decode cX11_layPairs 96 = .ok (.iand, 1) := by decide +kernel
theorem dX11_layPairs_97 : decode cX11_layPairs 97 = .ok (.iload 4, 2) := by decide +kernel
theorem dX11_layPairs_99 : decode cX11_layPairs 99 = .ok (.ifCond .eq 7, 3) := by decide +kernel
theorem dX11_layPairs_102 : decode cX11_layPairs 102 = .ok (.iconst 0, 1) := by decide +kernel
theorem dX11_layPairs_103 : decode cX11_layPairs 103 = .ok (.goto 6, 3) := by decide +kernel
theorem dX11_layPairs_106 : decode cX11_layPairs 106 = .ok (.iconst 1, 1) := by decide +kernel
theorem dX11_layPairs_107 : decode cX11_layPairs 107 = .ok (.iload_n 3, 1) := by decide +kernel
theorem dX11_layPairs_108 : decode cX11_layPairs 108 = .ok (.ishl, 1) := by decide +kernel
theorem dX11_layPairs_109 : decode cX11_layPairs 109 = .ok (.iconst (-1), 1) := by decide +kernel
theorem dX11_layPairs_110 : decode cX11_layPairs 110 = .ok (.ixor, 1) := by decide +kernel
theorem dX11_layPairs_111 : decode cX11_layPairs 111 = .ok (.iand, 1) := by decide +kernel
theorem dX11_layPairs_112 : decode cX11_layPairs 112 = .ok (.istore 5, 2) := by decide +kernel
theorem dX11_layPairs_114 : decode cX11_layPairs 114 = .ok (.iload 4, 2) := by decide +kernel
theorem dX11_layPairs_116 : decode cX11_layPairs 116 = .ok (.ifCond .eq 7, 3) := by decide +kernel
theorem dX11_layPairs_119 : decode cX11_layPairs 119 = .ok (.iconst 0, 1) := by decide +kernel
theorem dX11_layPairs_120 : decode cX11_layPairs 120 = .ok (.goto 30, 3) := by decide +kernel
theorem dX11_layPairs_123 : decode cX11_layPairs 123 = .ok (.aload_n 0, 1) := by decide +kernel
theorem dX11_layPairs_124 : decode cX11_layPairs 124 = .ok (.getfield 51, 3) := by decide +kernel
theorem dX11_layPairs_127 : decode cX11_layPairs 127 = .ok (.iconst 5, 1) := by decide +kernel
theorem dX11_layPairs_128 : decode cX11_layPairs 128 = .ok (.aload_n 0, 1) := by decide +kernel
theorem dX11_layPairs_129 : decode cX11_layPairs 129 = .ok (.getfield 266, 3) := by decide +kernel
theorem dX11_layPairs_132 : decode cX11_layPairs 132 = .ok (.imul, 1) := by decide +kernel
theorem dX11_layPairs_133 : decode cX11_layPairs 133 = .ok (.iload_n 2, 1) := by decide +kernel
theorem dX11_layPairs_134 : decode cX11_layPairs 134 = .ok (.iadd, 1) := by decide +kernel
theorem dX11_layPairs_135 : decode cX11_layPairs 135 = .ok (.iaload, 1) := by decide +kernel
theorem dX11_layPairs_136 : decode cX11_layPairs 136 = .ok (.aload_n 0, 1) := by decide +kernel
theorem dX11_layPairs_137 : decode cX11_layPairs 137 = .ok (.getfield 51, 3) := by decide +kernel
theorem dX11_layPairs_140 : decode cX11_layPairs 140 = .ok (.iconst 5, 1) := by decide +kernel
theorem dX11_layPairs_141 : decode cX11_layPairs 141 = .ok (.aload_n 0, 1) := by decide +kernel
theorem dX11_layPairs_142 : decode cX11_layPairs 142 = .ok (.getfield 266, 3) := by decide +kernel
theorem dX11_layPairs_145 : decode cX11_layPairs 145 = .ok (.imul, 1) := by decide +kernel
theorem dX11_layPairs_146 : decode cX11_layPairs 146 = .ok (.iload_n 3, 1) := by decide +kernel
theorem dX11_layPairs_147 : decode cX11_layPairs 147 = .ok (.iadd, 1) := by decide +kernel
theorem dX11_layPairs_148 : decode cX11_layPairs 148 = .ok (.iaload, 1) := by decide +kernel
theorem dX11_layPairs_149 : decode cX11_layPairs 149 = .ok (.isub, 1) := by decide +kernel
theorem dX11_layPairs_150 : decode cX11_layPairs 150 = .ok (.istore 6, 2) := by decide +kernel
theorem dX11_layPairs_152 : decode cX11_layPairs 152 = .ok (.aload_n 0, 1) := by decide +kernel
theorem dX11_layPairs_153 : decode cX11_layPairs 153 = .ok (.getfield 112, 3) := by decide +kernel
theorem dX11_layPairs_156 : decode cX11_layPairs 156 = .ok (.iload 5, 2) := by decide +kernel
theorem dX11_layPairs_158 : decode cX11_layPairs 158 = .ok (.iaload, 1) := by decide +kernel
theorem dX11_layPairs_159 : decode cX11_layPairs 159 = .ok (.iload 6, 2) := by decide +kernel
theorem dX11_layPairs_161 : decode cX11_layPairs 161 = .ok (.ifCond .ge 9, 3) := by decide +kernel
theorem dX11_layPairs_164 : decode cX11_layPairs 164 = .ok (.iload 6, 2) := by decide +kernel
theorem dX11_layPairs_166 : decode cX11_layPairs 166 = .ok (.ineg, 1) := by decide +kernel
theorem dX11_layPairs_167 : decode cX11_layPairs 167 = .ok (.goto 5, 3) := by decide +kernel
theorem dX11_layPairs_170 : decode cX11_layPairs 170 = .ok (.iload 6, 2) := by decide +kernel
theorem dX11_layPairs_172 : decode cX11_layPairs 172 = .ok (.iadd, 1) := by decide +kernel
theorem dX11_layPairs_173 : decode cX11_layPairs 173 = .ok (.istore 7, 2) := by decide +kernel
theorem dX11_layPairs_175 : decode cX11_layPairs 175 = .ok (.iload 7, 2) := by decide +kernel
theorem dX11_layPairs_177 : decode cX11_layPairs 177 = .ok (.aload_n 0, 1) := by decide +kernel
theorem dX11_layPairs_178 : decode cX11_layPairs 178 = .ok (.getfield 112, 3) := by decide +kernel
theorem dX11_layPairs_181 : decode cX11_layPairs 181 = .ok (.iload_n 1, 1) := by decide +kernel
theorem dX11_layPairs_182 : decode cX11_layPairs 182 = .ok (.iaload, 1) := by decide +kernel
theorem dX11_layPairs_183 : decode cX11_layPairs 183 = .ok (.if_icmp .lt 6, 3) := by decide +kernel
theorem dX11_layPairs_186 : decode cX11_layPairs 186 = .ok (.goto 27, 3) := by decide +kernel
theorem dX11_layPairs_189 : decode cX11_layPairs 189 = .ok (.aload_n 0, 1) := by decide +kernel
theorem dX11_layPairs_190 : decode cX11_layPairs 190 = .ok (.getfield 112, 3) := by decide +kernel
theorem dX11_layPairs_193 : decode cX11_layPairs 193 = .ok (.iload_n 1, 1) := by decide +kernel
theorem dX11_layPairs_194 : decode cX11_layPairs 194 = .ok (.iload 7, 2) := by decide +kernel
theorem dX11_layPairs_196 : decode cX11_layPairs 196 = .ok (.iastore, 1) := by decide +kernel
theorem dX11_layPairs_197 : decode cX11_layPairs 197 = .ok (.aload_n 0, 1) := by decide +kernel
theorem dX11_layPairs_198 : decode cX11_layPairs 198 = .ok (.getfield 115, 3) := by decide +kernel
theorem dX11_layPairs_201 : decode cX11_layPairs 201 = .ok (.iload_n 1, 1) := by decide +kernel
theorem dX11_layPairs_202 : decode cX11_layPairs 202 = .ok (.iload 4, 2) := by decide +kernel
theorem dX11_layPairs_204 : decode cX11_layPairs 204 = .ok (.ifCond .eq 7, 3) := by decide +kernel
theorem dX11_layPairs_207 : decode cX11_layPairs 207 = .ok (.iconst (-1), 1) := by decide +kernel
theorem dX11_layPairs_208 : decode cX11_layPairs 208 = .ok (.goto 4, 3) := by decide +kernel
theorem dX11_layPairs_211 : decode cX11_layPairs 211 = .ok (.iload_n 3, 1) := by decide +kernel
theorem dX11_layPairs_212 : decode cX11_layPairs 212 = .ok (.iastore, 1) := by decide +kernel
theorem dX11_layPairs_213 : decode cX11_layPairs 213 = .ok (.iinc 3 1, 3) := by decide +kernel
theorem dX11_layPairs_216 : decode cX11_layPairs 216 = .ok (.goto (-177), 3) := by decide +kernel
theorem dX11_layPairs_219 : decode cX11_layPairs 219 = .ok (.iinc 1 1, 3) := by decide +kernel
theorem dX11_layPairs_222 : decode cX11_layPairs 222 = .ok (.goto (-220), 3) := by decide +kernel
theorem dX11_layPairs_225 : decode cX11_layPairs 225 = .ok (.return_, 1) := by decide +kernel
theorem dX11_pairs_0 : decode cX11_pairs 0 = .ok (.aload_n 0, 1) := by decide +kernel
theorem dX11_pairs_1 : decode cX11_pairs 1 = .ok (.getfield 112, 3) := by decide +kernel
theorem dX11_pairs_4 : decode cX11_pairs 4 = .ok (.iconst 0, 1) := by decide +kernel
theorem dX11_pairs_5 : decode cX11_pairs 5 = .ok (.iconst 0, 1) := by decide +kernel
theorem dX11_pairs_6 : decode cX11_pairs 6 = .ok (.iastore, 1) := by decide +kernel
theorem dX11_pairs_7 : decode cX11_pairs 7 = .ok (.aload_n 0, 1) := by decide +kernel
theorem dX11_pairs_8 : decode cX11_pairs 8 = .ok (.invokevirtual 485, 3) := by decide +kernel
theorem dX11_pairs_11 : decode cX11_pairs 11 = .ok (.aload_n 0, 1) := by decide +kernel
theorem dX11_pairs_12 : decode cX11_pairs 12 = .ok (.invokevirtual 379, 3) := by decide +kernel
theorem dX11_pairs_15 : decode cX11_pairs 15 = .ok (.istore_n 1, 1) := by decide +kernel
theorem dX11_pairs_16 : decode cX11_pairs 16 = .ok (.iload_n 1, 1) := by decide +kernel
theorem dX11_pairs_17 : decode cX11_pairs 17 = .ok (.ifCond .eq 66, 3) := by decide +kernel
theorem dX11_pairs_20 : decode cX11_pairs 20 = .ok (.iconst 0, 1) := by decide +kernel
theorem dX11_pairs_21 : decode cX11_pairs 21 = .ok (.istore_n 2, 1) := by decide +kernel
theorem dX11_pairs_22 : decode cX11_pairs 22 = .ok (.iload_n 1, 1) := by decide +kernel
theorem dX11_pairs_23 : decode cX11_pairs 23 = .ok (.iload_n 2, 1) := by decide +kernel
theorem dX11_pairs_24 : decode cX11_pairs 24 = .ok (.invokestatic 272, 3) := by decide +kernel
theorem dX11_pairs_27 : decode cX11_pairs 27 = .ok (.ifCond .ne 9, 3) := by decide +kernel
theorem dX11_pairs_30 : decode cX11_pairs 30 = .ok (.iinc 2 1, 3) := by decide +kernel
theorem dX11_pairs_33 : decode cX11_pairs 33 = .ok (.goto (-11), 3) := by decide +kernel
theorem dX11_pairs_36 : decode cX11_pairs 36 = .ok (.aload_n 0, 1) := by decide +kernel
theorem dX11_pairs_37 : decode cX11_pairs 37 = .ok (.getfield 115, 3) := by decide +kernel
theorem dX11_pairs_40 : decode cX11_pairs 40 = .ok (.iload_n 1, 1) := by decide +kernel
theorem dX11_pairs_41 : decode cX11_pairs 41 = .ok (.iaload, 1) := by decide +kernel
theorem dX11_pairs_42 : decode cX11_pairs 42 = .ok (.istore_n 3, 1) := by decide +kernel
theorem dX11_pairs_43 : decode cX11_pairs 43 = .ok (.aload_n 0, 1) := by decide +kernel
theorem dX11_pairs_44 : decode cX11_pairs 44 = .ok (.getfield 103, 3) := by decide +kernel
theorem dX11_pairs_47 : decode cX11_pairs 47 = .ok (.iload_n 2, 1) := by decide +kernel
theorem dX11_pairs_48 : decode cX11_pairs 48 = .ok (.iload_n 3, 1) := by decide +kernel
theorem dX11_pairs_49 : decode cX11_pairs 49 = .ok (.iastore, 1) := by decide +kernel
theorem dX11_pairs_50 : decode cX11_pairs 50 = .ok (.iload_n 1, 1) := by decide +kernel
theorem dX11_pairs_51 : decode cX11_pairs 51 = .ok (.iconst 1, 1) := by decide +kernel
theorem dX11_pairs_52 : decode cX11_pairs 52 = .ok (.iload_n 2, 1) := by decide +kernel
theorem dX11_pairs_53 : decode cX11_pairs 53 = .ok (.ishl, 1) := by decide +kernel
theorem dX11_pairs_54 : decode cX11_pairs 54 = .ok (.iconst (-1), 1) := by decide +kernel
theorem dX11_pairs_55 : decode cX11_pairs 55 = .ok (.ixor, 1) := by decide +kernel
theorem dX11_pairs_56 : decode cX11_pairs 56 = .ok (.iand, 1) := by decide +kernel
theorem dX11_pairs_57 : decode cX11_pairs 57 = .ok (.istore_n 1, 1) := by decide +kernel
theorem dX11_pairs_58 : decode cX11_pairs 58 = .ok (.iload_n 3, 1) := by decide +kernel
theorem dX11_pairs_59 : decode cX11_pairs 59 = .ok (.ifCond .ge 6, 3) := by decide +kernel
theorem dX11_pairs_62 : decode cX11_pairs 62 = .ok (.goto (-46), 3) := by decide +kernel
theorem dX11_pairs_65 : decode cX11_pairs 65 = .ok (.aload_n 0, 1) := by decide +kernel
theorem dX11_pairs_66 : decode cX11_pairs 66 = .ok (.getfield 103, 3) := by decide +kernel
theorem dX11_pairs_69 : decode cX11_pairs 69 = .ok (.iload_n 3, 1) := by decide +kernel
theorem dX11_pairs_70 : decode cX11_pairs 70 = .ok (.iload_n 2, 1) := by decide +kernel
theorem dX11_pairs_71 : decode cX11_pairs 71 = .ok (.iastore, 1) := by decide +kernel
theorem dX11_pairs_72 : decode cX11_pairs 72 = .ok (.iload_n 1, 1) := by decide +kernel
theorem dX11_pairs_73 : decode cX11_pairs 73 = .ok (.iconst 1, 1) := by decide +kernel
theorem dX11_pairs_74 : decode cX11_pairs 74 = .ok (.iload_n 3, 1) := by decide +kernel
theorem dX11_pairs_75 : decode cX11_pairs 75 = .ok (.ishl, 1) := by decide +kernel
theorem dX11_pairs_76 : decode cX11_pairs 76 = .ok (.iconst (-1), 1) := by decide +kernel
theorem dX11_pairs_77 : decode cX11_pairs 77 = .ok (.ixor, 1) := by decide +kernel
theorem dX11_pairs_78 : decode cX11_pairs 78 = .ok (.iand, 1) := by decide +kernel
theorem dX11_pairs_79 : decode cX11_pairs 79 = .ok (.istore_n 1, 1) := by decide +kernel
theorem dX11_pairs_80 : decode cX11_pairs 80 = .ok (.goto (-64), 3) := by decide +kernel
theorem dX11_pairs_83 : decode cX11_pairs 83 = .ok (.aload_n 0, 1) := by decide +kernel
theorem dX11_pairs_84 : decode cX11_pairs 84 = .ok (.aload_n 0, 1) := by decide +kernel
theorem dX11_pairs_85 : decode cX11_pairs 85 = .ok (.invokevirtual 363, 3) := by decide +kernel
theorem dX11_pairs_88 : decode cX11_pairs 88 = .ok (.putfield 391, 3) := by decide +kernel
theorem dX11_pairs_91 : decode cX11_pairs 91 = .ok (.aload_n 0, 1) := by decide +kernel
theorem dX11_pairs_92 : decode cX11_pairs 92 = .ok (.getfield 112, 3) := by decide +kernel
theorem dX11_pairs_95 : decode cX11_pairs 95 = .ok (.aload_n 0, 1) := by decide +kernel
theorem dX11_pairs_96 : decode cX11_pairs 96 = .ok (.invokevirtual 379, 3) := by decide +kernel
theorem dX11_pairs_99 : decode cX11_pairs 99 = .ok (.iaload, 1) := by decide +kernel
theorem dX11_pairs_100 : decode cX11_pairs 100 = .ok (.ireturn, 1) := by decide +kernel
theorem dX11_need_0 : decode cX11_need 0 = .ok (.aload_n 0, 1) := by decide +kernel
theorem dX11_need_1 : decode cX11_need 1 = .ok (.iload_n 1, 1) := by decide +kernel
theorem dX11_need_2 : decode cX11_need 2 = .ok (.invokevirtual 403, 3) := by decide +kernel
theorem dX11_need_5 : decode cX11_need 5 = .ok (.ifCond .ne 5, 3) := by decide +kernel
theorem dX11_need_8 : decode cX11_need 8 = .ok (.iconst (-1), 1) := by decide +kernel
theorem dX11_need_9 : decode cX11_need 9 = .ok (.ireturn, 1) := by decide +kernel
theorem dX11_need_10 : decode cX11_need 10 = .ok (.iconst 0, 1) := by decide +kernel
theorem dX11_need_11 : decode cX11_need 11 = .ok (.istore_n 2, 1) := by decide +kernel
theorem dX11_need_12 : decode cX11_need 12 = .ok (.aload_n 0, 1) := by decide +kernel
theorem dX11_need_13 : decode cX11_need 13 = .ok (.getfield 91, 3) := by decide +kernel
theorem dX11_need_16 : decode cX11_need 16 = .ok (.bipush 10, 2) := by decide +kernel
theorem dX11_need_18 : decode cX11_need 18 = .ok (.iload_n 1, 1) := by decide +kernel
theorem dX11_need_19 : decode cX11_need 19 = .ok (.iadd, 1) := by decide +kernel
theorem dX11_need_20 : decode cX11_need 20 = .ok (.iaload, 1) := by decide +kernel
theorem dX11_need_21 : decode cX11_need 21 = .ok (.iload_n 2, 1) := by decide +kernel
theorem dX11_need_22 : decode cX11_need 22 = .ok (.iadd, 1) := by decide +kernel
theorem dX11_need_23 : decode cX11_need 23 = .ok (.bipush 99, 2) := by decide +kernel
theorem dX11_need_25 : decode cX11_need 25 = .ok (.if_icmp .gt 41, 3) := by decide +kernel
theorem dX11_need_28 : decode cX11_need 28 = .ok (.aload_n 0, 1) := by decide +kernel
theorem dX11_need_29 : decode cX11_need 29 = .ok (.invokevirtual 449, 3) := by decide +kernel
theorem dX11_need_32 : decode cX11_need 32 = .ok (.aload_n 0, 1) := by decide +kernel
theorem dX11_need_33 : decode cX11_need 33 = .ok (.getfield 91, 3) := by decide +kernel
theorem dX11_need_36 : decode cX11_need 36 = .ok (.bipush 10, 2) := by decide +kernel
theorem dX11_need_38 : decode cX11_need 38 = .ok (.iload_n 1, 1) := by decide +kernel
theorem dX11_need_39 : decode cX11_need 39 = .ok (.iadd, 1) := by decide +kernel
theorem dX11_need_40 : decode cX11_need 40 = .ok (.dup2, 1) := by decide +kernel
theorem dX11_need_41 : decode cX11_need 41 = .ok (.iaload, 1) := by decide +kernel
theorem dX11_need_42 : decode cX11_need 42 = .ok (.iload_n 2, 1) := by decide +kernel
theorem dX11_need_43 : decode cX11_need 43 = .ok (.iadd, 1) := by decide +kernel
theorem dX11_need_44 : decode cX11_need 44 = .ok (.iastore, 1) := by decide +kernel
theorem dX11_need_45 : decode cX11_need 45 = .ok (.aload_n 0, 1) := by decide +kernel
theorem dX11_need_46 : decode cX11_need 46 = .ok (.iconst 0, 1) := by decide +kernel
theorem dX11_need_47 : decode cX11_need 47 = .ok (.iconst 0, 1) := by decide +kernel
theorem dX11_need_48 : decode cX11_need 48 = .ok (.invokevirtual 452, 3) := by decide +kernel
theorem dX11_need_51 : decode cX11_need 51 = .ok (.iload_n 1, 1) := by decide +kernel
theorem dX11_need_52 : decode cX11_need 52 = .ok (.invokestatic 272, 3) := by decide +kernel
theorem dX11_need_55 : decode cX11_need 55 = .ok (.ifCond .eq 5, 3) := by decide +kernel
theorem dX11_need_58 : decode cX11_need 58 = .ok (.iload_n 2, 1) := by decide +kernel
theorem dX11_need_59 : decode cX11_need 59 = .ok (.ireturn, 1) := by decide +kernel
theorem dX11_need_60 : decode cX11_need 60 = .ok (.iinc 2 1, 3) := by decide +kernel
theorem dX11_need_63 : decode cX11_need 63 = .ok (.goto (-51), 3) := by decide +kernel
theorem dX11_need_66 : decode cX11_need 66 = .ok (.iconst (-1), 1) := by decide +kernel
theorem dX11_need_67 : decode cX11_need 67 = .ok (.ireturn, 1) := by decide +kernel
theorem dX11_bears_0 : decode cX11_bears 0 = .ok (.aload_n 0, 1) := by decide +kernel
theorem dX11_bears_1 : decode cX11_bears 1 = .ok (.iload_n 1, 1) := by decide +kernel
theorem dX11_bears_2 : decode cX11_bears 2 = .ok (.invokevirtual 370, 3) := by decide +kernel
theorem dX11_bears_5 : decode cX11_bears 5 = .ok (.ifCond .eq 14, 3) := by decide +kernel
theorem dX11_bears_8 : decode cX11_bears 8 = .ok (.aload_n 0, 1) := by decide +kernel
theorem dX11_bears_9 : decode cX11_bears 9 = .ok (.invokevirtual 455, 3) := by decide +kernel
theorem dX11_bears_12 : decode cX11_bears 12 = .ok (.iload_n 1, 1) := by decide +kernel
theorem dX11_bears_13 : decode cX11_bears 13 = .ok (.invokestatic 272, 3) := by decide +kernel
theorem dX11_bears_16 : decode cX11_bears 16 = .ok (.ifCond .ne 5, 3) := by decide +kernel
theorem dX11_bears_19 : decode cX11_bears 19 = .ok (.iconst (-1), 1) := by decide +kernel
theorem dX11_bears_20 : decode cX11_bears 20 = .ok (.ireturn, 1) := by decide +kernel
theorem dX11_bears_21 : decode cX11_bears 21 = .ok (.bipush 99, 2) := by decide +kernel
theorem dX11_bears_23 : decode cX11_bears 23 = .ok (.istore_n 2, 1) := by decide +kernel
theorem dX11_bears_24 : decode cX11_bears 24 = .ok (.iload_n 2, 1) := by decide +kernel
theorem dX11_bears_25 : decode cX11_bears 25 = .ok (.ifCond .le 28, 3) := by decide +kernel
theorem dX11_bears_28 : decode cX11_bears 28 = .ok (.aload_n 0, 1) := by decide +kernel
theorem dX11_bears_29 : decode cX11_bears 29 = .ok (.invokevirtual 449, 3) := by decide +kernel
theorem dX11_bears_32 : decode cX11_bears 32 = .ok (.aload_n 0, 1) := by decide +kernel
theorem dX11_bears_33 : decode cX11_bears 33 = .ok (.iload_n 2, 1) := by decide +kernel
theorem dX11_bears_34 : decode cX11_bears 34 = .ok (.iconst 0, 1) := by decide +kernel
theorem dX11_bears_35 : decode cX11_bears 35 = .ok (.invokevirtual 452, 3) := by decide +kernel
theorem dX11_bears_38 : decode cX11_bears 38 = .ok (.iload_n 1, 1) := by decide +kernel
theorem dX11_bears_39 : decode cX11_bears 39 = .ok (.invokestatic 272, 3) := by decide +kernel
theorem dX11_bears_42 : decode cX11_bears 42 = .ok (.ifCond .eq 5, 3) := by decide +kernel
theorem dX11_bears_45 : decode cX11_bears 45 = .ok (.iload_n 2, 1) := by decide +kernel
theorem dX11_bears_46 : decode cX11_bears 46 = .ok (.ireturn, 1) := by decide +kernel
theorem dX11_bears_47 : decode cX11_bears 47 = .ok (.iinc 2 (-1), 3) := by decide +kernel
theorem dX11_bears_50 : decode cX11_bears 50 = .ok (.goto (-26), 3) := by decide +kernel
theorem dX11_bears_53 : decode cX11_bears 53 = .ok (.iconst 0, 1) := by decide +kernel
theorem dX11_bears_54 : decode cX11_bears 54 = .ok (.ireturn, 1) := by decide +kernel
theorem dX11_shield_0 : decode cX11_shield 0 = .ok (.iconst (-1), 1) := by decide +kernel
theorem dX11_shield_1 : decode cX11_shield 1 = .ok (.istore_n 1, 1) := by decide +kernel
theorem dX11_shield_2 : decode cX11_shield 2 = .ok (.iconst 0, 1) := by decide +kernel
theorem dX11_shield_3 : decode cX11_shield 3 = .ok (.istore_n 2, 1) := by decide +kernel
theorem dX11_shield_4 : decode cX11_shield 4 = .ok (.iconst 0, 1) := by decide +kernel
theorem dX11_shield_5 : decode cX11_shield 5 = .ok (.istore_n 3, 1) := by decide +kernel
theorem dX11_shield_6 : decode cX11_shield 6 = .ok (.iload_n 3, 1) := by decide +kernel
theorem dX11_shield_7 : decode cX11_shield 7 = .ok (.aload_n 0, 1) := by decide +kernel
theorem dX11_shield_8 : decode cX11_shield 8 = .ok (.invokevirtual 363, 3) := by decide +kernel
theorem dX11_shield_11 : decode cX11_shield 11 = .ok (.if_icmp .ge 70, 3) := by decide +kernel
theorem dX11_shield_14 : decode cX11_shield 14 = .ok (.aload_n 0, 1) := by decide +kernel
theorem dX11_shield_15 : decode cX11_shield 15 = .ok (.iload_n 3, 1) := by decide +kernel
theorem dX11_shield_16 : decode cX11_shield 16 = .ok (.invokevirtual 403, 3) := by decide +kernel
theorem dX11_shield_19 : decode cX11_shield 19 = .ok (.ifCond .ne 6, 3) := by decide +kernel
theorem dX11_shield_22 : decode cX11_shield 22 = .ok (.goto 53, 3) := by decide +kernel
theorem dX11_shield_25 : decode cX11_shield 25 = .ok (.aload_n 0, 1) := by decide +kernel
theorem dX11_shield_26 : decode cX11_shield 26 = .ok (.invokevirtual 449, 3) := by decide +kernel
theorem dX11_shield_29 : decode cX11_shield 29 = .ok (.aload_n 0, 1) := by decide +kernel
theorem dX11_shield_30 : decode cX11_shield 30 = .ok (.getfield 91, 3) := by decide +kernel
theorem dX11_shield_33 : decode cX11_shield 33 = .ok (.bipush 20, 2) := by decide +kernel
theorem dX11_shield_35 : decode cX11_shield 35 = .ok (.dup2, 1) := by decide +kernel
theorem dX11_shield_36 : decode cX11_shield 36 = .ok (.iaload, 1) := by decide +kernel
theorem dX11_shield_37 : decode cX11_shield 37 = .ok (.aload_n 0, 1) := by decide +kernel
theorem dX11_shield_38 : decode cX11_shield 38 = .ok (.iload_n 3, 1) := by decide +kernel
theorem dX11_shield_39 : decode cX11_shield 39 = .ok (.invokevirtual 394, 3) := by decide +kernel
theorem dX11_shield_42 : decode cX11_shield 42 = .ok (.iconst (-1), 1) := by decide +kernel
theorem dX11_shield_43 : decode cX11_shield 43 = .ok (.ixor, 1) := by decide +kernel
theorem dX11_shield_44 : decode cX11_shield 44 = .ok (.iand, 1) := by decide +kernel
theorem dX11_shield_45 : decode cX11_shield 45 = .ok (.iastore, 1) := by decide +kernel
theorem dX11_shield_46 : decode cX11_shield 46 = .ok (.aload_n 0, 1) := by decide +kernel
theorem dX11_shield_47 : decode cX11_shield 47 = .ok (.iconst 0, 1) := by decide +kernel
theorem dX11_shield_48 : decode cX11_shield 48 = .ok (.iconst 0, 1) := by decide +kernel
theorem dX11_shield_49 : decode cX11_shield 49 = .ok (.invokevirtual 452, 3) := by decide +kernel
theorem dX11_shield_52 : decode cX11_shield 52 = .ok (.invokestatic 458, 3) := by decide +kernel
theorem dX11_shield_55 : decode cX11_shield 55 = .ok (.istore 4, 2) := by decide +kernel
theorem dX11_shield_57 : decode cX11_shield 57 = .ok (.iload_n 1, 1) := by decide +kernel
theorem dX11_shield_58 : decode cX11_shield 58 = .ok (.ifCond .lt 12, 3) := by decide +kernel
theorem dX11_shield_61 : decode cX11_shield 61 = .ok (.iload 4, 2) := by decide +kernel
theorem dX11_shield_63 : decode cX11_shield 63 = .ok (.iload_n 2, 1) := by decide +kernel
theorem dX11_shield_64 : decode cX11_shield 64 = .ok (.if_icmp .lt 6, 3) := by decide +kernel
theorem dX11_shield_67 : decode cX11_shield 67 = .ok (.goto 8, 3) := by decide +kernel
theorem dX11_shield_70 : decode cX11_shield 70 = .ok (.iload_n 3, 1) := by decide +kernel
theorem dX11_shield_71 : decode cX11_shield 71 = .ok (.istore_n 1, 1) := by decide +kernel
theorem dX11_shield_72 : decode cX11_shield 72 = .ok (.iload 4, 2) := by decide +kernel
theorem dX11_shield_74 : decode cX11_shield 74 = .ok (.istore_n 2, 1) := by decide +kernel
theorem dX11_shield_75 : decode cX11_shield 75 = .ok (.iinc 3 1, 3) := by decide +kernel
theorem dX11_shield_78 : decode cX11_shield 78 = .ok (.goto (-72), 3) := by decide +kernel
theorem dX11_shield_81 : decode cX11_shield 81 = .ok (.iload_n 1, 1) := by decide +kernel
theorem dX11_shield_82 : decode cX11_shield 82 = .ok (.ireturn, 1) := by decide +kernel
theorem dX11_law_0 : decode cX11_law 0 = .ok (.iload_n 1, 1) := by decide +kernel
theorem dX11_law_1 : decode cX11_law 1 = .ok (.iconst 0, 1) := by decide +kernel
theorem dX11_law_2 : decode cX11_law 2 = .ok (.bipush 20, 2) := by decide +kernel
theorem dX11_law_4 : decode cX11_law 4 = .ok (.invokestatic 366, 3) := by decide +kernel
theorem dX11_law_7 : decode cX11_law 7 = .ok (.ifCond .ne 5, 3) := by decide +kernel
theorem dX11_law_10 : decode cX11_law 10 = .ok (.iconst (-1), 1) := by decide +kernel
theorem dX11_law_11 : decode cX11_law 11 = .ok (.ireturn, 1) := by decide +kernel
theorem dX11_law_12 : decode cX11_law 12 = .ok (.aload_n 0, 1) := by decide +kernel
theorem dX11_law_13 : decode cX11_law 13 = .ok (.invokevirtual 449, 3) := by decide +kernel
theorem dX11_law_16 : decode cX11_law 16 = .ok (.iconst 0, 1) := by decide +kernel
theorem dX11_law_17 : decode cX11_law 17 = .ok (.istore_n 2, 1) := by decide +kernel
theorem dX11_law_18 : decode cX11_law 18 = .ok (.iload_n 2, 1) := by decide +kernel
theorem dX11_law_19 : decode cX11_law 19 = .ok (.aload_n 0, 1) := by decide +kernel
theorem dX11_law_20 : decode cX11_law 20 = .ok (.invokevirtual 363, 3) := by decide +kernel
theorem dX11_law_23 : decode cX11_law 23 = .ok (.if_icmp .ge 18, 3) := by decide +kernel
theorem dX11_law_26 : decode cX11_law 26 = .ok (.aload_n 0, 1) := by decide +kernel
theorem dX11_law_27 : decode cX11_law 27 = .ok (.getfield 91, 3) := by decide +kernel
theorem dX11_law_30 : decode cX11_law 30 = .ok (.iconst 5, 1) := by decide +kernel
theorem dX11_law_31 : decode cX11_law 31 = .ok (.iload_n 2, 1) := by decide +kernel
theorem dX11_law_32 : decode cX11_law 32 = .ok (.iadd, 1) := by decide +kernel
theorem dX11_law_33 : decode cX11_law 33 = .ok (.iload_n 1, 1) := by decide +kernel
theorem dX11_law_34 : decode cX11_law 34 = .ok (.iastore, 1) := by decide +kernel
theorem dX11_law_35 : decode cX11_law 35 = .ok (.iinc 2 1, 3) := by decide +kernel
theorem dX11_law_38 : decode cX11_law 38 = .ok (.goto (-20), 3) := by decide +kernel
theorem dX11_law_41 : decode cX11_law 41 = .ok (.aload_n 0, 1) := by decide +kernel
theorem dX11_law_42 : decode cX11_law 42 = .ok (.iconst 0, 1) := by decide +kernel
theorem dX11_law_43 : decode cX11_law 43 = .ok (.iconst 0, 1) := by decide +kernel
theorem dX11_law_44 : decode cX11_law 44 = .ok (.invokevirtual 452, 3) := by decide +kernel
theorem dX11_law_47 : decode cX11_law 47 = .ok (.invokestatic 458, 3) := by decide +kernel
theorem dX11_law_50 : decode cX11_law 50 = .ok (.ireturn, 1) := by decide +kernel
theorem dX11_odds_0 : decode cX11_odds 0 = .ok (.aload_n 0, 1) := by decide +kernel
theorem dX11_odds_1 : decode cX11_odds 1 = .ok (.iload_n 1, 1) := by decide +kernel
theorem dX11_odds_2 : decode cX11_odds 2 = .ok (.invokevirtual 370, 3) := by decide +kernel
theorem dX11_odds_5 : decode cX11_odds 5 = .ok (.ifCond .eq 12, 3) := by decide +kernel
theorem dX11_odds_8 : decode cX11_odds 8 = .ok (.iload_n 2, 1) := by decide +kernel
theorem dX11_odds_9 : decode cX11_odds 9 = .ok (.iconst 0, 1) := by decide +kernel
theorem dX11_odds_10 : decode cX11_odds 10 = .ok (.iconst 1, 1) := by decide +kernel
theorem dX11_odds_11 : decode cX11_odds 11 = .ok (.invokestatic 366, 3) := by decide +kernel
theorem dX11_odds_14 : decode cX11_odds 14 = .ok (.ifCond .ne 5, 3) := by decide +kernel
theorem dX11_odds_17 : decode cX11_odds 17 = .ok (.iconst (-1), 1) := by decide +kernel
theorem dX11_odds_18 : decode cX11_odds 18 = .ok (.ireturn, 1) := by decide +kernel
theorem dX11_odds_19 : decode cX11_odds 19 = .ok (.iconst 0, 1) := by decide +kernel
theorem dX11_odds_20 : decode cX11_odds 20 = .ok (.istore_n 3, 1) := by decide +kernel
theorem dX11_odds_21 : decode cX11_odds 21 = .ok (.iconst 1, 1) := by decide +kernel
theorem dX11_odds_22 : decode cX11_odds 22 = .ok (.istore 4, 2) := by decide +kernel
theorem dX11_odds_24 : decode cX11_odds 24 = .ok (.aload_n 0, 1) := by decide +kernel
theorem dX11_odds_25 : decode cX11_odds 25 = .ok (.getfield 91, 3) := by decide +kernel
theorem dX11_odds_28 : decode cX11_odds 28 = .ok (.bipush 21, 2) := by decide +kernel
theorem dX11_odds_30 : decode cX11_odds 30 = .ok (.iaload, 1) := by decide +kernel
theorem dX11_odds_31 : decode cX11_odds 31 = .ok (.istore 5, 2) := by decide +kernel
theorem dX11_odds_33 : decode cX11_odds 33 = .ok (.iload 5, 2) := by decide +kernel
theorem dX11_odds_35 : decode cX11_odds 35 = .ok (.aload_n 0, 1) := by decide +kernel
theorem dX11_odds_36 : decode cX11_odds 36 = .ok (.invokevirtual 430, 3) := by decide +kernel
theorem dX11_odds_39 : decode cX11_odds 39 = .ok (.if_icmp .ge 44, 3) := by decide +kernel
theorem dX11_odds_42 : decode cX11_odds 42 = .ok (.aload_n 0, 1) := by decide +kernel
theorem dX11_odds_43 : decode cX11_odds 43 = .ok (.getfield 48, 3) := by decide +kernel
theorem dX11_odds_46 : decode cX11_odds 46 = .ok (.bipush 8, 2) := by decide +kernel
theorem dX11_odds_48 : decode cX11_odds 48 = .ok (.aload_n 0, 1) := by decide +kernel
theorem dX11_odds_49 : decode cX11_odds 49 = .ok (.getfield 266, 3) := by decide +kernel
theorem dX11_odds_52 : decode cX11_odds 52 = .ok (.imul, 1) := by decide +kernel
theorem dX11_odds_53 : decode cX11_odds 53 = .ok (.iload 5, 2) := by decide +kernel
theorem dX11_odds_55 : decode cX11_odds 55 = .ok (.iadd, 1) := by decide +kernel
theorem dX11_odds_56 : decode cX11_odds 56 = .ok (.iaload, 1) := by decide +kernel
theorem dX11_odds_57 : decode cX11_odds 57 = .ok (.ifCond .ne 6, 3) := by decide +kernel
theorem dX11_odds_60 : decode cX11_odds 60 = .ok (.goto 17, 3) := by decide +kernel
theorem dX11_odds_63 : decode cX11_odds 63 = .ok (.iload_n 3, 1) := by decide +kernel
theorem dX11_odds_64 : decode cX11_odds 64 = .ok (.iconst 1, 1) := by decide +kernel
theorem dX11_odds_65 : decode cX11_odds 65 = .ok (.iload 5, 2) := by decide +kernel
theorem dX11_odds_67 : decode cX11_odds 67 = .ok (.ishl, 1) := by decide +kernel
theorem dX11_odds_68 : decode cX11_odds 68 = .ok (.ior, 1) := by decide +kernel
theorem dX11_odds_69 : decode cX11_odds 69 = .ok (.istore_n 3, 1) := by decide +kernel
theorem dX11_odds_70 : decode cX11_odds 70 = .ok (.iload 4, 2) := by decide +kernel
theorem dX11_odds_72 : decode cX11_odds 72 = .ok (.bipush 100, 2) := by decide +kernel
theorem dX11_odds_74 : decode cX11_odds 74 = .ok (.imul, 1) := by decide +kernel
theorem dX11_odds_75 : decode cX11_odds 75 = .ok (.istore 4, 2) := by decide +kernel
theorem dX11_odds_77 : decode cX11_odds 77 = .ok (.iinc 5 1, 3) := by decide +kernel
theorem dX11_odds_80 : decode cX11_odds 80 = .ok (.goto (-47), 3) := by decide +kernel
theorem dX11_odds_83 : decode cX11_odds 83 = .ok (.iconst 0, 1) := by decide +kernel
theorem dX11_odds_84 : decode cX11_odds 84 = .ok (.istore 5, 2) := by decide +kernel
theorem dX11_odds_86 : decode cX11_odds 86 = .ok (.iconst 0, 1) := by decide +kernel
theorem dX11_odds_87 : decode cX11_odds 87 = .ok (.istore 6, 2) := by decide +kernel
theorem dX11_odds_89 : decode cX11_odds 89 = .ok (.iload 6, 2) := by decide +kernel
theorem dX11_odds_91 : decode cX11_odds 91 = .ok (.iload_n 3, 1) := by decide +kernel
theorem dX11_odds_92 : decode cX11_odds 92 = .ok (.if_icmp .gt 51, 3) := by decide +kernel
theorem dX11_odds_95 : decode cX11_odds 95 = .ok (.iload 6, 2) := by decide +kernel
theorem dX11_odds_97 : decode cX11_odds 97 = .ok (.iload_n 3, 1) := by decide +kernel
theorem dX11_odds_98 : decode cX11_odds 98 = .ok (.iconst (-1), 1) := by decide +kernel
theorem dX11_odds_99 : decode cX11_odds 99 = .ok (.ixor, 1) := by decide +kernel
theorem dX11_odds_100 : decode cX11_odds 100 = .ok (.iand, 1) := by decide +kernel
theorem dX11_odds_101 : decode cX11_odds 101 = .ok (.ifCond .eq 6, 3) := by decide +kernel
theorem dX11_odds_104 : decode cX11_odds 104 = .ok (.goto 33, 3) := by decide +kernel
theorem dX11_odds_107 : decode cX11_odds 107 = .ok (.aload_n 0, 1) := by decide +kernel
theorem dX11_odds_108 : decode cX11_odds 108 = .ok (.invokevirtual 449, 3) := by decide +kernel
theorem dX11_odds_111 : decode cX11_odds 111 = .ok (.aload_n 0, 1) := by decide +kernel
theorem dX11_odds_112 : decode cX11_odds 112 = .ok (.iconst 0, 1) := by decide +kernel
theorem dX11_odds_113 : decode cX11_odds 113 = .ok (.iload 6, 2) := by decide +kernel
theorem dX11_odds_115 : decode cX11_odds 115 = .ok (.invokevirtual 452, 3) := by decide +kernel
theorem dX11_odds_118 : decode cX11_odds 118 = .ok (.iload_n 1, 1) := by decide +kernel
theorem dX11_odds_119 : decode cX11_odds 119 = .ok (.invokestatic 272, 3) := by decide +kernel
theorem dX11_odds_122 : decode cX11_odds 122 = .ok (.ifCond .eq 15, 3) := by decide +kernel
theorem dX11_odds_125 : decode cX11_odds 125 = .ok (.iload 5, 2) := by decide +kernel
theorem dX11_odds_127 : decode cX11_odds 127 = .ok (.aload_n 0, 1) := by decide +kernel
theorem dX11_odds_128 : decode cX11_odds 128 = .ok (.iload_n 3, 1) := by decide +kernel
theorem dX11_odds_129 : decode cX11_odds 129 = .ok (.iload 6, 2) := by decide +kernel
theorem dX11_odds_131 : decode cX11_odds 131 = .ok (.invokevirtual 488, 3) := by decide +kernel
theorem dX11_odds_134 : decode cX11_odds 134 = .ok (.iadd, 1) := by decide +kernel
theorem dX11_odds_135 : decode cX11_odds 135 = .ok (.istore 5, 2) := by decide +kernel
theorem dX11_odds_137 : decode cX11_odds 137 = .ok (.iinc 6 1, 3) := by decide +kernel
theorem dX11_odds_140 : decode cX11_odds 140 = .ok (.goto (-51), 3) := by decide +kernel
theorem dX11_odds_143 : decode cX11_odds 143 = .ok (.iload_n 2, 1) := by decide +kernel
theorem dX11_odds_144 : decode cX11_odds 144 = .ok (.ifCond .ne 8, 3) := by decide +kernel
theorem dX11_odds_147 : decode cX11_odds 147 = .ok (.iload 5, 2) := by decide +kernel
theorem dX11_odds_149 : decode cX11_odds 149 = .ok (.goto 5, 3) := by decide +kernel
theorem dX11_odds_152 : decode cX11_odds 152 = .ok (.iload 4, 2) := by decide +kernel
theorem dX11_odds_154 : decode cX11_odds 154 = .ok (.iload 4, 2) := by decide +kernel
theorem dX11_odds_156 : decode cX11_odds 156 = .ok (.iload 5, 2) := by decide +kernel
theorem dX11_odds_158 : decode cX11_odds 158 = .ok (.invokestatic 491, 3) := by decide +kernel
theorem dX11_odds_161 : decode cX11_odds 161 = .ok (.idiv, 1) := by decide +kernel
theorem dX11_odds_162 : decode cX11_odds 162 = .ok (.ireturn, 1) := by decide +kernel
theorem dX11_weightOf_0 : decode cX11_weightOf 0 = .ok (.iconst 1, 1) := by decide +kernel
theorem dX11_weightOf_1 : decode cX11_weightOf 1 = .ok (.istore_n 3, 1) := by decide +kernel
theorem dX11_weightOf_2 : decode cX11_weightOf 2 = .ok (.iconst 0, 1) := by decide +kernel
theorem dX11_weightOf_3 : decode cX11_weightOf 3 = .ok (.istore 4, 2) := by decide +kernel
theorem dX11_weightOf_5 : decode cX11_weightOf 5 = .ok (.iload 4, 2) := by decide +kernel
theorem dX11_weightOf_7 : decode cX11_weightOf 7 = .ok (.aload_n 0, 1) := by decide +kernel
theorem dX11_weightOf_8 : decode cX11_weightOf 8 = .ok (.invokevirtual 430, 3) := by decide +kernel
theorem dX11_weightOf_11 : decode cX11_weightOf 11 = .ok (.if_icmp .ge 69, 3) := by decide +kernel
theorem dX11_weightOf_14 : decode cX11_weightOf 14 = .ok (.iload_n 1, 1) := by decide +kernel
theorem dX11_weightOf_15 : decode cX11_weightOf 15 = .ok (.iload 4, 2) := by decide +kernel
theorem dX11_weightOf_17 : decode cX11_weightOf 17 = .ok (.invokestatic 272, 3) := by decide +kernel
theorem dX11_weightOf_20 : decode cX11_weightOf 20 = .ok (.ifCond .ne 6, 3) := by decide +kernel
theorem dX11_weightOf_23 : decode cX11_weightOf 23 = .ok (.goto 51, 3) := by decide +kernel
theorem dX11_weightOf_26 : decode cX11_weightOf 26 = .ok (.iload_n 3, 1) := by decide +kernel
theorem dX11_weightOf_27 : decode cX11_weightOf 27 = .ok (.iload_n 2, 1) := by decide +kernel
theorem dX11_weightOf_28 : decode cX11_weightOf 28 = .ok (.iload 4, 2) := by decide +kernel
theorem dX11_weightOf_30 : decode cX11_weightOf 30 = .ok (.invokestatic 272, 3) := by decide +kernel
theorem dX11_weightOf_33 : decode cX11_weightOf 33 = .ok (.ifCond .eq 21, 3) := by decide +kernel
theorem dX11_weightOf_36 : decode cX11_weightOf 36 = .ok (.aload_n 0, 1) := by decide +kernel
theorem dX11_weightOf_37 : decode cX11_weightOf 37 = .ok (.getfield 45, 3) := by decide +kernel
theorem dX11_weightOf_40 : decode cX11_weightOf 40 = .ok (.bipush 8, 2) := by decide +kernel
theorem dX11_weightOf_42 : decode cX11_weightOf 42 = .ok (.aload_n 0, 1) := by decide +kernel
theorem dX11_weightOf_43 : decode cX11_weightOf 43 = .ok (.getfield 266, 3) := by decide +kernel
theorem dX11_weightOf_46 : decode cX11_weightOf 46 = .ok (.imul, 1) := by decide +kernel
theorem dX11_weightOf_47 : decode cX11_weightOf 47 = .ok (.iload 4, 2) := by decide +kernel
theorem dX11_weightOf_49 : decode cX11_weightOf 49 = .ok (.iadd, 1) := by decide +kernel
theorem dX11_weightOf_50 : decode cX11_weightOf 50 = .ok (.iaload, 1) := by decide +kernel
theorem dX11_weightOf_51 : decode cX11_weightOf 51 = .ok (.goto 21, 3) := by decide +kernel
theorem dX11_weightOf_54 : decode cX11_weightOf 54 = .ok (.bipush 100, 2) := by decide +kernel
theorem dX11_weightOf_56 : decode cX11_weightOf 56 = .ok (.aload_n 0, 1) := by decide +kernel
theorem dX11_weightOf_57 : decode cX11_weightOf 57 = .ok (.getfield 45, 3) := by decide +kernel
theorem dX11_weightOf_60 : decode cX11_weightOf 60 = .ok (.bipush 8, 2) := by decide +kernel
theorem dX11_weightOf_62 : decode cX11_weightOf 62 = .ok (.aload_n 0, 1) := by decide +kernel
theorem dX11_weightOf_63 : decode cX11_weightOf 63 = .ok (.getfield 266, 3) := by decide +kernel
theorem dX11_weightOf_66 : decode cX11_weightOf 66 = .ok (.imul, 1) := by decide +kernel
theorem dX11_weightOf_67 : decode cX11_weightOf 67 = .ok (.iload 4, 2) := by decide +kernel
theorem dX11_weightOf_69 : decode cX11_weightOf 69 = .ok (.iadd, 1) := by decide +kernel
theorem dX11_weightOf_70 : decode cX11_weightOf 70 = .ok (.iaload, 1) := by decide +kernel
theorem dX11_weightOf_71 : decode cX11_weightOf 71 = .ok (.isub, 1) := by decide +kernel
theorem dX11_weightOf_72 : decode cX11_weightOf 72 = .ok (.imul, 1) := by decide +kernel
theorem dX11_weightOf_73 : decode cX11_weightOf 73 = .ok (.istore_n 3, 1) := by decide +kernel
theorem dX11_weightOf_74 : decode cX11_weightOf 74 = .ok (.iinc 4 1, 3) := by decide +kernel
theorem dX11_weightOf_77 : decode cX11_weightOf 77 = .ok (.goto (-72), 3) := by decide +kernel
theorem dX11_weightOf_80 : decode cX11_weightOf 80 = .ok (.iload_n 3, 1) := by decide +kernel
theorem dX11_weightOf_81 : decode cX11_weightOf 81 = .ok (.ireturn, 1) := by decide +kernel
theorem dX11_seen_0 : decode cX11_seen 0 = .ok (.iload_n 1, 1) := by decide +kernel
theorem dX11_seen_1 : decode cX11_seen 1 = .ok (.iconst 0, 1) := by decide +kernel
theorem dX11_seen_2 : decode cX11_seen 2 = .ok (.aload_n 0, 1) := by decide +kernel
theorem dX11_seen_3 : decode cX11_seen 3 = .ok (.invokevirtual 430, 3) := by decide +kernel
theorem dX11_seen_6 : decode cX11_seen 6 = .ok (.invokestatic 366, 3) := by decide +kernel
theorem dX11_seen_9 : decode cX11_seen 9 = .ok (.ifCond .eq 20, 3) := by decide +kernel
theorem dX11_seen_12 : decode cX11_seen 12 = .ok (.aload_n 0, 1) := by decide +kernel
theorem dX11_seen_13 : decode cX11_seen 13 = .ok (.iload_n 2, 1) := by decide +kernel
theorem dX11_seen_14 : decode cX11_seen 14 = .ok (.invokevirtual 370, 3) := by decide +kernel
theorem dX11_seen_17 : decode cX11_seen 17 = .ok (.ifCond .eq 12, 3) := by decide +kernel
theorem dX11_seen_20 : decode cX11_seen 20 = .ok (.aload_n 0, 1) := by decide +kernel
theorem dX11_seen_21 : decode cX11_seen 21 = .ok (.getfield 388, 3) := by decide +kernel
theorem dX11_seen_24 : decode cX11_seen 24 = .ok (.bipush 30, 2) := by decide +kernel
theorem dX11_seen_26 : decode cX11_seen 26 = .ok (.if_icmp .ne 5, 3) := by decide +kernel
theorem dX11_seen_29 : decode cX11_seen 29 = .ok (.iconst (-1), 1) := by decide +kernel
theorem dX11_seen_30 : decode cX11_seen 30 = .ok (.ireturn, 1) := by decide +kernel
theorem dX11_seen_31 : decode cX11_seen 31 = .ok (.aload_n 0, 1) := by decide +kernel
theorem dX11_seen_32 : decode cX11_seen 32 = .ok (.getfield 121, 3) := by decide +kernel
theorem dX11_seen_35 : decode cX11_seen 35 = .ok (.aload_n 0, 1) := by decide +kernel
theorem dX11_seen_36 : decode cX11_seen 36 = .ok (.getfield 388, 3) := by decide +kernel
theorem dX11_seen_39 : decode cX11_seen 39 = .ok (.iload_n 1, 1) := by decide +kernel
theorem dX11_seen_40 : decode cX11_seen 40 = .ok (.iastore, 1) := by decide +kernel
theorem dX11_seen_41 : decode cX11_seen 41 = .ok (.aload_n 0, 1) := by decide +kernel
theorem dX11_seen_42 : decode cX11_seen 42 = .ok (.getfield 124, 3) := by decide +kernel
theorem dX11_seen_45 : decode cX11_seen 45 = .ok (.aload_n 0, 1) := by decide +kernel
theorem dX11_seen_46 : decode cX11_seen 46 = .ok (.getfield 388, 3) := by decide +kernel
theorem dX11_seen_49 : decode cX11_seen 49 = .ok (.iload_n 2, 1) := by decide +kernel
theorem dX11_seen_50 : decode cX11_seen 50 = .ok (.iastore, 1) := by decide +kernel
theorem dX11_seen_51 : decode cX11_seen 51 = .ok (.aload_n 0, 1) := by decide +kernel
theorem dX11_seen_52 : decode cX11_seen 52 = .ok (.getfield 127, 3) := by decide +kernel
theorem dX11_seen_55 : decode cX11_seen 55 = .ok (.aload_n 0, 1) := by decide +kernel
theorem dX11_seen_56 : decode cX11_seen 56 = .ok (.getfield 388, 3) := by decide +kernel
theorem dX11_seen_59 : decode cX11_seen 59 = .ok (.iload_n 3, 1) := by decide +kernel
theorem dX11_seen_60 : decode cX11_seen 60 = .ok (.ifCond .eq 7, 3) := by decide +kernel
theorem dX11_seen_63 : decode cX11_seen 63 = .ok (.iconst 1, 1) := by decide +kernel
theorem dX11_seen_64 : decode cX11_seen 64 = .ok (.goto 4, 3) := by decide +kernel
theorem dX11_seen_67 : decode cX11_seen 67 = .ok (.iconst 0, 1) := by decide +kernel
theorem dX11_seen_68 : decode cX11_seen 68 = .ok (.iastore, 1) := by decide +kernel
theorem dX11_seen_69 : decode cX11_seen 69 = .ok (.aload_n 0, 1) := by decide +kernel
theorem dX11_seen_70 : decode cX11_seen 70 = .ok (.getfield 130, 3) := by decide +kernel
theorem dX11_seen_73 : decode cX11_seen 73 = .ok (.aload_n 0, 1) := by decide +kernel
theorem dX11_seen_74 : decode cX11_seen 74 = .ok (.getfield 388, 3) := by decide +kernel
theorem dX11_seen_77 : decode cX11_seen 77 = .ok (.aload_n 0, 1) := by decide +kernel
theorem dX11_seen_78 : decode cX11_seen 78 = .ok (.getfield 494, 3) := by decide +kernel
theorem dX11_seen_81 : decode cX11_seen 81 = .ok (.iastore, 1) := by decide +kernel
theorem dX11_seen_82 : decode cX11_seen 82 = .ok (.aload_n 0, 1) := by decide +kernel
theorem dX11_seen_83 : decode cX11_seen 83 = .ok (.getfield 133, 3) := by decide +kernel
theorem dX11_seen_86 : decode cX11_seen 86 = .ok (.aload_n 0, 1) := by decide +kernel
theorem dX11_seen_87 : decode cX11_seen 87 = .ok (.getfield 388, 3) := by decide +kernel
theorem dX11_seen_90 : decode cX11_seen 90 = .ok (.iconst (-1), 1) := by decide +kernel
theorem dX11_seen_91 : decode cX11_seen 91 = .ok (.iastore, 1) := by decide +kernel
theorem dX11_seen_92 : decode cX11_seen 92 = .ok (.aload_n 0, 1) := by decide +kernel
theorem dX11_seen_93 : decode cX11_seen 93 = .ok (.dup, 1) := by decide +kernel
theorem dX11_seen_94 : decode cX11_seen 94 = .ok (.getfield 388, 3) := by decide +kernel
theorem dX11_seen_97 : decode cX11_seen 97 = .ok (.iconst 1, 1) := by decide +kernel
theorem dX11_seen_98 : decode cX11_seen 98 = .ok (.iadd, 1) := by decide +kernel
theorem dX11_seen_99 : decode cX11_seen 99 = .ok (.putfield 388, 3) := by decide +kernel
theorem dX11_seen_102 : decode cX11_seen 102 = .ok (.aload_n 0, 1) := by decide +kernel
theorem dX11_seen_103 : decode cX11_seen 103 = .ok (.getfield 388, 3) := by decide +kernel
theorem dX11_seen_106 : decode cX11_seen 106 = .ok (.iconst 1, 1) := by decide +kernel
theorem dX11_seen_107 : decode cX11_seen 107 = .ok (.isub, 1) := by decide +kernel
theorem dX11_seen_108 : decode cX11_seen 108 = .ok (.ireturn, 1) := by decide +kernel
theorem dX11_untell_0 : decode cX11_untell 0 = .ok (.iload_n 1, 1) := by decide +kernel
theorem dX11_untell_1 : decode cX11_untell 1 = .ok (.iconst 0, 1) := by decide +kernel
theorem dX11_untell_2 : decode cX11_untell 2 = .ok (.aload_n 0, 1) := by decide +kernel
theorem dX11_untell_3 : decode cX11_untell 3 = .ok (.getfield 388, 3) := by decide +kernel
theorem dX11_untell_6 : decode cX11_untell 6 = .ok (.iconst 1, 1) := by decide +kernel
theorem dX11_untell_7 : decode cX11_untell 7 = .ok (.isub, 1) := by decide +kernel
theorem dX11_untell_8 : decode cX11_untell 8 = .ok (.invokestatic 366, 3) := by decide +kernel
theorem dX11_untell_11 : decode cX11_untell 11 = .ok (.ifCond .eq 12, 3) := by decide +kernel
theorem dX11_untell_14 : decode cX11_untell 14 = .ok (.aload_n 0, 1) := by decide +kernel
theorem dX11_untell_15 : decode cX11_untell 15 = .ok (.getfield 133, 3) := by decide +kernel
theorem dX11_untell_18 : decode cX11_untell 18 = .ok (.iload_n 1, 1) := by decide +kernel
theorem dX11_untell_19 : decode cX11_untell 19 = .ok (.iaload, 1) := by decide +kernel
theorem dX11_untell_20 : decode cX11_untell 20 = .ok (.ifCond .lt 5, 3) := by decide +kernel
theorem dX11_untell_23 : decode cX11_untell 23 = .ok (.iconst 0, 1) := by decide +kernel
theorem dX11_untell_24 : decode cX11_untell 24 = .ok (.ireturn, 1) := by decide +kernel
theorem dX11_untell_25 : decode cX11_untell 25 = .ok (.aload_n 0, 1) := by decide +kernel
theorem dX11_untell_26 : decode cX11_untell 26 = .ok (.getfield 133, 3) := by decide +kernel
theorem dX11_untell_29 : decode cX11_untell 29 = .ok (.iload_n 1, 1) := by decide +kernel
theorem dX11_untell_30 : decode cX11_untell 30 = .ok (.aload_n 0, 1) := by decide +kernel
theorem dX11_untell_31 : decode cX11_untell 31 = .ok (.getfield 494, 3) := by decide +kernel
theorem dX11_untell_34 : decode cX11_untell 34 = .ok (.iastore, 1) := by decide +kernel
theorem dX11_untell_35 : decode cX11_untell 35 = .ok (.iconst 1, 1) := by decide +kernel
theorem dX11_untell_36 : decode cX11_untell 36 = .ok (.ireturn, 1) := by decide +kernel
theorem dX11_later_0 : decode cX11_later 0 = .ok (.iload_n 1, 1) := by decide +kernel
theorem dX11_later_1 : decode cX11_later 1 = .ok (.iconst 0, 1) := by decide +kernel
theorem dX11_later_2 : decode cX11_later 2 = .ok (.sipush 1000, 3) := by decide +kernel
theorem dX11_later_5 : decode cX11_later 5 = .ok (.invokestatic 366, 3) := by decide +kernel
theorem dX11_later_8 : decode cX11_later 8 = .ok (.ifCond .eq 15, 3) := by decide +kernel
theorem dX11_later_11 : decode cX11_later 11 = .ok (.aload_n 0, 1) := by decide +kernel
theorem dX11_later_12 : decode cX11_later 12 = .ok (.getfield 494, 3) := by decide +kernel
theorem dX11_later_15 : decode cX11_later 15 = .ok (.iload_n 1, 1) := by decide +kernel
theorem dX11_later_16 : decode cX11_later 16 = .ok (.iadd, 1) := by decide +kernel
theorem dX11_later_17 : decode cX11_later 17 = .ok (.ldc_w 497, 3) := by decide +kernel
theorem dX11_later_20 : decode cX11_later 20 = .ok (.if_icmp .le 5, 3) := by decide +kernel
theorem dX11_later_23 : decode cX11_later 23 = .ok (.iconst (-1), 1) := by decide +kernel
theorem dX11_later_24 : decode cX11_later 24 = .ok (.ireturn, 1) := by decide +kernel
theorem dX11_later_25 : decode cX11_later 25 = .ok (.aload_n 0, 1) := by decide +kernel
theorem dX11_later_26 : decode cX11_later 26 = .ok (.dup, 1) := by decide +kernel
theorem dX11_later_27 : decode cX11_later 27 = .ok (.getfield 494, 3) := by decide +kernel
theorem dX11_later_30 : decode cX11_later 30 = .ok (.iload_n 1, 1) := by decide +kernel
theorem dX11_later_31 : decode cX11_later 31 = .ok (.iadd, 1) := by decide +kernel
theorem dX11_later_32 : decode cX11_later 32 = .ok (.putfield 494, 3) := by decide +kernel
theorem dX11_later_35 : decode cX11_later 35 = .ok (.aload_n 0, 1) := by decide +kernel
theorem dX11_later_36 : decode cX11_later 36 = .ok (.getfield 494, 3) := by decide +kernel
theorem dX11_later_39 : decode cX11_later 39 = .ok (.ireturn, 1) := by decide +kernel
theorem dX11_layFirstDay_0 : decode cX11_layFirstDay 0 = .ok (.aload_n 0, 1) := by decide +kernel
theorem dX11_layFirstDay_1 : decode cX11_layFirstDay 1 = .ok (.invokevirtual 449, 3) := by decide +kernel
theorem dX11_layFirstDay_4 : decode cX11_layFirstDay 4 = .ok (.iconst 0, 1) := by decide +kernel
theorem dX11_layFirstDay_5 : decode cX11_layFirstDay 5 = .ok (.istore_n 1, 1) := by decide +kernel
theorem dX11_layFirstDay_6 : decode cX11_layFirstDay 6 = .ok (.iload_n 1, 1) := by decide +kernel
theorem dX11_layFirstDay_7 : decode cX11_layFirstDay 7 = .ok (.bipush 100, 2) := by decide +kernel
theorem dX11_layFirstDay_9 : decode cX11_layFirstDay 9 = .ok (.if_icmp .gt 168, 3) := by decide +kernel
theorem dX11_layFirstDay_12 : decode cX11_layFirstDay 12 = .ok (.aload_n 0, 1) := by decide +kernel
theorem dX11_layFirstDay_13 : decode cX11_layFirstDay 13 = .ok (.iload_n 1, 1) := by decide +kernel
theorem dX11_layFirstDay_14 : decode cX11_layFirstDay 14 = .ok (.putfield 94, 3) := by decide +kernel
theorem dX11_layFirstDay_17 : decode cX11_layFirstDay 17 = .ok (.iconst 0, 1) := by decide +kernel
theorem dX11_layFirstDay_18 : decode cX11_layFirstDay 18 = .ok (.istore_n 2, 1) := by decide +kernel
theorem dX11_layFirstDay_19 : decode cX11_layFirstDay 19 = .ok (.iload_n 2, 1) := by decide +kernel
theorem dX11_layFirstDay_20 : decode cX11_layFirstDay 20 = .ok (.iconst 5, 1) := by decide +kernel
theorem dX11_layFirstDay_21 : decode cX11_layFirstDay 21 = .ok (.if_icmp .ge 71, 3) := by decide +kernel
theorem dX11_layFirstDay_24 : decode cX11_layFirstDay 24 = .ok (.aload_n 0, 1) := by decide +kernel
theorem dX11_layFirstDay_25 : decode cX11_layFirstDay 25 = .ok (.getfield 91, 3) := by decide +kernel
theorem dX11_layFirstDay_28 : decode cX11_layFirstDay 28 = .ok (.iconst 0, 1) := by decide +kernel
theorem dX11_layFirstDay_29 : decode cX11_layFirstDay 29 = .ok (.iload_n 2, 1) := by decide +kernel
theorem dX11_layFirstDay_30 : decode cX11_layFirstDay 30 = .ok (.iadd, 1) := by decide +kernel
theorem dX11_layFirstDay_31 : decode cX11_layFirstDay 31 = .ok (.iload_n 2, 1) := by decide +kernel
theorem dX11_layFirstDay_32 : decode cX11_layFirstDay 32 = .ok (.iastore, 1) := by decide +kernel
theorem dX11_layFirstDay_33 : decode cX11_layFirstDay 33 = .ok (.aload_n 0, 1) := by decide +kernel
theorem dX11_layFirstDay_34 : decode cX11_layFirstDay 34 = .ok (.getfield 91, 3) := by decide +kernel
theorem dX11_layFirstDay_37 : decode cX11_layFirstDay 37 = .ok (.iconst 5, 1) := by decide +kernel
theorem dX11_layFirstDay_38 : decode cX11_layFirstDay 38 = .ok (.iload_n 2, 1) := by decide +kernel
theorem dX11_layFirstDay_39 : decode cX11_layFirstDay 39 = .ok (.iadd, 1) := by decide +kernel
theorem dX11_layFirstDay_40 : decode cX11_layFirstDay 40 = .ok (.iload_n 2, 1) := by decide +kernel
theorem dX11_layFirstDay_41 : decode cX11_layFirstDay 41 = .ok (.aload_n 0, 1) := by decide +kernel
theorem dX11_layFirstDay_42 : decode cX11_layFirstDay 42 = .ok (.invokevirtual 363, 3) := by decide +kernel
theorem dX11_layFirstDay_45 : decode cX11_layFirstDay 45 = .ok (.if_icmp .ge 19, 3) := by decide +kernel
theorem dX11_layFirstDay_48 : decode cX11_layFirstDay 48 = .ok (.aload_n 0, 1) := by decide +kernel
theorem dX11_layFirstDay_49 : decode cX11_layFirstDay 49 = .ok (.getfield 60, 3) := by decide +kernel
theorem dX11_layFirstDay_52 : decode cX11_layFirstDay 52 = .ok (.iconst 5, 1) := by decide +kernel
theorem dX11_layFirstDay_53 : decode cX11_layFirstDay 53 = .ok (.aload_n 0, 1) := by decide +kernel
theorem dX11_layFirstDay_54 : decode cX11_layFirstDay 54 = .ok (.getfield 266, 3) := by decide +kernel
theorem dX11_layFirstDay_57 : decode cX11_layFirstDay 57 = .ok (.imul, 1) := by decide +kernel
theorem dX11_layFirstDay_58 : decode cX11_layFirstDay 58 = .ok (.iload_n 2, 1) := by decide +kernel
theorem dX11_layFirstDay_59 : decode cX11_layFirstDay 59 = .ok (.iadd, 1) := by decide +kernel
theorem dX11_layFirstDay_60 : decode cX11_layFirstDay 60 = .ok (.iaload, 1) := by decide +kernel
theorem dX11_layFirstDay_61 : decode cX11_layFirstDay 61 = .ok (.goto 4, 3) := by decide +kernel
theorem dX11_layFirstDay_64 : decode cX11_layFirstDay 64 = .ok (.iconst 0, 1) := by decide +kernel
theorem dX11_layFirstDay_65 : decode cX11_layFirstDay 65 = .ok (.iastore, 1) := by decide +kernel
theorem dX11_layFirstDay_66 : decode cX11_layFirstDay 66 = .ok (.aload_n 0, 1) := by decide +kernel
theorem dX11_layFirstDay_67 : decode cX11_layFirstDay 67 = .ok (.getfield 91, 3) := by decide +kernel
theorem dX11_layFirstDay_70 : decode cX11_layFirstDay 70 = .ok (.bipush 10, 2) := by decide +kernel
theorem dX11_layFirstDay_72 : decode cX11_layFirstDay 72 = .ok (.iload_n 2, 1) := by decide +kernel
theorem dX11_layFirstDay_73 : decode cX11_layFirstDay 73 = .ok (.iadd, 1) := by decide +kernel
theorem dX11_layFirstDay_74 : decode cX11_layFirstDay 74 = .ok (.iconst 0, 1) := by decide +kernel
theorem dX11_layFirstDay_75 : decode cX11_layFirstDay 75 = .ok (.iastore, 1) := by decide +kernel
theorem dX11_layFirstDay_76 : decode cX11_layFirstDay 76 = .ok (.aload_n 0, 1) := by decide +kernel
theorem dX11_layFirstDay_77 : decode cX11_layFirstDay 77 = .ok (.getfield 91, 3) := by decide +kernel
theorem dX11_layFirstDay_80 : decode cX11_layFirstDay 80 = .ok (.bipush 15, 2) := by decide +kernel
theorem dX11_layFirstDay_82 : decode cX11_layFirstDay 82 = .ok (.iload_n 2, 1) := by decide +kernel
theorem dX11_layFirstDay_83 : decode cX11_layFirstDay 83 = .ok (.iadd, 1) := by decide +kernel
theorem dX11_layFirstDay_84 : decode cX11_layFirstDay 84 = .ok (.iconst (-1), 1) := by decide +kernel
theorem dX11_layFirstDay_85 : decode cX11_layFirstDay 85 = .ok (.iastore, 1) := by decide +kernel
theorem dX11_layFirstDay_86 : decode cX11_layFirstDay 86 = .ok (.iinc 2 1, 3) := by decide +kernel
theorem dX11_layFirstDay_89 : decode cX11_layFirstDay 89 = .ok (.goto (-70), 3) := by decide +kernel
theorem dX11_layFirstDay_92 : decode cX11_layFirstDay 92 = .ok (.aload_n 0, 1) := by decide +kernel
theorem dX11_layFirstDay_93 : decode cX11_layFirstDay 93 = .ok (.getfield 91, 3) := by decide +kernel
theorem dX11_layFirstDay_96 : decode cX11_layFirstDay 96 = .ok (.bipush 20, 2) := by decide +kernel
theorem dX11_layFirstDay_98 : decode cX11_layFirstDay 98 = .ok (.aload_n 0, 1) := by decide +kernel
theorem dX11_layFirstDay_99 : decode cX11_layFirstDay 99 = .ok (.invokevirtual 379, 3) := by decide +kernel
theorem dX11_layFirstDay_102 : decode cX11_layFirstDay 102 = .ok (.iastore, 1) := by decide +kernel
theorem dX11_layFirstDay_103 : decode cX11_layFirstDay 103 = .ok (.aload_n 0, 1) := by decide +kernel
theorem dX11_layFirstDay_104 : decode cX11_layFirstDay 104 = .ok (.getfield 91, 3) := by decide +kernel
theorem dX11_layFirstDay_107 : decode cX11_layFirstDay 107 = .ok (.bipush 21, 2) := by decide +kernel
theorem dX11_layFirstDay_109 : decode cX11_layFirstDay 109 = .ok (.iconst 0, 1) := by decide +kernel
theorem dX11_layFirstDay_110 : decode cX11_layFirstDay 110 = .ok (.iastore, 1) := by decide +kernel
theorem dX11_layFirstDay_111 : decode cX11_layFirstDay 111 = .ok (.aload_n 0, 1) := by decide +kernel
theorem dX11_layFirstDay_112 : decode cX11_layFirstDay 112 = .ok (.getfield 91, 3) := by decide +kernel
theorem dX11_layFirstDay_115 : decode cX11_layFirstDay 115 = .ok (.bipush 22, 2) := by decide +kernel
theorem dX11_layFirstDay_117 : decode cX11_layFirstDay 117 = .ok (.iconst 0, 1) := by decide +kernel
theorem dX11_layFirstDay_118 : decode cX11_layFirstDay 118 = .ok (.iastore, 1) := by decide +kernel
theorem dX11_layFirstDay_119 : decode cX11_layFirstDay 119 = .ok (.iconst 0, 1) := by decide +kernel
theorem dX11_layFirstDay_120 : decode cX11_layFirstDay 120 = .ok (.istore_n 2, 1) := by decide +kernel
theorem dX11_layFirstDay_121 : decode cX11_layFirstDay 121 = .ok (.iload_n 2, 1) := by decide +kernel
theorem dX11_layFirstDay_122 : decode cX11_layFirstDay 122 = .ok (.aload_n 0, 1) := by decide +kernel
theorem dX11_layFirstDay_123 : decode cX11_layFirstDay 123 = .ok (.invokevirtual 430, 3) := by decide +kernel
theorem dX11_layFirstDay_126 : decode cX11_layFirstDay 126 = .ok (.if_icmp .gt 45, 3) := by decide +kernel
theorem dX11_layFirstDay_129 : decode cX11_layFirstDay 129 = .ok (.aload_n 0, 1) := by decide +kernel
theorem dX11_layFirstDay_130 : decode cX11_layFirstDay 130 = .ok (.getfield 118, 3) := by decide +kernel
theorem dX11_layFirstDay_133 : decode cX11_layFirstDay 133 = .ok (.bipush 9, 2) := by decide +kernel
theorem dX11_layFirstDay_135 : decode cX11_layFirstDay 135 = .ok (.iload_n 1, 1) := by decide +kernel
theorem dX11_layFirstDay_136 : decode cX11_layFirstDay 136 = .ok (.imul, 1) := by decide +kernel
theorem dX11_layFirstDay_137 : decode cX11_layFirstDay 137 = .ok (.iload_n 2, 1) := by decide +kernel
theorem dX11_layFirstDay_138 : decode cX11_layFirstDay 138 = .ok (.iadd, 1) := by decide +kernel
theorem dX11_layFirstDay_139 : decode cX11_layFirstDay 139 = .ok (.aload_n 0, 1) := by decide +kernel
theorem dX11_layFirstDay_140 : decode cX11_layFirstDay 140 = .ok (.getfield 91, 3) := by decide +kernel
theorem dX11_layFirstDay_143 : decode cX11_layFirstDay 143 = .ok (.bipush 20, 2) := by decide +kernel
theorem dX11_layFirstDay_145 : decode cX11_layFirstDay 145 = .ok (.iaload, 1) := by decide +kernel
theorem dX11_layFirstDay_146 : decode cX11_layFirstDay 146 = .ok (.iastore, 1) := by decide +kernel
theorem dX11_layFirstDay_147 : decode cX11_layFirstDay 147 = .ok (.iload_n 2, 1) := by decide +kernel
theorem dX11_layFirstDay_148 : decode cX11_layFirstDay 148 = .ok (.aload_n 0, 1) := by decide +kernel
theorem dX11_layFirstDay_149 : decode cX11_layFirstDay 149 = .ok (.invokevirtual 430, 3) := by decide +kernel
theorem dX11_layFirstDay_152 : decode cX11_layFirstDay 152 = .ok (.if_icmp .ge 11, 3) := by decide +kernel
theorem dX11_layFirstDay_155 : decode cX11_layFirstDay 155 = .ok (.aload_n 0, 1) := by decide +kernel
theorem dX11_layFirstDay_156 : decode cX11_layFirstDay 156 = .ok (.iconst 0, 1) := by decide +kernel
theorem dX11_layFirstDay_157 : decode cX11_layFirstDay 157 = .ok (.invokevirtual 424, 3) := by decide +kernel
theorem dX11_layFirstDay_160 : decode cX11_layFirstDay 160 = .ok (.goto 4, 3) := by decide +kernel
theorem dX11_layFirstDay_163 : decode cX11_layFirstDay 163 = .ok (.iconst 0, 1) := by decide +kernel
theorem dX11_layFirstDay_164 : decode cX11_layFirstDay 164 = .ok (.istore_n 3, 1) := by decide +kernel
theorem dX11_layFirstDay_165 : decode cX11_layFirstDay 165 = .ok (.iinc 2 1, 3) := by decide +kernel
theorem dX11_layFirstDay_168 : decode cX11_layFirstDay 168 = .ok (.goto (-47), 3) := by decide +kernel
theorem dX11_layFirstDay_171 : decode cX11_layFirstDay 171 = .ok (.iinc 1 1, 3) := by decide +kernel
theorem dX11_layFirstDay_174 : decode cX11_layFirstDay 174 = .ok (.goto (-168), 3) := by decide +kernel
theorem dX11_layFirstDay_177 : decode cX11_layFirstDay 177 = .ok (.aload_n 0, 1) := by decide +kernel
theorem dX11_layFirstDay_178 : decode cX11_layFirstDay 178 = .ok (.iconst (-1), 1) := by decide +kernel
theorem dX11_layFirstDay_179 : decode cX11_layFirstDay 179 = .ok (.putfield 94, 3) := by decide +kernel
theorem dX11_layFirstDay_182 : decode cX11_layFirstDay 182 = .ok (.aload_n 0, 1) := by decide +kernel
theorem dX11_layFirstDay_183 : decode cX11_layFirstDay 183 = .ok (.invokevirtual 446, 3) := by decide +kernel
theorem dX11_layFirstDay_186 : decode cX11_layFirstDay 186 = .ok (.return_, 1) := by decide +kernel
theorem dX11_doesFit_0 : decode cX11_doesFit 0 = .ok (.iconst 0, 1) := by decide +kernel
theorem dX11_doesFit_1 : decode cX11_doesFit 1 = .ok (.istore_n 3, 1) := by decide +kernel
theorem dX11_doesFit_2 : decode cX11_doesFit 2 = .ok (.iload_n 3, 1) := by decide +kernel
theorem dX11_doesFit_3 : decode cX11_doesFit 3 = .ok (.aload_n 0, 1) := by decide +kernel
theorem dX11_doesFit_4 : decode cX11_doesFit 4 = .ok (.getfield 388, 3) := by decide +kernel
theorem dX11_doesFit_7 : decode cX11_doesFit 7 = .ok (.if_icmp .ge 77, 3) := by decide +kernel
theorem dX11_doesFit_10 : decode cX11_doesFit 10 = .ok (.aload_n 0, 1) := by decide +kernel
theorem dX11_doesFit_11 : decode cX11_doesFit 11 = .ok (.getfield 130, 3) := by decide +kernel
theorem dX11_doesFit_14 : decode cX11_doesFit 14 = .ok (.iload_n 3, 1) := by decide +kernel
theorem dX11_doesFit_15 : decode cX11_doesFit 15 = .ok (.iaload, 1) := by decide +kernel
theorem dX11_doesFit_16 : decode cX11_doesFit 16 = .ok (.iload_n 2, 1) := by decide +kernel
theorem dX11_doesFit_17 : decode cX11_doesFit 17 = .ok (.if_icmp .gt 61, 3) := by decide +kernel
theorem dX11_doesFit_20 : decode cX11_doesFit 20 = .ok (.aload_n 0, 1) := by decide +kernel
theorem dX11_doesFit_21 : decode cX11_doesFit 21 = .ok (.getfield 133, 3) := by decide +kernel
theorem dX11_doesFit_24 : decode cX11_doesFit 24 = .ok (.iload_n 3, 1) := by decide +kernel
theorem dX11_doesFit_25 : decode cX11_doesFit 25 = .ok (.iaload, 1) := by decide +kernel
theorem dX11_doesFit_26 : decode cX11_doesFit 26 = .ok (.ifCond .lt 16, 3) := by decide +kernel
theorem dX11_doesFit_29 : decode cX11_doesFit 29 = .ok (.aload_n 0, 1) := by decide +kernel
theorem dX11_doesFit_30 : decode cX11_doesFit 30 = .ok (.getfield 133, 3) := by decide +kernel
theorem dX11_doesFit_33 : decode cX11_doesFit 33 = .ok (.iload_n 3, 1) := by decide +kernel
theorem dX11_doesFit_34 : decode cX11_doesFit 34 = .ok (.iaload, 1) := by decide +kernel
theorem dX11_doesFit_35 : decode cX11_doesFit 35 = .ok (.iload_n 2, 1) := by decide +kernel
theorem dX11_doesFit_36 : decode cX11_doesFit 36 = .ok (.if_icmp .gt 6, 3) := by decide +kernel
theorem dX11_doesFit_39 : decode cX11_doesFit 39 = .ok (.goto 39, 3) := by decide +kernel
theorem dX11_doesFit_42 : decode cX11_doesFit 42 = .ok (.aload_n 0, 1) := by decide +kernel
theorem dX11_doesFit_43 : decode cX11_doesFit 43 = .ok (.getfield 118, 3) := by decide +kernel
theorem dX11_doesFit_46 : decode cX11_doesFit 46 = .ok (.bipush 9, 2) := by decide +kernel
theorem dX11_doesFit_48 : decode cX11_doesFit 48 = .ok (.iload_n 1, 1) := by decide +kernel
theorem dX11_doesFit_49 : decode cX11_doesFit 49 = .ok (.imul, 1) := by decide +kernel
theorem dX11_doesFit_50 : decode cX11_doesFit 50 = .ok (.aload_n 0, 1) := by decide +kernel
theorem dX11_doesFit_51 : decode cX11_doesFit 51 = .ok (.getfield 121, 3) := by decide +kernel
theorem dX11_doesFit_54 : decode cX11_doesFit 54 = .ok (.iload_n 3, 1) := by decide +kernel
theorem dX11_doesFit_55 : decode cX11_doesFit 55 = .ok (.iaload, 1) := by decide +kernel
theorem dX11_doesFit_56 : decode cX11_doesFit 56 = .ok (.iadd, 1) := by decide +kernel
theorem dX11_doesFit_57 : decode cX11_doesFit 57 = .ok (.iaload, 1) := by decide +kernel
theorem dX11_doesFit_58 : decode cX11_doesFit 58 = .ok (.aload_n 0, 1) := by decide +kernel
theorem dX11_doesFit_59 : decode cX11_doesFit 59 = .ok (.getfield 124, 3) := by decide +kernel
theorem dX11_doesFit_62 : decode cX11_doesFit 62 = .ok (.iload_n 3, 1) := by decide +kernel
theorem dX11_doesFit_63 : decode cX11_doesFit 63 = .ok (.iaload, 1) := by decide +kernel
theorem dX11_doesFit_64 : decode cX11_doesFit 64 = .ok (.ishr, 1) := by decide +kernel
theorem dX11_doesFit_65 : decode cX11_doesFit 65 = .ok (.iconst 1, 1) := by decide +kernel
theorem dX11_doesFit_66 : decode cX11_doesFit 66 = .ok (.iand, 1) := by decide +kernel
theorem dX11_doesFit_67 : decode cX11_doesFit 67 = .ok (.aload_n 0, 1) := by decide +kernel
theorem dX11_doesFit_68 : decode cX11_doesFit 68 = .ok (.getfield 127, 3) := by decide +kernel
theorem dX11_doesFit_71 : decode cX11_doesFit 71 = .ok (.iload_n 3, 1) := by decide +kernel
theorem dX11_doesFit_72 : decode cX11_doesFit 72 = .ok (.iaload, 1) := by decide +kernel
theorem dX11_doesFit_73 : decode cX11_doesFit 73 = .ok (.if_icmp .eq 5, 3) := by decide +kernel
theorem dX11_doesFit_76 : decode cX11_doesFit 76 = .ok (.iconst 0, 1) := by decide +kernel
theorem dX11_doesFit_77 : decode cX11_doesFit 77 = .ok (.ireturn, 1) := by decide +kernel
theorem dX11_doesFit_78 : decode cX11_doesFit 78 = .ok (.iinc 3 1, 3) := by decide +kernel
theorem dX11_doesFit_81 : decode cX11_doesFit 81 = .ok (.goto (-79), 3) := by decide +kernel
theorem dX11_doesFit_84 : decode cX11_doesFit 84 = .ok (.iconst 1, 1) := by decide +kernel
theorem dX11_doesFit_85 : decode cX11_doesFit 85 = .ok (.ireturn, 1) := by decide +kernel
theorem dX11_countFits_0 : decode cX11_countFits 0 = .ok (.iconst 0, 1) := by decide +kernel
theorem dX11_countFits_1 : decode cX11_countFits 1 = .ok (.istore_n 2, 1) := by decide +kernel
theorem dX11_countFits_2 : decode cX11_countFits 2 = .ok (.iconst 0, 1) := by decide +kernel
theorem dX11_countFits_3 : decode cX11_countFits 3 = .ok (.istore_n 3, 1) := by decide +kernel
theorem dX11_countFits_4 : decode cX11_countFits 4 = .ok (.iload_n 3, 1) := by decide +kernel
theorem dX11_countFits_5 : decode cX11_countFits 5 = .ok (.bipush 100, 2) := by decide +kernel
theorem dX11_countFits_7 : decode cX11_countFits 7 = .ok (.if_icmp .gt 26, 3) := by decide +kernel
theorem dX11_countFits_10 : decode cX11_countFits 10 = .ok (.iload_n 2, 1) := by decide +kernel
theorem dX11_countFits_11 : decode cX11_countFits 11 = .ok (.aload_n 0, 1) := by decide +kernel
theorem dX11_countFits_12 : decode cX11_countFits 12 = .ok (.iload_n 3, 1) := by decide +kernel
theorem dX11_countFits_13 : decode cX11_countFits 13 = .ok (.iload_n 1, 1) := by decide +kernel
theorem dX11_countFits_14 : decode cX11_countFits 14 = .ok (.invokevirtual 498, 3) := by decide +kernel
theorem dX11_countFits_17 : decode cX11_countFits 17 = .ok (.ifCond .eq 7, 3) := by decide +kernel
theorem dX11_countFits_20 : decode cX11_countFits 20 = .ok (.iconst 1, 1) := by decide +kernel
theorem dX11_countFits_21 : decode cX11_countFits 21 = .ok (.goto 4, 3) := by decide +kernel
theorem dX11_countFits_24 : decode cX11_countFits 24 = .ok (.iconst 0, 1) := by decide +kernel
theorem dX11_countFits_25 : decode cX11_countFits 25 = .ok (.iadd, 1) := by decide +kernel
theorem dX11_countFits_26 : decode cX11_countFits 26 = .ok (.istore_n 2, 1) := by decide +kernel
theorem dX11_countFits_27 : decode cX11_countFits 27 = .ok (.iinc 3 1, 3) := by decide +kernel
theorem dX11_countFits_30 : decode cX11_countFits 30 = .ok (.goto (-26), 3) := by decide +kernel
theorem dX11_countFits_33 : decode cX11_countFits 33 = .ok (.iload_n 2, 1) := by decide +kernel
theorem dX11_countFits_34 : decode cX11_countFits 34 = .ok (.ireturn, 1) := by decide +kernel
theorem dX11_fits_0 : decode cX11_fits 0 = .ok (.aload_n 0, 1) := by decide +kernel
theorem dX11_fits_1 : decode cX11_fits 1 = .ok (.invokevirtual 363, 3) := by decide +kernel
theorem dX11_fits_4 : decode cX11_fits 4 = .ok (.ifCond .ne 5, 3) := by decide +kernel
theorem dX11_fits_7 : decode cX11_fits 7 = .ok (.iconst 0, 1) := by decide +kernel
theorem dX11_fits_8 : decode cX11_fits 8 = .ok (.ireturn, 1) := by decide +kernel
theorem dX11_fits_9 : decode cX11_fits 9 = .ok (.aload_n 0, 1) := by decide +kernel
theorem dX11_fits_10 : decode cX11_fits 10 = .ok (.invokevirtual 501, 3) := by decide +kernel
theorem dX11_fits_13 : decode cX11_fits 13 = .ok (.aload_n 0, 1) := by decide +kernel
theorem dX11_fits_14 : decode cX11_fits 14 = .ok (.iload_n 1, 1) := by decide +kernel
theorem dX11_fits_15 : decode cX11_fits 15 = .ok (.invokevirtual 504, 3) := by decide +kernel
theorem dX11_fits_18 : decode cX11_fits 18 = .ok (.ireturn, 1) := by decide +kernel
theorem dX11_sure_0 : decode cX11_sure 0 = .ok (.iload_n 1, 1) := by decide +kernel
theorem dX11_sure_1 : decode cX11_sure 1 = .ok (.iconst 0, 1) := by decide +kernel
theorem dX11_sure_2 : decode cX11_sure 2 = .ok (.iconst 1, 1) := by decide +kernel
theorem dX11_sure_3 : decode cX11_sure 3 = .ok (.invokestatic 366, 3) := by decide +kernel
theorem dX11_sure_6 : decode cX11_sure 6 = .ok (.ifCond .eq 11, 3) := by decide +kernel
theorem dX11_sure_9 : decode cX11_sure 9 = .ok (.aload_n 0, 1) := by decide +kernel
theorem dX11_sure_10 : decode cX11_sure 10 = .ok (.iload_n 2, 1) := by decide +kernel
theorem dX11_sure_11 : decode cX11_sure 11 = .ok (.invokevirtual 507, 3) := by decide +kernel
theorem dX11_sure_14 : decode cX11_sure 14 = .ok (.ifCond .ne 5, 3) := by decide +kernel
theorem dX11_sure_17 : decode cX11_sure 17 = .ok (.iconst (-1), 1) := by decide +kernel
theorem dX11_sure_18 : decode cX11_sure 18 = .ok (.ireturn, 1) := by decide +kernel
theorem dX11_sure_19 : decode cX11_sure 19 = .ok (.iload_n 1, 1) := by decide +kernel
theorem dX11_sure_20 : decode cX11_sure 20 = .ok (.ifCond .ne 7, 3) := by decide +kernel
theorem dX11_sure_23 : decode cX11_sure 23 = .ok (.iconst 0, 1) := by decide +kernel
theorem dX11_sure_24 : decode cX11_sure 24 = .ok (.goto 5, 3) := by decide +kernel
theorem dX11_sure_27 : decode cX11_sure 27 = .ok (.bipush 100, 2) := by decide +kernel
theorem dX11_sure_29 : decode cX11_sure 29 = .ok (.istore_n 3, 1) := by decide +kernel
theorem dX11_sure_30 : decode cX11_sure 30 = .ok (.aload_n 0, 1) := by decide +kernel
theorem dX11_sure_31 : decode cX11_sure 31 = .ok (.iload_n 3, 1) := by decide +kernel
theorem dX11_sure_32 : decode cX11_sure 32 = .ok (.iload_n 2, 1) := by decide +kernel
theorem dX11_sure_33 : decode cX11_sure 33 = .ok (.invokevirtual 498, 3) := by decide +kernel
theorem dX11_sure_36 : decode cX11_sure 36 = .ok (.ifCond .ne 18, 3) := by decide +kernel
theorem dX11_sure_39 : decode cX11_sure 39 = .ok (.iload_n 3, 1) := by decide +kernel
theorem dX11_sure_40 : decode cX11_sure 40 = .ok (.iload_n 1, 1) := by decide +kernel
theorem dX11_sure_41 : decode cX11_sure 41 = .ok (.ifCond .ne 7, 3) := by decide +kernel
theorem dX11_sure_44 : decode cX11_sure 44 = .ok (.iconst 1, 1) := by decide +kernel
theorem dX11_sure_45 : decode cX11_sure 45 = .ok (.goto 4, 3) := by decide +kernel
theorem dX11_sure_48 : decode cX11_sure 48 = .ok (.iconst (-1), 1) := by decide +kernel
theorem dX11_sure_49 : decode cX11_sure 49 = .ok (.iadd, 1) := by decide +kernel
theorem dX11_sure_50 : decode cX11_sure 50 = .ok (.istore_n 3, 1) := by decide +kernel
theorem dX11_sure_51 : decode cX11_sure 51 = .ok (.goto (-21), 3) := by decide +kernel
theorem dX11_sure_54 : decode cX11_sure 54 = .ok (.iload_n 3, 1) := by decide +kernel
theorem dX11_sure_55 : decode cX11_sure 55 = .ok (.ireturn, 1) := by decide +kernel
theorem dX11_mostBehind_0 : decode cX11_mostBehind 0 = .ok (.iconst 0, 1) := by decide +kernel
theorem dX11_mostBehind_1 : decode cX11_mostBehind 1 = .ok (.istore_n 3, 1) := by decide +kernel
theorem dX11_mostBehind_2 : decode cX11_mostBehind 2 = .ok (.iload_n 3, 1) := by decide +kernel
theorem dX11_mostBehind_3 : decode cX11_mostBehind 3 = .ok (.bipush 32, 2) := by decide +kernel
theorem dX11_mostBehind_5 : decode cX11_mostBehind 5 = .ok (.if_icmp .ge 16, 3) := by decide +kernel
theorem dX11_mostBehind_8 : decode cX11_mostBehind 8 = .ok (.aload_n 0, 1) := by decide +kernel
theorem dX11_mostBehind_9 : decode cX11_mostBehind 9 = .ok (.getfield 136, 3) := by decide +kernel
theorem dX11_mostBehind_12 : decode cX11_mostBehind 12 = .ok (.iload_n 3, 1) := by decide +kernel
theorem dX11_mostBehind_13 : decode cX11_mostBehind 13 = .ok (.iconst 0, 1) := by decide +kernel
theorem dX11_mostBehind_14 : decode cX11_mostBehind 14 = .ok (.iastore, 1) := by decide +kernel
theorem dX11_mostBehind_15 : decode cX11_mostBehind 15 = .ok (.iinc 3 1, 3) := by decide +kernel
theorem dX11_mostBehind_18 : decode cX11_mostBehind 18 = .ok (.goto (-16), 3) := by decide +kernel
theorem dX11_mostBehind_21 : decode cX11_mostBehind 21 = .ok (.iconst 0, 1) := by decide +kernel
theorem dX11_mostBehind_22 : decode cX11_mostBehind 22 = .ok (.istore_n 3, 1) := by decide +kernel
theorem dX11_mostBehind_23 : decode cX11_mostBehind 23 = .ok (.iconst 0, 1) := by decide +kernel
theorem dX11_mostBehind_24 : decode cX11_mostBehind 24 = .ok (.istore 4, 2) := by decide +kernel
theorem dX11_mostBehind_26 : decode cX11_mostBehind 26 = .ok (.iload 4, 2) := by decide +kernel
theorem dX11_mostBehind_28 : decode cX11_mostBehind 28 = .ok (.bipush 100, 2) := by decide +kernel
theorem dX11_mostBehind_30 : decode cX11_mostBehind 30 = .ok (.if_icmp .gt 66, 3) := by decide +kernel
theorem dX11_mostBehind_33 : decode cX11_mostBehind 33 = .ok (.aload_n 0, 1) := by decide +kernel
theorem dX11_mostBehind_34 : decode cX11_mostBehind 34 = .ok (.iload 4, 2) := by decide +kernel
theorem dX11_mostBehind_36 : decode cX11_mostBehind 36 = .ok (.iload_n 2, 1) := by decide +kernel
theorem dX11_mostBehind_37 : decode cX11_mostBehind 37 = .ok (.invokevirtual 498, 3) := by decide +kernel
theorem dX11_mostBehind_40 : decode cX11_mostBehind 40 = .ok (.ifCond .ne 6, 3) := by decide +kernel
theorem dX11_mostBehind_43 : decode cX11_mostBehind 43 = .ok (.goto 47, 3) := by decide +kernel
theorem dX11_mostBehind_46 : decode cX11_mostBehind 46 = .ok (.aload_n 0, 1) := by decide +kernel
theorem dX11_mostBehind_47 : decode cX11_mostBehind 47 = .ok (.getfield 118, 3) := by decide +kernel
theorem dX11_mostBehind_50 : decode cX11_mostBehind 50 = .ok (.bipush 9, 2) := by decide +kernel
theorem dX11_mostBehind_52 : decode cX11_mostBehind 52 = .ok (.iload 4, 2) := by decide +kernel
theorem dX11_mostBehind_54 : decode cX11_mostBehind 54 = .ok (.imul, 1) := by decide +kernel
theorem dX11_mostBehind_55 : decode cX11_mostBehind 55 = .ok (.iload_n 1, 1) := by decide +kernel
theorem dX11_mostBehind_56 : decode cX11_mostBehind 56 = .ok (.iadd, 1) := by decide +kernel
theorem dX11_mostBehind_57 : decode cX11_mostBehind 57 = .ok (.iaload, 1) := by decide +kernel
theorem dX11_mostBehind_58 : decode cX11_mostBehind 58 = .ok (.istore 5, 2) := by decide +kernel
theorem dX11_mostBehind_60 : decode cX11_mostBehind 60 = .ok (.aload_n 0, 1) := by decide +kernel
theorem dX11_mostBehind_61 : decode cX11_mostBehind 61 = .ok (.getfield 136, 3) := by decide +kernel
theorem dX11_mostBehind_64 : decode cX11_mostBehind 64 = .ok (.iload 5, 2) := by decide +kernel
theorem dX11_mostBehind_66 : decode cX11_mostBehind 66 = .ok (.dup2, 1) := by decide +kernel
theorem dX11_mostBehind_67 : decode cX11_mostBehind 67 = .ok (.iaload, 1) := by decide +kernel
theorem dX11_mostBehind_68 : decode cX11_mostBehind 68 = .ok (.iconst 1, 1) := by decide +kernel
theorem dX11_mostBehind_69 : decode cX11_mostBehind 69 = .ok (.iadd, 1) := by decide +kernel
theorem dX11_mostBehind_70 : decode cX11_mostBehind 70 = .ok (.iastore, 1) := by decide +kernel
theorem dX11_mostBehind_71 : decode cX11_mostBehind 71 = .ok (.aload_n 0, 1) := by decide +kernel
theorem dX11_mostBehind_72 : decode cX11_mostBehind 72 = .ok (.getfield 136, 3) := by decide +kernel
theorem dX11_mostBehind_75 : decode cX11_mostBehind 75 = .ok (.iload 5, 2) := by decide +kernel
theorem dX11_mostBehind_77 : decode cX11_mostBehind 77 = .ok (.iaload, 1) := by decide +kernel
theorem dX11_mostBehind_78 : decode cX11_mostBehind 78 = .ok (.iload_n 3, 1) := by decide +kernel
theorem dX11_mostBehind_79 : decode cX11_mostBehind 79 = .ok (.if_icmp .le 11, 3) := by decide +kernel
theorem dX11_mostBehind_82 : decode cX11_mostBehind 82 = .ok (.aload_n 0, 1) := by decide +kernel
theorem dX11_mostBehind_83 : decode cX11_mostBehind 83 = .ok (.getfield 136, 3) := by decide +kernel
theorem dX11_mostBehind_86 : decode cX11_mostBehind 86 = .ok (.iload 5, 2) := by decide +kernel
theorem dX11_mostBehind_88 : decode cX11_mostBehind 88 = .ok (.iaload, 1) := by decide +kernel
theorem dX11_mostBehind_89 : decode cX11_mostBehind 89 = .ok (.istore_n 3, 1) := by decide +kernel
theorem dX11_mostBehind_90 : decode cX11_mostBehind 90 = .ok (.iinc 4 1, 3) := by decide +kernel
theorem dX11_mostBehind_93 : decode cX11_mostBehind 93 = .ok (.goto (-67), 3) := by decide +kernel
theorem dX11_mostBehind_96 : decode cX11_mostBehind 96 = .ok (.iload_n 3, 1) := by decide +kernel
theorem dX11_mostBehind_97 : decode cX11_mostBehind 97 = .ok (.ireturn, 1) := by decide +kernel
theorem dX11_ask_0 : decode cX11_ask 0 = .ok (.iload_n 1, 1) := by decide +kernel
theorem dX11_ask_1 : decode cX11_ask 1 = .ok (.iconst 0, 1) := by decide +kernel
theorem dX11_ask_2 : decode cX11_ask 2 = .ok (.iconst 1, 1) := by decide +kernel
theorem dX11_ask_3 : decode cX11_ask 3 = .ok (.invokestatic 366, 3) := by decide +kernel
theorem dX11_ask_6 : decode cX11_ask 6 = .ok (.ifCond .eq 11, 3) := by decide +kernel
theorem dX11_ask_9 : decode cX11_ask 9 = .ok (.aload_n 0, 1) := by decide +kernel
theorem dX11_ask_10 : decode cX11_ask 10 = .ok (.iload_n 2, 1) := by decide +kernel
theorem dX11_ask_11 : decode cX11_ask 11 = .ok (.invokevirtual 507, 3) := by decide +kernel
theorem dX11_ask_14 : decode cX11_ask 14 = .ok (.ifCond .ne 5, 3) := by decide +kernel
theorem dX11_ask_17 : decode cX11_ask 17 = .ok (.iconst (-1), 1) := by decide +kernel
theorem dX11_ask_18 : decode cX11_ask 18 = .ok (.ireturn, 1) := by decide +kernel
theorem dX11_ask_19 : decode cX11_ask 19 = .ok (.iconst 0, 1) := by decide +kernel
theorem dX11_ask_20 : decode cX11_ask 20 = .ok (.istore_n 3, 1) := by decide +kernel
theorem dX11_ask_21 : decode cX11_ask 21 = .ok (.iconst 1, 1) := by decide +kernel
theorem dX11_ask_22 : decode cX11_ask 22 = .ok (.istore 4, 2) := by decide +kernel
theorem dX11_ask_24 : decode cX11_ask 24 = .ok (.iload 4, 2) := by decide +kernel
theorem dX11_ask_26 : decode cX11_ask 26 = .ok (.aload_n 0, 1) := by decide +kernel
theorem dX11_ask_27 : decode cX11_ask 27 = .ok (.invokevirtual 430, 3) := by decide +kernel
theorem dX11_ask_30 : decode cX11_ask 30 = .ok (.if_icmp .gt 28, 3) := by decide +kernel
theorem dX11_ask_33 : decode cX11_ask 33 = .ok (.aload_n 0, 1) := by decide +kernel
theorem dX11_ask_34 : decode cX11_ask 34 = .ok (.iload 4, 2) := by decide +kernel
theorem dX11_ask_36 : decode cX11_ask 36 = .ok (.iload_n 2, 1) := by decide +kernel
theorem dX11_ask_37 : decode cX11_ask 37 = .ok (.invokevirtual 510, 3) := by decide +kernel
theorem dX11_ask_40 : decode cX11_ask 40 = .ok (.aload_n 0, 1) := by decide +kernel
theorem dX11_ask_41 : decode cX11_ask 41 = .ok (.iload_n 3, 1) := by decide +kernel
theorem dX11_ask_42 : decode cX11_ask 42 = .ok (.iload_n 2, 1) := by decide +kernel
theorem dX11_ask_43 : decode cX11_ask 43 = .ok (.invokevirtual 510, 3) := by decide +kernel
theorem dX11_ask_46 : decode cX11_ask 46 = .ok (.if_icmp .ge 6, 3) := by decide +kernel
theorem dX11_ask_49 : decode cX11_ask 49 = .ok (.iload 4, 2) := by decide +kernel
theorem dX11_ask_51 : decode cX11_ask 51 = .ok (.istore_n 3, 1) := by decide +kernel
theorem dX11_ask_52 : decode cX11_ask 52 = .ok (.iinc 4 1, 3) := by decide +kernel
theorem dX11_ask_55 : decode cX11_ask 55 = .ok (.goto (-31), 3) := by decide +kernel
theorem dX11_ask_58 : decode cX11_ask 58 = .ok (.iload_n 1, 1) := by decide +kernel
theorem dX11_ask_59 : decode cX11_ask 59 = .ok (.ifCond .ne 7, 3) := by decide +kernel
theorem dX11_ask_62 : decode cX11_ask 62 = .ok (.iload_n 3, 1) := by decide +kernel
theorem dX11_ask_63 : decode cX11_ask 63 = .ok (.goto 9, 3) := by decide +kernel
theorem dX11_ask_66 : decode cX11_ask 66 = .ok (.aload_n 0, 1) := by decide +kernel
theorem dX11_ask_67 : decode cX11_ask 67 = .ok (.iload_n 3, 1) := by decide +kernel
theorem dX11_ask_68 : decode cX11_ask 68 = .ok (.iload_n 2, 1) := by decide +kernel
theorem dX11_ask_69 : decode cX11_ask 69 = .ok (.invokevirtual 510, 3) := by decide +kernel
theorem dX11_ask_72 : decode cX11_ask 72 = .ok (.ireturn, 1) := by decide +kernel
theorem dX11_image_0 : decode cX11_image 0 = .ok (.iload_n 1, 1) := by decide +kernel
theorem dX11_image_1 : decode cX11_image 1 = .ok (.iconst 0, 1) := by decide +kernel
theorem dX11_image_2 : decode cX11_image 2 = .ok (.iconst 2, 1) := by decide +kernel
theorem dX11_image_3 : decode cX11_image 3 = .ok (.invokestatic 366, 3) := by decide +kernel
theorem dX11_image_6 : decode cX11_image 6 = .ok (.ifCond .ne 5, 3) := by decide +kernel
theorem dX11_image_9 : decode cX11_image 9 = .ok (.iconst (-1), 1) := by decide +kernel
theorem dX11_image_10 : decode cX11_image 10 = .ok (.ireturn, 1) := by decide +kernel
theorem dX11_image_11 : decode cX11_image 11 = .ok (.iconst 0, 1) := by decide +kernel
theorem dX11_image_12 : decode cX11_image 12 = .ok (.istore_n 2, 1) := by decide +kernel
theorem dX11_image_13 : decode cX11_image 13 = .ok (.iload_n 2, 1) := by decide +kernel
theorem dX11_image_14 : decode cX11_image 14 = .ok (.bipush 24, 2) := by decide +kernel
theorem dX11_image_16 : decode cX11_image 16 = .ok (.if_icmp .ge 26, 3) := by decide +kernel
theorem dX11_image_19 : decode cX11_image 19 = .ok (.aload_n 0, 1) := by decide +kernel
theorem dX11_image_20 : decode cX11_image 20 = .ok (.getfield 139, 3) := by decide +kernel
theorem dX11_image_23 : decode cX11_image 23 = .ok (.bipush 24, 2) := by decide +kernel
theorem dX11_image_25 : decode cX11_image 25 = .ok (.iload_n 1, 1) := by decide +kernel
theorem dX11_image_26 : decode cX11_image 26 = .ok (.imul, 1) := by decide +kernel
theorem dX11_image_27 : decode cX11_image 27 = .ok (.iload_n 2, 1) := by decide +kernel
theorem dX11_image_28 : decode cX11_image 28 = .ok (.iadd, 1) := by decide +kernel
theorem dX11_image_29 : decode cX11_image 29 = .ok (.aload_n 0, 1) := by decide +kernel
theorem dX11_image_30 : decode cX11_image 30 = .ok (.getfield 91, 3) := by decide +kernel
theorem dX11_image_33 : decode cX11_image 33 = .ok (.iload_n 2, 1) := by decide +kernel
theorem dX11_image_34 : decode cX11_image 34 = .ok (.iaload, 1) := by decide +kernel
theorem dX11_image_35 : decode cX11_image 35 = .ok (.iastore, 1) := by decide +kernel
theorem dX11_image_36 : decode cX11_image 36 = .ok (.iinc 2 1, 3) := by decide +kernel
theorem dX11_image_39 : decode cX11_image 39 = .ok (.goto (-26), 3) := by decide +kernel
theorem dX11_image_42 : decode cX11_image 42 = .ok (.aload_n 0, 1) := by decide +kernel
theorem dX11_image_43 : decode cX11_image 43 = .ok (.getfield 142, 3) := by decide +kernel
theorem dX11_image_46 : decode cX11_image 46 = .ok (.iload_n 1, 1) := by decide +kernel
theorem dX11_image_47 : decode cX11_image 47 = .ok (.iconst 1, 1) := by decide +kernel
theorem dX11_image_48 : decode cX11_image 48 = .ok (.bastore, 1) := by decide +kernel
theorem dX11_image_49 : decode cX11_image 49 = .ok (.aload_n 0, 1) := by decide +kernel
theorem dX11_image_50 : decode cX11_image 50 = .ok (.getfield 91, 3) := by decide +kernel
theorem dX11_image_53 : decode cX11_image 53 = .ok (.bipush 22, 2) := by decide +kernel
theorem dX11_image_55 : decode cX11_image 55 = .ok (.iaload, 1) := by decide +kernel
theorem dX11_image_56 : decode cX11_image 56 = .ok (.ireturn, 1) := by decide +kernel
theorem dX11_back_0 : decode cX11_back 0 = .ok (.iload_n 1, 1) := by decide +kernel
theorem dX11_back_1 : decode cX11_back 1 = .ok (.iconst 0, 1) := by decide +kernel
theorem dX11_back_2 : decode cX11_back 2 = .ok (.iconst 2, 1) := by decide +kernel
theorem dX11_back_3 : decode cX11_back 3 = .ok (.invokestatic 366, 3) := by decide +kernel
theorem dX11_back_6 : decode cX11_back 6 = .ok (.ifCond .eq 12, 3) := by decide +kernel
theorem dX11_back_9 : decode cX11_back 9 = .ok (.aload_n 0, 1) := by decide +kernel
theorem dX11_back_10 : decode cX11_back 10 = .ok (.getfield 142, 3) := by decide +kernel
theorem dX11_back_13 : decode cX11_back 13 = .ok (.iload_n 1, 1) := by decide +kernel
theorem dX11_back_14 : decode cX11_back 14 = .ok (.baload, 1) := by decide +kernel
theorem dX11_back_15 : decode cX11_back 15 = .ok (.ifCond .ne 5, 3) := by decide +kernel
theorem dX11_back_18 : decode cX11_back 18 = .ok (.iconst (-1), 1) := by decide +kernel
theorem dX11_back_19 : decode cX11_back 19 = .ok (.ireturn, 1) := by decide +kernel
theorem dX11_back_20 : decode cX11_back 20 = .ok (.iconst 0, 1) := by decide +kernel
theorem dX11_back_21 : decode cX11_back 21 = .ok (.istore_n 2, 1) := by decide +kernel
theorem dX11_back_22 : decode cX11_back 22 = .ok (.iload_n 2, 1) := by decide +kernel
theorem dX11_back_23 : decode cX11_back 23 = .ok (.bipush 24, 2) := by decide +kernel
theorem dX11_back_25 : decode cX11_back 25 = .ok (.if_icmp .ge 26, 3) := by decide +kernel
theorem dX11_back_28 : decode cX11_back 28 = .ok (.aload_n 0, 1) := by decide +kernel
theorem dX11_back_29 : decode cX11_back 29 = .ok (.getfield 91, 3) := by decide +kernel
theorem dX11_back_32 : decode cX11_back 32 = .ok (.iload_n 2, 1) := by decide +kernel
theorem dX11_back_33 : decode cX11_back 33 = .ok (.aload_n 0, 1) := by decide +kernel
theorem dX11_back_34 : decode cX11_back 34 = .ok (.getfield 139, 3) := by decide +kernel
theorem dX11_back_37 : decode cX11_back 37 = .ok (.bipush 24, 2) := by decide +kernel
theorem dX11_back_39 : decode cX11_back 39 = .ok (.iload_n 1, 1) := by decide +kernel
theorem dX11_back_40 : decode cX11_back 40 = .ok (.imul, 1) := by decide +kernel
theorem dX11_back_41 : decode cX11_back 41 = .ok (.iload_n 2, 1) := by decide +kernel
theorem dX11_back_42 : decode cX11_back 42 = .ok (.iadd, 1) := by decide +kernel
theorem dX11_back_43 : decode cX11_back 43 = .ok (.iaload, 1) := by decide +kernel
theorem dX11_back_44 : decode cX11_back 44 = .ok (.iastore, 1) := by decide +kernel
theorem dX11_back_45 : decode cX11_back 45 = .ok (.iinc 2 1, 3) := by decide +kernel
theorem dX11_back_48 : decode cX11_back 48 = .ok (.goto (-26), 3) := by decide +kernel
theorem dX11_back_51 : decode cX11_back 51 = .ok (.aload_n 0, 1) := by decide +kernel
theorem dX11_back_52 : decode cX11_back 52 = .ok (.iconst 0, 1) := by decide +kernel
theorem dX11_back_53 : decode cX11_back 53 = .ok (.putfield 382, 3) := by decide +kernel
theorem dX11_back_56 : decode cX11_back 56 = .ok (.aload_n 0, 1) := by decide +kernel
theorem dX11_back_57 : decode cX11_back 57 = .ok (.iconst 0, 1) := by decide +kernel
theorem dX11_back_58 : decode cX11_back 58 = .ok (.putfield 385, 3) := by decide +kernel
theorem dX11_back_61 : decode cX11_back 61 = .ok (.aload_n 0, 1) := by decide +kernel
theorem dX11_back_62 : decode cX11_back 62 = .ok (.getfield 91, 3) := by decide +kernel
theorem dX11_back_65 : decode cX11_back 65 = .ok (.bipush 22, 2) := by decide +kernel
theorem dX11_back_67 : decode cX11_back 67 = .ok (.iaload, 1) := by decide +kernel
theorem dX11_back_68 : decode cX11_back 68 = .ok (.ireturn, 1) := by decide +kernel
theorem dX11_about_0 : decode cX11_about 0 = .ok (.iload_n 1, 1) := by decide +kernel
theorem dX11_about_1 : decode cX11_about 1 = .ok (.tableswitch 149 0 12 #[67, 72, 77, 85, 93, 101, 109, 114, 119, 124, 129, 134, 144], 67) := by decide +kernel
theorem dX11_about_68 : decode cX11_about 68 = .ok (.aload_n 0, 1) := by decide +kernel
theorem dX11_about_69 : decode cX11_about 69 = .ok (.invokevirtual 363, 3) := by decide +kernel
theorem dX11_about_72 : decode cX11_about 72 = .ok (.ireturn, 1) := by decide +kernel
theorem dX11_about_73 : decode cX11_about 73 = .ok (.aload_n 0, 1) := by decide +kernel
theorem dX11_about_74 : decode cX11_about 74 = .ok (.invokevirtual 430, 3) := by decide +kernel
theorem dX11_about_77 : decode cX11_about 77 = .ok (.ireturn, 1) := by decide +kernel
theorem dX11_about_78 : decode cX11_about 78 = .ok (.aload_n 0, 1) := by decide +kernel
theorem dX11_about_79 : decode cX11_about 79 = .ok (.getfield 91, 3) := by decide +kernel
theorem dX11_about_82 : decode cX11_about 82 = .ok (.bipush 20, 2) := by decide +kernel
theorem dX11_about_84 : decode cX11_about 84 = .ok (.iaload, 1) := by decide +kernel
theorem dX11_about_85 : decode cX11_about 85 = .ok (.ireturn, 1) := by decide +kernel
theorem dX11_about_86 : decode cX11_about 86 = .ok (.aload_n 0, 1) := by decide +kernel
theorem dX11_about_87 : decode cX11_about 87 = .ok (.getfield 91, 3) := by decide +kernel
theorem dX11_about_90 : decode cX11_about 90 = .ok (.bipush 21, 2) := by decide +kernel
theorem dX11_about_92 : decode cX11_about 92 = .ok (.iaload, 1) := by decide +kernel
theorem dX11_about_93 : decode cX11_about 93 = .ok (.ireturn, 1) := by decide +kernel
theorem dX11_about_94 : decode cX11_about 94 = .ok (.aload_n 0, 1) := by decide +kernel
theorem dX11_about_95 : decode cX11_about 95 = .ok (.getfield 91, 3) := by decide +kernel
theorem dX11_about_98 : decode cX11_about 98 = .ok (.bipush 22, 2) := by decide +kernel
theorem dX11_about_100 : decode cX11_about 100 = .ok (.iaload, 1) := by decide +kernel
theorem dX11_about_101 : decode cX11_about 101 = .ok (.ireturn, 1) := by decide +kernel
theorem dX11_about_102 : decode cX11_about 102 = .ok (.aload_n 0, 1) := by decide +kernel
theorem dX11_about_103 : decode cX11_about 103 = .ok (.getfield 91, 3) := by decide +kernel
theorem dX11_about_106 : decode cX11_about 106 = .ok (.bipush 23, 2) := by decide +kernel
theorem dX11_about_108 : decode cX11_about 108 = .ok (.iaload, 1) := by decide +kernel
theorem dX11_about_109 : decode cX11_about 109 = .ok (.ireturn, 1) := by decide +kernel
theorem dX11_about_110 : decode cX11_about 110 = .ok (.aload_n 0, 1) := by decide +kernel
theorem dX11_about_111 : decode cX11_about 111 = .ok (.getfield 382, 3) := by decide +kernel
theorem dX11_about_114 : decode cX11_about 114 = .ok (.ireturn, 1) := by decide +kernel
theorem dX11_about_115 : decode cX11_about 115 = .ok (.aload_n 0, 1) := by decide +kernel
theorem dX11_about_116 : decode cX11_about 116 = .ok (.getfield 385, 3) := by decide +kernel
theorem dX11_about_119 : decode cX11_about 119 = .ok (.ireturn, 1) := by decide +kernel
theorem dX11_about_120 : decode cX11_about 120 = .ok (.aload_n 0, 1) := by decide +kernel
theorem dX11_about_121 : decode cX11_about 121 = .ok (.getfield 388, 3) := by decide +kernel
theorem dX11_about_124 : decode cX11_about 124 = .ok (.ireturn, 1) := by decide +kernel
theorem dX11_about_125 : decode cX11_about 125 = .ok (.aload_n 0, 1) := by decide +kernel
theorem dX11_about_126 : decode cX11_about 126 = .ok (.getfield 494, 3) := by decide +kernel
theorem dX11_about_129 : decode cX11_about 129 = .ok (.ireturn, 1) := by decide +kernel
theorem dX11_about_130 : decode cX11_about 130 = .ok (.aload_n 0, 1) := by decide +kernel
theorem dX11_about_131 : decode cX11_about 131 = .ok (.getfield 263, 3) := by decide +kernel
theorem dX11_about_134 : decode cX11_about 134 = .ok (.ireturn, 1) := by decide +kernel
theorem dX11_about_135 : decode cX11_about 135 = .ok (.aload_n 0, 1) := by decide +kernel
theorem dX11_about_136 : decode cX11_about 136 = .ok (.getfield 30, 3) := by decide +kernel
theorem dX11_about_139 : decode cX11_about 139 = .ok (.aload_n 0, 1) := by decide +kernel
theorem dX11_about_140 : decode cX11_about 140 = .ok (.getfield 266, 3) := by decide +kernel
theorem dX11_about_143 : decode cX11_about 143 = .ok (.iaload, 1) := by decide +kernel
theorem dX11_about_144 : decode cX11_about 144 = .ok (.ireturn, 1) := by decide +kernel
theorem dX11_about_145 : decode cX11_about 145 = .ok (.aload_n 0, 1) := by decide +kernel
theorem dX11_about_146 : decode cX11_about 146 = .ok (.getfield 391, 3) := by decide +kernel
theorem dX11_about_149 : decode cX11_about 149 = .ok (.ireturn, 1) := by decide +kernel
theorem dX11_about_150 : decode cX11_about 150 = .ok (.iconst (-1), 1) := by decide +kernel
theorem dX11_about_151 : decode cX11_about 151 = .ok (.ireturn, 1) := by decide +kernel
theorem dX11_feed_0 : decode cX11_feed 0 = .ok (.aload_n 0, 1) := by decide +kernel
theorem dX11_feed_1 : decode cX11_feed 1 = .ok (.getfield 263, 3) := by decide +kernel
theorem dX11_feed_4 : decode cX11_feed 4 = .ok (.bipush 20, 2) := by decide +kernel
theorem dX11_feed_6 : decode cX11_feed 6 = .ok (.iadd, 1) := by decide +kernel
theorem dX11_feed_7 : decode cX11_feed 7 = .ok (.sipush 1600, 3) := by decide +kernel
theorem dX11_feed_10 : decode cX11_feed 10 = .ok (.if_icmp .le 5, 3) := by decide +kernel
theorem dX11_feed_13 : decode cX11_feed 13 = .ok (.iconst (-1), 1) := by decide +kernel
theorem dX11_feed_14 : decode cX11_feed 14 = .ok (.ireturn, 1) := by decide +kernel
theorem dX11_feed_15 : decode cX11_feed 15 = .ok (.iconst 0, 1) := by decide +kernel
theorem dX11_feed_16 : decode cX11_feed 16 = .ok (.istore 6, 2) := by decide +kernel
theorem dX11_feed_18 : decode cX11_feed 18 = .ok (.iload 6, 2) := by decide +kernel
theorem dX11_feed_20 : decode cX11_feed 20 = .ok (.bipush 20, 2) := by decide +kernel
theorem dX11_feed_22 : decode cX11_feed 22 = .ok (.if_icmp .ge 83, 3) := by decide +kernel
theorem dX11_feed_25 : decode cX11_feed 25 = .ok (.iload 6, 2) := by decide +kernel
theorem dX11_feed_27 : decode cX11_feed 27 = .ok (.iconst 4, 1) := by decide +kernel
theorem dX11_feed_28 : decode cX11_feed 28 = .ok (.if_icmp .ge 7, 3) := by decide +kernel
theorem dX11_feed_31 : decode cX11_feed 31 = .ok (.iload_n 1, 1) := by decide +kernel
theorem dX11_feed_32 : decode cX11_feed 32 = .ok (.goto 39, 3) := by decide +kernel
theorem dX11_feed_35 : decode cX11_feed 35 = .ok (.iload 6, 2) := by decide +kernel
theorem dX11_feed_37 : decode cX11_feed 37 = .ok (.bipush 8, 2) := by decide +kernel
theorem dX11_feed_39 : decode cX11_feed 39 = .ok (.if_icmp .ge 7, 3) := by decide +kernel
theorem dX11_feed_42 : decode cX11_feed 42 = .ok (.iload_n 2, 1) := by decide +kernel
theorem dX11_feed_43 : decode cX11_feed 43 = .ok (.goto 28, 3) := by decide +kernel
theorem dX11_feed_46 : decode cX11_feed 46 = .ok (.iload 6, 2) := by decide +kernel
theorem dX11_feed_48 : decode cX11_feed 48 = .ok (.bipush 12, 2) := by decide +kernel
theorem dX11_feed_50 : decode cX11_feed 50 = .ok (.if_icmp .ge 7, 3) := by decide +kernel
theorem dX11_feed_53 : decode cX11_feed 53 = .ok (.iload_n 3, 1) := by decide +kernel
theorem dX11_feed_54 : decode cX11_feed 54 = .ok (.goto 17, 3) := by decide +kernel
theorem dX11_feed_57 : decode cX11_feed 57 = .ok (.iload 6, 2) := by decide +kernel
theorem dX11_feed_59 : decode cX11_feed 59 = .ok (.bipush 16, 2) := by decide +kernel
theorem dX11_feed_61 : decode cX11_feed 61 = .ok (.if_icmp .ge 8, 3) := by decide +kernel
theorem dX11_feed_64 : decode cX11_feed 64 = .ok (.iload 4, 2) := by decide +kernel
theorem dX11_feed_66 : decode cX11_feed 66 = .ok (.goto 5, 3) := by decide +kernel
theorem dX11_feed_69 : decode cX11_feed 69 = .ok (.iload 5, 2) := by decide +kernel
theorem dX11_feed_71 : decode cX11_feed 71 = .ok (.istore 7, 2) := by decide +kernel
theorem dX11_feed_73 : decode cX11_feed 73 = .ok (.aload_n 0, 1) := by decide +kernel
theorem dX11_feed_74 : decode cX11_feed 74 = .ok (.getfield 7, 3) := by decide +kernel
theorem dX11_feed_77 : decode cX11_feed 77 = .ok (.aload_n 0, 1) := by decide +kernel
theorem dX11_feed_78 : decode cX11_feed 78 = .ok (.getfield 263, 3) := by decide +kernel
theorem dX11_feed_81 : decode cX11_feed 81 = .ok (.iload 6, 2) := by decide +kernel
theorem dX11_feed_83 : decode cX11_feed 83 = .ok (.iadd, 1) := by decide +kernel
theorem dX11_feed_84 : decode cX11_feed 84 = .ok (.iload 7, 2) := by decide +kernel
theorem dX11_feed_86 : decode cX11_feed 86 = .ok (.bipush 24, 2) := by decide +kernel
theorem dX11_feed_88 : decode cX11_feed 88 = .ok (.bipush 8, 2) := by decide +kernel
theorem dX11_feed_90 : decode cX11_feed 90 = .ok (.iload 6, 2) := by decide +kernel
theorem dX11_feed_92 : decode cX11_feed 92 = .ok (.iconst 3, 1) := by decide +kernel
theorem dX11_feed_93 : decode cX11_feed 93 = .ok (.iand, 1) := by decide +kernel
theorem dX11_feed_94 : decode cX11_feed 94 = .ok (.imul, 1) := by decide +kernel
theorem dX11_feed_95 : decode cX11_feed 95 = .ok (.isub, 1) := by decide +kernel
theorem dX11_feed_96 : decode cX11_feed 96 = .ok (.ishr, 1) := by decide +kernel
theorem dX11_feed_97 : decode cX11_feed 97 = .ok (.i2b, 1) := by decide +kernel
theorem dX11_feed_98 : decode cX11_feed 98 = .ok (.bastore, 1) := by decide +kernel
theorem dX11_feed_99 : decode cX11_feed 99 = .ok (.iinc 6 1, 3) := by decide +kernel
theorem dX11_feed_102 : decode cX11_feed 102 = .ok (.goto (-84), 3) := by decide +kernel
theorem dX11_feed_105 : decode cX11_feed 105 = .ok (.aload_n 0, 1) := by decide +kernel
theorem dX11_feed_106 : decode cX11_feed 106 = .ok (.dup, 1) := by decide +kernel
theorem dX11_feed_107 : decode cX11_feed 107 = .ok (.getfield 263, 3) := by decide +kernel
theorem dX11_feed_110 : decode cX11_feed 110 = .ok (.bipush 20, 2) := by decide +kernel
theorem dX11_feed_112 : decode cX11_feed 112 = .ok (.iadd, 1) := by decide +kernel
theorem dX11_feed_113 : decode cX11_feed 113 = .ok (.putfield 263, 3) := by decide +kernel
theorem dX11_feed_116 : decode cX11_feed 116 = .ok (.aload_n 0, 1) := by decide +kernel
theorem dX11_feed_117 : decode cX11_feed 117 = .ok (.getfield 263, 3) := by decide +kernel
theorem dX11_feed_120 : decode cX11_feed 120 = .ok (.ireturn, 1) := by decide +kernel
theorem dX11_end_0 : decode cX11_end 0 = .ok (.iload_n 1, 1) := by decide +kernel
theorem dX11_end_1 : decode cX11_end 1 = .ok (.ifCond .lt 11, 3) := by decide +kernel
theorem dX11_end_4 : decode cX11_end 4 = .ok (.iload_n 1, 1) := by decide +kernel
theorem dX11_end_5 : decode cX11_end 5 = .ok (.aload_n 0, 1) := by decide +kernel
theorem dX11_end_6 : decode cX11_end 6 = .ok (.getfield 263, 3) := by decide +kernel
theorem dX11_end_9 : decode cX11_end 9 = .ok (.if_icmp .le 5, 3) := by decide +kernel
theorem dX11_end_12 : decode cX11_end 12 = .ok (.iconst (-1), 1) := by decide +kernel
theorem dX11_end_13 : decode cX11_end 13 = .ok (.ireturn, 1) := by decide +kernel
theorem dX11_end_14 : decode cX11_end 14 = .ok (.aload_n 0, 1) := by decide +kernel
theorem dX11_end_15 : decode cX11_end 15 = .ok (.iload_n 1, 1) := by decide +kernel
theorem dX11_end_16 : decode cX11_end 16 = .ok (.putfield 263, 3) := by decide +kernel
theorem dX11_end_19 : decode cX11_end 19 = .ok (.iload_n 1, 1) := by decide +kernel
theorem dX11_end_20 : decode cX11_end 20 = .ok (.ireturn, 1) := by decide +kernel
theorem dJ11_isValidCodePoint_9a6ad_0 : decode cJ11_isValidCodePoint_9a6ad 0 = .ok (.iload_n 0, 1) := by decide +kernel
theorem dJ11_isValidCodePoint_9a6ad_1 : decode cJ11_isValidCodePoint_9a6ad 1 = .ok (.bipush 16, 2) := by decide +kernel
theorem dJ11_isValidCodePoint_9a6ad_3 : decode cJ11_isValidCodePoint_9a6ad 3 = .ok (.iushr, 1) := by decide +kernel
theorem dJ11_isValidCodePoint_9a6ad_4 : decode cJ11_isValidCodePoint_9a6ad 4 = .ok (.istore_n 1, 1) := by decide +kernel
theorem dJ11_isValidCodePoint_9a6ad_5 : decode cJ11_isValidCodePoint_9a6ad 5 = .ok (.iload_n 1, 1) := by decide +kernel
theorem dJ11_isValidCodePoint_9a6ad_6 : decode cJ11_isValidCodePoint_9a6ad 6 = .ok (.bipush 17, 2) := by decide +kernel
theorem dJ11_isValidCodePoint_9a6ad_8 : decode cJ11_isValidCodePoint_9a6ad 8 = .ok (.if_icmp .ge 7, 3) := by decide +kernel
theorem dJ11_isValidCodePoint_9a6ad_11 : decode cJ11_isValidCodePoint_9a6ad 11 = .ok (.iconst 1, 1) := by decide +kernel
theorem dJ11_isValidCodePoint_9a6ad_12 : decode cJ11_isValidCodePoint_9a6ad 12 = .ok (.goto 4, 3) := by decide +kernel
theorem dJ11_isValidCodePoint_9a6ad_15 : decode cJ11_isValidCodePoint_9a6ad 15 = .ok (.iconst 0, 1) := by decide +kernel
theorem dJ11_isValidCodePoint_9a6ad_16 : decode cJ11_isValidCodePoint_9a6ad 16 = .ok (.ireturn, 1) := by decide +kernel
theorem dJ11_highSurrogate_5068e_0 : decode cJ11_highSurrogate_5068e 0 = .ok (.iload_n 0, 1) := by decide +kernel
theorem dJ11_highSurrogate_5068e_1 : decode cJ11_highSurrogate_5068e 1 = .ok (.bipush 10, 2) := by decide +kernel
theorem dJ11_highSurrogate_5068e_3 : decode cJ11_highSurrogate_5068e 3 = .ok (.iushr, 1) := by decide +kernel
theorem dJ11_highSurrogate_5068e_4 : decode cJ11_highSurrogate_5068e 4 = .ok (.ldc 110, 2) := by decide +kernel
theorem dJ11_highSurrogate_5068e_6 : decode cJ11_highSurrogate_5068e 6 = .ok (.iadd, 1) := by decide +kernel
theorem dJ11_highSurrogate_5068e_7 : decode cJ11_highSurrogate_5068e 7 = .ok (.i2c, 1) := by decide +kernel
theorem dJ11_highSurrogate_5068e_8 : decode cJ11_highSurrogate_5068e 8 = .ok (.ireturn, 1) := by decide +kernel
theorem dJ11_lowSurrogate_5068e_0 : decode cJ11_lowSurrogate_5068e 0 = .ok (.iload_n 0, 1) := by decide +kernel
theorem dJ11_lowSurrogate_5068e_1 : decode cJ11_lowSurrogate_5068e 1 = .ok (.sipush 1023, 3) := by decide +kernel
theorem dJ11_lowSurrogate_5068e_4 : decode cJ11_lowSurrogate_5068e 4 = .ok (.iand, 1) := by decide +kernel
theorem dJ11_lowSurrogate_5068e_5 : decode cJ11_lowSurrogate_5068e 5 = .ok (.ldc 76, 2) := by decide +kernel
theorem dJ11_lowSurrogate_5068e_7 : decode cJ11_lowSurrogate_5068e 7 = .ok (.iadd, 1) := by decide +kernel
theorem dJ11_lowSurrogate_5068e_8 : decode cJ11_lowSurrogate_5068e 8 = .ok (.i2c, 1) := by decide +kernel
theorem dJ11_lowSurrogate_5068e_9 : decode cJ11_lowSurrogate_5068e 9 = .ok (.ireturn, 1) := by decide +kernel
theorem dJ6_bitCount_0f7a4_0 : decode cJ6_bitCount_0f7a4 0 = .ok (.iload_n 0, 1) := by decide +kernel
theorem dJ6_bitCount_0f7a4_1 : decode cJ6_bitCount_0f7a4 1 = .ok (.iload_n 0, 1) := by decide +kernel
theorem dJ6_bitCount_0f7a4_2 : decode cJ6_bitCount_0f7a4 2 = .ok (.iconst 1, 1) := by decide +kernel
theorem dJ6_bitCount_0f7a4_3 : decode cJ6_bitCount_0f7a4 3 = .ok (.iushr, 1) := by decide +kernel
theorem dJ6_bitCount_0f7a4_4 : decode cJ6_bitCount_0f7a4 4 = .ok (.ldc_w 265, 3) := by decide +kernel
theorem dJ6_bitCount_0f7a4_7 : decode cJ6_bitCount_0f7a4 7 = .ok (.iand, 1) := by decide +kernel
theorem dJ6_bitCount_0f7a4_8 : decode cJ6_bitCount_0f7a4 8 = .ok (.isub, 1) := by decide +kernel
theorem dJ6_bitCount_0f7a4_9 : decode cJ6_bitCount_0f7a4 9 = .ok (.istore_n 0, 1) := by decide +kernel
theorem dJ6_bitCount_0f7a4_10 : decode cJ6_bitCount_0f7a4 10 = .ok (.iload_n 0, 1) := by decide +kernel
theorem dJ6_bitCount_0f7a4_11 : decode cJ6_bitCount_0f7a4 11 = .ok (.ldc_w 266, 3) := by decide +kernel
theorem dJ6_bitCount_0f7a4_14 : decode cJ6_bitCount_0f7a4 14 = .ok (.iand, 1) := by decide +kernel
theorem dJ6_bitCount_0f7a4_15 : decode cJ6_bitCount_0f7a4 15 = .ok (.iload_n 0, 1) := by decide +kernel
theorem dJ6_bitCount_0f7a4_16 : decode cJ6_bitCount_0f7a4 16 = .ok (.iconst 2, 1) := by decide +kernel
theorem dJ6_bitCount_0f7a4_17 : decode cJ6_bitCount_0f7a4 17 = .ok (.iushr, 1) := by decide +kernel
theorem dJ6_bitCount_0f7a4_18 : decode cJ6_bitCount_0f7a4 18 = .ok (.ldc_w 266, 3) := by decide +kernel
theorem dJ6_bitCount_0f7a4_21 : decode cJ6_bitCount_0f7a4 21 = .ok (.iand, 1) := by decide +kernel
theorem dJ6_bitCount_0f7a4_22 : decode cJ6_bitCount_0f7a4 22 = .ok (.iadd, 1) := by decide +kernel
theorem dJ6_bitCount_0f7a4_23 : decode cJ6_bitCount_0f7a4 23 = .ok (.istore_n 0, 1) := by decide +kernel
theorem dJ6_bitCount_0f7a4_24 : decode cJ6_bitCount_0f7a4 24 = .ok (.iload_n 0, 1) := by decide +kernel
theorem dJ6_bitCount_0f7a4_25 : decode cJ6_bitCount_0f7a4 25 = .ok (.iload_n 0, 1) := by decide +kernel
theorem dJ6_bitCount_0f7a4_26 : decode cJ6_bitCount_0f7a4 26 = .ok (.iconst 4, 1) := by decide +kernel
theorem dJ6_bitCount_0f7a4_27 : decode cJ6_bitCount_0f7a4 27 = .ok (.iushr, 1) := by decide +kernel
theorem dJ6_bitCount_0f7a4_28 : decode cJ6_bitCount_0f7a4 28 = .ok (.iadd, 1) := by decide +kernel
theorem dJ6_bitCount_0f7a4_29 : decode cJ6_bitCount_0f7a4 29 = .ok (.ldc_w 267, 3) := by decide +kernel
theorem dJ6_bitCount_0f7a4_32 : decode cJ6_bitCount_0f7a4 32 = .ok (.iand, 1) := by decide +kernel
theorem dJ6_bitCount_0f7a4_33 : decode cJ6_bitCount_0f7a4 33 = .ok (.istore_n 0, 1) := by decide +kernel
theorem dJ6_bitCount_0f7a4_34 : decode cJ6_bitCount_0f7a4 34 = .ok (.iload_n 0, 1) := by decide +kernel
theorem dJ6_bitCount_0f7a4_35 : decode cJ6_bitCount_0f7a4 35 = .ok (.iload_n 0, 1) := by decide +kernel
theorem dJ6_bitCount_0f7a4_36 : decode cJ6_bitCount_0f7a4 36 = .ok (.bipush 8, 2) := by decide +kernel
theorem dJ6_bitCount_0f7a4_38 : decode cJ6_bitCount_0f7a4 38 = .ok (.iushr, 1) := by decide +kernel
theorem dJ6_bitCount_0f7a4_39 : decode cJ6_bitCount_0f7a4 39 = .ok (.iadd, 1) := by decide +kernel
theorem dJ6_bitCount_0f7a4_40 : decode cJ6_bitCount_0f7a4 40 = .ok (.istore_n 0, 1) := by decide +kernel
theorem dJ6_bitCount_0f7a4_41 : decode cJ6_bitCount_0f7a4 41 = .ok (.iload_n 0, 1) := by decide +kernel
theorem dJ6_bitCount_0f7a4_42 : decode cJ6_bitCount_0f7a4 42 = .ok (.iload_n 0, 1) := by decide +kernel
theorem dJ6_bitCount_0f7a4_43 : decode cJ6_bitCount_0f7a4 43 = .ok (.bipush 16, 2) := by decide +kernel
theorem dJ6_bitCount_0f7a4_45 : decode cJ6_bitCount_0f7a4 45 = .ok (.iushr, 1) := by decide +kernel
theorem dJ6_bitCount_0f7a4_46 : decode cJ6_bitCount_0f7a4 46 = .ok (.iadd, 1) := by decide +kernel
theorem dJ6_bitCount_0f7a4_47 : decode cJ6_bitCount_0f7a4 47 = .ok (.istore_n 0, 1) := by decide +kernel
theorem dJ6_bitCount_0f7a4_48 : decode cJ6_bitCount_0f7a4 48 = .ok (.iload_n 0, 1) := by decide +kernel
theorem dJ6_bitCount_0f7a4_49 : decode cJ6_bitCount_0f7a4 49 = .ok (.bipush 63, 2) := by decide +kernel
theorem dJ6_bitCount_0f7a4_51 : decode cJ6_bitCount_0f7a4 51 = .ok (.iand, 1) := by decide +kernel
theorem dJ6_bitCount_0f7a4_52 : decode cJ6_bitCount_0f7a4 52 = .ok (.ireturn, 1) := by decide +kernel
theorem dJ9_abs_0f7a4_0 : decode cJ9_abs_0f7a4 0 = .ok (.iload_n 0, 1) := by decide +kernel
theorem dJ9_abs_0f7a4_1 : decode cJ9_abs_0f7a4 1 = .ok (.ifCond .ge 8, 3) := by decide +kernel
theorem dJ9_abs_0f7a4_4 : decode cJ9_abs_0f7a4 4 = .ok (.iload_n 0, 1) := by decide +kernel
theorem dJ9_abs_0f7a4_5 : decode cJ9_abs_0f7a4 5 = .ok (.ineg, 1) := by decide +kernel
theorem dJ9_abs_0f7a4_6 : decode cJ9_abs_0f7a4 6 = .ok (.goto 4, 3) := by decide +kernel
theorem dJ9_abs_0f7a4_9 : decode cJ9_abs_0f7a4 9 = .ok (.iload_n 0, 1) := by decide +kernel
theorem dJ9_abs_0f7a4_10 : decode cJ9_abs_0f7a4 10 = .ok (.ireturn, 1) := by decide +kernel
theorem dJ9_max_7cf53_0 : decode cJ9_max_7cf53 0 = .ok (.iload_n 0, 1) := by decide +kernel
theorem dJ9_max_7cf53_1 : decode cJ9_max_7cf53 1 = .ok (.iload_n 1, 1) := by decide +kernel
theorem dJ9_max_7cf53_2 : decode cJ9_max_7cf53 2 = .ok (.if_icmp .lt 7, 3) := by decide +kernel
theorem dJ9_max_7cf53_5 : decode cJ9_max_7cf53 5 = .ok (.iload_n 0, 1) := by decide +kernel
theorem dJ9_max_7cf53_6 : decode cJ9_max_7cf53 6 = .ok (.goto 4, 3) := by decide +kernel
theorem dJ9_max_7cf53_9 : decode cJ9_max_7cf53 9 = .ok (.iload_n 1, 1) := by decide +kernel
theorem dJ9_max_7cf53_10 : decode cJ9_max_7cf53 10 = .ok (.ireturn, 1) := by decide +kernel
theorem dJ9_min_7cf53_0 : decode cJ9_min_7cf53 0 = .ok (.iload_n 0, 1) := by decide +kernel
theorem dJ9_min_7cf53_1 : decode cJ9_min_7cf53 1 = .ok (.iload_n 1, 1) := by decide +kernel
theorem dJ9_min_7cf53_2 : decode cJ9_min_7cf53 2 = .ok (.if_icmp .gt 7, 3) := by decide +kernel
theorem dJ9_min_7cf53_5 : decode cJ9_min_7cf53 5 = .ok (.iload_n 0, 1) := by decide +kernel
theorem dJ9_min_7cf53_6 : decode cJ9_min_7cf53 6 = .ok (.goto 4, 3) := by decide +kernel
theorem dJ9_min_7cf53_9 : decode cJ9_min_7cf53 9 = .ok (.iload_n 1, 1) := by decide +kernel
theorem dJ9_min_7cf53_10 : decode cJ9_min_7cf53 10 = .ok (.ireturn, 1) := by decide +kernel
theorem dJ0_length_8abf5_0 : decode cJ0_length_8abf5 0 = .ok (.aload_n 0, 1) := by decide +kernel
theorem dJ0_length_8abf5_1 : decode cJ0_length_8abf5 1 = .ok (.getfield 9, 3) := by decide +kernel
theorem dJ0_length_8abf5_4 : decode cJ0_length_8abf5 4 = .ok (.arraylength, 1) := by decide +kernel
theorem dJ0_length_8abf5_5 : decode cJ0_length_8abf5 5 = .ok (.aload_n 0, 1) := by decide +kernel
theorem dJ0_length_8abf5_6 : decode cJ0_length_8abf5 6 = .ok (.invokevirtual 335, 3) := by decide +kernel
theorem dJ0_length_8abf5_9 : decode cJ0_length_8abf5 9 = .ok (.ishr, 1) := by decide +kernel
theorem dJ0_length_8abf5_10 : decode cJ0_length_8abf5 10 = .ok (.ireturn, 1) := by decide +kernel
theorem dJ0_charAt_5068e_0 : decode cJ0_charAt_5068e 0 = .ok (.aload_n 0, 1) := by decide +kernel
theorem dJ0_charAt_5068e_1 : decode cJ0_charAt_5068e 1 = .ok (.invokevirtual 492, 3) := by decide +kernel
theorem dJ0_charAt_5068e_4 : decode cJ0_charAt_5068e 4 = .ok (.ifCond .eq 12, 3) := by decide +kernel
theorem dJ0_charAt_5068e_7 : decode cJ0_charAt_5068e 7 = .ok (.aload_n 0, 1) := by decide +kernel
theorem dJ0_charAt_5068e_8 : decode cJ0_charAt_5068e 8 = .ok (.getfield 9, 3) := by decide +kernel
theorem dJ0_charAt_5068e_11 : decode cJ0_charAt_5068e 11 = .ok (.iload_n 1, 1) := by decide +kernel
theorem dJ0_charAt_5068e_12 : decode cJ0_charAt_5068e 12 = .ok (.invokestatic 495, 3) := by decide +kernel
theorem dJ0_charAt_5068e_15 : decode cJ0_charAt_5068e 15 = .ok (.ireturn, 1) := by decide +kernel
theorem dJ0_charAt_5068e_16 : decode cJ0_charAt_5068e 16 = .ok (.aload_n 0, 1) := by decide +kernel
theorem dJ0_charAt_5068e_17 : decode cJ0_charAt_5068e 17 = .ok (.getfield 9, 3) := by decide +kernel
theorem dJ0_charAt_5068e_20 : decode cJ0_charAt_5068e 20 = .ok (.iload_n 1, 1) := by decide +kernel
theorem dJ0_charAt_5068e_21 : decode cJ0_charAt_5068e 21 = .ok (.invokestatic 498, 3) := by decide +kernel
theorem dJ0_charAt_5068e_24 : decode cJ0_charAt_5068e 24 = .ok (.ireturn, 1) := by decide +kernel
theorem dJ0_indexOf_0f7a4_0 : decode cJ0_indexOf_0f7a4 0 = .ok (.aload_n 0, 1) := by decide +kernel
theorem dJ0_indexOf_0f7a4_1 : decode cJ0_indexOf_0f7a4 1 = .ok (.iload_n 1, 1) := by decide +kernel
theorem dJ0_indexOf_0f7a4_2 : decode cJ0_indexOf_0f7a4 2 = .ok (.iconst 0, 1) := by decide +kernel
theorem dJ0_indexOf_0f7a4_3 : decode cJ0_indexOf_0f7a4 3 = .ok (.invokevirtual 633, 3) := by decide +kernel
theorem dJ0_indexOf_0f7a4_6 : decode cJ0_indexOf_0f7a4 6 = .ok (.ireturn, 1) := by decide +kernel
theorem dJ0_indexOf_7cf53_0 : decode cJ0_indexOf_7cf53 0 = .ok (.aload_n 0, 1) := by decide +kernel
theorem dJ0_indexOf_7cf53_1 : decode cJ0_indexOf_7cf53 1 = .ok (.invokevirtual 492, 3) := by decide +kernel
theorem dJ0_indexOf_7cf53_4 : decode cJ0_indexOf_7cf53 4 = .ok (.ifCond .eq 19, 3) := by decide +kernel
theorem dJ0_indexOf_7cf53_7 : decode cJ0_indexOf_7cf53 7 = .ok (.aload_n 0, 1) := by decide +kernel
theorem dJ0_indexOf_7cf53_8 : decode cJ0_indexOf_7cf53 8 = .ok (.getfield 9, 3) := by decide +kernel
theorem dJ0_indexOf_7cf53_11 : decode cJ0_indexOf_7cf53 11 = .ok (.iload_n 1, 1) := by decide +kernel
theorem dJ0_indexOf_7cf53_12 : decode cJ0_indexOf_7cf53 12 = .ok (.iload_n 2, 1) := by decide +kernel
theorem dJ0_indexOf_7cf53_13 : decode cJ0_indexOf_7cf53 13 = .ok (.aload_n 0, 1) := by decide +kernel
theorem dJ0_indexOf_7cf53_14 : decode cJ0_indexOf_7cf53 14 = .ok (.invokevirtual 505, 3) := by decide +kernel
theorem dJ0_indexOf_7cf53_17 : decode cJ0_indexOf_7cf53 17 = .ok (.invokestatic 637, 3) := by decide +kernel
theorem dJ0_indexOf_7cf53_20 : decode cJ0_indexOf_7cf53 20 = .ok (.goto 16, 3) := by decide +kernel
theorem dJ0_indexOf_7cf53_23 : decode cJ0_indexOf_7cf53 23 = .ok (.aload_n 0, 1) := by decide +kernel
theorem dJ0_indexOf_7cf53_24 : decode cJ0_indexOf_7cf53 24 = .ok (.getfield 9, 3) := by decide +kernel
theorem dJ0_indexOf_7cf53_27 : decode cJ0_indexOf_7cf53 27 = .ok (.iload_n 1, 1) := by decide +kernel
theorem dJ0_indexOf_7cf53_28 : decode cJ0_indexOf_7cf53 28 = .ok (.iload_n 2, 1) := by decide +kernel
theorem dJ0_indexOf_7cf53_29 : decode cJ0_indexOf_7cf53 29 = .ok (.aload_n 0, 1) := by decide +kernel
theorem dJ0_indexOf_7cf53_30 : decode cJ0_indexOf_7cf53 30 = .ok (.invokevirtual 505, 3) := by decide +kernel
theorem dJ0_indexOf_7cf53_33 : decode cJ0_indexOf_7cf53 33 = .ok (.invokestatic 640, 3) := by decide +kernel
theorem dJ0_indexOf_7cf53_36 : decode cJ0_indexOf_7cf53 36 = .ok (.ireturn, 1) := by decide +kernel
theorem dJ0_coder_7d493_0 : decode cJ0_coder_7d493 0 = .ok (.getstatic 38, 3) := by decide +kernel
theorem dJ0_coder_7d493_3 : decode cJ0_coder_7d493 3 = .ok (.ifCond .eq 10, 3) := by decide +kernel
theorem dJ0_coder_7d493_6 : decode cJ0_coder_7d493 6 = .ok (.aload_n 0, 1) := by decide +kernel
theorem dJ0_coder_7d493_7 : decode cJ0_coder_7d493 7 = .ok (.getfield 15, 3) := by decide +kernel
theorem dJ0_coder_7d493_10 : decode cJ0_coder_7d493 10 = .ok (.goto 4, 3) := by decide +kernel
theorem dJ0_coder_7d493_13 : decode cJ0_coder_7d493 13 = .ok (.iconst 1, 1) := by decide +kernel
theorem dJ0_coder_7d493_14 : decode cJ0_coder_7d493 14 = .ok (.ireturn, 1) := by decide +kernel
theorem dJ0_isLatin1_aae02_0 : decode cJ0_isLatin1_aae02 0 = .ok (.getstatic 38, 3) := by decide +kernel
theorem dJ0_isLatin1_aae02_3 : decode cJ0_isLatin1_aae02 3 = .ok (.ifCond .eq 14, 3) := by decide +kernel
theorem dJ0_isLatin1_aae02_6 : decode cJ0_isLatin1_aae02 6 = .ok (.aload_n 0, 1) := by decide +kernel
theorem dJ0_isLatin1_aae02_7 : decode cJ0_isLatin1_aae02 7 = .ok (.getfield 15, 3) := by decide +kernel
theorem dJ0_isLatin1_aae02_10 : decode cJ0_isLatin1_aae02 10 = .ok (.ifCond .ne 7, 3) := by decide +kernel
theorem dJ0_isLatin1_aae02_13 : decode cJ0_isLatin1_aae02 13 = .ok (.iconst 1, 1) := by decide +kernel
theorem dJ0_isLatin1_aae02_14 : decode cJ0_isLatin1_aae02 14 = .ok (.goto 4, 3) := by decide +kernel
theorem dJ0_isLatin1_aae02_17 : decode cJ0_isLatin1_aae02 17 = .ok (.iconst 0, 1) := by decide +kernel
theorem dJ0_isLatin1_aae02_18 : decode cJ0_isLatin1_aae02 18 = .ok (.ireturn, 1) := by decide +kernel
theorem dJ0_checkIndex_df160_0 : decode cJ0_checkIndex_df160 0 = .ok (.iload_n 0, 1) := by decide +kernel
theorem dJ0_checkIndex_df160_1 : decode cJ0_checkIndex_df160 1 = .ok (.iload_n 1, 1) := by decide +kernel
theorem dJ0_checkIndex_df160_2 : decode cJ0_checkIndex_df160 2 = .ok (.getstatic 1053, 3) := by decide +kernel
theorem dJ0_checkIndex_df160_5 : decode cJ0_checkIndex_df160 5 = .ok (.invokestatic 1059, 3) := by decide +kernel
theorem dJ0_checkIndex_df160_8 : decode cJ0_checkIndex_df160 8 = .ok (.pop, 1) := by decide +kernel
theorem dJ0_checkIndex_df160_9 : decode cJ0_checkIndex_df160 9 = .ok (.return_, 1) := by decide +kernel
theorem dJ0_checkBoundsBeginEnd_23922_0 : decode cJ0_checkBoundsBeginEnd_23922 0 = .ok (.iload_n 0, 1) := by decide +kernel
theorem dJ0_checkBoundsBeginEnd_23922_1 : decode cJ0_checkBoundsBeginEnd_23922 1 = .ok (.iload_n 1, 1) := by decide +kernel
theorem dJ0_checkBoundsBeginEnd_23922_2 : decode cJ0_checkBoundsBeginEnd_23922 2 = .ok (.iload_n 2, 1) := by decide +kernel
theorem dJ0_checkBoundsBeginEnd_23922_3 : decode cJ0_checkBoundsBeginEnd_23922 3 = .ok (.getstatic 1053, 3) := by decide +kernel
theorem dJ0_checkBoundsBeginEnd_23922_6 : decode cJ0_checkBoundsBeginEnd_23922 6 = .ok (.invokestatic 1062, 3) := by decide +kernel
theorem dJ0_checkBoundsBeginEnd_23922_9 : decode cJ0_checkBoundsBeginEnd_23922 9 = .ok (.pop, 1) := by decide +kernel
theorem dJ0_checkBoundsBeginEnd_23922_10 : decode cJ0_checkBoundsBeginEnd_23922 10 = .ok (.return_, 1) := by decide +kernel
theorem dJ1_charAt_3b067_0 : decode cJ1_charAt_3b067 0 = .ok (.iload_n 1, 1) := by decide +kernel
theorem dJ1_charAt_3b067_1 : decode cJ1_charAt_3b067 1 = .ok (.aload_n 0, 1) := by decide +kernel
theorem dJ1_charAt_3b067_2 : decode cJ1_charAt_3b067 2 = .ok (.arraylength, 1) := by decide +kernel
theorem dJ1_charAt_3b067_3 : decode cJ1_charAt_3b067 3 = .ok (.invokestatic 9, 3) := by decide +kernel
theorem dJ1_charAt_3b067_6 : decode cJ1_charAt_3b067 6 = .ok (.aload_n 0, 1) := by decide +kernel
theorem dJ1_charAt_3b067_7 : decode cJ1_charAt_3b067 7 = .ok (.iload_n 1, 1) := by decide +kernel
theorem dJ1_charAt_3b067_8 : decode cJ1_charAt_3b067 8 = .ok (.baload, 1) := by decide +kernel
theorem dJ1_charAt_3b067_9 : decode cJ1_charAt_3b067 9 = .ok (.sipush 255, 3) := by decide +kernel
theorem dJ1_charAt_3b067_12 : decode cJ1_charAt_3b067 12 = .ok (.iand, 1) := by decide +kernel
theorem dJ1_charAt_3b067_13 : decode cJ1_charAt_3b067 13 = .ok (.i2c, 1) := by decide +kernel
theorem dJ1_charAt_3b067_14 : decode cJ1_charAt_3b067 14 = .ok (.ireturn, 1) := by decide +kernel
theorem dJ1_canEncode_9a6ad_0 : decode cJ1_canEncode_9a6ad 0 = .ok (.iload_n 0, 1) := by decide +kernel
theorem dJ1_canEncode_9a6ad_1 : decode cJ1_canEncode_9a6ad 1 = .ok (.ifCond .lt 14, 3) := by decide +kernel
theorem dJ1_canEncode_9a6ad_4 : decode cJ1_canEncode_9a6ad 4 = .ok (.iload_n 0, 1) := by decide +kernel
theorem dJ1_canEncode_9a6ad_5 : decode cJ1_canEncode_9a6ad 5 = .ok (.sipush 255, 3) := by decide +kernel
theorem dJ1_canEncode_9a6ad_8 : decode cJ1_canEncode_9a6ad 8 = .ok (.if_icmp .gt 7, 3) := by decide +kernel
theorem dJ1_canEncode_9a6ad_11 : decode cJ1_canEncode_9a6ad 11 = .ok (.iconst 1, 1) := by decide +kernel
theorem dJ1_canEncode_9a6ad_12 : decode cJ1_canEncode_9a6ad 12 = .ok (.goto 4, 3) := by decide +kernel
theorem dJ1_canEncode_9a6ad_15 : decode cJ1_canEncode_9a6ad 15 = .ok (.iconst 0, 1) := by decide +kernel
theorem dJ1_canEncode_9a6ad_16 : decode cJ1_canEncode_9a6ad 16 = .ok (.ireturn, 1) := by decide +kernel
theorem dJ1_indexOf_4cfef_0 : decode cJ1_indexOf_4cfef 0 = .ok (.iload_n 1, 1) := by decide +kernel
theorem dJ1_indexOf_4cfef_1 : decode cJ1_indexOf_4cfef 1 = .ok (.invokestatic 88, 3) := by decide +kernel
theorem dJ1_indexOf_4cfef_4 : decode cJ1_indexOf_4cfef 4 = .ok (.ifCond .ne 5, 3) := by decide +kernel
theorem dJ1_indexOf_4cfef_7 : decode cJ1_indexOf_4cfef 7 = .ok (.iconst (-1), 1) := by decide +kernel
theorem dJ1_indexOf_4cfef_8 : decode cJ1_indexOf_4cfef 8 = .ok (.ireturn, 1) := by decide +kernel
theorem dJ1_indexOf_4cfef_9 : decode cJ1_indexOf_4cfef 9 = .ok (.iload_n 2, 1) := by decide +kernel
theorem dJ1_indexOf_4cfef_10 : decode cJ1_indexOf_4cfef 10 = .ok (.iconst 0, 1) := by decide +kernel
theorem dJ1_indexOf_4cfef_11 : decode cJ1_indexOf_4cfef 11 = .ok (.invokestatic 92, 3) := by decide +kernel
theorem dJ1_indexOf_4cfef_14 : decode cJ1_indexOf_4cfef 14 = .ok (.istore_n 2, 1) := by decide +kernel
theorem dJ1_indexOf_4cfef_15 : decode cJ1_indexOf_4cfef 15 = .ok (.iload_n 3, 1) := by decide +kernel
theorem dJ1_indexOf_4cfef_16 : decode cJ1_indexOf_4cfef 16 = .ok (.aload_n 0, 1) := by decide +kernel
theorem dJ1_indexOf_4cfef_17 : decode cJ1_indexOf_4cfef 17 = .ok (.arraylength, 1) := by decide +kernel
theorem dJ1_indexOf_4cfef_18 : decode cJ1_indexOf_4cfef 18 = .ok (.invokestatic 38, 3) := by decide +kernel
theorem dJ1_indexOf_4cfef_21 : decode cJ1_indexOf_4cfef 21 = .ok (.istore_n 3, 1) := by decide +kernel
theorem dJ1_indexOf_4cfef_22 : decode cJ1_indexOf_4cfef 22 = .ok (.iload_n 2, 1) := by decide +kernel
theorem dJ1_indexOf_4cfef_23 : decode cJ1_indexOf_4cfef 23 = .ok (.iload_n 3, 1) := by decide +kernel
theorem dJ1_indexOf_4cfef_24 : decode cJ1_indexOf_4cfef 24 = .ok (.if_icmp .lt 5, 3) := by decide +kernel
theorem dJ1_indexOf_4cfef_27 : decode cJ1_indexOf_4cfef 27 = .ok (.iconst (-1), 1) := by decide +kernel
theorem dJ1_indexOf_4cfef_28 : decode cJ1_indexOf_4cfef 28 = .ok (.ireturn, 1) := by decide +kernel
theorem dJ1_indexOf_4cfef_29 : decode cJ1_indexOf_4cfef 29 = .ok (.aload_n 0, 1) := by decide +kernel
theorem dJ1_indexOf_4cfef_30 : decode cJ1_indexOf_4cfef 30 = .ok (.iload_n 1, 1) := by decide +kernel
theorem dJ1_indexOf_4cfef_31 : decode cJ1_indexOf_4cfef 31 = .ok (.iload_n 2, 1) := by decide +kernel
theorem dJ1_indexOf_4cfef_32 : decode cJ1_indexOf_4cfef 32 = .ok (.iload_n 3, 1) := by decide +kernel
theorem dJ1_indexOf_4cfef_33 : decode cJ1_indexOf_4cfef 33 = .ok (.invokestatic 95, 3) := by decide +kernel
theorem dJ1_indexOf_4cfef_36 : decode cJ1_indexOf_4cfef 36 = .ok (.ireturn, 1) := by decide +kernel
theorem dJ1_indexOfChar_4cfef_0 : decode cJ1_indexOfChar_4cfef 0 = .ok (.iload_n 1, 1) := by decide +kernel
theorem dJ1_indexOfChar_4cfef_1 : decode cJ1_indexOfChar_4cfef 1 = .ok (.i2b, 1) := by decide +kernel
theorem dJ1_indexOfChar_4cfef_2 : decode cJ1_indexOfChar_4cfef 2 = .ok (.istore 4, 2) := by decide +kernel
theorem dJ1_indexOfChar_4cfef_4 : decode cJ1_indexOfChar_4cfef 4 = .ok (.iload_n 2, 1) := by decide +kernel
theorem dJ1_indexOfChar_4cfef_5 : decode cJ1_indexOfChar_4cfef 5 = .ok (.istore 5, 2) := by decide +kernel
theorem dJ1_indexOfChar_4cfef_7 : decode cJ1_indexOfChar_4cfef 7 = .ok (.iload 5, 2) := by decide +kernel
theorem dJ1_indexOfChar_4cfef_9 : decode cJ1_indexOfChar_4cfef 9 = .ok (.iload_n 3, 1) := by decide +kernel
theorem dJ1_indexOfChar_4cfef_10 : decode cJ1_indexOfChar_4cfef 10 = .ok (.if_icmp .ge 21, 3) := by decide +kernel
theorem dJ1_indexOfChar_4cfef_13 : decode cJ1_indexOfChar_4cfef 13 = .ok (.aload_n 0, 1) := by decide +kernel
theorem dJ1_indexOfChar_4cfef_14 : decode cJ1_indexOfChar_4cfef 14 = .ok (.iload 5, 2) := by decide +kernel
theorem dJ1_indexOfChar_4cfef_16 : decode cJ1_indexOfChar_4cfef 16 = .ok (.baload, 1) := by decide +kernel
theorem dJ1_indexOfChar_4cfef_17 : decode cJ1_indexOfChar_4cfef 17 = .ok (.iload 4, 2) := by decide +kernel
theorem dJ1_indexOfChar_4cfef_19 : decode cJ1_indexOfChar_4cfef 19 = .ok (.if_icmp .ne 6, 3) := by decide +kernel
theorem dJ1_indexOfChar_4cfef_22 : decode cJ1_indexOfChar_4cfef 22 = .ok (.iload 5, 2) := by decide +kernel
theorem dJ1_indexOfChar_4cfef_24 : decode cJ1_indexOfChar_4cfef 24 = .ok (.ireturn, 1) := by decide +kernel
theorem dJ1_indexOfChar_4cfef_25 : decode cJ1_indexOfChar_4cfef 25 = .ok (.iinc 5 1, 3) := by decide +kernel
theorem dJ1_indexOfChar_4cfef_28 : decode cJ1_indexOfChar_4cfef 28 = .ok (.goto (-21), 3) := by decide +kernel
theorem dJ1_indexOfChar_4cfef_31 : decode cJ1_indexOfChar_4cfef 31 = .ok (.iconst (-1), 1) := by decide +kernel
theorem dJ1_indexOfChar_4cfef_32 : decode cJ1_indexOfChar_4cfef 32 = .ok (.ireturn, 1) := by decide +kernel
theorem dJ2_getChar_3b067_0 : decode cJ2_getChar_3b067 0 = .ok (.getstatic 44, 3) := by decide +kernel
theorem dJ2_getChar_3b067_3 : decode cJ2_getChar_3b067 3 = .ok (.ifCond .ne 25, 3) := by decide +kernel
theorem dJ2_getChar_3b067_6 : decode cJ2_getChar_3b067 6 = .ok (.iload_n 1, 1) := by decide +kernel
theorem dJ2_getChar_3b067_7 : decode cJ2_getChar_3b067 7 = .ok (.ifCond .lt 11, 3) := by decide +kernel
theorem dJ2_getChar_3b067_10 : decode cJ2_getChar_3b067 10 = .ok (.iload_n 1, 1) := by decide +kernel
theorem dJ2_getChar_3b067_11 : decode cJ2_getChar_3b067 11 = .ok (.aload_n 0, 1) := by decide +kernel
theorem dJ2_getChar_3b067_12 : decode cJ2_getChar_3b067 12 = .ok (.invokestatic 48, 3) := by decide +kernel
theorem dJ2_getChar_3b067_15 : decode cJ2_getChar_3b067 15 = .ok (.if_icmp .lt 13, 3) := by decide +kernel
theorem dJ2_getChar_3b067_18 : decode cJ2_getChar_3b067 18 = .ok (.new 52, 3) := by decide +kernel
theorem dJ2_getChar_3b067_21 : decode cJ2_getChar_3b067 21 = .ok (.dup, 1) := by decide +kernel
theorem dJ2_getChar_3b067_22 : decode cJ2_getChar_3b067 22 = .ok (.ldc 54, 2) := by decide +kernel
theorem dJ2_getChar_3b067_24 : decode cJ2_getChar_3b067 24 = .ok (.invokespecial 56, 3) := by decide +kernel
theorem dJ2_getChar_3b067_27 : decode cJ2_getChar_3b067 27 = .ok (.athrow, 1) := by decide +kernel
theorem dJ2_getChar_3b067_28 : decode cJ2_getChar_3b067 28 = .ok (.iload_n 1, 1) := by decide +kernel
theorem dJ2_getChar_3b067_29 : decode cJ2_getChar_3b067 29 = .ok (.iconst 1, 1) := by decide +kernel
theorem dJ2_getChar_3b067_30 : decode cJ2_getChar_3b067 30 = .ok (.ishl, 1) := by decide +kernel
theorem dJ2_getChar_3b067_31 : decode cJ2_getChar_3b067 31 = .ok (.istore_n 1, 1) := by decide +kernel
theorem dJ2_getChar_3b067_32 : decode cJ2_getChar_3b067 32 = .ok (.aload_n 0, 1) := by decide +kernel
theorem dJ2_getChar_3b067_33 : decode cJ2_getChar_3b067 33 = .ok (.iload_n 1, 1) := by decide +kernel
theorem dJ2_getChar_3b067_34 : decode cJ2_getChar_3b067 34 = .ok (.iinc 1 1, 3) := by decide +kernel
theorem dJ2_getChar_3b067_37 : decode cJ2_getChar_3b067 37 = .ok (.baload, 1) := by decide +kernel
theorem dJ2_getChar_3b067_38 : decode cJ2_getChar_3b067 38 = .ok (.sipush 255, 3) := by decide +kernel
theorem dJ2_getChar_3b067_41 : decode cJ2_getChar_3b067 41 = .ok (.iand, 1) := by decide +kernel
theorem dJ2_getChar_3b067_42 : decode cJ2_getChar_3b067 42 = .ok (.getstatic 59, 3) := by decide +kernel
theorem dJ2_getChar_3b067_45 : decode cJ2_getChar_3b067 45 = .ok (.ishl, 1) := by decide +kernel
theorem dJ2_getChar_3b067_46 : decode cJ2_getChar_3b067 46 = .ok (.aload_n 0, 1) := by decide +kernel
theorem dJ2_getChar_3b067_47 : decode cJ2_getChar_3b067 47 = .ok (.iload_n 1, 1) := by decide +kernel
theorem dJ2_getChar_3b067_48 : decode cJ2_getChar_3b067 48 = .ok (.baload, 1) := by decide +kernel
theorem dJ2_getChar_3b067_49 : decode cJ2_getChar_3b067 49 = .ok (.sipush 255, 3) := by decide +kernel
theorem dJ2_getChar_3b067_52 : decode cJ2_getChar_3b067 52 = .ok (.iand, 1) := by decide +kernel
theorem dJ2_getChar_3b067_53 : decode cJ2_getChar_3b067 53 = .ok (.getstatic 63, 3) := by decide +kernel
theorem dJ2_getChar_3b067_56 : decode cJ2_getChar_3b067 56 = .ok (.ishl, 1) := by decide +kernel
theorem dJ2_getChar_3b067_57 : decode cJ2_getChar_3b067 57 = .ok (.ior, 1) := by decide +kernel
theorem dJ2_getChar_3b067_58 : decode cJ2_getChar_3b067 58 = .ok (.i2c, 1) := by decide +kernel
theorem dJ2_getChar_3b067_59 : decode cJ2_getChar_3b067 59 = .ok (.ireturn, 1) := by decide +kernel
theorem dJ2_length_9d52b_0 : decode cJ2_length_9d52b 0 = .ok (.aload_n 0, 1) := by decide +kernel
theorem dJ2_length_9d52b_1 : decode cJ2_length_9d52b 1 = .ok (.arraylength, 1) := by decide +kernel
theorem dJ2_length_9d52b_2 : decode cJ2_length_9d52b 2 = .ok (.iconst 1, 1) := by decide +kernel
theorem dJ2_length_9d52b_3 : decode cJ2_length_9d52b 3 = .ok (.ishr, 1) := by decide +kernel
theorem dJ2_length_9d52b_4 : decode cJ2_length_9d52b 4 = .ok (.ireturn, 1) := by decide +kernel
theorem dJ2_indexOf_4cfef_0 : decode cJ2_indexOf_4cfef 0 = .ok (.iload_n 2, 1) := by decide +kernel
theorem dJ2_indexOf_4cfef_1 : decode cJ2_indexOf_4cfef 1 = .ok (.iconst 0, 1) := by decide +kernel
theorem dJ2_indexOf_4cfef_2 : decode cJ2_indexOf_4cfef 2 = .ok (.invokestatic 224, 3) := by decide +kernel
theorem dJ2_indexOf_4cfef_5 : decode cJ2_indexOf_4cfef 5 = .ok (.istore_n 2, 1) := by decide +kernel
theorem dJ2_indexOf_4cfef_6 : decode cJ2_indexOf_4cfef 6 = .ok (.iload_n 3, 1) := by decide +kernel
theorem dJ2_indexOf_4cfef_7 : decode cJ2_indexOf_4cfef 7 = .ok (.aload_n 0, 1) := by decide +kernel
theorem dJ2_indexOf_4cfef_8 : decode cJ2_indexOf_4cfef 8 = .ok (.arraylength, 1) := by decide +kernel
theorem dJ2_indexOf_4cfef_9 : decode cJ2_indexOf_4cfef 9 = .ok (.iconst 1, 1) := by decide +kernel
theorem dJ2_indexOf_4cfef_10 : decode cJ2_indexOf_4cfef 10 = .ok (.ishr, 1) := by decide +kernel
theorem dJ2_indexOf_4cfef_11 : decode cJ2_indexOf_4cfef 11 = .ok (.invokestatic 183, 3) := by decide +kernel
theorem dJ2_indexOf_4cfef_14 : decode cJ2_indexOf_4cfef 14 = .ok (.istore_n 3, 1) := by decide +kernel
theorem dJ2_indexOf_4cfef_15 : decode cJ2_indexOf_4cfef 15 = .ok (.iload_n 2, 1) := by decide +kernel
theorem dJ2_indexOf_4cfef_16 : decode cJ2_indexOf_4cfef 16 = .ok (.iload_n 3, 1) := by decide +kernel
theorem dJ2_indexOf_4cfef_17 : decode cJ2_indexOf_4cfef 17 = .ok (.if_icmp .lt 5, 3) := by decide +kernel
theorem dJ2_indexOf_4cfef_20 : decode cJ2_indexOf_4cfef 20 = .ok (.iconst (-1), 1) := by decide +kernel
theorem dJ2_indexOf_4cfef_21 : decode cJ2_indexOf_4cfef 21 = .ok (.ireturn, 1) := by decide +kernel
theorem dJ2_indexOf_4cfef_22 : decode cJ2_indexOf_4cfef 22 = .ok (.iload_n 1, 1) := by decide +kernel
theorem dJ2_indexOf_4cfef_23 : decode cJ2_indexOf_4cfef 23 = .ok (.ldc 227, 2) := by decide +kernel
theorem dJ2_indexOf_4cfef_25 : decode cJ2_indexOf_4cfef 25 = .ok (.if_icmp .ge 11, 3) := by decide +kernel
theorem dJ2_indexOf_4cfef_28 : decode cJ2_indexOf_4cfef 28 = .ok (.aload_n 0, 1) := by decide +kernel
theorem dJ2_indexOf_4cfef_29 : decode cJ2_indexOf_4cfef 29 = .ok (.iload_n 1, 1) := by decide +kernel
theorem dJ2_indexOf_4cfef_30 : decode cJ2_indexOf_4cfef 30 = .ok (.iload_n 2, 1) := by decide +kernel
theorem dJ2_indexOf_4cfef_31 : decode cJ2_indexOf_4cfef 31 = .ok (.iload_n 3, 1) := by decide +kernel
theorem dJ2_indexOf_4cfef_32 : decode cJ2_indexOf_4cfef 32 = .ok (.invokestatic 228, 3) := by decide +kernel
theorem dJ2_indexOf_4cfef_35 : decode cJ2_indexOf_4cfef 35 = .ok (.ireturn, 1) := by decide +kernel
theorem dJ2_indexOf_4cfef_36 : decode cJ2_indexOf_4cfef 36 = .ok (.aload_n 0, 1) := by decide +kernel
theorem dJ2_indexOf_4cfef_37 : decode cJ2_indexOf_4cfef 37 = .ok (.iload_n 1, 1) := by decide +kernel
theorem dJ2_indexOf_4cfef_38 : decode cJ2_indexOf_4cfef 38 = .ok (.iload_n 2, 1) := by decide +kernel
theorem dJ2_indexOf_4cfef_39 : decode cJ2_indexOf_4cfef 39 = .ok (.iload_n 3, 1) := by decide +kernel
theorem dJ2_indexOf_4cfef_40 : decode cJ2_indexOf_4cfef 40 = .ok (.invokestatic 232, 3) := by decide +kernel
theorem dJ2_indexOf_4cfef_43 : decode cJ2_indexOf_4cfef 43 = .ok (.ireturn, 1) := by decide +kernel
theorem dJ2_indexOfChar_4cfef_0 : decode cJ2_indexOfChar_4cfef 0 = .ok (.iload_n 2, 1) := by decide +kernel
theorem dJ2_indexOfChar_4cfef_1 : decode cJ2_indexOfChar_4cfef 1 = .ok (.iload_n 3, 1) := by decide +kernel
theorem dJ2_indexOfChar_4cfef_2 : decode cJ2_indexOfChar_4cfef 2 = .ok (.aload_n 0, 1) := by decide +kernel
theorem dJ2_indexOfChar_4cfef_3 : decode cJ2_indexOfChar_4cfef 3 = .ok (.invokestatic 96, 3) := by decide +kernel
theorem dJ2_indexOfChar_4cfef_6 : decode cJ2_indexOfChar_4cfef 6 = .ok (.aload_n 0, 1) := by decide +kernel
theorem dJ2_indexOfChar_4cfef_7 : decode cJ2_indexOfChar_4cfef 7 = .ok (.iload_n 1, 1) := by decide +kernel
theorem dJ2_indexOfChar_4cfef_8 : decode cJ2_indexOfChar_4cfef 8 = .ok (.iload_n 2, 1) := by decide +kernel
theorem dJ2_indexOfChar_4cfef_9 : decode cJ2_indexOfChar_4cfef 9 = .ok (.iload_n 3, 1) := by decide +kernel
theorem dJ2_indexOfChar_4cfef_10 : decode cJ2_indexOfChar_4cfef 10 = .ok (.invokestatic 244, 3) := by decide +kernel
theorem dJ2_indexOfChar_4cfef_13 : decode cJ2_indexOfChar_4cfef 13 = .ok (.ireturn, 1) := by decide +kernel
theorem dJ2_indexOfCharUnsafe_4cfef_0 : decode cJ2_indexOfCharUnsafe_4cfef 0 = .ok (.iload_n 2, 1) := by decide +kernel
theorem dJ2_indexOfCharUnsafe_4cfef_1 : decode cJ2_indexOfCharUnsafe_4cfef 1 = .ok (.istore 4, 2) := by decide +kernel
theorem dJ2_indexOfCharUnsafe_4cfef_3 : decode cJ2_indexOfCharUnsafe_4cfef 3 = .ok (.iload 4, 2) := by decide +kernel
theorem dJ2_indexOfCharUnsafe_4cfef_5 : decode cJ2_indexOfCharUnsafe_4cfef 5 = .ok (.iload_n 3, 1) := by decide +kernel
theorem dJ2_indexOfCharUnsafe_4cfef_6 : decode cJ2_indexOfCharUnsafe_4cfef 6 = .ok (.if_icmp .ge 22, 3) := by decide +kernel
theorem dJ2_indexOfCharUnsafe_4cfef_9 : decode cJ2_indexOfCharUnsafe_4cfef 9 = .ok (.aload_n 0, 1) := by decide +kernel
theorem dJ2_indexOfCharUnsafe_4cfef_10 : decode cJ2_indexOfCharUnsafe_4cfef 10 = .ok (.iload 4, 2) := by decide +kernel
theorem dJ2_indexOfCharUnsafe_4cfef_12 : decode cJ2_indexOfCharUnsafe_4cfef 12 = .ok (.invokestatic 71, 3) := by decide +kernel
theorem dJ2_indexOfCharUnsafe_4cfef_15 : decode cJ2_indexOfCharUnsafe_4cfef 15 = .ok (.iload_n 1, 1) := by decide +kernel
theorem dJ2_indexOfCharUnsafe_4cfef_16 : decode cJ2_indexOfCharUnsafe_4cfef 16 = .ok (.if_icmp .ne 6, 3) := by decide +kernel
theorem dJ2_indexOfCharUnsafe_4cfef_19 : decode cJ2_indexOfCharUnsafe_4cfef 19 = .ok (.iload 4, 2) := by decide +kernel
theorem dJ2_indexOfCharUnsafe_4cfef_21 : decode cJ2_indexOfCharUnsafe_4cfef 21 = .ok (.ireturn, 1) := by decide +kernel
theorem dJ2_indexOfCharUnsafe_4cfef_22 : decode cJ2_indexOfCharUnsafe_4cfef 22 = .ok (.iinc 4 1, 3) := by decide +kernel
theorem dJ2_indexOfCharUnsafe_4cfef_25 : decode cJ2_indexOfCharUnsafe_4cfef 25 = .ok (.goto (-22), 3) := by decide +kernel
theorem dJ2_indexOfCharUnsafe_4cfef_28 : decode cJ2_indexOfCharUnsafe_4cfef 28 = .ok (.iconst (-1), 1) := by decide +kernel
theorem dJ2_indexOfCharUnsafe_4cfef_29 : decode cJ2_indexOfCharUnsafe_4cfef 29 = .ok (.ireturn, 1) := by decide +kernel
theorem dJ2_indexOfSupplementary_4cfef_0 : decode cJ2_indexOfSupplementary_4cfef 0 = .ok (.iload_n 1, 1) := by decide +kernel
theorem dJ2_indexOfSupplementary_4cfef_1 : decode cJ2_indexOfSupplementary_4cfef 1 = .ok (.invokestatic 164, 3) := by decide +kernel
theorem dJ2_indexOfSupplementary_4cfef_4 : decode cJ2_indexOfSupplementary_4cfef 4 = .ok (.ifCond .eq 65, 3) := by decide +kernel
theorem dJ2_indexOfSupplementary_4cfef_7 : decode cJ2_indexOfSupplementary_4cfef 7 = .ok (.iload_n 1, 1) := by decide +kernel
theorem dJ2_indexOfSupplementary_4cfef_8 : decode cJ2_indexOfSupplementary_4cfef 8 = .ok (.invokestatic 157, 3) := by decide +kernel
theorem dJ2_indexOfSupplementary_4cfef_11 : decode cJ2_indexOfSupplementary_4cfef 11 = .ok (.istore 4, 2) := by decide +kernel
theorem dJ2_indexOfSupplementary_4cfef_13 : decode cJ2_indexOfSupplementary_4cfef 13 = .ok (.iload_n 1, 1) := by decide +kernel
theorem dJ2_indexOfSupplementary_4cfef_14 : decode cJ2_indexOfSupplementary_4cfef 14 = .ok (.invokestatic 161, 3) := by decide +kernel
theorem dJ2_indexOfSupplementary_4cfef_17 : decode cJ2_indexOfSupplementary_4cfef 17 = .ok (.istore 5, 2) := by decide +kernel
theorem dJ2_indexOfSupplementary_4cfef_19 : decode cJ2_indexOfSupplementary_4cfef 19 = .ok (.iload_n 2, 1) := by decide +kernel
theorem dJ2_indexOfSupplementary_4cfef_20 : decode cJ2_indexOfSupplementary_4cfef 20 = .ok (.iload_n 3, 1) := by decide +kernel
theorem dJ2_indexOfSupplementary_4cfef_21 : decode cJ2_indexOfSupplementary_4cfef 21 = .ok (.aload_n 0, 1) := by decide +kernel
theorem dJ2_indexOfSupplementary_4cfef_22 : decode cJ2_indexOfSupplementary_4cfef 22 = .ok (.invokestatic 96, 3) := by decide +kernel
theorem dJ2_indexOfSupplementary_4cfef_25 : decode cJ2_indexOfSupplementary_4cfef 25 = .ok (.iload_n 2, 1) := by decide +kernel
theorem dJ2_indexOfSupplementary_4cfef_26 : decode cJ2_indexOfSupplementary_4cfef 26 = .ok (.istore 6, 2) := by decide +kernel
theorem dJ2_indexOfSupplementary_4cfef_28 : decode cJ2_indexOfSupplementary_4cfef 28 = .ok (.iload 6, 2) := by decide +kernel
theorem dJ2_indexOfSupplementary_4cfef_30 : decode cJ2_indexOfSupplementary_4cfef 30 = .ok (.iload_n 3, 1) := by decide +kernel
theorem dJ2_indexOfSupplementary_4cfef_31 : decode cJ2_indexOfSupplementary_4cfef 31 = .ok (.iconst 1, 1) := by decide +kernel
theorem dJ2_indexOfSupplementary_4cfef_32 : decode cJ2_indexOfSupplementary_4cfef 32 = .ok (.isub, 1) := by decide +kernel
theorem dJ2_indexOfSupplementary_4cfef_33 : decode cJ2_indexOfSupplementary_4cfef 33 = .ok (.if_icmp .ge 36, 3) := by decide +kernel
theorem dJ2_indexOfSupplementary_4cfef_36 : decode cJ2_indexOfSupplementary_4cfef 36 = .ok (.aload_n 0, 1) := by decide +kernel
theorem dJ2_indexOfSupplementary_4cfef_37 : decode cJ2_indexOfSupplementary_4cfef 37 = .ok (.iload 6, 2) := by decide +kernel
theorem dJ2_indexOfSupplementary_4cfef_39 : decode cJ2_indexOfSupplementary_4cfef 39 = .ok (.invokestatic 71, 3) := by decide +kernel
theorem dJ2_indexOfSupplementary_4cfef_42 : decode cJ2_indexOfSupplementary_4cfef 42 = .ok (.iload 4, 2) := by decide +kernel
theorem dJ2_indexOfSupplementary_4cfef_44 : decode cJ2_indexOfSupplementary_4cfef 44 = .ok (.if_icmp .ne 19, 3) := by decide +kernel
theorem dJ2_indexOfSupplementary_4cfef_47 : decode cJ2_indexOfSupplementary_4cfef 47 = .ok (.aload_n 0, 1) := by decide +kernel
theorem dJ2_indexOfSupplementary_4cfef_48 : decode cJ2_indexOfSupplementary_4cfef 48 = .ok (.iload 6, 2) := by decide +kernel
theorem dJ2_indexOfSupplementary_4cfef_50 : decode cJ2_indexOfSupplementary_4cfef 50 = .ok (.iconst 1, 1) := by decide +kernel
theorem dJ2_indexOfSupplementary_4cfef_51 : decode cJ2_indexOfSupplementary_4cfef 51 = .ok (.iadd, 1) := by decide +kernel
theorem dJ2_indexOfSupplementary_4cfef_52 : decode cJ2_indexOfSupplementary_4cfef 52 = .ok (.invokestatic 71, 3) := by decide +kernel
theorem dJ2_indexOfSupplementary_4cfef_55 : decode cJ2_indexOfSupplementary_4cfef 55 = .ok (.iload 5, 2) := by decide +kernel
theorem dJ2_indexOfSupplementary_4cfef_57 : decode cJ2_indexOfSupplementary_4cfef 57 = .ok (.if_icmp .ne 6, 3) := by decide +kernel
theorem dJ2_indexOfSupplementary_4cfef_60 : decode cJ2_indexOfSupplementary_4cfef 60 = .ok (.iload 6, 2) := by decide +kernel
theorem dJ2_indexOfSupplementary_4cfef_62 : decode cJ2_indexOfSupplementary_4cfef 62 = .ok (.ireturn, 1) := by decide +kernel
theorem dJ2_indexOfSupplementary_4cfef_63 : decode cJ2_indexOfSupplementary_4cfef 63 = .ok (.iinc 6 1, 3) := by decide +kernel
theorem dJ2_indexOfSupplementary_4cfef_66 : decode cJ2_indexOfSupplementary_4cfef 66 = .ok (.goto (-38), 3) := by decide +kernel
theorem dJ2_indexOfSupplementary_4cfef_69 : decode cJ2_indexOfSupplementary_4cfef 69 = .ok (.iconst (-1), 1) := by decide +kernel
theorem dJ2_indexOfSupplementary_4cfef_70 : decode cJ2_indexOfSupplementary_4cfef 70 = .ok (.ireturn, 1) := by decide +kernel
theorem dJ2_charAt_3b067_0 : decode cJ2_charAt_3b067 0 = .ok (.iload_n 1, 1) := by decide +kernel
theorem dJ2_charAt_3b067_1 : decode cJ2_charAt_3b067 1 = .ok (.aload_n 0, 1) := by decide +kernel
theorem dJ2_charAt_3b067_2 : decode cJ2_charAt_3b067 2 = .ok (.invokestatic 67, 3) := by decide +kernel
theorem dJ2_charAt_3b067_5 : decode cJ2_charAt_3b067 5 = .ok (.aload_n 0, 1) := by decide +kernel
theorem dJ2_charAt_3b067_6 : decode cJ2_charAt_3b067 6 = .ok (.iload_n 1, 1) := by decide +kernel
theorem dJ2_charAt_3b067_7 : decode cJ2_charAt_3b067 7 = .ok (.invokestatic 71, 3) := by decide +kernel
theorem dJ2_charAt_3b067_10 : decode cJ2_charAt_3b067 10 = .ok (.ireturn, 1) := by decide +kernel
theorem dJ2_checkIndex_2214a_0 : decode cJ2_checkIndex_2214a 0 = .ok (.iload_n 0, 1) := by decide +kernel
theorem dJ2_checkIndex_2214a_1 : decode cJ2_checkIndex_2214a 1 = .ok (.aload_n 1, 1) := by decide +kernel
theorem dJ2_checkIndex_2214a_2 : decode cJ2_checkIndex_2214a 2 = .ok (.invokestatic 48, 3) := by decide +kernel
theorem dJ2_checkIndex_2214a_5 : decode cJ2_checkIndex_2214a 5 = .ok (.invokestatic 414, 3) := by decide +kernel
theorem dJ2_checkIndex_2214a_8 : decode cJ2_checkIndex_2214a 8 = .ok (.return_, 1) := by decide +kernel
theorem dJ2_checkBoundsBeginEnd_d044e_0 : decode cJ2_checkBoundsBeginEnd_d044e 0 = .ok (.iload_n 0, 1) := by decide +kernel
theorem dJ2_checkBoundsBeginEnd_d044e_1 : decode cJ2_checkBoundsBeginEnd_d044e 1 = .ok (.iload_n 1, 1) := by decide +kernel
theorem dJ2_checkBoundsBeginEnd_d044e_2 : decode cJ2_checkBoundsBeginEnd_d044e 2 = .ok (.aload_n 2, 1) := by decide +kernel
theorem dJ2_checkBoundsBeginEnd_d044e_3 : decode cJ2_checkBoundsBeginEnd_d044e 3 = .ok (.invokestatic 48, 3) := by decide +kernel
theorem dJ2_checkBoundsBeginEnd_d044e_6 : decode cJ2_checkBoundsBeginEnd_d044e 6 = .ok (.invokestatic 241, 3) := by decide +kernel
theorem dJ2_checkBoundsBeginEnd_d044e_9 : decode cJ2_checkBoundsBeginEnd_d044e 9 = .ok (.return_, 1) := by decide +kernel
theorem dJ3_checkIndex_8e157_0 : decode cJ3_checkIndex_8e157 0 = .ok (.iload_n 0, 1) := by decide +kernel
theorem dJ3_checkIndex_8e157_1 : decode cJ3_checkIndex_8e157 1 = .ok (.ifCond .lt 8, 3) := by decide +kernel
theorem dJ3_checkIndex_8e157_4 : decode cJ3_checkIndex_8e157 4 = .ok (.iload_n 0, 1) := by decide +kernel
theorem dJ3_checkIndex_8e157_5 : decode cJ3_checkIndex_8e157 5 = .ok (.iload_n 1, 1) := by decide +kernel
theorem dJ3_checkIndex_8e157_6 : decode cJ3_checkIndex_8e157 6 = .ok (.if_icmp .lt 10, 3) := by decide +kernel
theorem dJ3_checkIndex_8e157_9 : decode cJ3_checkIndex_8e157 9 = .ok (.aload_n 2, 1) := by decide +kernel
theorem dJ3_checkIndex_8e157_10 : decode cJ3_checkIndex_8e157 10 = .ok (.iload_n 0, 1) := by decide +kernel
theorem dJ3_checkIndex_8e157_11 : decode cJ3_checkIndex_8e157 11 = .ok (.iload_n 1, 1) := by decide +kernel
theorem dJ3_checkIndex_8e157_12 : decode cJ3_checkIndex_8e157 12 = .ok (.invokestatic 95, 3) := by decide +kernel
theorem dJ3_checkIndex_8e157_15 : decode cJ3_checkIndex_8e157 15 = .ok (.athrow, 1) := by decide +kernel
theorem dJ3_checkIndex_8e157_16 : decode cJ3_checkIndex_8e157 16 = .ok (.iload_n 0, 1) := by decide +kernel
theorem dJ3_checkIndex_8e157_17 : decode cJ3_checkIndex_8e157 17 = .ok (.ireturn, 1) := by decide +kernel
theorem dJ3_checkFromToIndex_8c36e_0 : decode cJ3_checkFromToIndex_8c36e 0 = .ok (.iload_n 0, 1) := by decide +kernel
theorem dJ3_checkFromToIndex_8c36e_1 : decode cJ3_checkFromToIndex_8c36e 1 = .ok (.ifCond .lt 13, 3) := by decide +kernel
theorem dJ3_checkFromToIndex_8c36e_4 : decode cJ3_checkFromToIndex_8c36e 4 = .ok (.iload_n 0, 1) := by decide +kernel
theorem dJ3_checkFromToIndex_8c36e_5 : decode cJ3_checkFromToIndex_8c36e 5 = .ok (.iload_n 1, 1) := by decide +kernel
theorem dJ3_checkFromToIndex_8c36e_6 : decode cJ3_checkFromToIndex_8c36e 6 = .ok (.if_icmp .gt 8, 3) := by decide +kernel
theorem dJ3_checkFromToIndex_8c36e_9 : decode cJ3_checkFromToIndex_8c36e 9 = .ok (.iload_n 1, 1) := by decide +kernel
theorem dJ3_checkFromToIndex_8c36e_10 : decode cJ3_checkFromToIndex_8c36e 10 = .ok (.iload_n 2, 1) := by decide +kernel
theorem dJ3_checkFromToIndex_8c36e_11 : decode cJ3_checkFromToIndex_8c36e 11 = .ok (.if_icmp .le 11, 3) := by decide +kernel
theorem dJ3_checkFromToIndex_8c36e_14 : decode cJ3_checkFromToIndex_8c36e 14 = .ok (.aload_n 3, 1) := by decide +kernel
theorem dJ3_checkFromToIndex_8c36e_15 : decode cJ3_checkFromToIndex_8c36e 15 = .ok (.iload_n 0, 1) := by decide +kernel
theorem dJ3_checkFromToIndex_8c36e_16 : decode cJ3_checkFromToIndex_8c36e 16 = .ok (.iload_n 1, 1) := by decide +kernel
theorem dJ3_checkFromToIndex_8c36e_17 : decode cJ3_checkFromToIndex_8c36e 17 = .ok (.iload_n 2, 1) := by decide +kernel
theorem dJ3_checkFromToIndex_8c36e_18 : decode cJ3_checkFromToIndex_8c36e 18 = .ok (.invokestatic 99, 3) := by decide +kernel
theorem dJ3_checkFromToIndex_8c36e_21 : decode cJ3_checkFromToIndex_8c36e 21 = .ok (.athrow, 1) := by decide +kernel
theorem dJ3_checkFromToIndex_8c36e_22 : decode cJ3_checkFromToIndex_8c36e 22 = .ok (.iload_n 0, 1) := by decide +kernel
theorem dJ3_checkFromToIndex_8c36e_23 : decode cJ3_checkFromToIndex_8c36e 23 = .ok (.ireturn, 1) := by decide +kernel
