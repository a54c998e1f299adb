theorem dX0_init_0 : decode cX0_init 0 = .ok (.aload_n 0, 1) := by decide +kernel
theorem dX0_init_1 : decode cX0_init 1 = .ok (.invokespecial 3, 3) := by decide +kernel
theorem dX0_init_4 : decode cX0_init 4 = .ok (.aload_n 0, 1) := by decide +kernel
theorem dX0_init_5 : decode cX0_init 5 = .ok (.bipush 7, 2) := by decide +kernel
theorem dX0_init_7 : decode cX0_init 7 = .ok (.newarray .int, 2) := by decide +kernel
theorem dX0_init_9 : decode cX0_init 9 = .ok (.putfield 9, 3) := by decide +kernel
theorem dX0_init_12 : decode cX0_init 12 = .ok (.aload_n 0, 1) := by decide +kernel
theorem dX0_init_13 : decode cX0_init 13 = .ok (.aload_n 1, 1) := by decide +kernel
theorem dX0_init_14 : decode cX0_init 14 = .ok (.putfield 15, 3) := by decide +kernel
theorem dX0_init_17 : decode cX0_init 17 = .ok (.return_, 1) := by decide +kernel
theorem dX0_isRound_0 : decode cX0_isRound 0 = .ok (.aload_n 1, 1) := by decide +kernel
theorem dX0_isRound_1 : decode cX0_isRound 1 = .ok (.getfield 19, 3) := by decide +kernel
theorem dX0_isRound_4 : decode cX0_isRound 4 = .ok (.aload_n 0, 1) := by decide +kernel
theorem dX0_isRound_5 : decode cX0_isRound 5 = .ok (.getfield 15, 3) := by decide +kernel
theorem dX0_isRound_8 : decode cX0_isRound 8 = .ok (.getfield 25, 3) := by decide +kernel
theorem dX0_isRound_11 : decode cX0_isRound 11 = .ok (.if_icmp .lt 7, 3) := by decide +kernel
theorem dX0_isRound_14 : decode cX0_isRound 14 = .ok (.iconst 1, 1) := by decide +kernel
theorem dX0_isRound_15 : decode cX0_isRound 15 = .ok (.goto 4, 3) := by decide +kernel
theorem dX0_isRound_18 : decode cX0_isRound 18 = .ok (.iconst 0, 1) := by decide +kernel
theorem dX0_isRound_19 : decode cX0_isRound 19 = .ok (.ireturn, 1) := by decide +kernel
theorem dX0_clothOf_0 : decode cX0_clothOf 0 = .ok (.aload_n 0, 1) := by decide +kernel
theorem dX0_clothOf_1 : decode cX0_clothOf 1 = .ok (.getfield 15, 3) := by decide +kernel
theorem dX0_clothOf_4 : decode cX0_clothOf 4 = .ok (.getfield 30, 3) := by decide +kernel
theorem dX0_clothOf_7 : decode cX0_clothOf 7 = .ok (.iload_n 2, 1) := by decide +kernel
theorem dX0_clothOf_8 : decode cX0_clothOf 8 = .ok (.iaload, 1) := by decide +kernel
theorem dX0_clothOf_9 : decode cX0_clothOf 9 = .ok (.aload_n 1, 1) := by decide +kernel
theorem dX0_clothOf_10 : decode cX0_clothOf 10 = .ok (.getfield 33, 3) := by decide +kernel
theorem dX0_clothOf_13 : decode cX0_clothOf 13 = .ok (.iload_n 2, 1) := by decide +kernel
theorem dX0_clothOf_14 : decode cX0_clothOf 14 = .ok (.iaload, 1) := by decide +kernel
theorem dX0_clothOf_15 : decode cX0_clothOf 15 = .ok (.isub, 1) := by decide +kernel
theorem dX0_clothOf_16 : decode cX0_clothOf 16 = .ok (.istore_n 3, 1) := by decide +kernel
theorem dX0_clothOf_17 : decode cX0_clothOf 17 = .ok (.iload_n 3, 1) := by decide +kernel
theorem dX0_clothOf_18 : decode cX0_clothOf 18 = .ok (.ifCond .ge 7, 3) := by decide +kernel
theorem dX0_clothOf_21 : decode cX0_clothOf 21 = .ok (.iconst 0, 1) := by decide +kernel
theorem dX0_clothOf_22 : decode cX0_clothOf 22 = .ok (.goto 4, 3) := by decide +kernel
theorem dX0_clothOf_25 : decode cX0_clothOf 25 = .ok (.iload_n 3, 1) := by decide +kernel
theorem dX0_clothOf_26 : decode cX0_clothOf 26 = .ok (.ireturn, 1) := by decide +kernel
theorem dX0_mightOf_0 : decode cX0_mightOf 0 = .ok (.aload_n 0, 1) := by decide +kernel
theorem dX0_mightOf_1 : decode cX0_mightOf 1 = .ok (.getfield 15, 3) := by decide +kernel
theorem dX0_mightOf_4 : decode cX0_mightOf 4 = .ok (.getfield 36, 3) := by decide +kernel
theorem dX0_mightOf_7 : decode cX0_mightOf 7 = .ok (.iload_n 2, 1) := by decide +kernel
theorem dX0_mightOf_8 : decode cX0_mightOf 8 = .ok (.iaload, 1) := by decide +kernel
theorem dX0_mightOf_9 : decode cX0_mightOf 9 = .ok (.aload_n 1, 1) := by decide +kernel
theorem dX0_mightOf_10 : decode cX0_mightOf 10 = .ok (.getfield 39, 3) := by decide +kernel
theorem dX0_mightOf_13 : decode cX0_mightOf 13 = .ok (.iload_n 2, 1) := by decide +kernel
theorem dX0_mightOf_14 : decode cX0_mightOf 14 = .ok (.iaload, 1) := by decide +kernel
theorem dX0_mightOf_15 : decode cX0_mightOf 15 = .ok (.iadd, 1) := by decide +kernel
theorem dX0_mightOf_16 : decode cX0_mightOf 16 = .ok (.istore_n 3, 1) := by decide +kernel
theorem dX0_mightOf_17 : decode cX0_mightOf 17 = .ok (.aload_n 1, 1) := by decide +kernel
theorem dX0_mightOf_18 : decode cX0_mightOf 18 = .ok (.getfield 42, 3) := by decide +kernel
theorem dX0_mightOf_21 : decode cX0_mightOf 21 = .ok (.iload_n 2, 1) := by decide +kernel
theorem dX0_mightOf_22 : decode cX0_mightOf 22 = .ok (.iaload, 1) := by decide +kernel
theorem dX0_mightOf_23 : decode cX0_mightOf 23 = .ok (.istore 4, 2) := by decide +kernel
theorem dX0_mightOf_25 : decode cX0_mightOf 25 = .ok (.iload 4, 2) := by decide +kernel
theorem dX0_mightOf_27 : decode cX0_mightOf 27 = .ok (.iconst (-1), 1) := by decide +kernel
theorem dX0_mightOf_28 : decode cX0_mightOf 28 = .ok (.if_icmp .ne 7, 3) := by decide +kernel
theorem dX0_mightOf_31 : decode cX0_mightOf 31 = .ok (.iload_n 3, 1) := by decide +kernel
theorem dX0_mightOf_32 : decode cX0_mightOf 32 = .ok (.goto 23, 3) := by decide +kernel
theorem dX0_mightOf_35 : decode cX0_mightOf 35 = .ok (.iload_n 3, 1) := by decide +kernel
theorem dX0_mightOf_36 : decode cX0_mightOf 36 = .ok (.aload_n 0, 1) := by decide +kernel
theorem dX0_mightOf_37 : decode cX0_mightOf 37 = .ok (.getfield 15, 3) := by decide +kernel
theorem dX0_mightOf_40 : decode cX0_mightOf 40 = .ok (.getfield 36, 3) := by decide +kernel
theorem dX0_mightOf_43 : decode cX0_mightOf 43 = .ok (.iload 4, 2) := by decide +kernel
theorem dX0_mightOf_45 : decode cX0_mightOf 45 = .ok (.iaload, 1) := by decide +kernel
theorem dX0_mightOf_46 : decode cX0_mightOf 46 = .ok (.iadd, 1) := by decide +kernel
theorem dX0_mightOf_47 : decode cX0_mightOf 47 = .ok (.aload_n 1, 1) := by decide +kernel
theorem dX0_mightOf_48 : decode cX0_mightOf 48 = .ok (.getfield 39, 3) := by decide +kernel
theorem dX0_mightOf_51 : decode cX0_mightOf 51 = .ok (.iload 4, 2) := by decide +kernel
theorem dX0_mightOf_53 : decode cX0_mightOf 53 = .ok (.iaload, 1) := by decide +kernel
theorem dX0_mightOf_54 : decode cX0_mightOf 54 = .ok (.iadd, 1) := by decide +kernel
theorem dX0_mightOf_55 : decode cX0_mightOf 55 = .ok (.ireturn, 1) := by decide +kernel
theorem dX0_truthOf_0 : decode cX0_truthOf 0 = .ok (.aload_n 1, 1) := by decide +kernel
theorem dX0_truthOf_1 : decode cX0_truthOf 1 = .ok (.getfield 42, 3) := by decide +kernel
theorem dX0_truthOf_4 : decode cX0_truthOf 4 = .ok (.iload_n 2, 1) := by decide +kernel
theorem dX0_truthOf_5 : decode cX0_truthOf 5 = .ok (.iaload, 1) := by decide +kernel
theorem dX0_truthOf_6 : decode cX0_truthOf 6 = .ok (.istore_n 3, 1) := by decide +kernel
theorem dX0_truthOf_7 : decode cX0_truthOf 7 = .ok (.aload_n 0, 1) := by decide +kernel
theorem dX0_truthOf_8 : decode cX0_truthOf 8 = .ok (.aload_n 1, 1) := by decide +kernel
theorem dX0_truthOf_9 : decode cX0_truthOf 9 = .ok (.iload_n 2, 1) := by decide +kernel
theorem dX0_truthOf_10 : decode cX0_truthOf 10 = .ok (.invokevirtual 45, 3) := by decide +kernel
theorem dX0_truthOf_13 : decode cX0_truthOf 13 = .ok (.istore 4, 2) := by decide +kernel
theorem dX0_truthOf_15 : decode cX0_truthOf 15 = .ok (.iload_n 3, 1) := by decide +kernel
theorem dX0_truthOf_16 : decode cX0_truthOf 16 = .ok (.iconst (-1), 1) := by decide +kernel
theorem dX0_truthOf_17 : decode cX0_truthOf 17 = .ok (.if_icmp .ne 8, 3) := by decide +kernel
theorem dX0_truthOf_20 : decode cX0_truthOf 20 = .ok (.iload 4, 2) := by decide +kernel
theorem dX0_truthOf_22 : decode cX0_truthOf 22 = .ok (.goto 14, 3) := by decide +kernel
theorem dX0_truthOf_25 : decode cX0_truthOf 25 = .ok (.iload 4, 2) := by decide +kernel
theorem dX0_truthOf_27 : decode cX0_truthOf 27 = .ok (.aload_n 0, 1) := by decide +kernel
theorem dX0_truthOf_28 : decode cX0_truthOf 28 = .ok (.aload_n 1, 1) := by decide +kernel
theorem dX0_truthOf_29 : decode cX0_truthOf 29 = .ok (.iload_n 3, 1) := by decide +kernel
theorem dX0_truthOf_30 : decode cX0_truthOf 30 = .ok (.invokevirtual 45, 3) := by decide +kernel
theorem dX0_truthOf_33 : decode cX0_truthOf 33 = .ok (.invokestatic 49, 3) := by decide +kernel
theorem dX0_truthOf_36 : decode cX0_truthOf 36 = .ok (.ireturn, 1) := by decide +kernel
theorem dX0_clothAhead_0 : decode cX0_clothAhead 0 = .ok (.iconst 0, 1) := by decide +kernel
theorem dX0_clothAhead_1 : decode cX0_clothAhead 1 = .ok (.istore_n 3, 1) := by decide +kernel
theorem dX0_clothAhead_2 : decode cX0_clothAhead 2 = .ok (.iconst 0, 1) := by decide +kernel
theorem dX0_clothAhead_3 : decode cX0_clothAhead 3 = .ok (.istore 4, 2) := by decide +kernel
theorem dX0_clothAhead_5 : decode cX0_clothAhead 5 = .ok (.iload 4, 2) := by decide +kernel
theorem dX0_clothAhead_7 : decode cX0_clothAhead 7 = .ok (.aload_n 0, 1) := by decide +kernel
theorem dX0_clothAhead_8 : decode cX0_clothAhead 8 = .ok (.getfield 15, 3) := by decide +kernel
theorem dX0_clothAhead_11 : decode cX0_clothAhead 11 = .ok (.getfield 55, 3) := by decide +kernel
theorem dX0_clothAhead_14 : decode cX0_clothAhead 14 = .ok (.if_icmp .ge 47, 3) := by decide +kernel
theorem dX0_clothAhead_17 : decode cX0_clothAhead 17 = .ok (.aload_n 1, 1) := by decide +kernel
theorem dX0_clothAhead_18 : decode cX0_clothAhead 18 = .ok (.getfield 58, 3) := by decide +kernel
theorem dX0_clothAhead_21 : decode cX0_clothAhead 21 = .ok (.iload 4, 2) := by decide +kernel
theorem dX0_clothAhead_23 : decode cX0_clothAhead 23 = .ok (.iaload, 1) := by decide +kernel
theorem dX0_clothAhead_24 : decode cX0_clothAhead 24 = .ok (.iload_n 2, 1) := by decide +kernel
theorem dX0_clothAhead_25 : decode cX0_clothAhead 25 = .ok (.if_icmp .eq 36, 3) := by decide +kernel
theorem dX0_clothAhead_28 : decode cX0_clothAhead 28 = .ok (.aload_n 1, 1) := by decide +kernel
theorem dX0_clothAhead_29 : decode cX0_clothAhead 29 = .ok (.aload_n 1, 1) := by decide +kernel
theorem dX0_clothAhead_30 : decode cX0_clothAhead 30 = .ok (.getfield 58, 3) := by decide +kernel
theorem dX0_clothAhead_33 : decode cX0_clothAhead 33 = .ok (.iload 4, 2) := by decide +kernel
theorem dX0_clothAhead_35 : decode cX0_clothAhead 35 = .ok (.iaload, 1) := by decide +kernel
theorem dX0_clothAhead_36 : decode cX0_clothAhead 36 = .ok (.invokevirtual 61, 3) := by decide +kernel
theorem dX0_clothAhead_39 : decode cX0_clothAhead 39 = .ok (.ifCond .eq 16, 3) := by decide +kernel
theorem dX0_clothAhead_42 : decode cX0_clothAhead 42 = .ok (.aload_n 0, 1) := by decide +kernel
theorem dX0_clothAhead_43 : decode cX0_clothAhead 43 = .ok (.aload_n 1, 1) := by decide +kernel
theorem dX0_clothAhead_44 : decode cX0_clothAhead 44 = .ok (.aload_n 1, 1) := by decide +kernel
theorem dX0_clothAhead_45 : decode cX0_clothAhead 45 = .ok (.getfield 58, 3) := by decide +kernel
theorem dX0_clothAhead_48 : decode cX0_clothAhead 48 = .ok (.iload 4, 2) := by decide +kernel
theorem dX0_clothAhead_50 : decode cX0_clothAhead 50 = .ok (.iaload, 1) := by decide +kernel
theorem dX0_clothAhead_51 : decode cX0_clothAhead 51 = .ok (.invokevirtual 65, 3) := by decide +kernel
theorem dX0_clothAhead_54 : decode cX0_clothAhead 54 = .ok (.istore_n 3, 1) := by decide +kernel
theorem dX0_clothAhead_55 : decode cX0_clothAhead 55 = .ok (.iinc 4 1, 3) := by decide +kernel
theorem dX0_clothAhead_58 : decode cX0_clothAhead 58 = .ok (.goto (-53), 3) := by decide +kernel
theorem dX0_clothAhead_61 : decode cX0_clothAhead 61 = .ok (.iload_n 3, 1) := by decide +kernel
theorem dX0_clothAhead_62 : decode cX0_clothAhead 62 = .ok (.ireturn, 1) := by decide +kernel
theorem dX0_weigh_0 : decode cX0_weigh 0 = .ok (.aload_n 0, 1) := by decide +kernel
theorem dX0_weigh_1 : decode cX0_weigh 1 = .ok (.aload_n 1, 1) := by decide +kernel
theorem dX0_weigh_2 : decode cX0_weigh 2 = .ok (.invokevirtual 68, 3) := by decide +kernel
theorem dX0_weigh_5 : decode cX0_weigh 5 = .ok (.ifCond .eq 4, 3) := by decide +kernel
theorem dX0_weigh_8 : decode cX0_weigh 8 = .ok (.return_, 1) := by decide +kernel
theorem dX0_weigh_9 : decode cX0_weigh 9 = .ok (.aload_n 0, 1) := by decide +kernel
theorem dX0_weigh_10 : decode cX0_weigh 10 = .ok (.getfield 9, 3) := by decide +kernel
theorem dX0_weigh_13 : decode cX0_weigh 13 = .ok (.iconst 0, 1) := by decide +kernel
theorem dX0_weigh_14 : decode cX0_weigh 14 = .ok (.aload_n 0, 1) := by decide +kernel
theorem dX0_weigh_15 : decode cX0_weigh 15 = .ok (.getfield 15, 3) := by decide +kernel
theorem dX0_weigh_18 : decode cX0_weigh 18 = .ok (.getfield 72, 3) := by decide +kernel
theorem dX0_weigh_21 : decode cX0_weigh 21 = .ok (.aload_n 1, 1) := by decide +kernel
theorem dX0_weigh_22 : decode cX0_weigh 22 = .ok (.getfield 19, 3) := by decide +kernel
theorem dX0_weigh_25 : decode cX0_weigh 25 = .ok (.iaload, 1) := by decide +kernel
theorem dX0_weigh_26 : decode cX0_weigh 26 = .ok (.iload 4, 2) := by decide +kernel
theorem dX0_weigh_28 : decode cX0_weigh 28 = .ok (.iadd, 1) := by decide +kernel
theorem dX0_weigh_29 : decode cX0_weigh 29 = .ok (.iastore, 1) := by decide +kernel
theorem dX0_weigh_30 : decode cX0_weigh 30 = .ok (.aload_n 0, 1) := by decide +kernel
theorem dX0_weigh_31 : decode cX0_weigh 31 = .ok (.getfield 9, 3) := by decide +kernel
theorem dX0_weigh_34 : decode cX0_weigh 34 = .ok (.iconst 1, 1) := by decide +kernel
theorem dX0_weigh_35 : decode cX0_weigh 35 = .ok (.aload_n 0, 1) := by decide +kernel
theorem dX0_weigh_36 : decode cX0_weigh 36 = .ok (.getfield 15, 3) := by decide +kernel
theorem dX0_weigh_39 : decode cX0_weigh 39 = .ok (.getfield 75, 3) := by decide +kernel
theorem dX0_weigh_42 : decode cX0_weigh 42 = .ok (.aload_n 1, 1) := by decide +kernel
theorem dX0_weigh_43 : decode cX0_weigh 43 = .ok (.getfield 19, 3) := by decide +kernel
theorem dX0_weigh_46 : decode cX0_weigh 46 = .ok (.iaload, 1) := by decide +kernel
theorem dX0_weigh_47 : decode cX0_weigh 47 = .ok (.iastore, 1) := by decide +kernel
theorem dX0_weigh_48 : decode cX0_weigh 48 = .ok (.aload_n 0, 1) := by decide +kernel
theorem dX0_weigh_49 : decode cX0_weigh 49 = .ok (.getfield 9, 3) := by decide +kernel
theorem dX0_weigh_52 : decode cX0_weigh 52 = .ok (.iconst 2, 1) := by decide +kernel
theorem dX0_weigh_53 : decode cX0_weigh 53 = .ok (.aload_n 0, 1) := by decide +kernel
theorem dX0_weigh_54 : decode cX0_weigh 54 = .ok (.aload_n 1, 1) := by decide +kernel
theorem dX0_weigh_55 : decode cX0_weigh 55 = .ok (.iload_n 2, 1) := by decide +kernel
theorem dX0_weigh_56 : decode cX0_weigh 56 = .ok (.invokevirtual 65, 3) := by decide +kernel
theorem dX0_weigh_59 : decode cX0_weigh 59 = .ok (.iastore, 1) := by decide +kernel
theorem dX0_weigh_60 : decode cX0_weigh 60 = .ok (.aload_n 0, 1) := by decide +kernel
theorem dX0_weigh_61 : decode cX0_weigh 61 = .ok (.getfield 9, 3) := by decide +kernel
theorem dX0_weigh_64 : decode cX0_weigh 64 = .ok (.iconst 3, 1) := by decide +kernel
theorem dX0_weigh_65 : decode cX0_weigh 65 = .ok (.iload_n 3, 1) := by decide +kernel
theorem dX0_weigh_66 : decode cX0_weigh 66 = .ok (.iastore, 1) := by decide +kernel
theorem dX0_weigh_67 : decode cX0_weigh 67 = .ok (.aload_n 0, 1) := by decide +kernel
theorem dX0_weigh_68 : decode cX0_weigh 68 = .ok (.getfield 9, 3) := by decide +kernel
theorem dX0_weigh_71 : decode cX0_weigh 71 = .ok (.iconst 4, 1) := by decide +kernel
theorem dX0_weigh_72 : decode cX0_weigh 72 = .ok (.aload_n 0, 1) := by decide +kernel
theorem dX0_weigh_73 : decode cX0_weigh 73 = .ok (.aload_n 1, 1) := by decide +kernel
theorem dX0_weigh_74 : decode cX0_weigh 74 = .ok (.iload_n 2, 1) := by decide +kernel
theorem dX0_weigh_75 : decode cX0_weigh 75 = .ok (.invokevirtual 78, 3) := by decide +kernel
theorem dX0_weigh_78 : decode cX0_weigh 78 = .ok (.iastore, 1) := by decide +kernel
theorem dX0_weigh_79 : decode cX0_weigh 79 = .ok (.aload_n 0, 1) := by decide +kernel
theorem dX0_weigh_80 : decode cX0_weigh 80 = .ok (.getfield 9, 3) := by decide +kernel
theorem dX0_weigh_83 : decode cX0_weigh 83 = .ok (.iconst 5, 1) := by decide +kernel
theorem dX0_weigh_84 : decode cX0_weigh 84 = .ok (.aload_n 0, 1) := by decide +kernel
theorem dX0_weigh_85 : decode cX0_weigh 85 = .ok (.aload_n 1, 1) := by decide +kernel
theorem dX0_weigh_86 : decode cX0_weigh 86 = .ok (.iload_n 2, 1) := by decide +kernel
theorem dX0_weigh_87 : decode cX0_weigh 87 = .ok (.invokevirtual 81, 3) := by decide +kernel
theorem dX0_weigh_90 : decode cX0_weigh 90 = .ok (.iastore, 1) := by decide +kernel
theorem dX0_weigh_91 : decode cX0_weigh 91 = .ok (.aload_n 0, 1) := by decide +kernel
theorem dX0_weigh_92 : decode cX0_weigh 92 = .ok (.getfield 9, 3) := by decide +kernel
theorem dX0_weigh_95 : decode cX0_weigh 95 = .ok (.bipush 6, 2) := by decide +kernel
theorem dX0_weigh_97 : decode cX0_weigh 97 = .ok (.aload_n 1, 1) := by decide +kernel
theorem dX0_weigh_98 : decode cX0_weigh 98 = .ok (.getfield 84, 3) := by decide +kernel
theorem dX0_weigh_101 : decode cX0_weigh 101 = .ok (.iastore, 1) := by decide +kernel
theorem dX0_weigh_102 : decode cX0_weigh 102 = .ok (.aload_n 0, 1) := by decide +kernel
theorem dX0_weigh_103 : decode cX0_weigh 103 = .ok (.aload_n 0, 1) := by decide +kernel
theorem dX0_weigh_104 : decode cX0_weigh 104 = .ok (.getfield 15, 3) := by decide +kernel
theorem dX0_weigh_107 : decode cX0_weigh 107 = .ok (.getfield 87, 3) := by decide +kernel
theorem dX0_weigh_110 : decode cX0_weigh 110 = .ok (.getfield 91, 3) := by decide +kernel
theorem dX0_weigh_113 : decode cX0_weigh 113 = .ok (.ifCond .eq 20, 3) := by decide +kernel
theorem dX0_weigh_116 : decode cX0_weigh 116 = .ok (.aload_n 0, 1) := by decide +kernel
theorem dX0_weigh_117 : decode cX0_weigh 117 = .ok (.getfield 15, 3) := by decide +kernel
theorem dX0_weigh_120 : decode cX0_weigh 120 = .ok (.getfield 87, 3) := by decide +kernel
theorem dX0_weigh_123 : decode cX0_weigh 123 = .ok (.aload_n 0, 1) := by decide +kernel
theorem dX0_weigh_124 : decode cX0_weigh 124 = .ok (.getfield 9, 3) := by decide +kernel
theorem dX0_weigh_127 : decode cX0_weigh 127 = .ok (.invokevirtual 97, 3) := by decide +kernel
theorem dX0_weigh_130 : decode cX0_weigh 130 = .ok (.goto 32, 3) := by decide +kernel
theorem dX0_weigh_133 : decode cX0_weigh 133 = .ok (.aload_n 0, 1) := by decide +kernel
theorem dX0_weigh_134 : decode cX0_weigh 134 = .ok (.getfield 9, 3) := by decide +kernel
theorem dX0_weigh_137 : decode cX0_weigh 137 = .ok (.iconst 0, 1) := by decide +kernel
theorem dX0_weigh_138 : decode cX0_weigh 138 = .ok (.iaload, 1) := by decide +kernel
theorem dX0_weigh_139 : decode cX0_weigh 139 = .ok (.aload_n 0, 1) := by decide +kernel
theorem dX0_weigh_140 : decode cX0_weigh 140 = .ok (.getfield 9, 3) := by decide +kernel
theorem dX0_weigh_143 : decode cX0_weigh 143 = .ok (.iconst 2, 1) := by decide +kernel
theorem dX0_weigh_144 : decode cX0_weigh 144 = .ok (.iaload, 1) := by decide +kernel
theorem dX0_weigh_145 : decode cX0_weigh 145 = .ok (.imul, 1) := by decide +kernel
theorem dX0_weigh_146 : decode cX0_weigh 146 = .ok (.iconst 4, 1) := by decide +kernel
theorem dX0_weigh_147 : decode cX0_weigh 147 = .ok (.idiv, 1) := by decide +kernel
theorem dX0_weigh_148 : decode cX0_weigh 148 = .ok (.aload_n 0, 1) := by decide +kernel
theorem dX0_weigh_149 : decode cX0_weigh 149 = .ok (.getfield 9, 3) := by decide +kernel
theorem dX0_weigh_152 : decode cX0_weigh 152 = .ok (.iconst 1, 1) := by decide +kernel
theorem dX0_weigh_153 : decode cX0_weigh 153 = .ok (.iaload, 1) := by decide +kernel
theorem dX0_weigh_154 : decode cX0_weigh 154 = .ok (.isub, 1) := by decide +kernel
theorem dX0_weigh_155 : decode cX0_weigh 155 = .ok (.aload_n 0, 1) := by decide +kernel
theorem dX0_weigh_156 : decode cX0_weigh 156 = .ok (.getfield 9, 3) := by decide +kernel
theorem dX0_weigh_159 : decode cX0_weigh 159 = .ok (.iconst 3, 1) := by decide +kernel
theorem dX0_weigh_160 : decode cX0_weigh 160 = .ok (.iaload, 1) := by decide +kernel
theorem dX0_weigh_161 : decode cX0_weigh 161 = .ok (.isub, 1) := by decide +kernel
theorem dX0_weigh_162 : decode cX0_weigh 162 = .ok (.putfield 101, 3) := by decide +kernel
theorem dX0_weigh_165 : decode cX0_weigh 165 = .ok (.aload_n 0, 1) := by decide +kernel
theorem dX0_weigh_166 : decode cX0_weigh 166 = .ok (.aload_n 0, 1) := by decide +kernel
theorem dX0_weigh_167 : decode cX0_weigh 167 = .ok (.getfield 15, 3) := by decide +kernel
theorem dX0_weigh_170 : decode cX0_weigh 170 = .ok (.getfield 103, 3) := by decide +kernel
theorem dX0_weigh_173 : decode cX0_weigh 173 = .ok (.getfield 91, 3) := by decide +kernel
theorem dX0_weigh_176 : decode cX0_weigh 176 = .ok (.ifCond .eq 20, 3) := by decide +kernel
theorem dX0_weigh_179 : decode cX0_weigh 179 = .ok (.aload_n 0, 1) := by decide +kernel
theorem dX0_weigh_180 : decode cX0_weigh 180 = .ok (.getfield 15, 3) := by decide +kernel
theorem dX0_weigh_183 : decode cX0_weigh 183 = .ok (.getfield 103, 3) := by decide +kernel
theorem dX0_weigh_186 : decode cX0_weigh 186 = .ok (.aload_n 0, 1) := by decide +kernel
theorem dX0_weigh_187 : decode cX0_weigh 187 = .ok (.getfield 9, 3) := by decide +kernel
theorem dX0_weigh_190 : decode cX0_weigh 190 = .ok (.invokevirtual 97, 3) := by decide +kernel
theorem dX0_weigh_193 : decode cX0_weigh 193 = .ok (.goto 19, 3) := by decide +kernel
theorem dX0_weigh_196 : decode cX0_weigh 196 = .ok (.aload_n 0, 1) := by decide +kernel
theorem dX0_weigh_197 : decode cX0_weigh 197 = .ok (.getfield 9, 3) := by decide +kernel
theorem dX0_weigh_200 : decode cX0_weigh 200 = .ok (.iconst 5, 1) := by decide +kernel
theorem dX0_weigh_201 : decode cX0_weigh 201 = .ok (.iaload, 1) := by decide +kernel
theorem dX0_weigh_202 : decode cX0_weigh 202 = .ok (.aload_n 0, 1) := by decide +kernel
theorem dX0_weigh_203 : decode cX0_weigh 203 = .ok (.getfield 9, 3) := by decide +kernel
theorem dX0_weigh_206 : decode cX0_weigh 206 = .ok (.iconst 4, 1) := by decide +kernel
theorem dX0_weigh_207 : decode cX0_weigh 207 = .ok (.iaload, 1) := by decide +kernel
theorem dX0_weigh_208 : decode cX0_weigh 208 = .ok (.bipush 10, 2) := by decide +kernel
theorem dX0_weigh_210 : decode cX0_weigh 210 = .ok (.idiv, 1) := by decide +kernel
theorem dX0_weigh_211 : decode cX0_weigh 211 = .ok (.iadd, 1) := by decide +kernel
theorem dX0_weigh_212 : decode cX0_weigh 212 = .ok (.putfield 106, 3) := by decide +kernel
theorem dX0_weigh_215 : decode cX0_weigh 215 = .ok (.return_, 1) := by decide +kernel
theorem dX0_gustBySeed_0 : decode cX0_gustBySeed 0 = .ok (.aload_n 0, 1) := by decide +kernel
theorem dX0_gustBySeed_1 : decode cX0_gustBySeed 1 = .ok (.aload_n 1, 1) := by decide +kernel
theorem dX0_gustBySeed_2 : decode cX0_gustBySeed 2 = .ok (.invokevirtual 68, 3) := by decide +kernel
theorem dX0_gustBySeed_5 : decode cX0_gustBySeed 5 = .ok (.ifCond .ne 18, 3) := by decide +kernel
theorem dX0_gustBySeed_8 : decode cX0_gustBySeed 8 = .ok (.aload_n 0, 1) := by decide +kernel
theorem dX0_gustBySeed_9 : decode cX0_gustBySeed 9 = .ok (.getfield 15, 3) := by decide +kernel
theorem dX0_gustBySeed_12 : decode cX0_gustBySeed 12 = .ok (.getfield 108, 3) := by decide +kernel
theorem dX0_gustBySeed_15 : decode cX0_gustBySeed 15 = .ok (.aload_n 1, 1) := by decide +kernel
theorem dX0_gustBySeed_16 : decode cX0_gustBySeed 16 = .ok (.getfield 19, 3) := by decide +kernel
theorem dX0_gustBySeed_19 : decode cX0_gustBySeed 19 = .ok (.iaload, 1) := by decide +kernel
theorem dX0_gustBySeed_20 : decode cX0_gustBySeed 20 = .ok (.ifCond .ne 5, 3) := by decide +kernel
theorem dX0_gustBySeed_23 : decode cX0_gustBySeed 23 = .ok (.iconst 0, 1) := by decide +kernel
theorem dX0_gustBySeed_24 : decode cX0_gustBySeed 24 = .ok (.ireturn, 1) := by decide +kernel
theorem dX0_gustBySeed_25 : decode cX0_gustBySeed 25 = .ok (.aload_n 1, 1) := by decide +kernel
theorem dX0_gustBySeed_26 : decode cX0_gustBySeed 26 = .ok (.aload_n 1, 1) := by decide +kernel
theorem dX0_gustBySeed_27 : decode cX0_gustBySeed 27 = .ok (.getfield 111, 3) := by decide +kernel
theorem dX0_gustBySeed_30 : decode cX0_gustBySeed 30 = .ok (.sipush 137, 3) := by decide +kernel
theorem dX0_gustBySeed_33 : decode cX0_gustBySeed 33 = .ok (.imul, 1) := by decide +kernel
theorem dX0_gustBySeed_34 : decode cX0_gustBySeed 34 = .ok (.bipush 71, 2) := by decide +kernel
theorem dX0_gustBySeed_36 : decode cX0_gustBySeed 36 = .ok (.iadd, 1) := by decide +kernel
theorem dX0_gustBySeed_37 : decode cX0_gustBySeed 37 = .ok (.sipush 1000, 3) := by decide +kernel
theorem dX0_gustBySeed_40 : decode cX0_gustBySeed 40 = .ok (.irem, 1) := by decide +kernel
theorem dX0_gustBySeed_41 : decode cX0_gustBySeed 41 = .ok (.putfield 111, 3) := by decide +kernel
theorem dX0_gustBySeed_44 : decode cX0_gustBySeed 44 = .ok (.aload_n 1, 1) := by decide +kernel
theorem dX0_gustBySeed_45 : decode cX0_gustBySeed 45 = .ok (.getfield 111, 3) := by decide +kernel
theorem dX0_gustBySeed_48 : decode cX0_gustBySeed 48 = .ok (.bipush 100, 2) := by decide +kernel
theorem dX0_gustBySeed_50 : decode cX0_gustBySeed 50 = .ok (.irem, 1) := by decide +kernel
theorem dX0_gustBySeed_51 : decode cX0_gustBySeed 51 = .ok (.aload_n 0, 1) := by decide +kernel
theorem dX0_gustBySeed_52 : decode cX0_gustBySeed 52 = .ok (.getfield 15, 3) := by decide +kernel
theorem dX0_gustBySeed_55 : decode cX0_gustBySeed 55 = .ok (.getfield 114, 3) := by decide +kernel
theorem dX0_gustBySeed_58 : decode cX0_gustBySeed 58 = .ok (.aload_n 1, 1) := by decide +kernel
theorem dX0_gustBySeed_59 : decode cX0_gustBySeed 59 = .ok (.getfield 19, 3) := by decide +kernel
theorem dX0_gustBySeed_62 : decode cX0_gustBySeed 62 = .ok (.iaload, 1) := by decide +kernel
theorem dX0_gustBySeed_63 : decode cX0_gustBySeed 63 = .ok (.if_icmp .ge 18, 3) := by decide +kernel
theorem dX0_gustBySeed_66 : decode cX0_gustBySeed 66 = .ok (.aload_n 0, 1) := by decide +kernel
theorem dX0_gustBySeed_67 : decode cX0_gustBySeed 67 = .ok (.getfield 15, 3) := by decide +kernel
theorem dX0_gustBySeed_70 : decode cX0_gustBySeed 70 = .ok (.getfield 108, 3) := by decide +kernel
theorem dX0_gustBySeed_73 : decode cX0_gustBySeed 73 = .ok (.aload_n 1, 1) := by decide +kernel
theorem dX0_gustBySeed_74 : decode cX0_gustBySeed 74 = .ok (.getfield 19, 3) := by decide +kernel
theorem dX0_gustBySeed_77 : decode cX0_gustBySeed 77 = .ok (.iaload, 1) := by decide +kernel
theorem dX0_gustBySeed_78 : decode cX0_gustBySeed 78 = .ok (.goto 4, 3) := by decide +kernel
theorem dX0_gustBySeed_81 : decode cX0_gustBySeed 81 = .ok (.iconst 0, 1) := by decide +kernel
theorem dX0_gustBySeed_82 : decode cX0_gustBySeed 82 = .ok (.ireturn, 1) := by decide +kernel
theorem dX0_pass_0 : decode cX0_pass 0 = .ok (.aload_n 0, 1) := by decide +kernel
theorem dX0_pass_1 : decode cX0_pass 1 = .ok (.aload_n 1, 1) := by decide +kernel
theorem dX0_pass_2 : decode cX0_pass 2 = .ok (.invokevirtual 68, 3) := by decide +kernel
theorem dX0_pass_5 : decode cX0_pass 5 = .ok (.ifCond .eq 5, 3) := by decide +kernel
theorem dX0_pass_8 : decode cX0_pass 8 = .ok (.iconst 0, 1) := by decide +kernel
theorem dX0_pass_9 : decode cX0_pass 9 = .ok (.ireturn, 1) := by decide +kernel
theorem dX0_pass_10 : decode cX0_pass 10 = .ok (.iconst 0, 1) := by decide +kernel
theorem dX0_pass_11 : decode cX0_pass 11 = .ok (.istore_n 3, 1) := by decide +kernel
theorem dX0_pass_12 : decode cX0_pass 12 = .ok (.iconst 0, 1) := by decide +kernel
theorem dX0_pass_13 : decode cX0_pass 13 = .ok (.istore 4, 2) := by decide +kernel
theorem dX0_pass_15 : decode cX0_pass 15 = .ok (.iconst 0, 1) := by decide +kernel
theorem dX0_pass_16 : decode cX0_pass 16 = .ok (.istore 5, 2) := by decide +kernel
theorem dX0_pass_18 : decode cX0_pass 18 = .ok (.iload 5, 2) := by decide +kernel
theorem dX0_pass_20 : decode cX0_pass 20 = .ok (.aload_n 0, 1) := by decide +kernel
theorem dX0_pass_21 : decode cX0_pass 21 = .ok (.getfield 15, 3) := by decide +kernel
theorem dX0_pass_24 : decode cX0_pass 24 = .ok (.getfield 55, 3) := by decide +kernel
theorem dX0_pass_27 : decode cX0_pass 27 = .ok (.if_icmp .ge 69, 3) := by decide +kernel
theorem dX0_pass_30 : decode cX0_pass 30 = .ok (.aload_n 1, 1) := by decide +kernel
theorem dX0_pass_31 : decode cX0_pass 31 = .ok (.getfield 58, 3) := by decide +kernel
theorem dX0_pass_34 : decode cX0_pass 34 = .ok (.iload 5, 2) := by decide +kernel
theorem dX0_pass_36 : decode cX0_pass 36 = .ok (.iaload, 1) := by decide +kernel
theorem dX0_pass_37 : decode cX0_pass 37 = .ok (.istore 6, 2) := by decide +kernel
theorem dX0_pass_39 : decode cX0_pass 39 = .ok (.aload_n 1, 1) := by decide +kernel
theorem dX0_pass_40 : decode cX0_pass 40 = .ok (.iload 6, 2) := by decide +kernel
theorem dX0_pass_42 : decode cX0_pass 42 = .ok (.invokevirtual 61, 3) := by decide +kernel
theorem dX0_pass_45 : decode cX0_pass 45 = .ok (.ifCond .eq 45, 3) := by decide +kernel
theorem dX0_pass_48 : decode cX0_pass 48 = .ok (.aload_n 0, 1) := by decide +kernel
theorem dX0_pass_49 : decode cX0_pass 49 = .ok (.aload_n 1, 1) := by decide +kernel
theorem dX0_pass_50 : decode cX0_pass 50 = .ok (.iload 6, 2) := by decide +kernel
theorem dX0_pass_52 : decode cX0_pass 52 = .ok (.iload 4, 2) := by decide +kernel
theorem dX0_pass_54 : decode cX0_pass 54 = .ok (.iload_n 2, 1) := by decide +kernel
theorem dX0_pass_55 : decode cX0_pass 55 = .ok (.invokevirtual 117, 3) := by decide +kernel
theorem dX0_pass_58 : decode cX0_pass 58 = .ok (.aload_n 0, 1) := by decide +kernel
theorem dX0_pass_59 : decode cX0_pass 59 = .ok (.getfield 101, 3) := by decide +kernel
theorem dX0_pass_62 : decode cX0_pass 62 = .ok (.aload_n 0, 1) := by decide +kernel
theorem dX0_pass_63 : decode cX0_pass 63 = .ok (.getfield 106, 3) := by decide +kernel
theorem dX0_pass_66 : decode cX0_pass 66 = .ok (.if_icmp .le 15, 3) := by decide +kernel
theorem dX0_pass_69 : decode cX0_pass 69 = .ok (.iload_n 3, 1) := by decide +kernel
theorem dX0_pass_70 : decode cX0_pass 70 = .ok (.aload_n 1, 1) := by decide +kernel
theorem dX0_pass_71 : decode cX0_pass 71 = .ok (.iload 6, 2) := by decide +kernel
theorem dX0_pass_73 : decode cX0_pass 73 = .ok (.invokevirtual 121, 3) := by decide +kernel
theorem dX0_pass_76 : decode cX0_pass 76 = .ok (.ior, 1) := by decide +kernel
theorem dX0_pass_77 : decode cX0_pass 77 = .ok (.istore_n 3, 1) := by decide +kernel
theorem dX0_pass_78 : decode cX0_pass 78 = .ok (.goto 12, 3) := by decide +kernel
theorem dX0_pass_81 : decode cX0_pass 81 = .ok (.aload_n 0, 1) := by decide +kernel
theorem dX0_pass_82 : decode cX0_pass 82 = .ok (.aload_n 1, 1) := by decide +kernel
theorem dX0_pass_83 : decode cX0_pass 83 = .ok (.iload 6, 2) := by decide +kernel
theorem dX0_pass_85 : decode cX0_pass 85 = .ok (.invokevirtual 65, 3) := by decide +kernel
theorem dX0_pass_88 : decode cX0_pass 88 = .ok (.istore 4, 2) := by decide +kernel
theorem dX0_pass_90 : decode cX0_pass 90 = .ok (.iinc 5 1, 3) := by decide +kernel
theorem dX0_pass_93 : decode cX0_pass 93 = .ok (.goto (-75), 3) := by decide +kernel
theorem dX0_pass_96 : decode cX0_pass 96 = .ok (.aload_n 1, 1) := by decide +kernel
theorem dX0_pass_97 : decode cX0_pass 97 = .ok (.dup, 1) := by decide +kernel
theorem dX0_pass_98 : decode cX0_pass 98 = .ok (.getfield 19, 3) := by decide +kernel
theorem dX0_pass_101 : decode cX0_pass 101 = .ok (.iconst 1, 1) := by decide +kernel
theorem dX0_pass_102 : decode cX0_pass 102 = .ok (.iadd, 1) := by decide +kernel
theorem dX0_pass_103 : decode cX0_pass 103 = .ok (.putfield 19, 3) := by decide +kernel
theorem dX0_pass_106 : decode cX0_pass 106 = .ok (.iload_n 3, 1) := by decide +kernel
theorem dX0_pass_107 : decode cX0_pass 107 = .ok (.ireturn, 1) := by decide +kernel
theorem dX0_bringsRound_0 : decode cX0_bringsRound 0 = .ok (.iconst 0, 1) := by decide +kernel
theorem dX0_bringsRound_1 : decode cX0_bringsRound 1 = .ok (.istore 4, 2) := by decide +kernel
theorem dX0_bringsRound_3 : decode cX0_bringsRound 3 = .ok (.iload 4, 2) := by decide +kernel
theorem dX0_bringsRound_5 : decode cX0_bringsRound 5 = .ok (.bipush 8, 2) := by decide +kernel
theorem dX0_bringsRound_7 : decode cX0_bringsRound 7 = .ok (.if_icmp .ge 24, 3) := by decide +kernel
theorem dX0_bringsRound_10 : decode cX0_bringsRound 10 = .ok (.aload_n 1, 1) := by decide +kernel
theorem dX0_bringsRound_11 : decode cX0_bringsRound 11 = .ok (.iload_n 2, 1) := by decide +kernel
theorem dX0_bringsRound_12 : decode cX0_bringsRound 12 = .ok (.invokevirtual 125, 3) := by decide +kernel
theorem dX0_bringsRound_15 : decode cX0_bringsRound 15 = .ok (.ifCond .eq 16, 3) := by decide +kernel
theorem dX0_bringsRound_18 : decode cX0_bringsRound 18 = .ok (.aload_n 0, 1) := by decide +kernel
theorem dX0_bringsRound_19 : decode cX0_bringsRound 19 = .ok (.aload_n 1, 1) := by decide +kernel
theorem dX0_bringsRound_20 : decode cX0_bringsRound 20 = .ok (.iload_n 3, 1) := by decide +kernel
theorem dX0_bringsRound_21 : decode cX0_bringsRound 21 = .ok (.invokevirtual 128, 3) := by decide +kernel
theorem dX0_bringsRound_24 : decode cX0_bringsRound 24 = .ok (.pop, 1) := by decide +kernel
theorem dX0_bringsRound_25 : decode cX0_bringsRound 25 = .ok (.iinc 4 1, 3) := by decide +kernel
theorem dX0_bringsRound_28 : decode cX0_bringsRound 28 = .ok (.goto (-25), 3) := by decide +kernel
theorem dX0_bringsRound_31 : decode cX0_bringsRound 31 = .ok (.aload_n 1, 1) := by decide +kernel
theorem dX0_bringsRound_32 : decode cX0_bringsRound 32 = .ok (.iload_n 2, 1) := by decide +kernel
theorem dX0_bringsRound_33 : decode cX0_bringsRound 33 = .ok (.invokevirtual 125, 3) := by decide +kernel
theorem dX0_bringsRound_36 : decode cX0_bringsRound 36 = .ok (.ireturn, 1) := by decide +kernel
theorem dX0_howManyRound_0 : decode cX0_howManyRound 0 = .ok (.iconst 0, 1) := by decide +kernel
theorem dX0_howManyRound_1 : decode cX0_howManyRound 1 = .ok (.istore_n 2, 1) := by decide +kernel
theorem dX0_howManyRound_2 : decode cX0_howManyRound 2 = .ok (.iload_n 2, 1) := by decide +kernel
theorem dX0_howManyRound_3 : decode cX0_howManyRound 3 = .ok (.bipush 8, 2) := by decide +kernel
theorem dX0_howManyRound_5 : decode cX0_howManyRound 5 = .ok (.if_icmp .ge 16, 3) := by decide +kernel
theorem dX0_howManyRound_8 : decode cX0_howManyRound 8 = .ok (.aload_n 0, 1) := by decide +kernel
theorem dX0_howManyRound_9 : decode cX0_howManyRound 9 = .ok (.aload_n 1, 1) := by decide +kernel
theorem dX0_howManyRound_10 : decode cX0_howManyRound 10 = .ok (.iconst 0, 1) := by decide +kernel
theorem dX0_howManyRound_11 : decode cX0_howManyRound 11 = .ok (.invokevirtual 128, 3) := by decide +kernel
theorem dX0_howManyRound_14 : decode cX0_howManyRound 14 = .ok (.pop, 1) := by decide +kernel
theorem dX0_howManyRound_15 : decode cX0_howManyRound 15 = .ok (.iinc 2 1, 3) := by decide +kernel
theorem dX0_howManyRound_18 : decode cX0_howManyRound 18 = .ok (.goto (-16), 3) := by decide +kernel
theorem dX0_howManyRound_21 : decode cX0_howManyRound 21 = .ok (.aload_n 1, 1) := by decide +kernel
theorem dX0_howManyRound_22 : decode cX0_howManyRound 22 = .ok (.getfield 131, 3) := by decide +kernel
theorem dX0_howManyRound_25 : decode cX0_howManyRound 25 = .ok (.invokestatic 134, 3) := by decide +kernel
theorem dX0_howManyRound_28 : decode cX0_howManyRound 28 = .ok (.ireturn, 1) := by decide +kernel
theorem dX0_trueOf_0 : decode cX0_trueOf 0 = .ok (.iload_n 2, 1) := by decide +kernel
theorem dX0_trueOf_1 : decode cX0_trueOf 1 = .ok (.ifCond .ne 10, 3) := by decide +kernel
theorem dX0_trueOf_4 : decode cX0_trueOf 4 = .ok (.aload_n 1, 1) := by decide +kernel
theorem dX0_trueOf_5 : decode cX0_trueOf 5 = .ok (.getfield 139, 3) := by decide +kernel
theorem dX0_trueOf_8 : decode cX0_trueOf 8 = .ok (.goto 12, 3) := by decide +kernel
theorem dX0_trueOf_11 : decode cX0_trueOf 11 = .ok (.aload_n 0, 1) := by decide +kernel
theorem dX0_trueOf_12 : decode cX0_trueOf 12 = .ok (.getfield 15, 3) := by decide +kernel
theorem dX0_trueOf_15 : decode cX0_trueOf 15 = .ok (.getfield 142, 3) := by decide +kernel
theorem dX0_trueOf_18 : decode cX0_trueOf 18 = .ok (.iload_n 2, 1) := by decide +kernel
theorem dX0_trueOf_19 : decode cX0_trueOf 19 = .ok (.iaload, 1) := by decide +kernel
theorem dX0_trueOf_20 : decode cX0_trueOf 20 = .ok (.ireturn, 1) := by decide +kernel
theorem dX1_init_0 : decode cX1_init 0 = .ok (.aload_n 0, 1) := by decide +kernel
theorem dX1_init_1 : decode cX1_init 1 = .ok (.invokespecial 3, 3) := by decide +kernel
theorem dX1_init_4 : decode cX1_init 4 = .ok (.aload_n 0, 1) := by decide +kernel
theorem dX1_init_5 : decode cX1_init 5 = .ok (.sipush 300, 3) := by decide +kernel
theorem dX1_init_8 : decode cX1_init 8 = .ok (.newarray .int, 2) := by decide +kernel
theorem dX1_init_10 : decode cX1_init 10 = .ok (.putfield 11, 3) := by decide +kernel
theorem dX1_init_13 : decode cX1_init 13 = .ok (.aload_n 0, 1) := by decide +kernel
theorem dX1_init_14 : decode cX1_init 14 = .ok (.sipush 300, 3) := by decide +kernel
theorem dX1_init_17 : decode cX1_init 17 = .ok (.newarray .int, 2) := by decide +kernel
theorem dX1_init_19 : decode cX1_init 19 = .ok (.putfield 15, 3) := by decide +kernel
theorem dX1_init_22 : decode cX1_init 22 = .ok (.aload_n 0, 1) := by decide +kernel
theorem dX1_init_23 : decode cX1_init 23 = .ok (.bipush 32, 2) := by decide +kernel
theorem dX1_init_25 : decode cX1_init 25 = .ok (.newarray .int, 2) := by decide +kernel
theorem dX1_init_27 : decode cX1_init 27 = .ok (.putfield 18, 3) := by decide +kernel
theorem dX1_init_30 : decode cX1_init 30 = .ok (.return_, 1) := by decide +kernel
theorem dX1_clear_0 : decode cX1_clear 0 = .ok (.aload_n 0, 1) := by decide +kernel
theorem dX1_clear_1 : decode cX1_clear 1 = .ok (.iconst 0, 1) := by decide +kernel
theorem dX1_clear_2 : decode cX1_clear 2 = .ok (.putfield 21, 3) := by decide +kernel
theorem dX1_clear_5 : decode cX1_clear 5 = .ok (.aload_n 0, 1) := by decide +kernel
theorem dX1_clear_6 : decode cX1_clear 6 = .ok (.iconst 0, 1) := by decide +kernel
theorem dX1_clear_7 : decode cX1_clear 7 = .ok (.putfield 25, 3) := by decide +kernel
theorem dX1_clear_10 : decode cX1_clear 10 = .ok (.aload_n 0, 1) := by decide +kernel
theorem dX1_clear_11 : decode cX1_clear 11 = .ok (.iconst 0, 1) := by decide +kernel
theorem dX1_clear_12 : decode cX1_clear 12 = .ok (.putfield 28, 3) := by decide +kernel
theorem dX1_clear_15 : decode cX1_clear 15 = .ok (.return_, 1) := by decide +kernel
theorem dX1_add_0 : decode cX1_add 0 = .ok (.aload_n 0, 1) := by decide +kernel
theorem dX1_add_1 : decode cX1_add 1 = .ok (.getfield 21, 3) := by decide +kernel
theorem dX1_add_4 : decode cX1_add 4 = .ok (.sipush 300, 3) := by decide +kernel
theorem dX1_add_7 : decode cX1_add 7 = .ok (.if_icmp .ge 33, 3) := by decide +kernel
theorem dX1_add_10 : decode cX1_add 10 = .ok (.aload_n 0, 1) := by decide +kernel
theorem dX1_add_11 : decode cX1_add 11 = .ok (.getfield 11, 3) := by decide +kernel
theorem dX1_add_14 : decode cX1_add 14 = .ok (.aload_n 0, 1) := by decide +kernel
theorem dX1_add_15 : decode cX1_add 15 = .ok (.getfield 21, 3) := by decide +kernel
theorem dX1_add_18 : decode cX1_add 18 = .ok (.iload_n 1, 1) := by decide +kernel
theorem dX1_add_19 : decode cX1_add 19 = .ok (.iastore, 1) := by decide +kernel
theorem dX1_add_20 : decode cX1_add 20 = .ok (.aload_n 0, 1) := by decide +kernel
theorem dX1_add_21 : decode cX1_add 21 = .ok (.getfield 15, 3) := by decide +kernel
theorem dX1_add_24 : decode cX1_add 24 = .ok (.aload_n 0, 1) := by decide +kernel
theorem dX1_add_25 : decode cX1_add 25 = .ok (.getfield 21, 3) := by decide +kernel
theorem dX1_add_28 : decode cX1_add 28 = .ok (.iload_n 2, 1) := by decide +kernel
theorem dX1_add_29 : decode cX1_add 29 = .ok (.iastore, 1) := by decide +kernel
theorem dX1_add_30 : decode cX1_add 30 = .ok (.aload_n 0, 1) := by decide +kernel
theorem dX1_add_31 : decode cX1_add 31 = .ok (.dup, 1) := by decide +kernel
theorem dX1_add_32 : decode cX1_add 32 = .ok (.getfield 21, 3) := by decide +kernel
theorem dX1_add_35 : decode cX1_add 35 = .ok (.iconst 1, 1) := by decide +kernel
theorem dX1_add_36 : decode cX1_add 36 = .ok (.iadd, 1) := by decide +kernel
theorem dX1_add_37 : decode cX1_add 37 = .ok (.putfield 21, 3) := by decide +kernel
theorem dX1_add_40 : decode cX1_add 40 = .ok (.return_, 1) := by decide +kernel
theorem dX1_copyFrom_0 : decode cX1_copyFrom 0 = .ok (.aload_n 0, 1) := by decide +kernel
theorem dX1_copyFrom_1 : decode cX1_copyFrom 1 = .ok (.aload_n 1, 1) := by decide +kernel
theorem dX1_copyFrom_2 : decode cX1_copyFrom 2 = .ok (.getfield 21, 3) := by decide +kernel
theorem dX1_copyFrom_5 : decode cX1_copyFrom 5 = .ok (.putfield 21, 3) := by decide +kernel
theorem dX1_copyFrom_8 : decode cX1_copyFrom 8 = .ok (.aload_n 1, 1) := by decide +kernel
theorem dX1_copyFrom_9 : decode cX1_copyFrom 9 = .ok (.getfield 11, 3) := by decide +kernel
theorem dX1_copyFrom_12 : decode cX1_copyFrom 12 = .ok (.iconst 0, 1) := by decide +kernel
theorem dX1_copyFrom_13 : decode cX1_copyFrom 13 = .ok (.aload_n 0, 1) := by decide +kernel
theorem dX1_copyFrom_14 : decode cX1_copyFrom 14 = .ok (.getfield 11, 3) := by decide +kernel
theorem dX1_copyFrom_17 : decode cX1_copyFrom 17 = .ok (.iconst 0, 1) := by decide +kernel
theorem dX1_copyFrom_18 : decode cX1_copyFrom 18 = .ok (.aload_n 0, 1) := by decide +kernel
theorem dX1_copyFrom_19 : decode cX1_copyFrom 19 = .ok (.getfield 21, 3) := by decide +kernel
theorem dX1_copyFrom_22 : decode cX1_copyFrom 22 = .ok (.invokestatic 32, 3) := by decide +kernel
theorem dX1_copyFrom_25 : decode cX1_copyFrom 25 = .ok (.aload_n 1, 1) := by decide +kernel
theorem dX1_copyFrom_26 : decode cX1_copyFrom 26 = .ok (.getfield 15, 3) := by decide +kernel
theorem dX1_copyFrom_29 : decode cX1_copyFrom 29 = .ok (.iconst 0, 1) := by decide +kernel
theorem dX1_copyFrom_30 : decode cX1_copyFrom 30 = .ok (.aload_n 0, 1) := by decide +kernel
theorem dX1_copyFrom_31 : decode cX1_copyFrom 31 = .ok (.getfield 15, 3) := by decide +kernel
theorem dX1_copyFrom_34 : decode cX1_copyFrom 34 = .ok (.iconst 0, 1) := by decide +kernel
theorem dX1_copyFrom_35 : decode cX1_copyFrom 35 = .ok (.aload_n 0, 1) := by decide +kernel
theorem dX1_copyFrom_36 : decode cX1_copyFrom 36 = .ok (.getfield 21, 3) := by decide +kernel
theorem dX1_copyFrom_39 : decode cX1_copyFrom 39 = .ok (.invokestatic 32, 3) := by decide +kernel
theorem dX1_copyFrom_42 : decode cX1_copyFrom 42 = .ok (.aload_n 0, 1) := by decide +kernel
theorem dX1_copyFrom_43 : decode cX1_copyFrom 43 = .ok (.aload_n 1, 1) := by decide +kernel
theorem dX1_copyFrom_44 : decode cX1_copyFrom 44 = .ok (.getfield 25, 3) := by decide +kernel
theorem dX1_copyFrom_47 : decode cX1_copyFrom 47 = .ok (.putfield 25, 3) := by decide +kernel
theorem dX1_copyFrom_50 : decode cX1_copyFrom 50 = .ok (.aload_n 0, 1) := by decide +kernel
theorem dX1_copyFrom_51 : decode cX1_copyFrom 51 = .ok (.aload_n 1, 1) := by decide +kernel
theorem dX1_copyFrom_52 : decode cX1_copyFrom 52 = .ok (.getfield 28, 3) := by decide +kernel
theorem dX1_copyFrom_55 : decode cX1_copyFrom 55 = .ok (.putfield 28, 3) := by decide +kernel
theorem dX1_copyFrom_58 : decode cX1_copyFrom 58 = .ok (.return_, 1) := by decide +kernel
theorem dX1_valueBy_0 : decode cX1_valueBy 0 = .ok (.iconst 0, 1) := by decide +kernel
theorem dX1_valueBy_1 : decode cX1_valueBy 1 = .ok (.istore_n 2, 1) := by decide +kernel
theorem dX1_valueBy_2 : decode cX1_valueBy 2 = .ok (.iconst 0, 1) := by decide +kernel
theorem dX1_valueBy_3 : decode cX1_valueBy 3 = .ok (.istore_n 3, 1) := by decide +kernel
theorem dX1_valueBy_4 : decode cX1_valueBy 4 = .ok (.iload_n 3, 1) := by decide +kernel
theorem dX1_valueBy_5 : decode cX1_valueBy 5 = .ok (.aload_n 0, 1) := by decide +kernel
theorem dX1_valueBy_6 : decode cX1_valueBy 6 = .ok (.getfield 21, 3) := by decide +kernel
theorem dX1_valueBy_9 : decode cX1_valueBy 9 = .ok (.if_icmp .ge 142, 3) := by decide +kernel
theorem dX1_valueBy_12 : decode cX1_valueBy 12 = .ok (.aload_n 0, 1) := by decide +kernel
theorem dX1_valueBy_13 : decode cX1_valueBy 13 = .ok (.getfield 11, 3) := by decide +kernel
theorem dX1_valueBy_16 : decode cX1_valueBy 16 = .ok (.iload_n 3, 1) := by decide +kernel
theorem dX1_valueBy_17 : decode cX1_valueBy 17 = .ok (.iaload, 1) := by decide +kernel
theorem dX1_valueBy_18 : decode cX1_valueBy 18 = .ok (.istore 4, 2) := by decide +kernel
theorem dX1_valueBy_20 : decode cX1_valueBy 20 = .ok (.iload 4, 2) := by decide +kernel
theorem dX1_valueBy_22 : decode cX1_valueBy 22 = .ok (.bipush 18, 2) := by decide +kernel
theorem dX1_valueBy_24 : decode cX1_valueBy 24 = .ok (.if_icmp .eq 10, 3) := by decide +kernel
theorem dX1_valueBy_27 : decode cX1_valueBy 27 = .ok (.iload 4, 2) := by decide +kernel
theorem dX1_valueBy_29 : decode cX1_valueBy 29 = .ok (.bipush 7, 2) := by decide +kernel
theorem dX1_valueBy_31 : decode cX1_valueBy 31 = .ok (.if_icmp .ge 41, 3) := by decide +kernel
theorem dX1_valueBy_34 : decode cX1_valueBy 34 = .ok (.iload_n 2, 1) := by decide +kernel
theorem dX1_valueBy_35 : decode cX1_valueBy 35 = .ok (.bipush 32, 2) := by decide +kernel
theorem dX1_valueBy_37 : decode cX1_valueBy 37 = .ok (.if_icmp .ge 108, 3) := by decide +kernel
theorem dX1_valueBy_40 : decode cX1_valueBy 40 = .ok (.aload_n 0, 1) := by decide +kernel
theorem dX1_valueBy_41 : decode cX1_valueBy 41 = .ok (.getfield 18, 3) := by decide +kernel
theorem dX1_valueBy_44 : decode cX1_valueBy 44 = .ok (.iload_n 2, 1) := by decide +kernel
theorem dX1_valueBy_45 : decode cX1_valueBy 45 = .ok (.iload 4, 2) := by decide +kernel
theorem dX1_valueBy_47 : decode cX1_valueBy 47 = .ok (.bipush 18, 2) := by decide +kernel
theorem dX1_valueBy_49 : decode cX1_valueBy 49 = .ok (.if_icmp .ne 12, 3) := by decide +kernel
theorem dX1_valueBy_52 : decode cX1_valueBy 52 = .ok (.aload_n 0, 1) := by decide +kernel
theorem dX1_valueBy_53 : decode cX1_valueBy 53 = .ok (.getfield 15, 3) := by decide +kernel
theorem dX1_valueBy_56 : decode cX1_valueBy 56 = .ok (.iload_n 3, 1) := by decide +kernel
theorem dX1_valueBy_57 : decode cX1_valueBy 57 = .ok (.iaload, 1) := by decide +kernel
theorem dX1_valueBy_58 : decode cX1_valueBy 58 = .ok (.goto 7, 3) := by decide +kernel
theorem dX1_valueBy_61 : decode cX1_valueBy 61 = .ok (.aload_n 1, 1) := by decide +kernel
theorem dX1_valueBy_62 : decode cX1_valueBy 62 = .ok (.iload 4, 2) := by decide +kernel
theorem dX1_valueBy_64 : decode cX1_valueBy 64 = .ok (.iaload, 1) := by decide +kernel
theorem dX1_valueBy_65 : decode cX1_valueBy 65 = .ok (.iastore, 1) := by decide +kernel
theorem dX1_valueBy_66 : decode cX1_valueBy 66 = .ok (.iinc 2 1, 3) := by decide +kernel
theorem dX1_valueBy_69 : decode cX1_valueBy 69 = .ok (.goto 76, 3) := by decide +kernel
theorem dX1_valueBy_72 : decode cX1_valueBy 72 = .ok (.iload 4, 2) := by decide +kernel
theorem dX1_valueBy_74 : decode cX1_valueBy 74 = .ok (.bipush 17, 2) := by decide +kernel
theorem dX1_valueBy_76 : decode cX1_valueBy 76 = .ok (.if_icmp .ne 34, 3) := by decide +kernel
theorem dX1_valueBy_79 : decode cX1_valueBy 79 = .ok (.iload_n 2, 1) := by decide +kernel
theorem dX1_valueBy_80 : decode cX1_valueBy 80 = .ok (.ifCond .le 65, 3) := by decide +kernel
theorem dX1_valueBy_83 : decode cX1_valueBy 83 = .ok (.aload_n 0, 1) := by decide +kernel
theorem dX1_valueBy_84 : decode cX1_valueBy 84 = .ok (.getfield 18, 3) := by decide +kernel
theorem dX1_valueBy_87 : decode cX1_valueBy 87 = .ok (.iload_n 2, 1) := by decide +kernel
theorem dX1_valueBy_88 : decode cX1_valueBy 88 = .ok (.iconst 1, 1) := by decide +kernel
theorem dX1_valueBy_89 : decode cX1_valueBy 89 = .ok (.isub, 1) := by decide +kernel
theorem dX1_valueBy_90 : decode cX1_valueBy 90 = .ok (.aload_n 0, 1) := by decide +kernel
theorem dX1_valueBy_91 : decode cX1_valueBy 91 = .ok (.getfield 18, 3) := by decide +kernel
theorem dX1_valueBy_94 : decode cX1_valueBy 94 = .ok (.iload_n 2, 1) := by decide +kernel
theorem dX1_valueBy_95 : decode cX1_valueBy 95 = .ok (.iconst 1, 1) := by decide +kernel
theorem dX1_valueBy_96 : decode cX1_valueBy 96 = .ok (.isub, 1) := by decide +kernel
theorem dX1_valueBy_97 : decode cX1_valueBy 97 = .ok (.iaload, 1) := by decide +kernel
theorem dX1_valueBy_98 : decode cX1_valueBy 98 = .ok (.ifCond .ne 7, 3) := by decide +kernel
theorem dX1_valueBy_101 : decode cX1_valueBy 101 = .ok (.iconst 1, 1) := by decide +kernel
theorem dX1_valueBy_102 : decode cX1_valueBy 102 = .ok (.goto 4, 3) := by decide +kernel
theorem dX1_valueBy_105 : decode cX1_valueBy 105 = .ok (.iconst 0, 1) := by decide +kernel
theorem dX1_valueBy_106 : decode cX1_valueBy 106 = .ok (.iastore, 1) := by decide +kernel
theorem dX1_valueBy_107 : decode cX1_valueBy 107 = .ok (.goto 38, 3) := by decide +kernel
theorem dX1_valueBy_110 : decode cX1_valueBy 110 = .ok (.iload_n 2, 1) := by decide +kernel
theorem dX1_valueBy_111 : decode cX1_valueBy 111 = .ok (.iconst 1, 1) := by decide +kernel
theorem dX1_valueBy_112 : decode cX1_valueBy 112 = .ok (.if_icmp .le 33, 3) := by decide +kernel
theorem dX1_valueBy_115 : decode cX1_valueBy 115 = .ok (.iinc 2 (-1), 3) := by decide +kernel
theorem dX1_valueBy_118 : decode cX1_valueBy 118 = .ok (.aload_n 0, 1) := by decide +kernel
theorem dX1_valueBy_119 : decode cX1_valueBy 119 = .ok (.getfield 18, 3) := by decide +kernel
theorem dX1_valueBy_122 : decode cX1_valueBy 122 = .ok (.iload_n 2, 1) := by decide +kernel
theorem dX1_valueBy_123 : decode cX1_valueBy 123 = .ok (.iconst 1, 1) := by decide +kernel
theorem dX1_valueBy_124 : decode cX1_valueBy 124 = .ok (.isub, 1) := by decide +kernel
theorem dX1_valueBy_125 : decode cX1_valueBy 125 = .ok (.iload 4, 2) := by decide +kernel
theorem dX1_valueBy_127 : decode cX1_valueBy 127 = .ok (.aload_n 0, 1) := by decide +kernel
theorem dX1_valueBy_128 : decode cX1_valueBy 128 = .ok (.getfield 18, 3) := by decide +kernel
theorem dX1_valueBy_131 : decode cX1_valueBy 131 = .ok (.iload_n 2, 1) := by decide +kernel
theorem dX1_valueBy_132 : decode cX1_valueBy 132 = .ok (.iconst 1, 1) := by decide +kernel
theorem dX1_valueBy_133 : decode cX1_valueBy 133 = .ok (.isub, 1) := by decide +kernel
theorem dX1_valueBy_134 : decode cX1_valueBy 134 = .ok (.iaload, 1) := by decide +kernel
theorem dX1_valueBy_135 : decode cX1_valueBy 135 = .ok (.aload_n 0, 1) := by decide +kernel
theorem dX1_valueBy_136 : decode cX1_valueBy 136 = .ok (.getfield 18, 3) := by decide +kernel
theorem dX1_valueBy_139 : decode cX1_valueBy 139 = .ok (.iload_n 2, 1) := by decide +kernel
theorem dX1_valueBy_140 : decode cX1_valueBy 140 = .ok (.iaload, 1) := by decide +kernel
theorem dX1_valueBy_141 : decode cX1_valueBy 141 = .ok (.invokestatic 38, 3) := by decide +kernel
theorem dX1_valueBy_144 : decode cX1_valueBy 144 = .ok (.iastore, 1) := by decide +kernel
theorem dX1_valueBy_145 : decode cX1_valueBy 145 = .ok (.iinc 3 1, 3) := by decide +kernel
theorem dX1_valueBy_148 : decode cX1_valueBy 148 = .ok (.goto (-144), 3) := by decide +kernel
theorem dX1_valueBy_151 : decode cX1_valueBy 151 = .ok (.iload_n 2, 1) := by decide +kernel
theorem dX1_valueBy_152 : decode cX1_valueBy 152 = .ok (.ifCond .le 12, 3) := by decide +kernel
theorem dX1_valueBy_155 : decode cX1_valueBy 155 = .ok (.aload_n 0, 1) := by decide +kernel
theorem dX1_valueBy_156 : decode cX1_valueBy 156 = .ok (.getfield 18, 3) := by decide +kernel
theorem dX1_valueBy_159 : decode cX1_valueBy 159 = .ok (.iconst 0, 1) := by decide +kernel
theorem dX1_valueBy_160 : decode cX1_valueBy 160 = .ok (.iaload, 1) := by decide +kernel
theorem dX1_valueBy_161 : decode cX1_valueBy 161 = .ok (.goto 4, 3) := by decide +kernel
theorem dX1_valueBy_164 : decode cX1_valueBy 164 = .ok (.iconst 0, 1) := by decide +kernel
theorem dX1_valueBy_165 : decode cX1_valueBy 165 = .ok (.ireturn, 1) := by decide +kernel
theorem dX1_joined_0 : decode cX1_joined 0 = .ok (.iload_n 0, 1) := by decide +kernel
theorem dX1_joined_1 : decode cX1_joined 1 = .ok (.lookupswitch 166 #[(16, 152), (37, 107), (42, 91), (43, 83), (45, 87), (47, 95), (60, 119), (61, 141), (62, 130)], 83) := by decide +kernel
theorem dX1_joined_84 : decode cX1_joined 84 = .ok (.iload_n 1, 1) := by decide +kernel
theorem dX1_joined_85 : decode cX1_joined 85 = .ok (.iload_n 2, 1) := by decide +kernel
theorem dX1_joined_86 : decode cX1_joined 86 = .ok (.iadd, 1) := by decide +kernel
theorem dX1_joined_87 : decode cX1_joined 87 = .ok (.ireturn, 1) := by decide +kernel
theorem dX1_joined_88 : decode cX1_joined 88 = .ok (.iload_n 1, 1) := by decide +kernel
theorem dX1_joined_89 : decode cX1_joined 89 = .ok (.iload_n 2, 1) := by decide +kernel
theorem dX1_joined_90 : decode cX1_joined 90 = .ok (.isub, 1) := by decide +kernel
theorem dX1_joined_91 : decode cX1_joined 91 = .ok (.ireturn, 1) := by decide +kernel
theorem dX1_joined_92 : decode cX1_joined 92 = .ok (.iload_n 1, 1) := by decide +kernel
theorem dX1_joined_93 : decode cX1_joined 93 = .ok (.iload_n 2, 1) := by decide +kernel
theorem dX1_joined_94 : decode cX1_joined 94 = .ok (.imul, 1) := by decide +kernel
theorem dX1_joined_95 : decode cX1_joined 95 = .ok (.ireturn, 1) := by decide +kernel
theorem dX1_joined_96 : decode cX1_joined 96 = .ok (.iload_n 2, 1) := by decide +kernel
theorem dX1_joined_97 : decode cX1_joined 97 = .ok (.ifCond .ne 7, 3) := by decide +kernel
theorem dX1_joined_100 : decode cX1_joined 100 = .ok (.iconst 0, 1) := by decide +kernel
theorem dX1_joined_101 : decode cX1_joined 101 = .ok (.goto 6, 3) := by decide +kernel
theorem dX1_joined_104 : decode cX1_joined 104 = .ok (.iload_n 1, 1) := by decide +kernel
theorem dX1_joined_105 : decode cX1_joined 105 = .ok (.iload_n 2, 1) := by decide +kernel
theorem dX1_joined_106 : decode cX1_joined 106 = .ok (.idiv, 1) := by decide +kernel
theorem dX1_joined_107 : decode cX1_joined 107 = .ok (.ireturn, 1) := by decide +kernel
theorem dX1_joined_108 : decode cX1_joined 108 = .ok (.iload_n 2, 1) := by decide +kernel
theorem dX1_joined_109 : decode cX1_joined 109 = .ok (.ifCond .ne 7, 3) := by decide +kernel
theorem dX1_joined_112 : decode cX1_joined 112 = .ok (.iconst 0, 1) := by decide +kernel
theorem dX1_joined_113 : decode cX1_joined 113 = .ok (.goto 6, 3) := by decide +kernel
theorem dX1_joined_116 : decode cX1_joined 116 = .ok (.iload_n 1, 1) := by decide +kernel
theorem dX1_joined_117 : decode cX1_joined 117 = .ok (.iload_n 2, 1) := by decide +kernel
theorem dX1_joined_118 : decode cX1_joined 118 = .ok (.irem, 1) := by decide +kernel
theorem dX1_joined_119 : decode cX1_joined 119 = .ok (.ireturn, 1) := by decide +kernel
theorem dX1_joined_120 : decode cX1_joined 120 = .ok (.iload_n 1, 1) := by decide +kernel
theorem dX1_joined_121 : decode cX1_joined 121 = .ok (.iload_n 2, 1) := by decide +kernel
theorem dX1_joined_122 : decode cX1_joined 122 = .ok (.if_icmp .ge 7, 3) := by decide +kernel
theorem dX1_joined_125 : decode cX1_joined 125 = .ok (.iconst 1, 1) := by decide +kernel
theorem dX1_joined_126 : decode cX1_joined 126 = .ok (.goto 4, 3) := by decide +kernel
theorem dX1_joined_129 : decode cX1_joined 129 = .ok (.iconst 0, 1) := by decide +kernel
theorem dX1_joined_130 : decode cX1_joined 130 = .ok (.ireturn, 1) := by decide +kernel
theorem dX1_joined_131 : decode cX1_joined 131 = .ok (.iload_n 1, 1) := by decide +kernel
theorem dX1_joined_132 : decode cX1_joined 132 = .ok (.iload_n 2, 1) := by decide +kernel
theorem dX1_joined_133 : decode cX1_joined 133 = .ok (.if_icmp .le 7, 3) := by decide +kernel
theorem dX1_joined_136 : decode cX1_joined 136 = .ok (.iconst 1, 1) := by decide +kernel
theorem dX1_joined_137 : decode cX1_joined 137 = .ok (.goto 4, 3) := by decide +kernel
theorem dX1_joined_140 : decode cX1_joined 140 = .ok (.iconst 0, 1) := by decide +kernel
theorem dX1_joined_141 : decode cX1_joined 141 = .ok (.ireturn, 1) := by decide +kernel
theorem dX1_joined_142 : decode cX1_joined 142 = .ok (.iload_n 1, 1) := by decide +kernel
theorem dX1_joined_143 : decode cX1_joined 143 = .ok (.iload_n 2, 1) := by decide +kernel
theorem dX1_joined_144 : decode cX1_joined 144 = .ok (.if_icmp .ne 7, 3) := by decide +kernel
theorem dX1_joined_147 : decode cX1_joined 147 = .ok (.iconst 1, 1) := by decide +kernel
theorem dX1_joined_148 : decode cX1_joined 148 = .ok (.goto 4, 3) := by decide +kernel
theorem dX1_joined_151 : decode cX1_joined 151 = .ok (.iconst 0, 1) := by decide +kernel
theorem dX1_joined_152 : decode cX1_joined 152 = .ok (.ireturn, 1) := by decide +kernel
theorem dX1_joined_153 : decode cX1_joined 153 = .ok (.iload_n 1, 1) := by decide +kernel
theorem dX1_joined_154 : decode cX1_joined 154 = .ok (.ifCond .eq 11, 3) := by decide +kernel
theorem dX1_joined_157 : decode cX1_joined 157 = .ok (.iload_n 2, 1) := by decide +kernel
theorem dX1_joined_158 : decode cX1_joined 158 = .ok (.ifCond .eq 7, 3) := by decide +kernel
theorem dX1_joined_161 : decode cX1_joined 161 = .ok (.iconst 1, 1) := by decide +kernel
theorem dX1_joined_162 : decode cX1_joined 162 = .ok (.goto 4, 3) := by decide +kernel
theorem dX1_joined_165 : decode cX1_joined 165 = .ok (.iconst 0, 1) := by decide +kernel
theorem dX1_joined_166 : decode cX1_joined 166 = .ok (.ireturn, 1) := by decide +kernel
theorem dX1_joined_167 : decode cX1_joined 167 = .ok (.iload_n 1, 1) := by decide +kernel
theorem dX1_joined_168 : decode cX1_joined 168 = .ok (.ifCond .ne 7, 3) := by decide +kernel
theorem dX1_joined_171 : decode cX1_joined 171 = .ok (.iload_n 2, 1) := by decide +kernel
theorem dX1_joined_172 : decode cX1_joined 172 = .ok (.ifCond .eq 7, 3) := by decide +kernel
theorem dX1_joined_175 : decode cX1_joined 175 = .ok (.iconst 1, 1) := by decide +kernel
theorem dX1_joined_176 : decode cX1_joined 176 = .ok (.goto 4, 3) := by decide +kernel
theorem dX1_joined_179 : decode cX1_joined 179 = .ok (.iconst 0, 1) := by decide +kernel
theorem dX1_joined_180 : decode cX1_joined 180 = .ok (.ireturn, 1) := by decide +kernel
theorem dX2_init_0 : decode cX2_init 0 = .ok (.aload_n 0, 1) := by decide +kernel
theorem dX2_init_1 : decode cX2_init 1 = .ok (.invokespecial 3, 3) := by decide +kernel
theorem dX2_init_4 : decode cX2_init 4 = .ok (.aload_n 0, 1) := by decide +kernel
theorem dX2_init_5 : decode cX2_init 5 = .ok (.bipush 41, 2) := by decide +kernel
theorem dX2_init_7 : decode cX2_init 7 = .ok (.anewarray 11, 3) := by decide +kernel
theorem dX2_init_10 : decode cX2_init 10 = .ok (.putfield 13, 3) := by decide +kernel
theorem dX2_init_13 : decode cX2_init 13 = .ok (.iconst 0, 1) := by decide +kernel
theorem dX2_init_14 : decode cX2_init 14 = .ok (.istore_n 1, 1) := by decide +kernel
theorem dX2_init_15 : decode cX2_init 15 = .ok (.iload_n 1, 1) := by decide +kernel
theorem dX2_init_16 : decode cX2_init 16 = .ok (.bipush 41, 2) := by decide +kernel
theorem dX2_init_18 : decode cX2_init 18 = .ok (.if_icmp .ge 22, 3) := by decide +kernel
theorem dX2_init_21 : decode cX2_init 21 = .ok (.aload_n 0, 1) := by decide +kernel
theorem dX2_init_22 : decode cX2_init 22 = .ok (.getfield 13, 3) := by decide +kernel
theorem dX2_init_25 : decode cX2_init 25 = .ok (.iload_n 1, 1) := by decide +kernel
theorem dX2_init_26 : decode cX2_init 26 = .ok (.new 11, 3) := by decide +kernel
theorem dX2_init_29 : decode cX2_init 29 = .ok (.dup, 1) := by decide +kernel
theorem dX2_init_30 : decode cX2_init 30 = .ok (.invokespecial 17, 3) := by decide +kernel
theorem dX2_init_33 : decode cX2_init 33 = .ok (.aastore, 1) := by decide +kernel
theorem dX2_init_34 : decode cX2_init 34 = .ok (.iinc 1 1, 3) := by decide +kernel
theorem dX2_init_37 : decode cX2_init 37 = .ok (.goto (-22), 3) := by decide +kernel
theorem dX2_init_40 : decode cX2_init 40 = .ok (.return_, 1) := by decide +kernel
theorem dX2_restart_0 : decode cX2_restart 0 = .ok (.aload_n 0, 1) := by decide +kernel
theorem dX2_restart_1 : decode cX2_restart 1 = .ok (.iconst 0, 1) := by decide +kernel
theorem dX2_restart_2 : decode cX2_restart 2 = .ok (.putfield 18, 3) := by decide +kernel
theorem dX2_restart_5 : decode cX2_restart 5 = .ok (.aload_n 0, 1) := by decide +kernel
theorem dX2_restart_6 : decode cX2_restart 6 = .ok (.iconst 0, 1) := by decide +kernel
theorem dX2_restart_7 : decode cX2_restart 7 = .ok (.putfield 22, 3) := by decide +kernel
theorem dX2_restart_10 : decode cX2_restart 10 = .ok (.aload_n 0, 1) := by decide +kernel
theorem dX2_restart_11 : decode cX2_restart 11 = .ok (.iconst 0, 1) := by decide +kernel
theorem dX2_restart_12 : decode cX2_restart 12 = .ok (.putfield 25, 3) := by decide +kernel
theorem dX2_restart_15 : decode cX2_restart 15 = .ok (.aload_n 0, 1) := by decide +kernel
theorem dX2_restart_16 : decode cX2_restart 16 = .ok (.invokevirtual 28, 3) := by decide +kernel
theorem dX2_restart_19 : decode cX2_restart 19 = .ok (.aload_n 1, 1) := by decide +kernel
theorem dX2_restart_20 : decode cX2_restart 20 = .ok (.invokevirtual 32, 3) := by decide +kernel
theorem dX2_restart_23 : decode cX2_restart 23 = .ok (.return_, 1) := by decide +kernel
theorem dX2_add_0 : decode cX2_add 0 = .ok (.aload_n 0, 1) := by decide +kernel
theorem dX2_add_1 : decode cX2_add 1 = .ok (.iconst 0, 1) := by decide +kernel
theorem dX2_add_2 : decode cX2_add 2 = .ok (.putfield 25, 3) := by decide +kernel
theorem dX2_add_5 : decode cX2_add 5 = .ok (.aload_n 0, 1) := by decide +kernel
theorem dX2_add_6 : decode cX2_add 6 = .ok (.getfield 22, 3) := by decide +kernel
theorem dX2_add_9 : decode cX2_add 9 = .ok (.bipush 40, 2) := by decide +kernel
theorem dX2_add_11 : decode cX2_add 11 = .ok (.if_icmp .ge 16, 3) := by decide +kernel
theorem dX2_add_14 : decode cX2_add 14 = .ok (.aload_n 0, 1) := by decide +kernel
theorem dX2_add_15 : decode cX2_add 15 = .ok (.dup, 1) := by decide +kernel
theorem dX2_add_16 : decode cX2_add 16 = .ok (.getfield 22, 3) := by decide +kernel
theorem dX2_add_19 : decode cX2_add 19 = .ok (.iconst 1, 1) := by decide +kernel
theorem dX2_add_20 : decode cX2_add 20 = .ok (.iadd, 1) := by decide +kernel
theorem dX2_add_21 : decode cX2_add 21 = .ok (.putfield 22, 3) := by decide +kernel
theorem dX2_add_24 : decode cX2_add 24 = .ok (.goto 16, 3) := by decide +kernel
theorem dX2_add_27 : decode cX2_add 27 = .ok (.aload_n 0, 1) := by decide +kernel
theorem dX2_add_28 : decode cX2_add 28 = .ok (.aload_n 0, 1) := by decide +kernel
theorem dX2_add_29 : decode cX2_add 29 = .ok (.getfield 18, 3) := by decide +kernel
theorem dX2_add_32 : decode cX2_add 32 = .ok (.iconst 1, 1) := by decide +kernel
theorem dX2_add_33 : decode cX2_add 33 = .ok (.iadd, 1) := by decide +kernel
theorem dX2_add_34 : decode cX2_add 34 = .ok (.bipush 41, 2) := by decide +kernel
theorem dX2_add_36 : decode cX2_add 36 = .ok (.irem, 1) := by decide +kernel
theorem dX2_add_37 : decode cX2_add 37 = .ok (.putfield 18, 3) := by decide +kernel
theorem dX2_add_40 : decode cX2_add 40 = .ok (.aload_n 0, 1) := by decide +kernel
theorem dX2_add_41 : decode cX2_add 41 = .ok (.invokevirtual 28, 3) := by decide +kernel
theorem dX2_add_44 : decode cX2_add 44 = .ok (.aload_n 1, 1) := by decide +kernel
theorem dX2_add_45 : decode cX2_add 45 = .ok (.invokevirtual 32, 3) := by decide +kernel
theorem dX2_add_48 : decode cX2_add 48 = .ok (.return_, 1) := by decide +kernel
theorem dX2_goBack_0 : decode cX2_goBack 0 = .ok (.aload_n 0, 1) := by decide +kernel
theorem dX2_goBack_1 : decode cX2_goBack 1 = .ok (.getfield 22, 3) := by decide +kernel
theorem dX2_goBack_4 : decode cX2_goBack 4 = .ok (.ifCond .ne 5, 3) := by decide +kernel
theorem dX2_goBack_7 : decode cX2_goBack 7 = .ok (.iconst 0, 1) := by decide +kernel
theorem dX2_goBack_8 : decode cX2_goBack 8 = .ok (.ireturn, 1) := by decide +kernel
theorem dX2_goBack_9 : decode cX2_goBack 9 = .ok (.aload_n 0, 1) := by decide +kernel
theorem dX2_goBack_10 : decode cX2_goBack 10 = .ok (.dup, 1) := by decide +kernel
theorem dX2_goBack_11 : decode cX2_goBack 11 = .ok (.getfield 22, 3) := by decide +kernel
theorem dX2_goBack_14 : decode cX2_goBack 14 = .ok (.iconst 1, 1) := by decide +kernel
theorem dX2_goBack_15 : decode cX2_goBack 15 = .ok (.isub, 1) := by decide +kernel
theorem dX2_goBack_16 : decode cX2_goBack 16 = .ok (.putfield 22, 3) := by decide +kernel
theorem dX2_goBack_19 : decode cX2_goBack 19 = .ok (.aload_n 0, 1) := by decide +kernel
theorem dX2_goBack_20 : decode cX2_goBack 20 = .ok (.dup, 1) := by decide +kernel
theorem dX2_goBack_21 : decode cX2_goBack 21 = .ok (.getfield 25, 3) := by decide +kernel
theorem dX2_goBack_24 : decode cX2_goBack 24 = .ok (.iconst 1, 1) := by decide +kernel
theorem dX2_goBack_25 : decode cX2_goBack 25 = .ok (.iadd, 1) := by decide +kernel
theorem dX2_goBack_26 : decode cX2_goBack 26 = .ok (.putfield 25, 3) := by decide +kernel
theorem dX2_goBack_29 : decode cX2_goBack 29 = .ok (.aload_n 1, 1) := by decide +kernel
theorem dX2_goBack_30 : decode cX2_goBack 30 = .ok (.aload_n 0, 1) := by decide +kernel
theorem dX2_goBack_31 : decode cX2_goBack 31 = .ok (.invokevirtual 28, 3) := by decide +kernel
theorem dX2_goBack_34 : decode cX2_goBack 34 = .ok (.invokevirtual 32, 3) := by decide +kernel
theorem dX2_goBack_37 : decode cX2_goBack 37 = .ok (.iconst 1, 1) := by decide +kernel
theorem dX2_goBack_38 : decode cX2_goBack 38 = .ok (.ireturn, 1) := by decide +kernel
theorem dX2_goOn_0 : decode cX2_goOn 0 = .ok (.aload_n 0, 1) := by decide +kernel
theorem dX2_goOn_1 : decode cX2_goOn 1 = .ok (.getfield 25, 3) := by decide +kernel
theorem dX2_goOn_4 : decode cX2_goOn 4 = .ok (.ifCond .ne 5, 3) := by decide +kernel
theorem dX2_goOn_7 : decode cX2_goOn 7 = .ok (.iconst 0, 1) := by decide +kernel
theorem dX2_goOn_8 : decode cX2_goOn 8 = .ok (.ireturn, 1) := by decide +kernel
theorem dX2_goOn_9 : decode cX2_goOn 9 = .ok (.aload_n 0, 1) := by decide +kernel
theorem dX2_goOn_10 : decode cX2_goOn 10 = .ok (.dup, 1) := by decide +kernel
theorem dX2_goOn_11 : decode cX2_goOn 11 = .ok (.getfield 22, 3) := by decide +kernel
theorem dX2_goOn_14 : decode cX2_goOn 14 = .ok (.iconst 1, 1) := by decide +kernel
theorem dX2_goOn_15 : decode cX2_goOn 15 = .ok (.iadd, 1) := by decide +kernel
theorem dX2_goOn_16 : decode cX2_goOn 16 = .ok (.putfield 22, 3) := by decide +kernel
theorem dX2_goOn_19 : decode cX2_goOn 19 = .ok (.aload_n 0, 1) := by decide +kernel
theorem dX2_goOn_20 : decode cX2_goOn 20 = .ok (.dup, 1) := by decide +kernel
theorem dX2_goOn_21 : decode cX2_goOn 21 = .ok (.getfield 25, 3) := by decide +kernel
theorem dX2_goOn_24 : decode cX2_goOn 24 = .ok (.iconst 1, 1) := by decide +kernel
theorem dX2_goOn_25 : decode cX2_goOn 25 = .ok (.isub, 1) := by decide +kernel
theorem dX2_goOn_26 : decode cX2_goOn 26 = .ok (.putfield 25, 3) := by decide +kernel
theorem dX2_goOn_29 : decode cX2_goOn 29 = .ok (.aload_n 1, 1) := by decide +kernel
theorem dX2_goOn_30 : decode cX2_goOn 30 = .ok (.aload_n 0, 1) := by decide +kernel
theorem dX2_goOn_31 : decode cX2_goOn 31 = .ok (.invokevirtual 28, 3) := by decide +kernel
theorem dX2_goOn_34 : decode cX2_goOn 34 = .ok (.invokevirtual 32, 3) := by decide +kernel
theorem dX2_goOn_37 : decode cX2_goOn 37 = .ok (.iconst 1, 1) := by decide +kernel
theorem dX2_goOn_38 : decode cX2_goOn 38 = .ok (.ireturn, 1) := by decide +kernel
theorem dX2_current_0 : decode cX2_current 0 = .ok (.aload_n 0, 1) := by decide +kernel
theorem dX2_current_1 : decode cX2_current 1 = .ok (.getfield 13, 3) := by decide +kernel
theorem dX2_current_4 : decode cX2_current 4 = .ok (.aload_n 0, 1) := by decide +kernel
theorem dX2_current_5 : decode cX2_current 5 = .ok (.getfield 18, 3) := by decide +kernel
theorem dX2_current_8 : decode cX2_current 8 = .ok (.aload_n 0, 1) := by decide +kernel
theorem dX2_current_9 : decode cX2_current 9 = .ok (.getfield 22, 3) := by decide +kernel
theorem dX2_current_12 : decode cX2_current 12 = .ok (.iadd, 1) := by decide +kernel
theorem dX2_current_13 : decode cX2_current 13 = .ok (.bipush 41, 2) := by decide +kernel
theorem dX2_current_15 : decode cX2_current 15 = .ok (.irem, 1) := by decide +kernel
theorem dX2_current_16 : decode cX2_current 16 = .ok (.aaload, 1) := by decide +kernel
theorem dX2_current_17 : decode cX2_current 17 = .ok (.areturn, 1) := by decide +kernel
theorem dX3_init_0 : decode cX3_init 0 = .ok (.aload_n 0, 1) := by decide +kernel
theorem dX3_init_1 : decode cX3_init 1 = .ok (.invokespecial 3, 3) := by decide +kernel
theorem dX3_init_4 : decode cX3_init 4 = .ok (.aload_n 0, 1) := by decide +kernel
theorem dX3_init_5 : decode cX3_init 5 = .ok (.iconst 5, 1) := by decide +kernel
theorem dX3_init_6 : decode cX3_init 6 = .ok (.newarray .int, 2) := by decide +kernel
theorem dX3_init_8 : decode cX3_init 8 = .ok (.putfield 9, 3) := by decide +kernel
theorem dX3_init_11 : decode cX3_init 11 = .ok (.return_, 1) := by decide +kernel
theorem dX3_clear_0 : decode cX3_clear 0 = .ok (.aload_n 0, 1) := by decide +kernel
theorem dX3_clear_1 : decode cX3_clear 1 = .ok (.iconst 0, 1) := by decide +kernel
theorem dX3_clear_2 : decode cX3_clear 2 = .ok (.putfield 15, 3) := by decide +kernel
theorem dX3_clear_5 : decode cX3_clear 5 = .ok (.return_, 1) := by decide +kernel
theorem dX3_add_0 : decode cX3_add 0 = .ok (.aload_n 0, 1) := by decide +kernel
theorem dX3_add_1 : decode cX3_add 1 = .ok (.getfield 15, 3) := by decide +kernel
theorem dX3_add_4 : decode cX3_add 4 = .ok (.aload_n 0, 1) := by decide +kernel
theorem dX3_add_5 : decode cX3_add 5 = .ok (.getfield 9, 3) := by decide +kernel
theorem dX3_add_8 : decode cX3_add 8 = .ok (.arraylength, 1) := by decide +kernel
theorem dX3_add_9 : decode cX3_add 9 = .ok (.if_icmp .ge 23, 3) := by decide +kernel
theorem dX3_add_12 : decode cX3_add 12 = .ok (.aload_n 0, 1) := by decide +kernel
theorem dX3_add_13 : decode cX3_add 13 = .ok (.getfield 9, 3) := by decide +kernel
theorem dX3_add_16 : decode cX3_add 16 = .ok (.aload_n 0, 1) := by decide +kernel
theorem dX3_add_17 : decode cX3_add 17 = .ok (.getfield 15, 3) := by decide +kernel
theorem dX3_add_20 : decode cX3_add 20 = .ok (.iload_n 1, 1) := by decide +kernel
theorem dX3_add_21 : decode cX3_add 21 = .ok (.iastore, 1) := by decide +kernel
theorem dX3_add_22 : decode cX3_add 22 = .ok (.aload_n 0, 1) := by decide +kernel
theorem dX3_add_23 : decode cX3_add 23 = .ok (.dup, 1) := by decide +kernel
theorem dX3_add_24 : decode cX3_add 24 = .ok (.getfield 15, 3) := by decide +kernel
theorem dX3_add_27 : decode cX3_add 27 = .ok (.iconst 1, 1) := by decide +kernel
theorem dX3_add_28 : decode cX3_add 28 = .ok (.iadd, 1) := by decide +kernel
theorem dX3_add_29 : decode cX3_add 29 = .ok (.putfield 15, 3) := by decide +kernel
theorem dX3_add_32 : decode cX3_add 32 = .ok (.return_, 1) := by decide +kernel
theorem dX3_at_0 : decode cX3_at 0 = .ok (.iload_n 1, 1) := by decide +kernel
theorem dX3_at_1 : decode cX3_at 1 = .ok (.ifCond .lt 20, 3) := by decide +kernel
theorem dX3_at_4 : decode cX3_at 4 = .ok (.iload_n 1, 1) := by decide +kernel
theorem dX3_at_5 : decode cX3_at 5 = .ok (.aload_n 0, 1) := by decide +kernel
theorem dX3_at_6 : decode cX3_at 6 = .ok (.getfield 15, 3) := by decide +kernel
theorem dX3_at_9 : decode cX3_at 9 = .ok (.if_icmp .ge 12, 3) := by decide +kernel
theorem dX3_at_12 : decode cX3_at 12 = .ok (.aload_n 0, 1) := by decide +kernel
theorem dX3_at_13 : decode cX3_at 13 = .ok (.getfield 9, 3) := by decide +kernel
theorem dX3_at_16 : decode cX3_at 16 = .ok (.iload_n 1, 1) := by decide +kernel
theorem dX3_at_17 : decode cX3_at 17 = .ok (.iaload, 1) := by decide +kernel
theorem dX3_at_18 : decode cX3_at 18 = .ok (.goto 5, 3) := by decide +kernel
theorem dX3_at_21 : decode cX3_at 21 = .ok (.bipush (-2), 2) := by decide +kernel
theorem dX3_at_23 : decode cX3_at 23 = .ok (.ireturn, 1) := by decide +kernel
theorem dX4_init_0 : decode cX4_init 0 = .ok (.aload_n 0, 1) := by decide +kernel
theorem dX4_init_1 : decode cX4_init 1 = .ok (.invokespecial 5, 3) := by decide +kernel
theorem dX4_init_4 : decode cX4_init 4 = .ok (.aload_n 0, 1) := by decide +kernel
theorem dX4_init_5 : decode cX4_init 5 = .ok (.new 11, 3) := by decide +kernel
theorem dX4_init_8 : decode cX4_init 8 = .ok (.dup, 1) := by decide +kernel
theorem dX4_init_9 : decode cX4_init 9 = .ok (.invokespecial 13, 3) := by decide +kernel
theorem dX4_init_12 : decode cX4_init 12 = .ok (.putfield 14, 3) := by decide +kernel
theorem dX4_init_15 : decode cX4_init 15 = .ok (.aload_n 0, 1) := by decide +kernel
theorem dX4_init_16 : decode cX4_init 16 = .ok (.bipush 36, 2) := by decide +kernel
theorem dX4_init_18 : decode cX4_init 18 = .ok (.newarray .int, 2) := by decide +kernel
theorem dX4_init_20 : decode cX4_init 20 = .ok (.putfield 18, 3) := by decide +kernel
theorem dX4_init_23 : decode cX4_init 23 = .ok (.aload_n 0, 1) := by decide +kernel
theorem dX4_init_24 : decode cX4_init 24 = .ok (.bipush 36, 2) := by decide +kernel
theorem dX4_init_26 : decode cX4_init 26 = .ok (.newarray .int, 2) := by decide +kernel
theorem dX4_init_28 : decode cX4_init 28 = .ok (.putfield 22, 3) := by decide +kernel
theorem dX4_init_31 : decode cX4_init 31 = .ok (.aload_n 0, 1) := by decide +kernel
theorem dX4_init_32 : decode cX4_init 32 = .ok (.bipush 80, 2) := by decide +kernel
theorem dX4_init_34 : decode cX4_init 34 = .ok (.newarray .boolean, 2) := by decide +kernel
theorem dX4_init_36 : decode cX4_init 36 = .ok (.putfield 25, 3) := by decide +kernel
theorem dX4_init_39 : decode cX4_init 39 = .ok (.aload_n 0, 1) := by decide +kernel
theorem dX4_init_40 : decode cX4_init 40 = .ok (.iconst 5, 1) := by decide +kernel
theorem dX4_init_41 : decode cX4_init 41 = .ok (.newarray .int, 2) := by decide +kernel
theorem dX4_init_43 : decode cX4_init 43 = .ok (.putfield 29, 3) := by decide +kernel
theorem dX4_init_46 : decode cX4_init 46 = .ok (.aload_n 0, 1) := by decide +kernel
theorem dX4_init_47 : decode cX4_init 47 = .ok (.iconst 5, 1) := by decide +kernel
theorem dX4_init_48 : decode cX4_init 48 = .ok (.newarray .int, 2) := by decide +kernel
theorem dX4_init_50 : decode cX4_init 50 = .ok (.putfield 32, 3) := by decide +kernel
theorem dX4_init_53 : decode cX4_init 53 = .ok (.aload_n 0, 1) := by decide +kernel
theorem dX4_init_54 : decode cX4_init 54 = .ok (.iconst 5, 1) := by decide +kernel
theorem dX4_init_55 : decode cX4_init 55 = .ok (.newarray .int, 2) := by decide +kernel
theorem dX4_init_57 : decode cX4_init 57 = .ok (.putfield 35, 3) := by decide +kernel
theorem dX4_init_60 : decode cX4_init 60 = .ok (.aload_n 0, 1) := by decide +kernel
theorem dX4_init_61 : decode cX4_init 61 = .ok (.aload_n 1, 1) := by decide +kernel
theorem dX4_init_62 : decode cX4_init 62 = .ok (.putfield 38, 3) := by decide +kernel
theorem dX4_init_65 : decode cX4_init 65 = .ok (.aload_n 0, 1) := by decide +kernel
theorem dX4_init_66 : decode cX4_init 66 = .ok (.aload_n 1, 1) := by decide +kernel
theorem dX4_init_67 : decode cX4_init 67 = .ok (.getfield 42, 3) := by decide +kernel
theorem dX4_init_70 : decode cX4_init 70 = .ok (.putfield 48, 3) := by decide +kernel
theorem dX4_init_73 : decode cX4_init 73 = .ok (.aload_n 0, 1) := by decide +kernel
theorem dX4_init_74 : decode cX4_init 74 = .ok (.aload_n 2, 1) := by decide +kernel
theorem dX4_init_75 : decode cX4_init 75 = .ok (.putfield 49, 3) := by decide +kernel
theorem dX4_init_78 : decode cX4_init 78 = .ok (.aload_n 0, 1) := by decide +kernel
theorem dX4_init_79 : decode cX4_init 79 = .ok (.aload_n 3, 1) := by decide +kernel
theorem dX4_init_80 : decode cX4_init 80 = .ok (.putfield 52, 3) := by decide +kernel
theorem dX4_init_83 : decode cX4_init 83 = .ok (.return_, 1) := by decide +kernel
theorem dX4_upBehind_0 : decode cX4_upBehind 0 = .ok (.aload_n 0, 1) := by decide +kernel
theorem dX4_upBehind_1 : decode cX4_upBehind 1 = .ok (.getfield 14, 3) := by decide +kernel
theorem dX4_upBehind_4 : decode cX4_upBehind 4 = .ok (.aload_n 0, 1) := by decide +kernel
theorem dX4_upBehind_5 : decode cX4_upBehind 5 = .ok (.getfield 49, 3) := by decide +kernel
theorem dX4_upBehind_8 : decode cX4_upBehind 8 = .ok (.invokevirtual 56, 3) := by decide +kernel
theorem dX4_upBehind_11 : decode cX4_upBehind 11 = .ok (.iconst 0, 1) := by decide +kernel
theorem dX4_upBehind_12 : decode cX4_upBehind 12 = .ok (.istore_n 3, 1) := by decide +kernel
theorem dX4_upBehind_13 : decode cX4_upBehind 13 = .ok (.iload_n 3, 1) := by decide +kernel
theorem dX4_upBehind_14 : decode cX4_upBehind 14 = .ok (.iload_n 1, 1) := by decide +kernel
theorem dX4_upBehind_15 : decode cX4_upBehind 15 = .ok (.if_icmp .ge 58, 3) := by decide +kernel
theorem dX4_upBehind_18 : decode cX4_upBehind 18 = .ok (.aload_n 0, 1) := by decide +kernel
theorem dX4_upBehind_19 : decode cX4_upBehind 19 = .ok (.getfield 38, 3) := by decide +kernel
theorem dX4_upBehind_22 : decode cX4_upBehind 22 = .ok (.aload_n 0, 1) := by decide +kernel
theorem dX4_upBehind_23 : decode cX4_upBehind 23 = .ok (.getfield 14, 3) := by decide +kernel
theorem dX4_upBehind_26 : decode cX4_upBehind 26 = .ok (.invokevirtual 60, 3) := by decide +kernel
theorem dX4_upBehind_29 : decode cX4_upBehind 29 = .ok (.ifCond .ne 44, 3) := by decide +kernel
theorem dX4_upBehind_32 : decode cX4_upBehind 32 = .ok (.iload_n 2, 1) := by decide +kernel
theorem dX4_upBehind_33 : decode cX4_upBehind 33 = .ok (.ifCond .eq 17, 3) := by decide +kernel
theorem dX4_upBehind_36 : decode cX4_upBehind 36 = .ok (.aload_n 0, 1) := by decide +kernel
theorem dX4_upBehind_37 : decode cX4_upBehind 37 = .ok (.getfield 38, 3) := by decide +kernel
theorem dX4_upBehind_40 : decode cX4_upBehind 40 = .ok (.aload_n 0, 1) := by decide +kernel
theorem dX4_upBehind_41 : decode cX4_upBehind 41 = .ok (.getfield 14, 3) := by decide +kernel
theorem dX4_upBehind_44 : decode cX4_upBehind 44 = .ok (.invokevirtual 64, 3) := by decide +kernel
theorem dX4_upBehind_47 : decode cX4_upBehind 47 = .ok (.goto 4, 3) := by decide +kernel
theorem dX4_upBehind_50 : decode cX4_upBehind 50 = .ok (.iconst 0, 1) := by decide +kernel
theorem dX4_upBehind_51 : decode cX4_upBehind 51 = .ok (.istore 4, 2) := by decide +kernel
theorem dX4_upBehind_53 : decode cX4_upBehind 53 = .ok (.aload_n 0, 1) := by decide +kernel
theorem dX4_upBehind_54 : decode cX4_upBehind 54 = .ok (.getfield 38, 3) := by decide +kernel
theorem dX4_upBehind_57 : decode cX4_upBehind 57 = .ok (.aload_n 0, 1) := by decide +kernel
theorem dX4_upBehind_58 : decode cX4_upBehind 58 = .ok (.getfield 14, 3) := by decide +kernel
theorem dX4_upBehind_61 : decode cX4_upBehind 61 = .ok (.iload 4, 2) := by decide +kernel
theorem dX4_upBehind_63 : decode cX4_upBehind 63 = .ok (.invokevirtual 68, 3) := by decide +kernel
theorem dX4_upBehind_66 : decode cX4_upBehind 66 = .ok (.pop, 1) := by decide +kernel
theorem dX4_upBehind_67 : decode cX4_upBehind 67 = .ok (.iinc 3 1, 3) := by decide +kernel
theorem dX4_upBehind_70 : decode cX4_upBehind 70 = .ok (.goto (-57), 3) := by decide +kernel
theorem dX4_upBehind_73 : decode cX4_upBehind 73 = .ok (.aload_n 0, 1) := by decide +kernel
theorem dX4_upBehind_74 : decode cX4_upBehind 74 = .ok (.getfield 14, 3) := by decide +kernel
theorem dX4_upBehind_77 : decode cX4_upBehind 77 = .ok (.getfield 72, 3) := by decide +kernel
theorem dX4_upBehind_80 : decode cX4_upBehind 80 = .ok (.ireturn, 1) := by decide +kernel
theorem dX4_howFar_0 : decode cX4_howFar 0 = .ok (.aload_n 0, 1) := by decide +kernel
theorem dX4_howFar_1 : decode cX4_howFar 1 = .ok (.getfield 14, 3) := by decide +kernel
theorem dX4_howFar_4 : decode cX4_howFar 4 = .ok (.aload_n 0, 1) := by decide +kernel
theorem dX4_howFar_5 : decode cX4_howFar 5 = .ok (.getfield 49, 3) := by decide +kernel
theorem dX4_howFar_8 : decode cX4_howFar 8 = .ok (.invokevirtual 56, 3) := by decide +kernel
theorem dX4_howFar_11 : decode cX4_howFar 11 = .ok (.aload_n 0, 1) := by decide +kernel
theorem dX4_howFar_12 : decode cX4_howFar 12 = .ok (.getfield 14, 3) := by decide +kernel
theorem dX4_howFar_15 : decode cX4_howFar 15 = .ok (.getfield 76, 3) := by decide +kernel
theorem dX4_howFar_18 : decode cX4_howFar 18 = .ok (.istore_n 2, 1) := by decide +kernel
theorem dX4_howFar_19 : decode cX4_howFar 19 = .ok (.iconst 0, 1) := by decide +kernel
theorem dX4_howFar_20 : decode cX4_howFar 20 = .ok (.istore_n 3, 1) := by decide +kernel
theorem dX4_howFar_21 : decode cX4_howFar 21 = .ok (.iload_n 3, 1) := by decide +kernel
theorem dX4_howFar_22 : decode cX4_howFar 22 = .ok (.bipush 8, 2) := by decide +kernel
theorem dX4_howFar_24 : decode cX4_howFar 24 = .ok (.if_icmp .ge 41, 3) := by decide +kernel
theorem dX4_howFar_27 : decode cX4_howFar 27 = .ok (.aload_n 0, 1) := by decide +kernel
theorem dX4_howFar_28 : decode cX4_howFar 28 = .ok (.getfield 14, 3) := by decide +kernel
theorem dX4_howFar_31 : decode cX4_howFar 31 = .ok (.iload_n 1, 1) := by decide +kernel
theorem dX4_howFar_32 : decode cX4_howFar 32 = .ok (.invokevirtual 79, 3) := by decide +kernel
theorem dX4_howFar_35 : decode cX4_howFar 35 = .ok (.ifCond .eq 30, 3) := by decide +kernel
theorem dX4_howFar_38 : decode cX4_howFar 38 = .ok (.aload_n 0, 1) := by decide +kernel
theorem dX4_howFar_39 : decode cX4_howFar 39 = .ok (.getfield 14, 3) := by decide +kernel
theorem dX4_howFar_42 : decode cX4_howFar 42 = .ok (.getfield 76, 3) := by decide +kernel
theorem dX4_howFar_45 : decode cX4_howFar 45 = .ok (.istore_n 2, 1) := by decide +kernel
theorem dX4_howFar_46 : decode cX4_howFar 46 = .ok (.aload_n 0, 1) := by decide +kernel
theorem dX4_howFar_47 : decode cX4_howFar 47 = .ok (.getfield 38, 3) := by decide +kernel
theorem dX4_howFar_50 : decode cX4_howFar 50 = .ok (.aload_n 0, 1) := by decide +kernel
theorem dX4_howFar_51 : decode cX4_howFar 51 = .ok (.getfield 14, 3) := by decide +kernel
theorem dX4_howFar_54 : decode cX4_howFar 54 = .ok (.iconst 0, 1) := by decide +kernel
theorem dX4_howFar_55 : decode cX4_howFar 55 = .ok (.invokevirtual 68, 3) := by decide +kernel
theorem dX4_howFar_58 : decode cX4_howFar 58 = .ok (.pop, 1) := by decide +kernel
theorem dX4_howFar_59 : decode cX4_howFar 59 = .ok (.iinc 3 1, 3) := by decide +kernel
theorem dX4_howFar_62 : decode cX4_howFar 62 = .ok (.goto (-41), 3) := by decide +kernel
theorem dX4_howFar_65 : decode cX4_howFar 65 = .ok (.aload_n 0, 1) := by decide +kernel
theorem dX4_howFar_66 : decode cX4_howFar 66 = .ok (.getfield 14, 3) := by decide +kernel
theorem dX4_howFar_69 : decode cX4_howFar 69 = .ok (.iload_n 1, 1) := by decide +kernel
theorem dX4_howFar_70 : decode cX4_howFar 70 = .ok (.invokevirtual 79, 3) := by decide +kernel
theorem dX4_howFar_73 : decode cX4_howFar 73 = .ok (.ifCond .eq 13, 3) := by decide +kernel
theorem dX4_howFar_76 : decode cX4_howFar 76 = .ok (.aload_n 0, 1) := by decide +kernel
theorem dX4_howFar_77 : decode cX4_howFar 77 = .ok (.getfield 48, 3) := by decide +kernel
theorem dX4_howFar_80 : decode cX4_howFar 80 = .ok (.getfield 83, 3) := by decide +kernel
theorem dX4_howFar_83 : decode cX4_howFar 83 = .ok (.goto 4, 3) := by decide +kernel
theorem dX4_howFar_86 : decode cX4_howFar 86 = .ok (.iload_n 2, 1) := by decide +kernel
theorem dX4_howFar_87 : decode cX4_howFar 87 = .ok (.ireturn, 1) := by decide +kernel
theorem dX4_leastReef_0 : decode cX4_leastReef 0 = .ok (.iconst 0, 1) := by decide +kernel
theorem dX4_leastReef_1 : decode cX4_leastReef 1 = .ok (.istore_n 2, 1) := by decide +kernel
theorem dX4_leastReef_2 : decode cX4_leastReef 2 = .ok (.iload_n 2, 1) := by decide +kernel
theorem dX4_leastReef_3 : decode cX4_leastReef 3 = .ok (.bipush 20, 2) := by decide +kernel
theorem dX4_leastReef_5 : decode cX4_leastReef 5 = .ok (.if_icmp .gt 48, 3) := by decide +kernel
theorem dX4_leastReef_8 : decode cX4_leastReef 8 = .ok (.aload_n 0, 1) := by decide +kernel
theorem dX4_leastReef_9 : decode cX4_leastReef 9 = .ok (.getfield 14, 3) := by decide +kernel
theorem dX4_leastReef_12 : decode cX4_leastReef 12 = .ok (.aload_n 0, 1) := by decide +kernel
theorem dX4_leastReef_13 : decode cX4_leastReef 13 = .ok (.getfield 49, 3) := by decide +kernel
theorem dX4_leastReef_16 : decode cX4_leastReef 16 = .ok (.invokevirtual 56, 3) := by decide +kernel
theorem dX4_leastReef_19 : decode cX4_leastReef 19 = .ok (.aload_n 0, 1) := by decide +kernel
theorem dX4_leastReef_20 : decode cX4_leastReef 20 = .ok (.getfield 14, 3) := by decide +kernel
theorem dX4_leastReef_23 : decode cX4_leastReef 23 = .ok (.getfield 88, 3) := by decide +kernel
theorem dX4_leastReef_26 : decode cX4_leastReef 26 = .ok (.iload_n 1, 1) := by decide +kernel
theorem dX4_leastReef_27 : decode cX4_leastReef 27 = .ok (.iload_n 2, 1) := by decide +kernel
theorem dX4_leastReef_28 : decode cX4_leastReef 28 = .ok (.iastore, 1) := by decide +kernel
theorem dX4_leastReef_29 : decode cX4_leastReef 29 = .ok (.aload_n 0, 1) := by decide +kernel
theorem dX4_leastReef_30 : decode cX4_leastReef 30 = .ok (.getfield 38, 3) := by decide +kernel
theorem dX4_leastReef_33 : decode cX4_leastReef 33 = .ok (.aload_n 0, 1) := by decide +kernel
theorem dX4_leastReef_34 : decode cX4_leastReef 34 = .ok (.getfield 14, 3) := by decide +kernel
theorem dX4_leastReef_37 : decode cX4_leastReef 37 = .ok (.iload_n 1, 1) := by decide +kernel
theorem dX4_leastReef_38 : decode cX4_leastReef 38 = .ok (.iconst 0, 1) := by decide +kernel
theorem dX4_leastReef_39 : decode cX4_leastReef 39 = .ok (.invokevirtual 91, 3) := by decide +kernel
theorem dX4_leastReef_42 : decode cX4_leastReef 42 = .ok (.ifCond .eq 5, 3) := by decide +kernel
theorem dX4_leastReef_45 : decode cX4_leastReef 45 = .ok (.iload_n 2, 1) := by decide +kernel
theorem dX4_leastReef_46 : decode cX4_leastReef 46 = .ok (.ireturn, 1) := by decide +kernel
theorem dX4_leastReef_47 : decode cX4_leastReef 47 = .ok (.iinc 2 1, 3) := by decide +kernel
theorem dX4_leastReef_50 : decode cX4_leastReef 50 = .ok (.goto (-48), 3) := by decide +kernel
theorem dX4_leastReef_53 : decode cX4_leastReef 53 = .ok (.iconst (-1), 1) := by decide +kernel
theorem dX4_leastReef_54 : decode cX4_leastReef 54 = .ok (.ireturn, 1) := by decide +kernel
theorem dX4_largestBanners_0 : decode cX4_largestBanners 0 = .ok (.aload_n 0, 1) := by decide +kernel
theorem dX4_largestBanners_1 : decode cX4_largestBanners 1 = .ok (.getfield 52, 3) := by decide +kernel
theorem dX4_largestBanners_4 : decode cX4_largestBanners 4 = .ok (.invokevirtual 95, 3) := by decide +kernel
theorem dX4_largestBanners_7 : decode cX4_largestBanners 7 = .ok (.aload_n 0, 1) := by decide +kernel
theorem dX4_largestBanners_8 : decode cX4_largestBanners 8 = .ok (.invokevirtual 100, 3) := by decide +kernel
theorem dX4_largestBanners_11 : decode cX4_largestBanners 11 = .ok (.istore_n 1, 1) := by decide +kernel
theorem dX4_largestBanners_12 : decode cX4_largestBanners 12 = .ok (.iconst 1, 1) := by decide +kernel
theorem dX4_largestBanners_13 : decode cX4_largestBanners 13 = .ok (.iconst 2, 1) := by decide +kernel
theorem dX4_largestBanners_14 : decode cX4_largestBanners 14 = .ok (.iload_n 1, 1) := by decide +kernel
theorem dX4_largestBanners_15 : decode cX4_largestBanners 15 = .ok (.imul, 1) := by decide +kernel
theorem dX4_largestBanners_16 : decode cX4_largestBanners 16 = .ok (.ishl, 1) := by decide +kernel
theorem dX4_largestBanners_17 : decode cX4_largestBanners 17 = .ok (.istore_n 2, 1) := by decide +kernel
theorem dX4_largestBanners_18 : decode cX4_largestBanners 18 = .ok (.iconst (-1), 1) := by decide +kernel
theorem dX4_largestBanners_19 : decode cX4_largestBanners 19 = .ok (.istore_n 3, 1) := by decide +kernel
theorem dX4_largestBanners_20 : decode cX4_largestBanners 20 = .ok (.iconst 0, 1) := by decide +kernel
theorem dX4_largestBanners_21 : decode cX4_largestBanners 21 = .ok (.istore 4, 2) := by decide +kernel
theorem dX4_largestBanners_23 : decode cX4_largestBanners 23 = .ok (.iload 4, 2) := by decide +kernel
theorem dX4_largestBanners_25 : decode cX4_largestBanners 25 = .ok (.iload_n 2, 1) := by decide +kernel
theorem dX4_largestBanners_26 : decode cX4_largestBanners 26 = .ok (.if_icmp .ge 48, 3) := by decide +kernel
theorem dX4_largestBanners_29 : decode cX4_largestBanners 29 = .ok (.aload_n 0, 1) := by decide +kernel
theorem dX4_largestBanners_30 : decode cX4_largestBanners 30 = .ok (.iload_n 1, 1) := by decide +kernel
theorem dX4_largestBanners_31 : decode cX4_largestBanners 31 = .ok (.iload 4, 2) := by decide +kernel
theorem dX4_largestBanners_33 : decode cX4_largestBanners 33 = .ok (.invokevirtual 104, 3) := by decide +kernel
theorem dX4_largestBanners_36 : decode cX4_largestBanners 36 = .ok (.istore 5, 2) := by decide +kernel
theorem dX4_largestBanners_38 : decode cX4_largestBanners 38 = .ok (.iload 5, 2) := by decide +kernel
theorem dX4_largestBanners_40 : decode cX4_largestBanners 40 = .ok (.iload_n 3, 1) := by decide +kernel
theorem dX4_largestBanners_41 : decode cX4_largestBanners 41 = .ok (.if_icmp .le 27, 3) := by decide +kernel
theorem dX4_largestBanners_44 : decode cX4_largestBanners 44 = .ok (.aload_n 0, 1) := by decide +kernel
theorem dX4_largestBanners_45 : decode cX4_largestBanners 45 = .ok (.invokevirtual 108, 3) := by decide +kernel
theorem dX4_largestBanners_48 : decode cX4_largestBanners 48 = .ok (.ifCond .eq 20, 3) := by decide +kernel
theorem dX4_largestBanners_51 : decode cX4_largestBanners 51 = .ok (.iload 5, 2) := by decide +kernel
theorem dX4_largestBanners_53 : decode cX4_largestBanners 53 = .ok (.istore_n 3, 1) := by decide +kernel
theorem dX4_largestBanners_54 : decode cX4_largestBanners 54 = .ok (.aload_n 0, 1) := by decide +kernel
theorem dX4_largestBanners_55 : decode cX4_largestBanners 55 = .ok (.getfield 32, 3) := by decide +kernel
theorem dX4_largestBanners_58 : decode cX4_largestBanners 58 = .ok (.iconst 0, 1) := by decide +kernel
theorem dX4_largestBanners_59 : decode cX4_largestBanners 59 = .ok (.aload_n 0, 1) := by decide +kernel
theorem dX4_largestBanners_60 : decode cX4_largestBanners 60 = .ok (.getfield 35, 3) := by decide +kernel
theorem dX4_largestBanners_63 : decode cX4_largestBanners 63 = .ok (.iconst 0, 1) := by decide +kernel
theorem dX4_largestBanners_64 : decode cX4_largestBanners 64 = .ok (.iconst 5, 1) := by decide +kernel
theorem dX4_largestBanners_65 : decode cX4_largestBanners 65 = .ok (.invokestatic 112, 3) := by decide +kernel
theorem dX4_largestBanners_68 : decode cX4_largestBanners 68 = .ok (.iinc 4 1, 3) := by decide +kernel
theorem dX4_largestBanners_71 : decode cX4_largestBanners 71 = .ok (.goto (-48), 3) := by decide +kernel
theorem dX4_largestBanners_74 : decode cX4_largestBanners 74 = .ok (.iload_n 3, 1) := by decide +kernel
theorem dX4_largestBanners_75 : decode cX4_largestBanners 75 = .ok (.iconst (-1), 1) := by decide +kernel
theorem dX4_largestBanners_76 : decode cX4_largestBanners 76 = .ok (.if_icmp .eq 7, 3) := by decide +kernel
theorem dX4_largestBanners_79 : decode cX4_largestBanners 79 = .ok (.aload_n 0, 1) := by decide +kernel
theorem dX4_largestBanners_80 : decode cX4_largestBanners 80 = .ok (.invokevirtual 118, 3) := by decide +kernel
theorem dX4_largestBanners_83 : decode cX4_largestBanners 83 = .ok (.iload_n 3, 1) := by decide +kernel
theorem dX4_largestBanners_84 : decode cX4_largestBanners 84 = .ok (.ireturn, 1) := by decide +kernel
theorem dX4_bestOrder_0 : decode cX4_bestOrder 0 = .ok (.iconst 0, 1) := by decide +kernel
theorem dX4_bestOrder_1 : decode cX4_bestOrder 1 = .ok (.istore_n 1, 1) := by decide +kernel
theorem dX4_bestOrder_2 : decode cX4_bestOrder 2 = .ok (.iload_n 1, 1) := by decide +kernel
theorem dX4_bestOrder_3 : decode cX4_bestOrder 3 = .ok (.iconst 5, 1) := by decide +kernel
theorem dX4_bestOrder_4 : decode cX4_bestOrder 4 = .ok (.if_icmp .ge 16, 3) := by decide +kernel
theorem dX4_bestOrder_7 : decode cX4_bestOrder 7 = .ok (.aload_n 0, 1) := by decide +kernel
theorem dX4_bestOrder_8 : decode cX4_bestOrder 8 = .ok (.getfield 32, 3) := by decide +kernel
theorem dX4_bestOrder_11 : decode cX4_bestOrder 11 = .ok (.iload_n 1, 1) := by decide +kernel
theorem dX4_bestOrder_12 : decode cX4_bestOrder 12 = .ok (.iload_n 1, 1) := by decide +kernel
theorem dX4_bestOrder_13 : decode cX4_bestOrder 13 = .ok (.iastore, 1) := by decide +kernel
theorem dX4_bestOrder_14 : decode cX4_bestOrder 14 = .ok (.iinc 1 1, 3) := by decide +kernel
theorem dX4_bestOrder_17 : decode cX4_bestOrder 17 = .ok (.goto (-15), 3) := by decide +kernel
theorem dX4_bestOrder_20 : decode cX4_bestOrder 20 = .ok (.iconst (-1), 1) := by decide +kernel
theorem dX4_bestOrder_21 : decode cX4_bestOrder 21 = .ok (.istore_n 1, 1) := by decide +kernel
theorem dX4_bestOrder_22 : decode cX4_bestOrder 22 = .ok (.iconst 1, 1) := by decide +kernel
theorem dX4_bestOrder_23 : decode cX4_bestOrder 23 = .ok (.istore_n 2, 1) := by decide +kernel
theorem dX4_bestOrder_24 : decode cX4_bestOrder 24 = .ok (.iconst 0, 1) := by decide +kernel
theorem dX4_bestOrder_25 : decode cX4_bestOrder 25 = .ok (.istore_n 3, 1) := by decide +kernel
theorem dX4_bestOrder_26 : decode cX4_bestOrder 26 = .ok (.iload_n 3, 1) := by decide +kernel
theorem dX4_bestOrder_27 : decode cX4_bestOrder 27 = .ok (.bipush 120, 2) := by decide +kernel
theorem dX4_bestOrder_29 : decode cX4_bestOrder 29 = .ok (.if_icmp .ge 82, 3) := by decide +kernel
theorem dX4_bestOrder_32 : decode cX4_bestOrder 32 = .ok (.iload_n 2, 1) := by decide +kernel
theorem dX4_bestOrder_33 : decode cX4_bestOrder 33 = .ok (.ifCond .eq 78, 3) := by decide +kernel
theorem dX4_bestOrder_36 : decode cX4_bestOrder 36 = .ok (.aload_n 0, 1) := by decide +kernel
theorem dX4_bestOrder_37 : decode cX4_bestOrder 37 = .ok (.getfield 14, 3) := by decide +kernel
theorem dX4_bestOrder_40 : decode cX4_bestOrder 40 = .ok (.aload_n 0, 1) := by decide +kernel
theorem dX4_bestOrder_41 : decode cX4_bestOrder 41 = .ok (.getfield 49, 3) := by decide +kernel
theorem dX4_bestOrder_44 : decode cX4_bestOrder 44 = .ok (.invokevirtual 56, 3) := by decide +kernel
theorem dX4_bestOrder_47 : decode cX4_bestOrder 47 = .ok (.aload_n 0, 1) := by decide +kernel
theorem dX4_bestOrder_48 : decode cX4_bestOrder 48 = .ok (.getfield 32, 3) := by decide +kernel
theorem dX4_bestOrder_51 : decode cX4_bestOrder 51 = .ok (.iconst 0, 1) := by decide +kernel
theorem dX4_bestOrder_52 : decode cX4_bestOrder 52 = .ok (.aload_n 0, 1) := by decide +kernel
theorem dX4_bestOrder_53 : decode cX4_bestOrder 53 = .ok (.getfield 14, 3) := by decide +kernel
theorem dX4_bestOrder_56 : decode cX4_bestOrder 56 = .ok (.getfield 121, 3) := by decide +kernel
theorem dX4_bestOrder_59 : decode cX4_bestOrder 59 = .ok (.iconst 0, 1) := by decide +kernel
theorem dX4_bestOrder_60 : decode cX4_bestOrder 60 = .ok (.iconst 5, 1) := by decide +kernel
theorem dX4_bestOrder_61 : decode cX4_bestOrder 61 = .ok (.invokestatic 112, 3) := by decide +kernel
theorem dX4_bestOrder_64 : decode cX4_bestOrder 64 = .ok (.aload_n 0, 1) := by decide +kernel
theorem dX4_bestOrder_65 : decode cX4_bestOrder 65 = .ok (.getfield 38, 3) := by decide +kernel
theorem dX4_bestOrder_68 : decode cX4_bestOrder 68 = .ok (.aload_n 0, 1) := by decide +kernel
theorem dX4_bestOrder_69 : decode cX4_bestOrder 69 = .ok (.getfield 14, 3) := by decide +kernel
theorem dX4_bestOrder_72 : decode cX4_bestOrder 72 = .ok (.invokevirtual 124, 3) := by decide +kernel
theorem dX4_bestOrder_75 : decode cX4_bestOrder 75 = .ok (.istore 4, 2) := by decide +kernel
theorem dX4_bestOrder_77 : decode cX4_bestOrder 77 = .ok (.iload 4, 2) := by decide +kernel
theorem dX4_bestOrder_79 : decode cX4_bestOrder 79 = .ok (.iload_n 1, 1) := by decide +kernel
theorem dX4_bestOrder_80 : decode cX4_bestOrder 80 = .ok (.if_icmp .le 20, 3) := by decide +kernel
theorem dX4_bestOrder_83 : decode cX4_bestOrder 83 = .ok (.iload 4, 2) := by decide +kernel
theorem dX4_bestOrder_85 : decode cX4_bestOrder 85 = .ok (.istore_n 1, 1) := by decide +kernel
theorem dX4_bestOrder_86 : decode cX4_bestOrder 86 = .ok (.aload_n 0, 1) := by decide +kernel
theorem dX4_bestOrder_87 : decode cX4_bestOrder 87 = .ok (.getfield 32, 3) := by decide +kernel
theorem dX4_bestOrder_90 : decode cX4_bestOrder 90 = .ok (.iconst 0, 1) := by decide +kernel
theorem dX4_bestOrder_91 : decode cX4_bestOrder 91 = .ok (.aload_n 0, 1) := by decide +kernel
theorem dX4_bestOrder_92 : decode cX4_bestOrder 92 = .ok (.getfield 35, 3) := by decide +kernel
theorem dX4_bestOrder_95 : decode cX4_bestOrder 95 = .ok (.iconst 0, 1) := by decide +kernel
theorem dX4_bestOrder_96 : decode cX4_bestOrder 96 = .ok (.iconst 5, 1) := by decide +kernel
theorem dX4_bestOrder_97 : decode cX4_bestOrder 97 = .ok (.invokestatic 112, 3) := by decide +kernel
theorem dX4_bestOrder_100 : decode cX4_bestOrder 100 = .ok (.aload_n 0, 1) := by decide +kernel
theorem dX4_bestOrder_101 : decode cX4_bestOrder 101 = .ok (.invokevirtual 127, 3) := by decide +kernel
theorem dX4_bestOrder_104 : decode cX4_bestOrder 104 = .ok (.istore_n 2, 1) := by decide +kernel
theorem dX4_bestOrder_105 : decode cX4_bestOrder 105 = .ok (.iinc 3 1, 3) := by decide +kernel
theorem dX4_bestOrder_108 : decode cX4_bestOrder 108 = .ok (.goto (-82), 3) := by decide +kernel
theorem dX4_bestOrder_111 : decode cX4_bestOrder 111 = .ok (.aload_n 0, 1) := by decide +kernel
theorem dX4_bestOrder_112 : decode cX4_bestOrder 112 = .ok (.invokevirtual 118, 3) := by decide +kernel
theorem dX4_bestOrder_115 : decode cX4_bestOrder 115 = .ok (.iload_n 1, 1) := by decide +kernel
theorem dX4_bestOrder_116 : decode cX4_bestOrder 116 = .ok (.ireturn, 1) := by decide +kernel
theorem dX4_bestHost_0 : decode cX4_bestHost 0 = .ok (.iconst (-1), 1) := by decide +kernel
theorem dX4_bestHost_1 : decode cX4_bestHost 1 = .ok (.istore_n 3, 1) := by decide +kernel
theorem dX4_bestHost_2 : decode cX4_bestHost 2 = .ok (.iconst (-1), 1) := by decide +kernel
theorem dX4_bestHost_3 : decode cX4_bestHost 3 = .ok (.istore 4, 2) := by decide +kernel
theorem dX4_bestHost_5 : decode cX4_bestHost 5 = .ok (.iconst 0, 1) := by decide +kernel
theorem dX4_bestHost_6 : decode cX4_bestHost 6 = .ok (.istore 5, 2) := by decide +kernel
theorem dX4_bestHost_8 : decode cX4_bestHost 8 = .ok (.iload 5, 2) := by decide +kernel
theorem dX4_bestHost_10 : decode cX4_bestHost 10 = .ok (.aload_n 0, 1) := by decide +kernel
theorem dX4_bestHost_11 : decode cX4_bestHost 11 = .ok (.getfield 48, 3) := by decide +kernel
theorem dX4_bestHost_14 : decode cX4_bestHost 14 = .ok (.getfield 130, 3) := by decide +kernel
theorem dX4_bestHost_17 : decode cX4_bestHost 17 = .ok (.if_icmp .ge 70, 3) := by decide +kernel
theorem dX4_bestHost_20 : decode cX4_bestHost 20 = .ok (.aload_n 0, 1) := by decide +kernel
theorem dX4_bestHost_21 : decode cX4_bestHost 21 = .ok (.getfield 49, 3) := by decide +kernel
theorem dX4_bestHost_24 : decode cX4_bestHost 24 = .ok (.iload_n 1, 1) := by decide +kernel
theorem dX4_bestHost_25 : decode cX4_bestHost 25 = .ok (.iload 5, 2) := by decide +kernel
theorem dX4_bestHost_27 : decode cX4_bestHost 27 = .ok (.invokevirtual 133, 3) := by decide +kernel
theorem dX4_bestHost_30 : decode cX4_bestHost 30 = .ok (.ifCond .eq 51, 3) := by decide +kernel
theorem dX4_bestHost_33 : decode cX4_bestHost 33 = .ok (.aload_n 0, 1) := by decide +kernel
theorem dX4_bestHost_34 : decode cX4_bestHost 34 = .ok (.getfield 14, 3) := by decide +kernel
theorem dX4_bestHost_37 : decode cX4_bestHost 37 = .ok (.aload_n 0, 1) := by decide +kernel
theorem dX4_bestHost_38 : decode cX4_bestHost 38 = .ok (.getfield 49, 3) := by decide +kernel
theorem dX4_bestHost_41 : decode cX4_bestHost 41 = .ok (.invokevirtual 56, 3) := by decide +kernel
theorem dX4_bestHost_44 : decode cX4_bestHost 44 = .ok (.aload_n 0, 1) := by decide +kernel
theorem dX4_bestHost_45 : decode cX4_bestHost 45 = .ok (.getfield 14, 3) := by decide +kernel
theorem dX4_bestHost_48 : decode cX4_bestHost 48 = .ok (.iload_n 1, 1) := by decide +kernel
theorem dX4_bestHost_49 : decode cX4_bestHost 49 = .ok (.iload 5, 2) := by decide +kernel
theorem dX4_bestHost_51 : decode cX4_bestHost 51 = .ok (.invokevirtual 137, 3) := by decide +kernel
theorem dX4_bestHost_54 : decode cX4_bestHost 54 = .ok (.aload_n 0, 1) := by decide +kernel
theorem dX4_bestHost_55 : decode cX4_bestHost 55 = .ok (.getfield 38, 3) := by decide +kernel
theorem dX4_bestHost_58 : decode cX4_bestHost 58 = .ok (.aload_n 0, 1) := by decide +kernel
theorem dX4_bestHost_59 : decode cX4_bestHost 59 = .ok (.getfield 14, 3) := by decide +kernel
theorem dX4_bestHost_62 : decode cX4_bestHost 62 = .ok (.invokevirtual 124, 3) := by decide +kernel
theorem dX4_bestHost_65 : decode cX4_bestHost 65 = .ok (.istore 6, 2) := by decide +kernel
theorem dX4_bestHost_67 : decode cX4_bestHost 67 = .ok (.iload 6, 2) := by decide +kernel
theorem dX4_bestHost_69 : decode cX4_bestHost 69 = .ok (.iload 4, 2) := by decide +kernel
theorem dX4_bestHost_71 : decode cX4_bestHost 71 = .ok (.if_icmp .le 10, 3) := by decide +kernel
theorem dX4_bestHost_74 : decode cX4_bestHost 74 = .ok (.iload 6, 2) := by decide +kernel
theorem dX4_bestHost_76 : decode cX4_bestHost 76 = .ok (.istore 4, 2) := by decide +kernel
theorem dX4_bestHost_78 : decode cX4_bestHost 78 = .ok (.iload 5, 2) := by decide +kernel
theorem dX4_bestHost_80 : decode cX4_bestHost 80 = .ok (.istore_n 3, 1) := by decide +kernel
theorem dX4_bestHost_81 : decode cX4_bestHost 81 = .ok (.iinc 5 1, 3) := by decide +kernel
theorem dX4_bestHost_84 : decode cX4_bestHost 84 = .ok (.goto (-76), 3) := by decide +kernel
theorem dX4_bestHost_87 : decode cX4_bestHost 87 = .ok (.iload_n 2, 1) := by decide +kernel
theorem dX4_bestHost_88 : decode cX4_bestHost 88 = .ok (.ifCond .eq 8, 3) := by decide +kernel
theorem dX4_bestHost_91 : decode cX4_bestHost 91 = .ok (.iload 4, 2) := by decide +kernel
theorem dX4_bestHost_93 : decode cX4_bestHost 93 = .ok (.goto 4, 3) := by decide +kernel
theorem dX4_bestHost_96 : decode cX4_bestHost 96 = .ok (.iload_n 3, 1) := by decide +kernel
theorem dX4_bestHost_97 : decode cX4_bestHost 97 = .ok (.ireturn, 1) := by decide +kernel
theorem dX4_rankRivals_0 : decode cX4_rankRivals 0 = .ok (.iconst 0, 1) := by decide +kernel
theorem dX4_rankRivals_1 : decode cX4_rankRivals 1 = .ok (.istore_n 3, 1) := by decide +kernel
theorem dX4_rankRivals_2 : decode cX4_rankRivals 2 = .ok (.iload_n 3, 1) := by decide +kernel
theorem dX4_rankRivals_3 : decode cX4_rankRivals 3 = .ok (.bipush 6, 2) := by decide +kernel
theorem dX4_rankRivals_5 : decode cX4_rankRivals 5 = .ok (.if_icmp .ge 102, 3) := by decide +kernel
theorem dX4_rankRivals_8 : decode cX4_rankRivals 8 = .ok (.iconst 0, 1) := by decide +kernel
theorem dX4_rankRivals_9 : decode cX4_rankRivals 9 = .ok (.istore 4, 2) := by decide +kernel
theorem dX4_rankRivals_11 : decode cX4_rankRivals 11 = .ok (.iload 4, 2) := by decide +kernel
theorem dX4_rankRivals_13 : decode cX4_rankRivals 13 = .ok (.bipush 6, 2) := by decide +kernel
theorem dX4_rankRivals_15 : decode cX4_rankRivals 15 = .ok (.if_icmp .ge 86, 3) := by decide +kernel
theorem dX4_rankRivals_18 : decode cX4_rankRivals 18 = .ok (.aload_n 0, 1) := by decide +kernel
theorem dX4_rankRivals_19 : decode cX4_rankRivals 19 = .ok (.getfield 14, 3) := by decide +kernel
theorem dX4_rankRivals_22 : decode cX4_rankRivals 22 = .ok (.aload_n 0, 1) := by decide +kernel
theorem dX4_rankRivals_23 : decode cX4_rankRivals 23 = .ok (.getfield 49, 3) := by decide +kernel
theorem dX4_rankRivals_26 : decode cX4_rankRivals 26 = .ok (.invokevirtual 56, 3) := by decide +kernel
theorem dX4_rankRivals_29 : decode cX4_rankRivals 29 = .ok (.aload_n 0, 1) := by decide +kernel
theorem dX4_rankRivals_30 : decode cX4_rankRivals 30 = .ok (.getfield 14, 3) := by decide +kernel
theorem dX4_rankRivals_33 : decode cX4_rankRivals 33 = .ok (.getfield 88, 3) := by decide +kernel
theorem dX4_rankRivals_36 : decode cX4_rankRivals 36 = .ok (.iload_n 1, 1) := by decide +kernel
theorem dX4_rankRivals_37 : decode cX4_rankRivals 37 = .ok (.iload_n 3, 1) := by decide +kernel
theorem dX4_rankRivals_38 : decode cX4_rankRivals 38 = .ok (.iastore, 1) := by decide +kernel
theorem dX4_rankRivals_39 : decode cX4_rankRivals 39 = .ok (.aload_n 0, 1) := by decide +kernel
theorem dX4_rankRivals_40 : decode cX4_rankRivals 40 = .ok (.getfield 14, 3) := by decide +kernel
theorem dX4_rankRivals_43 : decode cX4_rankRivals 43 = .ok (.getfield 88, 3) := by decide +kernel
theorem dX4_rankRivals_46 : decode cX4_rankRivals 46 = .ok (.iload_n 2, 1) := by decide +kernel
theorem dX4_rankRivals_47 : decode cX4_rankRivals 47 = .ok (.iload 4, 2) := by decide +kernel
theorem dX4_rankRivals_49 : decode cX4_rankRivals 49 = .ok (.iastore, 1) := by decide +kernel
theorem dX4_rankRivals_50 : decode cX4_rankRivals 50 = .ok (.aload_n 0, 1) := by decide +kernel
theorem dX4_rankRivals_51 : decode cX4_rankRivals 51 = .ok (.getfield 38, 3) := by decide +kernel
theorem dX4_rankRivals_54 : decode cX4_rankRivals 54 = .ok (.aload_n 0, 1) := by decide +kernel
theorem dX4_rankRivals_55 : decode cX4_rankRivals 55 = .ok (.getfield 14, 3) := by decide +kernel
theorem dX4_rankRivals_58 : decode cX4_rankRivals 58 = .ok (.invokevirtual 124, 3) := by decide +kernel
theorem dX4_rankRivals_61 : decode cX4_rankRivals 61 = .ok (.pop, 1) := by decide +kernel
theorem dX4_rankRivals_62 : decode cX4_rankRivals 62 = .ok (.iload_n 3, 1) := by decide +kernel
theorem dX4_rankRivals_63 : decode cX4_rankRivals 63 = .ok (.bipush 6, 2) := by decide +kernel
theorem dX4_rankRivals_65 : decode cX4_rankRivals 65 = .ok (.imul, 1) := by decide +kernel
theorem dX4_rankRivals_66 : decode cX4_rankRivals 66 = .ok (.iload 4, 2) := by decide +kernel
theorem dX4_rankRivals_68 : decode cX4_rankRivals 68 = .ok (.iadd, 1) := by decide +kernel
theorem dX4_rankRivals_69 : decode cX4_rankRivals 69 = .ok (.istore 5, 2) := by decide +kernel
theorem dX4_rankRivals_71 : decode cX4_rankRivals 71 = .ok (.aload_n 0, 1) := by decide +kernel
theorem dX4_rankRivals_72 : decode cX4_rankRivals 72 = .ok (.getfield 18, 3) := by decide +kernel
theorem dX4_rankRivals_75 : decode cX4_rankRivals 75 = .ok (.iload 5, 2) := by decide +kernel
theorem dX4_rankRivals_77 : decode cX4_rankRivals 77 = .ok (.aload_n 0, 1) := by decide +kernel
theorem dX4_rankRivals_78 : decode cX4_rankRivals 78 = .ok (.iload_n 1, 1) := by decide +kernel
theorem dX4_rankRivals_79 : decode cX4_rankRivals 79 = .ok (.invokevirtual 141, 3) := by decide +kernel
theorem dX4_rankRivals_82 : decode cX4_rankRivals 82 = .ok (.iastore, 1) := by decide +kernel
theorem dX4_rankRivals_83 : decode cX4_rankRivals 83 = .ok (.aload_n 0, 1) := by decide +kernel
theorem dX4_rankRivals_84 : decode cX4_rankRivals 84 = .ok (.getfield 22, 3) := by decide +kernel
theorem dX4_rankRivals_87 : decode cX4_rankRivals 87 = .ok (.iload 5, 2) := by decide +kernel
theorem dX4_rankRivals_89 : decode cX4_rankRivals 89 = .ok (.aload_n 0, 1) := by decide +kernel
theorem dX4_rankRivals_90 : decode cX4_rankRivals 90 = .ok (.iload_n 2, 1) := by decide +kernel
theorem dX4_rankRivals_91 : decode cX4_rankRivals 91 = .ok (.invokevirtual 141, 3) := by decide +kernel
theorem dX4_rankRivals_94 : decode cX4_rankRivals 94 = .ok (.iastore, 1) := by decide +kernel
theorem dX4_rankRivals_95 : decode cX4_rankRivals 95 = .ok (.iinc 4 1, 3) := by decide +kernel
theorem dX4_rankRivals_98 : decode cX4_rankRivals 98 = .ok (.goto (-87), 3) := by decide +kernel
theorem dX4_rankRivals_101 : decode cX4_rankRivals 101 = .ok (.iinc 3 1, 3) := by decide +kernel
theorem dX4_rankRivals_104 : decode cX4_rankRivals 104 = .ok (.goto (-102), 3) := by decide +kernel
theorem dX4_rankRivals_107 : decode cX4_rankRivals 107 = .ok (.return_, 1) := by decide +kernel
theorem dX4_layRests_0 : decode cX4_layRests 0 = .ok (.aload_n 0, 1) := by decide +kernel
theorem dX4_layRests_1 : decode cX4_layRests 1 = .ok (.getfield 52, 3) := by decide +kernel
theorem dX4_layRests_4 : decode cX4_layRests 4 = .ok (.invokevirtual 95, 3) := by decide +kernel
theorem dX4_layRests_7 : decode cX4_layRests 7 = .ok (.iconst 0, 1) := by decide +kernel
theorem dX4_layRests_8 : decode cX4_layRests 8 = .ok (.istore_n 1, 1) := by decide +kernel
theorem dX4_layRests_9 : decode cX4_layRests 9 = .ok (.iconst 0, 1) := by decide +kernel
theorem dX4_layRests_10 : decode cX4_layRests 10 = .ok (.istore_n 2, 1) := by decide +kernel
theorem dX4_layRests_11 : decode cX4_layRests 11 = .ok (.iload_n 2, 1) := by decide +kernel
theorem dX4_layRests_12 : decode cX4_layRests 12 = .ok (.bipush 6, 2) := by decide +kernel
theorem dX4_layRests_14 : decode cX4_layRests 14 = .ok (.if_icmp .ge 55, 3) := by decide +kernel
theorem dX4_layRests_17 : decode cX4_layRests 17 = .ok (.iconst 0, 1) := by decide +kernel
theorem dX4_layRests_18 : decode cX4_layRests 18 = .ok (.istore_n 3, 1) := by decide +kernel
theorem dX4_layRests_19 : decode cX4_layRests 19 = .ok (.iload_n 3, 1) := by decide +kernel
theorem dX4_layRests_20 : decode cX4_layRests 20 = .ok (.bipush 6, 2) := by decide +kernel
theorem dX4_layRests_22 : decode cX4_layRests 22 = .ok (.if_icmp .ge 41, 3) := by decide +kernel
theorem dX4_layRests_25 : decode cX4_layRests 25 = .ok (.aload_n 0, 1) := by decide +kernel
theorem dX4_layRests_26 : decode cX4_layRests 26 = .ok (.iload_n 2, 1) := by decide +kernel
theorem dX4_layRests_27 : decode cX4_layRests 27 = .ok (.iload_n 3, 1) := by decide +kernel
theorem dX4_layRests_28 : decode cX4_layRests 28 = .ok (.invokevirtual 145, 3) := by decide +kernel
theorem dX4_layRests_31 : decode cX4_layRests 31 = .ok (.ifCond .eq 26, 3) := by decide +kernel
theorem dX4_layRests_34 : decode cX4_layRests 34 = .ok (.iload_n 1, 1) := by decide +kernel
theorem dX4_layRests_35 : decode cX4_layRests 35 = .ok (.ifCond .ne 19, 3) := by decide +kernel
theorem dX4_layRests_38 : decode cX4_layRests 38 = .ok (.aload_n 0, 1) := by decide +kernel
theorem dX4_layRests_39 : decode cX4_layRests 39 = .ok (.getfield 52, 3) := by decide +kernel
theorem dX4_layRests_42 : decode cX4_layRests 42 = .ok (.iload_n 2, 1) := by decide +kernel
theorem dX4_layRests_43 : decode cX4_layRests 43 = .ok (.invokevirtual 148, 3) := by decide +kernel
theorem dX4_layRests_46 : decode cX4_layRests 46 = .ok (.aload_n 0, 1) := by decide +kernel
theorem dX4_layRests_47 : decode cX4_layRests 47 = .ok (.getfield 52, 3) := by decide +kernel
theorem dX4_layRests_50 : decode cX4_layRests 50 = .ok (.iload_n 3, 1) := by decide +kernel
theorem dX4_layRests_51 : decode cX4_layRests 51 = .ok (.invokevirtual 148, 3) := by decide +kernel
theorem dX4_layRests_54 : decode cX4_layRests 54 = .ok (.iinc 1 1, 3) := by decide +kernel
theorem dX4_layRests_57 : decode cX4_layRests 57 = .ok (.iinc 3 1, 3) := by decide +kernel
theorem dX4_layRests_60 : decode cX4_layRests 60 = .ok (.goto (-41), 3) := by decide +kernel
theorem dX4_layRests_63 : decode cX4_layRests 63 = .ok (.iinc 2 1, 3) := by decide +kernel
theorem dX4_layRests_66 : decode cX4_layRests 66 = .ok (.goto (-55), 3) := by decide +kernel
theorem dX4_layRests_69 : decode cX4_layRests 69 = .ok (.iload_n 1, 1) := by decide +kernel
theorem dX4_layRests_70 : decode cX4_layRests 70 = .ok (.ireturn, 1) := by decide +kernel
theorem dX4_pairsOfCloth_0 : decode cX4_pairsOfCloth 0 = .ok (.iconst 0, 1) := by decide +kernel
theorem dX4_pairsOfCloth_1 : decode cX4_pairsOfCloth 1 = .ok (.istore_n 1, 1) := by decide +kernel
theorem dX4_pairsOfCloth_2 : decode cX4_pairsOfCloth 2 = .ok (.iload_n 1, 1) := by decide +kernel
theorem dX4_pairsOfCloth_3 : decode cX4_pairsOfCloth 3 = .ok (.iconst 5, 1) := by decide +kernel
theorem dX4_pairsOfCloth_4 : decode cX4_pairsOfCloth 4 = .ok (.if_icmp .ge 17, 3) := by decide +kernel
theorem dX4_pairsOfCloth_7 : decode cX4_pairsOfCloth 7 = .ok (.aload_n 0, 1) := by decide +kernel
theorem dX4_pairsOfCloth_8 : decode cX4_pairsOfCloth 8 = .ok (.getfield 32, 3) := by decide +kernel
theorem dX4_pairsOfCloth_11 : decode cX4_pairsOfCloth 11 = .ok (.iload_n 1, 1) := by decide +kernel
theorem dX4_pairsOfCloth_12 : decode cX4_pairsOfCloth 12 = .ok (.bipush (-2), 2) := by decide +kernel
theorem dX4_pairsOfCloth_14 : decode cX4_pairsOfCloth 14 = .ok (.iastore, 1) := by decide +kernel
theorem dX4_pairsOfCloth_15 : decode cX4_pairsOfCloth 15 = .ok (.iinc 1 1, 3) := by decide +kernel
theorem dX4_pairsOfCloth_18 : decode cX4_pairsOfCloth 18 = .ok (.goto (-16), 3) := by decide +kernel
theorem dX4_pairsOfCloth_21 : decode cX4_pairsOfCloth 21 = .ok (.aload_n 0, 1) := by decide +kernel
theorem dX4_pairsOfCloth_22 : decode cX4_pairsOfCloth 22 = .ok (.iconst (-1), 1) := by decide +kernel
theorem dX4_pairsOfCloth_23 : decode cX4_pairsOfCloth 23 = .ok (.putfield 152, 3) := by decide +kernel
theorem dX4_pairsOfCloth_26 : decode cX4_pairsOfCloth 26 = .ok (.aload_n 0, 1) := by decide +kernel
theorem dX4_pairsOfCloth_27 : decode cX4_pairsOfCloth 27 = .ok (.iconst 0, 1) := by decide +kernel
theorem dX4_pairsOfCloth_28 : decode cX4_pairsOfCloth 28 = .ok (.iconst 0, 1) := by decide +kernel
theorem dX4_pairsOfCloth_29 : decode cX4_pairsOfCloth 29 = .ok (.aload_n 0, 1) := by decide +kernel
theorem dX4_pairsOfCloth_30 : decode cX4_pairsOfCloth 30 = .ok (.getfield 48, 3) := by decide +kernel
theorem dX4_pairsOfCloth_33 : decode cX4_pairsOfCloth 33 = .ok (.getfield 130, 3) := by decide +kernel
theorem dX4_pairsOfCloth_36 : decode cX4_pairsOfCloth 36 = .ok (.iconst 2, 1) := by decide +kernel
theorem dX4_pairsOfCloth_37 : decode cX4_pairsOfCloth 37 = .ok (.irem, 1) := by decide +kernel
theorem dX4_pairsOfCloth_38 : decode cX4_pairsOfCloth 38 = .ok (.ifCond .ne 7, 3) := by decide +kernel
theorem dX4_pairsOfCloth_41 : decode cX4_pairsOfCloth 41 = .ok (.iconst 1, 1) := by decide +kernel
theorem dX4_pairsOfCloth_42 : decode cX4_pairsOfCloth 42 = .ok (.goto 4, 3) := by decide +kernel
theorem dX4_pairsOfCloth_45 : decode cX4_pairsOfCloth 45 = .ok (.iconst 0, 1) := by decide +kernel
theorem dX4_pairsOfCloth_46 : decode cX4_pairsOfCloth 46 = .ok (.invokevirtual 155, 3) := by decide +kernel
theorem dX4_pairsOfCloth_49 : decode cX4_pairsOfCloth 49 = .ok (.aload_n 0, 1) := by decide +kernel
theorem dX4_pairsOfCloth_50 : decode cX4_pairsOfCloth 50 = .ok (.invokevirtual 118, 3) := by decide +kernel
theorem dX4_pairsOfCloth_53 : decode cX4_pairsOfCloth 53 = .ok (.aload_n 0, 1) := by decide +kernel
theorem dX4_pairsOfCloth_54 : decode cX4_pairsOfCloth 54 = .ok (.getfield 152, 3) := by decide +kernel
theorem dX4_pairsOfCloth_57 : decode cX4_pairsOfCloth 57 = .ok (.ireturn, 1) := by decide +kernel
theorem dX4_childrenNeeded_0 : decode cX4_childrenNeeded 0 = .ok (.iconst 0, 1) := by decide +kernel
theorem dX4_childrenNeeded_1 : decode cX4_childrenNeeded 1 = .ok (.istore_n 2, 1) := by decide +kernel
theorem dX4_childrenNeeded_2 : decode cX4_childrenNeeded 2 = .ok (.aload_n 0, 1) := by decide +kernel
theorem dX4_childrenNeeded_3 : decode cX4_childrenNeeded 3 = .ok (.getfield 49, 3) := by decide +kernel
theorem dX4_childrenNeeded_6 : decode cX4_childrenNeeded 6 = .ok (.getfield 159, 3) := by decide +kernel
theorem dX4_childrenNeeded_9 : decode cX4_childrenNeeded 9 = .ok (.iload_n 1, 1) := by decide +kernel
theorem dX4_childrenNeeded_10 : decode cX4_childrenNeeded 10 = .ok (.iaload, 1) := by decide +kernel
theorem dX4_childrenNeeded_11 : decode cX4_childrenNeeded 11 = .ok (.iload_n 2, 1) := by decide +kernel
theorem dX4_childrenNeeded_12 : decode cX4_childrenNeeded 12 = .ok (.iadd, 1) := by decide +kernel
theorem dX4_childrenNeeded_13 : decode cX4_childrenNeeded 13 = .ok (.bipush 99, 2) := by decide +kernel
theorem dX4_childrenNeeded_15 : decode cX4_childrenNeeded 15 = .ok (.if_icmp .gt 51, 3) := by decide +kernel
theorem dX4_childrenNeeded_18 : decode cX4_childrenNeeded 18 = .ok (.aload_n 0, 1) := by decide +kernel
theorem dX4_childrenNeeded_19 : decode cX4_childrenNeeded 19 = .ok (.getfield 14, 3) := by decide +kernel
theorem dX4_childrenNeeded_22 : decode cX4_childrenNeeded 22 = .ok (.aload_n 0, 1) := by decide +kernel
theorem dX4_childrenNeeded_23 : decode cX4_childrenNeeded 23 = .ok (.getfield 49, 3) := by decide +kernel
theorem dX4_childrenNeeded_26 : decode cX4_childrenNeeded 26 = .ok (.invokevirtual 56, 3) := by decide +kernel
theorem dX4_childrenNeeded_29 : decode cX4_childrenNeeded 29 = .ok (.aload_n 0, 1) := by decide +kernel
theorem dX4_childrenNeeded_30 : decode cX4_childrenNeeded 30 = .ok (.getfield 14, 3) := by decide +kernel
theorem dX4_childrenNeeded_33 : decode cX4_childrenNeeded 33 = .ok (.getfield 159, 3) := by decide +kernel
theorem dX4_childrenNeeded_36 : decode cX4_childrenNeeded 36 = .ok (.iload_n 1, 1) := by decide +kernel
theorem dX4_childrenNeeded_37 : decode cX4_childrenNeeded 37 = .ok (.dup2, 1) := by decide +kernel
theorem dX4_childrenNeeded_38 : decode cX4_childrenNeeded 38 = .ok (.iaload, 1) := by decide +kernel
theorem dX4_childrenNeeded_39 : decode cX4_childrenNeeded 39 = .ok (.iload_n 2, 1) := by decide +kernel
theorem dX4_childrenNeeded_40 : decode cX4_childrenNeeded 40 = .ok (.iadd, 1) := by decide +kernel
theorem dX4_childrenNeeded_41 : decode cX4_childrenNeeded 41 = .ok (.iastore, 1) := by decide +kernel
theorem dX4_childrenNeeded_42 : decode cX4_childrenNeeded 42 = .ok (.aload_n 0, 1) := by decide +kernel
theorem dX4_childrenNeeded_43 : decode cX4_childrenNeeded 43 = .ok (.getfield 38, 3) := by decide +kernel
theorem dX4_childrenNeeded_46 : decode cX4_childrenNeeded 46 = .ok (.aload_n 0, 1) := by decide +kernel
theorem dX4_childrenNeeded_47 : decode cX4_childrenNeeded 47 = .ok (.getfield 14, 3) := by decide +kernel
theorem dX4_childrenNeeded_50 : decode cX4_childrenNeeded 50 = .ok (.iload_n 1, 1) := by decide +kernel
theorem dX4_childrenNeeded_51 : decode cX4_childrenNeeded 51 = .ok (.iconst 0, 1) := by decide +kernel
theorem dX4_childrenNeeded_52 : decode cX4_childrenNeeded 52 = .ok (.invokevirtual 91, 3) := by decide +kernel
theorem dX4_childrenNeeded_55 : decode cX4_childrenNeeded 55 = .ok (.ifCond .eq 5, 3) := by decide +kernel
theorem dX4_childrenNeeded_58 : decode cX4_childrenNeeded 58 = .ok (.iload_n 2, 1) := by decide +kernel
theorem dX4_childrenNeeded_59 : decode cX4_childrenNeeded 59 = .ok (.ireturn, 1) := by decide +kernel
theorem dX4_childrenNeeded_60 : decode cX4_childrenNeeded 60 = .ok (.iinc 2 1, 3) := by decide +kernel
theorem dX4_childrenNeeded_63 : decode cX4_childrenNeeded 63 = .ok (.goto (-61), 3) := by decide +kernel
theorem dX4_childrenNeeded_66 : decode cX4_childrenNeeded 66 = .ok (.iconst (-1), 1) := by decide +kernel
theorem dX4_childrenNeeded_67 : decode cX4_childrenNeeded 67 = .ok (.ireturn, 1) := by decide +kernel
theorem dX4_greatestGust_0 : decode cX4_greatestGust 0 = .ok (.aload_n 0, 1) := by decide +kernel
theorem dX4_greatestGust_1 : decode cX4_greatestGust 1 = .ok (.iload_n 1, 1) := by decide +kernel
theorem dX4_greatestGust_2 : decode cX4_greatestGust 2 = .ok (.iconst 0, 1) := by decide +kernel
theorem dX4_greatestGust_3 : decode cX4_greatestGust 3 = .ok (.invokevirtual 162, 3) := by decide +kernel
theorem dX4_greatestGust_6 : decode cX4_greatestGust 6 = .ok (.ifCond .ne 5, 3) := by decide +kernel
theorem dX4_greatestGust_9 : decode cX4_greatestGust 9 = .ok (.iconst (-1), 1) := by decide +kernel
theorem dX4_greatestGust_10 : decode cX4_greatestGust 10 = .ok (.ireturn, 1) := by decide +kernel
theorem dX4_greatestGust_11 : decode cX4_greatestGust 11 = .ok (.bipush 99, 2) := by decide +kernel
theorem dX4_greatestGust_13 : decode cX4_greatestGust 13 = .ok (.istore_n 2, 1) := by decide +kernel
theorem dX4_greatestGust_14 : decode cX4_greatestGust 14 = .ok (.iload_n 2, 1) := by decide +kernel
theorem dX4_greatestGust_15 : decode cX4_greatestGust 15 = .ok (.ifCond .le 20, 3) := by decide +kernel
theorem dX4_greatestGust_18 : decode cX4_greatestGust 18 = .ok (.aload_n 0, 1) := by decide +kernel
theorem dX4_greatestGust_19 : decode cX4_greatestGust 19 = .ok (.iload_n 1, 1) := by decide +kernel
theorem dX4_greatestGust_20 : decode cX4_greatestGust 20 = .ok (.iload_n 2, 1) := by decide +kernel
theorem dX4_greatestGust_21 : decode cX4_greatestGust 21 = .ok (.invokevirtual 162, 3) := by decide +kernel
theorem dX4_greatestGust_24 : decode cX4_greatestGust 24 = .ok (.ifCond .eq 5, 3) := by decide +kernel
theorem dX4_greatestGust_27 : decode cX4_greatestGust 27 = .ok (.iload_n 2, 1) := by decide +kernel
theorem dX4_greatestGust_28 : decode cX4_greatestGust 28 = .ok (.ireturn, 1) := by decide +kernel
theorem dX4_greatestGust_29 : decode cX4_greatestGust 29 = .ok (.iinc 2 (-1), 3) := by decide +kernel
theorem dX4_greatestGust_32 : decode cX4_greatestGust 32 = .ok (.goto (-18), 3) := by decide +kernel
theorem dX4_greatestGust_35 : decode cX4_greatestGust 35 = .ok (.iconst 0, 1) := by decide +kernel
theorem dX4_greatestGust_36 : decode cX4_greatestGust 36 = .ok (.ireturn, 1) := by decide +kernel
theorem dX4_dearestBanner_0 : decode cX4_dearestBanner 0 = .ok (.iconst (-1), 1) := by decide +kernel
theorem dX4_dearestBanner_1 : decode cX4_dearestBanner 1 = .ok (.istore_n 1, 1) := by decide +kernel
theorem dX4_dearestBanner_2 : decode cX4_dearestBanner 2 = .ok (.iconst 5, 1) := by decide +kernel
theorem dX4_dearestBanner_3 : decode cX4_dearestBanner 3 = .ok (.istore_n 2, 1) := by decide +kernel
theorem dX4_dearestBanner_4 : decode cX4_dearestBanner 4 = .ok (.iconst 0, 1) := by decide +kernel
theorem dX4_dearestBanner_5 : decode cX4_dearestBanner 5 = .ok (.istore_n 3, 1) := by decide +kernel
theorem dX4_dearestBanner_6 : decode cX4_dearestBanner 6 = .ok (.iload_n 3, 1) := by decide +kernel
theorem dX4_dearestBanner_7 : decode cX4_dearestBanner 7 = .ok (.aload_n 0, 1) := by decide +kernel
theorem dX4_dearestBanner_8 : decode cX4_dearestBanner 8 = .ok (.getfield 48, 3) := by decide +kernel
theorem dX4_dearestBanner_11 : decode cX4_dearestBanner 11 = .ok (.getfield 130, 3) := by decide +kernel
theorem dX4_dearestBanner_14 : decode cX4_dearestBanner 14 = .ok (.if_icmp .ge 64, 3) := by decide +kernel
theorem dX4_dearestBanner_17 : decode cX4_dearestBanner 17 = .ok (.aload_n 0, 1) := by decide +kernel
theorem dX4_dearestBanner_18 : decode cX4_dearestBanner 18 = .ok (.getfield 49, 3) := by decide +kernel
theorem dX4_dearestBanner_21 : decode cX4_dearestBanner 21 = .ok (.iload_n 3, 1) := by decide +kernel
theorem dX4_dearestBanner_22 : decode cX4_dearestBanner 22 = .ok (.invokevirtual 165, 3) := by decide +kernel
theorem dX4_dearestBanner_25 : decode cX4_dearestBanner 25 = .ok (.ifCond .eq 47, 3) := by decide +kernel
theorem dX4_dearestBanner_28 : decode cX4_dearestBanner 28 = .ok (.aload_n 0, 1) := by decide +kernel
theorem dX4_dearestBanner_29 : decode cX4_dearestBanner 29 = .ok (.getfield 14, 3) := by decide +kernel
theorem dX4_dearestBanner_32 : decode cX4_dearestBanner 32 = .ok (.aload_n 0, 1) := by decide +kernel
theorem dX4_dearestBanner_33 : decode cX4_dearestBanner 33 = .ok (.getfield 49, 3) := by decide +kernel
theorem dX4_dearestBanner_36 : decode cX4_dearestBanner 36 = .ok (.invokevirtual 56, 3) := by decide +kernel
theorem dX4_dearestBanner_39 : decode cX4_dearestBanner 39 = .ok (.aload_n 0, 1) := by decide +kernel
theorem dX4_dearestBanner_40 : decode cX4_dearestBanner 40 = .ok (.getfield 14, 3) := by decide +kernel
theorem dX4_dearestBanner_43 : decode cX4_dearestBanner 43 = .ok (.iload_n 3, 1) := by decide +kernel
theorem dX4_dearestBanner_44 : decode cX4_dearestBanner 44 = .ok (.invokevirtual 168, 3) := by decide +kernel
theorem dX4_dearestBanner_47 : decode cX4_dearestBanner 47 = .ok (.pop, 1) := by decide +kernel
theorem dX4_dearestBanner_48 : decode cX4_dearestBanner 48 = .ok (.aload_n 0, 1) := by decide +kernel
theorem dX4_dearestBanner_49 : decode cX4_dearestBanner 49 = .ok (.getfield 38, 3) := by decide +kernel
theorem dX4_dearestBanner_52 : decode cX4_dearestBanner 52 = .ok (.aload_n 0, 1) := by decide +kernel
theorem dX4_dearestBanner_53 : decode cX4_dearestBanner 53 = .ok (.getfield 14, 3) := by decide +kernel
theorem dX4_dearestBanner_56 : decode cX4_dearestBanner 56 = .ok (.invokevirtual 124, 3) := by decide +kernel
theorem dX4_dearestBanner_59 : decode cX4_dearestBanner 59 = .ok (.istore 4, 2) := by decide +kernel
theorem dX4_dearestBanner_61 : decode cX4_dearestBanner 61 = .ok (.iload 4, 2) := by decide +kernel
theorem dX4_dearestBanner_63 : decode cX4_dearestBanner 63 = .ok (.iload_n 2, 1) := by decide +kernel
theorem dX4_dearestBanner_64 : decode cX4_dearestBanner 64 = .ok (.if_icmp .ge 8, 3) := by decide +kernel
theorem dX4_dearestBanner_67 : decode cX4_dearestBanner 67 = .ok (.iload 4, 2) := by decide +kernel
theorem dX4_dearestBanner_69 : decode cX4_dearestBanner 69 = .ok (.istore_n 2, 1) := by decide +kernel
theorem dX4_dearestBanner_70 : decode cX4_dearestBanner 70 = .ok (.iload_n 3, 1) := by decide +kernel
theorem dX4_dearestBanner_71 : decode cX4_dearestBanner 71 = .ok (.istore_n 1, 1) := by decide +kernel
theorem dX4_dearestBanner_72 : decode cX4_dearestBanner 72 = .ok (.iinc 3 1, 3) := by decide +kernel
theorem dX4_dearestBanner_75 : decode cX4_dearestBanner 75 = .ok (.goto (-69), 3) := by decide +kernel
theorem dX4_dearestBanner_78 : decode cX4_dearestBanner 78 = .ok (.iload_n 1, 1) := by decide +kernel
theorem dX4_dearestBanner_79 : decode cX4_dearestBanner 79 = .ok (.ireturn, 1) := by decide +kernel
theorem dX4_roundByOneReef_0 : decode cX4_roundByOneReef 0 = .ok (.aload_n 0, 1) := by decide +kernel
theorem dX4_roundByOneReef_1 : decode cX4_roundByOneReef 1 = .ok (.getfield 14, 3) := by decide +kernel
theorem dX4_roundByOneReef_4 : decode cX4_roundByOneReef 4 = .ok (.aload_n 0, 1) := by decide +kernel
theorem dX4_roundByOneReef_5 : decode cX4_roundByOneReef 5 = .ok (.getfield 49, 3) := by decide +kernel
theorem dX4_roundByOneReef_8 : decode cX4_roundByOneReef 8 = .ok (.invokevirtual 56, 3) := by decide +kernel
theorem dX4_roundByOneReef_11 : decode cX4_roundByOneReef 11 = .ok (.iconst 0, 1) := by decide +kernel
theorem dX4_roundByOneReef_12 : decode cX4_roundByOneReef 12 = .ok (.istore_n 2, 1) := by decide +kernel
theorem dX4_roundByOneReef_13 : decode cX4_roundByOneReef 13 = .ok (.iload_n 2, 1) := by decide +kernel
theorem dX4_roundByOneReef_14 : decode cX4_roundByOneReef 14 = .ok (.iconst 5, 1) := by decide +kernel
theorem dX4_roundByOneReef_15 : decode cX4_roundByOneReef 15 = .ok (.if_icmp .ge 19, 3) := by decide +kernel
theorem dX4_roundByOneReef_18 : decode cX4_roundByOneReef 18 = .ok (.aload_n 0, 1) := by decide +kernel
theorem dX4_roundByOneReef_19 : decode cX4_roundByOneReef 19 = .ok (.getfield 14, 3) := by decide +kernel
theorem dX4_roundByOneReef_22 : decode cX4_roundByOneReef 22 = .ok (.getfield 88, 3) := by decide +kernel
theorem dX4_roundByOneReef_25 : decode cX4_roundByOneReef 25 = .ok (.iload_n 2, 1) := by decide +kernel
theorem dX4_roundByOneReef_26 : decode cX4_roundByOneReef 26 = .ok (.iload_n 1, 1) := by decide +kernel
theorem dX4_roundByOneReef_27 : decode cX4_roundByOneReef 27 = .ok (.iastore, 1) := by decide +kernel
theorem dX4_roundByOneReef_28 : decode cX4_roundByOneReef 28 = .ok (.iinc 2 1, 3) := by decide +kernel
theorem dX4_roundByOneReef_31 : decode cX4_roundByOneReef 31 = .ok (.goto (-18), 3) := by decide +kernel
theorem dX4_roundByOneReef_34 : decode cX4_roundByOneReef 34 = .ok (.aload_n 0, 1) := by decide +kernel
theorem dX4_roundByOneReef_35 : decode cX4_roundByOneReef 35 = .ok (.getfield 38, 3) := by decide +kernel
theorem dX4_roundByOneReef_38 : decode cX4_roundByOneReef 38 = .ok (.aload_n 0, 1) := by decide +kernel
theorem dX4_roundByOneReef_39 : decode cX4_roundByOneReef 39 = .ok (.getfield 14, 3) := by decide +kernel
theorem dX4_roundByOneReef_42 : decode cX4_roundByOneReef 42 = .ok (.invokevirtual 124, 3) := by decide +kernel
theorem dX4_roundByOneReef_45 : decode cX4_roundByOneReef 45 = .ok (.ireturn, 1) := by decide +kernel
theorem dX4_worstCorner_0 : decode cX4_worstCorner 0 = .ok (.iconst (-1), 1) := by decide +kernel
theorem dX4_worstCorner_1 : decode cX4_worstCorner 1 = .ok (.istore_n 1, 1) := by decide +kernel
theorem dX4_worstCorner_2 : decode cX4_worstCorner 2 = .ok (.iconst 0, 1) := by decide +kernel
theorem dX4_worstCorner_3 : decode cX4_worstCorner 3 = .ok (.istore_n 2, 1) := by decide +kernel
theorem dX4_worstCorner_4 : decode cX4_worstCorner 4 = .ok (.aload_n 0, 1) := by decide +kernel
theorem dX4_worstCorner_5 : decode cX4_worstCorner 5 = .ok (.getfield 14, 3) := by decide +kernel
theorem dX4_worstCorner_8 : decode cX4_worstCorner 8 = .ok (.aload_n 0, 1) := by decide +kernel
theorem dX4_worstCorner_9 : decode cX4_worstCorner 9 = .ok (.getfield 49, 3) := by decide +kernel
theorem dX4_worstCorner_12 : decode cX4_worstCorner 12 = .ok (.invokevirtual 56, 3) := by decide +kernel
theorem dX4_worstCorner_15 : decode cX4_worstCorner 15 = .ok (.aload_n 0, 1) := by decide +kernel
theorem dX4_worstCorner_16 : decode cX4_worstCorner 16 = .ok (.getfield 49, 3) := by decide +kernel
theorem dX4_worstCorner_19 : decode cX4_worstCorner 19 = .ok (.getfield 76, 3) := by decide +kernel
theorem dX4_worstCorner_22 : decode cX4_worstCorner 22 = .ok (.istore_n 3, 1) := by decide +kernel
theorem dX4_worstCorner_23 : decode cX4_worstCorner 23 = .ok (.iload_n 3, 1) := by decide +kernel
theorem dX4_worstCorner_24 : decode cX4_worstCorner 24 = .ok (.aload_n 0, 1) := by decide +kernel
theorem dX4_worstCorner_25 : decode cX4_worstCorner 25 = .ok (.getfield 48, 3) := by decide +kernel
theorem dX4_worstCorner_28 : decode cX4_worstCorner 28 = .ok (.getfield 83, 3) := by decide +kernel
theorem dX4_worstCorner_31 : decode cX4_worstCorner 31 = .ok (.if_icmp .ge 37, 3) := by decide +kernel
theorem dX4_worstCorner_34 : decode cX4_worstCorner 34 = .ok (.aload_n 0, 1) := by decide +kernel
theorem dX4_worstCorner_35 : decode cX4_worstCorner 35 = .ok (.getfield 38, 3) := by decide +kernel
theorem dX4_worstCorner_38 : decode cX4_worstCorner 38 = .ok (.aload_n 0, 1) := by decide +kernel
theorem dX4_worstCorner_39 : decode cX4_worstCorner 39 = .ok (.getfield 14, 3) := by decide +kernel
theorem dX4_worstCorner_42 : decode cX4_worstCorner 42 = .ok (.iconst 0, 1) := by decide +kernel
theorem dX4_worstCorner_43 : decode cX4_worstCorner 43 = .ok (.invokevirtual 68, 3) := by decide +kernel
theorem dX4_worstCorner_46 : decode cX4_worstCorner 46 = .ok (.invokestatic 171, 3) := by decide +kernel
theorem dX4_worstCorner_49 : decode cX4_worstCorner 49 = .ok (.istore 4, 2) := by decide +kernel
theorem dX4_worstCorner_51 : decode cX4_worstCorner 51 = .ok (.iload 4, 2) := by decide +kernel
theorem dX4_worstCorner_53 : decode cX4_worstCorner 53 = .ok (.iload_n 2, 1) := by decide +kernel
theorem dX4_worstCorner_54 : decode cX4_worstCorner 54 = .ok (.if_icmp .le 8, 3) := by decide +kernel
theorem dX4_worstCorner_57 : decode cX4_worstCorner 57 = .ok (.iload 4, 2) := by decide +kernel
theorem dX4_worstCorner_59 : decode cX4_worstCorner 59 = .ok (.istore_n 2, 1) := by decide +kernel
theorem dX4_worstCorner_60 : decode cX4_worstCorner 60 = .ok (.iload_n 3, 1) := by decide +kernel
theorem dX4_worstCorner_61 : decode cX4_worstCorner 61 = .ok (.istore_n 1, 1) := by decide +kernel
theorem dX4_worstCorner_62 : decode cX4_worstCorner 62 = .ok (.iinc 3 1, 3) := by decide +kernel
theorem dX4_worstCorner_65 : decode cX4_worstCorner 65 = .ok (.goto (-42), 3) := by decide +kernel
theorem dX4_worstCorner_68 : decode cX4_worstCorner 68 = .ok (.iload_n 1, 1) := by decide +kernel
theorem dX4_worstCorner_69 : decode cX4_worstCorner 69 = .ok (.ireturn, 1) := by decide +kernel
theorem dX4_narrowOnes_0 : decode cX4_narrowOnes 0 = .ok (.iconst 0, 1) := by decide +kernel
theorem dX4_narrowOnes_1 : decode cX4_narrowOnes 1 = .ok (.istore_n 1, 1) := by decide +kernel
theorem dX4_narrowOnes_2 : decode cX4_narrowOnes 2 = .ok (.iconst 0, 1) := by decide +kernel
theorem dX4_narrowOnes_3 : decode cX4_narrowOnes 3 = .ok (.istore_n 2, 1) := by decide +kernel
theorem dX4_narrowOnes_4 : decode cX4_narrowOnes 4 = .ok (.iload_n 2, 1) := by decide +kernel
theorem dX4_narrowOnes_5 : decode cX4_narrowOnes 5 = .ok (.aload_n 0, 1) := by decide +kernel
theorem dX4_narrowOnes_6 : decode cX4_narrowOnes 6 = .ok (.getfield 48, 3) := by decide +kernel
theorem dX4_narrowOnes_9 : decode cX4_narrowOnes 9 = .ok (.getfield 130, 3) := by decide +kernel
theorem dX4_narrowOnes_12 : decode cX4_narrowOnes 12 = .ok (.if_icmp .ge 95, 3) := by decide +kernel
theorem dX4_narrowOnes_15 : decode cX4_narrowOnes 15 = .ok (.aload_n 0, 1) := by decide +kernel
theorem dX4_narrowOnes_16 : decode cX4_narrowOnes 16 = .ok (.getfield 38, 3) := by decide +kernel
theorem dX4_narrowOnes_19 : decode cX4_narrowOnes 19 = .ok (.aload_n 0, 1) := by decide +kernel
theorem dX4_narrowOnes_20 : decode cX4_narrowOnes 20 = .ok (.getfield 49, 3) := by decide +kernel
theorem dX4_narrowOnes_23 : decode cX4_narrowOnes 23 = .ok (.invokevirtual 60, 3) := by decide +kernel
theorem dX4_narrowOnes_26 : decode cX4_narrowOnes 26 = .ok (.ifCond .ne 81, 3) := by decide +kernel
theorem dX4_narrowOnes_29 : decode cX4_narrowOnes 29 = .ok (.aload_n 0, 1) := by decide +kernel
theorem dX4_narrowOnes_30 : decode cX4_narrowOnes 30 = .ok (.getfield 49, 3) := by decide +kernel
theorem dX4_narrowOnes_33 : decode cX4_narrowOnes 33 = .ok (.iload_n 2, 1) := by decide +kernel
theorem dX4_narrowOnes_34 : decode cX4_narrowOnes 34 = .ok (.invokevirtual 165, 3) := by decide +kernel
theorem dX4_narrowOnes_37 : decode cX4_narrowOnes 37 = .ok (.ifCond .eq 64, 3) := by decide +kernel
theorem dX4_narrowOnes_40 : decode cX4_narrowOnes 40 = .ok (.aload_n 0, 1) := by decide +kernel
theorem dX4_narrowOnes_41 : decode cX4_narrowOnes 41 = .ok (.getfield 38, 3) := by decide +kernel
theorem dX4_narrowOnes_44 : decode cX4_narrowOnes 44 = .ok (.aload_n 0, 1) := by decide +kernel
theorem dX4_narrowOnes_45 : decode cX4_narrowOnes 45 = .ok (.getfield 49, 3) := by decide +kernel
theorem dX4_narrowOnes_48 : decode cX4_narrowOnes 48 = .ok (.iload_n 2, 1) := by decide +kernel
theorem dX4_narrowOnes_49 : decode cX4_narrowOnes 49 = .ok (.aload_n 0, 1) := by decide +kernel
theorem dX4_narrowOnes_50 : decode cX4_narrowOnes 50 = .ok (.getfield 38, 3) := by decide +kernel
theorem dX4_narrowOnes_53 : decode cX4_narrowOnes 53 = .ok (.aload_n 0, 1) := by decide +kernel
theorem dX4_narrowOnes_54 : decode cX4_narrowOnes 54 = .ok (.getfield 49, 3) := by decide +kernel
theorem dX4_narrowOnes_57 : decode cX4_narrowOnes 57 = .ok (.iload_n 2, 1) := by decide +kernel
theorem dX4_narrowOnes_58 : decode cX4_narrowOnes 58 = .ok (.invokevirtual 176, 3) := by decide +kernel
theorem dX4_narrowOnes_61 : decode cX4_narrowOnes 61 = .ok (.iconst 0, 1) := by decide +kernel
theorem dX4_narrowOnes_62 : decode cX4_narrowOnes 62 = .ok (.invokevirtual 179, 3) := by decide +kernel
theorem dX4_narrowOnes_65 : decode cX4_narrowOnes 65 = .ok (.aload_n 0, 1) := by decide +kernel
theorem dX4_narrowOnes_66 : decode cX4_narrowOnes 66 = .ok (.getfield 38, 3) := by decide +kernel
theorem dX4_narrowOnes_69 : decode cX4_narrowOnes 69 = .ok (.getfield 183, 3) := by decide +kernel
theorem dX4_narrowOnes_72 : decode cX4_narrowOnes 72 = .ok (.i2l, 1) := by decide +kernel
theorem dX4_narrowOnes_73 : decode cX4_narrowOnes 73 = .ok (.aload_n 0, 1) := by decide +kernel
theorem dX4_narrowOnes_74 : decode cX4_narrowOnes 74 = .ok (.getfield 38, 3) := by decide +kernel
theorem dX4_narrowOnes_77 : decode cX4_narrowOnes 77 = .ok (.getfield 186, 3) := by decide +kernel
theorem dX4_narrowOnes_80 : decode cX4_narrowOnes 80 = .ok (.i2l, 1) := by decide +kernel
theorem dX4_narrowOnes_81 : decode cX4_narrowOnes 81 = .ok (.lsub, 1) := by decide +kernel
theorem dX4_narrowOnes_82 : decode cX4_narrowOnes 82 = .ok (.lstore_n 3, 1) := by decide +kernel
theorem dX4_narrowOnes_83 : decode cX4_narrowOnes 83 = .ok (.lload_n 3, 1) := by decide +kernel
theorem dX4_narrowOnes_84 : decode cX4_narrowOnes 84 = .ok (.lconst 0, 1) := by decide +kernel
theorem dX4_narrowOnes_85 : decode cX4_narrowOnes 85 = .ok (.lcmp, 1) := by decide +kernel
theorem dX4_narrowOnes_86 : decode cX4_narrowOnes 86 = .ok (.ifCond .eq 9, 3) := by decide +kernel
theorem dX4_narrowOnes_89 : decode cX4_narrowOnes 89 = .ok (.lload_n 3, 1) := by decide +kernel
theorem dX4_narrowOnes_90 : decode cX4_narrowOnes 90 = .ok (.lconst 1, 1) := by decide +kernel
theorem dX4_narrowOnes_91 : decode cX4_narrowOnes 91 = .ok (.lcmp, 1) := by decide +kernel
theorem dX4_narrowOnes_92 : decode cX4_narrowOnes 92 = .ok (.ifCond .ne 9, 3) := by decide +kernel
theorem dX4_narrowOnes_95 : decode cX4_narrowOnes 95 = .ok (.iload_n 1, 1) := by decide +kernel
theorem dX4_narrowOnes_96 : decode cX4_narrowOnes 96 = .ok (.iconst 1, 1) := by decide +kernel
theorem dX4_narrowOnes_97 : decode cX4_narrowOnes 97 = .ok (.iload_n 2, 1) := by decide +kernel
theorem dX4_narrowOnes_98 : decode cX4_narrowOnes 98 = .ok (.ishl, 1) := by decide +kernel
theorem dX4_narrowOnes_99 : decode cX4_narrowOnes 99 = .ok (.ior, 1) := by decide +kernel
theorem dX4_narrowOnes_100 : decode cX4_narrowOnes 100 = .ok (.istore_n 1, 1) := by decide +kernel
theorem dX4_narrowOnes_101 : decode cX4_narrowOnes 101 = .ok (.iinc 2 1, 3) := by decide +kernel
theorem dX4_narrowOnes_104 : decode cX4_narrowOnes 104 = .ok (.goto (-100), 3) := by decide +kernel
theorem dX4_narrowOnes_107 : decode cX4_narrowOnes 107 = .ok (.iload_n 1, 1) := by decide +kernel
theorem dX4_narrowOnes_108 : decode cX4_narrowOnes 108 = .ok (.ireturn, 1) := by decide +kernel
theorem dX4_oddsOf_0 : decode cX4_oddsOf 0 = .ok (.iconst 0, 1) := by decide +kernel
theorem dX4_oddsOf_1 : decode cX4_oddsOf 1 = .ok (.istore_n 3, 1) := by decide +kernel
theorem dX4_oddsOf_2 : decode cX4_oddsOf 2 = .ok (.iconst 1, 1) := by decide +kernel
theorem dX4_oddsOf_3 : decode cX4_oddsOf 3 = .ok (.istore 4, 2) := by decide +kernel
theorem dX4_oddsOf_5 : decode cX4_oddsOf 5 = .ok (.aload_n 0, 1) := by decide +kernel
theorem dX4_oddsOf_6 : decode cX4_oddsOf 6 = .ok (.getfield 49, 3) := by decide +kernel
theorem dX4_oddsOf_9 : decode cX4_oddsOf 9 = .ok (.getfield 76, 3) := by decide +kernel
theorem dX4_oddsOf_12 : decode cX4_oddsOf 12 = .ok (.istore 5, 2) := by decide +kernel
theorem dX4_oddsOf_14 : decode cX4_oddsOf 14 = .ok (.iload 5, 2) := by decide +kernel
theorem dX4_oddsOf_16 : decode cX4_oddsOf 16 = .ok (.aload_n 0, 1) := by decide +kernel
theorem dX4_oddsOf_17 : decode cX4_oddsOf 17 = .ok (.getfield 48, 3) := by decide +kernel
theorem dX4_oddsOf_20 : decode cX4_oddsOf 20 = .ok (.getfield 83, 3) := by decide +kernel
theorem dX4_oddsOf_23 : decode cX4_oddsOf 23 = .ok (.if_icmp .ge 32, 3) := by decide +kernel
theorem dX4_oddsOf_26 : decode cX4_oddsOf 26 = .ok (.aload_n 0, 1) := by decide +kernel
theorem dX4_oddsOf_27 : decode cX4_oddsOf 27 = .ok (.getfield 48, 3) := by decide +kernel
theorem dX4_oddsOf_30 : decode cX4_oddsOf 30 = .ok (.getfield 189, 3) := by decide +kernel
theorem dX4_oddsOf_33 : decode cX4_oddsOf 33 = .ok (.iload 5, 2) := by decide +kernel
theorem dX4_oddsOf_35 : decode cX4_oddsOf 35 = .ok (.iaload, 1) := by decide +kernel
theorem dX4_oddsOf_36 : decode cX4_oddsOf 36 = .ok (.ifCond .eq 13, 3) := by decide +kernel
theorem dX4_oddsOf_39 : decode cX4_oddsOf 39 = .ok (.iinc 3 1, 3) := by decide +kernel
theorem dX4_oddsOf_42 : decode cX4_oddsOf 42 = .ok (.iload 4, 2) := by decide +kernel
theorem dX4_oddsOf_44 : decode cX4_oddsOf 44 = .ok (.bipush 100, 2) := by decide +kernel
theorem dX4_oddsOf_46 : decode cX4_oddsOf 46 = .ok (.imul, 1) := by decide +kernel
theorem dX4_oddsOf_47 : decode cX4_oddsOf 47 = .ok (.istore 4, 2) := by decide +kernel
theorem dX4_oddsOf_49 : decode cX4_oddsOf 49 = .ok (.iinc 5 1, 3) := by decide +kernel
theorem dX4_oddsOf_52 : decode cX4_oddsOf 52 = .ok (.goto (-38), 3) := by decide +kernel
theorem dX4_oddsOf_55 : decode cX4_oddsOf 55 = .ok (.iconst 0, 1) := by decide +kernel
theorem dX4_oddsOf_56 : decode cX4_oddsOf 56 = .ok (.istore 5, 2) := by decide +kernel
theorem dX4_oddsOf_58 : decode cX4_oddsOf 58 = .ok (.iconst 0, 1) := by decide +kernel
theorem dX4_oddsOf_59 : decode cX4_oddsOf 59 = .ok (.istore 6, 2) := by decide +kernel
theorem dX4_oddsOf_61 : decode cX4_oddsOf 61 = .ok (.iload 6, 2) := by decide +kernel
theorem dX4_oddsOf_63 : decode cX4_oddsOf 63 = .ok (.iconst 1, 1) := by decide +kernel
theorem dX4_oddsOf_64 : decode cX4_oddsOf 64 = .ok (.iload_n 3, 1) := by decide +kernel
theorem dX4_oddsOf_65 : decode cX4_oddsOf 65 = .ok (.ishl, 1) := by decide +kernel
theorem dX4_oddsOf_66 : decode cX4_oddsOf 66 = .ok (.if_icmp .ge 21, 3) := by decide +kernel
theorem dX4_oddsOf_69 : decode cX4_oddsOf 69 = .ok (.iload 5, 2) := by decide +kernel
theorem dX4_oddsOf_71 : decode cX4_oddsOf 71 = .ok (.aload_n 0, 1) := by decide +kernel
theorem dX4_oddsOf_72 : decode cX4_oddsOf 72 = .ok (.iload_n 1, 1) := by decide +kernel
theorem dX4_oddsOf_73 : decode cX4_oddsOf 73 = .ok (.iload 6, 2) := by decide +kernel
theorem dX4_oddsOf_75 : decode cX4_oddsOf 75 = .ok (.invokevirtual 192, 3) := by decide +kernel
theorem dX4_oddsOf_78 : decode cX4_oddsOf 78 = .ok (.iadd, 1) := by decide +kernel
theorem dX4_oddsOf_79 : decode cX4_oddsOf 79 = .ok (.istore 5, 2) := by decide +kernel
theorem dX4_oddsOf_81 : decode cX4_oddsOf 81 = .ok (.iinc 6 1, 3) := by decide +kernel
theorem dX4_oddsOf_84 : decode cX4_oddsOf 84 = .ok (.goto (-23), 3) := by decide +kernel
theorem dX4_oddsOf_87 : decode cX4_oddsOf 87 = .ok (.iload 4, 2) := by decide +kernel
theorem dX4_oddsOf_89 : decode cX4_oddsOf 89 = .ok (.iload 5, 2) := by decide +kernel
theorem dX4_oddsOf_91 : decode cX4_oddsOf 91 = .ok (.invokestatic 195, 3) := by decide +kernel
theorem dX4_oddsOf_94 : decode cX4_oddsOf 94 = .ok (.istore 6, 2) := by decide +kernel
theorem dX4_oddsOf_96 : decode cX4_oddsOf 96 = .ok (.iload 6, 2) := by decide +kernel
theorem dX4_oddsOf_98 : decode cX4_oddsOf 98 = .ok (.ifCond .ne 5, 3) := by decide +kernel
theorem dX4_oddsOf_101 : decode cX4_oddsOf 101 = .ok (.iconst (-1), 1) := by decide +kernel
theorem dX4_oddsOf_102 : decode cX4_oddsOf 102 = .ok (.ireturn, 1) := by decide +kernel
theorem dX4_oddsOf_103 : decode cX4_oddsOf 103 = .ok (.iload_n 2, 1) := by decide +kernel
theorem dX4_oddsOf_104 : decode cX4_oddsOf 104 = .ok (.ifCond .eq 11, 3) := by decide +kernel
theorem dX4_oddsOf_107 : decode cX4_oddsOf 107 = .ok (.iload 5, 2) := by decide +kernel
theorem dX4_oddsOf_109 : decode cX4_oddsOf 109 = .ok (.iload 6, 2) := by decide +kernel
theorem dX4_oddsOf_111 : decode cX4_oddsOf 111 = .ok (.idiv, 1) := by decide +kernel
theorem dX4_oddsOf_112 : decode cX4_oddsOf 112 = .ok (.goto 8, 3) := by decide +kernel
theorem dX4_oddsOf_115 : decode cX4_oddsOf 115 = .ok (.iload 4, 2) := by decide +kernel
theorem dX4_oddsOf_117 : decode cX4_oddsOf 117 = .ok (.iload 6, 2) := by decide +kernel
theorem dX4_oddsOf_119 : decode cX4_oddsOf 119 = .ok (.idiv, 1) := by decide +kernel
theorem dX4_oddsOf_120 : decode cX4_oddsOf 120 = .ok (.ireturn, 1) := by decide +kernel
theorem dX4_weighLargest_0 : decode cX4_weighLargest 0 = .ok (.iconst 0, 1) := by decide +kernel
theorem dX4_weighLargest_1 : decode cX4_weighLargest 1 = .ok (.istore_n 1, 1) := by decide +kernel
theorem dX4_weighLargest_2 : decode cX4_weighLargest 2 = .ok (.iconst (-1), 1) := by decide +kernel
theorem dX4_weighLargest_3 : decode cX4_weighLargest 3 = .ok (.istore_n 2, 1) := by decide +kernel
theorem dX4_weighLargest_4 : decode cX4_weighLargest 4 = .ok (.iconst 0, 1) := by decide +kernel
theorem dX4_weighLargest_5 : decode cX4_weighLargest 5 = .ok (.istore_n 3, 1) := by decide +kernel
theorem dX4_weighLargest_6 : decode cX4_weighLargest 6 = .ok (.iload_n 3, 1) := by decide +kernel
theorem dX4_weighLargest_7 : decode cX4_weighLargest 7 = .ok (.aload_n 0, 1) := by decide +kernel
theorem dX4_weighLargest_8 : decode cX4_weighLargest 8 = .ok (.getfield 48, 3) := by decide +kernel
theorem dX4_weighLargest_11 : decode cX4_weighLargest 11 = .ok (.getfield 130, 3) := by decide +kernel
theorem dX4_weighLargest_14 : decode cX4_weighLargest 14 = .ok (.if_icmp .ge 84, 3) := by decide +kernel
theorem dX4_weighLargest_17 : decode cX4_weighLargest 17 = .ok (.aload_n 0, 1) := by decide +kernel
theorem dX4_weighLargest_18 : decode cX4_weighLargest 18 = .ok (.getfield 49, 3) := by decide +kernel
theorem dX4_weighLargest_21 : decode cX4_weighLargest 21 = .ok (.getfield 121, 3) := by decide +kernel
theorem dX4_weighLargest_24 : decode cX4_weighLargest 24 = .ok (.iload_n 3, 1) := by decide +kernel
theorem dX4_weighLargest_25 : decode cX4_weighLargest 25 = .ok (.iaload, 1) := by decide +kernel
theorem dX4_weighLargest_26 : decode cX4_weighLargest 26 = .ok (.istore 4, 2) := by decide +kernel
theorem dX4_weighLargest_28 : decode cX4_weighLargest 28 = .ok (.aload_n 0, 1) := by decide +kernel
theorem dX4_weighLargest_29 : decode cX4_weighLargest 29 = .ok (.getfield 49, 3) := by decide +kernel
theorem dX4_weighLargest_32 : decode cX4_weighLargest 32 = .ok (.iload 4, 2) := by decide +kernel
theorem dX4_weighLargest_34 : decode cX4_weighLargest 34 = .ok (.invokevirtual 165, 3) := by decide +kernel
theorem dX4_weighLargest_37 : decode cX4_weighLargest 37 = .ok (.ifCond .eq 55, 3) := by decide +kernel
theorem dX4_weighLargest_40 : decode cX4_weighLargest 40 = .ok (.aload_n 0, 1) := by decide +kernel
theorem dX4_weighLargest_41 : decode cX4_weighLargest 41 = .ok (.getfield 29, 3) := by decide +kernel
theorem dX4_weighLargest_44 : decode cX4_weighLargest 44 = .ok (.iload 4, 2) := by decide +kernel
theorem dX4_weighLargest_46 : decode cX4_weighLargest 46 = .ok (.iload_n 2, 1) := by decide +kernel
theorem dX4_weighLargest_47 : decode cX4_weighLargest 47 = .ok (.iastore, 1) := by decide +kernel
theorem dX4_weighLargest_48 : decode cX4_weighLargest 48 = .ok (.iconst 0, 1) := by decide +kernel
theorem dX4_weighLargest_49 : decode cX4_weighLargest 49 = .ok (.istore 5, 2) := by decide +kernel
theorem dX4_weighLargest_51 : decode cX4_weighLargest 51 = .ok (.iload 5, 2) := by decide +kernel
theorem dX4_weighLargest_53 : decode cX4_weighLargest 53 = .ok (.bipush 16, 2) := by decide +kernel
theorem dX4_weighLargest_55 : decode cX4_weighLargest 55 = .ok (.if_icmp .ge 31, 3) := by decide +kernel
theorem dX4_weighLargest_58 : decode cX4_weighLargest 58 = .ok (.aload_n 0, 1) := by decide +kernel
theorem dX4_weighLargest_59 : decode cX4_weighLargest 59 = .ok (.getfield 25, 3) := by decide +kernel
theorem dX4_weighLargest_62 : decode cX4_weighLargest 62 = .ok (.iload 4, 2) := by decide +kernel
theorem dX4_weighLargest_64 : decode cX4_weighLargest 64 = .ok (.bipush 16, 2) := by decide +kernel
theorem dX4_weighLargest_66 : decode cX4_weighLargest 66 = .ok (.imul, 1) := by decide +kernel
theorem dX4_weighLargest_67 : decode cX4_weighLargest 67 = .ok (.iload 5, 2) := by decide +kernel
theorem dX4_weighLargest_69 : decode cX4_weighLargest 69 = .ok (.iadd, 1) := by decide +kernel
theorem dX4_weighLargest_70 : decode cX4_weighLargest 70 = .ok (.aload_n 0, 1) := by decide +kernel
theorem dX4_weighLargest_71 : decode cX4_weighLargest 71 = .ok (.iload 4, 2) := by decide +kernel
theorem dX4_weighLargest_73 : decode cX4_weighLargest 73 = .ok (.iload_n 2, 1) := by decide +kernel
theorem dX4_weighLargest_74 : decode cX4_weighLargest 74 = .ok (.iload 5, 2) := by decide +kernel
theorem dX4_weighLargest_76 : decode cX4_weighLargest 76 = .ok (.invokevirtual 198, 3) := by decide +kernel
theorem dX4_weighLargest_79 : decode cX4_weighLargest 79 = .ok (.bastore, 1) := by decide +kernel
theorem dX4_weighLargest_80 : decode cX4_weighLargest 80 = .ok (.iinc 5 1, 3) := by decide +kernel
theorem dX4_weighLargest_83 : decode cX4_weighLargest 83 = .ok (.goto (-32), 3) := by decide +kernel
theorem dX4_weighLargest_86 : decode cX4_weighLargest 86 = .ok (.iload 4, 2) := by decide +kernel
theorem dX4_weighLargest_88 : decode cX4_weighLargest 88 = .ok (.istore_n 2, 1) := by decide +kernel
theorem dX4_weighLargest_89 : decode cX4_weighLargest 89 = .ok (.iinc 1 1, 3) := by decide +kernel
theorem dX4_weighLargest_92 : decode cX4_weighLargest 92 = .ok (.iinc 3 1, 3) := by decide +kernel
theorem dX4_weighLargest_95 : decode cX4_weighLargest 95 = .ok (.goto (-89), 3) := by decide +kernel
theorem dX4_weighLargest_98 : decode cX4_weighLargest 98 = .ok (.iload_n 1, 1) := by decide +kernel
theorem dX4_weighLargest_99 : decode cX4_weighLargest 99 = .ok (.ireturn, 1) := by decide +kernel
theorem dX4_staysUpBy_0 : decode cX4_staysUpBy 0 = .ok (.aload_n 0, 1) := by decide +kernel
theorem dX4_staysUpBy_1 : decode cX4_staysUpBy 1 = .ok (.getfield 14, 3) := by decide +kernel
theorem dX4_staysUpBy_4 : decode cX4_staysUpBy 4 = .ok (.aload_n 0, 1) := by decide +kernel
theorem dX4_staysUpBy_5 : decode cX4_staysUpBy 5 = .ok (.getfield 49, 3) := by decide +kernel
theorem dX4_staysUpBy_8 : decode cX4_staysUpBy 8 = .ok (.invokevirtual 56, 3) := by decide +kernel
theorem dX4_staysUpBy_11 : decode cX4_staysUpBy 11 = .ok (.aload_n 0, 1) := by decide +kernel
theorem dX4_staysUpBy_12 : decode cX4_staysUpBy 12 = .ok (.getfield 14, 3) := by decide +kernel
theorem dX4_staysUpBy_15 : decode cX4_staysUpBy 15 = .ok (.getfield 88, 3) := by decide +kernel
theorem dX4_staysUpBy_18 : decode cX4_staysUpBy 18 = .ok (.iload_n 1, 1) := by decide +kernel
theorem dX4_staysUpBy_19 : decode cX4_staysUpBy 19 = .ok (.iload_n 3, 1) := by decide +kernel
theorem dX4_staysUpBy_20 : decode cX4_staysUpBy 20 = .ok (.iconst 4, 1) := by decide +kernel
theorem dX4_staysUpBy_21 : decode cX4_staysUpBy 21 = .ok (.irem, 1) := by decide +kernel
theorem dX4_staysUpBy_22 : decode cX4_staysUpBy 22 = .ok (.iastore, 1) := by decide +kernel
theorem dX4_staysUpBy_23 : decode cX4_staysUpBy 23 = .ok (.iconst 0, 1) := by decide +kernel
theorem dX4_staysUpBy_24 : decode cX4_staysUpBy 24 = .ok (.istore 4, 2) := by decide +kernel
theorem dX4_staysUpBy_26 : decode cX4_staysUpBy 26 = .ok (.iload_n 2, 1) := by decide +kernel
theorem dX4_staysUpBy_27 : decode cX4_staysUpBy 27 = .ok (.iconst (-1), 1) := by decide +kernel
theorem dX4_staysUpBy_28 : decode cX4_staysUpBy 28 = .ok (.if_icmp .eq 29, 3) := by decide +kernel
theorem dX4_staysUpBy_31 : decode cX4_staysUpBy 31 = .ok (.aload_n 0, 1) := by decide +kernel
theorem dX4_staysUpBy_32 : decode cX4_staysUpBy 32 = .ok (.getfield 14, 3) := by decide +kernel
theorem dX4_staysUpBy_35 : decode cX4_staysUpBy 35 = .ok (.getfield 88, 3) := by decide +kernel
theorem dX4_staysUpBy_38 : decode cX4_staysUpBy 38 = .ok (.iload_n 2, 1) := by decide +kernel
theorem dX4_staysUpBy_39 : decode cX4_staysUpBy 39 = .ok (.iload_n 3, 1) := by decide +kernel
theorem dX4_staysUpBy_40 : decode cX4_staysUpBy 40 = .ok (.iconst 4, 1) := by decide +kernel
theorem dX4_staysUpBy_41 : decode cX4_staysUpBy 41 = .ok (.idiv, 1) := by decide +kernel
theorem dX4_staysUpBy_42 : decode cX4_staysUpBy 42 = .ok (.iastore, 1) := by decide +kernel
theorem dX4_staysUpBy_43 : decode cX4_staysUpBy 43 = .ok (.aload_n 0, 1) := by decide +kernel
theorem dX4_staysUpBy_44 : decode cX4_staysUpBy 44 = .ok (.getfield 38, 3) := by decide +kernel
theorem dX4_staysUpBy_47 : decode cX4_staysUpBy 47 = .ok (.aload_n 0, 1) := by decide +kernel
theorem dX4_staysUpBy_48 : decode cX4_staysUpBy 48 = .ok (.getfield 14, 3) := by decide +kernel
theorem dX4_staysUpBy_51 : decode cX4_staysUpBy 51 = .ok (.iload_n 2, 1) := by decide +kernel
theorem dX4_staysUpBy_52 : decode cX4_staysUpBy 52 = .ok (.invokevirtual 202, 3) := by decide +kernel
theorem dX4_staysUpBy_55 : decode cX4_staysUpBy 55 = .ok (.istore 4, 2) := by decide +kernel
theorem dX4_staysUpBy_57 : decode cX4_staysUpBy 57 = .ok (.iconst 0, 1) := by decide +kernel
theorem dX4_staysUpBy_58 : decode cX4_staysUpBy 58 = .ok (.istore 5, 2) := by decide +kernel
theorem dX4_staysUpBy_60 : decode cX4_staysUpBy 60 = .ok (.iload 5, 2) := by decide +kernel
theorem dX4_staysUpBy_62 : decode cX4_staysUpBy 62 = .ok (.bipush 8, 2) := by decide +kernel
theorem dX4_staysUpBy_64 : decode cX4_staysUpBy 64 = .ok (.if_icmp .ge 70, 3) := by decide +kernel
theorem dX4_staysUpBy_67 : decode cX4_staysUpBy 67 = .ok (.aload_n 0, 1) := by decide +kernel
theorem dX4_staysUpBy_68 : decode cX4_staysUpBy 68 = .ok (.getfield 38, 3) := by decide +kernel
theorem dX4_staysUpBy_71 : decode cX4_staysUpBy 71 = .ok (.aload_n 0, 1) := by decide +kernel
theorem dX4_staysUpBy_72 : decode cX4_staysUpBy 72 = .ok (.getfield 14, 3) := by decide +kernel
theorem dX4_staysUpBy_75 : decode cX4_staysUpBy 75 = .ok (.invokevirtual 60, 3) := by decide +kernel
theorem dX4_staysUpBy_78 : decode cX4_staysUpBy 78 = .ok (.ifCond .ne 56, 3) := by decide +kernel
theorem dX4_staysUpBy_81 : decode cX4_staysUpBy 81 = .ok (.aload_n 0, 1) := by decide +kernel
theorem dX4_staysUpBy_82 : decode cX4_staysUpBy 82 = .ok (.getfield 38, 3) := by decide +kernel
theorem dX4_staysUpBy_85 : decode cX4_staysUpBy 85 = .ok (.aload_n 0, 1) := by decide +kernel
theorem dX4_staysUpBy_86 : decode cX4_staysUpBy 86 = .ok (.getfield 14, 3) := by decide +kernel
theorem dX4_staysUpBy_89 : decode cX4_staysUpBy 89 = .ok (.iload_n 1, 1) := by decide +kernel
theorem dX4_staysUpBy_90 : decode cX4_staysUpBy 90 = .ok (.iload 4, 2) := by decide +kernel
theorem dX4_staysUpBy_92 : decode cX4_staysUpBy 92 = .ok (.iconst 0, 1) := by decide +kernel
theorem dX4_staysUpBy_93 : decode cX4_staysUpBy 93 = .ok (.invokevirtual 179, 3) := by decide +kernel
theorem dX4_staysUpBy_96 : decode cX4_staysUpBy 96 = .ok (.aload_n 0, 1) := by decide +kernel
theorem dX4_staysUpBy_97 : decode cX4_staysUpBy 97 = .ok (.getfield 38, 3) := by decide +kernel
theorem dX4_staysUpBy_100 : decode cX4_staysUpBy 100 = .ok (.getfield 186, 3) := by decide +kernel
theorem dX4_staysUpBy_103 : decode cX4_staysUpBy 103 = .ok (.aload_n 0, 1) := by decide +kernel
theorem dX4_staysUpBy_104 : decode cX4_staysUpBy 104 = .ok (.getfield 38, 3) := by decide +kernel
theorem dX4_staysUpBy_107 : decode cX4_staysUpBy 107 = .ok (.getfield 183, 3) := by decide +kernel
theorem dX4_staysUpBy_110 : decode cX4_staysUpBy 110 = .ok (.if_icmp .le 5, 3) := by decide +kernel
theorem dX4_staysUpBy_113 : decode cX4_staysUpBy 113 = .ok (.iconst 0, 1) := by decide +kernel
theorem dX4_staysUpBy_114 : decode cX4_staysUpBy 114 = .ok (.ireturn, 1) := by decide +kernel
theorem dX4_staysUpBy_115 : decode cX4_staysUpBy 115 = .ok (.aload_n 0, 1) := by decide +kernel
theorem dX4_staysUpBy_116 : decode cX4_staysUpBy 116 = .ok (.getfield 14, 3) := by decide +kernel
theorem dX4_staysUpBy_119 : decode cX4_staysUpBy 119 = .ok (.dup, 1) := by decide +kernel
theorem dX4_staysUpBy_120 : decode cX4_staysUpBy 120 = .ok (.getfield 76, 3) := by decide +kernel
theorem dX4_staysUpBy_123 : decode cX4_staysUpBy 123 = .ok (.iconst 1, 1) := by decide +kernel
theorem dX4_staysUpBy_124 : decode cX4_staysUpBy 124 = .ok (.iadd, 1) := by decide +kernel
theorem dX4_staysUpBy_125 : decode cX4_staysUpBy 125 = .ok (.putfield 76, 3) := by decide +kernel
theorem dX4_staysUpBy_128 : decode cX4_staysUpBy 128 = .ok (.iinc 5 1, 3) := by decide +kernel
theorem dX4_staysUpBy_131 : decode cX4_staysUpBy 131 = .ok (.goto (-71), 3) := by decide +kernel
theorem dX4_staysUpBy_134 : decode cX4_staysUpBy 134 = .ok (.iconst 1, 1) := by decide +kernel
theorem dX4_staysUpBy_135 : decode cX4_staysUpBy 135 = .ok (.ireturn, 1) := by decide +kernel
theorem dX4_chooseReefs_0 : decode cX4_chooseReefs 0 = .ok (.iconst 0, 1) := by decide +kernel
theorem dX4_chooseReefs_1 : decode cX4_chooseReefs 1 = .ok (.istore_n 3, 1) := by decide +kernel
theorem dX4_chooseReefs_2 : decode cX4_chooseReefs 2 = .ok (.iconst 2, 1) := by decide +kernel
theorem dX4_chooseReefs_3 : decode cX4_chooseReefs 3 = .ok (.iload_n 1, 1) := by decide +kernel
theorem dX4_chooseReefs_4 : decode cX4_chooseReefs 4 = .ok (.imul, 1) := by decide +kernel
theorem dX4_chooseReefs_5 : decode cX4_chooseReefs 5 = .ok (.istore 4, 2) := by decide +kernel
theorem dX4_chooseReefs_7 : decode cX4_chooseReefs 7 = .ok (.iconst 0, 1) := by decide +kernel
theorem dX4_chooseReefs_8 : decode cX4_chooseReefs 8 = .ok (.istore 5, 2) := by decide +kernel
theorem dX4_chooseReefs_10 : decode cX4_chooseReefs 10 = .ok (.iload 5, 2) := by decide +kernel
theorem dX4_chooseReefs_12 : decode cX4_chooseReefs 12 = .ok (.aload_n 0, 1) := by decide +kernel
theorem dX4_chooseReefs_13 : decode cX4_chooseReefs 13 = .ok (.getfield 48, 3) := by decide +kernel
theorem dX4_chooseReefs_16 : decode cX4_chooseReefs 16 = .ok (.getfield 130, 3) := by decide +kernel
theorem dX4_chooseReefs_19 : decode cX4_chooseReefs 19 = .ok (.if_icmp .ge 70, 3) := by decide +kernel
theorem dX4_chooseReefs_22 : decode cX4_chooseReefs 22 = .ok (.aload_n 0, 1) := by decide +kernel
theorem dX4_chooseReefs_23 : decode cX4_chooseReefs 23 = .ok (.getfield 32, 3) := by decide +kernel
theorem dX4_chooseReefs_26 : decode cX4_chooseReefs 26 = .ok (.iload 5, 2) := by decide +kernel
theorem dX4_chooseReefs_28 : decode cX4_chooseReefs 28 = .ok (.iconst (-1), 1) := by decide +kernel
theorem dX4_chooseReefs_29 : decode cX4_chooseReefs 29 = .ok (.iastore, 1) := by decide +kernel
theorem dX4_chooseReefs_30 : decode cX4_chooseReefs 30 = .ok (.aload_n 0, 1) := by decide +kernel
theorem dX4_chooseReefs_31 : decode cX4_chooseReefs 31 = .ok (.getfield 49, 3) := by decide +kernel
theorem dX4_chooseReefs_34 : decode cX4_chooseReefs 34 = .ok (.iload 5, 2) := by decide +kernel
theorem dX4_chooseReefs_36 : decode cX4_chooseReefs 36 = .ok (.invokevirtual 165, 3) := by decide +kernel
theorem dX4_chooseReefs_39 : decode cX4_chooseReefs 39 = .ok (.ifCond .eq 44, 3) := by decide +kernel
theorem dX4_chooseReefs_42 : decode cX4_chooseReefs 42 = .ok (.iinc 4 (-2), 3) := by decide +kernel
theorem dX4_chooseReefs_45 : decode cX4_chooseReefs 45 = .ok (.aload_n 0, 1) := by decide +kernel
theorem dX4_chooseReefs_46 : decode cX4_chooseReefs 46 = .ok (.getfield 32, 3) := by decide +kernel
theorem dX4_chooseReefs_49 : decode cX4_chooseReefs 49 = .ok (.iload 5, 2) := by decide +kernel
theorem dX4_chooseReefs_51 : decode cX4_chooseReefs 51 = .ok (.iload_n 2, 1) := by decide +kernel
theorem dX4_chooseReefs_52 : decode cX4_chooseReefs 52 = .ok (.iload 4, 2) := by decide +kernel
theorem dX4_chooseReefs_54 : decode cX4_chooseReefs 54 = .ok (.ishr, 1) := by decide +kernel
theorem dX4_chooseReefs_55 : decode cX4_chooseReefs 55 = .ok (.iconst 3, 1) := by decide +kernel
theorem dX4_chooseReefs_56 : decode cX4_chooseReefs 56 = .ok (.iand, 1) := by decide +kernel
theorem dX4_chooseReefs_57 : decode cX4_chooseReefs 57 = .ok (.iastore, 1) := by decide +kernel
theorem dX4_chooseReefs_58 : decode cX4_chooseReefs 58 = .ok (.iload_n 3, 1) := by decide +kernel
theorem dX4_chooseReefs_59 : decode cX4_chooseReefs 59 = .ok (.iconst 0, 1) := by decide +kernel
theorem dX4_chooseReefs_60 : decode cX4_chooseReefs 60 = .ok (.aload_n 0, 1) := by decide +kernel
theorem dX4_chooseReefs_61 : decode cX4_chooseReefs 61 = .ok (.getfield 48, 3) := by decide +kernel
theorem dX4_chooseReefs_64 : decode cX4_chooseReefs 64 = .ok (.getfield 205, 3) := by decide +kernel
theorem dX4_chooseReefs_67 : decode cX4_chooseReefs 67 = .ok (.iload 5, 2) := by decide +kernel
theorem dX4_chooseReefs_69 : decode cX4_chooseReefs 69 = .ok (.iaload, 1) := by decide +kernel
theorem dX4_chooseReefs_70 : decode cX4_chooseReefs 70 = .ok (.aload_n 0, 1) := by decide +kernel
theorem dX4_chooseReefs_71 : decode cX4_chooseReefs 71 = .ok (.getfield 32, 3) := by decide +kernel
theorem dX4_chooseReefs_74 : decode cX4_chooseReefs 74 = .ok (.iload 5, 2) := by decide +kernel
theorem dX4_chooseReefs_76 : decode cX4_chooseReefs 76 = .ok (.iaload, 1) := by decide +kernel
theorem dX4_chooseReefs_77 : decode cX4_chooseReefs 77 = .ok (.isub, 1) := by decide +kernel
theorem dX4_chooseReefs_78 : decode cX4_chooseReefs 78 = .ok (.invokestatic 208, 3) := by decide +kernel
theorem dX4_chooseReefs_81 : decode cX4_chooseReefs 81 = .ok (.iadd, 1) := by decide +kernel
theorem dX4_chooseReefs_82 : decode cX4_chooseReefs 82 = .ok (.istore_n 3, 1) := by decide +kernel
theorem dX4_chooseReefs_83 : decode cX4_chooseReefs 83 = .ok (.iinc 5 1, 3) := by decide +kernel
theorem dX4_chooseReefs_86 : decode cX4_chooseReefs 86 = .ok (.goto (-76), 3) := by decide +kernel
theorem dX4_chooseReefs_89 : decode cX4_chooseReefs 89 = .ok (.iload_n 3, 1) := by decide +kernel
theorem dX4_chooseReefs_90 : decode cX4_chooseReefs 90 = .ok (.ireturn, 1) := by decide +kernel
theorem dX4_allStayUp_0 : decode cX4_allStayUp 0 = .ok (.iconst 0, 1) := by decide +kernel
theorem dX4_allStayUp_1 : decode cX4_allStayUp 1 = .ok (.istore_n 1, 1) := by decide +kernel
theorem dX4_allStayUp_2 : decode cX4_allStayUp 2 = .ok (.iload_n 1, 1) := by decide +kernel
theorem dX4_allStayUp_3 : decode cX4_allStayUp 3 = .ok (.aload_n 0, 1) := by decide +kernel
theorem dX4_allStayUp_4 : decode cX4_allStayUp 4 = .ok (.getfield 48, 3) := by decide +kernel
theorem dX4_allStayUp_7 : decode cX4_allStayUp 7 = .ok (.getfield 130, 3) := by decide +kernel
theorem dX4_allStayUp_10 : decode cX4_allStayUp 10 = .ok (.if_icmp .ge 72, 3) := by decide +kernel
theorem dX4_allStayUp_13 : decode cX4_allStayUp 13 = .ok (.aload_n 0, 1) := by decide +kernel
theorem dX4_allStayUp_14 : decode cX4_allStayUp 14 = .ok (.getfield 32, 3) := by decide +kernel
theorem dX4_allStayUp_17 : decode cX4_allStayUp 17 = .ok (.iload_n 1, 1) := by decide +kernel
theorem dX4_allStayUp_18 : decode cX4_allStayUp 18 = .ok (.iaload, 1) := by decide +kernel
theorem dX4_allStayUp_19 : decode cX4_allStayUp 19 = .ok (.iconst (-1), 1) := by decide +kernel
theorem dX4_allStayUp_20 : decode cX4_allStayUp 20 = .ok (.if_icmp .eq 56, 3) := by decide +kernel
theorem dX4_allStayUp_23 : decode cX4_allStayUp 23 = .ok (.aload_n 0, 1) := by decide +kernel
theorem dX4_allStayUp_24 : decode cX4_allStayUp 24 = .ok (.getfield 29, 3) := by decide +kernel
theorem dX4_allStayUp_27 : decode cX4_allStayUp 27 = .ok (.iload_n 1, 1) := by decide +kernel
theorem dX4_allStayUp_28 : decode cX4_allStayUp 28 = .ok (.iaload, 1) := by decide +kernel
theorem dX4_allStayUp_29 : decode cX4_allStayUp 29 = .ok (.iconst (-1), 1) := by decide +kernel
theorem dX4_allStayUp_30 : decode cX4_allStayUp 30 = .ok (.if_icmp .ne 7, 3) := by decide +kernel
theorem dX4_allStayUp_33 : decode cX4_allStayUp 33 = .ok (.iconst 0, 1) := by decide +kernel
theorem dX4_allStayUp_34 : decode cX4_allStayUp 34 = .ok (.goto 14, 3) := by decide +kernel
theorem dX4_allStayUp_37 : decode cX4_allStayUp 37 = .ok (.aload_n 0, 1) := by decide +kernel
theorem dX4_allStayUp_38 : decode cX4_allStayUp 38 = .ok (.getfield 32, 3) := by decide +kernel
theorem dX4_allStayUp_41 : decode cX4_allStayUp 41 = .ok (.aload_n 0, 1) := by decide +kernel
theorem dX4_allStayUp_42 : decode cX4_allStayUp 42 = .ok (.getfield 29, 3) := by decide +kernel
theorem dX4_allStayUp_45 : decode cX4_allStayUp 45 = .ok (.iload_n 1, 1) := by decide +kernel
theorem dX4_allStayUp_46 : decode cX4_allStayUp 46 = .ok (.iaload, 1) := by decide +kernel
theorem dX4_allStayUp_47 : decode cX4_allStayUp 47 = .ok (.iaload, 1) := by decide +kernel
theorem dX4_allStayUp_48 : decode cX4_allStayUp 48 = .ok (.istore_n 2, 1) := by decide +kernel
theorem dX4_allStayUp_49 : decode cX4_allStayUp 49 = .ok (.iload_n 2, 1) := by decide +kernel
theorem dX4_allStayUp_50 : decode cX4_allStayUp 50 = .ok (.iconst 4, 1) := by decide +kernel
theorem dX4_allStayUp_51 : decode cX4_allStayUp 51 = .ok (.imul, 1) := by decide +kernel
theorem dX4_allStayUp_52 : decode cX4_allStayUp 52 = .ok (.aload_n 0, 1) := by decide +kernel
theorem dX4_allStayUp_53 : decode cX4_allStayUp 53 = .ok (.getfield 32, 3) := by decide +kernel
theorem dX4_allStayUp_56 : decode cX4_allStayUp 56 = .ok (.iload_n 1, 1) := by decide +kernel
theorem dX4_allStayUp_57 : decode cX4_allStayUp 57 = .ok (.iaload, 1) := by decide +kernel
theorem dX4_allStayUp_58 : decode cX4_allStayUp 58 = .ok (.iadd, 1) := by decide +kernel
theorem dX4_allStayUp_59 : decode cX4_allStayUp 59 = .ok (.istore_n 3, 1) := by decide +kernel
theorem dX4_allStayUp_60 : decode cX4_allStayUp 60 = .ok (.aload_n 0, 1) := by decide +kernel
theorem dX4_allStayUp_61 : decode cX4_allStayUp 61 = .ok (.getfield 25, 3) := by decide +kernel
theorem dX4_allStayUp_64 : decode cX4_allStayUp 64 = .ok (.iload_n 1, 1) := by decide +kernel
theorem dX4_allStayUp_65 : decode cX4_allStayUp 65 = .ok (.bipush 16, 2) := by decide +kernel
theorem dX4_allStayUp_67 : decode cX4_allStayUp 67 = .ok (.imul, 1) := by decide +kernel
theorem dX4_allStayUp_68 : decode cX4_allStayUp 68 = .ok (.iload_n 3, 1) := by decide +kernel
theorem dX4_allStayUp_69 : decode cX4_allStayUp 69 = .ok (.iadd, 1) := by decide +kernel
theorem dX4_allStayUp_70 : decode cX4_allStayUp 70 = .ok (.baload, 1) := by decide +kernel
theorem dX4_allStayUp_71 : decode cX4_allStayUp 71 = .ok (.ifCond .ne 5, 3) := by decide +kernel
theorem dX4_allStayUp_74 : decode cX4_allStayUp 74 = .ok (.iconst 0, 1) := by decide +kernel
theorem dX4_allStayUp_75 : decode cX4_allStayUp 75 = .ok (.ireturn, 1) := by decide +kernel
theorem dX4_allStayUp_76 : decode cX4_allStayUp 76 = .ok (.iinc 1 1, 3) := by decide +kernel
theorem dX4_allStayUp_79 : decode cX4_allStayUp 79 = .ok (.goto (-77), 3) := by decide +kernel
theorem dX4_allStayUp_82 : decode cX4_allStayUp 82 = .ok (.iconst 1, 1) := by decide +kernel
theorem dX4_allStayUp_83 : decode cX4_allStayUp 83 = .ok (.ireturn, 1) := by decide +kernel
theorem dX4_layBest_0 : decode cX4_layBest 0 = .ok (.aload_n 0, 1) := by decide +kernel
theorem dX4_layBest_1 : decode cX4_layBest 1 = .ok (.getfield 52, 3) := by decide +kernel
theorem dX4_layBest_4 : decode cX4_layBest 4 = .ok (.invokevirtual 95, 3) := by decide +kernel
theorem dX4_layBest_7 : decode cX4_layBest 7 = .ok (.iconst 0, 1) := by decide +kernel
theorem dX4_layBest_8 : decode cX4_layBest 8 = .ok (.istore_n 1, 1) := by decide +kernel
theorem dX4_layBest_9 : decode cX4_layBest 9 = .ok (.iload_n 1, 1) := by decide +kernel
theorem dX4_layBest_10 : decode cX4_layBest 10 = .ok (.aload_n 0, 1) := by decide +kernel
theorem dX4_layBest_11 : decode cX4_layBest 11 = .ok (.getfield 48, 3) := by decide +kernel
theorem dX4_layBest_14 : decode cX4_layBest 14 = .ok (.getfield 130, 3) := by decide +kernel
theorem dX4_layBest_17 : decode cX4_layBest 17 = .ok (.if_icmp .ge 22, 3) := by decide +kernel
theorem dX4_layBest_20 : decode cX4_layBest 20 = .ok (.aload_n 0, 1) := by decide +kernel
theorem dX4_layBest_21 : decode cX4_layBest 21 = .ok (.getfield 52, 3) := by decide +kernel
theorem dX4_layBest_24 : decode cX4_layBest 24 = .ok (.aload_n 0, 1) := by decide +kernel
theorem dX4_layBest_25 : decode cX4_layBest 25 = .ok (.getfield 35, 3) := by decide +kernel
theorem dX4_layBest_28 : decode cX4_layBest 28 = .ok (.iload_n 1, 1) := by decide +kernel
theorem dX4_layBest_29 : decode cX4_layBest 29 = .ok (.iaload, 1) := by decide +kernel
theorem dX4_layBest_30 : decode cX4_layBest 30 = .ok (.invokevirtual 148, 3) := by decide +kernel
theorem dX4_layBest_33 : decode cX4_layBest 33 = .ok (.iinc 1 1, 3) := by decide +kernel
theorem dX4_layBest_36 : decode cX4_layBest 36 = .ok (.goto (-27), 3) := by decide +kernel
theorem dX4_layBest_39 : decode cX4_layBest 39 = .ok (.return_, 1) := by decide +kernel
theorem dX4_nextOrder_0 : decode cX4_nextOrder 0 = .ok (.aload_n 0, 1) := by decide +kernel
theorem dX4_nextOrder_1 : decode cX4_nextOrder 1 = .ok (.getfield 48, 3) := by decide +kernel
theorem dX4_nextOrder_4 : decode cX4_nextOrder 4 = .ok (.getfield 130, 3) := by decide +kernel
theorem dX4_nextOrder_7 : decode cX4_nextOrder 7 = .ok (.iconst 2, 1) := by decide +kernel
theorem dX4_nextOrder_8 : decode cX4_nextOrder 8 = .ok (.isub, 1) := by decide +kernel
theorem dX4_nextOrder_9 : decode cX4_nextOrder 9 = .ok (.istore_n 1, 1) := by decide +kernel
theorem dX4_nextOrder_10 : decode cX4_nextOrder 10 = .ok (.iload_n 1, 1) := by decide +kernel
theorem dX4_nextOrder_11 : decode cX4_nextOrder 11 = .ok (.ifCond .lt 26, 3) := by decide +kernel
theorem dX4_nextOrder_14 : decode cX4_nextOrder 14 = .ok (.aload_n 0, 1) := by decide +kernel
theorem dX4_nextOrder_15 : decode cX4_nextOrder 15 = .ok (.getfield 32, 3) := by decide +kernel
theorem dX4_nextOrder_18 : decode cX4_nextOrder 18 = .ok (.iload_n 1, 1) := by decide +kernel
theorem dX4_nextOrder_19 : decode cX4_nextOrder 19 = .ok (.iaload, 1) := by decide +kernel
theorem dX4_nextOrder_20 : decode cX4_nextOrder 20 = .ok (.aload_n 0, 1) := by decide +kernel
theorem dX4_nextOrder_21 : decode cX4_nextOrder 21 = .ok (.getfield 32, 3) := by decide +kernel
theorem dX4_nextOrder_24 : decode cX4_nextOrder 24 = .ok (.iload_n 1, 1) := by decide +kernel
theorem dX4_nextOrder_25 : decode cX4_nextOrder 25 = .ok (.iconst 1, 1) := by decide +kernel
theorem dX4_nextOrder_26 : decode cX4_nextOrder 26 = .ok (.iadd, 1) := by decide +kernel
theorem dX4_nextOrder_27 : decode cX4_nextOrder 27 = .ok (.iaload, 1) := by decide +kernel
theorem dX4_nextOrder_28 : decode cX4_nextOrder 28 = .ok (.if_icmp .le 9, 3) := by decide +kernel
theorem dX4_nextOrder_31 : decode cX4_nextOrder 31 = .ok (.iinc 1 (-1), 3) := by decide +kernel
theorem dX4_nextOrder_34 : decode cX4_nextOrder 34 = .ok (.goto (-24), 3) := by decide +kernel
theorem dX4_nextOrder_37 : decode cX4_nextOrder 37 = .ok (.iload_n 1, 1) := by decide +kernel
theorem dX4_nextOrder_38 : decode cX4_nextOrder 38 = .ok (.ifCond .ge 5, 3) := by decide +kernel
theorem dX4_nextOrder_41 : decode cX4_nextOrder 41 = .ok (.iconst 0, 1) := by decide +kernel
theorem dX4_nextOrder_42 : decode cX4_nextOrder 42 = .ok (.ireturn, 1) := by decide +kernel
theorem dX4_nextOrder_43 : decode cX4_nextOrder 43 = .ok (.aload_n 0, 1) := by decide +kernel
theorem dX4_nextOrder_44 : decode cX4_nextOrder 44 = .ok (.getfield 48, 3) := by decide +kernel
theorem dX4_nextOrder_47 : decode cX4_nextOrder 47 = .ok (.getfield 130, 3) := by decide +kernel
theorem dX4_nextOrder_50 : decode cX4_nextOrder 50 = .ok (.iconst 1, 1) := by decide +kernel
theorem dX4_nextOrder_51 : decode cX4_nextOrder 51 = .ok (.isub, 1) := by decide +kernel
theorem dX4_nextOrder_52 : decode cX4_nextOrder 52 = .ok (.istore_n 2, 1) := by decide +kernel
theorem dX4_nextOrder_53 : decode cX4_nextOrder 53 = .ok (.iload_n 2, 1) := by decide +kernel
theorem dX4_nextOrder_54 : decode cX4_nextOrder 54 = .ok (.iload_n 1, 1) := by decide +kernel
theorem dX4_nextOrder_55 : decode cX4_nextOrder 55 = .ok (.if_icmp .le 24, 3) := by decide +kernel
theorem dX4_nextOrder_58 : decode cX4_nextOrder 58 = .ok (.aload_n 0, 1) := by decide +kernel
theorem dX4_nextOrder_59 : decode cX4_nextOrder 59 = .ok (.getfield 32, 3) := by decide +kernel
theorem dX4_nextOrder_62 : decode cX4_nextOrder 62 = .ok (.iload_n 2, 1) := by decide +kernel
theorem dX4_nextOrder_63 : decode cX4_nextOrder 63 = .ok (.iaload, 1) := by decide +kernel
theorem dX4_nextOrder_64 : decode cX4_nextOrder 64 = .ok (.aload_n 0, 1) := by decide +kernel
theorem dX4_nextOrder_65 : decode cX4_nextOrder 65 = .ok (.getfield 32, 3) := by decide +kernel
theorem dX4_nextOrder_68 : decode cX4_nextOrder 68 = .ok (.iload_n 1, 1) := by decide +kernel
theorem dX4_nextOrder_69 : decode cX4_nextOrder 69 = .ok (.iaload, 1) := by decide +kernel
theorem dX4_nextOrder_70 : decode cX4_nextOrder 70 = .ok (.if_icmp .ge 9, 3) := by decide +kernel
theorem dX4_nextOrder_73 : decode cX4_nextOrder 73 = .ok (.iinc 2 (-1), 3) := by decide +kernel
theorem dX4_nextOrder_76 : decode cX4_nextOrder 76 = .ok (.goto (-23), 3) := by decide +kernel
theorem dX4_nextOrder_79 : decode cX4_nextOrder 79 = .ok (.aload_n 0, 1) := by decide +kernel
theorem dX4_nextOrder_80 : decode cX4_nextOrder 80 = .ok (.iload_n 1, 1) := by decide +kernel
theorem dX4_nextOrder_81 : decode cX4_nextOrder 81 = .ok (.iload_n 2, 1) := by decide +kernel
theorem dX4_nextOrder_82 : decode cX4_nextOrder 82 = .ok (.invokevirtual 213, 3) := by decide +kernel
theorem dX4_nextOrder_85 : decode cX4_nextOrder 85 = .ok (.aload_n 0, 1) := by decide +kernel
theorem dX4_nextOrder_86 : decode cX4_nextOrder 86 = .ok (.getfield 48, 3) := by decide +kernel
theorem dX4_nextOrder_89 : decode cX4_nextOrder 89 = .ok (.getfield 130, 3) := by decide +kernel
theorem dX4_nextOrder_92 : decode cX4_nextOrder 92 = .ok (.iconst 1, 1) := by decide +kernel
theorem dX4_nextOrder_93 : decode cX4_nextOrder 93 = .ok (.isub, 1) := by decide +kernel
theorem dX4_nextOrder_94 : decode cX4_nextOrder 94 = .ok (.istore_n 3, 1) := by decide +kernel
theorem dX4_nextOrder_95 : decode cX4_nextOrder 95 = .ok (.iload_n 1, 1) := by decide +kernel
theorem dX4_nextOrder_96 : decode cX4_nextOrder 96 = .ok (.iconst 1, 1) := by decide +kernel
theorem dX4_nextOrder_97 : decode cX4_nextOrder 97 = .ok (.iadd, 1) := by decide +kernel
theorem dX4_nextOrder_98 : decode cX4_nextOrder 98 = .ok (.istore 4, 2) := by decide +kernel
theorem dX4_nextOrder_100 : decode cX4_nextOrder 100 = .ok (.iload 4, 2) := by decide +kernel
theorem dX4_nextOrder_102 : decode cX4_nextOrder 102 = .ok (.iload_n 3, 1) := by decide +kernel
theorem dX4_nextOrder_103 : decode cX4_nextOrder 103 = .ok (.if_icmp .ge 19, 3) := by decide +kernel
theorem dX4_nextOrder_106 : decode cX4_nextOrder 106 = .ok (.aload_n 0, 1) := by decide +kernel
theorem dX4_nextOrder_107 : decode cX4_nextOrder 107 = .ok (.iload 4, 2) := by decide +kernel
theorem dX4_nextOrder_109 : decode cX4_nextOrder 109 = .ok (.iload_n 3, 1) := by decide +kernel
theorem dX4_nextOrder_110 : decode cX4_nextOrder 110 = .ok (.invokevirtual 213, 3) := by decide +kernel
theorem dX4_nextOrder_113 : decode cX4_nextOrder 113 = .ok (.iinc 3 (-1), 3) := by decide +kernel
theorem dX4_nextOrder_116 : decode cX4_nextOrder 116 = .ok (.iinc 4 1, 3) := by decide +kernel
theorem dX4_nextOrder_119 : decode cX4_nextOrder 119 = .ok (.goto (-19), 3) := by decide +kernel
theorem dX4_nextOrder_122 : decode cX4_nextOrder 122 = .ok (.iconst 1, 1) := by decide +kernel
theorem dX4_nextOrder_123 : decode cX4_nextOrder 123 = .ok (.ireturn, 1) := by decide +kernel
theorem dX4_exchange_0 : decode cX4_exchange 0 = .ok (.aload_n 0, 1) := by decide +kernel
theorem dX4_exchange_1 : decode cX4_exchange 1 = .ok (.getfield 32, 3) := by decide +kernel
theorem dX4_exchange_4 : decode cX4_exchange 4 = .ok (.iload_n 1, 1) := by decide +kernel
theorem dX4_exchange_5 : decode cX4_exchange 5 = .ok (.iaload, 1) := by decide +kernel
theorem dX4_exchange_6 : decode cX4_exchange 6 = .ok (.istore_n 3, 1) := by decide +kernel
theorem dX4_exchange_7 : decode cX4_exchange 7 = .ok (.aload_n 0, 1) := by decide +kernel
theorem dX4_exchange_8 : decode cX4_exchange 8 = .ok (.getfield 32, 3) := by decide +kernel
theorem dX4_exchange_11 : decode cX4_exchange 11 = .ok (.iload_n 1, 1) := by decide +kernel
theorem dX4_exchange_12 : decode cX4_exchange 12 = .ok (.aload_n 0, 1) := by decide +kernel
theorem dX4_exchange_13 : decode cX4_exchange 13 = .ok (.getfield 32, 3) := by decide +kernel
theorem dX4_exchange_16 : decode cX4_exchange 16 = .ok (.iload_n 2, 1) := by decide +kernel
theorem dX4_exchange_17 : decode cX4_exchange 17 = .ok (.iaload, 1) := by decide +kernel
theorem dX4_exchange_18 : decode cX4_exchange 18 = .ok (.iastore, 1) := by decide +kernel
theorem dX4_exchange_19 : decode cX4_exchange 19 = .ok (.aload_n 0, 1) := by decide +kernel
theorem dX4_exchange_20 : decode cX4_exchange 20 = .ok (.getfield 32, 3) := by decide +kernel
theorem dX4_exchange_23 : decode cX4_exchange 23 = .ok (.iload_n 2, 1) := by decide +kernel
theorem dX4_exchange_24 : decode cX4_exchange 24 = .ok (.iload_n 3, 1) := by decide +kernel
theorem dX4_exchange_25 : decode cX4_exchange 25 = .ok (.iastore, 1) := by decide +kernel
theorem dX4_exchange_26 : decode cX4_exchange 26 = .ok (.return_, 1) := by decide +kernel
theorem dX4_rankOf_0 : decode cX4_rankOf 0 = .ok (.aload_n 0, 1) := by decide +kernel
theorem dX4_rankOf_1 : decode cX4_rankOf 1 = .ok (.getfield 38, 3) := by decide +kernel
theorem dX4_rankOf_4 : decode cX4_rankOf 4 = .ok (.aload_n 0, 1) := by decide +kernel
theorem dX4_rankOf_5 : decode cX4_rankOf 5 = .ok (.getfield 14, 3) := by decide +kernel
theorem dX4_rankOf_8 : decode cX4_rankOf 8 = .ok (.iload_n 1, 1) := by decide +kernel
theorem dX4_rankOf_9 : decode cX4_rankOf 9 = .ok (.invokevirtual 202, 3) := by decide +kernel
theorem dX4_rankOf_12 : decode cX4_rankOf 12 = .ok (.istore_n 2, 1) := by decide +kernel
theorem dX4_rankOf_13 : decode cX4_rankOf 13 = .ok (.aload_n 0, 1) := by decide +kernel
theorem dX4_rankOf_14 : decode cX4_rankOf 14 = .ok (.getfield 14, 3) := by decide +kernel
theorem dX4_rankOf_17 : decode cX4_rankOf 17 = .ok (.iload_n 1, 1) := by decide +kernel
theorem dX4_rankOf_18 : decode cX4_rankOf 18 = .ok (.invokevirtual 79, 3) := by decide +kernel
theorem dX4_rankOf_21 : decode cX4_rankOf 21 = .ok (.ifCond .eq 10, 3) := by decide +kernel
theorem dX4_rankOf_24 : decode cX4_rankOf 24 = .ok (.iload_n 2, 1) := by decide +kernel
theorem dX4_rankOf_25 : decode cX4_rankOf 25 = .ok (.bipush 100, 2) := by decide +kernel
theorem dX4_rankOf_27 : decode cX4_rankOf 27 = .ok (.iadd, 1) := by decide +kernel
theorem dX4_rankOf_28 : decode cX4_rankOf 28 = .ok (.goto 4, 3) := by decide +kernel
theorem dX4_rankOf_31 : decode cX4_rankOf 31 = .ok (.iload_n 2, 1) := by decide +kernel
theorem dX4_rankOf_32 : decode cX4_rankOf 32 = .ok (.ireturn, 1) := by decide +kernel
theorem dX4_isRest_0 : decode cX4_isRest 0 = .ok (.iload_n 1, 1) := by decide +kernel
theorem dX4_isRest_1 : decode cX4_isRest 1 = .ok (.bipush 6, 2) := by decide +kernel
theorem dX4_isRest_3 : decode cX4_isRest 3 = .ok (.imul, 1) := by decide +kernel
theorem dX4_isRest_4 : decode cX4_isRest 4 = .ok (.iload_n 2, 1) := by decide +kernel
theorem dX4_isRest_5 : decode cX4_isRest 5 = .ok (.iadd, 1) := by decide +kernel
theorem dX4_isRest_6 : decode cX4_isRest 6 = .ok (.istore_n 3, 1) := by decide +kernel
theorem dX4_isRest_7 : decode cX4_isRest 7 = .ok (.iconst 0, 1) := by decide +kernel
theorem dX4_isRest_8 : decode cX4_isRest 8 = .ok (.istore 4, 2) := by decide +kernel
theorem dX4_isRest_10 : decode cX4_isRest 10 = .ok (.iload 4, 2) := by decide +kernel
theorem dX4_isRest_12 : decode cX4_isRest 12 = .ok (.bipush 6, 2) := by decide +kernel
theorem dX4_isRest_14 : decode cX4_isRest 14 = .ok (.if_icmp .ge 53, 3) := by decide +kernel
theorem dX4_isRest_17 : decode cX4_isRest 17 = .ok (.aload_n 0, 1) := by decide +kernel
theorem dX4_isRest_18 : decode cX4_isRest 18 = .ok (.getfield 18, 3) := by decide +kernel
theorem dX4_isRest_21 : decode cX4_isRest 21 = .ok (.iload 4, 2) := by decide +kernel
theorem dX4_isRest_23 : decode cX4_isRest 23 = .ok (.bipush 6, 2) := by decide +kernel
theorem dX4_isRest_25 : decode cX4_isRest 25 = .ok (.imul, 1) := by decide +kernel
theorem dX4_isRest_26 : decode cX4_isRest 26 = .ok (.iload_n 2, 1) := by decide +kernel
theorem dX4_isRest_27 : decode cX4_isRest 27 = .ok (.iadd, 1) := by decide +kernel
theorem dX4_isRest_28 : decode cX4_isRest 28 = .ok (.iaload, 1) := by decide +kernel
theorem dX4_isRest_29 : decode cX4_isRest 29 = .ok (.aload_n 0, 1) := by decide +kernel
theorem dX4_isRest_30 : decode cX4_isRest 30 = .ok (.getfield 18, 3) := by decide +kernel
theorem dX4_isRest_33 : decode cX4_isRest 33 = .ok (.iload_n 3, 1) := by decide +kernel
theorem dX4_isRest_34 : decode cX4_isRest 34 = .ok (.iaload, 1) := by decide +kernel
theorem dX4_isRest_35 : decode cX4_isRest 35 = .ok (.if_icmp .gt 24, 3) := by decide +kernel
theorem dX4_isRest_38 : decode cX4_isRest 38 = .ok (.aload_n 0, 1) := by decide +kernel
theorem dX4_isRest_39 : decode cX4_isRest 39 = .ok (.getfield 22, 3) := by decide +kernel
theorem dX4_isRest_42 : decode cX4_isRest 42 = .ok (.iload_n 1, 1) := by decide +kernel
theorem dX4_isRest_43 : decode cX4_isRest 43 = .ok (.bipush 6, 2) := by decide +kernel
theorem dX4_isRest_45 : decode cX4_isRest 45 = .ok (.imul, 1) := by decide +kernel
theorem dX4_isRest_46 : decode cX4_isRest 46 = .ok (.iload 4, 2) := by decide +kernel
theorem dX4_isRest_48 : decode cX4_isRest 48 = .ok (.iadd, 1) := by decide +kernel
theorem dX4_isRest_49 : decode cX4_isRest 49 = .ok (.iaload, 1) := by decide +kernel
theorem dX4_isRest_50 : decode cX4_isRest 50 = .ok (.aload_n 0, 1) := by decide +kernel
theorem dX4_isRest_51 : decode cX4_isRest 51 = .ok (.getfield 22, 3) := by decide +kernel
theorem dX4_isRest_54 : decode cX4_isRest 54 = .ok (.iload_n 3, 1) := by decide +kernel
theorem dX4_isRest_55 : decode cX4_isRest 55 = .ok (.iaload, 1) := by decide +kernel
theorem dX4_isRest_56 : decode cX4_isRest 56 = .ok (.if_icmp .le 5, 3) := by decide +kernel
theorem dX4_isRest_59 : decode cX4_isRest 59 = .ok (.iconst 0, 1) := by decide +kernel
theorem dX4_isRest_60 : decode cX4_isRest 60 = .ok (.ireturn, 1) := by decide +kernel
theorem dX4_isRest_61 : decode cX4_isRest 61 = .ok (.iinc 4 1, 3) := by decide +kernel
theorem dX4_isRest_64 : decode cX4_isRest 64 = .ok (.goto (-54), 3) := by decide +kernel
theorem dX4_isRest_67 : decode cX4_isRest 67 = .ok (.iconst 1, 1) := by decide +kernel
theorem dX4_isRest_68 : decode cX4_isRest 68 = .ok (.ireturn, 1) := by decide +kernel
theorem dX4_pairFrom_0 : decode cX4_pairFrom 0 = .ok (.iload_n 1, 1) := by decide +kernel
theorem dX4_pairFrom_1 : decode cX4_pairFrom 1 = .ok (.aload_n 0, 1) := by decide +kernel
theorem dX4_pairFrom_2 : decode cX4_pairFrom 2 = .ok (.getfield 48, 3) := by decide +kernel
theorem dX4_pairFrom_5 : decode cX4_pairFrom 5 = .ok (.getfield 130, 3) := by decide +kernel
theorem dX4_pairFrom_8 : decode cX4_pairFrom 8 = .ok (.if_icmp .lt 39, 3) := by decide +kernel
theorem dX4_pairFrom_11 : decode cX4_pairFrom 11 = .ok (.aload_n 0, 1) := by decide +kernel
theorem dX4_pairFrom_12 : decode cX4_pairFrom 12 = .ok (.getfield 152, 3) := by decide +kernel
theorem dX4_pairFrom_15 : decode cX4_pairFrom 15 = .ok (.iconst (-1), 1) := by decide +kernel
theorem dX4_pairFrom_16 : decode cX4_pairFrom 16 = .ok (.if_icmp .eq 11, 3) := by decide +kernel
theorem dX4_pairFrom_19 : decode cX4_pairFrom 19 = .ok (.iload_n 2, 1) := by decide +kernel
theorem dX4_pairFrom_20 : decode cX4_pairFrom 20 = .ok (.aload_n 0, 1) := by decide +kernel
theorem dX4_pairFrom_21 : decode cX4_pairFrom 21 = .ok (.getfield 152, 3) := by decide +kernel
theorem dX4_pairFrom_24 : decode cX4_pairFrom 24 = .ok (.if_icmp .ge 22, 3) := by decide +kernel
theorem dX4_pairFrom_27 : decode cX4_pairFrom 27 = .ok (.aload_n 0, 1) := by decide +kernel
theorem dX4_pairFrom_28 : decode cX4_pairFrom 28 = .ok (.iload_n 2, 1) := by decide +kernel
theorem dX4_pairFrom_29 : decode cX4_pairFrom 29 = .ok (.putfield 152, 3) := by decide +kernel
theorem dX4_pairFrom_32 : decode cX4_pairFrom 32 = .ok (.aload_n 0, 1) := by decide +kernel
theorem dX4_pairFrom_33 : decode cX4_pairFrom 33 = .ok (.getfield 32, 3) := by decide +kernel
theorem dX4_pairFrom_36 : decode cX4_pairFrom 36 = .ok (.iconst 0, 1) := by decide +kernel
theorem dX4_pairFrom_37 : decode cX4_pairFrom 37 = .ok (.aload_n 0, 1) := by decide +kernel
theorem dX4_pairFrom_38 : decode cX4_pairFrom 38 = .ok (.getfield 35, 3) := by decide +kernel
theorem dX4_pairFrom_41 : decode cX4_pairFrom 41 = .ok (.iconst 0, 1) := by decide +kernel
theorem dX4_pairFrom_42 : decode cX4_pairFrom 42 = .ok (.iconst 5, 1) := by decide +kernel
theorem dX4_pairFrom_43 : decode cX4_pairFrom 43 = .ok (.invokestatic 112, 3) := by decide +kernel
theorem dX4_pairFrom_46 : decode cX4_pairFrom 46 = .ok (.return_, 1) := by decide +kernel
theorem dX4_pairFrom_47 : decode cX4_pairFrom 47 = .ok (.aload_n 0, 1) := by decide +kernel
theorem dX4_pairFrom_48 : decode cX4_pairFrom 48 = .ok (.getfield 32, 3) := by decide +kernel
theorem dX4_pairFrom_51 : decode cX4_pairFrom 51 = .ok (.iload_n 1, 1) := by decide +kernel
theorem dX4_pairFrom_52 : decode cX4_pairFrom 52 = .ok (.iaload, 1) := by decide +kernel
theorem dX4_pairFrom_53 : decode cX4_pairFrom 53 = .ok (.bipush (-2), 2) := by decide +kernel
theorem dX4_pairFrom_55 : decode cX4_pairFrom 55 = .ok (.if_icmp .eq 13, 3) := by decide +kernel
theorem dX4_pairFrom_58 : decode cX4_pairFrom 58 = .ok (.aload_n 0, 1) := by decide +kernel
theorem dX4_pairFrom_59 : decode cX4_pairFrom 59 = .ok (.iload_n 1, 1) := by decide +kernel
theorem dX4_pairFrom_60 : decode cX4_pairFrom 60 = .ok (.iconst 1, 1) := by decide +kernel
theorem dX4_pairFrom_61 : decode cX4_pairFrom 61 = .ok (.iadd, 1) := by decide +kernel
theorem dX4_pairFrom_62 : decode cX4_pairFrom 62 = .ok (.iload_n 2, 1) := by decide +kernel
theorem dX4_pairFrom_63 : decode cX4_pairFrom 63 = .ok (.iload_n 3, 1) := by decide +kernel
theorem dX4_pairFrom_64 : decode cX4_pairFrom 64 = .ok (.invokevirtual 155, 3) := by decide +kernel
theorem dX4_pairFrom_67 : decode cX4_pairFrom 67 = .ok (.return_, 1) := by decide +kernel
theorem dX4_pairFrom_68 : decode cX4_pairFrom 68 = .ok (.iload_n 1, 1) := by decide +kernel
theorem dX4_pairFrom_69 : decode cX4_pairFrom 69 = .ok (.iconst 1, 1) := by decide +kernel
theorem dX4_pairFrom_70 : decode cX4_pairFrom 70 = .ok (.iadd, 1) := by decide +kernel
theorem dX4_pairFrom_71 : decode cX4_pairFrom 71 = .ok (.istore 4, 2) := by decide +kernel
theorem dX4_pairFrom_73 : decode cX4_pairFrom 73 = .ok (.iload 4, 2) := by decide +kernel
theorem dX4_pairFrom_75 : decode cX4_pairFrom 75 = .ok (.aload_n 0, 1) := by decide +kernel
theorem dX4_pairFrom_76 : decode cX4_pairFrom 76 = .ok (.getfield 48, 3) := by decide +kernel
theorem dX4_pairFrom_79 : decode cX4_pairFrom 79 = .ok (.getfield 130, 3) := by decide +kernel
theorem dX4_pairFrom_82 : decode cX4_pairFrom 82 = .ok (.if_icmp .ge 83, 3) := by decide +kernel
theorem dX4_pairFrom_85 : decode cX4_pairFrom 85 = .ok (.aload_n 0, 1) := by decide +kernel
theorem dX4_pairFrom_86 : decode cX4_pairFrom 86 = .ok (.getfield 32, 3) := by decide +kernel
theorem dX4_pairFrom_89 : decode cX4_pairFrom 89 = .ok (.iload 4, 2) := by decide +kernel
theorem dX4_pairFrom_91 : decode cX4_pairFrom 91 = .ok (.iaload, 1) := by decide +kernel
theorem dX4_pairFrom_92 : decode cX4_pairFrom 92 = .ok (.bipush (-2), 2) := by decide +kernel
theorem dX4_pairFrom_94 : decode cX4_pairFrom 94 = .ok (.if_icmp .ne 65, 3) := by decide +kernel
theorem dX4_pairFrom_97 : decode cX4_pairFrom 97 = .ok (.aload_n 0, 1) := by decide +kernel
theorem dX4_pairFrom_98 : decode cX4_pairFrom 98 = .ok (.getfield 32, 3) := by decide +kernel
theorem dX4_pairFrom_101 : decode cX4_pairFrom 101 = .ok (.iload_n 1, 1) := by decide +kernel
theorem dX4_pairFrom_102 : decode cX4_pairFrom 102 = .ok (.iload 4, 2) := by decide +kernel
theorem dX4_pairFrom_104 : decode cX4_pairFrom 104 = .ok (.iastore, 1) := by decide +kernel
theorem dX4_pairFrom_105 : decode cX4_pairFrom 105 = .ok (.aload_n 0, 1) := by decide +kernel
theorem dX4_pairFrom_106 : decode cX4_pairFrom 106 = .ok (.getfield 32, 3) := by decide +kernel
theorem dX4_pairFrom_109 : decode cX4_pairFrom 109 = .ok (.iload 4, 2) := by decide +kernel
theorem dX4_pairFrom_111 : decode cX4_pairFrom 111 = .ok (.iload_n 1, 1) := by decide +kernel
theorem dX4_pairFrom_112 : decode cX4_pairFrom 112 = .ok (.iastore, 1) := by decide +kernel
theorem dX4_pairFrom_113 : decode cX4_pairFrom 113 = .ok (.aload_n 0, 1) := by decide +kernel
theorem dX4_pairFrom_114 : decode cX4_pairFrom 114 = .ok (.getfield 48, 3) := by decide +kernel
theorem dX4_pairFrom_117 : decode cX4_pairFrom 117 = .ok (.getfield 205, 3) := by decide +kernel
theorem dX4_pairFrom_120 : decode cX4_pairFrom 120 = .ok (.iload_n 1, 1) := by decide +kernel
theorem dX4_pairFrom_121 : decode cX4_pairFrom 121 = .ok (.iaload, 1) := by decide +kernel
theorem dX4_pairFrom_122 : decode cX4_pairFrom 122 = .ok (.aload_n 0, 1) := by decide +kernel
theorem dX4_pairFrom_123 : decode cX4_pairFrom 123 = .ok (.getfield 48, 3) := by decide +kernel
theorem dX4_pairFrom_126 : decode cX4_pairFrom 126 = .ok (.getfield 205, 3) := by decide +kernel
theorem dX4_pairFrom_129 : decode cX4_pairFrom 129 = .ok (.iload 4, 2) := by decide +kernel
theorem dX4_pairFrom_131 : decode cX4_pairFrom 131 = .ok (.iaload, 1) := by decide +kernel
theorem dX4_pairFrom_132 : decode cX4_pairFrom 132 = .ok (.isub, 1) := by decide +kernel
theorem dX4_pairFrom_133 : decode cX4_pairFrom 133 = .ok (.invokestatic 216, 3) := by decide +kernel
theorem dX4_pairFrom_136 : decode cX4_pairFrom 136 = .ok (.istore 5, 2) := by decide +kernel
theorem dX4_pairFrom_138 : decode cX4_pairFrom 138 = .ok (.aload_n 0, 1) := by decide +kernel
theorem dX4_pairFrom_139 : decode cX4_pairFrom 139 = .ok (.iload_n 1, 1) := by decide +kernel
theorem dX4_pairFrom_140 : decode cX4_pairFrom 140 = .ok (.iconst 1, 1) := by decide +kernel
theorem dX4_pairFrom_141 : decode cX4_pairFrom 141 = .ok (.iadd, 1) := by decide +kernel
theorem dX4_pairFrom_142 : decode cX4_pairFrom 142 = .ok (.iload_n 2, 1) := by decide +kernel
theorem dX4_pairFrom_143 : decode cX4_pairFrom 143 = .ok (.iload 5, 2) := by decide +kernel
theorem dX4_pairFrom_145 : decode cX4_pairFrom 145 = .ok (.iadd, 1) := by decide +kernel
theorem dX4_pairFrom_146 : decode cX4_pairFrom 146 = .ok (.iload_n 3, 1) := by decide +kernel
theorem dX4_pairFrom_147 : decode cX4_pairFrom 147 = .ok (.invokevirtual 155, 3) := by decide +kernel
theorem dX4_pairFrom_150 : decode cX4_pairFrom 150 = .ok (.aload_n 0, 1) := by decide +kernel
theorem dX4_pairFrom_151 : decode cX4_pairFrom 151 = .ok (.getfield 32, 3) := by decide +kernel
theorem dX4_pairFrom_154 : decode cX4_pairFrom 154 = .ok (.iload 4, 2) := by decide +kernel
theorem dX4_pairFrom_156 : decode cX4_pairFrom 156 = .ok (.bipush (-2), 2) := by decide +kernel
theorem dX4_pairFrom_158 : decode cX4_pairFrom 158 = .ok (.iastore, 1) := by decide +kernel
theorem dX4_pairFrom_159 : decode cX4_pairFrom 159 = .ok (.iinc 4 1, 3) := by decide +kernel
theorem dX4_pairFrom_162 : decode cX4_pairFrom 162 = .ok (.goto (-89), 3) := by decide +kernel
theorem dX4_pairFrom_165 : decode cX4_pairFrom 165 = .ok (.iload_n 3, 1) := by decide +kernel
theorem dX4_pairFrom_166 : decode cX4_pairFrom 166 = .ok (.ifCond .ne 19, 3) := by decide +kernel
theorem dX4_pairFrom_169 : decode cX4_pairFrom 169 = .ok (.aload_n 0, 1) := by decide +kernel
theorem dX4_pairFrom_170 : decode cX4_pairFrom 170 = .ok (.getfield 32, 3) := by decide +kernel
theorem dX4_pairFrom_173 : decode cX4_pairFrom 173 = .ok (.iload_n 1, 1) := by decide +kernel
theorem dX4_pairFrom_174 : decode cX4_pairFrom 174 = .ok (.iconst (-1), 1) := by decide +kernel
theorem dX4_pairFrom_175 : decode cX4_pairFrom 175 = .ok (.iastore, 1) := by decide +kernel
theorem dX4_pairFrom_176 : decode cX4_pairFrom 176 = .ok (.aload_n 0, 1) := by decide +kernel
theorem dX4_pairFrom_177 : decode cX4_pairFrom 177 = .ok (.iload_n 1, 1) := by decide +kernel
theorem dX4_pairFrom_178 : decode cX4_pairFrom 178 = .ok (.iconst 1, 1) := by decide +kernel
theorem dX4_pairFrom_179 : decode cX4_pairFrom 179 = .ok (.iadd, 1) := by decide +kernel
theorem dX4_pairFrom_180 : decode cX4_pairFrom 180 = .ok (.iload_n 2, 1) := by decide +kernel
theorem dX4_pairFrom_181 : decode cX4_pairFrom 181 = .ok (.iconst 1, 1) := by decide +kernel
theorem dX4_pairFrom_182 : decode cX4_pairFrom 182 = .ok (.invokevirtual 155, 3) := by decide +kernel
theorem dX4_pairFrom_185 : decode cX4_pairFrom 185 = .ok (.aload_n 0, 1) := by decide +kernel
theorem dX4_pairFrom_186 : decode cX4_pairFrom 186 = .ok (.getfield 32, 3) := by decide +kernel
theorem dX4_pairFrom_189 : decode cX4_pairFrom 189 = .ok (.iload_n 1, 1) := by decide +kernel
theorem dX4_pairFrom_190 : decode cX4_pairFrom 190 = .ok (.bipush (-2), 2) := by decide +kernel
theorem dX4_pairFrom_192 : decode cX4_pairFrom 192 = .ok (.iastore, 1) := by decide +kernel
theorem dX4_pairFrom_193 : decode cX4_pairFrom 193 = .ok (.return_, 1) := by decide +kernel
theorem dX4_bearsGust_0 : decode cX4_bearsGust 0 = .ok (.aload_n 0, 1) := by decide +kernel
theorem dX4_bearsGust_1 : decode cX4_bearsGust 1 = .ok (.getfield 14, 3) := by decide +kernel
theorem dX4_bearsGust_4 : decode cX4_bearsGust 4 = .ok (.aload_n 0, 1) := by decide +kernel
theorem dX4_bearsGust_5 : decode cX4_bearsGust 5 = .ok (.getfield 49, 3) := by decide +kernel
theorem dX4_bearsGust_8 : decode cX4_bearsGust 8 = .ok (.invokevirtual 56, 3) := by decide +kernel
theorem dX4_bearsGust_11 : decode cX4_bearsGust 11 = .ok (.aload_n 0, 1) := by decide +kernel
theorem dX4_bearsGust_12 : decode cX4_bearsGust 12 = .ok (.getfield 38, 3) := by decide +kernel
theorem dX4_bearsGust_15 : decode cX4_bearsGust 15 = .ok (.aload_n 0, 1) := by decide +kernel
theorem dX4_bearsGust_16 : decode cX4_bearsGust 16 = .ok (.getfield 14, 3) := by decide +kernel
theorem dX4_bearsGust_19 : decode cX4_bearsGust 19 = .ok (.iload_n 1, 1) := by decide +kernel
theorem dX4_bearsGust_20 : decode cX4_bearsGust 20 = .ok (.iload_n 2, 1) := by decide +kernel
theorem dX4_bearsGust_21 : decode cX4_bearsGust 21 = .ok (.invokevirtual 91, 3) := by decide +kernel
theorem dX4_bearsGust_24 : decode cX4_bearsGust 24 = .ok (.ireturn, 1) := by decide +kernel
theorem dX4_chanceRound_0 : decode cX4_chanceRound 0 = .ok (.aload_n 0, 1) := by decide +kernel
theorem dX4_chanceRound_1 : decode cX4_chanceRound 1 = .ok (.getfield 14, 3) := by decide +kernel
theorem dX4_chanceRound_4 : decode cX4_chanceRound 4 = .ok (.aload_n 0, 1) := by decide +kernel
theorem dX4_chanceRound_5 : decode cX4_chanceRound 5 = .ok (.getfield 49, 3) := by decide +kernel
theorem dX4_chanceRound_8 : decode cX4_chanceRound 8 = .ok (.invokevirtual 56, 3) := by decide +kernel
theorem dX4_chanceRound_11 : decode cX4_chanceRound 11 = .ok (.iconst 1, 1) := by decide +kernel
theorem dX4_chanceRound_12 : decode cX4_chanceRound 12 = .ok (.istore_n 3, 1) := by decide +kernel
theorem dX4_chanceRound_13 : decode cX4_chanceRound 13 = .ok (.iload_n 2, 1) := by decide +kernel
theorem dX4_chanceRound_14 : decode cX4_chanceRound 14 = .ok (.istore 4, 2) := by decide +kernel
theorem dX4_chanceRound_16 : decode cX4_chanceRound 16 = .ok (.aload_n 0, 1) := by decide +kernel
theorem dX4_chanceRound_17 : decode cX4_chanceRound 17 = .ok (.getfield 49, 3) := by decide +kernel
theorem dX4_chanceRound_20 : decode cX4_chanceRound 20 = .ok (.getfield 76, 3) := by decide +kernel
theorem dX4_chanceRound_23 : decode cX4_chanceRound 23 = .ok (.istore 5, 2) := by decide +kernel
theorem dX4_chanceRound_25 : decode cX4_chanceRound 25 = .ok (.iload 5, 2) := by decide +kernel
theorem dX4_chanceRound_27 : decode cX4_chanceRound 27 = .ok (.aload_n 0, 1) := by decide +kernel
theorem dX4_chanceRound_28 : decode cX4_chanceRound 28 = .ok (.getfield 48, 3) := by decide +kernel
theorem dX4_chanceRound_31 : decode cX4_chanceRound 31 = .ok (.getfield 83, 3) := by decide +kernel
theorem dX4_chanceRound_34 : decode cX4_chanceRound 34 = .ok (.if_icmp .ge 115, 3) := by decide +kernel
theorem dX4_chanceRound_37 : decode cX4_chanceRound 37 = .ok (.iconst 0, 1) := by decide +kernel
theorem dX4_chanceRound_38 : decode cX4_chanceRound 38 = .ok (.istore 6, 2) := by decide +kernel
theorem dX4_chanceRound_40 : decode cX4_chanceRound 40 = .ok (.aload_n 0, 1) := by decide +kernel
theorem dX4_chanceRound_41 : decode cX4_chanceRound 41 = .ok (.getfield 48, 3) := by decide +kernel
theorem dX4_chanceRound_44 : decode cX4_chanceRound 44 = .ok (.getfield 189, 3) := by decide +kernel
theorem dX4_chanceRound_47 : decode cX4_chanceRound 47 = .ok (.iload 5, 2) := by decide +kernel
theorem dX4_chanceRound_49 : decode cX4_chanceRound 49 = .ok (.iaload, 1) := by decide +kernel
theorem dX4_chanceRound_50 : decode cX4_chanceRound 50 = .ok (.ifCond .eq 79, 3) := by decide +kernel
theorem dX4_chanceRound_53 : decode cX4_chanceRound 53 = .ok (.iload 4, 2) := by decide +kernel
theorem dX4_chanceRound_55 : decode cX4_chanceRound 55 = .ok (.iconst 1, 1) := by decide +kernel
theorem dX4_chanceRound_56 : decode cX4_chanceRound 56 = .ok (.iand, 1) := by decide +kernel
theorem dX4_chanceRound_57 : decode cX4_chanceRound 57 = .ok (.iconst 1, 1) := by decide +kernel
theorem dX4_chanceRound_58 : decode cX4_chanceRound 58 = .ok (.if_icmp .ne 7, 3) := by decide +kernel
theorem dX4_chanceRound_61 : decode cX4_chanceRound 61 = .ok (.iconst 1, 1) := by decide +kernel
theorem dX4_chanceRound_62 : decode cX4_chanceRound 62 = .ok (.goto 4, 3) := by decide +kernel
theorem dX4_chanceRound_65 : decode cX4_chanceRound 65 = .ok (.iconst 0, 1) := by decide +kernel
theorem dX4_chanceRound_66 : decode cX4_chanceRound 66 = .ok (.istore 7, 2) := by decide +kernel
theorem dX4_chanceRound_68 : decode cX4_chanceRound 68 = .ok (.iload_n 3, 1) := by decide +kernel
theorem dX4_chanceRound_69 : decode cX4_chanceRound 69 = .ok (.iload 7, 2) := by decide +kernel
theorem dX4_chanceRound_71 : decode cX4_chanceRound 71 = .ok (.ifCond .eq 16, 3) := by decide +kernel
theorem dX4_chanceRound_74 : decode cX4_chanceRound 74 = .ok (.aload_n 0, 1) := by decide +kernel
theorem dX4_chanceRound_75 : decode cX4_chanceRound 75 = .ok (.getfield 48, 3) := by decide +kernel
theorem dX4_chanceRound_78 : decode cX4_chanceRound 78 = .ok (.getfield 219, 3) := by decide +kernel
theorem dX4_chanceRound_81 : decode cX4_chanceRound 81 = .ok (.iload 5, 2) := by decide +kernel
theorem dX4_chanceRound_83 : decode cX4_chanceRound 83 = .ok (.iaload, 1) := by decide +kernel
theorem dX4_chanceRound_84 : decode cX4_chanceRound 84 = .ok (.goto 16, 3) := by decide +kernel
theorem dX4_chanceRound_87 : decode cX4_chanceRound 87 = .ok (.bipush 100, 2) := by decide +kernel
theorem dX4_chanceRound_89 : decode cX4_chanceRound 89 = .ok (.aload_n 0, 1) := by decide +kernel
theorem dX4_chanceRound_90 : decode cX4_chanceRound 90 = .ok (.getfield 48, 3) := by decide +kernel
theorem dX4_chanceRound_93 : decode cX4_chanceRound 93 = .ok (.getfield 219, 3) := by decide +kernel
theorem dX4_chanceRound_96 : decode cX4_chanceRound 96 = .ok (.iload 5, 2) := by decide +kernel
theorem dX4_chanceRound_98 : decode cX4_chanceRound 98 = .ok (.iaload, 1) := by decide +kernel
theorem dX4_chanceRound_99 : decode cX4_chanceRound 99 = .ok (.isub, 1) := by decide +kernel
theorem dX4_chanceRound_100 : decode cX4_chanceRound 100 = .ok (.imul, 1) := by decide +kernel
theorem dX4_chanceRound_101 : decode cX4_chanceRound 101 = .ok (.istore_n 3, 1) := by decide +kernel
theorem dX4_chanceRound_102 : decode cX4_chanceRound 102 = .ok (.iload 7, 2) := by decide +kernel
theorem dX4_chanceRound_104 : decode cX4_chanceRound 104 = .ok (.ifCond .eq 16, 3) := by decide +kernel
theorem dX4_chanceRound_107 : decode cX4_chanceRound 107 = .ok (.aload_n 0, 1) := by decide +kernel
theorem dX4_chanceRound_108 : decode cX4_chanceRound 108 = .ok (.getfield 48, 3) := by decide +kernel
theorem dX4_chanceRound_111 : decode cX4_chanceRound 111 = .ok (.getfield 189, 3) := by decide +kernel
theorem dX4_chanceRound_114 : decode cX4_chanceRound 114 = .ok (.iload 5, 2) := by decide +kernel
theorem dX4_chanceRound_116 : decode cX4_chanceRound 116 = .ok (.iaload, 1) := by decide +kernel
theorem dX4_chanceRound_117 : decode cX4_chanceRound 117 = .ok (.goto 4, 3) := by decide +kernel
theorem dX4_chanceRound_120 : decode cX4_chanceRound 120 = .ok (.iconst 0, 1) := by decide +kernel
theorem dX4_chanceRound_121 : decode cX4_chanceRound 121 = .ok (.istore 6, 2) := by decide +kernel
theorem dX4_chanceRound_123 : decode cX4_chanceRound 123 = .ok (.iload 4, 2) := by decide +kernel
theorem dX4_chanceRound_125 : decode cX4_chanceRound 125 = .ok (.iconst 1, 1) := by decide +kernel
theorem dX4_chanceRound_126 : decode cX4_chanceRound 126 = .ok (.ishr, 1) := by decide +kernel
theorem dX4_chanceRound_127 : decode cX4_chanceRound 127 = .ok (.istore 4, 2) := by decide +kernel
theorem dX4_chanceRound_129 : decode cX4_chanceRound 129 = .ok (.aload_n 0, 1) := by decide +kernel
theorem dX4_chanceRound_130 : decode cX4_chanceRound 130 = .ok (.getfield 38, 3) := by decide +kernel
theorem dX4_chanceRound_133 : decode cX4_chanceRound 133 = .ok (.aload_n 0, 1) := by decide +kernel
theorem dX4_chanceRound_134 : decode cX4_chanceRound 134 = .ok (.getfield 14, 3) := by decide +kernel
theorem dX4_chanceRound_137 : decode cX4_chanceRound 137 = .ok (.iload 6, 2) := by decide +kernel
theorem dX4_chanceRound_139 : decode cX4_chanceRound 139 = .ok (.invokevirtual 68, 3) := by decide +kernel
theorem dX4_chanceRound_142 : decode cX4_chanceRound 142 = .ok (.pop, 1) := by decide +kernel
theorem dX4_chanceRound_143 : decode cX4_chanceRound 143 = .ok (.iinc 5 1, 3) := by decide +kernel
theorem dX4_chanceRound_146 : decode cX4_chanceRound 146 = .ok (.goto (-121), 3) := by decide +kernel
theorem dX4_chanceRound_149 : decode cX4_chanceRound 149 = .ok (.aload_n 0, 1) := by decide +kernel
theorem dX4_chanceRound_150 : decode cX4_chanceRound 150 = .ok (.getfield 14, 3) := by decide +kernel
theorem dX4_chanceRound_153 : decode cX4_chanceRound 153 = .ok (.iload_n 1, 1) := by decide +kernel
theorem dX4_chanceRound_154 : decode cX4_chanceRound 154 = .ok (.invokevirtual 79, 3) := by decide +kernel
theorem dX4_chanceRound_157 : decode cX4_chanceRound 157 = .ok (.ifCond .eq 7, 3) := by decide +kernel
theorem dX4_chanceRound_160 : decode cX4_chanceRound 160 = .ok (.iload_n 3, 1) := by decide +kernel
theorem dX4_chanceRound_161 : decode cX4_chanceRound 161 = .ok (.goto 4, 3) := by decide +kernel
theorem dX4_chanceRound_164 : decode cX4_chanceRound 164 = .ok (.iconst 0, 1) := by decide +kernel
theorem dX4_chanceRound_165 : decode cX4_chanceRound 165 = .ok (.ireturn, 1) := by decide +kernel
theorem dX4_greatestCommon_0 : decode cX4_greatestCommon 0 = .ok (.iload_n 0, 1) := by decide +kernel
theorem dX4_greatestCommon_1 : decode cX4_greatestCommon 1 = .ok (.istore_n 2, 1) := by decide +kernel
theorem dX4_greatestCommon_2 : decode cX4_greatestCommon 2 = .ok (.iload_n 1, 1) := by decide +kernel
theorem dX4_greatestCommon_3 : decode cX4_greatestCommon 3 = .ok (.istore_n 3, 1) := by decide +kernel
theorem dX4_greatestCommon_4 : decode cX4_greatestCommon 4 = .ok (.iconst 0, 1) := by decide +kernel
theorem dX4_greatestCommon_5 : decode cX4_greatestCommon 5 = .ok (.istore 4, 2) := by decide +kernel
theorem dX4_greatestCommon_7 : decode cX4_greatestCommon 7 = .ok (.iload 4, 2) := by decide +kernel
theorem dX4_greatestCommon_9 : decode cX4_greatestCommon 9 = .ok (.bipush 100, 2) := by decide +kernel
theorem dX4_greatestCommon_11 : decode cX4_greatestCommon 11 = .ok (.if_icmp .ge 23, 3) := by decide +kernel
theorem dX4_greatestCommon_14 : decode cX4_greatestCommon 14 = .ok (.iload_n 3, 1) := by decide +kernel
theorem dX4_greatestCommon_15 : decode cX4_greatestCommon 15 = .ok (.ifCond .le 19, 3) := by decide +kernel
theorem dX4_greatestCommon_18 : decode cX4_greatestCommon 18 = .ok (.iload_n 2, 1) := by decide +kernel
theorem dX4_greatestCommon_19 : decode cX4_greatestCommon 19 = .ok (.iload_n 3, 1) := by decide +kernel
theorem dX4_greatestCommon_20 : decode cX4_greatestCommon 20 = .ok (.irem, 1) := by decide +kernel
theorem dX4_greatestCommon_21 : decode cX4_greatestCommon 21 = .ok (.istore 5, 2) := by decide +kernel
theorem dX4_greatestCommon_23 : decode cX4_greatestCommon 23 = .ok (.iload_n 3, 1) := by decide +kernel
theorem dX4_greatestCommon_24 : decode cX4_greatestCommon 24 = .ok (.istore_n 2, 1) := by decide +kernel
theorem dX4_greatestCommon_25 : decode cX4_greatestCommon 25 = .ok (.iload 5, 2) := by decide +kernel
theorem dX4_greatestCommon_27 : decode cX4_greatestCommon 27 = .ok (.istore_n 3, 1) := by decide +kernel
theorem dX4_greatestCommon_28 : decode cX4_greatestCommon 28 = .ok (.iinc 4 1, 3) := by decide +kernel
theorem dX4_greatestCommon_31 : decode cX4_greatestCommon 31 = .ok (.goto (-24), 3) := by decide +kernel
theorem dX4_greatestCommon_34 : decode cX4_greatestCommon 34 = .ok (.iload_n 2, 1) := by decide +kernel
theorem dX4_greatestCommon_35 : decode cX4_greatestCommon 35 = .ok (.ireturn, 1) := by decide +kernel
theorem dX5_init_0 : decode cX5_init 0 = .ok (.aload_n 0, 1) := by decide +kernel
theorem dX5_init_1 : decode cX5_init 1 = .ok (.invokespecial 3, 3) := by decide +kernel
theorem dX5_init_4 : decode cX5_init 4 = .ok (.aload_n 0, 1) := by decide +kernel
theorem dX5_init_5 : decode cX5_init 5 = .ok (.new 9, 3) := by decide +kernel
theorem dX5_init_8 : decode cX5_init 8 = .ok (.dup, 1) := by decide +kernel
theorem dX5_init_9 : decode cX5_init 9 = .ok (.invokespecial 11, 3) := by decide +kernel
theorem dX5_init_12 : decode cX5_init 12 = .ok (.putfield 12, 3) := by decide +kernel
theorem dX5_init_15 : decode cX5_init 15 = .ok (.aload_n 0, 1) := by decide +kernel
theorem dX5_init_16 : decode cX5_init 16 = .ok (.iconst (-1), 1) := by decide +kernel
theorem dX5_init_17 : decode cX5_init 17 = .ok (.putfield 18, 3) := by decide +kernel
theorem dX5_init_20 : decode cX5_init 20 = .ok (.return_, 1) := by decide +kernel
theorem dX5_read_0 : decode cX5_read 0 = .ok (.aload_n 0, 1) := by decide +kernel
theorem dX5_read_1 : decode cX5_read 1 = .ok (.iconst 0, 1) := by decide +kernel
theorem dX5_read_2 : decode cX5_read 2 = .ok (.putfield 22, 3) := by decide +kernel
theorem dX5_read_5 : decode cX5_read 5 = .ok (.aload_n 0, 1) := by decide +kernel
theorem dX5_read_6 : decode cX5_read 6 = .ok (.iconst (-1), 1) := by decide +kernel
theorem dX5_read_7 : decode cX5_read 7 = .ok (.putfield 18, 3) := by decide +kernel
theorem dX5_read_10 : decode cX5_read 10 = .ok (.aload_n 0, 1) := by decide +kernel
theorem dX5_read_11 : decode cX5_read 11 = .ok (.iconst 0, 1) := by decide +kernel
theorem dX5_read_12 : decode cX5_read 12 = .ok (.putfield 25, 3) := by decide +kernel
theorem dX5_read_15 : decode cX5_read 15 = .ok (.aload_n 3, 1) := by decide +kernel
theorem dX5_read_16 : decode cX5_read 16 = .ok (.invokevirtual 28, 3) := by decide +kernel
theorem dX5_read_19 : decode cX5_read 19 = .ok (.aload_n 0, 1) := by decide +kernel
theorem dX5_read_20 : decode cX5_read 20 = .ok (.getfield 12, 3) := by decide +kernel
theorem dX5_read_23 : decode cX5_read 23 = .ok (.aload_n 1, 1) := by decide +kernel
theorem dX5_read_24 : decode cX5_read 24 = .ok (.iload_n 2, 1) := by decide +kernel
theorem dX5_read_25 : decode cX5_read 25 = .ok (.invokevirtual 33, 3) := by decide +kernel
theorem dX5_read_28 : decode cX5_read 28 = .ok (.iconst 0, 1) := by decide +kernel
theorem dX5_read_29 : decode cX5_read 29 = .ok (.istore 4, 2) := by decide +kernel
theorem dX5_read_31 : decode cX5_read 31 = .ok (.iload 4, 2) := by decide +kernel
theorem dX5_read_33 : decode cX5_read 33 = .ok (.sipush 1600, 3) := by decide +kernel
theorem dX5_read_36 : decode cX5_read 36 = .ok (.if_icmp .ge 156, 3) := by decide +kernel
theorem dX5_read_39 : decode cX5_read 39 = .ok (.aload_n 0, 1) := by decide +kernel
theorem dX5_read_40 : decode cX5_read 40 = .ok (.getfield 12, 3) := by decide +kernel
theorem dX5_read_43 : decode cX5_read 43 = .ok (.getfield 37, 3) := by decide +kernel
theorem dX5_read_46 : decode cX5_read 46 = .ok (.ifCond .eq 146, 3) := by decide +kernel
theorem dX5_read_49 : decode cX5_read 49 = .ok (.aload_n 0, 1) := by decide +kernel
theorem dX5_read_50 : decode cX5_read 50 = .ok (.getfield 12, 3) := by decide +kernel
theorem dX5_read_53 : decode cX5_read 53 = .ok (.getfield 37, 3) := by decide +kernel
theorem dX5_read_56 : decode cX5_read 56 = .ok (.iconst 1, 1) := by decide +kernel
theorem dX5_read_57 : decode cX5_read 57 = .ok (.if_icmp .ne 13, 3) := by decide +kernel
theorem dX5_read_60 : decode cX5_read 60 = .ok (.aload_n 0, 1) := by decide +kernel
theorem dX5_read_61 : decode cX5_read 61 = .ok (.getfield 12, 3) := by decide +kernel
theorem dX5_read_64 : decode cX5_read 64 = .ok (.getfield 40, 3) := by decide +kernel
theorem dX5_read_67 : decode cX5_read 67 = .ok (.goto 4, 3) := by decide +kernel
theorem dX5_read_70 : decode cX5_read 70 = .ok (.iconst (-1), 1) := by decide +kernel
theorem dX5_read_71 : decode cX5_read 71 = .ok (.tableswitch 101 7 14 #[45, 101, 101, 55, 101, 65, 78, 91], 45) := by decide +kernel
theorem dX5_read_116 : decode cX5_read 116 = .ok (.aload_n 0, 1) := by decide +kernel
theorem dX5_read_117 : decode cX5_read 117 = .ok (.aload_n 3, 1) := by decide +kernel
theorem dX5_read_118 : decode cX5_read 118 = .ok (.invokevirtual 43, 3) := by decide +kernel
theorem dX5_read_121 : decode cX5_read 121 = .ok (.istore 5, 2) := by decide +kernel
theorem dX5_read_123 : decode cX5_read 123 = .ok (.goto 56, 3) := by decide +kernel
theorem dX5_read_126 : decode cX5_read 126 = .ok (.aload_n 0, 1) := by decide +kernel
theorem dX5_read_127 : decode cX5_read 127 = .ok (.aload_n 3, 1) := by decide +kernel
theorem dX5_read_128 : decode cX5_read 128 = .ok (.invokevirtual 47, 3) := by decide +kernel
theorem dX5_read_131 : decode cX5_read 131 = .ok (.istore 5, 2) := by decide +kernel
theorem dX5_read_133 : decode cX5_read 133 = .ok (.goto 46, 3) := by decide +kernel
theorem dX5_read_136 : decode cX5_read 136 = .ok (.aload_n 0, 1) := by decide +kernel
theorem dX5_read_137 : decode cX5_read 137 = .ok (.aload_n 3, 1) := by decide +kernel
theorem dX5_read_138 : decode cX5_read 138 = .ok (.getfield 50, 3) := by decide +kernel
theorem dX5_read_141 : decode cX5_read 141 = .ok (.invokevirtual 54, 3) := by decide +kernel
theorem dX5_read_144 : decode cX5_read 144 = .ok (.istore 5, 2) := by decide +kernel
theorem dX5_read_146 : decode cX5_read 146 = .ok (.goto 33, 3) := by decide +kernel
theorem dX5_read_149 : decode cX5_read 149 = .ok (.aload_n 0, 1) := by decide +kernel
theorem dX5_read_150 : decode cX5_read 150 = .ok (.aload_n 3, 1) := by decide +kernel
theorem dX5_read_151 : decode cX5_read 151 = .ok (.getfield 58, 3) := by decide +kernel
theorem dX5_read_154 : decode cX5_read 154 = .ok (.invokevirtual 54, 3) := by decide +kernel
theorem dX5_read_157 : decode cX5_read 157 = .ok (.istore 5, 2) := by decide +kernel
theorem dX5_read_159 : decode cX5_read 159 = .ok (.goto 20, 3) := by decide +kernel
theorem dX5_read_162 : decode cX5_read 162 = .ok (.aload_n 0, 1) := by decide +kernel
theorem dX5_read_163 : decode cX5_read 163 = .ok (.aload_n 3, 1) := by decide +kernel
theorem dX5_read_164 : decode cX5_read 164 = .ok (.invokevirtual 61, 3) := by decide +kernel
theorem dX5_read_167 : decode cX5_read 167 = .ok (.istore 5, 2) := by decide +kernel
theorem dX5_read_169 : decode cX5_read 169 = .ok (.goto 10, 3) := by decide +kernel
theorem dX5_read_172 : decode cX5_read 172 = .ok (.aload_n 0, 1) := by decide +kernel
theorem dX5_read_173 : decode cX5_read 173 = .ok (.iconst 2, 1) := by decide +kernel
theorem dX5_read_174 : decode cX5_read 174 = .ok (.invokevirtual 64, 3) := by decide +kernel
theorem dX5_read_177 : decode cX5_read 177 = .ok (.istore 5, 2) := by decide +kernel
theorem dX5_read_179 : decode cX5_read 179 = .ok (.iload 5, 2) := by decide +kernel
theorem dX5_read_181 : decode cX5_read 181 = .ok (.ifCond .ne 5, 3) := by decide +kernel
theorem dX5_read_184 : decode cX5_read 184 = .ok (.iconst 0, 1) := by decide +kernel
theorem dX5_read_185 : decode cX5_read 185 = .ok (.ireturn, 1) := by decide +kernel
theorem dX5_read_186 : decode cX5_read 186 = .ok (.iinc 4 1, 3) := by decide +kernel
theorem dX5_read_189 : decode cX5_read 189 = .ok (.goto (-158), 3) := by decide +kernel
theorem dX5_read_192 : decode cX5_read 192 = .ok (.iconst 1, 1) := by decide +kernel
theorem dX5_read_193 : decode cX5_read 193 = .ok (.ireturn, 1) := by decide +kernel
theorem dX5_readCorner_0 : decode cX5_readCorner 0 = .ok (.aload_n 1, 1) := by decide +kernel
theorem dX5_readCorner_1 : decode cX5_readCorner 1 = .ok (.getfield 68, 3) := by decide +kernel
theorem dX5_readCorner_4 : decode cX5_readCorner 4 = .ok (.istore_n 2, 1) := by decide +kernel
theorem dX5_readCorner_5 : decode cX5_readCorner 5 = .ok (.iload_n 2, 1) := by decide +kernel
theorem dX5_readCorner_6 : decode cX5_readCorner 6 = .ok (.bipush 8, 2) := by decide +kernel
theorem dX5_readCorner_8 : decode cX5_readCorner 8 = .ok (.if_icmp .lt 9, 3) := by decide +kernel
theorem dX5_readCorner_11 : decode cX5_readCorner 11 = .ok (.aload_n 0, 1) := by decide +kernel
theorem dX5_readCorner_12 : decode cX5_readCorner 12 = .ok (.iconst 2, 1) := by decide +kernel
theorem dX5_readCorner_13 : decode cX5_readCorner 13 = .ok (.invokevirtual 64, 3) := by decide +kernel
theorem dX5_readCorner_16 : decode cX5_readCorner 16 = .ok (.ireturn, 1) := by decide +kernel
theorem dX5_readCorner_17 : decode cX5_readCorner 17 = .ok (.aload_n 0, 1) := by decide +kernel
theorem dX5_readCorner_18 : decode cX5_readCorner 18 = .ok (.getfield 12, 3) := by decide +kernel
theorem dX5_readCorner_21 : decode cX5_readCorner 21 = .ok (.invokevirtual 71, 3) := by decide +kernel
theorem dX5_readCorner_24 : decode cX5_readCorner 24 = .ok (.aload_n 0, 1) := by decide +kernel
theorem dX5_readCorner_25 : decode cX5_readCorner 25 = .ok (.aload_n 1, 1) := by decide +kernel
theorem dX5_readCorner_26 : decode cX5_readCorner 26 = .ok (.getfield 74, 3) := by decide +kernel
theorem dX5_readCorner_29 : decode cX5_readCorner 29 = .ok (.iload_n 2, 1) := by decide +kernel
theorem dX5_readCorner_30 : decode cX5_readCorner 30 = .ok (.invokevirtual 78, 3) := by decide +kernel
theorem dX5_readCorner_33 : decode cX5_readCorner 33 = .ok (.ifCond .eq 14, 3) := by decide +kernel
theorem dX5_readCorner_36 : decode cX5_readCorner 36 = .ok (.aload_n 0, 1) := by decide +kernel
theorem dX5_readCorner_37 : decode cX5_readCorner 37 = .ok (.iconst 0, 1) := by decide +kernel
theorem dX5_readCorner_38 : decode cX5_readCorner 38 = .ok (.iconst 0, 1) := by decide +kernel
theorem dX5_readCorner_39 : decode cX5_readCorner 39 = .ok (.bipush 99, 2) := by decide +kernel
theorem dX5_readCorner_41 : decode cX5_readCorner 41 = .ok (.invokevirtual 82, 3) := by decide +kernel
theorem dX5_readCorner_44 : decode cX5_readCorner 44 = .ok (.ifCond .ne 5, 3) := by decide +kernel
theorem dX5_readCorner_47 : decode cX5_readCorner 47 = .ok (.iconst 0, 1) := by decide +kernel
theorem dX5_readCorner_48 : decode cX5_readCorner 48 = .ok (.ireturn, 1) := by decide +kernel
theorem dX5_readCorner_49 : decode cX5_readCorner 49 = .ok (.aload_n 1, 1) := by decide +kernel
theorem dX5_readCorner_50 : decode cX5_readCorner 50 = .ok (.getfield 86, 3) := by decide +kernel
theorem dX5_readCorner_53 : decode cX5_readCorner 53 = .ok (.iload_n 2, 1) := by decide +kernel
theorem dX5_readCorner_54 : decode cX5_readCorner 54 = .ok (.aload_n 0, 1) := by decide +kernel
theorem dX5_readCorner_55 : decode cX5_readCorner 55 = .ok (.getfield 90, 3) := by decide +kernel
theorem dX5_readCorner_58 : decode cX5_readCorner 58 = .ok (.iastore, 1) := by decide +kernel
theorem dX5_readCorner_59 : decode cX5_readCorner 59 = .ok (.aload_n 0, 1) := by decide +kernel
theorem dX5_readCorner_60 : decode cX5_readCorner 60 = .ok (.getfield 12, 3) := by decide +kernel
theorem dX5_readCorner_63 : decode cX5_readCorner 63 = .ok (.iconst 1, 1) := by decide +kernel
theorem dX5_readCorner_64 : decode cX5_readCorner 64 = .ok (.invokevirtual 93, 3) := by decide +kernel
theorem dX5_readCorner_67 : decode cX5_readCorner 67 = .ok (.ifCond .eq 26, 3) := by decide +kernel
theorem dX5_readCorner_70 : decode cX5_readCorner 70 = .ok (.aload_n 0, 1) := by decide +kernel
theorem dX5_readCorner_71 : decode cX5_readCorner 71 = .ok (.iconst 1, 1) := by decide +kernel
theorem dX5_readCorner_72 : decode cX5_readCorner 72 = .ok (.iconst 0, 1) := by decide +kernel
theorem dX5_readCorner_73 : decode cX5_readCorner 73 = .ok (.bipush 20, 2) := by decide +kernel
theorem dX5_readCorner_75 : decode cX5_readCorner 75 = .ok (.invokevirtual 82, 3) := by decide +kernel
theorem dX5_readCorner_78 : decode cX5_readCorner 78 = .ok (.ifCond .ne 5, 3) := by decide +kernel
theorem dX5_readCorner_81 : decode cX5_readCorner 81 = .ok (.iconst 0, 1) := by decide +kernel
theorem dX5_readCorner_82 : decode cX5_readCorner 82 = .ok (.ireturn, 1) := by decide +kernel
theorem dX5_readCorner_83 : decode cX5_readCorner 83 = .ok (.aload_n 1, 1) := by decide +kernel
theorem dX5_readCorner_84 : decode cX5_readCorner 84 = .ok (.getfield 96, 3) := by decide +kernel
theorem dX5_readCorner_87 : decode cX5_readCorner 87 = .ok (.iload_n 2, 1) := by decide +kernel
theorem dX5_readCorner_88 : decode cX5_readCorner 88 = .ok (.aload_n 0, 1) := by decide +kernel
theorem dX5_readCorner_89 : decode cX5_readCorner 89 = .ok (.getfield 90, 3) := by decide +kernel
theorem dX5_readCorner_92 : decode cX5_readCorner 92 = .ok (.iastore, 1) := by decide +kernel
theorem dX5_readCorner_93 : decode cX5_readCorner 93 = .ok (.aload_n 0, 1) := by decide +kernel
theorem dX5_readCorner_94 : decode cX5_readCorner 94 = .ok (.getfield 12, 3) := by decide +kernel
theorem dX5_readCorner_97 : decode cX5_readCorner 97 = .ok (.bipush 8, 2) := by decide +kernel
theorem dX5_readCorner_99 : decode cX5_readCorner 99 = .ok (.invokevirtual 93, 3) := by decide +kernel
theorem dX5_readCorner_102 : decode cX5_readCorner 102 = .ok (.ifCond .eq 14, 3) := by decide +kernel
theorem dX5_readCorner_105 : decode cX5_readCorner 105 = .ok (.aload_n 0, 1) := by decide +kernel
theorem dX5_readCorner_106 : decode cX5_readCorner 106 = .ok (.aload_n 1, 1) := by decide +kernel
theorem dX5_readCorner_107 : decode cX5_readCorner 107 = .ok (.iload_n 2, 1) := by decide +kernel
theorem dX5_readCorner_108 : decode cX5_readCorner 108 = .ok (.invokevirtual 99, 3) := by decide +kernel
theorem dX5_readCorner_111 : decode cX5_readCorner 111 = .ok (.ifCond .ne 5, 3) := by decide +kernel
theorem dX5_readCorner_114 : decode cX5_readCorner 114 = .ok (.iconst 0, 1) := by decide +kernel
theorem dX5_readCorner_115 : decode cX5_readCorner 115 = .ok (.ireturn, 1) := by decide +kernel
theorem dX5_readCorner_116 : decode cX5_readCorner 116 = .ok (.aload_n 1, 1) := by decide +kernel
theorem dX5_readCorner_117 : decode cX5_readCorner 117 = .ok (.dup, 1) := by decide +kernel
theorem dX5_readCorner_118 : decode cX5_readCorner 118 = .ok (.getfield 68, 3) := by decide +kernel
theorem dX5_readCorner_121 : decode cX5_readCorner 121 = .ok (.iconst 1, 1) := by decide +kernel
theorem dX5_readCorner_122 : decode cX5_readCorner 122 = .ok (.iadd, 1) := by decide +kernel
theorem dX5_readCorner_123 : decode cX5_readCorner 123 = .ok (.putfield 68, 3) := by decide +kernel
theorem dX5_readCorner_126 : decode cX5_readCorner 126 = .ok (.aload_n 0, 1) := by decide +kernel
theorem dX5_readCorner_127 : decode cX5_readCorner 127 = .ok (.bipush 59, 2) := by decide +kernel
theorem dX5_readCorner_129 : decode cX5_readCorner 129 = .ok (.invokevirtual 103, 3) := by decide +kernel
theorem dX5_readCorner_132 : decode cX5_readCorner 132 = .ok (.ireturn, 1) := by decide +kernel
theorem dX5_readGust_0 : decode cX5_readGust 0 = .ok (.aload_n 1, 1) := by decide +kernel
theorem dX5_readGust_1 : decode cX5_readGust 1 = .ok (.getfield 107, 3) := by decide +kernel
theorem dX5_readGust_4 : decode cX5_readGust 4 = .ok (.iconst 4, 1) := by decide +kernel
theorem dX5_readGust_5 : decode cX5_readGust 5 = .ok (.if_icmp .lt 9, 3) := by decide +kernel
theorem dX5_readGust_8 : decode cX5_readGust 8 = .ok (.aload_n 0, 1) := by decide +kernel
theorem dX5_readGust_9 : decode cX5_readGust 9 = .ok (.iconst 2, 1) := by decide +kernel
theorem dX5_readGust_10 : decode cX5_readGust 10 = .ok (.invokevirtual 64, 3) := by decide +kernel
theorem dX5_readGust_13 : decode cX5_readGust 13 = .ok (.ireturn, 1) := by decide +kernel
theorem dX5_readGust_14 : decode cX5_readGust 14 = .ok (.aload_n 0, 1) := by decide +kernel
theorem dX5_readGust_15 : decode cX5_readGust 15 = .ok (.bipush 8, 2) := by decide +kernel
theorem dX5_readGust_17 : decode cX5_readGust 17 = .ok (.iconst 0, 1) := by decide +kernel
theorem dX5_readGust_18 : decode cX5_readGust 18 = .ok (.bipush 100, 2) := by decide +kernel
theorem dX5_readGust_20 : decode cX5_readGust 20 = .ok (.invokevirtual 82, 3) := by decide +kernel
theorem dX5_readGust_23 : decode cX5_readGust 23 = .ok (.ifCond .ne 5, 3) := by decide +kernel
theorem dX5_readGust_26 : decode cX5_readGust 26 = .ok (.iconst 0, 1) := by decide +kernel
theorem dX5_readGust_27 : decode cX5_readGust 27 = .ok (.ireturn, 1) := by decide +kernel
theorem dX5_readGust_28 : decode cX5_readGust 28 = .ok (.aload_n 1, 1) := by decide +kernel
theorem dX5_readGust_29 : decode cX5_readGust 29 = .ok (.getfield 110, 3) := by decide +kernel
theorem dX5_readGust_32 : decode cX5_readGust 32 = .ok (.iload_n 2, 1) := by decide +kernel
theorem dX5_readGust_33 : decode cX5_readGust 33 = .ok (.aload_n 0, 1) := by decide +kernel
theorem dX5_readGust_34 : decode cX5_readGust 34 = .ok (.getfield 90, 3) := by decide +kernel
theorem dX5_readGust_37 : decode cX5_readGust 37 = .ok (.iastore, 1) := by decide +kernel
theorem dX5_readGust_38 : decode cX5_readGust 38 = .ok (.aload_n 0, 1) := by decide +kernel
theorem dX5_readGust_39 : decode cX5_readGust 39 = .ok (.bipush 9, 2) := by decide +kernel
theorem dX5_readGust_41 : decode cX5_readGust 41 = .ok (.iconst 1, 1) := by decide +kernel
theorem dX5_readGust_42 : decode cX5_readGust 42 = .ok (.bipush 50, 2) := by decide +kernel
theorem dX5_readGust_44 : decode cX5_readGust 44 = .ok (.invokevirtual 82, 3) := by decide +kernel
theorem dX5_readGust_47 : decode cX5_readGust 47 = .ok (.ifCond .ne 5, 3) := by decide +kernel
theorem dX5_readGust_50 : decode cX5_readGust 50 = .ok (.iconst 0, 1) := by decide +kernel
theorem dX5_readGust_51 : decode cX5_readGust 51 = .ok (.ireturn, 1) := by decide +kernel
theorem dX5_readGust_52 : decode cX5_readGust 52 = .ok (.aload_n 1, 1) := by decide +kernel
theorem dX5_readGust_53 : decode cX5_readGust 53 = .ok (.getfield 113, 3) := by decide +kernel
theorem dX5_readGust_56 : decode cX5_readGust 56 = .ok (.iload_n 2, 1) := by decide +kernel
theorem dX5_readGust_57 : decode cX5_readGust 57 = .ok (.aload_n 0, 1) := by decide +kernel
theorem dX5_readGust_58 : decode cX5_readGust 58 = .ok (.getfield 90, 3) := by decide +kernel
theorem dX5_readGust_61 : decode cX5_readGust 61 = .ok (.iastore, 1) := by decide +kernel
theorem dX5_readGust_62 : decode cX5_readGust 62 = .ok (.aload_n 1, 1) := by decide +kernel
theorem dX5_readGust_63 : decode cX5_readGust 63 = .ok (.dup, 1) := by decide +kernel
theorem dX5_readGust_64 : decode cX5_readGust 64 = .ok (.getfield 107, 3) := by decide +kernel
theorem dX5_readGust_67 : decode cX5_readGust 67 = .ok (.iconst 1, 1) := by decide +kernel
theorem dX5_readGust_68 : decode cX5_readGust 68 = .ok (.iadd, 1) := by decide +kernel
theorem dX5_readGust_69 : decode cX5_readGust 69 = .ok (.putfield 107, 3) := by decide +kernel
theorem dX5_readGust_72 : decode cX5_readGust 72 = .ok (.iconst 1, 1) := by decide +kernel
theorem dX5_readGust_73 : decode cX5_readGust 73 = .ok (.ireturn, 1) := by decide +kernel
theorem dX5_readGuild_0 : decode cX5_readGuild 0 = .ok (.aload_n 1, 1) := by decide +kernel
theorem dX5_readGuild_1 : decode cX5_readGuild 1 = .ok (.getfield 116, 3) := by decide +kernel
theorem dX5_readGuild_4 : decode cX5_readGuild 4 = .ok (.istore_n 2, 1) := by decide +kernel
theorem dX5_readGuild_5 : decode cX5_readGuild 5 = .ok (.iload_n 2, 1) := by decide +kernel
theorem dX5_readGuild_6 : decode cX5_readGuild 6 = .ok (.iconst 5, 1) := by decide +kernel
theorem dX5_readGuild_7 : decode cX5_readGuild 7 = .ok (.if_icmp .lt 9, 3) := by decide +kernel
theorem dX5_readGuild_10 : decode cX5_readGuild 10 = .ok (.aload_n 0, 1) := by decide +kernel
theorem dX5_readGuild_11 : decode cX5_readGuild 11 = .ok (.iconst 2, 1) := by decide +kernel
theorem dX5_readGuild_12 : decode cX5_readGuild 12 = .ok (.invokevirtual 64, 3) := by decide +kernel
theorem dX5_readGuild_15 : decode cX5_readGuild 15 = .ok (.ireturn, 1) := by decide +kernel
theorem dX5_readGuild_16 : decode cX5_readGuild 16 = .ok (.aload_n 0, 1) := by decide +kernel
theorem dX5_readGuild_17 : decode cX5_readGuild 17 = .ok (.getfield 12, 3) := by decide +kernel
theorem dX5_readGuild_20 : decode cX5_readGuild 20 = .ok (.invokevirtual 71, 3) := by decide +kernel
theorem dX5_readGuild_23 : decode cX5_readGuild 23 = .ok (.aload_n 0, 1) := by decide +kernel
theorem dX5_readGuild_24 : decode cX5_readGuild 24 = .ok (.aload_n 1, 1) := by decide +kernel
theorem dX5_readGuild_25 : decode cX5_readGuild 25 = .ok (.getfield 119, 3) := by decide +kernel
theorem dX5_readGuild_28 : decode cX5_readGuild 28 = .ok (.iload_n 2, 1) := by decide +kernel
theorem dX5_readGuild_29 : decode cX5_readGuild 29 = .ok (.invokevirtual 78, 3) := by decide +kernel
theorem dX5_readGuild_32 : decode cX5_readGuild 32 = .ok (.ifCond .eq 14, 3) := by decide +kernel
theorem dX5_readGuild_35 : decode cX5_readGuild 35 = .ok (.aload_n 0, 1) := by decide +kernel
theorem dX5_readGuild_36 : decode cX5_readGuild 36 = .ok (.iconst 2, 1) := by decide +kernel
theorem dX5_readGuild_37 : decode cX5_readGuild 37 = .ok (.iconst 1, 1) := by decide +kernel
theorem dX5_readGuild_38 : decode cX5_readGuild 38 = .ok (.bipush 20, 2) := by decide +kernel
theorem dX5_readGuild_40 : decode cX5_readGuild 40 = .ok (.invokevirtual 82, 3) := by decide +kernel
theorem dX5_readGuild_43 : decode cX5_readGuild 43 = .ok (.ifCond .ne 5, 3) := by decide +kernel
theorem dX5_readGuild_46 : decode cX5_readGuild 46 = .ok (.iconst 0, 1) := by decide +kernel
theorem dX5_readGuild_47 : decode cX5_readGuild 47 = .ok (.ireturn, 1) := by decide +kernel
theorem dX5_readGuild_48 : decode cX5_readGuild 48 = .ok (.aload_n 1, 1) := by decide +kernel
theorem dX5_readGuild_49 : decode cX5_readGuild 49 = .ok (.getfield 122, 3) := by decide +kernel
theorem dX5_readGuild_52 : decode cX5_readGuild 52 = .ok (.iload_n 2, 1) := by decide +kernel
theorem dX5_readGuild_53 : decode cX5_readGuild 53 = .ok (.aload_n 0, 1) := by decide +kernel
theorem dX5_readGuild_54 : decode cX5_readGuild 54 = .ok (.getfield 90, 3) := by decide +kernel
theorem dX5_readGuild_57 : decode cX5_readGuild 57 = .ok (.iastore, 1) := by decide +kernel
theorem dX5_readGuild_58 : decode cX5_readGuild 58 = .ok (.aload_n 0, 1) := by decide +kernel
theorem dX5_readGuild_59 : decode cX5_readGuild 59 = .ok (.iconst 4, 1) := by decide +kernel
theorem dX5_readGuild_60 : decode cX5_readGuild 60 = .ok (.iconst 0, 1) := by decide +kernel
theorem dX5_readGuild_61 : decode cX5_readGuild 61 = .ok (.bipush 100, 2) := by decide +kernel
theorem dX5_readGuild_63 : decode cX5_readGuild 63 = .ok (.invokevirtual 82, 3) := by decide +kernel
theorem dX5_readGuild_66 : decode cX5_readGuild 66 = .ok (.ifCond .ne 5, 3) := by decide +kernel
theorem dX5_readGuild_69 : decode cX5_readGuild 69 = .ok (.iconst 0, 1) := by decide +kernel
theorem dX5_readGuild_70 : decode cX5_readGuild 70 = .ok (.ireturn, 1) := by decide +kernel
theorem dX5_readGuild_71 : decode cX5_readGuild 71 = .ok (.aload_n 1, 1) := by decide +kernel
theorem dX5_readGuild_72 : decode cX5_readGuild 72 = .ok (.getfield 125, 3) := by decide +kernel
theorem dX5_readGuild_75 : decode cX5_readGuild 75 = .ok (.iload_n 2, 1) := by decide +kernel
theorem dX5_readGuild_76 : decode cX5_readGuild 76 = .ok (.aload_n 0, 1) := by decide +kernel
theorem dX5_readGuild_77 : decode cX5_readGuild 77 = .ok (.getfield 90, 3) := by decide +kernel
theorem dX5_readGuild_80 : decode cX5_readGuild 80 = .ok (.iastore, 1) := by decide +kernel
theorem dX5_readGuild_81 : decode cX5_readGuild 81 = .ok (.aload_n 0, 1) := by decide +kernel
theorem dX5_readGuild_82 : decode cX5_readGuild 82 = .ok (.iconst 5, 1) := by decide +kernel
theorem dX5_readGuild_83 : decode cX5_readGuild 83 = .ok (.iconst 0, 1) := by decide +kernel
theorem dX5_readGuild_84 : decode cX5_readGuild 84 = .ok (.bipush 99, 2) := by decide +kernel
theorem dX5_readGuild_86 : decode cX5_readGuild 86 = .ok (.invokevirtual 82, 3) := by decide +kernel
theorem dX5_readGuild_89 : decode cX5_readGuild 89 = .ok (.ifCond .ne 5, 3) := by decide +kernel
theorem dX5_readGuild_92 : decode cX5_readGuild 92 = .ok (.iconst 0, 1) := by decide +kernel
theorem dX5_readGuild_93 : decode cX5_readGuild 93 = .ok (.ireturn, 1) := by decide +kernel
theorem dX5_readGuild_94 : decode cX5_readGuild 94 = .ok (.aload_n 1, 1) := by decide +kernel
theorem dX5_readGuild_95 : decode cX5_readGuild 95 = .ok (.getfield 128, 3) := by decide +kernel
theorem dX5_readGuild_98 : decode cX5_readGuild 98 = .ok (.iload_n 2, 1) := by decide +kernel
theorem dX5_readGuild_99 : decode cX5_readGuild 99 = .ok (.aload_n 0, 1) := by decide +kernel
theorem dX5_readGuild_100 : decode cX5_readGuild 100 = .ok (.getfield 90, 3) := by decide +kernel
theorem dX5_readGuild_103 : decode cX5_readGuild 103 = .ok (.iastore, 1) := by decide +kernel
theorem dX5_readGuild_104 : decode cX5_readGuild 104 = .ok (.aload_n 0, 1) := by decide +kernel
theorem dX5_readGuild_105 : decode cX5_readGuild 105 = .ok (.getfield 12, 3) := by decide +kernel
theorem dX5_readGuild_108 : decode cX5_readGuild 108 = .ok (.bipush 11, 2) := by decide +kernel
theorem dX5_readGuild_110 : decode cX5_readGuild 110 = .ok (.invokevirtual 93, 3) := by decide +kernel
theorem dX5_readGuild_113 : decode cX5_readGuild 113 = .ok (.ifCond .eq 27, 3) := by decide +kernel
theorem dX5_readGuild_116 : decode cX5_readGuild 116 = .ok (.aload_n 0, 1) := by decide +kernel
theorem dX5_readGuild_117 : decode cX5_readGuild 117 = .ok (.bipush 11, 2) := by decide +kernel
theorem dX5_readGuild_119 : decode cX5_readGuild 119 = .ok (.iconst 0, 1) := by decide +kernel
theorem dX5_readGuild_120 : decode cX5_readGuild 120 = .ok (.bipush 20, 2) := by decide +kernel
theorem dX5_readGuild_122 : decode cX5_readGuild 122 = .ok (.invokevirtual 82, 3) := by decide +kernel
theorem dX5_readGuild_125 : decode cX5_readGuild 125 = .ok (.ifCond .ne 5, 3) := by decide +kernel
theorem dX5_readGuild_128 : decode cX5_readGuild 128 = .ok (.iconst 0, 1) := by decide +kernel
theorem dX5_readGuild_129 : decode cX5_readGuild 129 = .ok (.ireturn, 1) := by decide +kernel
theorem dX5_readGuild_130 : decode cX5_readGuild 130 = .ok (.aload_n 1, 1) := by decide +kernel
theorem dX5_readGuild_131 : decode cX5_readGuild 131 = .ok (.getfield 131, 3) := by decide +kernel
theorem dX5_readGuild_134 : decode cX5_readGuild 134 = .ok (.iload_n 2, 1) := by decide +kernel
theorem dX5_readGuild_135 : decode cX5_readGuild 135 = .ok (.aload_n 0, 1) := by decide +kernel
theorem dX5_readGuild_136 : decode cX5_readGuild 136 = .ok (.getfield 90, 3) := by decide +kernel
theorem dX5_readGuild_139 : decode cX5_readGuild 139 = .ok (.iastore, 1) := by decide +kernel
theorem dX5_readGuild_140 : decode cX5_readGuild 140 = .ok (.aload_n 1, 1) := by decide +kernel
theorem dX5_readGuild_141 : decode cX5_readGuild 141 = .ok (.dup, 1) := by decide +kernel
theorem dX5_readGuild_142 : decode cX5_readGuild 142 = .ok (.getfield 116, 3) := by decide +kernel
theorem dX5_readGuild_145 : decode cX5_readGuild 145 = .ok (.iconst 1, 1) := by decide +kernel
theorem dX5_readGuild_146 : decode cX5_readGuild 146 = .ok (.iadd, 1) := by decide +kernel
theorem dX5_readGuild_147 : decode cX5_readGuild 147 = .ok (.putfield 116, 3) := by decide +kernel
theorem dX5_readGuild_150 : decode cX5_readGuild 150 = .ok (.aload_n 0, 1) := by decide +kernel
theorem dX5_readGuild_151 : decode cX5_readGuild 151 = .ok (.bipush 59, 2) := by decide +kernel
theorem dX5_readGuild_153 : decode cX5_readGuild 153 = .ok (.invokevirtual 103, 3) := by decide +kernel
theorem dX5_readGuild_156 : decode cX5_readGuild 156 = .ok (.ireturn, 1) := by decide +kernel
theorem dX5_readDraw_0 : decode cX5_readDraw 0 = .ok (.aload_n 1, 1) := by decide +kernel
theorem dX5_readDraw_1 : decode cX5_readDraw 1 = .ok (.getfield 134, 3) := by decide +kernel
theorem dX5_readDraw_4 : decode cX5_readDraw 4 = .ok (.ifCond .eq 9, 3) := by decide +kernel
theorem dX5_readDraw_7 : decode cX5_readDraw 7 = .ok (.aload_n 0, 1) := by decide +kernel
theorem dX5_readDraw_8 : decode cX5_readDraw 8 = .ok (.iconst 2, 1) := by decide +kernel
theorem dX5_readDraw_9 : decode cX5_readDraw 9 = .ok (.invokevirtual 64, 3) := by decide +kernel
theorem dX5_readDraw_12 : decode cX5_readDraw 12 = .ok (.ireturn, 1) := by decide +kernel
theorem dX5_readDraw_13 : decode cX5_readDraw 13 = .ok (.aload_n 0, 1) := by decide +kernel
theorem dX5_readDraw_14 : decode cX5_readDraw 14 = .ok (.bipush 14, 2) := by decide +kernel
theorem dX5_readDraw_16 : decode cX5_readDraw 16 = .ok (.iconst 0, 1) := by decide +kernel
theorem dX5_readDraw_17 : decode cX5_readDraw 17 = .ok (.sipush 999, 3) := by decide +kernel
theorem dX5_readDraw_20 : decode cX5_readDraw 20 = .ok (.invokevirtual 82, 3) := by decide +kernel
theorem dX5_readDraw_23 : decode cX5_readDraw 23 = .ok (.ifCond .ne 5, 3) := by decide +kernel
theorem dX5_readDraw_26 : decode cX5_readDraw 26 = .ok (.iconst 0, 1) := by decide +kernel
theorem dX5_readDraw_27 : decode cX5_readDraw 27 = .ok (.ireturn, 1) := by decide +kernel
theorem dX5_readDraw_28 : decode cX5_readDraw 28 = .ok (.aload_n 1, 1) := by decide +kernel
theorem dX5_readDraw_29 : decode cX5_readDraw 29 = .ok (.iconst 1, 1) := by decide +kernel
theorem dX5_readDraw_30 : decode cX5_readDraw 30 = .ok (.putfield 134, 3) := by decide +kernel
theorem dX5_readDraw_33 : decode cX5_readDraw 33 = .ok (.aload_n 1, 1) := by decide +kernel
theorem dX5_readDraw_34 : decode cX5_readDraw 34 = .ok (.aload_n 0, 1) := by decide +kernel
theorem dX5_readDraw_35 : decode cX5_readDraw 35 = .ok (.getfield 90, 3) := by decide +kernel
theorem dX5_readDraw_38 : decode cX5_readDraw 38 = .ok (.putfield 138, 3) := by decide +kernel
theorem dX5_readDraw_41 : decode cX5_readDraw 41 = .ok (.aload_n 0, 1) := by decide +kernel
theorem dX5_readDraw_42 : decode cX5_readDraw 42 = .ok (.bipush 59, 2) := by decide +kernel
theorem dX5_readDraw_44 : decode cX5_readDraw 44 = .ok (.invokevirtual 103, 3) := by decide +kernel
theorem dX5_readDraw_47 : decode cX5_readDraw 47 = .ok (.ireturn, 1) := by decide +kernel
theorem dX5_readFormula_0 : decode cX5_readFormula 0 = .ok (.aload_n 1, 1) := by decide +kernel
theorem dX5_readFormula_1 : decode cX5_readFormula 1 = .ok (.getfield 141, 3) := by decide +kernel
theorem dX5_readFormula_4 : decode cX5_readFormula 4 = .ok (.ifCond .eq 9, 3) := by decide +kernel
theorem dX5_readFormula_7 : decode cX5_readFormula 7 = .ok (.aload_n 0, 1) := by decide +kernel
theorem dX5_readFormula_8 : decode cX5_readFormula 8 = .ok (.iconst 2, 1) := by decide +kernel
theorem dX5_readFormula_9 : decode cX5_readFormula 9 = .ok (.invokevirtual 64, 3) := by decide +kernel
theorem dX5_readFormula_12 : decode cX5_readFormula 12 = .ok (.ireturn, 1) := by decide +kernel
theorem dX5_readFormula_13 : decode cX5_readFormula 13 = .ok (.aload_n 1, 1) := by decide +kernel
theorem dX5_readFormula_14 : decode cX5_readFormula 14 = .ok (.iconst 1, 1) := by decide +kernel
theorem dX5_readFormula_15 : decode cX5_readFormula 15 = .ok (.putfield 141, 3) := by decide +kernel
theorem dX5_readFormula_18 : decode cX5_readFormula 18 = .ok (.aload_n 0, 1) := by decide +kernel
theorem dX5_readFormula_19 : decode cX5_readFormula 19 = .ok (.getfield 12, 3) := by decide +kernel
theorem dX5_readFormula_22 : decode cX5_readFormula 22 = .ok (.invokevirtual 71, 3) := by decide +kernel
theorem dX5_readFormula_25 : decode cX5_readFormula 25 = .ok (.aload_n 0, 1) := by decide +kernel
theorem dX5_readFormula_26 : decode cX5_readFormula 26 = .ok (.aload_n 1, 1) := by decide +kernel
theorem dX5_readFormula_27 : decode cX5_readFormula 27 = .ok (.iconst 0, 1) := by decide +kernel
theorem dX5_readFormula_28 : decode cX5_readFormula 28 = .ok (.invokevirtual 146, 3) := by decide +kernel
theorem dX5_readFormula_31 : decode cX5_readFormula 31 = .ok (.ifCond .eq 16, 3) := by decide +kernel
theorem dX5_readFormula_34 : decode cX5_readFormula 34 = .ok (.aload_n 0, 1) := by decide +kernel
theorem dX5_readFormula_35 : decode cX5_readFormula 35 = .ok (.bipush 59, 2) := by decide +kernel
theorem dX5_readFormula_37 : decode cX5_readFormula 37 = .ok (.invokevirtual 103, 3) := by decide +kernel
theorem dX5_readFormula_40 : decode cX5_readFormula 40 = .ok (.ifCond .eq 7, 3) := by decide +kernel
theorem dX5_readFormula_43 : decode cX5_readFormula 43 = .ok (.iconst 1, 1) := by decide +kernel
theorem dX5_readFormula_44 : decode cX5_readFormula 44 = .ok (.goto 4, 3) := by decide +kernel
theorem dX5_readFormula_47 : decode cX5_readFormula 47 = .ok (.iconst 0, 1) := by decide +kernel
theorem dX5_readFormula_48 : decode cX5_readFormula 48 = .ok (.ireturn, 1) := by decide +kernel
theorem dX5_takeEither_0 : decode cX5_takeEither 0 = .ok (.aload_n 0, 1) := by decide +kernel
theorem dX5_takeEither_1 : decode cX5_takeEither 1 = .ok (.aload_n 1, 1) := by decide +kernel
theorem dX5_takeEither_2 : decode cX5_takeEither 2 = .ok (.iload_n 2, 1) := by decide +kernel
theorem dX5_takeEither_3 : decode cX5_takeEither 3 = .ok (.invokevirtual 150, 3) := by decide +kernel
theorem dX5_takeEither_6 : decode cX5_takeEither 6 = .ok (.ifCond .ne 5, 3) := by decide +kernel
theorem dX5_takeEither_9 : decode cX5_takeEither 9 = .ok (.iconst 0, 1) := by decide +kernel
theorem dX5_takeEither_10 : decode cX5_takeEither 10 = .ok (.ireturn, 1) := by decide +kernel
theorem dX5_takeEither_11 : decode cX5_takeEither 11 = .ok (.iconst 0, 1) := by decide +kernel
theorem dX5_takeEither_12 : decode cX5_takeEither 12 = .ok (.istore_n 3, 1) := by decide +kernel
theorem dX5_takeEither_13 : decode cX5_takeEither 13 = .ok (.iload_n 3, 1) := by decide +kernel
theorem dX5_takeEither_14 : decode cX5_takeEither 14 = .ok (.sipush 1600, 3) := by decide +kernel
theorem dX5_takeEither_17 : decode cX5_takeEither 17 = .ok (.if_icmp .ge 46, 3) := by decide +kernel
theorem dX5_takeEither_20 : decode cX5_takeEither 20 = .ok (.aload_n 0, 1) := by decide +kernel
theorem dX5_takeEither_21 : decode cX5_takeEither 21 = .ok (.getfield 12, 3) := by decide +kernel
theorem dX5_takeEither_24 : decode cX5_takeEither 24 = .ok (.bipush 15, 2) := by decide +kernel
theorem dX5_takeEither_26 : decode cX5_takeEither 26 = .ok (.invokevirtual 93, 3) := by decide +kernel
theorem dX5_takeEither_29 : decode cX5_takeEither 29 = .ok (.ifCond .eq 34, 3) := by decide +kernel
theorem dX5_takeEither_32 : decode cX5_takeEither 32 = .ok (.aload_n 0, 1) := by decide +kernel
theorem dX5_takeEither_33 : decode cX5_takeEither 33 = .ok (.getfield 12, 3) := by decide +kernel
theorem dX5_takeEither_36 : decode cX5_takeEither 36 = .ok (.invokevirtual 71, 3) := by decide +kernel
theorem dX5_takeEither_39 : decode cX5_takeEither 39 = .ok (.aload_n 0, 1) := by decide +kernel
theorem dX5_takeEither_40 : decode cX5_takeEither 40 = .ok (.aload_n 1, 1) := by decide +kernel
theorem dX5_takeEither_41 : decode cX5_takeEither 41 = .ok (.iload_n 2, 1) := by decide +kernel
theorem dX5_takeEither_42 : decode cX5_takeEither 42 = .ok (.invokevirtual 150, 3) := by decide +kernel
theorem dX5_takeEither_45 : decode cX5_takeEither 45 = .ok (.ifCond .ne 5, 3) := by decide +kernel
theorem dX5_takeEither_48 : decode cX5_takeEither 48 = .ok (.iconst 0, 1) := by decide +kernel
theorem dX5_takeEither_49 : decode cX5_takeEither 49 = .ok (.ireturn, 1) := by decide +kernel
theorem dX5_takeEither_50 : decode cX5_takeEither 50 = .ok (.aload_n 1, 1) := by decide +kernel
theorem dX5_takeEither_51 : decode cX5_takeEither 51 = .ok (.bipush 15, 2) := by decide +kernel
theorem dX5_takeEither_53 : decode cX5_takeEither 53 = .ok (.iconst 0, 1) := by decide +kernel
theorem dX5_takeEither_54 : decode cX5_takeEither 54 = .ok (.invokevirtual 153, 3) := by decide +kernel
theorem dX5_takeEither_57 : decode cX5_takeEither 57 = .ok (.iinc 3 1, 3) := by decide +kernel
theorem dX5_takeEither_60 : decode cX5_takeEither 60 = .ok (.goto (-47), 3) := by decide +kernel
theorem dX5_takeEither_63 : decode cX5_takeEither 63 = .ok (.iconst 1, 1) := by decide +kernel
theorem dX5_takeEither_64 : decode cX5_takeEither 64 = .ok (.ireturn, 1) := by decide +kernel
theorem dX5_takeBoth_0 : decode cX5_takeBoth 0 = .ok (.aload_n 0, 1) := by decide +kernel
theorem dX5_takeBoth_1 : decode cX5_takeBoth 1 = .ok (.aload_n 1, 1) := by decide +kernel
theorem dX5_takeBoth_2 : decode cX5_takeBoth 2 = .ok (.iload_n 2, 1) := by decide +kernel
theorem dX5_takeBoth_3 : decode cX5_takeBoth 3 = .ok (.invokevirtual 157, 3) := by decide +kernel
theorem dX5_takeBoth_6 : decode cX5_takeBoth 6 = .ok (.ifCond .ne 5, 3) := by decide +kernel
theorem dX5_takeBoth_9 : decode cX5_takeBoth 9 = .ok (.iconst 0, 1) := by decide +kernel
theorem dX5_takeBoth_10 : decode cX5_takeBoth 10 = .ok (.ireturn, 1) := by decide +kernel
theorem dX5_takeBoth_11 : decode cX5_takeBoth 11 = .ok (.iconst 0, 1) := by decide +kernel
theorem dX5_takeBoth_12 : decode cX5_takeBoth 12 = .ok (.istore_n 3, 1) := by decide +kernel
theorem dX5_takeBoth_13 : decode cX5_takeBoth 13 = .ok (.iload_n 3, 1) := by decide +kernel
theorem dX5_takeBoth_14 : decode cX5_takeBoth 14 = .ok (.sipush 1600, 3) := by decide +kernel
theorem dX5_takeBoth_17 : decode cX5_takeBoth 17 = .ok (.if_icmp .ge 46, 3) := by decide +kernel
theorem dX5_takeBoth_20 : decode cX5_takeBoth 20 = .ok (.aload_n 0, 1) := by decide +kernel
theorem dX5_takeBoth_21 : decode cX5_takeBoth 21 = .ok (.getfield 12, 3) := by decide +kernel
theorem dX5_takeBoth_24 : decode cX5_takeBoth 24 = .ok (.bipush 16, 2) := by decide +kernel
theorem dX5_takeBoth_26 : decode cX5_takeBoth 26 = .ok (.invokevirtual 93, 3) := by decide +kernel
theorem dX5_takeBoth_29 : decode cX5_takeBoth 29 = .ok (.ifCond .eq 34, 3) := by decide +kernel
theorem dX5_takeBoth_32 : decode cX5_takeBoth 32 = .ok (.aload_n 0, 1) := by decide +kernel
theorem dX5_takeBoth_33 : decode cX5_takeBoth 33 = .ok (.getfield 12, 3) := by decide +kernel
theorem dX5_takeBoth_36 : decode cX5_takeBoth 36 = .ok (.invokevirtual 71, 3) := by decide +kernel
theorem dX5_takeBoth_39 : decode cX5_takeBoth 39 = .ok (.aload_n 0, 1) := by decide +kernel
theorem dX5_takeBoth_40 : decode cX5_takeBoth 40 = .ok (.aload_n 1, 1) := by decide +kernel
theorem dX5_takeBoth_41 : decode cX5_takeBoth 41 = .ok (.iload_n 2, 1) := by decide +kernel
theorem dX5_takeBoth_42 : decode cX5_takeBoth 42 = .ok (.invokevirtual 157, 3) := by decide +kernel
theorem dX5_takeBoth_45 : decode cX5_takeBoth 45 = .ok (.ifCond .ne 5, 3) := by decide +kernel
theorem dX5_takeBoth_48 : decode cX5_takeBoth 48 = .ok (.iconst 0, 1) := by decide +kernel
theorem dX5_takeBoth_49 : decode cX5_takeBoth 49 = .ok (.ireturn, 1) := by decide +kernel
theorem dX5_takeBoth_50 : decode cX5_takeBoth 50 = .ok (.aload_n 1, 1) := by decide +kernel
theorem dX5_takeBoth_51 : decode cX5_takeBoth 51 = .ok (.bipush 16, 2) := by decide +kernel
theorem dX5_takeBoth_53 : decode cX5_takeBoth 53 = .ok (.iconst 0, 1) := by decide +kernel
theorem dX5_takeBoth_54 : decode cX5_takeBoth 54 = .ok (.invokevirtual 153, 3) := by decide +kernel
theorem dX5_takeBoth_57 : decode cX5_takeBoth 57 = .ok (.iinc 3 1, 3) := by decide +kernel
theorem dX5_takeBoth_60 : decode cX5_takeBoth 60 = .ok (.goto (-47), 3) := by decide +kernel
theorem dX5_takeBoth_63 : decode cX5_takeBoth 63 = .ok (.iconst 1, 1) := by decide +kernel
theorem dX5_takeBoth_64 : decode cX5_takeBoth 64 = .ok (.ireturn, 1) := by decide +kernel
theorem dX5_takeOne_0 : decode cX5_takeOne 0 = .ok (.aload_n 0, 1) := by decide +kernel
theorem dX5_takeOne_1 : decode cX5_takeOne 1 = .ok (.getfield 12, 3) := by decide +kernel
theorem dX5_takeOne_4 : decode cX5_takeOne 4 = .ok (.bipush 17, 2) := by decide +kernel
theorem dX5_takeOne_6 : decode cX5_takeOne 6 = .ok (.invokevirtual 93, 3) := by decide +kernel
theorem dX5_takeOne_9 : decode cX5_takeOne 9 = .ok (.ifCond .eq 44, 3) := by decide +kernel
theorem dX5_takeOne_12 : decode cX5_takeOne 12 = .ok (.iload_n 2, 1) := by decide +kernel
theorem dX5_takeOne_13 : decode cX5_takeOne 13 = .ok (.bipush 6, 2) := by decide +kernel
theorem dX5_takeOne_15 : decode cX5_takeOne 15 = .ok (.if_icmp .le 9, 3) := by decide +kernel
theorem dX5_takeOne_18 : decode cX5_takeOne 18 = .ok (.aload_n 0, 1) := by decide +kernel
theorem dX5_takeOne_19 : decode cX5_takeOne 19 = .ok (.iconst 2, 1) := by decide +kernel
theorem dX5_takeOne_20 : decode cX5_takeOne 20 = .ok (.invokevirtual 64, 3) := by decide +kernel
theorem dX5_takeOne_23 : decode cX5_takeOne 23 = .ok (.ireturn, 1) := by decide +kernel
theorem dX5_takeOne_24 : decode cX5_takeOne 24 = .ok (.aload_n 0, 1) := by decide +kernel
theorem dX5_takeOne_25 : decode cX5_takeOne 25 = .ok (.getfield 12, 3) := by decide +kernel
theorem dX5_takeOne_28 : decode cX5_takeOne 28 = .ok (.invokevirtual 71, 3) := by decide +kernel
theorem dX5_takeOne_31 : decode cX5_takeOne 31 = .ok (.aload_n 0, 1) := by decide +kernel
theorem dX5_takeOne_32 : decode cX5_takeOne 32 = .ok (.aload_n 1, 1) := by decide +kernel
theorem dX5_takeOne_33 : decode cX5_takeOne 33 = .ok (.iload_n 2, 1) := by decide +kernel
theorem dX5_takeOne_34 : decode cX5_takeOne 34 = .ok (.iconst 1, 1) := by decide +kernel
theorem dX5_takeOne_35 : decode cX5_takeOne 35 = .ok (.iadd, 1) := by decide +kernel
theorem dX5_takeOne_36 : decode cX5_takeOne 36 = .ok (.invokevirtual 157, 3) := by decide +kernel
theorem dX5_takeOne_39 : decode cX5_takeOne 39 = .ok (.ifCond .ne 5, 3) := by decide +kernel
theorem dX5_takeOne_42 : decode cX5_takeOne 42 = .ok (.iconst 0, 1) := by decide +kernel
theorem dX5_takeOne_43 : decode cX5_takeOne 43 = .ok (.ireturn, 1) := by decide +kernel
theorem dX5_takeOne_44 : decode cX5_takeOne 44 = .ok (.aload_n 1, 1) := by decide +kernel
theorem dX5_takeOne_45 : decode cX5_takeOne 45 = .ok (.bipush 17, 2) := by decide +kernel
theorem dX5_takeOne_47 : decode cX5_takeOne 47 = .ok (.iconst 0, 1) := by decide +kernel
theorem dX5_takeOne_48 : decode cX5_takeOne 48 = .ok (.invokevirtual 153, 3) := by decide +kernel
theorem dX5_takeOne_51 : decode cX5_takeOne 51 = .ok (.iconst 1, 1) := by decide +kernel
theorem dX5_takeOne_52 : decode cX5_takeOne 52 = .ok (.ireturn, 1) := by decide +kernel
theorem dX5_takeOne_53 : decode cX5_takeOne 53 = .ok (.aload_n 0, 1) := by decide +kernel
theorem dX5_takeOne_54 : decode cX5_takeOne 54 = .ok (.aload_n 1, 1) := by decide +kernel
theorem dX5_takeOne_55 : decode cX5_takeOne 55 = .ok (.iload_n 2, 1) := by decide +kernel
theorem dX5_takeOne_56 : decode cX5_takeOne 56 = .ok (.invokevirtual 160, 3) := by decide +kernel
theorem dX5_takeOne_59 : decode cX5_takeOne 59 = .ok (.ifCond .ne 5, 3) := by decide +kernel
theorem dX5_takeOne_62 : decode cX5_takeOne 62 = .ok (.iconst 0, 1) := by decide +kernel
theorem dX5_takeOne_63 : decode cX5_takeOne 63 = .ok (.ireturn, 1) := by decide +kernel
theorem dX5_takeOne_64 : decode cX5_takeOne 64 = .ok (.aload_n 0, 1) := by decide +kernel
theorem dX5_takeOne_65 : decode cX5_takeOne 65 = .ok (.getfield 12, 3) := by decide +kernel
theorem dX5_takeOne_68 : decode cX5_takeOne 68 = .ok (.bipush 60, 2) := by decide +kernel
theorem dX5_takeOne_70 : decode cX5_takeOne 70 = .ok (.invokevirtual 163, 3) := by decide +kernel
theorem dX5_takeOne_73 : decode cX5_takeOne 73 = .ok (.ifCond .ne 29, 3) := by decide +kernel
theorem dX5_takeOne_76 : decode cX5_takeOne 76 = .ok (.aload_n 0, 1) := by decide +kernel
theorem dX5_takeOne_77 : decode cX5_takeOne 77 = .ok (.getfield 12, 3) := by decide +kernel
theorem dX5_takeOne_80 : decode cX5_takeOne 80 = .ok (.bipush 62, 2) := by decide +kernel
theorem dX5_takeOne_82 : decode cX5_takeOne 82 = .ok (.invokevirtual 163, 3) := by decide +kernel
theorem dX5_takeOne_85 : decode cX5_takeOne 85 = .ok (.ifCond .ne 17, 3) := by decide +kernel
theorem dX5_takeOne_88 : decode cX5_takeOne 88 = .ok (.aload_n 0, 1) := by decide +kernel
theorem dX5_takeOne_89 : decode cX5_takeOne 89 = .ok (.getfield 12, 3) := by decide +kernel
theorem dX5_takeOne_92 : decode cX5_takeOne 92 = .ok (.bipush 61, 2) := by decide +kernel
theorem dX5_takeOne_94 : decode cX5_takeOne 94 = .ok (.invokevirtual 163, 3) := by decide +kernel
theorem dX5_takeOne_97 : decode cX5_takeOne 97 = .ok (.ifCond .ne 5, 3) := by decide +kernel
theorem dX5_takeOne_100 : decode cX5_takeOne 100 = .ok (.iconst 1, 1) := by decide +kernel
theorem dX5_takeOne_101 : decode cX5_takeOne 101 = .ok (.ireturn, 1) := by decide +kernel
theorem dX5_takeOne_102 : decode cX5_takeOne 102 = .ok (.aload_n 0, 1) := by decide +kernel
theorem dX5_takeOne_103 : decode cX5_takeOne 103 = .ok (.getfield 12, 3) := by decide +kernel
theorem dX5_takeOne_106 : decode cX5_takeOne 106 = .ok (.getfield 166, 3) := by decide +kernel
theorem dX5_takeOne_109 : decode cX5_takeOne 109 = .ok (.istore_n 3, 1) := by decide +kernel
theorem dX5_takeOne_110 : decode cX5_takeOne 110 = .ok (.aload_n 0, 1) := by decide +kernel
theorem dX5_takeOne_111 : decode cX5_takeOne 111 = .ok (.getfield 12, 3) := by decide +kernel
theorem dX5_takeOne_114 : decode cX5_takeOne 114 = .ok (.invokevirtual 71, 3) := by decide +kernel
theorem dX5_takeOne_117 : decode cX5_takeOne 117 = .ok (.aload_n 0, 1) := by decide +kernel
theorem dX5_takeOne_118 : decode cX5_takeOne 118 = .ok (.aload_n 1, 1) := by decide +kernel
theorem dX5_takeOne_119 : decode cX5_takeOne 119 = .ok (.iload_n 2, 1) := by decide +kernel
theorem dX5_takeOne_120 : decode cX5_takeOne 120 = .ok (.invokevirtual 160, 3) := by decide +kernel
theorem dX5_takeOne_123 : decode cX5_takeOne 123 = .ok (.ifCond .ne 5, 3) := by decide +kernel
theorem dX5_takeOne_126 : decode cX5_takeOne 126 = .ok (.iconst 0, 1) := by decide +kernel
theorem dX5_takeOne_127 : decode cX5_takeOne 127 = .ok (.ireturn, 1) := by decide +kernel
theorem dX5_takeOne_128 : decode cX5_takeOne 128 = .ok (.aload_n 1, 1) := by decide +kernel
theorem dX5_takeOne_129 : decode cX5_takeOne 129 = .ok (.iload_n 3, 1) := by decide +kernel
theorem dX5_takeOne_130 : decode cX5_takeOne 130 = .ok (.iconst 0, 1) := by decide +kernel
theorem dX5_takeOne_131 : decode cX5_takeOne 131 = .ok (.invokevirtual 153, 3) := by decide +kernel
theorem dX5_takeOne_134 : decode cX5_takeOne 134 = .ok (.iconst 1, 1) := by decide +kernel
theorem dX5_takeOne_135 : decode cX5_takeOne 135 = .ok (.ireturn, 1) := by decide +kernel
theorem dX5_takeSum_0 : decode cX5_takeSum 0 = .ok (.aload_n 0, 1) := by decide +kernel
theorem dX5_takeSum_1 : decode cX5_takeSum 1 = .ok (.aload_n 1, 1) := by decide +kernel
theorem dX5_takeSum_2 : decode cX5_takeSum 2 = .ok (.iload_n 2, 1) := by decide +kernel
theorem dX5_takeSum_3 : decode cX5_takeSum 3 = .ok (.invokevirtual 169, 3) := by decide +kernel
theorem dX5_takeSum_6 : decode cX5_takeSum 6 = .ok (.ifCond .ne 5, 3) := by decide +kernel
theorem dX5_takeSum_9 : decode cX5_takeSum 9 = .ok (.iconst 0, 1) := by decide +kernel
theorem dX5_takeSum_10 : decode cX5_takeSum 10 = .ok (.ireturn, 1) := by decide +kernel
theorem dX5_takeSum_11 : decode cX5_takeSum 11 = .ok (.iconst 0, 1) := by decide +kernel
theorem dX5_takeSum_12 : decode cX5_takeSum 12 = .ok (.istore_n 3, 1) := by decide +kernel
theorem dX5_takeSum_13 : decode cX5_takeSum 13 = .ok (.iload_n 3, 1) := by decide +kernel
theorem dX5_takeSum_14 : decode cX5_takeSum 14 = .ok (.sipush 1600, 3) := by decide +kernel
theorem dX5_takeSum_17 : decode cX5_takeSum 17 = .ok (.if_icmp .ge 67, 3) := by decide +kernel
theorem dX5_takeSum_20 : decode cX5_takeSum 20 = .ok (.aload_n 0, 1) := by decide +kernel
theorem dX5_takeSum_21 : decode cX5_takeSum 21 = .ok (.getfield 12, 3) := by decide +kernel
theorem dX5_takeSum_24 : decode cX5_takeSum 24 = .ok (.bipush 43, 2) := by decide +kernel
theorem dX5_takeSum_26 : decode cX5_takeSum 26 = .ok (.invokevirtual 163, 3) := by decide +kernel
theorem dX5_takeSum_29 : decode cX5_takeSum 29 = .ok (.ifCond .ne 15, 3) := by decide +kernel
theorem dX5_takeSum_32 : decode cX5_takeSum 32 = .ok (.aload_n 0, 1) := by decide +kernel
theorem dX5_takeSum_33 : decode cX5_takeSum 33 = .ok (.getfield 12, 3) := by decide +kernel
theorem dX5_takeSum_36 : decode cX5_takeSum 36 = .ok (.bipush 45, 2) := by decide +kernel
theorem dX5_takeSum_38 : decode cX5_takeSum 38 = .ok (.invokevirtual 163, 3) := by decide +kernel
theorem dX5_takeSum_41 : decode cX5_takeSum 41 = .ok (.ifCond .eq 43, 3) := by decide +kernel
theorem dX5_takeSum_44 : decode cX5_takeSum 44 = .ok (.aload_n 0, 1) := by decide +kernel
theorem dX5_takeSum_45 : decode cX5_takeSum 45 = .ok (.getfield 12, 3) := by decide +kernel
theorem dX5_takeSum_48 : decode cX5_takeSum 48 = .ok (.getfield 166, 3) := by decide +kernel
theorem dX5_takeSum_51 : decode cX5_takeSum 51 = .ok (.istore 4, 2) := by decide +kernel
theorem dX5_takeSum_53 : decode cX5_takeSum 53 = .ok (.aload_n 0, 1) := by decide +kernel
theorem dX5_takeSum_54 : decode cX5_takeSum 54 = .ok (.getfield 12, 3) := by decide +kernel
theorem dX5_takeSum_57 : decode cX5_takeSum 57 = .ok (.invokevirtual 71, 3) := by decide +kernel
theorem dX5_takeSum_60 : decode cX5_takeSum 60 = .ok (.aload_n 0, 1) := by decide +kernel
theorem dX5_takeSum_61 : decode cX5_takeSum 61 = .ok (.aload_n 1, 1) := by decide +kernel
theorem dX5_takeSum_62 : decode cX5_takeSum 62 = .ok (.iload_n 2, 1) := by decide +kernel
theorem dX5_takeSum_63 : decode cX5_takeSum 63 = .ok (.invokevirtual 169, 3) := by decide +kernel
theorem dX5_takeSum_66 : decode cX5_takeSum 66 = .ok (.ifCond .ne 5, 3) := by decide +kernel
theorem dX5_takeSum_69 : decode cX5_takeSum 69 = .ok (.iconst 0, 1) := by decide +kernel
theorem dX5_takeSum_70 : decode cX5_takeSum 70 = .ok (.ireturn, 1) := by decide +kernel
theorem dX5_takeSum_71 : decode cX5_takeSum 71 = .ok (.aload_n 1, 1) := by decide +kernel
theorem dX5_takeSum_72 : decode cX5_takeSum 72 = .ok (.iload 4, 2) := by decide +kernel
theorem dX5_takeSum_74 : decode cX5_takeSum 74 = .ok (.iconst 0, 1) := by decide +kernel
theorem dX5_takeSum_75 : decode cX5_takeSum 75 = .ok (.invokevirtual 153, 3) := by decide +kernel
theorem dX5_takeSum_78 : decode cX5_takeSum 78 = .ok (.iinc 3 1, 3) := by decide +kernel
theorem dX5_takeSum_81 : decode cX5_takeSum 81 = .ok (.goto (-68), 3) := by decide +kernel
theorem dX5_takeSum_84 : decode cX5_takeSum 84 = .ok (.iconst 1, 1) := by decide +kernel
theorem dX5_takeSum_85 : decode cX5_takeSum 85 = .ok (.ireturn, 1) := by decide +kernel
theorem dX5_takeTerm_0 : decode cX5_takeTerm 0 = .ok (.aload_n 0, 1) := by decide +kernel
theorem dX5_takeTerm_1 : decode cX5_takeTerm 1 = .ok (.aload_n 1, 1) := by decide +kernel
theorem dX5_takeTerm_2 : decode cX5_takeTerm 2 = .ok (.iload_n 2, 1) := by decide +kernel
theorem dX5_takeTerm_3 : decode cX5_takeTerm 3 = .ok (.invokevirtual 172, 3) := by decide +kernel
theorem dX5_takeTerm_6 : decode cX5_takeTerm 6 = .ok (.ifCond .ne 5, 3) := by decide +kernel
theorem dX5_takeTerm_9 : decode cX5_takeTerm 9 = .ok (.iconst 0, 1) := by decide +kernel
theorem dX5_takeTerm_10 : decode cX5_takeTerm 10 = .ok (.ireturn, 1) := by decide +kernel
theorem dX5_takeTerm_11 : decode cX5_takeTerm 11 = .ok (.iconst 0, 1) := by decide +kernel
theorem dX5_takeTerm_12 : decode cX5_takeTerm 12 = .ok (.istore_n 3, 1) := by decide +kernel
theorem dX5_takeTerm_13 : decode cX5_takeTerm 13 = .ok (.iload_n 3, 1) := by decide +kernel
theorem dX5_takeTerm_14 : decode cX5_takeTerm 14 = .ok (.sipush 1600, 3) := by decide +kernel
theorem dX5_takeTerm_17 : decode cX5_takeTerm 17 = .ok (.if_icmp .ge 50, 3) := by decide +kernel
theorem dX5_takeTerm_20 : decode cX5_takeTerm 20 = .ok (.aload_n 0, 1) := by decide +kernel
theorem dX5_takeTerm_21 : decode cX5_takeTerm 21 = .ok (.invokevirtual 175, 3) := by decide +kernel
theorem dX5_takeTerm_24 : decode cX5_takeTerm 24 = .ok (.ifCond .eq 43, 3) := by decide +kernel
theorem dX5_takeTerm_27 : decode cX5_takeTerm 27 = .ok (.aload_n 0, 1) := by decide +kernel
theorem dX5_takeTerm_28 : decode cX5_takeTerm 28 = .ok (.getfield 12, 3) := by decide +kernel
theorem dX5_takeTerm_31 : decode cX5_takeTerm 31 = .ok (.getfield 166, 3) := by decide +kernel
theorem dX5_takeTerm_34 : decode cX5_takeTerm 34 = .ok (.istore 4, 2) := by decide +kernel
theorem dX5_takeTerm_36 : decode cX5_takeTerm 36 = .ok (.aload_n 0, 1) := by decide +kernel
theorem dX5_takeTerm_37 : decode cX5_takeTerm 37 = .ok (.getfield 12, 3) := by decide +kernel
theorem dX5_takeTerm_40 : decode cX5_takeTerm 40 = .ok (.invokevirtual 71, 3) := by decide +kernel
theorem dX5_takeTerm_43 : decode cX5_takeTerm 43 = .ok (.aload_n 0, 1) := by decide +kernel
theorem dX5_takeTerm_44 : decode cX5_takeTerm 44 = .ok (.aload_n 1, 1) := by decide +kernel
theorem dX5_takeTerm_45 : decode cX5_takeTerm 45 = .ok (.iload_n 2, 1) := by decide +kernel
theorem dX5_takeTerm_46 : decode cX5_takeTerm 46 = .ok (.invokevirtual 172, 3) := by decide +kernel
theorem dX5_takeTerm_49 : decode cX5_takeTerm 49 = .ok (.ifCond .ne 5, 3) := by decide +kernel
theorem dX5_takeTerm_52 : decode cX5_takeTerm 52 = .ok (.iconst 0, 1) := by decide +kernel
theorem dX5_takeTerm_53 : decode cX5_takeTerm 53 = .ok (.ireturn, 1) := by decide +kernel
theorem dX5_takeTerm_54 : decode cX5_takeTerm 54 = .ok (.aload_n 1, 1) := by decide +kernel
theorem dX5_takeTerm_55 : decode cX5_takeTerm 55 = .ok (.iload 4, 2) := by decide +kernel
theorem dX5_takeTerm_57 : decode cX5_takeTerm 57 = .ok (.iconst 0, 1) := by decide +kernel
theorem dX5_takeTerm_58 : decode cX5_takeTerm 58 = .ok (.invokevirtual 153, 3) := by decide +kernel
theorem dX5_takeTerm_61 : decode cX5_takeTerm 61 = .ok (.iinc 3 1, 3) := by decide +kernel
theorem dX5_takeTerm_64 : decode cX5_takeTerm 64 = .ok (.goto (-51), 3) := by decide +kernel
theorem dX5_takeTerm_67 : decode cX5_takeTerm 67 = .ok (.iconst 1, 1) := by decide +kernel
theorem dX5_takeTerm_68 : decode cX5_takeTerm 68 = .ok (.ireturn, 1) := by decide +kernel
theorem dX5_takeUnit_0 : decode cX5_takeUnit 0 = .ok (.aload_n 0, 1) := by decide +kernel
theorem dX5_takeUnit_1 : decode cX5_takeUnit 1 = .ok (.getfield 12, 3) := by decide +kernel
theorem dX5_takeUnit_4 : decode cX5_takeUnit 4 = .ok (.bipush 40, 2) := by decide +kernel
theorem dX5_takeUnit_6 : decode cX5_takeUnit 6 = .ok (.invokevirtual 163, 3) := by decide +kernel
theorem dX5_takeUnit_9 : decode cX5_takeUnit 9 = .ok (.istore_n 3, 1) := by decide +kernel
theorem dX5_takeUnit_10 : decode cX5_takeUnit 10 = .ok (.aload_n 0, 1) := by decide +kernel
theorem dX5_takeUnit_11 : decode cX5_takeUnit 11 = .ok (.getfield 12, 3) := by decide +kernel
theorem dX5_takeUnit_14 : decode cX5_takeUnit 14 = .ok (.getfield 37, 3) := by decide +kernel
theorem dX5_takeUnit_17 : decode cX5_takeUnit 17 = .ok (.iconst 2, 1) := by decide +kernel
theorem dX5_takeUnit_18 : decode cX5_takeUnit 18 = .ok (.if_icmp .ne 7, 3) := by decide +kernel
theorem dX5_takeUnit_21 : decode cX5_takeUnit 21 = .ok (.iconst 1, 1) := by decide +kernel
theorem dX5_takeUnit_22 : decode cX5_takeUnit 22 = .ok (.goto 4, 3) := by decide +kernel
theorem dX5_takeUnit_25 : decode cX5_takeUnit 25 = .ok (.iconst 0, 1) := by decide +kernel
theorem dX5_takeUnit_26 : decode cX5_takeUnit 26 = .ok (.istore 4, 2) := by decide +kernel
theorem dX5_takeUnit_28 : decode cX5_takeUnit 28 = .ok (.aload_n 1, 1) := by decide +kernel
theorem dX5_takeUnit_29 : decode cX5_takeUnit 29 = .ok (.getfield 179, 3) := by decide +kernel
theorem dX5_takeUnit_32 : decode cX5_takeUnit 32 = .ok (.bipush 30, 2) := by decide +kernel
theorem dX5_takeUnit_34 : decode cX5_takeUnit 34 = .ok (.if_icmp .ge 12, 3) := by decide +kernel
theorem dX5_takeUnit_37 : decode cX5_takeUnit 37 = .ok (.aload_n 0, 1) := by decide +kernel
theorem dX5_takeUnit_38 : decode cX5_takeUnit 38 = .ok (.getfield 25, 3) := by decide +kernel
theorem dX5_takeUnit_41 : decode cX5_takeUnit 41 = .ok (.bipush 60, 2) := by decide +kernel
theorem dX5_takeUnit_43 : decode cX5_takeUnit 43 = .ok (.if_icmp .lt 7, 3) := by decide +kernel
theorem dX5_takeUnit_46 : decode cX5_takeUnit 46 = .ok (.iconst 1, 1) := by decide +kernel
theorem dX5_takeUnit_47 : decode cX5_takeUnit 47 = .ok (.goto 4, 3) := by decide +kernel
theorem dX5_takeUnit_50 : decode cX5_takeUnit 50 = .ok (.iconst 0, 1) := by decide +kernel
theorem dX5_takeUnit_51 : decode cX5_takeUnit 51 = .ok (.istore 5, 2) := by decide +kernel
theorem dX5_takeUnit_53 : decode cX5_takeUnit 53 = .ok (.iload_n 3, 1) := by decide +kernel
theorem dX5_takeUnit_54 : decode cX5_takeUnit 54 = .ok (.ifCond .eq 13, 3) := by decide +kernel
theorem dX5_takeUnit_57 : decode cX5_takeUnit 57 = .ok (.iload_n 2, 1) := by decide +kernel
theorem dX5_takeUnit_58 : decode cX5_takeUnit 58 = .ok (.bipush 6, 2) := by decide +kernel
theorem dX5_takeUnit_60 : decode cX5_takeUnit 60 = .ok (.if_icmp .le 7, 3) := by decide +kernel
theorem dX5_takeUnit_63 : decode cX5_takeUnit 63 = .ok (.iconst 1, 1) := by decide +kernel
theorem dX5_takeUnit_64 : decode cX5_takeUnit 64 = .ok (.goto 4, 3) := by decide +kernel
theorem dX5_takeUnit_67 : decode cX5_takeUnit 67 = .ok (.iconst 0, 1) := by decide +kernel
theorem dX5_takeUnit_68 : decode cX5_takeUnit 68 = .ok (.istore 6, 2) := by decide +kernel
theorem dX5_takeUnit_70 : decode cX5_takeUnit 70 = .ok (.iload 5, 2) := by decide +kernel
theorem dX5_takeUnit_72 : decode cX5_takeUnit 72 = .ok (.ifCond .ne 27, 3) := by decide +kernel
theorem dX5_takeUnit_75 : decode cX5_takeUnit 75 = .ok (.iload 6, 2) := by decide +kernel
theorem dX5_takeUnit_77 : decode cX5_takeUnit 77 = .ok (.ifCond .ne 22, 3) := by decide +kernel
theorem dX5_takeUnit_80 : decode cX5_takeUnit 80 = .ok (.iload_n 3, 1) := by decide +kernel
theorem dX5_takeUnit_81 : decode cX5_takeUnit 81 = .ok (.ifCond .ne 24, 3) := by decide +kernel
theorem dX5_takeUnit_84 : decode cX5_takeUnit 84 = .ok (.iload 4, 2) := by decide +kernel
theorem dX5_takeUnit_86 : decode cX5_takeUnit 86 = .ok (.ifCond .ne 19, 3) := by decide +kernel
theorem dX5_takeUnit_89 : decode cX5_takeUnit 89 = .ok (.aload_n 0, 1) := by decide +kernel
theorem dX5_takeUnit_90 : decode cX5_takeUnit 90 = .ok (.getfield 12, 3) := by decide +kernel
theorem dX5_takeUnit_93 : decode cX5_takeUnit 93 = .ok (.invokevirtual 180, 3) := by decide +kernel
theorem dX5_takeUnit_96 : decode cX5_takeUnit 96 = .ok (.ifCond .ne 9, 3) := by decide +kernel
theorem dX5_takeUnit_99 : decode cX5_takeUnit 99 = .ok (.aload_n 0, 1) := by decide +kernel
theorem dX5_takeUnit_100 : decode cX5_takeUnit 100 = .ok (.iconst 2, 1) := by decide +kernel
theorem dX5_takeUnit_101 : decode cX5_takeUnit 101 = .ok (.invokevirtual 64, 3) := by decide +kernel
theorem dX5_takeUnit_104 : decode cX5_takeUnit 104 = .ok (.ireturn, 1) := by decide +kernel
theorem dX5_takeUnit_105 : decode cX5_takeUnit 105 = .ok (.aload_n 1, 1) := by decide +kernel
theorem dX5_takeUnit_106 : decode cX5_takeUnit 106 = .ok (.dup, 1) := by decide +kernel
theorem dX5_takeUnit_107 : decode cX5_takeUnit 107 = .ok (.getfield 179, 3) := by decide +kernel
theorem dX5_takeUnit_110 : decode cX5_takeUnit 110 = .ok (.iconst 1, 1) := by decide +kernel
theorem dX5_takeUnit_111 : decode cX5_takeUnit 111 = .ok (.iadd, 1) := by decide +kernel
theorem dX5_takeUnit_112 : decode cX5_takeUnit 112 = .ok (.putfield 179, 3) := by decide +kernel
theorem dX5_takeUnit_115 : decode cX5_takeUnit 115 = .ok (.aload_n 0, 1) := by decide +kernel
theorem dX5_takeUnit_116 : decode cX5_takeUnit 116 = .ok (.dup, 1) := by decide +kernel
theorem dX5_takeUnit_117 : decode cX5_takeUnit 117 = .ok (.getfield 25, 3) := by decide +kernel
theorem dX5_takeUnit_120 : decode cX5_takeUnit 120 = .ok (.iconst 1, 1) := by decide +kernel
theorem dX5_takeUnit_121 : decode cX5_takeUnit 121 = .ok (.iadd, 1) := by decide +kernel
theorem dX5_takeUnit_122 : decode cX5_takeUnit 122 = .ok (.putfield 25, 3) := by decide +kernel
theorem dX5_takeUnit_125 : decode cX5_takeUnit 125 = .ok (.iload_n 3, 1) := by decide +kernel
theorem dX5_takeUnit_126 : decode cX5_takeUnit 126 = .ok (.ifCond .eq 36, 3) := by decide +kernel
theorem dX5_takeUnit_129 : decode cX5_takeUnit 129 = .ok (.aload_n 0, 1) := by decide +kernel
theorem dX5_takeUnit_130 : decode cX5_takeUnit 130 = .ok (.getfield 12, 3) := by decide +kernel
theorem dX5_takeUnit_133 : decode cX5_takeUnit 133 = .ok (.invokevirtual 71, 3) := by decide +kernel
theorem dX5_takeUnit_136 : decode cX5_takeUnit 136 = .ok (.aload_n 0, 1) := by decide +kernel
theorem dX5_takeUnit_137 : decode cX5_takeUnit 137 = .ok (.aload_n 1, 1) := by decide +kernel
theorem dX5_takeUnit_138 : decode cX5_takeUnit 138 = .ok (.iload_n 2, 1) := by decide +kernel
theorem dX5_takeUnit_139 : decode cX5_takeUnit 139 = .ok (.iconst 1, 1) := by decide +kernel
theorem dX5_takeUnit_140 : decode cX5_takeUnit 140 = .ok (.iadd, 1) := by decide +kernel
theorem dX5_takeUnit_141 : decode cX5_takeUnit 141 = .ok (.invokevirtual 146, 3) := by decide +kernel
theorem dX5_takeUnit_144 : decode cX5_takeUnit 144 = .ok (.ifCond .eq 16, 3) := by decide +kernel
theorem dX5_takeUnit_147 : decode cX5_takeUnit 147 = .ok (.aload_n 0, 1) := by decide +kernel
theorem dX5_takeUnit_148 : decode cX5_takeUnit 148 = .ok (.bipush 41, 2) := by decide +kernel
theorem dX5_takeUnit_150 : decode cX5_takeUnit 150 = .ok (.invokevirtual 103, 3) := by decide +kernel
theorem dX5_takeUnit_153 : decode cX5_takeUnit 153 = .ok (.ifCond .eq 7, 3) := by decide +kernel
theorem dX5_takeUnit_156 : decode cX5_takeUnit 156 = .ok (.iconst 1, 1) := by decide +kernel
theorem dX5_takeUnit_157 : decode cX5_takeUnit 157 = .ok (.goto 4, 3) := by decide +kernel
theorem dX5_takeUnit_160 : decode cX5_takeUnit 160 = .ok (.iconst 0, 1) := by decide +kernel
theorem dX5_takeUnit_161 : decode cX5_takeUnit 161 = .ok (.ireturn, 1) := by decide +kernel
theorem dX5_takeUnit_162 : decode cX5_takeUnit 162 = .ok (.iload 4, 2) := by decide +kernel
theorem dX5_takeUnit_164 : decode cX5_takeUnit 164 = .ok (.ifCond .eq 19, 3) := by decide +kernel
theorem dX5_takeUnit_167 : decode cX5_takeUnit 167 = .ok (.aload_n 1, 1) := by decide +kernel
theorem dX5_takeUnit_168 : decode cX5_takeUnit 168 = .ok (.bipush 18, 2) := by decide +kernel
theorem dX5_takeUnit_170 : decode cX5_takeUnit 170 = .ok (.aload_n 0, 1) := by decide +kernel
theorem dX5_takeUnit_171 : decode cX5_takeUnit 171 = .ok (.getfield 12, 3) := by decide +kernel
theorem dX5_takeUnit_174 : decode cX5_takeUnit 174 = .ok (.getfield 183, 3) := by decide +kernel
theorem dX5_takeUnit_177 : decode cX5_takeUnit 177 = .ok (.invokevirtual 153, 3) := by decide +kernel
theorem dX5_takeUnit_180 : decode cX5_takeUnit 180 = .ok (.goto 15, 3) := by decide +kernel
theorem dX5_takeUnit_183 : decode cX5_takeUnit 183 = .ok (.aload_n 1, 1) := by decide +kernel
theorem dX5_takeUnit_184 : decode cX5_takeUnit 184 = .ok (.aload_n 0, 1) := by decide +kernel
theorem dX5_takeUnit_185 : decode cX5_takeUnit 185 = .ok (.getfield 12, 3) := by decide +kernel
theorem dX5_takeUnit_188 : decode cX5_takeUnit 188 = .ok (.getfield 40, 3) := by decide +kernel
theorem dX5_takeUnit_191 : decode cX5_takeUnit 191 = .ok (.iconst 0, 1) := by decide +kernel
theorem dX5_takeUnit_192 : decode cX5_takeUnit 192 = .ok (.invokevirtual 153, 3) := by decide +kernel
theorem dX5_takeUnit_195 : decode cX5_takeUnit 195 = .ok (.aload_n 0, 1) := by decide +kernel
theorem dX5_takeUnit_196 : decode cX5_takeUnit 196 = .ok (.getfield 12, 3) := by decide +kernel
theorem dX5_takeUnit_199 : decode cX5_takeUnit 199 = .ok (.invokevirtual 71, 3) := by decide +kernel
theorem dX5_takeUnit_202 : decode cX5_takeUnit 202 = .ok (.iconst 1, 1) := by decide +kernel
theorem dX5_takeUnit_203 : decode cX5_takeUnit 203 = .ok (.ireturn, 1) := by decide +kernel
theorem dX5_isFactorSign_0 : decode cX5_isFactorSign 0 = .ok (.aload_n 0, 1) := by decide +kernel
theorem dX5_isFactorSign_1 : decode cX5_isFactorSign 1 = .ok (.getfield 12, 3) := by decide +kernel
theorem dX5_isFactorSign_4 : decode cX5_isFactorSign 4 = .ok (.bipush 42, 2) := by decide +kernel
theorem dX5_isFactorSign_6 : decode cX5_isFactorSign 6 = .ok (.invokevirtual 163, 3) := by decide +kernel
theorem dX5_isFactorSign_9 : decode cX5_isFactorSign 9 = .ok (.ifCond .ne 27, 3) := by decide +kernel
theorem dX5_isFactorSign_12 : decode cX5_isFactorSign 12 = .ok (.aload_n 0, 1) := by decide +kernel
theorem dX5_isFactorSign_13 : decode cX5_isFactorSign 13 = .ok (.getfield 12, 3) := by decide +kernel
theorem dX5_isFactorSign_16 : decode cX5_isFactorSign 16 = .ok (.bipush 47, 2) := by decide +kernel
theorem dX5_isFactorSign_18 : decode cX5_isFactorSign 18 = .ok (.invokevirtual 163, 3) := by decide +kernel
theorem dX5_isFactorSign_21 : decode cX5_isFactorSign 21 = .ok (.ifCond .ne 15, 3) := by decide +kernel
theorem dX5_isFactorSign_24 : decode cX5_isFactorSign 24 = .ok (.aload_n 0, 1) := by decide +kernel
theorem dX5_isFactorSign_25 : decode cX5_isFactorSign 25 = .ok (.getfield 12, 3) := by decide +kernel
theorem dX5_isFactorSign_28 : decode cX5_isFactorSign 28 = .ok (.bipush 37, 2) := by decide +kernel
theorem dX5_isFactorSign_30 : decode cX5_isFactorSign 30 = .ok (.invokevirtual 163, 3) := by decide +kernel
theorem dX5_isFactorSign_33 : decode cX5_isFactorSign 33 = .ok (.ifCond .eq 7, 3) := by decide +kernel
theorem dX5_isFactorSign_36 : decode cX5_isFactorSign 36 = .ok (.iconst 1, 1) := by decide +kernel
theorem dX5_isFactorSign_37 : decode cX5_isFactorSign 37 = .ok (.goto 4, 3) := by decide +kernel
theorem dX5_isFactorSign_40 : decode cX5_isFactorSign 40 = .ok (.iconst 0, 1) := by decide +kernel
theorem dX5_isFactorSign_41 : decode cX5_isFactorSign 41 = .ok (.ireturn, 1) := by decide +kernel
theorem dX5_takeName_0 : decode cX5_takeName 0 = .ok (.aload_n 0, 1) := by decide +kernel
theorem dX5_takeName_1 : decode cX5_takeName 1 = .ok (.getfield 12, 3) := by decide +kernel
theorem dX5_takeName_4 : decode cX5_takeName 4 = .ok (.invokevirtual 184, 3) := by decide +kernel
theorem dX5_takeName_7 : decode cX5_takeName 7 = .ok (.ifCond .ne 9, 3) := by decide +kernel
theorem dX5_takeName_10 : decode cX5_takeName 10 = .ok (.aload_n 0, 1) := by decide +kernel
theorem dX5_takeName_11 : decode cX5_takeName 11 = .ok (.iconst 2, 1) := by decide +kernel
theorem dX5_takeName_12 : decode cX5_takeName 12 = .ok (.invokevirtual 64, 3) := by decide +kernel
theorem dX5_takeName_15 : decode cX5_takeName 15 = .ok (.ireturn, 1) := by decide +kernel
theorem dX5_takeName_16 : decode cX5_takeName 16 = .ok (.iconst 0, 1) := by decide +kernel
theorem dX5_takeName_17 : decode cX5_takeName 17 = .ok (.istore_n 3, 1) := by decide +kernel
theorem dX5_takeName_18 : decode cX5_takeName 18 = .ok (.iload_n 3, 1) := by decide +kernel
theorem dX5_takeName_19 : decode cX5_takeName 19 = .ok (.iload_n 2, 1) := by decide +kernel
theorem dX5_takeName_20 : decode cX5_takeName 20 = .ok (.if_icmp .ge 35, 3) := by decide +kernel
theorem dX5_takeName_23 : decode cX5_takeName 23 = .ok (.iload_n 3, 1) := by decide +kernel
theorem dX5_takeName_24 : decode cX5_takeName 24 = .ok (.aload_n 1, 1) := by decide +kernel
theorem dX5_takeName_25 : decode cX5_takeName 25 = .ok (.arraylength, 1) := by decide +kernel
theorem dX5_takeName_26 : decode cX5_takeName 26 = .ok (.if_icmp .ge 29, 3) := by decide +kernel
theorem dX5_takeName_29 : decode cX5_takeName 29 = .ok (.aload_n 1, 1) := by decide +kernel
theorem dX5_takeName_30 : decode cX5_takeName 30 = .ok (.iload_n 3, 1) := by decide +kernel
theorem dX5_takeName_31 : decode cX5_takeName 31 = .ok (.laload, 1) := by decide +kernel
theorem dX5_takeName_32 : decode cX5_takeName 32 = .ok (.aload_n 0, 1) := by decide +kernel
theorem dX5_takeName_33 : decode cX5_takeName 33 = .ok (.getfield 12, 3) := by decide +kernel
theorem dX5_takeName_36 : decode cX5_takeName 36 = .ok (.getfield 187, 3) := by decide +kernel
theorem dX5_takeName_39 : decode cX5_takeName 39 = .ok (.lcmp, 1) := by decide +kernel
theorem dX5_takeName_40 : decode cX5_takeName 40 = .ok (.ifCond .ne 9, 3) := by decide +kernel
theorem dX5_takeName_43 : decode cX5_takeName 43 = .ok (.aload_n 0, 1) := by decide +kernel
theorem dX5_takeName_44 : decode cX5_takeName 44 = .ok (.iconst 3, 1) := by decide +kernel
theorem dX5_takeName_45 : decode cX5_takeName 45 = .ok (.invokevirtual 64, 3) := by decide +kernel
theorem dX5_takeName_48 : decode cX5_takeName 48 = .ok (.ireturn, 1) := by decide +kernel
theorem dX5_takeName_49 : decode cX5_takeName 49 = .ok (.iinc 3 1, 3) := by decide +kernel
theorem dX5_takeName_52 : decode cX5_takeName 52 = .ok (.goto (-34), 3) := by decide +kernel
theorem dX5_takeName_55 : decode cX5_takeName 55 = .ok (.iload_n 2, 1) := by decide +kernel
theorem dX5_takeName_56 : decode cX5_takeName 56 = .ok (.aload_n 1, 1) := by decide +kernel
theorem dX5_takeName_57 : decode cX5_takeName 57 = .ok (.arraylength, 1) := by decide +kernel
theorem dX5_takeName_58 : decode cX5_takeName 58 = .ok (.if_icmp .ge 13, 3) := by decide +kernel
theorem dX5_takeName_61 : decode cX5_takeName 61 = .ok (.aload_n 1, 1) := by decide +kernel
theorem dX5_takeName_62 : decode cX5_takeName 62 = .ok (.iload_n 2, 1) := by decide +kernel
theorem dX5_takeName_63 : decode cX5_takeName 63 = .ok (.aload_n 0, 1) := by decide +kernel
theorem dX5_takeName_64 : decode cX5_takeName 64 = .ok (.getfield 12, 3) := by decide +kernel
theorem dX5_takeName_67 : decode cX5_takeName 67 = .ok (.getfield 187, 3) := by decide +kernel
theorem dX5_takeName_70 : decode cX5_takeName 70 = .ok (.lastore, 1) := by decide +kernel
theorem dX5_takeName_71 : decode cX5_takeName 71 = .ok (.aload_n 0, 1) := by decide +kernel
theorem dX5_takeName_72 : decode cX5_takeName 72 = .ok (.getfield 12, 3) := by decide +kernel
theorem dX5_takeName_75 : decode cX5_takeName 75 = .ok (.invokevirtual 71, 3) := by decide +kernel
theorem dX5_takeName_78 : decode cX5_takeName 78 = .ok (.iconst 1, 1) := by decide +kernel
theorem dX5_takeName_79 : decode cX5_takeName 79 = .ok (.ireturn, 1) := by decide +kernel
theorem dX5_takeTold_0 : decode cX5_takeTold 0 = .ok (.aload_n 0, 1) := by decide +kernel
theorem dX5_takeTold_1 : decode cX5_takeTold 1 = .ok (.getfield 12, 3) := by decide +kernel
theorem dX5_takeTold_4 : decode cX5_takeTold 4 = .ok (.iload_n 1, 1) := by decide +kernel
theorem dX5_takeTold_5 : decode cX5_takeTold 5 = .ok (.invokevirtual 93, 3) := by decide +kernel
theorem dX5_takeTold_8 : decode cX5_takeTold 8 = .ok (.ifCond .ne 9, 3) := by decide +kernel
theorem dX5_takeTold_11 : decode cX5_takeTold 11 = .ok (.aload_n 0, 1) := by decide +kernel
theorem dX5_takeTold_12 : decode cX5_takeTold 12 = .ok (.iconst 2, 1) := by decide +kernel
theorem dX5_takeTold_13 : decode cX5_takeTold 13 = .ok (.invokevirtual 64, 3) := by decide +kernel
theorem dX5_takeTold_16 : decode cX5_takeTold 16 = .ok (.ireturn, 1) := by decide +kernel
theorem dX5_takeTold_17 : decode cX5_takeTold 17 = .ok (.aload_n 0, 1) := by decide +kernel
theorem dX5_takeTold_18 : decode cX5_takeTold 18 = .ok (.getfield 12, 3) := by decide +kernel
theorem dX5_takeTold_21 : decode cX5_takeTold 21 = .ok (.invokevirtual 71, 3) := by decide +kernel
theorem dX5_takeTold_24 : decode cX5_takeTold 24 = .ok (.aload_n 0, 1) := by decide +kernel
theorem dX5_takeTold_25 : decode cX5_takeTold 25 = .ok (.getfield 12, 3) := by decide +kernel
theorem dX5_takeTold_28 : decode cX5_takeTold 28 = .ok (.getfield 37, 3) := by decide +kernel
theorem dX5_takeTold_31 : decode cX5_takeTold 31 = .ok (.iconst 2, 1) := by decide +kernel
theorem dX5_takeTold_32 : decode cX5_takeTold 32 = .ok (.if_icmp .eq 9, 3) := by decide +kernel
theorem dX5_takeTold_35 : decode cX5_takeTold 35 = .ok (.aload_n 0, 1) := by decide +kernel
theorem dX5_takeTold_36 : decode cX5_takeTold 36 = .ok (.iconst 2, 1) := by decide +kernel
theorem dX5_takeTold_37 : decode cX5_takeTold 37 = .ok (.invokevirtual 64, 3) := by decide +kernel
theorem dX5_takeTold_40 : decode cX5_takeTold 40 = .ok (.ireturn, 1) := by decide +kernel
theorem dX5_takeTold_41 : decode cX5_takeTold 41 = .ok (.aload_n 0, 1) := by decide +kernel
theorem dX5_takeTold_42 : decode cX5_takeTold 42 = .ok (.getfield 12, 3) := by decide +kernel
theorem dX5_takeTold_45 : decode cX5_takeTold 45 = .ok (.getfield 183, 3) := by decide +kernel
theorem dX5_takeTold_48 : decode cX5_takeTold 48 = .ok (.iload_n 2, 1) := by decide +kernel
theorem dX5_takeTold_49 : decode cX5_takeTold 49 = .ok (.if_icmp .lt 14, 3) := by decide +kernel
theorem dX5_takeTold_52 : decode cX5_takeTold 52 = .ok (.aload_n 0, 1) := by decide +kernel
theorem dX5_takeTold_53 : decode cX5_takeTold 53 = .ok (.getfield 12, 3) := by decide +kernel
theorem dX5_takeTold_56 : decode cX5_takeTold 56 = .ok (.getfield 183, 3) := by decide +kernel
theorem dX5_takeTold_59 : decode cX5_takeTold 59 = .ok (.iload_n 3, 1) := by decide +kernel
theorem dX5_takeTold_60 : decode cX5_takeTold 60 = .ok (.if_icmp .le 9, 3) := by decide +kernel
theorem dX5_takeTold_63 : decode cX5_takeTold 63 = .ok (.aload_n 0, 1) := by decide +kernel
theorem dX5_takeTold_64 : decode cX5_takeTold 64 = .ok (.iconst 4, 1) := by decide +kernel
theorem dX5_takeTold_65 : decode cX5_takeTold 65 = .ok (.invokevirtual 64, 3) := by decide +kernel
theorem dX5_takeTold_68 : decode cX5_takeTold 68 = .ok (.ireturn, 1) := by decide +kernel
theorem dX5_takeTold_69 : decode cX5_takeTold 69 = .ok (.aload_n 0, 1) := by decide +kernel
theorem dX5_takeTold_70 : decode cX5_takeTold 70 = .ok (.aload_n 0, 1) := by decide +kernel
theorem dX5_takeTold_71 : decode cX5_takeTold 71 = .ok (.getfield 12, 3) := by decide +kernel
theorem dX5_takeTold_74 : decode cX5_takeTold 74 = .ok (.getfield 183, 3) := by decide +kernel
theorem dX5_takeTold_77 : decode cX5_takeTold 77 = .ok (.putfield 90, 3) := by decide +kernel
theorem dX5_takeTold_80 : decode cX5_takeTold 80 = .ok (.aload_n 0, 1) := by decide +kernel
theorem dX5_takeTold_81 : decode cX5_takeTold 81 = .ok (.getfield 12, 3) := by decide +kernel
theorem dX5_takeTold_84 : decode cX5_takeTold 84 = .ok (.invokevirtual 71, 3) := by decide +kernel
theorem dX5_takeTold_87 : decode cX5_takeTold 87 = .ok (.iconst 1, 1) := by decide +kernel
theorem dX5_takeTold_88 : decode cX5_takeTold 88 = .ok (.ireturn, 1) := by decide +kernel
theorem dX5_takeSign_0 : decode cX5_takeSign 0 = .ok (.aload_n 0, 1) := by decide +kernel
theorem dX5_takeSign_1 : decode cX5_takeSign 1 = .ok (.getfield 12, 3) := by decide +kernel
theorem dX5_takeSign_4 : decode cX5_takeSign 4 = .ok (.iload_n 1, 1) := by decide +kernel
theorem dX5_takeSign_5 : decode cX5_takeSign 5 = .ok (.invokevirtual 163, 3) := by decide +kernel
theorem dX5_takeSign_8 : decode cX5_takeSign 8 = .ok (.ifCond .ne 9, 3) := by decide +kernel
theorem dX5_takeSign_11 : decode cX5_takeSign 11 = .ok (.aload_n 0, 1) := by decide +kernel
theorem dX5_takeSign_12 : decode cX5_takeSign 12 = .ok (.iconst 2, 1) := by decide +kernel
theorem dX5_takeSign_13 : decode cX5_takeSign 13 = .ok (.invokevirtual 64, 3) := by decide +kernel
theorem dX5_takeSign_16 : decode cX5_takeSign 16 = .ok (.ireturn, 1) := by decide +kernel
theorem dX5_takeSign_17 : decode cX5_takeSign 17 = .ok (.aload_n 0, 1) := by decide +kernel
theorem dX5_takeSign_18 : decode cX5_takeSign 18 = .ok (.getfield 12, 3) := by decide +kernel
theorem dX5_takeSign_21 : decode cX5_takeSign 21 = .ok (.invokevirtual 71, 3) := by decide +kernel
theorem dX5_takeSign_24 : decode cX5_takeSign 24 = .ok (.iconst 1, 1) := by decide +kernel
theorem dX5_takeSign_25 : decode cX5_takeSign 25 = .ok (.ireturn, 1) := by decide +kernel
theorem dX5_refuse_0 : decode cX5_refuse 0 = .ok (.aload_n 0, 1) := by decide +kernel
theorem dX5_refuse_1 : decode cX5_refuse 1 = .ok (.aload_n 0, 1) := by decide +kernel
theorem dX5_refuse_2 : decode cX5_refuse 2 = .ok (.getfield 12, 3) := by decide +kernel
theorem dX5_refuse_5 : decode cX5_refuse 5 = .ok (.getfield 37, 3) := by decide +kernel
theorem dX5_refuse_8 : decode cX5_refuse 8 = .ok (.iconst 4, 1) := by decide +kernel
theorem dX5_refuse_9 : decode cX5_refuse 9 = .ok (.if_icmp .ne 7, 3) := by decide +kernel
theorem dX5_refuse_12 : decode cX5_refuse 12 = .ok (.iconst 1, 1) := by decide +kernel
theorem dX5_refuse_13 : decode cX5_refuse 13 = .ok (.goto 4, 3) := by decide +kernel
theorem dX5_refuse_16 : decode cX5_refuse 16 = .ok (.iload_n 1, 1) := by decide +kernel
theorem dX5_refuse_17 : decode cX5_refuse 17 = .ok (.putfield 22, 3) := by decide +kernel
theorem dX5_refuse_20 : decode cX5_refuse 20 = .ok (.aload_n 0, 1) := by decide +kernel
theorem dX5_refuse_21 : decode cX5_refuse 21 = .ok (.aload_n 0, 1) := by decide +kernel
theorem dX5_refuse_22 : decode cX5_refuse 22 = .ok (.getfield 12, 3) := by decide +kernel
theorem dX5_refuse_25 : decode cX5_refuse 25 = .ok (.getfield 191, 3) := by decide +kernel
theorem dX5_refuse_28 : decode cX5_refuse 28 = .ok (.putfield 18, 3) := by decide +kernel
theorem dX5_refuse_31 : decode cX5_refuse 31 = .ok (.iconst 0, 1) := by decide +kernel
theorem dX5_refuse_32 : decode cX5_refuse 32 = .ok (.ireturn, 1) := by decide +kernel
theorem dX6_init_0 : decode cX6_init 0 = .ok (.aload_n 0, 1) := by decide +kernel
theorem dX6_init_1 : decode cX6_init 1 = .ok (.invokespecial 3, 3) := by decide +kernel
theorem dX6_init_4 : decode cX6_init 4 = .ok (.aload_n 0, 1) := by decide +kernel
theorem dX6_init_5 : decode cX6_init 5 = .ok (.new 9, 3) := by decide +kernel
theorem dX6_init_8 : decode cX6_init 8 = .ok (.dup, 1) := by decide +kernel
theorem dX6_init_9 : decode cX6_init 9 = .ok (.invokespecial 11, 3) := by decide +kernel
theorem dX6_init_12 : decode cX6_init 12 = .ok (.putfield 12, 3) := by decide +kernel
theorem dX6_init_15 : decode cX6_init 15 = .ok (.aload_n 0, 1) := by decide +kernel
theorem dX6_init_16 : decode cX6_init 16 = .ok (.bipush 30, 2) := by decide +kernel
theorem dX6_init_18 : decode cX6_init 18 = .ok (.newarray .int, 2) := by decide +kernel
theorem dX6_init_20 : decode cX6_init 20 = .ok (.putfield 18, 3) := by decide +kernel
theorem dX6_init_23 : decode cX6_init 23 = .ok (.aload_n 0, 1) := by decide +kernel
theorem dX6_init_24 : decode cX6_init 24 = .ok (.bipush 30, 2) := by decide +kernel
