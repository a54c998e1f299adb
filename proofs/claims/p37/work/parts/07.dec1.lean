theorem dX6_init_26 : decode cX6_init 26 = .ok (.newarray .int, 2) := by decide +kernel
theorem dX6_init_28 : decode cX6_init 28 = .ok (.putfield 22, 3) := by decide +kernel
theorem dX6_init_31 : decode cX6_init 31 = .ok (.aload_n 0, 1) := by decide +kernel
theorem dX6_init_32 : decode cX6_init 32 = .ok (.bipush 30, 2) := by decide +kernel
theorem dX6_init_34 : decode cX6_init 34 = .ok (.newarray .boolean, 2) := by decide +kernel
theorem dX6_init_36 : decode cX6_init 36 = .ok (.putfield 25, 3) := by decide +kernel
theorem dX6_init_39 : decode cX6_init 39 = .ok (.aload_n 0, 1) := by decide +kernel
theorem dX6_init_40 : decode cX6_init 40 = .ok (.bipush 30, 2) := by decide +kernel
theorem dX6_init_42 : decode cX6_init 42 = .ok (.newarray .int, 2) := by decide +kernel
theorem dX6_init_44 : decode cX6_init 44 = .ok (.putfield 29, 3) := by decide +kernel
theorem dX6_init_47 : decode cX6_init 47 = .ok (.aload_n 0, 1) := by decide +kernel
theorem dX6_init_48 : decode cX6_init 48 = .ok (.bipush 30, 2) := by decide +kernel
theorem dX6_init_50 : decode cX6_init 50 = .ok (.newarray .int, 2) := by decide +kernel
theorem dX6_init_52 : decode cX6_init 52 = .ok (.putfield 32, 3) := by decide +kernel
theorem dX6_init_55 : decode cX6_init 55 = .ok (.aload_n 0, 1) := by decide +kernel
theorem dX6_init_56 : decode cX6_init 56 = .ok (.bipush 30, 2) := by decide +kernel
theorem dX6_init_58 : decode cX6_init 58 = .ok (.newarray .boolean, 2) := by decide +kernel
theorem dX6_init_60 : decode cX6_init 60 = .ok (.putfield 35, 3) := by decide +kernel
theorem dX6_init_63 : decode cX6_init 63 = .ok (.aload_n 0, 1) := by decide +kernel
theorem dX6_init_64 : decode cX6_init 64 = .ok (.sipush 909, 3) := by decide +kernel
theorem dX6_init_67 : decode cX6_init 67 = .ok (.newarray .int, 2) := by decide +kernel
theorem dX6_init_69 : decode cX6_init 69 = .ok (.putfield 38, 3) := by decide +kernel
theorem dX6_init_72 : decode cX6_init 72 = .ok (.aload_n 0, 1) := by decide +kernel
theorem dX6_init_73 : decode cX6_init 73 = .ok (.bipush 101, 2) := by decide +kernel
theorem dX6_init_75 : decode cX6_init 75 = .ok (.newarray .boolean, 2) := by decide +kernel
theorem dX6_init_77 : decode cX6_init 77 = .ok (.putfield 41, 3) := by decide +kernel
theorem dX6_init_80 : decode cX6_init 80 = .ok (.aload_n 0, 1) := by decide +kernel
theorem dX6_init_81 : decode cX6_init 81 = .ok (.bipush 32, 2) := by decide +kernel
theorem dX6_init_83 : decode cX6_init 83 = .ok (.newarray .int, 2) := by decide +kernel
theorem dX6_init_85 : decode cX6_init 85 = .ok (.putfield 44, 3) := by decide +kernel
theorem dX6_init_88 : decode cX6_init 88 = .ok (.aload_n 0, 1) := by decide +kernel
theorem dX6_init_89 : decode cX6_init 89 = .ok (.aload_n 1, 1) := by decide +kernel
theorem dX6_init_90 : decode cX6_init 90 = .ok (.putfield 47, 3) := by decide +kernel
theorem dX6_init_93 : decode cX6_init 93 = .ok (.return_, 1) := by decide +kernel
theorem dX6_clear_0 : decode cX6_clear 0 = .ok (.aload_n 0, 1) := by decide +kernel
theorem dX6_clear_1 : decode cX6_clear 1 = .ok (.iconst 0, 1) := by decide +kernel
theorem dX6_clear_2 : decode cX6_clear 2 = .ok (.putfield 51, 3) := by decide +kernel
theorem dX6_clear_5 : decode cX6_clear 5 = .ok (.aload_n 0, 1) := by decide +kernel
theorem dX6_clear_6 : decode cX6_clear 6 = .ok (.iconst 0, 1) := by decide +kernel
theorem dX6_clear_7 : decode cX6_clear 7 = .ok (.putfield 55, 3) := by decide +kernel
theorem dX6_clear_10 : decode cX6_clear 10 = .ok (.return_, 1) := by decide +kernel
theorem dX6_add_0 : decode cX6_add 0 = .ok (.aload_n 0, 1) := by decide +kernel
theorem dX6_add_1 : decode cX6_add 1 = .ok (.getfield 51, 3) := by decide +kernel
theorem dX6_add_4 : decode cX6_add 4 = .ok (.bipush 30, 2) := by decide +kernel
theorem dX6_add_6 : decode cX6_add 6 = .ok (.if_icmp .lt 5, 3) := by decide +kernel
theorem dX6_add_9 : decode cX6_add 9 = .ok (.iconst (-1), 1) := by decide +kernel
theorem dX6_add_10 : decode cX6_add 10 = .ok (.ireturn, 1) := by decide +kernel
theorem dX6_add_11 : decode cX6_add 11 = .ok (.aload_n 0, 1) := by decide +kernel
theorem dX6_add_12 : decode cX6_add 12 = .ok (.getfield 18, 3) := by decide +kernel
theorem dX6_add_15 : decode cX6_add 15 = .ok (.aload_n 0, 1) := by decide +kernel
theorem dX6_add_16 : decode cX6_add 16 = .ok (.getfield 51, 3) := by decide +kernel
theorem dX6_add_19 : decode cX6_add 19 = .ok (.iload_n 1, 1) := by decide +kernel
theorem dX6_add_20 : decode cX6_add 20 = .ok (.iastore, 1) := by decide +kernel
theorem dX6_add_21 : decode cX6_add 21 = .ok (.aload_n 0, 1) := by decide +kernel
theorem dX6_add_22 : decode cX6_add 22 = .ok (.getfield 22, 3) := by decide +kernel
theorem dX6_add_25 : decode cX6_add 25 = .ok (.aload_n 0, 1) := by decide +kernel
theorem dX6_add_26 : decode cX6_add 26 = .ok (.getfield 51, 3) := by decide +kernel
theorem dX6_add_29 : decode cX6_add 29 = .ok (.iload_n 2, 1) := by decide +kernel
theorem dX6_add_30 : decode cX6_add 30 = .ok (.iastore, 1) := by decide +kernel
theorem dX6_add_31 : decode cX6_add 31 = .ok (.aload_n 0, 1) := by decide +kernel
theorem dX6_add_32 : decode cX6_add 32 = .ok (.getfield 25, 3) := by decide +kernel
theorem dX6_add_35 : decode cX6_add 35 = .ok (.aload_n 0, 1) := by decide +kernel
theorem dX6_add_36 : decode cX6_add 36 = .ok (.getfield 51, 3) := by decide +kernel
theorem dX6_add_39 : decode cX6_add 39 = .ok (.iload_n 3, 1) := by decide +kernel
theorem dX6_add_40 : decode cX6_add 40 = .ok (.bastore, 1) := by decide +kernel
theorem dX6_add_41 : decode cX6_add 41 = .ok (.aload_n 0, 1) := by decide +kernel
theorem dX6_add_42 : decode cX6_add 42 = .ok (.getfield 29, 3) := by decide +kernel
theorem dX6_add_45 : decode cX6_add 45 = .ok (.aload_n 0, 1) := by decide +kernel
theorem dX6_add_46 : decode cX6_add 46 = .ok (.getfield 51, 3) := by decide +kernel
theorem dX6_add_49 : decode cX6_add 49 = .ok (.iload 4, 2) := by decide +kernel
theorem dX6_add_51 : decode cX6_add 51 = .ok (.iastore, 1) := by decide +kernel
theorem dX6_add_52 : decode cX6_add 52 = .ok (.aload_n 0, 1) := by decide +kernel
theorem dX6_add_53 : decode cX6_add 53 = .ok (.getfield 35, 3) := by decide +kernel
theorem dX6_add_56 : decode cX6_add 56 = .ok (.aload_n 0, 1) := by decide +kernel
theorem dX6_add_57 : decode cX6_add 57 = .ok (.getfield 51, 3) := by decide +kernel
theorem dX6_add_60 : decode cX6_add 60 = .ok (.iconst 0, 1) := by decide +kernel
theorem dX6_add_61 : decode cX6_add 61 = .ok (.bastore, 1) := by decide +kernel
theorem dX6_add_62 : decode cX6_add 62 = .ok (.aload_n 0, 1) := by decide +kernel
theorem dX6_add_63 : decode cX6_add 63 = .ok (.dup, 1) := by decide +kernel
theorem dX6_add_64 : decode cX6_add 64 = .ok (.getfield 51, 3) := by decide +kernel
theorem dX6_add_67 : decode cX6_add 67 = .ok (.iconst 1, 1) := by decide +kernel
theorem dX6_add_68 : decode cX6_add 68 = .ok (.iadd, 1) := by decide +kernel
theorem dX6_add_69 : decode cX6_add 69 = .ok (.putfield 51, 3) := by decide +kernel
theorem dX6_add_72 : decode cX6_add 72 = .ok (.aload_n 0, 1) := by decide +kernel
theorem dX6_add_73 : decode cX6_add 73 = .ok (.getfield 51, 3) := by decide +kernel
theorem dX6_add_76 : decode cX6_add 76 = .ok (.iconst 1, 1) := by decide +kernel
theorem dX6_add_77 : decode cX6_add 77 = .ok (.isub, 1) := by decide +kernel
theorem dX6_add_78 : decode cX6_add 78 = .ok (.ireturn, 1) := by decide +kernel
theorem dX6_takeBack_0 : decode cX6_takeBack 0 = .ok (.iload_n 1, 1) := by decide +kernel
theorem dX6_takeBack_1 : decode cX6_takeBack 1 = .ok (.ifCond .lt 20, 3) := by decide +kernel
theorem dX6_takeBack_4 : decode cX6_takeBack 4 = .ok (.iload_n 1, 1) := by decide +kernel
theorem dX6_takeBack_5 : decode cX6_takeBack 5 = .ok (.aload_n 0, 1) := by decide +kernel
theorem dX6_takeBack_6 : decode cX6_takeBack 6 = .ok (.getfield 51, 3) := by decide +kernel
theorem dX6_takeBack_9 : decode cX6_takeBack 9 = .ok (.if_icmp .ge 12, 3) := by decide +kernel
theorem dX6_takeBack_12 : decode cX6_takeBack 12 = .ok (.aload_n 0, 1) := by decide +kernel
theorem dX6_takeBack_13 : decode cX6_takeBack 13 = .ok (.getfield 35, 3) := by decide +kernel
theorem dX6_takeBack_16 : decode cX6_takeBack 16 = .ok (.iload_n 1, 1) := by decide +kernel
theorem dX6_takeBack_17 : decode cX6_takeBack 17 = .ok (.baload, 1) := by decide +kernel
theorem dX6_takeBack_18 : decode cX6_takeBack 18 = .ok (.ifCond .eq 5, 3) := by decide +kernel
theorem dX6_takeBack_21 : decode cX6_takeBack 21 = .ok (.iconst 0, 1) := by decide +kernel
theorem dX6_takeBack_22 : decode cX6_takeBack 22 = .ok (.ireturn, 1) := by decide +kernel
theorem dX6_takeBack_23 : decode cX6_takeBack 23 = .ok (.aload_n 0, 1) := by decide +kernel
theorem dX6_takeBack_24 : decode cX6_takeBack 24 = .ok (.getfield 35, 3) := by decide +kernel
theorem dX6_takeBack_27 : decode cX6_takeBack 27 = .ok (.iload_n 1, 1) := by decide +kernel
theorem dX6_takeBack_28 : decode cX6_takeBack 28 = .ok (.iconst 1, 1) := by decide +kernel
theorem dX6_takeBack_29 : decode cX6_takeBack 29 = .ok (.bastore, 1) := by decide +kernel
theorem dX6_takeBack_30 : decode cX6_takeBack 30 = .ok (.aload_n 0, 1) := by decide +kernel
theorem dX6_takeBack_31 : decode cX6_takeBack 31 = .ok (.getfield 32, 3) := by decide +kernel
theorem dX6_takeBack_34 : decode cX6_takeBack 34 = .ok (.iload_n 1, 1) := by decide +kernel
theorem dX6_takeBack_35 : decode cX6_takeBack 35 = .ok (.iload_n 2, 1) := by decide +kernel
theorem dX6_takeBack_36 : decode cX6_takeBack 36 = .ok (.iastore, 1) := by decide +kernel
theorem dX6_takeBack_37 : decode cX6_takeBack 37 = .ok (.iconst 1, 1) := by decide +kernel
theorem dX6_takeBack_38 : decode cX6_takeBack 38 = .ok (.ireturn, 1) := by decide +kernel
theorem dX6_countFitting_0 : decode cX6_countFitting 0 = .ok (.aload_n 0, 1) := by decide +kernel
theorem dX6_countFitting_1 : decode cX6_countFitting 1 = .ok (.getfield 47, 3) := by decide +kernel
theorem dX6_countFitting_4 : decode cX6_countFitting 4 = .ok (.getfield 59, 3) := by decide +kernel
theorem dX6_countFitting_7 : decode cX6_countFitting 7 = .ok (.getfield 65, 3) := by decide +kernel
theorem dX6_countFitting_10 : decode cX6_countFitting 10 = .ok (.ifCond .ne 5, 3) := by decide +kernel
theorem dX6_countFitting_13 : decode cX6_countFitting 13 = .ok (.iconst 0, 1) := by decide +kernel
theorem dX6_countFitting_14 : decode cX6_countFitting 14 = .ok (.ireturn, 1) := by decide +kernel
theorem dX6_countFitting_15 : decode cX6_countFitting 15 = .ok (.aload_n 0, 1) := by decide +kernel
theorem dX6_countFitting_16 : decode cX6_countFitting 16 = .ok (.invokevirtual 69, 3) := by decide +kernel
theorem dX6_countFitting_19 : decode cX6_countFitting 19 = .ok (.iconst 0, 1) := by decide +kernel
theorem dX6_countFitting_20 : decode cX6_countFitting 20 = .ok (.istore_n 2, 1) := by decide +kernel
theorem dX6_countFitting_21 : decode cX6_countFitting 21 = .ok (.iconst 0, 1) := by decide +kernel
theorem dX6_countFitting_22 : decode cX6_countFitting 22 = .ok (.istore_n 3, 1) := by decide +kernel
theorem dX6_countFitting_23 : decode cX6_countFitting 23 = .ok (.iload_n 3, 1) := by decide +kernel
theorem dX6_countFitting_24 : decode cX6_countFitting 24 = .ok (.bipush 100, 2) := by decide +kernel
theorem dX6_countFitting_26 : decode cX6_countFitting 26 = .ok (.if_icmp .gt 33, 3) := by decide +kernel
theorem dX6_countFitting_29 : decode cX6_countFitting 29 = .ok (.aload_n 0, 1) := by decide +kernel
theorem dX6_countFitting_30 : decode cX6_countFitting 30 = .ok (.getfield 41, 3) := by decide +kernel
theorem dX6_countFitting_33 : decode cX6_countFitting 33 = .ok (.iload_n 3, 1) := by decide +kernel
theorem dX6_countFitting_34 : decode cX6_countFitting 34 = .ok (.aload_n 0, 1) := by decide +kernel
theorem dX6_countFitting_35 : decode cX6_countFitting 35 = .ok (.iload_n 3, 1) := by decide +kernel
theorem dX6_countFitting_36 : decode cX6_countFitting 36 = .ok (.iload_n 1, 1) := by decide +kernel
theorem dX6_countFitting_37 : decode cX6_countFitting 37 = .ok (.invokevirtual 72, 3) := by decide +kernel
theorem dX6_countFitting_40 : decode cX6_countFitting 40 = .ok (.bastore, 1) := by decide +kernel
theorem dX6_countFitting_41 : decode cX6_countFitting 41 = .ok (.aload_n 0, 1) := by decide +kernel
theorem dX6_countFitting_42 : decode cX6_countFitting 42 = .ok (.getfield 41, 3) := by decide +kernel
theorem dX6_countFitting_45 : decode cX6_countFitting 45 = .ok (.iload_n 3, 1) := by decide +kernel
theorem dX6_countFitting_46 : decode cX6_countFitting 46 = .ok (.baload, 1) := by decide +kernel
theorem dX6_countFitting_47 : decode cX6_countFitting 47 = .ok (.ifCond .eq 6, 3) := by decide +kernel
theorem dX6_countFitting_50 : decode cX6_countFitting 50 = .ok (.iinc 2 1, 3) := by decide +kernel
theorem dX6_countFitting_53 : decode cX6_countFitting 53 = .ok (.iinc 3 1, 3) := by decide +kernel
theorem dX6_countFitting_56 : decode cX6_countFitting 56 = .ok (.goto (-33), 3) := by decide +kernel
theorem dX6_countFitting_59 : decode cX6_countFitting 59 = .ok (.iload_n 2, 1) := by decide +kernel
theorem dX6_countFitting_60 : decode cX6_countFitting 60 = .ok (.ireturn, 1) := by decide +kernel
theorem dX6_leastFitting_0 : decode cX6_leastFitting 0 = .ok (.aload_n 0, 1) := by decide +kernel
theorem dX6_leastFitting_1 : decode cX6_leastFitting 1 = .ok (.iload_n 1, 1) := by decide +kernel
theorem dX6_leastFitting_2 : decode cX6_leastFitting 2 = .ok (.invokevirtual 76, 3) := by decide +kernel
theorem dX6_leastFitting_5 : decode cX6_leastFitting 5 = .ok (.ifCond .ne 5, 3) := by decide +kernel
theorem dX6_leastFitting_8 : decode cX6_leastFitting 8 = .ok (.iconst (-1), 1) := by decide +kernel
theorem dX6_leastFitting_9 : decode cX6_leastFitting 9 = .ok (.ireturn, 1) := by decide +kernel
theorem dX6_leastFitting_10 : decode cX6_leastFitting 10 = .ok (.iconst 0, 1) := by decide +kernel
theorem dX6_leastFitting_11 : decode cX6_leastFitting 11 = .ok (.istore_n 2, 1) := by decide +kernel
theorem dX6_leastFitting_12 : decode cX6_leastFitting 12 = .ok (.iload_n 2, 1) := by decide +kernel
theorem dX6_leastFitting_13 : decode cX6_leastFitting 13 = .ok (.bipush 100, 2) := by decide +kernel
theorem dX6_leastFitting_15 : decode cX6_leastFitting 15 = .ok (.if_icmp .ge 18, 3) := by decide +kernel
theorem dX6_leastFitting_18 : decode cX6_leastFitting 18 = .ok (.aload_n 0, 1) := by decide +kernel
theorem dX6_leastFitting_19 : decode cX6_leastFitting 19 = .ok (.getfield 41, 3) := by decide +kernel
theorem dX6_leastFitting_22 : decode cX6_leastFitting 22 = .ok (.iload_n 2, 1) := by decide +kernel
theorem dX6_leastFitting_23 : decode cX6_leastFitting 23 = .ok (.baload, 1) := by decide +kernel
theorem dX6_leastFitting_24 : decode cX6_leastFitting 24 = .ok (.ifCond .ne 9, 3) := by decide +kernel
theorem dX6_leastFitting_27 : decode cX6_leastFitting 27 = .ok (.iinc 2 1, 3) := by decide +kernel
theorem dX6_leastFitting_30 : decode cX6_leastFitting 30 = .ok (.goto (-18), 3) := by decide +kernel
theorem dX6_leastFitting_33 : decode cX6_leastFitting 33 = .ok (.iload_n 2, 1) := by decide +kernel
theorem dX6_leastFitting_34 : decode cX6_leastFitting 34 = .ok (.ireturn, 1) := by decide +kernel
theorem dX6_greatestFitting_0 : decode cX6_greatestFitting 0 = .ok (.aload_n 0, 1) := by decide +kernel
theorem dX6_greatestFitting_1 : decode cX6_greatestFitting 1 = .ok (.iload_n 1, 1) := by decide +kernel
theorem dX6_greatestFitting_2 : decode cX6_greatestFitting 2 = .ok (.invokevirtual 76, 3) := by decide +kernel
theorem dX6_greatestFitting_5 : decode cX6_greatestFitting 5 = .ok (.ifCond .ne 5, 3) := by decide +kernel
theorem dX6_greatestFitting_8 : decode cX6_greatestFitting 8 = .ok (.iconst (-1), 1) := by decide +kernel
theorem dX6_greatestFitting_9 : decode cX6_greatestFitting 9 = .ok (.ireturn, 1) := by decide +kernel
theorem dX6_greatestFitting_10 : decode cX6_greatestFitting 10 = .ok (.bipush 100, 2) := by decide +kernel
theorem dX6_greatestFitting_12 : decode cX6_greatestFitting 12 = .ok (.istore_n 2, 1) := by decide +kernel
theorem dX6_greatestFitting_13 : decode cX6_greatestFitting 13 = .ok (.iload_n 2, 1) := by decide +kernel
theorem dX6_greatestFitting_14 : decode cX6_greatestFitting 14 = .ok (.ifCond .le 18, 3) := by decide +kernel
theorem dX6_greatestFitting_17 : decode cX6_greatestFitting 17 = .ok (.aload_n 0, 1) := by decide +kernel
theorem dX6_greatestFitting_18 : decode cX6_greatestFitting 18 = .ok (.getfield 41, 3) := by decide +kernel
theorem dX6_greatestFitting_21 : decode cX6_greatestFitting 21 = .ok (.iload_n 2, 1) := by decide +kernel
theorem dX6_greatestFitting_22 : decode cX6_greatestFitting 22 = .ok (.baload, 1) := by decide +kernel
theorem dX6_greatestFitting_23 : decode cX6_greatestFitting 23 = .ok (.ifCond .ne 9, 3) := by decide +kernel
theorem dX6_greatestFitting_26 : decode cX6_greatestFitting 26 = .ok (.iinc 2 (-1), 3) := by decide +kernel
theorem dX6_greatestFitting_29 : decode cX6_greatestFitting 29 = .ok (.goto (-16), 3) := by decide +kernel
theorem dX6_greatestFitting_32 : decode cX6_greatestFitting 32 = .ok (.iload_n 2, 1) := by decide +kernel
theorem dX6_greatestFitting_33 : decode cX6_greatestFitting 33 = .ok (.ireturn, 1) := by decide +kernel
theorem dX6_nextToWatch_0 : decode cX6_nextToWatch 0 = .ok (.aload_n 0, 1) := by decide +kernel
theorem dX6_nextToWatch_1 : decode cX6_nextToWatch 1 = .ok (.iload_n 1, 1) := by decide +kernel
theorem dX6_nextToWatch_2 : decode cX6_nextToWatch 2 = .ok (.invokevirtual 76, 3) := by decide +kernel
theorem dX6_nextToWatch_5 : decode cX6_nextToWatch 5 = .ok (.ifCond .ne 5, 3) := by decide +kernel
theorem dX6_nextToWatch_8 : decode cX6_nextToWatch 8 = .ok (.iconst (-1), 1) := by decide +kernel
theorem dX6_nextToWatch_9 : decode cX6_nextToWatch 9 = .ok (.ireturn, 1) := by decide +kernel
theorem dX6_nextToWatch_10 : decode cX6_nextToWatch 10 = .ok (.iconst (-1), 1) := by decide +kernel
theorem dX6_nextToWatch_11 : decode cX6_nextToWatch 11 = .ok (.istore_n 3, 1) := by decide +kernel
theorem dX6_nextToWatch_12 : decode cX6_nextToWatch 12 = .ok (.bipush 102, 2) := by decide +kernel
theorem dX6_nextToWatch_14 : decode cX6_nextToWatch 14 = .ok (.istore 4, 2) := by decide +kernel
theorem dX6_nextToWatch_16 : decode cX6_nextToWatch 16 = .ok (.iconst 0, 1) := by decide +kernel
theorem dX6_nextToWatch_17 : decode cX6_nextToWatch 17 = .ok (.istore 5, 2) := by decide +kernel
theorem dX6_nextToWatch_19 : decode cX6_nextToWatch 19 = .ok (.iload 5, 2) := by decide +kernel
theorem dX6_nextToWatch_21 : decode cX6_nextToWatch 21 = .ok (.aload_n 0, 1) := by decide +kernel
theorem dX6_nextToWatch_22 : decode cX6_nextToWatch 22 = .ok (.getfield 47, 3) := by decide +kernel
theorem dX6_nextToWatch_25 : decode cX6_nextToWatch 25 = .ok (.getfield 59, 3) := by decide +kernel
theorem dX6_nextToWatch_28 : decode cX6_nextToWatch 28 = .ok (.getfield 80, 3) := by decide +kernel
theorem dX6_nextToWatch_31 : decode cX6_nextToWatch 31 = .ok (.if_icmp .gt 31, 3) := by decide +kernel
theorem dX6_nextToWatch_34 : decode cX6_nextToWatch 34 = .ok (.aload_n 0, 1) := by decide +kernel
theorem dX6_nextToWatch_35 : decode cX6_nextToWatch 35 = .ok (.iload 5, 2) := by decide +kernel
theorem dX6_nextToWatch_37 : decode cX6_nextToWatch 37 = .ok (.invokevirtual 82, 3) := by decide +kernel
theorem dX6_nextToWatch_40 : decode cX6_nextToWatch 40 = .ok (.istore 6, 2) := by decide +kernel
theorem dX6_nextToWatch_42 : decode cX6_nextToWatch 42 = .ok (.iload 6, 2) := by decide +kernel
theorem dX6_nextToWatch_44 : decode cX6_nextToWatch 44 = .ok (.iload 4, 2) := by decide +kernel
theorem dX6_nextToWatch_46 : decode cX6_nextToWatch 46 = .ok (.if_icmp .ge 10, 3) := by decide +kernel
theorem dX6_nextToWatch_49 : decode cX6_nextToWatch 49 = .ok (.iload 6, 2) := by decide +kernel
theorem dX6_nextToWatch_51 : decode cX6_nextToWatch 51 = .ok (.istore 4, 2) := by decide +kernel
theorem dX6_nextToWatch_53 : decode cX6_nextToWatch 53 = .ok (.iload 5, 2) := by decide +kernel
theorem dX6_nextToWatch_55 : decode cX6_nextToWatch 55 = .ok (.istore_n 3, 1) := by decide +kernel
theorem dX6_nextToWatch_56 : decode cX6_nextToWatch 56 = .ok (.iinc 5 1, 3) := by decide +kernel
theorem dX6_nextToWatch_59 : decode cX6_nextToWatch 59 = .ok (.goto (-40), 3) := by decide +kernel
theorem dX6_nextToWatch_62 : decode cX6_nextToWatch 62 = .ok (.iload_n 2, 1) := by decide +kernel
theorem dX6_nextToWatch_63 : decode cX6_nextToWatch 63 = .ok (.ifCond .eq 7, 3) := by decide +kernel
theorem dX6_nextToWatch_66 : decode cX6_nextToWatch 66 = .ok (.iload_n 3, 1) := by decide +kernel
theorem dX6_nextToWatch_67 : decode cX6_nextToWatch 67 = .ok (.goto 5, 3) := by decide +kernel
theorem dX6_nextToWatch_70 : decode cX6_nextToWatch 70 = .ok (.iload 4, 2) := by decide +kernel
theorem dX6_nextToWatch_72 : decode cX6_nextToWatch 72 = .ok (.ireturn, 1) := by decide +kernel
theorem dX6_fitsAll_0 : decode cX6_fitsAll 0 = .ok (.iconst 0, 1) := by decide +kernel
theorem dX6_fitsAll_1 : decode cX6_fitsAll 1 = .ok (.istore_n 3, 1) := by decide +kernel
theorem dX6_fitsAll_2 : decode cX6_fitsAll 2 = .ok (.iload_n 3, 1) := by decide +kernel
theorem dX6_fitsAll_3 : decode cX6_fitsAll 3 = .ok (.aload_n 0, 1) := by decide +kernel
theorem dX6_fitsAll_4 : decode cX6_fitsAll 4 = .ok (.getfield 51, 3) := by decide +kernel
theorem dX6_fitsAll_7 : decode cX6_fitsAll 7 = .ok (.if_icmp .ge 99, 3) := by decide +kernel
theorem dX6_fitsAll_10 : decode cX6_fitsAll 10 = .ok (.aload_n 0, 1) := by decide +kernel
theorem dX6_fitsAll_11 : decode cX6_fitsAll 11 = .ok (.getfield 29, 3) := by decide +kernel
theorem dX6_fitsAll_14 : decode cX6_fitsAll 14 = .ok (.iload_n 3, 1) := by decide +kernel
theorem dX6_fitsAll_15 : decode cX6_fitsAll 15 = .ok (.iaload, 1) := by decide +kernel
theorem dX6_fitsAll_16 : decode cX6_fitsAll 16 = .ok (.iload_n 2, 1) := by decide +kernel
theorem dX6_fitsAll_17 : decode cX6_fitsAll 17 = .ok (.if_icmp .gt 26, 3) := by decide +kernel
theorem dX6_fitsAll_20 : decode cX6_fitsAll 20 = .ok (.aload_n 0, 1) := by decide +kernel
theorem dX6_fitsAll_21 : decode cX6_fitsAll 21 = .ok (.getfield 35, 3) := by decide +kernel
theorem dX6_fitsAll_24 : decode cX6_fitsAll 24 = .ok (.iload_n 3, 1) := by decide +kernel
theorem dX6_fitsAll_25 : decode cX6_fitsAll 25 = .ok (.baload, 1) := by decide +kernel
theorem dX6_fitsAll_26 : decode cX6_fitsAll 26 = .ok (.ifCond .eq 13, 3) := by decide +kernel
theorem dX6_fitsAll_29 : decode cX6_fitsAll 29 = .ok (.aload_n 0, 1) := by decide +kernel
theorem dX6_fitsAll_30 : decode cX6_fitsAll 30 = .ok (.getfield 32, 3) := by decide +kernel
theorem dX6_fitsAll_33 : decode cX6_fitsAll 33 = .ok (.iload_n 3, 1) := by decide +kernel
theorem dX6_fitsAll_34 : decode cX6_fitsAll 34 = .ok (.iaload, 1) := by decide +kernel
theorem dX6_fitsAll_35 : decode cX6_fitsAll 35 = .ok (.iload_n 2, 1) := by decide +kernel
theorem dX6_fitsAll_36 : decode cX6_fitsAll 36 = .ok (.if_icmp .le 7, 3) := by decide +kernel
theorem dX6_fitsAll_39 : decode cX6_fitsAll 39 = .ok (.iconst 1, 1) := by decide +kernel
theorem dX6_fitsAll_40 : decode cX6_fitsAll 40 = .ok (.goto 4, 3) := by decide +kernel
theorem dX6_fitsAll_43 : decode cX6_fitsAll 43 = .ok (.iconst 0, 1) := by decide +kernel
theorem dX6_fitsAll_44 : decode cX6_fitsAll 44 = .ok (.istore 4, 2) := by decide +kernel
theorem dX6_fitsAll_46 : decode cX6_fitsAll 46 = .ok (.aload_n 0, 1) := by decide +kernel
theorem dX6_fitsAll_47 : decode cX6_fitsAll 47 = .ok (.getfield 38, 3) := by decide +kernel
theorem dX6_fitsAll_50 : decode cX6_fitsAll 50 = .ok (.iload_n 1, 1) := by decide +kernel
theorem dX6_fitsAll_51 : decode cX6_fitsAll 51 = .ok (.bipush 9, 2) := by decide +kernel
theorem dX6_fitsAll_53 : decode cX6_fitsAll 53 = .ok (.imul, 1) := by decide +kernel
theorem dX6_fitsAll_54 : decode cX6_fitsAll 54 = .ok (.aload_n 0, 1) := by decide +kernel
theorem dX6_fitsAll_55 : decode cX6_fitsAll 55 = .ok (.getfield 18, 3) := by decide +kernel
theorem dX6_fitsAll_58 : decode cX6_fitsAll 58 = .ok (.iload_n 3, 1) := by decide +kernel
theorem dX6_fitsAll_59 : decode cX6_fitsAll 59 = .ok (.iaload, 1) := by decide +kernel
theorem dX6_fitsAll_60 : decode cX6_fitsAll 60 = .ok (.iadd, 1) := by decide +kernel
theorem dX6_fitsAll_61 : decode cX6_fitsAll 61 = .ok (.iaload, 1) := by decide +kernel
theorem dX6_fitsAll_62 : decode cX6_fitsAll 62 = .ok (.aload_n 0, 1) := by decide +kernel
theorem dX6_fitsAll_63 : decode cX6_fitsAll 63 = .ok (.getfield 22, 3) := by decide +kernel
theorem dX6_fitsAll_66 : decode cX6_fitsAll 66 = .ok (.iload_n 3, 1) := by decide +kernel
theorem dX6_fitsAll_67 : decode cX6_fitsAll 67 = .ok (.iaload, 1) := by decide +kernel
theorem dX6_fitsAll_68 : decode cX6_fitsAll 68 = .ok (.ishr, 1) := by decide +kernel
theorem dX6_fitsAll_69 : decode cX6_fitsAll 69 = .ok (.iconst 1, 1) := by decide +kernel
theorem dX6_fitsAll_70 : decode cX6_fitsAll 70 = .ok (.iand, 1) := by decide +kernel
theorem dX6_fitsAll_71 : decode cX6_fitsAll 71 = .ok (.iconst 1, 1) := by decide +kernel
theorem dX6_fitsAll_72 : decode cX6_fitsAll 72 = .ok (.if_icmp .ne 7, 3) := by decide +kernel
theorem dX6_fitsAll_75 : decode cX6_fitsAll 75 = .ok (.iconst 1, 1) := by decide +kernel
theorem dX6_fitsAll_76 : decode cX6_fitsAll 76 = .ok (.goto 4, 3) := by decide +kernel
theorem dX6_fitsAll_79 : decode cX6_fitsAll 79 = .ok (.iconst 0, 1) := by decide +kernel
theorem dX6_fitsAll_80 : decode cX6_fitsAll 80 = .ok (.istore 5, 2) := by decide +kernel
theorem dX6_fitsAll_82 : decode cX6_fitsAll 82 = .ok (.iload 4, 2) := by decide +kernel
theorem dX6_fitsAll_84 : decode cX6_fitsAll 84 = .ok (.ifCond .eq 16, 3) := by decide +kernel
theorem dX6_fitsAll_87 : decode cX6_fitsAll 87 = .ok (.iload 5, 2) := by decide +kernel
theorem dX6_fitsAll_89 : decode cX6_fitsAll 89 = .ok (.aload_n 0, 1) := by decide +kernel
theorem dX6_fitsAll_90 : decode cX6_fitsAll 90 = .ok (.getfield 25, 3) := by decide +kernel
theorem dX6_fitsAll_93 : decode cX6_fitsAll 93 = .ok (.iload_n 3, 1) := by decide +kernel
theorem dX6_fitsAll_94 : decode cX6_fitsAll 94 = .ok (.baload, 1) := by decide +kernel
theorem dX6_fitsAll_95 : decode cX6_fitsAll 95 = .ok (.if_icmp .eq 5, 3) := by decide +kernel
theorem dX6_fitsAll_98 : decode cX6_fitsAll 98 = .ok (.iconst 0, 1) := by decide +kernel
theorem dX6_fitsAll_99 : decode cX6_fitsAll 99 = .ok (.ireturn, 1) := by decide +kernel
theorem dX6_fitsAll_100 : decode cX6_fitsAll 100 = .ok (.iinc 3 1, 3) := by decide +kernel
theorem dX6_fitsAll_103 : decode cX6_fitsAll 103 = .ok (.goto (-101), 3) := by decide +kernel
theorem dX6_fitsAll_106 : decode cX6_fitsAll 106 = .ok (.iconst 1, 1) := by decide +kernel
theorem dX6_fitsAll_107 : decode cX6_fitsAll 107 = .ok (.ireturn, 1) := by decide +kernel
theorem dX6_mostLeftBy_0 : decode cX6_mostLeftBy 0 = .ok (.iconst 0, 1) := by decide +kernel
theorem dX6_mostLeftBy_1 : decode cX6_mostLeftBy 1 = .ok (.istore_n 2, 1) := by decide +kernel
theorem dX6_mostLeftBy_2 : decode cX6_mostLeftBy 2 = .ok (.iload_n 2, 1) := by decide +kernel
theorem dX6_mostLeftBy_3 : decode cX6_mostLeftBy 3 = .ok (.aload_n 0, 1) := by decide +kernel
theorem dX6_mostLeftBy_4 : decode cX6_mostLeftBy 4 = .ok (.getfield 44, 3) := by decide +kernel
theorem dX6_mostLeftBy_7 : decode cX6_mostLeftBy 7 = .ok (.arraylength, 1) := by decide +kernel
theorem dX6_mostLeftBy_8 : decode cX6_mostLeftBy 8 = .ok (.if_icmp .ge 16, 3) := by decide +kernel
theorem dX6_mostLeftBy_11 : decode cX6_mostLeftBy 11 = .ok (.aload_n 0, 1) := by decide +kernel
theorem dX6_mostLeftBy_12 : decode cX6_mostLeftBy 12 = .ok (.getfield 44, 3) := by decide +kernel
theorem dX6_mostLeftBy_15 : decode cX6_mostLeftBy 15 = .ok (.iload_n 2, 1) := by decide +kernel
theorem dX6_mostLeftBy_16 : decode cX6_mostLeftBy 16 = .ok (.iconst 0, 1) := by decide +kernel
theorem dX6_mostLeftBy_17 : decode cX6_mostLeftBy 17 = .ok (.iastore, 1) := by decide +kernel
theorem dX6_mostLeftBy_18 : decode cX6_mostLeftBy 18 = .ok (.iinc 2 1, 3) := by decide +kernel
theorem dX6_mostLeftBy_21 : decode cX6_mostLeftBy 21 = .ok (.goto (-19), 3) := by decide +kernel
theorem dX6_mostLeftBy_24 : decode cX6_mostLeftBy 24 = .ok (.iconst 0, 1) := by decide +kernel
theorem dX6_mostLeftBy_25 : decode cX6_mostLeftBy 25 = .ok (.istore_n 2, 1) := by decide +kernel
theorem dX6_mostLeftBy_26 : decode cX6_mostLeftBy 26 = .ok (.iconst 0, 1) := by decide +kernel
theorem dX6_mostLeftBy_27 : decode cX6_mostLeftBy 27 = .ok (.istore_n 3, 1) := by decide +kernel
theorem dX6_mostLeftBy_28 : decode cX6_mostLeftBy 28 = .ok (.iload_n 3, 1) := by decide +kernel
theorem dX6_mostLeftBy_29 : decode cX6_mostLeftBy 29 = .ok (.bipush 100, 2) := by decide +kernel
theorem dX6_mostLeftBy_31 : decode cX6_mostLeftBy 31 = .ok (.if_icmp .gt 69, 3) := by decide +kernel
theorem dX6_mostLeftBy_34 : decode cX6_mostLeftBy 34 = .ok (.aload_n 0, 1) := by decide +kernel
theorem dX6_mostLeftBy_35 : decode cX6_mostLeftBy 35 = .ok (.getfield 38, 3) := by decide +kernel
theorem dX6_mostLeftBy_38 : decode cX6_mostLeftBy 38 = .ok (.iload_n 3, 1) := by decide +kernel
theorem dX6_mostLeftBy_39 : decode cX6_mostLeftBy 39 = .ok (.bipush 9, 2) := by decide +kernel
theorem dX6_mostLeftBy_41 : decode cX6_mostLeftBy 41 = .ok (.imul, 1) := by decide +kernel
theorem dX6_mostLeftBy_42 : decode cX6_mostLeftBy 42 = .ok (.iload_n 1, 1) := by decide +kernel
theorem dX6_mostLeftBy_43 : decode cX6_mostLeftBy 43 = .ok (.iadd, 1) := by decide +kernel
theorem dX6_mostLeftBy_44 : decode cX6_mostLeftBy 44 = .ok (.iaload, 1) := by decide +kernel
theorem dX6_mostLeftBy_45 : decode cX6_mostLeftBy 45 = .ok (.istore 4, 2) := by decide +kernel
theorem dX6_mostLeftBy_47 : decode cX6_mostLeftBy 47 = .ok (.aload_n 0, 1) := by decide +kernel
theorem dX6_mostLeftBy_48 : decode cX6_mostLeftBy 48 = .ok (.getfield 41, 3) := by decide +kernel
theorem dX6_mostLeftBy_51 : decode cX6_mostLeftBy 51 = .ok (.iload_n 3, 1) := by decide +kernel
theorem dX6_mostLeftBy_52 : decode cX6_mostLeftBy 52 = .ok (.baload, 1) := by decide +kernel
theorem dX6_mostLeftBy_53 : decode cX6_mostLeftBy 53 = .ok (.ifCond .eq 41, 3) := by decide +kernel
theorem dX6_mostLeftBy_56 : decode cX6_mostLeftBy 56 = .ok (.iload 4, 2) := by decide +kernel
theorem dX6_mostLeftBy_58 : decode cX6_mostLeftBy 58 = .ok (.ifCond .lt 36, 3) := by decide +kernel
theorem dX6_mostLeftBy_61 : decode cX6_mostLeftBy 61 = .ok (.iload 4, 2) := by decide +kernel
theorem dX6_mostLeftBy_63 : decode cX6_mostLeftBy 63 = .ok (.aload_n 0, 1) := by decide +kernel
theorem dX6_mostLeftBy_64 : decode cX6_mostLeftBy 64 = .ok (.getfield 44, 3) := by decide +kernel
theorem dX6_mostLeftBy_67 : decode cX6_mostLeftBy 67 = .ok (.arraylength, 1) := by decide +kernel
theorem dX6_mostLeftBy_68 : decode cX6_mostLeftBy 68 = .ok (.if_icmp .ge 26, 3) := by decide +kernel
theorem dX6_mostLeftBy_71 : decode cX6_mostLeftBy 71 = .ok (.aload_n 0, 1) := by decide +kernel
theorem dX6_mostLeftBy_72 : decode cX6_mostLeftBy 72 = .ok (.getfield 44, 3) := by decide +kernel
theorem dX6_mostLeftBy_75 : decode cX6_mostLeftBy 75 = .ok (.iload 4, 2) := by decide +kernel
theorem dX6_mostLeftBy_77 : decode cX6_mostLeftBy 77 = .ok (.dup2, 1) := by decide +kernel
theorem dX6_mostLeftBy_78 : decode cX6_mostLeftBy 78 = .ok (.iaload, 1) := by decide +kernel
theorem dX6_mostLeftBy_79 : decode cX6_mostLeftBy 79 = .ok (.iconst 1, 1) := by decide +kernel
theorem dX6_mostLeftBy_80 : decode cX6_mostLeftBy 80 = .ok (.iadd, 1) := by decide +kernel
theorem dX6_mostLeftBy_81 : decode cX6_mostLeftBy 81 = .ok (.iastore, 1) := by decide +kernel
theorem dX6_mostLeftBy_82 : decode cX6_mostLeftBy 82 = .ok (.iload_n 2, 1) := by decide +kernel
theorem dX6_mostLeftBy_83 : decode cX6_mostLeftBy 83 = .ok (.aload_n 0, 1) := by decide +kernel
theorem dX6_mostLeftBy_84 : decode cX6_mostLeftBy 84 = .ok (.getfield 44, 3) := by decide +kernel
theorem dX6_mostLeftBy_87 : decode cX6_mostLeftBy 87 = .ok (.iload 4, 2) := by decide +kernel
theorem dX6_mostLeftBy_89 : decode cX6_mostLeftBy 89 = .ok (.iaload, 1) := by decide +kernel
theorem dX6_mostLeftBy_90 : decode cX6_mostLeftBy 90 = .ok (.invokestatic 85, 3) := by decide +kernel
theorem dX6_mostLeftBy_93 : decode cX6_mostLeftBy 93 = .ok (.istore_n 2, 1) := by decide +kernel
theorem dX6_mostLeftBy_94 : decode cX6_mostLeftBy 94 = .ok (.iinc 3 1, 3) := by decide +kernel
theorem dX6_mostLeftBy_97 : decode cX6_mostLeftBy 97 = .ok (.goto (-69), 3) := by decide +kernel
theorem dX6_mostLeftBy_100 : decode cX6_mostLeftBy 100 = .ok (.iload_n 2, 1) := by decide +kernel
theorem dX6_mostLeftBy_101 : decode cX6_mostLeftBy 101 = .ok (.ireturn, 1) := by decide +kernel
theorem dX6_walkAll_0 : decode cX6_walkAll 0 = .ok (.aload_n 0, 1) := by decide +kernel
theorem dX6_walkAll_1 : decode cX6_walkAll 1 = .ok (.getfield 55, 3) := by decide +kernel
theorem dX6_walkAll_4 : decode cX6_walkAll 4 = .ok (.ifCond .eq 4, 3) := by decide +kernel
theorem dX6_walkAll_7 : decode cX6_walkAll 7 = .ok (.return_, 1) := by decide +kernel
theorem dX6_walkAll_8 : decode cX6_walkAll 8 = .ok (.iconst 0, 1) := by decide +kernel
theorem dX6_walkAll_9 : decode cX6_walkAll 9 = .ok (.istore_n 1, 1) := by decide +kernel
theorem dX6_walkAll_10 : decode cX6_walkAll 10 = .ok (.iload_n 1, 1) := by decide +kernel
theorem dX6_walkAll_11 : decode cX6_walkAll 11 = .ok (.bipush 100, 2) := by decide +kernel
theorem dX6_walkAll_13 : decode cX6_walkAll 13 = .ok (.if_icmp .gt 84, 3) := by decide +kernel
theorem dX6_walkAll_16 : decode cX6_walkAll 16 = .ok (.aload_n 0, 1) := by decide +kernel
theorem dX6_walkAll_17 : decode cX6_walkAll 17 = .ok (.getfield 12, 3) := by decide +kernel
theorem dX6_walkAll_20 : decode cX6_walkAll 20 = .ok (.aload_n 0, 1) := by decide +kernel
theorem dX6_walkAll_21 : decode cX6_walkAll 21 = .ok (.getfield 47, 3) := by decide +kernel
theorem dX6_walkAll_24 : decode cX6_walkAll 24 = .ok (.getfield 59, 3) := by decide +kernel
theorem dX6_walkAll_27 : decode cX6_walkAll 27 = .ok (.invokevirtual 91, 3) := by decide +kernel
theorem dX6_walkAll_30 : decode cX6_walkAll 30 = .ok (.aload_n 0, 1) := by decide +kernel
theorem dX6_walkAll_31 : decode cX6_walkAll 31 = .ok (.getfield 12, 3) := by decide +kernel
theorem dX6_walkAll_34 : decode cX6_walkAll 34 = .ok (.iload_n 1, 1) := by decide +kernel
theorem dX6_walkAll_35 : decode cX6_walkAll 35 = .ok (.putfield 95, 3) := by decide +kernel
theorem dX6_walkAll_38 : decode cX6_walkAll 38 = .ok (.iconst 0, 1) := by decide +kernel
theorem dX6_walkAll_39 : decode cX6_walkAll 39 = .ok (.istore_n 2, 1) := by decide +kernel
theorem dX6_walkAll_40 : decode cX6_walkAll 40 = .ok (.iload_n 2, 1) := by decide +kernel
theorem dX6_walkAll_41 : decode cX6_walkAll 41 = .ok (.aload_n 0, 1) := by decide +kernel
theorem dX6_walkAll_42 : decode cX6_walkAll 42 = .ok (.getfield 47, 3) := by decide +kernel
theorem dX6_walkAll_45 : decode cX6_walkAll 45 = .ok (.getfield 59, 3) := by decide +kernel
theorem dX6_walkAll_48 : decode cX6_walkAll 48 = .ok (.getfield 80, 3) := by decide +kernel
theorem dX6_walkAll_51 : decode cX6_walkAll 51 = .ok (.if_icmp .gt 40, 3) := by decide +kernel
theorem dX6_walkAll_54 : decode cX6_walkAll 54 = .ok (.aload_n 0, 1) := by decide +kernel
theorem dX6_walkAll_55 : decode cX6_walkAll 55 = .ok (.getfield 38, 3) := by decide +kernel
theorem dX6_walkAll_58 : decode cX6_walkAll 58 = .ok (.iload_n 1, 1) := by decide +kernel
theorem dX6_walkAll_59 : decode cX6_walkAll 59 = .ok (.bipush 9, 2) := by decide +kernel
theorem dX6_walkAll_61 : decode cX6_walkAll 61 = .ok (.imul, 1) := by decide +kernel
theorem dX6_walkAll_62 : decode cX6_walkAll 62 = .ok (.iload_n 2, 1) := by decide +kernel
theorem dX6_walkAll_63 : decode cX6_walkAll 63 = .ok (.iadd, 1) := by decide +kernel
theorem dX6_walkAll_64 : decode cX6_walkAll 64 = .ok (.aload_n 0, 1) := by decide +kernel
theorem dX6_walkAll_65 : decode cX6_walkAll 65 = .ok (.getfield 12, 3) := by decide +kernel
theorem dX6_walkAll_68 : decode cX6_walkAll 68 = .ok (.getfield 98, 3) := by decide +kernel
theorem dX6_walkAll_71 : decode cX6_walkAll 71 = .ok (.iastore, 1) := by decide +kernel
theorem dX6_walkAll_72 : decode cX6_walkAll 72 = .ok (.aload_n 0, 1) := by decide +kernel
theorem dX6_walkAll_73 : decode cX6_walkAll 73 = .ok (.getfield 47, 3) := by decide +kernel
theorem dX6_walkAll_76 : decode cX6_walkAll 76 = .ok (.aload_n 0, 1) := by decide +kernel
theorem dX6_walkAll_77 : decode cX6_walkAll 77 = .ok (.getfield 12, 3) := by decide +kernel
theorem dX6_walkAll_80 : decode cX6_walkAll 80 = .ok (.iconst 0, 1) := by decide +kernel
theorem dX6_walkAll_81 : decode cX6_walkAll 81 = .ok (.invokevirtual 101, 3) := by decide +kernel
theorem dX6_walkAll_84 : decode cX6_walkAll 84 = .ok (.pop, 1) := by decide +kernel
theorem dX6_walkAll_85 : decode cX6_walkAll 85 = .ok (.iinc 2 1, 3) := by decide +kernel
theorem dX6_walkAll_88 : decode cX6_walkAll 88 = .ok (.goto (-48), 3) := by decide +kernel
theorem dX6_walkAll_91 : decode cX6_walkAll 91 = .ok (.iinc 1 1, 3) := by decide +kernel
theorem dX6_walkAll_94 : decode cX6_walkAll 94 = .ok (.goto (-84), 3) := by decide +kernel
theorem dX6_walkAll_97 : decode cX6_walkAll 97 = .ok (.aload_n 0, 1) := by decide +kernel
theorem dX6_walkAll_98 : decode cX6_walkAll 98 = .ok (.iconst 1, 1) := by decide +kernel
theorem dX6_walkAll_99 : decode cX6_walkAll 99 = .ok (.putfield 55, 3) := by decide +kernel
theorem dX6_walkAll_102 : decode cX6_walkAll 102 = .ok (.return_, 1) := by decide +kernel
theorem dX7_init_0 : decode cX7_init 0 = .ok (.aload_n 0, 1) := by decide +kernel
theorem dX7_init_1 : decode cX7_init 1 = .ok (.invokespecial 3, 3) := by decide +kernel
theorem dX7_init_4 : decode cX7_init 4 = .ok (.aload_n 0, 1) := by decide +kernel
theorem dX7_init_5 : decode cX7_init 5 = .ok (.iconst 5, 1) := by decide +kernel
theorem dX7_init_6 : decode cX7_init 6 = .ok (.newarray .int, 2) := by decide +kernel
theorem dX7_init_8 : decode cX7_init 8 = .ok (.putfield 9, 3) := by decide +kernel
theorem dX7_init_11 : decode cX7_init 11 = .ok (.aload_n 0, 1) := by decide +kernel
theorem dX7_init_12 : decode cX7_init 12 = .ok (.iconst 5, 1) := by decide +kernel
theorem dX7_init_13 : decode cX7_init 13 = .ok (.newarray .int, 2) := by decide +kernel
theorem dX7_init_15 : decode cX7_init 15 = .ok (.putfield 15, 3) := by decide +kernel
theorem dX7_init_18 : decode cX7_init 18 = .ok (.aload_n 0, 1) := by decide +kernel
theorem dX7_init_19 : decode cX7_init 19 = .ok (.iconst 5, 1) := by decide +kernel
theorem dX7_init_20 : decode cX7_init 20 = .ok (.newarray .int, 2) := by decide +kernel
theorem dX7_init_22 : decode cX7_init 22 = .ok (.putfield 18, 3) := by decide +kernel
theorem dX7_init_25 : decode cX7_init 25 = .ok (.aload_n 0, 1) := by decide +kernel
theorem dX7_init_26 : decode cX7_init 26 = .ok (.iconst 5, 1) := by decide +kernel
theorem dX7_init_27 : decode cX7_init 27 = .ok (.newarray .int, 2) := by decide +kernel
theorem dX7_init_29 : decode cX7_init 29 = .ok (.putfield 21, 3) := by decide +kernel
theorem dX7_init_32 : decode cX7_init 32 = .ok (.aload_n 0, 1) := by decide +kernel
theorem dX7_init_33 : decode cX7_init 33 = .ok (.iconst 5, 1) := by decide +kernel
theorem dX7_init_34 : decode cX7_init 34 = .ok (.newarray .int, 2) := by decide +kernel
theorem dX7_init_36 : decode cX7_init 36 = .ok (.putfield 24, 3) := by decide +kernel
theorem dX7_init_39 : decode cX7_init 39 = .ok (.return_, 1) := by decide +kernel
theorem dX7_begin_0 : decode cX7_begin 0 = .ok (.iconst 0, 1) := by decide +kernel
theorem dX7_begin_1 : decode cX7_begin 1 = .ok (.istore_n 2, 1) := by decide +kernel
theorem dX7_begin_2 : decode cX7_begin 2 = .ok (.iload_n 2, 1) := by decide +kernel
theorem dX7_begin_3 : decode cX7_begin 3 = .ok (.iconst 5, 1) := by decide +kernel
theorem dX7_begin_4 : decode cX7_begin 4 = .ok (.if_icmp .ge 49, 3) := by decide +kernel
theorem dX7_begin_7 : decode cX7_begin 7 = .ok (.aload_n 0, 1) := by decide +kernel
theorem dX7_begin_8 : decode cX7_begin 8 = .ok (.getfield 9, 3) := by decide +kernel
theorem dX7_begin_11 : decode cX7_begin 11 = .ok (.iload_n 2, 1) := by decide +kernel
theorem dX7_begin_12 : decode cX7_begin 12 = .ok (.iload_n 2, 1) := by decide +kernel
theorem dX7_begin_13 : decode cX7_begin 13 = .ok (.iastore, 1) := by decide +kernel
theorem dX7_begin_14 : decode cX7_begin 14 = .ok (.aload_n 0, 1) := by decide +kernel
theorem dX7_begin_15 : decode cX7_begin 15 = .ok (.getfield 15, 3) := by decide +kernel
theorem dX7_begin_18 : decode cX7_begin 18 = .ok (.iload_n 2, 1) := by decide +kernel
theorem dX7_begin_19 : decode cX7_begin 19 = .ok (.aload_n 1, 1) := by decide +kernel
theorem dX7_begin_20 : decode cX7_begin 20 = .ok (.getfield 27, 3) := by decide +kernel
theorem dX7_begin_23 : decode cX7_begin 23 = .ok (.iload_n 2, 1) := by decide +kernel
theorem dX7_begin_24 : decode cX7_begin 24 = .ok (.iaload, 1) := by decide +kernel
theorem dX7_begin_25 : decode cX7_begin 25 = .ok (.iastore, 1) := by decide +kernel
theorem dX7_begin_26 : decode cX7_begin 26 = .ok (.aload_n 0, 1) := by decide +kernel
theorem dX7_begin_27 : decode cX7_begin 27 = .ok (.getfield 18, 3) := by decide +kernel
theorem dX7_begin_30 : decode cX7_begin 30 = .ok (.iload_n 2, 1) := by decide +kernel
theorem dX7_begin_31 : decode cX7_begin 31 = .ok (.iconst 0, 1) := by decide +kernel
theorem dX7_begin_32 : decode cX7_begin 32 = .ok (.iastore, 1) := by decide +kernel
theorem dX7_begin_33 : decode cX7_begin 33 = .ok (.aload_n 0, 1) := by decide +kernel
theorem dX7_begin_34 : decode cX7_begin 34 = .ok (.getfield 21, 3) := by decide +kernel
theorem dX7_begin_37 : decode cX7_begin 37 = .ok (.iload_n 2, 1) := by decide +kernel
theorem dX7_begin_38 : decode cX7_begin 38 = .ok (.iconst (-1), 1) := by decide +kernel
theorem dX7_begin_39 : decode cX7_begin 39 = .ok (.iastore, 1) := by decide +kernel
theorem dX7_begin_40 : decode cX7_begin 40 = .ok (.aload_n 0, 1) := by decide +kernel
theorem dX7_begin_41 : decode cX7_begin 41 = .ok (.getfield 24, 3) := by decide +kernel
theorem dX7_begin_44 : decode cX7_begin 44 = .ok (.iload_n 2, 1) := by decide +kernel
theorem dX7_begin_45 : decode cX7_begin 45 = .ok (.iconst (-1), 1) := by decide +kernel
theorem dX7_begin_46 : decode cX7_begin 46 = .ok (.iastore, 1) := by decide +kernel
theorem dX7_begin_47 : decode cX7_begin 47 = .ok (.iinc 2 1, 3) := by decide +kernel
theorem dX7_begin_50 : decode cX7_begin 50 = .ok (.goto (-48), 3) := by decide +kernel
theorem dX7_begin_53 : decode cX7_begin 53 = .ok (.aload_n 0, 1) := by decide +kernel
theorem dX7_begin_54 : decode cX7_begin 54 = .ok (.aload_n 1, 1) := by decide +kernel
theorem dX7_begin_55 : decode cX7_begin 55 = .ok (.invokevirtual 30, 3) := by decide +kernel
theorem dX7_begin_58 : decode cX7_begin 58 = .ok (.putfield 34, 3) := by decide +kernel
theorem dX7_begin_61 : decode cX7_begin 61 = .ok (.aload_n 0, 1) := by decide +kernel
theorem dX7_begin_62 : decode cX7_begin 62 = .ok (.iconst 0, 1) := by decide +kernel
theorem dX7_begin_63 : decode cX7_begin 63 = .ok (.putfield 38, 3) := by decide +kernel
theorem dX7_begin_66 : decode cX7_begin 66 = .ok (.aload_n 0, 1) := by decide +kernel
theorem dX7_begin_67 : decode cX7_begin 67 = .ok (.iconst 0, 1) := by decide +kernel
theorem dX7_begin_68 : decode cX7_begin 68 = .ok (.putfield 41, 3) := by decide +kernel
theorem dX7_begin_71 : decode cX7_begin 71 = .ok (.aload_n 0, 1) := by decide +kernel
theorem dX7_begin_72 : decode cX7_begin 72 = .ok (.aload_n 1, 1) := by decide +kernel
theorem dX7_begin_73 : decode cX7_begin 73 = .ok (.getfield 44, 3) := by decide +kernel
theorem dX7_begin_76 : decode cX7_begin 76 = .ok (.putfield 47, 3) := by decide +kernel
theorem dX7_begin_79 : decode cX7_begin 79 = .ok (.aload_n 0, 1) := by decide +kernel
theorem dX7_begin_80 : decode cX7_begin 80 = .ok (.aload_n 1, 1) := by decide +kernel
theorem dX7_begin_81 : decode cX7_begin 81 = .ok (.getfield 50, 3) := by decide +kernel
theorem dX7_begin_84 : decode cX7_begin 84 = .ok (.iconst 0, 1) := by decide +kernel
theorem dX7_begin_85 : decode cX7_begin 85 = .ok (.iaload, 1) := by decide +kernel
theorem dX7_begin_86 : decode cX7_begin 86 = .ok (.putfield 53, 3) := by decide +kernel
theorem dX7_begin_89 : decode cX7_begin 89 = .ok (.return_, 1) := by decide +kernel
theorem dX7_copyFrom_0 : decode cX7_copyFrom 0 = .ok (.iconst 0, 1) := by decide +kernel
theorem dX7_copyFrom_1 : decode cX7_copyFrom 1 = .ok (.istore_n 2, 1) := by decide +kernel
theorem dX7_copyFrom_2 : decode cX7_copyFrom 2 = .ok (.iload_n 2, 1) := by decide +kernel
theorem dX7_copyFrom_3 : decode cX7_copyFrom 3 = .ok (.iconst 5, 1) := by decide +kernel
theorem dX7_copyFrom_4 : decode cX7_copyFrom 4 = .ok (.if_icmp .ge 69, 3) := by decide +kernel
theorem dX7_copyFrom_7 : decode cX7_copyFrom 7 = .ok (.aload_n 0, 1) := by decide +kernel
theorem dX7_copyFrom_8 : decode cX7_copyFrom 8 = .ok (.getfield 9, 3) := by decide +kernel
theorem dX7_copyFrom_11 : decode cX7_copyFrom 11 = .ok (.iload_n 2, 1) := by decide +kernel
theorem dX7_copyFrom_12 : decode cX7_copyFrom 12 = .ok (.aload_n 1, 1) := by decide +kernel
theorem dX7_copyFrom_13 : decode cX7_copyFrom 13 = .ok (.getfield 9, 3) := by decide +kernel
theorem dX7_copyFrom_16 : decode cX7_copyFrom 16 = .ok (.iload_n 2, 1) := by decide +kernel
theorem dX7_copyFrom_17 : decode cX7_copyFrom 17 = .ok (.iaload, 1) := by decide +kernel
theorem dX7_copyFrom_18 : decode cX7_copyFrom 18 = .ok (.iastore, 1) := by decide +kernel
theorem dX7_copyFrom_19 : decode cX7_copyFrom 19 = .ok (.aload_n 0, 1) := by decide +kernel
theorem dX7_copyFrom_20 : decode cX7_copyFrom 20 = .ok (.getfield 15, 3) := by decide +kernel
theorem dX7_copyFrom_23 : decode cX7_copyFrom 23 = .ok (.iload_n 2, 1) := by decide +kernel
theorem dX7_copyFrom_24 : decode cX7_copyFrom 24 = .ok (.aload_n 1, 1) := by decide +kernel
theorem dX7_copyFrom_25 : decode cX7_copyFrom 25 = .ok (.getfield 15, 3) := by decide +kernel
theorem dX7_copyFrom_28 : decode cX7_copyFrom 28 = .ok (.iload_n 2, 1) := by decide +kernel
theorem dX7_copyFrom_29 : decode cX7_copyFrom 29 = .ok (.iaload, 1) := by decide +kernel
theorem dX7_copyFrom_30 : decode cX7_copyFrom 30 = .ok (.iastore, 1) := by decide +kernel
theorem dX7_copyFrom_31 : decode cX7_copyFrom 31 = .ok (.aload_n 0, 1) := by decide +kernel
theorem dX7_copyFrom_32 : decode cX7_copyFrom 32 = .ok (.getfield 18, 3) := by decide +kernel
theorem dX7_copyFrom_35 : decode cX7_copyFrom 35 = .ok (.iload_n 2, 1) := by decide +kernel
theorem dX7_copyFrom_36 : decode cX7_copyFrom 36 = .ok (.aload_n 1, 1) := by decide +kernel
theorem dX7_copyFrom_37 : decode cX7_copyFrom 37 = .ok (.getfield 18, 3) := by decide +kernel
theorem dX7_copyFrom_40 : decode cX7_copyFrom 40 = .ok (.iload_n 2, 1) := by decide +kernel
theorem dX7_copyFrom_41 : decode cX7_copyFrom 41 = .ok (.iaload, 1) := by decide +kernel
theorem dX7_copyFrom_42 : decode cX7_copyFrom 42 = .ok (.iastore, 1) := by decide +kernel
theorem dX7_copyFrom_43 : decode cX7_copyFrom 43 = .ok (.aload_n 0, 1) := by decide +kernel
theorem dX7_copyFrom_44 : decode cX7_copyFrom 44 = .ok (.getfield 21, 3) := by decide +kernel
theorem dX7_copyFrom_47 : decode cX7_copyFrom 47 = .ok (.iload_n 2, 1) := by decide +kernel
theorem dX7_copyFrom_48 : decode cX7_copyFrom 48 = .ok (.aload_n 1, 1) := by decide +kernel
theorem dX7_copyFrom_49 : decode cX7_copyFrom 49 = .ok (.getfield 21, 3) := by decide +kernel
theorem dX7_copyFrom_52 : decode cX7_copyFrom 52 = .ok (.iload_n 2, 1) := by decide +kernel
theorem dX7_copyFrom_53 : decode cX7_copyFrom 53 = .ok (.iaload, 1) := by decide +kernel
theorem dX7_copyFrom_54 : decode cX7_copyFrom 54 = .ok (.iastore, 1) := by decide +kernel
theorem dX7_copyFrom_55 : decode cX7_copyFrom 55 = .ok (.aload_n 0, 1) := by decide +kernel
theorem dX7_copyFrom_56 : decode cX7_copyFrom 56 = .ok (.getfield 24, 3) := by decide +kernel
theorem dX7_copyFrom_59 : decode cX7_copyFrom 59 = .ok (.iload_n 2, 1) := by decide +kernel
theorem dX7_copyFrom_60 : decode cX7_copyFrom 60 = .ok (.aload_n 1, 1) := by decide +kernel
theorem dX7_copyFrom_61 : decode cX7_copyFrom 61 = .ok (.getfield 24, 3) := by decide +kernel
theorem dX7_copyFrom_64 : decode cX7_copyFrom 64 = .ok (.iload_n 2, 1) := by decide +kernel
theorem dX7_copyFrom_65 : decode cX7_copyFrom 65 = .ok (.iaload, 1) := by decide +kernel
theorem dX7_copyFrom_66 : decode cX7_copyFrom 66 = .ok (.iastore, 1) := by decide +kernel
theorem dX7_copyFrom_67 : decode cX7_copyFrom 67 = .ok (.iinc 2 1, 3) := by decide +kernel
theorem dX7_copyFrom_70 : decode cX7_copyFrom 70 = .ok (.goto (-68), 3) := by decide +kernel
theorem dX7_copyFrom_73 : decode cX7_copyFrom 73 = .ok (.aload_n 0, 1) := by decide +kernel
theorem dX7_copyFrom_74 : decode cX7_copyFrom 74 = .ok (.aload_n 1, 1) := by decide +kernel
theorem dX7_copyFrom_75 : decode cX7_copyFrom 75 = .ok (.getfield 34, 3) := by decide +kernel
theorem dX7_copyFrom_78 : decode cX7_copyFrom 78 = .ok (.putfield 34, 3) := by decide +kernel
theorem dX7_copyFrom_81 : decode cX7_copyFrom 81 = .ok (.aload_n 0, 1) := by decide +kernel
theorem dX7_copyFrom_82 : decode cX7_copyFrom 82 = .ok (.aload_n 1, 1) := by decide +kernel
theorem dX7_copyFrom_83 : decode cX7_copyFrom 83 = .ok (.getfield 38, 3) := by decide +kernel
theorem dX7_copyFrom_86 : decode cX7_copyFrom 86 = .ok (.putfield 38, 3) := by decide +kernel
theorem dX7_copyFrom_89 : decode cX7_copyFrom 89 = .ok (.aload_n 0, 1) := by decide +kernel
theorem dX7_copyFrom_90 : decode cX7_copyFrom 90 = .ok (.aload_n 1, 1) := by decide +kernel
theorem dX7_copyFrom_91 : decode cX7_copyFrom 91 = .ok (.getfield 41, 3) := by decide +kernel
theorem dX7_copyFrom_94 : decode cX7_copyFrom 94 = .ok (.putfield 41, 3) := by decide +kernel
theorem dX7_copyFrom_97 : decode cX7_copyFrom 97 = .ok (.aload_n 0, 1) := by decide +kernel
theorem dX7_copyFrom_98 : decode cX7_copyFrom 98 = .ok (.aload_n 1, 1) := by decide +kernel
theorem dX7_copyFrom_99 : decode cX7_copyFrom 99 = .ok (.getfield 47, 3) := by decide +kernel
theorem dX7_copyFrom_102 : decode cX7_copyFrom 102 = .ok (.putfield 47, 3) := by decide +kernel
theorem dX7_copyFrom_105 : decode cX7_copyFrom 105 = .ok (.aload_n 0, 1) := by decide +kernel
theorem dX7_copyFrom_106 : decode cX7_copyFrom 106 = .ok (.aload_n 1, 1) := by decide +kernel
theorem dX7_copyFrom_107 : decode cX7_copyFrom 107 = .ok (.getfield 53, 3) := by decide +kernel
theorem dX7_copyFrom_110 : decode cX7_copyFrom 110 = .ok (.putfield 53, 3) := by decide +kernel
theorem dX7_copyFrom_113 : decode cX7_copyFrom 113 = .ok (.return_, 1) := by decide +kernel
theorem dX7_isUp_0 : decode cX7_isUp 0 = .ok (.aload_n 0, 1) := by decide +kernel
theorem dX7_isUp_1 : decode cX7_isUp 1 = .ok (.getfield 34, 3) := by decide +kernel
theorem dX7_isUp_4 : decode cX7_isUp 4 = .ok (.iload_n 1, 1) := by decide +kernel
theorem dX7_isUp_5 : decode cX7_isUp 5 = .ok (.ishr, 1) := by decide +kernel
theorem dX7_isUp_6 : decode cX7_isUp 6 = .ok (.iconst 1, 1) := by decide +kernel
theorem dX7_isUp_7 : decode cX7_isUp 7 = .ok (.iand, 1) := by decide +kernel
theorem dX7_isUp_8 : decode cX7_isUp 8 = .ok (.iconst 1, 1) := by decide +kernel
theorem dX7_isUp_9 : decode cX7_isUp 9 = .ok (.if_icmp .ne 7, 3) := by decide +kernel
theorem dX7_isUp_12 : decode cX7_isUp 12 = .ok (.iconst 1, 1) := by decide +kernel
theorem dX7_isUp_13 : decode cX7_isUp 13 = .ok (.goto 4, 3) := by decide +kernel
theorem dX7_isUp_16 : decode cX7_isUp 16 = .ok (.iconst 0, 1) := by decide +kernel
theorem dX7_isUp_17 : decode cX7_isUp 17 = .ok (.ireturn, 1) := by decide +kernel
theorem dX7_isBearerUp_0 : decode cX7_isBearerUp 0 = .ok (.aload_n 0, 1) := by decide +kernel
theorem dX7_isBearerUp_1 : decode cX7_isBearerUp 1 = .ok (.getfield 21, 3) := by decide +kernel
theorem dX7_isBearerUp_4 : decode cX7_isBearerUp 4 = .ok (.iload_n 1, 1) := by decide +kernel
theorem dX7_isBearerUp_5 : decode cX7_isBearerUp 5 = .ok (.iaload, 1) := by decide +kernel
theorem dX7_isBearerUp_6 : decode cX7_isBearerUp 6 = .ok (.iconst (-1), 1) := by decide +kernel
theorem dX7_isBearerUp_7 : decode cX7_isBearerUp 7 = .ok (.if_icmp .ne 19, 3) := by decide +kernel
theorem dX7_isBearerUp_10 : decode cX7_isBearerUp 10 = .ok (.aload_n 0, 1) := by decide +kernel
theorem dX7_isBearerUp_11 : decode cX7_isBearerUp 11 = .ok (.getfield 34, 3) := by decide +kernel
theorem dX7_isBearerUp_14 : decode cX7_isBearerUp 14 = .ok (.iload_n 1, 1) := by decide +kernel
theorem dX7_isBearerUp_15 : decode cX7_isBearerUp 15 = .ok (.ishr, 1) := by decide +kernel
theorem dX7_isBearerUp_16 : decode cX7_isBearerUp 16 = .ok (.iconst 1, 1) := by decide +kernel
theorem dX7_isBearerUp_17 : decode cX7_isBearerUp 17 = .ok (.iand, 1) := by decide +kernel
theorem dX7_isBearerUp_18 : decode cX7_isBearerUp 18 = .ok (.iconst 1, 1) := by decide +kernel
theorem dX7_isBearerUp_19 : decode cX7_isBearerUp 19 = .ok (.if_icmp .ne 7, 3) := by decide +kernel
theorem dX7_isBearerUp_22 : decode cX7_isBearerUp 22 = .ok (.iconst 1, 1) := by decide +kernel
theorem dX7_isBearerUp_23 : decode cX7_isBearerUp 23 = .ok (.goto 4, 3) := by decide +kernel
theorem dX7_isBearerUp_26 : decode cX7_isBearerUp 26 = .ok (.iconst 0, 1) := by decide +kernel
theorem dX7_isBearerUp_27 : decode cX7_isBearerUp 27 = .ok (.ireturn, 1) := by decide +kernel
theorem dX7_canGoUnder_0 : decode cX7_canGoUnder 0 = .ok (.iload_n 1, 1) := by decide +kernel
theorem dX7_canGoUnder_1 : decode cX7_canGoUnder 1 = .ok (.iload_n 2, 1) := by decide +kernel
theorem dX7_canGoUnder_2 : decode cX7_canGoUnder 2 = .ok (.if_icmp .eq 43, 3) := by decide +kernel
theorem dX7_canGoUnder_5 : decode cX7_canGoUnder 5 = .ok (.aload_n 0, 1) := by decide +kernel
theorem dX7_canGoUnder_6 : decode cX7_canGoUnder 6 = .ok (.iload_n 1, 1) := by decide +kernel
theorem dX7_canGoUnder_7 : decode cX7_canGoUnder 7 = .ok (.invokevirtual 56, 3) := by decide +kernel
theorem dX7_canGoUnder_10 : decode cX7_canGoUnder 10 = .ok (.ifCond .eq 35, 3) := by decide +kernel
theorem dX7_canGoUnder_13 : decode cX7_canGoUnder 13 = .ok (.aload_n 0, 1) := by decide +kernel
theorem dX7_canGoUnder_14 : decode cX7_canGoUnder 14 = .ok (.iload_n 2, 1) := by decide +kernel
theorem dX7_canGoUnder_15 : decode cX7_canGoUnder 15 = .ok (.invokevirtual 56, 3) := by decide +kernel
theorem dX7_canGoUnder_18 : decode cX7_canGoUnder 18 = .ok (.ifCond .eq 27, 3) := by decide +kernel
theorem dX7_canGoUnder_21 : decode cX7_canGoUnder 21 = .ok (.aload_n 0, 1) := by decide +kernel
theorem dX7_canGoUnder_22 : decode cX7_canGoUnder 22 = .ok (.getfield 24, 3) := by decide +kernel
theorem dX7_canGoUnder_25 : decode cX7_canGoUnder 25 = .ok (.iload_n 1, 1) := by decide +kernel
theorem dX7_canGoUnder_26 : decode cX7_canGoUnder 26 = .ok (.iaload, 1) := by decide +kernel
theorem dX7_canGoUnder_27 : decode cX7_canGoUnder 27 = .ok (.iconst (-1), 1) := by decide +kernel
theorem dX7_canGoUnder_28 : decode cX7_canGoUnder 28 = .ok (.if_icmp .ne 17, 3) := by decide +kernel
theorem dX7_canGoUnder_31 : decode cX7_canGoUnder 31 = .ok (.aload_n 0, 1) := by decide +kernel
theorem dX7_canGoUnder_32 : decode cX7_canGoUnder 32 = .ok (.getfield 24, 3) := by decide +kernel
theorem dX7_canGoUnder_35 : decode cX7_canGoUnder 35 = .ok (.iload_n 2, 1) := by decide +kernel
theorem dX7_canGoUnder_36 : decode cX7_canGoUnder 36 = .ok (.iaload, 1) := by decide +kernel
theorem dX7_canGoUnder_37 : decode cX7_canGoUnder 37 = .ok (.iconst (-1), 1) := by decide +kernel
theorem dX7_canGoUnder_38 : decode cX7_canGoUnder 38 = .ok (.if_icmp .ne 7, 3) := by decide +kernel
theorem dX7_canGoUnder_41 : decode cX7_canGoUnder 41 = .ok (.iconst 1, 1) := by decide +kernel
theorem dX7_canGoUnder_42 : decode cX7_canGoUnder 42 = .ok (.goto 4, 3) := by decide +kernel
theorem dX7_canGoUnder_45 : decode cX7_canGoUnder 45 = .ok (.iconst 0, 1) := by decide +kernel
theorem dX7_canGoUnder_46 : decode cX7_canGoUnder 46 = .ok (.ireturn, 1) := by decide +kernel
theorem dX7_goUnder_0 : decode cX7_goUnder 0 = .ok (.aload_n 0, 1) := by decide +kernel
theorem dX7_goUnder_1 : decode cX7_goUnder 1 = .ok (.getfield 21, 3) := by decide +kernel
theorem dX7_goUnder_4 : decode cX7_goUnder 4 = .ok (.iload_n 1, 1) := by decide +kernel
theorem dX7_goUnder_5 : decode cX7_goUnder 5 = .ok (.iload_n 2, 1) := by decide +kernel
theorem dX7_goUnder_6 : decode cX7_goUnder 6 = .ok (.iastore, 1) := by decide +kernel
theorem dX7_goUnder_7 : decode cX7_goUnder 7 = .ok (.aload_n 0, 1) := by decide +kernel
theorem dX7_goUnder_8 : decode cX7_goUnder 8 = .ok (.getfield 24, 3) := by decide +kernel
theorem dX7_goUnder_11 : decode cX7_goUnder 11 = .ok (.iload_n 2, 1) := by decide +kernel
theorem dX7_goUnder_12 : decode cX7_goUnder 12 = .ok (.iload_n 1, 1) := by decide +kernel
theorem dX7_goUnder_13 : decode cX7_goUnder 13 = .ok (.iastore, 1) := by decide +kernel
theorem dX7_goUnder_14 : decode cX7_goUnder 14 = .ok (.return_, 1) := by decide +kernel
theorem dX7_partFromHost_0 : decode cX7_partFromHost 0 = .ok (.aload_n 0, 1) := by decide +kernel
theorem dX7_partFromHost_1 : decode cX7_partFromHost 1 = .ok (.getfield 21, 3) := by decide +kernel
theorem dX7_partFromHost_4 : decode cX7_partFromHost 4 = .ok (.iload_n 1, 1) := by decide +kernel
theorem dX7_partFromHost_5 : decode cX7_partFromHost 5 = .ok (.iaload, 1) := by decide +kernel
theorem dX7_partFromHost_6 : decode cX7_partFromHost 6 = .ok (.istore_n 2, 1) := by decide +kernel
theorem dX7_partFromHost_7 : decode cX7_partFromHost 7 = .ok (.iload_n 2, 1) := by decide +kernel
theorem dX7_partFromHost_8 : decode cX7_partFromHost 8 = .ok (.iconst (-1), 1) := by decide +kernel
theorem dX7_partFromHost_9 : decode cX7_partFromHost 9 = .ok (.if_icmp .eq 17, 3) := by decide +kernel
theorem dX7_partFromHost_12 : decode cX7_partFromHost 12 = .ok (.aload_n 0, 1) := by decide +kernel
theorem dX7_partFromHost_13 : decode cX7_partFromHost 13 = .ok (.getfield 21, 3) := by decide +kernel
theorem dX7_partFromHost_16 : decode cX7_partFromHost 16 = .ok (.iload_n 1, 1) := by decide +kernel
theorem dX7_partFromHost_17 : decode cX7_partFromHost 17 = .ok (.iconst (-1), 1) := by decide +kernel
theorem dX7_partFromHost_18 : decode cX7_partFromHost 18 = .ok (.iastore, 1) := by decide +kernel
theorem dX7_partFromHost_19 : decode cX7_partFromHost 19 = .ok (.aload_n 0, 1) := by decide +kernel
theorem dX7_partFromHost_20 : decode cX7_partFromHost 20 = .ok (.getfield 24, 3) := by decide +kernel
theorem dX7_partFromHost_23 : decode cX7_partFromHost 23 = .ok (.iload_n 2, 1) := by decide +kernel
theorem dX7_partFromHost_24 : decode cX7_partFromHost 24 = .ok (.iconst (-1), 1) := by decide +kernel
theorem dX7_partFromHost_25 : decode cX7_partFromHost 25 = .ok (.iastore, 1) := by decide +kernel
theorem dX7_partFromHost_26 : decode cX7_partFromHost 26 = .ok (.iload_n 2, 1) := by decide +kernel
theorem dX7_partFromHost_27 : decode cX7_partFromHost 27 = .ok (.ireturn, 1) := by decide +kernel
theorem dX7_bannerOf_0 : decode cX7_bannerOf 0 = .ok (.aload_n 0, 1) := by decide +kernel
theorem dX7_bannerOf_1 : decode cX7_bannerOf 1 = .ok (.getfield 21, 3) := by decide +kernel
theorem dX7_bannerOf_4 : decode cX7_bannerOf 4 = .ok (.iload_n 1, 1) := by decide +kernel
theorem dX7_bannerOf_5 : decode cX7_bannerOf 5 = .ok (.iaload, 1) := by decide +kernel
theorem dX7_bannerOf_6 : decode cX7_bannerOf 6 = .ok (.iconst (-1), 1) := by decide +kernel
theorem dX7_bannerOf_7 : decode cX7_bannerOf 7 = .ok (.if_icmp .ne 7, 3) := by decide +kernel
theorem dX7_bannerOf_10 : decode cX7_bannerOf 10 = .ok (.iload_n 1, 1) := by decide +kernel
theorem dX7_bannerOf_11 : decode cX7_bannerOf 11 = .ok (.goto 9, 3) := by decide +kernel
theorem dX7_bannerOf_14 : decode cX7_bannerOf 14 = .ok (.aload_n 0, 1) := by decide +kernel
theorem dX7_bannerOf_15 : decode cX7_bannerOf 15 = .ok (.getfield 21, 3) := by decide +kernel
theorem dX7_bannerOf_18 : decode cX7_bannerOf 18 = .ok (.iload_n 1, 1) := by decide +kernel
theorem dX7_bannerOf_19 : decode cX7_bannerOf 19 = .ok (.iaload, 1) := by decide +kernel
theorem dX7_bannerOf_20 : decode cX7_bannerOf 20 = .ok (.ireturn, 1) := by decide +kernel
theorem dX7_placeOf_0 : decode cX7_placeOf 0 = .ok (.iconst 0, 1) := by decide +kernel
theorem dX7_placeOf_1 : decode cX7_placeOf 1 = .ok (.istore_n 2, 1) := by decide +kernel
theorem dX7_placeOf_2 : decode cX7_placeOf 2 = .ok (.iload_n 2, 1) := by decide +kernel
theorem dX7_placeOf_3 : decode cX7_placeOf 3 = .ok (.iconst 5, 1) := by decide +kernel
theorem dX7_placeOf_4 : decode cX7_placeOf 4 = .ok (.if_icmp .ge 21, 3) := by decide +kernel
theorem dX7_placeOf_7 : decode cX7_placeOf 7 = .ok (.aload_n 0, 1) := by decide +kernel
theorem dX7_placeOf_8 : decode cX7_placeOf 8 = .ok (.getfield 9, 3) := by decide +kernel
theorem dX7_placeOf_11 : decode cX7_placeOf 11 = .ok (.iload_n 2, 1) := by decide +kernel
theorem dX7_placeOf_12 : decode cX7_placeOf 12 = .ok (.iaload, 1) := by decide +kernel
theorem dX7_placeOf_13 : decode cX7_placeOf 13 = .ok (.iload_n 1, 1) := by decide +kernel
theorem dX7_placeOf_14 : decode cX7_placeOf 14 = .ok (.if_icmp .ne 5, 3) := by decide +kernel
theorem dX7_placeOf_17 : decode cX7_placeOf 17 = .ok (.iload_n 2, 1) := by decide +kernel
theorem dX7_placeOf_18 : decode cX7_placeOf 18 = .ok (.ireturn, 1) := by decide +kernel
theorem dX7_placeOf_19 : decode cX7_placeOf 19 = .ok (.iinc 2 1, 3) := by decide +kernel
theorem dX7_placeOf_22 : decode cX7_placeOf 22 = .ok (.goto (-20), 3) := by decide +kernel
theorem dX7_placeOf_25 : decode cX7_placeOf 25 = .ok (.iconst (-1), 1) := by decide +kernel
theorem dX7_placeOf_26 : decode cX7_placeOf 26 = .ok (.ireturn, 1) := by decide +kernel
theorem dX7_lower_0 : decode cX7_lower 0 = .ok (.iconst 1, 1) := by decide +kernel
theorem dX7_lower_1 : decode cX7_lower 1 = .ok (.iload_n 1, 1) := by decide +kernel
theorem dX7_lower_2 : decode cX7_lower 2 = .ok (.ishl, 1) := by decide +kernel
theorem dX7_lower_3 : decode cX7_lower 3 = .ok (.istore_n 2, 1) := by decide +kernel
theorem dX7_lower_4 : decode cX7_lower 4 = .ok (.aload_n 0, 1) := by decide +kernel
theorem dX7_lower_5 : decode cX7_lower 5 = .ok (.getfield 24, 3) := by decide +kernel
theorem dX7_lower_8 : decode cX7_lower 8 = .ok (.iload_n 1, 1) := by decide +kernel
theorem dX7_lower_9 : decode cX7_lower 9 = .ok (.iaload, 1) := by decide +kernel
theorem dX7_lower_10 : decode cX7_lower 10 = .ok (.iconst (-1), 1) := by decide +kernel
theorem dX7_lower_11 : decode cX7_lower 11 = .ok (.if_icmp .eq 14, 3) := by decide +kernel
theorem dX7_lower_14 : decode cX7_lower 14 = .ok (.iload_n 2, 1) := by decide +kernel
theorem dX7_lower_15 : decode cX7_lower 15 = .ok (.iconst 1, 1) := by decide +kernel
theorem dX7_lower_16 : decode cX7_lower 16 = .ok (.aload_n 0, 1) := by decide +kernel
theorem dX7_lower_17 : decode cX7_lower 17 = .ok (.getfield 24, 3) := by decide +kernel
theorem dX7_lower_20 : decode cX7_lower 20 = .ok (.iload_n 1, 1) := by decide +kernel
theorem dX7_lower_21 : decode cX7_lower 21 = .ok (.iaload, 1) := by decide +kernel
theorem dX7_lower_22 : decode cX7_lower 22 = .ok (.ishl, 1) := by decide +kernel
theorem dX7_lower_23 : decode cX7_lower 23 = .ok (.ior, 1) := by decide +kernel
theorem dX7_lower_24 : decode cX7_lower 24 = .ok (.istore_n 2, 1) := by decide +kernel
theorem dX7_lower_25 : decode cX7_lower 25 = .ok (.aload_n 0, 1) := by decide +kernel
theorem dX7_lower_26 : decode cX7_lower 26 = .ok (.dup, 1) := by decide +kernel
theorem dX7_lower_27 : decode cX7_lower 27 = .ok (.getfield 34, 3) := by decide +kernel
theorem dX7_lower_30 : decode cX7_lower 30 = .ok (.iload_n 2, 1) := by decide +kernel
theorem dX7_lower_31 : decode cX7_lower 31 = .ok (.iconst (-1), 1) := by decide +kernel
theorem dX7_lower_32 : decode cX7_lower 32 = .ok (.ixor, 1) := by decide +kernel
theorem dX7_lower_33 : decode cX7_lower 33 = .ok (.iand, 1) := by decide +kernel
theorem dX7_lower_34 : decode cX7_lower 34 = .ok (.putfield 34, 3) := by decide +kernel
theorem dX7_lower_37 : decode cX7_lower 37 = .ok (.iload_n 2, 1) := by decide +kernel
theorem dX7_lower_38 : decode cX7_lower 38 = .ok (.ireturn, 1) := by decide +kernel
theorem dX8_init_0 : decode cX8_init 0 = .ok (.aload_n 0, 1) := by decide +kernel
theorem dX8_init_1 : decode cX8_init 1 = .ok (.invokespecial 3, 3) := by decide +kernel
theorem dX8_init_4 : decode cX8_init 4 = .ok (.aload_n 0, 1) := by decide +kernel
theorem dX8_init_5 : decode cX8_init 5 = .ok (.bipush 18, 2) := by decide +kernel
theorem dX8_init_7 : decode cX8_init 7 = .ok (.newarray .long, 2) := by decide +kernel
theorem dX8_init_9 : decode cX8_init 9 = .ok (.putfield 9, 3) := by decide +kernel
theorem dX8_init_12 : decode cX8_init 12 = .ok (.aload_n 0, 1) := by decide +kernel
theorem dX8_init_13 : decode cX8_init 13 = .ok (.iconst 0, 1) := by decide +kernel
theorem dX8_init_14 : decode cX8_init 14 = .ok (.newarray .byte, 2) := by decide +kernel
theorem dX8_init_16 : decode cX8_init 16 = .ok (.putfield 15, 3) := by decide +kernel
theorem dX8_init_19 : decode cX8_init 19 = .ok (.iconst 0, 1) := by decide +kernel
theorem dX8_init_20 : decode cX8_init 20 = .ok (.istore_n 1, 1) := by decide +kernel
theorem dX8_init_21 : decode cX8_init 21 = .ok (.iconst 0, 1) := by decide +kernel
theorem dX8_init_22 : decode cX8_init 22 = .ok (.istore_n 2, 1) := by decide +kernel
theorem dX8_init_23 : decode cX8_init 23 = .ok (.iload_n 2, 1) := by decide +kernel
theorem dX8_init_24 : decode cX8_init 24 = .ok (.ldc 19, 2) := by decide +kernel
theorem dX8_init_26 : decode cX8_init 26 = .ok (.invokevirtual 21, 3) := by decide +kernel
theorem dX8_init_29 : decode cX8_init 29 = .ok (.if_icmp .ge 53, 3) := by decide +kernel
theorem dX8_init_32 : decode cX8_init 32 = .ok (.iload_n 1, 1) := by decide +kernel
theorem dX8_init_33 : decode cX8_init 33 = .ok (.bipush 18, 2) := by decide +kernel
theorem dX8_init_35 : decode cX8_init 35 = .ok (.if_icmp .ge 47, 3) := by decide +kernel
theorem dX8_init_38 : decode cX8_init 38 = .ok (.ldc 19, 2) := by decide +kernel
theorem dX8_init_40 : decode cX8_init 40 = .ok (.iload_n 2, 1) := by decide +kernel
theorem dX8_init_41 : decode cX8_init 41 = .ok (.invokevirtual 27, 3) := by decide +kernel
theorem dX8_init_44 : decode cX8_init 44 = .ok (.bipush 32, 2) := by decide +kernel
theorem dX8_init_46 : decode cX8_init 46 = .ok (.if_icmp .ne 9, 3) := by decide +kernel
theorem dX8_init_49 : decode cX8_init 49 = .ok (.iinc 1 1, 3) := by decide +kernel
theorem dX8_init_52 : decode cX8_init 52 = .ok (.goto 24, 3) := by decide +kernel
theorem dX8_init_55 : decode cX8_init 55 = .ok (.aload_n 0, 1) := by decide +kernel
theorem dX8_init_56 : decode cX8_init 56 = .ok (.getfield 9, 3) := by decide +kernel
theorem dX8_init_59 : decode cX8_init 59 = .ok (.iload_n 1, 1) := by decide +kernel
theorem dX8_init_60 : decode cX8_init 60 = .ok (.aload_n 0, 1) := by decide +kernel
theorem dX8_init_61 : decode cX8_init 61 = .ok (.getfield 9, 3) := by decide +kernel
theorem dX8_init_64 : decode cX8_init 64 = .ok (.iload_n 1, 1) := by decide +kernel
theorem dX8_init_65 : decode cX8_init 65 = .ok (.laload, 1) := by decide +kernel
theorem dX8_init_66 : decode cX8_init 66 = .ok (.ldc 19, 2) := by decide +kernel
theorem dX8_init_68 : decode cX8_init 68 = .ok (.iload_n 2, 1) := by decide +kernel
theorem dX8_init_69 : decode cX8_init 69 = .ok (.invokevirtual 27, 3) := by decide +kernel
theorem dX8_init_72 : decode cX8_init 72 = .ok (.invokestatic 31, 3) := by decide +kernel
theorem dX8_init_75 : decode cX8_init 75 = .ok (.lastore, 1) := by decide +kernel
theorem dX8_init_76 : decode cX8_init 76 = .ok (.iinc 2 1, 3) := by decide +kernel
theorem dX8_init_79 : decode cX8_init 79 = .ok (.goto (-56), 3) := by decide +kernel
theorem dX8_init_82 : decode cX8_init 82 = .ok (.return_, 1) := by decide +kernel
theorem dX8_open_0 : decode cX8_open 0 = .ok (.aload_n 0, 1) := by decide +kernel
theorem dX8_open_1 : decode cX8_open 1 = .ok (.aload_n 1, 1) := by decide +kernel
theorem dX8_open_2 : decode cX8_open 2 = .ok (.putfield 15, 3) := by decide +kernel
theorem dX8_open_5 : decode cX8_open 5 = .ok (.aload_n 0, 1) := by decide +kernel
theorem dX8_open_6 : decode cX8_open 6 = .ok (.iload_n 2, 1) := by decide +kernel
theorem dX8_open_7 : decode cX8_open 7 = .ok (.aload_n 1, 1) := by decide +kernel
theorem dX8_open_8 : decode cX8_open 8 = .ok (.arraylength, 1) := by decide +kernel
theorem dX8_open_9 : decode cX8_open 9 = .ok (.invokestatic 35, 3) := by decide +kernel
theorem dX8_open_12 : decode cX8_open 12 = .ok (.putfield 41, 3) := by decide +kernel
theorem dX8_open_15 : decode cX8_open 15 = .ok (.aload_n 0, 1) := by decide +kernel
theorem dX8_open_16 : decode cX8_open 16 = .ok (.iconst 0, 1) := by decide +kernel
theorem dX8_open_17 : decode cX8_open 17 = .ok (.putfield 44, 3) := by decide +kernel
theorem dX8_open_20 : decode cX8_open 20 = .ok (.aload_n 0, 1) := by decide +kernel
theorem dX8_open_21 : decode cX8_open 21 = .ok (.invokevirtual 47, 3) := by decide +kernel
theorem dX8_open_24 : decode cX8_open 24 = .ok (.return_, 1) := by decide +kernel
theorem dX8_advance_0 : decode cX8_advance 0 = .ok (.aload_n 0, 1) := by decide +kernel
theorem dX8_advance_1 : decode cX8_advance 1 = .ok (.getfield 44, 3) := by decide +kernel
theorem dX8_advance_4 : decode cX8_advance 4 = .ok (.aload_n 0, 1) := by decide +kernel
theorem dX8_advance_5 : decode cX8_advance 5 = .ok (.getfield 41, 3) := by decide +kernel
theorem dX8_advance_8 : decode cX8_advance 8 = .ok (.if_icmp .ge 31, 3) := by decide +kernel
theorem dX8_advance_11 : decode cX8_advance 11 = .ok (.aload_n 0, 1) := by decide +kernel
theorem dX8_advance_12 : decode cX8_advance 12 = .ok (.getfield 15, 3) := by decide +kernel
theorem dX8_advance_15 : decode cX8_advance 15 = .ok (.aload_n 0, 1) := by decide +kernel
theorem dX8_advance_16 : decode cX8_advance 16 = .ok (.getfield 44, 3) := by decide +kernel
theorem dX8_advance_19 : decode cX8_advance 19 = .ok (.baload, 1) := by decide +kernel
theorem dX8_advance_20 : decode cX8_advance 20 = .ok (.invokestatic 50, 3) := by decide +kernel
theorem dX8_advance_23 : decode cX8_advance 23 = .ok (.ifCond .eq 16, 3) := by decide +kernel
theorem dX8_advance_26 : decode cX8_advance 26 = .ok (.aload_n 0, 1) := by decide +kernel
theorem dX8_advance_27 : decode cX8_advance 27 = .ok (.dup, 1) := by decide +kernel
theorem dX8_advance_28 : decode cX8_advance 28 = .ok (.getfield 44, 3) := by decide +kernel
theorem dX8_advance_31 : decode cX8_advance 31 = .ok (.iconst 1, 1) := by decide +kernel
theorem dX8_advance_32 : decode cX8_advance 32 = .ok (.iadd, 1) := by decide +kernel
theorem dX8_advance_33 : decode cX8_advance 33 = .ok (.putfield 44, 3) := by decide +kernel
theorem dX8_advance_36 : decode cX8_advance 36 = .ok (.goto (-36), 3) := by decide +kernel
theorem dX8_advance_39 : decode cX8_advance 39 = .ok (.aload_n 0, 1) := by decide +kernel
theorem dX8_advance_40 : decode cX8_advance 40 = .ok (.aload_n 0, 1) := by decide +kernel
theorem dX8_advance_41 : decode cX8_advance 41 = .ok (.getfield 44, 3) := by decide +kernel
theorem dX8_advance_44 : decode cX8_advance 44 = .ok (.putfield 54, 3) := by decide +kernel
theorem dX8_advance_47 : decode cX8_advance 47 = .ok (.aload_n 0, 1) := by decide +kernel
theorem dX8_advance_48 : decode cX8_advance 48 = .ok (.getfield 44, 3) := by decide +kernel
theorem dX8_advance_51 : decode cX8_advance 51 = .ok (.aload_n 0, 1) := by decide +kernel
theorem dX8_advance_52 : decode cX8_advance 52 = .ok (.getfield 41, 3) := by decide +kernel
theorem dX8_advance_55 : decode cX8_advance 55 = .ok (.if_icmp .lt 11, 3) := by decide +kernel
theorem dX8_advance_58 : decode cX8_advance 58 = .ok (.aload_n 0, 1) := by decide +kernel
theorem dX8_advance_59 : decode cX8_advance 59 = .ok (.iconst 0, 1) := by decide +kernel
theorem dX8_advance_60 : decode cX8_advance 60 = .ok (.putfield 57, 3) := by decide +kernel
theorem dX8_advance_63 : decode cX8_advance 63 = .ok (.goto 96, 3) := by decide +kernel
theorem dX8_advance_66 : decode cX8_advance 66 = .ok (.aload_n 0, 1) := by decide +kernel
theorem dX8_advance_67 : decode cX8_advance 67 = .ok (.getfield 15, 3) := by decide +kernel
theorem dX8_advance_70 : decode cX8_advance 70 = .ok (.aload_n 0, 1) := by decide +kernel
theorem dX8_advance_71 : decode cX8_advance 71 = .ok (.getfield 44, 3) := by decide +kernel
theorem dX8_advance_74 : decode cX8_advance 74 = .ok (.baload, 1) := by decide +kernel
theorem dX8_advance_75 : decode cX8_advance 75 = .ok (.invokestatic 60, 3) := by decide +kernel
theorem dX8_advance_78 : decode cX8_advance 78 = .ok (.ifCond .eq 10, 3) := by decide +kernel
theorem dX8_advance_81 : decode cX8_advance 81 = .ok (.aload_n 0, 1) := by decide +kernel
theorem dX8_advance_82 : decode cX8_advance 82 = .ok (.invokevirtual 63, 3) := by decide +kernel
theorem dX8_advance_85 : decode cX8_advance 85 = .ok (.goto 74, 3) := by decide +kernel
theorem dX8_advance_88 : decode cX8_advance 88 = .ok (.aload_n 0, 1) := by decide +kernel
theorem dX8_advance_89 : decode cX8_advance 89 = .ok (.getfield 15, 3) := by decide +kernel
theorem dX8_advance_92 : decode cX8_advance 92 = .ok (.aload_n 0, 1) := by decide +kernel
theorem dX8_advance_93 : decode cX8_advance 93 = .ok (.getfield 44, 3) := by decide +kernel
theorem dX8_advance_96 : decode cX8_advance 96 = .ok (.baload, 1) := by decide +kernel
theorem dX8_advance_97 : decode cX8_advance 97 = .ok (.invokestatic 66, 3) := by decide +kernel
theorem dX8_advance_100 : decode cX8_advance 100 = .ok (.ifCond .eq 10, 3) := by decide +kernel
theorem dX8_advance_103 : decode cX8_advance 103 = .ok (.aload_n 0, 1) := by decide +kernel
theorem dX8_advance_104 : decode cX8_advance 104 = .ok (.invokevirtual 69, 3) := by decide +kernel
theorem dX8_advance_107 : decode cX8_advance 107 = .ok (.goto 52, 3) := by decide +kernel
theorem dX8_advance_110 : decode cX8_advance 110 = .ok (.aload_n 0, 1) := by decide +kernel
theorem dX8_advance_111 : decode cX8_advance 111 = .ok (.aload_n 0, 1) := by decide +kernel
theorem dX8_advance_112 : decode cX8_advance 112 = .ok (.getfield 15, 3) := by decide +kernel
theorem dX8_advance_115 : decode cX8_advance 115 = .ok (.aload_n 0, 1) := by decide +kernel
theorem dX8_advance_116 : decode cX8_advance 116 = .ok (.getfield 44, 3) := by decide +kernel
theorem dX8_advance_119 : decode cX8_advance 119 = .ok (.baload, 1) := by decide +kernel
theorem dX8_advance_120 : decode cX8_advance 120 = .ok (.putfield 72, 3) := by decide +kernel
theorem dX8_advance_123 : decode cX8_advance 123 = .ok (.aload_n 0, 1) := by decide +kernel
theorem dX8_advance_124 : decode cX8_advance 124 = .ok (.ldc 75, 2) := by decide +kernel
theorem dX8_advance_126 : decode cX8_advance 126 = .ok (.aload_n 0, 1) := by decide +kernel
theorem dX8_advance_127 : decode cX8_advance 127 = .ok (.getfield 72, 3) := by decide +kernel
theorem dX8_advance_130 : decode cX8_advance 130 = .ok (.sipush 255, 3) := by decide +kernel
theorem dX8_advance_133 : decode cX8_advance 133 = .ok (.iand, 1) := by decide +kernel
theorem dX8_advance_134 : decode cX8_advance 134 = .ok (.i2c, 1) := by decide +kernel
theorem dX8_advance_135 : decode cX8_advance 135 = .ok (.invokevirtual 77, 3) := by decide +kernel
theorem dX8_advance_138 : decode cX8_advance 138 = .ok (.ifCond .lt 7, 3) := by decide +kernel
theorem dX8_advance_141 : decode cX8_advance 141 = .ok (.iconst 3, 1) := by decide +kernel
theorem dX8_advance_142 : decode cX8_advance 142 = .ok (.goto 4, 3) := by decide +kernel
theorem dX8_advance_145 : decode cX8_advance 145 = .ok (.iconst 4, 1) := by decide +kernel
theorem dX8_advance_146 : decode cX8_advance 146 = .ok (.putfield 57, 3) := by decide +kernel
theorem dX8_advance_149 : decode cX8_advance 149 = .ok (.aload_n 0, 1) := by decide +kernel
theorem dX8_advance_150 : decode cX8_advance 150 = .ok (.dup, 1) := by decide +kernel
theorem dX8_advance_151 : decode cX8_advance 151 = .ok (.getfield 44, 3) := by decide +kernel
theorem dX8_advance_154 : decode cX8_advance 154 = .ok (.iconst 1, 1) := by decide +kernel
theorem dX8_advance_155 : decode cX8_advance 155 = .ok (.iadd, 1) := by decide +kernel
theorem dX8_advance_156 : decode cX8_advance 156 = .ok (.putfield 44, 3) := by decide +kernel
theorem dX8_advance_159 : decode cX8_advance 159 = .ok (.return_, 1) := by decide +kernel
theorem dX8_isWord_0 : decode cX8_isWord 0 = .ok (.aload_n 0, 1) := by decide +kernel
theorem dX8_isWord_1 : decode cX8_isWord 1 = .ok (.getfield 57, 3) := by decide +kernel
theorem dX8_isWord_4 : decode cX8_isWord 4 = .ok (.iconst 1, 1) := by decide +kernel
theorem dX8_isWord_5 : decode cX8_isWord 5 = .ok (.if_icmp .ne 15, 3) := by decide +kernel
theorem dX8_isWord_8 : decode cX8_isWord 8 = .ok (.aload_n 0, 1) := by decide +kernel
theorem dX8_isWord_9 : decode cX8_isWord 9 = .ok (.getfield 81, 3) := by decide +kernel
theorem dX8_isWord_12 : decode cX8_isWord 12 = .ok (.iload_n 1, 1) := by decide +kernel
theorem dX8_isWord_13 : decode cX8_isWord 13 = .ok (.if_icmp .ne 7, 3) := by decide +kernel
theorem dX8_isWord_16 : decode cX8_isWord 16 = .ok (.iconst 1, 1) := by decide +kernel
theorem dX8_isWord_17 : decode cX8_isWord 17 = .ok (.goto 4, 3) := by decide +kernel
theorem dX8_isWord_20 : decode cX8_isWord 20 = .ok (.iconst 0, 1) := by decide +kernel
theorem dX8_isWord_21 : decode cX8_isWord 21 = .ok (.ireturn, 1) := by decide +kernel
theorem dX8_isSign_0 : decode cX8_isSign 0 = .ok (.aload_n 0, 1) := by decide +kernel
theorem dX8_isSign_1 : decode cX8_isSign 1 = .ok (.getfield 57, 3) := by decide +kernel
theorem dX8_isSign_4 : decode cX8_isSign 4 = .ok (.iconst 3, 1) := by decide +kernel
theorem dX8_isSign_5 : decode cX8_isSign 5 = .ok (.if_icmp .ne 15, 3) := by decide +kernel
theorem dX8_isSign_8 : decode cX8_isSign 8 = .ok (.aload_n 0, 1) := by decide +kernel
theorem dX8_isSign_9 : decode cX8_isSign 9 = .ok (.getfield 72, 3) := by decide +kernel
theorem dX8_isSign_12 : decode cX8_isSign 12 = .ok (.iload_n 1, 1) := by decide +kernel
theorem dX8_isSign_13 : decode cX8_isSign 13 = .ok (.if_icmp .ne 7, 3) := by decide +kernel
theorem dX8_isSign_16 : decode cX8_isSign 16 = .ok (.iconst 1, 1) := by decide +kernel
theorem dX8_isSign_17 : decode cX8_isSign 17 = .ok (.goto 4, 3) := by decide +kernel
theorem dX8_isSign_20 : decode cX8_isSign 20 = .ok (.iconst 0, 1) := by decide +kernel
theorem dX8_isSign_21 : decode cX8_isSign 21 = .ok (.ireturn, 1) := by decide +kernel
theorem dX8_isName_0 : decode cX8_isName 0 = .ok (.aload_n 0, 1) := by decide +kernel
theorem dX8_isName_1 : decode cX8_isName 1 = .ok (.getfield 57, 3) := by decide +kernel
theorem dX8_isName_4 : decode cX8_isName 4 = .ok (.iconst 1, 1) := by decide +kernel
theorem dX8_isName_5 : decode cX8_isName 5 = .ok (.if_icmp .ne 15, 3) := by decide +kernel
theorem dX8_isName_8 : decode cX8_isName 8 = .ok (.aload_n 0, 1) := by decide +kernel
theorem dX8_isName_9 : decode cX8_isName 9 = .ok (.getfield 81, 3) := by decide +kernel
theorem dX8_isName_12 : decode cX8_isName 12 = .ok (.iconst (-1), 1) := by decide +kernel
theorem dX8_isName_13 : decode cX8_isName 13 = .ok (.if_icmp .ne 7, 3) := by decide +kernel
theorem dX8_isName_16 : decode cX8_isName 16 = .ok (.iconst 1, 1) := by decide +kernel
theorem dX8_isName_17 : decode cX8_isName 17 = .ok (.goto 4, 3) := by decide +kernel
theorem dX8_isName_20 : decode cX8_isName 20 = .ok (.iconst 0, 1) := by decide +kernel
theorem dX8_isName_21 : decode cX8_isName 21 = .ok (.ireturn, 1) := by decide +kernel
theorem dX8_isValue_0 : decode cX8_isValue 0 = .ok (.aload_n 0, 1) := by decide +kernel
theorem dX8_isValue_1 : decode cX8_isValue 1 = .ok (.getfield 57, 3) := by decide +kernel
theorem dX8_isValue_4 : decode cX8_isValue 4 = .ok (.iconst 1, 1) := by decide +kernel
theorem dX8_isValue_5 : decode cX8_isValue 5 = .ok (.if_icmp .ne 23, 3) := by decide +kernel
theorem dX8_isValue_8 : decode cX8_isValue 8 = .ok (.aload_n 0, 1) := by decide +kernel
theorem dX8_isValue_9 : decode cX8_isValue 9 = .ok (.getfield 81, 3) := by decide +kernel
theorem dX8_isValue_12 : decode cX8_isValue 12 = .ok (.ifCond .lt 16, 3) := by decide +kernel
theorem dX8_isValue_15 : decode cX8_isValue 15 = .ok (.aload_n 0, 1) := by decide +kernel
theorem dX8_isValue_16 : decode cX8_isValue 16 = .ok (.getfield 81, 3) := by decide +kernel
theorem dX8_isValue_19 : decode cX8_isValue 19 = .ok (.bipush 7, 2) := by decide +kernel
theorem dX8_isValue_21 : decode cX8_isValue 21 = .ok (.if_icmp .ge 7, 3) := by decide +kernel
theorem dX8_isValue_24 : decode cX8_isValue 24 = .ok (.iconst 1, 1) := by decide +kernel
theorem dX8_isValue_25 : decode cX8_isValue 25 = .ok (.goto 4, 3) := by decide +kernel
theorem dX8_isValue_28 : decode cX8_isValue 28 = .ok (.iconst 0, 1) := by decide +kernel
theorem dX8_isValue_29 : decode cX8_isValue 29 = .ok (.ireturn, 1) := by decide +kernel
theorem dX8_takeLetters_0 : decode cX8_takeLetters 0 = .ok (.aload_n 0, 1) := by decide +kernel
theorem dX8_takeLetters_1 : decode cX8_takeLetters 1 = .ok (.lconst 0, 1) := by decide +kernel
theorem dX8_takeLetters_2 : decode cX8_takeLetters 2 = .ok (.putfield 84, 3) := by decide +kernel
theorem dX8_takeLetters_5 : decode cX8_takeLetters 5 = .ok (.aload_n 0, 1) := by decide +kernel
theorem dX8_takeLetters_6 : decode cX8_takeLetters 6 = .ok (.getfield 44, 3) := by decide +kernel
theorem dX8_takeLetters_9 : decode cX8_takeLetters 9 = .ok (.aload_n 0, 1) := by decide +kernel
theorem dX8_takeLetters_10 : decode cX8_takeLetters 10 = .ok (.getfield 41, 3) := by decide +kernel
theorem dX8_takeLetters_13 : decode cX8_takeLetters 13 = .ok (.if_icmp .ge 51, 3) := by decide +kernel
theorem dX8_takeLetters_16 : decode cX8_takeLetters 16 = .ok (.aload_n 0, 1) := by decide +kernel
theorem dX8_takeLetters_17 : decode cX8_takeLetters 17 = .ok (.getfield 15, 3) := by decide +kernel
theorem dX8_takeLetters_20 : decode cX8_takeLetters 20 = .ok (.aload_n 0, 1) := by decide +kernel
theorem dX8_takeLetters_21 : decode cX8_takeLetters 21 = .ok (.getfield 44, 3) := by decide +kernel
theorem dX8_takeLetters_24 : decode cX8_takeLetters 24 = .ok (.baload, 1) := by decide +kernel
theorem dX8_takeLetters_25 : decode cX8_takeLetters 25 = .ok (.invokestatic 60, 3) := by decide +kernel
theorem dX8_takeLetters_28 : decode cX8_takeLetters 28 = .ok (.ifCond .eq 36, 3) := by decide +kernel
theorem dX8_takeLetters_31 : decode cX8_takeLetters 31 = .ok (.aload_n 0, 1) := by decide +kernel
theorem dX8_takeLetters_32 : decode cX8_takeLetters 32 = .ok (.aload_n 0, 1) := by decide +kernel
theorem dX8_takeLetters_33 : decode cX8_takeLetters 33 = .ok (.getfield 84, 3) := by decide +kernel
theorem dX8_takeLetters_36 : decode cX8_takeLetters 36 = .ok (.aload_n 0, 1) := by decide +kernel
theorem dX8_takeLetters_37 : decode cX8_takeLetters 37 = .ok (.getfield 15, 3) := by decide +kernel
theorem dX8_takeLetters_40 : decode cX8_takeLetters 40 = .ok (.aload_n 0, 1) := by decide +kernel
theorem dX8_takeLetters_41 : decode cX8_takeLetters 41 = .ok (.getfield 44, 3) := by decide +kernel
theorem dX8_takeLetters_44 : decode cX8_takeLetters 44 = .ok (.baload, 1) := by decide +kernel
theorem dX8_takeLetters_45 : decode cX8_takeLetters 45 = .ok (.invokestatic 31, 3) := by decide +kernel
theorem dX8_takeLetters_48 : decode cX8_takeLetters 48 = .ok (.putfield 84, 3) := by decide +kernel
theorem dX8_takeLetters_51 : decode cX8_takeLetters 51 = .ok (.aload_n 0, 1) := by decide +kernel
theorem dX8_takeLetters_52 : decode cX8_takeLetters 52 = .ok (.dup, 1) := by decide +kernel
theorem dX8_takeLetters_53 : decode cX8_takeLetters 53 = .ok (.getfield 44, 3) := by decide +kernel
theorem dX8_takeLetters_56 : decode cX8_takeLetters 56 = .ok (.iconst 1, 1) := by decide +kernel
theorem dX8_takeLetters_57 : decode cX8_takeLetters 57 = .ok (.iadd, 1) := by decide +kernel
theorem dX8_takeLetters_58 : decode cX8_takeLetters 58 = .ok (.putfield 44, 3) := by decide +kernel
theorem dX8_takeLetters_61 : decode cX8_takeLetters 61 = .ok (.goto (-56), 3) := by decide +kernel
theorem dX8_takeLetters_64 : decode cX8_takeLetters 64 = .ok (.aload_n 0, 1) := by decide +kernel
theorem dX8_takeLetters_65 : decode cX8_takeLetters 65 = .ok (.aload_n 0, 1) := by decide +kernel
theorem dX8_takeLetters_66 : decode cX8_takeLetters 66 = .ok (.getfield 44, 3) := by decide +kernel
theorem dX8_takeLetters_69 : decode cX8_takeLetters 69 = .ok (.aload_n 0, 1) := by decide +kernel
theorem dX8_takeLetters_70 : decode cX8_takeLetters 70 = .ok (.getfield 54, 3) := by decide +kernel
theorem dX8_takeLetters_73 : decode cX8_takeLetters 73 = .ok (.isub, 1) := by decide +kernel
theorem dX8_takeLetters_74 : decode cX8_takeLetters 74 = .ok (.bipush 8, 2) := by decide +kernel
theorem dX8_takeLetters_76 : decode cX8_takeLetters 76 = .ok (.if_icmp .le 7, 3) := by decide +kernel
theorem dX8_takeLetters_79 : decode cX8_takeLetters 79 = .ok (.iconst 4, 1) := by decide +kernel
theorem dX8_takeLetters_80 : decode cX8_takeLetters 80 = .ok (.goto 4, 3) := by decide +kernel
theorem dX8_takeLetters_83 : decode cX8_takeLetters 83 = .ok (.iconst 1, 1) := by decide +kernel
theorem dX8_takeLetters_84 : decode cX8_takeLetters 84 = .ok (.putfield 57, 3) := by decide +kernel
theorem dX8_takeLetters_87 : decode cX8_takeLetters 87 = .ok (.aload_n 0, 1) := by decide +kernel
theorem dX8_takeLetters_88 : decode cX8_takeLetters 88 = .ok (.aload_n 0, 1) := by decide +kernel
theorem dX8_takeLetters_89 : decode cX8_takeLetters 89 = .ok (.aload_n 0, 1) := by decide +kernel
theorem dX8_takeLetters_90 : decode cX8_takeLetters 90 = .ok (.getfield 84, 3) := by decide +kernel
theorem dX8_takeLetters_93 : decode cX8_takeLetters 93 = .ok (.invokevirtual 88, 3) := by decide +kernel
theorem dX8_takeLetters_96 : decode cX8_takeLetters 96 = .ok (.putfield 81, 3) := by decide +kernel
theorem dX8_takeLetters_99 : decode cX8_takeLetters 99 = .ok (.return_, 1) := by decide +kernel
theorem dX8_takeDigits_0 : decode cX8_takeDigits 0 = .ok (.aload_n 0, 1) := by decide +kernel
theorem dX8_takeDigits_1 : decode cX8_takeDigits 1 = .ok (.iconst 0, 1) := by decide +kernel
theorem dX8_takeDigits_2 : decode cX8_takeDigits 2 = .ok (.putfield 92, 3) := by decide +kernel
theorem dX8_takeDigits_5 : decode cX8_takeDigits 5 = .ok (.aload_n 0, 1) := by decide +kernel
theorem dX8_takeDigits_6 : decode cX8_takeDigits 6 = .ok (.getfield 44, 3) := by decide +kernel
theorem dX8_takeDigits_9 : decode cX8_takeDigits 9 = .ok (.aload_n 0, 1) := by decide +kernel
theorem dX8_takeDigits_10 : decode cX8_takeDigits 10 = .ok (.getfield 41, 3) := by decide +kernel
theorem dX8_takeDigits_13 : decode cX8_takeDigits 13 = .ok (.if_icmp .ge 55, 3) := by decide +kernel
theorem dX8_takeDigits_16 : decode cX8_takeDigits 16 = .ok (.aload_n 0, 1) := by decide +kernel
theorem dX8_takeDigits_17 : decode cX8_takeDigits 17 = .ok (.getfield 15, 3) := by decide +kernel
theorem dX8_takeDigits_20 : decode cX8_takeDigits 20 = .ok (.aload_n 0, 1) := by decide +kernel
theorem dX8_takeDigits_21 : decode cX8_takeDigits 21 = .ok (.getfield 44, 3) := by decide +kernel
theorem dX8_takeDigits_24 : decode cX8_takeDigits 24 = .ok (.baload, 1) := by decide +kernel
theorem dX8_takeDigits_25 : decode cX8_takeDigits 25 = .ok (.invokestatic 66, 3) := by decide +kernel
theorem dX8_takeDigits_28 : decode cX8_takeDigits 28 = .ok (.ifCond .eq 40, 3) := by decide +kernel
theorem dX8_takeDigits_31 : decode cX8_takeDigits 31 = .ok (.aload_n 0, 1) := by decide +kernel
theorem dX8_takeDigits_32 : decode cX8_takeDigits 32 = .ok (.aload_n 0, 1) := by decide +kernel
theorem dX8_takeDigits_33 : decode cX8_takeDigits 33 = .ok (.getfield 92, 3) := by decide +kernel
theorem dX8_takeDigits_36 : decode cX8_takeDigits 36 = .ok (.bipush 10, 2) := by decide +kernel
theorem dX8_takeDigits_38 : decode cX8_takeDigits 38 = .ok (.imul, 1) := by decide +kernel
theorem dX8_takeDigits_39 : decode cX8_takeDigits 39 = .ok (.aload_n 0, 1) := by decide +kernel
theorem dX8_takeDigits_40 : decode cX8_takeDigits 40 = .ok (.getfield 15, 3) := by decide +kernel
theorem dX8_takeDigits_43 : decode cX8_takeDigits 43 = .ok (.aload_n 0, 1) := by decide +kernel
theorem dX8_takeDigits_44 : decode cX8_takeDigits 44 = .ok (.getfield 44, 3) := by decide +kernel
theorem dX8_takeDigits_47 : decode cX8_takeDigits 47 = .ok (.baload, 1) := by decide +kernel
theorem dX8_takeDigits_48 : decode cX8_takeDigits 48 = .ok (.bipush 48, 2) := by decide +kernel
theorem dX8_takeDigits_50 : decode cX8_takeDigits 50 = .ok (.isub, 1) := by decide +kernel
theorem dX8_takeDigits_51 : decode cX8_takeDigits 51 = .ok (.iadd, 1) := by decide +kernel
theorem dX8_takeDigits_52 : decode cX8_takeDigits 52 = .ok (.putfield 92, 3) := by decide +kernel
theorem dX8_takeDigits_55 : decode cX8_takeDigits 55 = .ok (.aload_n 0, 1) := by decide +kernel
theorem dX8_takeDigits_56 : decode cX8_takeDigits 56 = .ok (.dup, 1) := by decide +kernel
theorem dX8_takeDigits_57 : decode cX8_takeDigits 57 = .ok (.getfield 44, 3) := by decide +kernel
theorem dX8_takeDigits_60 : decode cX8_takeDigits 60 = .ok (.iconst 1, 1) := by decide +kernel
theorem dX8_takeDigits_61 : decode cX8_takeDigits 61 = .ok (.iadd, 1) := by decide +kernel
theorem dX8_takeDigits_62 : decode cX8_takeDigits 62 = .ok (.putfield 44, 3) := by decide +kernel
theorem dX8_takeDigits_65 : decode cX8_takeDigits 65 = .ok (.goto (-60), 3) := by decide +kernel
theorem dX8_takeDigits_68 : decode cX8_takeDigits 68 = .ok (.aload_n 0, 1) := by decide +kernel
theorem dX8_takeDigits_69 : decode cX8_takeDigits 69 = .ok (.getfield 44, 3) := by decide +kernel
theorem dX8_takeDigits_72 : decode cX8_takeDigits 72 = .ok (.aload_n 0, 1) := by decide +kernel
theorem dX8_takeDigits_73 : decode cX8_takeDigits 73 = .ok (.getfield 41, 3) := by decide +kernel
theorem dX8_takeDigits_76 : decode cX8_takeDigits 76 = .ok (.if_icmp .ge 22, 3) := by decide +kernel
theorem dX8_takeDigits_79 : decode cX8_takeDigits 79 = .ok (.aload_n 0, 1) := by decide +kernel
theorem dX8_takeDigits_80 : decode cX8_takeDigits 80 = .ok (.getfield 15, 3) := by decide +kernel
theorem dX8_takeDigits_83 : decode cX8_takeDigits 83 = .ok (.aload_n 0, 1) := by decide +kernel
theorem dX8_takeDigits_84 : decode cX8_takeDigits 84 = .ok (.getfield 44, 3) := by decide +kernel
theorem dX8_takeDigits_87 : decode cX8_takeDigits 87 = .ok (.baload, 1) := by decide +kernel
theorem dX8_takeDigits_88 : decode cX8_takeDigits 88 = .ok (.invokestatic 60, 3) := by decide +kernel
theorem dX8_takeDigits_91 : decode cX8_takeDigits 91 = .ok (.ifCond .eq 7, 3) := by decide +kernel
theorem dX8_takeDigits_94 : decode cX8_takeDigits 94 = .ok (.iconst 1, 1) := by decide +kernel
theorem dX8_takeDigits_95 : decode cX8_takeDigits 95 = .ok (.goto 4, 3) := by decide +kernel
theorem dX8_takeDigits_98 : decode cX8_takeDigits 98 = .ok (.iconst 0, 1) := by decide +kernel
theorem dX8_takeDigits_99 : decode cX8_takeDigits 99 = .ok (.istore_n 1, 1) := by decide +kernel
theorem dX8_takeDigits_100 : decode cX8_takeDigits 100 = .ok (.aload_n 0, 1) := by decide +kernel
theorem dX8_takeDigits_101 : decode cX8_takeDigits 101 = .ok (.iload_n 1, 1) := by decide +kernel
theorem dX8_takeDigits_102 : decode cX8_takeDigits 102 = .ok (.ifCond .ne 16, 3) := by decide +kernel
theorem dX8_takeDigits_105 : decode cX8_takeDigits 105 = .ok (.aload_n 0, 1) := by decide +kernel
theorem dX8_takeDigits_106 : decode cX8_takeDigits 106 = .ok (.getfield 44, 3) := by decide +kernel
theorem dX8_takeDigits_109 : decode cX8_takeDigits 109 = .ok (.aload_n 0, 1) := by decide +kernel
theorem dX8_takeDigits_110 : decode cX8_takeDigits 110 = .ok (.getfield 54, 3) := by decide +kernel
theorem dX8_takeDigits_113 : decode cX8_takeDigits 113 = .ok (.isub, 1) := by decide +kernel
theorem dX8_takeDigits_114 : decode cX8_takeDigits 114 = .ok (.iconst 4, 1) := by decide +kernel
theorem dX8_takeDigits_115 : decode cX8_takeDigits 115 = .ok (.if_icmp .le 7, 3) := by decide +kernel
theorem dX8_takeDigits_118 : decode cX8_takeDigits 118 = .ok (.iconst 4, 1) := by decide +kernel
theorem dX8_takeDigits_119 : decode cX8_takeDigits 119 = .ok (.goto 4, 3) := by decide +kernel
theorem dX8_takeDigits_122 : decode cX8_takeDigits 122 = .ok (.iconst 2, 1) := by decide +kernel
theorem dX8_takeDigits_123 : decode cX8_takeDigits 123 = .ok (.putfield 57, 3) := by decide +kernel
theorem dX8_takeDigits_126 : decode cX8_takeDigits 126 = .ok (.return_, 1) := by decide +kernel
theorem dX8_wordSpelled_0 : decode cX8_wordSpelled 0 = .ok (.iconst 0, 1) := by decide +kernel
theorem dX8_wordSpelled_1 : decode cX8_wordSpelled 1 = .ok (.istore_n 3, 1) := by decide +kernel
theorem dX8_wordSpelled_2 : decode cX8_wordSpelled 2 = .ok (.iload_n 3, 1) := by decide +kernel
theorem dX8_wordSpelled_3 : decode cX8_wordSpelled 3 = .ok (.bipush 18, 2) := by decide +kernel
theorem dX8_wordSpelled_5 : decode cX8_wordSpelled 5 = .ok (.if_icmp .ge 22, 3) := by decide +kernel
theorem dX8_wordSpelled_8 : decode cX8_wordSpelled 8 = .ok (.aload_n 0, 1) := by decide +kernel
theorem dX8_wordSpelled_9 : decode cX8_wordSpelled 9 = .ok (.getfield 9, 3) := by decide +kernel
theorem dX8_wordSpelled_12 : decode cX8_wordSpelled 12 = .ok (.iload_n 3, 1) := by decide +kernel
theorem dX8_wordSpelled_13 : decode cX8_wordSpelled 13 = .ok (.laload, 1) := by decide +kernel
theorem dX8_wordSpelled_14 : decode cX8_wordSpelled 14 = .ok (.lload_n 1, 1) := by decide +kernel
theorem dX8_wordSpelled_15 : decode cX8_wordSpelled 15 = .ok (.lcmp, 1) := by decide +kernel
theorem dX8_wordSpelled_16 : decode cX8_wordSpelled 16 = .ok (.ifCond .ne 5, 3) := by decide +kernel
theorem dX8_wordSpelled_19 : decode cX8_wordSpelled 19 = .ok (.iload_n 3, 1) := by decide +kernel
theorem dX8_wordSpelled_20 : decode cX8_wordSpelled 20 = .ok (.ireturn, 1) := by decide +kernel
theorem dX8_wordSpelled_21 : decode cX8_wordSpelled 21 = .ok (.iinc 3 1, 3) := by decide +kernel
theorem dX8_wordSpelled_24 : decode cX8_wordSpelled 24 = .ok (.goto (-22), 3) := by decide +kernel
theorem dX8_wordSpelled_27 : decode cX8_wordSpelled 27 = .ok (.iconst (-1), 1) := by decide +kernel
theorem dX8_wordSpelled_28 : decode cX8_wordSpelled 28 = .ok (.ireturn, 1) := by decide +kernel
theorem dX8_withLetter_0 : decode cX8_withLetter 0 = .ok (.lload_n 0, 1) := by decide +kernel
theorem dX8_withLetter_1 : decode cX8_withLetter 1 = .ok (.ldc2_w 95, 3) := by decide +kernel
theorem dX8_withLetter_4 : decode cX8_withLetter 4 = .ok (.lmul, 1) := by decide +kernel
theorem dX8_withLetter_5 : decode cX8_withLetter 5 = .ok (.iload_n 2, 1) := by decide +kernel
theorem dX8_withLetter_6 : decode cX8_withLetter 6 = .ok (.bipush 97, 2) := by decide +kernel
theorem dX8_withLetter_8 : decode cX8_withLetter 8 = .ok (.isub, 1) := by decide +kernel
theorem dX8_withLetter_9 : decode cX8_withLetter 9 = .ok (.iconst 1, 1) := by decide +kernel
theorem dX8_withLetter_10 : decode cX8_withLetter 10 = .ok (.iadd, 1) := by decide +kernel
theorem dX8_withLetter_11 : decode cX8_withLetter 11 = .ok (.i2l, 1) := by decide +kernel
theorem dX8_withLetter_12 : decode cX8_withLetter 12 = .ok (.ladd, 1) := by decide +kernel
theorem dX8_withLetter_13 : decode cX8_withLetter 13 = .ok (.lreturn, 1) := by decide +kernel
theorem dX8_isBlank_0 : decode cX8_isBlank 0 = .ok (.iload_n 0, 1) := by decide +kernel
theorem dX8_isBlank_1 : decode cX8_isBlank 1 = .ok (.bipush 32, 2) := by decide +kernel
theorem dX8_isBlank_3 : decode cX8_isBlank 3 = .ok (.if_icmp .eq 9, 3) := by decide +kernel
theorem dX8_isBlank_6 : decode cX8_isBlank 6 = .ok (.iload_n 0, 1) := by decide +kernel
theorem dX8_isBlank_7 : decode cX8_isBlank 7 = .ok (.bipush 10, 2) := by decide +kernel
theorem dX8_isBlank_9 : decode cX8_isBlank 9 = .ok (.if_icmp .ne 7, 3) := by decide +kernel
theorem dX8_isBlank_12 : decode cX8_isBlank 12 = .ok (.iconst 1, 1) := by decide +kernel
theorem dX8_isBlank_13 : decode cX8_isBlank 13 = .ok (.goto 4, 3) := by decide +kernel
theorem dX8_isBlank_16 : decode cX8_isBlank 16 = .ok (.iconst 0, 1) := by decide +kernel
theorem dX8_isBlank_17 : decode cX8_isBlank 17 = .ok (.ireturn, 1) := by decide +kernel
theorem dX8_isLetter_0 : decode cX8_isLetter 0 = .ok (.iload_n 0, 1) := by decide +kernel
theorem dX8_isLetter_1 : decode cX8_isLetter 1 = .ok (.bipush 97, 2) := by decide +kernel
theorem dX8_isLetter_3 : decode cX8_isLetter 3 = .ok (.if_icmp .lt 13, 3) := by decide +kernel
theorem dX8_isLetter_6 : decode cX8_isLetter 6 = .ok (.iload_n 0, 1) := by decide +kernel
theorem dX8_isLetter_7 : decode cX8_isLetter 7 = .ok (.bipush 122, 2) := by decide +kernel
theorem dX8_isLetter_9 : decode cX8_isLetter 9 = .ok (.if_icmp .gt 7, 3) := by decide +kernel
theorem dX8_isLetter_12 : decode cX8_isLetter 12 = .ok (.iconst 1, 1) := by decide +kernel
theorem dX8_isLetter_13 : decode cX8_isLetter 13 = .ok (.goto 4, 3) := by decide +kernel
theorem dX8_isLetter_16 : decode cX8_isLetter 16 = .ok (.iconst 0, 1) := by decide +kernel
theorem dX8_isLetter_17 : decode cX8_isLetter 17 = .ok (.ireturn, 1) := by decide +kernel
theorem dX8_isDigit_0 : decode cX8_isDigit 0 = .ok (.iload_n 0, 1) := by decide +kernel
theorem dX8_isDigit_1 : decode cX8_isDigit 1 = .ok (.bipush 48, 2) := by decide +kernel
theorem dX8_isDigit_3 : decode cX8_isDigit 3 = .ok (.if_icmp .lt 13, 3) := by decide +kernel
theorem dX8_isDigit_6 : decode cX8_isDigit 6 = .ok (.iload_n 0, 1) := by decide +kernel
theorem dX8_isDigit_7 : decode cX8_isDigit 7 = .ok (.bipush 57, 2) := by decide +kernel
theorem dX8_isDigit_9 : decode cX8_isDigit 9 = .ok (.if_icmp .gt 7, 3) := by decide +kernel
theorem dX8_isDigit_12 : decode cX8_isDigit 12 = .ok (.iconst 1, 1) := by decide +kernel
theorem dX8_isDigit_13 : decode cX8_isDigit 13 = .ok (.goto 4, 3) := by decide +kernel
theorem dX8_isDigit_16 : decode cX8_isDigit 16 = .ok (.iconst 0, 1) := by decide +kernel
theorem dX8_isDigit_17 : decode cX8_isDigit 17 = .ok (.ireturn, 1) := by decide +kernel
theorem dX9_init_0 : decode cX9_init 0 = .ok (.aload_n 0, 1) := by decide +kernel
theorem dX9_init_1 : decode cX9_init 1 = .ok (.invokespecial 3, 3) := by decide +kernel
theorem dX9_init_4 : decode cX9_init 4 = .ok (.aload_n 0, 1) := by decide +kernel
theorem dX9_init_5 : decode cX9_init 5 = .ok (.bipush 8, 2) := by decide +kernel
theorem dX9_init_7 : decode cX9_init 7 = .ok (.newarray .long, 2) := by decide +kernel
theorem dX9_init_9 : decode cX9_init 9 = .ok (.putfield 9, 3) := by decide +kernel
theorem dX9_init_12 : decode cX9_init 12 = .ok (.aload_n 0, 1) := by decide +kernel
theorem dX9_init_13 : decode cX9_init 13 = .ok (.bipush 8, 2) := by decide +kernel
theorem dX9_init_15 : decode cX9_init 15 = .ok (.newarray .int, 2) := by decide +kernel
theorem dX9_init_17 : decode cX9_init 17 = .ok (.putfield 15, 3) := by decide +kernel
theorem dX9_init_20 : decode cX9_init 20 = .ok (.aload_n 0, 1) := by decide +kernel
theorem dX9_init_21 : decode cX9_init 21 = .ok (.bipush 8, 2) := by decide +kernel
theorem dX9_init_23 : decode cX9_init 23 = .ok (.newarray .int, 2) := by decide +kernel
theorem dX9_init_25 : decode cX9_init 25 = .ok (.putfield 19, 3) := by decide +kernel
theorem dX9_init_28 : decode cX9_init 28 = .ok (.aload_n 0, 1) := by decide +kernel
theorem dX9_init_29 : decode cX9_init 29 = .ok (.bipush 8, 2) := by decide +kernel
theorem dX9_init_31 : decode cX9_init 31 = .ok (.newarray .int, 2) := by decide +kernel
theorem dX9_init_33 : decode cX9_init 33 = .ok (.putfield 22, 3) := by decide +kernel
theorem dX9_init_36 : decode cX9_init 36 = .ok (.aload_n 0, 1) := by decide +kernel
theorem dX9_init_37 : decode cX9_init 37 = .ok (.bipush 8, 2) := by decide +kernel
theorem dX9_init_39 : decode cX9_init 39 = .ok (.newarray .int, 2) := by decide +kernel
theorem dX9_init_41 : decode cX9_init 41 = .ok (.putfield 25, 3) := by decide +kernel
theorem dX9_init_44 : decode cX9_init 44 = .ok (.aload_n 0, 1) := by decide +kernel
theorem dX9_init_45 : decode cX9_init 45 = .ok (.iconst 5, 1) := by decide +kernel
theorem dX9_init_46 : decode cX9_init 46 = .ok (.newarray .long, 2) := by decide +kernel
theorem dX9_init_48 : decode cX9_init 48 = .ok (.putfield 28, 3) := by decide +kernel
theorem dX9_init_51 : decode cX9_init 51 = .ok (.aload_n 0, 1) := by decide +kernel
theorem dX9_init_52 : decode cX9_init 52 = .ok (.iconst 5, 1) := by decide +kernel
theorem dX9_init_53 : decode cX9_init 53 = .ok (.newarray .int, 2) := by decide +kernel
theorem dX9_init_55 : decode cX9_init 55 = .ok (.putfield 31, 3) := by decide +kernel
theorem dX9_init_58 : decode cX9_init 58 = .ok (.aload_n 0, 1) := by decide +kernel
theorem dX9_init_59 : decode cX9_init 59 = .ok (.iconst 5, 1) := by decide +kernel
theorem dX9_init_60 : decode cX9_init 60 = .ok (.newarray .int, 2) := by decide +kernel
theorem dX9_init_62 : decode cX9_init 62 = .ok (.putfield 34, 3) := by decide +kernel
theorem dX9_init_65 : decode cX9_init 65 = .ok (.aload_n 0, 1) := by decide +kernel
theorem dX9_init_66 : decode cX9_init 66 = .ok (.iconst 5, 1) := by decide +kernel
theorem dX9_init_67 : decode cX9_init 67 = .ok (.newarray .int, 2) := by decide +kernel
theorem dX9_init_69 : decode cX9_init 69 = .ok (.putfield 37, 3) := by decide +kernel
theorem dX9_init_72 : decode cX9_init 72 = .ok (.aload_n 0, 1) := by decide +kernel
theorem dX9_init_73 : decode cX9_init 73 = .ok (.iconst 5, 1) := by decide +kernel
theorem dX9_init_74 : decode cX9_init 74 = .ok (.newarray .int, 2) := by decide +kernel
theorem dX9_init_76 : decode cX9_init 76 = .ok (.putfield 40, 3) := by decide +kernel
theorem dX9_init_79 : decode cX9_init 79 = .ok (.aload_n 0, 1) := by decide +kernel
theorem dX9_init_80 : decode cX9_init 80 = .ok (.new 43, 3) := by decide +kernel
theorem dX9_init_83 : decode cX9_init 83 = .ok (.dup, 1) := by decide +kernel
theorem dX9_init_84 : decode cX9_init 84 = .ok (.invokespecial 45, 3) := by decide +kernel
theorem dX9_init_87 : decode cX9_init 87 = .ok (.putfield 46, 3) := by decide +kernel
theorem dX9_init_90 : decode cX9_init 90 = .ok (.aload_n 0, 1) := by decide +kernel
theorem dX9_init_91 : decode cX9_init 91 = .ok (.new 43, 3) := by decide +kernel
theorem dX9_init_94 : decode cX9_init 94 = .ok (.dup, 1) := by decide +kernel
theorem dX9_init_95 : decode cX9_init 95 = .ok (.invokespecial 45, 3) := by decide +kernel
theorem dX9_init_98 : decode cX9_init 98 = .ok (.putfield 50, 3) := by decide +kernel
theorem dX9_init_101 : decode cX9_init 101 = .ok (.return_, 1) := by decide +kernel
theorem dX9_clear_0 : decode cX9_clear 0 = .ok (.aload_n 0, 1) := by decide +kernel
theorem dX9_clear_1 : decode cX9_clear 1 = .ok (.iconst 0, 1) := by decide +kernel
theorem dX9_clear_2 : decode cX9_clear 2 = .ok (.putfield 53, 3) := by decide +kernel
theorem dX9_clear_5 : decode cX9_clear 5 = .ok (.aload_n 0, 1) := by decide +kernel
theorem dX9_clear_6 : decode cX9_clear 6 = .ok (.iconst 0, 1) := by decide +kernel
theorem dX9_clear_7 : decode cX9_clear 7 = .ok (.putfield 57, 3) := by decide +kernel
theorem dX9_clear_10 : decode cX9_clear 10 = .ok (.aload_n 0, 1) := by decide +kernel
theorem dX9_clear_11 : decode cX9_clear 11 = .ok (.iconst 0, 1) := by decide +kernel
theorem dX9_clear_12 : decode cX9_clear 12 = .ok (.putfield 60, 3) := by decide +kernel
theorem dX9_clear_15 : decode cX9_clear 15 = .ok (.aload_n 0, 1) := by decide +kernel
theorem dX9_clear_16 : decode cX9_clear 16 = .ok (.iconst 0, 1) := by decide +kernel
theorem dX9_clear_17 : decode cX9_clear 17 = .ok (.putfield 63, 3) := by decide +kernel
theorem dX9_clear_20 : decode cX9_clear 20 = .ok (.aload_n 0, 1) := by decide +kernel
theorem dX9_clear_21 : decode cX9_clear 21 = .ok (.iconst 0, 1) := by decide +kernel
theorem dX9_clear_22 : decode cX9_clear 22 = .ok (.putfield 66, 3) := by decide +kernel
theorem dX9_clear_25 : decode cX9_clear 25 = .ok (.iconst 0, 1) := by decide +kernel
theorem dX9_clear_26 : decode cX9_clear 26 = .ok (.istore_n 1, 1) := by decide +kernel
theorem dX9_clear_27 : decode cX9_clear 27 = .ok (.iload_n 1, 1) := by decide +kernel
theorem dX9_clear_28 : decode cX9_clear 28 = .ok (.bipush 8, 2) := by decide +kernel
theorem dX9_clear_30 : decode cX9_clear 30 = .ok (.if_icmp .ge 30, 3) := by decide +kernel
theorem dX9_clear_33 : decode cX9_clear 33 = .ok (.aload_n 0, 1) := by decide +kernel
theorem dX9_clear_34 : decode cX9_clear 34 = .ok (.getfield 19, 3) := by decide +kernel
theorem dX9_clear_37 : decode cX9_clear 37 = .ok (.iload_n 1, 1) := by decide +kernel
theorem dX9_clear_38 : decode cX9_clear 38 = .ok (.iconst 0, 1) := by decide +kernel
theorem dX9_clear_39 : decode cX9_clear 39 = .ok (.iastore, 1) := by decide +kernel
theorem dX9_clear_40 : decode cX9_clear 40 = .ok (.aload_n 0, 1) := by decide +kernel
theorem dX9_clear_41 : decode cX9_clear 41 = .ok (.getfield 22, 3) := by decide +kernel
theorem dX9_clear_44 : decode cX9_clear 44 = .ok (.iload_n 1, 1) := by decide +kernel
theorem dX9_clear_45 : decode cX9_clear 45 = .ok (.iconst 0, 1) := by decide +kernel
theorem dX9_clear_46 : decode cX9_clear 46 = .ok (.iastore, 1) := by decide +kernel
theorem dX9_clear_47 : decode cX9_clear 47 = .ok (.aload_n 0, 1) := by decide +kernel
theorem dX9_clear_48 : decode cX9_clear 48 = .ok (.getfield 25, 3) := by decide +kernel
theorem dX9_clear_51 : decode cX9_clear 51 = .ok (.iload_n 1, 1) := by decide +kernel
theorem dX9_clear_52 : decode cX9_clear 52 = .ok (.iconst 0, 1) := by decide +kernel
theorem dX9_clear_53 : decode cX9_clear 53 = .ok (.iastore, 1) := by decide +kernel
theorem dX9_clear_54 : decode cX9_clear 54 = .ok (.iinc 1 1, 3) := by decide +kernel
theorem dX9_clear_57 : decode cX9_clear 57 = .ok (.goto (-30), 3) := by decide +kernel
theorem dX9_clear_60 : decode cX9_clear 60 = .ok (.iconst 0, 1) := by decide +kernel
theorem dX9_clear_61 : decode cX9_clear 61 = .ok (.istore_n 1, 1) := by decide +kernel
theorem dX9_clear_62 : decode cX9_clear 62 = .ok (.iload_n 1, 1) := by decide +kernel
theorem dX9_clear_63 : decode cX9_clear 63 = .ok (.iconst 5, 1) := by decide +kernel
theorem dX9_clear_64 : decode cX9_clear 64 = .ok (.if_icmp .ge 16, 3) := by decide +kernel
theorem dX9_clear_67 : decode cX9_clear 67 = .ok (.aload_n 0, 1) := by decide +kernel
theorem dX9_clear_68 : decode cX9_clear 68 = .ok (.getfield 40, 3) := by decide +kernel
theorem dX9_clear_71 : decode cX9_clear 71 = .ok (.iload_n 1, 1) := by decide +kernel
theorem dX9_clear_72 : decode cX9_clear 72 = .ok (.iconst 0, 1) := by decide +kernel
theorem dX9_clear_73 : decode cX9_clear 73 = .ok (.iastore, 1) := by decide +kernel
theorem dX9_clear_74 : decode cX9_clear 74 = .ok (.iinc 1 1, 3) := by decide +kernel
theorem dX9_clear_77 : decode cX9_clear 77 = .ok (.goto (-15), 3) := by decide +kernel
theorem dX9_clear_80 : decode cX9_clear 80 = .ok (.aload_n 0, 1) := by decide +kernel
theorem dX9_clear_81 : decode cX9_clear 81 = .ok (.getfield 46, 3) := by decide +kernel
theorem dX9_clear_84 : decode cX9_clear 84 = .ok (.invokevirtual 70, 3) := by decide +kernel
theorem dX9_clear_87 : decode cX9_clear 87 = .ok (.aload_n 0, 1) := by decide +kernel
theorem dX9_clear_88 : decode cX9_clear 88 = .ok (.getfield 50, 3) := by decide +kernel
theorem dX9_clear_91 : decode cX9_clear 91 = .ok (.invokevirtual 70, 3) := by decide +kernel
theorem dX9_clear_94 : decode cX9_clear 94 = .ok (.return_, 1) := by decide +kernel
theorem dX9_copyFrom_0 : decode cX9_copyFrom 0 = .ok (.aload_n 0, 1) := by decide +kernel
theorem dX9_copyFrom_1 : decode cX9_copyFrom 1 = .ok (.aload_n 1, 1) := by decide +kernel
theorem dX9_copyFrom_2 : decode cX9_copyFrom 2 = .ok (.getfield 53, 3) := by decide +kernel
theorem dX9_copyFrom_5 : decode cX9_copyFrom 5 = .ok (.putfield 53, 3) := by decide +kernel
theorem dX9_copyFrom_8 : decode cX9_copyFrom 8 = .ok (.aload_n 0, 1) := by decide +kernel
theorem dX9_copyFrom_9 : decode cX9_copyFrom 9 = .ok (.aload_n 1, 1) := by decide +kernel
theorem dX9_copyFrom_10 : decode cX9_copyFrom 10 = .ok (.getfield 57, 3) := by decide +kernel
theorem dX9_copyFrom_13 : decode cX9_copyFrom 13 = .ok (.putfield 57, 3) := by decide +kernel
theorem dX9_copyFrom_16 : decode cX9_copyFrom 16 = .ok (.aload_n 0, 1) := by decide +kernel
theorem dX9_copyFrom_17 : decode cX9_copyFrom 17 = .ok (.aload_n 1, 1) := by decide +kernel
theorem dX9_copyFrom_18 : decode cX9_copyFrom 18 = .ok (.getfield 60, 3) := by decide +kernel
theorem dX9_copyFrom_21 : decode cX9_copyFrom 21 = .ok (.putfield 60, 3) := by decide +kernel
theorem dX9_copyFrom_24 : decode cX9_copyFrom 24 = .ok (.aload_n 0, 1) := by decide +kernel
theorem dX9_copyFrom_25 : decode cX9_copyFrom 25 = .ok (.aload_n 1, 1) := by decide +kernel
theorem dX9_copyFrom_26 : decode cX9_copyFrom 26 = .ok (.getfield 63, 3) := by decide +kernel
theorem dX9_copyFrom_29 : decode cX9_copyFrom 29 = .ok (.putfield 63, 3) := by decide +kernel
theorem dX9_copyFrom_32 : decode cX9_copyFrom 32 = .ok (.aload_n 1, 1) := by decide +kernel
theorem dX9_copyFrom_33 : decode cX9_copyFrom 33 = .ok (.getfield 15, 3) := by decide +kernel
theorem dX9_copyFrom_36 : decode cX9_copyFrom 36 = .ok (.iconst 0, 1) := by decide +kernel
theorem dX9_copyFrom_37 : decode cX9_copyFrom 37 = .ok (.aload_n 0, 1) := by decide +kernel
theorem dX9_copyFrom_38 : decode cX9_copyFrom 38 = .ok (.getfield 15, 3) := by decide +kernel
theorem dX9_copyFrom_41 : decode cX9_copyFrom 41 = .ok (.iconst 0, 1) := by decide +kernel
theorem dX9_copyFrom_42 : decode cX9_copyFrom 42 = .ok (.bipush 8, 2) := by decide +kernel
theorem dX9_copyFrom_44 : decode cX9_copyFrom 44 = .ok (.invokestatic 73, 3) := by decide +kernel
theorem dX9_copyFrom_47 : decode cX9_copyFrom 47 = .ok (.aload_n 1, 1) := by decide +kernel
theorem dX9_copyFrom_48 : decode cX9_copyFrom 48 = .ok (.getfield 19, 3) := by decide +kernel
theorem dX9_copyFrom_51 : decode cX9_copyFrom 51 = .ok (.iconst 0, 1) := by decide +kernel
theorem dX9_copyFrom_52 : decode cX9_copyFrom 52 = .ok (.aload_n 0, 1) := by decide +kernel
theorem dX9_copyFrom_53 : decode cX9_copyFrom 53 = .ok (.getfield 19, 3) := by decide +kernel
theorem dX9_copyFrom_56 : decode cX9_copyFrom 56 = .ok (.iconst 0, 1) := by decide +kernel
theorem dX9_copyFrom_57 : decode cX9_copyFrom 57 = .ok (.bipush 8, 2) := by decide +kernel
theorem dX9_copyFrom_59 : decode cX9_copyFrom 59 = .ok (.invokestatic 73, 3) := by decide +kernel
theorem dX9_copyFrom_62 : decode cX9_copyFrom 62 = .ok (.aload_n 1, 1) := by decide +kernel
theorem dX9_copyFrom_63 : decode cX9_copyFrom 63 = .ok (.getfield 22, 3) := by decide +kernel
theorem dX9_copyFrom_66 : decode cX9_copyFrom 66 = .ok (.iconst 0, 1) := by decide +kernel
theorem dX9_copyFrom_67 : decode cX9_copyFrom 67 = .ok (.aload_n 0, 1) := by decide +kernel
theorem dX9_copyFrom_68 : decode cX9_copyFrom 68 = .ok (.getfield 22, 3) := by decide +kernel
theorem dX9_copyFrom_71 : decode cX9_copyFrom 71 = .ok (.iconst 0, 1) := by decide +kernel
theorem dX9_copyFrom_72 : decode cX9_copyFrom 72 = .ok (.bipush 8, 2) := by decide +kernel
theorem dX9_copyFrom_74 : decode cX9_copyFrom 74 = .ok (.invokestatic 73, 3) := by decide +kernel
theorem dX9_copyFrom_77 : decode cX9_copyFrom 77 = .ok (.aload_n 1, 1) := by decide +kernel
theorem dX9_copyFrom_78 : decode cX9_copyFrom 78 = .ok (.getfield 25, 3) := by decide +kernel
theorem dX9_copyFrom_81 : decode cX9_copyFrom 81 = .ok (.iconst 0, 1) := by decide +kernel
theorem dX9_copyFrom_82 : decode cX9_copyFrom 82 = .ok (.aload_n 0, 1) := by decide +kernel
theorem dX9_copyFrom_83 : decode cX9_copyFrom 83 = .ok (.getfield 25, 3) := by decide +kernel
theorem dX9_copyFrom_86 : decode cX9_copyFrom 86 = .ok (.iconst 0, 1) := by decide +kernel
theorem dX9_copyFrom_87 : decode cX9_copyFrom 87 = .ok (.bipush 8, 2) := by decide +kernel
theorem dX9_copyFrom_89 : decode cX9_copyFrom 89 = .ok (.invokestatic 73, 3) := by decide +kernel
theorem dX9_copyFrom_92 : decode cX9_copyFrom 92 = .ok (.aload_n 1, 1) := by decide +kernel
theorem dX9_copyFrom_93 : decode cX9_copyFrom 93 = .ok (.getfield 31, 3) := by decide +kernel
theorem dX9_copyFrom_96 : decode cX9_copyFrom 96 = .ok (.iconst 0, 1) := by decide +kernel
theorem dX9_copyFrom_97 : decode cX9_copyFrom 97 = .ok (.aload_n 0, 1) := by decide +kernel
theorem dX9_copyFrom_98 : decode cX9_copyFrom 98 = .ok (.getfield 31, 3) := by decide +kernel
theorem dX9_copyFrom_101 : decode cX9_copyFrom 101 = .ok (.iconst 0, 1) := by decide +kernel
theorem dX9_copyFrom_102 : decode cX9_copyFrom 102 = .ok (.iconst 5, 1) := by decide +kernel
theorem dX9_copyFrom_103 : decode cX9_copyFrom 103 = .ok (.invokestatic 73, 3) := by decide +kernel
theorem dX9_copyFrom_106 : decode cX9_copyFrom 106 = .ok (.aload_n 1, 1) := by decide +kernel
theorem dX9_copyFrom_107 : decode cX9_copyFrom 107 = .ok (.getfield 34, 3) := by decide +kernel
theorem dX9_copyFrom_110 : decode cX9_copyFrom 110 = .ok (.iconst 0, 1) := by decide +kernel
theorem dX9_copyFrom_111 : decode cX9_copyFrom 111 = .ok (.aload_n 0, 1) := by decide +kernel
theorem dX9_copyFrom_112 : decode cX9_copyFrom 112 = .ok (.getfield 34, 3) := by decide +kernel
theorem dX9_copyFrom_115 : decode cX9_copyFrom 115 = .ok (.iconst 0, 1) := by decide +kernel
theorem dX9_copyFrom_116 : decode cX9_copyFrom 116 = .ok (.iconst 5, 1) := by decide +kernel
theorem dX9_copyFrom_117 : decode cX9_copyFrom 117 = .ok (.invokestatic 73, 3) := by decide +kernel
theorem dX9_copyFrom_120 : decode cX9_copyFrom 120 = .ok (.aload_n 1, 1) := by decide +kernel
theorem dX9_copyFrom_121 : decode cX9_copyFrom 121 = .ok (.getfield 37, 3) := by decide +kernel
theorem dX9_copyFrom_124 : decode cX9_copyFrom 124 = .ok (.iconst 0, 1) := by decide +kernel
theorem dX9_copyFrom_125 : decode cX9_copyFrom 125 = .ok (.aload_n 0, 1) := by decide +kernel
theorem dX9_copyFrom_126 : decode cX9_copyFrom 126 = .ok (.getfield 37, 3) := by decide +kernel
theorem dX9_copyFrom_129 : decode cX9_copyFrom 129 = .ok (.iconst 0, 1) := by decide +kernel
theorem dX9_copyFrom_130 : decode cX9_copyFrom 130 = .ok (.iconst 5, 1) := by decide +kernel
theorem dX9_copyFrom_131 : decode cX9_copyFrom 131 = .ok (.invokestatic 73, 3) := by decide +kernel
theorem dX9_copyFrom_134 : decode cX9_copyFrom 134 = .ok (.aload_n 1, 1) := by decide +kernel
theorem dX9_copyFrom_135 : decode cX9_copyFrom 135 = .ok (.getfield 40, 3) := by decide +kernel
theorem dX9_copyFrom_138 : decode cX9_copyFrom 138 = .ok (.iconst 0, 1) := by decide +kernel
theorem dX9_copyFrom_139 : decode cX9_copyFrom 139 = .ok (.aload_n 0, 1) := by decide +kernel
theorem dX9_copyFrom_140 : decode cX9_copyFrom 140 = .ok (.getfield 40, 3) := by decide +kernel
theorem dX9_copyFrom_143 : decode cX9_copyFrom 143 = .ok (.iconst 0, 1) := by decide +kernel
theorem dX9_copyFrom_144 : decode cX9_copyFrom 144 = .ok (.iconst 5, 1) := by decide +kernel
theorem dX9_copyFrom_145 : decode cX9_copyFrom 145 = .ok (.invokestatic 73, 3) := by decide +kernel
theorem dX9_copyFrom_148 : decode cX9_copyFrom 148 = .ok (.aload_n 0, 1) := by decide +kernel
theorem dX9_copyFrom_149 : decode cX9_copyFrom 149 = .ok (.getfield 46, 3) := by decide +kernel
theorem dX9_copyFrom_152 : decode cX9_copyFrom 152 = .ok (.aload_n 1, 1) := by decide +kernel
theorem dX9_copyFrom_153 : decode cX9_copyFrom 153 = .ok (.getfield 46, 3) := by decide +kernel
theorem dX9_copyFrom_156 : decode cX9_copyFrom 156 = .ok (.invokevirtual 79, 3) := by decide +kernel
theorem dX9_copyFrom_159 : decode cX9_copyFrom 159 = .ok (.aload_n 0, 1) := by decide +kernel
theorem dX9_copyFrom_160 : decode cX9_copyFrom 160 = .ok (.getfield 50, 3) := by decide +kernel
theorem dX9_copyFrom_163 : decode cX9_copyFrom 163 = .ok (.aload_n 1, 1) := by decide +kernel
theorem dX9_copyFrom_164 : decode cX9_copyFrom 164 = .ok (.getfield 50, 3) := by decide +kernel
theorem dX9_copyFrom_167 : decode cX9_copyFrom 167 = .ok (.invokevirtual 79, 3) := by decide +kernel
theorem dX9_copyFrom_170 : decode cX9_copyFrom 170 = .ok (.return_, 1) := by decide +kernel
theorem dX9_hasGuild_0 : decode cX9_hasGuild 0 = .ok (.iload_n 1, 1) := by decide +kernel
theorem dX9_hasGuild_1 : decode cX9_hasGuild 1 = .ok (.ifCond .lt 15, 3) := by decide +kernel
theorem dX9_hasGuild_4 : decode cX9_hasGuild 4 = .ok (.iload_n 1, 1) := by decide +kernel
theorem dX9_hasGuild_5 : decode cX9_hasGuild 5 = .ok (.aload_n 0, 1) := by decide +kernel
theorem dX9_hasGuild_6 : decode cX9_hasGuild 6 = .ok (.getfield 60, 3) := by decide +kernel
theorem dX9_hasGuild_9 : decode cX9_hasGuild 9 = .ok (.if_icmp .ge 7, 3) := by decide +kernel
theorem dX9_hasGuild_12 : decode cX9_hasGuild 12 = .ok (.iconst 1, 1) := by decide +kernel
theorem dX9_hasGuild_13 : decode cX9_hasGuild 13 = .ok (.goto 4, 3) := by decide +kernel
theorem dX9_hasGuild_16 : decode cX9_hasGuild 16 = .ok (.iconst 0, 1) := by decide +kernel
theorem dX9_hasGuild_17 : decode cX9_hasGuild 17 = .ok (.ireturn, 1) := by decide +kernel
theorem dX9_allGuilds_0 : decode cX9_allGuilds 0 = .ok (.iconst 1, 1) := by decide +kernel
theorem dX9_allGuilds_1 : decode cX9_allGuilds 1 = .ok (.aload_n 0, 1) := by decide +kernel
theorem dX9_allGuilds_2 : decode cX9_allGuilds 2 = .ok (.getfield 60, 3) := by decide +kernel
theorem dX9_allGuilds_5 : decode cX9_allGuilds 5 = .ok (.ishl, 1) := by decide +kernel
theorem dX9_allGuilds_6 : decode cX9_allGuilds 6 = .ok (.iconst 1, 1) := by decide +kernel
theorem dX9_allGuilds_7 : decode cX9_allGuilds 7 = .ok (.isub, 1) := by decide +kernel
theorem dX9_allGuilds_8 : decode cX9_allGuilds 8 = .ok (.ireturn, 1) := by decide +kernel
theorem dX9_units_0 : decode cX9_units 0 = .ok (.aload_n 0, 1) := by decide +kernel
theorem dX9_units_1 : decode cX9_units 1 = .ok (.getfield 46, 3) := by decide +kernel
theorem dX9_units_4 : decode cX9_units 4 = .ok (.getfield 83, 3) := by decide +kernel
theorem dX9_units_7 : decode cX9_units 7 = .ok (.aload_n 0, 1) := by decide +kernel
theorem dX9_units_8 : decode cX9_units 8 = .ok (.getfield 50, 3) := by decide +kernel
theorem dX9_units_11 : decode cX9_units 11 = .ok (.getfield 83, 3) := by decide +kernel
theorem dX9_units_14 : decode cX9_units 14 = .ok (.iadd, 1) := by decide +kernel
theorem dX9_units_15 : decode cX9_units 15 = .ok (.ireturn, 1) := by decide +kernel
theorem dX10_init_0 : decode cX10_init 0 = .ok (.aload_n 0, 1) := by decide +kernel
theorem dX10_init_1 : decode cX10_init 1 = .ok (.invokespecial 1, 3) := by decide +kernel
theorem dX10_init_4 : decode cX10_init 4 = .ok (.aload_n 0, 1) := by decide +kernel
theorem dX10_init_5 : decode cX10_init 5 = .ok (.sipush 1600, 3) := by decide +kernel
theorem dX10_init_8 : decode cX10_init 8 = .ok (.newarray .byte, 2) := by decide +kernel
theorem dX10_init_10 : decode cX10_init 10 = .ok (.putfield 9, 3) := by decide +kernel
theorem dX10_init_13 : decode cX10_init 13 = .ok (.aload_n 0, 1) := by decide +kernel
theorem dX10_init_14 : decode cX10_init 14 = .ok (.new 13, 3) := by decide +kernel
theorem dX10_init_17 : decode cX10_init 17 = .ok (.dup, 1) := by decide +kernel
theorem dX10_init_18 : decode cX10_init 18 = .ok (.invokespecial 15, 3) := by decide +kernel
theorem dX10_init_21 : decode cX10_init 21 = .ok (.putfield 16, 3) := by decide +kernel
theorem dX10_init_24 : decode cX10_init 24 = .ok (.aload_n 0, 1) := by decide +kernel
theorem dX10_init_25 : decode cX10_init 25 = .ok (.new 20, 3) := by decide +kernel
theorem dX10_init_28 : decode cX10_init 28 = .ok (.dup, 1) := by decide +kernel
theorem dX10_init_29 : decode cX10_init 29 = .ok (.invokespecial 22, 3) := by decide +kernel
theorem dX10_init_32 : decode cX10_init 32 = .ok (.putfield 23, 3) := by decide +kernel
theorem dX10_init_35 : decode cX10_init 35 = .ok (.aload_n 0, 1) := by decide +kernel
theorem dX10_init_36 : decode cX10_init 36 = .ok (.new 20, 3) := by decide +kernel
theorem dX10_init_39 : decode cX10_init 39 = .ok (.dup, 1) := by decide +kernel
theorem dX10_init_40 : decode cX10_init 40 = .ok (.invokespecial 22, 3) := by decide +kernel
theorem dX10_init_43 : decode cX10_init 43 = .ok (.putfield 27, 3) := by decide +kernel
theorem dX10_init_46 : decode cX10_init 46 = .ok (.aload_n 0, 1) := by decide +kernel
theorem dX10_init_47 : decode cX10_init 47 = .ok (.new 30, 3) := by decide +kernel
theorem dX10_init_50 : decode cX10_init 50 = .ok (.dup, 1) := by decide +kernel
theorem dX10_init_51 : decode cX10_init 51 = .ok (.aload_n 0, 1) := by decide +kernel
theorem dX10_init_52 : decode cX10_init 52 = .ok (.getfield 27, 3) := by decide +kernel
theorem dX10_init_55 : decode cX10_init 55 = .ok (.invokespecial 32, 3) := by decide +kernel
theorem dX10_init_58 : decode cX10_init 58 = .ok (.putfield 35, 3) := by decide +kernel
theorem dX10_init_61 : decode cX10_init 61 = .ok (.aload_n 0, 1) := by decide +kernel
theorem dX10_init_62 : decode cX10_init 62 = .ok (.new 39, 3) := by decide +kernel
theorem dX10_init_65 : decode cX10_init 65 = .ok (.dup, 1) := by decide +kernel
theorem dX10_init_66 : decode cX10_init 66 = .ok (.invokespecial 41, 3) := by decide +kernel
theorem dX10_init_69 : decode cX10_init 69 = .ok (.putfield 42, 3) := by decide +kernel
theorem dX10_init_72 : decode cX10_init 72 = .ok (.aload_n 0, 1) := by decide +kernel
theorem dX10_init_73 : decode cX10_init 73 = .ok (.new 46, 3) := by decide +kernel
theorem dX10_init_76 : decode cX10_init 76 = .ok (.dup, 1) := by decide +kernel
theorem dX10_init_77 : decode cX10_init 77 = .ok (.invokespecial 48, 3) := by decide +kernel
theorem dX10_init_80 : decode cX10_init 80 = .ok (.putfield 49, 3) := by decide +kernel
theorem dX10_init_83 : decode cX10_init 83 = .ok (.aload_n 0, 1) := by decide +kernel
theorem dX10_init_84 : decode cX10_init 84 = .ok (.iconst 3, 1) := by decide +kernel
theorem dX10_init_85 : decode cX10_init 85 = .ok (.anewarray 39, 3) := by decide +kernel
theorem dX10_init_88 : decode cX10_init 88 = .ok (.putfield 53, 3) := by decide +kernel
theorem dX10_init_91 : decode cX10_init 91 = .ok (.aload_n 0, 1) := by decide +kernel
theorem dX10_init_92 : decode cX10_init 92 = .ok (.iconst 3, 1) := by decide +kernel
theorem dX10_init_93 : decode cX10_init 93 = .ok (.newarray .boolean, 2) := by decide +kernel
theorem dX10_init_95 : decode cX10_init 95 = .ok (.putfield 57, 3) := by decide +kernel
theorem dX10_init_98 : decode cX10_init 98 = .ok (.aload_n 0, 1) := by decide +kernel
theorem dX10_init_99 : decode cX10_init 99 = .ok (.new 61, 3) := by decide +kernel
theorem dX10_init_102 : decode cX10_init 102 = .ok (.dup, 1) := by decide +kernel
theorem dX10_init_103 : decode cX10_init 103 = .ok (.invokespecial 63, 3) := by decide +kernel
theorem dX10_init_106 : decode cX10_init 106 = .ok (.putfield 64, 3) := by decide +kernel
theorem dX10_init_109 : decode cX10_init 109 = .ok (.aload_n 0, 1) := by decide +kernel
theorem dX10_init_110 : decode cX10_init 110 = .ok (.new 68, 3) := by decide +kernel
theorem dX10_init_113 : decode cX10_init 113 = .ok (.dup, 1) := by decide +kernel
theorem dX10_init_114 : decode cX10_init 114 = .ok (.aload_n 0, 1) := by decide +kernel
theorem dX10_init_115 : decode cX10_init 115 = .ok (.getfield 35, 3) := by decide +kernel
theorem dX10_init_118 : decode cX10_init 118 = .ok (.aload_n 0, 1) := by decide +kernel
theorem dX10_init_119 : decode cX10_init 119 = .ok (.getfield 42, 3) := by decide +kernel
theorem dX10_init_122 : decode cX10_init 122 = .ok (.aload_n 0, 1) := by decide +kernel
theorem dX10_init_123 : decode cX10_init 123 = .ok (.getfield 64, 3) := by decide +kernel
theorem dX10_init_126 : decode cX10_init 126 = .ok (.invokespecial 70, 3) := by decide +kernel
theorem dX10_init_129 : decode cX10_init 129 = .ok (.putfield 73, 3) := by decide +kernel
theorem dX10_init_132 : decode cX10_init 132 = .ok (.aload_n 0, 1) := by decide +kernel
theorem dX10_init_133 : decode cX10_init 133 = .ok (.new 77, 3) := by decide +kernel
theorem dX10_init_136 : decode cX10_init 136 = .ok (.dup, 1) := by decide +kernel
theorem dX10_init_137 : decode cX10_init 137 = .ok (.aload_n 0, 1) := by decide +kernel
theorem dX10_init_138 : decode cX10_init 138 = .ok (.getfield 35, 3) := by decide +kernel
theorem dX10_init_141 : decode cX10_init 141 = .ok (.invokespecial 79, 3) := by decide +kernel
theorem dX10_init_144 : decode cX10_init 144 = .ok (.putfield 82, 3) := by decide +kernel
theorem dX10_init_147 : decode cX10_init 147 = .ok (.iconst 0, 1) := by decide +kernel
theorem dX10_init_148 : decode cX10_init 148 = .ok (.istore_n 1, 1) := by decide +kernel
theorem dX10_init_149 : decode cX10_init 149 = .ok (.iload_n 1, 1) := by decide +kernel
theorem dX10_init_150 : decode cX10_init 150 = .ok (.iconst 3, 1) := by decide +kernel
theorem dX10_init_151 : decode cX10_init 151 = .ok (.if_icmp .ge 22, 3) := by decide +kernel
theorem dX10_init_154 : decode cX10_init 154 = .ok (.aload_n 0, 1) := by decide +kernel
theorem dX10_init_155 : decode cX10_init 155 = .ok (.getfield 53, 3) := by decide +kernel
theorem dX10_init_158 : decode cX10_init 158 = .ok (.iload_n 1, 1) := by decide +kernel
theorem dX10_init_159 : decode cX10_init 159 = .ok (.new 39, 3) := by decide +kernel
theorem dX10_init_162 : decode cX10_init 162 = .ok (.dup, 1) := by decide +kernel
theorem dX10_init_163 : decode cX10_init 163 = .ok (.invokespecial 41, 3) := by decide +kernel
theorem dX10_init_166 : decode cX10_init 166 = .ok (.aastore, 1) := by decide +kernel
theorem dX10_init_167 : decode cX10_init 167 = .ok (.iinc 1 1, 3) := by decide +kernel
theorem dX10_init_170 : decode cX10_init 170 = .ok (.goto (-21), 3) := by decide +kernel
theorem dX10_init_173 : decode cX10_init 173 = .ok (.aload_n 0, 1) := by decide +kernel
theorem dX10_init_174 : decode cX10_init 174 = .ok (.getfield 23, 3) := by decide +kernel
theorem dX10_init_177 : decode cX10_init 177 = .ok (.invokevirtual 86, 3) := by decide +kernel
theorem dX10_init_180 : decode cX10_init 180 = .ok (.aload_n 0, 1) := by decide +kernel
theorem dX10_init_181 : decode cX10_init 181 = .ok (.getfield 27, 3) := by decide +kernel
theorem dX10_init_184 : decode cX10_init 184 = .ok (.aload_n 0, 1) := by decide +kernel
theorem dX10_init_185 : decode cX10_init 185 = .ok (.getfield 23, 3) := by decide +kernel
theorem dX10_init_188 : decode cX10_init 188 = .ok (.invokevirtual 89, 3) := by decide +kernel
theorem dX10_init_191 : decode cX10_init 191 = .ok (.aload_n 0, 1) := by decide +kernel
theorem dX10_init_192 : decode cX10_init 192 = .ok (.invokevirtual 92, 3) := by decide +kernel
theorem dX10_init_195 : decode cX10_init 195 = .ok (.return_, 1) := by decide +kernel
theorem dX10_feed_0 : decode cX10_feed 0 = .ok (.aload_n 0, 1) := by decide +kernel
theorem dX10_feed_1 : decode cX10_feed 1 = .ok (.getfield 95, 3) := by decide +kernel
theorem dX10_feed_4 : decode cX10_feed 4 = .ok (.bipush 20, 2) := by decide +kernel
theorem dX10_feed_6 : decode cX10_feed 6 = .ok (.iadd, 1) := by decide +kernel
theorem dX10_feed_7 : decode cX10_feed 7 = .ok (.sipush 1600, 3) := by decide +kernel
theorem dX10_feed_10 : decode cX10_feed 10 = .ok (.if_icmp .le 5, 3) := by decide +kernel
theorem dX10_feed_13 : decode cX10_feed 13 = .ok (.iconst (-1), 1) := by decide +kernel
theorem dX10_feed_14 : decode cX10_feed 14 = .ok (.ireturn, 1) := by decide +kernel
theorem dX10_feed_15 : decode cX10_feed 15 = .ok (.aload_n 0, 1) := by decide +kernel
theorem dX10_feed_16 : decode cX10_feed 16 = .ok (.iload_n 1, 1) := by decide +kernel
theorem dX10_feed_17 : decode cX10_feed 17 = .ok (.invokevirtual 99, 3) := by decide +kernel
theorem dX10_feed_20 : decode cX10_feed 20 = .ok (.aload_n 0, 1) := by decide +kernel
theorem dX10_feed_21 : decode cX10_feed 21 = .ok (.iload_n 2, 1) := by decide +kernel
theorem dX10_feed_22 : decode cX10_feed 22 = .ok (.invokevirtual 99, 3) := by decide +kernel
theorem dX10_feed_25 : decode cX10_feed 25 = .ok (.aload_n 0, 1) := by decide +kernel
theorem dX10_feed_26 : decode cX10_feed 26 = .ok (.iload_n 3, 1) := by decide +kernel
theorem dX10_feed_27 : decode cX10_feed 27 = .ok (.invokevirtual 99, 3) := by decide +kernel
theorem dX10_feed_30 : decode cX10_feed 30 = .ok (.aload_n 0, 1) := by decide +kernel
theorem dX10_feed_31 : decode cX10_feed 31 = .ok (.iload 4, 2) := by decide +kernel
theorem dX10_feed_33 : decode cX10_feed 33 = .ok (.invokevirtual 99, 3) := by decide +kernel
theorem dX10_feed_36 : decode cX10_feed 36 = .ok (.aload_n 0, 1) := by decide +kernel
theorem dX10_feed_37 : decode cX10_feed 37 = .ok (.iload 5, 2) := by decide +kernel
theorem dX10_feed_39 : decode cX10_feed 39 = .ok (.invokevirtual 99, 3) := by decide +kernel
theorem dX10_feed_42 : decode cX10_feed 42 = .ok (.aload_n 0, 1) := by decide +kernel
theorem dX10_feed_43 : decode cX10_feed 43 = .ok (.getfield 95, 3) := by decide +kernel
theorem dX10_feed_46 : decode cX10_feed 46 = .ok (.ireturn, 1) := by decide +kernel
theorem dX10_end_0 : decode cX10_end 0 = .ok (.iload_n 1, 1) := by decide +kernel
theorem dX10_end_1 : decode cX10_end 1 = .ok (.ifCond .lt 11, 3) := by decide +kernel
theorem dX10_end_4 : decode cX10_end 4 = .ok (.iload_n 1, 1) := by decide +kernel
theorem dX10_end_5 : decode cX10_end 5 = .ok (.aload_n 0, 1) := by decide +kernel
theorem dX10_end_6 : decode cX10_end 6 = .ok (.getfield 95, 3) := by decide +kernel
theorem dX10_end_9 : decode cX10_end 9 = .ok (.if_icmp .le 5, 3) := by decide +kernel
theorem dX10_end_12 : decode cX10_end 12 = .ok (.iconst (-1), 1) := by decide +kernel
theorem dX10_end_13 : decode cX10_end 13 = .ok (.ireturn, 1) := by decide +kernel
theorem dX10_end_14 : decode cX10_end 14 = .ok (.aload_n 0, 1) := by decide +kernel
theorem dX10_end_15 : decode cX10_end 15 = .ok (.iload_n 1, 1) := by decide +kernel
theorem dX10_end_16 : decode cX10_end 16 = .ok (.putfield 95, 3) := by decide +kernel
theorem dX10_end_19 : decode cX10_end 19 = .ok (.iload_n 1, 1) := by decide +kernel
theorem dX10_end_20 : decode cX10_end 20 = .ok (.ireturn, 1) := by decide +kernel
theorem dX10_town_0 : decode cX10_town 0 = .ok (.aload_n 0, 1) := by decide +kernel
theorem dX10_town_1 : decode cX10_town 1 = .ok (.getfield 16, 3) := by decide +kernel
theorem dX10_town_4 : decode cX10_town 4 = .ok (.aload_n 0, 1) := by decide +kernel
theorem dX10_town_5 : decode cX10_town 5 = .ok (.getfield 9, 3) := by decide +kernel
theorem dX10_town_8 : decode cX10_town 8 = .ok (.aload_n 0, 1) := by decide +kernel
theorem dX10_town_9 : decode cX10_town 9 = .ok (.getfield 95, 3) := by decide +kernel
theorem dX10_town_12 : decode cX10_town 12 = .ok (.aload_n 0, 1) := by decide +kernel
theorem dX10_town_13 : decode cX10_town 13 = .ok (.getfield 23, 3) := by decide +kernel
theorem dX10_town_16 : decode cX10_town 16 = .ok (.invokevirtual 103, 3) := by decide +kernel
theorem dX10_town_19 : decode cX10_town 19 = .ok (.ifCond .ne 5, 3) := by decide +kernel
theorem dX10_town_22 : decode cX10_town 22 = .ok (.iconst (-1), 1) := by decide +kernel
theorem dX10_town_23 : decode cX10_town 23 = .ok (.ireturn, 1) := by decide +kernel
theorem dX10_town_24 : decode cX10_town 24 = .ok (.aload_n 0, 1) := by decide +kernel
theorem dX10_town_25 : decode cX10_town 25 = .ok (.getfield 27, 3) := by decide +kernel
theorem dX10_town_28 : decode cX10_town 28 = .ok (.aload_n 0, 1) := by decide +kernel
theorem dX10_town_29 : decode cX10_town 29 = .ok (.getfield 23, 3) := by decide +kernel
theorem dX10_town_32 : decode cX10_town 32 = .ok (.invokevirtual 89, 3) := by decide +kernel
theorem dX10_town_35 : decode cX10_town 35 = .ok (.aload_n 0, 1) := by decide +kernel
theorem dX10_town_36 : decode cX10_town 36 = .ok (.iconst 0, 1) := by decide +kernel
theorem dX10_town_37 : decode cX10_town 37 = .ok (.putfield 95, 3) := by decide +kernel
theorem dX10_town_40 : decode cX10_town 40 = .ok (.aload_n 0, 1) := by decide +kernel
theorem dX10_town_41 : decode cX10_town 41 = .ok (.invokevirtual 92, 3) := by decide +kernel
theorem dX10_town_44 : decode cX10_town 44 = .ok (.aload_n 0, 1) := by decide +kernel
theorem dX10_town_45 : decode cX10_town 45 = .ok (.getfield 27, 3) := by decide +kernel
theorem dX10_town_48 : decode cX10_town 48 = .ok (.getfield 107, 3) := by decide +kernel
theorem dX10_town_51 : decode cX10_town 51 = .ok (.ireturn, 1) := by decide +kernel
theorem dX10_fault_0 : decode cX10_fault 0 = .ok (.iload_n 1, 1) := by decide +kernel
theorem dX10_fault_1 : decode cX10_fault 1 = .ok (.lookupswitch 43 #[(0, 27), (1, 35)], 27) := by decide +kernel
theorem dX10_fault_28 : decode cX10_fault 28 = .ok (.aload_n 0, 1) := by decide +kernel
theorem dX10_fault_29 : decode cX10_fault 29 = .ok (.getfield 16, 3) := by decide +kernel
theorem dX10_fault_32 : decode cX10_fault 32 = .ok (.getfield 110, 3) := by decide +kernel
theorem dX10_fault_35 : decode cX10_fault 35 = .ok (.ireturn, 1) := by decide +kernel
theorem dX10_fault_36 : decode cX10_fault 36 = .ok (.aload_n 0, 1) := by decide +kernel
theorem dX10_fault_37 : decode cX10_fault 37 = .ok (.getfield 16, 3) := by decide +kernel
theorem dX10_fault_40 : decode cX10_fault 40 = .ok (.getfield 113, 3) := by decide +kernel
theorem dX10_fault_43 : decode cX10_fault 43 = .ok (.ireturn, 1) := by decide +kernel
theorem dX10_fault_44 : decode cX10_fault 44 = .ok (.iconst (-1), 1) := by decide +kernel
theorem dX10_fault_45 : decode cX10_fault 45 = .ok (.ireturn, 1) := by decide +kernel
theorem dX10_guild_0 : decode cX10_guild 0 = .ok (.aload_n 0, 1) := by decide +kernel
theorem dX10_guild_1 : decode cX10_guild 1 = .ok (.getfield 27, 3) := by decide +kernel
theorem dX10_guild_4 : decode cX10_guild 4 = .ok (.iload_n 1, 1) := by decide +kernel
theorem dX10_guild_5 : decode cX10_guild 5 = .ok (.invokevirtual 116, 3) := by decide +kernel
theorem dX10_guild_8 : decode cX10_guild 8 = .ok (.ifCond .ne 6, 3) := by decide +kernel
theorem dX10_guild_11 : decode cX10_guild 11 = .ok (.bipush (-2), 2) := by decide +kernel
theorem dX10_guild_13 : decode cX10_guild 13 = .ok (.ireturn, 1) := by decide +kernel
theorem dX10_guild_14 : decode cX10_guild 14 = .ok (.aload_n 0, 1) := by decide +kernel
theorem dX10_guild_15 : decode cX10_guild 15 = .ok (.getfield 42, 3) := by decide +kernel
theorem dX10_guild_18 : decode cX10_guild 18 = .ok (.iload_n 1, 1) := by decide +kernel
theorem dX10_guild_19 : decode cX10_guild 19 = .ok (.invokevirtual 120, 3) := by decide +kernel
theorem dX10_guild_22 : decode cX10_guild 22 = .ok (.istore_n 3, 1) := by decide +kernel
theorem dX10_guild_23 : decode cX10_guild 23 = .ok (.iload_n 2, 1) := by decide +kernel
theorem dX10_guild_24 : decode cX10_guild 24 = .ok (.tableswitch 185 0 10 #[60, 70, 80, 90, 100, 110, 127, 137, 146, 159, 172], 60) := by decide +kernel
theorem dX10_guild_84 : decode cX10_guild 84 = .ok (.aload_n 0, 1) := by decide +kernel
theorem dX10_guild_85 : decode cX10_guild 85 = .ok (.getfield 27, 3) := by decide +kernel
theorem dX10_guild_88 : decode cX10_guild 88 = .ok (.getfield 124, 3) := by decide +kernel
theorem dX10_guild_91 : decode cX10_guild 91 = .ok (.iload_n 1, 1) := by decide +kernel
theorem dX10_guild_92 : decode cX10_guild 92 = .ok (.iaload, 1) := by decide +kernel
theorem dX10_guild_93 : decode cX10_guild 93 = .ok (.ireturn, 1) := by decide +kernel
theorem dX10_guild_94 : decode cX10_guild 94 = .ok (.aload_n 0, 1) := by decide +kernel
theorem dX10_guild_95 : decode cX10_guild 95 = .ok (.getfield 27, 3) := by decide +kernel
theorem dX10_guild_98 : decode cX10_guild 98 = .ok (.getfield 128, 3) := by decide +kernel
theorem dX10_guild_101 : decode cX10_guild 101 = .ok (.iload_n 1, 1) := by decide +kernel
theorem dX10_guild_102 : decode cX10_guild 102 = .ok (.iaload, 1) := by decide +kernel
theorem dX10_guild_103 : decode cX10_guild 103 = .ok (.ireturn, 1) := by decide +kernel
theorem dX10_guild_104 : decode cX10_guild 104 = .ok (.aload_n 0, 1) := by decide +kernel
theorem dX10_guild_105 : decode cX10_guild 105 = .ok (.getfield 27, 3) := by decide +kernel
theorem dX10_guild_108 : decode cX10_guild 108 = .ok (.getfield 131, 3) := by decide +kernel
theorem dX10_guild_111 : decode cX10_guild 111 = .ok (.iload_n 1, 1) := by decide +kernel
theorem dX10_guild_112 : decode cX10_guild 112 = .ok (.iaload, 1) := by decide +kernel
theorem dX10_guild_113 : decode cX10_guild 113 = .ok (.ireturn, 1) := by decide +kernel
theorem dX10_guild_114 : decode cX10_guild 114 = .ok (.aload_n 0, 1) := by decide +kernel
theorem dX10_guild_115 : decode cX10_guild 115 = .ok (.getfield 42, 3) := by decide +kernel
theorem dX10_guild_118 : decode cX10_guild 118 = .ok (.getfield 134, 3) := by decide +kernel
theorem dX10_guild_121 : decode cX10_guild 121 = .ok (.iload_n 1, 1) := by decide +kernel
theorem dX10_guild_122 : decode cX10_guild 122 = .ok (.iaload, 1) := by decide +kernel
theorem dX10_guild_123 : decode cX10_guild 123 = .ok (.ireturn, 1) := by decide +kernel
theorem dX10_guild_124 : decode cX10_guild 124 = .ok (.aload_n 0, 1) := by decide +kernel
theorem dX10_guild_125 : decode cX10_guild 125 = .ok (.getfield 42, 3) := by decide +kernel
theorem dX10_guild_128 : decode cX10_guild 128 = .ok (.getfield 137, 3) := by decide +kernel
theorem dX10_guild_131 : decode cX10_guild 131 = .ok (.iload_n 1, 1) := by decide +kernel
theorem dX10_guild_132 : decode cX10_guild 132 = .ok (.iaload, 1) := by decide +kernel
theorem dX10_guild_133 : decode cX10_guild 133 = .ok (.ireturn, 1) := by decide +kernel
theorem dX10_guild_134 : decode cX10_guild 134 = .ok (.aload_n 0, 1) := by decide +kernel
theorem dX10_guild_135 : decode cX10_guild 135 = .ok (.getfield 42, 3) := by decide +kernel
theorem dX10_guild_138 : decode cX10_guild 138 = .ok (.iload_n 1, 1) := by decide +kernel
theorem dX10_guild_139 : decode cX10_guild 139 = .ok (.invokevirtual 140, 3) := by decide +kernel
theorem dX10_guild_142 : decode cX10_guild 142 = .ok (.ifCond .eq 7, 3) := by decide +kernel
theorem dX10_guild_145 : decode cX10_guild 145 = .ok (.iconst 1, 1) := by decide +kernel
theorem dX10_guild_146 : decode cX10_guild 146 = .ok (.goto 4, 3) := by decide +kernel
theorem dX10_guild_149 : decode cX10_guild 149 = .ok (.iconst 0, 1) := by decide +kernel
theorem dX10_guild_150 : decode cX10_guild 150 = .ok (.ireturn, 1) := by decide +kernel
theorem dX10_guild_151 : decode cX10_guild 151 = .ok (.aload_n 0, 1) := by decide +kernel
theorem dX10_guild_152 : decode cX10_guild 152 = .ok (.getfield 42, 3) := by decide +kernel
theorem dX10_guild_155 : decode cX10_guild 155 = .ok (.getfield 143, 3) := by decide +kernel
theorem dX10_guild_158 : decode cX10_guild 158 = .ok (.iload_n 1, 1) := by decide +kernel
theorem dX10_guild_159 : decode cX10_guild 159 = .ok (.iaload, 1) := by decide +kernel
theorem dX10_guild_160 : decode cX10_guild 160 = .ok (.ireturn, 1) := by decide +kernel
theorem dX10_guild_161 : decode cX10_guild 161 = .ok (.aload_n 0, 1) := by decide +kernel
theorem dX10_guild_162 : decode cX10_guild 162 = .ok (.getfield 42, 3) := by decide +kernel
theorem dX10_guild_165 : decode cX10_guild 165 = .ok (.iload_n 1, 1) := by decide +kernel
theorem dX10_guild_166 : decode cX10_guild 166 = .ok (.invokevirtual 146, 3) := by decide +kernel
theorem dX10_guild_169 : decode cX10_guild 169 = .ok (.ireturn, 1) := by decide +kernel
theorem dX10_guild_170 : decode cX10_guild 170 = .ok (.aload_n 0, 1) := by decide +kernel
theorem dX10_guild_171 : decode cX10_guild 171 = .ok (.getfield 35, 3) := by decide +kernel
theorem dX10_guild_174 : decode cX10_guild 174 = .ok (.aload_n 0, 1) := by decide +kernel
theorem dX10_guild_175 : decode cX10_guild 175 = .ok (.getfield 42, 3) := by decide +kernel
theorem dX10_guild_178 : decode cX10_guild 178 = .ok (.iload_n 3, 1) := by decide +kernel
theorem dX10_guild_179 : decode cX10_guild 179 = .ok (.invokevirtual 149, 3) := by decide +kernel
theorem dX10_guild_182 : decode cX10_guild 182 = .ok (.ireturn, 1) := by decide +kernel
theorem dX10_guild_183 : decode cX10_guild 183 = .ok (.aload_n 0, 1) := by decide +kernel
theorem dX10_guild_184 : decode cX10_guild 184 = .ok (.getfield 35, 3) := by decide +kernel
theorem dX10_guild_187 : decode cX10_guild 187 = .ok (.aload_n 0, 1) := by decide +kernel
theorem dX10_guild_188 : decode cX10_guild 188 = .ok (.getfield 42, 3) := by decide +kernel
theorem dX10_guild_191 : decode cX10_guild 191 = .ok (.iload_n 3, 1) := by decide +kernel
theorem dX10_guild_192 : decode cX10_guild 192 = .ok (.invokevirtual 153, 3) := by decide +kernel
theorem dX10_guild_195 : decode cX10_guild 195 = .ok (.ireturn, 1) := by decide +kernel
theorem dX10_guild_196 : decode cX10_guild 196 = .ok (.aload_n 0, 1) := by decide +kernel
theorem dX10_guild_197 : decode cX10_guild 197 = .ok (.getfield 35, 3) := by decide +kernel
theorem dX10_guild_200 : decode cX10_guild 200 = .ok (.aload_n 0, 1) := by decide +kernel
theorem dX10_guild_201 : decode cX10_guild 201 = .ok (.getfield 42, 3) := by decide +kernel
theorem dX10_guild_204 : decode cX10_guild 204 = .ok (.iload_n 3, 1) := by decide +kernel
theorem dX10_guild_205 : decode cX10_guild 205 = .ok (.invokevirtual 156, 3) := by decide +kernel
theorem dX10_guild_208 : decode cX10_guild 208 = .ok (.ireturn, 1) := by decide +kernel
theorem dX10_guild_209 : decode cX10_guild 209 = .ok (.bipush (-2), 2) := by decide +kernel
theorem dX10_guild_211 : decode cX10_guild 211 = .ok (.ireturn, 1) := by decide +kernel
theorem dX10_corner_0 : decode cX10_corner 0 = .ok (.iload_n 1, 1) := by decide +kernel
theorem dX10_corner_1 : decode cX10_corner 1 = .ok (.ifCond .lt 14, 3) := by decide +kernel
theorem dX10_corner_4 : decode cX10_corner 4 = .ok (.iload_n 1, 1) := by decide +kernel
theorem dX10_corner_5 : decode cX10_corner 5 = .ok (.aload_n 0, 1) := by decide +kernel
theorem dX10_corner_6 : decode cX10_corner 6 = .ok (.getfield 27, 3) := by decide +kernel
theorem dX10_corner_9 : decode cX10_corner 9 = .ok (.getfield 159, 3) := by decide +kernel
theorem dX10_corner_12 : decode cX10_corner 12 = .ok (.if_icmp .lt 5, 3) := by decide +kernel
theorem dX10_corner_15 : decode cX10_corner 15 = .ok (.iconst (-1), 1) := by decide +kernel
theorem dX10_corner_16 : decode cX10_corner 16 = .ok (.ireturn, 1) := by decide +kernel
theorem dX10_corner_17 : decode cX10_corner 17 = .ok (.iload_n 2, 1) := by decide +kernel
theorem dX10_corner_18 : decode cX10_corner 18 = .ok (.tableswitch 70 0 3 #[30, 40, 50, 60], 30) := by decide +kernel
theorem dX10_corner_48 : decode cX10_corner 48 = .ok (.aload_n 0, 1) := by decide +kernel
theorem dX10_corner_49 : decode cX10_corner 49 = .ok (.getfield 27, 3) := by decide +kernel
theorem dX10_corner_52 : decode cX10_corner 52 = .ok (.getfield 162, 3) := by decide +kernel
theorem dX10_corner_55 : decode cX10_corner 55 = .ok (.iload_n 1, 1) := by decide +kernel
theorem dX10_corner_56 : decode cX10_corner 56 = .ok (.iaload, 1) := by decide +kernel
theorem dX10_corner_57 : decode cX10_corner 57 = .ok (.ireturn, 1) := by decide +kernel
theorem dX10_corner_58 : decode cX10_corner 58 = .ok (.aload_n 0, 1) := by decide +kernel
theorem dX10_corner_59 : decode cX10_corner 59 = .ok (.getfield 27, 3) := by decide +kernel
theorem dX10_corner_62 : decode cX10_corner 62 = .ok (.getfield 165, 3) := by decide +kernel
theorem dX10_corner_65 : decode cX10_corner 65 = .ok (.iload_n 1, 1) := by decide +kernel
theorem dX10_corner_66 : decode cX10_corner 66 = .ok (.iaload, 1) := by decide +kernel
theorem dX10_corner_67 : decode cX10_corner 67 = .ok (.ireturn, 1) := by decide +kernel
theorem dX10_corner_68 : decode cX10_corner 68 = .ok (.aload_n 0, 1) := by decide +kernel
theorem dX10_corner_69 : decode cX10_corner 69 = .ok (.getfield 27, 3) := by decide +kernel
theorem dX10_corner_72 : decode cX10_corner 72 = .ok (.getfield 168, 3) := by decide +kernel
theorem dX10_corner_75 : decode cX10_corner 75 = .ok (.iload_n 1, 1) := by decide +kernel
theorem dX10_corner_76 : decode cX10_corner 76 = .ok (.iaload, 1) := by decide +kernel
theorem dX10_corner_77 : decode cX10_corner 77 = .ok (.ireturn, 1) := by decide +kernel
theorem dX10_corner_78 : decode cX10_corner 78 = .ok (.aload_n 0, 1) := by decide +kernel
theorem dX10_corner_79 : decode cX10_corner 79 = .ok (.getfield 27, 3) := by decide +kernel
theorem dX10_corner_82 : decode cX10_corner 82 = .ok (.getfield 171, 3) := by decide +kernel
theorem dX10_corner_85 : decode cX10_corner 85 = .ok (.iload_n 1, 1) := by decide +kernel
theorem dX10_corner_86 : decode cX10_corner 86 = .ok (.iaload, 1) := by decide +kernel
theorem dX10_corner_87 : decode cX10_corner 87 = .ok (.ireturn, 1) := by decide +kernel
theorem dX10_corner_88 : decode cX10_corner 88 = .ok (.iconst (-1), 1) := by decide +kernel
theorem dX10_corner_89 : decode cX10_corner 89 = .ok (.ireturn, 1) := by decide +kernel
theorem dX10_place_0 : decode cX10_place 0 = .ok (.aload_n 0, 1) := by decide +kernel
theorem dX10_place_1 : decode cX10_place 1 = .ok (.getfield 27, 3) := by decide +kernel
theorem dX10_place_4 : decode cX10_place 4 = .ok (.iload_n 1, 1) := by decide +kernel
theorem dX10_place_5 : decode cX10_place 5 = .ok (.invokevirtual 116, 3) := by decide +kernel
theorem dX10_place_8 : decode cX10_place 8 = .ok (.ifCond .eq 15, 3) := by decide +kernel
theorem dX10_place_11 : decode cX10_place 11 = .ok (.aload_n 0, 1) := by decide +kernel
theorem dX10_place_12 : decode cX10_place 12 = .ok (.getfield 42, 3) := by decide +kernel
theorem dX10_place_15 : decode cX10_place 15 = .ok (.getfield 174, 3) := by decide +kernel
theorem dX10_place_18 : decode cX10_place 18 = .ok (.iload_n 1, 1) := by decide +kernel
theorem dX10_place_19 : decode cX10_place 19 = .ok (.iaload, 1) := by decide +kernel
theorem dX10_place_20 : decode cX10_place 20 = .ok (.goto 4, 3) := by decide +kernel
theorem dX10_place_23 : decode cX10_place 23 = .ok (.iconst (-1), 1) := by decide +kernel
theorem dX10_place_24 : decode cX10_place 24 = .ok (.ireturn, 1) := by decide +kernel
theorem dX10_strain_0 : decode cX10_strain 0 = .ok (.iload_n 2, 1) := by decide +kernel
theorem dX10_strain_1 : decode cX10_strain 1 = .ok (.ifCond .eq 8, 3) := by decide +kernel
theorem dX10_strain_4 : decode cX10_strain 4 = .ok (.iload_n 2, 1) := by decide +kernel
theorem dX10_strain_5 : decode cX10_strain 5 = .ok (.iconst 1, 1) := by decide +kernel
theorem dX10_strain_6 : decode cX10_strain 6 = .ok (.if_icmp .ne 7, 3) := by decide +kernel
theorem dX10_strain_9 : decode cX10_strain 9 = .ok (.iconst 1, 1) := by decide +kernel
theorem dX10_strain_10 : decode cX10_strain 10 = .ok (.goto 4, 3) := by decide +kernel
theorem dX10_strain_13 : decode cX10_strain 13 = .ok (.iconst 0, 1) := by decide +kernel
theorem dX10_strain_14 : decode cX10_strain 14 = .ok (.istore_n 3, 1) := by decide +kernel
theorem dX10_strain_15 : decode cX10_strain 15 = .ok (.iload_n 3, 1) := by decide +kernel
theorem dX10_strain_16 : decode cX10_strain 16 = .ok (.ifCond .eq 25, 3) := by decide +kernel
theorem dX10_strain_19 : decode cX10_strain 19 = .ok (.aload_n 0, 1) := by decide +kernel
theorem dX10_strain_20 : decode cX10_strain 20 = .ok (.getfield 35, 3) := by decide +kernel
theorem dX10_strain_23 : decode cX10_strain 23 = .ok (.aload_n 0, 1) := by decide +kernel
theorem dX10_strain_24 : decode cX10_strain 24 = .ok (.getfield 42, 3) := by decide +kernel
theorem dX10_strain_27 : decode cX10_strain 27 = .ok (.invokevirtual 177, 3) := by decide +kernel
theorem dX10_strain_30 : decode cX10_strain 30 = .ok (.ifCond .ne 11, 3) := by decide +kernel
theorem dX10_strain_33 : decode cX10_strain 33 = .ok (.aload_n 0, 1) := by decide +kernel
theorem dX10_strain_34 : decode cX10_strain 34 = .ok (.iload_n 1, 1) := by decide +kernel
theorem dX10_strain_35 : decode cX10_strain 35 = .ok (.invokevirtual 181, 3) := by decide +kernel
theorem dX10_strain_38 : decode cX10_strain 38 = .ok (.ifCond .ne 6, 3) := by decide +kernel
theorem dX10_strain_41 : decode cX10_strain 41 = .ok (.ldc 184, 2) := by decide +kernel
theorem dX10_strain_43 : decode cX10_strain 43 = .ok (.ireturn, 1) := by decide +kernel
theorem dX10_strain_44 : decode cX10_strain 44 = .ok (.aload_n 0, 1) := by decide +kernel
theorem dX10_strain_45 : decode cX10_strain 45 = .ok (.getfield 35, 3) := by decide +kernel
theorem dX10_strain_48 : decode cX10_strain 48 = .ok (.aload_n 0, 1) := by decide +kernel
theorem dX10_strain_49 : decode cX10_strain 49 = .ok (.getfield 42, 3) := by decide +kernel
theorem dX10_strain_52 : decode cX10_strain 52 = .ok (.iload_n 1, 1) := by decide +kernel
theorem dX10_strain_53 : decode cX10_strain 53 = .ok (.aload_n 0, 1) := by decide +kernel
theorem dX10_strain_54 : decode cX10_strain 54 = .ok (.getfield 35, 3) := by decide +kernel
theorem dX10_strain_57 : decode cX10_strain 57 = .ok (.aload_n 0, 1) := by decide +kernel
theorem dX10_strain_58 : decode cX10_strain 58 = .ok (.getfield 42, 3) := by decide +kernel
theorem dX10_strain_61 : decode cX10_strain 61 = .ok (.iload_n 1, 1) := by decide +kernel
theorem dX10_strain_62 : decode cX10_strain 62 = .ok (.invokevirtual 185, 3) := by decide +kernel
theorem dX10_strain_65 : decode cX10_strain 65 = .ok (.iconst 0, 1) := by decide +kernel
theorem dX10_strain_66 : decode cX10_strain 66 = .ok (.invokevirtual 188, 3) := by decide +kernel
theorem dX10_strain_69 : decode cX10_strain 69 = .ok (.iload_n 2, 1) := by decide +kernel
theorem dX10_strain_70 : decode cX10_strain 70 = .ok (.ifCond .ne 13, 3) := by decide +kernel
theorem dX10_strain_73 : decode cX10_strain 73 = .ok (.aload_n 0, 1) := by decide +kernel
theorem dX10_strain_74 : decode cX10_strain 74 = .ok (.getfield 35, 3) := by decide +kernel
theorem dX10_strain_77 : decode cX10_strain 77 = .ok (.getfield 192, 3) := by decide +kernel
theorem dX10_strain_80 : decode cX10_strain 80 = .ok (.goto 10, 3) := by decide +kernel
theorem dX10_strain_83 : decode cX10_strain 83 = .ok (.aload_n 0, 1) := by decide +kernel
theorem dX10_strain_84 : decode cX10_strain 84 = .ok (.getfield 35, 3) := by decide +kernel
theorem dX10_strain_87 : decode cX10_strain 87 = .ok (.getfield 195, 3) := by decide +kernel
theorem dX10_strain_90 : decode cX10_strain 90 = .ok (.ireturn, 1) := by decide +kernel
theorem dX10_step_0 : decode cX10_step 0 = .ok (.aload_n 0, 1) := by decide +kernel
theorem dX10_step_1 : decode cX10_step 1 = .ok (.getfield 35, 3) := by decide +kernel
theorem dX10_step_4 : decode cX10_step 4 = .ok (.aload_n 0, 1) := by decide +kernel
theorem dX10_step_5 : decode cX10_step 5 = .ok (.getfield 42, 3) := by decide +kernel
theorem dX10_step_8 : decode cX10_step 8 = .ok (.invokevirtual 177, 3) := by decide +kernel
theorem dX10_step_11 : decode cX10_step 11 = .ok (.ifCond .eq 5, 3) := by decide +kernel
theorem dX10_step_14 : decode cX10_step 14 = .ok (.iconst (-1), 1) := by decide +kernel
theorem dX10_step_15 : decode cX10_step 15 = .ok (.ireturn, 1) := by decide +kernel
theorem dX10_step_16 : decode cX10_step 16 = .ok (.aload_n 0, 1) := by decide +kernel
theorem dX10_step_17 : decode cX10_step 17 = .ok (.getfield 35, 3) := by decide +kernel
theorem dX10_step_20 : decode cX10_step 20 = .ok (.aload_n 0, 1) := by decide +kernel
theorem dX10_step_21 : decode cX10_step 21 = .ok (.getfield 42, 3) := by decide +kernel
theorem dX10_step_24 : decode cX10_step 24 = .ok (.invokevirtual 198, 3) := by decide +kernel
theorem dX10_step_27 : decode cX10_step 27 = .ok (.istore_n 1, 1) := by decide +kernel
theorem dX10_step_28 : decode cX10_step 28 = .ok (.aload_n 0, 1) := by decide +kernel
theorem dX10_step_29 : decode cX10_step 29 = .ok (.getfield 35, 3) := by decide +kernel
theorem dX10_step_32 : decode cX10_step 32 = .ok (.aload_n 0, 1) := by decide +kernel
theorem dX10_step_33 : decode cX10_step 33 = .ok (.getfield 42, 3) := by decide +kernel
theorem dX10_step_36 : decode cX10_step 36 = .ok (.iload_n 1, 1) := by decide +kernel
theorem dX10_step_37 : decode cX10_step 37 = .ok (.invokevirtual 202, 3) := by decide +kernel
theorem dX10_step_40 : decode cX10_step 40 = .ok (.istore_n 2, 1) := by decide +kernel
theorem dX10_step_41 : decode cX10_step 41 = .ok (.aload_n 0, 1) := by decide +kernel
theorem dX10_step_42 : decode cX10_step 42 = .ok (.getfield 49, 3) := by decide +kernel
theorem dX10_step_45 : decode cX10_step 45 = .ok (.aload_n 0, 1) := by decide +kernel
theorem dX10_step_46 : decode cX10_step 46 = .ok (.getfield 42, 3) := by decide +kernel
theorem dX10_step_49 : decode cX10_step 49 = .ok (.invokevirtual 205, 3) := by decide +kernel
theorem dX10_step_52 : decode cX10_step 52 = .ok (.iload_n 2, 1) := by decide +kernel
theorem dX10_step_53 : decode cX10_step 53 = .ok (.ireturn, 1) := by decide +kernel
theorem dX10_reef_0 : decode cX10_reef 0 = .ok (.aload_n 0, 1) := by decide +kernel
theorem dX10_reef_1 : decode cX10_reef 1 = .ok (.getfield 27, 3) := by decide +kernel
theorem dX10_reef_4 : decode cX10_reef 4 = .ok (.iload_n 1, 1) := by decide +kernel
theorem dX10_reef_5 : decode cX10_reef 5 = .ok (.invokevirtual 116, 3) := by decide +kernel
theorem dX10_reef_8 : decode cX10_reef 8 = .ok (.ifCond .eq 26, 3) := by decide +kernel
theorem dX10_reef_11 : decode cX10_reef 11 = .ok (.iload_n 2, 1) := by decide +kernel
theorem dX10_reef_12 : decode cX10_reef 12 = .ok (.ifCond .lt 22, 3) := by decide +kernel
theorem dX10_reef_15 : decode cX10_reef 15 = .ok (.iload_n 2, 1) := by decide +kernel
theorem dX10_reef_16 : decode cX10_reef 16 = .ok (.bipush 20, 2) := by decide +kernel
theorem dX10_reef_18 : decode cX10_reef 18 = .ok (.if_icmp .gt 16, 3) := by decide +kernel
theorem dX10_reef_21 : decode cX10_reef 21 = .ok (.aload_n 0, 1) := by decide +kernel
theorem dX10_reef_22 : decode cX10_reef 22 = .ok (.getfield 42, 3) := by decide +kernel
theorem dX10_reef_25 : decode cX10_reef 25 = .ok (.getfield 134, 3) := by decide +kernel
theorem dX10_reef_28 : decode cX10_reef 28 = .ok (.iload_n 1, 1) := by decide +kernel
theorem dX10_reef_29 : decode cX10_reef 29 = .ok (.iaload, 1) := by decide +kernel
theorem dX10_reef_30 : decode cX10_reef 30 = .ok (.iload_n 2, 1) := by decide +kernel
theorem dX10_reef_31 : decode cX10_reef 31 = .ok (.if_icmp .ne 5, 3) := by decide +kernel
theorem dX10_reef_34 : decode cX10_reef 34 = .ok (.iconst (-1), 1) := by decide +kernel
theorem dX10_reef_35 : decode cX10_reef 35 = .ok (.ireturn, 1) := by decide +kernel
theorem dX10_reef_36 : decode cX10_reef 36 = .ok (.aload_n 0, 1) := by decide +kernel
theorem dX10_reef_37 : decode cX10_reef 37 = .ok (.getfield 42, 3) := by decide +kernel
theorem dX10_reef_40 : decode cX10_reef 40 = .ok (.getfield 134, 3) := by decide +kernel
theorem dX10_reef_43 : decode cX10_reef 43 = .ok (.iload_n 1, 1) := by decide +kernel
theorem dX10_reef_44 : decode cX10_reef 44 = .ok (.iaload, 1) := by decide +kernel
theorem dX10_reef_45 : decode cX10_reef 45 = .ok (.istore_n 3, 1) := by decide +kernel
theorem dX10_reef_46 : decode cX10_reef 46 = .ok (.aload_n 0, 1) := by decide +kernel
theorem dX10_reef_47 : decode cX10_reef 47 = .ok (.getfield 42, 3) := by decide +kernel
theorem dX10_reef_50 : decode cX10_reef 50 = .ok (.getfield 134, 3) := by decide +kernel
theorem dX10_reef_53 : decode cX10_reef 53 = .ok (.iload_n 1, 1) := by decide +kernel
theorem dX10_reef_54 : decode cX10_reef 54 = .ok (.iload_n 2, 1) := by decide +kernel
theorem dX10_reef_55 : decode cX10_reef 55 = .ok (.iastore, 1) := by decide +kernel
theorem dX10_reef_56 : decode cX10_reef 56 = .ok (.aload_n 0, 1) := by decide +kernel
theorem dX10_reef_57 : decode cX10_reef 57 = .ok (.getfield 49, 3) := by decide +kernel
theorem dX10_reef_60 : decode cX10_reef 60 = .ok (.aload_n 0, 1) := by decide +kernel
theorem dX10_reef_61 : decode cX10_reef 61 = .ok (.getfield 42, 3) := by decide +kernel
theorem dX10_reef_64 : decode cX10_reef 64 = .ok (.invokevirtual 205, 3) := by decide +kernel
theorem dX10_reef_67 : decode cX10_reef 67 = .ok (.iload_n 3, 1) := by decide +kernel
theorem dX10_reef_68 : decode cX10_reef 68 = .ok (.ireturn, 1) := by decide +kernel
theorem dX10_child_0 : decode cX10_child 0 = .ok (.aload_n 0, 1) := by decide +kernel
theorem dX10_child_1 : decode cX10_child 1 = .ok (.getfield 27, 3) := by decide +kernel
theorem dX10_child_4 : decode cX10_child 4 = .ok (.iload_n 1, 1) := by decide +kernel
theorem dX10_child_5 : decode cX10_child 5 = .ok (.invokevirtual 116, 3) := by decide +kernel
theorem dX10_child_8 : decode cX10_child 8 = .ok (.ifCond .eq 30, 3) := by decide +kernel
theorem dX10_child_11 : decode cX10_child 11 = .ok (.iload_n 2, 1) := by decide +kernel
theorem dX10_child_12 : decode cX10_child 12 = .ok (.iconst 1, 1) := by decide +kernel
theorem dX10_child_13 : decode cX10_child 13 = .ok (.if_icmp .lt 25, 3) := by decide +kernel
theorem dX10_child_16 : decode cX10_child 16 = .ok (.iload_n 2, 1) := by decide +kernel
theorem dX10_child_17 : decode cX10_child 17 = .ok (.bipush 9, 2) := by decide +kernel
theorem dX10_child_19 : decode cX10_child 19 = .ok (.if_icmp .gt 19, 3) := by decide +kernel
theorem dX10_child_22 : decode cX10_child 22 = .ok (.aload_n 0, 1) := by decide +kernel
theorem dX10_child_23 : decode cX10_child 23 = .ok (.getfield 42, 3) := by decide +kernel
theorem dX10_child_26 : decode cX10_child 26 = .ok (.getfield 137, 3) := by decide +kernel
theorem dX10_child_29 : decode cX10_child 29 = .ok (.iload_n 1, 1) := by decide +kernel
theorem dX10_child_30 : decode cX10_child 30 = .ok (.iaload, 1) := by decide +kernel
theorem dX10_child_31 : decode cX10_child 31 = .ok (.iload_n 2, 1) := by decide +kernel
theorem dX10_child_32 : decode cX10_child 32 = .ok (.iadd, 1) := by decide +kernel
theorem dX10_child_33 : decode cX10_child 33 = .ok (.bipush 99, 2) := by decide +kernel
theorem dX10_child_35 : decode cX10_child 35 = .ok (.if_icmp .le 5, 3) := by decide +kernel
theorem dX10_child_38 : decode cX10_child 38 = .ok (.iconst (-1), 1) := by decide +kernel
theorem dX10_child_39 : decode cX10_child 39 = .ok (.ireturn, 1) := by decide +kernel
theorem dX10_child_40 : decode cX10_child 40 = .ok (.aload_n 0, 1) := by decide +kernel
theorem dX10_child_41 : decode cX10_child 41 = .ok (.getfield 42, 3) := by decide +kernel
theorem dX10_child_44 : decode cX10_child 44 = .ok (.getfield 137, 3) := by decide +kernel
theorem dX10_child_47 : decode cX10_child 47 = .ok (.iload_n 1, 1) := by decide +kernel
theorem dX10_child_48 : decode cX10_child 48 = .ok (.dup2, 1) := by decide +kernel
theorem dX10_child_49 : decode cX10_child 49 = .ok (.iaload, 1) := by decide +kernel
theorem dX10_child_50 : decode cX10_child 50 = .ok (.iload_n 2, 1) := by decide +kernel
theorem dX10_child_51 : decode cX10_child 51 = .ok (.iadd, 1) := by decide +kernel
theorem dX10_child_52 : decode cX10_child 52 = .ok (.iastore, 1) := by decide +kernel
theorem dX10_child_53 : decode cX10_child 53 = .ok (.aload_n 0, 1) := by decide +kernel
theorem dX10_child_54 : decode cX10_child 54 = .ok (.getfield 49, 3) := by decide +kernel
theorem dX10_child_57 : decode cX10_child 57 = .ok (.aload_n 0, 1) := by decide +kernel
theorem dX10_child_58 : decode cX10_child 58 = .ok (.getfield 42, 3) := by decide +kernel
theorem dX10_child_61 : decode cX10_child 61 = .ok (.invokevirtual 205, 3) := by decide +kernel
theorem dX10_child_64 : decode cX10_child 64 = .ok (.aload_n 0, 1) := by decide +kernel
theorem dX10_child_65 : decode cX10_child 65 = .ok (.getfield 42, 3) := by decide +kernel
theorem dX10_child_68 : decode cX10_child 68 = .ok (.getfield 137, 3) := by decide +kernel
theorem dX10_child_71 : decode cX10_child 71 = .ok (.iload_n 1, 1) := by decide +kernel
theorem dX10_child_72 : decode cX10_child 72 = .ok (.iaload, 1) := by decide +kernel
theorem dX10_child_73 : decode cX10_child 73 = .ok (.ireturn, 1) := by decide +kernel
theorem dX10_swap_0 : decode cX10_swap 0 = .ok (.aload_n 0, 1) := by decide +kernel
theorem dX10_swap_1 : decode cX10_swap 1 = .ok (.getfield 27, 3) := by decide +kernel
theorem dX10_swap_4 : decode cX10_swap 4 = .ok (.iload_n 1, 1) := by decide +kernel
theorem dX10_swap_5 : decode cX10_swap 5 = .ok (.invokevirtual 116, 3) := by decide +kernel
theorem dX10_swap_8 : decode cX10_swap 8 = .ok (.ifCond .eq 19, 3) := by decide +kernel
theorem dX10_swap_11 : decode cX10_swap 11 = .ok (.aload_n 0, 1) := by decide +kernel
theorem dX10_swap_12 : decode cX10_swap 12 = .ok (.getfield 27, 3) := by decide +kernel
theorem dX10_swap_15 : decode cX10_swap 15 = .ok (.iload_n 2, 1) := by decide +kernel
theorem dX10_swap_16 : decode cX10_swap 16 = .ok (.invokevirtual 116, 3) := by decide +kernel
theorem dX10_swap_19 : decode cX10_swap 19 = .ok (.ifCond .eq 8, 3) := by decide +kernel
theorem dX10_swap_22 : decode cX10_swap 22 = .ok (.iload_n 1, 1) := by decide +kernel
theorem dX10_swap_23 : decode cX10_swap 23 = .ok (.iload_n 2, 1) := by decide +kernel
theorem dX10_swap_24 : decode cX10_swap 24 = .ok (.if_icmp .ne 5, 3) := by decide +kernel
theorem dX10_swap_27 : decode cX10_swap 27 = .ok (.iconst 0, 1) := by decide +kernel
theorem dX10_swap_28 : decode cX10_swap 28 = .ok (.ireturn, 1) := by decide +kernel
theorem dX10_swap_29 : decode cX10_swap 29 = .ok (.aload_n 0, 1) := by decide +kernel
theorem dX10_swap_30 : decode cX10_swap 30 = .ok (.getfield 42, 3) := by decide +kernel
theorem dX10_swap_33 : decode cX10_swap 33 = .ok (.iload_n 1, 1) := by decide +kernel
theorem dX10_swap_34 : decode cX10_swap 34 = .ok (.invokevirtual 146, 3) := by decide +kernel
theorem dX10_swap_37 : decode cX10_swap 37 = .ok (.istore_n 3, 1) := by decide +kernel
theorem dX10_swap_38 : decode cX10_swap 38 = .ok (.aload_n 0, 1) := by decide +kernel
theorem dX10_swap_39 : decode cX10_swap 39 = .ok (.getfield 42, 3) := by decide +kernel
theorem dX10_swap_42 : decode cX10_swap 42 = .ok (.iload_n 2, 1) := by decide +kernel
theorem dX10_swap_43 : decode cX10_swap 43 = .ok (.invokevirtual 146, 3) := by decide +kernel
theorem dX10_swap_46 : decode cX10_swap 46 = .ok (.istore 4, 2) := by decide +kernel
theorem dX10_swap_48 : decode cX10_swap 48 = .ok (.iload_n 3, 1) := by decide +kernel
theorem dX10_swap_49 : decode cX10_swap 49 = .ok (.iconst (-1), 1) := by decide +kernel
theorem dX10_swap_50 : decode cX10_swap 50 = .ok (.if_icmp .eq 9, 3) := by decide +kernel
theorem dX10_swap_53 : decode cX10_swap 53 = .ok (.iload 4, 2) := by decide +kernel
theorem dX10_swap_55 : decode cX10_swap 55 = .ok (.iconst (-1), 1) := by decide +kernel
theorem dX10_swap_56 : decode cX10_swap 56 = .ok (.if_icmp .ne 5, 3) := by decide +kernel
theorem dX10_swap_59 : decode cX10_swap 59 = .ok (.iconst 0, 1) := by decide +kernel
theorem dX10_swap_60 : decode cX10_swap 60 = .ok (.ireturn, 1) := by decide +kernel
theorem dX10_swap_61 : decode cX10_swap 61 = .ok (.aload_n 0, 1) := by decide +kernel
theorem dX10_swap_62 : decode cX10_swap 62 = .ok (.getfield 42, 3) := by decide +kernel
theorem dX10_swap_65 : decode cX10_swap 65 = .ok (.getfield 174, 3) := by decide +kernel
theorem dX10_swap_68 : decode cX10_swap 68 = .ok (.iload_n 3, 1) := by decide +kernel
theorem dX10_swap_69 : decode cX10_swap 69 = .ok (.iload_n 2, 1) := by decide +kernel
theorem dX10_swap_70 : decode cX10_swap 70 = .ok (.iastore, 1) := by decide +kernel
theorem dX10_swap_71 : decode cX10_swap 71 = .ok (.aload_n 0, 1) := by decide +kernel
theorem dX10_swap_72 : decode cX10_swap 72 = .ok (.getfield 42, 3) := by decide +kernel
theorem dX10_swap_75 : decode cX10_swap 75 = .ok (.getfield 174, 3) := by decide +kernel
theorem dX10_swap_78 : decode cX10_swap 78 = .ok (.iload 4, 2) := by decide +kernel
theorem dX10_swap_80 : decode cX10_swap 80 = .ok (.iload_n 1, 1) := by decide +kernel
theorem dX10_swap_81 : decode cX10_swap 81 = .ok (.iastore, 1) := by decide +kernel
theorem dX10_swap_82 : decode cX10_swap 82 = .ok (.aload_n 0, 1) := by decide +kernel
theorem dX10_swap_83 : decode cX10_swap 83 = .ok (.getfield 49, 3) := by decide +kernel
theorem dX10_swap_86 : decode cX10_swap 86 = .ok (.aload_n 0, 1) := by decide +kernel
theorem dX10_swap_87 : decode cX10_swap 87 = .ok (.getfield 42, 3) := by decide +kernel
theorem dX10_swap_90 : decode cX10_swap 90 = .ok (.invokevirtual 205, 3) := by decide +kernel
theorem dX10_swap_93 : decode cX10_swap 93 = .ok (.iconst 1, 1) := by decide +kernel
theorem dX10_swap_94 : decode cX10_swap 94 = .ok (.ireturn, 1) := by decide +kernel
theorem dX10_under_0 : decode cX10_under 0 = .ok (.aload_n 0, 1) := by decide +kernel
theorem dX10_under_1 : decode cX10_under 1 = .ok (.getfield 27, 3) := by decide +kernel
theorem dX10_under_4 : decode cX10_under 4 = .ok (.iload_n 1, 1) := by decide +kernel
theorem dX10_under_5 : decode cX10_under 5 = .ok (.invokevirtual 116, 3) := by decide +kernel
theorem dX10_under_8 : decode cX10_under 8 = .ok (.ifCond .eq 26, 3) := by decide +kernel
theorem dX10_under_11 : decode cX10_under 11 = .ok (.aload_n 0, 1) := by decide +kernel
theorem dX10_under_12 : decode cX10_under 12 = .ok (.getfield 27, 3) := by decide +kernel
theorem dX10_under_15 : decode cX10_under 15 = .ok (.iload_n 2, 1) := by decide +kernel
theorem dX10_under_16 : decode cX10_under 16 = .ok (.invokevirtual 116, 3) := by decide +kernel
theorem dX10_under_19 : decode cX10_under 19 = .ok (.ifCond .eq 15, 3) := by decide +kernel
theorem dX10_under_22 : decode cX10_under 22 = .ok (.aload_n 0, 1) := by decide +kernel
theorem dX10_under_23 : decode cX10_under 23 = .ok (.getfield 42, 3) := by decide +kernel
theorem dX10_under_26 : decode cX10_under 26 = .ok (.iload_n 1, 1) := by decide +kernel
theorem dX10_under_27 : decode cX10_under 27 = .ok (.iload_n 2, 1) := by decide +kernel
theorem dX10_under_28 : decode cX10_under 28 = .ok (.invokevirtual 209, 3) := by decide +kernel
theorem dX10_under_31 : decode cX10_under 31 = .ok (.ifCond .ne 5, 3) := by decide +kernel
theorem dX10_under_34 : decode cX10_under 34 = .ok (.iconst (-1), 1) := by decide +kernel
theorem dX10_under_35 : decode cX10_under 35 = .ok (.ireturn, 1) := by decide +kernel
theorem dX10_under_36 : decode cX10_under 36 = .ok (.aload_n 0, 1) := by decide +kernel
theorem dX10_under_37 : decode cX10_under 37 = .ok (.getfield 42, 3) := by decide +kernel
theorem dX10_under_40 : decode cX10_under 40 = .ok (.iload_n 1, 1) := by decide +kernel
theorem dX10_under_41 : decode cX10_under 41 = .ok (.iload_n 2, 1) := by decide +kernel
theorem dX10_under_42 : decode cX10_under 42 = .ok (.invokevirtual 213, 3) := by decide +kernel
theorem dX10_under_45 : decode cX10_under 45 = .ok (.aload_n 0, 1) := by decide +kernel
theorem dX10_under_46 : decode cX10_under 46 = .ok (.getfield 49, 3) := by decide +kernel
theorem dX10_under_49 : decode cX10_under 49 = .ok (.aload_n 0, 1) := by decide +kernel
theorem dX10_under_50 : decode cX10_under 50 = .ok (.getfield 42, 3) := by decide +kernel
theorem dX10_under_53 : decode cX10_under 53 = .ok (.invokevirtual 205, 3) := by decide +kernel
theorem dX10_under_56 : decode cX10_under 56 = .ok (.aload_n 0, 1) := by decide +kernel
theorem dX10_under_57 : decode cX10_under 57 = .ok (.getfield 35, 3) := by decide +kernel
theorem dX10_under_60 : decode cX10_under 60 = .ok (.aload_n 0, 1) := by decide +kernel
theorem dX10_under_61 : decode cX10_under 61 = .ok (.getfield 42, 3) := by decide +kernel
theorem dX10_under_64 : decode cX10_under 64 = .ok (.iload_n 2, 1) := by decide +kernel
theorem dX10_under_65 : decode cX10_under 65 = .ok (.invokevirtual 153, 3) := by decide +kernel
theorem dX10_under_68 : decode cX10_under 68 = .ok (.ireturn, 1) := by decide +kernel
theorem dX10_part_0 : decode cX10_part 0 = .ok (.aload_n 0, 1) := by decide +kernel
theorem dX10_part_1 : decode cX10_part 1 = .ok (.getfield 27, 3) := by decide +kernel
theorem dX10_part_4 : decode cX10_part 4 = .ok (.iload_n 1, 1) := by decide +kernel
theorem dX10_part_5 : decode cX10_part 5 = .ok (.invokevirtual 116, 3) := by decide +kernel
theorem dX10_part_8 : decode cX10_part 8 = .ok (.ifCond .eq 16, 3) := by decide +kernel
theorem dX10_part_11 : decode cX10_part 11 = .ok (.aload_n 0, 1) := by decide +kernel
theorem dX10_part_12 : decode cX10_part 12 = .ok (.getfield 42, 3) := by decide +kernel
theorem dX10_part_15 : decode cX10_part 15 = .ok (.getfield 143, 3) := by decide +kernel
theorem dX10_part_18 : decode cX10_part 18 = .ok (.iload_n 1, 1) := by decide +kernel
theorem dX10_part_19 : decode cX10_part 19 = .ok (.iaload, 1) := by decide +kernel
theorem dX10_part_20 : decode cX10_part 20 = .ok (.iconst (-1), 1) := by decide +kernel
theorem dX10_part_21 : decode cX10_part 21 = .ok (.if_icmp .ne 5, 3) := by decide +kernel
theorem dX10_part_24 : decode cX10_part 24 = .ok (.iconst (-1), 1) := by decide +kernel
theorem dX10_part_25 : decode cX10_part 25 = .ok (.ireturn, 1) := by decide +kernel
theorem dX10_part_26 : decode cX10_part 26 = .ok (.aload_n 0, 1) := by decide +kernel
theorem dX10_part_27 : decode cX10_part 27 = .ok (.getfield 42, 3) := by decide +kernel
theorem dX10_part_30 : decode cX10_part 30 = .ok (.iload_n 1, 1) := by decide +kernel
theorem dX10_part_31 : decode cX10_part 31 = .ok (.invokevirtual 217, 3) := by decide +kernel
theorem dX10_part_34 : decode cX10_part 34 = .ok (.istore_n 2, 1) := by decide +kernel
theorem dX10_part_35 : decode cX10_part 35 = .ok (.aload_n 0, 1) := by decide +kernel
theorem dX10_part_36 : decode cX10_part 36 = .ok (.getfield 49, 3) := by decide +kernel
theorem dX10_part_39 : decode cX10_part 39 = .ok (.aload_n 0, 1) := by decide +kernel
theorem dX10_part_40 : decode cX10_part 40 = .ok (.getfield 42, 3) := by decide +kernel
theorem dX10_part_43 : decode cX10_part 43 = .ok (.invokevirtual 205, 3) := by decide +kernel
theorem dX10_part_46 : decode cX10_part 46 = .ok (.iload_n 2, 1) := by decide +kernel
theorem dX10_part_47 : decode cX10_part 47 = .ok (.ireturn, 1) := by decide +kernel
theorem dX10_day_0 : decode cX10_day 0 = .ok (.aload_n 0, 1) := by decide +kernel
theorem dX10_day_1 : decode cX10_day 1 = .ok (.getfield 42, 3) := by decide +kernel
theorem dX10_day_4 : decode cX10_day 4 = .ok (.getfield 220, 3) := by decide +kernel
theorem dX10_day_7 : decode cX10_day 7 = .ok (.sipush 999, 3) := by decide +kernel
theorem dX10_day_10 : decode cX10_day 10 = .ok (.if_icmp .lt 5, 3) := by decide +kernel
theorem dX10_day_13 : decode cX10_day 13 = .ok (.iconst (-1), 1) := by decide +kernel
theorem dX10_day_14 : decode cX10_day 14 = .ok (.ireturn, 1) := by decide +kernel
theorem dX10_day_15 : decode cX10_day 15 = .ok (.aload_n 0, 1) := by decide +kernel
theorem dX10_day_16 : decode cX10_day 16 = .ok (.getfield 42, 3) := by decide +kernel
theorem dX10_day_19 : decode cX10_day 19 = .ok (.getfield 223, 3) := by decide +kernel
theorem dX10_day_22 : decode cX10_day 22 = .ok (.istore_n 1, 1) := by decide +kernel
theorem dX10_day_23 : decode cX10_day 23 = .ok (.aload_n 0, 1) := by decide +kernel
theorem dX10_day_24 : decode cX10_day 24 = .ok (.getfield 42, 3) := by decide +kernel
theorem dX10_day_27 : decode cX10_day 27 = .ok (.aload_n 0, 1) := by decide +kernel
theorem dX10_day_28 : decode cX10_day 28 = .ok (.getfield 27, 3) := by decide +kernel
theorem dX10_day_31 : decode cX10_day 31 = .ok (.invokevirtual 226, 3) := by decide +kernel
theorem dX10_day_34 : decode cX10_day 34 = .ok (.putfield 223, 3) := by decide +kernel
theorem dX10_day_37 : decode cX10_day 37 = .ok (.aload_n 0, 1) := by decide +kernel
theorem dX10_day_38 : decode cX10_day 38 = .ok (.getfield 42, 3) := by decide +kernel
theorem dX10_day_41 : decode cX10_day 41 = .ok (.iconst 0, 1) := by decide +kernel
theorem dX10_day_42 : decode cX10_day 42 = .ok (.putfield 230, 3) := by decide +kernel
theorem dX10_day_45 : decode cX10_day 45 = .ok (.aload_n 0, 1) := by decide +kernel
theorem dX10_day_46 : decode cX10_day 46 = .ok (.getfield 42, 3) := by decide +kernel
theorem dX10_day_49 : decode cX10_day 49 = .ok (.dup, 1) := by decide +kernel
theorem dX10_day_50 : decode cX10_day 50 = .ok (.getfield 220, 3) := by decide +kernel
theorem dX10_day_53 : decode cX10_day 53 = .ok (.iconst 1, 1) := by decide +kernel
theorem dX10_day_54 : decode cX10_day 54 = .ok (.iadd, 1) := by decide +kernel
theorem dX10_day_55 : decode cX10_day 55 = .ok (.putfield 220, 3) := by decide +kernel
theorem dX10_day_58 : decode cX10_day 58 = .ok (.aload_n 0, 1) := by decide +kernel
theorem dX10_day_59 : decode cX10_day 59 = .ok (.getfield 49, 3) := by decide +kernel
theorem dX10_day_62 : decode cX10_day 62 = .ok (.aload_n 0, 1) := by decide +kernel
theorem dX10_day_63 : decode cX10_day 63 = .ok (.getfield 42, 3) := by decide +kernel
theorem dX10_day_66 : decode cX10_day 66 = .ok (.invokevirtual 205, 3) := by decide +kernel
theorem dX10_day_69 : decode cX10_day 69 = .ok (.iload_n 1, 1) := by decide +kernel
theorem dX10_day_70 : decode cX10_day 70 = .ok (.ireturn, 1) := by decide +kernel
theorem dX10_undo_0 : decode cX10_undo 0 = .ok (.aload_n 0, 1) := by decide +kernel
theorem dX10_undo_1 : decode cX10_undo 1 = .ok (.getfield 49, 3) := by decide +kernel
theorem dX10_undo_4 : decode cX10_undo 4 = .ok (.aload_n 0, 1) := by decide +kernel
theorem dX10_undo_5 : decode cX10_undo 5 = .ok (.getfield 42, 3) := by decide +kernel
theorem dX10_undo_8 : decode cX10_undo 8 = .ok (.invokevirtual 233, 3) := by decide +kernel
theorem dX10_undo_11 : decode cX10_undo 11 = .ok (.ireturn, 1) := by decide +kernel
theorem dX10_redo_0 : decode cX10_redo 0 = .ok (.aload_n 0, 1) := by decide +kernel
theorem dX10_redo_1 : decode cX10_redo 1 = .ok (.getfield 49, 3) := by decide +kernel
theorem dX10_redo_4 : decode cX10_redo 4 = .ok (.aload_n 0, 1) := by decide +kernel
theorem dX10_redo_5 : decode cX10_redo 5 = .ok (.getfield 42, 3) := by decide +kernel
theorem dX10_redo_8 : decode cX10_redo 8 = .ok (.invokevirtual 236, 3) := by decide +kernel
theorem dX10_redo_11 : decode cX10_redo 11 = .ok (.ireturn, 1) := by decide +kernel
theorem dX10_will_0 : decode cX10_will 0 = .ok (.iload_n 1, 1) := by decide +kernel
theorem dX10_will_1 : decode cX10_will 1 = .ok (.ifCond .lt 18, 3) := by decide +kernel
theorem dX10_will_4 : decode cX10_will 4 = .ok (.iload_n 1, 1) := by decide +kernel
theorem dX10_will_5 : decode cX10_will 5 = .ok (.bipush 8, 2) := by decide +kernel
theorem dX10_will_7 : decode cX10_will 7 = .ok (.if_icmp .gt 12, 3) := by decide +kernel
theorem dX10_will_10 : decode cX10_will 10 = .ok (.iload_n 2, 1) := by decide +kernel
theorem dX10_will_11 : decode cX10_will 11 = .ok (.ifCond .lt 8, 3) := by decide +kernel
theorem dX10_will_14 : decode cX10_will 14 = .ok (.iload_n 2, 1) := by decide +kernel
theorem dX10_will_15 : decode cX10_will 15 = .ok (.iconst 1, 1) := by decide +kernel
theorem dX10_will_16 : decode cX10_will 16 = .ok (.if_icmp .le 5, 3) := by decide +kernel
theorem dX10_will_19 : decode cX10_will 19 = .ok (.iconst (-1), 1) := by decide +kernel
theorem dX10_will_20 : decode cX10_will 20 = .ok (.ireturn, 1) := by decide +kernel
theorem dX10_will_21 : decode cX10_will 21 = .ok (.aload_n 0, 1) := by decide +kernel
theorem dX10_will_22 : decode cX10_will 22 = .ok (.getfield 73, 3) := by decide +kernel
theorem dX10_will_25 : decode cX10_will 25 = .ok (.iload_n 1, 1) := by decide +kernel
theorem dX10_will_26 : decode cX10_will 26 = .ok (.iload_n 2, 1) := by decide +kernel
theorem dX10_will_27 : decode cX10_will 27 = .ok (.iconst 1, 1) := by decide +kernel
theorem dX10_will_28 : decode cX10_will 28 = .ok (.if_icmp .ne 7, 3) := by decide +kernel
theorem dX10_will_31 : decode cX10_will 31 = .ok (.iconst 1, 1) := by decide +kernel
theorem dX10_will_32 : decode cX10_will 32 = .ok (.goto 4, 3) := by decide +kernel
theorem dX10_will_35 : decode cX10_will 35 = .ok (.iconst 0, 1) := by decide +kernel
theorem dX10_will_36 : decode cX10_will 36 = .ok (.invokevirtual 239, 3) := by decide +kernel
theorem dX10_will_39 : decode cX10_will 39 = .ok (.ireturn, 1) := by decide +kernel
theorem dX10_far_0 : decode cX10_far 0 = .ok (.aload_n 0, 1) := by decide +kernel
theorem dX10_far_1 : decode cX10_far 1 = .ok (.getfield 27, 3) := by decide +kernel
theorem dX10_far_4 : decode cX10_far 4 = .ok (.iload_n 1, 1) := by decide +kernel
theorem dX10_far_5 : decode cX10_far 5 = .ok (.invokevirtual 116, 3) := by decide +kernel
theorem dX10_far_8 : decode cX10_far 8 = .ok (.ifCond .eq 14, 3) := by decide +kernel
theorem dX10_far_11 : decode cX10_far 11 = .ok (.aload_n 0, 1) := by decide +kernel
theorem dX10_far_12 : decode cX10_far 12 = .ok (.getfield 73, 3) := by decide +kernel
theorem dX10_far_15 : decode cX10_far 15 = .ok (.iload_n 1, 1) := by decide +kernel
theorem dX10_far_16 : decode cX10_far 16 = .ok (.invokevirtual 243, 3) := by decide +kernel
theorem dX10_far_19 : decode cX10_far 19 = .ok (.goto 4, 3) := by decide +kernel
theorem dX10_far_22 : decode cX10_far 22 = .ok (.iconst (-1), 1) := by decide +kernel
theorem dX10_far_23 : decode cX10_far 23 = .ok (.ireturn, 1) := by decide +kernel
theorem dX10_least_0 : decode cX10_least 0 = .ok (.aload_n 0, 1) := by decide +kernel
theorem dX10_least_1 : decode cX10_least 1 = .ok (.iload_n 1, 1) := by decide +kernel
theorem dX10_least_2 : decode cX10_least 2 = .ok (.invokevirtual 181, 3) := by decide +kernel
theorem dX10_least_5 : decode cX10_least 5 = .ok (.ifCond .eq 14, 3) := by decide +kernel
theorem dX10_least_8 : decode cX10_least 8 = .ok (.aload_n 0, 1) := by decide +kernel
theorem dX10_least_9 : decode cX10_least 9 = .ok (.getfield 73, 3) := by decide +kernel
theorem dX10_least_12 : decode cX10_least 12 = .ok (.iload_n 1, 1) := by decide +kernel
theorem dX10_least_13 : decode cX10_least 13 = .ok (.invokevirtual 246, 3) := by decide +kernel
theorem dX10_least_16 : decode cX10_least 16 = .ok (.goto 4, 3) := by decide +kernel
theorem dX10_least_19 : decode cX10_least 19 = .ok (.iconst (-1), 1) := by decide +kernel
theorem dX10_least_20 : decode cX10_least 20 = .ok (.ireturn, 1) := by decide +kernel
theorem dX10_largest_0 : decode cX10_largest 0 = .ok (.aload_n 0, 1) := by decide +kernel
theorem dX10_largest_1 : decode cX10_largest 1 = .ok (.getfield 73, 3) := by decide +kernel
theorem dX10_largest_4 : decode cX10_largest 4 = .ok (.invokevirtual 249, 3) := by decide +kernel
theorem dX10_largest_7 : decode cX10_largest 7 = .ok (.ireturn, 1) := by decide +kernel
theorem dX10_street_0 : decode cX10_street 0 = .ok (.aload_n 0, 1) := by decide +kernel
theorem dX10_street_1 : decode cX10_street 1 = .ok (.getfield 73, 3) := by decide +kernel
theorem dX10_street_4 : decode cX10_street 4 = .ok (.invokevirtual 252, 3) := by decide +kernel
theorem dX10_street_7 : decode cX10_street 7 = .ok (.ireturn, 1) := by decide +kernel
theorem dX10_host_0 : decode cX10_host 0 = .ok (.aload_n 0, 1) := by decide +kernel
theorem dX10_host_1 : decode cX10_host 1 = .ok (.getfield 27, 3) := by decide +kernel
theorem dX10_host_4 : decode cX10_host 4 = .ok (.iload_n 1, 1) := by decide +kernel
theorem dX10_host_5 : decode cX10_host 5 = .ok (.invokevirtual 116, 3) := by decide +kernel
theorem dX10_host_8 : decode cX10_host 8 = .ok (.ifCond .eq 12, 3) := by decide +kernel
theorem dX10_host_11 : decode cX10_host 11 = .ok (.iload_n 2, 1) := by decide +kernel
theorem dX10_host_12 : decode cX10_host 12 = .ok (.ifCond .lt 8, 3) := by decide +kernel
theorem dX10_host_15 : decode cX10_host 15 = .ok (.iload_n 2, 1) := by decide +kernel
theorem dX10_host_16 : decode cX10_host 16 = .ok (.iconst 1, 1) := by decide +kernel
theorem dX10_host_17 : decode cX10_host 17 = .ok (.if_icmp .le 5, 3) := by decide +kernel
theorem dX10_host_20 : decode cX10_host 20 = .ok (.iconst (-1), 1) := by decide +kernel
theorem dX10_host_21 : decode cX10_host 21 = .ok (.ireturn, 1) := by decide +kernel
theorem dX10_host_22 : decode cX10_host 22 = .ok (.aload_n 0, 1) := by decide +kernel
theorem dX10_host_23 : decode cX10_host 23 = .ok (.getfield 73, 3) := by decide +kernel
theorem dX10_host_26 : decode cX10_host 26 = .ok (.iload_n 1, 1) := by decide +kernel
theorem dX10_host_27 : decode cX10_host 27 = .ok (.iload_n 2, 1) := by decide +kernel
theorem dX10_host_28 : decode cX10_host 28 = .ok (.iconst 1, 1) := by decide +kernel
theorem dX10_host_29 : decode cX10_host 29 = .ok (.if_icmp .ne 7, 3) := by decide +kernel
theorem dX10_host_32 : decode cX10_host 32 = .ok (.iconst 1, 1) := by decide +kernel
theorem dX10_host_33 : decode cX10_host 33 = .ok (.goto 4, 3) := by decide +kernel
theorem dX10_host_36 : decode cX10_host 36 = .ok (.iconst 0, 1) := by decide +kernel
theorem dX10_host_37 : decode cX10_host 37 = .ok (.invokevirtual 255, 3) := by decide +kernel
theorem dX10_host_40 : decode cX10_host 40 = .ok (.ireturn, 1) := by decide +kernel
theorem dX10_rivals_0 : decode cX10_rivals 0 = .ok (.aload_n 0, 1) := by decide +kernel
theorem dX10_rivals_1 : decode cX10_rivals 1 = .ok (.getfield 64, 3) := by decide +kernel
theorem dX10_rivals_4 : decode cX10_rivals 4 = .ok (.invokevirtual 258, 3) := by decide +kernel
theorem dX10_rivals_7 : decode cX10_rivals 7 = .ok (.iload_n 1, 1) := by decide +kernel
theorem dX10_rivals_8 : decode cX10_rivals 8 = .ok (.iload_n 2, 1) := by decide +kernel
theorem dX10_rivals_9 : decode cX10_rivals 9 = .ok (.if_icmp .eq 19, 3) := by decide +kernel
theorem dX10_rivals_12 : decode cX10_rivals 12 = .ok (.aload_n 0, 1) := by decide +kernel
theorem dX10_rivals_13 : decode cX10_rivals 13 = .ok (.iload_n 1, 1) := by decide +kernel
theorem dX10_rivals_14 : decode cX10_rivals 14 = .ok (.invokevirtual 181, 3) := by decide +kernel
theorem dX10_rivals_17 : decode cX10_rivals 17 = .ok (.ifCond .eq 11, 3) := by decide +kernel
theorem dX10_rivals_20 : decode cX10_rivals 20 = .ok (.aload_n 0, 1) := by decide +kernel
theorem dX10_rivals_21 : decode cX10_rivals 21 = .ok (.iload_n 2, 1) := by decide +kernel
theorem dX10_rivals_22 : decode cX10_rivals 22 = .ok (.invokevirtual 181, 3) := by decide +kernel
theorem dX10_rivals_25 : decode cX10_rivals 25 = .ok (.ifCond .ne 5, 3) := by decide +kernel
theorem dX10_rivals_28 : decode cX10_rivals 28 = .ok (.iconst (-1), 1) := by decide +kernel
theorem dX10_rivals_29 : decode cX10_rivals 29 = .ok (.ireturn, 1) := by decide +kernel
theorem dX10_rivals_30 : decode cX10_rivals 30 = .ok (.aload_n 0, 1) := by decide +kernel
theorem dX10_rivals_31 : decode cX10_rivals 31 = .ok (.getfield 73, 3) := by decide +kernel
theorem dX10_rivals_34 : decode cX10_rivals 34 = .ok (.iload_n 1, 1) := by decide +kernel
theorem dX10_rivals_35 : decode cX10_rivals 35 = .ok (.iload_n 2, 1) := by decide +kernel
theorem dX10_rivals_36 : decode cX10_rivals 36 = .ok (.invokevirtual 259, 3) := by decide +kernel
theorem dX10_rivals_39 : decode cX10_rivals 39 = .ok (.aload_n 0, 1) := by decide +kernel
theorem dX10_rivals_40 : decode cX10_rivals 40 = .ok (.getfield 73, 3) := by decide +kernel
theorem dX10_rivals_43 : decode cX10_rivals 43 = .ok (.invokevirtual 262, 3) := by decide +kernel
theorem dX10_rivals_46 : decode cX10_rivals 46 = .ok (.ireturn, 1) := by decide +kernel
theorem dX10_pairs_0 : decode cX10_pairs 0 = .ok (.aload_n 0, 1) := by decide +kernel
theorem dX10_pairs_1 : decode cX10_pairs 1 = .ok (.getfield 73, 3) := by decide +kernel
theorem dX10_pairs_4 : decode cX10_pairs 4 = .ok (.invokevirtual 265, 3) := by decide +kernel
theorem dX10_pairs_7 : decode cX10_pairs 7 = .ok (.ireturn, 1) := by decide +kernel
theorem dX10_need_0 : decode cX10_need 0 = .ok (.aload_n 0, 1) := by decide +kernel
theorem dX10_need_1 : decode cX10_need 1 = .ok (.iload_n 1, 1) := by decide +kernel
theorem dX10_need_2 : decode cX10_need 2 = .ok (.invokevirtual 181, 3) := by decide +kernel
theorem dX10_need_5 : decode cX10_need 5 = .ok (.ifCond .eq 14, 3) := by decide +kernel
theorem dX10_need_8 : decode cX10_need 8 = .ok (.aload_n 0, 1) := by decide +kernel
theorem dX10_need_9 : decode cX10_need 9 = .ok (.getfield 73, 3) := by decide +kernel
theorem dX10_need_12 : decode cX10_need 12 = .ok (.iload_n 1, 1) := by decide +kernel
theorem dX10_need_13 : decode cX10_need 13 = .ok (.invokevirtual 268, 3) := by decide +kernel
theorem dX10_need_16 : decode cX10_need 16 = .ok (.goto 4, 3) := by decide +kernel
theorem dX10_need_19 : decode cX10_need 19 = .ok (.iconst (-1), 1) := by decide +kernel
theorem dX10_need_20 : decode cX10_need 20 = .ok (.ireturn, 1) := by decide +kernel
theorem dX10_bears_0 : decode cX10_bears 0 = .ok (.aload_n 0, 1) := by decide +kernel
theorem dX10_bears_1 : decode cX10_bears 1 = .ok (.getfield 27, 3) := by decide +kernel
theorem dX10_bears_4 : decode cX10_bears 4 = .ok (.iload_n 1, 1) := by decide +kernel
theorem dX10_bears_5 : decode cX10_bears 5 = .ok (.invokevirtual 116, 3) := by decide +kernel
theorem dX10_bears_8 : decode cX10_bears 8 = .ok (.ifCond .eq 14, 3) := by decide +kernel
theorem dX10_bears_11 : decode cX10_bears 11 = .ok (.aload_n 0, 1) := by decide +kernel
theorem dX10_bears_12 : decode cX10_bears 12 = .ok (.getfield 73, 3) := by decide +kernel
theorem dX10_bears_15 : decode cX10_bears 15 = .ok (.iload_n 1, 1) := by decide +kernel
theorem dX10_bears_16 : decode cX10_bears 16 = .ok (.invokevirtual 271, 3) := by decide +kernel
theorem dX10_bears_19 : decode cX10_bears 19 = .ok (.goto 4, 3) := by decide +kernel
theorem dX10_bears_22 : decode cX10_bears 22 = .ok (.iconst (-1), 1) := by decide +kernel
theorem dX10_bears_23 : decode cX10_bears 23 = .ok (.ireturn, 1) := by decide +kernel
theorem dX10_shield_0 : decode cX10_shield 0 = .ok (.aload_n 0, 1) := by decide +kernel
theorem dX10_shield_1 : decode cX10_shield 1 = .ok (.getfield 73, 3) := by decide +kernel
theorem dX10_shield_4 : decode cX10_shield 4 = .ok (.invokevirtual 274, 3) := by decide +kernel
theorem dX10_shield_7 : decode cX10_shield 7 = .ok (.ireturn, 1) := by decide +kernel
theorem dX10_law_0 : decode cX10_law 0 = .ok (.iload_n 1, 1) := by decide +kernel
theorem dX10_law_1 : decode cX10_law 1 = .ok (.ifCond .lt 9, 3) := by decide +kernel
theorem dX10_law_4 : decode cX10_law 4 = .ok (.iload_n 1, 1) := by decide +kernel
theorem dX10_law_5 : decode cX10_law 5 = .ok (.bipush 20, 2) := by decide +kernel
theorem dX10_law_7 : decode cX10_law 7 = .ok (.if_icmp .le 7, 3) := by decide +kernel
theorem dX10_law_10 : decode cX10_law 10 = .ok (.iconst (-1), 1) := by decide +kernel
theorem dX10_law_11 : decode cX10_law 11 = .ok (.goto 11, 3) := by decide +kernel
theorem dX10_law_14 : decode cX10_law 14 = .ok (.aload_n 0, 1) := by decide +kernel
theorem dX10_law_15 : decode cX10_law 15 = .ok (.getfield 73, 3) := by decide +kernel
theorem dX10_law_18 : decode cX10_law 18 = .ok (.iload_n 1, 1) := by decide +kernel
theorem dX10_law_19 : decode cX10_law 19 = .ok (.invokevirtual 277, 3) := by decide +kernel
theorem dX10_law_22 : decode cX10_law 22 = .ok (.ireturn, 1) := by decide +kernel
theorem dX10_worst_0 : decode cX10_worst 0 = .ok (.aload_n 0, 1) := by decide +kernel
theorem dX10_worst_1 : decode cX10_worst 1 = .ok (.getfield 73, 3) := by decide +kernel
theorem dX10_worst_4 : decode cX10_worst 4 = .ok (.invokevirtual 280, 3) := by decide +kernel
theorem dX10_worst_7 : decode cX10_worst 7 = .ok (.ireturn, 1) := by decide +kernel
theorem dX10_narrow_0 : decode cX10_narrow 0 = .ok (.aload_n 0, 1) := by decide +kernel
theorem dX10_narrow_1 : decode cX10_narrow 1 = .ok (.getfield 73, 3) := by decide +kernel
theorem dX10_narrow_4 : decode cX10_narrow 4 = .ok (.invokevirtual 283, 3) := by decide +kernel
theorem dX10_narrow_7 : decode cX10_narrow 7 = .ok (.ireturn, 1) := by decide +kernel
theorem dX10_odds_0 : decode cX10_odds 0 = .ok (.aload_n 0, 1) := by decide +kernel
theorem dX10_odds_1 : decode cX10_odds 1 = .ok (.getfield 27, 3) := by decide +kernel
theorem dX10_odds_4 : decode cX10_odds 4 = .ok (.iload_n 1, 1) := by decide +kernel
theorem dX10_odds_5 : decode cX10_odds 5 = .ok (.invokevirtual 116, 3) := by decide +kernel
theorem dX10_odds_8 : decode cX10_odds 8 = .ok (.ifCond .eq 12, 3) := by decide +kernel
theorem dX10_odds_11 : decode cX10_odds 11 = .ok (.iload_n 2, 1) := by decide +kernel
theorem dX10_odds_12 : decode cX10_odds 12 = .ok (.ifCond .lt 8, 3) := by decide +kernel
theorem dX10_odds_15 : decode cX10_odds 15 = .ok (.iload_n 2, 1) := by decide +kernel
theorem dX10_odds_16 : decode cX10_odds 16 = .ok (.iconst 1, 1) := by decide +kernel
theorem dX10_odds_17 : decode cX10_odds 17 = .ok (.if_icmp .le 5, 3) := by decide +kernel
theorem dX10_odds_20 : decode cX10_odds 20 = .ok (.iconst (-1), 1) := by decide +kernel
theorem dX10_odds_21 : decode cX10_odds 21 = .ok (.ireturn, 1) := by decide +kernel
theorem dX10_odds_22 : decode cX10_odds 22 = .ok (.aload_n 0, 1) := by decide +kernel
theorem dX10_odds_23 : decode cX10_odds 23 = .ok (.getfield 73, 3) := by decide +kernel
theorem dX10_odds_26 : decode cX10_odds 26 = .ok (.iload_n 1, 1) := by decide +kernel
theorem dX10_odds_27 : decode cX10_odds 27 = .ok (.iload_n 2, 1) := by decide +kernel
theorem dX10_odds_28 : decode cX10_odds 28 = .ok (.ifCond .ne 7, 3) := by decide +kernel
theorem dX10_odds_31 : decode cX10_odds 31 = .ok (.iconst 1, 1) := by decide +kernel
theorem dX10_odds_32 : decode cX10_odds 32 = .ok (.goto 4, 3) := by decide +kernel
theorem dX10_odds_35 : decode cX10_odds 35 = .ok (.iconst 0, 1) := by decide +kernel
theorem dX10_odds_36 : decode cX10_odds 36 = .ok (.invokevirtual 286, 3) := by decide +kernel
theorem dX10_odds_39 : decode cX10_odds 39 = .ok (.ireturn, 1) := by decide +kernel
theorem dX10_lies_0 : decode cX10_lies 0 = .ok (.aload_n 0, 1) := by decide +kernel
theorem dX10_lies_1 : decode cX10_lies 1 = .ok (.getfield 64, 3) := by decide +kernel
theorem dX10_lies_4 : decode cX10_lies 4 = .ok (.iload_n 1, 1) := by decide +kernel
theorem dX10_lies_5 : decode cX10_lies 5 = .ok (.invokevirtual 289, 3) := by decide +kernel
theorem dX10_lies_8 : decode cX10_lies 8 = .ok (.ireturn, 1) := by decide +kernel
theorem dX10_seen_0 : decode cX10_seen 0 = .ok (.iload_n 1, 1) := by decide +kernel
theorem dX10_seen_1 : decode cX10_seen 1 = .ok (.ifCond .lt 25, 3) := by decide +kernel
theorem dX10_seen_4 : decode cX10_seen 4 = .ok (.iload_n 1, 1) := by decide +kernel
theorem dX10_seen_5 : decode cX10_seen 5 = .ok (.aload_n 0, 1) := by decide +kernel
theorem dX10_seen_6 : decode cX10_seen 6 = .ok (.getfield 27, 3) := by decide +kernel
theorem dX10_seen_9 : decode cX10_seen 9 = .ok (.getfield 159, 3) := by decide +kernel
theorem dX10_seen_12 : decode cX10_seen 12 = .ok (.if_icmp .gt 14, 3) := by decide +kernel
theorem dX10_seen_15 : decode cX10_seen 15 = .ok (.aload_n 0, 1) := by decide +kernel
theorem dX10_seen_16 : decode cX10_seen 16 = .ok (.getfield 27, 3) := by decide +kernel
theorem dX10_seen_19 : decode cX10_seen 19 = .ok (.iload_n 2, 1) := by decide +kernel
theorem dX10_seen_20 : decode cX10_seen 20 = .ok (.invokevirtual 116, 3) := by decide +kernel
theorem dX10_seen_23 : decode cX10_seen 23 = .ok (.ifCond .ne 5, 3) := by decide +kernel
theorem dX10_seen_26 : decode cX10_seen 26 = .ok (.iconst (-1), 1) := by decide +kernel
theorem dX10_seen_27 : decode cX10_seen 27 = .ok (.ireturn, 1) := by decide +kernel
theorem dX10_seen_28 : decode cX10_seen 28 = .ok (.aload_n 0, 1) := by decide +kernel
theorem dX10_seen_29 : decode cX10_seen 29 = .ok (.getfield 82, 3) := by decide +kernel
theorem dX10_seen_32 : decode cX10_seen 32 = .ok (.iload_n 1, 1) := by decide +kernel
theorem dX10_seen_33 : decode cX10_seen 33 = .ok (.iload_n 2, 1) := by decide +kernel
theorem dX10_seen_34 : decode cX10_seen 34 = .ok (.iload_n 3, 1) := by decide +kernel
theorem dX10_seen_35 : decode cX10_seen 35 = .ok (.aload_n 0, 1) := by decide +kernel
theorem dX10_seen_36 : decode cX10_seen 36 = .ok (.getfield 292, 3) := by decide +kernel
theorem dX10_seen_39 : decode cX10_seen 39 = .ok (.invokevirtual 295, 3) := by decide +kernel
theorem dX10_seen_42 : decode cX10_seen 42 = .ok (.ireturn, 1) := by decide +kernel
theorem dX10_untell_0 : decode cX10_untell 0 = .ok (.aload_n 0, 1) := by decide +kernel
theorem dX10_untell_1 : decode cX10_untell 1 = .ok (.getfield 82, 3) := by decide +kernel
theorem dX10_untell_4 : decode cX10_untell 4 = .ok (.iload_n 1, 1) := by decide +kernel
theorem dX10_untell_5 : decode cX10_untell 5 = .ok (.aload_n 0, 1) := by decide +kernel
theorem dX10_untell_6 : decode cX10_untell 6 = .ok (.getfield 292, 3) := by decide +kernel
theorem dX10_untell_9 : decode cX10_untell 9 = .ok (.invokevirtual 298, 3) := by decide +kernel
theorem dX10_untell_12 : decode cX10_untell 12 = .ok (.ireturn, 1) := by decide +kernel
theorem dX10_later_0 : decode cX10_later 0 = .ok (.iload_n 1, 1) := by decide +kernel
theorem dX10_later_1 : decode cX10_later 1 = .ok (.ifCond .lt 22, 3) := by decide +kernel
theorem dX10_later_4 : decode cX10_later 4 = .ok (.iload_n 1, 1) := by decide +kernel
theorem dX10_later_5 : decode cX10_later 5 = .ok (.sipush 1000, 3) := by decide +kernel
theorem dX10_later_8 : decode cX10_later 8 = .ok (.if_icmp .gt 15, 3) := by decide +kernel
theorem dX10_later_11 : decode cX10_later 11 = .ok (.aload_n 0, 1) := by decide +kernel
theorem dX10_later_12 : decode cX10_later 12 = .ok (.getfield 292, 3) := by decide +kernel
theorem dX10_later_15 : decode cX10_later 15 = .ok (.iload_n 1, 1) := by decide +kernel
theorem dX10_later_16 : decode cX10_later 16 = .ok (.iadd, 1) := by decide +kernel
theorem dX10_later_17 : decode cX10_later 17 = .ok (.ldc_w 301, 3) := by decide +kernel
theorem dX10_later_20 : decode cX10_later 20 = .ok (.if_icmp .le 5, 3) := by decide +kernel
theorem dX10_later_23 : decode cX10_later 23 = .ok (.iconst (-1), 1) := by decide +kernel
theorem dX10_later_24 : decode cX10_later 24 = .ok (.ireturn, 1) := by decide +kernel
theorem dX10_later_25 : decode cX10_later 25 = .ok (.aload_n 0, 1) := by decide +kernel
theorem dX10_later_26 : decode cX10_later 26 = .ok (.dup, 1) := by decide +kernel
theorem dX10_later_27 : decode cX10_later 27 = .ok (.getfield 292, 3) := by decide +kernel
theorem dX10_later_30 : decode cX10_later 30 = .ok (.iload_n 1, 1) := by decide +kernel
theorem dX10_later_31 : decode cX10_later 31 = .ok (.iadd, 1) := by decide +kernel
theorem dX10_later_32 : decode cX10_later 32 = .ok (.putfield 292, 3) := by decide +kernel
theorem dX10_later_35 : decode cX10_later 35 = .ok (.aload_n 0, 1) := by decide +kernel
theorem dX10_later_36 : decode cX10_later 36 = .ok (.getfield 292, 3) := by decide +kernel
theorem dX10_later_39 : decode cX10_later 39 = .ok (.ireturn, 1) := by decide +kernel
theorem dX10_fits_0 : decode cX10_fits 0 = .ok (.aload_n 0, 1) := by decide +kernel
theorem dX10_fits_1 : decode cX10_fits 1 = .ok (.getfield 82, 3) := by decide +kernel
theorem dX10_fits_4 : decode cX10_fits 4 = .ok (.iload_n 1, 1) := by decide +kernel
theorem dX10_fits_5 : decode cX10_fits 5 = .ok (.invokevirtual 302, 3) := by decide +kernel
theorem dX10_fits_8 : decode cX10_fits 8 = .ok (.ireturn, 1) := by decide +kernel
theorem dX10_sure_0 : decode cX10_sure 0 = .ok (.iload_n 1, 1) := by decide +kernel
theorem dX10_sure_1 : decode cX10_sure 1 = .ok (.ifCond .lt 8, 3) := by decide +kernel
theorem dX10_sure_4 : decode cX10_sure 4 = .ok (.iload_n 1, 1) := by decide +kernel
theorem dX10_sure_5 : decode cX10_sure 5 = .ok (.iconst 1, 1) := by decide +kernel
theorem dX10_sure_6 : decode cX10_sure 6 = .ok (.if_icmp .le 5, 3) := by decide +kernel
theorem dX10_sure_9 : decode cX10_sure 9 = .ok (.iconst (-1), 1) := by decide +kernel
theorem dX10_sure_10 : decode cX10_sure 10 = .ok (.ireturn, 1) := by decide +kernel
theorem dX10_sure_11 : decode cX10_sure 11 = .ok (.iload_n 1, 1) := by decide +kernel
theorem dX10_sure_12 : decode cX10_sure 12 = .ok (.ifCond .ne 14, 3) := by decide +kernel
theorem dX10_sure_15 : decode cX10_sure 15 = .ok (.aload_n 0, 1) := by decide +kernel
theorem dX10_sure_16 : decode cX10_sure 16 = .ok (.getfield 82, 3) := by decide +kernel
theorem dX10_sure_19 : decode cX10_sure 19 = .ok (.iload_n 2, 1) := by decide +kernel
theorem dX10_sure_20 : decode cX10_sure 20 = .ok (.invokevirtual 305, 3) := by decide +kernel
theorem dX10_sure_23 : decode cX10_sure 23 = .ok (.goto 11, 3) := by decide +kernel
theorem dX10_sure_26 : decode cX10_sure 26 = .ok (.aload_n 0, 1) := by decide +kernel
theorem dX10_sure_27 : decode cX10_sure 27 = .ok (.getfield 82, 3) := by decide +kernel
theorem dX10_sure_30 : decode cX10_sure 30 = .ok (.iload_n 2, 1) := by decide +kernel
theorem dX10_sure_31 : decode cX10_sure 31 = .ok (.invokevirtual 308, 3) := by decide +kernel
theorem dX10_sure_34 : decode cX10_sure 34 = .ok (.ireturn, 1) := by decide +kernel
theorem dX10_ask_0 : decode cX10_ask 0 = .ok (.iload_n 1, 1) := by decide +kernel
theorem dX10_ask_1 : decode cX10_ask 1 = .ok (.ifCond .lt 8, 3) := by decide +kernel
theorem dX10_ask_4 : decode cX10_ask 4 = .ok (.iload_n 1, 1) := by decide +kernel
theorem dX10_ask_5 : decode cX10_ask 5 = .ok (.iconst 1, 1) := by decide +kernel
theorem dX10_ask_6 : decode cX10_ask 6 = .ok (.if_icmp .le 5, 3) := by decide +kernel
theorem dX10_ask_9 : decode cX10_ask 9 = .ok (.iconst (-1), 1) := by decide +kernel
theorem dX10_ask_10 : decode cX10_ask 10 = .ok (.ireturn, 1) := by decide +kernel
theorem dX10_ask_11 : decode cX10_ask 11 = .ok (.aload_n 0, 1) := by decide +kernel
theorem dX10_ask_12 : decode cX10_ask 12 = .ok (.getfield 82, 3) := by decide +kernel
theorem dX10_ask_15 : decode cX10_ask 15 = .ok (.iload_n 2, 1) := by decide +kernel
theorem dX10_ask_16 : decode cX10_ask 16 = .ok (.iload_n 1, 1) := by decide +kernel
theorem dX10_ask_17 : decode cX10_ask 17 = .ok (.ifCond .ne 7, 3) := by decide +kernel
theorem dX10_ask_20 : decode cX10_ask 20 = .ok (.iconst 1, 1) := by decide +kernel
theorem dX10_ask_21 : decode cX10_ask 21 = .ok (.goto 4, 3) := by decide +kernel
theorem dX10_ask_24 : decode cX10_ask 24 = .ok (.iconst 0, 1) := by decide +kernel
theorem dX10_ask_25 : decode cX10_ask 25 = .ok (.invokevirtual 311, 3) := by decide +kernel
theorem dX10_ask_28 : decode cX10_ask 28 = .ok (.ireturn, 1) := by decide +kernel
theorem dX10_image_0 : decode cX10_image 0 = .ok (.iload_n 1, 1) := by decide +kernel
theorem dX10_image_1 : decode cX10_image 1 = .ok (.ifCond .lt 8, 3) := by decide +kernel
theorem dX10_image_4 : decode cX10_image 4 = .ok (.iload_n 1, 1) := by decide +kernel
theorem dX10_image_5 : decode cX10_image 5 = .ok (.iconst 3, 1) := by decide +kernel
theorem dX10_image_6 : decode cX10_image 6 = .ok (.if_icmp .lt 5, 3) := by decide +kernel
theorem dX10_image_9 : decode cX10_image 9 = .ok (.iconst (-1), 1) := by decide +kernel
theorem dX10_image_10 : decode cX10_image 10 = .ok (.ireturn, 1) := by decide +kernel
theorem dX10_image_11 : decode cX10_image 11 = .ok (.aload_n 0, 1) := by decide +kernel
theorem dX10_image_12 : decode cX10_image 12 = .ok (.getfield 53, 3) := by decide +kernel
theorem dX10_image_15 : decode cX10_image 15 = .ok (.iload_n 1, 1) := by decide +kernel
theorem dX10_image_16 : decode cX10_image 16 = .ok (.aaload, 1) := by decide +kernel
theorem dX10_image_17 : decode cX10_image 17 = .ok (.aload_n 0, 1) := by decide +kernel
theorem dX10_image_18 : decode cX10_image 18 = .ok (.getfield 42, 3) := by decide +kernel
theorem dX10_image_21 : decode cX10_image 21 = .ok (.invokevirtual 314, 3) := by decide +kernel
theorem dX10_image_24 : decode cX10_image 24 = .ok (.aload_n 0, 1) := by decide +kernel
theorem dX10_image_25 : decode cX10_image 25 = .ok (.getfield 57, 3) := by decide +kernel
theorem dX10_image_28 : decode cX10_image 28 = .ok (.iload_n 1, 1) := by decide +kernel
theorem dX10_image_29 : decode cX10_image 29 = .ok (.iconst 1, 1) := by decide +kernel
theorem dX10_image_30 : decode cX10_image 30 = .ok (.bastore, 1) := by decide +kernel
theorem dX10_image_31 : decode cX10_image 31 = .ok (.aload_n 0, 1) := by decide +kernel
theorem dX10_image_32 : decode cX10_image 32 = .ok (.getfield 42, 3) := by decide +kernel
theorem dX10_image_35 : decode cX10_image 35 = .ok (.getfield 220, 3) := by decide +kernel
theorem dX10_image_38 : decode cX10_image 38 = .ok (.ireturn, 1) := by decide +kernel
theorem dX10_back_0 : decode cX10_back 0 = .ok (.iload_n 1, 1) := by decide +kernel
theorem dX10_back_1 : decode cX10_back 1 = .ok (.ifCond .lt 17, 3) := by decide +kernel
theorem dX10_back_4 : decode cX10_back 4 = .ok (.iload_n 1, 1) := by decide +kernel
theorem dX10_back_5 : decode cX10_back 5 = .ok (.iconst 3, 1) := by decide +kernel
theorem dX10_back_6 : decode cX10_back 6 = .ok (.if_icmp .ge 12, 3) := by decide +kernel
theorem dX10_back_9 : decode cX10_back 9 = .ok (.aload_n 0, 1) := by decide +kernel
theorem dX10_back_10 : decode cX10_back 10 = .ok (.getfield 57, 3) := by decide +kernel
theorem dX10_back_13 : decode cX10_back 13 = .ok (.iload_n 1, 1) := by decide +kernel
theorem dX10_back_14 : decode cX10_back 14 = .ok (.baload, 1) := by decide +kernel
theorem dX10_back_15 : decode cX10_back 15 = .ok (.ifCond .ne 5, 3) := by decide +kernel
theorem dX10_back_18 : decode cX10_back 18 = .ok (.iconst (-1), 1) := by decide +kernel
theorem dX10_back_19 : decode cX10_back 19 = .ok (.ireturn, 1) := by decide +kernel
theorem dX10_back_20 : decode cX10_back 20 = .ok (.aload_n 0, 1) := by decide +kernel
theorem dX10_back_21 : decode cX10_back 21 = .ok (.getfield 42, 3) := by decide +kernel
theorem dX10_back_24 : decode cX10_back 24 = .ok (.aload_n 0, 1) := by decide +kernel
theorem dX10_back_25 : decode cX10_back 25 = .ok (.getfield 53, 3) := by decide +kernel
theorem dX10_back_28 : decode cX10_back 28 = .ok (.iload_n 1, 1) := by decide +kernel
theorem dX10_back_29 : decode cX10_back 29 = .ok (.aaload, 1) := by decide +kernel
theorem dX10_back_30 : decode cX10_back 30 = .ok (.invokevirtual 314, 3) := by decide +kernel
theorem dX10_back_33 : decode cX10_back 33 = .ok (.aload_n 0, 1) := by decide +kernel
theorem dX10_back_34 : decode cX10_back 34 = .ok (.getfield 49, 3) := by decide +kernel
theorem dX10_back_37 : decode cX10_back 37 = .ok (.aload_n 0, 1) := by decide +kernel
theorem dX10_back_38 : decode cX10_back 38 = .ok (.getfield 42, 3) := by decide +kernel
theorem dX10_back_41 : decode cX10_back 41 = .ok (.invokevirtual 316, 3) := by decide +kernel
theorem dX10_back_44 : decode cX10_back 44 = .ok (.aload_n 0, 1) := by decide +kernel
theorem dX10_back_45 : decode cX10_back 45 = .ok (.getfield 42, 3) := by decide +kernel
theorem dX10_back_48 : decode cX10_back 48 = .ok (.getfield 220, 3) := by decide +kernel
theorem dX10_back_51 : decode cX10_back 51 = .ok (.ireturn, 1) := by decide +kernel
theorem dX10_about_0 : decode cX10_about 0 = .ok (.iload_n 1, 1) := by decide +kernel
theorem dX10_about_1 : decode cX10_about 1 = .ok (.tableswitch 165 0 12 #[67, 75, 83, 91, 99, 107, 115, 123, 131, 139, 144, 149, 157], 67) := by decide +kernel
theorem dX10_about_68 : decode cX10_about 68 = .ok (.aload_n 0, 1) := by decide +kernel
theorem dX10_about_69 : decode cX10_about 69 = .ok (.getfield 27, 3) := by decide +kernel
theorem dX10_about_72 : decode cX10_about 72 = .ok (.getfield 107, 3) := by decide +kernel
theorem dX10_about_75 : decode cX10_about 75 = .ok (.ireturn, 1) := by decide +kernel
theorem dX10_about_76 : decode cX10_about 76 = .ok (.aload_n 0, 1) := by decide +kernel
theorem dX10_about_77 : decode cX10_about 77 = .ok (.getfield 27, 3) := by decide +kernel
theorem dX10_about_80 : decode cX10_about 80 = .ok (.getfield 159, 3) := by decide +kernel
theorem dX10_about_83 : decode cX10_about 83 = .ok (.ireturn, 1) := by decide +kernel
theorem dX10_about_84 : decode cX10_about 84 = .ok (.aload_n 0, 1) := by decide +kernel
theorem dX10_about_85 : decode cX10_about 85 = .ok (.getfield 42, 3) := by decide +kernel
theorem dX10_about_88 : decode cX10_about 88 = .ok (.getfield 223, 3) := by decide +kernel
theorem dX10_about_91 : decode cX10_about 91 = .ok (.ireturn, 1) := by decide +kernel
theorem dX10_about_92 : decode cX10_about 92 = .ok (.aload_n 0, 1) := by decide +kernel
theorem dX10_about_93 : decode cX10_about 93 = .ok (.getfield 42, 3) := by decide +kernel
theorem dX10_about_96 : decode cX10_about 96 = .ok (.getfield 230, 3) := by decide +kernel
theorem dX10_about_99 : decode cX10_about 99 = .ok (.ireturn, 1) := by decide +kernel
theorem dX10_about_100 : decode cX10_about 100 = .ok (.aload_n 0, 1) := by decide +kernel
theorem dX10_about_101 : decode cX10_about 101 = .ok (.getfield 42, 3) := by decide +kernel
theorem dX10_about_104 : decode cX10_about 104 = .ok (.getfield 220, 3) := by decide +kernel
theorem dX10_about_107 : decode cX10_about 107 = .ok (.ireturn, 1) := by decide +kernel
theorem dX10_about_108 : decode cX10_about 108 = .ok (.aload_n 0, 1) := by decide +kernel
theorem dX10_about_109 : decode cX10_about 109 = .ok (.getfield 42, 3) := by decide +kernel
theorem dX10_about_112 : decode cX10_about 112 = .ok (.getfield 319, 3) := by decide +kernel
theorem dX10_about_115 : decode cX10_about 115 = .ok (.ireturn, 1) := by decide +kernel
theorem dX10_about_116 : decode cX10_about 116 = .ok (.aload_n 0, 1) := by decide +kernel
theorem dX10_about_117 : decode cX10_about 117 = .ok (.getfield 49, 3) := by decide +kernel
theorem dX10_about_120 : decode cX10_about 120 = .ok (.getfield 322, 3) := by decide +kernel
theorem dX10_about_123 : decode cX10_about 123 = .ok (.ireturn, 1) := by decide +kernel
theorem dX10_about_124 : decode cX10_about 124 = .ok (.aload_n 0, 1) := by decide +kernel
theorem dX10_about_125 : decode cX10_about 125 = .ok (.getfield 49, 3) := by decide +kernel
theorem dX10_about_128 : decode cX10_about 128 = .ok (.getfield 325, 3) := by decide +kernel
theorem dX10_about_131 : decode cX10_about 131 = .ok (.ireturn, 1) := by decide +kernel
theorem dX10_about_132 : decode cX10_about 132 = .ok (.aload_n 0, 1) := by decide +kernel
theorem dX10_about_133 : decode cX10_about 133 = .ok (.getfield 82, 3) := by decide +kernel
theorem dX10_about_136 : decode cX10_about 136 = .ok (.getfield 328, 3) := by decide +kernel
theorem dX10_about_139 : decode cX10_about 139 = .ok (.ireturn, 1) := by decide +kernel
theorem dX10_about_140 : decode cX10_about 140 = .ok (.aload_n 0, 1) := by decide +kernel
theorem dX10_about_141 : decode cX10_about 141 = .ok (.getfield 292, 3) := by decide +kernel
theorem dX10_about_144 : decode cX10_about 144 = .ok (.ireturn, 1) := by decide +kernel
theorem dX10_about_145 : decode cX10_about 145 = .ok (.aload_n 0, 1) := by decide +kernel
theorem dX10_about_146 : decode cX10_about 146 = .ok (.getfield 95, 3) := by decide +kernel
theorem dX10_about_149 : decode cX10_about 149 = .ok (.ireturn, 1) := by decide +kernel
theorem dX10_about_150 : decode cX10_about 150 = .ok (.aload_n 0, 1) := by decide +kernel
theorem dX10_about_151 : decode cX10_about 151 = .ok (.getfield 27, 3) := by decide +kernel
theorem dX10_about_154 : decode cX10_about 154 = .ok (.invokevirtual 331, 3) := by decide +kernel
theorem dX10_about_157 : decode cX10_about 157 = .ok (.ireturn, 1) := by decide +kernel
theorem dX10_about_158 : decode cX10_about 158 = .ok (.aload_n 0, 1) := by decide +kernel
theorem dX10_about_159 : decode cX10_about 159 = .ok (.getfield 64, 3) := by decide +kernel
theorem dX10_about_162 : decode cX10_about 162 = .ok (.getfield 334, 3) := by decide +kernel
theorem dX10_about_165 : decode cX10_about 165 = .ok (.ireturn, 1) := by decide +kernel
theorem dX10_about_166 : decode cX10_about 166 = .ok (.iconst (-1), 1) := by decide +kernel
theorem dX10_about_167 : decode cX10_about 167 = .ok (.ireturn, 1) := by decide +kernel
theorem dX10_putNumber_0 : decode cX10_putNumber 0 = .ok (.bipush 24, 2) := by decide +kernel
theorem dX10_putNumber_2 : decode cX10_putNumber 2 = .ok (.istore_n 2, 1) := by decide +kernel
theorem dX10_putNumber_3 : decode cX10_putNumber 3 = .ok (.iload_n 2, 1) := by decide +kernel
theorem dX10_putNumber_4 : decode cX10_putNumber 4 = .ok (.ifCond .lt 42, 3) := by decide +kernel
theorem dX10_putNumber_7 : decode cX10_putNumber 7 = .ok (.aload_n 0, 1) := by decide +kernel
theorem dX10_putNumber_8 : decode cX10_putNumber 8 = .ok (.getfield 95, 3) := by decide +kernel
theorem dX10_putNumber_11 : decode cX10_putNumber 11 = .ok (.sipush 1600, 3) := by decide +kernel
theorem dX10_putNumber_14 : decode cX10_putNumber 14 = .ok (.if_icmp .ge 32, 3) := by decide +kernel
theorem dX10_putNumber_17 : decode cX10_putNumber 17 = .ok (.aload_n 0, 1) := by decide +kernel
theorem dX10_putNumber_18 : decode cX10_putNumber 18 = .ok (.getfield 9, 3) := by decide +kernel
theorem dX10_putNumber_21 : decode cX10_putNumber 21 = .ok (.aload_n 0, 1) := by decide +kernel
theorem dX10_putNumber_22 : decode cX10_putNumber 22 = .ok (.getfield 95, 3) := by decide +kernel
theorem dX10_putNumber_25 : decode cX10_putNumber 25 = .ok (.iload_n 1, 1) := by decide +kernel
theorem dX10_putNumber_26 : decode cX10_putNumber 26 = .ok (.iload_n 2, 1) := by decide +kernel
theorem dX10_putNumber_27 : decode cX10_putNumber 27 = .ok (.ishr, 1) := by decide +kernel
theorem dX10_putNumber_28 : decode cX10_putNumber 28 = .ok (.i2b, 1) := by decide +kernel
theorem dX10_putNumber_29 : decode cX10_putNumber 29 = .ok (.bastore, 1) := by decide +kernel
theorem dX10_putNumber_30 : decode cX10_putNumber 30 = .ok (.aload_n 0, 1) := by decide +kernel
theorem dX10_putNumber_31 : decode cX10_putNumber 31 = .ok (.dup, 1) := by decide +kernel
theorem dX10_putNumber_32 : decode cX10_putNumber 32 = .ok (.getfield 95, 3) := by decide +kernel
theorem dX10_putNumber_35 : decode cX10_putNumber 35 = .ok (.iconst 1, 1) := by decide +kernel
theorem dX10_putNumber_36 : decode cX10_putNumber 36 = .ok (.iadd, 1) := by decide +kernel
theorem dX10_putNumber_37 : decode cX10_putNumber 37 = .ok (.putfield 95, 3) := by decide +kernel
theorem dX10_putNumber_40 : decode cX10_putNumber 40 = .ok (.iinc 2 (-8), 3) := by decide +kernel
theorem dX10_putNumber_43 : decode cX10_putNumber 43 = .ok (.goto (-40), 3) := by decide +kernel
theorem dX10_putNumber_46 : decode cX10_putNumber 46 = .ok (.return_, 1) := by decide +kernel
theorem dX10_beginAnew_0 : decode cX10_beginAnew 0 = .ok (.aload_n 0, 1) := by decide +kernel
theorem dX10_beginAnew_1 : decode cX10_beginAnew 1 = .ok (.getfield 42, 3) := by decide +kernel
theorem dX10_beginAnew_4 : decode cX10_beginAnew 4 = .ok (.aload_n 0, 1) := by decide +kernel
theorem dX10_beginAnew_5 : decode cX10_beginAnew 5 = .ok (.getfield 27, 3) := by decide +kernel
theorem dX10_beginAnew_8 : decode cX10_beginAnew 8 = .ok (.invokevirtual 335, 3) := by decide +kernel
theorem dX10_beginAnew_11 : decode cX10_beginAnew 11 = .ok (.aload_n 0, 1) := by decide +kernel
theorem dX10_beginAnew_12 : decode cX10_beginAnew 12 = .ok (.getfield 49, 3) := by decide +kernel
theorem dX10_beginAnew_15 : decode cX10_beginAnew 15 = .ok (.aload_n 0, 1) := by decide +kernel
theorem dX10_beginAnew_16 : decode cX10_beginAnew 16 = .ok (.getfield 42, 3) := by decide +kernel
theorem dX10_beginAnew_19 : decode cX10_beginAnew 19 = .ok (.invokevirtual 316, 3) := by decide +kernel
theorem dX10_beginAnew_22 : decode cX10_beginAnew 22 = .ok (.aload_n 0, 1) := by decide +kernel
theorem dX10_beginAnew_23 : decode cX10_beginAnew 23 = .ok (.getfield 64, 3) := by decide +kernel
theorem dX10_beginAnew_26 : decode cX10_beginAnew 26 = .ok (.invokevirtual 258, 3) := by decide +kernel
theorem dX10_beginAnew_29 : decode cX10_beginAnew 29 = .ok (.aload_n 0, 1) := by decide +kernel
theorem dX10_beginAnew_30 : decode cX10_beginAnew 30 = .ok (.getfield 82, 3) := by decide +kernel
theorem dX10_beginAnew_33 : decode cX10_beginAnew 33 = .ok (.invokevirtual 338, 3) := by decide +kernel
theorem dX10_beginAnew_36 : decode cX10_beginAnew 36 = .ok (.iconst 0, 1) := by decide +kernel
theorem dX10_beginAnew_37 : decode cX10_beginAnew 37 = .ok (.istore_n 1, 1) := by decide +kernel
theorem dX10_beginAnew_38 : decode cX10_beginAnew 38 = .ok (.iload_n 1, 1) := by decide +kernel
theorem dX10_beginAnew_39 : decode cX10_beginAnew 39 = .ok (.iconst 3, 1) := by decide +kernel
theorem dX10_beginAnew_40 : decode cX10_beginAnew 40 = .ok (.if_icmp .ge 16, 3) := by decide +kernel
theorem dX10_beginAnew_43 : decode cX10_beginAnew 43 = .ok (.aload_n 0, 1) := by decide +kernel
theorem dX10_beginAnew_44 : decode cX10_beginAnew 44 = .ok (.getfield 57, 3) := by decide +kernel
theorem dX10_beginAnew_47 : decode cX10_beginAnew 47 = .ok (.iload_n 1, 1) := by decide +kernel
theorem dX10_beginAnew_48 : decode cX10_beginAnew 48 = .ok (.iconst 0, 1) := by decide +kernel
theorem dX10_beginAnew_49 : decode cX10_beginAnew 49 = .ok (.bastore, 1) := by decide +kernel
theorem dX10_beginAnew_50 : decode cX10_beginAnew 50 = .ok (.iinc 1 1, 3) := by decide +kernel
theorem dX10_beginAnew_53 : decode cX10_beginAnew 53 = .ok (.goto (-15), 3) := by decide +kernel
theorem dX10_beginAnew_56 : decode cX10_beginAnew 56 = .ok (.return_, 1) := by decide +kernel
theorem dX10_isBearerUp_0 : decode cX10_isBearerUp 0 = .ok (.aload_n 0, 1) := by decide +kernel
theorem dX10_isBearerUp_1 : decode cX10_isBearerUp 1 = .ok (.getfield 27, 3) := by decide +kernel
theorem dX10_isBearerUp_4 : decode cX10_isBearerUp 4 = .ok (.iload_n 1, 1) := by decide +kernel
theorem dX10_isBearerUp_5 : decode cX10_isBearerUp 5 = .ok (.invokevirtual 116, 3) := by decide +kernel
theorem dX10_isBearerUp_8 : decode cX10_isBearerUp 8 = .ok (.ifCond .eq 18, 3) := by decide +kernel
theorem dX10_isBearerUp_11 : decode cX10_isBearerUp 11 = .ok (.aload_n 0, 1) := by decide +kernel
theorem dX10_isBearerUp_12 : decode cX10_isBearerUp 12 = .ok (.getfield 42, 3) := by decide +kernel
theorem dX10_isBearerUp_15 : decode cX10_isBearerUp 15 = .ok (.iload_n 1, 1) := by decide +kernel
theorem dX10_isBearerUp_16 : decode cX10_isBearerUp 16 = .ok (.invokevirtual 339, 3) := by decide +kernel
theorem dX10_isBearerUp_19 : decode cX10_isBearerUp 19 = .ok (.ifCond .eq 7, 3) := by decide +kernel
theorem dX10_isBearerUp_22 : decode cX10_isBearerUp 22 = .ok (.iconst 1, 1) := by decide +kernel
theorem dX10_isBearerUp_23 : decode cX10_isBearerUp 23 = .ok (.goto 4, 3) := by decide +kernel
theorem dX10_isBearerUp_26 : decode cX10_isBearerUp 26 = .ok (.iconst 0, 1) := by decide +kernel
theorem dX10_isBearerUp_27 : decode cX10_isBearerUp 27 = .ok (.ireturn, 1) := by decide +kernel
theorem dX11_init_0 : decode cX11_init 0 = .ok (.aload_n 0, 1) := by decide +kernel
theorem dX11_init_1 : decode cX11_init 1 = .ok (.invokespecial 1, 3) := by decide +kernel
theorem dX11_init_4 : decode cX11_init 4 = .ok (.aload_n 0, 1) := by decide +kernel
theorem dX11_init_5 : decode cX11_init 5 = .ok (.sipush 1620, 3) := by decide +kernel
theorem dX11_init_8 : decode cX11_init 8 = .ok (.newarray .byte, 2) := by decide +kernel
theorem dX11_init_10 : decode cX11_init 10 = .ok (.putfield 7, 3) := by decide +kernel
theorem dX11_init_13 : decode cX11_init 13 = .ok (.aload_n 0, 1) := by decide +kernel
theorem dX11_init_14 : decode cX11_init 14 = .ok (.sipush 1600, 3) := by decide +kernel
theorem dX11_init_17 : decode cX11_init 17 = .ok (.newarray .byte, 2) := by decide +kernel
theorem dX11_init_19 : decode cX11_init 19 = .ok (.putfield 13, 3) := by decide +kernel
theorem dX11_init_22 : decode cX11_init 22 = .ok (.aload_n 0, 1) := by decide +kernel
theorem dX11_init_23 : decode cX11_init 23 = .ok (.iconst (-1), 1) := by decide +kernel
theorem dX11_init_24 : decode cX11_init 24 = .ok (.putfield 16, 3) := by decide +kernel
theorem dX11_init_27 : decode cX11_init 27 = .ok (.aload_n 0, 1) := by decide +kernel
theorem dX11_init_28 : decode cX11_init 28 = .ok (.iconst 2, 1) := by decide +kernel
theorem dX11_init_29 : decode cX11_init 29 = .ok (.newarray .int, 2) := by decide +kernel
theorem dX11_init_31 : decode cX11_init 31 = .ok (.putfield 20, 3) := by decide +kernel
theorem dX11_init_34 : decode cX11_init 34 = .ok (.aload_n 0, 1) := by decide +kernel
theorem dX11_init_35 : decode cX11_init 35 = .ok (.iconst 2, 1) := by decide +kernel
theorem dX11_init_36 : decode cX11_init 36 = .ok (.newarray .int, 2) := by decide +kernel
theorem dX11_init_38 : decode cX11_init 38 = .ok (.putfield 24, 3) := by decide +kernel
theorem dX11_init_41 : decode cX11_init 41 = .ok (.aload_n 0, 1) := by decide +kernel
theorem dX11_init_42 : decode cX11_init 42 = .ok (.iconst 2, 1) := by decide +kernel
theorem dX11_init_43 : decode cX11_init 43 = .ok (.newarray .int, 2) := by decide +kernel
theorem dX11_init_45 : decode cX11_init 45 = .ok (.putfield 27, 3) := by decide +kernel
theorem dX11_init_48 : decode cX11_init 48 = .ok (.aload_n 0, 1) := by decide +kernel
theorem dX11_init_49 : decode cX11_init 49 = .ok (.iconst 2, 1) := by decide +kernel
theorem dX11_init_50 : decode cX11_init 50 = .ok (.newarray .int, 2) := by decide +kernel
theorem dX11_init_52 : decode cX11_init 52 = .ok (.putfield 30, 3) := by decide +kernel
theorem dX11_init_55 : decode cX11_init 55 = .ok (.aload_n 0, 1) := by decide +kernel
theorem dX11_init_56 : decode cX11_init 56 = .ok (.iconst 2, 1) := by decide +kernel
theorem dX11_init_57 : decode cX11_init 57 = .ok (.newarray .int, 2) := by decide +kernel
theorem dX11_init_59 : decode cX11_init 59 = .ok (.putfield 33, 3) := by decide +kernel
theorem dX11_init_62 : decode cX11_init 62 = .ok (.aload_n 0, 1) := by decide +kernel
theorem dX11_init_63 : decode cX11_init 63 = .ok (.iconst 2, 1) := by decide +kernel
theorem dX11_init_64 : decode cX11_init 64 = .ok (.newarray .int, 2) := by decide +kernel
theorem dX11_init_66 : decode cX11_init 66 = .ok (.putfield 36, 3) := by decide +kernel
theorem dX11_init_69 : decode cX11_init 69 = .ok (.aload_n 0, 1) := by decide +kernel
theorem dX11_init_70 : decode cX11_init 70 = .ok (.bipush 16, 2) := by decide +kernel
theorem dX11_init_72 : decode cX11_init 72 = .ok (.newarray .int, 2) := by decide +kernel
theorem dX11_init_74 : decode cX11_init 74 = .ok (.putfield 39, 3) := by decide +kernel
theorem dX11_init_77 : decode cX11_init 77 = .ok (.aload_n 0, 1) := by decide +kernel
theorem dX11_init_78 : decode cX11_init 78 = .ok (.bipush 16, 2) := by decide +kernel
theorem dX11_init_80 : decode cX11_init 80 = .ok (.newarray .int, 2) := by decide +kernel
theorem dX11_init_82 : decode cX11_init 82 = .ok (.putfield 42, 3) := by decide +kernel
theorem dX11_init_85 : decode cX11_init 85 = .ok (.aload_n 0, 1) := by decide +kernel
theorem dX11_init_86 : decode cX11_init 86 = .ok (.bipush 16, 2) := by decide +kernel
theorem dX11_init_88 : decode cX11_init 88 = .ok (.newarray .int, 2) := by decide +kernel
theorem dX11_init_90 : decode cX11_init 90 = .ok (.putfield 45, 3) := by decide +kernel
theorem dX11_init_93 : decode cX11_init 93 = .ok (.aload_n 0, 1) := by decide +kernel
theorem dX11_init_94 : decode cX11_init 94 = .ok (.bipush 16, 2) := by decide +kernel
theorem dX11_init_96 : decode cX11_init 96 = .ok (.newarray .int, 2) := by decide +kernel
theorem dX11_init_98 : decode cX11_init 98 = .ok (.putfield 48, 3) := by decide +kernel
theorem dX11_init_101 : decode cX11_init 101 = .ok (.aload_n 0, 1) := by decide +kernel
theorem dX11_init_102 : decode cX11_init 102 = .ok (.bipush 10, 2) := by decide +kernel
theorem dX11_init_104 : decode cX11_init 104 = .ok (.newarray .int, 2) := by decide +kernel
theorem dX11_init_106 : decode cX11_init 106 = .ok (.putfield 51, 3) := by decide +kernel
theorem dX11_init_109 : decode cX11_init 109 = .ok (.aload_n 0, 1) := by decide +kernel
theorem dX11_init_110 : decode cX11_init 110 = .ok (.bipush 10, 2) := by decide +kernel
theorem dX11_init_112 : decode cX11_init 112 = .ok (.newarray .int, 2) := by decide +kernel
theorem dX11_init_114 : decode cX11_init 114 = .ok (.putfield 54, 3) := by decide +kernel
theorem dX11_init_117 : decode cX11_init 117 = .ok (.aload_n 0, 1) := by decide +kernel
theorem dX11_init_118 : decode cX11_init 118 = .ok (.bipush 10, 2) := by decide +kernel
theorem dX11_init_120 : decode cX11_init 120 = .ok (.newarray .int, 2) := by decide +kernel
theorem dX11_init_122 : decode cX11_init 122 = .ok (.putfield 57, 3) := by decide +kernel
theorem dX11_init_125 : decode cX11_init 125 = .ok (.aload_n 0, 1) := by decide +kernel
theorem dX11_init_126 : decode cX11_init 126 = .ok (.bipush 10, 2) := by decide +kernel
theorem dX11_init_128 : decode cX11_init 128 = .ok (.newarray .int, 2) := by decide +kernel
theorem dX11_init_130 : decode cX11_init 130 = .ok (.putfield 60, 3) := by decide +kernel
theorem dX11_init_133 : decode cX11_init 133 = .ok (.aload_n 0, 1) := by decide +kernel
theorem dX11_init_134 : decode cX11_init 134 = .ok (.iconst 4, 1) := by decide +kernel
theorem dX11_init_135 : decode cX11_init 135 = .ok (.newarray .int, 2) := by decide +kernel
theorem dX11_init_137 : decode cX11_init 137 = .ok (.putfield 63, 3) := by decide +kernel
theorem dX11_init_140 : decode cX11_init 140 = .ok (.aload_n 0, 1) := by decide +kernel
theorem dX11_init_141 : decode cX11_init 141 = .ok (.iconst 4, 1) := by decide +kernel
theorem dX11_init_142 : decode cX11_init 142 = .ok (.newarray .int, 2) := by decide +kernel
theorem dX11_init_144 : decode cX11_init 144 = .ok (.putfield 66, 3) := by decide +kernel
theorem dX11_init_147 : decode cX11_init 147 = .ok (.aload_n 0, 1) := by decide +kernel
theorem dX11_init_148 : decode cX11_init 148 = .ok (.bipush 16, 2) := by decide +kernel
theorem dX11_init_150 : decode cX11_init 150 = .ok (.newarray .long, 2) := by decide +kernel
theorem dX11_init_152 : decode cX11_init 152 = .ok (.putfield 69, 3) := by decide +kernel
theorem dX11_init_155 : decode cX11_init 155 = .ok (.aload_n 0, 1) := by decide +kernel
theorem dX11_init_156 : decode cX11_init 156 = .ok (.bipush 10, 2) := by decide +kernel
theorem dX11_init_158 : decode cX11_init 158 = .ok (.newarray .long, 2) := by decide +kernel
theorem dX11_init_160 : decode cX11_init 160 = .ok (.putfield 73, 3) := by decide +kernel
theorem dX11_init_163 : decode cX11_init 163 = .ok (.aload_n 0, 1) := by decide +kernel
theorem dX11_init_164 : decode cX11_init 164 = .ok (.sipush 1120, 3) := by decide +kernel
theorem dX11_init_167 : decode cX11_init 167 = .ok (.newarray .int, 2) := by decide +kernel
theorem dX11_init_169 : decode cX11_init 169 = .ok (.putfield 76, 3) := by decide +kernel
theorem dX11_init_172 : decode cX11_init 172 = .ok (.aload_n 0, 1) := by decide +kernel
theorem dX11_init_173 : decode cX11_init 173 = .ok (.sipush 1120, 3) := by decide +kernel
theorem dX11_init_176 : decode cX11_init 176 = .ok (.newarray .int, 2) := by decide +kernel
theorem dX11_init_178 : decode cX11_init 178 = .ok (.putfield 79, 3) := by decide +kernel
theorem dX11_init_181 : decode cX11_init 181 = .ok (.aload_n 0, 1) := by decide +kernel
theorem dX11_init_182 : decode cX11_init 182 = .ok (.bipush 90, 2) := by decide +kernel
theorem dX11_init_184 : decode cX11_init 184 = .ok (.newarray .int, 2) := by decide +kernel
theorem dX11_init_186 : decode cX11_init 186 = .ok (.putfield 82, 3) := by decide +kernel
theorem dX11_init_189 : decode cX11_init 189 = .ok (.aload_n 0, 1) := by decide +kernel
theorem dX11_init_190 : decode cX11_init 190 = .ok (.bipush 90, 2) := by decide +kernel
theorem dX11_init_192 : decode cX11_init 192 = .ok (.newarray .int, 2) := by decide +kernel
theorem dX11_init_194 : decode cX11_init 194 = .ok (.putfield 85, 3) := by decide +kernel
theorem dX11_init_197 : decode cX11_init 197 = .ok (.aload_n 0, 1) := by decide +kernel
theorem dX11_init_198 : decode cX11_init 198 = .ok (.bipush 60, 2) := by decide +kernel
theorem dX11_init_200 : decode cX11_init 200 = .ok (.newarray .int, 2) := by decide +kernel
theorem dX11_init_202 : decode cX11_init 202 = .ok (.putfield 88, 3) := by decide +kernel
theorem dX11_init_205 : decode cX11_init 205 = .ok (.aload_n 0, 1) := by decide +kernel
theorem dX11_init_206 : decode cX11_init 206 = .ok (.bipush 24, 2) := by decide +kernel
theorem dX11_init_208 : decode cX11_init 208 = .ok (.newarray .int, 2) := by decide +kernel
theorem dX11_init_210 : decode cX11_init 210 = .ok (.putfield 91, 3) := by decide +kernel
theorem dX11_init_213 : decode cX11_init 213 = .ok (.aload_n 0, 1) := by decide +kernel
theorem dX11_init_214 : decode cX11_init 214 = .ok (.iconst (-1), 1) := by decide +kernel
theorem dX11_init_215 : decode cX11_init 215 = .ok (.putfield 94, 3) := by decide +kernel
theorem dX11_init_218 : decode cX11_init 218 = .ok (.aload_n 0, 1) := by decide +kernel
theorem dX11_init_219 : decode cX11_init 219 = .ok (.sipush 984, 3) := by decide +kernel
theorem dX11_init_222 : decode cX11_init 222 = .ok (.newarray .int, 2) := by decide +kernel
theorem dX11_init_224 : decode cX11_init 224 = .ok (.putfield 97, 3) := by decide +kernel
theorem dX11_init_227 : decode cX11_init 227 = .ok (.aload_n 0, 1) := by decide +kernel
theorem dX11_init_228 : decode cX11_init 228 = .ok (.bipush 24, 2) := by decide +kernel
theorem dX11_init_230 : decode cX11_init 230 = .ok (.newarray .int, 2) := by decide +kernel
theorem dX11_init_232 : decode cX11_init 232 = .ok (.putfield 100, 3) := by decide +kernel
theorem dX11_init_235 : decode cX11_init 235 = .ok (.aload_n 0, 1) := by decide +kernel
theorem dX11_init_236 : decode cX11_init 236 = .ok (.iconst 5, 1) := by decide +kernel
theorem dX11_init_237 : decode cX11_init 237 = .ok (.newarray .int, 2) := by decide +kernel
theorem dX11_init_239 : decode cX11_init 239 = .ok (.putfield 103, 3) := by decide +kernel
theorem dX11_init_242 : decode cX11_init 242 = .ok (.aload_n 0, 1) := by decide +kernel
theorem dX11_init_243 : decode cX11_init 243 = .ok (.bipush 8, 2) := by decide +kernel
theorem dX11_init_245 : decode cX11_init 245 = .ok (.newarray .int, 2) := by decide +kernel
theorem dX11_init_247 : decode cX11_init 247 = .ok (.putfield 106, 3) := by decide +kernel
theorem dX11_init_250 : decode cX11_init 250 = .ok (.aload_n 0, 1) := by decide +kernel
theorem dX11_init_251 : decode cX11_init 251 = .ok (.bipush 72, 2) := by decide +kernel
theorem dX11_init_253 : decode cX11_init 253 = .ok (.newarray .int, 2) := by decide +kernel
theorem dX11_init_255 : decode cX11_init 255 = .ok (.putfield 109, 3) := by decide +kernel
theorem dX11_init_258 : decode cX11_init 258 = .ok (.aload_n 0, 1) := by decide +kernel
theorem dX11_init_259 : decode cX11_init 259 = .ok (.bipush 32, 2) := by decide +kernel
theorem dX11_init_261 : decode cX11_init 261 = .ok (.newarray .int, 2) := by decide +kernel
theorem dX11_init_263 : decode cX11_init 263 = .ok (.putfield 112, 3) := by decide +kernel
theorem dX11_init_266 : decode cX11_init 266 = .ok (.aload_n 0, 1) := by decide +kernel
theorem dX11_init_267 : decode cX11_init 267 = .ok (.bipush 32, 2) := by decide +kernel
theorem dX11_init_269 : decode cX11_init 269 = .ok (.newarray .int, 2) := by decide +kernel
theorem dX11_init_271 : decode cX11_init 271 = .ok (.putfield 115, 3) := by decide +kernel
theorem dX11_init_274 : decode cX11_init 274 = .ok (.aload_n 0, 1) := by decide +kernel
theorem dX11_init_275 : decode cX11_init 275 = .ok (.sipush 909, 3) := by decide +kernel
theorem dX11_init_278 : decode cX11_init 278 = .ok (.newarray .int, 2) := by decide +kernel
theorem dX11_init_280 : decode cX11_init 280 = .ok (.putfield 118, 3) := by decide +kernel
theorem dX11_init_283 : decode cX11_init 283 = .ok (.aload_n 0, 1) := by decide +kernel
theorem dX11_init_284 : decode cX11_init 284 = .ok (.bipush 30, 2) := by decide +kernel
theorem dX11_init_286 : decode cX11_init 286 = .ok (.newarray .int, 2) := by decide +kernel
theorem dX11_init_288 : decode cX11_init 288 = .ok (.putfield 121, 3) := by decide +kernel
theorem dX11_init_291 : decode cX11_init 291 = .ok (.aload_n 0, 1) := by decide +kernel
theorem dX11_init_292 : decode cX11_init 292 = .ok (.bipush 30, 2) := by decide +kernel
theorem dX11_init_294 : decode cX11_init 294 = .ok (.newarray .int, 2) := by decide +kernel
theorem dX11_init_296 : decode cX11_init 296 = .ok (.putfield 124, 3) := by decide +kernel
theorem dX11_init_299 : decode cX11_init 299 = .ok (.aload_n 0, 1) := by decide +kernel
theorem dX11_init_300 : decode cX11_init 300 = .ok (.bipush 30, 2) := by decide +kernel
theorem dX11_init_302 : decode cX11_init 302 = .ok (.newarray .int, 2) := by decide +kernel
theorem dX11_init_304 : decode cX11_init 304 = .ok (.putfield 127, 3) := by decide +kernel
theorem dX11_init_307 : decode cX11_init 307 = .ok (.aload_n 0, 1) := by decide +kernel
theorem dX11_init_308 : decode cX11_init 308 = .ok (.bipush 30, 2) := by decide +kernel
theorem dX11_init_310 : decode cX11_init 310 = .ok (.newarray .int, 2) := by decide +kernel
theorem dX11_init_312 : decode cX11_init 312 = .ok (.putfield 130, 3) := by decide +kernel
theorem dX11_init_315 : decode cX11_init 315 = .ok (.aload_n 0, 1) := by decide +kernel
theorem dX11_init_316 : decode cX11_init 316 = .ok (.bipush 30, 2) := by decide +kernel
theorem dX11_init_318 : decode cX11_init 318 = .ok (.newarray .int, 2) := by decide +kernel
theorem dX11_init_320 : decode cX11_init 320 = .ok (.putfield 133, 3) := by decide +kernel
theorem dX11_init_323 : decode cX11_init 323 = .ok (.aload_n 0, 1) := by decide +kernel
theorem dX11_init_324 : decode cX11_init 324 = .ok (.bipush 32, 2) := by decide +kernel
theorem dX11_init_326 : decode cX11_init 326 = .ok (.newarray .int, 2) := by decide +kernel
theorem dX11_init_328 : decode cX11_init 328 = .ok (.putfield 136, 3) := by decide +kernel
theorem dX11_init_331 : decode cX11_init 331 = .ok (.aload_n 0, 1) := by decide +kernel
theorem dX11_init_332 : decode cX11_init 332 = .ok (.bipush 72, 2) := by decide +kernel
theorem dX11_init_334 : decode cX11_init 334 = .ok (.newarray .int, 2) := by decide +kernel
theorem dX11_init_336 : decode cX11_init 336 = .ok (.putfield 139, 3) := by decide +kernel
theorem dX11_init_339 : decode cX11_init 339 = .ok (.aload_n 0, 1) := by decide +kernel
theorem dX11_init_340 : decode cX11_init 340 = .ok (.iconst 3, 1) := by decide +kernel
theorem dX11_init_341 : decode cX11_init 341 = .ok (.newarray .boolean, 2) := by decide +kernel
theorem dX11_init_343 : decode cX11_init 343 = .ok (.putfield 142, 3) := by decide +kernel
theorem dX11_init_346 : decode cX11_init 346 = .ok (.aload_n 0, 1) := by decide +kernel
theorem dX11_init_347 : decode cX11_init 347 = .ok (.invokevirtual 146, 3) := by decide +kernel
theorem dX11_init_350 : decode cX11_init 350 = .ok (.aload_n 0, 1) := by decide +kernel
theorem dX11_init_351 : decode cX11_init 351 = .ok (.invokevirtual 149, 3) := by decide +kernel
theorem dX11_init_354 : decode cX11_init 354 = .ok (.return_, 1) := by decide +kernel
theorem dX11_sign_0 : decode cX11_sign 0 = .ok (.iload_n 1, 1) := by decide +kernel
theorem dX11_sign_1 : decode cX11_sign 1 = .ok (.aload_n 0, 1) := by decide +kernel
theorem dX11_sign_2 : decode cX11_sign 2 = .ok (.getfield 152, 3) := by decide +kernel
theorem dX11_sign_5 : decode cX11_sign 5 = .ok (.if_icmp .ge 16, 3) := by decide +kernel
theorem dX11_sign_8 : decode cX11_sign 8 = .ok (.aload_n 0, 1) := by decide +kernel
theorem dX11_sign_9 : decode cX11_sign 9 = .ok (.getfield 13, 3) := by decide +kernel
theorem dX11_sign_12 : decode cX11_sign 12 = .ok (.iload_n 1, 1) := by decide +kernel
theorem dX11_sign_13 : decode cX11_sign 13 = .ok (.baload, 1) := by decide +kernel
theorem dX11_sign_14 : decode cX11_sign 14 = .ok (.sipush 255, 3) := by decide +kernel
theorem dX11_sign_17 : decode cX11_sign 17 = .ok (.iand, 1) := by decide +kernel
theorem dX11_sign_18 : decode cX11_sign 18 = .ok (.goto 4, 3) := by decide +kernel
theorem dX11_sign_21 : decode cX11_sign 21 = .ok (.iconst 0, 1) := by decide +kernel
theorem dX11_sign_22 : decode cX11_sign 22 = .ok (.ireturn, 1) := by decide +kernel
theorem dX11_isLetter_0 : decode cX11_isLetter 0 = .ok (.iload_n 0, 1) := by decide +kernel
theorem dX11_isLetter_1 : decode cX11_isLetter 1 = .ok (.bipush 97, 2) := by decide +kernel
theorem dX11_isLetter_3 : decode cX11_isLetter 3 = .ok (.if_icmp .lt 13, 3) := by decide +kernel
theorem dX11_isLetter_6 : decode cX11_isLetter 6 = .ok (.iload_n 0, 1) := by decide +kernel
theorem dX11_isLetter_7 : decode cX11_isLetter 7 = .ok (.bipush 122, 2) := by decide +kernel
theorem dX11_isLetter_9 : decode cX11_isLetter 9 = .ok (.if_icmp .gt 7, 3) := by decide +kernel
theorem dX11_isLetter_12 : decode cX11_isLetter 12 = .ok (.iconst 1, 1) := by decide +kernel
theorem dX11_isLetter_13 : decode cX11_isLetter 13 = .ok (.goto 4, 3) := by decide +kernel
theorem dX11_isLetter_16 : decode cX11_isLetter 16 = .ok (.iconst 0, 1) := by decide +kernel
theorem dX11_isLetter_17 : decode cX11_isLetter 17 = .ok (.ireturn, 1) := by decide +kernel
theorem dX11_isDigit_0 : decode cX11_isDigit 0 = .ok (.iload_n 0, 1) := by decide +kernel
theorem dX11_isDigit_1 : decode cX11_isDigit 1 = .ok (.bipush 48, 2) := by decide +kernel
theorem dX11_isDigit_3 : decode cX11_isDigit 3 = .ok (.if_icmp .lt 13, 3) := by decide +kernel
theorem dX11_isDigit_6 : decode cX11_isDigit 6 = .ok (.iload_n 0, 1) := by decide +kernel
theorem dX11_isDigit_7 : decode cX11_isDigit 7 = .ok (.bipush 57, 2) := by decide +kernel
theorem dX11_isDigit_9 : decode cX11_isDigit 9 = .ok (.if_icmp .gt 7, 3) := by decide +kernel
theorem dX11_isDigit_12 : decode cX11_isDigit 12 = .ok (.iconst 1, 1) := by decide +kernel
theorem dX11_isDigit_13 : decode cX11_isDigit 13 = .ok (.goto 4, 3) := by decide +kernel
theorem dX11_isDigit_16 : decode cX11_isDigit 16 = .ok (.iconst 0, 1) := by decide +kernel
theorem dX11_isDigit_17 : decode cX11_isDigit 17 = .ok (.ireturn, 1) := by decide +kernel
theorem dX11_fails_0 : decode cX11_fails 0 = .ok (.aload_n 0, 1) := by decide +kernel
theorem dX11_fails_1 : decode cX11_fails 1 = .ok (.getfield 155, 3) := by decide +kernel
theorem dX11_fails_4 : decode cX11_fails 4 = .ok (.ifCond .le 4, 3) := by decide +kernel
theorem dX11_fails_7 : decode cX11_fails 7 = .ok (.return_, 1) := by decide +kernel
theorem dX11_fails_8 : decode cX11_fails 8 = .ok (.aload_n 0, 1) := by decide +kernel
theorem dX11_fails_9 : decode cX11_fails 9 = .ok (.iload_n 1, 1) := by decide +kernel
theorem dX11_fails_10 : decode cX11_fails 10 = .ok (.putfield 155, 3) := by decide +kernel
theorem dX11_fails_13 : decode cX11_fails 13 = .ok (.aload_n 0, 1) := by decide +kernel
theorem dX11_fails_14 : decode cX11_fails 14 = .ok (.iload_n 2, 1) := by decide +kernel
theorem dX11_fails_15 : decode cX11_fails 15 = .ok (.putfield 16, 3) := by decide +kernel
theorem dX11_fails_18 : decode cX11_fails 18 = .ok (.return_, 1) := by decide +kernel
theorem dX11_isGood_0 : decode cX11_isGood 0 = .ok (.aload_n 0, 1) := by decide +kernel
theorem dX11_isGood_1 : decode cX11_isGood 1 = .ok (.getfield 155, 3) := by decide +kernel
theorem dX11_isGood_4 : decode cX11_isGood 4 = .ok (.ifCond .ne 7, 3) := by decide +kernel
theorem dX11_isGood_7 : decode cX11_isGood 7 = .ok (.iconst 1, 1) := by decide +kernel
theorem dX11_isGood_8 : decode cX11_isGood 8 = .ok (.goto 4, 3) := by decide +kernel
theorem dX11_isGood_11 : decode cX11_isGood 11 = .ok (.iconst 0, 1) := by decide +kernel
theorem dX11_isGood_12 : decode cX11_isGood 12 = .ok (.ireturn, 1) := by decide +kernel
theorem dX11_isKept_0 : decode cX11_isKept 0 = .ok (.lload_n 0, 1) := by decide +kernel
theorem dX11_isKept_1 : decode cX11_isKept 1 = .ok (.ldc2_w 158, 3) := by decide +kernel
theorem dX11_isKept_4 : decode cX11_isKept 4 = .ok (.lcmp, 1) := by decide +kernel
theorem dX11_isKept_5 : decode cX11_isKept 5 = .ok (.ifCond .eq 67, 3) := by decide +kernel
theorem dX11_isKept_8 : decode cX11_isKept 8 = .ok (.lload_n 0, 1) := by decide +kernel
theorem dX11_isKept_9 : decode cX11_isKept 9 = .ok (.ldc2_w 160, 3) := by decide +kernel
theorem dX11_isKept_12 : decode cX11_isKept 12 = .ok (.lcmp, 1) := by decide +kernel
theorem dX11_isKept_13 : decode cX11_isKept 13 = .ok (.ifCond .eq 59, 3) := by decide +kernel
theorem dX11_isKept_16 : decode cX11_isKept 16 = .ok (.lload_n 0, 1) := by decide +kernel
theorem dX11_isKept_17 : decode cX11_isKept 17 = .ok (.ldc2_w 162, 3) := by decide +kernel
theorem dX11_isKept_20 : decode cX11_isKept 20 = .ok (.lcmp, 1) := by decide +kernel
theorem dX11_isKept_21 : decode cX11_isKept 21 = .ok (.ifCond .eq 51, 3) := by decide +kernel
theorem dX11_isKept_24 : decode cX11_isKept 24 = .ok (.lload_n 0, 1) := by decide +kernel
theorem dX11_isKept_25 : decode cX11_isKept 25 = .ok (.ldc2_w 164, 3) := by decide +kernel
theorem dX11_isKept_28 : decode cX11_isKept 28 = .ok (.lcmp, 1) := by decide +kernel
theorem dX11_isKept_29 : decode cX11_isKept 29 = .ok (.ifCond .eq 43, 3) := by decide +kernel
theorem dX11_isKept_32 : decode cX11_isKept 32 = .ok (.lload_n 0, 1) := by decide +kernel
theorem dX11_isKept_33 : decode cX11_isKept 33 = .ok (.ldc2_w 166, 3) := by decide +kernel
theorem dX11_isKept_36 : decode cX11_isKept 36 = .ok (.lcmp, 1) := by decide +kernel
theorem dX11_isKept_37 : decode cX11_isKept 37 = .ok (.ifCond .eq 35, 3) := by decide +kernel
theorem dX11_isKept_40 : decode cX11_isKept 40 = .ok (.lload_n 0, 1) := by decide +kernel
theorem dX11_isKept_41 : decode cX11_isKept 41 = .ok (.ldc2_w 168, 3) := by decide +kernel
theorem dX11_isKept_44 : decode cX11_isKept 44 = .ok (.lcmp, 1) := by decide +kernel
theorem dX11_isKept_45 : decode cX11_isKept 45 = .ok (.ifCond .eq 27, 3) := by decide +kernel
theorem dX11_isKept_48 : decode cX11_isKept 48 = .ok (.lload_n 0, 1) := by decide +kernel
theorem dX11_isKept_49 : decode cX11_isKept 49 = .ok (.ldc2_w 170, 3) := by decide +kernel
theorem dX11_isKept_52 : decode cX11_isKept 52 = .ok (.lcmp, 1) := by decide +kernel
theorem dX11_isKept_53 : decode cX11_isKept 53 = .ok (.ifCond .eq 19, 3) := by decide +kernel
theorem dX11_isKept_56 : decode cX11_isKept 56 = .ok (.lload_n 0, 1) := by decide +kernel
theorem dX11_isKept_57 : decode cX11_isKept 57 = .ok (.ldc2_w 172, 3) := by decide +kernel
theorem dX11_isKept_60 : decode cX11_isKept 60 = .ok (.lcmp, 1) := by decide +kernel
theorem dX11_isKept_61 : decode cX11_isKept 61 = .ok (.ifCond .eq 11, 3) := by decide +kernel
theorem dX11_isKept_64 : decode cX11_isKept 64 = .ok (.lload_n 0, 1) := by decide +kernel
theorem dX11_isKept_65 : decode cX11_isKept 65 = .ok (.ldc2_w 174, 3) := by decide +kernel
theorem dX11_isKept_68 : decode cX11_isKept 68 = .ok (.lcmp, 1) := by decide +kernel
theorem dX11_isKept_69 : decode cX11_isKept 69 = .ok (.ifCond .ne 7, 3) := by decide +kernel
theorem dX11_isKept_72 : decode cX11_isKept 72 = .ok (.iconst 1, 1) := by decide +kernel
theorem dX11_isKept_73 : decode cX11_isKept 73 = .ok (.goto 4, 3) := by decide +kernel
theorem dX11_isKept_76 : decode cX11_isKept 76 = .ok (.iconst 0, 1) := by decide +kernel
theorem dX11_isKept_77 : decode cX11_isKept 77 = .ok (.istore_n 2, 1) := by decide +kernel
theorem dX11_isKept_78 : decode cX11_isKept 78 = .ok (.iload_n 2, 1) := by decide +kernel
theorem dX11_isKept_79 : decode cX11_isKept 79 = .ok (.ifCond .ne 75, 3) := by decide +kernel
theorem dX11_isKept_82 : decode cX11_isKept 82 = .ok (.lload_n 0, 1) := by decide +kernel
theorem dX11_isKept_83 : decode cX11_isKept 83 = .ok (.ldc2_w 176, 3) := by decide +kernel
theorem dX11_isKept_86 : decode cX11_isKept 86 = .ok (.lcmp, 1) := by decide +kernel
theorem dX11_isKept_87 : decode cX11_isKept 87 = .ok (.ifCond .eq 67, 3) := by decide +kernel
theorem dX11_isKept_90 : decode cX11_isKept 90 = .ok (.lload_n 0, 1) := by decide +kernel
theorem dX11_isKept_91 : decode cX11_isKept 91 = .ok (.ldc2_w 178, 3) := by decide +kernel
theorem dX11_isKept_94 : decode cX11_isKept 94 = .ok (.lcmp, 1) := by decide +kernel
theorem dX11_isKept_95 : decode cX11_isKept 95 = .ok (.ifCond .eq 59, 3) := by decide +kernel
theorem dX11_isKept_98 : decode cX11_isKept 98 = .ok (.lload_n 0, 1) := by decide +kernel
theorem dX11_isKept_99 : decode cX11_isKept 99 = .ok (.ldc2_w 180, 3) := by decide +kernel
theorem dX11_isKept_102 : decode cX11_isKept 102 = .ok (.lcmp, 1) := by decide +kernel
theorem dX11_isKept_103 : decode cX11_isKept 103 = .ok (.ifCond .eq 51, 3) := by decide +kernel
theorem dX11_isKept_106 : decode cX11_isKept 106 = .ok (.lload_n 0, 1) := by decide +kernel
theorem dX11_isKept_107 : decode cX11_isKept 107 = .ok (.ldc2_w 182, 3) := by decide +kernel
theorem dX11_isKept_110 : decode cX11_isKept 110 = .ok (.lcmp, 1) := by decide +kernel
theorem dX11_isKept_111 : decode cX11_isKept 111 = .ok (.ifCond .eq 43, 3) := by decide +kernel
theorem dX11_isKept_114 : decode cX11_isKept 114 = .ok (.lload_n 0, 1) := by decide +kernel
theorem dX11_isKept_115 : decode cX11_isKept 115 = .ok (.ldc2_w 184, 3) := by decide +kernel
theorem dX11_isKept_118 : decode cX11_isKept 118 = .ok (.lcmp, 1) := by decide +kernel
theorem dX11_isKept_119 : decode cX11_isKept 119 = .ok (.ifCond .eq 35, 3) := by decide +kernel
theorem dX11_isKept_122 : decode cX11_isKept 122 = .ok (.lload_n 0, 1) := by decide +kernel
theorem dX11_isKept_123 : decode cX11_isKept 123 = .ok (.ldc2_w 186, 3) := by decide +kernel
theorem dX11_isKept_126 : decode cX11_isKept 126 = .ok (.lcmp, 1) := by decide +kernel
theorem dX11_isKept_127 : decode cX11_isKept 127 = .ok (.ifCond .eq 27, 3) := by decide +kernel
theorem dX11_isKept_130 : decode cX11_isKept 130 = .ok (.lload_n 0, 1) := by decide +kernel
theorem dX11_isKept_131 : decode cX11_isKept 131 = .ok (.ldc2_w 188, 3) := by decide +kernel
theorem dX11_isKept_134 : decode cX11_isKept 134 = .ok (.lcmp, 1) := by decide +kernel
theorem dX11_isKept_135 : decode cX11_isKept 135 = .ok (.ifCond .eq 19, 3) := by decide +kernel
theorem dX11_isKept_138 : decode cX11_isKept 138 = .ok (.lload_n 0, 1) := by decide +kernel
theorem dX11_isKept_139 : decode cX11_isKept 139 = .ok (.ldc2_w 190, 3) := by decide +kernel
theorem dX11_isKept_142 : decode cX11_isKept 142 = .ok (.lcmp, 1) := by decide +kernel
theorem dX11_isKept_143 : decode cX11_isKept 143 = .ok (.ifCond .eq 11, 3) := by decide +kernel
theorem dX11_isKept_146 : decode cX11_isKept 146 = .ok (.lload_n 0, 1) := by decide +kernel
theorem dX11_isKept_147 : decode cX11_isKept 147 = .ok (.ldc2_w 192, 3) := by decide +kernel
theorem dX11_isKept_150 : decode cX11_isKept 150 = .ok (.lcmp, 1) := by decide +kernel
theorem dX11_isKept_151 : decode cX11_isKept 151 = .ok (.ifCond .ne 7, 3) := by decide +kernel
theorem dX11_isKept_154 : decode cX11_isKept 154 = .ok (.iconst 1, 1) := by decide +kernel
theorem dX11_isKept_155 : decode cX11_isKept 155 = .ok (.goto 4, 3) := by decide +kernel
theorem dX11_isKept_158 : decode cX11_isKept 158 = .ok (.iconst 0, 1) := by decide +kernel
theorem dX11_isKept_159 : decode cX11_isKept 159 = .ok (.ireturn, 1) := by decide +kernel
theorem dX11_isSign_0 : decode cX11_isSign 0 = .ok (.iload_n 0, 1) := by decide +kernel
theorem dX11_isSign_1 : decode cX11_isSign 1 = .ok (.bipush 59, 2) := by decide +kernel
theorem dX11_isSign_3 : decode cX11_isSign 3 = .ok (.if_icmp .eq 63, 3) := by decide +kernel
theorem dX11_isSign_6 : decode cX11_isSign 6 = .ok (.iload_n 0, 1) := by decide +kernel
theorem dX11_isSign_7 : decode cX11_isSign 7 = .ok (.bipush 40, 2) := by decide +kernel
theorem dX11_isSign_9 : decode cX11_isSign 9 = .ok (.if_icmp .eq 57, 3) := by decide +kernel
theorem dX11_isSign_12 : decode cX11_isSign 12 = .ok (.iload_n 0, 1) := by decide +kernel
theorem dX11_isSign_13 : decode cX11_isSign 13 = .ok (.bipush 41, 2) := by decide +kernel
theorem dX11_isSign_15 : decode cX11_isSign 15 = .ok (.if_icmp .eq 51, 3) := by decide +kernel
theorem dX11_isSign_18 : decode cX11_isSign 18 = .ok (.iload_n 0, 1) := by decide +kernel
theorem dX11_isSign_19 : decode cX11_isSign 19 = .ok (.bipush 60, 2) := by decide +kernel
theorem dX11_isSign_21 : decode cX11_isSign 21 = .ok (.if_icmp .eq 45, 3) := by decide +kernel
theorem dX11_isSign_24 : decode cX11_isSign 24 = .ok (.iload_n 0, 1) := by decide +kernel
theorem dX11_isSign_25 : decode cX11_isSign 25 = .ok (.bipush 62, 2) := by decide +kernel
theorem dX11_isSign_27 : decode cX11_isSign 27 = .ok (.if_icmp .eq 39, 3) := by decide +kernel
theorem dX11_isSign_30 : decode cX11_isSign 30 = .ok (.iload_n 0, 1) := by decide +kernel
theorem dX11_isSign_31 : decode cX11_isSign 31 = .ok (.bipush 61, 2) := by decide +kernel
theorem dX11_isSign_33 : decode cX11_isSign 33 = .ok (.if_icmp .eq 33, 3) := by decide +kernel
theorem dX11_isSign_36 : decode cX11_isSign 36 = .ok (.iload_n 0, 1) := by decide +kernel
theorem dX11_isSign_37 : decode cX11_isSign 37 = .ok (.bipush 43, 2) := by decide +kernel
theorem dX11_isSign_39 : decode cX11_isSign 39 = .ok (.if_icmp .eq 27, 3) := by decide +kernel
theorem dX11_isSign_42 : decode cX11_isSign 42 = .ok (.iload_n 0, 1) := by decide +kernel
theorem dX11_isSign_43 : decode cX11_isSign 43 = .ok (.bipush 45, 2) := by decide +kernel
theorem dX11_isSign_45 : decode cX11_isSign 45 = .ok (.if_icmp .eq 21, 3) := by decide +kernel
theorem dX11_isSign_48 : decode cX11_isSign 48 = .ok (.iload_n 0, 1) := by decide +kernel
theorem dX11_isSign_49 : decode cX11_isSign 49 = .ok (.bipush 42, 2) := by decide +kernel
theorem dX11_isSign_51 : decode cX11_isSign 51 = .ok (.if_icmp .eq 15, 3) := by decide +kernel
theorem dX11_isSign_54 : decode cX11_isSign 54 = .ok (.iload_n 0, 1) := by decide +kernel
theorem dX11_isSign_55 : decode cX11_isSign 55 = .ok (.bipush 47, 2) := by decide +kernel
theorem dX11_isSign_57 : decode cX11_isSign 57 = .ok (.if_icmp .eq 9, 3) := by decide +kernel
theorem dX11_isSign_60 : decode cX11_isSign 60 = .ok (.iload_n 0, 1) := by decide +kernel
theorem dX11_isSign_61 : decode cX11_isSign 61 = .ok (.bipush 37, 2) := by decide +kernel
theorem dX11_isSign_63 : decode cX11_isSign 63 = .ok (.if_icmp .ne 7, 3) := by decide +kernel
theorem dX11_isSign_66 : decode cX11_isSign 66 = .ok (.iconst 1, 1) := by decide +kernel
theorem dX11_isSign_67 : decode cX11_isSign 67 = .ok (.goto 4, 3) := by decide +kernel
theorem dX11_isSign_70 : decode cX11_isSign 70 = .ok (.iconst 0, 1) := by decide +kernel
theorem dX11_isSign_71 : decode cX11_isSign 71 = .ok (.ireturn, 1) := by decide +kernel
theorem dX11_goOn_0 : decode cX11_goOn 0 = .ok (.aload_n 0, 1) := by decide +kernel
theorem dX11_goOn_1 : decode cX11_goOn 1 = .ok (.aload_n 0, 1) := by decide +kernel
theorem dX11_goOn_2 : decode cX11_goOn 2 = .ok (.getfield 194, 3) := by decide +kernel
theorem dX11_goOn_5 : decode cX11_goOn 5 = .ok (.putfield 197, 3) := by decide +kernel
theorem dX11_goOn_8 : decode cX11_goOn 8 = .ok (.aload_n 0, 1) := by decide +kernel
theorem dX11_goOn_9 : decode cX11_goOn 9 = .ok (.getfield 197, 3) := by decide +kernel
theorem dX11_goOn_12 : decode cX11_goOn 12 = .ok (.aload_n 0, 1) := by decide +kernel
theorem dX11_goOn_13 : decode cX11_goOn 13 = .ok (.getfield 152, 3) := by decide +kernel
theorem dX11_goOn_16 : decode cX11_goOn 16 = .ok (.if_icmp .ge 42, 3) := by decide +kernel
theorem dX11_goOn_19 : decode cX11_goOn 19 = .ok (.aload_n 0, 1) := by decide +kernel
theorem dX11_goOn_20 : decode cX11_goOn 20 = .ok (.aload_n 0, 1) := by decide +kernel
theorem dX11_goOn_21 : decode cX11_goOn 21 = .ok (.getfield 197, 3) := by decide +kernel
theorem dX11_goOn_24 : decode cX11_goOn 24 = .ok (.invokevirtual 200, 3) := by decide +kernel
theorem dX11_goOn_27 : decode cX11_goOn 27 = .ok (.bipush 32, 2) := by decide +kernel
theorem dX11_goOn_29 : decode cX11_goOn 29 = .ok (.if_icmp .eq 16, 3) := by decide +kernel
theorem dX11_goOn_32 : decode cX11_goOn 32 = .ok (.aload_n 0, 1) := by decide +kernel
theorem dX11_goOn_33 : decode cX11_goOn 33 = .ok (.aload_n 0, 1) := by decide +kernel
theorem dX11_goOn_34 : decode cX11_goOn 34 = .ok (.getfield 197, 3) := by decide +kernel
theorem dX11_goOn_37 : decode cX11_goOn 37 = .ok (.invokevirtual 200, 3) := by decide +kernel
theorem dX11_goOn_40 : decode cX11_goOn 40 = .ok (.bipush 10, 2) := by decide +kernel
theorem dX11_goOn_42 : decode cX11_goOn 42 = .ok (.if_icmp .ne 16, 3) := by decide +kernel
theorem dX11_goOn_45 : decode cX11_goOn 45 = .ok (.aload_n 0, 1) := by decide +kernel
theorem dX11_goOn_46 : decode cX11_goOn 46 = .ok (.dup, 1) := by decide +kernel
theorem dX11_goOn_47 : decode cX11_goOn 47 = .ok (.getfield 197, 3) := by decide +kernel
theorem dX11_goOn_50 : decode cX11_goOn 50 = .ok (.iconst 1, 1) := by decide +kernel
theorem dX11_goOn_51 : decode cX11_goOn 51 = .ok (.iadd, 1) := by decide +kernel
theorem dX11_goOn_52 : decode cX11_goOn 52 = .ok (.putfield 197, 3) := by decide +kernel
theorem dX11_goOn_55 : decode cX11_goOn 55 = .ok (.goto (-47), 3) := by decide +kernel
theorem dX11_goOn_58 : decode cX11_goOn 58 = .ok (.aload_n 0, 1) := by decide +kernel
theorem dX11_goOn_59 : decode cX11_goOn 59 = .ok (.aload_n 0, 1) := by decide +kernel
theorem dX11_goOn_60 : decode cX11_goOn 60 = .ok (.getfield 197, 3) := by decide +kernel
theorem dX11_goOn_63 : decode cX11_goOn 63 = .ok (.invokevirtual 200, 3) := by decide +kernel
theorem dX11_goOn_66 : decode cX11_goOn 66 = .ok (.istore_n 1, 1) := by decide +kernel
theorem dX11_goOn_67 : decode cX11_goOn 67 = .ok (.aload_n 0, 1) := by decide +kernel
theorem dX11_goOn_68 : decode cX11_goOn 68 = .ok (.aload_n 0, 1) := by decide +kernel
theorem dX11_goOn_69 : decode cX11_goOn 69 = .ok (.getfield 197, 3) := by decide +kernel
theorem dX11_goOn_72 : decode cX11_goOn 72 = .ok (.iconst 1, 1) := by decide +kernel
theorem dX11_goOn_73 : decode cX11_goOn 73 = .ok (.iadd, 1) := by decide +kernel
theorem dX11_goOn_74 : decode cX11_goOn 74 = .ok (.putfield 194, 3) := by decide +kernel
theorem dX11_goOn_77 : decode cX11_goOn 77 = .ok (.aload_n 0, 1) := by decide +kernel
theorem dX11_goOn_78 : decode cX11_goOn 78 = .ok (.getfield 197, 3) := by decide +kernel
theorem dX11_goOn_81 : decode cX11_goOn 81 = .ok (.aload_n 0, 1) := by decide +kernel
theorem dX11_goOn_82 : decode cX11_goOn 82 = .ok (.getfield 152, 3) := by decide +kernel
theorem dX11_goOn_85 : decode cX11_goOn 85 = .ok (.if_icmp .lt 27, 3) := by decide +kernel
theorem dX11_goOn_88 : decode cX11_goOn 88 = .ok (.aload_n 0, 1) := by decide +kernel
theorem dX11_goOn_89 : decode cX11_goOn 89 = .ok (.iconst 0, 1) := by decide +kernel
theorem dX11_goOn_90 : decode cX11_goOn 90 = .ok (.putfield 204, 3) := by decide +kernel
theorem dX11_goOn_93 : decode cX11_goOn 93 = .ok (.aload_n 0, 1) := by decide +kernel
theorem dX11_goOn_94 : decode cX11_goOn 94 = .ok (.aload_n 0, 1) := by decide +kernel
theorem dX11_goOn_95 : decode cX11_goOn 95 = .ok (.getfield 152, 3) := by decide +kernel
theorem dX11_goOn_98 : decode cX11_goOn 98 = .ok (.putfield 197, 3) := by decide +kernel
theorem dX11_goOn_101 : decode cX11_goOn 101 = .ok (.aload_n 0, 1) := by decide +kernel
theorem dX11_goOn_102 : decode cX11_goOn 102 = .ok (.aload_n 0, 1) := by decide +kernel
theorem dX11_goOn_103 : decode cX11_goOn 103 = .ok (.getfield 152, 3) := by decide +kernel
theorem dX11_goOn_106 : decode cX11_goOn 106 = .ok (.putfield 194, 3) := by decide +kernel
theorem dX11_goOn_109 : decode cX11_goOn 109 = .ok (.goto 268, 3) := by decide +kernel
theorem dX11_goOn_112 : decode cX11_goOn 112 = .ok (.iload_n 1, 1) := by decide +kernel
theorem dX11_goOn_113 : decode cX11_goOn 113 = .ok (.invokestatic 207, 3) := by decide +kernel
theorem dX11_goOn_116 : decode cX11_goOn 116 = .ok (.ifCond .eq 123, 3) := by decide +kernel
theorem dX11_goOn_119 : decode cX11_goOn 119 = .ok (.aload_n 0, 1) := by decide +kernel
theorem dX11_goOn_120 : decode cX11_goOn 120 = .ok (.aload_n 0, 1) := by decide +kernel
theorem dX11_goOn_121 : decode cX11_goOn 121 = .ok (.getfield 194, 3) := by decide +kernel
theorem dX11_goOn_124 : decode cX11_goOn 124 = .ok (.invokevirtual 200, 3) := by decide +kernel
theorem dX11_goOn_127 : decode cX11_goOn 127 = .ok (.invokestatic 207, 3) := by decide +kernel
theorem dX11_goOn_130 : decode cX11_goOn 130 = .ok (.ifCond .eq 16, 3) := by decide +kernel
theorem dX11_goOn_133 : decode cX11_goOn 133 = .ok (.aload_n 0, 1) := by decide +kernel
theorem dX11_goOn_134 : decode cX11_goOn 134 = .ok (.dup, 1) := by decide +kernel
theorem dX11_goOn_135 : decode cX11_goOn 135 = .ok (.getfield 194, 3) := by decide +kernel
theorem dX11_goOn_138 : decode cX11_goOn 138 = .ok (.iconst 1, 1) := by decide +kernel
theorem dX11_goOn_139 : decode cX11_goOn 139 = .ok (.iadd, 1) := by decide +kernel
theorem dX11_goOn_140 : decode cX11_goOn 140 = .ok (.putfield 194, 3) := by decide +kernel
theorem dX11_goOn_143 : decode cX11_goOn 143 = .ok (.goto (-24), 3) := by decide +kernel
theorem dX11_goOn_146 : decode cX11_goOn 146 = .ok (.aload_n 0, 1) := by decide +kernel
theorem dX11_goOn_147 : decode cX11_goOn 147 = .ok (.lconst 0, 1) := by decide +kernel
theorem dX11_goOn_148 : decode cX11_goOn 148 = .ok (.putfield 211, 3) := by decide +kernel
theorem dX11_goOn_151 : decode cX11_goOn 151 = .ok (.aload_n 0, 1) := by decide +kernel
theorem dX11_goOn_152 : decode cX11_goOn 152 = .ok (.getfield 197, 3) := by decide +kernel
theorem dX11_goOn_155 : decode cX11_goOn 155 = .ok (.istore_n 2, 1) := by decide +kernel
theorem dX11_goOn_156 : decode cX11_goOn 156 = .ok (.iload_n 2, 1) := by decide +kernel
theorem dX11_goOn_157 : decode cX11_goOn 157 = .ok (.aload_n 0, 1) := by decide +kernel
theorem dX11_goOn_158 : decode cX11_goOn 158 = .ok (.getfield 194, 3) := by decide +kernel
theorem dX11_goOn_161 : decode cX11_goOn 161 = .ok (.if_icmp .ge 38, 3) := by decide +kernel
theorem dX11_goOn_164 : decode cX11_goOn 164 = .ok (.iload_n 2, 1) := by decide +kernel
theorem dX11_goOn_165 : decode cX11_goOn 165 = .ok (.aload_n 0, 1) := by decide +kernel
theorem dX11_goOn_166 : decode cX11_goOn 166 = .ok (.getfield 197, 3) := by decide +kernel
theorem dX11_goOn_169 : decode cX11_goOn 169 = .ok (.bipush 8, 2) := by decide +kernel
theorem dX11_goOn_171 : decode cX11_goOn 171 = .ok (.iadd, 1) := by decide +kernel
theorem dX11_goOn_172 : decode cX11_goOn 172 = .ok (.if_icmp .ge 27, 3) := by decide +kernel
theorem dX11_goOn_175 : decode cX11_goOn 175 = .ok (.aload_n 0, 1) := by decide +kernel
theorem dX11_goOn_176 : decode cX11_goOn 176 = .ok (.aload_n 0, 1) := by decide +kernel
theorem dX11_goOn_177 : decode cX11_goOn 177 = .ok (.getfield 211, 3) := by decide +kernel
theorem dX11_goOn_180 : decode cX11_goOn 180 = .ok (.bipush 8, 2) := by decide +kernel
theorem dX11_goOn_182 : decode cX11_goOn 182 = .ok (.lshl, 1) := by decide +kernel
theorem dX11_goOn_183 : decode cX11_goOn 183 = .ok (.aload_n 0, 1) := by decide +kernel
theorem dX11_goOn_184 : decode cX11_goOn 184 = .ok (.iload_n 2, 1) := by decide +kernel
theorem dX11_goOn_185 : decode cX11_goOn 185 = .ok (.invokevirtual 200, 3) := by decide +kernel
theorem dX11_goOn_188 : decode cX11_goOn 188 = .ok (.i2l, 1) := by decide +kernel
theorem dX11_goOn_189 : decode cX11_goOn 189 = .ok (.lor, 1) := by decide +kernel
theorem dX11_goOn_190 : decode cX11_goOn 190 = .ok (.putfield 211, 3) := by decide +kernel
theorem dX11_goOn_193 : decode cX11_goOn 193 = .ok (.iinc 2 1, 3) := by decide +kernel
theorem dX11_goOn_196 : decode cX11_goOn 196 = .ok (.goto (-40), 3) := by decide +kernel
theorem dX11_goOn_199 : decode cX11_goOn 199 = .ok (.aload_n 0, 1) := by decide +kernel
theorem dX11_goOn_200 : decode cX11_goOn 200 = .ok (.aload_n 0, 1) := by decide +kernel
theorem dX11_goOn_201 : decode cX11_goOn 201 = .ok (.getfield 194, 3) := by decide +kernel
theorem dX11_goOn_204 : decode cX11_goOn 204 = .ok (.aload_n 0, 1) := by decide +kernel
theorem dX11_goOn_205 : decode cX11_goOn 205 = .ok (.getfield 197, 3) := by decide +kernel
theorem dX11_goOn_208 : decode cX11_goOn 208 = .ok (.isub, 1) := by decide +kernel
theorem dX11_goOn_209 : decode cX11_goOn 209 = .ok (.bipush 8, 2) := by decide +kernel
theorem dX11_goOn_211 : decode cX11_goOn 211 = .ok (.if_icmp .le 7, 3) := by decide +kernel
theorem dX11_goOn_214 : decode cX11_goOn 214 = .ok (.iconst 1, 1) := by decide +kernel
theorem dX11_goOn_215 : decode cX11_goOn 215 = .ok (.goto 18, 3) := by decide +kernel
theorem dX11_goOn_218 : decode cX11_goOn 218 = .ok (.aload_n 0, 1) := by decide +kernel
theorem dX11_goOn_219 : decode cX11_goOn 219 = .ok (.getfield 211, 3) := by decide +kernel
theorem dX11_goOn_222 : decode cX11_goOn 222 = .ok (.invokestatic 215, 3) := by decide +kernel
theorem dX11_goOn_225 : decode cX11_goOn 225 = .ok (.ifCond .eq 7, 3) := by decide +kernel
theorem dX11_goOn_228 : decode cX11_goOn 228 = .ok (.iconst 3, 1) := by decide +kernel
theorem dX11_goOn_229 : decode cX11_goOn 229 = .ok (.goto 4, 3) := by decide +kernel
theorem dX11_goOn_232 : decode cX11_goOn 232 = .ok (.iconst 2, 1) := by decide +kernel
theorem dX11_goOn_233 : decode cX11_goOn 233 = .ok (.putfield 204, 3) := by decide +kernel
theorem dX11_goOn_236 : decode cX11_goOn 236 = .ok (.goto 141, 3) := by decide +kernel
theorem dX11_goOn_239 : decode cX11_goOn 239 = .ok (.iload_n 1, 1) := by decide +kernel
theorem dX11_goOn_240 : decode cX11_goOn 240 = .ok (.invokestatic 219, 3) := by decide +kernel
theorem dX11_goOn_243 : decode cX11_goOn 243 = .ok (.ifCond .eq 118, 3) := by decide +kernel
theorem dX11_goOn_246 : decode cX11_goOn 246 = .ok (.aload_n 0, 1) := by decide +kernel
theorem dX11_goOn_247 : decode cX11_goOn 247 = .ok (.iconst 0, 1) := by decide +kernel
theorem dX11_goOn_248 : decode cX11_goOn 248 = .ok (.putfield 222, 3) := by decide +kernel
theorem dX11_goOn_251 : decode cX11_goOn 251 = .ok (.aload_n 0, 1) := by decide +kernel
theorem dX11_goOn_252 : decode cX11_goOn 252 = .ok (.aload_n 0, 1) := by decide +kernel
theorem dX11_goOn_253 : decode cX11_goOn 253 = .ok (.getfield 197, 3) := by decide +kernel
theorem dX11_goOn_256 : decode cX11_goOn 256 = .ok (.putfield 194, 3) := by decide +kernel
theorem dX11_goOn_259 : decode cX11_goOn 259 = .ok (.aload_n 0, 1) := by decide +kernel
theorem dX11_goOn_260 : decode cX11_goOn 260 = .ok (.aload_n 0, 1) := by decide +kernel
theorem dX11_goOn_261 : decode cX11_goOn 261 = .ok (.getfield 194, 3) := by decide +kernel
theorem dX11_goOn_264 : decode cX11_goOn 264 = .ok (.invokevirtual 200, 3) := by decide +kernel
theorem dX11_goOn_267 : decode cX11_goOn 267 = .ok (.invokestatic 219, 3) := by decide +kernel
theorem dX11_goOn_270 : decode cX11_goOn 270 = .ok (.ifCond .eq 52, 3) := by decide +kernel
theorem dX11_goOn_273 : decode cX11_goOn 273 = .ok (.aload_n 0, 1) := by decide +kernel
theorem dX11_goOn_274 : decode cX11_goOn 274 = .ok (.getfield 194, 3) := by decide +kernel
theorem dX11_goOn_277 : decode cX11_goOn 277 = .ok (.aload_n 0, 1) := by decide +kernel
theorem dX11_goOn_278 : decode cX11_goOn 278 = .ok (.getfield 197, 3) := by decide +kernel
theorem dX11_goOn_281 : decode cX11_goOn 281 = .ok (.isub, 1) := by decide +kernel
theorem dX11_goOn_282 : decode cX11_goOn 282 = .ok (.iconst 4, 1) := by decide +kernel
theorem dX11_goOn_283 : decode cX11_goOn 283 = .ok (.if_icmp .ge 26, 3) := by decide +kernel
theorem dX11_goOn_286 : decode cX11_goOn 286 = .ok (.aload_n 0, 1) := by decide +kernel
theorem dX11_goOn_287 : decode cX11_goOn 287 = .ok (.bipush 10, 2) := by decide +kernel
theorem dX11_goOn_289 : decode cX11_goOn 289 = .ok (.aload_n 0, 1) := by decide +kernel
theorem dX11_goOn_290 : decode cX11_goOn 290 = .ok (.getfield 222, 3) := by decide +kernel
theorem dX11_goOn_293 : decode cX11_goOn 293 = .ok (.imul, 1) := by decide +kernel
theorem dX11_goOn_294 : decode cX11_goOn 294 = .ok (.aload_n 0, 1) := by decide +kernel
theorem dX11_goOn_295 : decode cX11_goOn 295 = .ok (.aload_n 0, 1) := by decide +kernel
theorem dX11_goOn_296 : decode cX11_goOn 296 = .ok (.getfield 194, 3) := by decide +kernel
theorem dX11_goOn_299 : decode cX11_goOn 299 = .ok (.invokevirtual 200, 3) := by decide +kernel
theorem dX11_goOn_302 : decode cX11_goOn 302 = .ok (.iadd, 1) := by decide +kernel
theorem dX11_goOn_303 : decode cX11_goOn 303 = .ok (.bipush 48, 2) := by decide +kernel
theorem dX11_goOn_305 : decode cX11_goOn 305 = .ok (.isub, 1) := by decide +kernel
theorem dX11_goOn_306 : decode cX11_goOn 306 = .ok (.putfield 222, 3) := by decide +kernel
theorem dX11_goOn_309 : decode cX11_goOn 309 = .ok (.aload_n 0, 1) := by decide +kernel
theorem dX11_goOn_310 : decode cX11_goOn 310 = .ok (.dup, 1) := by decide +kernel
theorem dX11_goOn_311 : decode cX11_goOn 311 = .ok (.getfield 194, 3) := by decide +kernel
theorem dX11_goOn_314 : decode cX11_goOn 314 = .ok (.iconst 1, 1) := by decide +kernel
theorem dX11_goOn_315 : decode cX11_goOn 315 = .ok (.iadd, 1) := by decide +kernel
theorem dX11_goOn_316 : decode cX11_goOn 316 = .ok (.putfield 194, 3) := by decide +kernel
theorem dX11_goOn_319 : decode cX11_goOn 319 = .ok (.goto (-60), 3) := by decide +kernel
theorem dX11_goOn_322 : decode cX11_goOn 322 = .ok (.aload_n 0, 1) := by decide +kernel
theorem dX11_goOn_323 : decode cX11_goOn 323 = .ok (.aload_n 0, 1) := by decide +kernel
theorem dX11_goOn_324 : decode cX11_goOn 324 = .ok (.getfield 194, 3) := by decide +kernel
theorem dX11_goOn_327 : decode cX11_goOn 327 = .ok (.aload_n 0, 1) := by decide +kernel
theorem dX11_goOn_328 : decode cX11_goOn 328 = .ok (.getfield 197, 3) := by decide +kernel
theorem dX11_goOn_331 : decode cX11_goOn 331 = .ok (.isub, 1) := by decide +kernel
theorem dX11_goOn_332 : decode cX11_goOn 332 = .ok (.iconst 4, 1) := by decide +kernel
theorem dX11_goOn_333 : decode cX11_goOn 333 = .ok (.if_icmp .gt 17, 3) := by decide +kernel
theorem dX11_goOn_336 : decode cX11_goOn 336 = .ok (.aload_n 0, 1) := by decide +kernel
theorem dX11_goOn_337 : decode cX11_goOn 337 = .ok (.aload_n 0, 1) := by decide +kernel
theorem dX11_goOn_338 : decode cX11_goOn 338 = .ok (.getfield 194, 3) := by decide +kernel
theorem dX11_goOn_341 : decode cX11_goOn 341 = .ok (.invokevirtual 200, 3) := by decide +kernel
theorem dX11_goOn_344 : decode cX11_goOn 344 = .ok (.invokestatic 207, 3) := by decide +kernel
theorem dX11_goOn_347 : decode cX11_goOn 347 = .ok (.ifCond .eq 7, 3) := by decide +kernel
theorem dX11_goOn_350 : decode cX11_goOn 350 = .ok (.iconst 1, 1) := by decide +kernel
theorem dX11_goOn_351 : decode cX11_goOn 351 = .ok (.goto 4, 3) := by decide +kernel
theorem dX11_goOn_354 : decode cX11_goOn 354 = .ok (.iconst 4, 1) := by decide +kernel
theorem dX11_goOn_355 : decode cX11_goOn 355 = .ok (.putfield 204, 3) := by decide +kernel
theorem dX11_goOn_358 : decode cX11_goOn 358 = .ok (.goto 19, 3) := by decide +kernel
theorem dX11_goOn_361 : decode cX11_goOn 361 = .ok (.aload_n 0, 1) := by decide +kernel
theorem dX11_goOn_362 : decode cX11_goOn 362 = .ok (.iload_n 1, 1) := by decide +kernel
theorem dX11_goOn_363 : decode cX11_goOn 363 = .ok (.invokestatic 225, 3) := by decide +kernel
theorem dX11_goOn_366 : decode cX11_goOn 366 = .ok (.ifCond .eq 7, 3) := by decide +kernel
theorem dX11_goOn_369 : decode cX11_goOn 369 = .ok (.iconst 5, 1) := by decide +kernel
theorem dX11_goOn_370 : decode cX11_goOn 370 = .ok (.goto 4, 3) := by decide +kernel
theorem dX11_goOn_373 : decode cX11_goOn 373 = .ok (.iconst 1, 1) := by decide +kernel
theorem dX11_goOn_374 : decode cX11_goOn 374 = .ok (.putfield 204, 3) := by decide +kernel
theorem dX11_goOn_377 : decode cX11_goOn 377 = .ok (.return_, 1) := by decide +kernel
theorem dX11_isSignHere_0 : decode cX11_isSignHere 0 = .ok (.aload_n 0, 1) := by decide +kernel
theorem dX11_isSignHere_1 : decode cX11_isSignHere 1 = .ok (.getfield 204, 3) := by decide +kernel
theorem dX11_isSignHere_4 : decode cX11_isSignHere 4 = .ok (.iconst 5, 1) := by decide +kernel
theorem dX11_isSignHere_5 : decode cX11_isSignHere 5 = .ok (.if_icmp .ne 19, 3) := by decide +kernel
theorem dX11_isSignHere_8 : decode cX11_isSignHere 8 = .ok (.aload_n 0, 1) := by decide +kernel
theorem dX11_isSignHere_9 : decode cX11_isSignHere 9 = .ok (.aload_n 0, 1) := by decide +kernel
theorem dX11_isSignHere_10 : decode cX11_isSignHere 10 = .ok (.getfield 197, 3) := by decide +kernel
theorem dX11_isSignHere_13 : decode cX11_isSignHere 13 = .ok (.invokevirtual 200, 3) := by decide +kernel
theorem dX11_isSignHere_16 : decode cX11_isSignHere 16 = .ok (.iload_n 1, 1) := by decide +kernel
theorem dX11_isSignHere_17 : decode cX11_isSignHere 17 = .ok (.if_icmp .ne 7, 3) := by decide +kernel
theorem dX11_isSignHere_20 : decode cX11_isSignHere 20 = .ok (.iconst 1, 1) := by decide +kernel
theorem dX11_isSignHere_21 : decode cX11_isSignHere 21 = .ok (.goto 4, 3) := by decide +kernel
theorem dX11_isSignHere_24 : decode cX11_isSignHere 24 = .ok (.iconst 0, 1) := by decide +kernel
theorem dX11_isSignHere_25 : decode cX11_isSignHere 25 = .ok (.ireturn, 1) := by decide +kernel
theorem dX11_isWord_0 : decode cX11_isWord 0 = .ok (.aload_n 0, 1) := by decide +kernel
theorem dX11_isWord_1 : decode cX11_isWord 1 = .ok (.getfield 204, 3) := by decide +kernel
theorem dX11_isWord_4 : decode cX11_isWord 4 = .ok (.iconst 3, 1) := by decide +kernel
theorem dX11_isWord_5 : decode cX11_isWord 5 = .ok (.if_icmp .ne 16, 3) := by decide +kernel
theorem dX11_isWord_8 : decode cX11_isWord 8 = .ok (.aload_n 0, 1) := by decide +kernel
theorem dX11_isWord_9 : decode cX11_isWord 9 = .ok (.getfield 211, 3) := by decide +kernel
theorem dX11_isWord_12 : decode cX11_isWord 12 = .ok (.lload_n 1, 1) := by decide +kernel
theorem dX11_isWord_13 : decode cX11_isWord 13 = .ok (.lcmp, 1) := by decide +kernel
theorem dX11_isWord_14 : decode cX11_isWord 14 = .ok (.ifCond .ne 7, 3) := by decide +kernel
theorem dX11_isWord_17 : decode cX11_isWord 17 = .ok (.iconst 1, 1) := by decide +kernel
theorem dX11_isWord_18 : decode cX11_isWord 18 = .ok (.goto 4, 3) := by decide +kernel
theorem dX11_isWord_21 : decode cX11_isWord 21 = .ok (.iconst 0, 1) := by decide +kernel
theorem dX11_isWord_22 : decode cX11_isWord 22 = .ok (.ireturn, 1) := by decide +kernel
theorem dX11_misplaced_0 : decode cX11_misplaced 0 = .ok (.aload_n 0, 1) := by decide +kernel
theorem dX11_misplaced_1 : decode cX11_misplaced 1 = .ok (.aload_n 0, 1) := by decide +kernel
theorem dX11_misplaced_2 : decode cX11_misplaced 2 = .ok (.getfield 204, 3) := by decide +kernel
theorem dX11_misplaced_5 : decode cX11_misplaced 5 = .ok (.iconst 1, 1) := by decide +kernel
theorem dX11_misplaced_6 : decode cX11_misplaced 6 = .ok (.if_icmp .ne 7, 3) := by decide +kernel
theorem dX11_misplaced_9 : decode cX11_misplaced 9 = .ok (.iconst 1, 1) := by decide +kernel
theorem dX11_misplaced_10 : decode cX11_misplaced 10 = .ok (.goto 4, 3) := by decide +kernel
theorem dX11_misplaced_13 : decode cX11_misplaced 13 = .ok (.iconst 2, 1) := by decide +kernel
theorem dX11_misplaced_14 : decode cX11_misplaced 14 = .ok (.aload_n 0, 1) := by decide +kernel
theorem dX11_misplaced_15 : decode cX11_misplaced 15 = .ok (.getfield 197, 3) := by decide +kernel
theorem dX11_misplaced_18 : decode cX11_misplaced 18 = .ok (.invokevirtual 228, 3) := by decide +kernel
theorem dX11_misplaced_21 : decode cX11_misplaced 21 = .ok (.return_, 1) := by decide +kernel
theorem dX11_must_0 : decode cX11_must 0 = .ok (.aload_n 0, 1) := by decide +kernel
theorem dX11_must_1 : decode cX11_must 1 = .ok (.invokevirtual 232, 3) := by decide +kernel
theorem dX11_must_4 : decode cX11_must 4 = .ok (.ifCond .ne 4, 3) := by decide +kernel
theorem dX11_must_7 : decode cX11_must 7 = .ok (.return_, 1) := by decide +kernel
theorem dX11_must_8 : decode cX11_must 8 = .ok (.iload_n 1, 1) := by decide +kernel
theorem dX11_must_9 : decode cX11_must 9 = .ok (.ifCond .eq 10, 3) := by decide +kernel
theorem dX11_must_12 : decode cX11_must 12 = .ok (.aload_n 0, 1) := by decide +kernel
theorem dX11_must_13 : decode cX11_must 13 = .ok (.invokevirtual 236, 3) := by decide +kernel
theorem dX11_must_16 : decode cX11_must 16 = .ok (.goto 7, 3) := by decide +kernel
theorem dX11_must_19 : decode cX11_must 19 = .ok (.aload_n 0, 1) := by decide +kernel
theorem dX11_must_20 : decode cX11_must 20 = .ok (.invokevirtual 239, 3) := by decide +kernel
theorem dX11_must_23 : decode cX11_must 23 = .ok (.return_, 1) := by decide +kernel
theorem dX11_numeral_0 : decode cX11_numeral 0 = .ok (.aload_n 0, 1) := by decide +kernel
theorem dX11_numeral_1 : decode cX11_numeral 1 = .ok (.invokevirtual 232, 3) := by decide +kernel
theorem dX11_numeral_4 : decode cX11_numeral 4 = .ok (.ifCond .ne 5, 3) := by decide +kernel
theorem dX11_numeral_7 : decode cX11_numeral 7 = .ok (.iload_n 1, 1) := by decide +kernel
theorem dX11_numeral_8 : decode cX11_numeral 8 = .ok (.ireturn, 1) := by decide +kernel
theorem dX11_numeral_9 : decode cX11_numeral 9 = .ok (.aload_n 0, 1) := by decide +kernel
theorem dX11_numeral_10 : decode cX11_numeral 10 = .ok (.getfield 204, 3) := by decide +kernel
theorem dX11_numeral_13 : decode cX11_numeral 13 = .ok (.iconst 4, 1) := by decide +kernel
theorem dX11_numeral_14 : decode cX11_numeral 14 = .ok (.if_icmp .eq 7, 3) := by decide +kernel
theorem dX11_numeral_17 : decode cX11_numeral 17 = .ok (.aload_n 0, 1) := by decide +kernel
theorem dX11_numeral_18 : decode cX11_numeral 18 = .ok (.invokevirtual 239, 3) := by decide +kernel
theorem dX11_numeral_21 : decode cX11_numeral 21 = .ok (.aload_n 0, 1) := by decide +kernel
theorem dX11_numeral_22 : decode cX11_numeral 22 = .ok (.invokevirtual 232, 3) := by decide +kernel
theorem dX11_numeral_25 : decode cX11_numeral 25 = .ok (.ifCond .eq 28, 3) := by decide +kernel
theorem dX11_numeral_28 : decode cX11_numeral 28 = .ok (.aload_n 0, 1) := by decide +kernel
theorem dX11_numeral_29 : decode cX11_numeral 29 = .ok (.getfield 222, 3) := by decide +kernel
theorem dX11_numeral_32 : decode cX11_numeral 32 = .ok (.iload_n 1, 1) := by decide +kernel
theorem dX11_numeral_33 : decode cX11_numeral 33 = .ok (.if_icmp .lt 11, 3) := by decide +kernel
theorem dX11_numeral_36 : decode cX11_numeral 36 = .ok (.aload_n 0, 1) := by decide +kernel
theorem dX11_numeral_37 : decode cX11_numeral 37 = .ok (.getfield 222, 3) := by decide +kernel
theorem dX11_numeral_40 : decode cX11_numeral 40 = .ok (.iload_n 2, 1) := by decide +kernel
theorem dX11_numeral_41 : decode cX11_numeral 41 = .ok (.if_icmp .le 12, 3) := by decide +kernel
theorem dX11_numeral_44 : decode cX11_numeral 44 = .ok (.aload_n 0, 1) := by decide +kernel
theorem dX11_numeral_45 : decode cX11_numeral 45 = .ok (.iconst 4, 1) := by decide +kernel
theorem dX11_numeral_46 : decode cX11_numeral 46 = .ok (.aload_n 0, 1) := by decide +kernel
theorem dX11_numeral_47 : decode cX11_numeral 47 = .ok (.getfield 197, 3) := by decide +kernel
theorem dX11_numeral_50 : decode cX11_numeral 50 = .ok (.invokevirtual 228, 3) := by decide +kernel
theorem dX11_numeral_53 : decode cX11_numeral 53 = .ok (.aload_n 0, 1) := by decide +kernel
theorem dX11_numeral_54 : decode cX11_numeral 54 = .ok (.getfield 222, 3) := by decide +kernel
theorem dX11_numeral_57 : decode cX11_numeral 57 = .ok (.istore_n 3, 1) := by decide +kernel
theorem dX11_numeral_58 : decode cX11_numeral 58 = .ok (.aload_n 0, 1) := by decide +kernel
theorem dX11_numeral_59 : decode cX11_numeral 59 = .ok (.invokevirtual 232, 3) := by decide +kernel
theorem dX11_numeral_62 : decode cX11_numeral 62 = .ok (.ifCond .eq 7, 3) := by decide +kernel
theorem dX11_numeral_65 : decode cX11_numeral 65 = .ok (.aload_n 0, 1) := by decide +kernel
theorem dX11_numeral_66 : decode cX11_numeral 66 = .ok (.invokevirtual 236, 3) := by decide +kernel
theorem dX11_numeral_69 : decode cX11_numeral 69 = .ok (.aload_n 0, 1) := by decide +kernel
theorem dX11_numeral_70 : decode cX11_numeral 70 = .ok (.invokevirtual 232, 3) := by decide +kernel
theorem dX11_numeral_73 : decode cX11_numeral 73 = .ok (.ifCond .eq 7, 3) := by decide +kernel
theorem dX11_numeral_76 : decode cX11_numeral 76 = .ok (.iload_n 3, 1) := by decide +kernel
theorem dX11_numeral_77 : decode cX11_numeral 77 = .ok (.goto 4, 3) := by decide +kernel
theorem dX11_numeral_80 : decode cX11_numeral 80 = .ok (.iload_n 1, 1) := by decide +kernel
theorem dX11_numeral_81 : decode cX11_numeral 81 = .ok (.ireturn, 1) := by decide +kernel
theorem dX11_after_0 : decode cX11_after 0 = .ok (.aload_n 0, 1) := by decide +kernel
theorem dX11_after_1 : decode cX11_after 1 = .ok (.aload_n 0, 1) := by decide +kernel
theorem dX11_after_2 : decode cX11_after 2 = .ok (.lload_n 1, 1) := by decide +kernel
theorem dX11_after_3 : decode cX11_after 3 = .ok (.invokevirtual 242, 3) := by decide +kernel
theorem dX11_after_6 : decode cX11_after 6 = .ok (.invokevirtual 245, 3) := by decide +kernel
theorem dX11_after_9 : decode cX11_after 9 = .ok (.aload_n 0, 1) := by decide +kernel
theorem dX11_after_10 : decode cX11_after 10 = .ok (.iload_n 3, 1) := by decide +kernel
theorem dX11_after_11 : decode cX11_after 11 = .ok (.iload 4, 2) := by decide +kernel
theorem dX11_after_13 : decode cX11_after 13 = .ok (.invokevirtual 249, 3) := by decide +kernel
theorem dX11_after_16 : decode cX11_after 16 = .ok (.ireturn, 1) := by decide +kernel
