theorem dX11_perhaps_0 : decode cX11_perhaps 0 = .ok (.aload_n 0, 1) := by decide +kernel
theorem dX11_perhaps_1 : decode cX11_perhaps 1 = .ok (.invokevirtual 232, 3) := by decide +kernel
theorem dX11_perhaps_4 : decode cX11_perhaps 4 = .ok (.ifCond .eq 21, 3) := by decide +kernel
theorem dX11_perhaps_7 : decode cX11_perhaps 7 = .ok (.aload_n 0, 1) := by decide +kernel
theorem dX11_perhaps_8 : decode cX11_perhaps 8 = .ok (.lload_n 1, 1) := by decide +kernel
theorem dX11_perhaps_9 : decode cX11_perhaps 9 = .ok (.invokevirtual 242, 3) := by decide +kernel
theorem dX11_perhaps_12 : decode cX11_perhaps 12 = .ok (.ifCond .eq 13, 3) := by decide +kernel
theorem dX11_perhaps_15 : decode cX11_perhaps 15 = .ok (.aload_n 0, 1) := by decide +kernel
theorem dX11_perhaps_16 : decode cX11_perhaps 16 = .ok (.lload_n 1, 1) := by decide +kernel
theorem dX11_perhaps_17 : decode cX11_perhaps 17 = .ok (.iconst 0, 1) := by decide +kernel
theorem dX11_perhaps_18 : decode cX11_perhaps 18 = .ok (.iload_n 3, 1) := by decide +kernel
theorem dX11_perhaps_19 : decode cX11_perhaps 19 = .ok (.invokevirtual 253, 3) := by decide +kernel
theorem dX11_perhaps_22 : decode cX11_perhaps 22 = .ok (.goto 4, 3) := by decide +kernel
theorem dX11_perhaps_25 : decode cX11_perhaps 25 = .ok (.iconst 0, 1) := by decide +kernel
theorem dX11_perhaps_26 : decode cX11_perhaps 26 = .ok (.ireturn, 1) := by decide +kernel
theorem dX11_clearBank_0 : decode cX11_clearBank 0 = .ok (.aload_n 0, 1) := by decide +kernel
theorem dX11_clearBank_1 : decode cX11_clearBank 1 = .ok (.getfield 20, 3) := by decide +kernel
theorem dX11_clearBank_4 : decode cX11_clearBank 4 = .ok (.aload_n 0, 1) := by decide +kernel
theorem dX11_clearBank_5 : decode cX11_clearBank 5 = .ok (.getfield 257, 3) := by decide +kernel
theorem dX11_clearBank_8 : decode cX11_clearBank 8 = .ok (.iconst 0, 1) := by decide +kernel
theorem dX11_clearBank_9 : decode cX11_clearBank 9 = .ok (.iastore, 1) := by decide +kernel
theorem dX11_clearBank_10 : decode cX11_clearBank 10 = .ok (.aload_n 0, 1) := by decide +kernel
theorem dX11_clearBank_11 : decode cX11_clearBank 11 = .ok (.getfield 24, 3) := by decide +kernel
theorem dX11_clearBank_14 : decode cX11_clearBank 14 = .ok (.aload_n 0, 1) := by decide +kernel
theorem dX11_clearBank_15 : decode cX11_clearBank 15 = .ok (.getfield 257, 3) := by decide +kernel
theorem dX11_clearBank_18 : decode cX11_clearBank 18 = .ok (.iconst 0, 1) := by decide +kernel
theorem dX11_clearBank_19 : decode cX11_clearBank 19 = .ok (.iastore, 1) := by decide +kernel
theorem dX11_clearBank_20 : decode cX11_clearBank 20 = .ok (.aload_n 0, 1) := by decide +kernel
theorem dX11_clearBank_21 : decode cX11_clearBank 21 = .ok (.getfield 27, 3) := by decide +kernel
theorem dX11_clearBank_24 : decode cX11_clearBank 24 = .ok (.aload_n 0, 1) := by decide +kernel
theorem dX11_clearBank_25 : decode cX11_clearBank 25 = .ok (.getfield 257, 3) := by decide +kernel
theorem dX11_clearBank_28 : decode cX11_clearBank 28 = .ok (.iconst 0, 1) := by decide +kernel
theorem dX11_clearBank_29 : decode cX11_clearBank 29 = .ok (.iastore, 1) := by decide +kernel
theorem dX11_clearBank_30 : decode cX11_clearBank 30 = .ok (.aload_n 0, 1) := by decide +kernel
theorem dX11_clearBank_31 : decode cX11_clearBank 31 = .ok (.getfield 30, 3) := by decide +kernel
theorem dX11_clearBank_34 : decode cX11_clearBank 34 = .ok (.aload_n 0, 1) := by decide +kernel
theorem dX11_clearBank_35 : decode cX11_clearBank 35 = .ok (.getfield 257, 3) := by decide +kernel
theorem dX11_clearBank_38 : decode cX11_clearBank 38 = .ok (.iconst 0, 1) := by decide +kernel
theorem dX11_clearBank_39 : decode cX11_clearBank 39 = .ok (.iastore, 1) := by decide +kernel
theorem dX11_clearBank_40 : decode cX11_clearBank 40 = .ok (.aload_n 0, 1) := by decide +kernel
theorem dX11_clearBank_41 : decode cX11_clearBank 41 = .ok (.getfield 33, 3) := by decide +kernel
theorem dX11_clearBank_44 : decode cX11_clearBank 44 = .ok (.aload_n 0, 1) := by decide +kernel
theorem dX11_clearBank_45 : decode cX11_clearBank 45 = .ok (.getfield 257, 3) := by decide +kernel
theorem dX11_clearBank_48 : decode cX11_clearBank 48 = .ok (.iconst 0, 1) := by decide +kernel
theorem dX11_clearBank_49 : decode cX11_clearBank 49 = .ok (.iastore, 1) := by decide +kernel
theorem dX11_clearBank_50 : decode cX11_clearBank 50 = .ok (.aload_n 0, 1) := by decide +kernel
theorem dX11_clearBank_51 : decode cX11_clearBank 51 = .ok (.getfield 36, 3) := by decide +kernel
theorem dX11_clearBank_54 : decode cX11_clearBank 54 = .ok (.aload_n 0, 1) := by decide +kernel
theorem dX11_clearBank_55 : decode cX11_clearBank 55 = .ok (.getfield 257, 3) := by decide +kernel
theorem dX11_clearBank_58 : decode cX11_clearBank 58 = .ok (.iconst 0, 1) := by decide +kernel
theorem dX11_clearBank_59 : decode cX11_clearBank 59 = .ok (.iastore, 1) := by decide +kernel
theorem dX11_clearBank_60 : decode cX11_clearBank 60 = .ok (.aload_n 0, 1) := by decide +kernel
theorem dX11_clearBank_61 : decode cX11_clearBank 61 = .ok (.sipush 560, 3) := by decide +kernel
theorem dX11_clearBank_64 : decode cX11_clearBank 64 = .ok (.aload_n 0, 1) := by decide +kernel
theorem dX11_clearBank_65 : decode cX11_clearBank 65 = .ok (.getfield 257, 3) := by decide +kernel
theorem dX11_clearBank_68 : decode cX11_clearBank 68 = .ok (.imul, 1) := by decide +kernel
theorem dX11_clearBank_69 : decode cX11_clearBank 69 = .ok (.putfield 260, 3) := by decide +kernel
theorem dX11_clearBank_72 : decode cX11_clearBank 72 = .ok (.return_, 1) := by decide +kernel
theorem dX11_town_0 : decode cX11_town 0 = .ok (.aload_n 0, 1) := by decide +kernel
theorem dX11_town_1 : decode cX11_town 1 = .ok (.iconst 0, 1) := by decide +kernel
theorem dX11_town_2 : decode cX11_town 2 = .ok (.putfield 155, 3) := by decide +kernel
theorem dX11_town_5 : decode cX11_town 5 = .ok (.aload_n 0, 1) := by decide +kernel
theorem dX11_town_6 : decode cX11_town 6 = .ok (.iconst (-1), 1) := by decide +kernel
theorem dX11_town_7 : decode cX11_town 7 = .ok (.putfield 16, 3) := by decide +kernel
theorem dX11_town_10 : decode cX11_town 10 = .ok (.aload_n 0, 1) := by decide +kernel
theorem dX11_town_11 : decode cX11_town 11 = .ok (.aload_n 0, 1) := by decide +kernel
theorem dX11_town_12 : decode cX11_town 12 = .ok (.getfield 263, 3) := by decide +kernel
theorem dX11_town_15 : decode cX11_town 15 = .ok (.putfield 152, 3) := by decide +kernel
theorem dX11_town_18 : decode cX11_town 18 = .ok (.iconst 0, 1) := by decide +kernel
theorem dX11_town_19 : decode cX11_town 19 = .ok (.istore_n 1, 1) := by decide +kernel
theorem dX11_town_20 : decode cX11_town 20 = .ok (.iload_n 1, 1) := by decide +kernel
theorem dX11_town_21 : decode cX11_town 21 = .ok (.aload_n 0, 1) := by decide +kernel
theorem dX11_town_22 : decode cX11_town 22 = .ok (.getfield 152, 3) := by decide +kernel
theorem dX11_town_25 : decode cX11_town 25 = .ok (.if_icmp .ge 21, 3) := by decide +kernel
theorem dX11_town_28 : decode cX11_town 28 = .ok (.aload_n 0, 1) := by decide +kernel
theorem dX11_town_29 : decode cX11_town 29 = .ok (.getfield 13, 3) := by decide +kernel
theorem dX11_town_32 : decode cX11_town 32 = .ok (.iload_n 1, 1) := by decide +kernel
theorem dX11_town_33 : decode cX11_town 33 = .ok (.aload_n 0, 1) := by decide +kernel
theorem dX11_town_34 : decode cX11_town 34 = .ok (.getfield 7, 3) := by decide +kernel
theorem dX11_town_37 : decode cX11_town 37 = .ok (.iload_n 1, 1) := by decide +kernel
theorem dX11_town_38 : decode cX11_town 38 = .ok (.baload, 1) := by decide +kernel
theorem dX11_town_39 : decode cX11_town 39 = .ok (.bastore, 1) := by decide +kernel
theorem dX11_town_40 : decode cX11_town 40 = .ok (.iinc 1 1, 3) := by decide +kernel
theorem dX11_town_43 : decode cX11_town 43 = .ok (.goto (-23), 3) := by decide +kernel
theorem dX11_town_46 : decode cX11_town 46 = .ok (.aload_n 0, 1) := by decide +kernel
theorem dX11_town_47 : decode cX11_town 47 = .ok (.iconst 0, 1) := by decide +kernel
theorem dX11_town_48 : decode cX11_town 48 = .ok (.putfield 263, 3) := by decide +kernel
theorem dX11_town_51 : decode cX11_town 51 = .ok (.aload_n 0, 1) := by decide +kernel
theorem dX11_town_52 : decode cX11_town 52 = .ok (.iconst 0, 1) := by decide +kernel
theorem dX11_town_53 : decode cX11_town 53 = .ok (.putfield 194, 3) := by decide +kernel
theorem dX11_town_56 : decode cX11_town 56 = .ok (.aload_n 0, 1) := by decide +kernel
theorem dX11_town_57 : decode cX11_town 57 = .ok (.iconst 1, 1) := by decide +kernel
theorem dX11_town_58 : decode cX11_town 58 = .ok (.aload_n 0, 1) := by decide +kernel
theorem dX11_town_59 : decode cX11_town 59 = .ok (.getfield 266, 3) := by decide +kernel
theorem dX11_town_62 : decode cX11_town 62 = .ok (.isub, 1) := by decide +kernel
theorem dX11_town_63 : decode cX11_town 63 = .ok (.putfield 257, 3) := by decide +kernel
theorem dX11_town_66 : decode cX11_town 66 = .ok (.aload_n 0, 1) := by decide +kernel
theorem dX11_town_67 : decode cX11_town 67 = .ok (.invokevirtual 146, 3) := by decide +kernel
theorem dX11_town_70 : decode cX11_town 70 = .ok (.aload_n 0, 1) := by decide +kernel
theorem dX11_town_71 : decode cX11_town 71 = .ok (.invokevirtual 236, 3) := by decide +kernel
theorem dX11_town_74 : decode cX11_town 74 = .ok (.aload_n 0, 1) := by decide +kernel
theorem dX11_town_75 : decode cX11_town 75 = .ok (.invokevirtual 232, 3) := by decide +kernel
theorem dX11_town_78 : decode cX11_town 78 = .ok (.ifCond .eq 17, 3) := by decide +kernel
theorem dX11_town_81 : decode cX11_town 81 = .ok (.aload_n 0, 1) := by decide +kernel
theorem dX11_town_82 : decode cX11_town 82 = .ok (.getfield 204, 3) := by decide +kernel
theorem dX11_town_85 : decode cX11_town 85 = .ok (.ifCond .eq 10, 3) := by decide +kernel
theorem dX11_town_88 : decode cX11_town 88 = .ok (.aload_n 0, 1) := by decide +kernel
theorem dX11_town_89 : decode cX11_town 89 = .ok (.invokevirtual 269, 3) := by decide +kernel
theorem dX11_town_92 : decode cX11_town 92 = .ok (.goto (-18), 3) := by decide +kernel
theorem dX11_town_95 : decode cX11_town 95 = .ok (.aload_n 0, 1) := by decide +kernel
theorem dX11_town_96 : decode cX11_town 96 = .ok (.invokevirtual 232, 3) := by decide +kernel
theorem dX11_town_99 : decode cX11_town 99 = .ok (.ifCond .ne 5, 3) := by decide +kernel
theorem dX11_town_102 : decode cX11_town 102 = .ok (.iconst (-1), 1) := by decide +kernel
theorem dX11_town_103 : decode cX11_town 103 = .ok (.ireturn, 1) := by decide +kernel
theorem dX11_town_104 : decode cX11_town 104 = .ok (.aload_n 0, 1) := by decide +kernel
theorem dX11_town_105 : decode cX11_town 105 = .ok (.aload_n 0, 1) := by decide +kernel
theorem dX11_town_106 : decode cX11_town 106 = .ok (.getfield 257, 3) := by decide +kernel
theorem dX11_town_109 : decode cX11_town 109 = .ok (.putfield 266, 3) := by decide +kernel
theorem dX11_town_112 : decode cX11_town 112 = .ok (.aload_n 0, 1) := by decide +kernel
theorem dX11_town_113 : decode cX11_town 113 = .ok (.invokevirtual 149, 3) := by decide +kernel
theorem dX11_town_116 : decode cX11_town 116 = .ok (.aload_n 0, 1) := by decide +kernel
theorem dX11_town_117 : decode cX11_town 117 = .ok (.getfield 24, 3) := by decide +kernel
theorem dX11_town_120 : decode cX11_town 120 = .ok (.aload_n 0, 1) := by decide +kernel
theorem dX11_town_121 : decode cX11_town 121 = .ok (.getfield 266, 3) := by decide +kernel
theorem dX11_town_124 : decode cX11_town 124 = .ok (.iaload, 1) := by decide +kernel
theorem dX11_town_125 : decode cX11_town 125 = .ok (.ireturn, 1) := by decide +kernel
theorem dX11_isFull_0 : decode cX11_isFull 0 = .ok (.aload_n 0, 1) := by decide +kernel
theorem dX11_isFull_1 : decode cX11_isFull 1 = .ok (.ldc2_w 158, 3) := by decide +kernel
theorem dX11_isFull_4 : decode cX11_isFull 4 = .ok (.invokevirtual 242, 3) := by decide +kernel
theorem dX11_isFull_7 : decode cX11_isFull 7 = .ok (.ifCond .eq 23, 3) := by decide +kernel
theorem dX11_isFull_10 : decode cX11_isFull 10 = .ok (.aload_n 0, 1) := by decide +kernel
theorem dX11_isFull_11 : decode cX11_isFull 11 = .ok (.getfield 20, 3) := by decide +kernel
theorem dX11_isFull_14 : decode cX11_isFull 14 = .ok (.aload_n 0, 1) := by decide +kernel
theorem dX11_isFull_15 : decode cX11_isFull 15 = .ok (.getfield 257, 3) := by decide +kernel
theorem dX11_isFull_18 : decode cX11_isFull 18 = .ok (.iaload, 1) := by decide +kernel
theorem dX11_isFull_19 : decode cX11_isFull 19 = .ok (.bipush 8, 2) := by decide +kernel
theorem dX11_isFull_21 : decode cX11_isFull 21 = .ok (.if_icmp .ne 7, 3) := by decide +kernel
theorem dX11_isFull_24 : decode cX11_isFull 24 = .ok (.iconst 1, 1) := by decide +kernel
theorem dX11_isFull_25 : decode cX11_isFull 25 = .ok (.goto 4, 3) := by decide +kernel
theorem dX11_isFull_28 : decode cX11_isFull 28 = .ok (.iconst 0, 1) := by decide +kernel
theorem dX11_isFull_29 : decode cX11_isFull 29 = .ok (.ireturn, 1) := by decide +kernel
theorem dX11_isFull_30 : decode cX11_isFull 30 = .ok (.aload_n 0, 1) := by decide +kernel
theorem dX11_isFull_31 : decode cX11_isFull 31 = .ok (.ldc2_w 168, 3) := by decide +kernel
theorem dX11_isFull_34 : decode cX11_isFull 34 = .ok (.invokevirtual 242, 3) := by decide +kernel
theorem dX11_isFull_37 : decode cX11_isFull 37 = .ok (.ifCond .eq 22, 3) := by decide +kernel
theorem dX11_isFull_40 : decode cX11_isFull 40 = .ok (.aload_n 0, 1) := by decide +kernel
theorem dX11_isFull_41 : decode cX11_isFull 41 = .ok (.getfield 24, 3) := by decide +kernel
theorem dX11_isFull_44 : decode cX11_isFull 44 = .ok (.aload_n 0, 1) := by decide +kernel
theorem dX11_isFull_45 : decode cX11_isFull 45 = .ok (.getfield 257, 3) := by decide +kernel
theorem dX11_isFull_48 : decode cX11_isFull 48 = .ok (.iaload, 1) := by decide +kernel
theorem dX11_isFull_49 : decode cX11_isFull 49 = .ok (.iconst 5, 1) := by decide +kernel
theorem dX11_isFull_50 : decode cX11_isFull 50 = .ok (.if_icmp .ne 7, 3) := by decide +kernel
theorem dX11_isFull_53 : decode cX11_isFull 53 = .ok (.iconst 1, 1) := by decide +kernel
theorem dX11_isFull_54 : decode cX11_isFull 54 = .ok (.goto 4, 3) := by decide +kernel
theorem dX11_isFull_57 : decode cX11_isFull 57 = .ok (.iconst 0, 1) := by decide +kernel
theorem dX11_isFull_58 : decode cX11_isFull 58 = .ok (.ireturn, 1) := by decide +kernel
theorem dX11_isFull_59 : decode cX11_isFull 59 = .ok (.aload_n 0, 1) := by decide +kernel
theorem dX11_isFull_60 : decode cX11_isFull 60 = .ok (.ldc2_w 178, 3) := by decide +kernel
theorem dX11_isFull_63 : decode cX11_isFull 63 = .ok (.invokevirtual 242, 3) := by decide +kernel
theorem dX11_isFull_66 : decode cX11_isFull 66 = .ok (.ifCond .eq 17, 3) := by decide +kernel
theorem dX11_isFull_69 : decode cX11_isFull 69 = .ok (.aload_n 0, 1) := by decide +kernel
theorem dX11_isFull_70 : decode cX11_isFull 70 = .ok (.getfield 36, 3) := by decide +kernel
theorem dX11_isFull_73 : decode cX11_isFull 73 = .ok (.aload_n 0, 1) := by decide +kernel
theorem dX11_isFull_74 : decode cX11_isFull 74 = .ok (.getfield 257, 3) := by decide +kernel
theorem dX11_isFull_77 : decode cX11_isFull 77 = .ok (.iaload, 1) := by decide +kernel
theorem dX11_isFull_78 : decode cX11_isFull 78 = .ok (.iconst 0, 1) := by decide +kernel
theorem dX11_isFull_79 : decode cX11_isFull 79 = .ok (.invokestatic 272, 3) := by decide +kernel
theorem dX11_isFull_82 : decode cX11_isFull 82 = .ok (.ireturn, 1) := by decide +kernel
theorem dX11_isFull_83 : decode cX11_isFull 83 = .ok (.aload_n 0, 1) := by decide +kernel
theorem dX11_isFull_84 : decode cX11_isFull 84 = .ok (.ldc2_w 180, 3) := by decide +kernel
theorem dX11_isFull_87 : decode cX11_isFull 87 = .ok (.invokevirtual 242, 3) := by decide +kernel
theorem dX11_isFull_90 : decode cX11_isFull 90 = .ok (.ifCond .eq 17, 3) := by decide +kernel
theorem dX11_isFull_93 : decode cX11_isFull 93 = .ok (.aload_n 0, 1) := by decide +kernel
theorem dX11_isFull_94 : decode cX11_isFull 94 = .ok (.getfield 36, 3) := by decide +kernel
theorem dX11_isFull_97 : decode cX11_isFull 97 = .ok (.aload_n 0, 1) := by decide +kernel
theorem dX11_isFull_98 : decode cX11_isFull 98 = .ok (.getfield 257, 3) := by decide +kernel
theorem dX11_isFull_101 : decode cX11_isFull 101 = .ok (.iaload, 1) := by decide +kernel
theorem dX11_isFull_102 : decode cX11_isFull 102 = .ok (.iconst 1, 1) := by decide +kernel
theorem dX11_isFull_103 : decode cX11_isFull 103 = .ok (.invokestatic 272, 3) := by decide +kernel
theorem dX11_isFull_106 : decode cX11_isFull 106 = .ok (.ireturn, 1) := by decide +kernel
theorem dX11_isFull_107 : decode cX11_isFull 107 = .ok (.aload_n 0, 1) := by decide +kernel
theorem dX11_isFull_108 : decode cX11_isFull 108 = .ok (.ldc2_w 182, 3) := by decide +kernel
theorem dX11_isFull_111 : decode cX11_isFull 111 = .ok (.invokevirtual 242, 3) := by decide +kernel
theorem dX11_isFull_114 : decode cX11_isFull 114 = .ok (.ifCond .eq 19, 3) := by decide +kernel
theorem dX11_isFull_117 : decode cX11_isFull 117 = .ok (.aload_n 0, 1) := by decide +kernel
theorem dX11_isFull_118 : decode cX11_isFull 118 = .ok (.getfield 36, 3) := by decide +kernel
theorem dX11_isFull_121 : decode cX11_isFull 121 = .ok (.aload_n 0, 1) := by decide +kernel
theorem dX11_isFull_122 : decode cX11_isFull 122 = .ok (.getfield 257, 3) := by decide +kernel
theorem dX11_isFull_125 : decode cX11_isFull 125 = .ok (.iaload, 1) := by decide +kernel
theorem dX11_isFull_126 : decode cX11_isFull 126 = .ok (.iconst 2, 1) := by decide +kernel
theorem dX11_isFull_127 : decode cX11_isFull 127 = .ok (.invokestatic 272, 3) := by decide +kernel
theorem dX11_isFull_130 : decode cX11_isFull 130 = .ok (.ifCond .eq 7, 3) := by decide +kernel
theorem dX11_isFull_133 : decode cX11_isFull 133 = .ok (.iconst 1, 1) := by decide +kernel
theorem dX11_isFull_134 : decode cX11_isFull 134 = .ok (.goto 4, 3) := by decide +kernel
theorem dX11_isFull_137 : decode cX11_isFull 137 = .ok (.iconst 0, 1) := by decide +kernel
theorem dX11_isFull_138 : decode cX11_isFull 138 = .ok (.ireturn, 1) := by decide +kernel
theorem dX11_readLine_0 : decode cX11_readLine 0 = .ok (.aload_n 0, 1) := by decide +kernel
theorem dX11_readLine_1 : decode cX11_readLine 1 = .ok (.getfield 211, 3) := by decide +kernel
theorem dX11_readLine_4 : decode cX11_readLine 4 = .ok (.lstore_n 1, 1) := by decide +kernel
theorem dX11_readLine_5 : decode cX11_readLine 5 = .ok (.aload_n 0, 1) := by decide +kernel
theorem dX11_readLine_6 : decode cX11_readLine 6 = .ok (.getfield 204, 3) := by decide +kernel
theorem dX11_readLine_9 : decode cX11_readLine 9 = .ok (.iconst 3, 1) := by decide +kernel
theorem dX11_readLine_10 : decode cX11_readLine 10 = .ok (.if_icmp .ne 10, 3) := by decide +kernel
theorem dX11_readLine_13 : decode cX11_readLine 13 = .ok (.aload_n 0, 1) := by decide +kernel
theorem dX11_readLine_14 : decode cX11_readLine 14 = .ok (.invokevirtual 276, 3) := by decide +kernel
theorem dX11_readLine_17 : decode cX11_readLine 17 = .ok (.ifCond .eq 7, 3) := by decide +kernel
theorem dX11_readLine_20 : decode cX11_readLine 20 = .ok (.aload_n 0, 1) := by decide +kernel
theorem dX11_readLine_21 : decode cX11_readLine 21 = .ok (.invokevirtual 239, 3) := by decide +kernel
theorem dX11_readLine_24 : decode cX11_readLine 24 = .ok (.aload_n 0, 1) := by decide +kernel
theorem dX11_readLine_25 : decode cX11_readLine 25 = .ok (.invokevirtual 232, 3) := by decide +kernel
theorem dX11_readLine_28 : decode cX11_readLine 28 = .ok (.ifCond .ne 4, 3) := by decide +kernel
theorem dX11_readLine_31 : decode cX11_readLine 31 = .ok (.return_, 1) := by decide +kernel
theorem dX11_readLine_32 : decode cX11_readLine 32 = .ok (.aload_n 0, 1) := by decide +kernel
theorem dX11_readLine_33 : decode cX11_readLine 33 = .ok (.invokevirtual 236, 3) := by decide +kernel
theorem dX11_readLine_36 : decode cX11_readLine 36 = .ok (.lload_n 1, 1) := by decide +kernel
theorem dX11_readLine_37 : decode cX11_readLine 37 = .ok (.ldc2_w 158, 3) := by decide +kernel
theorem dX11_readLine_40 : decode cX11_readLine 40 = .ok (.lcmp, 1) := by decide +kernel
theorem dX11_readLine_41 : decode cX11_readLine 41 = .ok (.ifCond .ne 7, 3) := by decide +kernel
theorem dX11_readLine_44 : decode cX11_readLine 44 = .ok (.aload_n 0, 1) := by decide +kernel
theorem dX11_readLine_45 : decode cX11_readLine 45 = .ok (.invokevirtual 279, 3) := by decide +kernel
theorem dX11_readLine_48 : decode cX11_readLine 48 = .ok (.lload_n 1, 1) := by decide +kernel
theorem dX11_readLine_49 : decode cX11_readLine 49 = .ok (.ldc2_w 168, 3) := by decide +kernel
theorem dX11_readLine_52 : decode cX11_readLine 52 = .ok (.lcmp, 1) := by decide +kernel
theorem dX11_readLine_53 : decode cX11_readLine 53 = .ok (.ifCond .ne 7, 3) := by decide +kernel
theorem dX11_readLine_56 : decode cX11_readLine 56 = .ok (.aload_n 0, 1) := by decide +kernel
theorem dX11_readLine_57 : decode cX11_readLine 57 = .ok (.invokevirtual 282, 3) := by decide +kernel
theorem dX11_readLine_60 : decode cX11_readLine 60 = .ok (.lload_n 1, 1) := by decide +kernel
theorem dX11_readLine_61 : decode cX11_readLine 61 = .ok (.ldc2_w 178, 3) := by decide +kernel
theorem dX11_readLine_64 : decode cX11_readLine 64 = .ok (.lcmp, 1) := by decide +kernel
theorem dX11_readLine_65 : decode cX11_readLine 65 = .ok (.ifCond .ne 8, 3) := by decide +kernel
theorem dX11_readLine_68 : decode cX11_readLine 68 = .ok (.aload_n 0, 1) := by decide +kernel
theorem dX11_readLine_69 : decode cX11_readLine 69 = .ok (.iconst 0, 1) := by decide +kernel
theorem dX11_readLine_70 : decode cX11_readLine 70 = .ok (.invokevirtual 285, 3) := by decide +kernel
theorem dX11_readLine_73 : decode cX11_readLine 73 = .ok (.lload_n 1, 1) := by decide +kernel
theorem dX11_readLine_74 : decode cX11_readLine 74 = .ok (.ldc2_w 180, 3) := by decide +kernel
theorem dX11_readLine_77 : decode cX11_readLine 77 = .ok (.lcmp, 1) := by decide +kernel
theorem dX11_readLine_78 : decode cX11_readLine 78 = .ok (.ifCond .ne 8, 3) := by decide +kernel
theorem dX11_readLine_81 : decode cX11_readLine 81 = .ok (.aload_n 0, 1) := by decide +kernel
theorem dX11_readLine_82 : decode cX11_readLine 82 = .ok (.iconst 1, 1) := by decide +kernel
theorem dX11_readLine_83 : decode cX11_readLine 83 = .ok (.invokevirtual 285, 3) := by decide +kernel
theorem dX11_readLine_86 : decode cX11_readLine 86 = .ok (.lload_n 1, 1) := by decide +kernel
theorem dX11_readLine_87 : decode cX11_readLine 87 = .ok (.ldc2_w 182, 3) := by decide +kernel
theorem dX11_readLine_90 : decode cX11_readLine 90 = .ok (.lcmp, 1) := by decide +kernel
theorem dX11_readLine_91 : decode cX11_readLine 91 = .ok (.ifCond .ne 33, 3) := by decide +kernel
theorem dX11_readLine_94 : decode cX11_readLine 94 = .ok (.aload_n 0, 1) := by decide +kernel
theorem dX11_readLine_95 : decode cX11_readLine 95 = .ok (.getfield 36, 3) := by decide +kernel
theorem dX11_readLine_98 : decode cX11_readLine 98 = .ok (.aload_n 0, 1) := by decide +kernel
theorem dX11_readLine_99 : decode cX11_readLine 99 = .ok (.getfield 257, 3) := by decide +kernel
theorem dX11_readLine_102 : decode cX11_readLine 102 = .ok (.dup2, 1) := by decide +kernel
theorem dX11_readLine_103 : decode cX11_readLine 103 = .ok (.iaload, 1) := by decide +kernel
theorem dX11_readLine_104 : decode cX11_readLine 104 = .ok (.iconst 4, 1) := by decide +kernel
theorem dX11_readLine_105 : decode cX11_readLine 105 = .ok (.ior, 1) := by decide +kernel
theorem dX11_readLine_106 : decode cX11_readLine 106 = .ok (.iastore, 1) := by decide +kernel
theorem dX11_readLine_107 : decode cX11_readLine 107 = .ok (.aload_n 0, 1) := by decide +kernel
theorem dX11_readLine_108 : decode cX11_readLine 108 = .ok (.getfield 33, 3) := by decide +kernel
theorem dX11_readLine_111 : decode cX11_readLine 111 = .ok (.aload_n 0, 1) := by decide +kernel
theorem dX11_readLine_112 : decode cX11_readLine 112 = .ok (.getfield 257, 3) := by decide +kernel
theorem dX11_readLine_115 : decode cX11_readLine 115 = .ok (.aload_n 0, 1) := by decide +kernel
theorem dX11_readLine_116 : decode cX11_readLine 116 = .ok (.iconst 0, 1) := by decide +kernel
theorem dX11_readLine_117 : decode cX11_readLine 117 = .ok (.sipush 999, 3) := by decide +kernel
theorem dX11_readLine_120 : decode cX11_readLine 120 = .ok (.invokevirtual 249, 3) := by decide +kernel
theorem dX11_readLine_123 : decode cX11_readLine 123 = .ok (.iastore, 1) := by decide +kernel
theorem dX11_readLine_124 : decode cX11_readLine 124 = .ok (.aload_n 0, 1) := by decide +kernel
theorem dX11_readLine_125 : decode cX11_readLine 125 = .ok (.aload_n 0, 1) := by decide +kernel
theorem dX11_readLine_126 : decode cX11_readLine 126 = .ok (.bipush 59, 2) := by decide +kernel
theorem dX11_readLine_128 : decode cX11_readLine 128 = .ok (.invokevirtual 289, 3) := by decide +kernel
theorem dX11_readLine_131 : decode cX11_readLine 131 = .ok (.invokevirtual 245, 3) := by decide +kernel
theorem dX11_readLine_134 : decode cX11_readLine 134 = .ok (.return_, 1) := by decide +kernel
theorem dX11_here_0 : decode cX11_here 0 = .ok (.iconst 0, 1) := by decide +kernel
theorem dX11_here_1 : decode cX11_here 1 = .ok (.istore 4, 2) := by decide +kernel
theorem dX11_here_3 : decode cX11_here 3 = .ok (.iload 4, 2) := by decide +kernel
theorem dX11_here_5 : decode cX11_here 5 = .ok (.iload_n 3, 1) := by decide +kernel
theorem dX11_here_6 : decode cX11_here 6 = .ok (.if_icmp .ge 34, 3) := by decide +kernel
theorem dX11_here_9 : decode cX11_here 9 = .ok (.aload_n 0, 1) := by decide +kernel
theorem dX11_here_10 : decode cX11_here 10 = .ok (.getfield 204, 3) := by decide +kernel
theorem dX11_here_13 : decode cX11_here 13 = .ok (.iconst 2, 1) := by decide +kernel
theorem dX11_here_14 : decode cX11_here 14 = .ok (.if_icmp .ne 20, 3) := by decide +kernel
theorem dX11_here_17 : decode cX11_here 17 = .ok (.aload_n 1, 1) := by decide +kernel
theorem dX11_here_18 : decode cX11_here 18 = .ok (.iload_n 2, 1) := by decide +kernel
theorem dX11_here_19 : decode cX11_here 19 = .ok (.iload 4, 2) := by decide +kernel
theorem dX11_here_21 : decode cX11_here 21 = .ok (.iadd, 1) := by decide +kernel
theorem dX11_here_22 : decode cX11_here 22 = .ok (.laload, 1) := by decide +kernel
theorem dX11_here_23 : decode cX11_here 23 = .ok (.aload_n 0, 1) := by decide +kernel
theorem dX11_here_24 : decode cX11_here 24 = .ok (.getfield 211, 3) := by decide +kernel
theorem dX11_here_27 : decode cX11_here 27 = .ok (.lcmp, 1) := by decide +kernel
theorem dX11_here_28 : decode cX11_here 28 = .ok (.ifCond .ne 6, 3) := by decide +kernel
theorem dX11_here_31 : decode cX11_here 31 = .ok (.iload 4, 2) := by decide +kernel
theorem dX11_here_33 : decode cX11_here 33 = .ok (.ireturn, 1) := by decide +kernel
theorem dX11_here_34 : decode cX11_here 34 = .ok (.iinc 4 1, 3) := by decide +kernel
theorem dX11_here_37 : decode cX11_here 37 = .ok (.goto (-34), 3) := by decide +kernel
theorem dX11_here_40 : decode cX11_here 40 = .ok (.iconst (-1), 1) := by decide +kernel
theorem dX11_here_41 : decode cX11_here 41 = .ok (.ireturn, 1) := by decide +kernel
theorem dX11_fresh_0 : decode cX11_fresh 0 = .ok (.aload_n 0, 1) := by decide +kernel
theorem dX11_fresh_1 : decode cX11_fresh 1 = .ok (.invokevirtual 232, 3) := by decide +kernel
theorem dX11_fresh_4 : decode cX11_fresh 4 = .ok (.ifCond .ne 5, 3) := by decide +kernel
theorem dX11_fresh_7 : decode cX11_fresh 7 = .ok (.lconst 0, 1) := by decide +kernel
theorem dX11_fresh_8 : decode cX11_fresh 8 = .ok (.lreturn, 1) := by decide +kernel
theorem dX11_fresh_9 : decode cX11_fresh 9 = .ok (.aload_n 0, 1) := by decide +kernel
theorem dX11_fresh_10 : decode cX11_fresh 10 = .ok (.getfield 204, 3) := by decide +kernel
theorem dX11_fresh_13 : decode cX11_fresh 13 = .ok (.iconst 2, 1) := by decide +kernel
theorem dX11_fresh_14 : decode cX11_fresh 14 = .ok (.if_icmp .eq 10, 3) := by decide +kernel
theorem dX11_fresh_17 : decode cX11_fresh 17 = .ok (.aload_n 0, 1) := by decide +kernel
theorem dX11_fresh_18 : decode cX11_fresh 18 = .ok (.invokevirtual 239, 3) := by decide +kernel
theorem dX11_fresh_21 : decode cX11_fresh 21 = .ok (.goto 16, 3) := by decide +kernel
theorem dX11_fresh_24 : decode cX11_fresh 24 = .ok (.iload_n 1, 1) := by decide +kernel
theorem dX11_fresh_25 : decode cX11_fresh 25 = .ok (.ifCond .lt 12, 3) := by decide +kernel
theorem dX11_fresh_28 : decode cX11_fresh 28 = .ok (.aload_n 0, 1) := by decide +kernel
theorem dX11_fresh_29 : decode cX11_fresh 29 = .ok (.iconst 3, 1) := by decide +kernel
theorem dX11_fresh_30 : decode cX11_fresh 30 = .ok (.aload_n 0, 1) := by decide +kernel
theorem dX11_fresh_31 : decode cX11_fresh 31 = .ok (.getfield 197, 3) := by decide +kernel
theorem dX11_fresh_34 : decode cX11_fresh 34 = .ok (.invokevirtual 228, 3) := by decide +kernel
theorem dX11_fresh_37 : decode cX11_fresh 37 = .ok (.aload_n 0, 1) := by decide +kernel
theorem dX11_fresh_38 : decode cX11_fresh 38 = .ok (.getfield 211, 3) := by decide +kernel
theorem dX11_fresh_41 : decode cX11_fresh 41 = .ok (.lstore_n 2, 1) := by decide +kernel
theorem dX11_fresh_42 : decode cX11_fresh 42 = .ok (.aload_n 0, 1) := by decide +kernel
theorem dX11_fresh_43 : decode cX11_fresh 43 = .ok (.invokevirtual 232, 3) := by decide +kernel
theorem dX11_fresh_46 : decode cX11_fresh 46 = .ok (.ifCond .eq 7, 3) := by decide +kernel
theorem dX11_fresh_49 : decode cX11_fresh 49 = .ok (.aload_n 0, 1) := by decide +kernel
theorem dX11_fresh_50 : decode cX11_fresh 50 = .ok (.invokevirtual 236, 3) := by decide +kernel
theorem dX11_fresh_53 : decode cX11_fresh 53 = .ok (.lload_n 2, 1) := by decide +kernel
theorem dX11_fresh_54 : decode cX11_fresh 54 = .ok (.lreturn, 1) := by decide +kernel
theorem dX11_readCorner_0 : decode cX11_readCorner 0 = .ok (.bipush 8, 2) := by decide +kernel
theorem dX11_readCorner_2 : decode cX11_readCorner 2 = .ok (.aload_n 0, 1) := by decide +kernel
theorem dX11_readCorner_3 : decode cX11_readCorner 3 = .ok (.getfield 257, 3) := by decide +kernel
theorem dX11_readCorner_6 : decode cX11_readCorner 6 = .ok (.imul, 1) := by decide +kernel
theorem dX11_readCorner_7 : decode cX11_readCorner 7 = .ok (.aload_n 0, 1) := by decide +kernel
theorem dX11_readCorner_8 : decode cX11_readCorner 8 = .ok (.getfield 20, 3) := by decide +kernel
theorem dX11_readCorner_11 : decode cX11_readCorner 11 = .ok (.aload_n 0, 1) := by decide +kernel
theorem dX11_readCorner_12 : decode cX11_readCorner 12 = .ok (.getfield 257, 3) := by decide +kernel
theorem dX11_readCorner_15 : decode cX11_readCorner 15 = .ok (.iaload, 1) := by decide +kernel
theorem dX11_readCorner_16 : decode cX11_readCorner 16 = .ok (.iadd, 1) := by decide +kernel
theorem dX11_readCorner_17 : decode cX11_readCorner 17 = .ok (.istore_n 1, 1) := by decide +kernel
theorem dX11_readCorner_18 : decode cX11_readCorner 18 = .ok (.aload_n 0, 1) := by decide +kernel
theorem dX11_readCorner_19 : decode cX11_readCorner 19 = .ok (.getfield 69, 3) := by decide +kernel
theorem dX11_readCorner_22 : decode cX11_readCorner 22 = .ok (.iload_n 1, 1) := by decide +kernel
theorem dX11_readCorner_23 : decode cX11_readCorner 23 = .ok (.aload_n 0, 1) := by decide +kernel
theorem dX11_readCorner_24 : decode cX11_readCorner 24 = .ok (.aload_n 0, 1) := by decide +kernel
theorem dX11_readCorner_25 : decode cX11_readCorner 25 = .ok (.aload_n 0, 1) := by decide +kernel
theorem dX11_readCorner_26 : decode cX11_readCorner 26 = .ok (.getfield 69, 3) := by decide +kernel
theorem dX11_readCorner_29 : decode cX11_readCorner 29 = .ok (.bipush 8, 2) := by decide +kernel
theorem dX11_readCorner_31 : decode cX11_readCorner 31 = .ok (.aload_n 0, 1) := by decide +kernel
theorem dX11_readCorner_32 : decode cX11_readCorner 32 = .ok (.getfield 257, 3) := by decide +kernel
theorem dX11_readCorner_35 : decode cX11_readCorner 35 = .ok (.imul, 1) := by decide +kernel
theorem dX11_readCorner_36 : decode cX11_readCorner 36 = .ok (.aload_n 0, 1) := by decide +kernel
theorem dX11_readCorner_37 : decode cX11_readCorner 37 = .ok (.getfield 20, 3) := by decide +kernel
theorem dX11_readCorner_40 : decode cX11_readCorner 40 = .ok (.aload_n 0, 1) := by decide +kernel
theorem dX11_readCorner_41 : decode cX11_readCorner 41 = .ok (.getfield 257, 3) := by decide +kernel
theorem dX11_readCorner_44 : decode cX11_readCorner 44 = .ok (.iaload, 1) := by decide +kernel
theorem dX11_readCorner_45 : decode cX11_readCorner 45 = .ok (.invokevirtual 292, 3) := by decide +kernel
theorem dX11_readCorner_48 : decode cX11_readCorner 48 = .ok (.invokevirtual 296, 3) := by decide +kernel
theorem dX11_readCorner_51 : decode cX11_readCorner 51 = .ok (.lastore, 1) := by decide +kernel
theorem dX11_readCorner_52 : decode cX11_readCorner 52 = .ok (.aload_n 0, 1) := by decide +kernel
theorem dX11_readCorner_53 : decode cX11_readCorner 53 = .ok (.getfield 39, 3) := by decide +kernel
theorem dX11_readCorner_56 : decode cX11_readCorner 56 = .ok (.iload_n 1, 1) := by decide +kernel
theorem dX11_readCorner_57 : decode cX11_readCorner 57 = .ok (.aload_n 0, 1) := by decide +kernel
theorem dX11_readCorner_58 : decode cX11_readCorner 58 = .ok (.ldc2_w 160, 3) := by decide +kernel
theorem dX11_readCorner_61 : decode cX11_readCorner 61 = .ok (.iconst 0, 1) := by decide +kernel
theorem dX11_readCorner_62 : decode cX11_readCorner 62 = .ok (.bipush 99, 2) := by decide +kernel
theorem dX11_readCorner_64 : decode cX11_readCorner 64 = .ok (.invokevirtual 253, 3) := by decide +kernel
theorem dX11_readCorner_67 : decode cX11_readCorner 67 = .ok (.iastore, 1) := by decide +kernel
theorem dX11_readCorner_68 : decode cX11_readCorner 68 = .ok (.aload_n 0, 1) := by decide +kernel
theorem dX11_readCorner_69 : decode cX11_readCorner 69 = .ok (.getfield 42, 3) := by decide +kernel
theorem dX11_readCorner_72 : decode cX11_readCorner 72 = .ok (.iload_n 1, 1) := by decide +kernel
theorem dX11_readCorner_73 : decode cX11_readCorner 73 = .ok (.aload_n 0, 1) := by decide +kernel
theorem dX11_readCorner_74 : decode cX11_readCorner 74 = .ok (.ldc2_w 162, 3) := by decide +kernel
theorem dX11_readCorner_77 : decode cX11_readCorner 77 = .ok (.bipush 20, 2) := by decide +kernel
theorem dX11_readCorner_79 : decode cX11_readCorner 79 = .ok (.invokevirtual 300, 3) := by decide +kernel
theorem dX11_readCorner_82 : decode cX11_readCorner 82 = .ok (.iastore, 1) := by decide +kernel
theorem dX11_readCorner_83 : decode cX11_readCorner 83 = .ok (.aload_n 0, 1) := by decide +kernel
theorem dX11_readCorner_84 : decode cX11_readCorner 84 = .ok (.getfield 45, 3) := by decide +kernel
theorem dX11_readCorner_87 : decode cX11_readCorner 87 = .ok (.iload_n 1, 1) := by decide +kernel
theorem dX11_readCorner_88 : decode cX11_readCorner 88 = .ok (.iconst 0, 1) := by decide +kernel
theorem dX11_readCorner_89 : decode cX11_readCorner 89 = .ok (.iastore, 1) := by decide +kernel
theorem dX11_readCorner_90 : decode cX11_readCorner 90 = .ok (.aload_n 0, 1) := by decide +kernel
theorem dX11_readCorner_91 : decode cX11_readCorner 91 = .ok (.getfield 48, 3) := by decide +kernel
theorem dX11_readCorner_94 : decode cX11_readCorner 94 = .ok (.iload_n 1, 1) := by decide +kernel
theorem dX11_readCorner_95 : decode cX11_readCorner 95 = .ok (.iconst 0, 1) := by decide +kernel
theorem dX11_readCorner_96 : decode cX11_readCorner 96 = .ok (.iastore, 1) := by decide +kernel
theorem dX11_readCorner_97 : decode cX11_readCorner 97 = .ok (.aload_n 0, 1) := by decide +kernel
theorem dX11_readCorner_98 : decode cX11_readCorner 98 = .ok (.invokevirtual 232, 3) := by decide +kernel
theorem dX11_readCorner_101 : decode cX11_readCorner 101 = .ok (.ifCond .eq 77, 3) := by decide +kernel
theorem dX11_readCorner_104 : decode cX11_readCorner 104 = .ok (.aload_n 0, 1) := by decide +kernel
theorem dX11_readCorner_105 : decode cX11_readCorner 105 = .ok (.ldc2_w 164, 3) := by decide +kernel
theorem dX11_readCorner_108 : decode cX11_readCorner 108 = .ok (.invokevirtual 242, 3) := by decide +kernel
theorem dX11_readCorner_111 : decode cX11_readCorner 111 = .ok (.ifCond .eq 67, 3) := by decide +kernel
theorem dX11_readCorner_114 : decode cX11_readCorner 114 = .ok (.aload_n 0, 1) := by decide +kernel
theorem dX11_readCorner_115 : decode cX11_readCorner 115 = .ok (.aload_n 0, 1) := by decide +kernel
theorem dX11_readCorner_116 : decode cX11_readCorner 116 = .ok (.getfield 27, 3) := by decide +kernel
theorem dX11_readCorner_119 : decode cX11_readCorner 119 = .ok (.aload_n 0, 1) := by decide +kernel
theorem dX11_readCorner_120 : decode cX11_readCorner 120 = .ok (.getfield 257, 3) := by decide +kernel
theorem dX11_readCorner_123 : decode cX11_readCorner 123 = .ok (.iaload, 1) := by decide +kernel
theorem dX11_readCorner_124 : decode cX11_readCorner 124 = .ok (.iconst 4, 1) := by decide +kernel
theorem dX11_readCorner_125 : decode cX11_readCorner 125 = .ok (.if_icmp .ge 7, 3) := by decide +kernel
theorem dX11_readCorner_128 : decode cX11_readCorner 128 = .ok (.iconst 1, 1) := by decide +kernel
theorem dX11_readCorner_129 : decode cX11_readCorner 129 = .ok (.goto 4, 3) := by decide +kernel
theorem dX11_readCorner_132 : decode cX11_readCorner 132 = .ok (.iconst 0, 1) := by decide +kernel
theorem dX11_readCorner_133 : decode cX11_readCorner 133 = .ok (.invokevirtual 245, 3) := by decide +kernel
theorem dX11_readCorner_136 : decode cX11_readCorner 136 = .ok (.aload_n 0, 1) := by decide +kernel
theorem dX11_readCorner_137 : decode cX11_readCorner 137 = .ok (.getfield 45, 3) := by decide +kernel
theorem dX11_readCorner_140 : decode cX11_readCorner 140 = .ok (.iload_n 1, 1) := by decide +kernel
theorem dX11_readCorner_141 : decode cX11_readCorner 141 = .ok (.aload_n 0, 1) := by decide +kernel
theorem dX11_readCorner_142 : decode cX11_readCorner 142 = .ok (.iconst 0, 1) := by decide +kernel
theorem dX11_readCorner_143 : decode cX11_readCorner 143 = .ok (.bipush 100, 2) := by decide +kernel
theorem dX11_readCorner_145 : decode cX11_readCorner 145 = .ok (.invokevirtual 249, 3) := by decide +kernel
theorem dX11_readCorner_148 : decode cX11_readCorner 148 = .ok (.iastore, 1) := by decide +kernel
theorem dX11_readCorner_149 : decode cX11_readCorner 149 = .ok (.aload_n 0, 1) := by decide +kernel
theorem dX11_readCorner_150 : decode cX11_readCorner 150 = .ok (.getfield 48, 3) := by decide +kernel
theorem dX11_readCorner_153 : decode cX11_readCorner 153 = .ok (.iload_n 1, 1) := by decide +kernel
theorem dX11_readCorner_154 : decode cX11_readCorner 154 = .ok (.aload_n 0, 1) := by decide +kernel
theorem dX11_readCorner_155 : decode cX11_readCorner 155 = .ok (.ldc2_w 166, 3) := by decide +kernel
theorem dX11_readCorner_158 : decode cX11_readCorner 158 = .ok (.iconst 1, 1) := by decide +kernel
theorem dX11_readCorner_159 : decode cX11_readCorner 159 = .ok (.bipush 50, 2) := by decide +kernel
theorem dX11_readCorner_161 : decode cX11_readCorner 161 = .ok (.invokevirtual 253, 3) := by decide +kernel
theorem dX11_readCorner_164 : decode cX11_readCorner 164 = .ok (.iastore, 1) := by decide +kernel
theorem dX11_readCorner_165 : decode cX11_readCorner 165 = .ok (.aload_n 0, 1) := by decide +kernel
theorem dX11_readCorner_166 : decode cX11_readCorner 166 = .ok (.getfield 27, 3) := by decide +kernel
theorem dX11_readCorner_169 : decode cX11_readCorner 169 = .ok (.aload_n 0, 1) := by decide +kernel
theorem dX11_readCorner_170 : decode cX11_readCorner 170 = .ok (.getfield 257, 3) := by decide +kernel
theorem dX11_readCorner_173 : decode cX11_readCorner 173 = .ok (.dup2, 1) := by decide +kernel
theorem dX11_readCorner_174 : decode cX11_readCorner 174 = .ok (.iaload, 1) := by decide +kernel
theorem dX11_readCorner_175 : decode cX11_readCorner 175 = .ok (.iconst 1, 1) := by decide +kernel
theorem dX11_readCorner_176 : decode cX11_readCorner 176 = .ok (.iadd, 1) := by decide +kernel
theorem dX11_readCorner_177 : decode cX11_readCorner 177 = .ok (.iastore, 1) := by decide +kernel
theorem dX11_readCorner_178 : decode cX11_readCorner 178 = .ok (.aload_n 0, 1) := by decide +kernel
theorem dX11_readCorner_179 : decode cX11_readCorner 179 = .ok (.getfield 20, 3) := by decide +kernel
theorem dX11_readCorner_182 : decode cX11_readCorner 182 = .ok (.aload_n 0, 1) := by decide +kernel
theorem dX11_readCorner_183 : decode cX11_readCorner 183 = .ok (.getfield 257, 3) := by decide +kernel
theorem dX11_readCorner_186 : decode cX11_readCorner 186 = .ok (.dup2, 1) := by decide +kernel
theorem dX11_readCorner_187 : decode cX11_readCorner 187 = .ok (.iaload, 1) := by decide +kernel
theorem dX11_readCorner_188 : decode cX11_readCorner 188 = .ok (.iconst 1, 1) := by decide +kernel
theorem dX11_readCorner_189 : decode cX11_readCorner 189 = .ok (.iadd, 1) := by decide +kernel
theorem dX11_readCorner_190 : decode cX11_readCorner 190 = .ok (.iastore, 1) := by decide +kernel
theorem dX11_readCorner_191 : decode cX11_readCorner 191 = .ok (.return_, 1) := by decide +kernel
theorem dX11_readGuild_0 : decode cX11_readGuild 0 = .ok (.iconst 5, 1) := by decide +kernel
theorem dX11_readGuild_1 : decode cX11_readGuild 1 = .ok (.aload_n 0, 1) := by decide +kernel
theorem dX11_readGuild_2 : decode cX11_readGuild 2 = .ok (.getfield 257, 3) := by decide +kernel
theorem dX11_readGuild_5 : decode cX11_readGuild 5 = .ok (.imul, 1) := by decide +kernel
theorem dX11_readGuild_6 : decode cX11_readGuild 6 = .ok (.aload_n 0, 1) := by decide +kernel
theorem dX11_readGuild_7 : decode cX11_readGuild 7 = .ok (.getfield 24, 3) := by decide +kernel
theorem dX11_readGuild_10 : decode cX11_readGuild 10 = .ok (.aload_n 0, 1) := by decide +kernel
theorem dX11_readGuild_11 : decode cX11_readGuild 11 = .ok (.getfield 257, 3) := by decide +kernel
theorem dX11_readGuild_14 : decode cX11_readGuild 14 = .ok (.iaload, 1) := by decide +kernel
theorem dX11_readGuild_15 : decode cX11_readGuild 15 = .ok (.iadd, 1) := by decide +kernel
theorem dX11_readGuild_16 : decode cX11_readGuild 16 = .ok (.istore_n 1, 1) := by decide +kernel
theorem dX11_readGuild_17 : decode cX11_readGuild 17 = .ok (.aload_n 0, 1) := by decide +kernel
theorem dX11_readGuild_18 : decode cX11_readGuild 18 = .ok (.getfield 73, 3) := by decide +kernel
theorem dX11_readGuild_21 : decode cX11_readGuild 21 = .ok (.iload_n 1, 1) := by decide +kernel
theorem dX11_readGuild_22 : decode cX11_readGuild 22 = .ok (.aload_n 0, 1) := by decide +kernel
theorem dX11_readGuild_23 : decode cX11_readGuild 23 = .ok (.aload_n 0, 1) := by decide +kernel
theorem dX11_readGuild_24 : decode cX11_readGuild 24 = .ok (.aload_n 0, 1) := by decide +kernel
theorem dX11_readGuild_25 : decode cX11_readGuild 25 = .ok (.getfield 73, 3) := by decide +kernel
theorem dX11_readGuild_28 : decode cX11_readGuild 28 = .ok (.iconst 5, 1) := by decide +kernel
theorem dX11_readGuild_29 : decode cX11_readGuild 29 = .ok (.aload_n 0, 1) := by decide +kernel
theorem dX11_readGuild_30 : decode cX11_readGuild 30 = .ok (.getfield 257, 3) := by decide +kernel
theorem dX11_readGuild_33 : decode cX11_readGuild 33 = .ok (.imul, 1) := by decide +kernel
theorem dX11_readGuild_34 : decode cX11_readGuild 34 = .ok (.aload_n 0, 1) := by decide +kernel
theorem dX11_readGuild_35 : decode cX11_readGuild 35 = .ok (.getfield 24, 3) := by decide +kernel
theorem dX11_readGuild_38 : decode cX11_readGuild 38 = .ok (.aload_n 0, 1) := by decide +kernel
theorem dX11_readGuild_39 : decode cX11_readGuild 39 = .ok (.getfield 257, 3) := by decide +kernel
theorem dX11_readGuild_42 : decode cX11_readGuild 42 = .ok (.iaload, 1) := by decide +kernel
theorem dX11_readGuild_43 : decode cX11_readGuild 43 = .ok (.invokevirtual 292, 3) := by decide +kernel
theorem dX11_readGuild_46 : decode cX11_readGuild 46 = .ok (.invokevirtual 296, 3) := by decide +kernel
theorem dX11_readGuild_49 : decode cX11_readGuild 49 = .ok (.lastore, 1) := by decide +kernel
theorem dX11_readGuild_50 : decode cX11_readGuild 50 = .ok (.aload_n 0, 1) := by decide +kernel
theorem dX11_readGuild_51 : decode cX11_readGuild 51 = .ok (.getfield 51, 3) := by decide +kernel
theorem dX11_readGuild_54 : decode cX11_readGuild 54 = .ok (.iload_n 1, 1) := by decide +kernel
theorem dX11_readGuild_55 : decode cX11_readGuild 55 = .ok (.aload_n 0, 1) := by decide +kernel
theorem dX11_readGuild_56 : decode cX11_readGuild 56 = .ok (.ldc2_w 170, 3) := by decide +kernel
theorem dX11_readGuild_59 : decode cX11_readGuild 59 = .ok (.iconst 1, 1) := by decide +kernel
theorem dX11_readGuild_60 : decode cX11_readGuild 60 = .ok (.bipush 20, 2) := by decide +kernel
theorem dX11_readGuild_62 : decode cX11_readGuild 62 = .ok (.invokevirtual 253, 3) := by decide +kernel
theorem dX11_readGuild_65 : decode cX11_readGuild 65 = .ok (.iastore, 1) := by decide +kernel
theorem dX11_readGuild_66 : decode cX11_readGuild 66 = .ok (.aload_n 0, 1) := by decide +kernel
theorem dX11_readGuild_67 : decode cX11_readGuild 67 = .ok (.getfield 54, 3) := by decide +kernel
theorem dX11_readGuild_70 : decode cX11_readGuild 70 = .ok (.iload_n 1, 1) := by decide +kernel
theorem dX11_readGuild_71 : decode cX11_readGuild 71 = .ok (.aload_n 0, 1) := by decide +kernel
theorem dX11_readGuild_72 : decode cX11_readGuild 72 = .ok (.ldc2_w 172, 3) := by decide +kernel
theorem dX11_readGuild_75 : decode cX11_readGuild 75 = .ok (.iconst 0, 1) := by decide +kernel
theorem dX11_readGuild_76 : decode cX11_readGuild 76 = .ok (.bipush 100, 2) := by decide +kernel
theorem dX11_readGuild_78 : decode cX11_readGuild 78 = .ok (.invokevirtual 253, 3) := by decide +kernel
theorem dX11_readGuild_81 : decode cX11_readGuild 81 = .ok (.iastore, 1) := by decide +kernel
theorem dX11_readGuild_82 : decode cX11_readGuild 82 = .ok (.aload_n 0, 1) := by decide +kernel
theorem dX11_readGuild_83 : decode cX11_readGuild 83 = .ok (.getfield 57, 3) := by decide +kernel
theorem dX11_readGuild_86 : decode cX11_readGuild 86 = .ok (.iload_n 1, 1) := by decide +kernel
theorem dX11_readGuild_87 : decode cX11_readGuild 87 = .ok (.aload_n 0, 1) := by decide +kernel
theorem dX11_readGuild_88 : decode cX11_readGuild 88 = .ok (.ldc2_w 174, 3) := by decide +kernel
theorem dX11_readGuild_91 : decode cX11_readGuild 91 = .ok (.iconst 0, 1) := by decide +kernel
theorem dX11_readGuild_92 : decode cX11_readGuild 92 = .ok (.bipush 99, 2) := by decide +kernel
theorem dX11_readGuild_94 : decode cX11_readGuild 94 = .ok (.invokevirtual 253, 3) := by decide +kernel
theorem dX11_readGuild_97 : decode cX11_readGuild 97 = .ok (.iastore, 1) := by decide +kernel
theorem dX11_readGuild_98 : decode cX11_readGuild 98 = .ok (.aload_n 0, 1) := by decide +kernel
theorem dX11_readGuild_99 : decode cX11_readGuild 99 = .ok (.getfield 60, 3) := by decide +kernel
theorem dX11_readGuild_102 : decode cX11_readGuild 102 = .ok (.iload_n 1, 1) := by decide +kernel
theorem dX11_readGuild_103 : decode cX11_readGuild 103 = .ok (.aload_n 0, 1) := by decide +kernel
theorem dX11_readGuild_104 : decode cX11_readGuild 104 = .ok (.ldc2_w 176, 3) := by decide +kernel
theorem dX11_readGuild_107 : decode cX11_readGuild 107 = .ok (.bipush 20, 2) := by decide +kernel
theorem dX11_readGuild_109 : decode cX11_readGuild 109 = .ok (.invokevirtual 300, 3) := by decide +kernel
theorem dX11_readGuild_112 : decode cX11_readGuild 112 = .ok (.iastore, 1) := by decide +kernel
theorem dX11_readGuild_113 : decode cX11_readGuild 113 = .ok (.aload_n 0, 1) := by decide +kernel
theorem dX11_readGuild_114 : decode cX11_readGuild 114 = .ok (.getfield 24, 3) := by decide +kernel
theorem dX11_readGuild_117 : decode cX11_readGuild 117 = .ok (.aload_n 0, 1) := by decide +kernel
theorem dX11_readGuild_118 : decode cX11_readGuild 118 = .ok (.getfield 257, 3) := by decide +kernel
theorem dX11_readGuild_121 : decode cX11_readGuild 121 = .ok (.dup2, 1) := by decide +kernel
theorem dX11_readGuild_122 : decode cX11_readGuild 122 = .ok (.iaload, 1) := by decide +kernel
theorem dX11_readGuild_123 : decode cX11_readGuild 123 = .ok (.iconst 1, 1) := by decide +kernel
theorem dX11_readGuild_124 : decode cX11_readGuild 124 = .ok (.iadd, 1) := by decide +kernel
theorem dX11_readGuild_125 : decode cX11_readGuild 125 = .ok (.iastore, 1) := by decide +kernel
theorem dX11_readGuild_126 : decode cX11_readGuild 126 = .ok (.return_, 1) := by decide +kernel
theorem dX11_readRule_0 : decode cX11_readRule 0 = .ok (.aload_n 0, 1) := by decide +kernel
theorem dX11_readRule_1 : decode cX11_readRule 1 = .ok (.getfield 36, 3) := by decide +kernel
theorem dX11_readRule_4 : decode cX11_readRule 4 = .ok (.aload_n 0, 1) := by decide +kernel
theorem dX11_readRule_5 : decode cX11_readRule 5 = .ok (.getfield 257, 3) := by decide +kernel
theorem dX11_readRule_8 : decode cX11_readRule 8 = .ok (.dup2, 1) := by decide +kernel
theorem dX11_readRule_9 : decode cX11_readRule 9 = .ok (.iaload, 1) := by decide +kernel
theorem dX11_readRule_10 : decode cX11_readRule 10 = .ok (.iconst 1, 1) := by decide +kernel
theorem dX11_readRule_11 : decode cX11_readRule 11 = .ok (.iload_n 1, 1) := by decide +kernel
theorem dX11_readRule_12 : decode cX11_readRule 12 = .ok (.ishl, 1) := by decide +kernel
theorem dX11_readRule_13 : decode cX11_readRule 13 = .ok (.ior, 1) := by decide +kernel
theorem dX11_readRule_14 : decode cX11_readRule 14 = .ok (.iastore, 1) := by decide +kernel
theorem dX11_readRule_15 : decode cX11_readRule 15 = .ok (.aload_n 0, 1) := by decide +kernel
theorem dX11_readRule_16 : decode cX11_readRule 16 = .ok (.iconst 0, 1) := by decide +kernel
theorem dX11_readRule_17 : decode cX11_readRule 17 = .ok (.putfield 304, 3) := by decide +kernel
theorem dX11_readRule_20 : decode cX11_readRule 20 = .ok (.aload_n 0, 1) := by decide +kernel
theorem dX11_readRule_21 : decode cX11_readRule 21 = .ok (.getfield 63, 3) := by decide +kernel
theorem dX11_readRule_24 : decode cX11_readRule 24 = .ok (.iconst 2, 1) := by decide +kernel
theorem dX11_readRule_25 : decode cX11_readRule 25 = .ok (.aload_n 0, 1) := by decide +kernel
theorem dX11_readRule_26 : decode cX11_readRule 26 = .ok (.getfield 257, 3) := by decide +kernel
theorem dX11_readRule_29 : decode cX11_readRule 29 = .ok (.imul, 1) := by decide +kernel
theorem dX11_readRule_30 : decode cX11_readRule 30 = .ok (.iload_n 1, 1) := by decide +kernel
theorem dX11_readRule_31 : decode cX11_readRule 31 = .ok (.iadd, 1) := by decide +kernel
theorem dX11_readRule_32 : decode cX11_readRule 32 = .ok (.aload_n 0, 1) := by decide +kernel
theorem dX11_readRule_33 : decode cX11_readRule 33 = .ok (.getfield 260, 3) := by decide +kernel
theorem dX11_readRule_36 : decode cX11_readRule 36 = .ok (.iastore, 1) := by decide +kernel
theorem dX11_readRule_37 : decode cX11_readRule 37 = .ok (.aload_n 0, 1) := by decide +kernel
theorem dX11_readRule_38 : decode cX11_readRule 38 = .ok (.invokevirtual 307, 3) := by decide +kernel
theorem dX11_readRule_41 : decode cX11_readRule 41 = .ok (.aload_n 0, 1) := by decide +kernel
theorem dX11_readRule_42 : decode cX11_readRule 42 = .ok (.getfield 66, 3) := by decide +kernel
theorem dX11_readRule_45 : decode cX11_readRule 45 = .ok (.iconst 2, 1) := by decide +kernel
theorem dX11_readRule_46 : decode cX11_readRule 46 = .ok (.aload_n 0, 1) := by decide +kernel
theorem dX11_readRule_47 : decode cX11_readRule 47 = .ok (.getfield 257, 3) := by decide +kernel
theorem dX11_readRule_50 : decode cX11_readRule 50 = .ok (.imul, 1) := by decide +kernel
theorem dX11_readRule_51 : decode cX11_readRule 51 = .ok (.iload_n 1, 1) := by decide +kernel
theorem dX11_readRule_52 : decode cX11_readRule 52 = .ok (.iadd, 1) := by decide +kernel
theorem dX11_readRule_53 : decode cX11_readRule 53 = .ok (.aload_n 0, 1) := by decide +kernel
theorem dX11_readRule_54 : decode cX11_readRule 54 = .ok (.getfield 260, 3) := by decide +kernel
theorem dX11_readRule_57 : decode cX11_readRule 57 = .ok (.iastore, 1) := by decide +kernel
theorem dX11_readRule_58 : decode cX11_readRule 58 = .ok (.return_, 1) := by decide +kernel
theorem dX11_emit_0 : decode cX11_emit 0 = .ok (.aload_n 0, 1) := by decide +kernel
theorem dX11_emit_1 : decode cX11_emit 1 = .ok (.getfield 76, 3) := by decide +kernel
theorem dX11_emit_4 : decode cX11_emit 4 = .ok (.aload_n 0, 1) := by decide +kernel
theorem dX11_emit_5 : decode cX11_emit 5 = .ok (.getfield 260, 3) := by decide +kernel
theorem dX11_emit_8 : decode cX11_emit 8 = .ok (.iload_n 1, 1) := by decide +kernel
theorem dX11_emit_9 : decode cX11_emit 9 = .ok (.iastore, 1) := by decide +kernel
theorem dX11_emit_10 : decode cX11_emit 10 = .ok (.aload_n 0, 1) := by decide +kernel
theorem dX11_emit_11 : decode cX11_emit 11 = .ok (.getfield 79, 3) := by decide +kernel
theorem dX11_emit_14 : decode cX11_emit 14 = .ok (.aload_n 0, 1) := by decide +kernel
theorem dX11_emit_15 : decode cX11_emit 15 = .ok (.getfield 260, 3) := by decide +kernel
theorem dX11_emit_18 : decode cX11_emit 18 = .ok (.iload_n 2, 1) := by decide +kernel
theorem dX11_emit_19 : decode cX11_emit 19 = .ok (.iastore, 1) := by decide +kernel
theorem dX11_emit_20 : decode cX11_emit 20 = .ok (.aload_n 0, 1) := by decide +kernel
theorem dX11_emit_21 : decode cX11_emit 21 = .ok (.dup, 1) := by decide +kernel
theorem dX11_emit_22 : decode cX11_emit 22 = .ok (.getfield 260, 3) := by decide +kernel
theorem dX11_emit_25 : decode cX11_emit 25 = .ok (.iconst 1, 1) := by decide +kernel
theorem dX11_emit_26 : decode cX11_emit 26 = .ok (.iadd, 1) := by decide +kernel
theorem dX11_emit_27 : decode cX11_emit 27 = .ok (.putfield 260, 3) := by decide +kernel
theorem dX11_emit_30 : decode cX11_emit 30 = .ok (.return_, 1) := by decide +kernel
theorem dX11_pushE_0 : decode cX11_pushE 0 = .ok (.aload_n 0, 1) := by decide +kernel
theorem dX11_pushE_1 : decode cX11_pushE 1 = .ok (.getfield 82, 3) := by decide +kernel
theorem dX11_pushE_4 : decode cX11_pushE 4 = .ok (.aload_n 0, 1) := by decide +kernel
theorem dX11_pushE_5 : decode cX11_pushE 5 = .ok (.getfield 310, 3) := by decide +kernel
theorem dX11_pushE_8 : decode cX11_pushE 8 = .ok (.iload_n 1, 1) := by decide +kernel
theorem dX11_pushE_9 : decode cX11_pushE 9 = .ok (.iastore, 1) := by decide +kernel
theorem dX11_pushE_10 : decode cX11_pushE 10 = .ok (.aload_n 0, 1) := by decide +kernel
theorem dX11_pushE_11 : decode cX11_pushE 11 = .ok (.getfield 85, 3) := by decide +kernel
theorem dX11_pushE_14 : decode cX11_pushE 14 = .ok (.aload_n 0, 1) := by decide +kernel
theorem dX11_pushE_15 : decode cX11_pushE 15 = .ok (.getfield 310, 3) := by decide +kernel
theorem dX11_pushE_18 : decode cX11_pushE 18 = .ok (.iload_n 2, 1) := by decide +kernel
theorem dX11_pushE_19 : decode cX11_pushE 19 = .ok (.iastore, 1) := by decide +kernel
theorem dX11_pushE_20 : decode cX11_pushE 20 = .ok (.aload_n 0, 1) := by decide +kernel
theorem dX11_pushE_21 : decode cX11_pushE 21 = .ok (.dup, 1) := by decide +kernel
theorem dX11_pushE_22 : decode cX11_pushE 22 = .ok (.getfield 310, 3) := by decide +kernel
theorem dX11_pushE_25 : decode cX11_pushE 25 = .ok (.iconst 1, 1) := by decide +kernel
theorem dX11_pushE_26 : decode cX11_pushE 26 = .ok (.iadd, 1) := by decide +kernel
theorem dX11_pushE_27 : decode cX11_pushE 27 = .ok (.putfield 310, 3) := by decide +kernel
theorem dX11_pushE_30 : decode cX11_pushE 30 = .ok (.return_, 1) := by decide +kernel
theorem dX11_e_0 : decode cX11_e 0 = .ok (.aload_n 0, 1) := by decide +kernel
theorem dX11_e_1 : decode cX11_e 1 = .ok (.iconst 0, 1) := by decide +kernel
theorem dX11_e_2 : decode cX11_e 2 = .ok (.putfield 310, 3) := by decide +kernel
theorem dX11_e_5 : decode cX11_e 5 = .ok (.aload_n 0, 1) := by decide +kernel
theorem dX11_e_6 : decode cX11_e 6 = .ok (.iconst 0, 1) := by decide +kernel
theorem dX11_e_7 : decode cX11_e 7 = .ok (.putfield 313, 3) := by decide +kernel
theorem dX11_e_10 : decode cX11_e 10 = .ok (.aload_n 0, 1) := by decide +kernel
theorem dX11_e_11 : decode cX11_e 11 = .ok (.bipush 8, 2) := by decide +kernel
theorem dX11_e_13 : decode cX11_e 13 = .ok (.iconst 0, 1) := by decide +kernel
theorem dX11_e_14 : decode cX11_e 14 = .ok (.invokevirtual 316, 3) := by decide +kernel
theorem dX11_e_17 : decode cX11_e 17 = .ok (.iconst 1, 1) := by decide +kernel
theorem dX11_e_18 : decode cX11_e 18 = .ok (.istore_n 1, 1) := by decide +kernel
theorem dX11_e_19 : decode cX11_e 19 = .ok (.aload_n 0, 1) := by decide +kernel
theorem dX11_e_20 : decode cX11_e 20 = .ok (.invokevirtual 232, 3) := by decide +kernel
theorem dX11_e_23 : decode cX11_e 23 = .ok (.ifCond .eq 29, 3) := by decide +kernel
theorem dX11_e_26 : decode cX11_e 26 = .ok (.aload_n 0, 1) := by decide +kernel
theorem dX11_e_27 : decode cX11_e 27 = .ok (.getfield 310, 3) := by decide +kernel
theorem dX11_e_30 : decode cX11_e 30 = .ok (.ifCond .le 22, 3) := by decide +kernel
theorem dX11_e_33 : decode cX11_e 33 = .ok (.iload_n 1, 1) := by decide +kernel
theorem dX11_e_34 : decode cX11_e 34 = .ok (.ifCond .eq 10, 3) := by decide +kernel
theorem dX11_e_37 : decode cX11_e 37 = .ok (.aload_n 0, 1) := by decide +kernel
theorem dX11_e_38 : decode cX11_e 38 = .ok (.invokevirtual 319, 3) := by decide +kernel
theorem dX11_e_41 : decode cX11_e 41 = .ok (.goto 7, 3) := by decide +kernel
theorem dX11_e_44 : decode cX11_e 44 = .ok (.aload_n 0, 1) := by decide +kernel
theorem dX11_e_45 : decode cX11_e 45 = .ok (.invokevirtual 322, 3) := by decide +kernel
theorem dX11_e_48 : decode cX11_e 48 = .ok (.istore_n 1, 1) := by decide +kernel
theorem dX11_e_49 : decode cX11_e 49 = .ok (.goto (-30), 3) := by decide +kernel
theorem dX11_e_52 : decode cX11_e 52 = .ok (.return_, 1) := by decide +kernel
theorem dX11_wordHere_0 : decode cX11_wordHere 0 = .ok (.aload_n 0, 1) := by decide +kernel
theorem dX11_wordHere_1 : decode cX11_wordHere 1 = .ok (.ldc2_w 160, 3) := by decide +kernel
theorem dX11_wordHere_4 : decode cX11_wordHere 4 = .ok (.invokevirtual 242, 3) := by decide +kernel
theorem dX11_wordHere_7 : decode cX11_wordHere 7 = .ok (.ifCond .eq 6, 3) := by decide +kernel
theorem dX11_wordHere_10 : decode cX11_wordHere 10 = .ok (.bipush 119, 2) := by decide +kernel
theorem dX11_wordHere_12 : decode cX11_wordHere 12 = .ok (.ireturn, 1) := by decide +kernel
theorem dX11_wordHere_13 : decode cX11_wordHere 13 = .ok (.aload_n 0, 1) := by decide +kernel
theorem dX11_wordHere_14 : decode cX11_wordHere 14 = .ok (.ldc2_w 162, 3) := by decide +kernel
theorem dX11_wordHere_17 : decode cX11_wordHere 17 = .ok (.invokevirtual 242, 3) := by decide +kernel
theorem dX11_wordHere_20 : decode cX11_wordHere 20 = .ok (.ifCond .eq 6, 3) := by decide +kernel
theorem dX11_wordHere_23 : decode cX11_wordHere 23 = .ok (.bipush 108, 2) := by decide +kernel
theorem dX11_wordHere_25 : decode cX11_wordHere 25 = .ok (.ireturn, 1) := by decide +kernel
theorem dX11_wordHere_26 : decode cX11_wordHere 26 = .ok (.aload_n 0, 1) := by decide +kernel
theorem dX11_wordHere_27 : decode cX11_wordHere 27 = .ok (.ldc2_w 170, 3) := by decide +kernel
theorem dX11_wordHere_30 : decode cX11_wordHere 30 = .ok (.invokevirtual 242, 3) := by decide +kernel
theorem dX11_wordHere_33 : decode cX11_wordHere 33 = .ok (.ifCond .eq 6, 3) := by decide +kernel
theorem dX11_wordHere_36 : decode cX11_wordHere 36 = .ok (.bipush 99, 2) := by decide +kernel
theorem dX11_wordHere_38 : decode cX11_wordHere 38 = .ok (.ireturn, 1) := by decide +kernel
theorem dX11_wordHere_39 : decode cX11_wordHere 39 = .ok (.aload_n 0, 1) := by decide +kernel
theorem dX11_wordHere_40 : decode cX11_wordHere 40 = .ok (.ldc2_w 184, 3) := by decide +kernel
theorem dX11_wordHere_43 : decode cX11_wordHere 43 = .ok (.invokevirtual 242, 3) := by decide +kernel
theorem dX11_wordHere_46 : decode cX11_wordHere 46 = .ok (.ifCond .eq 6, 3) := by decide +kernel
theorem dX11_wordHere_49 : decode cX11_wordHere 49 = .ok (.bipush 97, 2) := by decide +kernel
theorem dX11_wordHere_51 : decode cX11_wordHere 51 = .ok (.ireturn, 1) := by decide +kernel
theorem dX11_wordHere_52 : decode cX11_wordHere 52 = .ok (.aload_n 0, 1) := by decide +kernel
theorem dX11_wordHere_53 : decode cX11_wordHere 53 = .ok (.ldc2_w 172, 3) := by decide +kernel
theorem dX11_wordHere_56 : decode cX11_wordHere 56 = .ok (.invokevirtual 242, 3) := by decide +kernel
theorem dX11_wordHere_59 : decode cX11_wordHere 59 = .ok (.ifCond .eq 6, 3) := by decide +kernel
theorem dX11_wordHere_62 : decode cX11_wordHere 62 = .ok (.bipush 116, 2) := by decide +kernel
theorem dX11_wordHere_64 : decode cX11_wordHere 64 = .ok (.ireturn, 1) := by decide +kernel
theorem dX11_wordHere_65 : decode cX11_wordHere 65 = .ok (.aload_n 0, 1) := by decide +kernel
theorem dX11_wordHere_66 : decode cX11_wordHere 66 = .ok (.ldc2_w 174, 3) := by decide +kernel
theorem dX11_wordHere_69 : decode cX11_wordHere 69 = .ok (.invokevirtual 242, 3) := by decide +kernel
theorem dX11_wordHere_72 : decode cX11_wordHere 72 = .ok (.ifCond .eq 6, 3) := by decide +kernel
theorem dX11_wordHere_75 : decode cX11_wordHere 75 = .ok (.bipush 115, 2) := by decide +kernel
theorem dX11_wordHere_77 : decode cX11_wordHere 77 = .ok (.ireturn, 1) := by decide +kernel
theorem dX11_wordHere_78 : decode cX11_wordHere 78 = .ok (.aload_n 0, 1) := by decide +kernel
theorem dX11_wordHere_79 : decode cX11_wordHere 79 = .ok (.ldc2_w 186, 3) := by decide +kernel
theorem dX11_wordHere_82 : decode cX11_wordHere 82 = .ok (.invokevirtual 242, 3) := by decide +kernel
theorem dX11_wordHere_85 : decode cX11_wordHere 85 = .ok (.ifCond .eq 8, 3) := by decide +kernel
theorem dX11_wordHere_88 : decode cX11_wordHere 88 = .ok (.bipush 100, 2) := by decide +kernel
theorem dX11_wordHere_90 : decode cX11_wordHere 90 = .ok (.goto 4, 3) := by decide +kernel
theorem dX11_wordHere_93 : decode cX11_wordHere 93 = .ok (.iconst 0, 1) := by decide +kernel
theorem dX11_wordHere_94 : decode cX11_wordHere 94 = .ok (.ireturn, 1) := by decide +kernel
theorem dX11_unit_0 : decode cX11_unit 0 = .ok (.aload_n 0, 1) := by decide +kernel
theorem dX11_unit_1 : decode cX11_unit 1 = .ok (.getfield 82, 3) := by decide +kernel
theorem dX11_unit_4 : decode cX11_unit 4 = .ok (.aload_n 0, 1) := by decide +kernel
theorem dX11_unit_5 : decode cX11_unit 5 = .ok (.getfield 310, 3) := by decide +kernel
theorem dX11_unit_8 : decode cX11_unit 8 = .ok (.iconst 1, 1) := by decide +kernel
theorem dX11_unit_9 : decode cX11_unit 9 = .ok (.isub, 1) := by decide +kernel
theorem dX11_unit_10 : decode cX11_unit 10 = .ok (.iaload, 1) := by decide +kernel
theorem dX11_unit_11 : decode cX11_unit 11 = .ok (.iconst 3, 1) := by decide +kernel
theorem dX11_unit_12 : decode cX11_unit 12 = .ok (.if_icmp .le 19, 3) := by decide +kernel
theorem dX11_unit_15 : decode cX11_unit 15 = .ok (.aload_n 0, 1) := by decide +kernel
theorem dX11_unit_16 : decode cX11_unit 16 = .ok (.getfield 82, 3) := by decide +kernel
theorem dX11_unit_19 : decode cX11_unit 19 = .ok (.aload_n 0, 1) := by decide +kernel
theorem dX11_unit_20 : decode cX11_unit 20 = .ok (.getfield 310, 3) := by decide +kernel
theorem dX11_unit_23 : decode cX11_unit 23 = .ok (.iconst 1, 1) := by decide +kernel
theorem dX11_unit_24 : decode cX11_unit 24 = .ok (.isub, 1) := by decide +kernel
theorem dX11_unit_25 : decode cX11_unit 25 = .ok (.iaload, 1) := by decide +kernel
theorem dX11_unit_26 : decode cX11_unit 26 = .ok (.bipush 7, 2) := by decide +kernel
theorem dX11_unit_28 : decode cX11_unit 28 = .ok (.if_icmp .lt 7, 3) := by decide +kernel
theorem dX11_unit_31 : decode cX11_unit 31 = .ok (.iconst 1, 1) := by decide +kernel
theorem dX11_unit_32 : decode cX11_unit 32 = .ok (.goto 4, 3) := by decide +kernel
theorem dX11_unit_35 : decode cX11_unit 35 = .ok (.iconst 0, 1) := by decide +kernel
theorem dX11_unit_36 : decode cX11_unit 36 = .ok (.istore_n 1, 1) := by decide +kernel
theorem dX11_unit_37 : decode cX11_unit 37 = .ok (.iload_n 1, 1) := by decide +kernel
theorem dX11_unit_38 : decode cX11_unit 38 = .ok (.ifCond .eq 17, 3) := by decide +kernel
theorem dX11_unit_41 : decode cX11_unit 41 = .ok (.aload_n 0, 1) := by decide +kernel
theorem dX11_unit_42 : decode cX11_unit 42 = .ok (.ldc2_w 192, 3) := by decide +kernel
theorem dX11_unit_45 : decode cX11_unit 45 = .ok (.invokevirtual 242, 3) := by decide +kernel
theorem dX11_unit_48 : decode cX11_unit 48 = .ok (.ifCond .eq 7, 3) := by decide +kernel
theorem dX11_unit_51 : decode cX11_unit 51 = .ok (.iconst 1, 1) := by decide +kernel
theorem dX11_unit_52 : decode cX11_unit 52 = .ok (.goto 4, 3) := by decide +kernel
theorem dX11_unit_55 : decode cX11_unit 55 = .ok (.iconst 0, 1) := by decide +kernel
theorem dX11_unit_56 : decode cX11_unit 56 = .ok (.istore_n 2, 1) := by decide +kernel
theorem dX11_unit_57 : decode cX11_unit 57 = .ok (.aload_n 0, 1) := by decide +kernel
theorem dX11_unit_58 : decode cX11_unit 58 = .ok (.bipush 40, 2) := by decide +kernel
theorem dX11_unit_60 : decode cX11_unit 60 = .ok (.invokevirtual 289, 3) := by decide +kernel
theorem dX11_unit_63 : decode cX11_unit 63 = .ok (.istore_n 3, 1) := by decide +kernel
theorem dX11_unit_64 : decode cX11_unit 64 = .ok (.aload_n 0, 1) := by decide +kernel
theorem dX11_unit_65 : decode cX11_unit 65 = .ok (.invokevirtual 325, 3) := by decide +kernel
theorem dX11_unit_68 : decode cX11_unit 68 = .ok (.istore 4, 2) := by decide +kernel
theorem dX11_unit_70 : decode cX11_unit 70 = .ok (.aload_n 0, 1) := by decide +kernel
theorem dX11_unit_71 : decode cX11_unit 71 = .ok (.getfield 30, 3) := by decide +kernel
theorem dX11_unit_74 : decode cX11_unit 74 = .ok (.aload_n 0, 1) := by decide +kernel
theorem dX11_unit_75 : decode cX11_unit 75 = .ok (.getfield 257, 3) := by decide +kernel
theorem dX11_unit_78 : decode cX11_unit 78 = .ok (.iaload, 1) := by decide +kernel
theorem dX11_unit_79 : decode cX11_unit 79 = .ok (.bipush 60, 2) := by decide +kernel
theorem dX11_unit_81 : decode cX11_unit 81 = .ok (.if_icmp .eq 12, 3) := by decide +kernel
theorem dX11_unit_84 : decode cX11_unit 84 = .ok (.aload_n 0, 1) := by decide +kernel
theorem dX11_unit_85 : decode cX11_unit 85 = .ok (.getfield 304, 3) := by decide +kernel
theorem dX11_unit_88 : decode cX11_unit 88 = .ok (.bipush 30, 2) := by decide +kernel
theorem dX11_unit_90 : decode cX11_unit 90 = .ok (.if_icmp .ne 7, 3) := by decide +kernel
theorem dX11_unit_93 : decode cX11_unit 93 = .ok (.iconst 1, 1) := by decide +kernel
theorem dX11_unit_94 : decode cX11_unit 94 = .ok (.goto 4, 3) := by decide +kernel
theorem dX11_unit_97 : decode cX11_unit 97 = .ok (.iconst 0, 1) := by decide +kernel
theorem dX11_unit_98 : decode cX11_unit 98 = .ok (.istore 5, 2) := by decide +kernel
theorem dX11_unit_100 : decode cX11_unit 100 = .ok (.iload_n 2, 1) := by decide +kernel
theorem dX11_unit_101 : decode cX11_unit 101 = .ok (.ifCond .ne 25, 3) := by decide +kernel
theorem dX11_unit_104 : decode cX11_unit 104 = .ok (.iload 4, 2) := by decide +kernel
theorem dX11_unit_106 : decode cX11_unit 106 = .ok (.ifCond .ne 15, 3) := by decide +kernel
theorem dX11_unit_109 : decode cX11_unit 109 = .ok (.aload_n 0, 1) := by decide +kernel
theorem dX11_unit_110 : decode cX11_unit 110 = .ok (.getfield 204, 3) := by decide +kernel
theorem dX11_unit_113 : decode cX11_unit 113 = .ok (.iconst 4, 1) := by decide +kernel
theorem dX11_unit_114 : decode cX11_unit 114 = .ok (.if_icmp .eq 7, 3) := by decide +kernel
theorem dX11_unit_117 : decode cX11_unit 117 = .ok (.iload_n 3, 1) := by decide +kernel
theorem dX11_unit_118 : decode cX11_unit 118 = .ok (.ifCond .eq 25, 3) := by decide +kernel
theorem dX11_unit_121 : decode cX11_unit 121 = .ok (.iload 5, 2) := by decide +kernel
theorem dX11_unit_123 : decode cX11_unit 123 = .ok (.ifCond .ne 20, 3) := by decide +kernel
theorem dX11_unit_126 : decode cX11_unit 126 = .ok (.iload_n 2, 1) := by decide +kernel
theorem dX11_unit_127 : decode cX11_unit 127 = .ok (.ifCond .ne 7, 3) := by decide +kernel
theorem dX11_unit_130 : decode cX11_unit 130 = .ok (.iload_n 3, 1) := by decide +kernel
theorem dX11_unit_131 : decode cX11_unit 131 = .ok (.ifCond .eq 16, 3) := by decide +kernel
theorem dX11_unit_134 : decode cX11_unit 134 = .ok (.aload_n 0, 1) := by decide +kernel
theorem dX11_unit_135 : decode cX11_unit 135 = .ok (.getfield 313, 3) := by decide +kernel
theorem dX11_unit_138 : decode cX11_unit 138 = .ok (.bipush 7, 2) := by decide +kernel
theorem dX11_unit_140 : decode cX11_unit 140 = .ok (.if_icmp .ne 7, 3) := by decide +kernel
theorem dX11_unit_143 : decode cX11_unit 143 = .ok (.aload_n 0, 1) := by decide +kernel
theorem dX11_unit_144 : decode cX11_unit 144 = .ok (.invokevirtual 239, 3) := by decide +kernel
theorem dX11_unit_147 : decode cX11_unit 147 = .ok (.aload_n 0, 1) := by decide +kernel
theorem dX11_unit_148 : decode cX11_unit 148 = .ok (.invokevirtual 232, 3) := by decide +kernel
theorem dX11_unit_151 : decode cX11_unit 151 = .ok (.ifCond .ne 5, 3) := by decide +kernel
theorem dX11_unit_154 : decode cX11_unit 154 = .ok (.iconst 1, 1) := by decide +kernel
theorem dX11_unit_155 : decode cX11_unit 155 = .ok (.ireturn, 1) := by decide +kernel
theorem dX11_unit_156 : decode cX11_unit 156 = .ok (.aload_n 0, 1) := by decide +kernel
theorem dX11_unit_157 : decode cX11_unit 157 = .ok (.getfield 30, 3) := by decide +kernel
theorem dX11_unit_160 : decode cX11_unit 160 = .ok (.aload_n 0, 1) := by decide +kernel
theorem dX11_unit_161 : decode cX11_unit 161 = .ok (.getfield 257, 3) := by decide +kernel
theorem dX11_unit_164 : decode cX11_unit 164 = .ok (.dup2, 1) := by decide +kernel
theorem dX11_unit_165 : decode cX11_unit 165 = .ok (.iaload, 1) := by decide +kernel
theorem dX11_unit_166 : decode cX11_unit 166 = .ok (.iload_n 2, 1) := by decide +kernel
theorem dX11_unit_167 : decode cX11_unit 167 = .ok (.ifCond .eq 7, 3) := by decide +kernel
theorem dX11_unit_170 : decode cX11_unit 170 = .ok (.iconst 0, 1) := by decide +kernel
theorem dX11_unit_171 : decode cX11_unit 171 = .ok (.goto 4, 3) := by decide +kernel
theorem dX11_unit_174 : decode cX11_unit 174 = .ok (.iconst 1, 1) := by decide +kernel
theorem dX11_unit_175 : decode cX11_unit 175 = .ok (.iadd, 1) := by decide +kernel
theorem dX11_unit_176 : decode cX11_unit 176 = .ok (.iastore, 1) := by decide +kernel
theorem dX11_unit_177 : decode cX11_unit 177 = .ok (.aload_n 0, 1) := by decide +kernel
theorem dX11_unit_178 : decode cX11_unit 178 = .ok (.dup, 1) := by decide +kernel
theorem dX11_unit_179 : decode cX11_unit 179 = .ok (.getfield 304, 3) := by decide +kernel
theorem dX11_unit_182 : decode cX11_unit 182 = .ok (.iload_n 2, 1) := by decide +kernel
theorem dX11_unit_183 : decode cX11_unit 183 = .ok (.ifCond .eq 7, 3) := by decide +kernel
theorem dX11_unit_186 : decode cX11_unit 186 = .ok (.iconst 0, 1) := by decide +kernel
theorem dX11_unit_187 : decode cX11_unit 187 = .ok (.goto 4, 3) := by decide +kernel
theorem dX11_unit_190 : decode cX11_unit 190 = .ok (.iconst 1, 1) := by decide +kernel
theorem dX11_unit_191 : decode cX11_unit 191 = .ok (.iadd, 1) := by decide +kernel
theorem dX11_unit_192 : decode cX11_unit 192 = .ok (.putfield 304, 3) := by decide +kernel
theorem dX11_unit_195 : decode cX11_unit 195 = .ok (.iload 4, 2) := by decide +kernel
theorem dX11_unit_197 : decode cX11_unit 197 = .ok (.ifCond .ne 10, 3) := by decide +kernel
theorem dX11_unit_200 : decode cX11_unit 200 = .ok (.aload_n 0, 1) := by decide +kernel
theorem dX11_unit_201 : decode cX11_unit 201 = .ok (.getfield 222, 3) := by decide +kernel
theorem dX11_unit_204 : decode cX11_unit 204 = .ok (.goto 4, 3) := by decide +kernel
theorem dX11_unit_207 : decode cX11_unit 207 = .ok (.iconst 0, 1) := by decide +kernel
theorem dX11_unit_208 : decode cX11_unit 208 = .ok (.istore 6, 2) := by decide +kernel
theorem dX11_unit_210 : decode cX11_unit 210 = .ok (.aload_n 0, 1) := by decide +kernel
theorem dX11_unit_211 : decode cX11_unit 211 = .ok (.invokevirtual 236, 3) := by decide +kernel
theorem dX11_unit_214 : decode cX11_unit 214 = .ok (.iload_n 2, 1) := by decide +kernel
theorem dX11_unit_215 : decode cX11_unit 215 = .ok (.ifCond .ne 7, 3) := by decide +kernel
theorem dX11_unit_218 : decode cX11_unit 218 = .ok (.iload_n 3, 1) := by decide +kernel
theorem dX11_unit_219 : decode cX11_unit 219 = .ok (.ifCond .eq 31, 3) := by decide +kernel
theorem dX11_unit_222 : decode cX11_unit 222 = .ok (.aload_n 0, 1) := by decide +kernel
theorem dX11_unit_223 : decode cX11_unit 223 = .ok (.iload_n 2, 1) := by decide +kernel
theorem dX11_unit_224 : decode cX11_unit 224 = .ok (.ifCond .eq 7, 3) := by decide +kernel
theorem dX11_unit_227 : decode cX11_unit 227 = .ok (.iconst 3, 1) := by decide +kernel
theorem dX11_unit_228 : decode cX11_unit 228 = .ok (.goto 5, 3) := by decide +kernel
theorem dX11_unit_231 : decode cX11_unit 231 = .ok (.bipush 7, 2) := by decide +kernel
theorem dX11_unit_233 : decode cX11_unit 233 = .ok (.bipush 126, 2) := by decide +kernel
theorem dX11_unit_235 : decode cX11_unit 235 = .ok (.invokevirtual 316, 3) := by decide +kernel
theorem dX11_unit_238 : decode cX11_unit 238 = .ok (.aload_n 0, 1) := by decide +kernel
theorem dX11_unit_239 : decode cX11_unit 239 = .ok (.dup, 1) := by decide +kernel
theorem dX11_unit_240 : decode cX11_unit 240 = .ok (.getfield 313, 3) := by decide +kernel
theorem dX11_unit_243 : decode cX11_unit 243 = .ok (.iconst 1, 1) := by decide +kernel
theorem dX11_unit_244 : decode cX11_unit 244 = .ok (.iadd, 1) := by decide +kernel
theorem dX11_unit_245 : decode cX11_unit 245 = .ok (.putfield 313, 3) := by decide +kernel
theorem dX11_unit_248 : decode cX11_unit 248 = .ok (.iconst 1, 1) := by decide +kernel
theorem dX11_unit_249 : decode cX11_unit 249 = .ok (.ireturn, 1) := by decide +kernel
theorem dX11_unit_250 : decode cX11_unit 250 = .ok (.aload_n 0, 1) := by decide +kernel
theorem dX11_unit_251 : decode cX11_unit 251 = .ok (.iload 4, 2) := by decide +kernel
theorem dX11_unit_253 : decode cX11_unit 253 = .ok (.ifCond .ne 8, 3) := by decide +kernel
theorem dX11_unit_256 : decode cX11_unit 256 = .ok (.bipush 110, 2) := by decide +kernel
theorem dX11_unit_258 : decode cX11_unit 258 = .ok (.goto 5, 3) := by decide +kernel
theorem dX11_unit_261 : decode cX11_unit 261 = .ok (.iload 4, 2) := by decide +kernel
theorem dX11_unit_263 : decode cX11_unit 263 = .ok (.iload 6, 2) := by decide +kernel
theorem dX11_unit_265 : decode cX11_unit 265 = .ok (.invokevirtual 329, 3) := by decide +kernel
theorem dX11_unit_268 : decode cX11_unit 268 = .ok (.iconst 0, 1) := by decide +kernel
theorem dX11_unit_269 : decode cX11_unit 269 = .ok (.ireturn, 1) := by decide +kernel
theorem dX11_rankHere_0 : decode cX11_rankHere 0 = .ok (.aload_n 0, 1) := by decide +kernel
theorem dX11_rankHere_1 : decode cX11_rankHere 1 = .ok (.ldc2_w 190, 3) := by decide +kernel
theorem dX11_rankHere_4 : decode cX11_rankHere 4 = .ok (.invokevirtual 242, 3) := by decide +kernel
theorem dX11_rankHere_7 : decode cX11_rankHere 7 = .ok (.ifCond .eq 5, 3) := by decide +kernel
theorem dX11_rankHere_10 : decode cX11_rankHere 10 = .ok (.iconst 2, 1) := by decide +kernel
theorem dX11_rankHere_11 : decode cX11_rankHere 11 = .ok (.ireturn, 1) := by decide +kernel
theorem dX11_rankHere_12 : decode cX11_rankHere 12 = .ok (.aload_n 0, 1) := by decide +kernel
theorem dX11_rankHere_13 : decode cX11_rankHere 13 = .ok (.ldc2_w 188, 3) := by decide +kernel
theorem dX11_rankHere_16 : decode cX11_rankHere 16 = .ok (.invokevirtual 242, 3) := by decide +kernel
theorem dX11_rankHere_19 : decode cX11_rankHere 19 = .ok (.ifCond .eq 5, 3) := by decide +kernel
theorem dX11_rankHere_22 : decode cX11_rankHere 22 = .ok (.iconst 1, 1) := by decide +kernel
theorem dX11_rankHere_23 : decode cX11_rankHere 23 = .ok (.ireturn, 1) := by decide +kernel
theorem dX11_rankHere_24 : decode cX11_rankHere 24 = .ok (.aload_n 0, 1) := by decide +kernel
theorem dX11_rankHere_25 : decode cX11_rankHere 25 = .ok (.bipush 60, 2) := by decide +kernel
theorem dX11_rankHere_27 : decode cX11_rankHere 27 = .ok (.invokevirtual 289, 3) := by decide +kernel
theorem dX11_rankHere_30 : decode cX11_rankHere 30 = .ok (.ifCond .ne 21, 3) := by decide +kernel
theorem dX11_rankHere_33 : decode cX11_rankHere 33 = .ok (.aload_n 0, 1) := by decide +kernel
theorem dX11_rankHere_34 : decode cX11_rankHere 34 = .ok (.bipush 62, 2) := by decide +kernel
theorem dX11_rankHere_36 : decode cX11_rankHere 36 = .ok (.invokevirtual 289, 3) := by decide +kernel
theorem dX11_rankHere_39 : decode cX11_rankHere 39 = .ok (.ifCond .ne 12, 3) := by decide +kernel
theorem dX11_rankHere_42 : decode cX11_rankHere 42 = .ok (.aload_n 0, 1) := by decide +kernel
theorem dX11_rankHere_43 : decode cX11_rankHere 43 = .ok (.bipush 61, 2) := by decide +kernel
theorem dX11_rankHere_45 : decode cX11_rankHere 45 = .ok (.invokevirtual 289, 3) := by decide +kernel
theorem dX11_rankHere_48 : decode cX11_rankHere 48 = .ok (.ifCond .eq 5, 3) := by decide +kernel
theorem dX11_rankHere_51 : decode cX11_rankHere 51 = .ok (.iconst 4, 1) := by decide +kernel
theorem dX11_rankHere_52 : decode cX11_rankHere 52 = .ok (.ireturn, 1) := by decide +kernel
theorem dX11_rankHere_53 : decode cX11_rankHere 53 = .ok (.aload_n 0, 1) := by decide +kernel
theorem dX11_rankHere_54 : decode cX11_rankHere 54 = .ok (.bipush 43, 2) := by decide +kernel
theorem dX11_rankHere_56 : decode cX11_rankHere 56 = .ok (.invokevirtual 289, 3) := by decide +kernel
theorem dX11_rankHere_59 : decode cX11_rankHere 59 = .ok (.ifCond .ne 12, 3) := by decide +kernel
theorem dX11_rankHere_62 : decode cX11_rankHere 62 = .ok (.aload_n 0, 1) := by decide +kernel
theorem dX11_rankHere_63 : decode cX11_rankHere 63 = .ok (.bipush 45, 2) := by decide +kernel
theorem dX11_rankHere_65 : decode cX11_rankHere 65 = .ok (.invokevirtual 289, 3) := by decide +kernel
theorem dX11_rankHere_68 : decode cX11_rankHere 68 = .ok (.ifCond .eq 5, 3) := by decide +kernel
theorem dX11_rankHere_71 : decode cX11_rankHere 71 = .ok (.iconst 5, 1) := by decide +kernel
theorem dX11_rankHere_72 : decode cX11_rankHere 72 = .ok (.ireturn, 1) := by decide +kernel
theorem dX11_rankHere_73 : decode cX11_rankHere 73 = .ok (.aload_n 0, 1) := by decide +kernel
theorem dX11_rankHere_74 : decode cX11_rankHere 74 = .ok (.bipush 42, 2) := by decide +kernel
theorem dX11_rankHere_76 : decode cX11_rankHere 76 = .ok (.invokevirtual 289, 3) := by decide +kernel
theorem dX11_rankHere_79 : decode cX11_rankHere 79 = .ok (.ifCond .ne 21, 3) := by decide +kernel
theorem dX11_rankHere_82 : decode cX11_rankHere 82 = .ok (.aload_n 0, 1) := by decide +kernel
theorem dX11_rankHere_83 : decode cX11_rankHere 83 = .ok (.bipush 47, 2) := by decide +kernel
theorem dX11_rankHere_85 : decode cX11_rankHere 85 = .ok (.invokevirtual 289, 3) := by decide +kernel
theorem dX11_rankHere_88 : decode cX11_rankHere 88 = .ok (.ifCond .ne 12, 3) := by decide +kernel
theorem dX11_rankHere_91 : decode cX11_rankHere 91 = .ok (.aload_n 0, 1) := by decide +kernel
theorem dX11_rankHere_92 : decode cX11_rankHere 92 = .ok (.bipush 37, 2) := by decide +kernel
theorem dX11_rankHere_94 : decode cX11_rankHere 94 = .ok (.invokevirtual 289, 3) := by decide +kernel
theorem dX11_rankHere_97 : decode cX11_rankHere 97 = .ok (.ifCond .eq 8, 3) := by decide +kernel
theorem dX11_rankHere_100 : decode cX11_rankHere 100 = .ok (.bipush 6, 2) := by decide +kernel
theorem dX11_rankHere_102 : decode cX11_rankHere 102 = .ok (.goto 4, 3) := by decide +kernel
theorem dX11_rankHere_105 : decode cX11_rankHere 105 = .ok (.iconst 0, 1) := by decide +kernel
theorem dX11_rankHere_106 : decode cX11_rankHere 106 = .ok (.ireturn, 1) := by decide +kernel
theorem dX11_isCompared_0 : decode cX11_isCompared 0 = .ok (.aload_n 0, 1) := by decide +kernel
theorem dX11_isCompared_1 : decode cX11_isCompared 1 = .ok (.getfield 310, 3) := by decide +kernel
theorem dX11_isCompared_4 : decode cX11_isCompared 4 = .ok (.iconst 1, 1) := by decide +kernel
theorem dX11_isCompared_5 : decode cX11_isCompared 5 = .ok (.isub, 1) := by decide +kernel
theorem dX11_isCompared_6 : decode cX11_isCompared 6 = .ok (.istore_n 1, 1) := by decide +kernel
theorem dX11_isCompared_7 : decode cX11_isCompared 7 = .ok (.aload_n 0, 1) := by decide +kernel
theorem dX11_isCompared_8 : decode cX11_isCompared 8 = .ok (.getfield 82, 3) := by decide +kernel
theorem dX11_isCompared_11 : decode cX11_isCompared 11 = .ok (.iload_n 1, 1) := by decide +kernel
theorem dX11_isCompared_12 : decode cX11_isCompared 12 = .ok (.iaload, 1) := by decide +kernel
theorem dX11_isCompared_13 : decode cX11_isCompared 13 = .ok (.iconst 5, 1) := by decide +kernel
theorem dX11_isCompared_14 : decode cX11_isCompared 14 = .ok (.if_icmp .eq 14, 3) := by decide +kernel
theorem dX11_isCompared_17 : decode cX11_isCompared 17 = .ok (.aload_n 0, 1) := by decide +kernel
theorem dX11_isCompared_18 : decode cX11_isCompared 18 = .ok (.getfield 82, 3) := by decide +kernel
theorem dX11_isCompared_21 : decode cX11_isCompared 21 = .ok (.iload_n 1, 1) := by decide +kernel
theorem dX11_isCompared_22 : decode cX11_isCompared 22 = .ok (.iaload, 1) := by decide +kernel
theorem dX11_isCompared_23 : decode cX11_isCompared 23 = .ok (.bipush 6, 2) := by decide +kernel
theorem dX11_isCompared_25 : decode cX11_isCompared 25 = .ok (.if_icmp .ne 9, 3) := by decide +kernel
theorem dX11_isCompared_28 : decode cX11_isCompared 28 = .ok (.iinc 1 (-1), 3) := by decide +kernel
theorem dX11_isCompared_31 : decode cX11_isCompared 31 = .ok (.goto (-24), 3) := by decide +kernel
theorem dX11_isCompared_34 : decode cX11_isCompared 34 = .ok (.aload_n 0, 1) := by decide +kernel
theorem dX11_isCompared_35 : decode cX11_isCompared 35 = .ok (.getfield 82, 3) := by decide +kernel
theorem dX11_isCompared_38 : decode cX11_isCompared 38 = .ok (.iload_n 1, 1) := by decide +kernel
theorem dX11_isCompared_39 : decode cX11_isCompared 39 = .ok (.iaload, 1) := by decide +kernel
theorem dX11_isCompared_40 : decode cX11_isCompared 40 = .ok (.iconst 4, 1) := by decide +kernel
theorem dX11_isCompared_41 : decode cX11_isCompared 41 = .ok (.if_icmp .ne 7, 3) := by decide +kernel
theorem dX11_isCompared_44 : decode cX11_isCompared 44 = .ok (.iconst 1, 1) := by decide +kernel
theorem dX11_isCompared_45 : decode cX11_isCompared 45 = .ok (.goto 4, 3) := by decide +kernel
theorem dX11_isCompared_48 : decode cX11_isCompared 48 = .ok (.iconst 0, 1) := by decide +kernel
theorem dX11_isCompared_49 : decode cX11_isCompared 49 = .ok (.ireturn, 1) := by decide +kernel
theorem dX11_behindUnit_0 : decode cX11_behindUnit 0 = .ok (.aload_n 0, 1) := by decide +kernel
theorem dX11_behindUnit_1 : decode cX11_behindUnit 1 = .ok (.invokevirtual 332, 3) := by decide +kernel
theorem dX11_behindUnit_4 : decode cX11_behindUnit 4 = .ok (.istore_n 1, 1) := by decide +kernel
theorem dX11_behindUnit_5 : decode cX11_behindUnit 5 = .ok (.iload_n 1, 1) := by decide +kernel
theorem dX11_behindUnit_6 : decode cX11_behindUnit 6 = .ok (.iconst 4, 1) := by decide +kernel
theorem dX11_behindUnit_7 : decode cX11_behindUnit 7 = .ok (.if_icmp .ne 16, 3) := by decide +kernel
theorem dX11_behindUnit_10 : decode cX11_behindUnit 10 = .ok (.aload_n 0, 1) := by decide +kernel
theorem dX11_behindUnit_11 : decode cX11_behindUnit 11 = .ok (.invokevirtual 335, 3) := by decide +kernel
theorem dX11_behindUnit_14 : decode cX11_behindUnit 14 = .ok (.ifCond .eq 9, 3) := by decide +kernel
theorem dX11_behindUnit_17 : decode cX11_behindUnit 17 = .ok (.aload_n 0, 1) := by decide +kernel
theorem dX11_behindUnit_18 : decode cX11_behindUnit 18 = .ok (.invokevirtual 239, 3) := by decide +kernel
theorem dX11_behindUnit_21 : decode cX11_behindUnit 21 = .ok (.iconst 1, 1) := by decide +kernel
theorem dX11_behindUnit_22 : decode cX11_behindUnit 22 = .ok (.ireturn, 1) := by decide +kernel
theorem dX11_behindUnit_23 : decode cX11_behindUnit 23 = .ok (.aload_n 0, 1) := by decide +kernel
theorem dX11_behindUnit_24 : decode cX11_behindUnit 24 = .ok (.getfield 82, 3) := by decide +kernel
theorem dX11_behindUnit_27 : decode cX11_behindUnit 27 = .ok (.aload_n 0, 1) := by decide +kernel
theorem dX11_behindUnit_28 : decode cX11_behindUnit 28 = .ok (.getfield 310, 3) := by decide +kernel
theorem dX11_behindUnit_31 : decode cX11_behindUnit 31 = .ok (.iconst 1, 1) := by decide +kernel
theorem dX11_behindUnit_32 : decode cX11_behindUnit 32 = .ok (.isub, 1) := by decide +kernel
theorem dX11_behindUnit_33 : decode cX11_behindUnit 33 = .ok (.iaload, 1) := by decide +kernel
theorem dX11_behindUnit_34 : decode cX11_behindUnit 34 = .ok (.bipush 6, 2) := by decide +kernel
theorem dX11_behindUnit_36 : decode cX11_behindUnit 36 = .ok (.if_icmp .gt 68, 3) := by decide +kernel
theorem dX11_behindUnit_39 : decode cX11_behindUnit 39 = .ok (.aload_n 0, 1) := by decide +kernel
theorem dX11_behindUnit_40 : decode cX11_behindUnit 40 = .ok (.getfield 82, 3) := by decide +kernel
theorem dX11_behindUnit_43 : decode cX11_behindUnit 43 = .ok (.aload_n 0, 1) := by decide +kernel
theorem dX11_behindUnit_44 : decode cX11_behindUnit 44 = .ok (.getfield 310, 3) := by decide +kernel
theorem dX11_behindUnit_47 : decode cX11_behindUnit 47 = .ok (.iconst 1, 1) := by decide +kernel
theorem dX11_behindUnit_48 : decode cX11_behindUnit 48 = .ok (.isub, 1) := by decide +kernel
theorem dX11_behindUnit_49 : decode cX11_behindUnit 49 = .ok (.iaload, 1) := by decide +kernel
theorem dX11_behindUnit_50 : decode cX11_behindUnit 50 = .ok (.iload_n 1, 1) := by decide +kernel
theorem dX11_behindUnit_51 : decode cX11_behindUnit 51 = .ok (.if_icmp .lt 53, 3) := by decide +kernel
theorem dX11_behindUnit_54 : decode cX11_behindUnit 54 = .ok (.aload_n 0, 1) := by decide +kernel
theorem dX11_behindUnit_55 : decode cX11_behindUnit 55 = .ok (.dup, 1) := by decide +kernel
theorem dX11_behindUnit_56 : decode cX11_behindUnit 56 = .ok (.getfield 310, 3) := by decide +kernel
theorem dX11_behindUnit_59 : decode cX11_behindUnit 59 = .ok (.iconst 1, 1) := by decide +kernel
theorem dX11_behindUnit_60 : decode cX11_behindUnit 60 = .ok (.isub, 1) := by decide +kernel
theorem dX11_behindUnit_61 : decode cX11_behindUnit 61 = .ok (.putfield 310, 3) := by decide +kernel
theorem dX11_behindUnit_64 : decode cX11_behindUnit 64 = .ok (.aload_n 0, 1) := by decide +kernel
theorem dX11_behindUnit_65 : decode cX11_behindUnit 65 = .ok (.getfield 82, 3) := by decide +kernel
theorem dX11_behindUnit_68 : decode cX11_behindUnit 68 = .ok (.aload_n 0, 1) := by decide +kernel
theorem dX11_behindUnit_69 : decode cX11_behindUnit 69 = .ok (.getfield 310, 3) := by decide +kernel
theorem dX11_behindUnit_72 : decode cX11_behindUnit 72 = .ok (.iaload, 1) := by decide +kernel
theorem dX11_behindUnit_73 : decode cX11_behindUnit 73 = .ok (.iconst 3, 1) := by decide +kernel
theorem dX11_behindUnit_74 : decode cX11_behindUnit 74 = .ok (.if_icmp .ne 13, 3) := by decide +kernel
theorem dX11_behindUnit_77 : decode cX11_behindUnit 77 = .ok (.aload_n 0, 1) := by decide +kernel
theorem dX11_behindUnit_78 : decode cX11_behindUnit 78 = .ok (.dup, 1) := by decide +kernel
theorem dX11_behindUnit_79 : decode cX11_behindUnit 79 = .ok (.getfield 313, 3) := by decide +kernel
theorem dX11_behindUnit_82 : decode cX11_behindUnit 82 = .ok (.iconst 1, 1) := by decide +kernel
theorem dX11_behindUnit_83 : decode cX11_behindUnit 83 = .ok (.isub, 1) := by decide +kernel
theorem dX11_behindUnit_84 : decode cX11_behindUnit 84 = .ok (.putfield 313, 3) := by decide +kernel
theorem dX11_behindUnit_87 : decode cX11_behindUnit 87 = .ok (.aload_n 0, 1) := by decide +kernel
theorem dX11_behindUnit_88 : decode cX11_behindUnit 88 = .ok (.aload_n 0, 1) := by decide +kernel
theorem dX11_behindUnit_89 : decode cX11_behindUnit 89 = .ok (.getfield 85, 3) := by decide +kernel
theorem dX11_behindUnit_92 : decode cX11_behindUnit 92 = .ok (.aload_n 0, 1) := by decide +kernel
theorem dX11_behindUnit_93 : decode cX11_behindUnit 93 = .ok (.getfield 310, 3) := by decide +kernel
theorem dX11_behindUnit_96 : decode cX11_behindUnit 96 = .ok (.iaload, 1) := by decide +kernel
theorem dX11_behindUnit_97 : decode cX11_behindUnit 97 = .ok (.iconst 0, 1) := by decide +kernel
theorem dX11_behindUnit_98 : decode cX11_behindUnit 98 = .ok (.invokevirtual 329, 3) := by decide +kernel
theorem dX11_behindUnit_101 : decode cX11_behindUnit 101 = .ok (.goto (-78), 3) := by decide +kernel
theorem dX11_behindUnit_104 : decode cX11_behindUnit 104 = .ok (.iload_n 1, 1) := by decide +kernel
theorem dX11_behindUnit_105 : decode cX11_behindUnit 105 = .ok (.ifCond .le 42, 3) := by decide +kernel
theorem dX11_behindUnit_108 : decode cX11_behindUnit 108 = .ok (.aload_n 0, 1) := by decide +kernel
theorem dX11_behindUnit_109 : decode cX11_behindUnit 109 = .ok (.iload_n 1, 1) := by decide +kernel
theorem dX11_behindUnit_110 : decode cX11_behindUnit 110 = .ok (.iload_n 1, 1) := by decide +kernel
theorem dX11_behindUnit_111 : decode cX11_behindUnit 111 = .ok (.iconst 2, 1) := by decide +kernel
theorem dX11_behindUnit_112 : decode cX11_behindUnit 112 = .ok (.if_icmp .ne 8, 3) := by decide +kernel
theorem dX11_behindUnit_115 : decode cX11_behindUnit 115 = .ok (.bipush 38, 2) := by decide +kernel
theorem dX11_behindUnit_117 : decode cX11_behindUnit 117 = .ok (.goto 21, 3) := by decide +kernel
theorem dX11_behindUnit_120 : decode cX11_behindUnit 120 = .ok (.iload_n 1, 1) := by decide +kernel
theorem dX11_behindUnit_121 : decode cX11_behindUnit 121 = .ok (.iconst 1, 1) := by decide +kernel
theorem dX11_behindUnit_122 : decode cX11_behindUnit 122 = .ok (.if_icmp .ne 8, 3) := by decide +kernel
theorem dX11_behindUnit_125 : decode cX11_behindUnit 125 = .ok (.bipush 124, 2) := by decide +kernel
theorem dX11_behindUnit_127 : decode cX11_behindUnit 127 = .ok (.goto 11, 3) := by decide +kernel
theorem dX11_behindUnit_130 : decode cX11_behindUnit 130 = .ok (.aload_n 0, 1) := by decide +kernel
theorem dX11_behindUnit_131 : decode cX11_behindUnit 131 = .ok (.aload_n 0, 1) := by decide +kernel
theorem dX11_behindUnit_132 : decode cX11_behindUnit 132 = .ok (.getfield 197, 3) := by decide +kernel
theorem dX11_behindUnit_135 : decode cX11_behindUnit 135 = .ok (.invokevirtual 200, 3) := by decide +kernel
theorem dX11_behindUnit_138 : decode cX11_behindUnit 138 = .ok (.invokevirtual 316, 3) := by decide +kernel
theorem dX11_behindUnit_141 : decode cX11_behindUnit 141 = .ok (.aload_n 0, 1) := by decide +kernel
theorem dX11_behindUnit_142 : decode cX11_behindUnit 142 = .ok (.invokevirtual 236, 3) := by decide +kernel
theorem dX11_behindUnit_145 : decode cX11_behindUnit 145 = .ok (.iconst 1, 1) := by decide +kernel
theorem dX11_behindUnit_146 : decode cX11_behindUnit 146 = .ok (.ireturn, 1) := by decide +kernel
theorem dX11_behindUnit_147 : decode cX11_behindUnit 147 = .ok (.aload_n 0, 1) := by decide +kernel
theorem dX11_behindUnit_148 : decode cX11_behindUnit 148 = .ok (.dup, 1) := by decide +kernel
theorem dX11_behindUnit_149 : decode cX11_behindUnit 149 = .ok (.getfield 310, 3) := by decide +kernel
theorem dX11_behindUnit_152 : decode cX11_behindUnit 152 = .ok (.iconst 1, 1) := by decide +kernel
theorem dX11_behindUnit_153 : decode cX11_behindUnit 153 = .ok (.isub, 1) := by decide +kernel
theorem dX11_behindUnit_154 : decode cX11_behindUnit 154 = .ok (.putfield 310, 3) := by decide +kernel
theorem dX11_behindUnit_157 : decode cX11_behindUnit 157 = .ok (.aload_n 0, 1) := by decide +kernel
theorem dX11_behindUnit_158 : decode cX11_behindUnit 158 = .ok (.getfield 82, 3) := by decide +kernel
theorem dX11_behindUnit_161 : decode cX11_behindUnit 161 = .ok (.aload_n 0, 1) := by decide +kernel
theorem dX11_behindUnit_162 : decode cX11_behindUnit 162 = .ok (.getfield 310, 3) := by decide +kernel
theorem dX11_behindUnit_165 : decode cX11_behindUnit 165 = .ok (.iaload, 1) := by decide +kernel
theorem dX11_behindUnit_166 : decode cX11_behindUnit 166 = .ok (.bipush 7, 2) := by decide +kernel
theorem dX11_behindUnit_168 : decode cX11_behindUnit 168 = .ok (.if_icmp .ne 23, 3) := by decide +kernel
theorem dX11_behindUnit_171 : decode cX11_behindUnit 171 = .ok (.aload_n 0, 1) := by decide +kernel
theorem dX11_behindUnit_172 : decode cX11_behindUnit 172 = .ok (.dup, 1) := by decide +kernel
theorem dX11_behindUnit_173 : decode cX11_behindUnit 173 = .ok (.getfield 313, 3) := by decide +kernel
theorem dX11_behindUnit_176 : decode cX11_behindUnit 176 = .ok (.iconst 1, 1) := by decide +kernel
theorem dX11_behindUnit_177 : decode cX11_behindUnit 177 = .ok (.isub, 1) := by decide +kernel
theorem dX11_behindUnit_178 : decode cX11_behindUnit 178 = .ok (.putfield 313, 3) := by decide +kernel
theorem dX11_behindUnit_181 : decode cX11_behindUnit 181 = .ok (.aload_n 0, 1) := by decide +kernel
theorem dX11_behindUnit_182 : decode cX11_behindUnit 182 = .ok (.aload_n 0, 1) := by decide +kernel
theorem dX11_behindUnit_183 : decode cX11_behindUnit 183 = .ok (.bipush 41, 2) := by decide +kernel
theorem dX11_behindUnit_185 : decode cX11_behindUnit 185 = .ok (.invokevirtual 289, 3) := by decide +kernel
theorem dX11_behindUnit_188 : decode cX11_behindUnit 188 = .ok (.invokevirtual 245, 3) := by decide +kernel
theorem dX11_behindUnit_191 : decode cX11_behindUnit 191 = .ok (.iconst 0, 1) := by decide +kernel
theorem dX11_behindUnit_192 : decode cX11_behindUnit 192 = .ok (.ireturn, 1) := by decide +kernel
theorem dX11_two_0 : decode cX11_two 0 = .ok (.iload_n 0, 1) := by decide +kernel
theorem dX11_two_1 : decode cX11_two 1 = .ok (.tableswitch 202 37 62 #[143, 188, 202, 202, 202, 127, 119, 202, 123, 202, 131, 202, 202, 202, 202, 202, 202, 202, 202, 202, 202, 202, 202, 155, 177, 166], 119) := by decide +kernel
theorem dX11_two_120 : decode cX11_two 120 = .ok (.iload_n 1, 1) := by decide +kernel
theorem dX11_two_121 : decode cX11_two 121 = .ok (.iload_n 2, 1) := by decide +kernel
theorem dX11_two_122 : decode cX11_two 122 = .ok (.iadd, 1) := by decide +kernel
theorem dX11_two_123 : decode cX11_two 123 = .ok (.ireturn, 1) := by decide +kernel
theorem dX11_two_124 : decode cX11_two 124 = .ok (.iload_n 1, 1) := by decide +kernel
theorem dX11_two_125 : decode cX11_two 125 = .ok (.iload_n 2, 1) := by decide +kernel
theorem dX11_two_126 : decode cX11_two 126 = .ok (.isub, 1) := by decide +kernel
theorem dX11_two_127 : decode cX11_two 127 = .ok (.ireturn, 1) := by decide +kernel
theorem dX11_two_128 : decode cX11_two 128 = .ok (.iload_n 1, 1) := by decide +kernel
theorem dX11_two_129 : decode cX11_two 129 = .ok (.iload_n 2, 1) := by decide +kernel
theorem dX11_two_130 : decode cX11_two 130 = .ok (.imul, 1) := by decide +kernel
theorem dX11_two_131 : decode cX11_two 131 = .ok (.ireturn, 1) := by decide +kernel
theorem dX11_two_132 : decode cX11_two 132 = .ok (.iload_n 2, 1) := by decide +kernel
theorem dX11_two_133 : decode cX11_two 133 = .ok (.ifCond .ne 7, 3) := by decide +kernel
theorem dX11_two_136 : decode cX11_two 136 = .ok (.iconst 0, 1) := by decide +kernel
theorem dX11_two_137 : decode cX11_two 137 = .ok (.goto 6, 3) := by decide +kernel
theorem dX11_two_140 : decode cX11_two 140 = .ok (.iload_n 1, 1) := by decide +kernel
theorem dX11_two_141 : decode cX11_two 141 = .ok (.iload_n 2, 1) := by decide +kernel
theorem dX11_two_142 : decode cX11_two 142 = .ok (.idiv, 1) := by decide +kernel
theorem dX11_two_143 : decode cX11_two 143 = .ok (.ireturn, 1) := by decide +kernel
theorem dX11_two_144 : decode cX11_two 144 = .ok (.iload_n 2, 1) := by decide +kernel
theorem dX11_two_145 : decode cX11_two 145 = .ok (.ifCond .ne 7, 3) := by decide +kernel
theorem dX11_two_148 : decode cX11_two 148 = .ok (.iconst 0, 1) := by decide +kernel
theorem dX11_two_149 : decode cX11_two 149 = .ok (.goto 6, 3) := by decide +kernel
theorem dX11_two_152 : decode cX11_two 152 = .ok (.iload_n 1, 1) := by decide +kernel
theorem dX11_two_153 : decode cX11_two 153 = .ok (.iload_n 2, 1) := by decide +kernel
theorem dX11_two_154 : decode cX11_two 154 = .ok (.irem, 1) := by decide +kernel
theorem dX11_two_155 : decode cX11_two 155 = .ok (.ireturn, 1) := by decide +kernel
theorem dX11_two_156 : decode cX11_two 156 = .ok (.iload_n 1, 1) := by decide +kernel
theorem dX11_two_157 : decode cX11_two 157 = .ok (.iload_n 2, 1) := by decide +kernel
theorem dX11_two_158 : decode cX11_two 158 = .ok (.if_icmp .ge 7, 3) := by decide +kernel
theorem dX11_two_161 : decode cX11_two 161 = .ok (.iconst 1, 1) := by decide +kernel
theorem dX11_two_162 : decode cX11_two 162 = .ok (.goto 4, 3) := by decide +kernel
theorem dX11_two_165 : decode cX11_two 165 = .ok (.iconst 0, 1) := by decide +kernel
theorem dX11_two_166 : decode cX11_two 166 = .ok (.ireturn, 1) := by decide +kernel
theorem dX11_two_167 : decode cX11_two 167 = .ok (.iload_n 1, 1) := by decide +kernel
theorem dX11_two_168 : decode cX11_two 168 = .ok (.iload_n 2, 1) := by decide +kernel
theorem dX11_two_169 : decode cX11_two 169 = .ok (.if_icmp .le 7, 3) := by decide +kernel
theorem dX11_two_172 : decode cX11_two 172 = .ok (.iconst 1, 1) := by decide +kernel
theorem dX11_two_173 : decode cX11_two 173 = .ok (.goto 4, 3) := by decide +kernel
theorem dX11_two_176 : decode cX11_two 176 = .ok (.iconst 0, 1) := by decide +kernel
theorem dX11_two_177 : decode cX11_two 177 = .ok (.ireturn, 1) := by decide +kernel
theorem dX11_two_178 : decode cX11_two 178 = .ok (.iload_n 1, 1) := by decide +kernel
theorem dX11_two_179 : decode cX11_two 179 = .ok (.iload_n 2, 1) := by decide +kernel
theorem dX11_two_180 : decode cX11_two 180 = .ok (.if_icmp .ne 7, 3) := by decide +kernel
theorem dX11_two_183 : decode cX11_two 183 = .ok (.iconst 1, 1) := by decide +kernel
theorem dX11_two_184 : decode cX11_two 184 = .ok (.goto 4, 3) := by decide +kernel
theorem dX11_two_187 : decode cX11_two 187 = .ok (.iconst 0, 1) := by decide +kernel
theorem dX11_two_188 : decode cX11_two 188 = .ok (.ireturn, 1) := by decide +kernel
theorem dX11_two_189 : decode cX11_two 189 = .ok (.iload_n 1, 1) := by decide +kernel
theorem dX11_two_190 : decode cX11_two 190 = .ok (.ifCond .eq 11, 3) := by decide +kernel
theorem dX11_two_193 : decode cX11_two 193 = .ok (.iload_n 2, 1) := by decide +kernel
theorem dX11_two_194 : decode cX11_two 194 = .ok (.ifCond .eq 7, 3) := by decide +kernel
theorem dX11_two_197 : decode cX11_two 197 = .ok (.iconst 1, 1) := by decide +kernel
theorem dX11_two_198 : decode cX11_two 198 = .ok (.goto 4, 3) := by decide +kernel
theorem dX11_two_201 : decode cX11_two 201 = .ok (.iconst 0, 1) := by decide +kernel
theorem dX11_two_202 : decode cX11_two 202 = .ok (.ireturn, 1) := by decide +kernel
theorem dX11_two_203 : decode cX11_two 203 = .ok (.iload_n 1, 1) := by decide +kernel
theorem dX11_two_204 : decode cX11_two 204 = .ok (.ifCond .ne 7, 3) := by decide +kernel
theorem dX11_two_207 : decode cX11_two 207 = .ok (.iload_n 2, 1) := by decide +kernel
theorem dX11_two_208 : decode cX11_two 208 = .ok (.ifCond .eq 7, 3) := by decide +kernel
theorem dX11_two_211 : decode cX11_two 211 = .ok (.iconst 1, 1) := by decide +kernel
theorem dX11_two_212 : decode cX11_two 212 = .ok (.goto 4, 3) := by decide +kernel
theorem dX11_two_215 : decode cX11_two 215 = .ok (.iconst 0, 1) := by decide +kernel
theorem dX11_two_216 : decode cX11_two 216 = .ok (.ireturn, 1) := by decide +kernel
theorem dX11_asked_0 : decode cX11_asked 0 = .ok (.iload_n 1, 1) := by decide +kernel
theorem dX11_asked_1 : decode cX11_asked 1 = .ok (.tableswitch 145 97 119 #[122, 145, 117, 137, 145, 145, 145, 145, 145, 145, 145, 112, 145, 145, 145, 145, 145, 145, 132, 127, 145, 145, 107], 107) := by decide +kernel
theorem dX11_asked_108 : decode cX11_asked 108 = .ok (.aload_n 0, 1) := by decide +kernel
theorem dX11_asked_109 : decode cX11_asked 109 = .ok (.getfield 338, 3) := by decide +kernel
theorem dX11_asked_112 : decode cX11_asked 112 = .ok (.ireturn, 1) := by decide +kernel
theorem dX11_asked_113 : decode cX11_asked 113 = .ok (.aload_n 0, 1) := by decide +kernel
theorem dX11_asked_114 : decode cX11_asked 114 = .ok (.getfield 341, 3) := by decide +kernel
theorem dX11_asked_117 : decode cX11_asked 117 = .ok (.ireturn, 1) := by decide +kernel
theorem dX11_asked_118 : decode cX11_asked 118 = .ok (.aload_n 0, 1) := by decide +kernel
theorem dX11_asked_119 : decode cX11_asked 119 = .ok (.getfield 344, 3) := by decide +kernel
theorem dX11_asked_122 : decode cX11_asked 122 = .ok (.ireturn, 1) := by decide +kernel
theorem dX11_asked_123 : decode cX11_asked 123 = .ok (.aload_n 0, 1) := by decide +kernel
theorem dX11_asked_124 : decode cX11_asked 124 = .ok (.getfield 347, 3) := by decide +kernel
theorem dX11_asked_127 : decode cX11_asked 127 = .ok (.ireturn, 1) := by decide +kernel
theorem dX11_asked_128 : decode cX11_asked 128 = .ok (.aload_n 0, 1) := by decide +kernel
theorem dX11_asked_129 : decode cX11_asked 129 = .ok (.getfield 350, 3) := by decide +kernel
theorem dX11_asked_132 : decode cX11_asked 132 = .ok (.ireturn, 1) := by decide +kernel
theorem dX11_asked_133 : decode cX11_asked 133 = .ok (.aload_n 0, 1) := by decide +kernel
theorem dX11_asked_134 : decode cX11_asked 134 = .ok (.getfield 353, 3) := by decide +kernel
theorem dX11_asked_137 : decode cX11_asked 137 = .ok (.ireturn, 1) := by decide +kernel
theorem dX11_asked_138 : decode cX11_asked 138 = .ok (.aload_n 0, 1) := by decide +kernel
theorem dX11_asked_139 : decode cX11_asked 139 = .ok (.getfield 91, 3) := by decide +kernel
theorem dX11_asked_142 : decode cX11_asked 142 = .ok (.bipush 22, 2) := by decide +kernel
theorem dX11_asked_144 : decode cX11_asked 144 = .ok (.iaload, 1) := by decide +kernel
theorem dX11_asked_145 : decode cX11_asked 145 = .ok (.ireturn, 1) := by decide +kernel
theorem dX11_asked_146 : decode cX11_asked 146 = .ok (.iload_n 2, 1) := by decide +kernel
theorem dX11_asked_147 : decode cX11_asked 147 = .ok (.ireturn, 1) := by decide +kernel
theorem dX11_comes_0 : decode cX11_comes 0 = .ok (.iconst 0, 1) := by decide +kernel
theorem dX11_comes_1 : decode cX11_comes 1 = .ok (.istore_n 2, 1) := by decide +kernel
theorem dX11_comes_2 : decode cX11_comes 2 = .ok (.aload_n 0, 1) := by decide +kernel
theorem dX11_comes_3 : decode cX11_comes 3 = .ok (.getfield 63, 3) := by decide +kernel
theorem dX11_comes_6 : decode cX11_comes 6 = .ok (.iconst 2, 1) := by decide +kernel
theorem dX11_comes_7 : decode cX11_comes 7 = .ok (.aload_n 0, 1) := by decide +kernel
theorem dX11_comes_8 : decode cX11_comes 8 = .ok (.getfield 266, 3) := by decide +kernel
theorem dX11_comes_11 : decode cX11_comes 11 = .ok (.imul, 1) := by decide +kernel
theorem dX11_comes_12 : decode cX11_comes 12 = .ok (.iload_n 1, 1) := by decide +kernel
theorem dX11_comes_13 : decode cX11_comes 13 = .ok (.iadd, 1) := by decide +kernel
theorem dX11_comes_14 : decode cX11_comes 14 = .ok (.iaload, 1) := by decide +kernel
theorem dX11_comes_15 : decode cX11_comes 15 = .ok (.istore_n 3, 1) := by decide +kernel
theorem dX11_comes_16 : decode cX11_comes 16 = .ok (.iload_n 3, 1) := by decide +kernel
theorem dX11_comes_17 : decode cX11_comes 17 = .ok (.aload_n 0, 1) := by decide +kernel
theorem dX11_comes_18 : decode cX11_comes 18 = .ok (.getfield 66, 3) := by decide +kernel
theorem dX11_comes_21 : decode cX11_comes 21 = .ok (.iconst 2, 1) := by decide +kernel
theorem dX11_comes_22 : decode cX11_comes 22 = .ok (.aload_n 0, 1) := by decide +kernel
theorem dX11_comes_23 : decode cX11_comes 23 = .ok (.getfield 266, 3) := by decide +kernel
theorem dX11_comes_26 : decode cX11_comes 26 = .ok (.imul, 1) := by decide +kernel
theorem dX11_comes_27 : decode cX11_comes 27 = .ok (.iload_n 1, 1) := by decide +kernel
theorem dX11_comes_28 : decode cX11_comes 28 = .ok (.iadd, 1) := by decide +kernel
theorem dX11_comes_29 : decode cX11_comes 29 = .ok (.iaload, 1) := by decide +kernel
theorem dX11_comes_30 : decode cX11_comes 30 = .ok (.if_icmp .ge 113, 3) := by decide +kernel
theorem dX11_comes_33 : decode cX11_comes 33 = .ok (.aload_n 0, 1) := by decide +kernel
theorem dX11_comes_34 : decode cX11_comes 34 = .ok (.getfield 76, 3) := by decide +kernel
theorem dX11_comes_37 : decode cX11_comes 37 = .ok (.iload_n 3, 1) := by decide +kernel
theorem dX11_comes_38 : decode cX11_comes 38 = .ok (.iaload, 1) := by decide +kernel
theorem dX11_comes_39 : decode cX11_comes 39 = .ok (.istore 4, 2) := by decide +kernel
theorem dX11_comes_41 : decode cX11_comes 41 = .ok (.iload 4, 2) := by decide +kernel
theorem dX11_comes_43 : decode cX11_comes 43 = .ok (.bipush 126, 2) := by decide +kernel
theorem dX11_comes_45 : decode cX11_comes 45 = .ok (.if_icmp .ne 30, 3) := by decide +kernel
theorem dX11_comes_48 : decode cX11_comes 48 = .ok (.aload_n 0, 1) := by decide +kernel
theorem dX11_comes_49 : decode cX11_comes 49 = .ok (.getfield 88, 3) := by decide +kernel
theorem dX11_comes_52 : decode cX11_comes 52 = .ok (.iload_n 2, 1) := by decide +kernel
theorem dX11_comes_53 : decode cX11_comes 53 = .ok (.iconst 1, 1) := by decide +kernel
theorem dX11_comes_54 : decode cX11_comes 54 = .ok (.isub, 1) := by decide +kernel
theorem dX11_comes_55 : decode cX11_comes 55 = .ok (.aload_n 0, 1) := by decide +kernel
theorem dX11_comes_56 : decode cX11_comes 56 = .ok (.getfield 88, 3) := by decide +kernel
theorem dX11_comes_59 : decode cX11_comes 59 = .ok (.iload_n 2, 1) := by decide +kernel
theorem dX11_comes_60 : decode cX11_comes 60 = .ok (.iconst 1, 1) := by decide +kernel
theorem dX11_comes_61 : decode cX11_comes 61 = .ok (.isub, 1) := by decide +kernel
theorem dX11_comes_62 : decode cX11_comes 62 = .ok (.iaload, 1) := by decide +kernel
theorem dX11_comes_63 : decode cX11_comes 63 = .ok (.ifCond .ne 7, 3) := by decide +kernel
theorem dX11_comes_66 : decode cX11_comes 66 = .ok (.iconst 1, 1) := by decide +kernel
theorem dX11_comes_67 : decode cX11_comes 67 = .ok (.goto 4, 3) := by decide +kernel
theorem dX11_comes_70 : decode cX11_comes 70 = .ok (.iconst 0, 1) := by decide +kernel
theorem dX11_comes_71 : decode cX11_comes 71 = .ok (.iastore, 1) := by decide +kernel
theorem dX11_comes_72 : decode cX11_comes 72 = .ok (.goto 65, 3) := by decide +kernel
theorem dX11_comes_75 : decode cX11_comes 75 = .ok (.iload 4, 2) := by decide +kernel
theorem dX11_comes_77 : decode cX11_comes 77 = .ok (.invokestatic 207, 3) := by decide +kernel
theorem dX11_comes_80 : decode cX11_comes 80 = .ok (.ifCond .eq 27, 3) := by decide +kernel
theorem dX11_comes_83 : decode cX11_comes 83 = .ok (.aload_n 0, 1) := by decide +kernel
theorem dX11_comes_84 : decode cX11_comes 84 = .ok (.getfield 88, 3) := by decide +kernel
theorem dX11_comes_87 : decode cX11_comes 87 = .ok (.iload_n 2, 1) := by decide +kernel
theorem dX11_comes_88 : decode cX11_comes 88 = .ok (.aload_n 0, 1) := by decide +kernel
theorem dX11_comes_89 : decode cX11_comes 89 = .ok (.iload 4, 2) := by decide +kernel
theorem dX11_comes_91 : decode cX11_comes 91 = .ok (.aload_n 0, 1) := by decide +kernel
theorem dX11_comes_92 : decode cX11_comes 92 = .ok (.getfield 79, 3) := by decide +kernel
theorem dX11_comes_95 : decode cX11_comes 95 = .ok (.iload_n 3, 1) := by decide +kernel
theorem dX11_comes_96 : decode cX11_comes 96 = .ok (.iaload, 1) := by decide +kernel
theorem dX11_comes_97 : decode cX11_comes 97 = .ok (.invokevirtual 356, 3) := by decide +kernel
theorem dX11_comes_100 : decode cX11_comes 100 = .ok (.iastore, 1) := by decide +kernel
theorem dX11_comes_101 : decode cX11_comes 101 = .ok (.iinc 2 1, 3) := by decide +kernel
theorem dX11_comes_104 : decode cX11_comes 104 = .ok (.goto 33, 3) := by decide +kernel
theorem dX11_comes_107 : decode cX11_comes 107 = .ok (.iinc 2 (-1), 3) := by decide +kernel
theorem dX11_comes_110 : decode cX11_comes 110 = .ok (.aload_n 0, 1) := by decide +kernel
theorem dX11_comes_111 : decode cX11_comes 111 = .ok (.getfield 88, 3) := by decide +kernel
theorem dX11_comes_114 : decode cX11_comes 114 = .ok (.iload_n 2, 1) := by decide +kernel
theorem dX11_comes_115 : decode cX11_comes 115 = .ok (.iconst 1, 1) := by decide +kernel
theorem dX11_comes_116 : decode cX11_comes 116 = .ok (.isub, 1) := by decide +kernel
theorem dX11_comes_117 : decode cX11_comes 117 = .ok (.iload 4, 2) := by decide +kernel
theorem dX11_comes_119 : decode cX11_comes 119 = .ok (.aload_n 0, 1) := by decide +kernel
theorem dX11_comes_120 : decode cX11_comes 120 = .ok (.getfield 88, 3) := by decide +kernel
theorem dX11_comes_123 : decode cX11_comes 123 = .ok (.iload_n 2, 1) := by decide +kernel
theorem dX11_comes_124 : decode cX11_comes 124 = .ok (.iconst 1, 1) := by decide +kernel
theorem dX11_comes_125 : decode cX11_comes 125 = .ok (.isub, 1) := by decide +kernel
theorem dX11_comes_126 : decode cX11_comes 126 = .ok (.iaload, 1) := by decide +kernel
theorem dX11_comes_127 : decode cX11_comes 127 = .ok (.aload_n 0, 1) := by decide +kernel
theorem dX11_comes_128 : decode cX11_comes 128 = .ok (.getfield 88, 3) := by decide +kernel
theorem dX11_comes_131 : decode cX11_comes 131 = .ok (.iload_n 2, 1) := by decide +kernel
theorem dX11_comes_132 : decode cX11_comes 132 = .ok (.iaload, 1) := by decide +kernel
theorem dX11_comes_133 : decode cX11_comes 133 = .ok (.invokestatic 359, 3) := by decide +kernel
theorem dX11_comes_136 : decode cX11_comes 136 = .ok (.iastore, 1) := by decide +kernel
theorem dX11_comes_137 : decode cX11_comes 137 = .ok (.iinc 3 1, 3) := by decide +kernel
theorem dX11_comes_140 : decode cX11_comes 140 = .ok (.goto (-124), 3) := by decide +kernel
theorem dX11_comes_143 : decode cX11_comes 143 = .ok (.aload_n 0, 1) := by decide +kernel
theorem dX11_comes_144 : decode cX11_comes 144 = .ok (.getfield 88, 3) := by decide +kernel
theorem dX11_comes_147 : decode cX11_comes 147 = .ok (.iconst 0, 1) := by decide +kernel
theorem dX11_comes_148 : decode cX11_comes 148 = .ok (.iaload, 1) := by decide +kernel
theorem dX11_comes_149 : decode cX11_comes 149 = .ok (.ireturn, 1) := by decide +kernel
theorem dX11_fault_0 : decode cX11_fault 0 = .ok (.iload_n 1, 1) := by decide +kernel
theorem dX11_fault_1 : decode cX11_fault 1 = .ok (.ifCond .ne 10, 3) := by decide +kernel
theorem dX11_fault_4 : decode cX11_fault 4 = .ok (.aload_n 0, 1) := by decide +kernel
theorem dX11_fault_5 : decode cX11_fault 5 = .ok (.getfield 155, 3) := by decide +kernel
theorem dX11_fault_8 : decode cX11_fault 8 = .ok (.goto 16, 3) := by decide +kernel
theorem dX11_fault_11 : decode cX11_fault 11 = .ok (.iload_n 1, 1) := by decide +kernel
theorem dX11_fault_12 : decode cX11_fault 12 = .ok (.iconst 1, 1) := by decide +kernel
theorem dX11_fault_13 : decode cX11_fault 13 = .ok (.if_icmp .ne 10, 3) := by decide +kernel
theorem dX11_fault_16 : decode cX11_fault 16 = .ok (.aload_n 0, 1) := by decide +kernel
theorem dX11_fault_17 : decode cX11_fault 17 = .ok (.getfield 16, 3) := by decide +kernel
theorem dX11_fault_20 : decode cX11_fault 20 = .ok (.goto 4, 3) := by decide +kernel
theorem dX11_fault_23 : decode cX11_fault 23 = .ok (.iconst (-1), 1) := by decide +kernel
theorem dX11_fault_24 : decode cX11_fault 24 = .ok (.ireturn, 1) := by decide +kernel
theorem dX11_isIn_0 : decode cX11_isIn 0 = .ok (.iload_n 0, 1) := by decide +kernel
theorem dX11_isIn_1 : decode cX11_isIn 1 = .ok (.iload_n 1, 1) := by decide +kernel
theorem dX11_isIn_2 : decode cX11_isIn 2 = .ok (.if_icmp .lt 12, 3) := by decide +kernel
theorem dX11_isIn_5 : decode cX11_isIn 5 = .ok (.iload_n 0, 1) := by decide +kernel
theorem dX11_isIn_6 : decode cX11_isIn 6 = .ok (.iload_n 2, 1) := by decide +kernel
theorem dX11_isIn_7 : decode cX11_isIn 7 = .ok (.if_icmp .gt 7, 3) := by decide +kernel
theorem dX11_isIn_10 : decode cX11_isIn 10 = .ok (.iconst 1, 1) := by decide +kernel
theorem dX11_isIn_11 : decode cX11_isIn 11 = .ok (.goto 4, 3) := by decide +kernel
theorem dX11_isIn_14 : decode cX11_isIn 14 = .ok (.iconst 0, 1) := by decide +kernel
theorem dX11_isIn_15 : decode cX11_isIn 15 = .ok (.ireturn, 1) := by decide +kernel
theorem dX11_has_0 : decode cX11_has 0 = .ok (.iload_n 0, 1) := by decide +kernel
theorem dX11_has_1 : decode cX11_has 1 = .ok (.iload_n 1, 1) := by decide +kernel
theorem dX11_has_2 : decode cX11_has 2 = .ok (.ishr, 1) := by decide +kernel
theorem dX11_has_3 : decode cX11_has 3 = .ok (.iconst 1, 1) := by decide +kernel
theorem dX11_has_4 : decode cX11_has 4 = .ok (.iand, 1) := by decide +kernel
theorem dX11_has_5 : decode cX11_has 5 = .ok (.iconst 1, 1) := by decide +kernel
theorem dX11_has_6 : decode cX11_has 6 = .ok (.if_icmp .ne 7, 3) := by decide +kernel
theorem dX11_has_9 : decode cX11_has 9 = .ok (.iconst 1, 1) := by decide +kernel
theorem dX11_has_10 : decode cX11_has 10 = .ok (.goto 4, 3) := by decide +kernel
theorem dX11_has_13 : decode cX11_has 13 = .ok (.iconst 0, 1) := by decide +kernel
theorem dX11_has_14 : decode cX11_has 14 = .ok (.ireturn, 1) := by decide +kernel
theorem dX11_bitsOf_0 : decode cX11_bitsOf 0 = .ok (.iconst 0, 1) := by decide +kernel
theorem dX11_bitsOf_1 : decode cX11_bitsOf 1 = .ok (.istore_n 1, 1) := by decide +kernel
theorem dX11_bitsOf_2 : decode cX11_bitsOf 2 = .ok (.iload_n 0, 1) := by decide +kernel
theorem dX11_bitsOf_3 : decode cX11_bitsOf 3 = .ok (.istore_n 2, 1) := by decide +kernel
theorem dX11_bitsOf_4 : decode cX11_bitsOf 4 = .ok (.iload_n 2, 1) := by decide +kernel
theorem dX11_bitsOf_5 : decode cX11_bitsOf 5 = .ok (.ifCond .eq 15, 3) := by decide +kernel
theorem dX11_bitsOf_8 : decode cX11_bitsOf 8 = .ok (.iinc 1 1, 3) := by decide +kernel
theorem dX11_bitsOf_11 : decode cX11_bitsOf 11 = .ok (.iload_n 2, 1) := by decide +kernel
theorem dX11_bitsOf_12 : decode cX11_bitsOf 12 = .ok (.iload_n 2, 1) := by decide +kernel
theorem dX11_bitsOf_13 : decode cX11_bitsOf 13 = .ok (.iconst 1, 1) := by decide +kernel
theorem dX11_bitsOf_14 : decode cX11_bitsOf 14 = .ok (.isub, 1) := by decide +kernel
theorem dX11_bitsOf_15 : decode cX11_bitsOf 15 = .ok (.iand, 1) := by decide +kernel
theorem dX11_bitsOf_16 : decode cX11_bitsOf 16 = .ok (.istore_n 2, 1) := by decide +kernel
theorem dX11_bitsOf_17 : decode cX11_bitsOf 17 = .ok (.goto (-13), 3) := by decide +kernel
theorem dX11_bitsOf_20 : decode cX11_bitsOf 20 = .ok (.iload_n 1, 1) := by decide +kernel
theorem dX11_bitsOf_21 : decode cX11_bitsOf 21 = .ok (.ireturn, 1) := by decide +kernel
theorem dX11_divisor_0 : decode cX11_divisor 0 = .ok (.iload_n 0, 1) := by decide +kernel
theorem dX11_divisor_1 : decode cX11_divisor 1 = .ok (.istore_n 2, 1) := by decide +kernel
theorem dX11_divisor_2 : decode cX11_divisor 2 = .ok (.iload_n 1, 1) := by decide +kernel
theorem dX11_divisor_3 : decode cX11_divisor 3 = .ok (.istore_n 3, 1) := by decide +kernel
theorem dX11_divisor_4 : decode cX11_divisor 4 = .ok (.iload_n 3, 1) := by decide +kernel
theorem dX11_divisor_5 : decode cX11_divisor 5 = .ok (.ifCond .le 16, 3) := by decide +kernel
theorem dX11_divisor_8 : decode cX11_divisor 8 = .ok (.iload_n 2, 1) := by decide +kernel
theorem dX11_divisor_9 : decode cX11_divisor 9 = .ok (.iload_n 3, 1) := by decide +kernel
theorem dX11_divisor_10 : decode cX11_divisor 10 = .ok (.irem, 1) := by decide +kernel
theorem dX11_divisor_11 : decode cX11_divisor 11 = .ok (.istore 4, 2) := by decide +kernel
theorem dX11_divisor_13 : decode cX11_divisor 13 = .ok (.iload_n 3, 1) := by decide +kernel
theorem dX11_divisor_14 : decode cX11_divisor 14 = .ok (.istore_n 2, 1) := by decide +kernel
theorem dX11_divisor_15 : decode cX11_divisor 15 = .ok (.iload 4, 2) := by decide +kernel
theorem dX11_divisor_17 : decode cX11_divisor 17 = .ok (.istore_n 3, 1) := by decide +kernel
theorem dX11_divisor_18 : decode cX11_divisor 18 = .ok (.goto (-14), 3) := by decide +kernel
theorem dX11_divisor_21 : decode cX11_divisor 21 = .ok (.iload_n 2, 1) := by decide +kernel
theorem dX11_divisor_22 : decode cX11_divisor 22 = .ok (.ireturn, 1) := by decide +kernel
theorem dX11_power_0 : decode cX11_power 0 = .ok (.iconst 1, 1) := by decide +kernel
theorem dX11_power_1 : decode cX11_power 1 = .ok (.istore_n 2, 1) := by decide +kernel
theorem dX11_power_2 : decode cX11_power 2 = .ok (.iconst 0, 1) := by decide +kernel
theorem dX11_power_3 : decode cX11_power 3 = .ok (.istore_n 3, 1) := by decide +kernel
theorem dX11_power_4 : decode cX11_power 4 = .ok (.iload_n 3, 1) := by decide +kernel
theorem dX11_power_5 : decode cX11_power 5 = .ok (.iload_n 1, 1) := by decide +kernel
theorem dX11_power_6 : decode cX11_power 6 = .ok (.if_icmp .ge 13, 3) := by decide +kernel
theorem dX11_power_9 : decode cX11_power 9 = .ok (.iload_n 2, 1) := by decide +kernel
theorem dX11_power_10 : decode cX11_power 10 = .ok (.iload_n 0, 1) := by decide +kernel
theorem dX11_power_11 : decode cX11_power 11 = .ok (.imul, 1) := by decide +kernel
theorem dX11_power_12 : decode cX11_power 12 = .ok (.istore_n 2, 1) := by decide +kernel
theorem dX11_power_13 : decode cX11_power 13 = .ok (.iinc 3 1, 3) := by decide +kernel
theorem dX11_power_16 : decode cX11_power 16 = .ok (.goto (-12), 3) := by decide +kernel
theorem dX11_power_19 : decode cX11_power 19 = .ok (.iload_n 2, 1) := by decide +kernel
theorem dX11_power_20 : decode cX11_power 20 = .ok (.ireturn, 1) := by decide +kernel
theorem dX11_many_0 : decode cX11_many 0 = .ok (.aload_n 0, 1) := by decide +kernel
theorem dX11_many_1 : decode cX11_many 1 = .ok (.getfield 24, 3) := by decide +kernel
theorem dX11_many_4 : decode cX11_many 4 = .ok (.aload_n 0, 1) := by decide +kernel
theorem dX11_many_5 : decode cX11_many 5 = .ok (.getfield 266, 3) := by decide +kernel
theorem dX11_many_8 : decode cX11_many 8 = .ok (.iaload, 1) := by decide +kernel
theorem dX11_many_9 : decode cX11_many 9 = .ok (.ireturn, 1) := by decide +kernel
theorem dX11_ways_0 : decode cX11_ways 0 = .ok (.aload_n 0, 1) := by decide +kernel
theorem dX11_ways_1 : decode cX11_ways 1 = .ok (.getfield 20, 3) := by decide +kernel
theorem dX11_ways_4 : decode cX11_ways 4 = .ok (.aload_n 0, 1) := by decide +kernel
theorem dX11_ways_5 : decode cX11_ways 5 = .ok (.getfield 266, 3) := by decide +kernel
theorem dX11_ways_8 : decode cX11_ways 8 = .ok (.iaload, 1) := by decide +kernel
theorem dX11_ways_9 : decode cX11_ways 9 = .ok (.ireturn, 1) := by decide +kernel
theorem dX11_full_0 : decode cX11_full 0 = .ok (.iconst 1, 1) := by decide +kernel
theorem dX11_full_1 : decode cX11_full 1 = .ok (.aload_n 0, 1) := by decide +kernel
theorem dX11_full_2 : decode cX11_full 2 = .ok (.invokevirtual 363, 3) := by decide +kernel
theorem dX11_full_5 : decode cX11_full 5 = .ok (.ishl, 1) := by decide +kernel
theorem dX11_full_6 : decode cX11_full 6 = .ok (.iconst 1, 1) := by decide +kernel
theorem dX11_full_7 : decode cX11_full 7 = .ok (.isub, 1) := by decide +kernel
theorem dX11_full_8 : decode cX11_full 8 = .ok (.ireturn, 1) := by decide +kernel
theorem dX11_isGuild_0 : decode cX11_isGuild 0 = .ok (.iload_n 1, 1) := by decide +kernel
theorem dX11_isGuild_1 : decode cX11_isGuild 1 = .ok (.iconst 0, 1) := by decide +kernel
theorem dX11_isGuild_2 : decode cX11_isGuild 2 = .ok (.aload_n 0, 1) := by decide +kernel
theorem dX11_isGuild_3 : decode cX11_isGuild 3 = .ok (.invokevirtual 363, 3) := by decide +kernel
theorem dX11_isGuild_6 : decode cX11_isGuild 6 = .ok (.iconst 1, 1) := by decide +kernel
theorem dX11_isGuild_7 : decode cX11_isGuild 7 = .ok (.isub, 1) := by decide +kernel
theorem dX11_isGuild_8 : decode cX11_isGuild 8 = .ok (.invokestatic 366, 3) := by decide +kernel
theorem dX11_isGuild_11 : decode cX11_isGuild 11 = .ok (.ireturn, 1) := by decide +kernel
theorem dX11_isBearer_0 : decode cX11_isBearer 0 = .ok (.aload_n 0, 1) := by decide +kernel
theorem dX11_isBearer_1 : decode cX11_isBearer 1 = .ok (.getfield 91, 3) := by decide +kernel
theorem dX11_isBearer_4 : decode cX11_isBearer 4 = .ok (.bipush 15, 2) := by decide +kernel
theorem dX11_isBearer_6 : decode cX11_isBearer 6 = .ok (.iload_n 1, 1) := by decide +kernel
theorem dX11_isBearer_7 : decode cX11_isBearer 7 = .ok (.iadd, 1) := by decide +kernel
theorem dX11_isBearer_8 : decode cX11_isBearer 8 = .ok (.iaload, 1) := by decide +kernel
theorem dX11_isBearer_9 : decode cX11_isBearer 9 = .ok (.ifCond .ge 7, 3) := by decide +kernel
theorem dX11_isBearer_12 : decode cX11_isBearer 12 = .ok (.iconst 1, 1) := by decide +kernel
theorem dX11_isBearer_13 : decode cX11_isBearer 13 = .ok (.goto 4, 3) := by decide +kernel
theorem dX11_isBearer_16 : decode cX11_isBearer 16 = .ok (.iconst 0, 1) := by decide +kernel
theorem dX11_isBearer_17 : decode cX11_isBearer 17 = .ok (.ireturn, 1) := by decide +kernel
theorem dX11_isUp_0 : decode cX11_isUp 0 = .ok (.aload_n 0, 1) := by decide +kernel
theorem dX11_isUp_1 : decode cX11_isUp 1 = .ok (.getfield 91, 3) := by decide +kernel
theorem dX11_isUp_4 : decode cX11_isUp 4 = .ok (.bipush 20, 2) := by decide +kernel
theorem dX11_isUp_6 : decode cX11_isUp 6 = .ok (.iaload, 1) := by decide +kernel
theorem dX11_isUp_7 : decode cX11_isUp 7 = .ok (.iload_n 1, 1) := by decide +kernel
theorem dX11_isUp_8 : decode cX11_isUp 8 = .ok (.invokestatic 272, 3) := by decide +kernel
theorem dX11_isUp_11 : decode cX11_isUp 11 = .ok (.ireturn, 1) := by decide +kernel
theorem dX11_doesBear_0 : decode cX11_doesBear 0 = .ok (.aload_n 0, 1) := by decide +kernel
theorem dX11_doesBear_1 : decode cX11_doesBear 1 = .ok (.iload_n 1, 1) := by decide +kernel
theorem dX11_doesBear_2 : decode cX11_doesBear 2 = .ok (.invokevirtual 370, 3) := by decide +kernel
theorem dX11_doesBear_5 : decode cX11_doesBear 5 = .ok (.ifCond .eq 23, 3) := by decide +kernel
theorem dX11_doesBear_8 : decode cX11_doesBear 8 = .ok (.aload_n 0, 1) := by decide +kernel
theorem dX11_doesBear_9 : decode cX11_doesBear 9 = .ok (.iload_n 1, 1) := by decide +kernel
theorem dX11_doesBear_10 : decode cX11_doesBear 10 = .ok (.invokevirtual 373, 3) := by decide +kernel
theorem dX11_doesBear_13 : decode cX11_doesBear 13 = .ok (.ifCond .eq 15, 3) := by decide +kernel
theorem dX11_doesBear_16 : decode cX11_doesBear 16 = .ok (.aload_n 0, 1) := by decide +kernel
theorem dX11_doesBear_17 : decode cX11_doesBear 17 = .ok (.iload_n 1, 1) := by decide +kernel
theorem dX11_doesBear_18 : decode cX11_doesBear 18 = .ok (.invokevirtual 376, 3) := by decide +kernel
theorem dX11_doesBear_21 : decode cX11_doesBear 21 = .ok (.ifCond .eq 7, 3) := by decide +kernel
theorem dX11_doesBear_24 : decode cX11_doesBear 24 = .ok (.iconst 1, 1) := by decide +kernel
theorem dX11_doesBear_25 : decode cX11_doesBear 25 = .ok (.goto 4, 3) := by decide +kernel
theorem dX11_doesBear_28 : decode cX11_doesBear 28 = .ok (.iconst 0, 1) := by decide +kernel
theorem dX11_doesBear_29 : decode cX11_doesBear 29 = .ok (.ireturn, 1) := by decide +kernel
theorem dX11_bearerOf_0 : decode cX11_bearerOf 0 = .ok (.aload_n 0, 1) := by decide +kernel
theorem dX11_bearerOf_1 : decode cX11_bearerOf 1 = .ok (.iload_n 1, 1) := by decide +kernel
theorem dX11_bearerOf_2 : decode cX11_bearerOf 2 = .ok (.invokevirtual 373, 3) := by decide +kernel
theorem dX11_bearerOf_5 : decode cX11_bearerOf 5 = .ok (.ifCond .eq 7, 3) := by decide +kernel
theorem dX11_bearerOf_8 : decode cX11_bearerOf 8 = .ok (.iload_n 1, 1) := by decide +kernel
theorem dX11_bearerOf_9 : decode cX11_bearerOf 9 = .ok (.goto 12, 3) := by decide +kernel
theorem dX11_bearerOf_12 : decode cX11_bearerOf 12 = .ok (.aload_n 0, 1) := by decide +kernel
theorem dX11_bearerOf_13 : decode cX11_bearerOf 13 = .ok (.getfield 91, 3) := by decide +kernel
theorem dX11_bearerOf_16 : decode cX11_bearerOf 16 = .ok (.bipush 15, 2) := by decide +kernel
theorem dX11_bearerOf_18 : decode cX11_bearerOf 18 = .ok (.iload_n 1, 1) := by decide +kernel
theorem dX11_bearerOf_19 : decode cX11_bearerOf 19 = .ok (.iadd, 1) := by decide +kernel
theorem dX11_bearerOf_20 : decode cX11_bearerOf 20 = .ok (.iaload, 1) := by decide +kernel
theorem dX11_bearerOf_21 : decode cX11_bearerOf 21 = .ok (.ireturn, 1) := by decide +kernel
theorem dX11_party_0 : decode cX11_party 0 = .ok (.iconst 1, 1) := by decide +kernel
theorem dX11_party_1 : decode cX11_party 1 = .ok (.iload_n 1, 1) := by decide +kernel
theorem dX11_party_2 : decode cX11_party 2 = .ok (.ishl, 1) := by decide +kernel
theorem dX11_party_3 : decode cX11_party 3 = .ok (.istore_n 2, 1) := by decide +kernel
theorem dX11_party_4 : decode cX11_party 4 = .ok (.iconst 0, 1) := by decide +kernel
theorem dX11_party_5 : decode cX11_party 5 = .ok (.istore_n 3, 1) := by decide +kernel
theorem dX11_party_6 : decode cX11_party 6 = .ok (.iload_n 3, 1) := by decide +kernel
theorem dX11_party_7 : decode cX11_party 7 = .ok (.aload_n 0, 1) := by decide +kernel
theorem dX11_party_8 : decode cX11_party 8 = .ok (.invokevirtual 363, 3) := by decide +kernel
theorem dX11_party_11 : decode cX11_party 11 = .ok (.if_icmp .ge 28, 3) := by decide +kernel
theorem dX11_party_14 : decode cX11_party 14 = .ok (.aload_n 0, 1) := by decide +kernel
theorem dX11_party_15 : decode cX11_party 15 = .ok (.getfield 91, 3) := by decide +kernel
theorem dX11_party_18 : decode cX11_party 18 = .ok (.bipush 15, 2) := by decide +kernel
theorem dX11_party_20 : decode cX11_party 20 = .ok (.iload_n 3, 1) := by decide +kernel
theorem dX11_party_21 : decode cX11_party 21 = .ok (.iadd, 1) := by decide +kernel
theorem dX11_party_22 : decode cX11_party 22 = .ok (.iaload, 1) := by decide +kernel
theorem dX11_party_23 : decode cX11_party 23 = .ok (.iload_n 1, 1) := by decide +kernel
theorem dX11_party_24 : decode cX11_party 24 = .ok (.if_icmp .ne 9, 3) := by decide +kernel
theorem dX11_party_27 : decode cX11_party 27 = .ok (.iload_n 2, 1) := by decide +kernel
theorem dX11_party_28 : decode cX11_party 28 = .ok (.iconst 1, 1) := by decide +kernel
theorem dX11_party_29 : decode cX11_party 29 = .ok (.iload_n 3, 1) := by decide +kernel
theorem dX11_party_30 : decode cX11_party 30 = .ok (.ishl, 1) := by decide +kernel
theorem dX11_party_31 : decode cX11_party 31 = .ok (.ior, 1) := by decide +kernel
theorem dX11_party_32 : decode cX11_party 32 = .ok (.istore_n 2, 1) := by decide +kernel
theorem dX11_party_33 : decode cX11_party 33 = .ok (.iinc 3 1, 3) := by decide +kernel
theorem dX11_party_36 : decode cX11_party 36 = .ok (.goto (-30), 3) := by decide +kernel
theorem dX11_party_39 : decode cX11_party 39 = .ok (.iload_n 2, 1) := by decide +kernel
theorem dX11_party_40 : decode cX11_party 40 = .ok (.ireturn, 1) := by decide +kernel
theorem dX11_startAnew_0 : decode cX11_startAnew 0 = .ok (.iconst 0, 1) := by decide +kernel
theorem dX11_startAnew_1 : decode cX11_startAnew 1 = .ok (.istore_n 1, 1) := by decide +kernel
theorem dX11_startAnew_2 : decode cX11_startAnew 2 = .ok (.iload_n 1, 1) := by decide +kernel
theorem dX11_startAnew_3 : decode cX11_startAnew 3 = .ok (.bipush 24, 2) := by decide +kernel
theorem dX11_startAnew_5 : decode cX11_startAnew 5 = .ok (.if_icmp .ge 16, 3) := by decide +kernel
theorem dX11_startAnew_8 : decode cX11_startAnew 8 = .ok (.aload_n 0, 1) := by decide +kernel
theorem dX11_startAnew_9 : decode cX11_startAnew 9 = .ok (.getfield 91, 3) := by decide +kernel
theorem dX11_startAnew_12 : decode cX11_startAnew 12 = .ok (.iload_n 1, 1) := by decide +kernel
theorem dX11_startAnew_13 : decode cX11_startAnew 13 = .ok (.iconst 0, 1) := by decide +kernel
theorem dX11_startAnew_14 : decode cX11_startAnew 14 = .ok (.iastore, 1) := by decide +kernel
theorem dX11_startAnew_15 : decode cX11_startAnew 15 = .ok (.iinc 1 1, 3) := by decide +kernel
theorem dX11_startAnew_18 : decode cX11_startAnew 18 = .ok (.goto (-16), 3) := by decide +kernel
theorem dX11_startAnew_21 : decode cX11_startAnew 21 = .ok (.iconst 0, 1) := by decide +kernel
theorem dX11_startAnew_22 : decode cX11_startAnew 22 = .ok (.istore_n 1, 1) := by decide +kernel
theorem dX11_startAnew_23 : decode cX11_startAnew 23 = .ok (.iload_n 1, 1) := by decide +kernel
theorem dX11_startAnew_24 : decode cX11_startAnew 24 = .ok (.iconst 5, 1) := by decide +kernel
theorem dX11_startAnew_25 : decode cX11_startAnew 25 = .ok (.if_icmp .ge 61, 3) := by decide +kernel
theorem dX11_startAnew_28 : decode cX11_startAnew 28 = .ok (.aload_n 0, 1) := by decide +kernel
theorem dX11_startAnew_29 : decode cX11_startAnew 29 = .ok (.getfield 91, 3) := by decide +kernel
theorem dX11_startAnew_32 : decode cX11_startAnew 32 = .ok (.iconst 0, 1) := by decide +kernel
theorem dX11_startAnew_33 : decode cX11_startAnew 33 = .ok (.iload_n 1, 1) := by decide +kernel
theorem dX11_startAnew_34 : decode cX11_startAnew 34 = .ok (.iadd, 1) := by decide +kernel
theorem dX11_startAnew_35 : decode cX11_startAnew 35 = .ok (.iload_n 1, 1) := by decide +kernel
theorem dX11_startAnew_36 : decode cX11_startAnew 36 = .ok (.iastore, 1) := by decide +kernel
theorem dX11_startAnew_37 : decode cX11_startAnew 37 = .ok (.aload_n 0, 1) := by decide +kernel
theorem dX11_startAnew_38 : decode cX11_startAnew 38 = .ok (.getfield 91, 3) := by decide +kernel
theorem dX11_startAnew_41 : decode cX11_startAnew 41 = .ok (.iconst 5, 1) := by decide +kernel
theorem dX11_startAnew_42 : decode cX11_startAnew 42 = .ok (.iload_n 1, 1) := by decide +kernel
theorem dX11_startAnew_43 : decode cX11_startAnew 43 = .ok (.iadd, 1) := by decide +kernel
theorem dX11_startAnew_44 : decode cX11_startAnew 44 = .ok (.iload_n 1, 1) := by decide +kernel
theorem dX11_startAnew_45 : decode cX11_startAnew 45 = .ok (.aload_n 0, 1) := by decide +kernel
theorem dX11_startAnew_46 : decode cX11_startAnew 46 = .ok (.invokevirtual 363, 3) := by decide +kernel
theorem dX11_startAnew_49 : decode cX11_startAnew 49 = .ok (.if_icmp .ge 19, 3) := by decide +kernel
theorem dX11_startAnew_52 : decode cX11_startAnew 52 = .ok (.aload_n 0, 1) := by decide +kernel
theorem dX11_startAnew_53 : decode cX11_startAnew 53 = .ok (.getfield 60, 3) := by decide +kernel
theorem dX11_startAnew_56 : decode cX11_startAnew 56 = .ok (.iconst 5, 1) := by decide +kernel
theorem dX11_startAnew_57 : decode cX11_startAnew 57 = .ok (.aload_n 0, 1) := by decide +kernel
theorem dX11_startAnew_58 : decode cX11_startAnew 58 = .ok (.getfield 266, 3) := by decide +kernel
theorem dX11_startAnew_61 : decode cX11_startAnew 61 = .ok (.imul, 1) := by decide +kernel
theorem dX11_startAnew_62 : decode cX11_startAnew 62 = .ok (.iload_n 1, 1) := by decide +kernel
theorem dX11_startAnew_63 : decode cX11_startAnew 63 = .ok (.iadd, 1) := by decide +kernel
theorem dX11_startAnew_64 : decode cX11_startAnew 64 = .ok (.iaload, 1) := by decide +kernel
theorem dX11_startAnew_65 : decode cX11_startAnew 65 = .ok (.goto 4, 3) := by decide +kernel
theorem dX11_startAnew_68 : decode cX11_startAnew 68 = .ok (.iconst 0, 1) := by decide +kernel
theorem dX11_startAnew_69 : decode cX11_startAnew 69 = .ok (.iastore, 1) := by decide +kernel
theorem dX11_startAnew_70 : decode cX11_startAnew 70 = .ok (.aload_n 0, 1) := by decide +kernel
theorem dX11_startAnew_71 : decode cX11_startAnew 71 = .ok (.getfield 91, 3) := by decide +kernel
theorem dX11_startAnew_74 : decode cX11_startAnew 74 = .ok (.bipush 15, 2) := by decide +kernel
theorem dX11_startAnew_76 : decode cX11_startAnew 76 = .ok (.iload_n 1, 1) := by decide +kernel
theorem dX11_startAnew_77 : decode cX11_startAnew 77 = .ok (.iadd, 1) := by decide +kernel
theorem dX11_startAnew_78 : decode cX11_startAnew 78 = .ok (.iconst (-1), 1) := by decide +kernel
theorem dX11_startAnew_79 : decode cX11_startAnew 79 = .ok (.iastore, 1) := by decide +kernel
theorem dX11_startAnew_80 : decode cX11_startAnew 80 = .ok (.iinc 1 1, 3) := by decide +kernel
theorem dX11_startAnew_83 : decode cX11_startAnew 83 = .ok (.goto (-60), 3) := by decide +kernel
theorem dX11_startAnew_86 : decode cX11_startAnew 86 = .ok (.aload_n 0, 1) := by decide +kernel
theorem dX11_startAnew_87 : decode cX11_startAnew 87 = .ok (.getfield 91, 3) := by decide +kernel
theorem dX11_startAnew_90 : decode cX11_startAnew 90 = .ok (.bipush 20, 2) := by decide +kernel
theorem dX11_startAnew_92 : decode cX11_startAnew 92 = .ok (.aload_n 0, 1) := by decide +kernel
theorem dX11_startAnew_93 : decode cX11_startAnew 93 = .ok (.invokevirtual 379, 3) := by decide +kernel
theorem dX11_startAnew_96 : decode cX11_startAnew 96 = .ok (.iastore, 1) := by decide +kernel
theorem dX11_startAnew_97 : decode cX11_startAnew 97 = .ok (.aload_n 0, 1) := by decide +kernel
theorem dX11_startAnew_98 : decode cX11_startAnew 98 = .ok (.getfield 91, 3) := by decide +kernel
theorem dX11_startAnew_101 : decode cX11_startAnew 101 = .ok (.bipush 23, 2) := by decide +kernel
theorem dX11_startAnew_103 : decode cX11_startAnew 103 = .ok (.aload_n 0, 1) := by decide +kernel
theorem dX11_startAnew_104 : decode cX11_startAnew 104 = .ok (.getfield 33, 3) := by decide +kernel
theorem dX11_startAnew_107 : decode cX11_startAnew 107 = .ok (.aload_n 0, 1) := by decide +kernel
theorem dX11_startAnew_108 : decode cX11_startAnew 108 = .ok (.getfield 266, 3) := by decide +kernel
theorem dX11_startAnew_111 : decode cX11_startAnew 111 = .ok (.iaload, 1) := by decide +kernel
theorem dX11_startAnew_112 : decode cX11_startAnew 112 = .ok (.iastore, 1) := by decide +kernel
theorem dX11_startAnew_113 : decode cX11_startAnew 113 = .ok (.aload_n 0, 1) := by decide +kernel
theorem dX11_startAnew_114 : decode cX11_startAnew 114 = .ok (.iconst 0, 1) := by decide +kernel
theorem dX11_startAnew_115 : decode cX11_startAnew 115 = .ok (.putfield 382, 3) := by decide +kernel
theorem dX11_startAnew_118 : decode cX11_startAnew 118 = .ok (.aload_n 0, 1) := by decide +kernel
theorem dX11_startAnew_119 : decode cX11_startAnew 119 = .ok (.iconst 0, 1) := by decide +kernel
theorem dX11_startAnew_120 : decode cX11_startAnew 120 = .ok (.putfield 385, 3) := by decide +kernel
theorem dX11_startAnew_123 : decode cX11_startAnew 123 = .ok (.aload_n 0, 1) := by decide +kernel
theorem dX11_startAnew_124 : decode cX11_startAnew 124 = .ok (.iconst 0, 1) := by decide +kernel
theorem dX11_startAnew_125 : decode cX11_startAnew 125 = .ok (.putfield 388, 3) := by decide +kernel
theorem dX11_startAnew_128 : decode cX11_startAnew 128 = .ok (.aload_n 0, 1) := by decide +kernel
theorem dX11_startAnew_129 : decode cX11_startAnew 129 = .ok (.iconst 0, 1) := by decide +kernel
theorem dX11_startAnew_130 : decode cX11_startAnew 130 = .ok (.putfield 391, 3) := by decide +kernel
theorem dX11_startAnew_133 : decode cX11_startAnew 133 = .ok (.iconst 0, 1) := by decide +kernel
theorem dX11_startAnew_134 : decode cX11_startAnew 134 = .ok (.istore_n 1, 1) := by decide +kernel
theorem dX11_startAnew_135 : decode cX11_startAnew 135 = .ok (.iload_n 1, 1) := by decide +kernel
theorem dX11_startAnew_136 : decode cX11_startAnew 136 = .ok (.iconst 3, 1) := by decide +kernel
theorem dX11_startAnew_137 : decode cX11_startAnew 137 = .ok (.if_icmp .ge 16, 3) := by decide +kernel
theorem dX11_startAnew_140 : decode cX11_startAnew 140 = .ok (.aload_n 0, 1) := by decide +kernel
theorem dX11_startAnew_141 : decode cX11_startAnew 141 = .ok (.getfield 142, 3) := by decide +kernel
theorem dX11_startAnew_144 : decode cX11_startAnew 144 = .ok (.iload_n 1, 1) := by decide +kernel
theorem dX11_startAnew_145 : decode cX11_startAnew 145 = .ok (.iconst 0, 1) := by decide +kernel
theorem dX11_startAnew_146 : decode cX11_startAnew 146 = .ok (.bastore, 1) := by decide +kernel
theorem dX11_startAnew_147 : decode cX11_startAnew 147 = .ok (.iinc 1 1, 3) := by decide +kernel
theorem dX11_startAnew_150 : decode cX11_startAnew 150 = .ok (.goto (-15), 3) := by decide +kernel
theorem dX11_startAnew_153 : decode cX11_startAnew 153 = .ok (.return_, 1) := by decide +kernel
theorem dX11_clothOf_0 : decode cX11_clothOf 0 = .ok (.aload_n 0, 1) := by decide +kernel
theorem dX11_clothOf_1 : decode cX11_clothOf 1 = .ok (.getfield 51, 3) := by decide +kernel
theorem dX11_clothOf_4 : decode cX11_clothOf 4 = .ok (.iconst 5, 1) := by decide +kernel
theorem dX11_clothOf_5 : decode cX11_clothOf 5 = .ok (.aload_n 0, 1) := by decide +kernel
theorem dX11_clothOf_6 : decode cX11_clothOf 6 = .ok (.getfield 266, 3) := by decide +kernel
theorem dX11_clothOf_9 : decode cX11_clothOf 9 = .ok (.imul, 1) := by decide +kernel
theorem dX11_clothOf_10 : decode cX11_clothOf 10 = .ok (.iload_n 1, 1) := by decide +kernel
theorem dX11_clothOf_11 : decode cX11_clothOf 11 = .ok (.iadd, 1) := by decide +kernel
theorem dX11_clothOf_12 : decode cX11_clothOf 12 = .ok (.iaload, 1) := by decide +kernel
theorem dX11_clothOf_13 : decode cX11_clothOf 13 = .ok (.aload_n 0, 1) := by decide +kernel
theorem dX11_clothOf_14 : decode cX11_clothOf 14 = .ok (.getfield 91, 3) := by decide +kernel
theorem dX11_clothOf_17 : decode cX11_clothOf 17 = .ok (.iconst 5, 1) := by decide +kernel
theorem dX11_clothOf_18 : decode cX11_clothOf 18 = .ok (.iload_n 1, 1) := by decide +kernel
theorem dX11_clothOf_19 : decode cX11_clothOf 19 = .ok (.iadd, 1) := by decide +kernel
theorem dX11_clothOf_20 : decode cX11_clothOf 20 = .ok (.iaload, 1) := by decide +kernel
theorem dX11_clothOf_21 : decode cX11_clothOf 21 = .ok (.isub, 1) := by decide +kernel
theorem dX11_clothOf_22 : decode cX11_clothOf 22 = .ok (.istore_n 2, 1) := by decide +kernel
theorem dX11_clothOf_23 : decode cX11_clothOf 23 = .ok (.iload_n 2, 1) := by decide +kernel
theorem dX11_clothOf_24 : decode cX11_clothOf 24 = .ok (.ifCond .ge 7, 3) := by decide +kernel
theorem dX11_clothOf_27 : decode cX11_clothOf 27 = .ok (.iconst 0, 1) := by decide +kernel
theorem dX11_clothOf_28 : decode cX11_clothOf 28 = .ok (.goto 4, 3) := by decide +kernel
theorem dX11_clothOf_31 : decode cX11_clothOf 31 = .ok (.iload_n 2, 1) := by decide +kernel
theorem dX11_clothOf_32 : decode cX11_clothOf 32 = .ok (.ireturn, 1) := by decide +kernel
theorem dX11_mightOf_0 : decode cX11_mightOf 0 = .ok (.iconst 0, 1) := by decide +kernel
theorem dX11_mightOf_1 : decode cX11_mightOf 1 = .ok (.istore_n 2, 1) := by decide +kernel
theorem dX11_mightOf_2 : decode cX11_mightOf 2 = .ok (.iconst 0, 1) := by decide +kernel
theorem dX11_mightOf_3 : decode cX11_mightOf 3 = .ok (.istore_n 3, 1) := by decide +kernel
theorem dX11_mightOf_4 : decode cX11_mightOf 4 = .ok (.iload_n 3, 1) := by decide +kernel
theorem dX11_mightOf_5 : decode cX11_mightOf 5 = .ok (.aload_n 0, 1) := by decide +kernel
theorem dX11_mightOf_6 : decode cX11_mightOf 6 = .ok (.invokevirtual 363, 3) := by decide +kernel
theorem dX11_mightOf_9 : decode cX11_mightOf 9 = .ok (.if_icmp .ge 51, 3) := by decide +kernel
theorem dX11_mightOf_12 : decode cX11_mightOf 12 = .ok (.iload_n 2, 1) := by decide +kernel
theorem dX11_mightOf_13 : decode cX11_mightOf 13 = .ok (.aload_n 0, 1) := by decide +kernel
theorem dX11_mightOf_14 : decode cX11_mightOf 14 = .ok (.iload_n 1, 1) := by decide +kernel
theorem dX11_mightOf_15 : decode cX11_mightOf 15 = .ok (.invokevirtual 394, 3) := by decide +kernel
theorem dX11_mightOf_18 : decode cX11_mightOf 18 = .ok (.iload_n 3, 1) := by decide +kernel
theorem dX11_mightOf_19 : decode cX11_mightOf 19 = .ok (.invokestatic 272, 3) := by decide +kernel
theorem dX11_mightOf_22 : decode cX11_mightOf 22 = .ok (.ifCond .eq 29, 3) := by decide +kernel
theorem dX11_mightOf_25 : decode cX11_mightOf 25 = .ok (.aload_n 0, 1) := by decide +kernel
theorem dX11_mightOf_26 : decode cX11_mightOf 26 = .ok (.getfield 57, 3) := by decide +kernel
theorem dX11_mightOf_29 : decode cX11_mightOf 29 = .ok (.iconst 5, 1) := by decide +kernel
theorem dX11_mightOf_30 : decode cX11_mightOf 30 = .ok (.aload_n 0, 1) := by decide +kernel
theorem dX11_mightOf_31 : decode cX11_mightOf 31 = .ok (.getfield 266, 3) := by decide +kernel
theorem dX11_mightOf_34 : decode cX11_mightOf 34 = .ok (.imul, 1) := by decide +kernel
theorem dX11_mightOf_35 : decode cX11_mightOf 35 = .ok (.iload_n 3, 1) := by decide +kernel
theorem dX11_mightOf_36 : decode cX11_mightOf 36 = .ok (.iadd, 1) := by decide +kernel
theorem dX11_mightOf_37 : decode cX11_mightOf 37 = .ok (.iaload, 1) := by decide +kernel
theorem dX11_mightOf_38 : decode cX11_mightOf 38 = .ok (.aload_n 0, 1) := by decide +kernel
theorem dX11_mightOf_39 : decode cX11_mightOf 39 = .ok (.getfield 91, 3) := by decide +kernel
theorem dX11_mightOf_42 : decode cX11_mightOf 42 = .ok (.bipush 10, 2) := by decide +kernel
theorem dX11_mightOf_44 : decode cX11_mightOf 44 = .ok (.iload_n 3, 1) := by decide +kernel
theorem dX11_mightOf_45 : decode cX11_mightOf 45 = .ok (.iadd, 1) := by decide +kernel
theorem dX11_mightOf_46 : decode cX11_mightOf 46 = .ok (.iaload, 1) := by decide +kernel
theorem dX11_mightOf_47 : decode cX11_mightOf 47 = .ok (.iadd, 1) := by decide +kernel
theorem dX11_mightOf_48 : decode cX11_mightOf 48 = .ok (.goto 4, 3) := by decide +kernel
theorem dX11_mightOf_51 : decode cX11_mightOf 51 = .ok (.iconst 0, 1) := by decide +kernel
theorem dX11_mightOf_52 : decode cX11_mightOf 52 = .ok (.iadd, 1) := by decide +kernel
theorem dX11_mightOf_53 : decode cX11_mightOf 53 = .ok (.istore_n 2, 1) := by decide +kernel
theorem dX11_mightOf_54 : decode cX11_mightOf 54 = .ok (.iinc 3 1, 3) := by decide +kernel
theorem dX11_mightOf_57 : decode cX11_mightOf 57 = .ok (.goto (-53), 3) := by decide +kernel
theorem dX11_mightOf_60 : decode cX11_mightOf 60 = .ok (.iload_n 2, 1) := by decide +kernel
theorem dX11_mightOf_61 : decode cX11_mightOf 61 = .ok (.ireturn, 1) := by decide +kernel
theorem dX11_truthOf_0 : decode cX11_truthOf 0 = .ok (.bipush 100, 2) := by decide +kernel
theorem dX11_truthOf_2 : decode cX11_truthOf 2 = .ok (.istore_n 2, 1) := by decide +kernel
theorem dX11_truthOf_3 : decode cX11_truthOf 3 = .ok (.iconst 0, 1) := by decide +kernel
theorem dX11_truthOf_4 : decode cX11_truthOf 4 = .ok (.istore_n 3, 1) := by decide +kernel
theorem dX11_truthOf_5 : decode cX11_truthOf 5 = .ok (.iload_n 3, 1) := by decide +kernel
theorem dX11_truthOf_6 : decode cX11_truthOf 6 = .ok (.aload_n 0, 1) := by decide +kernel
theorem dX11_truthOf_7 : decode cX11_truthOf 7 = .ok (.invokevirtual 363, 3) := by decide +kernel
theorem dX11_truthOf_10 : decode cX11_truthOf 10 = .ok (.if_icmp .ge 36, 3) := by decide +kernel
theorem dX11_truthOf_13 : decode cX11_truthOf 13 = .ok (.aload_n 0, 1) := by decide +kernel
theorem dX11_truthOf_14 : decode cX11_truthOf 14 = .ok (.iload_n 1, 1) := by decide +kernel
theorem dX11_truthOf_15 : decode cX11_truthOf 15 = .ok (.invokevirtual 394, 3) := by decide +kernel
theorem dX11_truthOf_18 : decode cX11_truthOf 18 = .ok (.iload_n 3, 1) := by decide +kernel
theorem dX11_truthOf_19 : decode cX11_truthOf 19 = .ok (.invokestatic 272, 3) := by decide +kernel
theorem dX11_truthOf_22 : decode cX11_truthOf 22 = .ok (.ifCond .eq 18, 3) := by decide +kernel
theorem dX11_truthOf_25 : decode cX11_truthOf 25 = .ok (.aload_n 0, 1) := by decide +kernel
theorem dX11_truthOf_26 : decode cX11_truthOf 26 = .ok (.iload_n 3, 1) := by decide +kernel
theorem dX11_truthOf_27 : decode cX11_truthOf 27 = .ok (.invokevirtual 397, 3) := by decide +kernel
theorem dX11_truthOf_30 : decode cX11_truthOf 30 = .ok (.iload_n 2, 1) := by decide +kernel
theorem dX11_truthOf_31 : decode cX11_truthOf 31 = .ok (.if_icmp .ge 9, 3) := by decide +kernel
theorem dX11_truthOf_34 : decode cX11_truthOf 34 = .ok (.aload_n 0, 1) := by decide +kernel
theorem dX11_truthOf_35 : decode cX11_truthOf 35 = .ok (.iload_n 3, 1) := by decide +kernel
theorem dX11_truthOf_36 : decode cX11_truthOf 36 = .ok (.invokevirtual 397, 3) := by decide +kernel
theorem dX11_truthOf_39 : decode cX11_truthOf 39 = .ok (.istore_n 2, 1) := by decide +kernel
theorem dX11_truthOf_40 : decode cX11_truthOf 40 = .ok (.iinc 3 1, 3) := by decide +kernel
theorem dX11_truthOf_43 : decode cX11_truthOf 43 = .ok (.goto (-38), 3) := by decide +kernel
theorem dX11_truthOf_46 : decode cX11_truthOf 46 = .ok (.iload_n 2, 1) := by decide +kernel
theorem dX11_truthOf_47 : decode cX11_truthOf 47 = .ok (.ireturn, 1) := by decide +kernel
theorem dX11_truthBy_0 : decode cX11_truthBy 0 = .ok (.iload_n 1, 1) := by decide +kernel
theorem dX11_truthBy_1 : decode cX11_truthBy 1 = .ok (.ifCond .ne 17, 3) := by decide +kernel
theorem dX11_truthBy_4 : decode cX11_truthBy 4 = .ok (.aload_n 0, 1) := by decide +kernel
theorem dX11_truthBy_5 : decode cX11_truthBy 5 = .ok (.getfield 94, 3) := by decide +kernel
theorem dX11_truthBy_8 : decode cX11_truthBy 8 = .ok (.ifCond .lt 10, 3) := by decide +kernel
theorem dX11_truthBy_11 : decode cX11_truthBy 11 = .ok (.aload_n 0, 1) := by decide +kernel
theorem dX11_truthBy_12 : decode cX11_truthBy 12 = .ok (.getfield 94, 3) := by decide +kernel
theorem dX11_truthBy_15 : decode cX11_truthBy 15 = .ok (.goto 16, 3) := by decide +kernel
theorem dX11_truthBy_18 : decode cX11_truthBy 18 = .ok (.aload_n 0, 1) := by decide +kernel
theorem dX11_truthBy_19 : decode cX11_truthBy 19 = .ok (.getfield 54, 3) := by decide +kernel
theorem dX11_truthBy_22 : decode cX11_truthBy 22 = .ok (.iconst 5, 1) := by decide +kernel
theorem dX11_truthBy_23 : decode cX11_truthBy 23 = .ok (.aload_n 0, 1) := by decide +kernel
theorem dX11_truthBy_24 : decode cX11_truthBy 24 = .ok (.getfield 266, 3) := by decide +kernel
theorem dX11_truthBy_27 : decode cX11_truthBy 27 = .ok (.imul, 1) := by decide +kernel
theorem dX11_truthBy_28 : decode cX11_truthBy 28 = .ok (.iload_n 1, 1) := by decide +kernel
theorem dX11_truthBy_29 : decode cX11_truthBy 29 = .ok (.iadd, 1) := by decide +kernel
theorem dX11_truthBy_30 : decode cX11_truthBy 30 = .ok (.iaload, 1) := by decide +kernel
theorem dX11_truthBy_31 : decode cX11_truthBy 31 = .ok (.ireturn, 1) := by decide +kernel
theorem dX11_placeOf_0 : decode cX11_placeOf 0 = .ok (.iconst 0, 1) := by decide +kernel
theorem dX11_placeOf_1 : decode cX11_placeOf 1 = .ok (.istore_n 2, 1) := by decide +kernel
theorem dX11_placeOf_2 : decode cX11_placeOf 2 = .ok (.aload_n 0, 1) := by decide +kernel
theorem dX11_placeOf_3 : decode cX11_placeOf 3 = .ok (.getfield 91, 3) := by decide +kernel
theorem dX11_placeOf_6 : decode cX11_placeOf 6 = .ok (.iconst 0, 1) := by decide +kernel
theorem dX11_placeOf_7 : decode cX11_placeOf 7 = .ok (.iload_n 2, 1) := by decide +kernel
theorem dX11_placeOf_8 : decode cX11_placeOf 8 = .ok (.iadd, 1) := by decide +kernel
theorem dX11_placeOf_9 : decode cX11_placeOf 9 = .ok (.iaload, 1) := by decide +kernel
theorem dX11_placeOf_10 : decode cX11_placeOf 10 = .ok (.iload_n 1, 1) := by decide +kernel
theorem dX11_placeOf_11 : decode cX11_placeOf 11 = .ok (.if_icmp .eq 9, 3) := by decide +kernel
theorem dX11_placeOf_14 : decode cX11_placeOf 14 = .ok (.iinc 2 1, 3) := by decide +kernel
theorem dX11_placeOf_17 : decode cX11_placeOf 17 = .ok (.goto (-15), 3) := by decide +kernel
theorem dX11_placeOf_20 : decode cX11_placeOf 20 = .ok (.iload_n 2, 1) := by decide +kernel
theorem dX11_placeOf_21 : decode cX11_placeOf 21 = .ok (.ireturn, 1) := by decide +kernel
theorem dX11_aheadOf_0 : decode cX11_aheadOf 0 = .ok (.aload_n 0, 1) := by decide +kernel
theorem dX11_aheadOf_1 : decode cX11_aheadOf 1 = .ok (.iload_n 1, 1) := by decide +kernel
theorem dX11_aheadOf_2 : decode cX11_aheadOf 2 = .ok (.invokevirtual 400, 3) := by decide +kernel
theorem dX11_aheadOf_5 : decode cX11_aheadOf 5 = .ok (.iconst 1, 1) := by decide +kernel
theorem dX11_aheadOf_6 : decode cX11_aheadOf 6 = .ok (.isub, 1) := by decide +kernel
theorem dX11_aheadOf_7 : decode cX11_aheadOf 7 = .ok (.istore_n 2, 1) := by decide +kernel
theorem dX11_aheadOf_8 : decode cX11_aheadOf 8 = .ok (.iload_n 2, 1) := by decide +kernel
theorem dX11_aheadOf_9 : decode cX11_aheadOf 9 = .ok (.ifCond .lt 37, 3) := by decide +kernel
theorem dX11_aheadOf_12 : decode cX11_aheadOf 12 = .ok (.aload_n 0, 1) := by decide +kernel
theorem dX11_aheadOf_13 : decode cX11_aheadOf 13 = .ok (.aload_n 0, 1) := by decide +kernel
theorem dX11_aheadOf_14 : decode cX11_aheadOf 14 = .ok (.getfield 91, 3) := by decide +kernel
theorem dX11_aheadOf_17 : decode cX11_aheadOf 17 = .ok (.iconst 0, 1) := by decide +kernel
theorem dX11_aheadOf_18 : decode cX11_aheadOf 18 = .ok (.iload_n 2, 1) := by decide +kernel
theorem dX11_aheadOf_19 : decode cX11_aheadOf 19 = .ok (.iadd, 1) := by decide +kernel
theorem dX11_aheadOf_20 : decode cX11_aheadOf 20 = .ok (.iaload, 1) := by decide +kernel
theorem dX11_aheadOf_21 : decode cX11_aheadOf 21 = .ok (.invokevirtual 403, 3) := by decide +kernel
theorem dX11_aheadOf_24 : decode cX11_aheadOf 24 = .ok (.ifCond .eq 16, 3) := by decide +kernel
theorem dX11_aheadOf_27 : decode cX11_aheadOf 27 = .ok (.aload_n 0, 1) := by decide +kernel
theorem dX11_aheadOf_28 : decode cX11_aheadOf 28 = .ok (.aload_n 0, 1) := by decide +kernel
theorem dX11_aheadOf_29 : decode cX11_aheadOf 29 = .ok (.getfield 91, 3) := by decide +kernel
theorem dX11_aheadOf_32 : decode cX11_aheadOf 32 = .ok (.iconst 0, 1) := by decide +kernel
theorem dX11_aheadOf_33 : decode cX11_aheadOf 33 = .ok (.iload_n 2, 1) := by decide +kernel
theorem dX11_aheadOf_34 : decode cX11_aheadOf 34 = .ok (.iadd, 1) := by decide +kernel
theorem dX11_aheadOf_35 : decode cX11_aheadOf 35 = .ok (.iaload, 1) := by decide +kernel
theorem dX11_aheadOf_36 : decode cX11_aheadOf 36 = .ok (.invokevirtual 406, 3) := by decide +kernel
theorem dX11_aheadOf_39 : decode cX11_aheadOf 39 = .ok (.ireturn, 1) := by decide +kernel
theorem dX11_aheadOf_40 : decode cX11_aheadOf 40 = .ok (.iinc 2 (-1), 3) := by decide +kernel
theorem dX11_aheadOf_43 : decode cX11_aheadOf 43 = .ok (.goto (-35), 3) := by decide +kernel
theorem dX11_aheadOf_46 : decode cX11_aheadOf 46 = .ok (.iconst 0, 1) := by decide +kernel
theorem dX11_aheadOf_47 : decode cX11_aheadOf 47 = .ok (.ireturn, 1) := by decide +kernel
theorem dX11_strainOf_0 : decode cX11_strainOf 0 = .ok (.aload_n 0, 1) := by decide +kernel
theorem dX11_strainOf_1 : decode cX11_strainOf 1 = .ok (.aload_n 0, 1) := by decide +kernel
theorem dX11_strainOf_2 : decode cX11_strainOf 2 = .ok (.getfield 39, 3) := by decide +kernel
theorem dX11_strainOf_5 : decode cX11_strainOf 5 = .ok (.bipush 8, 2) := by decide +kernel
theorem dX11_strainOf_7 : decode cX11_strainOf 7 = .ok (.aload_n 0, 1) := by decide +kernel
theorem dX11_strainOf_8 : decode cX11_strainOf 8 = .ok (.getfield 266, 3) := by decide +kernel
theorem dX11_strainOf_11 : decode cX11_strainOf 11 = .ok (.imul, 1) := by decide +kernel
theorem dX11_strainOf_12 : decode cX11_strainOf 12 = .ok (.aload_n 0, 1) := by decide +kernel
theorem dX11_strainOf_13 : decode cX11_strainOf 13 = .ok (.getfield 91, 3) := by decide +kernel
theorem dX11_strainOf_16 : decode cX11_strainOf 16 = .ok (.bipush 21, 2) := by decide +kernel
theorem dX11_strainOf_18 : decode cX11_strainOf 18 = .ok (.iaload, 1) := by decide +kernel
theorem dX11_strainOf_19 : decode cX11_strainOf 19 = .ok (.iadd, 1) := by decide +kernel
theorem dX11_strainOf_20 : decode cX11_strainOf 20 = .ok (.iaload, 1) := by decide +kernel
theorem dX11_strainOf_21 : decode cX11_strainOf 21 = .ok (.iload_n 2, 1) := by decide +kernel
theorem dX11_strainOf_22 : decode cX11_strainOf 22 = .ok (.iadd, 1) := by decide +kernel
theorem dX11_strainOf_23 : decode cX11_strainOf 23 = .ok (.putfield 338, 3) := by decide +kernel
theorem dX11_strainOf_26 : decode cX11_strainOf 26 = .ok (.aload_n 0, 1) := by decide +kernel
theorem dX11_strainOf_27 : decode cX11_strainOf 27 = .ok (.aload_n 0, 1) := by decide +kernel
theorem dX11_strainOf_28 : decode cX11_strainOf 28 = .ok (.getfield 42, 3) := by decide +kernel
theorem dX11_strainOf_31 : decode cX11_strainOf 31 = .ok (.bipush 8, 2) := by decide +kernel
theorem dX11_strainOf_33 : decode cX11_strainOf 33 = .ok (.aload_n 0, 1) := by decide +kernel
theorem dX11_strainOf_34 : decode cX11_strainOf 34 = .ok (.getfield 266, 3) := by decide +kernel
theorem dX11_strainOf_37 : decode cX11_strainOf 37 = .ok (.imul, 1) := by decide +kernel
theorem dX11_strainOf_38 : decode cX11_strainOf 38 = .ok (.aload_n 0, 1) := by decide +kernel
theorem dX11_strainOf_39 : decode cX11_strainOf 39 = .ok (.getfield 91, 3) := by decide +kernel
theorem dX11_strainOf_42 : decode cX11_strainOf 42 = .ok (.bipush 21, 2) := by decide +kernel
theorem dX11_strainOf_44 : decode cX11_strainOf 44 = .ok (.iaload, 1) := by decide +kernel
theorem dX11_strainOf_45 : decode cX11_strainOf 45 = .ok (.iadd, 1) := by decide +kernel
theorem dX11_strainOf_46 : decode cX11_strainOf 46 = .ok (.iaload, 1) := by decide +kernel
theorem dX11_strainOf_47 : decode cX11_strainOf 47 = .ok (.putfield 341, 3) := by decide +kernel
theorem dX11_strainOf_50 : decode cX11_strainOf 50 = .ok (.aload_n 0, 1) := by decide +kernel
theorem dX11_strainOf_51 : decode cX11_strainOf 51 = .ok (.aload_n 0, 1) := by decide +kernel
theorem dX11_strainOf_52 : decode cX11_strainOf 52 = .ok (.iload_n 1, 1) := by decide +kernel
theorem dX11_strainOf_53 : decode cX11_strainOf 53 = .ok (.invokevirtual 406, 3) := by decide +kernel
theorem dX11_strainOf_56 : decode cX11_strainOf 56 = .ok (.putfield 344, 3) := by decide +kernel
theorem dX11_strainOf_59 : decode cX11_strainOf 59 = .ok (.aload_n 0, 1) := by decide +kernel
theorem dX11_strainOf_60 : decode cX11_strainOf 60 = .ok (.aload_n 0, 1) := by decide +kernel
theorem dX11_strainOf_61 : decode cX11_strainOf 61 = .ok (.iload_n 1, 1) := by decide +kernel
theorem dX11_strainOf_62 : decode cX11_strainOf 62 = .ok (.invokevirtual 409, 3) := by decide +kernel
theorem dX11_strainOf_65 : decode cX11_strainOf 65 = .ok (.putfield 347, 3) := by decide +kernel
theorem dX11_strainOf_68 : decode cX11_strainOf 68 = .ok (.aload_n 0, 1) := by decide +kernel
theorem dX11_strainOf_69 : decode cX11_strainOf 69 = .ok (.aload_n 0, 1) := by decide +kernel
theorem dX11_strainOf_70 : decode cX11_strainOf 70 = .ok (.iload_n 1, 1) := by decide +kernel
theorem dX11_strainOf_71 : decode cX11_strainOf 71 = .ok (.invokevirtual 412, 3) := by decide +kernel
theorem dX11_strainOf_74 : decode cX11_strainOf 74 = .ok (.putfield 350, 3) := by decide +kernel
theorem dX11_strainOf_77 : decode cX11_strainOf 77 = .ok (.aload_n 0, 1) := by decide +kernel
theorem dX11_strainOf_78 : decode cX11_strainOf 78 = .ok (.aload_n 0, 1) := by decide +kernel
theorem dX11_strainOf_79 : decode cX11_strainOf 79 = .ok (.iload_n 1, 1) := by decide +kernel
theorem dX11_strainOf_80 : decode cX11_strainOf 80 = .ok (.invokevirtual 415, 3) := by decide +kernel
theorem dX11_strainOf_83 : decode cX11_strainOf 83 = .ok (.putfield 353, 3) := by decide +kernel
theorem dX11_strainOf_86 : decode cX11_strainOf 86 = .ok (.aload_n 0, 1) := by decide +kernel
theorem dX11_strainOf_87 : decode cX11_strainOf 87 = .ok (.getfield 36, 3) := by decide +kernel
theorem dX11_strainOf_90 : decode cX11_strainOf 90 = .ok (.aload_n 0, 1) := by decide +kernel
theorem dX11_strainOf_91 : decode cX11_strainOf 91 = .ok (.getfield 266, 3) := by decide +kernel
theorem dX11_strainOf_94 : decode cX11_strainOf 94 = .ok (.iaload, 1) := by decide +kernel
theorem dX11_strainOf_95 : decode cX11_strainOf 95 = .ok (.iload_n 3, 1) := by decide +kernel
theorem dX11_strainOf_96 : decode cX11_strainOf 96 = .ok (.invokestatic 272, 3) := by decide +kernel
theorem dX11_strainOf_99 : decode cX11_strainOf 99 = .ok (.ifCond .eq 9, 3) := by decide +kernel
theorem dX11_strainOf_102 : decode cX11_strainOf 102 = .ok (.aload_n 0, 1) := by decide +kernel
theorem dX11_strainOf_103 : decode cX11_strainOf 103 = .ok (.iload_n 3, 1) := by decide +kernel
theorem dX11_strainOf_104 : decode cX11_strainOf 104 = .ok (.invokevirtual 418, 3) := by decide +kernel
theorem dX11_strainOf_107 : decode cX11_strainOf 107 = .ok (.ireturn, 1) := by decide +kernel
theorem dX11_strainOf_108 : decode cX11_strainOf 108 = .ok (.iload_n 3, 1) := by decide +kernel
theorem dX11_strainOf_109 : decode cX11_strainOf 109 = .ok (.ifCond .ne 27, 3) := by decide +kernel
theorem dX11_strainOf_112 : decode cX11_strainOf 112 = .ok (.aload_n 0, 1) := by decide +kernel
theorem dX11_strainOf_113 : decode cX11_strainOf 113 = .ok (.getfield 338, 3) := by decide +kernel
theorem dX11_strainOf_116 : decode cX11_strainOf 116 = .ok (.aload_n 0, 1) := by decide +kernel
theorem dX11_strainOf_117 : decode cX11_strainOf 117 = .ok (.getfield 344, 3) := by decide +kernel
theorem dX11_strainOf_120 : decode cX11_strainOf 120 = .ok (.imul, 1) := by decide +kernel
theorem dX11_strainOf_121 : decode cX11_strainOf 121 = .ok (.iconst 4, 1) := by decide +kernel
theorem dX11_strainOf_122 : decode cX11_strainOf 122 = .ok (.idiv, 1) := by decide +kernel
theorem dX11_strainOf_123 : decode cX11_strainOf 123 = .ok (.aload_n 0, 1) := by decide +kernel
theorem dX11_strainOf_124 : decode cX11_strainOf 124 = .ok (.getfield 341, 3) := by decide +kernel
theorem dX11_strainOf_127 : decode cX11_strainOf 127 = .ok (.isub, 1) := by decide +kernel
theorem dX11_strainOf_128 : decode cX11_strainOf 128 = .ok (.aload_n 0, 1) := by decide +kernel
theorem dX11_strainOf_129 : decode cX11_strainOf 129 = .ok (.getfield 347, 3) := by decide +kernel
theorem dX11_strainOf_132 : decode cX11_strainOf 132 = .ok (.isub, 1) := by decide +kernel
theorem dX11_strainOf_133 : decode cX11_strainOf 133 = .ok (.goto 15, 3) := by decide +kernel
theorem dX11_strainOf_136 : decode cX11_strainOf 136 = .ok (.aload_n 0, 1) := by decide +kernel
theorem dX11_strainOf_137 : decode cX11_strainOf 137 = .ok (.getfield 353, 3) := by decide +kernel
theorem dX11_strainOf_140 : decode cX11_strainOf 140 = .ok (.aload_n 0, 1) := by decide +kernel
theorem dX11_strainOf_141 : decode cX11_strainOf 141 = .ok (.getfield 350, 3) := by decide +kernel
theorem dX11_strainOf_144 : decode cX11_strainOf 144 = .ok (.bipush 10, 2) := by decide +kernel
theorem dX11_strainOf_146 : decode cX11_strainOf 146 = .ok (.idiv, 1) := by decide +kernel
theorem dX11_strainOf_147 : decode cX11_strainOf 147 = .ok (.iadd, 1) := by decide +kernel
theorem dX11_strainOf_148 : decode cX11_strainOf 148 = .ok (.ireturn, 1) := by decide +kernel
theorem dX11_goStep_0 : decode cX11_goStep 0 = .ok (.iconst 0, 1) := by decide +kernel
theorem dX11_goStep_1 : decode cX11_goStep 1 = .ok (.istore_n 2, 1) := by decide +kernel
theorem dX11_goStep_2 : decode cX11_goStep 2 = .ok (.iconst 0, 1) := by decide +kernel
theorem dX11_goStep_3 : decode cX11_goStep 3 = .ok (.istore_n 3, 1) := by decide +kernel
theorem dX11_goStep_4 : decode cX11_goStep 4 = .ok (.iload_n 3, 1) := by decide +kernel
theorem dX11_goStep_5 : decode cX11_goStep 5 = .ok (.aload_n 0, 1) := by decide +kernel
theorem dX11_goStep_6 : decode cX11_goStep 6 = .ok (.invokevirtual 363, 3) := by decide +kernel
theorem dX11_goStep_9 : decode cX11_goStep 9 = .ok (.if_icmp .ge 77, 3) := by decide +kernel
theorem dX11_goStep_12 : decode cX11_goStep 12 = .ok (.aload_n 0, 1) := by decide +kernel
theorem dX11_goStep_13 : decode cX11_goStep 13 = .ok (.getfield 91, 3) := by decide +kernel
theorem dX11_goStep_16 : decode cX11_goStep 16 = .ok (.iconst 0, 1) := by decide +kernel
theorem dX11_goStep_17 : decode cX11_goStep 17 = .ok (.iload_n 3, 1) := by decide +kernel
theorem dX11_goStep_18 : decode cX11_goStep 18 = .ok (.iadd, 1) := by decide +kernel
theorem dX11_goStep_19 : decode cX11_goStep 19 = .ok (.iaload, 1) := by decide +kernel
theorem dX11_goStep_20 : decode cX11_goStep 20 = .ok (.istore 4, 2) := by decide +kernel
theorem dX11_goStep_22 : decode cX11_goStep 22 = .ok (.aload_n 0, 1) := by decide +kernel
theorem dX11_goStep_23 : decode cX11_goStep 23 = .ok (.iload 4, 2) := by decide +kernel
theorem dX11_goStep_25 : decode cX11_goStep 25 = .ok (.invokevirtual 403, 3) := by decide +kernel
theorem dX11_goStep_28 : decode cX11_goStep 28 = .ok (.ifCond .eq 52, 3) := by decide +kernel
theorem dX11_goStep_31 : decode cX11_goStep 31 = .ok (.aload_n 0, 1) := by decide +kernel
theorem dX11_goStep_32 : decode cX11_goStep 32 = .ok (.iload 4, 2) := by decide +kernel
theorem dX11_goStep_34 : decode cX11_goStep 34 = .ok (.iload_n 1, 1) := by decide +kernel
theorem dX11_goStep_35 : decode cX11_goStep 35 = .ok (.iconst 0, 1) := by decide +kernel
theorem dX11_goStep_36 : decode cX11_goStep 36 = .ok (.invokevirtual 421, 3) := by decide +kernel
theorem dX11_goStep_39 : decode cX11_goStep 39 = .ok (.aload_n 0, 1) := by decide +kernel
theorem dX11_goStep_40 : decode cX11_goStep 40 = .ok (.iload 4, 2) := by decide +kernel
theorem dX11_goStep_42 : decode cX11_goStep 42 = .ok (.iload_n 1, 1) := by decide +kernel
theorem dX11_goStep_43 : decode cX11_goStep 43 = .ok (.iconst 1, 1) := by decide +kernel
theorem dX11_goStep_44 : decode cX11_goStep 44 = .ok (.invokevirtual 421, 3) := by decide +kernel
theorem dX11_goStep_47 : decode cX11_goStep 47 = .ok (.if_icmp .gt 6, 3) := by decide +kernel
theorem dX11_goStep_50 : decode cX11_goStep 50 = .ok (.goto 30, 3) := by decide +kernel
theorem dX11_goStep_53 : decode cX11_goStep 53 = .ok (.iload_n 2, 1) := by decide +kernel
theorem dX11_goStep_54 : decode cX11_goStep 54 = .ok (.aload_n 0, 1) := by decide +kernel
theorem dX11_goStep_55 : decode cX11_goStep 55 = .ok (.iload 4, 2) := by decide +kernel
theorem dX11_goStep_57 : decode cX11_goStep 57 = .ok (.invokevirtual 394, 3) := by decide +kernel
theorem dX11_goStep_60 : decode cX11_goStep 60 = .ok (.ior, 1) := by decide +kernel
theorem dX11_goStep_61 : decode cX11_goStep 61 = .ok (.istore_n 2, 1) := by decide +kernel
theorem dX11_goStep_62 : decode cX11_goStep 62 = .ok (.aload_n 0, 1) := by decide +kernel
theorem dX11_goStep_63 : decode cX11_goStep 63 = .ok (.getfield 91, 3) := by decide +kernel
theorem dX11_goStep_66 : decode cX11_goStep 66 = .ok (.bipush 20, 2) := by decide +kernel
theorem dX11_goStep_68 : decode cX11_goStep 68 = .ok (.dup2, 1) := by decide +kernel
theorem dX11_goStep_69 : decode cX11_goStep 69 = .ok (.iaload, 1) := by decide +kernel
theorem dX11_goStep_70 : decode cX11_goStep 70 = .ok (.aload_n 0, 1) := by decide +kernel
theorem dX11_goStep_71 : decode cX11_goStep 71 = .ok (.iload 4, 2) := by decide +kernel
theorem dX11_goStep_73 : decode cX11_goStep 73 = .ok (.invokevirtual 394, 3) := by decide +kernel
theorem dX11_goStep_76 : decode cX11_goStep 76 = .ok (.iconst (-1), 1) := by decide +kernel
theorem dX11_goStep_77 : decode cX11_goStep 77 = .ok (.ixor, 1) := by decide +kernel
theorem dX11_goStep_78 : decode cX11_goStep 78 = .ok (.iand, 1) := by decide +kernel
theorem dX11_goStep_79 : decode cX11_goStep 79 = .ok (.iastore, 1) := by decide +kernel
theorem dX11_goStep_80 : decode cX11_goStep 80 = .ok (.iinc 3 1, 3) := by decide +kernel
theorem dX11_goStep_83 : decode cX11_goStep 83 = .ok (.goto (-79), 3) := by decide +kernel
theorem dX11_goStep_86 : decode cX11_goStep 86 = .ok (.aload_n 0, 1) := by decide +kernel
theorem dX11_goStep_87 : decode cX11_goStep 87 = .ok (.getfield 91, 3) := by decide +kernel
theorem dX11_goStep_90 : decode cX11_goStep 90 = .ok (.bipush 21, 2) := by decide +kernel
theorem dX11_goStep_92 : decode cX11_goStep 92 = .ok (.dup2, 1) := by decide +kernel
theorem dX11_goStep_93 : decode cX11_goStep 93 = .ok (.iaload, 1) := by decide +kernel
theorem dX11_goStep_94 : decode cX11_goStep 94 = .ok (.iconst 1, 1) := by decide +kernel
theorem dX11_goStep_95 : decode cX11_goStep 95 = .ok (.iadd, 1) := by decide +kernel
theorem dX11_goStep_96 : decode cX11_goStep 96 = .ok (.iastore, 1) := by decide +kernel
theorem dX11_goStep_97 : decode cX11_goStep 97 = .ok (.iload_n 2, 1) := by decide +kernel
theorem dX11_goStep_98 : decode cX11_goStep 98 = .ok (.ireturn, 1) := by decide +kernel
theorem dX11_goInEarnest_0 : decode cX11_goInEarnest 0 = .ok (.bipush 8, 2) := by decide +kernel
theorem dX11_goInEarnest_2 : decode cX11_goInEarnest 2 = .ok (.aload_n 0, 1) := by decide +kernel
theorem dX11_goInEarnest_3 : decode cX11_goInEarnest 3 = .ok (.getfield 266, 3) := by decide +kernel
theorem dX11_goInEarnest_6 : decode cX11_goInEarnest 6 = .ok (.imul, 1) := by decide +kernel
theorem dX11_goInEarnest_7 : decode cX11_goInEarnest 7 = .ok (.aload_n 0, 1) := by decide +kernel
theorem dX11_goInEarnest_8 : decode cX11_goInEarnest 8 = .ok (.getfield 91, 3) := by decide +kernel
theorem dX11_goInEarnest_11 : decode cX11_goInEarnest 11 = .ok (.bipush 21, 2) := by decide +kernel
theorem dX11_goInEarnest_13 : decode cX11_goInEarnest 13 = .ok (.iaload, 1) := by decide +kernel
theorem dX11_goInEarnest_14 : decode cX11_goInEarnest 14 = .ok (.iadd, 1) := by decide +kernel
theorem dX11_goInEarnest_15 : decode cX11_goInEarnest 15 = .ok (.istore_n 1, 1) := by decide +kernel
theorem dX11_goInEarnest_16 : decode cX11_goInEarnest 16 = .ok (.iconst 0, 1) := by decide +kernel
theorem dX11_goInEarnest_17 : decode cX11_goInEarnest 17 = .ok (.istore_n 2, 1) := by decide +kernel
theorem dX11_goInEarnest_18 : decode cX11_goInEarnest 18 = .ok (.aload_n 0, 1) := by decide +kernel
theorem dX11_goInEarnest_19 : decode cX11_goInEarnest 19 = .ok (.getfield 48, 3) := by decide +kernel
theorem dX11_goInEarnest_22 : decode cX11_goInEarnest 22 = .ok (.iload_n 1, 1) := by decide +kernel
theorem dX11_goInEarnest_23 : decode cX11_goInEarnest 23 = .ok (.iaload, 1) := by decide +kernel
theorem dX11_goInEarnest_24 : decode cX11_goInEarnest 24 = .ok (.ifCond .le 58, 3) := by decide +kernel
theorem dX11_goInEarnest_27 : decode cX11_goInEarnest 27 = .ok (.aload_n 0, 1) := by decide +kernel
theorem dX11_goInEarnest_28 : decode cX11_goInEarnest 28 = .ok (.getfield 91, 3) := by decide +kernel
theorem dX11_goInEarnest_31 : decode cX11_goInEarnest 31 = .ok (.bipush 23, 2) := by decide +kernel
theorem dX11_goInEarnest_33 : decode cX11_goInEarnest 33 = .ok (.sipush 137, 3) := by decide +kernel
theorem dX11_goInEarnest_36 : decode cX11_goInEarnest 36 = .ok (.aload_n 0, 1) := by decide +kernel
theorem dX11_goInEarnest_37 : decode cX11_goInEarnest 37 = .ok (.getfield 91, 3) := by decide +kernel
theorem dX11_goInEarnest_40 : decode cX11_goInEarnest 40 = .ok (.bipush 23, 2) := by decide +kernel
theorem dX11_goInEarnest_42 : decode cX11_goInEarnest 42 = .ok (.iaload, 1) := by decide +kernel
theorem dX11_goInEarnest_43 : decode cX11_goInEarnest 43 = .ok (.imul, 1) := by decide +kernel
theorem dX11_goInEarnest_44 : decode cX11_goInEarnest 44 = .ok (.bipush 71, 2) := by decide +kernel
theorem dX11_goInEarnest_46 : decode cX11_goInEarnest 46 = .ok (.iadd, 1) := by decide +kernel
theorem dX11_goInEarnest_47 : decode cX11_goInEarnest 47 = .ok (.sipush 1000, 3) := by decide +kernel
theorem dX11_goInEarnest_50 : decode cX11_goInEarnest 50 = .ok (.irem, 1) := by decide +kernel
theorem dX11_goInEarnest_51 : decode cX11_goInEarnest 51 = .ok (.iastore, 1) := by decide +kernel
theorem dX11_goInEarnest_52 : decode cX11_goInEarnest 52 = .ok (.aload_n 0, 1) := by decide +kernel
theorem dX11_goInEarnest_53 : decode cX11_goInEarnest 53 = .ok (.getfield 91, 3) := by decide +kernel
theorem dX11_goInEarnest_56 : decode cX11_goInEarnest 56 = .ok (.bipush 23, 2) := by decide +kernel
theorem dX11_goInEarnest_58 : decode cX11_goInEarnest 58 = .ok (.iaload, 1) := by decide +kernel
theorem dX11_goInEarnest_59 : decode cX11_goInEarnest 59 = .ok (.bipush 100, 2) := by decide +kernel
theorem dX11_goInEarnest_61 : decode cX11_goInEarnest 61 = .ok (.irem, 1) := by decide +kernel
theorem dX11_goInEarnest_62 : decode cX11_goInEarnest 62 = .ok (.aload_n 0, 1) := by decide +kernel
theorem dX11_goInEarnest_63 : decode cX11_goInEarnest 63 = .ok (.getfield 45, 3) := by decide +kernel
theorem dX11_goInEarnest_66 : decode cX11_goInEarnest 66 = .ok (.iload_n 1, 1) := by decide +kernel
theorem dX11_goInEarnest_67 : decode cX11_goInEarnest 67 = .ok (.iaload, 1) := by decide +kernel
theorem dX11_goInEarnest_68 : decode cX11_goInEarnest 68 = .ok (.if_icmp .ge 12, 3) := by decide +kernel
theorem dX11_goInEarnest_71 : decode cX11_goInEarnest 71 = .ok (.aload_n 0, 1) := by decide +kernel
theorem dX11_goInEarnest_72 : decode cX11_goInEarnest 72 = .ok (.getfield 48, 3) := by decide +kernel
theorem dX11_goInEarnest_75 : decode cX11_goInEarnest 75 = .ok (.iload_n 1, 1) := by decide +kernel
theorem dX11_goInEarnest_76 : decode cX11_goInEarnest 76 = .ok (.iaload, 1) := by decide +kernel
theorem dX11_goInEarnest_77 : decode cX11_goInEarnest 77 = .ok (.goto 4, 3) := by decide +kernel
theorem dX11_goInEarnest_80 : decode cX11_goInEarnest 80 = .ok (.iconst 0, 1) := by decide +kernel
theorem dX11_goInEarnest_81 : decode cX11_goInEarnest 81 = .ok (.istore_n 2, 1) := by decide +kernel
theorem dX11_goInEarnest_82 : decode cX11_goInEarnest 82 = .ok (.aload_n 0, 1) := by decide +kernel
theorem dX11_goInEarnest_83 : decode cX11_goInEarnest 83 = .ok (.iload_n 2, 1) := by decide +kernel
theorem dX11_goInEarnest_84 : decode cX11_goInEarnest 84 = .ok (.invokevirtual 424, 3) := by decide +kernel
theorem dX11_goInEarnest_87 : decode cX11_goInEarnest 87 = .ok (.ireturn, 1) := by decide +kernel
theorem dX11_guild_0 : decode cX11_guild 0 = .ok (.aload_n 0, 1) := by decide +kernel
theorem dX11_guild_1 : decode cX11_guild 1 = .ok (.iload_n 1, 1) := by decide +kernel
theorem dX11_guild_2 : decode cX11_guild 2 = .ok (.invokevirtual 370, 3) := by decide +kernel
theorem dX11_guild_5 : decode cX11_guild 5 = .ok (.ifCond .ne 6, 3) := by decide +kernel
theorem dX11_guild_8 : decode cX11_guild 8 = .ok (.bipush (-2), 2) := by decide +kernel
theorem dX11_guild_10 : decode cX11_guild 10 = .ok (.ireturn, 1) := by decide +kernel
theorem dX11_guild_11 : decode cX11_guild 11 = .ok (.iload_n 2, 1) := by decide +kernel
theorem dX11_guild_12 : decode cX11_guild 12 = .ok (.tableswitch 179 0 10 #[60, 74, 88, 102, 111, 121, 133, 143, 149, 159, 169], 60) := by decide +kernel
theorem dX11_guild_72 : decode cX11_guild 72 = .ok (.aload_n 0, 1) := by decide +kernel
theorem dX11_guild_73 : decode cX11_guild 73 = .ok (.getfield 51, 3) := by decide +kernel
theorem dX11_guild_76 : decode cX11_guild 76 = .ok (.iconst 5, 1) := by decide +kernel
theorem dX11_guild_77 : decode cX11_guild 77 = .ok (.aload_n 0, 1) := by decide +kernel
theorem dX11_guild_78 : decode cX11_guild 78 = .ok (.getfield 266, 3) := by decide +kernel
theorem dX11_guild_81 : decode cX11_guild 81 = .ok (.imul, 1) := by decide +kernel
theorem dX11_guild_82 : decode cX11_guild 82 = .ok (.iload_n 1, 1) := by decide +kernel
theorem dX11_guild_83 : decode cX11_guild 83 = .ok (.iadd, 1) := by decide +kernel
theorem dX11_guild_84 : decode cX11_guild 84 = .ok (.iaload, 1) := by decide +kernel
theorem dX11_guild_85 : decode cX11_guild 85 = .ok (.ireturn, 1) := by decide +kernel
theorem dX11_guild_86 : decode cX11_guild 86 = .ok (.aload_n 0, 1) := by decide +kernel
theorem dX11_guild_87 : decode cX11_guild 87 = .ok (.getfield 54, 3) := by decide +kernel
theorem dX11_guild_90 : decode cX11_guild 90 = .ok (.iconst 5, 1) := by decide +kernel
theorem dX11_guild_91 : decode cX11_guild 91 = .ok (.aload_n 0, 1) := by decide +kernel
theorem dX11_guild_92 : decode cX11_guild 92 = .ok (.getfield 266, 3) := by decide +kernel
theorem dX11_guild_95 : decode cX11_guild 95 = .ok (.imul, 1) := by decide +kernel
theorem dX11_guild_96 : decode cX11_guild 96 = .ok (.iload_n 1, 1) := by decide +kernel
theorem dX11_guild_97 : decode cX11_guild 97 = .ok (.iadd, 1) := by decide +kernel
theorem dX11_guild_98 : decode cX11_guild 98 = .ok (.iaload, 1) := by decide +kernel
theorem dX11_guild_99 : decode cX11_guild 99 = .ok (.ireturn, 1) := by decide +kernel
theorem dX11_guild_100 : decode cX11_guild 100 = .ok (.aload_n 0, 1) := by decide +kernel
theorem dX11_guild_101 : decode cX11_guild 101 = .ok (.getfield 57, 3) := by decide +kernel
theorem dX11_guild_104 : decode cX11_guild 104 = .ok (.iconst 5, 1) := by decide +kernel
theorem dX11_guild_105 : decode cX11_guild 105 = .ok (.aload_n 0, 1) := by decide +kernel
theorem dX11_guild_106 : decode cX11_guild 106 = .ok (.getfield 266, 3) := by decide +kernel
theorem dX11_guild_109 : decode cX11_guild 109 = .ok (.imul, 1) := by decide +kernel
theorem dX11_guild_110 : decode cX11_guild 110 = .ok (.iload_n 1, 1) := by decide +kernel
theorem dX11_guild_111 : decode cX11_guild 111 = .ok (.iadd, 1) := by decide +kernel
theorem dX11_guild_112 : decode cX11_guild 112 = .ok (.iaload, 1) := by decide +kernel
theorem dX11_guild_113 : decode cX11_guild 113 = .ok (.ireturn, 1) := by decide +kernel
theorem dX11_guild_114 : decode cX11_guild 114 = .ok (.aload_n 0, 1) := by decide +kernel
theorem dX11_guild_115 : decode cX11_guild 115 = .ok (.getfield 91, 3) := by decide +kernel
theorem dX11_guild_118 : decode cX11_guild 118 = .ok (.iconst 5, 1) := by decide +kernel
theorem dX11_guild_119 : decode cX11_guild 119 = .ok (.iload_n 1, 1) := by decide +kernel
theorem dX11_guild_120 : decode cX11_guild 120 = .ok (.iadd, 1) := by decide +kernel
theorem dX11_guild_121 : decode cX11_guild 121 = .ok (.iaload, 1) := by decide +kernel
theorem dX11_guild_122 : decode cX11_guild 122 = .ok (.ireturn, 1) := by decide +kernel
theorem dX11_guild_123 : decode cX11_guild 123 = .ok (.aload_n 0, 1) := by decide +kernel
theorem dX11_guild_124 : decode cX11_guild 124 = .ok (.getfield 91, 3) := by decide +kernel
theorem dX11_guild_127 : decode cX11_guild 127 = .ok (.bipush 10, 2) := by decide +kernel
theorem dX11_guild_129 : decode cX11_guild 129 = .ok (.iload_n 1, 1) := by decide +kernel
theorem dX11_guild_130 : decode cX11_guild 130 = .ok (.iadd, 1) := by decide +kernel
theorem dX11_guild_131 : decode cX11_guild 131 = .ok (.iaload, 1) := by decide +kernel
theorem dX11_guild_132 : decode cX11_guild 132 = .ok (.ireturn, 1) := by decide +kernel
theorem dX11_guild_133 : decode cX11_guild 133 = .ok (.aload_n 0, 1) := by decide +kernel
theorem dX11_guild_134 : decode cX11_guild 134 = .ok (.getfield 91, 3) := by decide +kernel
theorem dX11_guild_137 : decode cX11_guild 137 = .ok (.bipush 20, 2) := by decide +kernel
theorem dX11_guild_139 : decode cX11_guild 139 = .ok (.iaload, 1) := by decide +kernel
theorem dX11_guild_140 : decode cX11_guild 140 = .ok (.iload_n 1, 1) := by decide +kernel
theorem dX11_guild_141 : decode cX11_guild 141 = .ok (.ishr, 1) := by decide +kernel
theorem dX11_guild_142 : decode cX11_guild 142 = .ok (.iconst 1, 1) := by decide +kernel
theorem dX11_guild_143 : decode cX11_guild 143 = .ok (.iand, 1) := by decide +kernel
theorem dX11_guild_144 : decode cX11_guild 144 = .ok (.ireturn, 1) := by decide +kernel
theorem dX11_guild_145 : decode cX11_guild 145 = .ok (.aload_n 0, 1) := by decide +kernel
theorem dX11_guild_146 : decode cX11_guild 146 = .ok (.getfield 91, 3) := by decide +kernel
theorem dX11_guild_149 : decode cX11_guild 149 = .ok (.bipush 15, 2) := by decide +kernel
theorem dX11_guild_151 : decode cX11_guild 151 = .ok (.iload_n 1, 1) := by decide +kernel
theorem dX11_guild_152 : decode cX11_guild 152 = .ok (.iadd, 1) := by decide +kernel
theorem dX11_guild_153 : decode cX11_guild 153 = .ok (.iaload, 1) := by decide +kernel
theorem dX11_guild_154 : decode cX11_guild 154 = .ok (.ireturn, 1) := by decide +kernel
theorem dX11_guild_155 : decode cX11_guild 155 = .ok (.aload_n 0, 1) := by decide +kernel
theorem dX11_guild_156 : decode cX11_guild 156 = .ok (.iload_n 1, 1) := by decide +kernel
theorem dX11_guild_157 : decode cX11_guild 157 = .ok (.invokevirtual 400, 3) := by decide +kernel
theorem dX11_guild_160 : decode cX11_guild 160 = .ok (.ireturn, 1) := by decide +kernel
theorem dX11_guild_161 : decode cX11_guild 161 = .ok (.aload_n 0, 1) := by decide +kernel
theorem dX11_guild_162 : decode cX11_guild 162 = .ok (.aload_n 0, 1) := by decide +kernel
theorem dX11_guild_163 : decode cX11_guild 163 = .ok (.iload_n 1, 1) := by decide +kernel
theorem dX11_guild_164 : decode cX11_guild 164 = .ok (.invokevirtual 427, 3) := by decide +kernel
theorem dX11_guild_167 : decode cX11_guild 167 = .ok (.invokevirtual 406, 3) := by decide +kernel
theorem dX11_guild_170 : decode cX11_guild 170 = .ok (.ireturn, 1) := by decide +kernel
theorem dX11_guild_171 : decode cX11_guild 171 = .ok (.aload_n 0, 1) := by decide +kernel
theorem dX11_guild_172 : decode cX11_guild 172 = .ok (.aload_n 0, 1) := by decide +kernel
theorem dX11_guild_173 : decode cX11_guild 173 = .ok (.iload_n 1, 1) := by decide +kernel
theorem dX11_guild_174 : decode cX11_guild 174 = .ok (.invokevirtual 427, 3) := by decide +kernel
theorem dX11_guild_177 : decode cX11_guild 177 = .ok (.invokevirtual 415, 3) := by decide +kernel
theorem dX11_guild_180 : decode cX11_guild 180 = .ok (.ireturn, 1) := by decide +kernel
theorem dX11_guild_181 : decode cX11_guild 181 = .ok (.aload_n 0, 1) := by decide +kernel
theorem dX11_guild_182 : decode cX11_guild 182 = .ok (.aload_n 0, 1) := by decide +kernel
theorem dX11_guild_183 : decode cX11_guild 183 = .ok (.iload_n 1, 1) := by decide +kernel
theorem dX11_guild_184 : decode cX11_guild 184 = .ok (.invokevirtual 427, 3) := by decide +kernel
theorem dX11_guild_187 : decode cX11_guild 187 = .ok (.invokevirtual 412, 3) := by decide +kernel
theorem dX11_guild_190 : decode cX11_guild 190 = .ok (.ireturn, 1) := by decide +kernel
theorem dX11_guild_191 : decode cX11_guild 191 = .ok (.bipush (-2), 2) := by decide +kernel
theorem dX11_guild_193 : decode cX11_guild 193 = .ok (.ireturn, 1) := by decide +kernel
theorem dX11_corner_0 : decode cX11_corner 0 = .ok (.iload_n 1, 1) := by decide +kernel
theorem dX11_corner_1 : decode cX11_corner 1 = .ok (.iconst 0, 1) := by decide +kernel
theorem dX11_corner_2 : decode cX11_corner 2 = .ok (.aload_n 0, 1) := by decide +kernel
theorem dX11_corner_3 : decode cX11_corner 3 = .ok (.invokevirtual 430, 3) := by decide +kernel
theorem dX11_corner_6 : decode cX11_corner 6 = .ok (.iconst 1, 1) := by decide +kernel
theorem dX11_corner_7 : decode cX11_corner 7 = .ok (.isub, 1) := by decide +kernel
theorem dX11_corner_8 : decode cX11_corner 8 = .ok (.invokestatic 366, 3) := by decide +kernel
theorem dX11_corner_11 : decode cX11_corner 11 = .ok (.ifCond .ne 5, 3) := by decide +kernel
theorem dX11_corner_14 : decode cX11_corner 14 = .ok (.iconst (-1), 1) := by decide +kernel
theorem dX11_corner_15 : decode cX11_corner 15 = .ok (.ireturn, 1) := by decide +kernel
theorem dX11_corner_16 : decode cX11_corner 16 = .ok (.iload_n 2, 1) := by decide +kernel
theorem dX11_corner_17 : decode cX11_corner 17 = .ok (.tableswitch 91 0 3 #[31, 46, 61, 76], 31) := by decide +kernel
theorem dX11_corner_48 : decode cX11_corner 48 = .ok (.aload_n 0, 1) := by decide +kernel
theorem dX11_corner_49 : decode cX11_corner 49 = .ok (.getfield 39, 3) := by decide +kernel
theorem dX11_corner_52 : decode cX11_corner 52 = .ok (.bipush 8, 2) := by decide +kernel
theorem dX11_corner_54 : decode cX11_corner 54 = .ok (.aload_n 0, 1) := by decide +kernel
theorem dX11_corner_55 : decode cX11_corner 55 = .ok (.getfield 266, 3) := by decide +kernel
theorem dX11_corner_58 : decode cX11_corner 58 = .ok (.imul, 1) := by decide +kernel
theorem dX11_corner_59 : decode cX11_corner 59 = .ok (.iload_n 1, 1) := by decide +kernel
theorem dX11_corner_60 : decode cX11_corner 60 = .ok (.iadd, 1) := by decide +kernel
theorem dX11_corner_61 : decode cX11_corner 61 = .ok (.iaload, 1) := by decide +kernel
theorem dX11_corner_62 : decode cX11_corner 62 = .ok (.ireturn, 1) := by decide +kernel
theorem dX11_corner_63 : decode cX11_corner 63 = .ok (.aload_n 0, 1) := by decide +kernel
theorem dX11_corner_64 : decode cX11_corner 64 = .ok (.getfield 42, 3) := by decide +kernel
theorem dX11_corner_67 : decode cX11_corner 67 = .ok (.bipush 8, 2) := by decide +kernel
theorem dX11_corner_69 : decode cX11_corner 69 = .ok (.aload_n 0, 1) := by decide +kernel
theorem dX11_corner_70 : decode cX11_corner 70 = .ok (.getfield 266, 3) := by decide +kernel
theorem dX11_corner_73 : decode cX11_corner 73 = .ok (.imul, 1) := by decide +kernel
theorem dX11_corner_74 : decode cX11_corner 74 = .ok (.iload_n 1, 1) := by decide +kernel
theorem dX11_corner_75 : decode cX11_corner 75 = .ok (.iadd, 1) := by decide +kernel
theorem dX11_corner_76 : decode cX11_corner 76 = .ok (.iaload, 1) := by decide +kernel
theorem dX11_corner_77 : decode cX11_corner 77 = .ok (.ireturn, 1) := by decide +kernel
theorem dX11_corner_78 : decode cX11_corner 78 = .ok (.aload_n 0, 1) := by decide +kernel
theorem dX11_corner_79 : decode cX11_corner 79 = .ok (.getfield 45, 3) := by decide +kernel
theorem dX11_corner_82 : decode cX11_corner 82 = .ok (.bipush 8, 2) := by decide +kernel
theorem dX11_corner_84 : decode cX11_corner 84 = .ok (.aload_n 0, 1) := by decide +kernel
theorem dX11_corner_85 : decode cX11_corner 85 = .ok (.getfield 266, 3) := by decide +kernel
theorem dX11_corner_88 : decode cX11_corner 88 = .ok (.imul, 1) := by decide +kernel
theorem dX11_corner_89 : decode cX11_corner 89 = .ok (.iload_n 1, 1) := by decide +kernel
theorem dX11_corner_90 : decode cX11_corner 90 = .ok (.iadd, 1) := by decide +kernel
theorem dX11_corner_91 : decode cX11_corner 91 = .ok (.iaload, 1) := by decide +kernel
theorem dX11_corner_92 : decode cX11_corner 92 = .ok (.ireturn, 1) := by decide +kernel
theorem dX11_corner_93 : decode cX11_corner 93 = .ok (.aload_n 0, 1) := by decide +kernel
theorem dX11_corner_94 : decode cX11_corner 94 = .ok (.getfield 48, 3) := by decide +kernel
theorem dX11_corner_97 : decode cX11_corner 97 = .ok (.bipush 8, 2) := by decide +kernel
theorem dX11_corner_99 : decode cX11_corner 99 = .ok (.aload_n 0, 1) := by decide +kernel
theorem dX11_corner_100 : decode cX11_corner 100 = .ok (.getfield 266, 3) := by decide +kernel
theorem dX11_corner_103 : decode cX11_corner 103 = .ok (.imul, 1) := by decide +kernel
theorem dX11_corner_104 : decode cX11_corner 104 = .ok (.iload_n 1, 1) := by decide +kernel
theorem dX11_corner_105 : decode cX11_corner 105 = .ok (.iadd, 1) := by decide +kernel
theorem dX11_corner_106 : decode cX11_corner 106 = .ok (.iaload, 1) := by decide +kernel
theorem dX11_corner_107 : decode cX11_corner 107 = .ok (.ireturn, 1) := by decide +kernel
theorem dX11_corner_108 : decode cX11_corner 108 = .ok (.iconst (-1), 1) := by decide +kernel
theorem dX11_corner_109 : decode cX11_corner 109 = .ok (.ireturn, 1) := by decide +kernel
theorem dX11_place_0 : decode cX11_place 0 = .ok (.aload_n 0, 1) := by decide +kernel
theorem dX11_place_1 : decode cX11_place 1 = .ok (.iload_n 1, 1) := by decide +kernel
theorem dX11_place_2 : decode cX11_place 2 = .ok (.invokevirtual 370, 3) := by decide +kernel
theorem dX11_place_5 : decode cX11_place 5 = .ok (.ifCond .eq 14, 3) := by decide +kernel
theorem dX11_place_8 : decode cX11_place 8 = .ok (.aload_n 0, 1) := by decide +kernel
theorem dX11_place_9 : decode cX11_place 9 = .ok (.getfield 91, 3) := by decide +kernel
theorem dX11_place_12 : decode cX11_place 12 = .ok (.iconst 0, 1) := by decide +kernel
theorem dX11_place_13 : decode cX11_place 13 = .ok (.iload_n 1, 1) := by decide +kernel
theorem dX11_place_14 : decode cX11_place 14 = .ok (.iadd, 1) := by decide +kernel
theorem dX11_place_15 : decode cX11_place 15 = .ok (.iaload, 1) := by decide +kernel
theorem dX11_place_16 : decode cX11_place 16 = .ok (.goto 4, 3) := by decide +kernel
theorem dX11_place_19 : decode cX11_place 19 = .ok (.iconst (-1), 1) := by decide +kernel
theorem dX11_place_20 : decode cX11_place 20 = .ok (.ireturn, 1) := by decide +kernel
theorem dX11_strain_0 : decode cX11_strain 0 = .ok (.aload_n 0, 1) := by decide +kernel
theorem dX11_strain_1 : decode cX11_strain 1 = .ok (.iload_n 1, 1) := by decide +kernel
theorem dX11_strain_2 : decode cX11_strain 2 = .ok (.invokevirtual 403, 3) := by decide +kernel
theorem dX11_strain_5 : decode cX11_strain 5 = .ok (.ifCond .eq 36, 3) := by decide +kernel
theorem dX11_strain_8 : decode cX11_strain 8 = .ok (.iload_n 2, 1) := by decide +kernel
theorem dX11_strain_9 : decode cX11_strain 9 = .ok (.iconst 0, 1) := by decide +kernel
theorem dX11_strain_10 : decode cX11_strain 10 = .ok (.iconst 1, 1) := by decide +kernel
theorem dX11_strain_11 : decode cX11_strain 11 = .ok (.invokestatic 366, 3) := by decide +kernel
theorem dX11_strain_14 : decode cX11_strain 14 = .ok (.ifCond .eq 27, 3) := by decide +kernel
theorem dX11_strain_17 : decode cX11_strain 17 = .ok (.aload_n 0, 1) := by decide +kernel
theorem dX11_strain_18 : decode cX11_strain 18 = .ok (.getfield 91, 3) := by decide +kernel
theorem dX11_strain_21 : decode cX11_strain 21 = .ok (.bipush 21, 2) := by decide +kernel
theorem dX11_strain_23 : decode cX11_strain 23 = .ok (.iaload, 1) := by decide +kernel
theorem dX11_strain_24 : decode cX11_strain 24 = .ok (.aload_n 0, 1) := by decide +kernel
theorem dX11_strain_25 : decode cX11_strain 25 = .ok (.invokevirtual 430, 3) := by decide +kernel
theorem dX11_strain_28 : decode cX11_strain 28 = .ok (.if_icmp .ge 13, 3) := by decide +kernel
theorem dX11_strain_31 : decode cX11_strain 31 = .ok (.aload_n 0, 1) := by decide +kernel
theorem dX11_strain_32 : decode cX11_strain 32 = .ok (.iload_n 1, 1) := by decide +kernel
theorem dX11_strain_33 : decode cX11_strain 33 = .ok (.iconst 0, 1) := by decide +kernel
theorem dX11_strain_34 : decode cX11_strain 34 = .ok (.iload_n 2, 1) := by decide +kernel
theorem dX11_strain_35 : decode cX11_strain 35 = .ok (.invokevirtual 421, 3) := by decide +kernel
theorem dX11_strain_38 : decode cX11_strain 38 = .ok (.goto 6, 3) := by decide +kernel
theorem dX11_strain_41 : decode cX11_strain 41 = .ok (.ldc_w 433, 3) := by decide +kernel
theorem dX11_strain_44 : decode cX11_strain 44 = .ok (.ireturn, 1) := by decide +kernel
theorem dX11_narrow_0 : decode cX11_narrow 0 = .ok (.iconst 0, 1) := by decide +kernel
theorem dX11_narrow_1 : decode cX11_narrow 1 = .ok (.istore_n 1, 1) := by decide +kernel
theorem dX11_narrow_2 : decode cX11_narrow 2 = .ok (.iconst 0, 1) := by decide +kernel
theorem dX11_narrow_3 : decode cX11_narrow 3 = .ok (.istore_n 2, 1) := by decide +kernel
theorem dX11_narrow_4 : decode cX11_narrow 4 = .ok (.iload_n 2, 1) := by decide +kernel
theorem dX11_narrow_5 : decode cX11_narrow 5 = .ok (.aload_n 0, 1) := by decide +kernel
theorem dX11_narrow_6 : decode cX11_narrow 6 = .ok (.invokevirtual 363, 3) := by decide +kernel
theorem dX11_narrow_9 : decode cX11_narrow 9 = .ok (.if_icmp .ge 60, 3) := by decide +kernel
theorem dX11_narrow_12 : decode cX11_narrow 12 = .ok (.aload_n 0, 1) := by decide +kernel
theorem dX11_narrow_13 : decode cX11_narrow 13 = .ok (.getfield 91, 3) := by decide +kernel
theorem dX11_narrow_16 : decode cX11_narrow 16 = .ok (.bipush 21, 2) := by decide +kernel
theorem dX11_narrow_18 : decode cX11_narrow 18 = .ok (.iaload, 1) := by decide +kernel
theorem dX11_narrow_19 : decode cX11_narrow 19 = .ok (.aload_n 0, 1) := by decide +kernel
theorem dX11_narrow_20 : decode cX11_narrow 20 = .ok (.invokevirtual 430, 3) := by decide +kernel
theorem dX11_narrow_23 : decode cX11_narrow 23 = .ok (.if_icmp .ge 46, 3) := by decide +kernel
theorem dX11_narrow_26 : decode cX11_narrow 26 = .ok (.aload_n 0, 1) := by decide +kernel
theorem dX11_narrow_27 : decode cX11_narrow 27 = .ok (.iload_n 2, 1) := by decide +kernel
theorem dX11_narrow_28 : decode cX11_narrow 28 = .ok (.invokevirtual 403, 3) := by decide +kernel
theorem dX11_narrow_31 : decode cX11_narrow 31 = .ok (.ifCond .eq 32, 3) := by decide +kernel
theorem dX11_narrow_34 : decode cX11_narrow 34 = .ok (.aload_n 0, 1) := by decide +kernel
theorem dX11_narrow_35 : decode cX11_narrow 35 = .ok (.iload_n 2, 1) := by decide +kernel
theorem dX11_narrow_36 : decode cX11_narrow 36 = .ok (.iconst 0, 1) := by decide +kernel
theorem dX11_narrow_37 : decode cX11_narrow 37 = .ok (.iconst 1, 1) := by decide +kernel
theorem dX11_narrow_38 : decode cX11_narrow 38 = .ok (.invokevirtual 421, 3) := by decide +kernel
theorem dX11_narrow_41 : decode cX11_narrow 41 = .ok (.aload_n 0, 1) := by decide +kernel
theorem dX11_narrow_42 : decode cX11_narrow 42 = .ok (.iload_n 2, 1) := by decide +kernel
theorem dX11_narrow_43 : decode cX11_narrow 43 = .ok (.iconst 0, 1) := by decide +kernel
theorem dX11_narrow_44 : decode cX11_narrow 44 = .ok (.iconst 0, 1) := by decide +kernel
theorem dX11_narrow_45 : decode cX11_narrow 45 = .ok (.invokevirtual 421, 3) := by decide +kernel
theorem dX11_narrow_48 : decode cX11_narrow 48 = .ok (.isub, 1) := by decide +kernel
theorem dX11_narrow_49 : decode cX11_narrow 49 = .ok (.iconst 0, 1) := by decide +kernel
theorem dX11_narrow_50 : decode cX11_narrow 50 = .ok (.iconst 1, 1) := by decide +kernel
theorem dX11_narrow_51 : decode cX11_narrow 51 = .ok (.invokestatic 366, 3) := by decide +kernel
theorem dX11_narrow_54 : decode cX11_narrow 54 = .ok (.ifCond .eq 9, 3) := by decide +kernel
theorem dX11_narrow_57 : decode cX11_narrow 57 = .ok (.iload_n 1, 1) := by decide +kernel
theorem dX11_narrow_58 : decode cX11_narrow 58 = .ok (.iconst 1, 1) := by decide +kernel
theorem dX11_narrow_59 : decode cX11_narrow 59 = .ok (.iload_n 2, 1) := by decide +kernel
theorem dX11_narrow_60 : decode cX11_narrow 60 = .ok (.ishl, 1) := by decide +kernel
theorem dX11_narrow_61 : decode cX11_narrow 61 = .ok (.ior, 1) := by decide +kernel
theorem dX11_narrow_62 : decode cX11_narrow 62 = .ok (.istore_n 1, 1) := by decide +kernel
theorem dX11_narrow_63 : decode cX11_narrow 63 = .ok (.iinc 2 1, 3) := by decide +kernel
theorem dX11_narrow_66 : decode cX11_narrow 66 = .ok (.goto (-62), 3) := by decide +kernel
theorem dX11_narrow_69 : decode cX11_narrow 69 = .ok (.iload_n 1, 1) := by decide +kernel
theorem dX11_narrow_70 : decode cX11_narrow 70 = .ok (.ireturn, 1) := by decide +kernel
theorem dX11_keepAct_0 : decode cX11_keepAct 0 = .ok (.aload_n 0, 1) := by decide +kernel
theorem dX11_keepAct_1 : decode cX11_keepAct 1 = .ok (.getfield 382, 3) := by decide +kernel
theorem dX11_keepAct_4 : decode cX11_keepAct 4 = .ok (.bipush 40, 2) := by decide +kernel
theorem dX11_keepAct_6 : decode cX11_keepAct 6 = .ok (.if_icmp .ne 43, 3) := by decide +kernel
theorem dX11_keepAct_9 : decode cX11_keepAct 9 = .ok (.iconst 0, 1) := by decide +kernel
theorem dX11_keepAct_10 : decode cX11_keepAct 10 = .ok (.istore_n 1, 1) := by decide +kernel
theorem dX11_keepAct_11 : decode cX11_keepAct 11 = .ok (.iload_n 1, 1) := by decide +kernel
theorem dX11_keepAct_12 : decode cX11_keepAct 12 = .ok (.sipush 960, 3) := by decide +kernel
theorem dX11_keepAct_15 : decode cX11_keepAct 15 = .ok (.if_icmp .ge 24, 3) := by decide +kernel
theorem dX11_keepAct_18 : decode cX11_keepAct 18 = .ok (.aload_n 0, 1) := by decide +kernel
theorem dX11_keepAct_19 : decode cX11_keepAct 19 = .ok (.getfield 97, 3) := by decide +kernel
theorem dX11_keepAct_22 : decode cX11_keepAct 22 = .ok (.iload_n 1, 1) := by decide +kernel
theorem dX11_keepAct_23 : decode cX11_keepAct 23 = .ok (.aload_n 0, 1) := by decide +kernel
theorem dX11_keepAct_24 : decode cX11_keepAct 24 = .ok (.getfield 97, 3) := by decide +kernel
theorem dX11_keepAct_27 : decode cX11_keepAct 27 = .ok (.iload_n 1, 1) := by decide +kernel
theorem dX11_keepAct_28 : decode cX11_keepAct 28 = .ok (.bipush 24, 2) := by decide +kernel
theorem dX11_keepAct_30 : decode cX11_keepAct 30 = .ok (.iadd, 1) := by decide +kernel
theorem dX11_keepAct_31 : decode cX11_keepAct 31 = .ok (.iaload, 1) := by decide +kernel
theorem dX11_keepAct_32 : decode cX11_keepAct 32 = .ok (.iastore, 1) := by decide +kernel
theorem dX11_keepAct_33 : decode cX11_keepAct 33 = .ok (.iinc 1 1, 3) := by decide +kernel
theorem dX11_keepAct_36 : decode cX11_keepAct 36 = .ok (.goto (-25), 3) := by decide +kernel
theorem dX11_keepAct_39 : decode cX11_keepAct 39 = .ok (.aload_n 0, 1) := by decide +kernel
theorem dX11_keepAct_40 : decode cX11_keepAct 40 = .ok (.dup, 1) := by decide +kernel
theorem dX11_keepAct_41 : decode cX11_keepAct 41 = .ok (.getfield 382, 3) := by decide +kernel
theorem dX11_keepAct_44 : decode cX11_keepAct 44 = .ok (.iconst 1, 1) := by decide +kernel
theorem dX11_keepAct_45 : decode cX11_keepAct 45 = .ok (.isub, 1) := by decide +kernel
theorem dX11_keepAct_46 : decode cX11_keepAct 46 = .ok (.putfield 382, 3) := by decide +kernel
theorem dX11_keepAct_49 : decode cX11_keepAct 49 = .ok (.iconst 0, 1) := by decide +kernel
theorem dX11_keepAct_50 : decode cX11_keepAct 50 = .ok (.istore_n 1, 1) := by decide +kernel
theorem dX11_keepAct_51 : decode cX11_keepAct 51 = .ok (.iload_n 1, 1) := by decide +kernel
theorem dX11_keepAct_52 : decode cX11_keepAct 52 = .ok (.bipush 24, 2) := by decide +kernel
theorem dX11_keepAct_54 : decode cX11_keepAct 54 = .ok (.if_icmp .ge 29, 3) := by decide +kernel
theorem dX11_keepAct_57 : decode cX11_keepAct 57 = .ok (.aload_n 0, 1) := by decide +kernel
theorem dX11_keepAct_58 : decode cX11_keepAct 58 = .ok (.getfield 97, 3) := by decide +kernel
theorem dX11_keepAct_61 : decode cX11_keepAct 61 = .ok (.bipush 24, 2) := by decide +kernel
theorem dX11_keepAct_63 : decode cX11_keepAct 63 = .ok (.aload_n 0, 1) := by decide +kernel
theorem dX11_keepAct_64 : decode cX11_keepAct 64 = .ok (.getfield 382, 3) := by decide +kernel
theorem dX11_keepAct_67 : decode cX11_keepAct 67 = .ok (.imul, 1) := by decide +kernel
theorem dX11_keepAct_68 : decode cX11_keepAct 68 = .ok (.iload_n 1, 1) := by decide +kernel
theorem dX11_keepAct_69 : decode cX11_keepAct 69 = .ok (.iadd, 1) := by decide +kernel
theorem dX11_keepAct_70 : decode cX11_keepAct 70 = .ok (.aload_n 0, 1) := by decide +kernel
theorem dX11_keepAct_71 : decode cX11_keepAct 71 = .ok (.getfield 91, 3) := by decide +kernel
theorem dX11_keepAct_74 : decode cX11_keepAct 74 = .ok (.iload_n 1, 1) := by decide +kernel
theorem dX11_keepAct_75 : decode cX11_keepAct 75 = .ok (.iaload, 1) := by decide +kernel
theorem dX11_keepAct_76 : decode cX11_keepAct 76 = .ok (.iastore, 1) := by decide +kernel
theorem dX11_keepAct_77 : decode cX11_keepAct 77 = .ok (.iinc 1 1, 3) := by decide +kernel
theorem dX11_keepAct_80 : decode cX11_keepAct 80 = .ok (.goto (-29), 3) := by decide +kernel
theorem dX11_keepAct_83 : decode cX11_keepAct 83 = .ok (.aload_n 0, 1) := by decide +kernel
theorem dX11_keepAct_84 : decode cX11_keepAct 84 = .ok (.dup, 1) := by decide +kernel
theorem dX11_keepAct_85 : decode cX11_keepAct 85 = .ok (.getfield 382, 3) := by decide +kernel
theorem dX11_keepAct_88 : decode cX11_keepAct 88 = .ok (.iconst 1, 1) := by decide +kernel
theorem dX11_keepAct_89 : decode cX11_keepAct 89 = .ok (.iadd, 1) := by decide +kernel
theorem dX11_keepAct_90 : decode cX11_keepAct 90 = .ok (.putfield 382, 3) := by decide +kernel
theorem dX11_keepAct_93 : decode cX11_keepAct 93 = .ok (.aload_n 0, 1) := by decide +kernel
theorem dX11_keepAct_94 : decode cX11_keepAct 94 = .ok (.iconst 0, 1) := by decide +kernel
theorem dX11_keepAct_95 : decode cX11_keepAct 95 = .ok (.putfield 385, 3) := by decide +kernel
theorem dX11_keepAct_98 : decode cX11_keepAct 98 = .ok (.return_, 1) := by decide +kernel
theorem dX11_exchange_0 : decode cX11_exchange 0 = .ok (.iconst 0, 1) := by decide +kernel
theorem dX11_exchange_1 : decode cX11_exchange 1 = .ok (.istore_n 1, 1) := by decide +kernel
theorem dX11_exchange_2 : decode cX11_exchange 2 = .ok (.iload_n 1, 1) := by decide +kernel
theorem dX11_exchange_3 : decode cX11_exchange 3 = .ok (.bipush 24, 2) := by decide +kernel
theorem dX11_exchange_5 : decode cX11_exchange 5 = .ok (.if_icmp .ge 51, 3) := by decide +kernel
theorem dX11_exchange_8 : decode cX11_exchange 8 = .ok (.aload_n 0, 1) := by decide +kernel
theorem dX11_exchange_9 : decode cX11_exchange 9 = .ok (.getfield 97, 3) := by decide +kernel
theorem dX11_exchange_12 : decode cX11_exchange 12 = .ok (.bipush 24, 2) := by decide +kernel
theorem dX11_exchange_14 : decode cX11_exchange 14 = .ok (.aload_n 0, 1) := by decide +kernel
theorem dX11_exchange_15 : decode cX11_exchange 15 = .ok (.getfield 382, 3) := by decide +kernel
theorem dX11_exchange_18 : decode cX11_exchange 18 = .ok (.imul, 1) := by decide +kernel
theorem dX11_exchange_19 : decode cX11_exchange 19 = .ok (.iload_n 1, 1) := by decide +kernel
theorem dX11_exchange_20 : decode cX11_exchange 20 = .ok (.iadd, 1) := by decide +kernel
theorem dX11_exchange_21 : decode cX11_exchange 21 = .ok (.iaload, 1) := by decide +kernel
theorem dX11_exchange_22 : decode cX11_exchange 22 = .ok (.istore_n 2, 1) := by decide +kernel
theorem dX11_exchange_23 : decode cX11_exchange 23 = .ok (.aload_n 0, 1) := by decide +kernel
theorem dX11_exchange_24 : decode cX11_exchange 24 = .ok (.getfield 97, 3) := by decide +kernel
theorem dX11_exchange_27 : decode cX11_exchange 27 = .ok (.bipush 24, 2) := by decide +kernel
theorem dX11_exchange_29 : decode cX11_exchange 29 = .ok (.aload_n 0, 1) := by decide +kernel
theorem dX11_exchange_30 : decode cX11_exchange 30 = .ok (.getfield 382, 3) := by decide +kernel
theorem dX11_exchange_33 : decode cX11_exchange 33 = .ok (.imul, 1) := by decide +kernel
theorem dX11_exchange_34 : decode cX11_exchange 34 = .ok (.iload_n 1, 1) := by decide +kernel
theorem dX11_exchange_35 : decode cX11_exchange 35 = .ok (.iadd, 1) := by decide +kernel
theorem dX11_exchange_36 : decode cX11_exchange 36 = .ok (.aload_n 0, 1) := by decide +kernel
theorem dX11_exchange_37 : decode cX11_exchange 37 = .ok (.getfield 91, 3) := by decide +kernel
theorem dX11_exchange_40 : decode cX11_exchange 40 = .ok (.iload_n 1, 1) := by decide +kernel
theorem dX11_exchange_41 : decode cX11_exchange 41 = .ok (.iaload, 1) := by decide +kernel
theorem dX11_exchange_42 : decode cX11_exchange 42 = .ok (.iastore, 1) := by decide +kernel
theorem dX11_exchange_43 : decode cX11_exchange 43 = .ok (.aload_n 0, 1) := by decide +kernel
theorem dX11_exchange_44 : decode cX11_exchange 44 = .ok (.getfield 91, 3) := by decide +kernel
theorem dX11_exchange_47 : decode cX11_exchange 47 = .ok (.iload_n 1, 1) := by decide +kernel
theorem dX11_exchange_48 : decode cX11_exchange 48 = .ok (.iload_n 2, 1) := by decide +kernel
theorem dX11_exchange_49 : decode cX11_exchange 49 = .ok (.iastore, 1) := by decide +kernel
theorem dX11_exchange_50 : decode cX11_exchange 50 = .ok (.iinc 1 1, 3) := by decide +kernel
theorem dX11_exchange_53 : decode cX11_exchange 53 = .ok (.goto (-51), 3) := by decide +kernel
theorem dX11_exchange_56 : decode cX11_exchange 56 = .ok (.return_, 1) := by decide +kernel
theorem dX11_step_0 : decode cX11_step 0 = .ok (.aload_n 0, 1) := by decide +kernel
theorem dX11_step_1 : decode cX11_step 1 = .ok (.getfield 91, 3) := by decide +kernel
theorem dX11_step_4 : decode cX11_step 4 = .ok (.bipush 21, 2) := by decide +kernel
theorem dX11_step_6 : decode cX11_step 6 = .ok (.iaload, 1) := by decide +kernel
theorem dX11_step_7 : decode cX11_step 7 = .ok (.aload_n 0, 1) := by decide +kernel
theorem dX11_step_8 : decode cX11_step 8 = .ok (.invokevirtual 430, 3) := by decide +kernel
theorem dX11_step_11 : decode cX11_step 11 = .ok (.if_icmp .lt 5, 3) := by decide +kernel
theorem dX11_step_14 : decode cX11_step 14 = .ok (.iconst (-1), 1) := by decide +kernel
theorem dX11_step_15 : decode cX11_step 15 = .ok (.ireturn, 1) := by decide +kernel
theorem dX11_step_16 : decode cX11_step 16 = .ok (.aload_n 0, 1) := by decide +kernel
theorem dX11_step_17 : decode cX11_step 17 = .ok (.invokevirtual 434, 3) := by decide +kernel
theorem dX11_step_20 : decode cX11_step 20 = .ok (.aload_n 0, 1) := by decide +kernel
theorem dX11_step_21 : decode cX11_step 21 = .ok (.invokevirtual 437, 3) := by decide +kernel
theorem dX11_step_24 : decode cX11_step 24 = .ok (.ireturn, 1) := by decide +kernel
theorem dX11_reef_0 : decode cX11_reef 0 = .ok (.aload_n 0, 1) := by decide +kernel
theorem dX11_reef_1 : decode cX11_reef 1 = .ok (.iload_n 1, 1) := by decide +kernel
theorem dX11_reef_2 : decode cX11_reef 2 = .ok (.invokevirtual 370, 3) := by decide +kernel
theorem dX11_reef_5 : decode cX11_reef 5 = .ok (.ifCond .eq 25, 3) := by decide +kernel
theorem dX11_reef_8 : decode cX11_reef 8 = .ok (.iload_n 2, 1) := by decide +kernel
theorem dX11_reef_9 : decode cX11_reef 9 = .ok (.iconst 0, 1) := by decide +kernel
theorem dX11_reef_10 : decode cX11_reef 10 = .ok (.bipush 20, 2) := by decide +kernel
theorem dX11_reef_12 : decode cX11_reef 12 = .ok (.invokestatic 366, 3) := by decide +kernel
theorem dX11_reef_15 : decode cX11_reef 15 = .ok (.ifCond .eq 15, 3) := by decide +kernel
theorem dX11_reef_18 : decode cX11_reef 18 = .ok (.aload_n 0, 1) := by decide +kernel
theorem dX11_reef_19 : decode cX11_reef 19 = .ok (.getfield 91, 3) := by decide +kernel
theorem dX11_reef_22 : decode cX11_reef 22 = .ok (.iconst 5, 1) := by decide +kernel
theorem dX11_reef_23 : decode cX11_reef 23 = .ok (.iload_n 1, 1) := by decide +kernel
theorem dX11_reef_24 : decode cX11_reef 24 = .ok (.iadd, 1) := by decide +kernel
theorem dX11_reef_25 : decode cX11_reef 25 = .ok (.iaload, 1) := by decide +kernel
theorem dX11_reef_26 : decode cX11_reef 26 = .ok (.iload_n 2, 1) := by decide +kernel
theorem dX11_reef_27 : decode cX11_reef 27 = .ok (.if_icmp .ne 5, 3) := by decide +kernel
theorem dX11_reef_30 : decode cX11_reef 30 = .ok (.iconst (-1), 1) := by decide +kernel
theorem dX11_reef_31 : decode cX11_reef 31 = .ok (.ireturn, 1) := by decide +kernel
theorem dX11_reef_32 : decode cX11_reef 32 = .ok (.aload_n 0, 1) := by decide +kernel
theorem dX11_reef_33 : decode cX11_reef 33 = .ok (.invokevirtual 434, 3) := by decide +kernel
theorem dX11_reef_36 : decode cX11_reef 36 = .ok (.aload_n 0, 1) := by decide +kernel
theorem dX11_reef_37 : decode cX11_reef 37 = .ok (.getfield 91, 3) := by decide +kernel
theorem dX11_reef_40 : decode cX11_reef 40 = .ok (.iconst 5, 1) := by decide +kernel
theorem dX11_reef_41 : decode cX11_reef 41 = .ok (.iload_n 1, 1) := by decide +kernel
theorem dX11_reef_42 : decode cX11_reef 42 = .ok (.iadd, 1) := by decide +kernel
theorem dX11_reef_43 : decode cX11_reef 43 = .ok (.iaload, 1) := by decide +kernel
theorem dX11_reef_44 : decode cX11_reef 44 = .ok (.istore_n 3, 1) := by decide +kernel
theorem dX11_reef_45 : decode cX11_reef 45 = .ok (.aload_n 0, 1) := by decide +kernel
theorem dX11_reef_46 : decode cX11_reef 46 = .ok (.getfield 91, 3) := by decide +kernel
theorem dX11_reef_49 : decode cX11_reef 49 = .ok (.iconst 5, 1) := by decide +kernel
theorem dX11_reef_50 : decode cX11_reef 50 = .ok (.iload_n 1, 1) := by decide +kernel
theorem dX11_reef_51 : decode cX11_reef 51 = .ok (.iadd, 1) := by decide +kernel
theorem dX11_reef_52 : decode cX11_reef 52 = .ok (.iload_n 2, 1) := by decide +kernel
theorem dX11_reef_53 : decode cX11_reef 53 = .ok (.iastore, 1) := by decide +kernel
theorem dX11_reef_54 : decode cX11_reef 54 = .ok (.iload_n 3, 1) := by decide +kernel
theorem dX11_reef_55 : decode cX11_reef 55 = .ok (.ireturn, 1) := by decide +kernel
theorem dX11_child_0 : decode cX11_child 0 = .ok (.aload_n 0, 1) := by decide +kernel
theorem dX11_child_1 : decode cX11_child 1 = .ok (.iload_n 1, 1) := by decide +kernel
theorem dX11_child_2 : decode cX11_child 2 = .ok (.invokevirtual 370, 3) := by decide +kernel
theorem dX11_child_5 : decode cX11_child 5 = .ok (.ifCond .eq 29, 3) := by decide +kernel
theorem dX11_child_8 : decode cX11_child 8 = .ok (.iload_n 2, 1) := by decide +kernel
theorem dX11_child_9 : decode cX11_child 9 = .ok (.iconst 1, 1) := by decide +kernel
theorem dX11_child_10 : decode cX11_child 10 = .ok (.bipush 9, 2) := by decide +kernel
theorem dX11_child_12 : decode cX11_child 12 = .ok (.invokestatic 366, 3) := by decide +kernel
theorem dX11_child_15 : decode cX11_child 15 = .ok (.ifCond .eq 19, 3) := by decide +kernel
theorem dX11_child_18 : decode cX11_child 18 = .ok (.aload_n 0, 1) := by decide +kernel
theorem dX11_child_19 : decode cX11_child 19 = .ok (.getfield 91, 3) := by decide +kernel
theorem dX11_child_22 : decode cX11_child 22 = .ok (.bipush 10, 2) := by decide +kernel
theorem dX11_child_24 : decode cX11_child 24 = .ok (.iload_n 1, 1) := by decide +kernel
theorem dX11_child_25 : decode cX11_child 25 = .ok (.iadd, 1) := by decide +kernel
theorem dX11_child_26 : decode cX11_child 26 = .ok (.iaload, 1) := by decide +kernel
theorem dX11_child_27 : decode cX11_child 27 = .ok (.iload_n 2, 1) := by decide +kernel
theorem dX11_child_28 : decode cX11_child 28 = .ok (.iadd, 1) := by decide +kernel
theorem dX11_child_29 : decode cX11_child 29 = .ok (.bipush 99, 2) := by decide +kernel
theorem dX11_child_31 : decode cX11_child 31 = .ok (.if_icmp .le 5, 3) := by decide +kernel
theorem dX11_child_34 : decode cX11_child 34 = .ok (.iconst (-1), 1) := by decide +kernel
theorem dX11_child_35 : decode cX11_child 35 = .ok (.ireturn, 1) := by decide +kernel
theorem dX11_child_36 : decode cX11_child 36 = .ok (.aload_n 0, 1) := by decide +kernel
theorem dX11_child_37 : decode cX11_child 37 = .ok (.invokevirtual 434, 3) := by decide +kernel
theorem dX11_child_40 : decode cX11_child 40 = .ok (.aload_n 0, 1) := by decide +kernel
theorem dX11_child_41 : decode cX11_child 41 = .ok (.getfield 91, 3) := by decide +kernel
theorem dX11_child_44 : decode cX11_child 44 = .ok (.bipush 10, 2) := by decide +kernel
theorem dX11_child_46 : decode cX11_child 46 = .ok (.iload_n 1, 1) := by decide +kernel
theorem dX11_child_47 : decode cX11_child 47 = .ok (.iadd, 1) := by decide +kernel
theorem dX11_child_48 : decode cX11_child 48 = .ok (.dup2, 1) := by decide +kernel
theorem dX11_child_49 : decode cX11_child 49 = .ok (.iaload, 1) := by decide +kernel
theorem dX11_child_50 : decode cX11_child 50 = .ok (.iload_n 2, 1) := by decide +kernel
theorem dX11_child_51 : decode cX11_child 51 = .ok (.iadd, 1) := by decide +kernel
theorem dX11_child_52 : decode cX11_child 52 = .ok (.iastore, 1) := by decide +kernel
theorem dX11_child_53 : decode cX11_child 53 = .ok (.aload_n 0, 1) := by decide +kernel
theorem dX11_child_54 : decode cX11_child 54 = .ok (.getfield 91, 3) := by decide +kernel
theorem dX11_child_57 : decode cX11_child 57 = .ok (.bipush 10, 2) := by decide +kernel
theorem dX11_child_59 : decode cX11_child 59 = .ok (.iload_n 1, 1) := by decide +kernel
theorem dX11_child_60 : decode cX11_child 60 = .ok (.iadd, 1) := by decide +kernel
theorem dX11_child_61 : decode cX11_child 61 = .ok (.iaload, 1) := by decide +kernel
theorem dX11_child_62 : decode cX11_child 62 = .ok (.ireturn, 1) := by decide +kernel
theorem dX11_swap_0 : decode cX11_swap 0 = .ok (.aload_n 0, 1) := by decide +kernel
theorem dX11_swap_1 : decode cX11_swap 1 = .ok (.iload_n 1, 1) := by decide +kernel
theorem dX11_swap_2 : decode cX11_swap 2 = .ok (.invokevirtual 370, 3) := by decide +kernel
theorem dX11_swap_5 : decode cX11_swap 5 = .ok (.ifCond .eq 16, 3) := by decide +kernel
theorem dX11_swap_8 : decode cX11_swap 8 = .ok (.aload_n 0, 1) := by decide +kernel
theorem dX11_swap_9 : decode cX11_swap 9 = .ok (.iload_n 2, 1) := by decide +kernel
theorem dX11_swap_10 : decode cX11_swap 10 = .ok (.invokevirtual 370, 3) := by decide +kernel
theorem dX11_swap_13 : decode cX11_swap 13 = .ok (.ifCond .eq 8, 3) := by decide +kernel
theorem dX11_swap_16 : decode cX11_swap 16 = .ok (.iload_n 1, 1) := by decide +kernel
theorem dX11_swap_17 : decode cX11_swap 17 = .ok (.iload_n 2, 1) := by decide +kernel
theorem dX11_swap_18 : decode cX11_swap 18 = .ok (.if_icmp .ne 5, 3) := by decide +kernel
theorem dX11_swap_21 : decode cX11_swap 21 = .ok (.iconst 0, 1) := by decide +kernel
theorem dX11_swap_22 : decode cX11_swap 22 = .ok (.ireturn, 1) := by decide +kernel
theorem dX11_swap_23 : decode cX11_swap 23 = .ok (.aload_n 0, 1) := by decide +kernel
theorem dX11_swap_24 : decode cX11_swap 24 = .ok (.invokevirtual 434, 3) := by decide +kernel
theorem dX11_swap_27 : decode cX11_swap 27 = .ok (.aload_n 0, 1) := by decide +kernel
theorem dX11_swap_28 : decode cX11_swap 28 = .ok (.iload_n 1, 1) := by decide +kernel
theorem dX11_swap_29 : decode cX11_swap 29 = .ok (.invokevirtual 400, 3) := by decide +kernel
theorem dX11_swap_32 : decode cX11_swap 32 = .ok (.istore_n 3, 1) := by decide +kernel
theorem dX11_swap_33 : decode cX11_swap 33 = .ok (.aload_n 0, 1) := by decide +kernel
theorem dX11_swap_34 : decode cX11_swap 34 = .ok (.iload_n 2, 1) := by decide +kernel
theorem dX11_swap_35 : decode cX11_swap 35 = .ok (.invokevirtual 400, 3) := by decide +kernel
theorem dX11_swap_38 : decode cX11_swap 38 = .ok (.istore 4, 2) := by decide +kernel
theorem dX11_swap_40 : decode cX11_swap 40 = .ok (.aload_n 0, 1) := by decide +kernel
theorem dX11_swap_41 : decode cX11_swap 41 = .ok (.getfield 91, 3) := by decide +kernel
theorem dX11_swap_44 : decode cX11_swap 44 = .ok (.iconst 0, 1) := by decide +kernel
theorem dX11_swap_45 : decode cX11_swap 45 = .ok (.iload_n 3, 1) := by decide +kernel
theorem dX11_swap_46 : decode cX11_swap 46 = .ok (.iadd, 1) := by decide +kernel
theorem dX11_swap_47 : decode cX11_swap 47 = .ok (.iload_n 2, 1) := by decide +kernel
theorem dX11_swap_48 : decode cX11_swap 48 = .ok (.iastore, 1) := by decide +kernel
theorem dX11_swap_49 : decode cX11_swap 49 = .ok (.aload_n 0, 1) := by decide +kernel
theorem dX11_swap_50 : decode cX11_swap 50 = .ok (.getfield 91, 3) := by decide +kernel
theorem dX11_swap_53 : decode cX11_swap 53 = .ok (.iconst 0, 1) := by decide +kernel
theorem dX11_swap_54 : decode cX11_swap 54 = .ok (.iload 4, 2) := by decide +kernel
theorem dX11_swap_56 : decode cX11_swap 56 = .ok (.iadd, 1) := by decide +kernel
theorem dX11_swap_57 : decode cX11_swap 57 = .ok (.iload_n 1, 1) := by decide +kernel
theorem dX11_swap_58 : decode cX11_swap 58 = .ok (.iastore, 1) := by decide +kernel
theorem dX11_swap_59 : decode cX11_swap 59 = .ok (.iconst 1, 1) := by decide +kernel
theorem dX11_swap_60 : decode cX11_swap 60 = .ok (.ireturn, 1) := by decide +kernel
theorem dX11_canGo_0 : decode cX11_canGo 0 = .ok (.iload_n 1, 1) := by decide +kernel
theorem dX11_canGo_1 : decode cX11_canGo 1 = .ok (.iload_n 2, 1) := by decide +kernel
theorem dX11_canGo_2 : decode cX11_canGo 2 = .ok (.if_icmp .eq 45, 3) := by decide +kernel
theorem dX11_canGo_5 : decode cX11_canGo 5 = .ok (.aload_n 0, 1) := by decide +kernel
theorem dX11_canGo_6 : decode cX11_canGo 6 = .ok (.iload_n 1, 1) := by decide +kernel
theorem dX11_canGo_7 : decode cX11_canGo 7 = .ok (.invokevirtual 403, 3) := by decide +kernel
theorem dX11_canGo_10 : decode cX11_canGo 10 = .ok (.ifCond .eq 37, 3) := by decide +kernel
theorem dX11_canGo_13 : decode cX11_canGo 13 = .ok (.aload_n 0, 1) := by decide +kernel
theorem dX11_canGo_14 : decode cX11_canGo 14 = .ok (.iload_n 2, 1) := by decide +kernel
theorem dX11_canGo_15 : decode cX11_canGo 15 = .ok (.invokevirtual 403, 3) := by decide +kernel
theorem dX11_canGo_18 : decode cX11_canGo 18 = .ok (.ifCond .eq 29, 3) := by decide +kernel
theorem dX11_canGo_21 : decode cX11_canGo 21 = .ok (.aload_n 0, 1) := by decide +kernel
theorem dX11_canGo_22 : decode cX11_canGo 22 = .ok (.iload_n 1, 1) := by decide +kernel
theorem dX11_canGo_23 : decode cX11_canGo 23 = .ok (.invokevirtual 394, 3) := by decide +kernel
theorem dX11_canGo_26 : decode cX11_canGo 26 = .ok (.iconst 1, 1) := by decide +kernel
theorem dX11_canGo_27 : decode cX11_canGo 27 = .ok (.iload_n 1, 1) := by decide +kernel
theorem dX11_canGo_28 : decode cX11_canGo 28 = .ok (.ishl, 1) := by decide +kernel
theorem dX11_canGo_29 : decode cX11_canGo 29 = .ok (.if_icmp .ne 18, 3) := by decide +kernel
theorem dX11_canGo_32 : decode cX11_canGo 32 = .ok (.aload_n 0, 1) := by decide +kernel
theorem dX11_canGo_33 : decode cX11_canGo 33 = .ok (.iload_n 2, 1) := by decide +kernel
theorem dX11_canGo_34 : decode cX11_canGo 34 = .ok (.invokevirtual 394, 3) := by decide +kernel
theorem dX11_canGo_37 : decode cX11_canGo 37 = .ok (.iconst 1, 1) := by decide +kernel
theorem dX11_canGo_38 : decode cX11_canGo 38 = .ok (.iload_n 2, 1) := by decide +kernel
theorem dX11_canGo_39 : decode cX11_canGo 39 = .ok (.ishl, 1) := by decide +kernel
theorem dX11_canGo_40 : decode cX11_canGo 40 = .ok (.if_icmp .ne 7, 3) := by decide +kernel
theorem dX11_canGo_43 : decode cX11_canGo 43 = .ok (.iconst 1, 1) := by decide +kernel
theorem dX11_canGo_44 : decode cX11_canGo 44 = .ok (.goto 4, 3) := by decide +kernel
theorem dX11_canGo_47 : decode cX11_canGo 47 = .ok (.iconst 0, 1) := by decide +kernel
theorem dX11_canGo_48 : decode cX11_canGo 48 = .ok (.ireturn, 1) := by decide +kernel
theorem dX11_under_0 : decode cX11_under 0 = .ok (.aload_n 0, 1) := by decide +kernel
theorem dX11_under_1 : decode cX11_under 1 = .ok (.iload_n 1, 1) := by decide +kernel
theorem dX11_under_2 : decode cX11_under 2 = .ok (.iload_n 2, 1) := by decide +kernel
theorem dX11_under_3 : decode cX11_under 3 = .ok (.invokevirtual 440, 3) := by decide +kernel
theorem dX11_under_6 : decode cX11_under 6 = .ok (.ifCond .ne 5, 3) := by decide +kernel
theorem dX11_under_9 : decode cX11_under 9 = .ok (.iconst (-1), 1) := by decide +kernel
theorem dX11_under_10 : decode cX11_under 10 = .ok (.ireturn, 1) := by decide +kernel
theorem dX11_under_11 : decode cX11_under 11 = .ok (.aload_n 0, 1) := by decide +kernel
theorem dX11_under_12 : decode cX11_under 12 = .ok (.invokevirtual 434, 3) := by decide +kernel
theorem dX11_under_15 : decode cX11_under 15 = .ok (.aload_n 0, 1) := by decide +kernel
theorem dX11_under_16 : decode cX11_under 16 = .ok (.getfield 91, 3) := by decide +kernel
theorem dX11_under_19 : decode cX11_under 19 = .ok (.bipush 15, 2) := by decide +kernel
theorem dX11_under_21 : decode cX11_under 21 = .ok (.iload_n 1, 1) := by decide +kernel
theorem dX11_under_22 : decode cX11_under 22 = .ok (.iadd, 1) := by decide +kernel
theorem dX11_under_23 : decode cX11_under 23 = .ok (.iload_n 2, 1) := by decide +kernel
theorem dX11_under_24 : decode cX11_under 24 = .ok (.iastore, 1) := by decide +kernel
theorem dX11_under_25 : decode cX11_under 25 = .ok (.aload_n 0, 1) := by decide +kernel
theorem dX11_under_26 : decode cX11_under 26 = .ok (.iload_n 2, 1) := by decide +kernel
theorem dX11_under_27 : decode cX11_under 27 = .ok (.invokevirtual 415, 3) := by decide +kernel
theorem dX11_under_30 : decode cX11_under 30 = .ok (.ireturn, 1) := by decide +kernel
theorem dX11_part_0 : decode cX11_part 0 = .ok (.aload_n 0, 1) := by decide +kernel
theorem dX11_part_1 : decode cX11_part 1 = .ok (.iload_n 1, 1) := by decide +kernel
theorem dX11_part_2 : decode cX11_part 2 = .ok (.invokevirtual 370, 3) := by decide +kernel
theorem dX11_part_5 : decode cX11_part 5 = .ok (.ifCond .eq 11, 3) := by decide +kernel
theorem dX11_part_8 : decode cX11_part 8 = .ok (.aload_n 0, 1) := by decide +kernel
theorem dX11_part_9 : decode cX11_part 9 = .ok (.iload_n 1, 1) := by decide +kernel
theorem dX11_part_10 : decode cX11_part 10 = .ok (.invokevirtual 373, 3) := by decide +kernel
theorem dX11_part_13 : decode cX11_part 13 = .ok (.ifCond .eq 5, 3) := by decide +kernel
theorem dX11_part_16 : decode cX11_part 16 = .ok (.iconst (-1), 1) := by decide +kernel
theorem dX11_part_17 : decode cX11_part 17 = .ok (.ireturn, 1) := by decide +kernel
theorem dX11_part_18 : decode cX11_part 18 = .ok (.aload_n 0, 1) := by decide +kernel
theorem dX11_part_19 : decode cX11_part 19 = .ok (.invokevirtual 434, 3) := by decide +kernel
theorem dX11_part_22 : decode cX11_part 22 = .ok (.aload_n 0, 1) := by decide +kernel
theorem dX11_part_23 : decode cX11_part 23 = .ok (.getfield 91, 3) := by decide +kernel
theorem dX11_part_26 : decode cX11_part 26 = .ok (.bipush 15, 2) := by decide +kernel
theorem dX11_part_28 : decode cX11_part 28 = .ok (.iload_n 1, 1) := by decide +kernel
theorem dX11_part_29 : decode cX11_part 29 = .ok (.iadd, 1) := by decide +kernel
theorem dX11_part_30 : decode cX11_part 30 = .ok (.iaload, 1) := by decide +kernel
theorem dX11_part_31 : decode cX11_part 31 = .ok (.istore_n 2, 1) := by decide +kernel
theorem dX11_part_32 : decode cX11_part 32 = .ok (.aload_n 0, 1) := by decide +kernel
theorem dX11_part_33 : decode cX11_part 33 = .ok (.getfield 91, 3) := by decide +kernel
theorem dX11_part_36 : decode cX11_part 36 = .ok (.bipush 15, 2) := by decide +kernel
theorem dX11_part_38 : decode cX11_part 38 = .ok (.iload_n 1, 1) := by decide +kernel
theorem dX11_part_39 : decode cX11_part 39 = .ok (.iadd, 1) := by decide +kernel
theorem dX11_part_40 : decode cX11_part 40 = .ok (.iconst (-1), 1) := by decide +kernel
theorem dX11_part_41 : decode cX11_part 41 = .ok (.iastore, 1) := by decide +kernel
theorem dX11_part_42 : decode cX11_part 42 = .ok (.iload_n 2, 1) := by decide +kernel
theorem dX11_part_43 : decode cX11_part 43 = .ok (.ireturn, 1) := by decide +kernel
theorem dX11_day_0 : decode cX11_day 0 = .ok (.aload_n 0, 1) := by decide +kernel
theorem dX11_day_1 : decode cX11_day 1 = .ok (.getfield 91, 3) := by decide +kernel
theorem dX11_day_4 : decode cX11_day 4 = .ok (.bipush 22, 2) := by decide +kernel
theorem dX11_day_6 : decode cX11_day 6 = .ok (.iaload, 1) := by decide +kernel
theorem dX11_day_7 : decode cX11_day 7 = .ok (.sipush 999, 3) := by decide +kernel
theorem dX11_day_10 : decode cX11_day 10 = .ok (.if_icmp .ne 5, 3) := by decide +kernel
theorem dX11_day_13 : decode cX11_day 13 = .ok (.iconst (-1), 1) := by decide +kernel
theorem dX11_day_14 : decode cX11_day 14 = .ok (.ireturn, 1) := by decide +kernel
theorem dX11_day_15 : decode cX11_day 15 = .ok (.aload_n 0, 1) := by decide +kernel
theorem dX11_day_16 : decode cX11_day 16 = .ok (.invokevirtual 434, 3) := by decide +kernel
theorem dX11_day_19 : decode cX11_day 19 = .ok (.aload_n 0, 1) := by decide +kernel
theorem dX11_day_20 : decode cX11_day 20 = .ok (.getfield 91, 3) := by decide +kernel
theorem dX11_day_23 : decode cX11_day 23 = .ok (.bipush 20, 2) := by decide +kernel
theorem dX11_day_25 : decode cX11_day 25 = .ok (.iaload, 1) := by decide +kernel
theorem dX11_day_26 : decode cX11_day 26 = .ok (.istore_n 1, 1) := by decide +kernel
theorem dX11_day_27 : decode cX11_day 27 = .ok (.aload_n 0, 1) := by decide +kernel
theorem dX11_day_28 : decode cX11_day 28 = .ok (.getfield 91, 3) := by decide +kernel
theorem dX11_day_31 : decode cX11_day 31 = .ok (.bipush 20, 2) := by decide +kernel
theorem dX11_day_33 : decode cX11_day 33 = .ok (.aload_n 0, 1) := by decide +kernel
theorem dX11_day_34 : decode cX11_day 34 = .ok (.invokevirtual 379, 3) := by decide +kernel
theorem dX11_day_37 : decode cX11_day 37 = .ok (.iastore, 1) := by decide +kernel
theorem dX11_day_38 : decode cX11_day 38 = .ok (.aload_n 0, 1) := by decide +kernel
theorem dX11_day_39 : decode cX11_day 39 = .ok (.getfield 91, 3) := by decide +kernel
theorem dX11_day_42 : decode cX11_day 42 = .ok (.bipush 21, 2) := by decide +kernel
theorem dX11_day_44 : decode cX11_day 44 = .ok (.iconst 0, 1) := by decide +kernel
theorem dX11_day_45 : decode cX11_day 45 = .ok (.iastore, 1) := by decide +kernel
theorem dX11_day_46 : decode cX11_day 46 = .ok (.aload_n 0, 1) := by decide +kernel
theorem dX11_day_47 : decode cX11_day 47 = .ok (.getfield 91, 3) := by decide +kernel
theorem dX11_day_50 : decode cX11_day 50 = .ok (.bipush 22, 2) := by decide +kernel
theorem dX11_day_52 : decode cX11_day 52 = .ok (.dup2, 1) := by decide +kernel
theorem dX11_day_53 : decode cX11_day 53 = .ok (.iaload, 1) := by decide +kernel
theorem dX11_day_54 : decode cX11_day 54 = .ok (.iconst 1, 1) := by decide +kernel
theorem dX11_day_55 : decode cX11_day 55 = .ok (.iadd, 1) := by decide +kernel
theorem dX11_day_56 : decode cX11_day 56 = .ok (.iastore, 1) := by decide +kernel
theorem dX11_day_57 : decode cX11_day 57 = .ok (.iload_n 1, 1) := by decide +kernel
theorem dX11_day_58 : decode cX11_day 58 = .ok (.ireturn, 1) := by decide +kernel
theorem dX11_undo_0 : decode cX11_undo 0 = .ok (.aload_n 0, 1) := by decide +kernel
theorem dX11_undo_1 : decode cX11_undo 1 = .ok (.getfield 382, 3) := by decide +kernel
theorem dX11_undo_4 : decode cX11_undo 4 = .ok (.ifCond .ne 5, 3) := by decide +kernel
theorem dX11_undo_7 : decode cX11_undo 7 = .ok (.iconst 0, 1) := by decide +kernel
theorem dX11_undo_8 : decode cX11_undo 8 = .ok (.ireturn, 1) := by decide +kernel
theorem dX11_undo_9 : decode cX11_undo 9 = .ok (.aload_n 0, 1) := by decide +kernel
theorem dX11_undo_10 : decode cX11_undo 10 = .ok (.dup, 1) := by decide +kernel
theorem dX11_undo_11 : decode cX11_undo 11 = .ok (.getfield 382, 3) := by decide +kernel
theorem dX11_undo_14 : decode cX11_undo 14 = .ok (.iconst 1, 1) := by decide +kernel
theorem dX11_undo_15 : decode cX11_undo 15 = .ok (.isub, 1) := by decide +kernel
theorem dX11_undo_16 : decode cX11_undo 16 = .ok (.putfield 382, 3) := by decide +kernel
theorem dX11_undo_19 : decode cX11_undo 19 = .ok (.aload_n 0, 1) := by decide +kernel
theorem dX11_undo_20 : decode cX11_undo 20 = .ok (.dup, 1) := by decide +kernel
theorem dX11_undo_21 : decode cX11_undo 21 = .ok (.getfield 385, 3) := by decide +kernel
theorem dX11_undo_24 : decode cX11_undo 24 = .ok (.iconst 1, 1) := by decide +kernel
theorem dX11_undo_25 : decode cX11_undo 25 = .ok (.iadd, 1) := by decide +kernel
theorem dX11_undo_26 : decode cX11_undo 26 = .ok (.putfield 385, 3) := by decide +kernel
theorem dX11_undo_29 : decode cX11_undo 29 = .ok (.aload_n 0, 1) := by decide +kernel
theorem dX11_undo_30 : decode cX11_undo 30 = .ok (.invokevirtual 443, 3) := by decide +kernel
theorem dX11_undo_33 : decode cX11_undo 33 = .ok (.iconst 1, 1) := by decide +kernel
theorem dX11_undo_34 : decode cX11_undo 34 = .ok (.ireturn, 1) := by decide +kernel
theorem dX11_redo_0 : decode cX11_redo 0 = .ok (.aload_n 0, 1) := by decide +kernel
theorem dX11_redo_1 : decode cX11_redo 1 = .ok (.getfield 385, 3) := by decide +kernel
theorem dX11_redo_4 : decode cX11_redo 4 = .ok (.ifCond .ne 5, 3) := by decide +kernel
theorem dX11_redo_7 : decode cX11_redo 7 = .ok (.iconst 0, 1) := by decide +kernel
theorem dX11_redo_8 : decode cX11_redo 8 = .ok (.ireturn, 1) := by decide +kernel
theorem dX11_redo_9 : decode cX11_redo 9 = .ok (.aload_n 0, 1) := by decide +kernel
theorem dX11_redo_10 : decode cX11_redo 10 = .ok (.invokevirtual 443, 3) := by decide +kernel
theorem dX11_redo_13 : decode cX11_redo 13 = .ok (.aload_n 0, 1) := by decide +kernel
theorem dX11_redo_14 : decode cX11_redo 14 = .ok (.dup, 1) := by decide +kernel
theorem dX11_redo_15 : decode cX11_redo 15 = .ok (.getfield 382, 3) := by decide +kernel
theorem dX11_redo_18 : decode cX11_redo 18 = .ok (.iconst 1, 1) := by decide +kernel
theorem dX11_redo_19 : decode cX11_redo 19 = .ok (.iadd, 1) := by decide +kernel
theorem dX11_redo_20 : decode cX11_redo 20 = .ok (.putfield 382, 3) := by decide +kernel
theorem dX11_redo_23 : decode cX11_redo 23 = .ok (.aload_n 0, 1) := by decide +kernel
theorem dX11_redo_24 : decode cX11_redo 24 = .ok (.dup, 1) := by decide +kernel
theorem dX11_redo_25 : decode cX11_redo 25 = .ok (.getfield 385, 3) := by decide +kernel
theorem dX11_redo_28 : decode cX11_redo 28 = .ok (.iconst 1, 1) := by decide +kernel
theorem dX11_redo_29 : decode cX11_redo 29 = .ok (.isub, 1) := by decide +kernel
theorem dX11_redo_30 : decode cX11_redo 30 = .ok (.putfield 385, 3) := by decide +kernel
theorem dX11_redo_33 : decode cX11_redo 33 = .ok (.iconst 1, 1) := by decide +kernel
theorem dX11_redo_34 : decode cX11_redo 34 = .ok (.ireturn, 1) := by decide +kernel
theorem dX11_lies_0 : decode cX11_lies 0 = .ok (.iload_n 1, 1) := by decide +kernel
theorem dX11_lies_1 : decode cX11_lies 1 = .ok (.iconst 0, 1) := by decide +kernel
theorem dX11_lies_2 : decode cX11_lies 2 = .ok (.aload_n 0, 1) := by decide +kernel
theorem dX11_lies_3 : decode cX11_lies 3 = .ok (.getfield 391, 3) := by decide +kernel
theorem dX11_lies_6 : decode cX11_lies 6 = .ok (.iconst 1, 1) := by decide +kernel
theorem dX11_lies_7 : decode cX11_lies 7 = .ok (.isub, 1) := by decide +kernel
theorem dX11_lies_8 : decode cX11_lies 8 = .ok (.invokestatic 366, 3) := by decide +kernel
theorem dX11_lies_11 : decode cX11_lies 11 = .ok (.ifCond .eq 12, 3) := by decide +kernel
theorem dX11_lies_14 : decode cX11_lies 14 = .ok (.aload_n 0, 1) := by decide +kernel
theorem dX11_lies_15 : decode cX11_lies 15 = .ok (.getfield 103, 3) := by decide +kernel
theorem dX11_lies_18 : decode cX11_lies 18 = .ok (.iload_n 1, 1) := by decide +kernel
theorem dX11_lies_19 : decode cX11_lies 19 = .ok (.iaload, 1) := by decide +kernel
theorem dX11_lies_20 : decode cX11_lies 20 = .ok (.goto 5, 3) := by decide +kernel
theorem dX11_lies_23 : decode cX11_lies 23 = .ok (.bipush (-2), 2) := by decide +kernel
theorem dX11_lies_25 : decode cX11_lies 25 = .ok (.ireturn, 1) := by decide +kernel
theorem dX11_keepNow_0 : decode cX11_keepNow 0 = .ok (.iconst 0, 1) := by decide +kernel
theorem dX11_keepNow_1 : decode cX11_keepNow 1 = .ok (.istore_n 1, 1) := by decide +kernel
theorem dX11_keepNow_2 : decode cX11_keepNow 2 = .ok (.iload_n 1, 1) := by decide +kernel
theorem dX11_keepNow_3 : decode cX11_keepNow 3 = .ok (.bipush 24, 2) := by decide +kernel
theorem dX11_keepNow_5 : decode cX11_keepNow 5 = .ok (.if_icmp .ge 21, 3) := by decide +kernel
theorem dX11_keepNow_8 : decode cX11_keepNow 8 = .ok (.aload_n 0, 1) := by decide +kernel
theorem dX11_keepNow_9 : decode cX11_keepNow 9 = .ok (.getfield 100, 3) := by decide +kernel
theorem dX11_keepNow_12 : decode cX11_keepNow 12 = .ok (.iload_n 1, 1) := by decide +kernel
theorem dX11_keepNow_13 : decode cX11_keepNow 13 = .ok (.aload_n 0, 1) := by decide +kernel
theorem dX11_keepNow_14 : decode cX11_keepNow 14 = .ok (.getfield 91, 3) := by decide +kernel
theorem dX11_keepNow_17 : decode cX11_keepNow 17 = .ok (.iload_n 1, 1) := by decide +kernel
theorem dX11_keepNow_18 : decode cX11_keepNow 18 = .ok (.iaload, 1) := by decide +kernel
theorem dX11_keepNow_19 : decode cX11_keepNow 19 = .ok (.iastore, 1) := by decide +kernel
theorem dX11_keepNow_20 : decode cX11_keepNow 20 = .ok (.iinc 1 1, 3) := by decide +kernel
theorem dX11_keepNow_23 : decode cX11_keepNow 23 = .ok (.goto (-21), 3) := by decide +kernel
theorem dX11_keepNow_26 : decode cX11_keepNow 26 = .ok (.return_, 1) := by decide +kernel
theorem dX11_bringBack_0 : decode cX11_bringBack 0 = .ok (.iconst 0, 1) := by decide +kernel
theorem dX11_bringBack_1 : decode cX11_bringBack 1 = .ok (.istore_n 1, 1) := by decide +kernel
theorem dX11_bringBack_2 : decode cX11_bringBack 2 = .ok (.iload_n 1, 1) := by decide +kernel
theorem dX11_bringBack_3 : decode cX11_bringBack 3 = .ok (.bipush 24, 2) := by decide +kernel
theorem dX11_bringBack_5 : decode cX11_bringBack 5 = .ok (.if_icmp .ge 21, 3) := by decide +kernel
theorem dX11_bringBack_8 : decode cX11_bringBack 8 = .ok (.aload_n 0, 1) := by decide +kernel
theorem dX11_bringBack_9 : decode cX11_bringBack 9 = .ok (.getfield 91, 3) := by decide +kernel
theorem dX11_bringBack_12 : decode cX11_bringBack 12 = .ok (.iload_n 1, 1) := by decide +kernel
theorem dX11_bringBack_13 : decode cX11_bringBack 13 = .ok (.aload_n 0, 1) := by decide +kernel
theorem dX11_bringBack_14 : decode cX11_bringBack 14 = .ok (.getfield 100, 3) := by decide +kernel
theorem dX11_bringBack_17 : decode cX11_bringBack 17 = .ok (.iload_n 1, 1) := by decide +kernel
theorem dX11_bringBack_18 : decode cX11_bringBack 18 = .ok (.iaload, 1) := by decide +kernel
theorem dX11_bringBack_19 : decode cX11_bringBack 19 = .ok (.iastore, 1) := by decide +kernel
theorem dX11_bringBack_20 : decode cX11_bringBack 20 = .ok (.iinc 1 1, 3) := by decide +kernel
theorem dX11_bringBack_23 : decode cX11_bringBack 23 = .ok (.goto (-21), 3) := by decide +kernel
theorem dX11_bringBack_26 : decode cX11_bringBack 26 = .ok (.return_, 1) := by decide +kernel
theorem dX11_upAtLast_0 : decode cX11_upAtLast 0 = .ok (.iconst 0, 1) := by decide +kernel
theorem dX11_upAtLast_1 : decode cX11_upAtLast 1 = .ok (.istore_n 3, 1) := by decide +kernel
theorem dX11_upAtLast_2 : decode cX11_upAtLast 2 = .ok (.iload_n 3, 1) := by decide +kernel
theorem dX11_upAtLast_3 : decode cX11_upAtLast 3 = .ok (.bipush 8, 2) := by decide +kernel
theorem dX11_upAtLast_5 : decode cX11_upAtLast 5 = .ok (.if_icmp .ge 16, 3) := by decide +kernel
theorem dX11_upAtLast_8 : decode cX11_upAtLast 8 = .ok (.aload_n 0, 1) := by decide +kernel
theorem dX11_upAtLast_9 : decode cX11_upAtLast 9 = .ok (.getfield 106, 3) := by decide +kernel
theorem dX11_upAtLast_12 : decode cX11_upAtLast 12 = .ok (.iload_n 3, 1) := by decide +kernel
theorem dX11_upAtLast_13 : decode cX11_upAtLast 13 = .ok (.iconst 0, 1) := by decide +kernel
theorem dX11_upAtLast_14 : decode cX11_upAtLast 14 = .ok (.iastore, 1) := by decide +kernel
theorem dX11_upAtLast_15 : decode cX11_upAtLast 15 = .ok (.iinc 3 1, 3) := by decide +kernel
theorem dX11_upAtLast_18 : decode cX11_upAtLast 18 = .ok (.goto (-16), 3) := by decide +kernel
theorem dX11_upAtLast_21 : decode cX11_upAtLast 21 = .ok (.aload_n 0, 1) := by decide +kernel
theorem dX11_upAtLast_22 : decode cX11_upAtLast 22 = .ok (.getfield 91, 3) := by decide +kernel
theorem dX11_upAtLast_25 : decode cX11_upAtLast 25 = .ok (.bipush 21, 2) := by decide +kernel
theorem dX11_upAtLast_27 : decode cX11_upAtLast 27 = .ok (.iaload, 1) := by decide +kernel
theorem dX11_upAtLast_28 : decode cX11_upAtLast 28 = .ok (.aload_n 0, 1) := by decide +kernel
theorem dX11_upAtLast_29 : decode cX11_upAtLast 29 = .ok (.invokevirtual 430, 3) := by decide +kernel
theorem dX11_upAtLast_32 : decode cX11_upAtLast 32 = .ok (.if_icmp .ge 52, 3) := by decide +kernel
theorem dX11_upAtLast_35 : decode cX11_upAtLast 35 = .ok (.aload_n 0, 1) := by decide +kernel
theorem dX11_upAtLast_36 : decode cX11_upAtLast 36 = .ok (.getfield 91, 3) := by decide +kernel
theorem dX11_upAtLast_39 : decode cX11_upAtLast 39 = .ok (.bipush 21, 2) := by decide +kernel
theorem dX11_upAtLast_41 : decode cX11_upAtLast 41 = .ok (.iaload, 1) := by decide +kernel
theorem dX11_upAtLast_42 : decode cX11_upAtLast 42 = .ok (.istore_n 3, 1) := by decide +kernel
theorem dX11_upAtLast_43 : decode cX11_upAtLast 43 = .ok (.aload_n 0, 1) := by decide +kernel
theorem dX11_upAtLast_44 : decode cX11_upAtLast 44 = .ok (.getfield 106, 3) := by decide +kernel
theorem dX11_upAtLast_47 : decode cX11_upAtLast 47 = .ok (.iload_n 3, 1) := by decide +kernel
theorem dX11_upAtLast_48 : decode cX11_upAtLast 48 = .ok (.aload_n 0, 1) := by decide +kernel
theorem dX11_upAtLast_49 : decode cX11_upAtLast 49 = .ok (.iload_n 1, 1) := by decide +kernel
theorem dX11_upAtLast_50 : decode cX11_upAtLast 50 = .ok (.iload_n 2, 1) := by decide +kernel
theorem dX11_upAtLast_51 : decode cX11_upAtLast 51 = .ok (.iload_n 3, 1) := by decide +kernel
theorem dX11_upAtLast_52 : decode cX11_upAtLast 52 = .ok (.invokestatic 272, 3) := by decide +kernel
theorem dX11_upAtLast_55 : decode cX11_upAtLast 55 = .ok (.ifCond .eq 20, 3) := by decide +kernel
theorem dX11_upAtLast_58 : decode cX11_upAtLast 58 = .ok (.aload_n 0, 1) := by decide +kernel
theorem dX11_upAtLast_59 : decode cX11_upAtLast 59 = .ok (.getfield 48, 3) := by decide +kernel
theorem dX11_upAtLast_62 : decode cX11_upAtLast 62 = .ok (.bipush 8, 2) := by decide +kernel
theorem dX11_upAtLast_64 : decode cX11_upAtLast 64 = .ok (.aload_n 0, 1) := by decide +kernel
theorem dX11_upAtLast_65 : decode cX11_upAtLast 65 = .ok (.getfield 266, 3) := by decide +kernel
theorem dX11_upAtLast_68 : decode cX11_upAtLast 68 = .ok (.imul, 1) := by decide +kernel
theorem dX11_upAtLast_69 : decode cX11_upAtLast 69 = .ok (.iload_n 3, 1) := by decide +kernel
theorem dX11_upAtLast_70 : decode cX11_upAtLast 70 = .ok (.iadd, 1) := by decide +kernel
theorem dX11_upAtLast_71 : decode cX11_upAtLast 71 = .ok (.iaload, 1) := by decide +kernel
theorem dX11_upAtLast_72 : decode cX11_upAtLast 72 = .ok (.goto 4, 3) := by decide +kernel
theorem dX11_upAtLast_75 : decode cX11_upAtLast 75 = .ok (.iconst 0, 1) := by decide +kernel
theorem dX11_upAtLast_76 : decode cX11_upAtLast 76 = .ok (.iadd, 1) := by decide +kernel
theorem dX11_upAtLast_77 : decode cX11_upAtLast 77 = .ok (.invokevirtual 424, 3) := by decide +kernel
theorem dX11_upAtLast_80 : decode cX11_upAtLast 80 = .ok (.iastore, 1) := by decide +kernel
theorem dX11_upAtLast_81 : decode cX11_upAtLast 81 = .ok (.goto (-60), 3) := by decide +kernel
theorem dX11_upAtLast_84 : decode cX11_upAtLast 84 = .ok (.aload_n 0, 1) := by decide +kernel
theorem dX11_upAtLast_85 : decode cX11_upAtLast 85 = .ok (.getfield 91, 3) := by decide +kernel
theorem dX11_upAtLast_88 : decode cX11_upAtLast 88 = .ok (.bipush 20, 2) := by decide +kernel
theorem dX11_upAtLast_90 : decode cX11_upAtLast 90 = .ok (.iaload, 1) := by decide +kernel
theorem dX11_upAtLast_91 : decode cX11_upAtLast 91 = .ok (.istore_n 3, 1) := by decide +kernel
theorem dX11_upAtLast_92 : decode cX11_upAtLast 92 = .ok (.aload_n 0, 1) := by decide +kernel
theorem dX11_upAtLast_93 : decode cX11_upAtLast 93 = .ok (.invokevirtual 446, 3) := by decide +kernel
theorem dX11_upAtLast_96 : decode cX11_upAtLast 96 = .ok (.iload_n 3, 1) := by decide +kernel
theorem dX11_upAtLast_97 : decode cX11_upAtLast 97 = .ok (.ireturn, 1) := by decide +kernel
theorem dX11_roundNow_0 : decode cX11_roundNow 0 = .ok (.aload_n 0, 1) := by decide +kernel
theorem dX11_roundNow_1 : decode cX11_roundNow 1 = .ok (.invokevirtual 449, 3) := by decide +kernel
theorem dX11_roundNow_4 : decode cX11_roundNow 4 = .ok (.aload_n 0, 1) := by decide +kernel
theorem dX11_roundNow_5 : decode cX11_roundNow 5 = .ok (.iconst 0, 1) := by decide +kernel
theorem dX11_roundNow_6 : decode cX11_roundNow 6 = .ok (.iconst 0, 1) := by decide +kernel
theorem dX11_roundNow_7 : decode cX11_roundNow 7 = .ok (.invokevirtual 452, 3) := by decide +kernel
theorem dX11_roundNow_10 : decode cX11_roundNow 10 = .ok (.ireturn, 1) := by decide +kernel
theorem dX11_will_0 : decode cX11_will 0 = .ok (.iload_n 1, 1) := by decide +kernel
theorem dX11_will_1 : decode cX11_will 1 = .ok (.iconst 0, 1) := by decide +kernel
theorem dX11_will_2 : decode cX11_will 2 = .ok (.bipush 8, 2) := by decide +kernel
theorem dX11_will_4 : decode cX11_will 4 = .ok (.invokestatic 366, 3) := by decide +kernel
theorem dX11_will_7 : decode cX11_will 7 = .ok (.ifCond .eq 12, 3) := by decide +kernel
theorem dX11_will_10 : decode cX11_will 10 = .ok (.iload_n 2, 1) := by decide +kernel
theorem dX11_will_11 : decode cX11_will 11 = .ok (.iconst 0, 1) := by decide +kernel
theorem dX11_will_12 : decode cX11_will 12 = .ok (.iconst 1, 1) := by decide +kernel
theorem dX11_will_13 : decode cX11_will 13 = .ok (.invokestatic 366, 3) := by decide +kernel
theorem dX11_will_16 : decode cX11_will 16 = .ok (.ifCond .ne 5, 3) := by decide +kernel
theorem dX11_will_19 : decode cX11_will 19 = .ok (.iconst (-1), 1) := by decide +kernel
theorem dX11_will_20 : decode cX11_will 20 = .ok (.ireturn, 1) := by decide +kernel
theorem dX11_will_21 : decode cX11_will 21 = .ok (.aload_n 0, 1) := by decide +kernel
theorem dX11_will_22 : decode cX11_will 22 = .ok (.invokevirtual 449, 3) := by decide +kernel
theorem dX11_will_25 : decode cX11_will 25 = .ok (.iconst 0, 1) := by decide +kernel
theorem dX11_will_26 : decode cX11_will 26 = .ok (.istore_n 3, 1) := by decide +kernel
theorem dX11_will_27 : decode cX11_will 27 = .ok (.iconst 0, 1) := by decide +kernel
theorem dX11_will_28 : decode cX11_will 28 = .ok (.istore 4, 2) := by decide +kernel
theorem dX11_will_30 : decode cX11_will 30 = .ok (.iload 4, 2) := by decide +kernel
theorem dX11_will_32 : decode cX11_will 32 = .ok (.iload_n 1, 1) := by decide +kernel
theorem dX11_will_33 : decode cX11_will 33 = .ok (.if_icmp .ge 41, 3) := by decide +kernel
theorem dX11_will_36 : decode cX11_will 36 = .ok (.aload_n 0, 1) := by decide +kernel
theorem dX11_will_37 : decode cX11_will 37 = .ok (.getfield 91, 3) := by decide +kernel
theorem dX11_will_40 : decode cX11_will 40 = .ok (.bipush 21, 2) := by decide +kernel
theorem dX11_will_42 : decode cX11_will 42 = .ok (.iaload, 1) := by decide +kernel
theorem dX11_will_43 : decode cX11_will 43 = .ok (.aload_n 0, 1) := by decide +kernel
theorem dX11_will_44 : decode cX11_will 44 = .ok (.invokevirtual 430, 3) := by decide +kernel
theorem dX11_will_47 : decode cX11_will 47 = .ok (.if_icmp .ge 27, 3) := by decide +kernel
theorem dX11_will_50 : decode cX11_will 50 = .ok (.iload_n 2, 1) := by decide +kernel
theorem dX11_will_51 : decode cX11_will 51 = .ok (.iconst 1, 1) := by decide +kernel
theorem dX11_will_52 : decode cX11_will 52 = .ok (.if_icmp .ne 10, 3) := by decide +kernel
theorem dX11_will_55 : decode cX11_will 55 = .ok (.aload_n 0, 1) := by decide +kernel
theorem dX11_will_56 : decode cX11_will 56 = .ok (.invokevirtual 437, 3) := by decide +kernel
theorem dX11_will_59 : decode cX11_will 59 = .ok (.goto 8, 3) := by decide +kernel
theorem dX11_will_62 : decode cX11_will 62 = .ok (.aload_n 0, 1) := by decide +kernel
theorem dX11_will_63 : decode cX11_will 63 = .ok (.iconst 0, 1) := by decide +kernel
theorem dX11_will_64 : decode cX11_will 64 = .ok (.invokevirtual 424, 3) := by decide +kernel
theorem dX11_will_67 : decode cX11_will 67 = .ok (.istore_n 3, 1) := by decide +kernel
theorem dX11_will_68 : decode cX11_will 68 = .ok (.iinc 4 1, 3) := by decide +kernel
theorem dX11_will_71 : decode cX11_will 71 = .ok (.goto (-41), 3) := by decide +kernel
theorem dX11_will_74 : decode cX11_will 74 = .ok (.aload_n 0, 1) := by decide +kernel
theorem dX11_will_75 : decode cX11_will 75 = .ok (.getfield 91, 3) := by decide +kernel
theorem dX11_will_78 : decode cX11_will 78 = .ok (.bipush 20, 2) := by decide +kernel
theorem dX11_will_80 : decode cX11_will 80 = .ok (.iaload, 1) := by decide +kernel
theorem dX11_will_81 : decode cX11_will 81 = .ok (.istore_n 3, 1) := by decide +kernel
theorem dX11_will_82 : decode cX11_will 82 = .ok (.aload_n 0, 1) := by decide +kernel
theorem dX11_will_83 : decode cX11_will 83 = .ok (.invokevirtual 446, 3) := by decide +kernel
theorem dX11_will_86 : decode cX11_will 86 = .ok (.iload_n 3, 1) := by decide +kernel
theorem dX11_will_87 : decode cX11_will 87 = .ok (.ireturn, 1) := by decide +kernel
theorem dX11_far_0 : decode cX11_far 0 = .ok (.aload_n 0, 1) := by decide +kernel
theorem dX11_far_1 : decode cX11_far 1 = .ok (.iload_n 1, 1) := by decide +kernel
theorem dX11_far_2 : decode cX11_far 2 = .ok (.invokevirtual 370, 3) := by decide +kernel
theorem dX11_far_5 : decode cX11_far 5 = .ok (.ifCond .ne 5, 3) := by decide +kernel
theorem dX11_far_8 : decode cX11_far 8 = .ok (.iconst (-1), 1) := by decide +kernel
theorem dX11_far_9 : decode cX11_far 9 = .ok (.ireturn, 1) := by decide +kernel
theorem dX11_far_10 : decode cX11_far 10 = .ok (.aload_n 0, 1) := by decide +kernel
theorem dX11_far_11 : decode cX11_far 11 = .ok (.invokevirtual 455, 3) := by decide +kernel
theorem dX11_far_14 : decode cX11_far 14 = .ok (.istore_n 2, 1) := by decide +kernel
theorem dX11_far_15 : decode cX11_far 15 = .ok (.aload_n 0, 1) := by decide +kernel
theorem dX11_far_16 : decode cX11_far 16 = .ok (.iload_n 1, 1) := by decide +kernel
theorem dX11_far_17 : decode cX11_far 17 = .ok (.invokevirtual 376, 3) := by decide +kernel
theorem dX11_far_20 : decode cX11_far 20 = .ok (.ifCond .ne 11, 3) := by decide +kernel
theorem dX11_far_23 : decode cX11_far 23 = .ok (.aload_n 0, 1) := by decide +kernel
theorem dX11_far_24 : decode cX11_far 24 = .ok (.getfield 91, 3) := by decide +kernel
theorem dX11_far_27 : decode cX11_far 27 = .ok (.bipush 21, 2) := by decide +kernel
theorem dX11_far_29 : decode cX11_far 29 = .ok (.iaload, 1) := by decide +kernel
theorem dX11_far_30 : decode cX11_far 30 = .ok (.ireturn, 1) := by decide +kernel
theorem dX11_far_31 : decode cX11_far 31 = .ok (.iconst 0, 1) := by decide +kernel
theorem dX11_far_32 : decode cX11_far 32 = .ok (.istore_n 3, 1) := by decide +kernel
theorem dX11_far_33 : decode cX11_far 33 = .ok (.iload_n 3, 1) := by decide +kernel
theorem dX11_far_34 : decode cX11_far 34 = .ok (.aload_n 0, 1) := by decide +kernel
theorem dX11_far_35 : decode cX11_far 35 = .ok (.invokevirtual 430, 3) := by decide +kernel
theorem dX11_far_38 : decode cX11_far 38 = .ok (.if_icmp .ge 24, 3) := by decide +kernel
theorem dX11_far_41 : decode cX11_far 41 = .ok (.aload_n 0, 1) := by decide +kernel
theorem dX11_far_42 : decode cX11_far 42 = .ok (.getfield 106, 3) := by decide +kernel
theorem dX11_far_45 : decode cX11_far 45 = .ok (.iload_n 3, 1) := by decide +kernel
theorem dX11_far_46 : decode cX11_far 46 = .ok (.iaload, 1) := by decide +kernel
theorem dX11_far_47 : decode cX11_far 47 = .ok (.iload_n 1, 1) := by decide +kernel
theorem dX11_far_48 : decode cX11_far 48 = .ok (.invokestatic 272, 3) := by decide +kernel
theorem dX11_far_51 : decode cX11_far 51 = .ok (.ifCond .eq 5, 3) := by decide +kernel
theorem dX11_far_54 : decode cX11_far 54 = .ok (.iload_n 3, 1) := by decide +kernel
theorem dX11_far_55 : decode cX11_far 55 = .ok (.ireturn, 1) := by decide +kernel
theorem dX11_far_56 : decode cX11_far 56 = .ok (.iinc 3 1, 3) := by decide +kernel
theorem dX11_far_59 : decode cX11_far 59 = .ok (.goto (-26), 3) := by decide +kernel
theorem dX11_far_62 : decode cX11_far 62 = .ok (.aload_n 0, 1) := by decide +kernel
theorem dX11_far_63 : decode cX11_far 63 = .ok (.invokevirtual 430, 3) := by decide +kernel
theorem dX11_far_66 : decode cX11_far 66 = .ok (.ireturn, 1) := by decide +kernel
theorem dX11_worst_0 : decode cX11_worst 0 = .ok (.aload_n 0, 1) := by decide +kernel
theorem dX11_worst_1 : decode cX11_worst 1 = .ok (.invokevirtual 455, 3) := by decide +kernel
theorem dX11_worst_4 : decode cX11_worst 4 = .ok (.istore_n 1, 1) := by decide +kernel
theorem dX11_worst_5 : decode cX11_worst 5 = .ok (.iconst (-1), 1) := by decide +kernel
theorem dX11_worst_6 : decode cX11_worst 6 = .ok (.istore_n 2, 1) := by decide +kernel
theorem dX11_worst_7 : decode cX11_worst 7 = .ok (.iconst 0, 1) := by decide +kernel
theorem dX11_worst_8 : decode cX11_worst 8 = .ok (.istore_n 3, 1) := by decide +kernel
theorem dX11_worst_9 : decode cX11_worst 9 = .ok (.iload_n 3, 1) := by decide +kernel
theorem dX11_worst_10 : decode cX11_worst 10 = .ok (.aload_n 0, 1) := by decide +kernel
theorem dX11_worst_11 : decode cX11_worst 11 = .ok (.invokevirtual 430, 3) := by decide +kernel
theorem dX11_worst_14 : decode cX11_worst 14 = .ok (.if_icmp .ge 45, 3) := by decide +kernel
theorem dX11_worst_17 : decode cX11_worst 17 = .ok (.aload_n 0, 1) := by decide +kernel
theorem dX11_worst_18 : decode cX11_worst 18 = .ok (.getfield 106, 3) := by decide +kernel
theorem dX11_worst_21 : decode cX11_worst 21 = .ok (.iload_n 3, 1) := by decide +kernel
theorem dX11_worst_22 : decode cX11_worst 22 = .ok (.iaload, 1) := by decide +kernel
theorem dX11_worst_23 : decode cX11_worst 23 = .ok (.ifCond .eq 30, 3) := by decide +kernel
theorem dX11_worst_26 : decode cX11_worst 26 = .ok (.iload_n 2, 1) := by decide +kernel
theorem dX11_worst_27 : decode cX11_worst 27 = .ok (.ifCond .lt 24, 3) := by decide +kernel
theorem dX11_worst_30 : decode cX11_worst 30 = .ok (.aload_n 0, 1) := by decide +kernel
theorem dX11_worst_31 : decode cX11_worst 31 = .ok (.getfield 106, 3) := by decide +kernel
theorem dX11_worst_34 : decode cX11_worst 34 = .ok (.iload_n 3, 1) := by decide +kernel
theorem dX11_worst_35 : decode cX11_worst 35 = .ok (.iaload, 1) := by decide +kernel
theorem dX11_worst_36 : decode cX11_worst 36 = .ok (.invokestatic 458, 3) := by decide +kernel
theorem dX11_worst_39 : decode cX11_worst 39 = .ok (.aload_n 0, 1) := by decide +kernel
theorem dX11_worst_40 : decode cX11_worst 40 = .ok (.getfield 106, 3) := by decide +kernel
theorem dX11_worst_43 : decode cX11_worst 43 = .ok (.iload_n 2, 1) := by decide +kernel
theorem dX11_worst_44 : decode cX11_worst 44 = .ok (.iaload, 1) := by decide +kernel
theorem dX11_worst_45 : decode cX11_worst 45 = .ok (.invokestatic 458, 3) := by decide +kernel
theorem dX11_worst_48 : decode cX11_worst 48 = .ok (.if_icmp .le 5, 3) := by decide +kernel
theorem dX11_worst_51 : decode cX11_worst 51 = .ok (.iload_n 3, 1) := by decide +kernel
theorem dX11_worst_52 : decode cX11_worst 52 = .ok (.istore_n 2, 1) := by decide +kernel
theorem dX11_worst_53 : decode cX11_worst 53 = .ok (.iinc 3 1, 3) := by decide +kernel
theorem dX11_worst_56 : decode cX11_worst 56 = .ok (.goto (-47), 3) := by decide +kernel
theorem dX11_worst_59 : decode cX11_worst 59 = .ok (.iload_n 2, 1) := by decide +kernel
theorem dX11_worst_60 : decode cX11_worst 60 = .ok (.ireturn, 1) := by decide +kernel
theorem dX11_upWithReef_0 : decode cX11_upWithReef 0 = .ok (.aload_n 0, 1) := by decide +kernel
theorem dX11_upWithReef_1 : decode cX11_upWithReef 1 = .ok (.invokevirtual 449, 3) := by decide +kernel
theorem dX11_upWithReef_4 : decode cX11_upWithReef 4 = .ok (.aload_n 0, 1) := by decide +kernel
theorem dX11_upWithReef_5 : decode cX11_upWithReef 5 = .ok (.getfield 91, 3) := by decide +kernel
theorem dX11_upWithReef_8 : decode cX11_upWithReef 8 = .ok (.iconst 5, 1) := by decide +kernel
theorem dX11_upWithReef_9 : decode cX11_upWithReef 9 = .ok (.iload_n 1, 1) := by decide +kernel
theorem dX11_upWithReef_10 : decode cX11_upWithReef 10 = .ok (.iadd, 1) := by decide +kernel
theorem dX11_upWithReef_11 : decode cX11_upWithReef 11 = .ok (.iload_n 2, 1) := by decide +kernel
theorem dX11_upWithReef_12 : decode cX11_upWithReef 12 = .ok (.iastore, 1) := by decide +kernel
theorem dX11_upWithReef_13 : decode cX11_upWithReef 13 = .ok (.aload_n 0, 1) := by decide +kernel
theorem dX11_upWithReef_14 : decode cX11_upWithReef 14 = .ok (.iconst 0, 1) := by decide +kernel
theorem dX11_upWithReef_15 : decode cX11_upWithReef 15 = .ok (.iconst 0, 1) := by decide +kernel
theorem dX11_upWithReef_16 : decode cX11_upWithReef 16 = .ok (.invokevirtual 452, 3) := by decide +kernel
theorem dX11_upWithReef_19 : decode cX11_upWithReef 19 = .ok (.ireturn, 1) := by decide +kernel
theorem dX11_least_0 : decode cX11_least 0 = .ok (.aload_n 0, 1) := by decide +kernel
theorem dX11_least_1 : decode cX11_least 1 = .ok (.iload_n 1, 1) := by decide +kernel
theorem dX11_least_2 : decode cX11_least 2 = .ok (.invokevirtual 403, 3) := by decide +kernel
theorem dX11_least_5 : decode cX11_least 5 = .ok (.ifCond .ne 5, 3) := by decide +kernel
theorem dX11_least_8 : decode cX11_least 8 = .ok (.iconst (-1), 1) := by decide +kernel
theorem dX11_least_9 : decode cX11_least 9 = .ok (.ireturn, 1) := by decide +kernel
theorem dX11_least_10 : decode cX11_least 10 = .ok (.iconst 0, 1) := by decide +kernel
theorem dX11_least_11 : decode cX11_least 11 = .ok (.istore_n 2, 1) := by decide +kernel
theorem dX11_least_12 : decode cX11_least 12 = .ok (.iload_n 2, 1) := by decide +kernel
theorem dX11_least_13 : decode cX11_least 13 = .ok (.bipush 20, 2) := by decide +kernel
theorem dX11_least_15 : decode cX11_least 15 = .ok (.if_icmp .gt 24, 3) := by decide +kernel
theorem dX11_least_18 : decode cX11_least 18 = .ok (.aload_n 0, 1) := by decide +kernel
theorem dX11_least_19 : decode cX11_least 19 = .ok (.iload_n 1, 1) := by decide +kernel
theorem dX11_least_20 : decode cX11_least 20 = .ok (.iload_n 2, 1) := by decide +kernel
theorem dX11_least_21 : decode cX11_least 21 = .ok (.invokevirtual 461, 3) := by decide +kernel
theorem dX11_least_24 : decode cX11_least 24 = .ok (.iload_n 1, 1) := by decide +kernel
theorem dX11_least_25 : decode cX11_least 25 = .ok (.invokestatic 272, 3) := by decide +kernel
theorem dX11_least_28 : decode cX11_least 28 = .ok (.ifCond .eq 5, 3) := by decide +kernel
theorem dX11_least_31 : decode cX11_least 31 = .ok (.iload_n 2, 1) := by decide +kernel
theorem dX11_least_32 : decode cX11_least 32 = .ok (.ireturn, 1) := by decide +kernel
theorem dX11_least_33 : decode cX11_least 33 = .ok (.iinc 2 1, 3) := by decide +kernel
theorem dX11_least_36 : decode cX11_least 36 = .ok (.goto (-24), 3) := by decide +kernel
theorem dX11_least_39 : decode cX11_least 39 = .ok (.iconst (-1), 1) := by decide +kernel
theorem dX11_least_40 : decode cX11_least 40 = .ok (.ireturn, 1) := by decide +kernel
theorem dX11_bearers_0 : decode cX11_bearers 0 = .ok (.iconst 0, 1) := by decide +kernel
theorem dX11_bearers_1 : decode cX11_bearers 1 = .ok (.istore_n 1, 1) := by decide +kernel
theorem dX11_bearers_2 : decode cX11_bearers 2 = .ok (.iconst 0, 1) := by decide +kernel
theorem dX11_bearers_3 : decode cX11_bearers 3 = .ok (.istore_n 2, 1) := by decide +kernel
theorem dX11_bearers_4 : decode cX11_bearers 4 = .ok (.iload_n 2, 1) := by decide +kernel
theorem dX11_bearers_5 : decode cX11_bearers 5 = .ok (.aload_n 0, 1) := by decide +kernel
theorem dX11_bearers_6 : decode cX11_bearers 6 = .ok (.invokevirtual 363, 3) := by decide +kernel
theorem dX11_bearers_9 : decode cX11_bearers 9 = .ok (.if_icmp .ge 23, 3) := by decide +kernel
theorem dX11_bearers_12 : decode cX11_bearers 12 = .ok (.aload_n 0, 1) := by decide +kernel
theorem dX11_bearers_13 : decode cX11_bearers 13 = .ok (.iload_n 2, 1) := by decide +kernel
theorem dX11_bearers_14 : decode cX11_bearers 14 = .ok (.invokevirtual 403, 3) := by decide +kernel
theorem dX11_bearers_17 : decode cX11_bearers 17 = .ok (.ifCond .eq 9, 3) := by decide +kernel
theorem dX11_bearers_20 : decode cX11_bearers 20 = .ok (.iload_n 1, 1) := by decide +kernel
theorem dX11_bearers_21 : decode cX11_bearers 21 = .ok (.iconst 1, 1) := by decide +kernel
theorem dX11_bearers_22 : decode cX11_bearers 22 = .ok (.iload_n 2, 1) := by decide +kernel
theorem dX11_bearers_23 : decode cX11_bearers 23 = .ok (.ishl, 1) := by decide +kernel
theorem dX11_bearers_24 : decode cX11_bearers 24 = .ok (.ior, 1) := by decide +kernel
theorem dX11_bearers_25 : decode cX11_bearers 25 = .ok (.istore_n 1, 1) := by decide +kernel
theorem dX11_bearers_26 : decode cX11_bearers 26 = .ok (.iinc 2 1, 3) := by decide +kernel
theorem dX11_bearers_29 : decode cX11_bearers 29 = .ok (.goto (-25), 3) := by decide +kernel
theorem dX11_bearers_32 : decode cX11_bearers 32 = .ok (.iload_n 1, 1) := by decide +kernel
theorem dX11_bearers_33 : decode cX11_bearers 33 = .ok (.ireturn, 1) := by decide +kernel
theorem dX11_reefBy_0 : decode cX11_reefBy 0 = .ok (.iload_n 1, 1) := by decide +kernel
theorem dX11_reefBy_1 : decode cX11_reefBy 1 = .ok (.iconst 4, 1) := by decide +kernel
theorem dX11_reefBy_2 : decode cX11_reefBy 2 = .ok (.aload_n 0, 1) := by decide +kernel
theorem dX11_reefBy_3 : decode cX11_reefBy 3 = .ok (.invokevirtual 363, 3) := by decide +kernel
theorem dX11_reefBy_6 : decode cX11_reefBy 6 = .ok (.iconst 1, 1) := by decide +kernel
theorem dX11_reefBy_7 : decode cX11_reefBy 7 = .ok (.isub, 1) := by decide +kernel
theorem dX11_reefBy_8 : decode cX11_reefBy 8 = .ok (.iload_n 2, 1) := by decide +kernel
theorem dX11_reefBy_9 : decode cX11_reefBy 9 = .ok (.isub, 1) := by decide +kernel
theorem dX11_reefBy_10 : decode cX11_reefBy 10 = .ok (.invokestatic 464, 3) := by decide +kernel
theorem dX11_reefBy_13 : decode cX11_reefBy 13 = .ok (.idiv, 1) := by decide +kernel
theorem dX11_reefBy_14 : decode cX11_reefBy 14 = .ok (.iconst 4, 1) := by decide +kernel
theorem dX11_reefBy_15 : decode cX11_reefBy 15 = .ok (.irem, 1) := by decide +kernel
theorem dX11_reefBy_16 : decode cX11_reefBy 16 = .ok (.ireturn, 1) := by decide +kernel
theorem dX11_clothBy_0 : decode cX11_clothBy 0 = .ok (.aload_n 0, 1) := by decide +kernel
theorem dX11_clothBy_1 : decode cX11_clothBy 1 = .ok (.invokevirtual 467, 3) := by decide +kernel
theorem dX11_clothBy_4 : decode cX11_clothBy 4 = .ok (.istore_n 2, 1) := by decide +kernel
theorem dX11_clothBy_5 : decode cX11_clothBy 5 = .ok (.iconst 0, 1) := by decide +kernel
theorem dX11_clothBy_6 : decode cX11_clothBy 6 = .ok (.istore_n 3, 1) := by decide +kernel
theorem dX11_clothBy_7 : decode cX11_clothBy 7 = .ok (.iconst 0, 1) := by decide +kernel
theorem dX11_clothBy_8 : decode cX11_clothBy 8 = .ok (.istore 4, 2) := by decide +kernel
theorem dX11_clothBy_10 : decode cX11_clothBy 10 = .ok (.iload 4, 2) := by decide +kernel
theorem dX11_clothBy_12 : decode cX11_clothBy 12 = .ok (.aload_n 0, 1) := by decide +kernel
theorem dX11_clothBy_13 : decode cX11_clothBy 13 = .ok (.invokevirtual 363, 3) := by decide +kernel
theorem dX11_clothBy_16 : decode cX11_clothBy 16 = .ok (.if_icmp .ge 30, 3) := by decide +kernel
theorem dX11_clothBy_19 : decode cX11_clothBy 19 = .ok (.iload_n 2, 1) := by decide +kernel
theorem dX11_clothBy_20 : decode cX11_clothBy 20 = .ok (.iload 4, 2) := by decide +kernel
theorem dX11_clothBy_22 : decode cX11_clothBy 22 = .ok (.invokestatic 272, 3) := by decide +kernel
theorem dX11_clothBy_25 : decode cX11_clothBy 25 = .ok (.ifCond .ne 15, 3) := by decide +kernel
theorem dX11_clothBy_28 : decode cX11_clothBy 28 = .ok (.aload_n 0, 1) := by decide +kernel
theorem dX11_clothBy_29 : decode cX11_clothBy 29 = .ok (.iload_n 1, 1) := by decide +kernel
theorem dX11_clothBy_30 : decode cX11_clothBy 30 = .ok (.iload 4, 2) := by decide +kernel
theorem dX11_clothBy_32 : decode cX11_clothBy 32 = .ok (.invokevirtual 470, 3) := by decide +kernel
theorem dX11_clothBy_35 : decode cX11_clothBy 35 = .ok (.ifCond .le 5, 3) := by decide +kernel
theorem dX11_clothBy_38 : decode cX11_clothBy 38 = .ok (.iconst (-1), 1) := by decide +kernel
theorem dX11_clothBy_39 : decode cX11_clothBy 39 = .ok (.ireturn, 1) := by decide +kernel
theorem dX11_clothBy_40 : decode cX11_clothBy 40 = .ok (.iinc 4 1, 3) := by decide +kernel
theorem dX11_clothBy_43 : decode cX11_clothBy 43 = .ok (.goto (-33), 3) := by decide +kernel
theorem dX11_clothBy_46 : decode cX11_clothBy 46 = .ok (.aload_n 0, 1) := by decide +kernel
theorem dX11_clothBy_47 : decode cX11_clothBy 47 = .ok (.invokevirtual 449, 3) := by decide +kernel
theorem dX11_clothBy_50 : decode cX11_clothBy 50 = .ok (.iconst 0, 1) := by decide +kernel
theorem dX11_clothBy_51 : decode cX11_clothBy 51 = .ok (.istore 4, 2) := by decide +kernel
theorem dX11_clothBy_53 : decode cX11_clothBy 53 = .ok (.iload 4, 2) := by decide +kernel
theorem dX11_clothBy_55 : decode cX11_clothBy 55 = .ok (.aload_n 0, 1) := by decide +kernel
theorem dX11_clothBy_56 : decode cX11_clothBy 56 = .ok (.invokevirtual 363, 3) := by decide +kernel
theorem dX11_clothBy_59 : decode cX11_clothBy 59 = .ok (.if_icmp .ge 46, 3) := by decide +kernel
theorem dX11_clothBy_62 : decode cX11_clothBy 62 = .ok (.iload_n 2, 1) := by decide +kernel
theorem dX11_clothBy_63 : decode cX11_clothBy 63 = .ok (.iload 4, 2) := by decide +kernel
theorem dX11_clothBy_65 : decode cX11_clothBy 65 = .ok (.invokestatic 272, 3) := by decide +kernel
theorem dX11_clothBy_68 : decode cX11_clothBy 68 = .ok (.ifCond .ne 6, 3) := by decide +kernel
theorem dX11_clothBy_71 : decode cX11_clothBy 71 = .ok (.goto 28, 3) := by decide +kernel
theorem dX11_clothBy_74 : decode cX11_clothBy 74 = .ok (.aload_n 0, 1) := by decide +kernel
theorem dX11_clothBy_75 : decode cX11_clothBy 75 = .ok (.getfield 91, 3) := by decide +kernel
theorem dX11_clothBy_78 : decode cX11_clothBy 78 = .ok (.iconst 5, 1) := by decide +kernel
theorem dX11_clothBy_79 : decode cX11_clothBy 79 = .ok (.iload 4, 2) := by decide +kernel
theorem dX11_clothBy_81 : decode cX11_clothBy 81 = .ok (.iadd, 1) := by decide +kernel
theorem dX11_clothBy_82 : decode cX11_clothBy 82 = .ok (.aload_n 0, 1) := by decide +kernel
theorem dX11_clothBy_83 : decode cX11_clothBy 83 = .ok (.iload_n 1, 1) := by decide +kernel
theorem dX11_clothBy_84 : decode cX11_clothBy 84 = .ok (.iload 4, 2) := by decide +kernel
theorem dX11_clothBy_86 : decode cX11_clothBy 86 = .ok (.invokevirtual 470, 3) := by decide +kernel
theorem dX11_clothBy_89 : decode cX11_clothBy 89 = .ok (.iastore, 1) := by decide +kernel
theorem dX11_clothBy_90 : decode cX11_clothBy 90 = .ok (.iload_n 3, 1) := by decide +kernel
theorem dX11_clothBy_91 : decode cX11_clothBy 91 = .ok (.aload_n 0, 1) := by decide +kernel
theorem dX11_clothBy_92 : decode cX11_clothBy 92 = .ok (.iload 4, 2) := by decide +kernel
theorem dX11_clothBy_94 : decode cX11_clothBy 94 = .ok (.invokevirtual 406, 3) := by decide +kernel
theorem dX11_clothBy_97 : decode cX11_clothBy 97 = .ok (.iadd, 1) := by decide +kernel
theorem dX11_clothBy_98 : decode cX11_clothBy 98 = .ok (.istore_n 3, 1) := by decide +kernel
theorem dX11_clothBy_99 : decode cX11_clothBy 99 = .ok (.iinc 4 1, 3) := by decide +kernel
theorem dX11_clothBy_102 : decode cX11_clothBy 102 = .ok (.goto (-49), 3) := by decide +kernel
theorem dX11_clothBy_105 : decode cX11_clothBy 105 = .ok (.iload_n 2, 1) := by decide +kernel
theorem dX11_clothBy_106 : decode cX11_clothBy 106 = .ok (.aload_n 0, 1) := by decide +kernel
theorem dX11_clothBy_107 : decode cX11_clothBy 107 = .ok (.iconst 0, 1) := by decide +kernel
theorem dX11_clothBy_108 : decode cX11_clothBy 108 = .ok (.iconst 0, 1) := by decide +kernel
theorem dX11_clothBy_109 : decode cX11_clothBy 109 = .ok (.invokevirtual 452, 3) := by decide +kernel
theorem dX11_clothBy_112 : decode cX11_clothBy 112 = .ok (.iconst (-1), 1) := by decide +kernel
theorem dX11_clothBy_113 : decode cX11_clothBy 113 = .ok (.ixor, 1) := by decide +kernel
theorem dX11_clothBy_114 : decode cX11_clothBy 114 = .ok (.iand, 1) := by decide +kernel
theorem dX11_clothBy_115 : decode cX11_clothBy 115 = .ok (.ifCond .ne 7, 3) := by decide +kernel
theorem dX11_clothBy_118 : decode cX11_clothBy 118 = .ok (.iload_n 3, 1) := by decide +kernel
theorem dX11_clothBy_119 : decode cX11_clothBy 119 = .ok (.goto 4, 3) := by decide +kernel
theorem dX11_clothBy_122 : decode cX11_clothBy 122 = .ok (.iconst (-1), 1) := by decide +kernel
theorem dX11_clothBy_123 : decode cX11_clothBy 123 = .ok (.ireturn, 1) := by decide +kernel
theorem dX11_largest_0 : decode cX11_largest 0 = .ok (.aload_n 0, 1) := by decide +kernel
theorem dX11_largest_1 : decode cX11_largest 1 = .ok (.iconst 0, 1) := by decide +kernel
theorem dX11_largest_2 : decode cX11_largest 2 = .ok (.putfield 391, 3) := by decide +kernel
theorem dX11_largest_5 : decode cX11_largest 5 = .ok (.iconst (-1), 1) := by decide +kernel
theorem dX11_largest_6 : decode cX11_largest 6 = .ok (.istore_n 1, 1) := by decide +kernel
theorem dX11_largest_7 : decode cX11_largest 7 = .ok (.iconst 0, 1) := by decide +kernel
theorem dX11_largest_8 : decode cX11_largest 8 = .ok (.istore_n 2, 1) := by decide +kernel
theorem dX11_largest_9 : decode cX11_largest 9 = .ok (.iconst 0, 1) := by decide +kernel
theorem dX11_largest_10 : decode cX11_largest 10 = .ok (.istore_n 3, 1) := by decide +kernel
theorem dX11_largest_11 : decode cX11_largest 11 = .ok (.iload_n 3, 1) := by decide +kernel
theorem dX11_largest_12 : decode cX11_largest 12 = .ok (.iconst 4, 1) := by decide +kernel
theorem dX11_largest_13 : decode cX11_largest 13 = .ok (.aload_n 0, 1) := by decide +kernel
theorem dX11_largest_14 : decode cX11_largest 14 = .ok (.invokevirtual 363, 3) := by decide +kernel
theorem dX11_largest_17 : decode cX11_largest 17 = .ok (.invokestatic 464, 3) := by decide +kernel
theorem dX11_largest_20 : decode cX11_largest 20 = .ok (.if_icmp .ge 30, 3) := by decide +kernel
theorem dX11_largest_23 : decode cX11_largest 23 = .ok (.aload_n 0, 1) := by decide +kernel
theorem dX11_largest_24 : decode cX11_largest 24 = .ok (.iload_n 3, 1) := by decide +kernel
theorem dX11_largest_25 : decode cX11_largest 25 = .ok (.invokevirtual 473, 3) := by decide +kernel
theorem dX11_largest_28 : decode cX11_largest 28 = .ok (.istore 4, 2) := by decide +kernel
theorem dX11_largest_30 : decode cX11_largest 30 = .ok (.iload 4, 2) := by decide +kernel
theorem dX11_largest_32 : decode cX11_largest 32 = .ok (.iload_n 1, 1) := by decide +kernel
theorem dX11_largest_33 : decode cX11_largest 33 = .ok (.if_icmp .gt 6, 3) := by decide +kernel
theorem dX11_largest_36 : decode cX11_largest 36 = .ok (.goto 8, 3) := by decide +kernel
theorem dX11_largest_39 : decode cX11_largest 39 = .ok (.iload 4, 2) := by decide +kernel
theorem dX11_largest_41 : decode cX11_largest 41 = .ok (.istore_n 1, 1) := by decide +kernel
theorem dX11_largest_42 : decode cX11_largest 42 = .ok (.iload_n 3, 1) := by decide +kernel
theorem dX11_largest_43 : decode cX11_largest 43 = .ok (.istore_n 2, 1) := by decide +kernel
theorem dX11_largest_44 : decode cX11_largest 44 = .ok (.iinc 3 1, 3) := by decide +kernel
theorem dX11_largest_47 : decode cX11_largest 47 = .ok (.goto (-36), 3) := by decide +kernel
theorem dX11_largest_50 : decode cX11_largest 50 = .ok (.iload_n 1, 1) := by decide +kernel
theorem dX11_largest_51 : decode cX11_largest 51 = .ok (.ifCond .ge 5, 3) := by decide +kernel
theorem dX11_largest_54 : decode cX11_largest 54 = .ok (.iconst (-1), 1) := by decide +kernel
theorem dX11_largest_55 : decode cX11_largest 55 = .ok (.ireturn, 1) := by decide +kernel
theorem dX11_largest_56 : decode cX11_largest 56 = .ok (.iconst 0, 1) := by decide +kernel
theorem dX11_largest_57 : decode cX11_largest 57 = .ok (.istore_n 3, 1) := by decide +kernel
theorem dX11_largest_58 : decode cX11_largest 58 = .ok (.iload_n 3, 1) := by decide +kernel
theorem dX11_largest_59 : decode cX11_largest 59 = .ok (.aload_n 0, 1) := by decide +kernel
theorem dX11_largest_60 : decode cX11_largest 60 = .ok (.invokevirtual 363, 3) := by decide +kernel
theorem dX11_largest_63 : decode cX11_largest 63 = .ok (.if_icmp .ge 33, 3) := by decide +kernel
theorem dX11_largest_66 : decode cX11_largest 66 = .ok (.aload_n 0, 1) := by decide +kernel
theorem dX11_largest_67 : decode cX11_largest 67 = .ok (.getfield 103, 3) := by decide +kernel
theorem dX11_largest_70 : decode cX11_largest 70 = .ok (.iload_n 3, 1) := by decide +kernel
theorem dX11_largest_71 : decode cX11_largest 71 = .ok (.aload_n 0, 1) := by decide +kernel
theorem dX11_largest_72 : decode cX11_largest 72 = .ok (.iload_n 3, 1) := by decide +kernel
theorem dX11_largest_73 : decode cX11_largest 73 = .ok (.invokevirtual 403, 3) := by decide +kernel
theorem dX11_largest_76 : decode cX11_largest 76 = .ok (.ifCond .eq 12, 3) := by decide +kernel
theorem dX11_largest_79 : decode cX11_largest 79 = .ok (.aload_n 0, 1) := by decide +kernel
theorem dX11_largest_80 : decode cX11_largest 80 = .ok (.iload_n 2, 1) := by decide +kernel
theorem dX11_largest_81 : decode cX11_largest 81 = .ok (.iload_n 3, 1) := by decide +kernel
theorem dX11_largest_82 : decode cX11_largest 82 = .ok (.invokevirtual 470, 3) := by decide +kernel
theorem dX11_largest_85 : decode cX11_largest 85 = .ok (.goto 4, 3) := by decide +kernel
theorem dX11_largest_88 : decode cX11_largest 88 = .ok (.iconst (-1), 1) := by decide +kernel
theorem dX11_largest_89 : decode cX11_largest 89 = .ok (.iastore, 1) := by decide +kernel
theorem dX11_largest_90 : decode cX11_largest 90 = .ok (.iinc 3 1, 3) := by decide +kernel
theorem dX11_largest_93 : decode cX11_largest 93 = .ok (.goto (-35), 3) := by decide +kernel
theorem dX11_largest_96 : decode cX11_largest 96 = .ok (.aload_n 0, 1) := by decide +kernel
theorem dX11_largest_97 : decode cX11_largest 97 = .ok (.aload_n 0, 1) := by decide +kernel
theorem dX11_largest_98 : decode cX11_largest 98 = .ok (.invokevirtual 363, 3) := by decide +kernel
theorem dX11_largest_101 : decode cX11_largest 101 = .ok (.putfield 391, 3) := by decide +kernel
theorem dX11_largest_104 : decode cX11_largest 104 = .ok (.iload_n 1, 1) := by decide +kernel
theorem dX11_largest_105 : decode cX11_largest 105 = .ok (.ireturn, 1) := by decide +kernel
theorem dX11_layOrder_0 : decode cX11_layOrder 0 = .ok (.iload_n 1, 1) := by decide +kernel
theorem dX11_layOrder_1 : decode cX11_layOrder 1 = .ok (.istore_n 2, 1) := by decide +kernel
theorem dX11_layOrder_2 : decode cX11_layOrder 2 = .ok (.iconst 0, 1) := by decide +kernel
theorem dX11_layOrder_3 : decode cX11_layOrder 3 = .ok (.istore_n 3, 1) := by decide +kernel
theorem dX11_layOrder_4 : decode cX11_layOrder 4 = .ok (.aload_n 0, 1) := by decide +kernel
theorem dX11_layOrder_5 : decode cX11_layOrder 5 = .ok (.invokevirtual 363, 3) := by decide +kernel
theorem dX11_layOrder_8 : decode cX11_layOrder 8 = .ok (.iconst 1, 1) := by decide +kernel
theorem dX11_layOrder_9 : decode cX11_layOrder 9 = .ok (.isub, 1) := by decide +kernel
theorem dX11_layOrder_10 : decode cX11_layOrder 10 = .ok (.istore 4, 2) := by decide +kernel
theorem dX11_layOrder_12 : decode cX11_layOrder 12 = .ok (.iload 4, 2) := by decide +kernel
theorem dX11_layOrder_14 : decode cX11_layOrder 14 = .ok (.ifCond .lt 45, 3) := by decide +kernel
theorem dX11_layOrder_17 : decode cX11_layOrder 17 = .ok (.aload_n 0, 1) := by decide +kernel
theorem dX11_layOrder_18 : decode cX11_layOrder 18 = .ok (.getfield 91, 3) := by decide +kernel
theorem dX11_layOrder_21 : decode cX11_layOrder 21 = .ok (.iconst 0, 1) := by decide +kernel
theorem dX11_layOrder_22 : decode cX11_layOrder 22 = .ok (.iload 4, 2) := by decide +kernel
theorem dX11_layOrder_24 : decode cX11_layOrder 24 = .ok (.iadd, 1) := by decide +kernel
theorem dX11_layOrder_25 : decode cX11_layOrder 25 = .ok (.iload_n 2, 1) := by decide +kernel
theorem dX11_layOrder_26 : decode cX11_layOrder 26 = .ok (.aload_n 0, 1) := by decide +kernel
theorem dX11_layOrder_27 : decode cX11_layOrder 27 = .ok (.invokevirtual 363, 3) := by decide +kernel
theorem dX11_layOrder_30 : decode cX11_layOrder 30 = .ok (.irem, 1) := by decide +kernel
theorem dX11_layOrder_31 : decode cX11_layOrder 31 = .ok (.iastore, 1) := by decide +kernel
theorem dX11_layOrder_32 : decode cX11_layOrder 32 = .ok (.iload_n 2, 1) := by decide +kernel
theorem dX11_layOrder_33 : decode cX11_layOrder 33 = .ok (.aload_n 0, 1) := by decide +kernel
theorem dX11_layOrder_34 : decode cX11_layOrder 34 = .ok (.invokevirtual 363, 3) := by decide +kernel
theorem dX11_layOrder_37 : decode cX11_layOrder 37 = .ok (.idiv, 1) := by decide +kernel
theorem dX11_layOrder_38 : decode cX11_layOrder 38 = .ok (.istore_n 2, 1) := by decide +kernel
theorem dX11_layOrder_39 : decode cX11_layOrder 39 = .ok (.iload_n 3, 1) := by decide +kernel
theorem dX11_layOrder_40 : decode cX11_layOrder 40 = .ok (.iconst 1, 1) := by decide +kernel
theorem dX11_layOrder_41 : decode cX11_layOrder 41 = .ok (.aload_n 0, 1) := by decide +kernel
theorem dX11_layOrder_42 : decode cX11_layOrder 42 = .ok (.getfield 91, 3) := by decide +kernel
theorem dX11_layOrder_45 : decode cX11_layOrder 45 = .ok (.iconst 0, 1) := by decide +kernel
theorem dX11_layOrder_46 : decode cX11_layOrder 46 = .ok (.iload 4, 2) := by decide +kernel
theorem dX11_layOrder_48 : decode cX11_layOrder 48 = .ok (.iadd, 1) := by decide +kernel
theorem dX11_layOrder_49 : decode cX11_layOrder 49 = .ok (.iaload, 1) := by decide +kernel
theorem dX11_layOrder_50 : decode cX11_layOrder 50 = .ok (.ishl, 1) := by decide +kernel
theorem dX11_layOrder_51 : decode cX11_layOrder 51 = .ok (.ior, 1) := by decide +kernel
theorem dX11_layOrder_52 : decode cX11_layOrder 52 = .ok (.istore_n 3, 1) := by decide +kernel
theorem dX11_layOrder_53 : decode cX11_layOrder 53 = .ok (.iinc 4 (-1), 3) := by decide +kernel
theorem dX11_layOrder_56 : decode cX11_layOrder 56 = .ok (.goto (-44), 3) := by decide +kernel
theorem dX11_layOrder_59 : decode cX11_layOrder 59 = .ok (.iload_n 3, 1) := by decide +kernel
theorem dX11_layOrder_60 : decode cX11_layOrder 60 = .ok (.aload_n 0, 1) := by decide +kernel
theorem dX11_layOrder_61 : decode cX11_layOrder 61 = .ok (.invokevirtual 379, 3) := by decide +kernel
theorem dX11_layOrder_64 : decode cX11_layOrder 64 = .ok (.if_icmp .ne 7, 3) := by decide +kernel
theorem dX11_layOrder_67 : decode cX11_layOrder 67 = .ok (.iconst 1, 1) := by decide +kernel
theorem dX11_layOrder_68 : decode cX11_layOrder 68 = .ok (.goto 4, 3) := by decide +kernel
theorem dX11_layOrder_71 : decode cX11_layOrder 71 = .ok (.iconst 0, 1) := by decide +kernel
theorem dX11_layOrder_72 : decode cX11_layOrder 72 = .ok (.ireturn, 1) := by decide +kernel
theorem dX11_street_0 : decode cX11_street 0 = .ok (.iconst (-1), 1) := by decide +kernel
theorem dX11_street_1 : decode cX11_street 1 = .ok (.istore_n 1, 1) := by decide +kernel
theorem dX11_street_2 : decode cX11_street 2 = .ok (.iconst 0, 1) := by decide +kernel
theorem dX11_street_3 : decode cX11_street 3 = .ok (.istore_n 2, 1) := by decide +kernel
theorem dX11_street_4 : decode cX11_street 4 = .ok (.aload_n 0, 1) := by decide +kernel
theorem dX11_street_5 : decode cX11_street 5 = .ok (.invokevirtual 449, 3) := by decide +kernel
theorem dX11_street_8 : decode cX11_street 8 = .ok (.iconst 0, 1) := by decide +kernel
theorem dX11_street_9 : decode cX11_street 9 = .ok (.istore_n 3, 1) := by decide +kernel
theorem dX11_street_10 : decode cX11_street 10 = .ok (.iload_n 3, 1) := by decide +kernel
theorem dX11_street_11 : decode cX11_street 11 = .ok (.aload_n 0, 1) := by decide +kernel
theorem dX11_street_12 : decode cX11_street 12 = .ok (.invokevirtual 363, 3) := by decide +kernel
theorem dX11_street_15 : decode cX11_street 15 = .ok (.aload_n 0, 1) := by decide +kernel
theorem dX11_street_16 : decode cX11_street 16 = .ok (.invokevirtual 363, 3) := by decide +kernel
theorem dX11_street_19 : decode cX11_street 19 = .ok (.invokestatic 464, 3) := by decide +kernel
theorem dX11_street_22 : decode cX11_street 22 = .ok (.if_icmp .ge 54, 3) := by decide +kernel
theorem dX11_street_25 : decode cX11_street 25 = .ok (.aload_n 0, 1) := by decide +kernel
theorem dX11_street_26 : decode cX11_street 26 = .ok (.iload_n 3, 1) := by decide +kernel
theorem dX11_street_27 : decode cX11_street 27 = .ok (.invokevirtual 476, 3) := by decide +kernel
theorem dX11_street_30 : decode cX11_street 30 = .ok (.istore 4, 2) := by decide +kernel
theorem dX11_street_32 : decode cX11_street 32 = .ok (.iload 4, 2) := by decide +kernel
theorem dX11_street_34 : decode cX11_street 34 = .ok (.ifCond .eq 15, 3) := by decide +kernel
theorem dX11_street_37 : decode cX11_street 37 = .ok (.aload_n 0, 1) := by decide +kernel
theorem dX11_street_38 : decode cX11_street 38 = .ok (.iconst 0, 1) := by decide +kernel
theorem dX11_street_39 : decode cX11_street 39 = .ok (.iconst 0, 1) := by decide +kernel
theorem dX11_street_40 : decode cX11_street 40 = .ok (.invokevirtual 452, 3) := by decide +kernel
theorem dX11_street_43 : decode cX11_street 43 = .ok (.invokestatic 458, 3) := by decide +kernel
theorem dX11_street_46 : decode cX11_street 46 = .ok (.goto 4, 3) := by decide +kernel
theorem dX11_street_49 : decode cX11_street 49 = .ok (.iconst (-1), 1) := by decide +kernel
theorem dX11_street_50 : decode cX11_street 50 = .ok (.istore 5, 2) := by decide +kernel
theorem dX11_street_52 : decode cX11_street 52 = .ok (.aload_n 0, 1) := by decide +kernel
theorem dX11_street_53 : decode cX11_street 53 = .ok (.invokevirtual 446, 3) := by decide +kernel
theorem dX11_street_56 : decode cX11_street 56 = .ok (.iload 5, 2) := by decide +kernel
theorem dX11_street_58 : decode cX11_street 58 = .ok (.iload_n 1, 1) := by decide +kernel
theorem dX11_street_59 : decode cX11_street 59 = .ok (.if_icmp .gt 6, 3) := by decide +kernel
theorem dX11_street_62 : decode cX11_street 62 = .ok (.goto 8, 3) := by decide +kernel
theorem dX11_street_65 : decode cX11_street 65 = .ok (.iload 5, 2) := by decide +kernel
theorem dX11_street_67 : decode cX11_street 67 = .ok (.istore_n 1, 1) := by decide +kernel
theorem dX11_street_68 : decode cX11_street 68 = .ok (.iload_n 3, 1) := by decide +kernel
theorem dX11_street_69 : decode cX11_street 69 = .ok (.istore_n 2, 1) := by decide +kernel
theorem dX11_street_70 : decode cX11_street 70 = .ok (.iinc 3 1, 3) := by decide +kernel
theorem dX11_street_73 : decode cX11_street 73 = .ok (.goto (-63), 3) := by decide +kernel
theorem dX11_street_76 : decode cX11_street 76 = .ok (.iconst 0, 1) := by decide +kernel
theorem dX11_street_77 : decode cX11_street 77 = .ok (.istore_n 3, 1) := by decide +kernel
theorem dX11_street_78 : decode cX11_street 78 = .ok (.iload_n 3, 1) := by decide +kernel
theorem dX11_street_79 : decode cX11_street 79 = .ok (.aload_n 0, 1) := by decide +kernel
theorem dX11_street_80 : decode cX11_street 80 = .ok (.invokevirtual 363, 3) := by decide +kernel
theorem dX11_street_83 : decode cX11_street 83 = .ok (.if_icmp .ge 37, 3) := by decide +kernel
theorem dX11_street_86 : decode cX11_street 86 = .ok (.aload_n 0, 1) := by decide +kernel
theorem dX11_street_87 : decode cX11_street 87 = .ok (.getfield 103, 3) := by decide +kernel
theorem dX11_street_90 : decode cX11_street 90 = .ok (.iload_n 3, 1) := by decide +kernel
theorem dX11_street_91 : decode cX11_street 91 = .ok (.iload_n 2, 1) := by decide +kernel
theorem dX11_street_92 : decode cX11_street 92 = .ok (.aload_n 0, 1) := by decide +kernel
theorem dX11_street_93 : decode cX11_street 93 = .ok (.invokevirtual 363, 3) := by decide +kernel
theorem dX11_street_96 : decode cX11_street 96 = .ok (.aload_n 0, 1) := by decide +kernel
theorem dX11_street_97 : decode cX11_street 97 = .ok (.invokevirtual 363, 3) := by decide +kernel
theorem dX11_street_100 : decode cX11_street 100 = .ok (.iconst 1, 1) := by decide +kernel
theorem dX11_street_101 : decode cX11_street 101 = .ok (.isub, 1) := by decide +kernel
theorem dX11_street_102 : decode cX11_street 102 = .ok (.iload_n 3, 1) := by decide +kernel
theorem dX11_street_103 : decode cX11_street 103 = .ok (.isub, 1) := by decide +kernel
theorem dX11_street_104 : decode cX11_street 104 = .ok (.invokestatic 464, 3) := by decide +kernel
theorem dX11_street_107 : decode cX11_street 107 = .ok (.idiv, 1) := by decide +kernel
theorem dX11_street_108 : decode cX11_street 108 = .ok (.aload_n 0, 1) := by decide +kernel
theorem dX11_street_109 : decode cX11_street 109 = .ok (.invokevirtual 363, 3) := by decide +kernel
theorem dX11_street_112 : decode cX11_street 112 = .ok (.irem, 1) := by decide +kernel
theorem dX11_street_113 : decode cX11_street 113 = .ok (.iastore, 1) := by decide +kernel
theorem dX11_street_114 : decode cX11_street 114 = .ok (.iinc 3 1, 3) := by decide +kernel
theorem dX11_street_117 : decode cX11_street 117 = .ok (.goto (-39), 3) := by decide +kernel
theorem dX11_street_120 : decode cX11_street 120 = .ok (.aload_n 0, 1) := by decide +kernel
theorem dX11_street_121 : decode cX11_street 121 = .ok (.aload_n 0, 1) := by decide +kernel
theorem dX11_street_122 : decode cX11_street 122 = .ok (.invokevirtual 363, 3) := by decide +kernel
theorem dX11_street_125 : decode cX11_street 125 = .ok (.putfield 391, 3) := by decide +kernel
theorem dX11_street_128 : decode cX11_street 128 = .ok (.iload_n 1, 1) := by decide +kernel
theorem dX11_street_129 : decode cX11_street 129 = .ok (.ireturn, 1) := by decide +kernel
theorem dX11_host_0 : decode cX11_host 0 = .ok (.aload_n 0, 1) := by decide +kernel
theorem dX11_host_1 : decode cX11_host 1 = .ok (.iload_n 1, 1) := by decide +kernel
theorem dX11_host_2 : decode cX11_host 2 = .ok (.invokevirtual 370, 3) := by decide +kernel
theorem dX11_host_5 : decode cX11_host 5 = .ok (.ifCond .eq 12, 3) := by decide +kernel
theorem dX11_host_8 : decode cX11_host 8 = .ok (.iload_n 2, 1) := by decide +kernel
theorem dX11_host_9 : decode cX11_host 9 = .ok (.iconst 0, 1) := by decide +kernel
theorem dX11_host_10 : decode cX11_host 10 = .ok (.iconst 1, 1) := by decide +kernel
theorem dX11_host_11 : decode cX11_host 11 = .ok (.invokestatic 366, 3) := by decide +kernel
theorem dX11_host_14 : decode cX11_host 14 = .ok (.ifCond .ne 5, 3) := by decide +kernel
theorem dX11_host_17 : decode cX11_host 17 = .ok (.iconst (-1), 1) := by decide +kernel
theorem dX11_host_18 : decode cX11_host 18 = .ok (.ireturn, 1) := by decide +kernel
theorem dX11_host_19 : decode cX11_host 19 = .ok (.iconst (-1), 1) := by decide +kernel
theorem dX11_host_20 : decode cX11_host 20 = .ok (.istore_n 3, 1) := by decide +kernel
theorem dX11_host_21 : decode cX11_host 21 = .ok (.iconst (-1), 1) := by decide +kernel
theorem dX11_host_22 : decode cX11_host 22 = .ok (.istore 4, 2) := by decide +kernel
theorem dX11_host_24 : decode cX11_host 24 = .ok (.iconst 0, 1) := by decide +kernel
theorem dX11_host_25 : decode cX11_host 25 = .ok (.istore 5, 2) := by decide +kernel
theorem dX11_host_27 : decode cX11_host 27 = .ok (.iload 5, 2) := by decide +kernel
theorem dX11_host_29 : decode cX11_host 29 = .ok (.aload_n 0, 1) := by decide +kernel
theorem dX11_host_30 : decode cX11_host 30 = .ok (.invokevirtual 363, 3) := by decide +kernel
theorem dX11_host_33 : decode cX11_host 33 = .ok (.if_icmp .ge 65, 3) := by decide +kernel
theorem dX11_host_36 : decode cX11_host 36 = .ok (.aload_n 0, 1) := by decide +kernel
theorem dX11_host_37 : decode cX11_host 37 = .ok (.iload_n 1, 1) := by decide +kernel
theorem dX11_host_38 : decode cX11_host 38 = .ok (.iload 5, 2) := by decide +kernel
theorem dX11_host_40 : decode cX11_host 40 = .ok (.invokevirtual 440, 3) := by decide +kernel
theorem dX11_host_43 : decode cX11_host 43 = .ok (.ifCond .ne 6, 3) := by decide +kernel
theorem dX11_host_46 : decode cX11_host 46 = .ok (.goto 46, 3) := by decide +kernel
theorem dX11_host_49 : decode cX11_host 49 = .ok (.aload_n 0, 1) := by decide +kernel
theorem dX11_host_50 : decode cX11_host 50 = .ok (.invokevirtual 449, 3) := by decide +kernel
theorem dX11_host_53 : decode cX11_host 53 = .ok (.aload_n 0, 1) := by decide +kernel
theorem dX11_host_54 : decode cX11_host 54 = .ok (.getfield 91, 3) := by decide +kernel
theorem dX11_host_57 : decode cX11_host 57 = .ok (.bipush 15, 2) := by decide +kernel
theorem dX11_host_59 : decode cX11_host 59 = .ok (.iload_n 1, 1) := by decide +kernel
theorem dX11_host_60 : decode cX11_host 60 = .ok (.iadd, 1) := by decide +kernel
theorem dX11_host_61 : decode cX11_host 61 = .ok (.iload 5, 2) := by decide +kernel
theorem dX11_host_63 : decode cX11_host 63 = .ok (.iastore, 1) := by decide +kernel
theorem dX11_host_64 : decode cX11_host 64 = .ok (.aload_n 0, 1) := by decide +kernel
theorem dX11_host_65 : decode cX11_host 65 = .ok (.iconst 0, 1) := by decide +kernel
