theorem dY_relate_212 : decode bY_relate 212 = .ok (.aload_n 0, 1) := by decide +kernel
theorem dY_relate_213 : decode bY_relate 213 = .ok (.getfield 41, 3) := by decide +kernel
theorem dY_relate_216 : decode bY_relate 216 = .ok (.bipush 41, 2) := by decide +kernel
theorem dY_relate_218 : decode bY_relate 218 = .ok (.iload 5, 2) := by decide +kernel
theorem dY_relate_220 : decode bY_relate 220 = .ok (.imul, 1) := by decide +kernel
theorem dY_relate_221 : decode bY_relate 221 = .ok (.iload 4, 2) := by decide +kernel
theorem dY_relate_223 : decode bY_relate 223 = .ok (.iadd, 1) := by decide +kernel
theorem dY_relate_224 : decode bY_relate 224 = .ok (.iload 10, 2) := by decide +kernel
theorem dY_relate_226 : decode bY_relate 226 = .ok (.bastore, 1) := by decide +kernel
theorem dY_relate_227 : decode bY_relate 227 = .ok (.iinc 4 1, 3) := by decide +kernel
theorem dY_relate_230 : decode bY_relate 230 = .ok (.goto (-217), 3) := by decide +kernel
theorem dY_relate_233 : decode bY_relate 233 = .ok (.iinc 3 1, 3) := by decide +kernel
theorem dY_relate_236 : decode bY_relate 236 = .ok (.goto (-234), 3) := by decide +kernel
theorem dY_relate_239 : decode bY_relate 239 = .ok (.return_, 1) := by decide +kernel
theorem dY_goesAgainst_0 : decode bY_goesAgainst 0 = .ok (.aload_n 0, 1) := by decide +kernel
theorem dY_goesAgainst_1 : decode bY_goesAgainst 1 = .ok (.aload_n 0, 1) := by decide +kernel
theorem dY_goesAgainst_2 : decode bY_goesAgainst 2 = .ok (.getfield 7, 3) := by decide +kernel
theorem dY_goesAgainst_5 : decode bY_goesAgainst 5 = .ok (.iload_n 1, 1) := by decide +kernel
theorem dY_goesAgainst_6 : decode bY_goesAgainst 6 = .ok (.iaload, 1) := by decide +kernel
theorem dY_goesAgainst_7 : decode bY_goesAgainst 7 = .ok (.iconst (-1), 1) := by decide +kernel
theorem dY_goesAgainst_8 : decode bY_goesAgainst 8 = .ok (.if_icmp .ne 7, 3) := by decide +kernel
theorem dY_goesAgainst_11 : decode bY_goesAgainst 11 = .ok (.iconst (-1), 1) := by decide +kernel
theorem dY_goesAgainst_12 : decode bY_goesAgainst 12 = .ok (.goto 9, 3) := by decide +kernel
theorem dY_goesAgainst_15 : decode bY_goesAgainst 15 = .ok (.aload_n 0, 1) := by decide +kernel
theorem dY_goesAgainst_16 : decode bY_goesAgainst 16 = .ok (.getfield 7, 3) := by decide +kernel
theorem dY_goesAgainst_19 : decode bY_goesAgainst 19 = .ok (.iload_n 1, 1) := by decide +kernel
theorem dY_goesAgainst_20 : decode bY_goesAgainst 20 = .ok (.iaload, 1) := by decide +kernel
theorem dY_goesAgainst_21 : decode bY_goesAgainst 21 = .ok (.iload_n 2, 1) := by decide +kernel
theorem dY_goesAgainst_22 : decode bY_goesAgainst 22 = .ok (.iload_n 3, 1) := by decide +kernel
theorem dY_goesAgainst_23 : decode bY_goesAgainst 23 = .ok (.invokevirtual 94, 3) := by decide +kernel
theorem dY_goesAgainst_26 : decode bY_goesAgainst 26 = .ok (.aload_n 0, 1) := by decide +kernel
theorem dY_goesAgainst_27 : decode bY_goesAgainst 27 = .ok (.getfield 38, 3) := by decide +kernel
theorem dY_goesAgainst_30 : decode bY_goesAgainst 30 = .ok (.aload_n 0, 1) := by decide +kernel
theorem dY_goesAgainst_31 : decode bY_goesAgainst 31 = .ok (.getfield 91, 3) := by decide +kernel
theorem dY_goesAgainst_34 : decode bY_goesAgainst 34 = .ok (.iconst (-1), 1) := by decide +kernel
theorem dY_goesAgainst_35 : decode bY_goesAgainst 35 = .ok (.iastore, 1) := by decide +kernel
theorem dY_goesAgainst_36 : decode bY_goesAgainst 36 = .ok (.aload_n 0, 1) := by decide +kernel
theorem dY_goesAgainst_37 : decode bY_goesAgainst 37 = .ok (.dup, 1) := by decide +kernel
theorem dY_goesAgainst_38 : decode bY_goesAgainst 38 = .ok (.getfield 91, 3) := by decide +kernel
theorem dY_goesAgainst_41 : decode bY_goesAgainst 41 = .ok (.iconst 1, 1) := by decide +kernel
theorem dY_goesAgainst_42 : decode bY_goesAgainst 42 = .ok (.iadd, 1) := by decide +kernel
theorem dY_goesAgainst_43 : decode bY_goesAgainst 43 = .ok (.putfield 91, 3) := by decide +kernel
theorem dY_goesAgainst_46 : decode bY_goesAgainst 46 = .ok (.aload_n 0, 1) := by decide +kernel
theorem dY_goesAgainst_47 : decode bY_goesAgainst 47 = .ok (.iload_n 1, 1) := by decide +kernel
theorem dY_goesAgainst_48 : decode bY_goesAgainst 48 = .ok (.iload 4, 2) := by decide +kernel
theorem dY_goesAgainst_50 : decode bY_goesAgainst 50 = .ok (.invokevirtual 98, 3) := by decide +kernel
theorem dY_goesAgainst_53 : decode bY_goesAgainst 53 = .ok (.aload_n 0, 1) := by decide +kernel
theorem dY_goesAgainst_54 : decode bY_goesAgainst 54 = .ok (.getfield 91, 3) := by decide +kernel
theorem dY_goesAgainst_57 : decode bY_goesAgainst 57 = .ok (.iconst 1, 1) := by decide +kernel
theorem dY_goesAgainst_58 : decode bY_goesAgainst 58 = .ok (.isub, 1) := by decide +kernel
theorem dY_goesAgainst_59 : decode bY_goesAgainst 59 = .ok (.istore 5, 2) := by decide +kernel
theorem dY_goesAgainst_61 : decode bY_goesAgainst 61 = .ok (.iconst 0, 1) := by decide +kernel
theorem dY_goesAgainst_62 : decode bY_goesAgainst 62 = .ok (.istore 6, 2) := by decide +kernel
theorem dY_goesAgainst_64 : decode bY_goesAgainst 64 = .ok (.iload 6, 2) := by decide +kernel
theorem dY_goesAgainst_66 : decode bY_goesAgainst 66 = .ok (.iload 5, 2) := by decide +kernel
theorem dY_goesAgainst_68 : decode bY_goesAgainst 68 = .ok (.if_icmp .ge 59, 3) := by decide +kernel
theorem dY_goesAgainst_71 : decode bY_goesAgainst 71 = .ok (.aload_n 0, 1) := by decide +kernel
theorem dY_goesAgainst_72 : decode bY_goesAgainst 72 = .ok (.getfield 41, 3) := by decide +kernel
theorem dY_goesAgainst_75 : decode bY_goesAgainst 75 = .ok (.bipush 41, 2) := by decide +kernel
theorem dY_goesAgainst_77 : decode bY_goesAgainst 77 = .ok (.iload 5, 2) := by decide +kernel
theorem dY_goesAgainst_79 : decode bY_goesAgainst 79 = .ok (.imul, 1) := by decide +kernel
theorem dY_goesAgainst_80 : decode bY_goesAgainst 80 = .ok (.iload 6, 2) := by decide +kernel
theorem dY_goesAgainst_82 : decode bY_goesAgainst 82 = .ok (.iadd, 1) := by decide +kernel
theorem dY_goesAgainst_83 : decode bY_goesAgainst 83 = .ok (.baload, 1) := by decide +kernel
theorem dY_goesAgainst_84 : decode bY_goesAgainst 84 = .ok (.ifCond .eq 37, 3) := by decide +kernel
theorem dY_goesAgainst_87 : decode bY_goesAgainst 87 = .ok (.aload_n 0, 1) := by decide +kernel
theorem dY_goesAgainst_88 : decode bY_goesAgainst 88 = .ok (.getfield 35, 3) := by decide +kernel
theorem dY_goesAgainst_91 : decode bY_goesAgainst 91 = .ok (.aload_n 0, 1) := by decide +kernel
theorem dY_goesAgainst_92 : decode bY_goesAgainst 92 = .ok (.getfield 38, 3) := by decide +kernel
theorem dY_goesAgainst_95 : decode bY_goesAgainst 95 = .ok (.iload 6, 2) := by decide +kernel
theorem dY_goesAgainst_97 : decode bY_goesAgainst 97 = .ok (.iaload, 1) := by decide +kernel
theorem dY_goesAgainst_98 : decode bY_goesAgainst 98 = .ok (.baload, 1) := by decide +kernel
theorem dY_goesAgainst_99 : decode bY_goesAgainst 99 = .ok (.ifCond .ne 20, 3) := by decide +kernel
theorem dY_goesAgainst_102 : decode bY_goesAgainst 102 = .ok (.aload_n 0, 1) := by decide +kernel
theorem dY_goesAgainst_103 : decode bY_goesAgainst 103 = .ok (.getfield 22, 3) := by decide +kernel
theorem dY_goesAgainst_106 : decode bY_goesAgainst 106 = .ok (.aload_n 0, 1) := by decide +kernel
theorem dY_goesAgainst_107 : decode bY_goesAgainst 107 = .ok (.getfield 38, 3) := by decide +kernel
theorem dY_goesAgainst_110 : decode bY_goesAgainst 110 = .ok (.iload 6, 2) := by decide +kernel
theorem dY_goesAgainst_112 : decode bY_goesAgainst 112 = .ok (.iaload, 1) := by decide +kernel
theorem dY_goesAgainst_113 : decode bY_goesAgainst 113 = .ok (.iaload, 1) := by decide +kernel
theorem dY_goesAgainst_114 : decode bY_goesAgainst 114 = .ok (.iload 4, 2) := by decide +kernel
theorem dY_goesAgainst_116 : decode bY_goesAgainst 116 = .ok (.if_icmp .le 5, 3) := by decide +kernel
theorem dY_goesAgainst_119 : decode bY_goesAgainst 119 = .ok (.iconst 1, 1) := by decide +kernel
theorem dY_goesAgainst_120 : decode bY_goesAgainst 120 = .ok (.ireturn, 1) := by decide +kernel
theorem dY_goesAgainst_121 : decode bY_goesAgainst 121 = .ok (.iinc 6 1, 3) := by decide +kernel
theorem dY_goesAgainst_124 : decode bY_goesAgainst 124 = .ok (.goto (-60), 3) := by decide +kernel
theorem dY_goesAgainst_127 : decode bY_goesAgainst 127 = .ok (.iconst 0, 1) := by decide +kernel
theorem dY_goesAgainst_128 : decode bY_goesAgainst 128 = .ok (.ireturn, 1) := by decide +kernel
theorem dY_maker_0 : decode bY_maker 0 = .ok (.aload_n 0, 1) := by decide +kernel
theorem dY_maker_1 : decode bY_maker 1 = .ok (.iconst 0, 1) := by decide +kernel
theorem dY_maker_2 : decode bY_maker 2 = .ok (.putfield 51, 3) := by decide +kernel
theorem dY_maker_5 : decode bY_maker 5 = .ok (.aload_n 0, 1) := by decide +kernel
theorem dY_maker_6 : decode bY_maker 6 = .ok (.iload_n 1, 1) := by decide +kernel
theorem dY_maker_7 : decode bY_maker 7 = .ok (.invokevirtual 54, 3) := by decide +kernel
theorem dY_maker_10 : decode bY_maker 10 = .ok (.ifCond .ne 9, 3) := by decide +kernel
theorem dY_maker_13 : decode bY_maker 13 = .ok (.aload_n 0, 1) := by decide +kernel
theorem dY_maker_14 : decode bY_maker 14 = .ok (.iconst 1, 1) := by decide +kernel
theorem dY_maker_15 : decode bY_maker 15 = .ok (.invokevirtual 62, 3) := by decide +kernel
theorem dY_maker_18 : decode bY_maker 18 = .ok (.ireturn, 1) := by decide +kernel
theorem dY_maker_19 : decode bY_maker 19 = .ok (.iload_n 3, 1) := by decide +kernel
theorem dY_maker_20 : decode bY_maker 20 = .ok (.iconst 3, 1) := by decide +kernel
theorem dY_maker_21 : decode bY_maker 21 = .ok (.invokestatic 66, 3) := by decide +kernel
theorem dY_maker_24 : decode bY_maker 24 = .ok (.ifCond .eq 9, 3) := by decide +kernel
theorem dY_maker_27 : decode bY_maker 27 = .ok (.aload_n 0, 1) := by decide +kernel
theorem dY_maker_28 : decode bY_maker 28 = .ok (.iconst 2, 1) := by decide +kernel
theorem dY_maker_29 : decode bY_maker 29 = .ok (.invokevirtual 62, 3) := by decide +kernel
theorem dY_maker_32 : decode bY_maker 32 = .ok (.ireturn, 1) := by decide +kernel
theorem dY_maker_33 : decode bY_maker 33 = .ok (.iconst 0, 1) := by decide +kernel
theorem dY_maker_34 : decode bY_maker 34 = .ok (.istore 4, 2) := by decide +kernel
theorem dY_maker_36 : decode bY_maker 36 = .ok (.iload 4, 2) := by decide +kernel
theorem dY_maker_38 : decode bY_maker 38 = .ok (.aload_n 0, 1) := by decide +kernel
theorem dY_maker_39 : decode bY_maker 39 = .ok (.getfield 48, 3) := by decide +kernel
theorem dY_maker_42 : decode bY_maker 42 = .ok (.if_icmp .ge 48, 3) := by decide +kernel
theorem dY_maker_45 : decode bY_maker 45 = .ok (.aload_n 0, 1) := by decide +kernel
theorem dY_maker_46 : decode bY_maker 46 = .ok (.getfield 16, 3) := by decide +kernel
theorem dY_maker_49 : decode bY_maker 49 = .ok (.iload 4, 2) := by decide +kernel
theorem dY_maker_51 : decode bY_maker 51 = .ok (.iaload, 1) := by decide +kernel
theorem dY_maker_52 : decode bY_maker 52 = .ok (.iload_n 1, 1) := by decide +kernel
theorem dY_maker_53 : decode bY_maker 53 = .ok (.if_icmp .ne 31, 3) := by decide +kernel
theorem dY_maker_56 : decode bY_maker 56 = .ok (.aload_n 0, 1) := by decide +kernel
theorem dY_maker_57 : decode bY_maker 57 = .ok (.getfield 25, 3) := by decide +kernel
theorem dY_maker_60 : decode bY_maker 60 = .ok (.iload 4, 2) := by decide +kernel
theorem dY_maker_62 : decode bY_maker 62 = .ok (.iaload, 1) := by decide +kernel
theorem dY_maker_63 : decode bY_maker 63 = .ok (.iconst 2, 1) := by decide +kernel
theorem dY_maker_64 : decode bY_maker 64 = .ok (.if_icmp .ne 20, 3) := by decide +kernel
theorem dY_maker_67 : decode bY_maker 67 = .ok (.aload_n 0, 1) := by decide +kernel
theorem dY_maker_68 : decode bY_maker 68 = .ok (.getfield 28, 3) := by decide +kernel
theorem dY_maker_71 : decode bY_maker 71 = .ok (.iload 4, 2) := by decide +kernel
theorem dY_maker_73 : decode bY_maker 73 = .ok (.iaload, 1) := by decide +kernel
theorem dY_maker_74 : decode bY_maker 74 = .ok (.iload_n 2, 1) := by decide +kernel
theorem dY_maker_75 : decode bY_maker 75 = .ok (.if_icmp .ne 9, 3) := by decide +kernel
theorem dY_maker_78 : decode bY_maker 78 = .ok (.aload_n 0, 1) := by decide +kernel
theorem dY_maker_79 : decode bY_maker 79 = .ok (.iconst 4, 1) := by decide +kernel
theorem dY_maker_80 : decode bY_maker 80 = .ok (.invokevirtual 62, 3) := by decide +kernel
theorem dY_maker_83 : decode bY_maker 83 = .ok (.ireturn, 1) := by decide +kernel
theorem dY_maker_84 : decode bY_maker 84 = .ok (.iinc 4 1, 3) := by decide +kernel
theorem dY_maker_87 : decode bY_maker 87 = .ok (.goto (-51), 3) := by decide +kernel
theorem dY_maker_90 : decode bY_maker 90 = .ok (.aload_n 0, 1) := by decide +kernel
theorem dY_maker_91 : decode bY_maker 91 = .ok (.getfield 48, 3) := by decide +kernel
theorem dY_maker_94 : decode bY_maker 94 = .ok (.sipush 200, 3) := by decide +kernel
theorem dY_maker_97 : decode bY_maker 97 = .ok (.if_icmp .ge 14, 3) := by decide +kernel
theorem dY_maker_100 : decode bY_maker 100 = .ok (.aload_n 0, 1) := by decide +kernel
theorem dY_maker_101 : decode bY_maker 101 = .ok (.iload_n 1, 1) := by decide +kernel
theorem dY_maker_102 : decode bY_maker 102 = .ok (.iconst 0, 1) := by decide +kernel
theorem dY_maker_103 : decode bY_maker 103 = .ok (.iconst 2, 1) := by decide +kernel
theorem dY_maker_104 : decode bY_maker 104 = .ok (.iload_n 2, 1) := by decide +kernel
theorem dY_maker_105 : decode bY_maker 105 = .ok (.iconst 0, 1) := by decide +kernel
theorem dY_maker_106 : decode bY_maker 106 = .ok (.iconst 0, 1) := by decide +kernel
theorem dY_maker_107 : decode bY_maker 107 = .ok (.iload_n 3, 1) := by decide +kernel
theorem dY_maker_108 : decode bY_maker 108 = .ok (.invokevirtual 69, 3) := by decide +kernel
theorem dY_maker_111 : decode bY_maker 111 = .ok (.aload_n 0, 1) := by decide +kernel
theorem dY_maker_112 : decode bY_maker 112 = .ok (.invokevirtual 73, 3) := by decide +kernel
theorem dY_maker_115 : decode bY_maker 115 = .ok (.ireturn, 1) := by decide +kernel
theorem dY_doesReach_0 : decode bY_doesReach 0 = .ok (.aload_n 0, 1) := by decide +kernel
theorem dY_doesReach_1 : decode bY_doesReach 1 = .ok (.getfield 16, 3) := by decide +kernel
theorem dY_doesReach_4 : decode bY_doesReach 4 = .ok (.iload_n 2, 1) := by decide +kernel
theorem dY_doesReach_5 : decode bY_doesReach 5 = .ok (.iaload, 1) := by decide +kernel
theorem dY_doesReach_6 : decode bY_doesReach 6 = .ok (.istore_n 3, 1) := by decide +kernel
theorem dY_doesReach_7 : decode bY_doesReach 7 = .ok (.aload_n 0, 1) := by decide +kernel
theorem dY_doesReach_8 : decode bY_doesReach 8 = .ok (.getfield 22, 3) := by decide +kernel
theorem dY_doesReach_11 : decode bY_doesReach 11 = .ok (.iload_n 2, 1) := by decide +kernel
theorem dY_doesReach_12 : decode bY_doesReach 12 = .ok (.iaload, 1) := by decide +kernel
theorem dY_doesReach_13 : decode bY_doesReach 13 = .ok (.tableswitch 89 0 2 #[27, 38, 59], 27) := by decide +kernel
theorem dY_doesReach_40 : decode bY_doesReach 40 = .ok (.iload_n 1, 1) := by decide +kernel
theorem dY_doesReach_41 : decode bY_doesReach 41 = .ok (.iload_n 3, 1) := by decide +kernel
theorem dY_doesReach_42 : decode bY_doesReach 42 = .ok (.if_icmp .ne 7, 3) := by decide +kernel
theorem dY_doesReach_45 : decode bY_doesReach 45 = .ok (.iconst 1, 1) := by decide +kernel
theorem dY_doesReach_46 : decode bY_doesReach 46 = .ok (.goto 4, 3) := by decide +kernel
theorem dY_doesReach_49 : decode bY_doesReach 49 = .ok (.iconst 0, 1) := by decide +kernel
theorem dY_doesReach_50 : decode bY_doesReach 50 = .ok (.ireturn, 1) := by decide +kernel
theorem dY_doesReach_51 : decode bY_doesReach 51 = .ok (.aload_n 0, 1) := by decide +kernel
theorem dY_doesReach_52 : decode bY_doesReach 52 = .ok (.getfield 13, 3) := by decide +kernel
theorem dY_doesReach_55 : decode bY_doesReach 55 = .ok (.iload_n 1, 1) := by decide +kernel
theorem dY_doesReach_56 : decode bY_doesReach 56 = .ok (.iaload, 1) := by decide +kernel
theorem dY_doesReach_57 : decode bY_doesReach 57 = .ok (.aload_n 0, 1) := by decide +kernel
theorem dY_doesReach_58 : decode bY_doesReach 58 = .ok (.getfield 13, 3) := by decide +kernel
theorem dY_doesReach_61 : decode bY_doesReach 61 = .ok (.iload_n 3, 1) := by decide +kernel
theorem dY_doesReach_62 : decode bY_doesReach 62 = .ok (.iaload, 1) := by decide +kernel
theorem dY_doesReach_63 : decode bY_doesReach 63 = .ok (.if_icmp .ne 7, 3) := by decide +kernel
theorem dY_doesReach_66 : decode bY_doesReach 66 = .ok (.iconst 1, 1) := by decide +kernel
theorem dY_doesReach_67 : decode bY_doesReach 67 = .ok (.goto 4, 3) := by decide +kernel
theorem dY_doesReach_70 : decode bY_doesReach 70 = .ok (.iconst 0, 1) := by decide +kernel
theorem dY_doesReach_71 : decode bY_doesReach 71 = .ok (.ireturn, 1) := by decide +kernel
theorem dY_doesReach_72 : decode bY_doesReach 72 = .ok (.aload_n 0, 1) := by decide +kernel
theorem dY_doesReach_73 : decode bY_doesReach 73 = .ok (.getfield 13, 3) := by decide +kernel
theorem dY_doesReach_76 : decode bY_doesReach 76 = .ok (.iload_n 1, 1) := by decide +kernel
theorem dY_doesReach_77 : decode bY_doesReach 77 = .ok (.iaload, 1) := by decide +kernel
theorem dY_doesReach_78 : decode bY_doesReach 78 = .ok (.aload_n 0, 1) := by decide +kernel
theorem dY_doesReach_79 : decode bY_doesReach 79 = .ok (.getfield 13, 3) := by decide +kernel
theorem dY_doesReach_82 : decode bY_doesReach 82 = .ok (.iload_n 3, 1) := by decide +kernel
theorem dY_doesReach_83 : decode bY_doesReach 83 = .ok (.iaload, 1) := by decide +kernel
theorem dY_doesReach_84 : decode bY_doesReach 84 = .ok (.if_icmp .eq 12, 3) := by decide +kernel
theorem dY_doesReach_87 : decode bY_doesReach 87 = .ok (.aload_n 0, 1) := by decide +kernel
theorem dY_doesReach_88 : decode bY_doesReach 88 = .ok (.iload_n 1, 1) := by decide +kernel
theorem dY_doesReach_89 : decode bY_doesReach 89 = .ok (.iload_n 3, 1) := by decide +kernel
theorem dY_doesReach_90 : decode bY_doesReach 90 = .ok (.invokevirtual 58, 3) := by decide +kernel
theorem dY_doesReach_93 : decode bY_doesReach 93 = .ok (.ifCond .eq 7, 3) := by decide +kernel
theorem dY_doesReach_96 : decode bY_doesReach 96 = .ok (.iconst 1, 1) := by decide +kernel
theorem dY_doesReach_97 : decode bY_doesReach 97 = .ok (.goto 4, 3) := by decide +kernel
theorem dY_doesReach_100 : decode bY_doesReach 100 = .ok (.iconst 0, 1) := by decide +kernel
theorem dY_doesReach_101 : decode bY_doesReach 101 = .ok (.ireturn, 1) := by decide +kernel
theorem dY_doesReach_102 : decode bY_doesReach 102 = .ok (.iconst 1, 1) := by decide +kernel
theorem dY_doesReach_103 : decode bY_doesReach 103 = .ok (.ireturn, 1) := by decide +kernel
theorem dY_isSought_0 : decode bY_isSought 0 = .ok (.iload 4, 2) := by decide +kernel
theorem dY_isSought_2 : decode bY_isSought 2 = .ok (.iconst 3, 1) := by decide +kernel
theorem dY_isSought_3 : decode bY_isSought 3 = .ok (.if_icmp .ne 29, 3) := by decide +kernel
theorem dY_isSought_6 : decode bY_isSought 6 = .ok (.aload_n 0, 1) := by decide +kernel
theorem dY_isSought_7 : decode bY_isSought 7 = .ok (.getfield 25, 3) := by decide +kernel
theorem dY_isSought_10 : decode bY_isSought 10 = .ok (.iload_n 1, 1) := by decide +kernel
theorem dY_isSought_11 : decode bY_isSought 11 = .ok (.iaload, 1) := by decide +kernel
theorem dY_isSought_12 : decode bY_isSought 12 = .ok (.iconst 2, 1) := by decide +kernel
theorem dY_isSought_13 : decode bY_isSought 13 = .ok (.if_icmp .ne 17, 3) := by decide +kernel
theorem dY_isSought_16 : decode bY_isSought 16 = .ok (.aload_n 0, 1) := by decide +kernel
theorem dY_isSought_17 : decode bY_isSought 17 = .ok (.getfield 28, 3) := by decide +kernel
theorem dY_isSought_20 : decode bY_isSought 20 = .ok (.iload_n 1, 1) := by decide +kernel
theorem dY_isSought_21 : decode bY_isSought 21 = .ok (.iaload, 1) := by decide +kernel
theorem dY_isSought_22 : decode bY_isSought 22 = .ok (.iload_n 3, 1) := by decide +kernel
theorem dY_isSought_23 : decode bY_isSought 23 = .ok (.if_icmp .ne 7, 3) := by decide +kernel
theorem dY_isSought_26 : decode bY_isSought 26 = .ok (.iconst 1, 1) := by decide +kernel
theorem dY_isSought_27 : decode bY_isSought 27 = .ok (.goto 4, 3) := by decide +kernel
theorem dY_isSought_30 : decode bY_isSought 30 = .ok (.iconst 0, 1) := by decide +kernel
theorem dY_isSought_31 : decode bY_isSought 31 = .ok (.ireturn, 1) := by decide +kernel
theorem dY_isSought_32 : decode bY_isSought 32 = .ok (.aload_n 0, 1) := by decide +kernel
theorem dY_isSought_33 : decode bY_isSought 33 = .ok (.getfield 19, 3) := by decide +kernel
theorem dY_isSought_36 : decode bY_isSought 36 = .ok (.iload_n 1, 1) := by decide +kernel
theorem dY_isSought_37 : decode bY_isSought 37 = .ok (.iaload, 1) := by decide +kernel
theorem dY_isSought_38 : decode bY_isSought 38 = .ok (.iload_n 2, 1) := by decide +kernel
theorem dY_isSought_39 : decode bY_isSought 39 = .ok (.if_icmp .eq 5, 3) := by decide +kernel
theorem dY_isSought_42 : decode bY_isSought 42 = .ok (.iconst 0, 1) := by decide +kernel
theorem dY_isSought_43 : decode bY_isSought 43 = .ok (.ireturn, 1) := by decide +kernel
theorem dY_isSought_44 : decode bY_isSought 44 = .ok (.iload 4, 2) := by decide +kernel
theorem dY_isSought_46 : decode bY_isSought 46 = .ok (.iconst 3, 1) := by decide +kernel
theorem dY_isSought_47 : decode bY_isSought 47 = .ok (.if_icmp .le 18, 3) := by decide +kernel
theorem dY_isSought_50 : decode bY_isSought 50 = .ok (.aload_n 0, 1) := by decide +kernel
theorem dY_isSought_51 : decode bY_isSought 51 = .ok (.getfield 25, 3) := by decide +kernel
theorem dY_isSought_54 : decode bY_isSought 54 = .ok (.iload_n 1, 1) := by decide +kernel
theorem dY_isSought_55 : decode bY_isSought 55 = .ok (.iaload, 1) := by decide +kernel
theorem dY_isSought_56 : decode bY_isSought 56 = .ok (.ifCond .ne 7, 3) := by decide +kernel
theorem dY_isSought_59 : decode bY_isSought 59 = .ok (.iconst 1, 1) := by decide +kernel
theorem dY_isSought_60 : decode bY_isSought 60 = .ok (.goto 4, 3) := by decide +kernel
theorem dY_isSought_63 : decode bY_isSought 63 = .ok (.iconst 0, 1) := by decide +kernel
theorem dY_isSought_64 : decode bY_isSought 64 = .ok (.ireturn, 1) := by decide +kernel
theorem dY_isSought_65 : decode bY_isSought 65 = .ok (.aload_n 0, 1) := by decide +kernel
theorem dY_isSought_66 : decode bY_isSought 66 = .ok (.getfield 25, 3) := by decide +kernel
theorem dY_isSought_69 : decode bY_isSought 69 = .ok (.iload_n 1, 1) := by decide +kernel
theorem dY_isSought_70 : decode bY_isSought 70 = .ok (.iaload, 1) := by decide +kernel
theorem dY_isSought_71 : decode bY_isSought 71 = .ok (.iconst 1, 1) := by decide +kernel
theorem dY_isSought_72 : decode bY_isSought 72 = .ok (.if_icmp .ne 36, 3) := by decide +kernel
theorem dY_isSought_75 : decode bY_isSought 75 = .ok (.aload_n 0, 1) := by decide +kernel
theorem dY_isSought_76 : decode bY_isSought 76 = .ok (.getfield 28, 3) := by decide +kernel
theorem dY_isSought_79 : decode bY_isSought 79 = .ok (.iload_n 1, 1) := by decide +kernel
theorem dY_isSought_80 : decode bY_isSought 80 = .ok (.iaload, 1) := by decide +kernel
theorem dY_isSought_81 : decode bY_isSought 81 = .ok (.iload_n 3, 1) := by decide +kernel
theorem dY_isSought_82 : decode bY_isSought 82 = .ok (.if_icmp .ne 26, 3) := by decide +kernel
theorem dY_isSought_85 : decode bY_isSought 85 = .ok (.aload_n 0, 1) := by decide +kernel
theorem dY_isSought_86 : decode bY_isSought 86 = .ok (.getfield 31, 3) := by decide +kernel
theorem dY_isSought_89 : decode bY_isSought 89 = .ok (.iload_n 1, 1) := by decide +kernel
theorem dY_isSought_90 : decode bY_isSought 90 = .ok (.baload, 1) := by decide +kernel
theorem dY_isSought_91 : decode bY_isSought 91 = .ok (.iload 4, 2) := by decide +kernel
theorem dY_isSought_93 : decode bY_isSought 93 = .ok (.ifCond .ne 7, 3) := by decide +kernel
theorem dY_isSought_96 : decode bY_isSought 96 = .ok (.iconst 1, 1) := by decide +kernel
theorem dY_isSought_97 : decode bY_isSought 97 = .ok (.goto 4, 3) := by decide +kernel
theorem dY_isSought_100 : decode bY_isSought 100 = .ok (.iconst 0, 1) := by decide +kernel
theorem dY_isSought_101 : decode bY_isSought 101 = .ok (.if_icmp .ne 7, 3) := by decide +kernel
theorem dY_isSought_104 : decode bY_isSought 104 = .ok (.iconst 1, 1) := by decide +kernel
theorem dY_isSought_105 : decode bY_isSought 105 = .ok (.goto 4, 3) := by decide +kernel
theorem dY_isSought_108 : decode bY_isSought 108 = .ok (.iconst 0, 1) := by decide +kernel
theorem dY_isSought_109 : decode bY_isSought 109 = .ok (.ireturn, 1) := by decide +kernel
theorem dY_sought_0 : decode bY_sought 0 = .ok (.iload_n 1, 1) := by decide +kernel
theorem dY_sought_1 : decode bY_sought 1 = .ok (.istore 5, 2) := by decide +kernel
theorem dY_sought_3 : decode bY_sought 3 = .ok (.iload 5, 2) := by decide +kernel
theorem dY_sought_5 : decode bY_sought 5 = .ok (.iconst (-1), 1) := by decide +kernel
theorem dY_sought_6 : decode bY_sought 6 = .ok (.if_icmp .eq 71, 3) := by decide +kernel
theorem dY_sought_9 : decode bY_sought 9 = .ok (.iconst 0, 1) := by decide +kernel
theorem dY_sought_10 : decode bY_sought 10 = .ok (.istore 6, 2) := by decide +kernel
theorem dY_sought_12 : decode bY_sought 12 = .ok (.iload 6, 2) := by decide +kernel
theorem dY_sought_14 : decode bY_sought 14 = .ok (.aload_n 0, 1) := by decide +kernel
theorem dY_sought_15 : decode bY_sought 15 = .ok (.getfield 48, 3) := by decide +kernel
theorem dY_sought_18 : decode bY_sought 18 = .ok (.if_icmp .ge 37, 3) := by decide +kernel
theorem dY_sought_21 : decode bY_sought 21 = .ok (.aload_n 0, 1) := by decide +kernel
theorem dY_sought_22 : decode bY_sought 22 = .ok (.getfield 16, 3) := by decide +kernel
theorem dY_sought_25 : decode bY_sought 25 = .ok (.iload 6, 2) := by decide +kernel
theorem dY_sought_27 : decode bY_sought 27 = .ok (.iaload, 1) := by decide +kernel
theorem dY_sought_28 : decode bY_sought 28 = .ok (.iload 5, 2) := by decide +kernel
theorem dY_sought_30 : decode bY_sought 30 = .ok (.if_icmp .ne 19, 3) := by decide +kernel
theorem dY_sought_33 : decode bY_sought 33 = .ok (.aload_n 0, 1) := by decide +kernel
theorem dY_sought_34 : decode bY_sought 34 = .ok (.iload 6, 2) := by decide +kernel
theorem dY_sought_36 : decode bY_sought 36 = .ok (.iload_n 2, 1) := by decide +kernel
theorem dY_sought_37 : decode bY_sought 37 = .ok (.iload_n 3, 1) := by decide +kernel
theorem dY_sought_38 : decode bY_sought 38 = .ok (.iload 4, 2) := by decide +kernel
theorem dY_sought_40 : decode bY_sought 40 = .ok (.invokevirtual 102, 3) := by decide +kernel
theorem dY_sought_43 : decode bY_sought 43 = .ok (.ifCond .eq 6, 3) := by decide +kernel
theorem dY_sought_46 : decode bY_sought 46 = .ok (.iload 6, 2) := by decide +kernel
theorem dY_sought_48 : decode bY_sought 48 = .ok (.ireturn, 1) := by decide +kernel
theorem dY_sought_49 : decode bY_sought 49 = .ok (.iinc 6 1, 3) := by decide +kernel
theorem dY_sought_52 : decode bY_sought 52 = .ok (.goto (-40), 3) := by decide +kernel
theorem dY_sought_55 : decode bY_sought 55 = .ok (.iload 4, 2) := by decide +kernel
theorem dY_sought_57 : decode bY_sought 57 = .ok (.iconst 3, 1) := by decide +kernel
theorem dY_sought_58 : decode bY_sought 58 = .ok (.if_icmp .ne 7, 3) := by decide +kernel
theorem dY_sought_61 : decode bY_sought 61 = .ok (.iconst (-1), 1) := by decide +kernel
theorem dY_sought_62 : decode bY_sought 62 = .ok (.goto 10, 3) := by decide +kernel
theorem dY_sought_65 : decode bY_sought 65 = .ok (.aload_n 0, 1) := by decide +kernel
theorem dY_sought_66 : decode bY_sought 66 = .ok (.getfield 7, 3) := by decide +kernel
theorem dY_sought_69 : decode bY_sought 69 = .ok (.iload 5, 2) := by decide +kernel
theorem dY_sought_71 : decode bY_sought 71 = .ok (.iaload, 1) := by decide +kernel
theorem dY_sought_72 : decode bY_sought 72 = .ok (.istore 5, 2) := by decide +kernel
theorem dY_sought_74 : decode bY_sought 74 = .ok (.goto (-71), 3) := by decide +kernel
theorem dY_sought_77 : decode bY_sought 77 = .ok (.iconst (-1), 1) := by decide +kernel
theorem dY_sought_78 : decode bY_sought 78 = .ok (.ireturn, 1) := by decide +kernel
theorem dY_find_0 : decode bY_find 0 = .ok (.aload_n 0, 1) := by decide +kernel
theorem dY_find_1 : decode bY_find 1 = .ok (.iconst 0, 1) := by decide +kernel
theorem dY_find_2 : decode bY_find 2 = .ok (.putfield 51, 3) := by decide +kernel
theorem dY_find_5 : decode bY_find 5 = .ok (.aload_n 0, 1) := by decide +kernel
theorem dY_find_6 : decode bY_find 6 = .ok (.iload_n 1, 1) := by decide +kernel
theorem dY_find_7 : decode bY_find 7 = .ok (.invokevirtual 54, 3) := by decide +kernel
theorem dY_find_10 : decode bY_find 10 = .ok (.ifCond .eq 20, 3) := by decide +kernel
theorem dY_find_13 : decode bY_find 13 = .ok (.aload_n 0, 1) := by decide +kernel
theorem dY_find_14 : decode bY_find 14 = .ok (.iload_n 2, 1) := by decide +kernel
theorem dY_find_15 : decode bY_find 15 = .ok (.invokevirtual 54, 3) := by decide +kernel
theorem dY_find_18 : decode bY_find 18 = .ok (.ifCond .eq 12, 3) := by decide +kernel
theorem dY_find_21 : decode bY_find 21 = .ok (.iload 5, 2) := by decide +kernel
theorem dY_find_23 : decode bY_find 23 = .ok (.iconst 5, 1) := by decide +kernel
theorem dY_find_24 : decode bY_find 24 = .ok (.invokestatic 66, 3) := by decide +kernel
theorem dY_find_27 : decode bY_find 27 = .ok (.ifCond .eq 9, 3) := by decide +kernel
theorem dY_find_30 : decode bY_find 30 = .ok (.aload_n 0, 1) := by decide +kernel
theorem dY_find_31 : decode bY_find 31 = .ok (.iconst 1, 1) := by decide +kernel
theorem dY_find_32 : decode bY_find 32 = .ok (.invokevirtual 62, 3) := by decide +kernel
theorem dY_find_35 : decode bY_find 35 = .ok (.ireturn, 1) := by decide +kernel
theorem dY_find_36 : decode bY_find 36 = .ok (.iload 5, 2) := by decide +kernel
theorem dY_find_38 : decode bY_find 38 = .ok (.iconst 3, 1) := by decide +kernel
theorem dY_find_39 : decode bY_find 39 = .ok (.if_icmp .eq 18, 3) := by decide +kernel
theorem dY_find_42 : decode bY_find 42 = .ok (.iload_n 3, 1) := by decide +kernel
theorem dY_find_43 : decode bY_find 43 = .ok (.bipush 99, 2) := by decide +kernel
theorem dY_find_45 : decode bY_find 45 = .ok (.invokestatic 66, 3) := by decide +kernel
theorem dY_find_48 : decode bY_find 48 = .ok (.ifCond .eq 9, 3) := by decide +kernel
theorem dY_find_51 : decode bY_find 51 = .ok (.aload_n 0, 1) := by decide +kernel
theorem dY_find_52 : decode bY_find 52 = .ok (.iconst 2, 1) := by decide +kernel
theorem dY_find_53 : decode bY_find 53 = .ok (.invokevirtual 62, 3) := by decide +kernel
theorem dY_find_56 : decode bY_find 56 = .ok (.ireturn, 1) := by decide +kernel
theorem dY_find_57 : decode bY_find 57 = .ok (.aload_n 0, 1) := by decide +kernel
theorem dY_find_58 : decode bY_find 58 = .ok (.iload_n 2, 1) := by decide +kernel
theorem dY_find_59 : decode bY_find 59 = .ok (.iload_n 3, 1) := by decide +kernel
theorem dY_find_60 : decode bY_find 60 = .ok (.iload 4, 2) := by decide +kernel
theorem dY_find_62 : decode bY_find 62 = .ok (.iload 5, 2) := by decide +kernel
theorem dY_find_64 : decode bY_find 64 = .ok (.invokevirtual 105, 3) := by decide +kernel
theorem dY_find_67 : decode bY_find 67 = .ok (.istore 6, 2) := by decide +kernel
theorem dY_find_69 : decode bY_find 69 = .ok (.iload 6, 2) := by decide +kernel
theorem dY_find_71 : decode bY_find 71 = .ok (.iconst (-1), 1) := by decide +kernel
theorem dY_find_72 : decode bY_find 72 = .ok (.if_icmp .ne 10, 3) := by decide +kernel
theorem dY_find_75 : decode bY_find 75 = .ok (.aload_n 0, 1) := by decide +kernel
theorem dY_find_76 : decode bY_find 76 = .ok (.bipush 6, 2) := by decide +kernel
theorem dY_find_78 : decode bY_find 78 = .ok (.invokevirtual 62, 3) := by decide +kernel
theorem dY_find_81 : decode bY_find 81 = .ok (.ireturn, 1) := by decide +kernel
theorem dY_find_82 : decode bY_find 82 = .ok (.aload_n 0, 1) := by decide +kernel
theorem dY_find_83 : decode bY_find 83 = .ok (.iload_n 1, 1) := by decide +kernel
theorem dY_find_84 : decode bY_find 84 = .ok (.iload 6, 2) := by decide +kernel
theorem dY_find_86 : decode bY_find 86 = .ok (.invokevirtual 84, 3) := by decide +kernel
theorem dY_find_89 : decode bY_find 89 = .ok (.ifCond .eq 18, 3) := by decide +kernel
theorem dY_find_92 : decode bY_find 92 = .ok (.iload 5, 2) := by decide +kernel
theorem dY_find_94 : decode bY_find 94 = .ok (.iconst 2, 1) := by decide +kernel
theorem dY_find_95 : decode bY_find 95 = .ok (.if_icmp .ne 19, 3) := by decide +kernel
theorem dY_find_98 : decode bY_find 98 = .ok (.aload_n 0, 1) := by decide +kernel
theorem dY_find_99 : decode bY_find 99 = .ok (.iload_n 1, 1) := by decide +kernel
theorem dY_find_100 : decode bY_find 100 = .ok (.iload_n 2, 1) := by decide +kernel
theorem dY_find_101 : decode bY_find 101 = .ok (.invokevirtual 58, 3) := by decide +kernel
theorem dY_find_104 : decode bY_find 104 = .ok (.ifCond .ne 10, 3) := by decide +kernel
theorem dY_find_107 : decode bY_find 107 = .ok (.aload_n 0, 1) := by decide +kernel
theorem dY_find_108 : decode bY_find 108 = .ok (.bipush 7, 2) := by decide +kernel
theorem dY_find_110 : decode bY_find 110 = .ok (.invokevirtual 62, 3) := by decide +kernel
theorem dY_find_113 : decode bY_find 113 = .ok (.ireturn, 1) := by decide +kernel
theorem dY_find_114 : decode bY_find 114 = .ok (.iload 5, 2) := by decide +kernel
theorem dY_find_116 : decode bY_find 116 = .ok (.iconst 5, 1) := by decide +kernel
theorem dY_find_117 : decode bY_find 117 = .ok (.if_icmp .ne 32, 3) := by decide +kernel
theorem dY_find_120 : decode bY_find 120 = .ok (.aload_n 0, 1) := by decide +kernel
theorem dY_find_121 : decode bY_find 121 = .ok (.getfield 35, 3) := by decide +kernel
theorem dY_find_124 : decode bY_find 124 = .ok (.iload 6, 2) := by decide +kernel
theorem dY_find_126 : decode bY_find 126 = .ok (.baload, 1) := by decide +kernel
theorem dY_find_127 : decode bY_find 127 = .ok (.ifCond .eq 22, 3) := by decide +kernel
theorem dY_find_130 : decode bY_find 130 = .ok (.iload_n 1, 1) := by decide +kernel
theorem dY_find_131 : decode bY_find 131 = .ok (.aload_n 0, 1) := by decide +kernel
theorem dY_find_132 : decode bY_find 132 = .ok (.getfield 16, 3) := by decide +kernel
theorem dY_find_135 : decode bY_find 135 = .ok (.iload 6, 2) := by decide +kernel
theorem dY_find_137 : decode bY_find 137 = .ok (.iaload, 1) := by decide +kernel
theorem dY_find_138 : decode bY_find 138 = .ok (.if_icmp .eq 11, 3) := by decide +kernel
theorem dY_find_141 : decode bY_find 141 = .ok (.aload_n 0, 1) := by decide +kernel
theorem dY_find_142 : decode bY_find 142 = .ok (.iconst 3, 1) := by decide +kernel
theorem dY_find_143 : decode bY_find 143 = .ok (.invokevirtual 62, 3) := by decide +kernel
theorem dY_find_146 : decode bY_find 146 = .ok (.goto 5, 3) := by decide +kernel
theorem dY_find_149 : decode bY_find 149 = .ok (.iload 6, 2) := by decide +kernel
theorem dY_find_151 : decode bY_find 151 = .ok (.ireturn, 1) := by decide +kernel
theorem dY_refused_0 : decode bY_refused 0 = .ok (.aload_n 0, 1) := by decide +kernel
theorem dY_refused_1 : decode bY_refused 1 = .ok (.getfield 51, 3) := by decide +kernel
theorem dY_refused_4 : decode bY_refused 4 = .ok (.ireturn, 1) := by decide +kernel
theorem dY_reaches_0 : decode bY_reaches 0 = .ok (.aload_n 0, 1) := by decide +kernel
theorem dY_reaches_1 : decode bY_reaches 1 = .ok (.iload_n 1, 1) := by decide +kernel
theorem dY_reaches_2 : decode bY_reaches 2 = .ok (.invokevirtual 54, 3) := by decide +kernel
theorem dY_reaches_5 : decode bY_reaches 5 = .ok (.ifCond .eq 24, 3) := by decide +kernel
theorem dY_reaches_8 : decode bY_reaches 8 = .ok (.aload_n 0, 1) := by decide +kernel
theorem dY_reaches_9 : decode bY_reaches 9 = .ok (.iload_n 2, 1) := by decide +kernel
theorem dY_reaches_10 : decode bY_reaches 10 = .ok (.invokevirtual 109, 3) := by decide +kernel
theorem dY_reaches_13 : decode bY_reaches 13 = .ok (.ifCond .eq 16, 3) := by decide +kernel
theorem dY_reaches_16 : decode bY_reaches 16 = .ok (.aload_n 0, 1) := by decide +kernel
theorem dY_reaches_17 : decode bY_reaches 17 = .ok (.iload_n 1, 1) := by decide +kernel
theorem dY_reaches_18 : decode bY_reaches 18 = .ok (.iload_n 2, 1) := by decide +kernel
theorem dY_reaches_19 : decode bY_reaches 19 = .ok (.invokevirtual 84, 3) := by decide +kernel
theorem dY_reaches_22 : decode bY_reaches 22 = .ok (.ifCond .eq 7, 3) := by decide +kernel
theorem dY_reaches_25 : decode bY_reaches 25 = .ok (.iconst 1, 1) := by decide +kernel
theorem dY_reaches_26 : decode bY_reaches 26 = .ok (.goto 4, 3) := by decide +kernel
theorem dY_reaches_29 : decode bY_reaches 29 = .ok (.iconst 0, 1) := by decide +kernel
theorem dY_reaches_30 : decode bY_reaches 30 = .ok (.ireturn, 1) := by decide +kernel
theorem dY_linkOf_0 : decode bY_linkOf 0 = .ok (.iconst 0, 1) := by decide +kernel
theorem dY_linkOf_1 : decode bY_linkOf 1 = .ok (.istore_n 2, 1) := by decide +kernel
theorem dY_linkOf_2 : decode bY_linkOf 2 = .ok (.iload_n 2, 1) := by decide +kernel
theorem dY_linkOf_3 : decode bY_linkOf 3 = .ok (.aload_n 0, 1) := by decide +kernel
theorem dY_linkOf_4 : decode bY_linkOf 4 = .ok (.getfield 91, 3) := by decide +kernel
theorem dY_linkOf_7 : decode bY_linkOf 7 = .ok (.if_icmp .ge 21, 3) := by decide +kernel
theorem dY_linkOf_10 : decode bY_linkOf 10 = .ok (.aload_n 0, 1) := by decide +kernel
theorem dY_linkOf_11 : decode bY_linkOf 11 = .ok (.getfield 38, 3) := by decide +kernel
theorem dY_linkOf_14 : decode bY_linkOf 14 = .ok (.iload_n 2, 1) := by decide +kernel
theorem dY_linkOf_15 : decode bY_linkOf 15 = .ok (.iaload, 1) := by decide +kernel
theorem dY_linkOf_16 : decode bY_linkOf 16 = .ok (.iload_n 1, 1) := by decide +kernel
theorem dY_linkOf_17 : decode bY_linkOf 17 = .ok (.if_icmp .ne 5, 3) := by decide +kernel
theorem dY_linkOf_20 : decode bY_linkOf 20 = .ok (.iload_n 2, 1) := by decide +kernel
theorem dY_linkOf_21 : decode bY_linkOf 21 = .ok (.ireturn, 1) := by decide +kernel
theorem dY_linkOf_22 : decode bY_linkOf 22 = .ok (.iinc 2 1, 3) := by decide +kernel
theorem dY_linkOf_25 : decode bY_linkOf 25 = .ok (.goto (-23), 3) := by decide +kernel
theorem dY_linkOf_28 : decode bY_linkOf 28 = .ok (.iconst (-1), 1) := by decide +kernel
theorem dY_linkOf_29 : decode bY_linkOf 29 = .ok (.ireturn, 1) := by decide +kernel
theorem dY_called_0 : decode bY_called 0 = .ok (.aload_n 0, 1) := by decide +kernel
theorem dY_called_1 : decode bY_called 1 = .ok (.iload_n 1, 1) := by decide +kernel
theorem dY_called_2 : decode bY_called 2 = .ok (.invokevirtual 109, 3) := by decide +kernel
theorem dY_called_5 : decode bY_called 5 = .ok (.ifCond .eq 33, 3) := by decide +kernel
theorem dY_called_8 : decode bY_called 8 = .ok (.aload_n 0, 1) := by decide +kernel
theorem dY_called_9 : decode bY_called 9 = .ok (.iload_n 2, 1) := by decide +kernel
theorem dY_called_10 : decode bY_called 10 = .ok (.invokevirtual 54, 3) := by decide +kernel
theorem dY_called_13 : decode bY_called 13 = .ok (.ifCond .eq 25, 3) := by decide +kernel
theorem dY_called_16 : decode bY_called 16 = .ok (.aload_n 0, 1) := by decide +kernel
theorem dY_called_17 : decode bY_called 17 = .ok (.iload_n 1, 1) := by decide +kernel
theorem dY_called_18 : decode bY_called 18 = .ok (.invokevirtual 77, 3) := by decide +kernel
theorem dY_called_21 : decode bY_called 21 = .ok (.ifCond .eq 17, 3) := by decide +kernel
theorem dY_called_24 : decode bY_called 24 = .ok (.aload_n 0, 1) := by decide +kernel
theorem dY_called_25 : decode bY_called 25 = .ok (.iload_n 2, 1) := by decide +kernel
theorem dY_called_26 : decode bY_called 26 = .ok (.aload_n 0, 1) := by decide +kernel
theorem dY_called_27 : decode bY_called 27 = .ok (.getfield 16, 3) := by decide +kernel
theorem dY_called_30 : decode bY_called 30 = .ok (.iload_n 1, 1) := by decide +kernel
theorem dY_called_31 : decode bY_called 31 = .ok (.iaload, 1) := by decide +kernel
theorem dY_called_32 : decode bY_called 32 = .ok (.invokevirtual 58, 3) := by decide +kernel
theorem dY_called_35 : decode bY_called 35 = .ok (.ifCond .ne 5, 3) := by decide +kernel
theorem dY_called_38 : decode bY_called 38 = .ok (.iconst (-1), 1) := by decide +kernel
theorem dY_called_39 : decode bY_called 39 = .ok (.ireturn, 1) := by decide +kernel
theorem dY_called_40 : decode bY_called 40 = .ok (.aload_n 0, 1) := by decide +kernel
theorem dY_called_41 : decode bY_called 41 = .ok (.getfield 22, 3) := by decide +kernel
theorem dY_called_44 : decode bY_called 44 = .ok (.iload_n 1, 1) := by decide +kernel
theorem dY_called_45 : decode bY_called 45 = .ok (.iaload, 1) := by decide +kernel
theorem dY_called_46 : decode bY_called 46 = .ok (.ifCond .ne 5, 3) := by decide +kernel
theorem dY_called_49 : decode bY_called 49 = .ok (.iload_n 1, 1) := by decide +kernel
theorem dY_called_50 : decode bY_called 50 = .ok (.ireturn, 1) := by decide +kernel
theorem dY_called_51 : decode bY_called 51 = .ok (.aload_n 0, 1) := by decide +kernel
theorem dY_called_52 : decode bY_called 52 = .ok (.iload_n 2, 1) := by decide +kernel
theorem dY_called_53 : decode bY_called 53 = .ok (.aload_n 0, 1) := by decide +kernel
theorem dY_called_54 : decode bY_called 54 = .ok (.getfield 19, 3) := by decide +kernel
theorem dY_called_57 : decode bY_called 57 = .ok (.iload_n 1, 1) := by decide +kernel
theorem dY_called_58 : decode bY_called 58 = .ok (.iaload, 1) := by decide +kernel
theorem dY_called_59 : decode bY_called 59 = .ok (.aload_n 0, 1) := by decide +kernel
theorem dY_called_60 : decode bY_called 60 = .ok (.getfield 28, 3) := by decide +kernel
theorem dY_called_63 : decode bY_called 63 = .ok (.iload_n 1, 1) := by decide +kernel
theorem dY_called_64 : decode bY_called 64 = .ok (.iaload, 1) := by decide +kernel
theorem dY_called_65 : decode bY_called 65 = .ok (.invokevirtual 94, 3) := by decide +kernel
theorem dY_called_68 : decode bY_called 68 = .ok (.aload_n 0, 1) := by decide +kernel
theorem dY_called_69 : decode bY_called 69 = .ok (.iconst (-1), 1) := by decide +kernel
theorem dY_called_70 : decode bY_called 70 = .ok (.iconst 0, 1) := by decide +kernel
theorem dY_called_71 : decode bY_called 71 = .ok (.invokevirtual 98, 3) := by decide +kernel
theorem dY_called_74 : decode bY_called 74 = .ok (.aload_n 0, 1) := by decide +kernel
theorem dY_called_75 : decode bY_called 75 = .ok (.iload_n 1, 1) := by decide +kernel
theorem dY_called_76 : decode bY_called 76 = .ok (.invokevirtual 112, 3) := by decide +kernel
theorem dY_called_79 : decode bY_called 79 = .ok (.istore_n 3, 1) := by decide +kernel
theorem dY_called_80 : decode bY_called 80 = .ok (.aload_n 0, 1) := by decide +kernel
theorem dY_called_81 : decode bY_called 81 = .ok (.getfield 91, 3) := by decide +kernel
theorem dY_called_84 : decode bY_called 84 = .ok (.iconst 1, 1) := by decide +kernel
theorem dY_called_85 : decode bY_called 85 = .ok (.isub, 1) := by decide +kernel
