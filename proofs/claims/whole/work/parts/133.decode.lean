theorem dY_tell_14 : decode bY_tell 14 = .ok (.aload_n 0, 1) := by decide +kernel
theorem dY_tell_15 : decode bY_tell 15 = .ok (.getfield 48, 3) := by decide +kernel
theorem dY_tell_18 : decode bY_tell 18 = .ok (.iload_n 2, 1) := by decide +kernel
theorem dY_tell_19 : decode bY_tell 19 = .ok (.iastore, 1) := by decide +kernel
theorem dY_tell_20 : decode bY_tell 20 = .ok (.aload_n 0, 1) := by decide +kernel
theorem dY_tell_21 : decode bY_tell 21 = .ok (.getfield 25, 3) := by decide +kernel
theorem dY_tell_24 : decode bY_tell 24 = .ok (.aload_n 0, 1) := by decide +kernel
theorem dY_tell_25 : decode bY_tell 25 = .ok (.getfield 48, 3) := by decide +kernel
theorem dY_tell_28 : decode bY_tell 28 = .ok (.iload_n 3, 1) := by decide +kernel
theorem dY_tell_29 : decode bY_tell 29 = .ok (.iastore, 1) := by decide +kernel
theorem dY_tell_30 : decode bY_tell 30 = .ok (.aload_n 0, 1) := by decide +kernel
theorem dY_tell_31 : decode bY_tell 31 = .ok (.getfield 28, 3) := by decide +kernel
theorem dY_tell_34 : decode bY_tell 34 = .ok (.aload_n 0, 1) := by decide +kernel
theorem dY_tell_35 : decode bY_tell 35 = .ok (.getfield 48, 3) := by decide +kernel
theorem dY_tell_38 : decode bY_tell 38 = .ok (.iload 4, 2) := by decide +kernel
theorem dY_tell_40 : decode bY_tell 40 = .ok (.iastore, 1) := by decide +kernel
theorem dY_tell_41 : decode bY_tell 41 = .ok (.aload_n 0, 1) := by decide +kernel
theorem dY_tell_42 : decode bY_tell 42 = .ok (.getfield 31, 3) := by decide +kernel
theorem dY_tell_45 : decode bY_tell 45 = .ok (.aload_n 0, 1) := by decide +kernel
theorem dY_tell_46 : decode bY_tell 46 = .ok (.getfield 48, 3) := by decide +kernel
theorem dY_tell_49 : decode bY_tell 49 = .ok (.iload 5, 2) := by decide +kernel
theorem dY_tell_51 : decode bY_tell 51 = .ok (.bastore, 1) := by decide +kernel
theorem dY_tell_52 : decode bY_tell 52 = .ok (.aload_n 0, 1) := by decide +kernel
theorem dY_tell_53 : decode bY_tell 53 = .ok (.getfield 35, 3) := by decide +kernel
theorem dY_tell_56 : decode bY_tell 56 = .ok (.aload_n 0, 1) := by decide +kernel
theorem dY_tell_57 : decode bY_tell 57 = .ok (.getfield 48, 3) := by decide +kernel
theorem dY_tell_60 : decode bY_tell 60 = .ok (.iload 6, 2) := by decide +kernel
theorem dY_tell_62 : decode bY_tell 62 = .ok (.bastore, 1) := by decide +kernel
theorem dY_tell_63 : decode bY_tell 63 = .ok (.aload_n 0, 1) := by decide +kernel
theorem dY_tell_64 : decode bY_tell 64 = .ok (.getfield 22, 3) := by decide +kernel
theorem dY_tell_67 : decode bY_tell 67 = .ok (.aload_n 0, 1) := by decide +kernel
theorem dY_tell_68 : decode bY_tell 68 = .ok (.getfield 48, 3) := by decide +kernel
theorem dY_tell_71 : decode bY_tell 71 = .ok (.iload 7, 2) := by decide +kernel
theorem dY_tell_73 : decode bY_tell 73 = .ok (.iastore, 1) := by decide +kernel
theorem dY_tell_74 : decode bY_tell 74 = .ok (.return_, 1) := by decide +kernel
theorem dY_told_0 : decode bY_told 0 = .ok (.aload_n 0, 1) := by decide +kernel
theorem dY_told_1 : decode bY_told 1 = .ok (.getfield 48, 3) := by decide +kernel
theorem dY_told_4 : decode bY_told 4 = .ok (.sipush 200, 3) := by decide +kernel
theorem dY_told_7 : decode bY_told 7 = .ok (.if_icmp .ne 9, 3) := by decide +kernel
theorem dY_told_10 : decode bY_told 10 = .ok (.aload_n 0, 1) := by decide +kernel
theorem dY_told_11 : decode bY_told 11 = .ok (.iconst 5, 1) := by decide +kernel
theorem dY_told_12 : decode bY_told 12 = .ok (.invokevirtual 62, 3) := by decide +kernel
theorem dY_told_15 : decode bY_told 15 = .ok (.ireturn, 1) := by decide +kernel
theorem dY_told_16 : decode bY_told 16 = .ok (.aload_n 0, 1) := by decide +kernel
theorem dY_told_17 : decode bY_told 17 = .ok (.dup, 1) := by decide +kernel
theorem dY_told_18 : decode bY_told 18 = .ok (.getfield 48, 3) := by decide +kernel
theorem dY_told_21 : decode bY_told 21 = .ok (.iconst 1, 1) := by decide +kernel
theorem dY_told_22 : decode bY_told 22 = .ok (.iadd, 1) := by decide +kernel
theorem dY_told_23 : decode bY_told 23 = .ok (.putfield 48, 3) := by decide +kernel
theorem dY_told_26 : decode bY_told 26 = .ok (.aload_n 0, 1) := by decide +kernel
theorem dY_told_27 : decode bY_told 27 = .ok (.getfield 48, 3) := by decide +kernel
theorem dY_told_30 : decode bY_told 30 = .ok (.iconst 1, 1) := by decide +kernel
theorem dY_told_31 : decode bY_told 31 = .ok (.isub, 1) := by decide +kernel
theorem dY_told_32 : decode bY_told 32 = .ok (.ireturn, 1) := by decide +kernel
theorem dY_outside_0 : decode bY_outside 0 = .ok (.iload_n 0, 1) := by decide +kernel
theorem dY_outside_1 : decode bY_outside 1 = .ok (.ifCond .lt 8, 3) := by decide +kernel
theorem dY_outside_4 : decode bY_outside 4 = .ok (.iload_n 0, 1) := by decide +kernel
theorem dY_outside_5 : decode bY_outside 5 = .ok (.iload_n 1, 1) := by decide +kernel
theorem dY_outside_6 : decode bY_outside 6 = .ok (.if_icmp .le 7, 3) := by decide +kernel
theorem dY_outside_9 : decode bY_outside 9 = .ok (.iconst 1, 1) := by decide +kernel
theorem dY_outside_10 : decode bY_outside 10 = .ok (.goto 4, 3) := by decide +kernel
theorem dY_outside_13 : decode bY_outside 13 = .ok (.iconst 0, 1) := by decide +kernel
theorem dY_outside_14 : decode bY_outside 14 = .ok (.ireturn, 1) := by decide +kernel
theorem dY_field_0 : decode bY_field 0 = .ok (.aload_n 0, 1) := by decide +kernel
theorem dY_field_1 : decode bY_field 1 = .ok (.iconst 0, 1) := by decide +kernel
theorem dY_field_2 : decode bY_field 2 = .ok (.putfield 51, 3) := by decide +kernel
theorem dY_field_5 : decode bY_field 5 = .ok (.aload_n 0, 1) := by decide +kernel
theorem dY_field_6 : decode bY_field 6 = .ok (.iload_n 1, 1) := by decide +kernel
theorem dY_field_7 : decode bY_field 7 = .ok (.invokevirtual 54, 3) := by decide +kernel
theorem dY_field_10 : decode bY_field 10 = .ok (.ifCond .ne 9, 3) := by decide +kernel
theorem dY_field_13 : decode bY_field 13 = .ok (.aload_n 0, 1) := by decide +kernel
theorem dY_field_14 : decode bY_field 14 = .ok (.iconst 1, 1) := by decide +kernel
theorem dY_field_15 : decode bY_field 15 = .ok (.invokevirtual 62, 3) := by decide +kernel
theorem dY_field_18 : decode bY_field 18 = .ok (.ireturn, 1) := by decide +kernel
theorem dY_field_19 : decode bY_field 19 = .ok (.iload_n 2, 1) := by decide +kernel
theorem dY_field_20 : decode bY_field 20 = .ok (.bipush 99, 2) := by decide +kernel
theorem dY_field_22 : decode bY_field 22 = .ok (.invokestatic 66, 3) := by decide +kernel
theorem dY_field_25 : decode bY_field 25 = .ok (.ifCond .ne 12, 3) := by decide +kernel
theorem dY_field_28 : decode bY_field 28 = .ok (.iload 5, 2) := by decide +kernel
theorem dY_field_30 : decode bY_field 30 = .ok (.iconst 3, 1) := by decide +kernel
theorem dY_field_31 : decode bY_field 31 = .ok (.invokestatic 66, 3) := by decide +kernel
theorem dY_field_34 : decode bY_field 34 = .ok (.ifCond .eq 9, 3) := by decide +kernel
theorem dY_field_37 : decode bY_field 37 = .ok (.aload_n 0, 1) := by decide +kernel
theorem dY_field_38 : decode bY_field 38 = .ok (.iconst 2, 1) := by decide +kernel
theorem dY_field_39 : decode bY_field 39 = .ok (.invokevirtual 62, 3) := by decide +kernel
theorem dY_field_42 : decode bY_field 42 = .ok (.ireturn, 1) := by decide +kernel
theorem dY_field_43 : decode bY_field 43 = .ok (.iconst 0, 1) := by decide +kernel
theorem dY_field_44 : decode bY_field 44 = .ok (.istore 6, 2) := by decide +kernel
theorem dY_field_46 : decode bY_field 46 = .ok (.iload 6, 2) := by decide +kernel
theorem dY_field_48 : decode bY_field 48 = .ok (.aload_n 0, 1) := by decide +kernel
theorem dY_field_49 : decode bY_field 49 = .ok (.getfield 48, 3) := by decide +kernel
theorem dY_field_52 : decode bY_field 52 = .ok (.if_icmp .ge 47, 3) := by decide +kernel
theorem dY_field_55 : decode bY_field 55 = .ok (.aload_n 0, 1) := by decide +kernel
theorem dY_field_56 : decode bY_field 56 = .ok (.getfield 16, 3) := by decide +kernel
theorem dY_field_59 : decode bY_field 59 = .ok (.iload 6, 2) := by decide +kernel
theorem dY_field_61 : decode bY_field 61 = .ok (.iaload, 1) := by decide +kernel
theorem dY_field_62 : decode bY_field 62 = .ok (.iload_n 1, 1) := by decide +kernel
theorem dY_field_63 : decode bY_field 63 = .ok (.if_icmp .ne 30, 3) := by decide +kernel
theorem dY_field_66 : decode bY_field 66 = .ok (.aload_n 0, 1) := by decide +kernel
theorem dY_field_67 : decode bY_field 67 = .ok (.getfield 25, 3) := by decide +kernel
theorem dY_field_70 : decode bY_field 70 = .ok (.iload 6, 2) := by decide +kernel
theorem dY_field_72 : decode bY_field 72 = .ok (.iaload, 1) := by decide +kernel
theorem dY_field_73 : decode bY_field 73 = .ok (.ifCond .ne 20, 3) := by decide +kernel
theorem dY_field_76 : decode bY_field 76 = .ok (.aload_n 0, 1) := by decide +kernel
theorem dY_field_77 : decode bY_field 77 = .ok (.getfield 19, 3) := by decide +kernel
theorem dY_field_80 : decode bY_field 80 = .ok (.iload 6, 2) := by decide +kernel
theorem dY_field_82 : decode bY_field 82 = .ok (.iaload, 1) := by decide +kernel
theorem dY_field_83 : decode bY_field 83 = .ok (.iload_n 2, 1) := by decide +kernel
theorem dY_field_84 : decode bY_field 84 = .ok (.if_icmp .ne 9, 3) := by decide +kernel
theorem dY_field_87 : decode bY_field 87 = .ok (.aload_n 0, 1) := by decide +kernel
theorem dY_field_88 : decode bY_field 88 = .ok (.iconst 4, 1) := by decide +kernel
theorem dY_field_89 : decode bY_field 89 = .ok (.invokevirtual 62, 3) := by decide +kernel
theorem dY_field_92 : decode bY_field 92 = .ok (.ireturn, 1) := by decide +kernel
theorem dY_field_93 : decode bY_field 93 = .ok (.iinc 6 1, 3) := by decide +kernel
theorem dY_field_96 : decode bY_field 96 = .ok (.goto (-50), 3) := by decide +kernel
theorem dY_field_99 : decode bY_field 99 = .ok (.aload_n 0, 1) := by decide +kernel
theorem dY_field_100 : decode bY_field 100 = .ok (.getfield 48, 3) := by decide +kernel
theorem dY_field_103 : decode bY_field 103 = .ok (.sipush 200, 3) := by decide +kernel
theorem dY_field_106 : decode bY_field 106 = .ok (.if_icmp .ge 16, 3) := by decide +kernel
theorem dY_field_109 : decode bY_field 109 = .ok (.aload_n 0, 1) := by decide +kernel
theorem dY_field_110 : decode bY_field 110 = .ok (.iload_n 1, 1) := by decide +kernel
theorem dY_field_111 : decode bY_field 111 = .ok (.iload_n 2, 1) := by decide +kernel
theorem dY_field_112 : decode bY_field 112 = .ok (.iconst 0, 1) := by decide +kernel
theorem dY_field_113 : decode bY_field 113 = .ok (.iconst 0, 1) := by decide +kernel
theorem dY_field_114 : decode bY_field 114 = .ok (.iload_n 3, 1) := by decide +kernel
theorem dY_field_115 : decode bY_field 115 = .ok (.iload 4, 2) := by decide +kernel
theorem dY_field_117 : decode bY_field 117 = .ok (.iload 5, 2) := by decide +kernel
theorem dY_field_119 : decode bY_field 119 = .ok (.invokevirtual 69, 3) := by decide +kernel
theorem dY_field_122 : decode bY_field 122 = .ok (.aload_n 0, 1) := by decide +kernel
theorem dY_field_123 : decode bY_field 123 = .ok (.invokevirtual 73, 3) := by decide +kernel
theorem dY_field_126 : decode bY_field 126 = .ok (.ireturn, 1) := by decide +kernel
theorem dY_ownIn_0 : decode bY_ownIn 0 = .ok (.iconst 0, 1) := by decide +kernel
theorem dY_ownIn_1 : decode bY_ownIn 1 = .ok (.istore 4, 2) := by decide +kernel
theorem dY_ownIn_3 : decode bY_ownIn 3 = .ok (.iload 4, 2) := by decide +kernel
theorem dY_ownIn_5 : decode bY_ownIn 5 = .ok (.aload_n 0, 1) := by decide +kernel
theorem dY_ownIn_6 : decode bY_ownIn 6 = .ok (.getfield 48, 3) := by decide +kernel
theorem dY_ownIn_9 : decode bY_ownIn 9 = .ok (.if_icmp .ge 54, 3) := by decide +kernel
theorem dY_ownIn_12 : decode bY_ownIn 12 = .ok (.aload_n 0, 1) := by decide +kernel
theorem dY_ownIn_13 : decode bY_ownIn 13 = .ok (.getfield 16, 3) := by decide +kernel
theorem dY_ownIn_16 : decode bY_ownIn 16 = .ok (.iload 4, 2) := by decide +kernel
theorem dY_ownIn_18 : decode bY_ownIn 18 = .ok (.iaload, 1) := by decide +kernel
theorem dY_ownIn_19 : decode bY_ownIn 19 = .ok (.iload_n 1, 1) := by decide +kernel
theorem dY_ownIn_20 : decode bY_ownIn 20 = .ok (.if_icmp .ne 37, 3) := by decide +kernel
theorem dY_ownIn_23 : decode bY_ownIn 23 = .ok (.aload_n 0, 1) := by decide +kernel
theorem dY_ownIn_24 : decode bY_ownIn 24 = .ok (.iload 4, 2) := by decide +kernel
theorem dY_ownIn_26 : decode bY_ownIn 26 = .ok (.invokevirtual 77, 3) := by decide +kernel
theorem dY_ownIn_29 : decode bY_ownIn 29 = .ok (.ifCond .eq 28, 3) := by decide +kernel
theorem dY_ownIn_32 : decode bY_ownIn 32 = .ok (.aload_n 0, 1) := by decide +kernel
theorem dY_ownIn_33 : decode bY_ownIn 33 = .ok (.getfield 19, 3) := by decide +kernel
theorem dY_ownIn_36 : decode bY_ownIn 36 = .ok (.iload 4, 2) := by decide +kernel
theorem dY_ownIn_38 : decode bY_ownIn 38 = .ok (.iaload, 1) := by decide +kernel
theorem dY_ownIn_39 : decode bY_ownIn 39 = .ok (.iload_n 2, 1) := by decide +kernel
theorem dY_ownIn_40 : decode bY_ownIn 40 = .ok (.if_icmp .ne 17, 3) := by decide +kernel
theorem dY_ownIn_43 : decode bY_ownIn 43 = .ok (.aload_n 0, 1) := by decide +kernel
theorem dY_ownIn_44 : decode bY_ownIn 44 = .ok (.getfield 28, 3) := by decide +kernel
theorem dY_ownIn_47 : decode bY_ownIn 47 = .ok (.iload 4, 2) := by decide +kernel
theorem dY_ownIn_49 : decode bY_ownIn 49 = .ok (.iaload, 1) := by decide +kernel
theorem dY_ownIn_50 : decode bY_ownIn 50 = .ok (.iload_n 3, 1) := by decide +kernel
theorem dY_ownIn_51 : decode bY_ownIn 51 = .ok (.if_icmp .ne 6, 3) := by decide +kernel
theorem dY_ownIn_54 : decode bY_ownIn 54 = .ok (.iload 4, 2) := by decide +kernel
theorem dY_ownIn_56 : decode bY_ownIn 56 = .ok (.ireturn, 1) := by decide +kernel
theorem dY_ownIn_57 : decode bY_ownIn 57 = .ok (.iinc 4 1, 3) := by decide +kernel
theorem dY_ownIn_60 : decode bY_ownIn 60 = .ok (.goto (-57), 3) := by decide +kernel
theorem dY_ownIn_63 : decode bY_ownIn 63 = .ok (.iconst (-1), 1) := by decide +kernel
theorem dY_ownIn_64 : decode bY_ownIn 64 = .ok (.ireturn, 1) := by decide +kernel
theorem dY_method_0 : decode bY_method 0 = .ok (.aload_n 0, 1) := by decide +kernel
theorem dY_method_1 : decode bY_method 1 = .ok (.iconst 0, 1) := by decide +kernel
theorem dY_method_2 : decode bY_method 2 = .ok (.putfield 51, 3) := by decide +kernel
theorem dY_method_5 : decode bY_method 5 = .ok (.aload_n 0, 1) := by decide +kernel
theorem dY_method_6 : decode bY_method 6 = .ok (.iload_n 1, 1) := by decide +kernel
theorem dY_method_7 : decode bY_method 7 = .ok (.invokevirtual 54, 3) := by decide +kernel
theorem dY_method_10 : decode bY_method 10 = .ok (.ifCond .ne 9, 3) := by decide +kernel
theorem dY_method_13 : decode bY_method 13 = .ok (.aload_n 0, 1) := by decide +kernel
theorem dY_method_14 : decode bY_method 14 = .ok (.iconst 1, 1) := by decide +kernel
theorem dY_method_15 : decode bY_method 15 = .ok (.invokevirtual 62, 3) := by decide +kernel
theorem dY_method_18 : decode bY_method 18 = .ok (.ireturn, 1) := by decide +kernel
theorem dY_method_19 : decode bY_method 19 = .ok (.iload_n 2, 1) := by decide +kernel
theorem dY_method_20 : decode bY_method 20 = .ok (.bipush 99, 2) := by decide +kernel
theorem dY_method_22 : decode bY_method 22 = .ok (.invokestatic 66, 3) := by decide +kernel
theorem dY_method_25 : decode bY_method 25 = .ok (.ifCond .ne 12, 3) := by decide +kernel
theorem dY_method_28 : decode bY_method 28 = .ok (.iload 6, 2) := by decide +kernel
theorem dY_method_30 : decode bY_method 30 = .ok (.iconst 3, 1) := by decide +kernel
theorem dY_method_31 : decode bY_method 31 = .ok (.invokestatic 66, 3) := by decide +kernel
theorem dY_method_34 : decode bY_method 34 = .ok (.ifCond .eq 9, 3) := by decide +kernel
theorem dY_method_37 : decode bY_method 37 = .ok (.aload_n 0, 1) := by decide +kernel
theorem dY_method_38 : decode bY_method 38 = .ok (.iconst 2, 1) := by decide +kernel
theorem dY_method_39 : decode bY_method 39 = .ok (.invokevirtual 62, 3) := by decide +kernel
theorem dY_method_42 : decode bY_method 42 = .ok (.ireturn, 1) := by decide +kernel
theorem dY_method_43 : decode bY_method 43 = .ok (.iconst 0, 1) := by decide +kernel
theorem dY_method_44 : decode bY_method 44 = .ok (.istore 7, 2) := by decide +kernel
theorem dY_method_46 : decode bY_method 46 = .ok (.iload 7, 2) := by decide +kernel
theorem dY_method_48 : decode bY_method 48 = .ok (.aload_n 0, 1) := by decide +kernel
theorem dY_method_49 : decode bY_method 49 = .ok (.getfield 48, 3) := by decide +kernel
theorem dY_method_52 : decode bY_method 52 = .ok (.if_icmp .ge 59, 3) := by decide +kernel
theorem dY_method_55 : decode bY_method 55 = .ok (.aload_n 0, 1) := by decide +kernel
theorem dY_method_56 : decode bY_method 56 = .ok (.getfield 16, 3) := by decide +kernel
theorem dY_method_59 : decode bY_method 59 = .ok (.iload 7, 2) := by decide +kernel
theorem dY_method_61 : decode bY_method 61 = .ok (.iaload, 1) := by decide +kernel
theorem dY_method_62 : decode bY_method 62 = .ok (.iload_n 1, 1) := by decide +kernel
theorem dY_method_63 : decode bY_method 63 = .ok (.if_icmp .ne 42, 3) := by decide +kernel
theorem dY_method_66 : decode bY_method 66 = .ok (.aload_n 0, 1) := by decide +kernel
theorem dY_method_67 : decode bY_method 67 = .ok (.getfield 25, 3) := by decide +kernel
theorem dY_method_70 : decode bY_method 70 = .ok (.iload 7, 2) := by decide +kernel
theorem dY_method_72 : decode bY_method 72 = .ok (.iaload, 1) := by decide +kernel
theorem dY_method_73 : decode bY_method 73 = .ok (.iconst 1, 1) := by decide +kernel
theorem dY_method_74 : decode bY_method 74 = .ok (.if_icmp .ne 31, 3) := by decide +kernel
theorem dY_method_77 : decode bY_method 77 = .ok (.aload_n 0, 1) := by decide +kernel
theorem dY_method_78 : decode bY_method 78 = .ok (.getfield 19, 3) := by decide +kernel
theorem dY_method_81 : decode bY_method 81 = .ok (.iload 7, 2) := by decide +kernel
theorem dY_method_83 : decode bY_method 83 = .ok (.iaload, 1) := by decide +kernel
theorem dY_method_84 : decode bY_method 84 = .ok (.iload_n 2, 1) := by decide +kernel
theorem dY_method_85 : decode bY_method 85 = .ok (.if_icmp .ne 20, 3) := by decide +kernel
theorem dY_method_88 : decode bY_method 88 = .ok (.aload_n 0, 1) := by decide +kernel
theorem dY_method_89 : decode bY_method 89 = .ok (.getfield 28, 3) := by decide +kernel
theorem dY_method_92 : decode bY_method 92 = .ok (.iload 7, 2) := by decide +kernel
theorem dY_method_94 : decode bY_method 94 = .ok (.iaload, 1) := by decide +kernel
theorem dY_method_95 : decode bY_method 95 = .ok (.iload_n 3, 1) := by decide +kernel
theorem dY_method_96 : decode bY_method 96 = .ok (.if_icmp .ne 9, 3) := by decide +kernel
theorem dY_method_99 : decode bY_method 99 = .ok (.aload_n 0, 1) := by decide +kernel
theorem dY_method_100 : decode bY_method 100 = .ok (.iconst 4, 1) := by decide +kernel
theorem dY_method_101 : decode bY_method 101 = .ok (.invokevirtual 62, 3) := by decide +kernel
theorem dY_method_104 : decode bY_method 104 = .ok (.ireturn, 1) := by decide +kernel
theorem dY_method_105 : decode bY_method 105 = .ok (.iinc 7 1, 3) := by decide +kernel
theorem dY_method_108 : decode bY_method 108 = .ok (.goto (-62), 3) := by decide +kernel
theorem dY_method_111 : decode bY_method 111 = .ok (.iload 4, 2) := by decide +kernel
theorem dY_method_113 : decode bY_method 113 = .ok (.ifCond .eq 75, 3) := by decide +kernel
theorem dY_method_116 : decode bY_method 116 = .ok (.aload_n 0, 1) := by decide +kernel
theorem dY_method_117 : decode bY_method 117 = .ok (.getfield 7, 3) := by decide +kernel
theorem dY_method_120 : decode bY_method 120 = .ok (.iload_n 1, 1) := by decide +kernel
theorem dY_method_121 : decode bY_method 121 = .ok (.iaload, 1) := by decide +kernel
theorem dY_method_122 : decode bY_method 122 = .ok (.istore 7, 2) := by decide +kernel
theorem dY_method_124 : decode bY_method 124 = .ok (.iload 7, 2) := by decide +kernel
theorem dY_method_126 : decode bY_method 126 = .ok (.iconst (-1), 1) := by decide +kernel
theorem dY_method_127 : decode bY_method 127 = .ok (.if_icmp .eq 58, 3) := by decide +kernel
theorem dY_method_130 : decode bY_method 130 = .ok (.aload_n 0, 1) := by decide +kernel
theorem dY_method_131 : decode bY_method 131 = .ok (.iload 7, 2) := by decide +kernel
theorem dY_method_133 : decode bY_method 133 = .ok (.iload_n 2, 1) := by decide +kernel
theorem dY_method_134 : decode bY_method 134 = .ok (.iload_n 3, 1) := by decide +kernel
theorem dY_method_135 : decode bY_method 135 = .ok (.invokevirtual 80, 3) := by decide +kernel
theorem dY_method_138 : decode bY_method 138 = .ok (.istore 8, 2) := by decide +kernel
theorem dY_method_140 : decode bY_method 140 = .ok (.iload 8, 2) := by decide +kernel
theorem dY_method_142 : decode bY_method 142 = .ok (.iconst (-1), 1) := by decide +kernel
theorem dY_method_143 : decode bY_method 143 = .ok (.if_icmp .eq 30, 3) := by decide +kernel
theorem dY_method_146 : decode bY_method 146 = .ok (.aload_n 0, 1) := by decide +kernel
theorem dY_method_147 : decode bY_method 147 = .ok (.getfield 22, 3) := by decide +kernel
theorem dY_method_150 : decode bY_method 150 = .ok (.iload 8, 2) := by decide +kernel
theorem dY_method_152 : decode bY_method 152 = .ok (.iaload, 1) := by decide +kernel
theorem dY_method_153 : decode bY_method 153 = .ok (.ifCond .eq 20, 3) := by decide +kernel
theorem dY_method_156 : decode bY_method 156 = .ok (.aload_n 0, 1) := by decide +kernel
theorem dY_method_157 : decode bY_method 157 = .ok (.iload_n 1, 1) := by decide +kernel
theorem dY_method_158 : decode bY_method 158 = .ok (.iload 8, 2) := by decide +kernel
theorem dY_method_160 : decode bY_method 160 = .ok (.invokevirtual 84, 3) := by decide +kernel
theorem dY_method_163 : decode bY_method 163 = .ok (.ifCond .eq 10, 3) := by decide +kernel
theorem dY_method_166 : decode bY_method 166 = .ok (.aload_n 0, 1) := by decide +kernel
theorem dY_method_167 : decode bY_method 167 = .ok (.bipush 8, 2) := by decide +kernel
theorem dY_method_169 : decode bY_method 169 = .ok (.invokevirtual 62, 3) := by decide +kernel
theorem dY_method_172 : decode bY_method 172 = .ok (.ireturn, 1) := by decide +kernel
theorem dY_method_173 : decode bY_method 173 = .ok (.aload_n 0, 1) := by decide +kernel
theorem dY_method_174 : decode bY_method 174 = .ok (.getfield 7, 3) := by decide +kernel
theorem dY_method_177 : decode bY_method 177 = .ok (.iload 7, 2) := by decide +kernel
theorem dY_method_179 : decode bY_method 179 = .ok (.iaload, 1) := by decide +kernel
theorem dY_method_180 : decode bY_method 180 = .ok (.istore 7, 2) := by decide +kernel
theorem dY_method_182 : decode bY_method 182 = .ok (.goto (-58), 3) := by decide +kernel
theorem dY_method_185 : decode bY_method 185 = .ok (.goto 22, 3) := by decide +kernel
theorem dY_method_188 : decode bY_method 188 = .ok (.aload_n 0, 1) := by decide +kernel
theorem dY_method_189 : decode bY_method 189 = .ok (.iload_n 1, 1) := by decide +kernel
theorem dY_method_190 : decode bY_method 190 = .ok (.iload_n 2, 1) := by decide +kernel
theorem dY_method_191 : decode bY_method 191 = .ok (.iload_n 3, 1) := by decide +kernel
theorem dY_method_192 : decode bY_method 192 = .ok (.iload 6, 2) := by decide +kernel
theorem dY_method_194 : decode bY_method 194 = .ok (.invokevirtual 87, 3) := by decide +kernel
theorem dY_method_197 : decode bY_method 197 = .ok (.ifCond .eq 10, 3) := by decide +kernel
theorem dY_method_200 : decode bY_method 200 = .ok (.aload_n 0, 1) := by decide +kernel
theorem dY_method_201 : decode bY_method 201 = .ok (.bipush 8, 2) := by decide +kernel
theorem dY_method_203 : decode bY_method 203 = .ok (.invokevirtual 62, 3) := by decide +kernel
theorem dY_method_206 : decode bY_method 206 = .ok (.ireturn, 1) := by decide +kernel
theorem dY_method_207 : decode bY_method 207 = .ok (.aload_n 0, 1) := by decide +kernel
theorem dY_method_208 : decode bY_method 208 = .ok (.getfield 48, 3) := by decide +kernel
theorem dY_method_211 : decode bY_method 211 = .ok (.sipush 200, 3) := by decide +kernel
theorem dY_method_214 : decode bY_method 214 = .ok (.if_icmp .ge 17, 3) := by decide +kernel
theorem dY_method_217 : decode bY_method 217 = .ok (.aload_n 0, 1) := by decide +kernel
theorem dY_method_218 : decode bY_method 218 = .ok (.iload_n 1, 1) := by decide +kernel
theorem dY_method_219 : decode bY_method 219 = .ok (.iload_n 2, 1) := by decide +kernel
theorem dY_method_220 : decode bY_method 220 = .ok (.iconst 1, 1) := by decide +kernel
theorem dY_method_221 : decode bY_method 221 = .ok (.iload_n 3, 1) := by decide +kernel
theorem dY_method_222 : decode bY_method 222 = .ok (.iload 4, 2) := by decide +kernel
theorem dY_method_224 : decode bY_method 224 = .ok (.iload 5, 2) := by decide +kernel
theorem dY_method_226 : decode bY_method 226 = .ok (.iload 6, 2) := by decide +kernel
theorem dY_method_228 : decode bY_method 228 = .ok (.invokevirtual 69, 3) := by decide +kernel
theorem dY_method_231 : decode bY_method 231 = .ok (.aload_n 0, 1) := by decide +kernel
theorem dY_method_232 : decode bY_method 232 = .ok (.invokevirtual 73, 3) := by decide +kernel
theorem dY_method_235 : decode bY_method 235 = .ok (.ireturn, 1) := by decide +kernel
theorem dY_gather_0 : decode bY_gather 0 = .ok (.aload_n 0, 1) := by decide +kernel
theorem dY_gather_1 : decode bY_gather 1 = .ok (.iconst 0, 1) := by decide +kernel
theorem dY_gather_2 : decode bY_gather 2 = .ok (.putfield 91, 3) := by decide +kernel
theorem dY_gather_5 : decode bY_gather 5 = .ok (.iload_n 1, 1) := by decide +kernel
theorem dY_gather_6 : decode bY_gather 6 = .ok (.istore 4, 2) := by decide +kernel
theorem dY_gather_8 : decode bY_gather 8 = .ok (.iload 4, 2) := by decide +kernel
theorem dY_gather_10 : decode bY_gather 10 = .ok (.iconst (-1), 1) := by decide +kernel
theorem dY_gather_11 : decode bY_gather 11 = .ok (.if_icmp .eq 55, 3) := by decide +kernel
theorem dY_gather_14 : decode bY_gather 14 = .ok (.aload_n 0, 1) := by decide +kernel
theorem dY_gather_15 : decode bY_gather 15 = .ok (.iload 4, 2) := by decide +kernel
theorem dY_gather_17 : decode bY_gather 17 = .ok (.iload_n 2, 1) := by decide +kernel
theorem dY_gather_18 : decode bY_gather 18 = .ok (.iload_n 3, 1) := by decide +kernel
theorem dY_gather_19 : decode bY_gather 19 = .ok (.invokevirtual 80, 3) := by decide +kernel
theorem dY_gather_22 : decode bY_gather 22 = .ok (.istore 5, 2) := by decide +kernel
theorem dY_gather_24 : decode bY_gather 24 = .ok (.iload 5, 2) := by decide +kernel
theorem dY_gather_26 : decode bY_gather 26 = .ok (.iconst (-1), 1) := by decide +kernel
theorem dY_gather_27 : decode bY_gather 27 = .ok (.if_icmp .ne 6, 3) := by decide +kernel
theorem dY_gather_30 : decode bY_gather 30 = .ok (.goto 24, 3) := by decide +kernel
theorem dY_gather_33 : decode bY_gather 33 = .ok (.aload_n 0, 1) := by decide +kernel
theorem dY_gather_34 : decode bY_gather 34 = .ok (.getfield 38, 3) := by decide +kernel
theorem dY_gather_37 : decode bY_gather 37 = .ok (.aload_n 0, 1) := by decide +kernel
theorem dY_gather_38 : decode bY_gather 38 = .ok (.getfield 91, 3) := by decide +kernel
theorem dY_gather_41 : decode bY_gather 41 = .ok (.iload 5, 2) := by decide +kernel
theorem dY_gather_43 : decode bY_gather 43 = .ok (.iastore, 1) := by decide +kernel
theorem dY_gather_44 : decode bY_gather 44 = .ok (.aload_n 0, 1) := by decide +kernel
theorem dY_gather_45 : decode bY_gather 45 = .ok (.dup, 1) := by decide +kernel
theorem dY_gather_46 : decode bY_gather 46 = .ok (.getfield 91, 3) := by decide +kernel
theorem dY_gather_49 : decode bY_gather 49 = .ok (.iconst 1, 1) := by decide +kernel
theorem dY_gather_50 : decode bY_gather 50 = .ok (.iadd, 1) := by decide +kernel
theorem dY_gather_51 : decode bY_gather 51 = .ok (.putfield 91, 3) := by decide +kernel
theorem dY_gather_54 : decode bY_gather 54 = .ok (.aload_n 0, 1) := by decide +kernel
theorem dY_gather_55 : decode bY_gather 55 = .ok (.getfield 7, 3) := by decide +kernel
theorem dY_gather_58 : decode bY_gather 58 = .ok (.iload 4, 2) := by decide +kernel
theorem dY_gather_60 : decode bY_gather 60 = .ok (.iaload, 1) := by decide +kernel
theorem dY_gather_61 : decode bY_gather 61 = .ok (.istore 4, 2) := by decide +kernel
theorem dY_gather_63 : decode bY_gather 63 = .ok (.goto (-55), 3) := by decide +kernel
theorem dY_gather_66 : decode bY_gather 66 = .ok (.iconst 0, 1) := by decide +kernel
theorem dY_gather_67 : decode bY_gather 67 = .ok (.istore 4, 2) := by decide +kernel
theorem dY_gather_69 : decode bY_gather 69 = .ok (.iload 4, 2) := by decide +kernel
theorem dY_gather_71 : decode bY_gather 71 = .ok (.aload_n 0, 1) := by decide +kernel
theorem dY_gather_72 : decode bY_gather 72 = .ok (.getfield 91, 3) := by decide +kernel
theorem dY_gather_75 : decode bY_gather 75 = .ok (.iconst 2, 1) := by decide +kernel
theorem dY_gather_76 : decode bY_gather 76 = .ok (.idiv, 1) := by decide +kernel
theorem dY_gather_77 : decode bY_gather 77 = .ok (.if_icmp .ge 55, 3) := by decide +kernel
theorem dY_gather_80 : decode bY_gather 80 = .ok (.aload_n 0, 1) := by decide +kernel
theorem dY_gather_81 : decode bY_gather 81 = .ok (.getfield 38, 3) := by decide +kernel
theorem dY_gather_84 : decode bY_gather 84 = .ok (.iload 4, 2) := by decide +kernel
theorem dY_gather_86 : decode bY_gather 86 = .ok (.iaload, 1) := by decide +kernel
theorem dY_gather_87 : decode bY_gather 87 = .ok (.istore 5, 2) := by decide +kernel
theorem dY_gather_89 : decode bY_gather 89 = .ok (.aload_n 0, 1) := by decide +kernel
theorem dY_gather_90 : decode bY_gather 90 = .ok (.getfield 38, 3) := by decide +kernel
theorem dY_gather_93 : decode bY_gather 93 = .ok (.iload 4, 2) := by decide +kernel
theorem dY_gather_95 : decode bY_gather 95 = .ok (.aload_n 0, 1) := by decide +kernel
theorem dY_gather_96 : decode bY_gather 96 = .ok (.getfield 38, 3) := by decide +kernel
theorem dY_gather_99 : decode bY_gather 99 = .ok (.aload_n 0, 1) := by decide +kernel
theorem dY_gather_100 : decode bY_gather 100 = .ok (.getfield 91, 3) := by decide +kernel
theorem dY_gather_103 : decode bY_gather 103 = .ok (.iconst 1, 1) := by decide +kernel
theorem dY_gather_104 : decode bY_gather 104 = .ok (.isub, 1) := by decide +kernel
theorem dY_gather_105 : decode bY_gather 105 = .ok (.iload 4, 2) := by decide +kernel
theorem dY_gather_107 : decode bY_gather 107 = .ok (.isub, 1) := by decide +kernel
theorem dY_gather_108 : decode bY_gather 108 = .ok (.iaload, 1) := by decide +kernel
theorem dY_gather_109 : decode bY_gather 109 = .ok (.iastore, 1) := by decide +kernel
theorem dY_gather_110 : decode bY_gather 110 = .ok (.aload_n 0, 1) := by decide +kernel
theorem dY_gather_111 : decode bY_gather 111 = .ok (.getfield 38, 3) := by decide +kernel
theorem dY_gather_114 : decode bY_gather 114 = .ok (.aload_n 0, 1) := by decide +kernel
theorem dY_gather_115 : decode bY_gather 115 = .ok (.getfield 91, 3) := by decide +kernel
theorem dY_gather_118 : decode bY_gather 118 = .ok (.iconst 1, 1) := by decide +kernel
theorem dY_gather_119 : decode bY_gather 119 = .ok (.isub, 1) := by decide +kernel
theorem dY_gather_120 : decode bY_gather 120 = .ok (.iload 4, 2) := by decide +kernel
theorem dY_gather_122 : decode bY_gather 122 = .ok (.isub, 1) := by decide +kernel
theorem dY_gather_123 : decode bY_gather 123 = .ok (.iload 5, 2) := by decide +kernel
theorem dY_gather_125 : decode bY_gather 125 = .ok (.iastore, 1) := by decide +kernel
theorem dY_gather_126 : decode bY_gather 126 = .ok (.iinc 4 1, 3) := by decide +kernel
theorem dY_gather_129 : decode bY_gather 129 = .ok (.goto (-60), 3) := by decide +kernel
theorem dY_gather_132 : decode bY_gather 132 = .ok (.return_, 1) := by decide +kernel
theorem dY_relate_0 : decode bY_relate 0 = .ok (.iconst 1, 1) := by decide +kernel
theorem dY_relate_1 : decode bY_relate 1 = .ok (.istore_n 3, 1) := by decide +kernel
theorem dY_relate_2 : decode bY_relate 2 = .ok (.iload_n 3, 1) := by decide +kernel
theorem dY_relate_3 : decode bY_relate 3 = .ok (.aload_n 0, 1) := by decide +kernel
theorem dY_relate_4 : decode bY_relate 4 = .ok (.getfield 91, 3) := by decide +kernel
theorem dY_relate_7 : decode bY_relate 7 = .ok (.if_icmp .ge 232, 3) := by decide +kernel
theorem dY_relate_10 : decode bY_relate 10 = .ok (.iconst 0, 1) := by decide +kernel
theorem dY_relate_11 : decode bY_relate 11 = .ok (.istore 4, 2) := by decide +kernel
theorem dY_relate_13 : decode bY_relate 13 = .ok (.iload 4, 2) := by decide +kernel
theorem dY_relate_15 : decode bY_relate 15 = .ok (.iload_n 3, 1) := by decide +kernel
theorem dY_relate_16 : decode bY_relate 16 = .ok (.iadd, 1) := by decide +kernel
theorem dY_relate_17 : decode bY_relate 17 = .ok (.aload_n 0, 1) := by decide +kernel
theorem dY_relate_18 : decode bY_relate 18 = .ok (.getfield 91, 3) := by decide +kernel
theorem dY_relate_21 : decode bY_relate 21 = .ok (.if_icmp .ge 212, 3) := by decide +kernel
theorem dY_relate_24 : decode bY_relate 24 = .ok (.iload 4, 2) := by decide +kernel
theorem dY_relate_26 : decode bY_relate 26 = .ok (.iload_n 3, 1) := by decide +kernel
theorem dY_relate_27 : decode bY_relate 27 = .ok (.iadd, 1) := by decide +kernel
theorem dY_relate_28 : decode bY_relate 28 = .ok (.istore 5, 2) := by decide +kernel
theorem dY_relate_30 : decode bY_relate 30 = .ok (.aload_n 0, 1) := by decide +kernel
theorem dY_relate_31 : decode bY_relate 31 = .ok (.getfield 38, 3) := by decide +kernel
theorem dY_relate_34 : decode bY_relate 34 = .ok (.iload 5, 2) := by decide +kernel
theorem dY_relate_36 : decode bY_relate 36 = .ok (.iaload, 1) := by decide +kernel
theorem dY_relate_37 : decode bY_relate 37 = .ok (.istore 6, 2) := by decide +kernel
theorem dY_relate_39 : decode bY_relate 39 = .ok (.aload_n 0, 1) := by decide +kernel
theorem dY_relate_40 : decode bY_relate 40 = .ok (.getfield 38, 3) := by decide +kernel
theorem dY_relate_43 : decode bY_relate 43 = .ok (.iload 4, 2) := by decide +kernel
theorem dY_relate_45 : decode bY_relate 45 = .ok (.iaload, 1) := by decide +kernel
theorem dY_relate_46 : decode bY_relate 46 = .ok (.istore 7, 2) := by decide +kernel
theorem dY_relate_48 : decode bY_relate 48 = .ok (.iload 6, 2) := by decide +kernel
theorem dY_relate_50 : decode bY_relate 50 = .ok (.iconst (-1), 1) := by decide +kernel
theorem dY_relate_51 : decode bY_relate 51 = .ok (.if_icmp .ne 7, 3) := by decide +kernel
theorem dY_relate_54 : decode bY_relate 54 = .ok (.iload_n 2, 1) := by decide +kernel
theorem dY_relate_55 : decode bY_relate 55 = .ok (.goto 10, 3) := by decide +kernel
theorem dY_relate_58 : decode bY_relate 58 = .ok (.aload_n 0, 1) := by decide +kernel
theorem dY_relate_59 : decode bY_relate 59 = .ok (.getfield 22, 3) := by decide +kernel
theorem dY_relate_62 : decode bY_relate 62 = .ok (.iload 6, 2) := by decide +kernel
theorem dY_relate_64 : decode bY_relate 64 = .ok (.iaload, 1) := by decide +kernel
theorem dY_relate_65 : decode bY_relate 65 = .ok (.istore 8, 2) := by decide +kernel
theorem dY_relate_67 : decode bY_relate 67 = .ok (.iload 6, 2) := by decide +kernel
theorem dY_relate_69 : decode bY_relate 69 = .ok (.iconst (-1), 1) := by decide +kernel
theorem dY_relate_70 : decode bY_relate 70 = .ok (.if_icmp .ne 7, 3) := by decide +kernel
theorem dY_relate_73 : decode bY_relate 73 = .ok (.iload_n 1, 1) := by decide +kernel
theorem dY_relate_74 : decode bY_relate 74 = .ok (.goto 10, 3) := by decide +kernel
theorem dY_relate_77 : decode bY_relate 77 = .ok (.aload_n 0, 1) := by decide +kernel
theorem dY_relate_78 : decode bY_relate 78 = .ok (.getfield 16, 3) := by decide +kernel
theorem dY_relate_81 : decode bY_relate 81 = .ok (.iload 6, 2) := by decide +kernel
theorem dY_relate_83 : decode bY_relate 83 = .ok (.iaload, 1) := by decide +kernel
theorem dY_relate_84 : decode bY_relate 84 = .ok (.istore 9, 2) := by decide +kernel
theorem dY_relate_86 : decode bY_relate 86 = .ok (.iload 8, 2) := by decide +kernel
theorem dY_relate_88 : decode bY_relate 88 = .ok (.ifCond .eq 17, 3) := by decide +kernel
theorem dY_relate_91 : decode bY_relate 91 = .ok (.aload_n 0, 1) := by decide +kernel
theorem dY_relate_92 : decode bY_relate 92 = .ok (.getfield 22, 3) := by decide +kernel
theorem dY_relate_95 : decode bY_relate 95 = .ok (.iload 7, 2) := by decide +kernel
theorem dY_relate_97 : decode bY_relate 97 = .ok (.iaload, 1) := by decide +kernel
theorem dY_relate_98 : decode bY_relate 98 = .ok (.ifCond .eq 7, 3) := by decide +kernel
theorem dY_relate_101 : decode bY_relate 101 = .ok (.iconst 1, 1) := by decide +kernel
theorem dY_relate_102 : decode bY_relate 102 = .ok (.goto 4, 3) := by decide +kernel
theorem dY_relate_105 : decode bY_relate 105 = .ok (.iconst 0, 1) := by decide +kernel
theorem dY_relate_106 : decode bY_relate 106 = .ok (.istore 10, 2) := by decide +kernel
theorem dY_relate_108 : decode bY_relate 108 = .ok (.iload 10, 2) := by decide +kernel
theorem dY_relate_110 : decode bY_relate 110 = .ok (.ifCond .eq 102, 3) := by decide +kernel
theorem dY_relate_113 : decode bY_relate 113 = .ok (.aload_n 0, 1) := by decide +kernel
theorem dY_relate_114 : decode bY_relate 114 = .ok (.getfield 22, 3) := by decide +kernel
theorem dY_relate_117 : decode bY_relate 117 = .ok (.iload 7, 2) := by decide +kernel
theorem dY_relate_119 : decode bY_relate 119 = .ok (.iaload, 1) := by decide +kernel
theorem dY_relate_120 : decode bY_relate 120 = .ok (.iconst 1, 1) := by decide +kernel
theorem dY_relate_121 : decode bY_relate 121 = .ok (.if_icmp .ne 91, 3) := by decide +kernel
theorem dY_relate_124 : decode bY_relate 124 = .ok (.aload_n 0, 1) := by decide +kernel
theorem dY_relate_125 : decode bY_relate 125 = .ok (.getfield 13, 3) := by decide +kernel
theorem dY_relate_128 : decode bY_relate 128 = .ok (.iload 9, 2) := by decide +kernel
theorem dY_relate_130 : decode bY_relate 130 = .ok (.iaload, 1) := by decide +kernel
theorem dY_relate_131 : decode bY_relate 131 = .ok (.aload_n 0, 1) := by decide +kernel
theorem dY_relate_132 : decode bY_relate 132 = .ok (.getfield 13, 3) := by decide +kernel
theorem dY_relate_135 : decode bY_relate 135 = .ok (.aload_n 0, 1) := by decide +kernel
theorem dY_relate_136 : decode bY_relate 136 = .ok (.getfield 16, 3) := by decide +kernel
theorem dY_relate_139 : decode bY_relate 139 = .ok (.iload 7, 2) := by decide +kernel
theorem dY_relate_141 : decode bY_relate 141 = .ok (.iaload, 1) := by decide +kernel
theorem dY_relate_142 : decode bY_relate 142 = .ok (.iaload, 1) := by decide +kernel
theorem dY_relate_143 : decode bY_relate 143 = .ok (.if_icmp .eq 69, 3) := by decide +kernel
theorem dY_relate_146 : decode bY_relate 146 = .ok (.iconst 0, 1) := by decide +kernel
theorem dY_relate_147 : decode bY_relate 147 = .ok (.istore 10, 2) := by decide +kernel
theorem dY_relate_149 : decode bY_relate 149 = .ok (.iload 4, 2) := by decide +kernel
theorem dY_relate_151 : decode bY_relate 151 = .ok (.iconst 1, 1) := by decide +kernel
theorem dY_relate_152 : decode bY_relate 152 = .ok (.iadd, 1) := by decide +kernel
theorem dY_relate_153 : decode bY_relate 153 = .ok (.istore 11, 2) := by decide +kernel
theorem dY_relate_155 : decode bY_relate 155 = .ok (.iload 11, 2) := by decide +kernel
theorem dY_relate_157 : decode bY_relate 157 = .ok (.iload 5, 2) := by decide +kernel
theorem dY_relate_159 : decode bY_relate 159 = .ok (.if_icmp .ge 53, 3) := by decide +kernel
theorem dY_relate_162 : decode bY_relate 162 = .ok (.iload 10, 2) := by decide +kernel
theorem dY_relate_164 : decode bY_relate 164 = .ok (.ifCond .ne 35, 3) := by decide +kernel
theorem dY_relate_167 : decode bY_relate 167 = .ok (.aload_n 0, 1) := by decide +kernel
theorem dY_relate_168 : decode bY_relate 168 = .ok (.getfield 41, 3) := by decide +kernel
theorem dY_relate_171 : decode bY_relate 171 = .ok (.bipush 41, 2) := by decide +kernel
theorem dY_relate_173 : decode bY_relate 173 = .ok (.iload 5, 2) := by decide +kernel
theorem dY_relate_175 : decode bY_relate 175 = .ok (.imul, 1) := by decide +kernel
theorem dY_relate_176 : decode bY_relate 176 = .ok (.iload 11, 2) := by decide +kernel
theorem dY_relate_178 : decode bY_relate 178 = .ok (.iadd, 1) := by decide +kernel
theorem dY_relate_179 : decode bY_relate 179 = .ok (.baload, 1) := by decide +kernel
theorem dY_relate_180 : decode bY_relate 180 = .ok (.ifCond .eq 23, 3) := by decide +kernel
theorem dY_relate_183 : decode bY_relate 183 = .ok (.aload_n 0, 1) := by decide +kernel
theorem dY_relate_184 : decode bY_relate 184 = .ok (.getfield 41, 3) := by decide +kernel
theorem dY_relate_187 : decode bY_relate 187 = .ok (.bipush 41, 2) := by decide +kernel
theorem dY_relate_189 : decode bY_relate 189 = .ok (.iload 11, 2) := by decide +kernel
theorem dY_relate_191 : decode bY_relate 191 = .ok (.imul, 1) := by decide +kernel
theorem dY_relate_192 : decode bY_relate 192 = .ok (.iload 4, 2) := by decide +kernel
theorem dY_relate_194 : decode bY_relate 194 = .ok (.iadd, 1) := by decide +kernel
theorem dY_relate_195 : decode bY_relate 195 = .ok (.baload, 1) := by decide +kernel
theorem dY_relate_196 : decode bY_relate 196 = .ok (.ifCond .eq 7, 3) := by decide +kernel
theorem dY_relate_199 : decode bY_relate 199 = .ok (.iconst 1, 1) := by decide +kernel
theorem dY_relate_200 : decode bY_relate 200 = .ok (.goto 4, 3) := by decide +kernel
theorem dY_relate_203 : decode bY_relate 203 = .ok (.iconst 0, 1) := by decide +kernel
theorem dY_relate_204 : decode bY_relate 204 = .ok (.istore 10, 2) := by decide +kernel
theorem dY_relate_206 : decode bY_relate 206 = .ok (.iinc 11 1, 3) := by decide +kernel
theorem dY_relate_209 : decode bY_relate 209 = .ok (.goto (-54), 3) := by decide +kernel
