theorem dX_init_0 : decode bX_init 0 = .ok (.aload_n 0, 1) := by decide +kernel
theorem dX_init_1 : decode bX_init 1 = .ok (.invokespecial 1, 3) := by decide +kernel
theorem dX_init_4 : decode bX_init 4 = .ok (.aload_n 0, 1) := by decide +kernel
theorem dX_init_5 : decode bX_init 5 = .ok (.bipush 40, 2) := by decide +kernel
theorem dX_init_7 : decode bX_init 7 = .ok (.anewarray 9, 3) := by decide +kernel
theorem dX_init_10 : decode bX_init 10 = .ok (.putfield 11, 3) := by decide +kernel
theorem dX_init_13 : decode bX_init 13 = .ok (.aload_n 0, 1) := by decide +kernel
theorem dX_init_14 : decode bX_init 14 = .ok (.sipush 200, 3) := by decide +kernel
theorem dX_init_17 : decode bX_init 17 = .ok (.anewarray 15, 3) := by decide +kernel
theorem dX_init_20 : decode bX_init 20 = .ok (.putfield 17, 3) := by decide +kernel
theorem dX_init_23 : decode bX_init 23 = .ok (.aload_n 0, 1) := by decide +kernel
theorem dX_init_24 : decode bX_init 24 = .ok (.bipush 40, 2) := by decide +kernel
theorem dX_init_26 : decode bX_init 26 = .ok (.newarray .int, 2) := by decide +kernel
theorem dX_init_28 : decode bX_init 28 = .ok (.putfield 21, 3) := by decide +kernel
theorem dX_init_31 : decode bX_init 31 = .ok (.aload_n 0, 1) := by decide +kernel
theorem dX_init_32 : decode bX_init 32 = .ok (.iconst 0, 1) := by decide +kernel
theorem dX_init_33 : decode bX_init 33 = .ok (.putfield 25, 3) := by decide +kernel
theorem dX_init_36 : decode bX_init 36 = .ok (.aload_n 0, 1) := by decide +kernel
theorem dX_init_37 : decode bX_init 37 = .ok (.iconst 0, 1) := by decide +kernel
theorem dX_init_38 : decode bX_init 38 = .ok (.putfield 29, 3) := by decide +kernel
theorem dX_init_41 : decode bX_init 41 = .ok (.aload_n 0, 1) := by decide +kernel
theorem dX_init_42 : decode bX_init 42 = .ok (.iconst 0, 1) := by decide +kernel
theorem dX_init_43 : decode bX_init 43 = .ok (.putfield 32, 3) := by decide +kernel
theorem dX_init_46 : decode bX_init 46 = .ok (.return_, 1) := by decide +kernel
theorem dX_newClass_0 : decode bX_newClass 0 = .ok (.aload_n 0, 1) := by decide +kernel
theorem dX_newClass_1 : decode bX_newClass 1 = .ok (.iload_n 1, 1) := by decide +kernel
theorem dX_newClass_2 : decode bX_newClass 2 = .ok (.invokevirtual 35, 3) := by decide +kernel
theorem dX_newClass_5 : decode bX_newClass 5 = .ok (.astore_n 3, 1) := by decide +kernel
theorem dX_newClass_6 : decode bX_newClass 6 = .ok (.aload_n 0, 1) := by decide +kernel
theorem dX_newClass_7 : decode bX_newClass 7 = .ok (.getfield 25, 3) := by decide +kernel
theorem dX_newClass_10 : decode bX_newClass 10 = .ok (.bipush 40, 2) := by decide +kernel
theorem dX_newClass_12 : decode bX_newClass 12 = .ok (.if_icmp .ge 12, 3) := by decide +kernel
theorem dX_newClass_15 : decode bX_newClass 15 = .ok (.aload_n 3, 1) := by decide +kernel
theorem dX_newClass_16 : decode bX_newClass 16 = .ok (.ifnonnull 10, 3) := by decide +kernel
theorem dX_newClass_19 : decode bX_newClass 19 = .ok (.iload_n 1, 1) := by decide +kernel
theorem dX_newClass_20 : decode bX_newClass 20 = .ok (.iconst (-1), 1) := by decide +kernel
theorem dX_newClass_21 : decode bX_newClass 21 = .ok (.if_icmp .eq 5, 3) := by decide +kernel
theorem dX_newClass_24 : decode bX_newClass 24 = .ok (.iconst (-1), 1) := by decide +kernel
theorem dX_newClass_25 : decode bX_newClass 25 = .ok (.ireturn, 1) := by decide +kernel
theorem dX_newClass_26 : decode bX_newClass 26 = .ok (.aload_n 0, 1) := by decide +kernel
theorem dX_newClass_27 : decode bX_newClass 27 = .ok (.getfield 25, 3) := by decide +kernel
theorem dX_newClass_30 : decode bX_newClass 30 = .ok (.istore 4, 2) := by decide +kernel
theorem dX_newClass_32 : decode bX_newClass 32 = .ok (.aload_n 0, 1) := by decide +kernel
theorem dX_newClass_33 : decode bX_newClass 33 = .ok (.getfield 11, 3) := by decide +kernel
theorem dX_newClass_36 : decode bX_newClass 36 = .ok (.iload 4, 2) := by decide +kernel
theorem dX_newClass_38 : decode bX_newClass 38 = .ok (.new 9, 3) := by decide +kernel
theorem dX_newClass_41 : decode bX_newClass 41 = .ok (.dup, 1) := by decide +kernel
theorem dX_newClass_42 : decode bX_newClass 42 = .ok (.iload 4, 2) := by decide +kernel
theorem dX_newClass_44 : decode bX_newClass 44 = .ok (.aload_n 3, 1) := by decide +kernel
theorem dX_newClass_45 : decode bX_newClass 45 = .ok (.iload_n 2, 1) := by decide +kernel
theorem dX_newClass_46 : decode bX_newClass 46 = .ok (.invokespecial 39, 3) := by decide +kernel
theorem dX_newClass_49 : decode bX_newClass 49 = .ok (.aastore, 1) := by decide +kernel
theorem dX_newClass_50 : decode bX_newClass 50 = .ok (.aload_n 0, 1) := by decide +kernel
theorem dX_newClass_51 : decode bX_newClass 51 = .ok (.dup, 1) := by decide +kernel
theorem dX_newClass_52 : decode bX_newClass 52 = .ok (.getfield 25, 3) := by decide +kernel
theorem dX_newClass_55 : decode bX_newClass 55 = .ok (.iconst 1, 1) := by decide +kernel
theorem dX_newClass_56 : decode bX_newClass 56 = .ok (.iadd, 1) := by decide +kernel
theorem dX_newClass_57 : decode bX_newClass 57 = .ok (.putfield 25, 3) := by decide +kernel
theorem dX_newClass_60 : decode bX_newClass 60 = .ok (.iload 4, 2) := by decide +kernel
theorem dX_newClass_62 : decode bX_newClass 62 = .ok (.ireturn, 1) := by decide +kernel
theorem dX_below_0 : decode bX_below 0 = .ok (.aload_n 0, 1) := by decide +kernel
theorem dX_below_1 : decode bX_below 1 = .ok (.iload_n 1, 1) := by decide +kernel
theorem dX_below_2 : decode bX_below 2 = .ok (.invokevirtual 35, 3) := by decide +kernel
theorem dX_below_5 : decode bX_below 5 = .ok (.astore_n 3, 1) := by decide +kernel
theorem dX_below_6 : decode bX_below 6 = .ok (.aload_n 0, 1) := by decide +kernel
theorem dX_below_7 : decode bX_below 7 = .ok (.iload_n 2, 1) := by decide +kernel
theorem dX_below_8 : decode bX_below 8 = .ok (.invokevirtual 35, 3) := by decide +kernel
theorem dX_below_11 : decode bX_below 11 = .ok (.astore 4, 2) := by decide +kernel
theorem dX_below_13 : decode bX_below 13 = .ok (.aload_n 3, 1) := by decide +kernel
theorem dX_below_14 : decode bX_below 14 = .ok (.ifnull 21, 3) := by decide +kernel
theorem dX_below_17 : decode bX_below 17 = .ok (.aload 4, 2) := by decide +kernel
theorem dX_below_19 : decode bX_below 19 = .ok (.ifnull 16, 3) := by decide +kernel
theorem dX_below_22 : decode bX_below 22 = .ok (.aload_n 3, 1) := by decide +kernel
theorem dX_below_23 : decode bX_below 23 = .ok (.aload 4, 2) := by decide +kernel
theorem dX_below_25 : decode bX_below 25 = .ok (.invokevirtual 42, 3) := by decide +kernel
theorem dX_below_28 : decode bX_below 28 = .ok (.ifCond .eq 7, 3) := by decide +kernel
theorem dX_below_31 : decode bX_below 31 = .ok (.iconst 1, 1) := by decide +kernel
theorem dX_below_32 : decode bX_below 32 = .ok (.goto 4, 3) := by decide +kernel
theorem dX_below_35 : decode bX_below 35 = .ok (.iconst 0, 1) := by decide +kernel
theorem dX_below_36 : decode bX_below 36 = .ok (.ireturn, 1) := by decide +kernel
theorem dX_field_0 : decode bX_field 0 = .ok (.aload_n 0, 1) := by decide +kernel
theorem dX_field_1 : decode bX_field 1 = .ok (.iload_n 1, 1) := by decide +kernel
theorem dX_field_2 : decode bX_field 2 = .ok (.invokevirtual 35, 3) := by decide +kernel
theorem dX_field_5 : decode bX_field 5 = .ok (.astore 6, 2) := by decide +kernel
theorem dX_field_7 : decode bX_field 7 = .ok (.aload 6, 2) := by decide +kernel
theorem dX_field_9 : decode bX_field 9 = .ok (.ifnonnull 9, 3) := by decide +kernel
theorem dX_field_12 : decode bX_field 12 = .ok (.aload_n 0, 1) := by decide +kernel
theorem dX_field_13 : decode bX_field 13 = .ok (.iconst 1, 1) := by decide +kernel
theorem dX_field_14 : decode bX_field 14 = .ok (.invokevirtual 46, 3) := by decide +kernel
theorem dX_field_17 : decode bX_field 17 = .ok (.ireturn, 1) := by decide +kernel
theorem dX_field_18 : decode bX_field 18 = .ok (.aload_n 0, 1) := by decide +kernel
theorem dX_field_19 : decode bX_field 19 = .ok (.aload 6, 2) := by decide +kernel
theorem dX_field_21 : decode bX_field 21 = .ok (.new 15, 3) := by decide +kernel
theorem dX_field_24 : decode bX_field 24 = .ok (.dup, 1) := by decide +kernel
theorem dX_field_25 : decode bX_field 25 = .ok (.aload 6, 2) := by decide +kernel
theorem dX_field_27 : decode bX_field 27 = .ok (.iconst 0, 1) := by decide +kernel
theorem dX_field_28 : decode bX_field 28 = .ok (.iload_n 2, 1) := by decide +kernel
theorem dX_field_29 : decode bX_field 29 = .ok (.iconst 0, 1) := by decide +kernel
theorem dX_field_30 : decode bX_field 30 = .ok (.iload_n 3, 1) := by decide +kernel
theorem dX_field_31 : decode bX_field 31 = .ok (.iload 4, 2) := by decide +kernel
theorem dX_field_33 : decode bX_field 33 = .ok (.iload 5, 2) := by decide +kernel
theorem dX_field_35 : decode bX_field 35 = .ok (.invokespecial 50, 3) := by decide +kernel
theorem dX_field_38 : decode bX_field 38 = .ok (.invokevirtual 53, 3) := by decide +kernel
theorem dX_field_41 : decode bX_field 41 = .ok (.ireturn, 1) := by decide +kernel
theorem dX_method_0 : decode bX_method 0 = .ok (.aload_n 0, 1) := by decide +kernel
theorem dX_method_1 : decode bX_method 1 = .ok (.iload_n 1, 1) := by decide +kernel
theorem dX_method_2 : decode bX_method 2 = .ok (.invokevirtual 35, 3) := by decide +kernel
theorem dX_method_5 : decode bX_method 5 = .ok (.astore 7, 2) := by decide +kernel
theorem dX_method_7 : decode bX_method 7 = .ok (.aload 7, 2) := by decide +kernel
theorem dX_method_9 : decode bX_method 9 = .ok (.ifnonnull 9, 3) := by decide +kernel
theorem dX_method_12 : decode bX_method 12 = .ok (.aload_n 0, 1) := by decide +kernel
theorem dX_method_13 : decode bX_method 13 = .ok (.iconst 1, 1) := by decide +kernel
theorem dX_method_14 : decode bX_method 14 = .ok (.invokevirtual 46, 3) := by decide +kernel
theorem dX_method_17 : decode bX_method 17 = .ok (.ireturn, 1) := by decide +kernel
theorem dX_method_18 : decode bX_method 18 = .ok (.aload_n 0, 1) := by decide +kernel
theorem dX_method_19 : decode bX_method 19 = .ok (.aload 7, 2) := by decide +kernel
theorem dX_method_21 : decode bX_method 21 = .ok (.new 15, 3) := by decide +kernel
theorem dX_method_24 : decode bX_method 24 = .ok (.dup, 1) := by decide +kernel
theorem dX_method_25 : decode bX_method 25 = .ok (.aload 7, 2) := by decide +kernel
theorem dX_method_27 : decode bX_method 27 = .ok (.iconst 1, 1) := by decide +kernel
theorem dX_method_28 : decode bX_method 28 = .ok (.iload_n 2, 1) := by decide +kernel
theorem dX_method_29 : decode bX_method 29 = .ok (.iload_n 3, 1) := by decide +kernel
theorem dX_method_30 : decode bX_method 30 = .ok (.iload 4, 2) := by decide +kernel
theorem dX_method_32 : decode bX_method 32 = .ok (.iload 5, 2) := by decide +kernel
theorem dX_method_34 : decode bX_method 34 = .ok (.iload 6, 2) := by decide +kernel
theorem dX_method_36 : decode bX_method 36 = .ok (.invokespecial 50, 3) := by decide +kernel
theorem dX_method_39 : decode bX_method 39 = .ok (.invokevirtual 53, 3) := by decide +kernel
theorem dX_method_42 : decode bX_method 42 = .ok (.ireturn, 1) := by decide +kernel
theorem dX_maker_0 : decode bX_maker 0 = .ok (.aload_n 0, 1) := by decide +kernel
theorem dX_maker_1 : decode bX_maker 1 = .ok (.iload_n 1, 1) := by decide +kernel
theorem dX_maker_2 : decode bX_maker 2 = .ok (.invokevirtual 35, 3) := by decide +kernel
theorem dX_maker_5 : decode bX_maker 5 = .ok (.astore 4, 2) := by decide +kernel
theorem dX_maker_7 : decode bX_maker 7 = .ok (.aload 4, 2) := by decide +kernel
theorem dX_maker_9 : decode bX_maker 9 = .ok (.ifnonnull 9, 3) := by decide +kernel
theorem dX_maker_12 : decode bX_maker 12 = .ok (.aload_n 0, 1) := by decide +kernel
theorem dX_maker_13 : decode bX_maker 13 = .ok (.iconst 1, 1) := by decide +kernel
theorem dX_maker_14 : decode bX_maker 14 = .ok (.invokevirtual 46, 3) := by decide +kernel
theorem dX_maker_17 : decode bX_maker 17 = .ok (.ireturn, 1) := by decide +kernel
theorem dX_maker_18 : decode bX_maker 18 = .ok (.aload_n 0, 1) := by decide +kernel
theorem dX_maker_19 : decode bX_maker 19 = .ok (.aload 4, 2) := by decide +kernel
theorem dX_maker_21 : decode bX_maker 21 = .ok (.new 15, 3) := by decide +kernel
theorem dX_maker_24 : decode bX_maker 24 = .ok (.dup, 1) := by decide +kernel
theorem dX_maker_25 : decode bX_maker 25 = .ok (.aload 4, 2) := by decide +kernel
theorem dX_maker_27 : decode bX_maker 27 = .ok (.iconst 2, 1) := by decide +kernel
theorem dX_maker_28 : decode bX_maker 28 = .ok (.iconst 0, 1) := by decide +kernel
theorem dX_maker_29 : decode bX_maker 29 = .ok (.iload_n 2, 1) := by decide +kernel
theorem dX_maker_30 : decode bX_maker 30 = .ok (.iconst 0, 1) := by decide +kernel
theorem dX_maker_31 : decode bX_maker 31 = .ok (.iconst 0, 1) := by decide +kernel
theorem dX_maker_32 : decode bX_maker 32 = .ok (.iload_n 3, 1) := by decide +kernel
theorem dX_maker_33 : decode bX_maker 33 = .ok (.invokespecial 50, 3) := by decide +kernel
theorem dX_maker_36 : decode bX_maker 36 = .ok (.invokevirtual 53, 3) := by decide +kernel
theorem dX_maker_39 : decode bX_maker 39 = .ok (.ireturn, 1) := by decide +kernel
theorem dX_find_0 : decode bX_find 0 = .ok (.aload_n 0, 1) := by decide +kernel
theorem dX_find_1 : decode bX_find 1 = .ok (.iload_n 1, 1) := by decide +kernel
theorem dX_find_2 : decode bX_find 2 = .ok (.invokevirtual 35, 3) := by decide +kernel
theorem dX_find_5 : decode bX_find 5 = .ok (.astore 6, 2) := by decide +kernel
theorem dX_find_7 : decode bX_find 7 = .ok (.aload_n 0, 1) := by decide +kernel
theorem dX_find_8 : decode bX_find 8 = .ok (.iload_n 2, 1) := by decide +kernel
theorem dX_find_9 : decode bX_find 9 = .ok (.invokevirtual 35, 3) := by decide +kernel
theorem dX_find_12 : decode bX_find 12 = .ok (.astore 7, 2) := by decide +kernel
theorem dX_find_14 : decode bX_find 14 = .ok (.aload 6, 2) := by decide +kernel
theorem dX_find_16 : decode bX_find 16 = .ok (.ifnull 19, 3) := by decide +kernel
theorem dX_find_19 : decode bX_find 19 = .ok (.aload 7, 2) := by decide +kernel
theorem dX_find_21 : decode bX_find 21 = .ok (.ifnull 14, 3) := by decide +kernel
theorem dX_find_24 : decode bX_find 24 = .ok (.iload 5, 2) := by decide +kernel
theorem dX_find_26 : decode bX_find 26 = .ok (.ifCond .lt 9, 3) := by decide +kernel
theorem dX_find_29 : decode bX_find 29 = .ok (.iload 5, 2) := by decide +kernel
theorem dX_find_31 : decode bX_find 31 = .ok (.iconst 5, 1) := by decide +kernel
theorem dX_find_32 : decode bX_find 32 = .ok (.if_icmp .le 9, 3) := by decide +kernel
theorem dX_find_35 : decode bX_find 35 = .ok (.aload_n 0, 1) := by decide +kernel
theorem dX_find_36 : decode bX_find 36 = .ok (.iconst 1, 1) := by decide +kernel
theorem dX_find_37 : decode bX_find 37 = .ok (.invokevirtual 46, 3) := by decide +kernel
theorem dX_find_40 : decode bX_find 40 = .ok (.ireturn, 1) := by decide +kernel
theorem dX_find_41 : decode bX_find 41 = .ok (.iload 5, 2) := by decide +kernel
theorem dX_find_43 : decode bX_find 43 = .ok (.iconst 3, 1) := by decide +kernel
theorem dX_find_44 : decode bX_find 44 = .ok (.if_icmp .eq 16, 3) := by decide +kernel
theorem dX_find_47 : decode bX_find 47 = .ok (.iload_n 3, 1) := by decide +kernel
theorem dX_find_48 : decode bX_find 48 = .ok (.invokestatic 57, 3) := by decide +kernel
theorem dX_find_51 : decode bX_find 51 = .ok (.ifCond .ne 9, 3) := by decide +kernel
theorem dX_find_54 : decode bX_find 54 = .ok (.aload_n 0, 1) := by decide +kernel
theorem dX_find_55 : decode bX_find 55 = .ok (.iconst 2, 1) := by decide +kernel
theorem dX_find_56 : decode bX_find 56 = .ok (.invokevirtual 46, 3) := by decide +kernel
theorem dX_find_59 : decode bX_find 59 = .ok (.ireturn, 1) := by decide +kernel
theorem dX_find_60 : decode bX_find 60 = .ok (.aload 7, 2) := by decide +kernel
theorem dX_find_62 : decode bX_find 62 = .ok (.iload_n 3, 1) := by decide +kernel
theorem dX_find_63 : decode bX_find 63 = .ok (.iload 4, 2) := by decide +kernel
theorem dX_find_65 : decode bX_find 65 = .ok (.iload 5, 2) := by decide +kernel
theorem dX_find_67 : decode bX_find 67 = .ok (.invokestatic 61, 3) := by decide +kernel
theorem dX_find_70 : decode bX_find 70 = .ok (.astore 8, 2) := by decide +kernel
theorem dX_find_72 : decode bX_find 72 = .ok (.aload 8, 2) := by decide +kernel
theorem dX_find_74 : decode bX_find 74 = .ok (.ifnonnull 10, 3) := by decide +kernel
theorem dX_find_77 : decode bX_find 77 = .ok (.aload_n 0, 1) := by decide +kernel
theorem dX_find_78 : decode bX_find 78 = .ok (.bipush 6, 2) := by decide +kernel
theorem dX_find_80 : decode bX_find 80 = .ok (.invokevirtual 46, 3) := by decide +kernel
theorem dX_find_83 : decode bX_find 83 = .ok (.ireturn, 1) := by decide +kernel
theorem dX_find_84 : decode bX_find 84 = .ok (.aload 8, 2) := by decide +kernel
theorem dX_find_86 : decode bX_find 86 = .ok (.aload 6, 2) := by decide +kernel
theorem dX_find_88 : decode bX_find 88 = .ok (.invokevirtual 65, 3) := by decide +kernel
theorem dX_find_91 : decode bX_find 91 = .ok (.ifCond .eq 19, 3) := by decide +kernel
theorem dX_find_94 : decode bX_find 94 = .ok (.iload 5, 2) := by decide +kernel
theorem dX_find_96 : decode bX_find 96 = .ok (.iconst 2, 1) := by decide +kernel
theorem dX_find_97 : decode bX_find 97 = .ok (.if_icmp .ne 20, 3) := by decide +kernel
theorem dX_find_100 : decode bX_find 100 = .ok (.aload 6, 2) := by decide +kernel
theorem dX_find_102 : decode bX_find 102 = .ok (.aload 7, 2) := by decide +kernel
theorem dX_find_104 : decode bX_find 104 = .ok (.invokevirtual 42, 3) := by decide +kernel
theorem dX_find_107 : decode bX_find 107 = .ok (.ifCond .ne 10, 3) := by decide +kernel
theorem dX_find_110 : decode bX_find 110 = .ok (.aload_n 0, 1) := by decide +kernel
theorem dX_find_111 : decode bX_find 111 = .ok (.bipush 7, 2) := by decide +kernel
theorem dX_find_113 : decode bX_find 113 = .ok (.invokevirtual 46, 3) := by decide +kernel
theorem dX_find_116 : decode bX_find 116 = .ok (.ireturn, 1) := by decide +kernel
theorem dX_find_117 : decode bX_find 117 = .ok (.iload 5, 2) := by decide +kernel
theorem dX_find_119 : decode bX_find 119 = .ok (.iconst 5, 1) := by decide +kernel
theorem dX_find_120 : decode bX_find 120 = .ok (.if_icmp .ne 27, 3) := by decide +kernel
theorem dX_find_123 : decode bX_find 123 = .ok (.aload 8, 2) := by decide +kernel
theorem dX_find_125 : decode bX_find 125 = .ok (.getfield 68, 3) := by decide +kernel
theorem dX_find_128 : decode bX_find 128 = .ok (.ifCond .eq 19, 3) := by decide +kernel
theorem dX_find_131 : decode bX_find 131 = .ok (.aload 6, 2) := by decide +kernel
theorem dX_find_133 : decode bX_find 133 = .ok (.aload 8, 2) := by decide +kernel
theorem dX_find_135 : decode bX_find 135 = .ok (.getfield 72, 3) := by decide +kernel
theorem dX_find_138 : decode bX_find 138 = .ok (.if_acmp .eq 9, 3) := by decide +kernel
theorem dX_find_141 : decode bX_find 141 = .ok (.aload_n 0, 1) := by decide +kernel
theorem dX_find_142 : decode bX_find 142 = .ok (.iconst 3, 1) := by decide +kernel
theorem dX_find_143 : decode bX_find 143 = .ok (.invokevirtual 46, 3) := by decide +kernel
theorem dX_find_146 : decode bX_find 146 = .ok (.ireturn, 1) := by decide +kernel
theorem dX_find_147 : decode bX_find 147 = .ok (.aload_n 0, 1) := by decide +kernel
theorem dX_find_148 : decode bX_find 148 = .ok (.iconst 0, 1) := by decide +kernel
theorem dX_find_149 : decode bX_find 149 = .ok (.putfield 32, 3) := by decide +kernel
theorem dX_find_152 : decode bX_find 152 = .ok (.aload 8, 2) := by decide +kernel
theorem dX_find_154 : decode bX_find 154 = .ok (.getfield 76, 3) := by decide +kernel
theorem dX_find_157 : decode bX_find 157 = .ok (.ireturn, 1) := by decide +kernel
theorem dX_refused_0 : decode bX_refused 0 = .ok (.aload_n 0, 1) := by decide +kernel
theorem dX_refused_1 : decode bX_refused 1 = .ok (.getfield 32, 3) := by decide +kernel
theorem dX_refused_4 : decode bX_refused 4 = .ok (.ireturn, 1) := by decide +kernel
theorem dX_reaches_0 : decode bX_reaches 0 = .ok (.aload_n 0, 1) := by decide +kernel
theorem dX_reaches_1 : decode bX_reaches 1 = .ok (.iload_n 1, 1) := by decide +kernel
theorem dX_reaches_2 : decode bX_reaches 2 = .ok (.invokevirtual 35, 3) := by decide +kernel
theorem dX_reaches_5 : decode bX_reaches 5 = .ok (.astore_n 3, 1) := by decide +kernel
theorem dX_reaches_6 : decode bX_reaches 6 = .ok (.aload_n 0, 1) := by decide +kernel
theorem dX_reaches_7 : decode bX_reaches 7 = .ok (.iload_n 2, 1) := by decide +kernel
theorem dX_reaches_8 : decode bX_reaches 8 = .ok (.invokevirtual 79, 3) := by decide +kernel
theorem dX_reaches_11 : decode bX_reaches 11 = .ok (.astore 4, 2) := by decide +kernel
theorem dX_reaches_13 : decode bX_reaches 13 = .ok (.aload_n 3, 1) := by decide +kernel
theorem dX_reaches_14 : decode bX_reaches 14 = .ok (.ifnull 21, 3) := by decide +kernel
theorem dX_reaches_17 : decode bX_reaches 17 = .ok (.aload 4, 2) := by decide +kernel
theorem dX_reaches_19 : decode bX_reaches 19 = .ok (.ifnull 16, 3) := by decide +kernel
theorem dX_reaches_22 : decode bX_reaches 22 = .ok (.aload 4, 2) := by decide +kernel
theorem dX_reaches_24 : decode bX_reaches 24 = .ok (.aload_n 3, 1) := by decide +kernel
theorem dX_reaches_25 : decode bX_reaches 25 = .ok (.invokevirtual 65, 3) := by decide +kernel
theorem dX_reaches_28 : decode bX_reaches 28 = .ok (.ifCond .eq 7, 3) := by decide +kernel
theorem dX_reaches_31 : decode bX_reaches 31 = .ok (.iconst 1, 1) := by decide +kernel
theorem dX_reaches_32 : decode bX_reaches 32 = .ok (.goto 4, 3) := by decide +kernel
theorem dX_reaches_35 : decode bX_reaches 35 = .ok (.iconst 0, 1) := by decide +kernel
theorem dX_reaches_36 : decode bX_reaches 36 = .ok (.ireturn, 1) := by decide +kernel
theorem dX_called_0 : decode bX_called 0 = .ok (.aload_n 0, 1) := by decide +kernel
theorem dX_called_1 : decode bX_called 1 = .ok (.iload_n 1, 1) := by decide +kernel
theorem dX_called_2 : decode bX_called 2 = .ok (.invokevirtual 79, 3) := by decide +kernel
theorem dX_called_5 : decode bX_called 5 = .ok (.astore_n 3, 1) := by decide +kernel
theorem dX_called_6 : decode bX_called 6 = .ok (.aload_n 0, 1) := by decide +kernel
theorem dX_called_7 : decode bX_called 7 = .ok (.iload_n 2, 1) := by decide +kernel
theorem dX_called_8 : decode bX_called 8 = .ok (.invokevirtual 35, 3) := by decide +kernel
theorem dX_called_11 : decode bX_called 11 = .ok (.astore 4, 2) := by decide +kernel
theorem dX_called_13 : decode bX_called 13 = .ok (.aload_n 3, 1) := by decide +kernel
theorem dX_called_14 : decode bX_called 14 = .ok (.ifnull 27, 3) := by decide +kernel
theorem dX_called_17 : decode bX_called 17 = .ok (.aload 4, 2) := by decide +kernel
theorem dX_called_19 : decode bX_called 19 = .ok (.ifnull 22, 3) := by decide +kernel
theorem dX_called_22 : decode bX_called 22 = .ok (.aload_n 3, 1) := by decide +kernel
theorem dX_called_23 : decode bX_called 23 = .ok (.invokevirtual 83, 3) := by decide +kernel
theorem dX_called_26 : decode bX_called 26 = .ok (.ifCond .eq 15, 3) := by decide +kernel
theorem dX_called_29 : decode bX_called 29 = .ok (.aload 4, 2) := by decide +kernel
theorem dX_called_31 : decode bX_called 31 = .ok (.aload_n 3, 1) := by decide +kernel
theorem dX_called_32 : decode bX_called 32 = .ok (.getfield 72, 3) := by decide +kernel
theorem dX_called_35 : decode bX_called 35 = .ok (.invokevirtual 42, 3) := by decide +kernel
theorem dX_called_38 : decode bX_called 38 = .ok (.ifCond .ne 5, 3) := by decide +kernel
theorem dX_called_41 : decode bX_called 41 = .ok (.iconst (-1), 1) := by decide +kernel
theorem dX_called_42 : decode bX_called 42 = .ok (.ireturn, 1) := by decide +kernel
theorem dX_called_43 : decode bX_called 43 = .ok (.aload_n 0, 1) := by decide +kernel
theorem dX_called_44 : decode bX_called 44 = .ok (.aload_n 3, 1) := by decide +kernel
theorem dX_called_45 : decode bX_called 45 = .ok (.aload 4, 2) := by decide +kernel
theorem dX_called_47 : decode bX_called 47 = .ok (.invokevirtual 87, 3) := by decide +kernel
theorem dX_called_50 : decode bX_called 50 = .ok (.getfield 76, 3) := by decide +kernel
theorem dX_called_53 : decode bX_called 53 = .ok (.ireturn, 1) := by decide +kernel
theorem dX_overrides_0 : decode bX_overrides 0 = .ok (.aload_n 0, 1) := by decide +kernel
theorem dX_overrides_1 : decode bX_overrides 1 = .ok (.iload_n 1, 1) := by decide +kernel
theorem dX_overrides_2 : decode bX_overrides 2 = .ok (.invokevirtual 79, 3) := by decide +kernel
theorem dX_overrides_5 : decode bX_overrides 5 = .ok (.astore_n 3, 1) := by decide +kernel
theorem dX_overrides_6 : decode bX_overrides 6 = .ok (.aload_n 0, 1) := by decide +kernel
theorem dX_overrides_7 : decode bX_overrides 7 = .ok (.iload_n 2, 1) := by decide +kernel
theorem dX_overrides_8 : decode bX_overrides 8 = .ok (.invokevirtual 79, 3) := by decide +kernel
theorem dX_overrides_11 : decode bX_overrides 11 = .ok (.astore 4, 2) := by decide +kernel
theorem dX_overrides_13 : decode bX_overrides 13 = .ok (.aload_n 3, 1) := by decide +kernel
theorem dX_overrides_14 : decode bX_overrides 14 = .ok (.ifnull 23, 3) := by decide +kernel
theorem dX_overrides_17 : decode bX_overrides 17 = .ok (.aload 4, 2) := by decide +kernel
theorem dX_overrides_19 : decode bX_overrides 19 = .ok (.ifnull 18, 3) := by decide +kernel
theorem dX_overrides_22 : decode bX_overrides 22 = .ok (.aload_n 3, 1) := by decide +kernel
theorem dX_overrides_23 : decode bX_overrides 23 = .ok (.invokevirtual 83, 3) := by decide +kernel
theorem dX_overrides_26 : decode bX_overrides 26 = .ok (.ifCond .eq 11, 3) := by decide +kernel
theorem dX_overrides_29 : decode bX_overrides 29 = .ok (.aload 4, 2) := by decide +kernel
theorem dX_overrides_31 : decode bX_overrides 31 = .ok (.invokevirtual 83, 3) := by decide +kernel
theorem dX_overrides_34 : decode bX_overrides 34 = .ok (.ifCond .ne 5, 3) := by decide +kernel
theorem dX_overrides_37 : decode bX_overrides 37 = .ok (.iconst 0, 1) := by decide +kernel
theorem dX_overrides_38 : decode bX_overrides 38 = .ok (.ireturn, 1) := by decide +kernel
theorem dX_overrides_39 : decode bX_overrides 39 = .ok (.aload_n 3, 1) := by decide +kernel
theorem dX_overrides_40 : decode bX_overrides 40 = .ok (.getfield 91, 3) := by decide +kernel
theorem dX_overrides_43 : decode bX_overrides 43 = .ok (.aload 4, 2) := by decide +kernel
theorem dX_overrides_45 : decode bX_overrides 45 = .ok (.getfield 91, 3) := by decide +kernel
theorem dX_overrides_48 : decode bX_overrides 48 = .ok (.if_icmp .ne 29, 3) := by decide +kernel
theorem dX_overrides_51 : decode bX_overrides 51 = .ok (.aload_n 3, 1) := by decide +kernel
theorem dX_overrides_52 : decode bX_overrides 52 = .ok (.getfield 94, 3) := by decide +kernel
theorem dX_overrides_55 : decode bX_overrides 55 = .ok (.aload 4, 2) := by decide +kernel
theorem dX_overrides_57 : decode bX_overrides 57 = .ok (.getfield 94, 3) := by decide +kernel
theorem dX_overrides_60 : decode bX_overrides 60 = .ok (.if_icmp .ne 17, 3) := by decide +kernel
theorem dX_overrides_63 : decode bX_overrides 63 = .ok (.aload_n 0, 1) := by decide +kernel
theorem dX_overrides_64 : decode bX_overrides 64 = .ok (.aload_n 3, 1) := by decide +kernel
theorem dX_overrides_65 : decode bX_overrides 65 = .ok (.aload 4, 2) := by decide +kernel
theorem dX_overrides_67 : decode bX_overrides 67 = .ok (.invokevirtual 97, 3) := by decide +kernel
theorem dX_overrides_70 : decode bX_overrides 70 = .ok (.ifCond .eq 7, 3) := by decide +kernel
theorem dX_overrides_73 : decode bX_overrides 73 = .ok (.iconst 1, 1) := by decide +kernel
theorem dX_overrides_74 : decode bX_overrides 74 = .ok (.goto 4, 3) := by decide +kernel
theorem dX_overrides_77 : decode bX_overrides 77 = .ok (.iconst 0, 1) := by decide +kernel
theorem dX_overrides_78 : decode bX_overrides 78 = .ok (.ireturn, 1) := by decide +kernel
theorem dX_member_0 : decode bX_member 0 = .ok (.aload_n 0, 1) := by decide +kernel
theorem dX_member_1 : decode bX_member 1 = .ok (.iload_n 1, 1) := by decide +kernel
theorem dX_member_2 : decode bX_member 2 = .ok (.invokevirtual 79, 3) := by decide +kernel
theorem dX_member_5 : decode bX_member 5 = .ok (.astore_n 3, 1) := by decide +kernel
theorem dX_member_6 : decode bX_member 6 = .ok (.aload_n 3, 1) := by decide +kernel
theorem dX_member_7 : decode bX_member 7 = .ok (.ifnonnull 5, 3) := by decide +kernel
theorem dX_member_10 : decode bX_member 10 = .ok (.iconst (-1), 1) := by decide +kernel
theorem dX_member_11 : decode bX_member 11 = .ok (.ireturn, 1) := by decide +kernel
theorem dX_member_12 : decode bX_member 12 = .ok (.iload_n 2, 1) := by decide +kernel
theorem dX_member_13 : decode bX_member 13 = .ok (.tableswitch 97 0 6 #[43, 51, 56, 61, 74, 87, 92], 43) := by decide +kernel
theorem dX_member_56 : decode bX_member 56 = .ok (.aload_n 3, 1) := by decide +kernel
theorem dX_member_57 : decode bX_member 57 = .ok (.getfield 72, 3) := by decide +kernel
theorem dX_member_60 : decode bX_member 60 = .ok (.getfield 101, 3) := by decide +kernel
theorem dX_member_63 : decode bX_member 63 = .ok (.ireturn, 1) := by decide +kernel
theorem dX_member_64 : decode bX_member 64 = .ok (.aload_n 3, 1) := by decide +kernel
theorem dX_member_65 : decode bX_member 65 = .ok (.getfield 91, 3) := by decide +kernel
theorem dX_member_68 : decode bX_member 68 = .ok (.ireturn, 1) := by decide +kernel
theorem dX_member_69 : decode bX_member 69 = .ok (.aload_n 3, 1) := by decide +kernel
theorem dX_member_70 : decode bX_member 70 = .ok (.getfield 102, 3) := by decide +kernel
theorem dX_member_73 : decode bX_member 73 = .ok (.ireturn, 1) := by decide +kernel
theorem dX_member_74 : decode bX_member 74 = .ok (.aload_n 3, 1) := by decide +kernel
theorem dX_member_75 : decode bX_member 75 = .ok (.getfield 105, 3) := by decide +kernel
theorem dX_member_78 : decode bX_member 78 = .ok (.ifCond .eq 7, 3) := by decide +kernel
theorem dX_member_81 : decode bX_member 81 = .ok (.iconst 1, 1) := by decide +kernel
theorem dX_member_82 : decode bX_member 82 = .ok (.goto 4, 3) := by decide +kernel
theorem dX_member_85 : decode bX_member 85 = .ok (.iconst 0, 1) := by decide +kernel
theorem dX_member_86 : decode bX_member 86 = .ok (.ireturn, 1) := by decide +kernel
theorem dX_member_87 : decode bX_member 87 = .ok (.aload_n 3, 1) := by decide +kernel
theorem dX_member_88 : decode bX_member 88 = .ok (.getfield 68, 3) := by decide +kernel
theorem dX_member_91 : decode bX_member 91 = .ok (.ifCond .eq 7, 3) := by decide +kernel
theorem dX_member_94 : decode bX_member 94 = .ok (.iconst 1, 1) := by decide +kernel
theorem dX_member_95 : decode bX_member 95 = .ok (.goto 4, 3) := by decide +kernel
theorem dX_member_98 : decode bX_member 98 = .ok (.iconst 0, 1) := by decide +kernel
theorem dX_member_99 : decode bX_member 99 = .ok (.ireturn, 1) := by decide +kernel
theorem dX_member_100 : decode bX_member 100 = .ok (.aload_n 3, 1) := by decide +kernel
theorem dX_member_101 : decode bX_member 101 = .ok (.getfield 108, 3) := by decide +kernel
theorem dX_member_104 : decode bX_member 104 = .ok (.ireturn, 1) := by decide +kernel
theorem dX_member_105 : decode bX_member 105 = .ok (.aload_n 3, 1) := by decide +kernel
theorem dX_member_106 : decode bX_member 106 = .ok (.getfield 94, 3) := by decide +kernel
theorem dX_member_109 : decode bX_member 109 = .ok (.ireturn, 1) := by decide +kernel
theorem dX_member_110 : decode bX_member 110 = .ok (.iconst (-1), 1) := by decide +kernel
theorem dX_member_111 : decode bX_member 111 = .ok (.ireturn, 1) := by decide +kernel
theorem dX_seen_0 : decode bX_seen 0 = .ok (.aload_n 0, 1) := by decide +kernel
theorem dX_seen_1 : decode bX_seen 1 = .ok (.iload_n 1, 1) := by decide +kernel
theorem dX_seen_2 : decode bX_seen 2 = .ok (.invokevirtual 35, 3) := by decide +kernel
theorem dX_seen_5 : decode bX_seen 5 = .ok (.astore_n 3, 1) := by decide +kernel
theorem dX_seen_6 : decode bX_seen 6 = .ok (.aload_n 0, 1) := by decide +kernel
theorem dX_seen_7 : decode bX_seen 7 = .ok (.iload_n 2, 1) := by decide +kernel
theorem dX_seen_8 : decode bX_seen 8 = .ok (.invokevirtual 35, 3) := by decide +kernel
theorem dX_seen_11 : decode bX_seen 11 = .ok (.astore 4, 2) := by decide +kernel
theorem dX_seen_13 : decode bX_seen 13 = .ok (.aload_n 3, 1) := by decide +kernel
theorem dX_seen_14 : decode bX_seen 14 = .ok (.ifnull 8, 3) := by decide +kernel
theorem dX_seen_17 : decode bX_seen 17 = .ok (.aload 4, 2) := by decide +kernel
theorem dX_seen_19 : decode bX_seen 19 = .ok (.ifnonnull 5, 3) := by decide +kernel
theorem dX_seen_22 : decode bX_seen 22 = .ok (.iconst (-1), 1) := by decide +kernel
theorem dX_seen_23 : decode bX_seen 23 = .ok (.ireturn, 1) := by decide +kernel
theorem dX_seen_24 : decode bX_seen 24 = .ok (.iconst 0, 1) := by decide +kernel
theorem dX_seen_25 : decode bX_seen 25 = .ok (.istore 5, 2) := by decide +kernel
theorem dX_seen_27 : decode bX_seen 27 = .ok (.aload 4, 2) := by decide +kernel
theorem dX_seen_29 : decode bX_seen 29 = .ok (.astore 6, 2) := by decide +kernel
theorem dX_seen_31 : decode bX_seen 31 = .ok (.aload 6, 2) := by decide +kernel
theorem dX_seen_33 : decode bX_seen 33 = .ok (.ifnull 58, 3) := by decide +kernel
theorem dX_seen_36 : decode bX_seen 36 = .ok (.aload 6, 2) := by decide +kernel
theorem dX_seen_38 : decode bX_seen 38 = .ok (.getfield 111, 3) := by decide +kernel
theorem dX_seen_41 : decode bX_seen 41 = .ok (.astore 7, 2) := by decide +kernel
theorem dX_seen_43 : decode bX_seen 43 = .ok (.aload 7, 2) := by decide +kernel
theorem dX_seen_45 : decode bX_seen 45 = .ok (.ifnull 36, 3) := by decide +kernel
theorem dX_seen_48 : decode bX_seen 48 = .ok (.aload 7, 2) := by decide +kernel
theorem dX_seen_50 : decode bX_seen 50 = .ok (.aload_n 3, 1) := by decide +kernel
theorem dX_seen_51 : decode bX_seen 51 = .ok (.invokevirtual 65, 3) := by decide +kernel
theorem dX_seen_54 : decode bX_seen 54 = .ok (.ifCond .eq 17, 3) := by decide +kernel
theorem dX_seen_57 : decode bX_seen 57 = .ok (.aload_n 0, 1) := by decide +kernel
theorem dX_seen_58 : decode bX_seen 58 = .ok (.aload 7, 2) := by decide +kernel
theorem dX_seen_60 : decode bX_seen 60 = .ok (.aload 4, 2) := by decide +kernel
theorem dX_seen_62 : decode bX_seen 62 = .ok (.invokevirtual 115, 3) := by decide +kernel
theorem dX_seen_65 : decode bX_seen 65 = .ok (.ifCond .ne 6, 3) := by decide +kernel
theorem dX_seen_68 : decode bX_seen 68 = .ok (.iinc 5 1, 3) := by decide +kernel
theorem dX_seen_71 : decode bX_seen 71 = .ok (.aload 7, 2) := by decide +kernel
theorem dX_seen_73 : decode bX_seen 73 = .ok (.getfield 119, 3) := by decide +kernel
theorem dX_seen_76 : decode bX_seen 76 = .ok (.astore 7, 2) := by decide +kernel
theorem dX_seen_78 : decode bX_seen 78 = .ok (.goto (-35), 3) := by decide +kernel
theorem dX_seen_81 : decode bX_seen 81 = .ok (.aload 6, 2) := by decide +kernel
theorem dX_seen_83 : decode bX_seen 83 = .ok (.getfield 122, 3) := by decide +kernel
theorem dX_seen_86 : decode bX_seen 86 = .ok (.astore 6, 2) := by decide +kernel
theorem dX_seen_88 : decode bX_seen 88 = .ok (.goto (-57), 3) := by decide +kernel
theorem dX_seen_91 : decode bX_seen 91 = .ok (.iload 5, 2) := by decide +kernel
theorem dX_seen_93 : decode bX_seen 93 = .ok (.ireturn, 1) := by decide +kernel
theorem dX_classAt_0 : decode bX_classAt 0 = .ok (.iload_n 1, 1) := by decide +kernel
theorem dX_classAt_1 : decode bX_classAt 1 = .ok (.ifCond .lt 20, 3) := by decide +kernel
theorem dX_classAt_4 : decode bX_classAt 4 = .ok (.iload_n 1, 1) := by decide +kernel
theorem dX_classAt_5 : decode bX_classAt 5 = .ok (.aload_n 0, 1) := by decide +kernel
theorem dX_classAt_6 : decode bX_classAt 6 = .ok (.getfield 25, 3) := by decide +kernel
theorem dX_classAt_9 : decode bX_classAt 9 = .ok (.if_icmp .ge 12, 3) := by decide +kernel
theorem dX_classAt_12 : decode bX_classAt 12 = .ok (.aload_n 0, 1) := by decide +kernel
theorem dX_classAt_13 : decode bX_classAt 13 = .ok (.getfield 11, 3) := by decide +kernel
theorem dX_classAt_16 : decode bX_classAt 16 = .ok (.iload_n 1, 1) := by decide +kernel
theorem dX_classAt_17 : decode bX_classAt 17 = .ok (.aaload, 1) := by decide +kernel
theorem dX_classAt_18 : decode bX_classAt 18 = .ok (.goto 4, 3) := by decide +kernel
theorem dX_classAt_21 : decode bX_classAt 21 = .ok (.aconst_null, 1) := by decide +kernel
theorem dX_classAt_22 : decode bX_classAt 22 = .ok (.areturn, 1) := by decide +kernel
theorem dX_memberAt_0 : decode bX_memberAt 0 = .ok (.iload_n 1, 1) := by decide +kernel
theorem dX_memberAt_1 : decode bX_memberAt 1 = .ok (.ifCond .lt 20, 3) := by decide +kernel
theorem dX_memberAt_4 : decode bX_memberAt 4 = .ok (.iload_n 1, 1) := by decide +kernel
theorem dX_memberAt_5 : decode bX_memberAt 5 = .ok (.aload_n 0, 1) := by decide +kernel
theorem dX_memberAt_6 : decode bX_memberAt 6 = .ok (.getfield 29, 3) := by decide +kernel
theorem dX_memberAt_9 : decode bX_memberAt 9 = .ok (.if_icmp .ge 12, 3) := by decide +kernel
theorem dX_memberAt_12 : decode bX_memberAt 12 = .ok (.aload_n 0, 1) := by decide +kernel
theorem dX_memberAt_13 : decode bX_memberAt 13 = .ok (.getfield 17, 3) := by decide +kernel
theorem dX_memberAt_16 : decode bX_memberAt 16 = .ok (.iload_n 1, 1) := by decide +kernel
theorem dX_memberAt_17 : decode bX_memberAt 17 = .ok (.aaload, 1) := by decide +kernel
theorem dX_memberAt_18 : decode bX_memberAt 18 = .ok (.goto 4, 3) := by decide +kernel
theorem dX_memberAt_21 : decode bX_memberAt 21 = .ok (.aconst_null, 1) := by decide +kernel
theorem dX_memberAt_22 : decode bX_memberAt 22 = .ok (.areturn, 1) := by decide +kernel
theorem dX_isName_0 : decode bX_isName 0 = .ok (.iload_n 0, 1) := by decide +kernel
theorem dX_isName_1 : decode bX_isName 1 = .ok (.ifCond .lt 13, 3) := by decide +kernel
theorem dX_isName_4 : decode bX_isName 4 = .ok (.iload_n 0, 1) := by decide +kernel
theorem dX_isName_5 : decode bX_isName 5 = .ok (.bipush 99, 2) := by decide +kernel
theorem dX_isName_7 : decode bX_isName 7 = .ok (.if_icmp .gt 7, 3) := by decide +kernel
theorem dX_isName_10 : decode bX_isName 10 = .ok (.iconst 1, 1) := by decide +kernel
theorem dX_isName_11 : decode bX_isName 11 = .ok (.goto 4, 3) := by decide +kernel
theorem dX_isName_14 : decode bX_isName 14 = .ok (.iconst 0, 1) := by decide +kernel
theorem dX_isName_15 : decode bX_isName 15 = .ok (.ireturn, 1) := by decide +kernel
theorem dX_isRights_0 : decode bX_isRights 0 = .ok (.iload_n 0, 1) := by decide +kernel
theorem dX_isRights_1 : decode bX_isRights 1 = .ok (.ifCond .lt 12, 3) := by decide +kernel
theorem dX_isRights_4 : decode bX_isRights 4 = .ok (.iload_n 0, 1) := by decide +kernel
theorem dX_isRights_5 : decode bX_isRights 5 = .ok (.iconst 3, 1) := by decide +kernel
theorem dX_isRights_6 : decode bX_isRights 6 = .ok (.if_icmp .gt 7, 3) := by decide +kernel
theorem dX_isRights_9 : decode bX_isRights 9 = .ok (.iconst 1, 1) := by decide +kernel
theorem dX_isRights_10 : decode bX_isRights 10 = .ok (.goto 4, 3) := by decide +kernel
theorem dX_isRights_13 : decode bX_isRights 13 = .ok (.iconst 0, 1) := by decide +kernel
theorem dX_isRights_14 : decode bX_isRights 14 = .ok (.ireturn, 1) := by decide +kernel
theorem dX_refuse_0 : decode bX_refuse 0 = .ok (.aload_n 0, 1) := by decide +kernel
theorem dX_refuse_1 : decode bX_refuse 1 = .ok (.iload_n 1, 1) := by decide +kernel
theorem dX_refuse_2 : decode bX_refuse 2 = .ok (.putfield 32, 3) := by decide +kernel
theorem dX_refuse_5 : decode bX_refuse 5 = .ok (.iconst (-1), 1) := by decide +kernel
theorem dX_refuse_6 : decode bX_refuse 6 = .ok (.ireturn, 1) := by decide +kernel
theorem dX_add_0 : decode bX_add 0 = .ok (.aload_n 0, 1) := by decide +kernel
theorem dX_add_1 : decode bX_add 1 = .ok (.aload_n 0, 1) := by decide +kernel
theorem dX_add_2 : decode bX_add 2 = .ok (.aload_n 1, 1) := by decide +kernel
theorem dX_add_3 : decode bX_add 3 = .ok (.aload_n 2, 1) := by decide +kernel
theorem dX_add_4 : decode bX_add 4 = .ok (.invokevirtual 125, 3) := by decide +kernel
theorem dX_add_7 : decode bX_add 7 = .ok (.putfield 32, 3) := by decide +kernel
theorem dX_add_10 : decode bX_add 10 = .ok (.aload_n 0, 1) := by decide +kernel
theorem dX_add_11 : decode bX_add 11 = .ok (.getfield 32, 3) := by decide +kernel
theorem dX_add_14 : decode bX_add 14 = .ok (.ifCond .eq 5, 3) := by decide +kernel
theorem dX_add_17 : decode bX_add 17 = .ok (.iconst (-1), 1) := by decide +kernel
theorem dX_add_18 : decode bX_add 18 = .ok (.ireturn, 1) := by decide +kernel
theorem dX_add_19 : decode bX_add 19 = .ok (.aload_n 2, 1) := by decide +kernel
theorem dX_add_20 : decode bX_add 20 = .ok (.aload_n 0, 1) := by decide +kernel
theorem dX_add_21 : decode bX_add 21 = .ok (.getfield 29, 3) := by decide +kernel
theorem dX_add_24 : decode bX_add 24 = .ok (.putfield 76, 3) := by decide +kernel
theorem dX_add_27 : decode bX_add 27 = .ok (.aload_n 2, 1) := by decide +kernel
theorem dX_add_28 : decode bX_add 28 = .ok (.aload_n 1, 1) := by decide +kernel
theorem dX_add_29 : decode bX_add 29 = .ok (.getfield 111, 3) := by decide +kernel
theorem dX_add_32 : decode bX_add 32 = .ok (.putfield 119, 3) := by decide +kernel
theorem dX_add_35 : decode bX_add 35 = .ok (.aload_n 1, 1) := by decide +kernel
theorem dX_add_36 : decode bX_add 36 = .ok (.aload_n 2, 1) := by decide +kernel
theorem dX_add_37 : decode bX_add 37 = .ok (.putfield 111, 3) := by decide +kernel
theorem dX_add_40 : decode bX_add 40 = .ok (.aload_n 0, 1) := by decide +kernel
theorem dX_add_41 : decode bX_add 41 = .ok (.getfield 17, 3) := by decide +kernel
