theorem dX_add_44 : decode bX_add 44 = .ok (.aload_n 0, 1) := by decide +kernel
theorem dX_add_45 : decode bX_add 45 = .ok (.getfield 29, 3) := by decide +kernel
theorem dX_add_48 : decode bX_add 48 = .ok (.aload_n 2, 1) := by decide +kernel
theorem dX_add_49 : decode bX_add 49 = .ok (.aastore, 1) := by decide +kernel
theorem dX_add_50 : decode bX_add 50 = .ok (.aload_n 0, 1) := by decide +kernel
theorem dX_add_51 : decode bX_add 51 = .ok (.dup, 1) := by decide +kernel
theorem dX_add_52 : decode bX_add 52 = .ok (.getfield 29, 3) := by decide +kernel
theorem dX_add_55 : decode bX_add 55 = .ok (.iconst 1, 1) := by decide +kernel
theorem dX_add_56 : decode bX_add 56 = .ok (.iadd, 1) := by decide +kernel
theorem dX_add_57 : decode bX_add 57 = .ok (.putfield 29, 3) := by decide +kernel
theorem dX_add_60 : decode bX_add 60 = .ok (.aload_n 2, 1) := by decide +kernel
theorem dX_add_61 : decode bX_add 61 = .ok (.getfield 76, 3) := by decide +kernel
theorem dX_add_64 : decode bX_add 64 = .ok (.ireturn, 1) := by decide +kernel
theorem dX_refusalOfNew_0 : decode bX_refusalOfNew 0 = .ok (.aload_n 2, 1) := by decide +kernel
theorem dX_refusalOfNew_1 : decode bX_refusalOfNew 1 = .ok (.getfield 91, 3) := by decide +kernel
theorem dX_refusalOfNew_4 : decode bX_refusalOfNew 4 = .ok (.invokestatic 57, 3) := by decide +kernel
theorem dX_refusalOfNew_7 : decode bX_refusalOfNew 7 = .ok (.ifCond .eq 13, 3) := by decide +kernel
theorem dX_refusalOfNew_10 : decode bX_refusalOfNew 10 = .ok (.aload_n 2, 1) := by decide +kernel
theorem dX_refusalOfNew_11 : decode bX_refusalOfNew 11 = .ok (.getfield 102, 3) := by decide +kernel
theorem dX_refusalOfNew_14 : decode bX_refusalOfNew 14 = .ok (.invokestatic 128, 3) := by decide +kernel
theorem dX_refusalOfNew_17 : decode bX_refusalOfNew 17 = .ok (.ifCond .ne 5, 3) := by decide +kernel
theorem dX_refusalOfNew_20 : decode bX_refusalOfNew 20 = .ok (.iconst 2, 1) := by decide +kernel
theorem dX_refusalOfNew_21 : decode bX_refusalOfNew 21 = .ok (.ireturn, 1) := by decide +kernel
theorem dX_refusalOfNew_22 : decode bX_refusalOfNew 22 = .ok (.aload_n 1, 1) := by decide +kernel
theorem dX_refusalOfNew_23 : decode bX_refusalOfNew 23 = .ok (.aload_n 2, 1) := by decide +kernel
theorem dX_refusalOfNew_24 : decode bX_refusalOfNew 24 = .ok (.getfield 108, 3) := by decide +kernel
theorem dX_refusalOfNew_27 : decode bX_refusalOfNew 27 = .ok (.aload_n 2, 1) := by decide +kernel
theorem dX_refusalOfNew_28 : decode bX_refusalOfNew 28 = .ok (.getfield 91, 3) := by decide +kernel
theorem dX_refusalOfNew_31 : decode bX_refusalOfNew 31 = .ok (.aload_n 2, 1) := by decide +kernel
theorem dX_refusalOfNew_32 : decode bX_refusalOfNew 32 = .ok (.getfield 94, 3) := by decide +kernel
theorem dX_refusalOfNew_35 : decode bX_refusalOfNew 35 = .ok (.invokevirtual 131, 3) := by decide +kernel
theorem dX_refusalOfNew_38 : decode bX_refusalOfNew 38 = .ok (.ifnull 5, 3) := by decide +kernel
theorem dX_refusalOfNew_41 : decode bX_refusalOfNew 41 = .ok (.iconst 4, 1) := by decide +kernel
theorem dX_refusalOfNew_42 : decode bX_refusalOfNew 42 = .ok (.ireturn, 1) := by decide +kernel
theorem dX_refusalOfNew_43 : decode bX_refusalOfNew 43 = .ok (.aload_n 2, 1) := by decide +kernel
theorem dX_refusalOfNew_44 : decode bX_refusalOfNew 44 = .ok (.getfield 108, 3) := by decide +kernel
theorem dX_refusalOfNew_47 : decode bX_refusalOfNew 47 = .ok (.iconst 1, 1) := by decide +kernel
theorem dX_refusalOfNew_48 : decode bX_refusalOfNew 48 = .ok (.if_icmp .ne 15, 3) := by decide +kernel
theorem dX_refusalOfNew_51 : decode bX_refusalOfNew 51 = .ok (.aload_n 0, 1) := by decide +kernel
theorem dX_refusalOfNew_52 : decode bX_refusalOfNew 52 = .ok (.aload_n 1, 1) := by decide +kernel
theorem dX_refusalOfNew_53 : decode bX_refusalOfNew 53 = .ok (.aload_n 2, 1) := by decide +kernel
theorem dX_refusalOfNew_54 : decode bX_refusalOfNew 54 = .ok (.invokevirtual 135, 3) := by decide +kernel
theorem dX_refusalOfNew_57 : decode bX_refusalOfNew 57 = .ok (.ifCond .eq 6, 3) := by decide +kernel
theorem dX_refusalOfNew_60 : decode bX_refusalOfNew 60 = .ok (.bipush 8, 2) := by decide +kernel
theorem dX_refusalOfNew_62 : decode bX_refusalOfNew 62 = .ok (.ireturn, 1) := by decide +kernel
theorem dX_refusalOfNew_63 : decode bX_refusalOfNew 63 = .ok (.aload_n 0, 1) := by decide +kernel
theorem dX_refusalOfNew_64 : decode bX_refusalOfNew 64 = .ok (.getfield 29, 3) := by decide +kernel
theorem dX_refusalOfNew_67 : decode bX_refusalOfNew 67 = .ok (.sipush 200, 3) := by decide +kernel
theorem dX_refusalOfNew_70 : decode bX_refusalOfNew 70 = .ok (.if_icmp .lt 7, 3) := by decide +kernel
theorem dX_refusalOfNew_73 : decode bX_refusalOfNew 73 = .ok (.iconst 5, 1) := by decide +kernel
theorem dX_refusalOfNew_74 : decode bX_refusalOfNew 74 = .ok (.goto 4, 3) := by decide +kernel
theorem dX_refusalOfNew_77 : decode bX_refusalOfNew 77 = .ok (.iconst 0, 1) := by decide +kernel
theorem dX_refusalOfNew_78 : decode bX_refusalOfNew 78 = .ok (.ireturn, 1) := by decide +kernel
theorem dX_isForbiddenFromAbove_0 : decode bX_isForbiddenFromAbove 0 = .ok (.aload_n 1, 1) := by decide +kernel
theorem dX_isForbiddenFromAbove_1 : decode bX_isForbiddenFromAbove 1 = .ok (.getfield 122, 3) := by decide +kernel
theorem dX_isForbiddenFromAbove_4 : decode bX_isForbiddenFromAbove 4 = .ok (.astore_n 3, 1) := by decide +kernel
theorem dX_isForbiddenFromAbove_5 : decode bX_isForbiddenFromAbove 5 = .ok (.aload_n 3, 1) := by decide +kernel
theorem dX_isForbiddenFromAbove_6 : decode bX_isForbiddenFromAbove 6 = .ok (.ifnull 101, 3) := by decide +kernel
theorem dX_isForbiddenFromAbove_9 : decode bX_isForbiddenFromAbove 9 = .ok (.aload_n 3, 1) := by decide +kernel
theorem dX_isForbiddenFromAbove_10 : decode bX_isForbiddenFromAbove 10 = .ok (.aload_n 2, 1) := by decide +kernel
theorem dX_isForbiddenFromAbove_11 : decode bX_isForbiddenFromAbove 11 = .ok (.getfield 91, 3) := by decide +kernel
theorem dX_isForbiddenFromAbove_14 : decode bX_isForbiddenFromAbove 14 = .ok (.aload_n 2, 1) := by decide +kernel
theorem dX_isForbiddenFromAbove_15 : decode bX_isForbiddenFromAbove 15 = .ok (.getfield 94, 3) := by decide +kernel
theorem dX_isForbiddenFromAbove_18 : decode bX_isForbiddenFromAbove 18 = .ok (.invokevirtual 139, 3) := by decide +kernel
theorem dX_isForbiddenFromAbove_21 : decode bX_isForbiddenFromAbove 21 = .ok (.astore 4, 2) := by decide +kernel
theorem dX_isForbiddenFromAbove_23 : decode bX_isForbiddenFromAbove 23 = .ok (.aload 4, 2) := by decide +kernel
theorem dX_isForbiddenFromAbove_25 : decode bX_isForbiddenFromAbove 25 = .ok (.ifnull 74, 3) := by decide +kernel
theorem dX_isForbiddenFromAbove_28 : decode bX_isForbiddenFromAbove 28 = .ok (.aload 4, 2) := by decide +kernel
theorem dX_isForbiddenFromAbove_30 : decode bX_isForbiddenFromAbove 30 = .ok (.getfield 102, 3) := by decide +kernel
theorem dX_isForbiddenFromAbove_33 : decode bX_isForbiddenFromAbove 33 = .ok (.ifCond .ne 6, 3) := by decide +kernel
theorem dX_isForbiddenFromAbove_36 : decode bX_isForbiddenFromAbove 36 = .ok (.goto 63, 3) := by decide +kernel
theorem dX_isForbiddenFromAbove_39 : decode bX_isForbiddenFromAbove 39 = .ok (.aload_n 2, 1) := by decide +kernel
theorem dX_isForbiddenFromAbove_40 : decode bX_isForbiddenFromAbove 40 = .ok (.getfield 105, 3) := by decide +kernel
theorem dX_isForbiddenFromAbove_43 : decode bX_isForbiddenFromAbove 43 = .ok (.ifCond .eq 12, 3) := by decide +kernel
theorem dX_isForbiddenFromAbove_46 : decode bX_isForbiddenFromAbove 46 = .ok (.aload 4, 2) := by decide +kernel
theorem dX_isForbiddenFromAbove_48 : decode bX_isForbiddenFromAbove 48 = .ok (.aload_n 1, 1) := by decide +kernel
theorem dX_isForbiddenFromAbove_49 : decode bX_isForbiddenFromAbove 49 = .ok (.invokevirtual 65, 3) := by decide +kernel
theorem dX_isForbiddenFromAbove_52 : decode bX_isForbiddenFromAbove 52 = .ok (.goto 38, 3) := by decide +kernel
theorem dX_isForbiddenFromAbove_55 : decode bX_isForbiddenFromAbove 55 = .ok (.aload 4, 2) := by decide +kernel
theorem dX_isForbiddenFromAbove_57 : decode bX_isForbiddenFromAbove 57 = .ok (.getfield 68, 3) := by decide +kernel
theorem dX_isForbiddenFromAbove_60 : decode bX_isForbiddenFromAbove 60 = .ok (.ifCond .ne 15, 3) := by decide +kernel
theorem dX_isForbiddenFromAbove_63 : decode bX_isForbiddenFromAbove 63 = .ok (.aload 4, 2) := by decide +kernel
theorem dX_isForbiddenFromAbove_65 : decode bX_isForbiddenFromAbove 65 = .ok (.getfield 102, 3) := by decide +kernel
theorem dX_isForbiddenFromAbove_68 : decode bX_isForbiddenFromAbove 68 = .ok (.aload_n 2, 1) := by decide +kernel
theorem dX_isForbiddenFromAbove_69 : decode bX_isForbiddenFromAbove 69 = .ok (.getfield 102, 3) := by decide +kernel
theorem dX_isForbiddenFromAbove_72 : decode bX_isForbiddenFromAbove 72 = .ok (.if_icmp .le 17, 3) := by decide +kernel
theorem dX_isForbiddenFromAbove_75 : decode bX_isForbiddenFromAbove 75 = .ok (.aload_n 0, 1) := by decide +kernel
theorem dX_isForbiddenFromAbove_76 : decode bX_isForbiddenFromAbove 76 = .ok (.aload_n 2, 1) := by decide +kernel
theorem dX_isForbiddenFromAbove_77 : decode bX_isForbiddenFromAbove 77 = .ok (.aload 4, 2) := by decide +kernel
theorem dX_isForbiddenFromAbove_79 : decode bX_isForbiddenFromAbove 79 = .ok (.invokevirtual 97, 3) := by decide +kernel
theorem dX_isForbiddenFromAbove_82 : decode bX_isForbiddenFromAbove 82 = .ok (.ifCond .eq 7, 3) := by decide +kernel
theorem dX_isForbiddenFromAbove_85 : decode bX_isForbiddenFromAbove 85 = .ok (.iconst 1, 1) := by decide +kernel
theorem dX_isForbiddenFromAbove_86 : decode bX_isForbiddenFromAbove 86 = .ok (.goto 4, 3) := by decide +kernel
theorem dX_isForbiddenFromAbove_89 : decode bX_isForbiddenFromAbove 89 = .ok (.iconst 0, 1) := by decide +kernel
theorem dX_isForbiddenFromAbove_90 : decode bX_isForbiddenFromAbove 90 = .ok (.istore 5, 2) := by decide +kernel
theorem dX_isForbiddenFromAbove_92 : decode bX_isForbiddenFromAbove 92 = .ok (.iload 5, 2) := by decide +kernel
theorem dX_isForbiddenFromAbove_94 : decode bX_isForbiddenFromAbove 94 = .ok (.ifCond .eq 5, 3) := by decide +kernel
theorem dX_isForbiddenFromAbove_97 : decode bX_isForbiddenFromAbove 97 = .ok (.iconst 1, 1) := by decide +kernel
theorem dX_isForbiddenFromAbove_98 : decode bX_isForbiddenFromAbove 98 = .ok (.ireturn, 1) := by decide +kernel
theorem dX_isForbiddenFromAbove_99 : decode bX_isForbiddenFromAbove 99 = .ok (.aload_n 3, 1) := by decide +kernel
theorem dX_isForbiddenFromAbove_100 : decode bX_isForbiddenFromAbove 100 = .ok (.getfield 122, 3) := by decide +kernel
theorem dX_isForbiddenFromAbove_103 : decode bX_isForbiddenFromAbove 103 = .ok (.astore_n 3, 1) := by decide +kernel
theorem dX_isForbiddenFromAbove_104 : decode bX_isForbiddenFromAbove 104 = .ok (.goto (-99), 3) := by decide +kernel
theorem dX_isForbiddenFromAbove_107 : decode bX_isForbiddenFromAbove 107 = .ok (.iconst 0, 1) := by decide +kernel
theorem dX_isForbiddenFromAbove_108 : decode bX_isForbiddenFromAbove 108 = .ok (.ireturn, 1) := by decide +kernel
theorem dX_firstAsTold_0 : decode bX_firstAsTold 0 = .ok (.iload_n 3, 1) := by decide +kernel
theorem dX_firstAsTold_1 : decode bX_firstAsTold 1 = .ok (.iconst 3, 1) := by decide +kernel
theorem dX_firstAsTold_2 : decode bX_firstAsTold 2 = .ok (.if_icmp .ne 11, 3) := by decide +kernel
theorem dX_firstAsTold_5 : decode bX_firstAsTold 5 = .ok (.aload_n 0, 1) := by decide +kernel
theorem dX_firstAsTold_6 : decode bX_firstAsTold 6 = .ok (.iconst 2, 1) := by decide +kernel
theorem dX_firstAsTold_7 : decode bX_firstAsTold 7 = .ok (.iconst 0, 1) := by decide +kernel
theorem dX_firstAsTold_8 : decode bX_firstAsTold 8 = .ok (.iload_n 2, 1) := by decide +kernel
theorem dX_firstAsTold_9 : decode bX_firstAsTold 9 = .ok (.invokevirtual 131, 3) := by decide +kernel
theorem dX_firstAsTold_12 : decode bX_firstAsTold 12 = .ok (.areturn, 1) := by decide +kernel
theorem dX_firstAsTold_13 : decode bX_firstAsTold 13 = .ok (.aload_n 0, 1) := by decide +kernel
theorem dX_firstAsTold_14 : decode bX_firstAsTold 14 = .ok (.astore 4, 2) := by decide +kernel
theorem dX_firstAsTold_16 : decode bX_firstAsTold 16 = .ok (.aload 4, 2) := by decide +kernel
theorem dX_firstAsTold_18 : decode bX_firstAsTold 18 = .ok (.ifnull 72, 3) := by decide +kernel
theorem dX_firstAsTold_21 : decode bX_firstAsTold 21 = .ok (.iload_n 3, 1) := by decide +kernel
theorem dX_firstAsTold_22 : decode bX_firstAsTold 22 = .ok (.iconst 4, 1) := by decide +kernel
theorem dX_firstAsTold_23 : decode bX_firstAsTold 23 = .ok (.if_icmp .lt 14, 3) := by decide +kernel
theorem dX_firstAsTold_26 : decode bX_firstAsTold 26 = .ok (.aload 4, 2) := by decide +kernel
theorem dX_firstAsTold_28 : decode bX_firstAsTold 28 = .ok (.iconst 0, 1) := by decide +kernel
theorem dX_firstAsTold_29 : decode bX_firstAsTold 29 = .ok (.iload_n 1, 1) := by decide +kernel
theorem dX_firstAsTold_30 : decode bX_firstAsTold 30 = .ok (.iconst 0, 1) := by decide +kernel
theorem dX_firstAsTold_31 : decode bX_firstAsTold 31 = .ok (.invokevirtual 131, 3) := by decide +kernel
theorem dX_firstAsTold_34 : decode bX_firstAsTold 34 = .ok (.goto 11, 3) := by decide +kernel
theorem dX_firstAsTold_37 : decode bX_firstAsTold 37 = .ok (.aload 4, 2) := by decide +kernel
theorem dX_firstAsTold_39 : decode bX_firstAsTold 39 = .ok (.iconst 1, 1) := by decide +kernel
theorem dX_firstAsTold_40 : decode bX_firstAsTold 40 = .ok (.iload_n 1, 1) := by decide +kernel
theorem dX_firstAsTold_41 : decode bX_firstAsTold 41 = .ok (.iload_n 2, 1) := by decide +kernel
theorem dX_firstAsTold_42 : decode bX_firstAsTold 42 = .ok (.invokevirtual 131, 3) := by decide +kernel
theorem dX_firstAsTold_45 : decode bX_firstAsTold 45 = .ok (.astore 5, 2) := by decide +kernel
theorem dX_firstAsTold_47 : decode bX_firstAsTold 47 = .ok (.aload 5, 2) := by decide +kernel
theorem dX_firstAsTold_49 : decode bX_firstAsTold 49 = .ok (.ifnull 31, 3) := by decide +kernel
theorem dX_firstAsTold_52 : decode bX_firstAsTold 52 = .ok (.aload 5, 2) := by decide +kernel
theorem dX_firstAsTold_54 : decode bX_firstAsTold 54 = .ok (.getfield 108, 3) := by decide +kernel
theorem dX_firstAsTold_57 : decode bX_firstAsTold 57 = .ok (.ifCond .eq 20, 3) := by decide +kernel
theorem dX_firstAsTold_60 : decode bX_firstAsTold 60 = .ok (.aload 5, 2) := by decide +kernel
theorem dX_firstAsTold_62 : decode bX_firstAsTold 62 = .ok (.getfield 105, 3) := by decide +kernel
theorem dX_firstAsTold_65 : decode bX_firstAsTold 65 = .ok (.iload_n 3, 1) := by decide +kernel
theorem dX_firstAsTold_66 : decode bX_firstAsTold 66 = .ok (.ifCond .ne 7, 3) := by decide +kernel
theorem dX_firstAsTold_69 : decode bX_firstAsTold 69 = .ok (.iconst 1, 1) := by decide +kernel
theorem dX_firstAsTold_70 : decode bX_firstAsTold 70 = .ok (.goto 4, 3) := by decide +kernel
theorem dX_firstAsTold_73 : decode bX_firstAsTold 73 = .ok (.iconst 0, 1) := by decide +kernel
theorem dX_firstAsTold_74 : decode bX_firstAsTold 74 = .ok (.if_icmp .ne 6, 3) := by decide +kernel
theorem dX_firstAsTold_77 : decode bX_firstAsTold 77 = .ok (.aload 5, 2) := by decide +kernel
theorem dX_firstAsTold_79 : decode bX_firstAsTold 79 = .ok (.areturn, 1) := by decide +kernel
theorem dX_firstAsTold_80 : decode bX_firstAsTold 80 = .ok (.aload 4, 2) := by decide +kernel
theorem dX_firstAsTold_82 : decode bX_firstAsTold 82 = .ok (.getfield 122, 3) := by decide +kernel
theorem dX_firstAsTold_85 : decode bX_firstAsTold 85 = .ok (.astore 4, 2) := by decide +kernel
theorem dX_firstAsTold_87 : decode bX_firstAsTold 87 = .ok (.goto (-71), 3) := by decide +kernel
theorem dX_firstAsTold_90 : decode bX_firstAsTold 90 = .ok (.aconst_null, 1) := by decide +kernel
theorem dX_firstAsTold_91 : decode bX_firstAsTold 91 = .ok (.areturn, 1) := by decide +kernel
theorem dX_overridesMethod_0 : decode bX_overridesMethod 0 = .ok (.aload_n 1, 1) := by decide +kernel
theorem dX_overridesMethod_1 : decode bX_overridesMethod 1 = .ok (.getfield 102, 3) := by decide +kernel
theorem dX_overridesMethod_4 : decode bX_overridesMethod 4 = .ok (.ifCond .eq 10, 3) := by decide +kernel
theorem dX_overridesMethod_7 : decode bX_overridesMethod 7 = .ok (.aload_n 2, 1) := by decide +kernel
theorem dX_overridesMethod_8 : decode bX_overridesMethod 8 = .ok (.getfield 102, 3) := by decide +kernel
theorem dX_overridesMethod_11 : decode bX_overridesMethod 11 = .ok (.ifCond .ne 5, 3) := by decide +kernel
theorem dX_overridesMethod_14 : decode bX_overridesMethod 14 = .ok (.iconst 0, 1) := by decide +kernel
theorem dX_overridesMethod_15 : decode bX_overridesMethod 15 = .ok (.ireturn, 1) := by decide +kernel
theorem dX_overridesMethod_16 : decode bX_overridesMethod 16 = .ok (.aload_n 0, 1) := by decide +kernel
theorem dX_overridesMethod_17 : decode bX_overridesMethod 17 = .ok (.getfield 21, 3) := by decide +kernel
theorem dX_overridesMethod_20 : decode bX_overridesMethod 20 = .ok (.iconst 0, 1) := by decide +kernel
theorem dX_overridesMethod_21 : decode bX_overridesMethod 21 = .ok (.aload_n 1, 1) := by decide +kernel
theorem dX_overridesMethod_22 : decode bX_overridesMethod 22 = .ok (.getfield 72, 3) := by decide +kernel
theorem dX_overridesMethod_25 : decode bX_overridesMethod 25 = .ok (.getfield 143, 3) := by decide +kernel
theorem dX_overridesMethod_28 : decode bX_overridesMethod 28 = .ok (.iastore, 1) := by decide +kernel
theorem dX_overridesMethod_29 : decode bX_overridesMethod 29 = .ok (.iconst 1, 1) := by decide +kernel
theorem dX_overridesMethod_30 : decode bX_overridesMethod 30 = .ok (.istore_n 3, 1) := by decide +kernel
theorem dX_overridesMethod_31 : decode bX_overridesMethod 31 = .ok (.aload_n 1, 1) := by decide +kernel
theorem dX_overridesMethod_32 : decode bX_overridesMethod 32 = .ok (.getfield 72, 3) := by decide +kernel
theorem dX_overridesMethod_35 : decode bX_overridesMethod 35 = .ok (.getfield 122, 3) := by decide +kernel
theorem dX_overridesMethod_38 : decode bX_overridesMethod 38 = .ok (.astore 4, 2) := by decide +kernel
theorem dX_overridesMethod_40 : decode bX_overridesMethod 40 = .ok (.aload 4, 2) := by decide +kernel
theorem dX_overridesMethod_42 : decode bX_overridesMethod 42 = .ok (.ifnull 90, 3) := by decide +kernel
theorem dX_overridesMethod_45 : decode bX_overridesMethod 45 = .ok (.aload 4, 2) := by decide +kernel
theorem dX_overridesMethod_47 : decode bX_overridesMethod 47 = .ok (.aload_n 1, 1) := by decide +kernel
theorem dX_overridesMethod_48 : decode bX_overridesMethod 48 = .ok (.getfield 91, 3) := by decide +kernel
theorem dX_overridesMethod_51 : decode bX_overridesMethod 51 = .ok (.aload_n 1, 1) := by decide +kernel
theorem dX_overridesMethod_52 : decode bX_overridesMethod 52 = .ok (.getfield 94, 3) := by decide +kernel
theorem dX_overridesMethod_55 : decode bX_overridesMethod 55 = .ok (.invokevirtual 139, 3) := by decide +kernel
theorem dX_overridesMethod_58 : decode bX_overridesMethod 58 = .ok (.astore 5, 2) := by decide +kernel
theorem dX_overridesMethod_60 : decode bX_overridesMethod 60 = .ok (.aload 5, 2) := by decide +kernel
theorem dX_overridesMethod_62 : decode bX_overridesMethod 62 = .ok (.ifnull 17, 3) := by decide +kernel
theorem dX_overridesMethod_65 : decode bX_overridesMethod 65 = .ok (.aload_n 0, 1) := by decide +kernel
theorem dX_overridesMethod_66 : decode bX_overridesMethod 66 = .ok (.aload 5, 2) := by decide +kernel
theorem dX_overridesMethod_68 : decode bX_overridesMethod 68 = .ok (.iload_n 3, 1) := by decide +kernel
theorem dX_overridesMethod_69 : decode bX_overridesMethod 69 = .ok (.invokevirtual 146, 3) := by decide +kernel
theorem dX_overridesMethod_72 : decode bX_overridesMethod 72 = .ok (.ifCond .eq 7, 3) := by decide +kernel
theorem dX_overridesMethod_75 : decode bX_overridesMethod 75 = .ok (.iconst 1, 1) := by decide +kernel
theorem dX_overridesMethod_76 : decode bX_overridesMethod 76 = .ok (.goto 4, 3) := by decide +kernel
theorem dX_overridesMethod_79 : decode bX_overridesMethod 79 = .ok (.iconst 0, 1) := by decide +kernel
theorem dX_overridesMethod_80 : decode bX_overridesMethod 80 = .ok (.istore 6, 2) := by decide +kernel
theorem dX_overridesMethod_82 : decode bX_overridesMethod 82 = .ok (.aload 4, 2) := by decide +kernel
theorem dX_overridesMethod_84 : decode bX_overridesMethod 84 = .ok (.aload_n 2, 1) := by decide +kernel
theorem dX_overridesMethod_85 : decode bX_overridesMethod 85 = .ok (.getfield 72, 3) := by decide +kernel
theorem dX_overridesMethod_88 : decode bX_overridesMethod 88 = .ok (.if_acmp .ne 6, 3) := by decide +kernel
theorem dX_overridesMethod_91 : decode bX_overridesMethod 91 = .ok (.iload 6, 2) := by decide +kernel
theorem dX_overridesMethod_93 : decode bX_overridesMethod 93 = .ok (.ireturn, 1) := by decide +kernel
theorem dX_overridesMethod_94 : decode bX_overridesMethod 94 = .ok (.iload 6, 2) := by decide +kernel
theorem dX_overridesMethod_96 : decode bX_overridesMethod 96 = .ok (.ifCond .eq 26, 3) := by decide +kernel
theorem dX_overridesMethod_99 : decode bX_overridesMethod 99 = .ok (.iload_n 3, 1) := by decide +kernel
theorem dX_overridesMethod_100 : decode bX_overridesMethod 100 = .ok (.aload_n 0, 1) := by decide +kernel
theorem dX_overridesMethod_101 : decode bX_overridesMethod 101 = .ok (.getfield 21, 3) := by decide +kernel
theorem dX_overridesMethod_104 : decode bX_overridesMethod 104 = .ok (.arraylength, 1) := by decide +kernel
theorem dX_overridesMethod_105 : decode bX_overridesMethod 105 = .ok (.if_icmp .ge 17, 3) := by decide +kernel
theorem dX_overridesMethod_108 : decode bX_overridesMethod 108 = .ok (.aload_n 0, 1) := by decide +kernel
theorem dX_overridesMethod_109 : decode bX_overridesMethod 109 = .ok (.getfield 21, 3) := by decide +kernel
theorem dX_overridesMethod_112 : decode bX_overridesMethod 112 = .ok (.iload_n 3, 1) := by decide +kernel
theorem dX_overridesMethod_113 : decode bX_overridesMethod 113 = .ok (.aload 4, 2) := by decide +kernel
theorem dX_overridesMethod_115 : decode bX_overridesMethod 115 = .ok (.getfield 143, 3) := by decide +kernel
theorem dX_overridesMethod_118 : decode bX_overridesMethod 118 = .ok (.iastore, 1) := by decide +kernel
theorem dX_overridesMethod_119 : decode bX_overridesMethod 119 = .ok (.iinc 3 1, 3) := by decide +kernel
theorem dX_overridesMethod_122 : decode bX_overridesMethod 122 = .ok (.aload 4, 2) := by decide +kernel
theorem dX_overridesMethod_124 : decode bX_overridesMethod 124 = .ok (.getfield 122, 3) := by decide +kernel
theorem dX_overridesMethod_127 : decode bX_overridesMethod 127 = .ok (.astore 4, 2) := by decide +kernel
theorem dX_overridesMethod_129 : decode bX_overridesMethod 129 = .ok (.goto (-89), 3) := by decide +kernel
theorem dX_overridesMethod_132 : decode bX_overridesMethod 132 = .ok (.iconst 0, 1) := by decide +kernel
theorem dX_overridesMethod_133 : decode bX_overridesMethod 133 = .ok (.ireturn, 1) := by decide +kernel
theorem dX_isOverriddenByLine_0 : decode bX_isOverriddenByLine 0 = .ok (.aload_n 1, 1) := by decide +kernel
theorem dX_isOverriddenByLine_1 : decode bX_isOverriddenByLine 1 = .ok (.getfield 102, 3) := by decide +kernel
theorem dX_isOverriddenByLine_4 : decode bX_isOverriddenByLine 4 = .ok (.iconst 1, 1) := by decide +kernel
theorem dX_isOverriddenByLine_5 : decode bX_isOverriddenByLine 5 = .ok (.if_icmp .eq 16, 3) := by decide +kernel
theorem dX_isOverriddenByLine_8 : decode bX_isOverriddenByLine 8 = .ok (.aload_n 1, 1) := by decide +kernel
theorem dX_isOverriddenByLine_9 : decode bX_isOverriddenByLine 9 = .ok (.getfield 102, 3) := by decide +kernel
theorem dX_isOverriddenByLine_12 : decode bX_isOverriddenByLine 12 = .ok (.ifCond .eq 7, 3) := by decide +kernel
theorem dX_isOverriddenByLine_15 : decode bX_isOverriddenByLine 15 = .ok (.iconst 1, 1) := by decide +kernel
theorem dX_isOverriddenByLine_16 : decode bX_isOverriddenByLine 16 = .ok (.goto 4, 3) := by decide +kernel
theorem dX_isOverriddenByLine_19 : decode bX_isOverriddenByLine 19 = .ok (.iconst 0, 1) := by decide +kernel
theorem dX_isOverriddenByLine_20 : decode bX_isOverriddenByLine 20 = .ok (.ireturn, 1) := by decide +kernel
theorem dX_isOverriddenByLine_21 : decode bX_isOverriddenByLine 21 = .ok (.iconst 0, 1) := by decide +kernel
theorem dX_isOverriddenByLine_22 : decode bX_isOverriddenByLine 22 = .ok (.istore_n 3, 1) := by decide +kernel
theorem dX_isOverriddenByLine_23 : decode bX_isOverriddenByLine 23 = .ok (.iload_n 3, 1) := by decide +kernel
theorem dX_isOverriddenByLine_24 : decode bX_isOverriddenByLine 24 = .ok (.iload_n 2, 1) := by decide +kernel
theorem dX_isOverriddenByLine_25 : decode bX_isOverriddenByLine 25 = .ok (.if_icmp .ge 27, 3) := by decide +kernel
theorem dX_isOverriddenByLine_28 : decode bX_isOverriddenByLine 28 = .ok (.aload_n 0, 1) := by decide +kernel
theorem dX_isOverriddenByLine_29 : decode bX_isOverriddenByLine 29 = .ok (.getfield 21, 3) := by decide +kernel
theorem dX_isOverriddenByLine_32 : decode bX_isOverriddenByLine 32 = .ok (.iload_n 3, 1) := by decide +kernel
theorem dX_isOverriddenByLine_33 : decode bX_isOverriddenByLine 33 = .ok (.iaload, 1) := by decide +kernel
theorem dX_isOverriddenByLine_34 : decode bX_isOverriddenByLine 34 = .ok (.aload_n 1, 1) := by decide +kernel
theorem dX_isOverriddenByLine_35 : decode bX_isOverriddenByLine 35 = .ok (.getfield 72, 3) := by decide +kernel
theorem dX_isOverriddenByLine_38 : decode bX_isOverriddenByLine 38 = .ok (.getfield 143, 3) := by decide +kernel
theorem dX_isOverriddenByLine_41 : decode bX_isOverriddenByLine 41 = .ok (.if_icmp .ne 5, 3) := by decide +kernel
theorem dX_isOverriddenByLine_44 : decode bX_isOverriddenByLine 44 = .ok (.iconst 1, 1) := by decide +kernel
theorem dX_isOverriddenByLine_45 : decode bX_isOverriddenByLine 45 = .ok (.ireturn, 1) := by decide +kernel
theorem dX_isOverriddenByLine_46 : decode bX_isOverriddenByLine 46 = .ok (.iinc 3 1, 3) := by decide +kernel
theorem dX_isOverriddenByLine_49 : decode bX_isOverriddenByLine 49 = .ok (.goto (-26), 3) := by decide +kernel
theorem dX_isOverriddenByLine_52 : decode bX_isOverriddenByLine 52 = .ok (.iconst 0, 1) := by decide +kernel
theorem dX_isOverriddenByLine_53 : decode bX_isOverriddenByLine 53 = .ok (.ireturn, 1) := by decide +kernel
theorem dX_calledMethod_0 : decode bX_calledMethod 0 = .ok (.aload_n 1, 1) := by decide +kernel
theorem dX_calledMethod_1 : decode bX_calledMethod 1 = .ok (.getfield 102, 3) := by decide +kernel
theorem dX_calledMethod_4 : decode bX_calledMethod 4 = .ok (.ifCond .ne 5, 3) := by decide +kernel
theorem dX_calledMethod_7 : decode bX_calledMethod 7 = .ok (.aload_n 1, 1) := by decide +kernel
theorem dX_calledMethod_8 : decode bX_calledMethod 8 = .ok (.areturn, 1) := by decide +kernel
theorem dX_calledMethod_9 : decode bX_calledMethod 9 = .ok (.aload_n 2, 1) := by decide +kernel
theorem dX_calledMethod_10 : decode bX_calledMethod 10 = .ok (.astore_n 3, 1) := by decide +kernel
theorem dX_calledMethod_11 : decode bX_calledMethod 11 = .ok (.aload_n 3, 1) := by decide +kernel
theorem dX_calledMethod_12 : decode bX_calledMethod 12 = .ok (.ifnull 51, 3) := by decide +kernel
theorem dX_calledMethod_15 : decode bX_calledMethod 15 = .ok (.aload_n 3, 1) := by decide +kernel
theorem dX_calledMethod_16 : decode bX_calledMethod 16 = .ok (.aload_n 1, 1) := by decide +kernel
theorem dX_calledMethod_17 : decode bX_calledMethod 17 = .ok (.getfield 72, 3) := by decide +kernel
theorem dX_calledMethod_20 : decode bX_calledMethod 20 = .ok (.if_acmp .eq 43, 3) := by decide +kernel
theorem dX_calledMethod_23 : decode bX_calledMethod 23 = .ok (.aload_n 3, 1) := by decide +kernel
theorem dX_calledMethod_24 : decode bX_calledMethod 24 = .ok (.aload_n 1, 1) := by decide +kernel
theorem dX_calledMethod_25 : decode bX_calledMethod 25 = .ok (.getfield 91, 3) := by decide +kernel
theorem dX_calledMethod_28 : decode bX_calledMethod 28 = .ok (.aload_n 1, 1) := by decide +kernel
theorem dX_calledMethod_29 : decode bX_calledMethod 29 = .ok (.getfield 94, 3) := by decide +kernel
theorem dX_calledMethod_32 : decode bX_calledMethod 32 = .ok (.invokevirtual 139, 3) := by decide +kernel
theorem dX_calledMethod_35 : decode bX_calledMethod 35 = .ok (.astore 4, 2) := by decide +kernel
theorem dX_calledMethod_37 : decode bX_calledMethod 37 = .ok (.aload 4, 2) := by decide +kernel
theorem dX_calledMethod_39 : decode bX_calledMethod 39 = .ok (.ifnull 16, 3) := by decide +kernel
theorem dX_calledMethod_42 : decode bX_calledMethod 42 = .ok (.aload_n 0, 1) := by decide +kernel
theorem dX_calledMethod_43 : decode bX_calledMethod 43 = .ok (.aload 4, 2) := by decide +kernel
theorem dX_calledMethod_45 : decode bX_calledMethod 45 = .ok (.aload_n 1, 1) := by decide +kernel
theorem dX_calledMethod_46 : decode bX_calledMethod 46 = .ok (.invokevirtual 97, 3) := by decide +kernel
theorem dX_calledMethod_49 : decode bX_calledMethod 49 = .ok (.ifCond .eq 6, 3) := by decide +kernel
theorem dX_calledMethod_52 : decode bX_calledMethod 52 = .ok (.aload 4, 2) := by decide +kernel
theorem dX_calledMethod_54 : decode bX_calledMethod 54 = .ok (.areturn, 1) := by decide +kernel
theorem dX_calledMethod_55 : decode bX_calledMethod 55 = .ok (.aload_n 3, 1) := by decide +kernel
theorem dX_calledMethod_56 : decode bX_calledMethod 56 = .ok (.getfield 122, 3) := by decide +kernel
theorem dX_calledMethod_59 : decode bX_calledMethod 59 = .ok (.astore_n 3, 1) := by decide +kernel
theorem dX_calledMethod_60 : decode bX_calledMethod 60 = .ok (.goto (-49), 3) := by decide +kernel
theorem dX_calledMethod_63 : decode bX_calledMethod 63 = .ok (.aload_n 1, 1) := by decide +kernel
theorem dX_calledMethod_64 : decode bX_calledMethod 64 = .ok (.areturn, 1) := by decide +kernel
theorem dX_isHidden_0 : decode bX_isHidden 0 = .ok (.aload_n 1, 1) := by decide +kernel
theorem dX_isHidden_1 : decode bX_isHidden 1 = .ok (.getfield 108, 3) := by decide +kernel
theorem dX_isHidden_4 : decode bX_isHidden 4 = .ok (.ifCond .ne 23, 3) := by decide +kernel
theorem dX_isHidden_7 : decode bX_isHidden 7 = .ok (.aload_n 2, 1) := by decide +kernel
theorem dX_isHidden_8 : decode bX_isHidden 8 = .ok (.aload_n 1, 1) := by decide +kernel
theorem dX_isHidden_9 : decode bX_isHidden 9 = .ok (.getfield 91, 3) := by decide +kernel
theorem dX_isHidden_12 : decode bX_isHidden 12 = .ok (.iconst 0, 1) := by decide +kernel
theorem dX_isHidden_13 : decode bX_isHidden 13 = .ok (.iconst 4, 1) := by decide +kernel
theorem dX_isHidden_14 : decode bX_isHidden 14 = .ok (.invokestatic 61, 3) := by decide +kernel
theorem dX_isHidden_17 : decode bX_isHidden 17 = .ok (.aload_n 1, 1) := by decide +kernel
theorem dX_isHidden_18 : decode bX_isHidden 18 = .ok (.if_acmp .eq 7, 3) := by decide +kernel
theorem dX_isHidden_21 : decode bX_isHidden 21 = .ok (.iconst 1, 1) := by decide +kernel
theorem dX_isHidden_22 : decode bX_isHidden 22 = .ok (.goto 4, 3) := by decide +kernel
theorem dX_isHidden_25 : decode bX_isHidden 25 = .ok (.iconst 0, 1) := by decide +kernel
theorem dX_isHidden_26 : decode bX_isHidden 26 = .ok (.ireturn, 1) := by decide +kernel
theorem dX_isHidden_27 : decode bX_isHidden 27 = .ok (.aload_n 1, 1) := by decide +kernel
theorem dX_isHidden_28 : decode bX_isHidden 28 = .ok (.invokevirtual 83, 3) := by decide +kernel
theorem dX_isHidden_31 : decode bX_isHidden 31 = .ok (.ifCond .eq 17, 3) := by decide +kernel
theorem dX_isHidden_34 : decode bX_isHidden 34 = .ok (.aload_n 0, 1) := by decide +kernel
theorem dX_isHidden_35 : decode bX_isHidden 35 = .ok (.aload_n 1, 1) := by decide +kernel
theorem dX_isHidden_36 : decode bX_isHidden 36 = .ok (.aload_n 2, 1) := by decide +kernel
theorem dX_isHidden_37 : decode bX_isHidden 37 = .ok (.invokevirtual 87, 3) := by decide +kernel
theorem dX_isHidden_40 : decode bX_isHidden 40 = .ok (.aload_n 1, 1) := by decide +kernel
theorem dX_isHidden_41 : decode bX_isHidden 41 = .ok (.if_acmp .eq 7, 3) := by decide +kernel
theorem dX_isHidden_44 : decode bX_isHidden 44 = .ok (.iconst 1, 1) := by decide +kernel
theorem dX_isHidden_45 : decode bX_isHidden 45 = .ok (.goto 4, 3) := by decide +kernel
theorem dX_isHidden_48 : decode bX_isHidden 48 = .ok (.iconst 0, 1) := by decide +kernel
theorem dX_isHidden_49 : decode bX_isHidden 49 = .ok (.ireturn, 1) := by decide +kernel
theorem dY_init_0 : decode bY_init 0 = .ok (.aload_n 0, 1) := by decide +kernel
theorem dY_init_1 : decode bY_init 1 = .ok (.invokespecial 1, 3) := by decide +kernel
theorem dY_init_4 : decode bY_init 4 = .ok (.aload_n 0, 1) := by decide +kernel
theorem dY_init_5 : decode bY_init 5 = .ok (.bipush 40, 2) := by decide +kernel
theorem dY_init_7 : decode bY_init 7 = .ok (.newarray .int, 2) := by decide +kernel
theorem dY_init_9 : decode bY_init 9 = .ok (.putfield 7, 3) := by decide +kernel
theorem dY_init_12 : decode bY_init 12 = .ok (.aload_n 0, 1) := by decide +kernel
theorem dY_init_13 : decode bY_init 13 = .ok (.bipush 40, 2) := by decide +kernel
theorem dY_init_15 : decode bY_init 15 = .ok (.newarray .int, 2) := by decide +kernel
theorem dY_init_17 : decode bY_init 17 = .ok (.putfield 13, 3) := by decide +kernel
theorem dY_init_20 : decode bY_init 20 = .ok (.aload_n 0, 1) := by decide +kernel
theorem dY_init_21 : decode bY_init 21 = .ok (.sipush 200, 3) := by decide +kernel
theorem dY_init_24 : decode bY_init 24 = .ok (.newarray .int, 2) := by decide +kernel
theorem dY_init_26 : decode bY_init 26 = .ok (.putfield 16, 3) := by decide +kernel
theorem dY_init_29 : decode bY_init 29 = .ok (.aload_n 0, 1) := by decide +kernel
theorem dY_init_30 : decode bY_init 30 = .ok (.sipush 200, 3) := by decide +kernel
theorem dY_init_33 : decode bY_init 33 = .ok (.newarray .int, 2) := by decide +kernel
theorem dY_init_35 : decode bY_init 35 = .ok (.putfield 19, 3) := by decide +kernel
theorem dY_init_38 : decode bY_init 38 = .ok (.aload_n 0, 1) := by decide +kernel
theorem dY_init_39 : decode bY_init 39 = .ok (.sipush 200, 3) := by decide +kernel
theorem dY_init_42 : decode bY_init 42 = .ok (.newarray .int, 2) := by decide +kernel
theorem dY_init_44 : decode bY_init 44 = .ok (.putfield 22, 3) := by decide +kernel
theorem dY_init_47 : decode bY_init 47 = .ok (.aload_n 0, 1) := by decide +kernel
theorem dY_init_48 : decode bY_init 48 = .ok (.sipush 200, 3) := by decide +kernel
theorem dY_init_51 : decode bY_init 51 = .ok (.newarray .int, 2) := by decide +kernel
theorem dY_init_53 : decode bY_init 53 = .ok (.putfield 25, 3) := by decide +kernel
theorem dY_init_56 : decode bY_init 56 = .ok (.aload_n 0, 1) := by decide +kernel
theorem dY_init_57 : decode bY_init 57 = .ok (.sipush 200, 3) := by decide +kernel
theorem dY_init_60 : decode bY_init 60 = .ok (.newarray .int, 2) := by decide +kernel
theorem dY_init_62 : decode bY_init 62 = .ok (.putfield 28, 3) := by decide +kernel
theorem dY_init_65 : decode bY_init 65 = .ok (.aload_n 0, 1) := by decide +kernel
theorem dY_init_66 : decode bY_init 66 = .ok (.sipush 200, 3) := by decide +kernel
theorem dY_init_69 : decode bY_init 69 = .ok (.newarray .boolean, 2) := by decide +kernel
theorem dY_init_71 : decode bY_init 71 = .ok (.putfield 31, 3) := by decide +kernel
theorem dY_init_74 : decode bY_init 74 = .ok (.aload_n 0, 1) := by decide +kernel
theorem dY_init_75 : decode bY_init 75 = .ok (.sipush 200, 3) := by decide +kernel
theorem dY_init_78 : decode bY_init 78 = .ok (.newarray .boolean, 2) := by decide +kernel
theorem dY_init_80 : decode bY_init 80 = .ok (.putfield 35, 3) := by decide +kernel
theorem dY_init_83 : decode bY_init 83 = .ok (.aload_n 0, 1) := by decide +kernel
theorem dY_init_84 : decode bY_init 84 = .ok (.bipush 41, 2) := by decide +kernel
theorem dY_init_86 : decode bY_init 86 = .ok (.newarray .int, 2) := by decide +kernel
theorem dY_init_88 : decode bY_init 88 = .ok (.putfield 38, 3) := by decide +kernel
theorem dY_init_91 : decode bY_init 91 = .ok (.aload_n 0, 1) := by decide +kernel
theorem dY_init_92 : decode bY_init 92 = .ok (.sipush 1681, 3) := by decide +kernel
theorem dY_init_95 : decode bY_init 95 = .ok (.newarray .boolean, 2) := by decide +kernel
theorem dY_init_97 : decode bY_init 97 = .ok (.putfield 41, 3) := by decide +kernel
theorem dY_init_100 : decode bY_init 100 = .ok (.return_, 1) := by decide +kernel
theorem dY_isClass_0 : decode bY_isClass 0 = .ok (.iload_n 1, 1) := by decide +kernel
theorem dY_isClass_1 : decode bY_isClass 1 = .ok (.ifCond .lt 15, 3) := by decide +kernel
theorem dY_isClass_4 : decode bY_isClass 4 = .ok (.iload_n 1, 1) := by decide +kernel
theorem dY_isClass_5 : decode bY_isClass 5 = .ok (.aload_n 0, 1) := by decide +kernel
theorem dY_isClass_6 : decode bY_isClass 6 = .ok (.getfield 44, 3) := by decide +kernel
theorem dY_isClass_9 : decode bY_isClass 9 = .ok (.if_icmp .ge 7, 3) := by decide +kernel
theorem dY_isClass_12 : decode bY_isClass 12 = .ok (.iconst 1, 1) := by decide +kernel
theorem dY_isClass_13 : decode bY_isClass 13 = .ok (.goto 4, 3) := by decide +kernel
theorem dY_isClass_16 : decode bY_isClass 16 = .ok (.iconst 0, 1) := by decide +kernel
theorem dY_isClass_17 : decode bY_isClass 17 = .ok (.ireturn, 1) := by decide +kernel
theorem dY_isMember_0 : decode bY_isMember 0 = .ok (.iload_n 1, 1) := by decide +kernel
theorem dY_isMember_1 : decode bY_isMember 1 = .ok (.ifCond .lt 15, 3) := by decide +kernel
theorem dY_isMember_4 : decode bY_isMember 4 = .ok (.iload_n 1, 1) := by decide +kernel
theorem dY_isMember_5 : decode bY_isMember 5 = .ok (.aload_n 0, 1) := by decide +kernel
theorem dY_isMember_6 : decode bY_isMember 6 = .ok (.getfield 48, 3) := by decide +kernel
theorem dY_isMember_9 : decode bY_isMember 9 = .ok (.if_icmp .ge 7, 3) := by decide +kernel
theorem dY_isMember_12 : decode bY_isMember 12 = .ok (.iconst 1, 1) := by decide +kernel
theorem dY_isMember_13 : decode bY_isMember 13 = .ok (.goto 4, 3) := by decide +kernel
theorem dY_isMember_16 : decode bY_isMember 16 = .ok (.iconst 0, 1) := by decide +kernel
theorem dY_isMember_17 : decode bY_isMember 17 = .ok (.ireturn, 1) := by decide +kernel
theorem dY_isBelow_0 : decode bY_isBelow 0 = .ok (.iload_n 1, 1) := by decide +kernel
theorem dY_isBelow_1 : decode bY_isBelow 1 = .ok (.istore_n 3, 1) := by decide +kernel
theorem dY_isBelow_2 : decode bY_isBelow 2 = .ok (.iload_n 3, 1) := by decide +kernel
theorem dY_isBelow_3 : decode bY_isBelow 3 = .ok (.iconst (-1), 1) := by decide +kernel
theorem dY_isBelow_4 : decode bY_isBelow 4 = .ok (.if_icmp .eq 20, 3) := by decide +kernel
theorem dY_isBelow_7 : decode bY_isBelow 7 = .ok (.iload_n 3, 1) := by decide +kernel
theorem dY_isBelow_8 : decode bY_isBelow 8 = .ok (.iload_n 2, 1) := by decide +kernel
theorem dY_isBelow_9 : decode bY_isBelow 9 = .ok (.if_icmp .ne 5, 3) := by decide +kernel
theorem dY_isBelow_12 : decode bY_isBelow 12 = .ok (.iconst 1, 1) := by decide +kernel
theorem dY_isBelow_13 : decode bY_isBelow 13 = .ok (.ireturn, 1) := by decide +kernel
theorem dY_isBelow_14 : decode bY_isBelow 14 = .ok (.aload_n 0, 1) := by decide +kernel
theorem dY_isBelow_15 : decode bY_isBelow 15 = .ok (.getfield 7, 3) := by decide +kernel
theorem dY_isBelow_18 : decode bY_isBelow 18 = .ok (.iload_n 3, 1) := by decide +kernel
theorem dY_isBelow_19 : decode bY_isBelow 19 = .ok (.iaload, 1) := by decide +kernel
theorem dY_isBelow_20 : decode bY_isBelow 20 = .ok (.istore_n 3, 1) := by decide +kernel
theorem dY_isBelow_21 : decode bY_isBelow 21 = .ok (.goto (-19), 3) := by decide +kernel
theorem dY_isBelow_24 : decode bY_isBelow 24 = .ok (.iconst 0, 1) := by decide +kernel
theorem dY_isBelow_25 : decode bY_isBelow 25 = .ok (.ireturn, 1) := by decide +kernel
theorem dY_isOwn_0 : decode bY_isOwn 0 = .ok (.aload_n 0, 1) := by decide +kernel
theorem dY_isOwn_1 : decode bY_isOwn 1 = .ok (.getfield 25, 3) := by decide +kernel
theorem dY_isOwn_4 : decode bY_isOwn 4 = .ok (.iload_n 1, 1) := by decide +kernel
theorem dY_isOwn_5 : decode bY_isOwn 5 = .ok (.iaload, 1) := by decide +kernel
theorem dY_isOwn_6 : decode bY_isOwn 6 = .ok (.iconst 1, 1) := by decide +kernel
theorem dY_isOwn_7 : decode bY_isOwn 7 = .ok (.if_icmp .ne 16, 3) := by decide +kernel
theorem dY_isOwn_10 : decode bY_isOwn 10 = .ok (.aload_n 0, 1) := by decide +kernel
theorem dY_isOwn_11 : decode bY_isOwn 11 = .ok (.getfield 31, 3) := by decide +kernel
theorem dY_isOwn_14 : decode bY_isOwn 14 = .ok (.iload_n 1, 1) := by decide +kernel
theorem dY_isOwn_15 : decode bY_isOwn 15 = .ok (.baload, 1) := by decide +kernel
theorem dY_isOwn_16 : decode bY_isOwn 16 = .ok (.ifCond .ne 7, 3) := by decide +kernel
theorem dY_isOwn_19 : decode bY_isOwn 19 = .ok (.iconst 1, 1) := by decide +kernel
theorem dY_isOwn_20 : decode bY_isOwn 20 = .ok (.goto 4, 3) := by decide +kernel
theorem dY_isOwn_23 : decode bY_isOwn 23 = .ok (.iconst 0, 1) := by decide +kernel
theorem dY_isOwn_24 : decode bY_isOwn 24 = .ok (.ireturn, 1) := by decide +kernel
theorem dY_refuse_0 : decode bY_refuse 0 = .ok (.aload_n 0, 1) := by decide +kernel
theorem dY_refuse_1 : decode bY_refuse 1 = .ok (.iload_n 1, 1) := by decide +kernel
theorem dY_refuse_2 : decode bY_refuse 2 = .ok (.putfield 51, 3) := by decide +kernel
theorem dY_refuse_5 : decode bY_refuse 5 = .ok (.iconst (-1), 1) := by decide +kernel
theorem dY_refuse_6 : decode bY_refuse 6 = .ok (.ireturn, 1) := by decide +kernel
theorem dY_newClass_0 : decode bY_newClass 0 = .ok (.aload_n 0, 1) := by decide +kernel
theorem dY_newClass_1 : decode bY_newClass 1 = .ok (.getfield 44, 3) := by decide +kernel
theorem dY_newClass_4 : decode bY_newClass 4 = .ok (.bipush 40, 2) := by decide +kernel
theorem dY_newClass_6 : decode bY_newClass 6 = .ok (.if_icmp .eq 16, 3) := by decide +kernel
theorem dY_newClass_9 : decode bY_newClass 9 = .ok (.iload_n 1, 1) := by decide +kernel
theorem dY_newClass_10 : decode bY_newClass 10 = .ok (.iconst (-1), 1) := by decide +kernel
theorem dY_newClass_11 : decode bY_newClass 11 = .ok (.if_icmp .eq 13, 3) := by decide +kernel
theorem dY_newClass_14 : decode bY_newClass 14 = .ok (.aload_n 0, 1) := by decide +kernel
theorem dY_newClass_15 : decode bY_newClass 15 = .ok (.iload_n 1, 1) := by decide +kernel
theorem dY_newClass_16 : decode bY_newClass 16 = .ok (.invokevirtual 54, 3) := by decide +kernel
theorem dY_newClass_19 : decode bY_newClass 19 = .ok (.ifCond .ne 5, 3) := by decide +kernel
theorem dY_newClass_22 : decode bY_newClass 22 = .ok (.iconst (-1), 1) := by decide +kernel
theorem dY_newClass_23 : decode bY_newClass 23 = .ok (.ireturn, 1) := by decide +kernel
theorem dY_newClass_24 : decode bY_newClass 24 = .ok (.aload_n 0, 1) := by decide +kernel
theorem dY_newClass_25 : decode bY_newClass 25 = .ok (.getfield 7, 3) := by decide +kernel
theorem dY_newClass_28 : decode bY_newClass 28 = .ok (.aload_n 0, 1) := by decide +kernel
theorem dY_newClass_29 : decode bY_newClass 29 = .ok (.getfield 44, 3) := by decide +kernel
theorem dY_newClass_32 : decode bY_newClass 32 = .ok (.iload_n 1, 1) := by decide +kernel
theorem dY_newClass_33 : decode bY_newClass 33 = .ok (.iastore, 1) := by decide +kernel
theorem dY_newClass_34 : decode bY_newClass 34 = .ok (.aload_n 0, 1) := by decide +kernel
theorem dY_newClass_35 : decode bY_newClass 35 = .ok (.getfield 13, 3) := by decide +kernel
theorem dY_newClass_38 : decode bY_newClass 38 = .ok (.aload_n 0, 1) := by decide +kernel
theorem dY_newClass_39 : decode bY_newClass 39 = .ok (.getfield 44, 3) := by decide +kernel
theorem dY_newClass_42 : decode bY_newClass 42 = .ok (.iload_n 2, 1) := by decide +kernel
theorem dY_newClass_43 : decode bY_newClass 43 = .ok (.iastore, 1) := by decide +kernel
theorem dY_newClass_44 : decode bY_newClass 44 = .ok (.aload_n 0, 1) := by decide +kernel
theorem dY_newClass_45 : decode bY_newClass 45 = .ok (.dup, 1) := by decide +kernel
theorem dY_newClass_46 : decode bY_newClass 46 = .ok (.getfield 44, 3) := by decide +kernel
theorem dY_newClass_49 : decode bY_newClass 49 = .ok (.iconst 1, 1) := by decide +kernel
theorem dY_newClass_50 : decode bY_newClass 50 = .ok (.iadd, 1) := by decide +kernel
theorem dY_newClass_51 : decode bY_newClass 51 = .ok (.putfield 44, 3) := by decide +kernel
theorem dY_newClass_54 : decode bY_newClass 54 = .ok (.aload_n 0, 1) := by decide +kernel
theorem dY_newClass_55 : decode bY_newClass 55 = .ok (.getfield 44, 3) := by decide +kernel
theorem dY_newClass_58 : decode bY_newClass 58 = .ok (.iconst 1, 1) := by decide +kernel
theorem dY_newClass_59 : decode bY_newClass 59 = .ok (.isub, 1) := by decide +kernel
theorem dY_newClass_60 : decode bY_newClass 60 = .ok (.ireturn, 1) := by decide +kernel
theorem dY_below_0 : decode bY_below 0 = .ok (.aload_n 0, 1) := by decide +kernel
theorem dY_below_1 : decode bY_below 1 = .ok (.iload_n 1, 1) := by decide +kernel
theorem dY_below_2 : decode bY_below 2 = .ok (.invokevirtual 54, 3) := by decide +kernel
theorem dY_below_5 : decode bY_below 5 = .ok (.ifCond .eq 24, 3) := by decide +kernel
theorem dY_below_8 : decode bY_below 8 = .ok (.aload_n 0, 1) := by decide +kernel
theorem dY_below_9 : decode bY_below 9 = .ok (.iload_n 2, 1) := by decide +kernel
theorem dY_below_10 : decode bY_below 10 = .ok (.invokevirtual 54, 3) := by decide +kernel
theorem dY_below_13 : decode bY_below 13 = .ok (.ifCond .eq 16, 3) := by decide +kernel
theorem dY_below_16 : decode bY_below 16 = .ok (.aload_n 0, 1) := by decide +kernel
theorem dY_below_17 : decode bY_below 17 = .ok (.iload_n 1, 1) := by decide +kernel
theorem dY_below_18 : decode bY_below 18 = .ok (.iload_n 2, 1) := by decide +kernel
theorem dY_below_19 : decode bY_below 19 = .ok (.invokevirtual 58, 3) := by decide +kernel
theorem dY_below_22 : decode bY_below 22 = .ok (.ifCond .eq 7, 3) := by decide +kernel
theorem dY_below_25 : decode bY_below 25 = .ok (.iconst 1, 1) := by decide +kernel
theorem dY_below_26 : decode bY_below 26 = .ok (.goto 4, 3) := by decide +kernel
theorem dY_below_29 : decode bY_below 29 = .ok (.iconst 0, 1) := by decide +kernel
theorem dY_below_30 : decode bY_below 30 = .ok (.ireturn, 1) := by decide +kernel
theorem dY_tell_0 : decode bY_tell 0 = .ok (.aload_n 0, 1) := by decide +kernel
theorem dY_tell_1 : decode bY_tell 1 = .ok (.getfield 16, 3) := by decide +kernel
theorem dY_tell_4 : decode bY_tell 4 = .ok (.aload_n 0, 1) := by decide +kernel
theorem dY_tell_5 : decode bY_tell 5 = .ok (.getfield 48, 3) := by decide +kernel
theorem dY_tell_8 : decode bY_tell 8 = .ok (.iload_n 1, 1) := by decide +kernel
theorem dY_tell_9 : decode bY_tell 9 = .ok (.iastore, 1) := by decide +kernel
theorem dY_tell_10 : decode bY_tell 10 = .ok (.aload_n 0, 1) := by decide +kernel
theorem dY_tell_11 : decode bY_tell 11 = .ok (.getfield 19, 3) := by decide +kernel
