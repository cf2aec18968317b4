theorem dY_called_86 : decode bY_called 86 = .ok (.istore 4, 2) := by decide +kernel
theorem dY_called_88 : decode bY_called 88 = .ok (.iload 4, 2) := by decide +kernel
theorem dY_called_90 : decode bY_called 90 = .ok (.iload_n 3, 1) := by decide +kernel
theorem dY_called_91 : decode bY_called 91 = .ok (.if_icmp .le 32, 3) := by decide +kernel
theorem dY_called_94 : decode bY_called 94 = .ok (.aload_n 0, 1) := by decide +kernel
theorem dY_called_95 : decode bY_called 95 = .ok (.getfield 41, 3) := by decide +kernel
theorem dY_called_98 : decode bY_called 98 = .ok (.bipush 41, 2) := by decide +kernel
theorem dY_called_100 : decode bY_called 100 = .ok (.iload 4, 2) := by decide +kernel
theorem dY_called_102 : decode bY_called 102 = .ok (.imul, 1) := by decide +kernel
theorem dY_called_103 : decode bY_called 103 = .ok (.iload_n 3, 1) := by decide +kernel
theorem dY_called_104 : decode bY_called 104 = .ok (.iadd, 1) := by decide +kernel
theorem dY_called_105 : decode bY_called 105 = .ok (.baload, 1) := by decide +kernel
theorem dY_called_106 : decode bY_called 106 = .ok (.ifCond .eq 11, 3) := by decide +kernel
theorem dY_called_109 : decode bY_called 109 = .ok (.aload_n 0, 1) := by decide +kernel
theorem dY_called_110 : decode bY_called 110 = .ok (.getfield 38, 3) := by decide +kernel
theorem dY_called_113 : decode bY_called 113 = .ok (.iload 4, 2) := by decide +kernel
theorem dY_called_115 : decode bY_called 115 = .ok (.iaload, 1) := by decide +kernel
theorem dY_called_116 : decode bY_called 116 = .ok (.ireturn, 1) := by decide +kernel
theorem dY_called_117 : decode bY_called 117 = .ok (.iinc 4 (-1), 3) := by decide +kernel
theorem dY_called_120 : decode bY_called 120 = .ok (.goto (-32), 3) := by decide +kernel
theorem dY_called_123 : decode bY_called 123 = .ok (.iload_n 1, 1) := by decide +kernel
theorem dY_called_124 : decode bY_called 124 = .ok (.ireturn, 1) := by decide +kernel
theorem dY_overrides_0 : decode bY_overrides 0 = .ok (.aload_n 0, 1) := by decide +kernel
theorem dY_overrides_1 : decode bY_overrides 1 = .ok (.iload_n 1, 1) := by decide +kernel
theorem dY_overrides_2 : decode bY_overrides 2 = .ok (.invokevirtual 109, 3) := by decide +kernel
theorem dY_overrides_5 : decode bY_overrides 5 = .ok (.ifCond .eq 57, 3) := by decide +kernel
theorem dY_overrides_8 : decode bY_overrides 8 = .ok (.aload_n 0, 1) := by decide +kernel
theorem dY_overrides_9 : decode bY_overrides 9 = .ok (.iload_n 2, 1) := by decide +kernel
theorem dY_overrides_10 : decode bY_overrides 10 = .ok (.invokevirtual 109, 3) := by decide +kernel
theorem dY_overrides_13 : decode bY_overrides 13 = .ok (.ifCond .eq 49, 3) := by decide +kernel
theorem dY_overrides_16 : decode bY_overrides 16 = .ok (.aload_n 0, 1) := by decide +kernel
theorem dY_overrides_17 : decode bY_overrides 17 = .ok (.iload_n 1, 1) := by decide +kernel
theorem dY_overrides_18 : decode bY_overrides 18 = .ok (.invokevirtual 77, 3) := by decide +kernel
theorem dY_overrides_21 : decode bY_overrides 21 = .ok (.ifCond .eq 41, 3) := by decide +kernel
theorem dY_overrides_24 : decode bY_overrides 24 = .ok (.aload_n 0, 1) := by decide +kernel
theorem dY_overrides_25 : decode bY_overrides 25 = .ok (.iload_n 2, 1) := by decide +kernel
theorem dY_overrides_26 : decode bY_overrides 26 = .ok (.invokevirtual 77, 3) := by decide +kernel
theorem dY_overrides_29 : decode bY_overrides 29 = .ok (.ifCond .eq 33, 3) := by decide +kernel
theorem dY_overrides_32 : decode bY_overrides 32 = .ok (.aload_n 0, 1) := by decide +kernel
theorem dY_overrides_33 : decode bY_overrides 33 = .ok (.getfield 19, 3) := by decide +kernel
theorem dY_overrides_36 : decode bY_overrides 36 = .ok (.iload_n 1, 1) := by decide +kernel
theorem dY_overrides_37 : decode bY_overrides 37 = .ok (.iaload, 1) := by decide +kernel
theorem dY_overrides_38 : decode bY_overrides 38 = .ok (.aload_n 0, 1) := by decide +kernel
theorem dY_overrides_39 : decode bY_overrides 39 = .ok (.getfield 19, 3) := by decide +kernel
theorem dY_overrides_42 : decode bY_overrides 42 = .ok (.iload_n 2, 1) := by decide +kernel
theorem dY_overrides_43 : decode bY_overrides 43 = .ok (.iaload, 1) := by decide +kernel
theorem dY_overrides_44 : decode bY_overrides 44 = .ok (.if_icmp .ne 18, 3) := by decide +kernel
theorem dY_overrides_47 : decode bY_overrides 47 = .ok (.aload_n 0, 1) := by decide +kernel
theorem dY_overrides_48 : decode bY_overrides 48 = .ok (.getfield 28, 3) := by decide +kernel
theorem dY_overrides_51 : decode bY_overrides 51 = .ok (.iload_n 1, 1) := by decide +kernel
theorem dY_overrides_52 : decode bY_overrides 52 = .ok (.iaload, 1) := by decide +kernel
theorem dY_overrides_53 : decode bY_overrides 53 = .ok (.aload_n 0, 1) := by decide +kernel
theorem dY_overrides_54 : decode bY_overrides 54 = .ok (.getfield 28, 3) := by decide +kernel
theorem dY_overrides_57 : decode bY_overrides 57 = .ok (.iload_n 2, 1) := by decide +kernel
theorem dY_overrides_58 : decode bY_overrides 58 = .ok (.iaload, 1) := by decide +kernel
theorem dY_overrides_59 : decode bY_overrides 59 = .ok (.if_icmp .eq 5, 3) := by decide +kernel
theorem dY_overrides_62 : decode bY_overrides 62 = .ok (.iconst 0, 1) := by decide +kernel
theorem dY_overrides_63 : decode bY_overrides 63 = .ok (.ireturn, 1) := by decide +kernel
theorem dY_overrides_64 : decode bY_overrides 64 = .ok (.iload_n 1, 1) := by decide +kernel
theorem dY_overrides_65 : decode bY_overrides 65 = .ok (.iload_n 2, 1) := by decide +kernel
theorem dY_overrides_66 : decode bY_overrides 66 = .ok (.if_icmp .eq 22, 3) := by decide +kernel
theorem dY_overrides_69 : decode bY_overrides 69 = .ok (.aload_n 0, 1) := by decide +kernel
theorem dY_overrides_70 : decode bY_overrides 70 = .ok (.aload_n 0, 1) := by decide +kernel
theorem dY_overrides_71 : decode bY_overrides 71 = .ok (.getfield 16, 3) := by decide +kernel
theorem dY_overrides_74 : decode bY_overrides 74 = .ok (.iload_n 1, 1) := by decide +kernel
theorem dY_overrides_75 : decode bY_overrides 75 = .ok (.iaload, 1) := by decide +kernel
theorem dY_overrides_76 : decode bY_overrides 76 = .ok (.aload_n 0, 1) := by decide +kernel
theorem dY_overrides_77 : decode bY_overrides 77 = .ok (.getfield 16, 3) := by decide +kernel
theorem dY_overrides_80 : decode bY_overrides 80 = .ok (.iload_n 2, 1) := by decide +kernel
theorem dY_overrides_81 : decode bY_overrides 81 = .ok (.iaload, 1) := by decide +kernel
theorem dY_overrides_82 : decode bY_overrides 82 = .ok (.invokevirtual 58, 3) := by decide +kernel
theorem dY_overrides_85 : decode bY_overrides 85 = .ok (.ifCond .ne 5, 3) := by decide +kernel
theorem dY_overrides_88 : decode bY_overrides 88 = .ok (.iconst 0, 1) := by decide +kernel
theorem dY_overrides_89 : decode bY_overrides 89 = .ok (.ireturn, 1) := by decide +kernel
theorem dY_overrides_90 : decode bY_overrides 90 = .ok (.aload_n 0, 1) := by decide +kernel
theorem dY_overrides_91 : decode bY_overrides 91 = .ok (.aload_n 0, 1) := by decide +kernel
theorem dY_overrides_92 : decode bY_overrides 92 = .ok (.getfield 16, 3) := by decide +kernel
theorem dY_overrides_95 : decode bY_overrides 95 = .ok (.iload_n 1, 1) := by decide +kernel
theorem dY_overrides_96 : decode bY_overrides 96 = .ok (.iaload, 1) := by decide +kernel
theorem dY_overrides_97 : decode bY_overrides 97 = .ok (.aload_n 0, 1) := by decide +kernel
theorem dY_overrides_98 : decode bY_overrides 98 = .ok (.getfield 19, 3) := by decide +kernel
theorem dY_overrides_101 : decode bY_overrides 101 = .ok (.iload_n 1, 1) := by decide +kernel
theorem dY_overrides_102 : decode bY_overrides 102 = .ok (.iaload, 1) := by decide +kernel
theorem dY_overrides_103 : decode bY_overrides 103 = .ok (.aload_n 0, 1) := by decide +kernel
theorem dY_overrides_104 : decode bY_overrides 104 = .ok (.getfield 28, 3) := by decide +kernel
theorem dY_overrides_107 : decode bY_overrides 107 = .ok (.iload_n 1, 1) := by decide +kernel
theorem dY_overrides_108 : decode bY_overrides 108 = .ok (.iaload, 1) := by decide +kernel
theorem dY_overrides_109 : decode bY_overrides 109 = .ok (.invokevirtual 94, 3) := by decide +kernel
theorem dY_overrides_112 : decode bY_overrides 112 = .ok (.aload_n 0, 1) := by decide +kernel
theorem dY_overrides_113 : decode bY_overrides 113 = .ok (.iconst (-1), 1) := by decide +kernel
theorem dY_overrides_114 : decode bY_overrides 114 = .ok (.iconst 0, 1) := by decide +kernel
theorem dY_overrides_115 : decode bY_overrides 115 = .ok (.invokevirtual 98, 3) := by decide +kernel
theorem dY_overrides_118 : decode bY_overrides 118 = .ok (.aload_n 0, 1) := by decide +kernel
theorem dY_overrides_119 : decode bY_overrides 119 = .ok (.getfield 41, 3) := by decide +kernel
theorem dY_overrides_122 : decode bY_overrides 122 = .ok (.bipush 41, 2) := by decide +kernel
theorem dY_overrides_124 : decode bY_overrides 124 = .ok (.aload_n 0, 1) := by decide +kernel
theorem dY_overrides_125 : decode bY_overrides 125 = .ok (.iload_n 1, 1) := by decide +kernel
theorem dY_overrides_126 : decode bY_overrides 126 = .ok (.invokevirtual 112, 3) := by decide +kernel
theorem dY_overrides_129 : decode bY_overrides 129 = .ok (.imul, 1) := by decide +kernel
theorem dY_overrides_130 : decode bY_overrides 130 = .ok (.aload_n 0, 1) := by decide +kernel
theorem dY_overrides_131 : decode bY_overrides 131 = .ok (.iload_n 2, 1) := by decide +kernel
theorem dY_overrides_132 : decode bY_overrides 132 = .ok (.invokevirtual 112, 3) := by decide +kernel
theorem dY_overrides_135 : decode bY_overrides 135 = .ok (.iadd, 1) := by decide +kernel
theorem dY_overrides_136 : decode bY_overrides 136 = .ok (.baload, 1) := by decide +kernel
theorem dY_overrides_137 : decode bY_overrides 137 = .ok (.ireturn, 1) := by decide +kernel
theorem dY_member_0 : decode bY_member 0 = .ok (.aload_n 0, 1) := by decide +kernel
theorem dY_member_1 : decode bY_member 1 = .ok (.iload_n 1, 1) := by decide +kernel
theorem dY_member_2 : decode bY_member 2 = .ok (.invokevirtual 109, 3) := by decide +kernel
theorem dY_member_5 : decode bY_member 5 = .ok (.ifCond .ne 5, 3) := by decide +kernel
theorem dY_member_8 : decode bY_member 8 = .ok (.iconst (-1), 1) := by decide +kernel
theorem dY_member_9 : decode bY_member 9 = .ok (.ireturn, 1) := by decide +kernel
theorem dY_member_10 : decode bY_member 10 = .ok (.iload_n 2, 1) := by decide +kernel
theorem dY_member_11 : decode bY_member 11 = .ok (.tableswitch 106 0 6 #[41, 48, 55, 62, 77, 92, 99], 41) := by decide +kernel
theorem dY_member_52 : decode bY_member 52 = .ok (.aload_n 0, 1) := by decide +kernel
theorem dY_member_53 : decode bY_member 53 = .ok (.getfield 16, 3) := by decide +kernel
theorem dY_member_56 : decode bY_member 56 = .ok (.iload_n 1, 1) := by decide +kernel
theorem dY_member_57 : decode bY_member 57 = .ok (.iaload, 1) := by decide +kernel
theorem dY_member_58 : decode bY_member 58 = .ok (.ireturn, 1) := by decide +kernel
theorem dY_member_59 : decode bY_member 59 = .ok (.aload_n 0, 1) := by decide +kernel
theorem dY_member_60 : decode bY_member 60 = .ok (.getfield 19, 3) := by decide +kernel
theorem dY_member_63 : decode bY_member 63 = .ok (.iload_n 1, 1) := by decide +kernel
theorem dY_member_64 : decode bY_member 64 = .ok (.iaload, 1) := by decide +kernel
theorem dY_member_65 : decode bY_member 65 = .ok (.ireturn, 1) := by decide +kernel
theorem dY_member_66 : decode bY_member 66 = .ok (.aload_n 0, 1) := by decide +kernel
theorem dY_member_67 : decode bY_member 67 = .ok (.getfield 22, 3) := by decide +kernel
theorem dY_member_70 : decode bY_member 70 = .ok (.iload_n 1, 1) := by decide +kernel
theorem dY_member_71 : decode bY_member 71 = .ok (.iaload, 1) := by decide +kernel
theorem dY_member_72 : decode bY_member 72 = .ok (.ireturn, 1) := by decide +kernel
theorem dY_member_73 : decode bY_member 73 = .ok (.aload_n 0, 1) := by decide +kernel
theorem dY_member_74 : decode bY_member 74 = .ok (.getfield 31, 3) := by decide +kernel
theorem dY_member_77 : decode bY_member 77 = .ok (.iload_n 1, 1) := by decide +kernel
theorem dY_member_78 : decode bY_member 78 = .ok (.baload, 1) := by decide +kernel
theorem dY_member_79 : decode bY_member 79 = .ok (.ifCond .eq 7, 3) := by decide +kernel
theorem dY_member_82 : decode bY_member 82 = .ok (.iconst 1, 1) := by decide +kernel
theorem dY_member_83 : decode bY_member 83 = .ok (.goto 4, 3) := by decide +kernel
theorem dY_member_86 : decode bY_member 86 = .ok (.iconst 0, 1) := by decide +kernel
theorem dY_member_87 : decode bY_member 87 = .ok (.ireturn, 1) := by decide +kernel
theorem dY_member_88 : decode bY_member 88 = .ok (.aload_n 0, 1) := by decide +kernel
theorem dY_member_89 : decode bY_member 89 = .ok (.getfield 35, 3) := by decide +kernel
theorem dY_member_92 : decode bY_member 92 = .ok (.iload_n 1, 1) := by decide +kernel
theorem dY_member_93 : decode bY_member 93 = .ok (.baload, 1) := by decide +kernel
theorem dY_member_94 : decode bY_member 94 = .ok (.ifCond .eq 7, 3) := by decide +kernel
theorem dY_member_97 : decode bY_member 97 = .ok (.iconst 1, 1) := by decide +kernel
theorem dY_member_98 : decode bY_member 98 = .ok (.goto 4, 3) := by decide +kernel
theorem dY_member_101 : decode bY_member 101 = .ok (.iconst 0, 1) := by decide +kernel
theorem dY_member_102 : decode bY_member 102 = .ok (.ireturn, 1) := by decide +kernel
theorem dY_member_103 : decode bY_member 103 = .ok (.aload_n 0, 1) := by decide +kernel
theorem dY_member_104 : decode bY_member 104 = .ok (.getfield 25, 3) := by decide +kernel
theorem dY_member_107 : decode bY_member 107 = .ok (.iload_n 1, 1) := by decide +kernel
theorem dY_member_108 : decode bY_member 108 = .ok (.iaload, 1) := by decide +kernel
theorem dY_member_109 : decode bY_member 109 = .ok (.ireturn, 1) := by decide +kernel
theorem dY_member_110 : decode bY_member 110 = .ok (.aload_n 0, 1) := by decide +kernel
theorem dY_member_111 : decode bY_member 111 = .ok (.getfield 28, 3) := by decide +kernel
theorem dY_member_114 : decode bY_member 114 = .ok (.iload_n 1, 1) := by decide +kernel
theorem dY_member_115 : decode bY_member 115 = .ok (.iaload, 1) := by decide +kernel
theorem dY_member_116 : decode bY_member 116 = .ok (.ireturn, 1) := by decide +kernel
theorem dY_member_117 : decode bY_member 117 = .ok (.iconst (-1), 1) := by decide +kernel
theorem dY_member_118 : decode bY_member 118 = .ok (.ireturn, 1) := by decide +kernel
theorem dY_isHidden_0 : decode bY_isHidden 0 = .ok (.aload_n 0, 1) := by decide +kernel
theorem dY_isHidden_1 : decode bY_isHidden 1 = .ok (.getfield 25, 3) := by decide +kernel
theorem dY_isHidden_4 : decode bY_isHidden 4 = .ok (.iload_n 1, 1) := by decide +kernel
theorem dY_isHidden_5 : decode bY_isHidden 5 = .ok (.iaload, 1) := by decide +kernel
theorem dY_isHidden_6 : decode bY_isHidden 6 = .ok (.ifCond .ne 84, 3) := by decide +kernel
theorem dY_isHidden_9 : decode bY_isHidden 9 = .ok (.iload_n 2, 1) := by decide +kernel
theorem dY_isHidden_10 : decode bY_isHidden 10 = .ok (.istore_n 3, 1) := by decide +kernel
theorem dY_isHidden_11 : decode bY_isHidden 11 = .ok (.iload_n 3, 1) := by decide +kernel
theorem dY_isHidden_12 : decode bY_isHidden 12 = .ok (.aload_n 0, 1) := by decide +kernel
theorem dY_isHidden_13 : decode bY_isHidden 13 = .ok (.getfield 16, 3) := by decide +kernel
theorem dY_isHidden_16 : decode bY_isHidden 16 = .ok (.iload_n 1, 1) := by decide +kernel
theorem dY_isHidden_17 : decode bY_isHidden 17 = .ok (.iaload, 1) := by decide +kernel
theorem dY_isHidden_18 : decode bY_isHidden 18 = .ok (.if_icmp .eq 70, 3) := by decide +kernel
theorem dY_isHidden_21 : decode bY_isHidden 21 = .ok (.iconst 0, 1) := by decide +kernel
theorem dY_isHidden_22 : decode bY_isHidden 22 = .ok (.istore 4, 2) := by decide +kernel
theorem dY_isHidden_24 : decode bY_isHidden 24 = .ok (.iload 4, 2) := by decide +kernel
theorem dY_isHidden_26 : decode bY_isHidden 26 = .ok (.aload_n 0, 1) := by decide +kernel
theorem dY_isHidden_27 : decode bY_isHidden 27 = .ok (.getfield 48, 3) := by decide +kernel
theorem dY_isHidden_30 : decode bY_isHidden 30 = .ok (.if_icmp .ge 48, 3) := by decide +kernel
theorem dY_isHidden_33 : decode bY_isHidden 33 = .ok (.aload_n 0, 1) := by decide +kernel
theorem dY_isHidden_34 : decode bY_isHidden 34 = .ok (.getfield 16, 3) := by decide +kernel
theorem dY_isHidden_37 : decode bY_isHidden 37 = .ok (.iload 4, 2) := by decide +kernel
theorem dY_isHidden_39 : decode bY_isHidden 39 = .ok (.iaload, 1) := by decide +kernel
theorem dY_isHidden_40 : decode bY_isHidden 40 = .ok (.iload_n 3, 1) := by decide +kernel
theorem dY_isHidden_41 : decode bY_isHidden 41 = .ok (.if_icmp .ne 31, 3) := by decide +kernel
theorem dY_isHidden_44 : decode bY_isHidden 44 = .ok (.aload_n 0, 1) := by decide +kernel
theorem dY_isHidden_45 : decode bY_isHidden 45 = .ok (.getfield 25, 3) := by decide +kernel
theorem dY_isHidden_48 : decode bY_isHidden 48 = .ok (.iload 4, 2) := by decide +kernel
theorem dY_isHidden_50 : decode bY_isHidden 50 = .ok (.iaload, 1) := by decide +kernel
theorem dY_isHidden_51 : decode bY_isHidden 51 = .ok (.ifCond .ne 21, 3) := by decide +kernel
theorem dY_isHidden_54 : decode bY_isHidden 54 = .ok (.aload_n 0, 1) := by decide +kernel
theorem dY_isHidden_55 : decode bY_isHidden 55 = .ok (.getfield 19, 3) := by decide +kernel
theorem dY_isHidden_58 : decode bY_isHidden 58 = .ok (.iload 4, 2) := by decide +kernel
theorem dY_isHidden_60 : decode bY_isHidden 60 = .ok (.iaload, 1) := by decide +kernel
theorem dY_isHidden_61 : decode bY_isHidden 61 = .ok (.aload_n 0, 1) := by decide +kernel
theorem dY_isHidden_62 : decode bY_isHidden 62 = .ok (.getfield 19, 3) := by decide +kernel
theorem dY_isHidden_65 : decode bY_isHidden 65 = .ok (.iload_n 1, 1) := by decide +kernel
theorem dY_isHidden_66 : decode bY_isHidden 66 = .ok (.iaload, 1) := by decide +kernel
theorem dY_isHidden_67 : decode bY_isHidden 67 = .ok (.if_icmp .ne 5, 3) := by decide +kernel
theorem dY_isHidden_70 : decode bY_isHidden 70 = .ok (.iconst 1, 1) := by decide +kernel
theorem dY_isHidden_71 : decode bY_isHidden 71 = .ok (.ireturn, 1) := by decide +kernel
theorem dY_isHidden_72 : decode bY_isHidden 72 = .ok (.iinc 4 1, 3) := by decide +kernel
theorem dY_isHidden_75 : decode bY_isHidden 75 = .ok (.goto (-51), 3) := by decide +kernel
theorem dY_isHidden_78 : decode bY_isHidden 78 = .ok (.aload_n 0, 1) := by decide +kernel
theorem dY_isHidden_79 : decode bY_isHidden 79 = .ok (.getfield 7, 3) := by decide +kernel
theorem dY_isHidden_82 : decode bY_isHidden 82 = .ok (.iload_n 3, 1) := by decide +kernel
theorem dY_isHidden_83 : decode bY_isHidden 83 = .ok (.iaload, 1) := by decide +kernel
theorem dY_isHidden_84 : decode bY_isHidden 84 = .ok (.istore_n 3, 1) := by decide +kernel
theorem dY_isHidden_85 : decode bY_isHidden 85 = .ok (.goto (-74), 3) := by decide +kernel
theorem dY_isHidden_88 : decode bY_isHidden 88 = .ok (.iconst 0, 1) := by decide +kernel
theorem dY_isHidden_89 : decode bY_isHidden 89 = .ok (.ireturn, 1) := by decide +kernel
theorem dY_isHidden_90 : decode bY_isHidden 90 = .ok (.aload_n 0, 1) := by decide +kernel
theorem dY_isHidden_91 : decode bY_isHidden 91 = .ok (.iload_n 1, 1) := by decide +kernel
theorem dY_isHidden_92 : decode bY_isHidden 92 = .ok (.invokevirtual 77, 3) := by decide +kernel
theorem dY_isHidden_95 : decode bY_isHidden 95 = .ok (.ifCond .ne 5, 3) := by decide +kernel
theorem dY_isHidden_98 : decode bY_isHidden 98 = .ok (.iconst 0, 1) := by decide +kernel
theorem dY_isHidden_99 : decode bY_isHidden 99 = .ok (.ireturn, 1) := by decide +kernel
theorem dY_isHidden_100 : decode bY_isHidden 100 = .ok (.aload_n 0, 1) := by decide +kernel
theorem dY_isHidden_101 : decode bY_isHidden 101 = .ok (.iload_n 2, 1) := by decide +kernel
theorem dY_isHidden_102 : decode bY_isHidden 102 = .ok (.aload_n 0, 1) := by decide +kernel
theorem dY_isHidden_103 : decode bY_isHidden 103 = .ok (.getfield 19, 3) := by decide +kernel
theorem dY_isHidden_106 : decode bY_isHidden 106 = .ok (.iload_n 1, 1) := by decide +kernel
theorem dY_isHidden_107 : decode bY_isHidden 107 = .ok (.iaload, 1) := by decide +kernel
theorem dY_isHidden_108 : decode bY_isHidden 108 = .ok (.aload_n 0, 1) := by decide +kernel
theorem dY_isHidden_109 : decode bY_isHidden 109 = .ok (.getfield 28, 3) := by decide +kernel
theorem dY_isHidden_112 : decode bY_isHidden 112 = .ok (.iload_n 1, 1) := by decide +kernel
theorem dY_isHidden_113 : decode bY_isHidden 113 = .ok (.iaload, 1) := by decide +kernel
theorem dY_isHidden_114 : decode bY_isHidden 114 = .ok (.invokevirtual 94, 3) := by decide +kernel
theorem dY_isHidden_117 : decode bY_isHidden 117 = .ok (.aload_n 0, 1) := by decide +kernel
theorem dY_isHidden_118 : decode bY_isHidden 118 = .ok (.iconst (-1), 1) := by decide +kernel
theorem dY_isHidden_119 : decode bY_isHidden 119 = .ok (.iconst 0, 1) := by decide +kernel
theorem dY_isHidden_120 : decode bY_isHidden 120 = .ok (.invokevirtual 98, 3) := by decide +kernel
theorem dY_isHidden_123 : decode bY_isHidden 123 = .ok (.aload_n 0, 1) := by decide +kernel
theorem dY_isHidden_124 : decode bY_isHidden 124 = .ok (.iload_n 1, 1) := by decide +kernel
theorem dY_isHidden_125 : decode bY_isHidden 125 = .ok (.invokevirtual 112, 3) := by decide +kernel
theorem dY_isHidden_128 : decode bY_isHidden 128 = .ok (.istore_n 3, 1) := by decide +kernel
theorem dY_isHidden_129 : decode bY_isHidden 129 = .ok (.iload_n 3, 1) := by decide +kernel
theorem dY_isHidden_130 : decode bY_isHidden 130 = .ok (.iconst 1, 1) := by decide +kernel
theorem dY_isHidden_131 : decode bY_isHidden 131 = .ok (.iadd, 1) := by decide +kernel
theorem dY_isHidden_132 : decode bY_isHidden 132 = .ok (.istore 4, 2) := by decide +kernel
theorem dY_isHidden_134 : decode bY_isHidden 134 = .ok (.iload 4, 2) := by decide +kernel
theorem dY_isHidden_136 : decode bY_isHidden 136 = .ok (.aload_n 0, 1) := by decide +kernel
theorem dY_isHidden_137 : decode bY_isHidden 137 = .ok (.getfield 91, 3) := by decide +kernel
theorem dY_isHidden_140 : decode bY_isHidden 140 = .ok (.if_icmp .ge 26, 3) := by decide +kernel
theorem dY_isHidden_143 : decode bY_isHidden 143 = .ok (.aload_n 0, 1) := by decide +kernel
theorem dY_isHidden_144 : decode bY_isHidden 144 = .ok (.getfield 41, 3) := by decide +kernel
theorem dY_isHidden_147 : decode bY_isHidden 147 = .ok (.bipush 41, 2) := by decide +kernel
theorem dY_isHidden_149 : decode bY_isHidden 149 = .ok (.iload 4, 2) := by decide +kernel
theorem dY_isHidden_151 : decode bY_isHidden 151 = .ok (.imul, 1) := by decide +kernel
theorem dY_isHidden_152 : decode bY_isHidden 152 = .ok (.iload_n 3, 1) := by decide +kernel
theorem dY_isHidden_153 : decode bY_isHidden 153 = .ok (.iadd, 1) := by decide +kernel
theorem dY_isHidden_154 : decode bY_isHidden 154 = .ok (.baload, 1) := by decide +kernel
theorem dY_isHidden_155 : decode bY_isHidden 155 = .ok (.ifCond .eq 5, 3) := by decide +kernel
theorem dY_isHidden_158 : decode bY_isHidden 158 = .ok (.iconst 1, 1) := by decide +kernel
theorem dY_isHidden_159 : decode bY_isHidden 159 = .ok (.ireturn, 1) := by decide +kernel
theorem dY_isHidden_160 : decode bY_isHidden 160 = .ok (.iinc 4 1, 3) := by decide +kernel
theorem dY_isHidden_163 : decode bY_isHidden 163 = .ok (.goto (-29), 3) := by decide +kernel
theorem dY_isHidden_166 : decode bY_isHidden 166 = .ok (.iconst 0, 1) := by decide +kernel
theorem dY_isHidden_167 : decode bY_isHidden 167 = .ok (.ireturn, 1) := by decide +kernel
theorem dY_seen_0 : decode bY_seen 0 = .ok (.aload_n 0, 1) := by decide +kernel
theorem dY_seen_1 : decode bY_seen 1 = .ok (.iload_n 1, 1) := by decide +kernel
theorem dY_seen_2 : decode bY_seen 2 = .ok (.invokevirtual 54, 3) := by decide +kernel
theorem dY_seen_5 : decode bY_seen 5 = .ok (.ifCond .eq 11, 3) := by decide +kernel
theorem dY_seen_8 : decode bY_seen 8 = .ok (.aload_n 0, 1) := by decide +kernel
theorem dY_seen_9 : decode bY_seen 9 = .ok (.iload_n 2, 1) := by decide +kernel
theorem dY_seen_10 : decode bY_seen 10 = .ok (.invokevirtual 54, 3) := by decide +kernel
theorem dY_seen_13 : decode bY_seen 13 = .ok (.ifCond .ne 5, 3) := by decide +kernel
theorem dY_seen_16 : decode bY_seen 16 = .ok (.iconst (-1), 1) := by decide +kernel
theorem dY_seen_17 : decode bY_seen 17 = .ok (.ireturn, 1) := by decide +kernel
theorem dY_seen_18 : decode bY_seen 18 = .ok (.iconst 0, 1) := by decide +kernel
theorem dY_seen_19 : decode bY_seen 19 = .ok (.istore_n 3, 1) := by decide +kernel
theorem dY_seen_20 : decode bY_seen 20 = .ok (.iconst 0, 1) := by decide +kernel
theorem dY_seen_21 : decode bY_seen 21 = .ok (.istore 4, 2) := by decide +kernel
theorem dY_seen_23 : decode bY_seen 23 = .ok (.iload 4, 2) := by decide +kernel
theorem dY_seen_25 : decode bY_seen 25 = .ok (.aload_n 0, 1) := by decide +kernel
theorem dY_seen_26 : decode bY_seen 26 = .ok (.getfield 48, 3) := by decide +kernel
theorem dY_seen_29 : decode bY_seen 29 = .ok (.if_icmp .ge 47, 3) := by decide +kernel
theorem dY_seen_32 : decode bY_seen 32 = .ok (.aload_n 0, 1) := by decide +kernel
theorem dY_seen_33 : decode bY_seen 33 = .ok (.iload_n 2, 1) := by decide +kernel
theorem dY_seen_34 : decode bY_seen 34 = .ok (.aload_n 0, 1) := by decide +kernel
theorem dY_seen_35 : decode bY_seen 35 = .ok (.getfield 16, 3) := by decide +kernel
theorem dY_seen_38 : decode bY_seen 38 = .ok (.iload 4, 2) := by decide +kernel
theorem dY_seen_40 : decode bY_seen 40 = .ok (.iaload, 1) := by decide +kernel
theorem dY_seen_41 : decode bY_seen 41 = .ok (.invokevirtual 58, 3) := by decide +kernel
theorem dY_seen_44 : decode bY_seen 44 = .ok (.ifCond .eq 26, 3) := by decide +kernel
theorem dY_seen_47 : decode bY_seen 47 = .ok (.aload_n 0, 1) := by decide +kernel
theorem dY_seen_48 : decode bY_seen 48 = .ok (.iload_n 1, 1) := by decide +kernel
theorem dY_seen_49 : decode bY_seen 49 = .ok (.iload 4, 2) := by decide +kernel
theorem dY_seen_51 : decode bY_seen 51 = .ok (.invokevirtual 84, 3) := by decide +kernel
theorem dY_seen_54 : decode bY_seen 54 = .ok (.ifCond .eq 16, 3) := by decide +kernel
theorem dY_seen_57 : decode bY_seen 57 = .ok (.aload_n 0, 1) := by decide +kernel
theorem dY_seen_58 : decode bY_seen 58 = .ok (.iload 4, 2) := by decide +kernel
theorem dY_seen_60 : decode bY_seen 60 = .ok (.iload_n 2, 1) := by decide +kernel
theorem dY_seen_61 : decode bY_seen 61 = .ok (.invokevirtual 115, 3) := by decide +kernel
theorem dY_seen_64 : decode bY_seen 64 = .ok (.ifCond .ne 6, 3) := by decide +kernel
theorem dY_seen_67 : decode bY_seen 67 = .ok (.iinc 3 1, 3) := by decide +kernel
theorem dY_seen_70 : decode bY_seen 70 = .ok (.iinc 4 1, 3) := by decide +kernel
theorem dY_seen_73 : decode bY_seen 73 = .ok (.goto (-50), 3) := by decide +kernel
theorem dY_seen_76 : decode bY_seen 76 = .ok (.iload_n 3, 1) := by decide +kernel
theorem dY_seen_77 : decode bY_seen 77 = .ok (.ireturn, 1) := by decide +kernel
theorem dC_init_0 : decode bC_init 0 = .ok (.aload_n 0, 1) := by decide +kernel
theorem dC_init_1 : decode bC_init 1 = .ok (.invokespecial 3, 3) := by decide +kernel
theorem dC_init_4 : decode bC_init 4 = .ok (.aload_n 0, 1) := by decide +kernel
theorem dC_init_5 : decode bC_init 5 = .ok (.iload_n 1, 1) := by decide +kernel
theorem dC_init_6 : decode bC_init 6 = .ok (.putfield 9, 3) := by decide +kernel
theorem dC_init_9 : decode bC_init 9 = .ok (.aload_n 0, 1) := by decide +kernel
theorem dC_init_10 : decode bC_init 10 = .ok (.aload_n 2, 1) := by decide +kernel
theorem dC_init_11 : decode bC_init 11 = .ok (.putfield 15, 3) := by decide +kernel
theorem dC_init_14 : decode bC_init 14 = .ok (.aload_n 0, 1) := by decide +kernel
theorem dC_init_15 : decode bC_init 15 = .ok (.iload_n 3, 1) := by decide +kernel
theorem dC_init_16 : decode bC_init 16 = .ok (.putfield 19, 3) := by decide +kernel
theorem dC_init_19 : decode bC_init 19 = .ok (.aload_n 0, 1) := by decide +kernel
theorem dC_init_20 : decode bC_init 20 = .ok (.aconst_null, 1) := by decide +kernel
theorem dC_init_21 : decode bC_init 21 = .ok (.putfield 22, 3) := by decide +kernel
theorem dC_init_24 : decode bC_init 24 = .ok (.return_, 1) := by decide +kernel
theorem dC_isBelow_0 : decode bC_isBelow 0 = .ok (.aload_n 0, 1) := by decide +kernel
theorem dC_isBelow_1 : decode bC_isBelow 1 = .ok (.astore_n 2, 1) := by decide +kernel
theorem dC_isBelow_2 : decode bC_isBelow 2 = .ok (.aload_n 2, 1) := by decide +kernel
theorem dC_isBelow_3 : decode bC_isBelow 3 = .ok (.ifnull 18, 3) := by decide +kernel
theorem dC_isBelow_6 : decode bC_isBelow 6 = .ok (.aload_n 2, 1) := by decide +kernel
theorem dC_isBelow_7 : decode bC_isBelow 7 = .ok (.aload_n 1, 1) := by decide +kernel
theorem dC_isBelow_8 : decode bC_isBelow 8 = .ok (.if_acmp .ne 5, 3) := by decide +kernel
theorem dC_isBelow_11 : decode bC_isBelow 11 = .ok (.iconst 1, 1) := by decide +kernel
theorem dC_isBelow_12 : decode bC_isBelow 12 = .ok (.ireturn, 1) := by decide +kernel
theorem dC_isBelow_13 : decode bC_isBelow 13 = .ok (.aload_n 2, 1) := by decide +kernel
theorem dC_isBelow_14 : decode bC_isBelow 14 = .ok (.getfield 15, 3) := by decide +kernel
theorem dC_isBelow_17 : decode bC_isBelow 17 = .ok (.astore_n 2, 1) := by decide +kernel
theorem dC_isBelow_18 : decode bC_isBelow 18 = .ok (.goto (-16), 3) := by decide +kernel
theorem dC_isBelow_21 : decode bC_isBelow 21 = .ok (.iconst 0, 1) := by decide +kernel
theorem dC_isBelow_22 : decode bC_isBelow 22 = .ok (.ireturn, 1) := by decide +kernel
theorem dC_own_0 : decode bC_own 0 = .ok (.aload_n 0, 1) := by decide +kernel
theorem dC_own_1 : decode bC_own 1 = .ok (.getfield 22, 3) := by decide +kernel
theorem dC_own_4 : decode bC_own 4 = .ok (.astore 4, 2) := by decide +kernel
theorem dC_own_6 : decode bC_own 6 = .ok (.aload 4, 2) := by decide +kernel
theorem dC_own_8 : decode bC_own 8 = .ok (.ifnull 43, 3) := by decide +kernel
theorem dC_own_11 : decode bC_own 11 = .ok (.aload 4, 2) := by decide +kernel
theorem dC_own_13 : decode bC_own 13 = .ok (.getfield 26, 3) := by decide +kernel
theorem dC_own_16 : decode bC_own 16 = .ok (.iload_n 1, 1) := by decide +kernel
theorem dC_own_17 : decode bC_own 17 = .ok (.if_icmp .ne 24, 3) := by decide +kernel
theorem dC_own_20 : decode bC_own 20 = .ok (.aload 4, 2) := by decide +kernel
theorem dC_own_22 : decode bC_own 22 = .ok (.getfield 31, 3) := by decide +kernel
theorem dC_own_25 : decode bC_own 25 = .ok (.iload_n 2, 1) := by decide +kernel
theorem dC_own_26 : decode bC_own 26 = .ok (.if_icmp .ne 15, 3) := by decide +kernel
theorem dC_own_29 : decode bC_own 29 = .ok (.aload 4, 2) := by decide +kernel
theorem dC_own_31 : decode bC_own 31 = .ok (.getfield 34, 3) := by decide +kernel
theorem dC_own_34 : decode bC_own 34 = .ok (.iload_n 3, 1) := by decide +kernel
theorem dC_own_35 : decode bC_own 35 = .ok (.if_icmp .ne 6, 3) := by decide +kernel
theorem dC_own_38 : decode bC_own 38 = .ok (.aload 4, 2) := by decide +kernel
theorem dC_own_40 : decode bC_own 40 = .ok (.areturn, 1) := by decide +kernel
theorem dC_own_41 : decode bC_own 41 = .ok (.aload 4, 2) := by decide +kernel
theorem dC_own_43 : decode bC_own 43 = .ok (.getfield 37, 3) := by decide +kernel
theorem dC_own_46 : decode bC_own 46 = .ok (.astore 4, 2) := by decide +kernel
theorem dC_own_48 : decode bC_own 48 = .ok (.goto (-42), 3) := by decide +kernel
theorem dC_own_51 : decode bC_own 51 = .ok (.aconst_null, 1) := by decide +kernel
theorem dC_own_52 : decode bC_own 52 = .ok (.areturn, 1) := by decide +kernel
theorem dC_ownObjectMethod_0 : decode bC_ownObjectMethod 0 = .ok (.aload_n 0, 1) := by decide +kernel
theorem dC_ownObjectMethod_1 : decode bC_ownObjectMethod 1 = .ok (.iconst 1, 1) := by decide +kernel
theorem dC_ownObjectMethod_2 : decode bC_ownObjectMethod 2 = .ok (.iload_n 1, 1) := by decide +kernel
theorem dC_ownObjectMethod_3 : decode bC_ownObjectMethod 3 = .ok (.iload_n 2, 1) := by decide +kernel
theorem dC_ownObjectMethod_4 : decode bC_ownObjectMethod 4 = .ok (.invokevirtual 40, 3) := by decide +kernel
theorem dC_ownObjectMethod_7 : decode bC_ownObjectMethod 7 = .ok (.astore_n 3, 1) := by decide +kernel
theorem dC_ownObjectMethod_8 : decode bC_ownObjectMethod 8 = .ok (.aload_n 3, 1) := by decide +kernel
theorem dC_ownObjectMethod_9 : decode bC_ownObjectMethod 9 = .ok (.ifnull 14, 3) := by decide +kernel
theorem dC_ownObjectMethod_12 : decode bC_ownObjectMethod 12 = .ok (.aload_n 3, 1) := by decide +kernel
theorem dC_ownObjectMethod_13 : decode bC_ownObjectMethod 13 = .ok (.getfield 44, 3) := by decide +kernel
theorem dC_ownObjectMethod_16 : decode bC_ownObjectMethod 16 = .ok (.ifCond .ne 7, 3) := by decide +kernel
theorem dC_ownObjectMethod_19 : decode bC_ownObjectMethod 19 = .ok (.aload_n 3, 1) := by decide +kernel
theorem dC_ownObjectMethod_20 : decode bC_ownObjectMethod 20 = .ok (.goto 4, 3) := by decide +kernel
theorem dC_ownObjectMethod_23 : decode bC_ownObjectMethod 23 = .ok (.aconst_null, 1) := by decide +kernel
theorem dC_ownObjectMethod_24 : decode bC_ownObjectMethod 24 = .ok (.areturn, 1) := by decide +kernel
theorem dN_init_0 : decode bN_init 0 = .ok (.aload_n 0, 1) := by decide +kernel
theorem dN_init_1 : decode bN_init 1 = .ok (.invokespecial 3, 3) := by decide +kernel
theorem dN_init_4 : decode bN_init 4 = .ok (.aload_n 0, 1) := by decide +kernel
theorem dN_init_5 : decode bN_init 5 = .ok (.aload_n 1, 1) := by decide +kernel
theorem dN_init_6 : decode bN_init 6 = .ok (.putfield 9, 3) := by decide +kernel
theorem dN_init_9 : decode bN_init 9 = .ok (.aload_n 0, 1) := by decide +kernel
theorem dN_init_10 : decode bN_init 10 = .ok (.iload_n 2, 1) := by decide +kernel
theorem dN_init_11 : decode bN_init 11 = .ok (.putfield 15, 3) := by decide +kernel
theorem dN_init_14 : decode bN_init 14 = .ok (.aload_n 0, 1) := by decide +kernel
theorem dN_init_15 : decode bN_init 15 = .ok (.iload_n 3, 1) := by decide +kernel
theorem dN_init_16 : decode bN_init 16 = .ok (.putfield 19, 3) := by decide +kernel
theorem dN_init_19 : decode bN_init 19 = .ok (.aload_n 0, 1) := by decide +kernel
theorem dN_init_20 : decode bN_init 20 = .ok (.iload 4, 2) := by decide +kernel
theorem dN_init_22 : decode bN_init 22 = .ok (.putfield 22, 3) := by decide +kernel
theorem dN_init_25 : decode bN_init 25 = .ok (.aload_n 0, 1) := by decide +kernel
theorem dN_init_26 : decode bN_init 26 = .ok (.iload 5, 2) := by decide +kernel
theorem dN_init_28 : decode bN_init 28 = .ok (.putfield 25, 3) := by decide +kernel
theorem dN_init_31 : decode bN_init 31 = .ok (.aload_n 0, 1) := by decide +kernel
theorem dN_init_32 : decode bN_init 32 = .ok (.iload 6, 2) := by decide +kernel
theorem dN_init_34 : decode bN_init 34 = .ok (.putfield 29, 3) := by decide +kernel
theorem dN_init_37 : decode bN_init 37 = .ok (.aload_n 0, 1) := by decide +kernel
theorem dN_init_38 : decode bN_init 38 = .ok (.iload 7, 2) := by decide +kernel
theorem dN_init_40 : decode bN_init 40 = .ok (.putfield 32, 3) := by decide +kernel
theorem dN_init_43 : decode bN_init 43 = .ok (.aload_n 0, 1) := by decide +kernel
theorem dN_init_44 : decode bN_init 44 = .ok (.iconst (-1), 1) := by decide +kernel
theorem dN_init_45 : decode bN_init 45 = .ok (.putfield 35, 3) := by decide +kernel
theorem dN_init_48 : decode bN_init 48 = .ok (.aload_n 0, 1) := by decide +kernel
theorem dN_init_49 : decode bN_init 49 = .ok (.aconst_null, 1) := by decide +kernel
theorem dN_init_50 : decode bN_init 50 = .ok (.putfield 38, 3) := by decide +kernel
theorem dN_init_53 : decode bN_init 53 = .ok (.return_, 1) := by decide +kernel
theorem dN_isObjectMethod_0 : decode bN_isObjectMethod 0 = .ok (.aload_n 0, 1) := by decide +kernel
theorem dN_isObjectMethod_1 : decode bN_isObjectMethod 1 = .ok (.getfield 15, 3) := by decide +kernel
theorem dN_isObjectMethod_4 : decode bN_isObjectMethod 4 = .ok (.iconst 1, 1) := by decide +kernel
theorem dN_isObjectMethod_5 : decode bN_isObjectMethod 5 = .ok (.if_icmp .ne 14, 3) := by decide +kernel
theorem dN_isObjectMethod_8 : decode bN_isObjectMethod 8 = .ok (.aload_n 0, 1) := by decide +kernel
theorem dN_isObjectMethod_9 : decode bN_isObjectMethod 9 = .ok (.getfield 25, 3) := by decide +kernel
theorem dN_isObjectMethod_12 : decode bN_isObjectMethod 12 = .ok (.ifCond .ne 7, 3) := by decide +kernel
theorem dN_isObjectMethod_15 : decode bN_isObjectMethod 15 = .ok (.iconst 1, 1) := by decide +kernel
theorem dN_isObjectMethod_16 : decode bN_isObjectMethod 16 = .ok (.goto 4, 3) := by decide +kernel
theorem dN_isObjectMethod_19 : decode bN_isObjectMethod 19 = .ok (.iconst 0, 1) := by decide +kernel
theorem dN_isObjectMethod_20 : decode bN_isObjectMethod 20 = .ok (.ireturn, 1) := by decide +kernel
theorem dN_isReachedBy_0 : decode bN_isReachedBy 0 = .ok (.aload_n 0, 1) := by decide +kernel
theorem dN_isReachedBy_1 : decode bN_isReachedBy 1 = .ok (.getfield 32, 3) := by decide +kernel
theorem dN_isReachedBy_4 : decode bN_isReachedBy 4 = .ok (.tableswitch 93 0 2 #[28, 42, 62], 28) := by decide +kernel
theorem dN_isReachedBy_32 : decode bN_isReachedBy 32 = .ok (.aload_n 1, 1) := by decide +kernel
theorem dN_isReachedBy_33 : decode bN_isReachedBy 33 = .ok (.aload_n 0, 1) := by decide +kernel
theorem dN_isReachedBy_34 : decode bN_isReachedBy 34 = .ok (.getfield 9, 3) := by decide +kernel
theorem dN_isReachedBy_37 : decode bN_isReachedBy 37 = .ok (.if_acmp .ne 7, 3) := by decide +kernel
theorem dN_isReachedBy_40 : decode bN_isReachedBy 40 = .ok (.iconst 1, 1) := by decide +kernel
theorem dN_isReachedBy_41 : decode bN_isReachedBy 41 = .ok (.goto 4, 3) := by decide +kernel
theorem dN_isReachedBy_44 : decode bN_isReachedBy 44 = .ok (.iconst 0, 1) := by decide +kernel
theorem dN_isReachedBy_45 : decode bN_isReachedBy 45 = .ok (.ireturn, 1) := by decide +kernel
theorem dN_isReachedBy_46 : decode bN_isReachedBy 46 = .ok (.aload_n 1, 1) := by decide +kernel
theorem dN_isReachedBy_47 : decode bN_isReachedBy 47 = .ok (.getfield 42, 3) := by decide +kernel
theorem dN_isReachedBy_50 : decode bN_isReachedBy 50 = .ok (.aload_n 0, 1) := by decide +kernel
theorem dN_isReachedBy_51 : decode bN_isReachedBy 51 = .ok (.getfield 9, 3) := by decide +kernel
theorem dN_isReachedBy_54 : decode bN_isReachedBy 54 = .ok (.getfield 42, 3) := by decide +kernel
theorem dN_isReachedBy_57 : decode bN_isReachedBy 57 = .ok (.if_icmp .ne 7, 3) := by decide +kernel
theorem dN_isReachedBy_60 : decode bN_isReachedBy 60 = .ok (.iconst 1, 1) := by decide +kernel
theorem dN_isReachedBy_61 : decode bN_isReachedBy 61 = .ok (.goto 4, 3) := by decide +kernel
theorem dN_isReachedBy_64 : decode bN_isReachedBy 64 = .ok (.iconst 0, 1) := by decide +kernel
theorem dN_isReachedBy_65 : decode bN_isReachedBy 65 = .ok (.ireturn, 1) := by decide +kernel
theorem dN_isReachedBy_66 : decode bN_isReachedBy 66 = .ok (.aload_n 1, 1) := by decide +kernel
theorem dN_isReachedBy_67 : decode bN_isReachedBy 67 = .ok (.getfield 42, 3) := by decide +kernel
theorem dN_isReachedBy_70 : decode bN_isReachedBy 70 = .ok (.aload_n 0, 1) := by decide +kernel
theorem dN_isReachedBy_71 : decode bN_isReachedBy 71 = .ok (.getfield 9, 3) := by decide +kernel
theorem dN_isReachedBy_74 : decode bN_isReachedBy 74 = .ok (.getfield 42, 3) := by decide +kernel
theorem dN_isReachedBy_77 : decode bN_isReachedBy 77 = .ok (.if_icmp .eq 14, 3) := by decide +kernel
theorem dN_isReachedBy_80 : decode bN_isReachedBy 80 = .ok (.aload_n 1, 1) := by decide +kernel
theorem dN_isReachedBy_81 : decode bN_isReachedBy 81 = .ok (.aload_n 0, 1) := by decide +kernel
theorem dN_isReachedBy_82 : decode bN_isReachedBy 82 = .ok (.getfield 9, 3) := by decide +kernel
theorem dN_isReachedBy_85 : decode bN_isReachedBy 85 = .ok (.invokevirtual 47, 3) := by decide +kernel
theorem dN_isReachedBy_88 : decode bN_isReachedBy 88 = .ok (.ifCond .eq 7, 3) := by decide +kernel
theorem dN_isReachedBy_91 : decode bN_isReachedBy 91 = .ok (.iconst 1, 1) := by decide +kernel
theorem dN_isReachedBy_92 : decode bN_isReachedBy 92 = .ok (.goto 4, 3) := by decide +kernel
theorem dN_isReachedBy_95 : decode bN_isReachedBy 95 = .ok (.iconst 0, 1) := by decide +kernel
theorem dN_isReachedBy_96 : decode bN_isReachedBy 96 = .ok (.ireturn, 1) := by decide +kernel
theorem dN_isReachedBy_97 : decode bN_isReachedBy 97 = .ok (.iconst 1, 1) := by decide +kernel
theorem dN_isReachedBy_98 : decode bN_isReachedBy 98 = .ok (.ireturn, 1) := by decide +kernel
theorem dL_law_0 : decode bL_law 0 = .ok (.new 7, 3) := by decide +kernel
theorem dL_law_3 : decode bL_law 3 = .ok (.dup, 1) := by decide +kernel
theorem dL_law_4 : decode bL_law 4 = .ok (.invokespecial 9, 3) := by decide +kernel
theorem dL_law_7 : decode bL_law 7 = .ok (.astore_n 1, 1) := by decide +kernel
theorem dL_law_8 : decode bL_law 8 = .ok (.new 10, 3) := by decide +kernel
theorem dL_law_11 : decode bL_law 11 = .ok (.dup, 1) := by decide +kernel
theorem dL_law_12 : decode bL_law 12 = .ok (.invokespecial 12, 3) := by decide +kernel
theorem dL_law_15 : decode bL_law 15 = .ok (.astore_n 2, 1) := by decide +kernel
theorem dL_law_16 : decode bL_law 16 = .ok (.iconst 0, 1) := by decide +kernel
theorem dL_law_17 : decode bL_law 17 = .ok (.istore_n 3, 1) := by decide +kernel
theorem dL_law_18 : decode bL_law 18 = .ok (.iload_n 3, 1) := by decide +kernel
theorem dL_law_19 : decode bL_law 19 = .ok (.aload_n 0, 1) := by decide +kernel
theorem dL_law_20 : decode bL_law 20 = .ok (.arraylength, 1) := by decide +kernel
theorem dL_law_21 : decode bL_law 21 = .ok (.bipush 7, 2) := by decide +kernel
theorem dL_law_23 : decode bL_law 23 = .ok (.isub, 1) := by decide +kernel
theorem dL_law_24 : decode bL_law 24 = .ok (.if_icmp .gt 630, 3) := by decide +kernel
theorem dL_law_27 : decode bL_law 27 = .ok (.aload_n 0, 1) := by decide +kernel
theorem dL_law_28 : decode bL_law 28 = .ok (.iload_n 3, 1) := by decide +kernel
theorem dL_law_29 : decode bL_law 29 = .ok (.iaload, 1) := by decide +kernel
theorem dL_law_30 : decode bL_law 30 = .ok (.bipush 15, 2) := by decide +kernel
theorem dL_law_32 : decode bL_law 32 = .ok (.iand, 1) := by decide +kernel
theorem dL_law_33 : decode bL_law 33 = .ok (.tableswitch 615 0 11 #[63, 96, 129, 224, 331, 374, 437, 450, 483, 516, 549, 582], 63) := by decide +kernel
theorem dL_law_96 : decode bL_law 96 = .ok (.aload_n 1, 1) := by decide +kernel
theorem dL_law_97 : decode bL_law 97 = .ok (.aload_n 0, 1) := by decide +kernel
theorem dL_law_98 : decode bL_law 98 = .ok (.iload_n 3, 1) := by decide +kernel
theorem dL_law_99 : decode bL_law 99 = .ok (.iconst 1, 1) := by decide +kernel
theorem dL_law_100 : decode bL_law 100 = .ok (.iadd, 1) := by decide +kernel
theorem dL_law_101 : decode bL_law 101 = .ok (.iaload, 1) := by decide +kernel
theorem dL_law_102 : decode bL_law 102 = .ok (.aload_n 0, 1) := by decide +kernel
theorem dL_law_103 : decode bL_law 103 = .ok (.iload_n 3, 1) := by decide +kernel
theorem dL_law_104 : decode bL_law 104 = .ok (.iconst 2, 1) := by decide +kernel
theorem dL_law_105 : decode bL_law 105 = .ok (.iadd, 1) := by decide +kernel
theorem dL_law_106 : decode bL_law 106 = .ok (.iaload, 1) := by decide +kernel
