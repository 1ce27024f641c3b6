theorem dX8_doesRest_33 : decode cX8_doesRest 33 = .ok (.iaload, 1) := by decide +kernel
theorem dX8_doesRest_34 : decode cX8_doesRest 34 = .ok (.if_icmp .gt 30, 3) := by decide +kernel
theorem dX8_doesRest_37 : decode cX8_doesRest 37 = .ok (.aload_n 0, 1) := by decide +kernel
theorem dX8_doesRest_38 : decode cX8_doesRest 38 = .ok (.getfield 53, 3) := by decide +kernel
theorem dX8_doesRest_41 : decode cX8_doesRest 41 = .ok (.iload_n 1, 1) := by decide +kernel
theorem dX8_doesRest_42 : decode cX8_doesRest 42 = .ok (.bipush 12, 2) := by decide +kernel
theorem dX8_doesRest_44 : decode cX8_doesRest 44 = .ok (.idiv, 1) := by decide +kernel
theorem dX8_doesRest_45 : decode cX8_doesRest 45 = .ok (.bipush 12, 2) := by decide +kernel
theorem dX8_doesRest_47 : decode cX8_doesRest 47 = .ok (.imul, 1) := by decide +kernel
theorem dX8_doesRest_48 : decode cX8_doesRest 48 = .ok (.iload_n 3, 1) := by decide +kernel
theorem dX8_doesRest_49 : decode cX8_doesRest 49 = .ok (.iadd, 1) := by decide +kernel
theorem dX8_doesRest_50 : decode cX8_doesRest 50 = .ok (.iaload, 1) := by decide +kernel
theorem dX8_doesRest_51 : decode cX8_doesRest 51 = .ok (.aload_n 0, 1) := by decide +kernel
theorem dX8_doesRest_52 : decode cX8_doesRest 52 = .ok (.getfield 53, 3) := by decide +kernel
theorem dX8_doesRest_55 : decode cX8_doesRest 55 = .ok (.iload_n 1, 1) := by decide +kernel
theorem dX8_doesRest_56 : decode cX8_doesRest 56 = .ok (.iaload, 1) := by decide +kernel
theorem dX8_doesRest_57 : decode cX8_doesRest 57 = .ok (.if_icmp .lt 7, 3) := by decide +kernel
theorem dX8_doesRest_60 : decode cX8_doesRest 60 = .ok (.iconst 1, 1) := by decide +kernel
theorem dX8_doesRest_61 : decode cX8_doesRest 61 = .ok (.goto 4, 3) := by decide +kernel
theorem dX8_doesRest_64 : decode cX8_doesRest 64 = .ok (.iconst 0, 1) := by decide +kernel
theorem dX8_doesRest_65 : decode cX8_doesRest 65 = .ok (.istore_n 2, 1) := by decide +kernel
theorem dX8_doesRest_66 : decode cX8_doesRest 66 = .ok (.iinc 3 1, 3) := by decide +kernel
theorem dX8_doesRest_69 : decode cX8_doesRest 69 = .ok (.goto (-65), 3) := by decide +kernel
theorem dX8_doesRest_72 : decode cX8_doesRest 72 = .ok (.iload_n 2, 1) := by decide +kernel
theorem dX8_doesRest_73 : decode cX8_doesRest 73 = .ok (.ireturn, 1) := by decide +kernel
theorem dX8_duel_0 : decode cX8_duel 0 = .ok (.aload_n 0, 1) := by decide +kernel
theorem dX8_duel_1 : decode cX8_duel 1 = .ok (.iload_n 1, 1) := by decide +kernel
theorem dX8_duel_2 : decode cX8_duel 2 = .ok (.invokevirtual 107, 3) := by decide +kernel
theorem dX8_duel_5 : decode cX8_duel 5 = .ok (.ifCond .eq 34, 3) := by decide +kernel
theorem dX8_duel_8 : decode cX8_duel 8 = .ok (.aload_n 0, 1) := by decide +kernel
theorem dX8_duel_9 : decode cX8_duel 9 = .ok (.iload_n 2, 1) := by decide +kernel
theorem dX8_duel_10 : decode cX8_duel 10 = .ok (.invokevirtual 107, 3) := by decide +kernel
theorem dX8_duel_13 : decode cX8_duel 13 = .ok (.ifCond .eq 26, 3) := by decide +kernel
theorem dX8_duel_16 : decode cX8_duel 16 = .ok (.iload_n 1, 1) := by decide +kernel
theorem dX8_duel_17 : decode cX8_duel 17 = .ok (.iload_n 2, 1) := by decide +kernel
theorem dX8_duel_18 : decode cX8_duel 18 = .ok (.if_icmp .eq 21, 3) := by decide +kernel
theorem dX8_duel_21 : decode cX8_duel 21 = .ok (.iload_n 3, 1) := by decide +kernel
theorem dX8_duel_22 : decode cX8_duel 22 = .ok (.invokestatic 242, 3) := by decide +kernel
theorem dX8_duel_25 : decode cX8_duel 25 = .ok (.ifCond .eq 14, 3) := by decide +kernel
theorem dX8_duel_28 : decode cX8_duel 28 = .ok (.iload 4, 2) := by decide +kernel
theorem dX8_duel_30 : decode cX8_duel 30 = .ok (.i2l, 1) := by decide +kernel
theorem dX8_duel_31 : decode cX8_duel 31 = .ok (.lconst 0, 1) := by decide +kernel
theorem dX8_duel_32 : decode cX8_duel 32 = .ok (.lconst 1, 1) := by decide +kernel
theorem dX8_duel_33 : decode cX8_duel 33 = .ok (.invokestatic 75, 3) := by decide +kernel
theorem dX8_duel_36 : decode cX8_duel 36 = .ok (.ifCond .ne 5, 3) := by decide +kernel
theorem dX8_duel_39 : decode cX8_duel 39 = .ok (.iconst (-1), 1) := by decide +kernel
theorem dX8_duel_40 : decode cX8_duel 40 = .ok (.ireturn, 1) := by decide +kernel
theorem dX8_duel_41 : decode cX8_duel 41 = .ok (.iconst 0, 1) := by decide +kernel
theorem dX8_duel_42 : decode cX8_duel 42 = .ok (.istore 5, 2) := by decide +kernel
theorem dX8_duel_44 : decode cX8_duel 44 = .ok (.iload 5, 2) := by decide +kernel
theorem dX8_duel_46 : decode cX8_duel 46 = .ok (.sipush 144, 3) := by decide +kernel
theorem dX8_duel_49 : decode cX8_duel 49 = .ok (.if_icmp .ge 74, 3) := by decide +kernel
theorem dX8_duel_52 : decode cX8_duel 52 = .ok (.aload_n 0, 1) := by decide +kernel
theorem dX8_duel_53 : decode cX8_duel 53 = .ok (.invokevirtual 245, 3) := by decide +kernel
theorem dX8_duel_56 : decode cX8_duel 56 = .ok (.aload_n 0, 1) := by decide +kernel
theorem dX8_duel_57 : decode cX8_duel 57 = .ok (.iload_n 1, 1) := by decide +kernel
theorem dX8_duel_58 : decode cX8_duel 58 = .ok (.bipush 60, 2) := by decide +kernel
theorem dX8_duel_60 : decode cX8_duel 60 = .ok (.iload 5, 2) := by decide +kernel
theorem dX8_duel_62 : decode cX8_duel 62 = .ok (.bipush 12, 2) := by decide +kernel
theorem dX8_duel_64 : decode cX8_duel 64 = .ok (.idiv, 1) := by decide +kernel
theorem dX8_duel_65 : decode cX8_duel 65 = .ok (.imul, 1) := by decide +kernel
theorem dX8_duel_66 : decode cX8_duel 66 = .ok (.invokevirtual 237, 3) := by decide +kernel
theorem dX8_duel_69 : decode cX8_duel 69 = .ok (.aload_n 0, 1) := by decide +kernel
theorem dX8_duel_70 : decode cX8_duel 70 = .ok (.iload_n 2, 1) := by decide +kernel
theorem dX8_duel_71 : decode cX8_duel 71 = .ok (.bipush 60, 2) := by decide +kernel
theorem dX8_duel_73 : decode cX8_duel 73 = .ok (.iload 5, 2) := by decide +kernel
theorem dX8_duel_75 : decode cX8_duel 75 = .ok (.bipush 12, 2) := by decide +kernel
theorem dX8_duel_77 : decode cX8_duel 77 = .ok (.irem, 1) := by decide +kernel
theorem dX8_duel_78 : decode cX8_duel 78 = .ok (.imul, 1) := by decide +kernel
theorem dX8_duel_79 : decode cX8_duel 79 = .ok (.invokevirtual 237, 3) := by decide +kernel
theorem dX8_duel_82 : decode cX8_duel 82 = .ok (.aload_n 0, 1) := by decide +kernel
theorem dX8_duel_83 : decode cX8_duel 83 = .ok (.iload_n 3, 1) := by decide +kernel
theorem dX8_duel_84 : decode cX8_duel 84 = .ok (.invokevirtual 248, 3) := by decide +kernel
theorem dX8_duel_87 : decode cX8_duel 87 = .ok (.aload_n 0, 1) := by decide +kernel
theorem dX8_duel_88 : decode cX8_duel 88 = .ok (.getfield 53, 3) := by decide +kernel
theorem dX8_duel_91 : decode cX8_duel 91 = .ok (.iload 5, 2) := by decide +kernel
theorem dX8_duel_93 : decode cX8_duel 93 = .ok (.aload_n 0, 1) := by decide +kernel
theorem dX8_duel_94 : decode cX8_duel 94 = .ok (.getfield 7, 3) := by decide +kernel
theorem dX8_duel_97 : decode cX8_duel 97 = .ok (.bipush 42, 2) := by decide +kernel
theorem dX8_duel_99 : decode cX8_duel 99 = .ok (.iload_n 1, 1) := by decide +kernel
theorem dX8_duel_100 : decode cX8_duel 100 = .ok (.iadd, 1) := by decide +kernel
theorem dX8_duel_101 : decode cX8_duel 101 = .ok (.iaload, 1) := by decide +kernel
theorem dX8_duel_102 : decode cX8_duel 102 = .ok (.aload_n 0, 1) := by decide +kernel
theorem dX8_duel_103 : decode cX8_duel 103 = .ok (.getfield 7, 3) := by decide +kernel
theorem dX8_duel_106 : decode cX8_duel 106 = .ok (.bipush 42, 2) := by decide +kernel
theorem dX8_duel_108 : decode cX8_duel 108 = .ok (.iload_n 2, 1) := by decide +kernel
theorem dX8_duel_109 : decode cX8_duel 109 = .ok (.iadd, 1) := by decide +kernel
theorem dX8_duel_110 : decode cX8_duel 110 = .ok (.iaload, 1) := by decide +kernel
theorem dX8_duel_111 : decode cX8_duel 111 = .ok (.isub, 1) := by decide +kernel
theorem dX8_duel_112 : decode cX8_duel 112 = .ok (.iastore, 1) := by decide +kernel
theorem dX8_duel_113 : decode cX8_duel 113 = .ok (.aload_n 0, 1) := by decide +kernel
theorem dX8_duel_114 : decode cX8_duel 114 = .ok (.invokevirtual 251, 3) := by decide +kernel
theorem dX8_duel_117 : decode cX8_duel 117 = .ok (.iinc 5 1, 3) := by decide +kernel
theorem dX8_duel_120 : decode cX8_duel 120 = .ok (.goto (-76), 3) := by decide +kernel
theorem dX8_duel_123 : decode cX8_duel 123 = .ok (.iconst 0, 1) := by decide +kernel
theorem dX8_duel_124 : decode cX8_duel 124 = .ok (.istore 5, 2) := by decide +kernel
theorem dX8_duel_126 : decode cX8_duel 126 = .ok (.bipush (-4), 2) := by decide +kernel
theorem dX8_duel_128 : decode cX8_duel 128 = .ok (.istore 6, 2) := by decide +kernel
theorem dX8_duel_130 : decode cX8_duel 130 = .ok (.iconst 0, 1) := by decide +kernel
theorem dX8_duel_131 : decode cX8_duel 131 = .ok (.istore 7, 2) := by decide +kernel
theorem dX8_duel_133 : decode cX8_duel 133 = .ok (.iload 7, 2) := by decide +kernel
theorem dX8_duel_135 : decode cX8_duel 135 = .ok (.sipush 144, 3) := by decide +kernel
theorem dX8_duel_138 : decode cX8_duel 138 = .ok (.if_icmp .ge 47, 3) := by decide +kernel
theorem dX8_duel_141 : decode cX8_duel 141 = .ok (.aload_n 0, 1) := by decide +kernel
theorem dX8_duel_142 : decode cX8_duel 142 = .ok (.iload 7, 2) := by decide +kernel
theorem dX8_duel_144 : decode cX8_duel 144 = .ok (.invokevirtual 264, 3) := by decide +kernel
theorem dX8_duel_147 : decode cX8_duel 147 = .ok (.ifCond .eq 32, 3) := by decide +kernel
theorem dX8_duel_150 : decode cX8_duel 150 = .ok (.iload 5, 2) := by decide +kernel
theorem dX8_duel_152 : decode cX8_duel 152 = .ok (.ifCond .ne 20, 3) := by decide +kernel
theorem dX8_duel_155 : decode cX8_duel 155 = .ok (.bipush 100, 2) := by decide +kernel
theorem dX8_duel_157 : decode cX8_duel 157 = .ok (.iload 7, 2) := by decide +kernel
theorem dX8_duel_159 : decode cX8_duel 159 = .ok (.bipush 12, 2) := by decide +kernel
theorem dX8_duel_161 : decode cX8_duel 161 = .ok (.idiv, 1) := by decide +kernel
theorem dX8_duel_162 : decode cX8_duel 162 = .ok (.imul, 1) := by decide +kernel
theorem dX8_duel_163 : decode cX8_duel 163 = .ok (.iload 7, 2) := by decide +kernel
theorem dX8_duel_165 : decode cX8_duel 165 = .ok (.bipush 12, 2) := by decide +kernel
theorem dX8_duel_167 : decode cX8_duel 167 = .ok (.irem, 1) := by decide +kernel
theorem dX8_duel_168 : decode cX8_duel 168 = .ok (.iadd, 1) := by decide +kernel
theorem dX8_duel_169 : decode cX8_duel 169 = .ok (.goto 5, 3) := by decide +kernel
theorem dX8_duel_172 : decode cX8_duel 172 = .ok (.iload 6, 2) := by decide +kernel
theorem dX8_duel_174 : decode cX8_duel 174 = .ok (.istore 6, 2) := by decide +kernel
theorem dX8_duel_176 : decode cX8_duel 176 = .ok (.iinc 5 1, 3) := by decide +kernel
theorem dX8_duel_179 : decode cX8_duel 179 = .ok (.iinc 7 1, 3) := by decide +kernel
theorem dX8_duel_182 : decode cX8_duel 182 = .ok (.goto (-49), 3) := by decide +kernel
theorem dX8_duel_185 : decode cX8_duel 185 = .ok (.iload 4, 2) := by decide +kernel
theorem dX8_duel_187 : decode cX8_duel 187 = .ok (.ifCond .ne 8, 3) := by decide +kernel
theorem dX8_duel_190 : decode cX8_duel 190 = .ok (.iload 5, 2) := by decide +kernel
theorem dX8_duel_192 : decode cX8_duel 192 = .ok (.goto 5, 3) := by decide +kernel
theorem dX8_duel_195 : decode cX8_duel 195 = .ok (.iload 6, 2) := by decide +kernel
theorem dX8_duel_197 : decode cX8_duel 197 = .ok (.ireturn, 1) := by decide +kernel
theorem dX8_breath_0 : decode cX8_breath 0 = .ok (.aload_n 0, 1) := by decide +kernel
theorem dX8_breath_1 : decode cX8_breath 1 = .ok (.iload_n 1, 1) := by decide +kernel
theorem dX8_breath_2 : decode cX8_breath 2 = .ok (.invokevirtual 107, 3) := by decide +kernel
theorem dX8_breath_5 : decode cX8_breath 5 = .ok (.ifCond .eq 10, 3) := by decide +kernel
theorem dX8_breath_8 : decode cX8_breath 8 = .ok (.iload_n 2, 1) := by decide +kernel
theorem dX8_breath_9 : decode cX8_breath 9 = .ok (.invokestatic 242, 3) := by decide +kernel
theorem dX8_breath_12 : decode cX8_breath 12 = .ok (.ifCond .ne 5, 3) := by decide +kernel
theorem dX8_breath_15 : decode cX8_breath 15 = .ok (.iconst (-1), 1) := by decide +kernel
theorem dX8_breath_16 : decode cX8_breath 16 = .ok (.ireturn, 1) := by decide +kernel
theorem dX8_breath_17 : decode cX8_breath 17 = .ok (.aload_n 0, 1) := by decide +kernel
theorem dX8_breath_18 : decode cX8_breath 18 = .ok (.iload_n 1, 1) := by decide +kernel
theorem dX8_breath_19 : decode cX8_breath 19 = .ok (.iload_n 2, 1) := by decide +kernel
theorem dX8_breath_20 : decode cX8_breath 20 = .ok (.iconst 0, 1) := by decide +kernel
theorem dX8_breath_21 : decode cX8_breath 21 = .ok (.invokevirtual 267, 3) := by decide +kernel
theorem dX8_breath_24 : decode cX8_breath 24 = .ok (.istore_n 3, 1) := by decide +kernel
theorem dX8_breath_25 : decode cX8_breath 25 = .ok (.bipush (-4), 2) := by decide +kernel
theorem dX8_breath_27 : decode cX8_breath 27 = .ok (.istore 4, 2) := by decide +kernel
theorem dX8_breath_29 : decode cX8_breath 29 = .ok (.iconst 0, 1) := by decide +kernel
theorem dX8_breath_30 : decode cX8_breath 30 = .ok (.istore 5, 2) := by decide +kernel
theorem dX8_breath_32 : decode cX8_breath 32 = .ok (.iload 5, 2) := by decide +kernel
theorem dX8_breath_34 : decode cX8_breath 34 = .ok (.aload_n 0, 1) := by decide +kernel
theorem dX8_breath_35 : decode cX8_breath 35 = .ok (.getfield 19, 3) := by decide +kernel
theorem dX8_breath_38 : decode cX8_breath 38 = .ok (.if_icmp .ge 82, 3) := by decide +kernel
theorem dX8_breath_41 : decode cX8_breath 41 = .ok (.aload_n 0, 1) := by decide +kernel
theorem dX8_breath_42 : decode cX8_breath 42 = .ok (.getfield 7, 3) := by decide +kernel
theorem dX8_breath_45 : decode cX8_breath 45 = .ok (.iload 5, 2) := by decide +kernel
theorem dX8_breath_47 : decode cX8_breath 47 = .ok (.iaload, 1) := by decide +kernel
theorem dX8_breath_48 : decode cX8_breath 48 = .ok (.bipush 12, 2) := by decide +kernel
theorem dX8_breath_50 : decode cX8_breath 50 = .ok (.if_icmp .eq 64, 3) := by decide +kernel
theorem dX8_breath_53 : decode cX8_breath 53 = .ok (.aload_n 0, 1) := by decide +kernel
theorem dX8_breath_54 : decode cX8_breath 54 = .ok (.invokevirtual 245, 3) := by decide +kernel
theorem dX8_breath_57 : decode cX8_breath 57 = .ok (.aload_n 0, 1) := by decide +kernel
theorem dX8_breath_58 : decode cX8_breath 58 = .ok (.getfield 7, 3) := by decide +kernel
theorem dX8_breath_61 : decode cX8_breath 61 = .ok (.iload 5, 2) := by decide +kernel
theorem dX8_breath_63 : decode cX8_breath 63 = .ok (.bipush 12, 2) := by decide +kernel
theorem dX8_breath_65 : decode cX8_breath 65 = .ok (.iastore, 1) := by decide +kernel
theorem dX8_breath_66 : decode cX8_breath 66 = .ok (.aload_n 0, 1) := by decide +kernel
theorem dX8_breath_67 : decode cX8_breath 67 = .ok (.iload_n 2, 1) := by decide +kernel
theorem dX8_breath_68 : decode cX8_breath 68 = .ok (.invokevirtual 248, 3) := by decide +kernel
theorem dX8_breath_71 : decode cX8_breath 71 = .ok (.aload_n 0, 1) := by decide +kernel
theorem dX8_breath_72 : decode cX8_breath 72 = .ok (.getfield 7, 3) := by decide +kernel
theorem dX8_breath_75 : decode cX8_breath 75 = .ok (.bipush 42, 2) := by decide +kernel
theorem dX8_breath_77 : decode cX8_breath 77 = .ok (.iload_n 1, 1) := by decide +kernel
theorem dX8_breath_78 : decode cX8_breath 78 = .ok (.iadd, 1) := by decide +kernel
theorem dX8_breath_79 : decode cX8_breath 79 = .ok (.iaload, 1) := by decide +kernel
theorem dX8_breath_80 : decode cX8_breath 80 = .ok (.istore 6, 2) := by decide +kernel
theorem dX8_breath_82 : decode cX8_breath 82 = .ok (.aload_n 0, 1) := by decide +kernel
theorem dX8_breath_83 : decode cX8_breath 83 = .ok (.invokevirtual 251, 3) := by decide +kernel
theorem dX8_breath_86 : decode cX8_breath 86 = .ok (.iload 6, 2) := by decide +kernel
theorem dX8_breath_88 : decode cX8_breath 88 = .ok (.iload_n 3, 1) := by decide +kernel
theorem dX8_breath_89 : decode cX8_breath 89 = .ok (.if_icmp .le 8, 3) := by decide +kernel
theorem dX8_breath_92 : decode cX8_breath 92 = .ok (.iload 5, 2) := by decide +kernel
theorem dX8_breath_94 : decode cX8_breath 94 = .ok (.goto 5, 3) := by decide +kernel
theorem dX8_breath_97 : decode cX8_breath 97 = .ok (.iload 4, 2) := by decide +kernel
theorem dX8_breath_99 : decode cX8_breath 99 = .ok (.istore 4, 2) := by decide +kernel
theorem dX8_breath_101 : decode cX8_breath 101 = .ok (.iload 6, 2) := by decide +kernel
theorem dX8_breath_103 : decode cX8_breath 103 = .ok (.iload_n 3, 1) := by decide +kernel
theorem dX8_breath_104 : decode cX8_breath 104 = .ok (.if_icmp .le 8, 3) := by decide +kernel
theorem dX8_breath_107 : decode cX8_breath 107 = .ok (.iload 6, 2) := by decide +kernel
theorem dX8_breath_109 : decode cX8_breath 109 = .ok (.goto 4, 3) := by decide +kernel
theorem dX8_breath_112 : decode cX8_breath 112 = .ok (.iload_n 3, 1) := by decide +kernel
theorem dX8_breath_113 : decode cX8_breath 113 = .ok (.istore_n 3, 1) := by decide +kernel
theorem dX8_breath_114 : decode cX8_breath 114 = .ok (.iinc 5 1, 3) := by decide +kernel
theorem dX8_breath_117 : decode cX8_breath 117 = .ok (.goto (-85), 3) := by decide +kernel
theorem dX8_breath_120 : decode cX8_breath 120 = .ok (.iload 4, 2) := by decide +kernel
theorem dX8_breath_122 : decode cX8_breath 122 = .ok (.ireturn, 1) := by decide +kernel
theorem dX8_right_0 : decode cX8_right 0 = .ok (.aload_n 0, 1) := by decide +kernel
theorem dX8_right_1 : decode cX8_right 1 = .ok (.iload_n 1, 1) := by decide +kernel
theorem dX8_right_2 : decode cX8_right 2 = .ok (.invokevirtual 107, 3) := by decide +kernel
theorem dX8_right_5 : decode cX8_right 5 = .ok (.ifCond .eq 10, 3) := by decide +kernel
theorem dX8_right_8 : decode cX8_right 8 = .ok (.iload_n 2, 1) := by decide +kernel
theorem dX8_right_9 : decode cX8_right 9 = .ok (.invokestatic 242, 3) := by decide +kernel
theorem dX8_right_12 : decode cX8_right 12 = .ok (.ifCond .ne 5, 3) := by decide +kernel
theorem dX8_right_15 : decode cX8_right 15 = .ok (.iconst (-1), 1) := by decide +kernel
theorem dX8_right_16 : decode cX8_right 16 = .ok (.ireturn, 1) := by decide +kernel
theorem dX8_right_17 : decode cX8_right 17 = .ok (.aload_n 0, 1) := by decide +kernel
theorem dX8_right_18 : decode cX8_right 18 = .ok (.invokevirtual 245, 3) := by decide +kernel
theorem dX8_right_21 : decode cX8_right 21 = .ok (.iconst 0, 1) := by decide +kernel
theorem dX8_right_22 : decode cX8_right 22 = .ok (.istore_n 3, 1) := by decide +kernel
theorem dX8_right_23 : decode cX8_right 23 = .ok (.iconst 0, 1) := by decide +kernel
theorem dX8_right_24 : decode cX8_right 24 = .ok (.istore 4, 2) := by decide +kernel
theorem dX8_right_26 : decode cX8_right 26 = .ok (.iload 4, 2) := by decide +kernel
theorem dX8_right_28 : decode cX8_right 28 = .ok (.iload_n 2, 1) := by decide +kernel
theorem dX8_right_29 : decode cX8_right 29 = .ok (.if_icmp .ge 41, 3) := by decide +kernel
theorem dX8_right_32 : decode cX8_right 32 = .ok (.iload_n 3, 1) := by decide +kernel
theorem dX8_right_33 : decode cX8_right 33 = .ok (.aload_n 0, 1) := by decide +kernel
theorem dX8_right_34 : decode cX8_right 34 = .ok (.iload_n 1, 1) := by decide +kernel
theorem dX8_right_35 : decode cX8_right 35 = .ok (.invokevirtual 111, 3) := by decide +kernel
theorem dX8_right_38 : decode cX8_right 38 = .ok (.aload_n 0, 1) := by decide +kernel
theorem dX8_right_39 : decode cX8_right 39 = .ok (.invokevirtual 99, 3) := by decide +kernel
theorem dX8_right_42 : decode cX8_right 42 = .ok (.bipush 60, 2) := by decide +kernel
theorem dX8_right_44 : decode cX8_right 44 = .ok (.idiv, 1) := by decide +kernel
theorem dX8_right_45 : decode cX8_right 45 = .ok (.if_icmp .ne 7, 3) := by decide +kernel
theorem dX8_right_48 : decode cX8_right 48 = .ok (.iconst 1, 1) := by decide +kernel
theorem dX8_right_49 : decode cX8_right 49 = .ok (.goto 4, 3) := by decide +kernel
theorem dX8_right_52 : decode cX8_right 52 = .ok (.iconst 0, 1) := by decide +kernel
theorem dX8_right_53 : decode cX8_right 53 = .ok (.iadd, 1) := by decide +kernel
theorem dX8_right_54 : decode cX8_right 54 = .ok (.istore_n 3, 1) := by decide +kernel
theorem dX8_right_55 : decode cX8_right 55 = .ok (.aload_n 0, 1) := by decide +kernel
theorem dX8_right_56 : decode cX8_right 56 = .ok (.aload_n 0, 1) := by decide +kernel
theorem dX8_right_57 : decode cX8_right 57 = .ok (.invokevirtual 223, 3) := by decide +kernel
theorem dX8_right_60 : decode cX8_right 60 = .ok (.invokevirtual 226, 3) := by decide +kernel
theorem dX8_right_63 : decode cX8_right 63 = .ok (.pop, 1) := by decide +kernel
theorem dX8_right_64 : decode cX8_right 64 = .ok (.iinc 4 1, 3) := by decide +kernel
theorem dX8_right_67 : decode cX8_right 67 = .ok (.goto (-41), 3) := by decide +kernel
theorem dX8_right_70 : decode cX8_right 70 = .ok (.aload_n 0, 1) := by decide +kernel
theorem dX8_right_71 : decode cX8_right 71 = .ok (.invokevirtual 251, 3) := by decide +kernel
theorem dX8_right_74 : decode cX8_right 74 = .ok (.iload_n 3, 1) := by decide +kernel
theorem dX8_right_75 : decode cX8_right 75 = .ok (.ireturn, 1) := by decide +kernel
theorem dX8_appeal_0 : decode cX8_appeal 0 = .ok (.aload_n 0, 1) := by decide +kernel
theorem dX8_appeal_1 : decode cX8_appeal 1 = .ok (.iload_n 1, 1) := by decide +kernel
theorem dX8_appeal_2 : decode cX8_appeal 2 = .ok (.invokevirtual 107, 3) := by decide +kernel
theorem dX8_appeal_5 : decode cX8_appeal 5 = .ok (.ifCond .eq 10, 3) := by decide +kernel
theorem dX8_appeal_8 : decode cX8_appeal 8 = .ok (.iload_n 2, 1) := by decide +kernel
theorem dX8_appeal_9 : decode cX8_appeal 9 = .ok (.invokestatic 242, 3) := by decide +kernel
theorem dX8_appeal_12 : decode cX8_appeal 12 = .ok (.ifCond .ne 5, 3) := by decide +kernel
theorem dX8_appeal_15 : decode cX8_appeal 15 = .ok (.iconst (-1), 1) := by decide +kernel
theorem dX8_appeal_16 : decode cX8_appeal 16 = .ok (.ireturn, 1) := by decide +kernel
theorem dX8_appeal_17 : decode cX8_appeal 17 = .ok (.aload_n 0, 1) := by decide +kernel
theorem dX8_appeal_18 : decode cX8_appeal 18 = .ok (.iconst 0, 1) := by decide +kernel
theorem dX8_appeal_19 : decode cX8_appeal 19 = .ok (.putfield 29, 3) := by decide +kernel
theorem dX8_appeal_22 : decode cX8_appeal 22 = .ok (.aload_n 0, 1) := by decide +kernel
theorem dX8_appeal_23 : decode cX8_appeal 23 = .ok (.iload_n 1, 1) := by decide +kernel
theorem dX8_appeal_24 : decode cX8_appeal 24 = .ok (.iload_n 2, 1) := by decide +kernel
theorem dX8_appeal_25 : decode cX8_appeal 25 = .ok (.iconst 1, 1) := by decide +kernel
theorem dX8_appeal_26 : decode cX8_appeal 26 = .ok (.invokevirtual 267, 3) := by decide +kernel
theorem dX8_appeal_29 : decode cX8_appeal 29 = .ok (.istore_n 3, 1) := by decide +kernel
theorem dX8_appeal_30 : decode cX8_appeal 30 = .ok (.aload_n 0, 1) := by decide +kernel
theorem dX8_appeal_31 : decode cX8_appeal 31 = .ok (.iconst (-1), 1) := by decide +kernel
theorem dX8_appeal_32 : decode cX8_appeal 32 = .ok (.putfield 29, 3) := by decide +kernel
theorem dX8_appeal_35 : decode cX8_appeal 35 = .ok (.iload_n 3, 1) := by decide +kernel
theorem dX8_appeal_36 : decode cX8_appeal 36 = .ok (.ireturn, 1) := by decide +kernel
theorem dX8_spans_0 : decode cX8_spans 0 = .ok (.aload_n 0, 1) := by decide +kernel
theorem dX8_spans_1 : decode cX8_spans 1 = .ok (.iload_n 1, 1) := by decide +kernel
theorem dX8_spans_2 : decode cX8_spans 2 = .ok (.invokevirtual 107, 3) := by decide +kernel
theorem dX8_spans_5 : decode cX8_spans 5 = .ok (.ifCond .eq 13, 3) := by decide +kernel
theorem dX8_spans_8 : decode cX8_spans 8 = .ok (.iload_n 2, 1) := by decide +kernel
theorem dX8_spans_9 : decode cX8_spans 9 = .ok (.i2l, 1) := by decide +kernel
theorem dX8_spans_10 : decode cX8_spans 10 = .ok (.lconst 0, 1) := by decide +kernel
theorem dX8_spans_11 : decode cX8_spans 11 = .ok (.lconst 1, 1) := by decide +kernel
theorem dX8_spans_12 : decode cX8_spans 12 = .ok (.invokestatic 75, 3) := by decide +kernel
theorem dX8_spans_15 : decode cX8_spans 15 = .ok (.ifCond .ne 5, 3) := by decide +kernel
theorem dX8_spans_18 : decode cX8_spans 18 = .ok (.iconst (-1), 1) := by decide +kernel
theorem dX8_spans_19 : decode cX8_spans 19 = .ok (.ireturn, 1) := by decide +kernel
theorem dX8_spans_20 : decode cX8_spans 20 = .ok (.bipush (-4), 2) := by decide +kernel
theorem dX8_spans_22 : decode cX8_spans 22 = .ok (.istore_n 3, 1) := by decide +kernel
theorem dX8_spans_23 : decode cX8_spans 23 = .ok (.iconst 0, 1) := by decide +kernel
theorem dX8_spans_24 : decode cX8_spans 24 = .ok (.istore 4, 2) := by decide +kernel
theorem dX8_spans_26 : decode cX8_spans 26 = .ok (.iload 4, 2) := by decide +kernel
theorem dX8_spans_28 : decode cX8_spans 28 = .ok (.iconst 4, 1) := by decide +kernel
theorem dX8_spans_29 : decode cX8_spans 29 = .ok (.if_icmp .ge 79, 3) := by decide +kernel
theorem dX8_spans_32 : decode cX8_spans 32 = .ok (.aload_n 0, 1) := by decide +kernel
theorem dX8_spans_33 : decode cX8_spans 33 = .ok (.invokevirtual 245, 3) := by decide +kernel
theorem dX8_spans_36 : decode cX8_spans 36 = .ok (.iconst 0, 1) := by decide +kernel
theorem dX8_spans_37 : decode cX8_spans 37 = .ok (.istore 5, 2) := by decide +kernel
theorem dX8_spans_39 : decode cX8_spans 39 = .ok (.iload 5, 2) := by decide +kernel
theorem dX8_spans_41 : decode cX8_spans 41 = .ok (.sipush 200, 3) := by decide +kernel
theorem dX8_spans_44 : decode cX8_spans 44 = .ok (.if_icmp .gt 24, 3) := by decide +kernel
theorem dX8_spans_47 : decode cX8_spans 47 = .ok (.aload_n 0, 1) := by decide +kernel
theorem dX8_spans_48 : decode cX8_spans 48 = .ok (.iload_n 1, 1) := by decide +kernel
theorem dX8_spans_49 : decode cX8_spans 49 = .ok (.invokevirtual 197, 3) := by decide +kernel
theorem dX8_spans_52 : decode cX8_spans 52 = .ok (.ifCond .ne 16, 3) := by decide +kernel
theorem dX8_spans_55 : decode cX8_spans 55 = .ok (.aload_n 0, 1) := by decide +kernel
theorem dX8_spans_56 : decode cX8_spans 56 = .ok (.iload 4, 2) := by decide +kernel
theorem dX8_spans_58 : decode cX8_spans 58 = .ok (.invokevirtual 226, 3) := by decide +kernel
theorem dX8_spans_61 : decode cX8_spans 61 = .ok (.pop, 1) := by decide +kernel
theorem dX8_spans_62 : decode cX8_spans 62 = .ok (.iinc 5 1, 3) := by decide +kernel
theorem dX8_spans_65 : decode cX8_spans 65 = .ok (.goto (-26), 3) := by decide +kernel
theorem dX8_spans_68 : decode cX8_spans 68 = .ok (.aload_n 0, 1) := by decide +kernel
theorem dX8_spans_69 : decode cX8_spans 69 = .ok (.invokevirtual 251, 3) := by decide +kernel
theorem dX8_spans_72 : decode cX8_spans 72 = .ok (.iload_n 3, 1) := by decide +kernel
theorem dX8_spans_73 : decode cX8_spans 73 = .ok (.ifCond .lt 22, 3) := by decide +kernel
theorem dX8_spans_76 : decode cX8_spans 76 = .ok (.iload_n 2, 1) := by decide +kernel
theorem dX8_spans_77 : decode cX8_spans 77 = .ok (.ifCond .ne 12, 3) := by decide +kernel
theorem dX8_spans_80 : decode cX8_spans 80 = .ok (.iload 5, 2) := by decide +kernel
theorem dX8_spans_82 : decode cX8_spans 82 = .ok (.iload_n 3, 1) := by decide +kernel
theorem dX8_spans_83 : decode cX8_spans 83 = .ok (.if_icmp .ge 17, 3) := by decide +kernel
theorem dX8_spans_86 : decode cX8_spans 86 = .ok (.goto 9, 3) := by decide +kernel
theorem dX8_spans_89 : decode cX8_spans 89 = .ok (.iload 5, 2) := by decide +kernel
theorem dX8_spans_91 : decode cX8_spans 91 = .ok (.iload_n 3, 1) := by decide +kernel
theorem dX8_spans_92 : decode cX8_spans 92 = .ok (.if_icmp .le 8, 3) := by decide +kernel
theorem dX8_spans_95 : decode cX8_spans 95 = .ok (.iload 5, 2) := by decide +kernel
theorem dX8_spans_97 : decode cX8_spans 97 = .ok (.goto 4, 3) := by decide +kernel
theorem dX8_spans_100 : decode cX8_spans 100 = .ok (.iload_n 3, 1) := by decide +kernel
theorem dX8_spans_101 : decode cX8_spans 101 = .ok (.istore_n 3, 1) := by decide +kernel
theorem dX8_spans_102 : decode cX8_spans 102 = .ok (.iinc 4 1, 3) := by decide +kernel
theorem dX8_spans_105 : decode cX8_spans 105 = .ok (.goto (-79), 3) := by decide +kernel
theorem dX8_spans_108 : decode cX8_spans 108 = .ok (.iload_n 3, 1) := by decide +kernel
theorem dX8_spans_109 : decode cX8_spans 109 = .ok (.ireturn, 1) := by decide +kernel
theorem dX8_areClocks_0 : decode cX8_areClocks 0 = .ok (.iload_n 1, 1) := by decide +kernel
theorem dX8_areClocks_1 : decode cX8_areClocks 1 = .ok (.i2l, 1) := by decide +kernel
theorem dX8_areClocks_2 : decode cX8_areClocks 2 = .ok (.lconst 0, 1) := by decide +kernel
theorem dX8_areClocks_3 : decode cX8_areClocks 3 = .ok (.iconst 1, 1) := by decide +kernel
theorem dX8_areClocks_4 : decode cX8_areClocks 4 = .ok (.aload_n 0, 1) := by decide +kernel
theorem dX8_areClocks_5 : decode cX8_areClocks 5 = .ok (.getfield 72, 3) := by decide +kernel
theorem dX8_areClocks_8 : decode cX8_areClocks 8 = .ok (.ishl, 1) := by decide +kernel
theorem dX8_areClocks_9 : decode cX8_areClocks 9 = .ok (.iconst 1, 1) := by decide +kernel
theorem dX8_areClocks_10 : decode cX8_areClocks 10 = .ok (.isub, 1) := by decide +kernel
theorem dX8_areClocks_11 : decode cX8_areClocks 11 = .ok (.i2l, 1) := by decide +kernel
theorem dX8_areClocks_12 : decode cX8_areClocks 12 = .ok (.invokestatic 75, 3) := by decide +kernel
theorem dX8_areClocks_15 : decode cX8_areClocks 15 = .ok (.ireturn, 1) := by decide +kernel
theorem dX8_struck_0 : decode cX8_struck 0 = .ok (.aload_n 0, 1) := by decide +kernel
theorem dX8_struck_1 : decode cX8_struck 1 = .ok (.iload_n 1, 1) := by decide +kernel
theorem dX8_struck_2 : decode cX8_struck 2 = .ok (.invokevirtual 271, 3) := by decide +kernel
theorem dX8_struck_5 : decode cX8_struck 5 = .ok (.ifCond .eq 27, 3) := by decide +kernel
theorem dX8_struck_8 : decode cX8_struck 8 = .ok (.iload_n 2, 1) := by decide +kernel
theorem dX8_struck_9 : decode cX8_struck 9 = .ok (.i2l, 1) := by decide +kernel
theorem dX8_struck_10 : decode cX8_struck 10 = .ok (.lconst 1, 1) := by decide +kernel
theorem dX8_struck_11 : decode cX8_struck 11 = .ok (.ldc2_w 274, 3) := by decide +kernel
theorem dX8_struck_14 : decode cX8_struck 14 = .ok (.invokestatic 75, 3) := by decide +kernel
theorem dX8_struck_17 : decode cX8_struck 17 = .ok (.ifCond .eq 15, 3) := by decide +kernel
theorem dX8_struck_20 : decode cX8_struck 20 = .ok (.iload_n 3, 1) := by decide +kernel
theorem dX8_struck_21 : decode cX8_struck 21 = .ok (.i2l, 1) := by decide +kernel
theorem dX8_struck_22 : decode cX8_struck 22 = .ok (.lconst 0, 1) := by decide +kernel
theorem dX8_struck_23 : decode cX8_struck 23 = .ok (.ldc2_w 276, 3) := by decide +kernel
theorem dX8_struck_26 : decode cX8_struck 26 = .ok (.invokestatic 75, 3) := by decide +kernel
theorem dX8_struck_29 : decode cX8_struck 29 = .ok (.ifCond .ne 5, 3) := by decide +kernel
theorem dX8_struck_32 : decode cX8_struck 32 = .ok (.iconst (-1), 1) := by decide +kernel
theorem dX8_struck_33 : decode cX8_struck 33 = .ok (.ireturn, 1) := by decide +kernel
theorem dX8_struck_34 : decode cX8_struck 34 = .ok (.iconst 0, 1) := by decide +kernel
theorem dX8_struck_35 : decode cX8_struck 35 = .ok (.istore 4, 2) := by decide +kernel
theorem dX8_struck_37 : decode cX8_struck 37 = .ok (.bipush (-4), 2) := by decide +kernel
theorem dX8_struck_39 : decode cX8_struck 39 = .ok (.istore 5, 2) := by decide +kernel
theorem dX8_struck_41 : decode cX8_struck 41 = .ok (.iload_n 1, 1) := by decide +kernel
theorem dX8_struck_42 : decode cX8_struck 42 = .ok (.istore 6, 2) := by decide +kernel
theorem dX8_struck_44 : decode cX8_struck 44 = .ok (.iconst 1, 1) := by decide +kernel
theorem dX8_struck_45 : decode cX8_struck 45 = .ok (.istore 7, 2) := by decide +kernel
theorem dX8_struck_47 : decode cX8_struck 47 = .ok (.iload 7, 2) := by decide +kernel
theorem dX8_struck_49 : decode cX8_struck 49 = .ok (.iconst 1, 1) := by decide +kernel
theorem dX8_struck_50 : decode cX8_struck 50 = .ok (.aload_n 0, 1) := by decide +kernel
theorem dX8_struck_51 : decode cX8_struck 51 = .ok (.getfield 72, 3) := by decide +kernel
theorem dX8_struck_54 : decode cX8_struck 54 = .ok (.ishl, 1) := by decide +kernel
theorem dX8_struck_55 : decode cX8_struck 55 = .ok (.if_icmp .ge 97, 3) := by decide +kernel
theorem dX8_struck_58 : decode cX8_struck 58 = .ok (.iconst 0, 1) := by decide +kernel
theorem dX8_struck_59 : decode cX8_struck 59 = .ok (.istore 8, 2) := by decide +kernel
theorem dX8_struck_61 : decode cX8_struck 61 = .ok (.iconst 0, 1) := by decide +kernel
theorem dX8_struck_62 : decode cX8_struck 62 = .ok (.istore 9, 2) := by decide +kernel
theorem dX8_struck_64 : decode cX8_struck 64 = .ok (.iload 9, 2) := by decide +kernel
theorem dX8_struck_66 : decode cX8_struck 66 = .ok (.aload_n 0, 1) := by decide +kernel
theorem dX8_struck_67 : decode cX8_struck 67 = .ok (.getfield 72, 3) := by decide +kernel
theorem dX8_struck_70 : decode cX8_struck 70 = .ok (.if_icmp .ge 37, 3) := by decide +kernel
theorem dX8_struck_73 : decode cX8_struck 73 = .ok (.iload 8, 2) := by decide +kernel
theorem dX8_struck_75 : decode cX8_struck 75 = .ok (.iload 7, 2) := by decide +kernel
theorem dX8_struck_77 : decode cX8_struck 77 = .ok (.iload 9, 2) := by decide +kernel
theorem dX8_struck_79 : decode cX8_struck 79 = .ok (.invokestatic 278, 3) := by decide +kernel
theorem dX8_struck_82 : decode cX8_struck 82 = .ok (.ifCond .eq 15, 3) := by decide +kernel
theorem dX8_struck_85 : decode cX8_struck 85 = .ok (.aload_n 0, 1) := by decide +kernel
theorem dX8_struck_86 : decode cX8_struck 86 = .ok (.iload 9, 2) := by decide +kernel
theorem dX8_struck_88 : decode cX8_struck 88 = .ok (.invokevirtual 111, 3) := by decide +kernel
theorem dX8_struck_91 : decode cX8_struck 91 = .ok (.invokestatic 216, 3) := by decide +kernel
theorem dX8_struck_94 : decode cX8_struck 94 = .ok (.goto 4, 3) := by decide +kernel
theorem dX8_struck_97 : decode cX8_struck 97 = .ok (.iconst 0, 1) := by decide +kernel
theorem dX8_struck_98 : decode cX8_struck 98 = .ok (.iadd, 1) := by decide +kernel
theorem dX8_struck_99 : decode cX8_struck 99 = .ok (.istore 8, 2) := by decide +kernel
theorem dX8_struck_101 : decode cX8_struck 101 = .ok (.iinc 9 1, 3) := by decide +kernel
theorem dX8_struck_104 : decode cX8_struck 104 = .ok (.goto (-40), 3) := by decide +kernel
theorem dX8_struck_107 : decode cX8_struck 107 = .ok (.iload 7, 2) := by decide +kernel
theorem dX8_struck_109 : decode cX8_struck 109 = .ok (.iload_n 1, 1) := by decide +kernel
theorem dX8_struck_110 : decode cX8_struck 110 = .ok (.iconst (-1), 1) := by decide +kernel
theorem dX8_struck_111 : decode cX8_struck 111 = .ok (.ixor, 1) := by decide +kernel
theorem dX8_struck_112 : decode cX8_struck 112 = .ok (.iand, 1) := by decide +kernel
theorem dX8_struck_113 : decode cX8_struck 113 = .ok (.ifCond .ne 33, 3) := by decide +kernel
theorem dX8_struck_116 : decode cX8_struck 116 = .ok (.iload 8, 2) := by decide +kernel
theorem dX8_struck_118 : decode cX8_struck 118 = .ok (.iload_n 2, 1) := by decide +kernel
theorem dX8_struck_119 : decode cX8_struck 119 = .ok (.if_icmp .ne 27, 3) := by decide +kernel
theorem dX8_struck_122 : decode cX8_struck 122 = .ok (.iload 4, 2) := by decide +kernel
theorem dX8_struck_124 : decode cX8_struck 124 = .ok (.ifCond .ne 8, 3) := by decide +kernel
theorem dX8_struck_127 : decode cX8_struck 127 = .ok (.iload 7, 2) := by decide +kernel
theorem dX8_struck_129 : decode cX8_struck 129 = .ok (.goto 5, 3) := by decide +kernel
theorem dX8_struck_132 : decode cX8_struck 132 = .ok (.iload 5, 2) := by decide +kernel
theorem dX8_struck_134 : decode cX8_struck 134 = .ok (.istore 5, 2) := by decide +kernel
theorem dX8_struck_136 : decode cX8_struck 136 = .ok (.iinc 4 1, 3) := by decide +kernel
theorem dX8_struck_139 : decode cX8_struck 139 = .ok (.iload 6, 2) := by decide +kernel
theorem dX8_struck_141 : decode cX8_struck 141 = .ok (.iload 7, 2) := by decide +kernel
theorem dX8_struck_143 : decode cX8_struck 143 = .ok (.iand, 1) := by decide +kernel
theorem dX8_struck_144 : decode cX8_struck 144 = .ok (.istore 6, 2) := by decide +kernel
theorem dX8_struck_146 : decode cX8_struck 146 = .ok (.iinc 7 1, 3) := by decide +kernel
theorem dX8_struck_149 : decode cX8_struck 149 = .ok (.goto (-102), 3) := by decide +kernel
theorem dX8_struck_152 : decode cX8_struck 152 = .ok (.iload_n 3, 1) := by decide +kernel
theorem dX8_struck_153 : decode cX8_struck 153 = .ok (.ifCond .ne 8, 3) := by decide +kernel
theorem dX8_struck_156 : decode cX8_struck 156 = .ok (.iload 4, 2) := by decide +kernel
theorem dX8_struck_158 : decode cX8_struck 158 = .ok (.goto 25, 3) := by decide +kernel
theorem dX8_struck_161 : decode cX8_struck 161 = .ok (.iload 4, 2) := by decide +kernel
theorem dX8_struck_163 : decode cX8_struck 163 = .ok (.ifCond .ne 8, 3) := by decide +kernel
theorem dX8_struck_166 : decode cX8_struck 166 = .ok (.bipush (-4), 2) := by decide +kernel
theorem dX8_struck_168 : decode cX8_struck 168 = .ok (.goto 15, 3) := by decide +kernel
theorem dX8_struck_171 : decode cX8_struck 171 = .ok (.iload_n 3, 1) := by decide +kernel
theorem dX8_struck_172 : decode cX8_struck 172 = .ok (.iconst 1, 1) := by decide +kernel
theorem dX8_struck_173 : decode cX8_struck 173 = .ok (.if_icmp .ne 8, 3) := by decide +kernel
theorem dX8_struck_176 : decode cX8_struck 176 = .ok (.iload 5, 2) := by decide +kernel
theorem dX8_struck_178 : decode cX8_struck 178 = .ok (.goto 5, 3) := by decide +kernel
theorem dX8_struck_181 : decode cX8_struck 181 = .ok (.iload 6, 2) := by decide +kernel
theorem dX8_struck_183 : decode cX8_struck 183 = .ok (.ireturn, 1) := by decide +kernel
theorem dX8_bet_0 : decode cX8_bet 0 = .ok (.aload_n 0, 1) := by decide +kernel
theorem dX8_bet_1 : decode cX8_bet 1 = .ok (.iload_n 1, 1) := by decide +kernel
theorem dX8_bet_2 : decode cX8_bet 2 = .ok (.invokevirtual 107, 3) := by decide +kernel
theorem dX8_bet_5 : decode cX8_bet 5 = .ok (.ifCond .eq 15, 3) := by decide +kernel
theorem dX8_bet_8 : decode cX8_bet 8 = .ok (.iload_n 2, 1) := by decide +kernel
theorem dX8_bet_9 : decode cX8_bet 9 = .ok (.i2l, 1) := by decide +kernel
theorem dX8_bet_10 : decode cX8_bet 10 = .ok (.lconst 1, 1) := by decide +kernel
theorem dX8_bet_11 : decode cX8_bet 11 = .ok (.ldc2_w 281, 3) := by decide +kernel
theorem dX8_bet_14 : decode cX8_bet 14 = .ok (.invokestatic 75, 3) := by decide +kernel
theorem dX8_bet_17 : decode cX8_bet 17 = .ok (.ifCond .ne 5, 3) := by decide +kernel
theorem dX8_bet_20 : decode cX8_bet 20 = .ok (.iconst (-1), 1) := by decide +kernel
theorem dX8_bet_21 : decode cX8_bet 21 = .ok (.ireturn, 1) := by decide +kernel
theorem dX8_bet_22 : decode cX8_bet 22 = .ok (.aload_n 0, 1) := by decide +kernel
theorem dX8_bet_23 : decode cX8_bet 23 = .ok (.getfield 93, 3) := by decide +kernel
theorem dX8_bet_26 : decode cX8_bet 26 = .ok (.bipush 6, 2) := by decide +kernel
theorem dX8_bet_28 : decode cX8_bet 28 = .ok (.if_icmp .ne 6, 3) := by decide +kernel
theorem dX8_bet_31 : decode cX8_bet 31 = .ok (.bipush (-3), 2) := by decide +kernel
theorem dX8_bet_33 : decode cX8_bet 33 = .ok (.ireturn, 1) := by decide +kernel
theorem dX8_bet_34 : decode cX8_bet 34 = .ok (.aload_n 0, 1) := by decide +kernel
theorem dX8_bet_35 : decode cX8_bet 35 = .ok (.getfield 32, 3) := by decide +kernel
theorem dX8_bet_38 : decode cX8_bet 38 = .ok (.aload_n 0, 1) := by decide +kernel
theorem dX8_bet_39 : decode cX8_bet 39 = .ok (.getfield 93, 3) := by decide +kernel
theorem dX8_bet_42 : decode cX8_bet 42 = .ok (.iload_n 1, 1) := by decide +kernel
theorem dX8_bet_43 : decode cX8_bet 43 = .ok (.iastore, 1) := by decide +kernel
theorem dX8_bet_44 : decode cX8_bet 44 = .ok (.aload_n 0, 1) := by decide +kernel
theorem dX8_bet_45 : decode cX8_bet 45 = .ok (.getfield 35, 3) := by decide +kernel
theorem dX8_bet_48 : decode cX8_bet 48 = .ok (.aload_n 0, 1) := by decide +kernel
theorem dX8_bet_49 : decode cX8_bet 49 = .ok (.getfield 93, 3) := by decide +kernel
theorem dX8_bet_52 : decode cX8_bet 52 = .ok (.iload_n 2, 1) := by decide +kernel
theorem dX8_bet_53 : decode cX8_bet 53 = .ok (.iastore, 1) := by decide +kernel
theorem dX8_bet_54 : decode cX8_bet 54 = .ok (.aload_n 0, 1) := by decide +kernel
theorem dX8_bet_55 : decode cX8_bet 55 = .ok (.dup, 1) := by decide +kernel
theorem dX8_bet_56 : decode cX8_bet 56 = .ok (.getfield 93, 3) := by decide +kernel
theorem dX8_bet_59 : decode cX8_bet 59 = .ok (.iconst 1, 1) := by decide +kernel
theorem dX8_bet_60 : decode cX8_bet 60 = .ok (.iadd, 1) := by decide +kernel
theorem dX8_bet_61 : decode cX8_bet 61 = .ok (.putfield 93, 3) := by decide +kernel
theorem dX8_bet_64 : decode cX8_bet 64 = .ok (.aload_n 0, 1) := by decide +kernel
theorem dX8_bet_65 : decode cX8_bet 65 = .ok (.getfield 93, 3) := by decide +kernel
theorem dX8_bet_68 : decode cX8_bet 68 = .ok (.iconst 1, 1) := by decide +kernel
theorem dX8_bet_69 : decode cX8_bet 69 = .ok (.isub, 1) := by decide +kernel
theorem dX8_bet_70 : decode cX8_bet 70 = .ok (.ireturn, 1) := by decide +kernel
theorem dX8_pays_0 : decode cX8_pays 0 = .ok (.iload_n 1, 1) := by decide +kernel
theorem dX8_pays_1 : decode cX8_pays 1 = .ok (.i2l, 1) := by decide +kernel
theorem dX8_pays_2 : decode cX8_pays 2 = .ok (.lconst 0, 1) := by decide +kernel
theorem dX8_pays_3 : decode cX8_pays 3 = .ok (.aload_n 0, 1) := by decide +kernel
theorem dX8_pays_4 : decode cX8_pays 4 = .ok (.getfield 93, 3) := by decide +kernel
theorem dX8_pays_7 : decode cX8_pays 7 = .ok (.iconst 1, 1) := by decide +kernel
theorem dX8_pays_8 : decode cX8_pays 8 = .ok (.isub, 1) := by decide +kernel
theorem dX8_pays_9 : decode cX8_pays 9 = .ok (.i2l, 1) := by decide +kernel
theorem dX8_pays_10 : decode cX8_pays 10 = .ok (.invokestatic 75, 3) := by decide +kernel
theorem dX8_pays_13 : decode cX8_pays 13 = .ok (.ifCond .eq 11, 3) := by decide +kernel
theorem dX8_pays_16 : decode cX8_pays 16 = .ok (.aload_n 0, 1) := by decide +kernel
theorem dX8_pays_17 : decode cX8_pays 17 = .ok (.iload_n 2, 1) := by decide +kernel
theorem dX8_pays_18 : decode cX8_pays 18 = .ok (.invokevirtual 271, 3) := by decide +kernel
theorem dX8_pays_21 : decode cX8_pays 21 = .ok (.ifCond .ne 5, 3) := by decide +kernel
theorem dX8_pays_24 : decode cX8_pays 24 = .ok (.iconst (-1), 1) := by decide +kernel
theorem dX8_pays_25 : decode cX8_pays 25 = .ok (.ireturn, 1) := by decide +kernel
theorem dX8_pays_26 : decode cX8_pays 26 = .ok (.iconst 0, 1) := by decide +kernel
theorem dX8_pays_27 : decode cX8_pays 27 = .ok (.istore_n 3, 1) := by decide +kernel
theorem dX8_pays_28 : decode cX8_pays 28 = .ok (.iconst 0, 1) := by decide +kernel
theorem dX8_pays_29 : decode cX8_pays 29 = .ok (.istore 4, 2) := by decide +kernel
theorem dX8_pays_31 : decode cX8_pays 31 = .ok (.iconst 0, 1) := by decide +kernel
theorem dX8_pays_32 : decode cX8_pays 32 = .ok (.istore 5, 2) := by decide +kernel
theorem dX8_pays_34 : decode cX8_pays 34 = .ok (.iload 5, 2) := by decide +kernel
theorem dX8_pays_36 : decode cX8_pays 36 = .ok (.aload_n 0, 1) := by decide +kernel
theorem dX8_pays_37 : decode cX8_pays 37 = .ok (.getfield 93, 3) := by decide +kernel
theorem dX8_pays_40 : decode cX8_pays 40 = .ok (.if_icmp .ge 49, 3) := by decide +kernel
theorem dX8_pays_43 : decode cX8_pays 43 = .ok (.iload_n 3, 1) := by decide +kernel
theorem dX8_pays_44 : decode cX8_pays 44 = .ok (.aload_n 0, 1) := by decide +kernel
theorem dX8_pays_45 : decode cX8_pays 45 = .ok (.getfield 35, 3) := by decide +kernel
theorem dX8_pays_48 : decode cX8_pays 48 = .ok (.iload 5, 2) := by decide +kernel
theorem dX8_pays_50 : decode cX8_pays 50 = .ok (.iaload, 1) := by decide +kernel
theorem dX8_pays_51 : decode cX8_pays 51 = .ok (.iadd, 1) := by decide +kernel
theorem dX8_pays_52 : decode cX8_pays 52 = .ok (.istore_n 3, 1) := by decide +kernel
theorem dX8_pays_53 : decode cX8_pays 53 = .ok (.iload 4, 2) := by decide +kernel
theorem dX8_pays_55 : decode cX8_pays 55 = .ok (.iload_n 2, 1) := by decide +kernel
theorem dX8_pays_56 : decode cX8_pays 56 = .ok (.aload_n 0, 1) := by decide +kernel
theorem dX8_pays_57 : decode cX8_pays 57 = .ok (.getfield 32, 3) := by decide +kernel
theorem dX8_pays_60 : decode cX8_pays 60 = .ok (.iload 5, 2) := by decide +kernel
theorem dX8_pays_62 : decode cX8_pays 62 = .ok (.iaload, 1) := by decide +kernel
theorem dX8_pays_63 : decode cX8_pays 63 = .ok (.invokestatic 278, 3) := by decide +kernel
theorem dX8_pays_66 : decode cX8_pays 66 = .ok (.ifCond .eq 13, 3) := by decide +kernel
theorem dX8_pays_69 : decode cX8_pays 69 = .ok (.aload_n 0, 1) := by decide +kernel
theorem dX8_pays_70 : decode cX8_pays 70 = .ok (.getfield 35, 3) := by decide +kernel
theorem dX8_pays_73 : decode cX8_pays 73 = .ok (.iload 5, 2) := by decide +kernel
theorem dX8_pays_75 : decode cX8_pays 75 = .ok (.iaload, 1) := by decide +kernel
theorem dX8_pays_76 : decode cX8_pays 76 = .ok (.goto 4, 3) := by decide +kernel
theorem dX8_pays_79 : decode cX8_pays 79 = .ok (.iconst 0, 1) := by decide +kernel
theorem dX8_pays_80 : decode cX8_pays 80 = .ok (.iadd, 1) := by decide +kernel
theorem dX8_pays_81 : decode cX8_pays 81 = .ok (.istore 4, 2) := by decide +kernel
theorem dX8_pays_83 : decode cX8_pays 83 = .ok (.iinc 5 1, 3) := by decide +kernel
theorem dX8_pays_86 : decode cX8_pays 86 = .ok (.goto (-52), 3) := by decide +kernel
theorem dX8_pays_89 : decode cX8_pays 89 = .ok (.iload 4, 2) := by decide +kernel
theorem dX8_pays_91 : decode cX8_pays 91 = .ok (.ifCond .ne 12, 3) := by decide +kernel
theorem dX8_pays_94 : decode cX8_pays 94 = .ok (.aload_n 0, 1) := by decide +kernel
theorem dX8_pays_95 : decode cX8_pays 95 = .ok (.getfield 35, 3) := by decide +kernel
theorem dX8_pays_98 : decode cX8_pays 98 = .ok (.iload_n 1, 1) := by decide +kernel
theorem dX8_pays_99 : decode cX8_pays 99 = .ok (.iaload, 1) := by decide +kernel
theorem dX8_pays_100 : decode cX8_pays 100 = .ok (.goto 31, 3) := by decide +kernel
theorem dX8_pays_103 : decode cX8_pays 103 = .ok (.iload_n 2, 1) := by decide +kernel
theorem dX8_pays_104 : decode cX8_pays 104 = .ok (.aload_n 0, 1) := by decide +kernel
theorem dX8_pays_105 : decode cX8_pays 105 = .ok (.getfield 32, 3) := by decide +kernel
theorem dX8_pays_108 : decode cX8_pays 108 = .ok (.iload_n 1, 1) := by decide +kernel
theorem dX8_pays_109 : decode cX8_pays 109 = .ok (.iaload, 1) := by decide +kernel
theorem dX8_pays_110 : decode cX8_pays 110 = .ok (.invokestatic 278, 3) := by decide +kernel
theorem dX8_pays_113 : decode cX8_pays 113 = .ok (.ifCond .eq 17, 3) := by decide +kernel
theorem dX8_pays_116 : decode cX8_pays 116 = .ok (.iload_n 3, 1) := by decide +kernel
theorem dX8_pays_117 : decode cX8_pays 117 = .ok (.aload_n 0, 1) := by decide +kernel
theorem dX8_pays_118 : decode cX8_pays 118 = .ok (.getfield 35, 3) := by decide +kernel
theorem dX8_pays_121 : decode cX8_pays 121 = .ok (.iload_n 1, 1) := by decide +kernel
theorem dX8_pays_122 : decode cX8_pays 122 = .ok (.iaload, 1) := by decide +kernel
theorem dX8_pays_123 : decode cX8_pays 123 = .ok (.imul, 1) := by decide +kernel
theorem dX8_pays_124 : decode cX8_pays 124 = .ok (.iload 4, 2) := by decide +kernel
theorem dX8_pays_126 : decode cX8_pays 126 = .ok (.idiv, 1) := by decide +kernel
theorem dX8_pays_127 : decode cX8_pays 127 = .ok (.goto 4, 3) := by decide +kernel
theorem dX8_pays_130 : decode cX8_pays 130 = .ok (.iconst 0, 1) := by decide +kernel
theorem dX8_pays_131 : decode cX8_pays 131 = .ok (.ireturn, 1) := by decide +kernel
theorem dX8_settle_0 : decode cX8_settle 0 = .ok (.aload_n 0, 1) := by decide +kernel
theorem dX8_settle_1 : decode cX8_settle 1 = .ok (.getfield 93, 3) := by decide +kernel
theorem dX8_settle_4 : decode cX8_settle 4 = .ok (.istore_n 1, 1) := by decide +kernel
theorem dX8_settle_5 : decode cX8_settle 5 = .ok (.aload_n 0, 1) := by decide +kernel
theorem dX8_settle_6 : decode cX8_settle 6 = .ok (.iconst 0, 1) := by decide +kernel
theorem dX8_settle_7 : decode cX8_settle 7 = .ok (.putfield 93, 3) := by decide +kernel
theorem dX8_settle_10 : decode cX8_settle 10 = .ok (.iload_n 1, 1) := by decide +kernel
theorem dX8_settle_11 : decode cX8_settle 11 = .ok (.ireturn, 1) := by decide +kernel
theorem dX8_lots_0 : decode cX8_lots 0 = .ok (.iload_n 1, 1) := by decide +kernel
theorem dX8_lots_1 : decode cX8_lots 1 = .ok (.i2l, 1) := by decide +kernel
theorem dX8_lots_2 : decode cX8_lots 2 = .ok (.lconst 1, 1) := by decide +kernel
theorem dX8_lots_3 : decode cX8_lots 3 = .ok (.ldc2_w 283, 3) := by decide +kernel
theorem dX8_lots_6 : decode cX8_lots 6 = .ok (.invokestatic 75, 3) := by decide +kernel
theorem dX8_lots_9 : decode cX8_lots 9 = .ok (.ifCond .ne 5, 3) := by decide +kernel
theorem dX8_lots_12 : decode cX8_lots 12 = .ok (.iconst (-1), 1) := by decide +kernel
theorem dX8_lots_13 : decode cX8_lots 13 = .ok (.ireturn, 1) := by decide +kernel
theorem dX8_lots_14 : decode cX8_lots 14 = .ok (.aload_n 0, 1) := by decide +kernel
theorem dX8_lots_15 : decode cX8_lots 15 = .ok (.getfield 7, 3) := by decide +kernel
theorem dX8_lots_18 : decode cX8_lots 18 = .ok (.bipush 60, 2) := by decide +kernel
theorem dX8_lots_20 : decode cX8_lots 20 = .ok (.iaload, 1) := by decide +kernel
theorem dX8_lots_21 : decode cX8_lots 21 = .ok (.iload_n 1, 1) := by decide +kernel
theorem dX8_lots_22 : decode cX8_lots 22 = .ok (.iadd, 1) := by decide +kernel
theorem dX8_lots_23 : decode cX8_lots 23 = .ok (.sipush 9999, 3) := by decide +kernel
theorem dX8_lots_26 : decode cX8_lots 26 = .ok (.if_icmp .le 6, 3) := by decide +kernel
theorem dX8_lots_29 : decode cX8_lots 29 = .ok (.bipush (-3), 2) := by decide +kernel
theorem dX8_lots_31 : decode cX8_lots 31 = .ok (.ireturn, 1) := by decide +kernel
theorem dX8_lots_32 : decode cX8_lots 32 = .ok (.iconst 0, 1) := by decide +kernel
theorem dX8_lots_33 : decode cX8_lots 33 = .ok (.istore_n 2, 1) := by decide +kernel
theorem dX8_lots_34 : decode cX8_lots 34 = .ok (.iconst 0, 1) := by decide +kernel
theorem dX8_lots_35 : decode cX8_lots 35 = .ok (.istore_n 3, 1) := by decide +kernel
theorem dX8_lots_36 : decode cX8_lots 36 = .ok (.iload_n 3, 1) := by decide +kernel
theorem dX8_lots_37 : decode cX8_lots 37 = .ok (.iload_n 1, 1) := by decide +kernel
theorem dX8_lots_38 : decode cX8_lots 38 = .ok (.if_icmp .ge 48, 3) := by decide +kernel
theorem dX8_lots_41 : decode cX8_lots 41 = .ok (.aload_n 0, 1) := by decide +kernel
theorem dX8_lots_42 : decode cX8_lots 42 = .ok (.aload_n 0, 1) := by decide +kernel
theorem dX8_lots_43 : decode cX8_lots 43 = .ok (.getfield 41, 3) := by decide +kernel
theorem dX8_lots_46 : decode cX8_lots 46 = .ok (.i2l, 1) := by decide +kernel
theorem dX8_lots_47 : decode cX8_lots 47 = .ok (.ldc2_w 285, 3) := by decide +kernel
theorem dX8_lots_50 : decode cX8_lots 50 = .ok (.lmul, 1) := by decide +kernel
theorem dX8_lots_51 : decode cX8_lots 51 = .ok (.ldc2_w 287, 3) := by decide +kernel
theorem dX8_lots_54 : decode cX8_lots 54 = .ok (.ladd, 1) := by decide +kernel
theorem dX8_lots_55 : decode cX8_lots 55 = .ok (.ldc2_w 289, 3) := by decide +kernel
theorem dX8_lots_58 : decode cX8_lots 58 = .ok (.land, 1) := by decide +kernel
theorem dX8_lots_59 : decode cX8_lots 59 = .ok (.l2i, 1) := by decide +kernel
theorem dX8_lots_60 : decode cX8_lots 60 = .ok (.putfield 41, 3) := by decide +kernel
theorem dX8_lots_63 : decode cX8_lots 63 = .ok (.iload_n 2, 1) := by decide +kernel
theorem dX8_lots_64 : decode cX8_lots 64 = .ok (.aload_n 0, 1) := by decide +kernel
theorem dX8_lots_65 : decode cX8_lots 65 = .ok (.aload_n 0, 1) := by decide +kernel
theorem dX8_lots_66 : decode cX8_lots 66 = .ok (.getfield 41, 3) := by decide +kernel
theorem dX8_lots_69 : decode cX8_lots 69 = .ok (.ldc_w 291, 3) := by decide +kernel
theorem dX8_lots_72 : decode cX8_lots 72 = .ok (.idiv, 1) := by decide +kernel
theorem dX8_lots_73 : decode cX8_lots 73 = .ok (.iconst 4, 1) := by decide +kernel
theorem dX8_lots_74 : decode cX8_lots 74 = .ok (.irem, 1) := by decide +kernel
theorem dX8_lots_75 : decode cX8_lots 75 = .ok (.invokevirtual 226, 3) := by decide +kernel
theorem dX8_lots_78 : decode cX8_lots 78 = .ok (.iadd, 1) := by decide +kernel
theorem dX8_lots_79 : decode cX8_lots 79 = .ok (.istore_n 2, 1) := by decide +kernel
theorem dX8_lots_80 : decode cX8_lots 80 = .ok (.iinc 3 1, 3) := by decide +kernel
theorem dX8_lots_83 : decode cX8_lots 83 = .ok (.goto (-47), 3) := by decide +kernel
theorem dX8_lots_86 : decode cX8_lots 86 = .ok (.iload_n 2, 1) := by decide +kernel
theorem dX8_lots_87 : decode cX8_lots 87 = .ok (.ireturn, 1) := by decide +kernel
theorem dX8_seed_0 : decode cX8_seed 0 = .ok (.iload_n 1, 1) := by decide +kernel
theorem dX8_seed_1 : decode cX8_seed 1 = .ok (.ifCond .ge 5, 3) := by decide +kernel
theorem dX8_seed_4 : decode cX8_seed 4 = .ok (.iconst (-1), 1) := by decide +kernel
theorem dX8_seed_5 : decode cX8_seed 5 = .ok (.ireturn, 1) := by decide +kernel
theorem dX8_seed_6 : decode cX8_seed 6 = .ok (.aload_n 0, 1) := by decide +kernel
theorem dX8_seed_7 : decode cX8_seed 7 = .ok (.getfield 41, 3) := by decide +kernel
theorem dX8_seed_10 : decode cX8_seed 10 = .ok (.istore_n 2, 1) := by decide +kernel
theorem dX8_seed_11 : decode cX8_seed 11 = .ok (.aload_n 0, 1) := by decide +kernel
theorem dX8_seed_12 : decode cX8_seed 12 = .ok (.iload_n 1, 1) := by decide +kernel
theorem dX8_seed_13 : decode cX8_seed 13 = .ok (.putfield 41, 3) := by decide +kernel
theorem dX8_seed_16 : decode cX8_seed 16 = .ok (.iload_n 2, 1) := by decide +kernel
theorem dX8_seed_17 : decode cX8_seed 17 = .ok (.ireturn, 1) := by decide +kernel
theorem dX8_carried_0 : decode cX8_carried 0 = .ok (.iload_n 1, 1) := by decide +kernel
theorem dX8_carried_1 : decode cX8_carried 1 = .ok (.bipush 63, 2) := by decide +kernel
theorem dX8_carried_3 : decode cX8_carried 3 = .ok (.if_icmp .ge 30, 3) := by decide +kernel
theorem dX8_carried_6 : decode cX8_carried 6 = .ok (.aload_n 0, 1) := by decide +kernel
theorem dX8_carried_7 : decode cX8_carried 7 = .ok (.getfield 7, 3) := by decide +kernel
theorem dX8_carried_10 : decode cX8_carried 10 = .ok (.iload_n 1, 1) := by decide +kernel
theorem dX8_carried_11 : decode cX8_carried 11 = .ok (.iload_n 3, 1) := by decide +kernel
theorem dX8_carried_12 : decode cX8_carried 12 = .ok (.ifCond .eq 7, 3) := by decide +kernel
theorem dX8_carried_15 : decode cX8_carried 15 = .ok (.iload_n 2, 1) := by decide +kernel
theorem dX8_carried_16 : decode cX8_carried 16 = .ok (.goto 9, 3) := by decide +kernel
theorem dX8_carried_19 : decode cX8_carried 19 = .ok (.aload_n 0, 1) := by decide +kernel
theorem dX8_carried_20 : decode cX8_carried 20 = .ok (.getfield 7, 3) := by decide +kernel
theorem dX8_carried_23 : decode cX8_carried 23 = .ok (.iload_n 1, 1) := by decide +kernel
theorem dX8_carried_24 : decode cX8_carried 24 = .ok (.iaload, 1) := by decide +kernel
theorem dX8_carried_25 : decode cX8_carried 25 = .ok (.iastore, 1) := by decide +kernel
theorem dX8_carried_26 : decode cX8_carried 26 = .ok (.aload_n 0, 1) := by decide +kernel
theorem dX8_carried_27 : decode cX8_carried 27 = .ok (.getfield 7, 3) := by decide +kernel
theorem dX8_carried_30 : decode cX8_carried 30 = .ok (.iload_n 1, 1) := by decide +kernel
theorem dX8_carried_31 : decode cX8_carried 31 = .ok (.iaload, 1) := by decide +kernel
theorem dX8_carried_32 : decode cX8_carried 32 = .ok (.ireturn, 1) := by decide +kernel
theorem dX8_carried_33 : decode cX8_carried 33 = .ok (.iload_n 1, 1) := by decide +kernel
theorem dX8_carried_34 : decode cX8_carried 34 = .ok (.bipush 81, 2) := by decide +kernel
theorem dX8_carried_36 : decode cX8_carried 36 = .ok (.if_icmp .ge 92, 3) := by decide +kernel
theorem dX8_carried_39 : decode cX8_carried 39 = .ok (.iload_n 1, 1) := by decide +kernel
theorem dX8_carried_40 : decode cX8_carried 40 = .ok (.bipush 63, 2) := by decide +kernel
theorem dX8_carried_42 : decode cX8_carried 42 = .ok (.isub, 1) := by decide +kernel
theorem dX8_carried_43 : decode cX8_carried 43 = .ok (.bipush 9, 2) := by decide +kernel
theorem dX8_carried_45 : decode cX8_carried 45 = .ok (.irem, 1) := by decide +kernel
theorem dX8_carried_46 : decode cX8_carried 46 = .ok (.istore 4, 2) := by decide +kernel
theorem dX8_carried_48 : decode cX8_carried 48 = .ok (.aload_n 0, 1) := by decide +kernel
theorem dX8_carried_49 : decode cX8_carried 49 = .ok (.getfield 13, 3) := by decide +kernel
theorem dX8_carried_52 : decode cX8_carried 52 = .ok (.iload 4, 2) := by decide +kernel
theorem dX8_carried_54 : decode cX8_carried 54 = .ok (.iload_n 3, 1) := by decide +kernel
theorem dX8_carried_55 : decode cX8_carried 55 = .ok (.ifCond .eq 13, 3) := by decide +kernel
theorem dX8_carried_58 : decode cX8_carried 58 = .ok (.iload_n 1, 1) := by decide +kernel
theorem dX8_carried_59 : decode cX8_carried 59 = .ok (.bipush 72, 2) := by decide +kernel
theorem dX8_carried_61 : decode cX8_carried 61 = .ok (.if_icmp .ge 7, 3) := by decide +kernel
theorem dX8_carried_64 : decode cX8_carried 64 = .ok (.iload_n 2, 1) := by decide +kernel
theorem dX8_carried_65 : decode cX8_carried 65 = .ok (.goto 10, 3) := by decide +kernel
theorem dX8_carried_68 : decode cX8_carried 68 = .ok (.aload_n 0, 1) := by decide +kernel
theorem dX8_carried_69 : decode cX8_carried 69 = .ok (.getfield 13, 3) := by decide +kernel
theorem dX8_carried_72 : decode cX8_carried 72 = .ok (.iload 4, 2) := by decide +kernel
theorem dX8_carried_74 : decode cX8_carried 74 = .ok (.iaload, 1) := by decide +kernel
theorem dX8_carried_75 : decode cX8_carried 75 = .ok (.iastore, 1) := by decide +kernel
theorem dX8_carried_76 : decode cX8_carried 76 = .ok (.aload_n 0, 1) := by decide +kernel
theorem dX8_carried_77 : decode cX8_carried 77 = .ok (.getfield 16, 3) := by decide +kernel
theorem dX8_carried_80 : decode cX8_carried 80 = .ok (.iload 4, 2) := by decide +kernel
theorem dX8_carried_82 : decode cX8_carried 82 = .ok (.iload_n 3, 1) := by decide +kernel
theorem dX8_carried_83 : decode cX8_carried 83 = .ok (.ifCond .eq 13, 3) := by decide +kernel
theorem dX8_carried_86 : decode cX8_carried 86 = .ok (.iload_n 1, 1) := by decide +kernel
theorem dX8_carried_87 : decode cX8_carried 87 = .ok (.bipush 72, 2) := by decide +kernel
theorem dX8_carried_89 : decode cX8_carried 89 = .ok (.if_icmp .lt 7, 3) := by decide +kernel
theorem dX8_carried_92 : decode cX8_carried 92 = .ok (.iload_n 2, 1) := by decide +kernel
theorem dX8_carried_93 : decode cX8_carried 93 = .ok (.goto 10, 3) := by decide +kernel
theorem dX8_carried_96 : decode cX8_carried 96 = .ok (.aload_n 0, 1) := by decide +kernel
theorem dX8_carried_97 : decode cX8_carried 97 = .ok (.getfield 16, 3) := by decide +kernel
theorem dX8_carried_100 : decode cX8_carried 100 = .ok (.iload 4, 2) := by decide +kernel
theorem dX8_carried_102 : decode cX8_carried 102 = .ok (.iaload, 1) := by decide +kernel
theorem dX8_carried_103 : decode cX8_carried 103 = .ok (.iastore, 1) := by decide +kernel
theorem dX8_carried_104 : decode cX8_carried 104 = .ok (.iload_n 1, 1) := by decide +kernel
theorem dX8_carried_105 : decode cX8_carried 105 = .ok (.bipush 72, 2) := by decide +kernel
theorem dX8_carried_107 : decode cX8_carried 107 = .ok (.if_icmp .ge 13, 3) := by decide +kernel
theorem dX8_carried_110 : decode cX8_carried 110 = .ok (.aload_n 0, 1) := by decide +kernel
theorem dX8_carried_111 : decode cX8_carried 111 = .ok (.getfield 13, 3) := by decide +kernel
theorem dX8_carried_114 : decode cX8_carried 114 = .ok (.iload 4, 2) := by decide +kernel
theorem dX8_carried_116 : decode cX8_carried 116 = .ok (.iaload, 1) := by decide +kernel
theorem dX8_carried_117 : decode cX8_carried 117 = .ok (.goto 10, 3) := by decide +kernel
theorem dX8_carried_120 : decode cX8_carried 120 = .ok (.aload_n 0, 1) := by decide +kernel
theorem dX8_carried_121 : decode cX8_carried 121 = .ok (.getfield 16, 3) := by decide +kernel
theorem dX8_carried_124 : decode cX8_carried 124 = .ok (.iload 4, 2) := by decide +kernel
theorem dX8_carried_126 : decode cX8_carried 126 = .ok (.iaload, 1) := by decide +kernel
theorem dX8_carried_127 : decode cX8_carried 127 = .ok (.ireturn, 1) := by decide +kernel
theorem dX8_carried_128 : decode cX8_carried 128 = .ok (.iload_n 1, 1) := by decide +kernel
theorem dX8_carried_129 : decode cX8_carried 129 = .ok (.bipush 93, 2) := by decide +kernel
theorem dX8_carried_131 : decode cX8_carried 131 = .ok (.if_icmp .ge 39, 3) := by decide +kernel
theorem dX8_carried_134 : decode cX8_carried 134 = .ok (.aload_n 0, 1) := by decide +kernel
theorem dX8_carried_135 : decode cX8_carried 135 = .ok (.getfield 23, 3) := by decide +kernel
theorem dX8_carried_138 : decode cX8_carried 138 = .ok (.iload_n 1, 1) := by decide +kernel
theorem dX8_carried_139 : decode cX8_carried 139 = .ok (.bipush 81, 2) := by decide +kernel
theorem dX8_carried_141 : decode cX8_carried 141 = .ok (.isub, 1) := by decide +kernel
theorem dX8_carried_142 : decode cX8_carried 142 = .ok (.iload_n 3, 1) := by decide +kernel
theorem dX8_carried_143 : decode cX8_carried 143 = .ok (.ifCond .eq 7, 3) := by decide +kernel
theorem dX8_carried_146 : decode cX8_carried 146 = .ok (.iload_n 2, 1) := by decide +kernel
theorem dX8_carried_147 : decode cX8_carried 147 = .ok (.goto 12, 3) := by decide +kernel
theorem dX8_carried_150 : decode cX8_carried 150 = .ok (.aload_n 0, 1) := by decide +kernel
theorem dX8_carried_151 : decode cX8_carried 151 = .ok (.getfield 23, 3) := by decide +kernel
theorem dX8_carried_154 : decode cX8_carried 154 = .ok (.iload_n 1, 1) := by decide +kernel
theorem dX8_carried_155 : decode cX8_carried 155 = .ok (.bipush 81, 2) := by decide +kernel
theorem dX8_carried_157 : decode cX8_carried 157 = .ok (.isub, 1) := by decide +kernel
theorem dX8_carried_158 : decode cX8_carried 158 = .ok (.iaload, 1) := by decide +kernel
theorem dX8_carried_159 : decode cX8_carried 159 = .ok (.iastore, 1) := by decide +kernel
theorem dX8_carried_160 : decode cX8_carried 160 = .ok (.aload_n 0, 1) := by decide +kernel
theorem dX8_carried_161 : decode cX8_carried 161 = .ok (.getfield 23, 3) := by decide +kernel
theorem dX8_carried_164 : decode cX8_carried 164 = .ok (.iload_n 1, 1) := by decide +kernel
theorem dX8_carried_165 : decode cX8_carried 165 = .ok (.bipush 81, 2) := by decide +kernel
theorem dX8_carried_167 : decode cX8_carried 167 = .ok (.isub, 1) := by decide +kernel
theorem dX8_carried_168 : decode cX8_carried 168 = .ok (.iaload, 1) := by decide +kernel
theorem dX8_carried_169 : decode cX8_carried 169 = .ok (.ireturn, 1) := by decide +kernel
theorem dX8_carried_170 : decode cX8_carried 170 = .ok (.iload_n 1, 1) := by decide +kernel
theorem dX8_carried_171 : decode cX8_carried 171 = .ok (.bipush 105, 2) := by decide +kernel
theorem dX8_carried_173 : decode cX8_carried 173 = .ok (.if_icmp .ge 92, 3) := by decide +kernel
theorem dX8_carried_176 : decode cX8_carried 176 = .ok (.iload_n 1, 1) := by decide +kernel
theorem dX8_carried_177 : decode cX8_carried 177 = .ok (.bipush 93, 2) := by decide +kernel
theorem dX8_carried_179 : decode cX8_carried 179 = .ok (.isub, 1) := by decide +kernel
theorem dX8_carried_180 : decode cX8_carried 180 = .ok (.bipush 6, 2) := by decide +kernel
theorem dX8_carried_182 : decode cX8_carried 182 = .ok (.irem, 1) := by decide +kernel
theorem dX8_carried_183 : decode cX8_carried 183 = .ok (.istore 4, 2) := by decide +kernel
theorem dX8_carried_185 : decode cX8_carried 185 = .ok (.aload_n 0, 1) := by decide +kernel
theorem dX8_carried_186 : decode cX8_carried 186 = .ok (.getfield 32, 3) := by decide +kernel
theorem dX8_carried_189 : decode cX8_carried 189 = .ok (.iload 4, 2) := by decide +kernel
theorem dX8_carried_191 : decode cX8_carried 191 = .ok (.iload_n 3, 1) := by decide +kernel
theorem dX8_carried_192 : decode cX8_carried 192 = .ok (.ifCond .eq 13, 3) := by decide +kernel
theorem dX8_carried_195 : decode cX8_carried 195 = .ok (.iload_n 1, 1) := by decide +kernel
theorem dX8_carried_196 : decode cX8_carried 196 = .ok (.bipush 99, 2) := by decide +kernel
theorem dX8_carried_198 : decode cX8_carried 198 = .ok (.if_icmp .ge 7, 3) := by decide +kernel
theorem dX8_carried_201 : decode cX8_carried 201 = .ok (.iload_n 2, 1) := by decide +kernel
theorem dX8_carried_202 : decode cX8_carried 202 = .ok (.goto 10, 3) := by decide +kernel
theorem dX8_carried_205 : decode cX8_carried 205 = .ok (.aload_n 0, 1) := by decide +kernel
theorem dX8_carried_206 : decode cX8_carried 206 = .ok (.getfield 32, 3) := by decide +kernel
theorem dX8_carried_209 : decode cX8_carried 209 = .ok (.iload 4, 2) := by decide +kernel
theorem dX8_carried_211 : decode cX8_carried 211 = .ok (.iaload, 1) := by decide +kernel
theorem dX8_carried_212 : decode cX8_carried 212 = .ok (.iastore, 1) := by decide +kernel
theorem dX8_carried_213 : decode cX8_carried 213 = .ok (.aload_n 0, 1) := by decide +kernel
theorem dX8_carried_214 : decode cX8_carried 214 = .ok (.getfield 35, 3) := by decide +kernel
theorem dX8_carried_217 : decode cX8_carried 217 = .ok (.iload 4, 2) := by decide +kernel
theorem dX8_carried_219 : decode cX8_carried 219 = .ok (.iload_n 3, 1) := by decide +kernel
theorem dX8_carried_220 : decode cX8_carried 220 = .ok (.ifCond .eq 13, 3) := by decide +kernel
theorem dX8_carried_223 : decode cX8_carried 223 = .ok (.iload_n 1, 1) := by decide +kernel
theorem dX8_carried_224 : decode cX8_carried 224 = .ok (.bipush 99, 2) := by decide +kernel
theorem dX8_carried_226 : decode cX8_carried 226 = .ok (.if_icmp .lt 7, 3) := by decide +kernel
theorem dX8_carried_229 : decode cX8_carried 229 = .ok (.iload_n 2, 1) := by decide +kernel
theorem dX8_carried_230 : decode cX8_carried 230 = .ok (.goto 10, 3) := by decide +kernel
theorem dX8_carried_233 : decode cX8_carried 233 = .ok (.aload_n 0, 1) := by decide +kernel
theorem dX8_carried_234 : decode cX8_carried 234 = .ok (.getfield 35, 3) := by decide +kernel
theorem dX8_carried_237 : decode cX8_carried 237 = .ok (.iload 4, 2) := by decide +kernel
theorem dX8_carried_239 : decode cX8_carried 239 = .ok (.iaload, 1) := by decide +kernel
theorem dX8_carried_240 : decode cX8_carried 240 = .ok (.iastore, 1) := by decide +kernel
theorem dX8_carried_241 : decode cX8_carried 241 = .ok (.iload_n 1, 1) := by decide +kernel
theorem dX8_carried_242 : decode cX8_carried 242 = .ok (.bipush 99, 2) := by decide +kernel
theorem dX8_carried_244 : decode cX8_carried 244 = .ok (.if_icmp .ge 13, 3) := by decide +kernel
theorem dX8_carried_247 : decode cX8_carried 247 = .ok (.aload_n 0, 1) := by decide +kernel
theorem dX8_carried_248 : decode cX8_carried 248 = .ok (.getfield 32, 3) := by decide +kernel
theorem dX8_carried_251 : decode cX8_carried 251 = .ok (.iload 4, 2) := by decide +kernel
theorem dX8_carried_253 : decode cX8_carried 253 = .ok (.iaload, 1) := by decide +kernel
theorem dX8_carried_254 : decode cX8_carried 254 = .ok (.goto 10, 3) := by decide +kernel
theorem dX8_carried_257 : decode cX8_carried 257 = .ok (.aload_n 0, 1) := by decide +kernel
theorem dX8_carried_258 : decode cX8_carried 258 = .ok (.getfield 35, 3) := by decide +kernel
theorem dX8_carried_261 : decode cX8_carried 261 = .ok (.iload 4, 2) := by decide +kernel
theorem dX8_carried_263 : decode cX8_carried 263 = .ok (.iaload, 1) := by decide +kernel
theorem dX8_carried_264 : decode cX8_carried 264 = .ok (.ireturn, 1) := by decide +kernel
theorem dX8_carried_265 : decode cX8_carried 265 = .ok (.iload_n 1, 1) := by decide +kernel
theorem dX8_carried_266 : decode cX8_carried 266 = .ok (.sipush 135, 3) := by decide +kernel
theorem dX8_carried_269 : decode cX8_carried 269 = .ok (.if_icmp .ge 39, 3) := by decide +kernel
theorem dX8_carried_272 : decode cX8_carried 272 = .ok (.aload_n 0, 1) := by decide +kernel
theorem dX8_carried_273 : decode cX8_carried 273 = .ok (.getfield 38, 3) := by decide +kernel
theorem dX8_carried_276 : decode cX8_carried 276 = .ok (.iload_n 1, 1) := by decide +kernel
theorem dX8_carried_277 : decode cX8_carried 277 = .ok (.bipush 105, 2) := by decide +kernel
theorem dX8_carried_279 : decode cX8_carried 279 = .ok (.isub, 1) := by decide +kernel
theorem dX8_carried_280 : decode cX8_carried 280 = .ok (.iload_n 3, 1) := by decide +kernel
theorem dX8_carried_281 : decode cX8_carried 281 = .ok (.ifCond .eq 7, 3) := by decide +kernel
theorem dX8_carried_284 : decode cX8_carried 284 = .ok (.iload_n 2, 1) := by decide +kernel
theorem dX8_carried_285 : decode cX8_carried 285 = .ok (.goto 12, 3) := by decide +kernel
theorem dX8_carried_288 : decode cX8_carried 288 = .ok (.aload_n 0, 1) := by decide +kernel
theorem dX8_carried_289 : decode cX8_carried 289 = .ok (.getfield 38, 3) := by decide +kernel
theorem dX8_carried_292 : decode cX8_carried 292 = .ok (.iload_n 1, 1) := by decide +kernel
theorem dX8_carried_293 : decode cX8_carried 293 = .ok (.bipush 105, 2) := by decide +kernel
theorem dX8_carried_295 : decode cX8_carried 295 = .ok (.isub, 1) := by decide +kernel
theorem dX8_carried_296 : decode cX8_carried 296 = .ok (.iaload, 1) := by decide +kernel
theorem dX8_carried_297 : decode cX8_carried 297 = .ok (.iastore, 1) := by decide +kernel
theorem dX8_carried_298 : decode cX8_carried 298 = .ok (.aload_n 0, 1) := by decide +kernel
theorem dX8_carried_299 : decode cX8_carried 299 = .ok (.getfield 38, 3) := by decide +kernel
theorem dX8_carried_302 : decode cX8_carried 302 = .ok (.iload_n 1, 1) := by decide +kernel
theorem dX8_carried_303 : decode cX8_carried 303 = .ok (.bipush 105, 2) := by decide +kernel
theorem dX8_carried_305 : decode cX8_carried 305 = .ok (.isub, 1) := by decide +kernel
theorem dX8_carried_306 : decode cX8_carried 306 = .ok (.iaload, 1) := by decide +kernel
theorem dX8_carried_307 : decode cX8_carried 307 = .ok (.ireturn, 1) := by decide +kernel
theorem dX8_carried_308 : decode cX8_carried 308 = .ok (.aload_n 0, 1) := by decide +kernel
theorem dX8_carried_309 : decode cX8_carried 309 = .ok (.iload_n 3, 1) := by decide +kernel
theorem dX8_carried_310 : decode cX8_carried 310 = .ok (.ifCond .eq 14, 3) := by decide +kernel
theorem dX8_carried_313 : decode cX8_carried 313 = .ok (.iload_n 1, 1) := by decide +kernel
theorem dX8_carried_314 : decode cX8_carried 314 = .ok (.sipush 135, 3) := by decide +kernel
theorem dX8_carried_317 : decode cX8_carried 317 = .ok (.if_icmp .ne 7, 3) := by decide +kernel
theorem dX8_carried_320 : decode cX8_carried 320 = .ok (.iload_n 2, 1) := by decide +kernel
theorem dX8_carried_321 : decode cX8_carried 321 = .ok (.goto 7, 3) := by decide +kernel
theorem dX8_carried_324 : decode cX8_carried 324 = .ok (.aload_n 0, 1) := by decide +kernel
theorem dX8_carried_325 : decode cX8_carried 325 = .ok (.getfield 72, 3) := by decide +kernel
theorem dX8_carried_328 : decode cX8_carried 328 = .ok (.putfield 72, 3) := by decide +kernel
theorem dX8_carried_331 : decode cX8_carried 331 = .ok (.aload_n 0, 1) := by decide +kernel
theorem dX8_carried_332 : decode cX8_carried 332 = .ok (.iload_n 3, 1) := by decide +kernel
theorem dX8_carried_333 : decode cX8_carried 333 = .ok (.ifCond .eq 14, 3) := by decide +kernel
theorem dX8_carried_336 : decode cX8_carried 336 = .ok (.iload_n 1, 1) := by decide +kernel
theorem dX8_carried_337 : decode cX8_carried 337 = .ok (.sipush 136, 3) := by decide +kernel
theorem dX8_carried_340 : decode cX8_carried 340 = .ok (.if_icmp .ne 7, 3) := by decide +kernel
theorem dX8_carried_343 : decode cX8_carried 343 = .ok (.iload_n 2, 1) := by decide +kernel
theorem dX8_carried_344 : decode cX8_carried 344 = .ok (.goto 7, 3) := by decide +kernel
theorem dX8_carried_347 : decode cX8_carried 347 = .ok (.aload_n 0, 1) := by decide +kernel
theorem dX8_carried_348 : decode cX8_carried 348 = .ok (.getfield 19, 3) := by decide +kernel
theorem dX8_carried_351 : decode cX8_carried 351 = .ok (.putfield 19, 3) := by decide +kernel
theorem dX8_carried_354 : decode cX8_carried 354 = .ok (.aload_n 0, 1) := by decide +kernel
theorem dX8_carried_355 : decode cX8_carried 355 = .ok (.iload_n 3, 1) := by decide +kernel
theorem dX8_carried_356 : decode cX8_carried 356 = .ok (.ifCond .eq 14, 3) := by decide +kernel
theorem dX8_carried_359 : decode cX8_carried 359 = .ok (.iload_n 1, 1) := by decide +kernel
theorem dX8_carried_360 : decode cX8_carried 360 = .ok (.sipush 137, 3) := by decide +kernel
theorem dX8_carried_363 : decode cX8_carried 363 = .ok (.if_icmp .ne 7, 3) := by decide +kernel
theorem dX8_carried_366 : decode cX8_carried 366 = .ok (.iload_n 2, 1) := by decide +kernel
theorem dX8_carried_367 : decode cX8_carried 367 = .ok (.goto 7, 3) := by decide +kernel
theorem dX8_carried_370 : decode cX8_carried 370 = .ok (.aload_n 0, 1) := by decide +kernel
theorem dX8_carried_371 : decode cX8_carried 371 = .ok (.getfield 26, 3) := by decide +kernel
theorem dX8_carried_374 : decode cX8_carried 374 = .ok (.putfield 26, 3) := by decide +kernel
theorem dX8_carried_377 : decode cX8_carried 377 = .ok (.aload_n 0, 1) := by decide +kernel
theorem dX8_carried_378 : decode cX8_carried 378 = .ok (.iload_n 3, 1) := by decide +kernel
theorem dX8_carried_379 : decode cX8_carried 379 = .ok (.ifCond .eq 14, 3) := by decide +kernel
theorem dX8_carried_382 : decode cX8_carried 382 = .ok (.iload_n 1, 1) := by decide +kernel
theorem dX8_carried_383 : decode cX8_carried 383 = .ok (.sipush 138, 3) := by decide +kernel
theorem dX8_carried_386 : decode cX8_carried 386 = .ok (.if_icmp .ne 7, 3) := by decide +kernel
theorem dX8_carried_389 : decode cX8_carried 389 = .ok (.iload_n 2, 1) := by decide +kernel
theorem dX8_carried_390 : decode cX8_carried 390 = .ok (.goto 7, 3) := by decide +kernel
theorem dX8_carried_393 : decode cX8_carried 393 = .ok (.aload_n 0, 1) := by decide +kernel
theorem dX8_carried_394 : decode cX8_carried 394 = .ok (.getfield 93, 3) := by decide +kernel
theorem dX8_carried_397 : decode cX8_carried 397 = .ok (.putfield 93, 3) := by decide +kernel
theorem dX8_carried_400 : decode cX8_carried 400 = .ok (.aload_n 0, 1) := by decide +kernel
theorem dX8_carried_401 : decode cX8_carried 401 = .ok (.iload_n 3, 1) := by decide +kernel
theorem dX8_carried_402 : decode cX8_carried 402 = .ok (.ifCond .eq 14, 3) := by decide +kernel
theorem dX8_carried_405 : decode cX8_carried 405 = .ok (.iload_n 1, 1) := by decide +kernel
theorem dX8_carried_406 : decode cX8_carried 406 = .ok (.sipush 139, 3) := by decide +kernel
theorem dX8_carried_409 : decode cX8_carried 409 = .ok (.if_icmp .ne 7, 3) := by decide +kernel
theorem dX8_carried_412 : decode cX8_carried 412 = .ok (.iload_n 2, 1) := by decide +kernel
theorem dX8_carried_413 : decode cX8_carried 413 = .ok (.goto 7, 3) := by decide +kernel
theorem dX8_carried_416 : decode cX8_carried 416 = .ok (.aload_n 0, 1) := by decide +kernel
theorem dX8_carried_417 : decode cX8_carried 417 = .ok (.getfield 96, 3) := by decide +kernel
theorem dX8_carried_420 : decode cX8_carried 420 = .ok (.putfield 96, 3) := by decide +kernel
theorem dX8_carried_423 : decode cX8_carried 423 = .ok (.aload_n 0, 1) := by decide +kernel
theorem dX8_carried_424 : decode cX8_carried 424 = .ok (.iload_n 3, 1) := by decide +kernel
theorem dX8_carried_425 : decode cX8_carried 425 = .ok (.ifCond .eq 14, 3) := by decide +kernel
theorem dX8_carried_428 : decode cX8_carried 428 = .ok (.iload_n 1, 1) := by decide +kernel
theorem dX8_carried_429 : decode cX8_carried 429 = .ok (.sipush 140, 3) := by decide +kernel
theorem dX8_carried_432 : decode cX8_carried 432 = .ok (.if_icmp .ne 7, 3) := by decide +kernel
theorem dX8_carried_435 : decode cX8_carried 435 = .ok (.iload_n 2, 1) := by decide +kernel
theorem dX8_carried_436 : decode cX8_carried 436 = .ok (.goto 7, 3) := by decide +kernel
theorem dX8_carried_439 : decode cX8_carried 439 = .ok (.aload_n 0, 1) := by decide +kernel
theorem dX8_carried_440 : decode cX8_carried 440 = .ok (.getfield 41, 3) := by decide +kernel
theorem dX8_carried_443 : decode cX8_carried 443 = .ok (.putfield 41, 3) := by decide +kernel
theorem dX8_carried_446 : decode cX8_carried 446 = .ok (.iload_n 1, 1) := by decide +kernel
theorem dX8_carried_447 : decode cX8_carried 447 = .ok (.sipush 135, 3) := by decide +kernel
theorem dX8_carried_450 : decode cX8_carried 450 = .ok (.if_icmp .ne 10, 3) := by decide +kernel
theorem dX8_carried_453 : decode cX8_carried 453 = .ok (.aload_n 0, 1) := by decide +kernel
theorem dX8_carried_454 : decode cX8_carried 454 = .ok (.getfield 72, 3) := by decide +kernel
theorem dX8_carried_457 : decode cX8_carried 457 = .ok (.goto 63, 3) := by decide +kernel
theorem dX8_carried_460 : decode cX8_carried 460 = .ok (.iload_n 1, 1) := by decide +kernel
theorem dX8_carried_461 : decode cX8_carried 461 = .ok (.sipush 136, 3) := by decide +kernel
theorem dX8_carried_464 : decode cX8_carried 464 = .ok (.if_icmp .ne 10, 3) := by decide +kernel
theorem dX8_carried_467 : decode cX8_carried 467 = .ok (.aload_n 0, 1) := by decide +kernel
theorem dX8_carried_468 : decode cX8_carried 468 = .ok (.getfield 19, 3) := by decide +kernel
theorem dX8_carried_471 : decode cX8_carried 471 = .ok (.goto 49, 3) := by decide +kernel
theorem dX8_carried_474 : decode cX8_carried 474 = .ok (.iload_n 1, 1) := by decide +kernel
theorem dX8_carried_475 : decode cX8_carried 475 = .ok (.sipush 137, 3) := by decide +kernel
theorem dX8_carried_478 : decode cX8_carried 478 = .ok (.if_icmp .ne 10, 3) := by decide +kernel
theorem dX8_carried_481 : decode cX8_carried 481 = .ok (.aload_n 0, 1) := by decide +kernel
theorem dX8_carried_482 : decode cX8_carried 482 = .ok (.getfield 26, 3) := by decide +kernel
theorem dX8_carried_485 : decode cX8_carried 485 = .ok (.goto 35, 3) := by decide +kernel
theorem dX8_carried_488 : decode cX8_carried 488 = .ok (.iload_n 1, 1) := by decide +kernel
theorem dX8_carried_489 : decode cX8_carried 489 = .ok (.sipush 138, 3) := by decide +kernel
theorem dX8_carried_492 : decode cX8_carried 492 = .ok (.if_icmp .ne 10, 3) := by decide +kernel
theorem dX8_carried_495 : decode cX8_carried 495 = .ok (.aload_n 0, 1) := by decide +kernel
theorem dX8_carried_496 : decode cX8_carried 496 = .ok (.getfield 93, 3) := by decide +kernel
theorem dX8_carried_499 : decode cX8_carried 499 = .ok (.goto 21, 3) := by decide +kernel
theorem dX8_carried_502 : decode cX8_carried 502 = .ok (.iload_n 1, 1) := by decide +kernel
theorem dX8_carried_503 : decode cX8_carried 503 = .ok (.sipush 139, 3) := by decide +kernel
theorem dX8_carried_506 : decode cX8_carried 506 = .ok (.if_icmp .ne 10, 3) := by decide +kernel
theorem dX8_carried_509 : decode cX8_carried 509 = .ok (.aload_n 0, 1) := by decide +kernel
theorem dX8_carried_510 : decode cX8_carried 510 = .ok (.getfield 96, 3) := by decide +kernel
theorem dX8_carried_513 : decode cX8_carried 513 = .ok (.goto 7, 3) := by decide +kernel
theorem dX8_carried_516 : decode cX8_carried 516 = .ok (.aload_n 0, 1) := by decide +kernel
theorem dX8_carried_517 : decode cX8_carried 517 = .ok (.getfield 41, 3) := by decide +kernel
theorem dX8_carried_520 : decode cX8_carried 520 = .ok (.ireturn, 1) := by decide +kernel
theorem dX8_image_0 : decode cX8_image 0 = .ok (.iconst 0, 1) := by decide +kernel
theorem dX8_image_1 : decode cX8_image 1 = .ok (.istore_n 1, 1) := by decide +kernel
theorem dX8_image_2 : decode cX8_image 2 = .ok (.iload_n 1, 1) := by decide +kernel
theorem dX8_image_3 : decode cX8_image 3 = .ok (.sipush 141, 3) := by decide +kernel
theorem dX8_image_6 : decode cX8_image 6 = .ok (.if_icmp .ge 22, 3) := by decide +kernel
theorem dX8_image_9 : decode cX8_image 9 = .ok (.aload_n 0, 1) := by decide +kernel
theorem dX8_image_10 : decode cX8_image 10 = .ok (.getfield 56, 3) := by decide +kernel
theorem dX8_image_13 : decode cX8_image 13 = .ok (.iload_n 1, 1) := by decide +kernel
theorem dX8_image_14 : decode cX8_image 14 = .ok (.aload_n 0, 1) := by decide +kernel
theorem dX8_image_15 : decode cX8_image 15 = .ok (.iload_n 1, 1) := by decide +kernel
theorem dX8_image_16 : decode cX8_image 16 = .ok (.iconst 0, 1) := by decide +kernel
theorem dX8_image_17 : decode cX8_image 17 = .ok (.iconst 0, 1) := by decide +kernel
theorem dX8_image_18 : decode cX8_image 18 = .ok (.invokevirtual 292, 3) := by decide +kernel
theorem dX8_image_21 : decode cX8_image 21 = .ok (.iastore, 1) := by decide +kernel
theorem dX8_image_22 : decode cX8_image 22 = .ok (.iinc 1 1, 3) := by decide +kernel
theorem dX8_image_25 : decode cX8_image 25 = .ok (.goto (-23), 3) := by decide +kernel
theorem dX8_image_28 : decode cX8_image 28 = .ok (.aload_n 0, 1) := by decide +kernel
theorem dX8_image_29 : decode cX8_image 29 = .ok (.iconst 1, 1) := by decide +kernel
theorem dX8_image_30 : decode cX8_image 30 = .ok (.putfield 296, 3) := by decide +kernel
theorem dX8_image_33 : decode cX8_image 33 = .ok (.iconst 1, 1) := by decide +kernel
theorem dX8_image_34 : decode cX8_image 34 = .ok (.ireturn, 1) := by decide +kernel
theorem dX8_restore_0 : decode cX8_restore 0 = .ok (.aload_n 0, 1) := by decide +kernel
theorem dX8_restore_1 : decode cX8_restore 1 = .ok (.getfield 296, 3) := by decide +kernel
theorem dX8_restore_4 : decode cX8_restore 4 = .ok (.ifCond .ne 6, 3) := by decide +kernel
theorem dX8_restore_7 : decode cX8_restore 7 = .ok (.bipush (-4), 2) := by decide +kernel
theorem dX8_restore_9 : decode cX8_restore 9 = .ok (.ireturn, 1) := by decide +kernel
theorem dX8_restore_10 : decode cX8_restore 10 = .ok (.iconst 0, 1) := by decide +kernel
theorem dX8_restore_11 : decode cX8_restore 11 = .ok (.istore_n 1, 1) := by decide +kernel
theorem dX8_restore_12 : decode cX8_restore 12 = .ok (.iload_n 1, 1) := by decide +kernel
theorem dX8_restore_13 : decode cX8_restore 13 = .ok (.sipush 141, 3) := by decide +kernel
theorem dX8_restore_16 : decode cX8_restore 16 = .ok (.if_icmp .ge 22, 3) := by decide +kernel
theorem dX8_restore_19 : decode cX8_restore 19 = .ok (.aload_n 0, 1) := by decide +kernel
theorem dX8_restore_20 : decode cX8_restore 20 = .ok (.iload_n 1, 1) := by decide +kernel
theorem dX8_restore_21 : decode cX8_restore 21 = .ok (.aload_n 0, 1) := by decide +kernel
theorem dX8_restore_22 : decode cX8_restore 22 = .ok (.getfield 56, 3) := by decide +kernel
theorem dX8_restore_25 : decode cX8_restore 25 = .ok (.iload_n 1, 1) := by decide +kernel
theorem dX8_restore_26 : decode cX8_restore 26 = .ok (.iaload, 1) := by decide +kernel
theorem dX8_restore_27 : decode cX8_restore 27 = .ok (.iconst 1, 1) := by decide +kernel
theorem dX8_restore_28 : decode cX8_restore 28 = .ok (.invokevirtual 292, 3) := by decide +kernel
theorem dX8_restore_31 : decode cX8_restore 31 = .ok (.pop, 1) := by decide +kernel
theorem dX8_restore_32 : decode cX8_restore 32 = .ok (.iinc 1 1, 3) := by decide +kernel
theorem dX8_restore_35 : decode cX8_restore 35 = .ok (.goto (-23), 3) := by decide +kernel
theorem dX8_restore_38 : decode cX8_restore 38 = .ok (.iconst 1, 1) := by decide +kernel
theorem dX8_restore_39 : decode cX8_restore 39 = .ok (.ireturn, 1) := by decide +kernel
theorem dX8_isSheet_0 : decode cX8_isSheet 0 = .ok (.iload_n 0, 1) := by decide +kernel
theorem dX8_isSheet_1 : decode cX8_isSheet 1 = .ok (.i2l, 1) := by decide +kernel
theorem dX8_isSheet_2 : decode cX8_isSheet 2 = .ok (.lconst 0, 1) := by decide +kernel
theorem dX8_isSheet_3 : decode cX8_isSheet 3 = .ok (.ldc2_w 300, 3) := by decide +kernel
theorem dX8_isSheet_6 : decode cX8_isSheet 6 = .ok (.invokestatic 75, 3) := by decide +kernel
theorem dX8_isSheet_9 : decode cX8_isSheet 9 = .ok (.ifCond .eq 19, 3) := by decide +kernel
theorem dX8_isSheet_12 : decode cX8_isSheet 12 = .ok (.iload_n 1, 1) := by decide +kernel
theorem dX8_isSheet_13 : decode cX8_isSheet 13 = .ok (.i2l, 1) := by decide +kernel
theorem dX8_isSheet_14 : decode cX8_isSheet 14 = .ok (.lconst 0, 1) := by decide +kernel
theorem dX8_isSheet_15 : decode cX8_isSheet 15 = .ok (.ldc2_w 300, 3) := by decide +kernel
theorem dX8_isSheet_18 : decode cX8_isSheet 18 = .ok (.invokestatic 75, 3) := by decide +kernel
theorem dX8_isSheet_21 : decode cX8_isSheet 21 = .ok (.ifCond .eq 7, 3) := by decide +kernel
theorem dX8_isSheet_24 : decode cX8_isSheet 24 = .ok (.iconst 1, 1) := by decide +kernel
theorem dX8_isSheet_25 : decode cX8_isSheet 25 = .ok (.goto 4, 3) := by decide +kernel
theorem dX8_isSheet_28 : decode cX8_isSheet 28 = .ok (.iconst 0, 1) := by decide +kernel
theorem dX8_isSheet_29 : decode cX8_isSheet 29 = .ok (.ireturn, 1) := by decide +kernel
theorem dX8_asLane_0 : decode cX8_asLane 0 = .ok (.iload_n 0, 1) := by decide +kernel
theorem dX8_asLane_1 : decode cX8_asLane 1 = .ok (.ifCond .ne 13, 3) := by decide +kernel
theorem dX8_asLane_4 : decode cX8_asLane 4 = .ok (.lload_n 1, 1) := by decide +kernel
theorem dX8_asLane_5 : decode cX8_asLane 5 = .ok (.bipush 56, 2) := by decide +kernel
theorem dX8_asLane_7 : decode cX8_asLane 7 = .ok (.lshl, 1) := by decide +kernel
theorem dX8_asLane_8 : decode cX8_asLane 8 = .ok (.bipush 56, 2) := by decide +kernel
theorem dX8_asLane_10 : decode cX8_asLane 10 = .ok (.lshr, 1) := by decide +kernel
theorem dX8_asLane_11 : decode cX8_asLane 11 = .ok (.goto 34, 3) := by decide +kernel
theorem dX8_asLane_14 : decode cX8_asLane 14 = .ok (.iload_n 0, 1) := by decide +kernel
theorem dX8_asLane_15 : decode cX8_asLane 15 = .ok (.iconst 1, 1) := by decide +kernel
theorem dX8_asLane_16 : decode cX8_asLane 16 = .ok (.if_icmp .ne 13, 3) := by decide +kernel
theorem dX8_asLane_19 : decode cX8_asLane 19 = .ok (.lload_n 1, 1) := by decide +kernel
theorem dX8_asLane_20 : decode cX8_asLane 20 = .ok (.bipush 48, 2) := by decide +kernel
theorem dX8_asLane_22 : decode cX8_asLane 22 = .ok (.lshl, 1) := by decide +kernel
theorem dX8_asLane_23 : decode cX8_asLane 23 = .ok (.bipush 48, 2) := by decide +kernel
theorem dX8_asLane_25 : decode cX8_asLane 25 = .ok (.lshr, 1) := by decide +kernel
theorem dX8_asLane_26 : decode cX8_asLane 26 = .ok (.goto 19, 3) := by decide +kernel
theorem dX8_asLane_29 : decode cX8_asLane 29 = .ok (.iload_n 0, 1) := by decide +kernel
theorem dX8_asLane_30 : decode cX8_asLane 30 = .ok (.iconst 2, 1) := by decide +kernel
theorem dX8_asLane_31 : decode cX8_asLane 31 = .ok (.if_icmp .ne 13, 3) := by decide +kernel
theorem dX8_asLane_34 : decode cX8_asLane 34 = .ok (.lload_n 1, 1) := by decide +kernel
theorem dX8_asLane_35 : decode cX8_asLane 35 = .ok (.bipush 32, 2) := by decide +kernel
theorem dX8_asLane_37 : decode cX8_asLane 37 = .ok (.lshl, 1) := by decide +kernel
theorem dX8_asLane_38 : decode cX8_asLane 38 = .ok (.bipush 32, 2) := by decide +kernel
theorem dX8_asLane_40 : decode cX8_asLane 40 = .ok (.lshr, 1) := by decide +kernel
theorem dX8_asLane_41 : decode cX8_asLane 41 = .ok (.goto 4, 3) := by decide +kernel
theorem dX8_asLane_44 : decode cX8_asLane 44 = .ok (.lload_n 1, 1) := by decide +kernel
theorem dX8_asLane_45 : decode cX8_asLane 45 = .ok (.lreturn, 1) := by decide +kernel
theorem dX8_sheet_0 : decode cX8_sheet 0 = .ok (.iload_n 1, 1) := by decide +kernel
theorem dX8_sheet_1 : decode cX8_sheet 1 = .ok (.iload_n 2, 1) := by decide +kernel
theorem dX8_sheet_2 : decode cX8_sheet 2 = .ok (.invokestatic 302, 3) := by decide +kernel
theorem dX8_sheet_5 : decode cX8_sheet 5 = .ok (.ifCond .eq 9, 3) := by decide +kernel
theorem dX8_sheet_8 : decode cX8_sheet 8 = .ok (.iload_n 3, 1) := by decide +kernel
theorem dX8_sheet_9 : decode cX8_sheet 9 = .ok (.bipush 24, 2) := by decide +kernel
theorem dX8_sheet_11 : decode cX8_sheet 11 = .ok (.if_icmp .le 5, 3) := by decide +kernel
theorem dX8_sheet_14 : decode cX8_sheet 14 = .ok (.iconst (-1), 1) := by decide +kernel
theorem dX8_sheet_15 : decode cX8_sheet 15 = .ok (.ireturn, 1) := by decide +kernel
theorem dX8_sheet_16 : decode cX8_sheet 16 = .ok (.iload_n 3, 1) := by decide +kernel
theorem dX8_sheet_17 : decode cX8_sheet 17 = .ok (.ifCond .ge 6, 3) := by decide +kernel
theorem dX8_sheet_20 : decode cX8_sheet 20 = .ok (.bipush (-14), 2) := by decide +kernel
theorem dX8_sheet_22 : decode cX8_sheet 22 = .ok (.ireturn, 1) := by decide +kernel
theorem dX8_sheet_23 : decode cX8_sheet 23 = .ok (.aload_n 0, 1) := by decide +kernel
theorem dX8_sheet_24 : decode cX8_sheet 24 = .ok (.getfield 59, 3) := by decide +kernel
theorem dX8_sheet_27 : decode cX8_sheet 27 = .ok (.iload_n 1, 1) := by decide +kernel
theorem dX8_sheet_28 : decode cX8_sheet 28 = .ok (.iload_n 2, 1) := by decide +kernel
theorem dX8_sheet_29 : decode cX8_sheet 29 = .ok (.iastore, 1) := by decide +kernel
theorem dX8_sheet_30 : decode cX8_sheet 30 = .ok (.aload_n 0, 1) := by decide +kernel
theorem dX8_sheet_31 : decode cX8_sheet 31 = .ok (.getfield 62, 3) := by decide +kernel
theorem dX8_sheet_34 : decode cX8_sheet 34 = .ok (.iload_n 1, 1) := by decide +kernel
theorem dX8_sheet_35 : decode cX8_sheet 35 = .ok (.iload_n 3, 1) := by decide +kernel
theorem dX8_sheet_36 : decode cX8_sheet 36 = .ok (.iastore, 1) := by decide +kernel
theorem dX8_sheet_37 : decode cX8_sheet 37 = .ok (.iconst 0, 1) := by decide +kernel
theorem dX8_sheet_38 : decode cX8_sheet 38 = .ok (.istore 4, 2) := by decide +kernel
theorem dX8_sheet_40 : decode cX8_sheet 40 = .ok (.iload 4, 2) := by decide +kernel
theorem dX8_sheet_42 : decode cX8_sheet 42 = .ok (.bipush 24, 2) := by decide +kernel
theorem dX8_sheet_44 : decode cX8_sheet 44 = .ok (.if_icmp .ge 22, 3) := by decide +kernel
theorem dX8_sheet_47 : decode cX8_sheet 47 = .ok (.aload_n 0, 1) := by decide +kernel
theorem dX8_sheet_48 : decode cX8_sheet 48 = .ok (.getfield 65, 3) := by decide +kernel
theorem dX8_sheet_51 : decode cX8_sheet 51 = .ok (.bipush 24, 2) := by decide +kernel
theorem dX8_sheet_53 : decode cX8_sheet 53 = .ok (.iload_n 1, 1) := by decide +kernel
theorem dX8_sheet_54 : decode cX8_sheet 54 = .ok (.imul, 1) := by decide +kernel
theorem dX8_sheet_55 : decode cX8_sheet 55 = .ok (.iload 4, 2) := by decide +kernel
theorem dX8_sheet_57 : decode cX8_sheet 57 = .ok (.iadd, 1) := by decide +kernel
theorem dX8_sheet_58 : decode cX8_sheet 58 = .ok (.lconst 0, 1) := by decide +kernel
theorem dX8_sheet_59 : decode cX8_sheet 59 = .ok (.lastore, 1) := by decide +kernel
theorem dX8_sheet_60 : decode cX8_sheet 60 = .ok (.iinc 4 1, 3) := by decide +kernel
theorem dX8_sheet_63 : decode cX8_sheet 63 = .ok (.goto (-23), 3) := by decide +kernel
theorem dX8_sheet_66 : decode cX8_sheet 66 = .ok (.iload_n 3, 1) := by decide +kernel
theorem dX8_sheet_67 : decode cX8_sheet 67 = .ok (.ireturn, 1) := by decide +kernel
theorem dX8_drop_0 : decode cX8_drop 0 = .ok (.iload_n 1, 1) := by decide +kernel
theorem dX8_drop_1 : decode cX8_drop 1 = .ok (.i2l, 1) := by decide +kernel
theorem dX8_drop_2 : decode cX8_drop 2 = .ok (.lconst 0, 1) := by decide +kernel
theorem dX8_drop_3 : decode cX8_drop 3 = .ok (.ldc2_w 300, 3) := by decide +kernel
theorem dX8_drop_6 : decode cX8_drop 6 = .ok (.invokestatic 75, 3) := by decide +kernel
theorem dX8_drop_9 : decode cX8_drop 9 = .ok (.ifCond .ne 5, 3) := by decide +kernel
theorem dX8_drop_12 : decode cX8_drop 12 = .ok (.iconst (-1), 1) := by decide +kernel
theorem dX8_drop_13 : decode cX8_drop 13 = .ok (.ireturn, 1) := by decide +kernel
theorem dX8_drop_14 : decode cX8_drop 14 = .ok (.aload_n 0, 1) := by decide +kernel
theorem dX8_drop_15 : decode cX8_drop 15 = .ok (.getfield 59, 3) := by decide +kernel
theorem dX8_drop_18 : decode cX8_drop 18 = .ok (.iload_n 1, 1) := by decide +kernel
theorem dX8_drop_19 : decode cX8_drop 19 = .ok (.iaload, 1) := by decide +kernel
theorem dX8_drop_20 : decode cX8_drop 20 = .ok (.ifCond .ge 6, 3) := by decide +kernel
theorem dX8_drop_23 : decode cX8_drop 23 = .ok (.bipush (-11), 2) := by decide +kernel
theorem dX8_drop_25 : decode cX8_drop 25 = .ok (.ireturn, 1) := by decide +kernel
theorem dX8_drop_26 : decode cX8_drop 26 = .ok (.aload_n 0, 1) := by decide +kernel
theorem dX8_drop_27 : decode cX8_drop 27 = .ok (.getfield 59, 3) := by decide +kernel
theorem dX8_drop_30 : decode cX8_drop 30 = .ok (.iload_n 1, 1) := by decide +kernel
theorem dX8_drop_31 : decode cX8_drop 31 = .ok (.iconst (-1), 1) := by decide +kernel
theorem dX8_drop_32 : decode cX8_drop 32 = .ok (.iastore, 1) := by decide +kernel
theorem dX8_drop_33 : decode cX8_drop 33 = .ok (.aload_n 0, 1) := by decide +kernel
theorem dX8_drop_34 : decode cX8_drop 34 = .ok (.getfield 62, 3) := by decide +kernel
theorem dX8_drop_37 : decode cX8_drop 37 = .ok (.iload_n 1, 1) := by decide +kernel
theorem dX8_drop_38 : decode cX8_drop 38 = .ok (.iaload, 1) := by decide +kernel
theorem dX8_drop_39 : decode cX8_drop 39 = .ok (.ireturn, 1) := by decide +kernel
theorem dX8_lacksRow_0 : decode cX8_lacksRow 0 = .ok (.aload_n 0, 1) := by decide +kernel
theorem dX8_lacksRow_1 : decode cX8_lacksRow 1 = .ok (.getfield 59, 3) := by decide +kernel
theorem dX8_lacksRow_4 : decode cX8_lacksRow 4 = .ok (.iload_n 1, 1) := by decide +kernel
theorem dX8_lacksRow_5 : decode cX8_lacksRow 5 = .ok (.iaload, 1) := by decide +kernel
theorem dX8_lacksRow_6 : decode cX8_lacksRow 6 = .ok (.iload_n 2, 1) := by decide +kernel
theorem dX8_lacksRow_7 : decode cX8_lacksRow 7 = .ok (.if_icmp .eq 20, 3) := by decide +kernel
theorem dX8_lacksRow_10 : decode cX8_lacksRow 10 = .ok (.aload_n 0, 1) := by decide +kernel
theorem dX8_lacksRow_11 : decode cX8_lacksRow 11 = .ok (.getfield 59, 3) := by decide +kernel
theorem dX8_lacksRow_14 : decode cX8_lacksRow 14 = .ok (.iload_n 1, 1) := by decide +kernel
theorem dX8_lacksRow_15 : decode cX8_lacksRow 15 = .ok (.iaload, 1) := by decide +kernel
theorem dX8_lacksRow_16 : decode cX8_lacksRow 16 = .ok (.ifCond .ge 8, 3) := by decide +kernel
theorem dX8_lacksRow_19 : decode cX8_lacksRow 19 = .ok (.bipush (-11), 2) := by decide +kernel
theorem dX8_lacksRow_21 : decode cX8_lacksRow 21 = .ok (.goto 5, 3) := by decide +kernel
theorem dX8_lacksRow_24 : decode cX8_lacksRow 24 = .ok (.bipush (-12), 2) := by decide +kernel
theorem dX8_lacksRow_26 : decode cX8_lacksRow 26 = .ok (.ireturn, 1) := by decide +kernel
theorem dX8_lacksRow_27 : decode cX8_lacksRow 27 = .ok (.iload_n 3, 1) := by decide +kernel
theorem dX8_lacksRow_28 : decode cX8_lacksRow 28 = .ok (.i2l, 1) := by decide +kernel
theorem dX8_lacksRow_29 : decode cX8_lacksRow 29 = .ok (.lconst 0, 1) := by decide +kernel
theorem dX8_lacksRow_30 : decode cX8_lacksRow 30 = .ok (.aload_n 0, 1) := by decide +kernel
theorem dX8_lacksRow_31 : decode cX8_lacksRow 31 = .ok (.getfield 62, 3) := by decide +kernel
theorem dX8_lacksRow_34 : decode cX8_lacksRow 34 = .ok (.iload_n 1, 1) := by decide +kernel
theorem dX8_lacksRow_35 : decode cX8_lacksRow 35 = .ok (.iaload, 1) := by decide +kernel
theorem dX8_lacksRow_36 : decode cX8_lacksRow 36 = .ok (.iload 4, 2) := by decide +kernel
theorem dX8_lacksRow_38 : decode cX8_lacksRow 38 = .ok (.isub, 1) := by decide +kernel
theorem dX8_lacksRow_39 : decode cX8_lacksRow 39 = .ok (.i2l, 1) := by decide +kernel
theorem dX8_lacksRow_40 : decode cX8_lacksRow 40 = .ok (.invokestatic 75, 3) := by decide +kernel
theorem dX8_lacksRow_43 : decode cX8_lacksRow 43 = .ok (.ifCond .eq 7, 3) := by decide +kernel
theorem dX8_lacksRow_46 : decode cX8_lacksRow 46 = .ok (.iconst 0, 1) := by decide +kernel
theorem dX8_lacksRow_47 : decode cX8_lacksRow 47 = .ok (.goto 5, 3) := by decide +kernel
theorem dX8_lacksRow_50 : decode cX8_lacksRow 50 = .ok (.bipush (-13), 2) := by decide +kernel
theorem dX8_lacksRow_52 : decode cX8_lacksRow 52 = .ok (.ireturn, 1) := by decide +kernel
theorem dX8_item_0 : decode cX8_item 0 = .ok (.iload_n 1, 1) := by decide +kernel
theorem dX8_item_1 : decode cX8_item 1 = .ok (.iload_n 2, 1) := by decide +kernel
theorem dX8_item_2 : decode cX8_item 2 = .ok (.invokestatic 302, 3) := by decide +kernel
theorem dX8_item_5 : decode cX8_item 5 = .ok (.ifCond .ne 5, 3) := by decide +kernel
theorem dX8_item_8 : decode cX8_item 8 = .ok (.iconst (-1), 1) := by decide +kernel
theorem dX8_item_9 : decode cX8_item 9 = .ok (.ireturn, 1) := by decide +kernel
theorem dX8_item_10 : decode cX8_item 10 = .ok (.aload_n 0, 1) := by decide +kernel
theorem dX8_item_11 : decode cX8_item 11 = .ok (.iload_n 1, 1) := by decide +kernel
theorem dX8_item_12 : decode cX8_item 12 = .ok (.iload_n 2, 1) := by decide +kernel
theorem dX8_item_13 : decode cX8_item 13 = .ok (.iload_n 3, 1) := by decide +kernel
theorem dX8_item_14 : decode cX8_item 14 = .ok (.iconst 1, 1) := by decide +kernel
theorem dX8_item_15 : decode cX8_item 15 = .ok (.invokevirtual 305, 3) := by decide +kernel
theorem dX8_item_18 : decode cX8_item 18 = .ok (.istore 6, 2) := by decide +kernel
theorem dX8_item_20 : decode cX8_item 20 = .ok (.iload 6, 2) := by decide +kernel
theorem dX8_item_22 : decode cX8_item 22 = .ok (.ifCond .ge 6, 3) := by decide +kernel
theorem dX8_item_25 : decode cX8_item 25 = .ok (.iload 6, 2) := by decide +kernel
theorem dX8_item_27 : decode cX8_item 27 = .ok (.ireturn, 1) := by decide +kernel
theorem dX8_item_28 : decode cX8_item 28 = .ok (.aload_n 0, 1) := by decide +kernel
theorem dX8_item_29 : decode cX8_item 29 = .ok (.getfield 65, 3) := by decide +kernel
theorem dX8_item_32 : decode cX8_item 32 = .ok (.bipush 24, 2) := by decide +kernel
theorem dX8_item_34 : decode cX8_item 34 = .ok (.iload_n 1, 1) := by decide +kernel
theorem dX8_item_35 : decode cX8_item 35 = .ok (.imul, 1) := by decide +kernel
theorem dX8_item_36 : decode cX8_item 36 = .ok (.iload_n 3, 1) := by decide +kernel
theorem dX8_item_37 : decode cX8_item 37 = .ok (.iadd, 1) := by decide +kernel
theorem dX8_item_38 : decode cX8_item 38 = .ok (.iload_n 2, 1) := by decide +kernel
theorem dX8_item_39 : decode cX8_item 39 = .ok (.lload 4, 2) := by decide +kernel
theorem dX8_item_41 : decode cX8_item 41 = .ok (.invokestatic 308, 3) := by decide +kernel
theorem dX8_item_44 : decode cX8_item 44 = .ok (.lastore, 1) := by decide +kernel
theorem dX8_item_45 : decode cX8_item 45 = .ok (.iconst 1, 1) := by decide +kernel
theorem dX8_item_46 : decode cX8_item 46 = .ok (.ireturn, 1) := by decide +kernel
theorem dX8_dress_0 : decode cX8_dress 0 = .ok (.iload_n 1, 1) := by decide +kernel
theorem dX8_dress_1 : decode cX8_dress 1 = .ok (.iload_n 2, 1) := by decide +kernel
theorem dX8_dress_2 : decode cX8_dress 2 = .ok (.invokestatic 302, 3) := by decide +kernel
theorem dX8_dress_5 : decode cX8_dress 5 = .ok (.ifCond .eq 18, 3) := by decide +kernel
theorem dX8_dress_8 : decode cX8_dress 8 = .ok (.iload 4, 2) := by decide +kernel
theorem dX8_dress_10 : decode cX8_dress 10 = .ok (.i2l, 1) := by decide +kernel
theorem dX8_dress_11 : decode cX8_dress 11 = .ok (.lconst 1, 1) := by decide +kernel
theorem dX8_dress_12 : decode cX8_dress 12 = .ok (.aload_n 0, 1) := by decide +kernel
theorem dX8_dress_13 : decode cX8_dress 13 = .ok (.getfield 19, 3) := by decide +kernel
theorem dX8_dress_16 : decode cX8_dress 16 = .ok (.i2l, 1) := by decide +kernel
theorem dX8_dress_17 : decode cX8_dress 17 = .ok (.invokestatic 75, 3) := by decide +kernel
theorem dX8_dress_20 : decode cX8_dress 20 = .ok (.ifCond .ne 5, 3) := by decide +kernel
theorem dX8_dress_23 : decode cX8_dress 23 = .ok (.iconst (-1), 1) := by decide +kernel
theorem dX8_dress_24 : decode cX8_dress 24 = .ok (.ireturn, 1) := by decide +kernel
theorem dX8_dress_25 : decode cX8_dress 25 = .ok (.aload_n 0, 1) := by decide +kernel
theorem dX8_dress_26 : decode cX8_dress 26 = .ok (.iload_n 1, 1) := by decide +kernel
theorem dX8_dress_27 : decode cX8_dress 27 = .ok (.iload_n 2, 1) := by decide +kernel
theorem dX8_dress_28 : decode cX8_dress 28 = .ok (.iload_n 3, 1) := by decide +kernel
theorem dX8_dress_29 : decode cX8_dress 29 = .ok (.iload 4, 2) := by decide +kernel
theorem dX8_dress_31 : decode cX8_dress 31 = .ok (.invokevirtual 305, 3) := by decide +kernel
theorem dX8_dress_34 : decode cX8_dress 34 = .ok (.istore 5, 2) := by decide +kernel
theorem dX8_dress_36 : decode cX8_dress 36 = .ok (.iconst 0, 1) := by decide +kernel
theorem dX8_dress_37 : decode cX8_dress 37 = .ok (.istore 6, 2) := by decide +kernel
theorem dX8_dress_39 : decode cX8_dress 39 = .ok (.iload 6, 2) := by decide +kernel
theorem dX8_dress_41 : decode cX8_dress 41 = .ok (.iload 4, 2) := by decide +kernel
theorem dX8_dress_43 : decode cX8_dress 43 = .ok (.if_icmp .ge 46, 3) := by decide +kernel
theorem dX8_dress_46 : decode cX8_dress 46 = .ok (.iload 5, 2) := by decide +kernel
theorem dX8_dress_48 : decode cX8_dress 48 = .ok (.ifCond .ne 41, 3) := by decide +kernel
theorem dX8_dress_51 : decode cX8_dress 51 = .ok (.aload_n 0, 1) := by decide +kernel
theorem dX8_dress_52 : decode cX8_dress 52 = .ok (.getfield 65, 3) := by decide +kernel
theorem dX8_dress_55 : decode cX8_dress 55 = .ok (.bipush 24, 2) := by decide +kernel
theorem dX8_dress_57 : decode cX8_dress 57 = .ok (.iload_n 1, 1) := by decide +kernel
theorem dX8_dress_58 : decode cX8_dress 58 = .ok (.imul, 1) := by decide +kernel
theorem dX8_dress_59 : decode cX8_dress 59 = .ok (.iload_n 3, 1) := by decide +kernel
theorem dX8_dress_60 : decode cX8_dress 60 = .ok (.iadd, 1) := by decide +kernel
theorem dX8_dress_61 : decode cX8_dress 61 = .ok (.iload 6, 2) := by decide +kernel
theorem dX8_dress_63 : decode cX8_dress 63 = .ok (.iadd, 1) := by decide +kernel
theorem dX8_dress_64 : decode cX8_dress 64 = .ok (.laload, 1) := by decide +kernel
theorem dX8_dress_65 : decode cX8_dress 65 = .ok (.lconst 0, 1) := by decide +kernel
theorem dX8_dress_66 : decode cX8_dress 66 = .ok (.ldc2_w 117, 3) := by decide +kernel
theorem dX8_dress_69 : decode cX8_dress 69 = .ok (.invokestatic 75, 3) := by decide +kernel
theorem dX8_dress_72 : decode cX8_dress 72 = .ok (.ifCond .eq 7, 3) := by decide +kernel
theorem dX8_dress_75 : decode cX8_dress 75 = .ok (.iconst 0, 1) := by decide +kernel
theorem dX8_dress_76 : decode cX8_dress 76 = .ok (.goto 5, 3) := by decide +kernel
theorem dX8_dress_79 : decode cX8_dress 79 = .ok (.bipush (-2), 2) := by decide +kernel
theorem dX8_dress_81 : decode cX8_dress 81 = .ok (.istore 5, 2) := by decide +kernel
theorem dX8_dress_83 : decode cX8_dress 83 = .ok (.iinc 6 1, 3) := by decide +kernel
theorem dX8_dress_86 : decode cX8_dress 86 = .ok (.goto (-47), 3) := by decide +kernel
theorem dX8_dress_89 : decode cX8_dress 89 = .ok (.iload 5, 2) := by decide +kernel
theorem dX8_dress_91 : decode cX8_dress 91 = .ok (.ifCond .ge 6, 3) := by decide +kernel
theorem dX8_dress_94 : decode cX8_dress 94 = .ok (.iload 5, 2) := by decide +kernel
theorem dX8_dress_96 : decode cX8_dress 96 = .ok (.ireturn, 1) := by decide +kernel
theorem dX8_dress_97 : decode cX8_dress 97 = .ok (.iconst 0, 1) := by decide +kernel
theorem dX8_dress_98 : decode cX8_dress 98 = .ok (.istore 6, 2) := by decide +kernel
theorem dX8_dress_100 : decode cX8_dress 100 = .ok (.iload 6, 2) := by decide +kernel
theorem dX8_dress_102 : decode cX8_dress 102 = .ok (.iload 4, 2) := by decide +kernel
theorem dX8_dress_104 : decode cX8_dress 104 = .ok (.if_icmp .ge 31, 3) := by decide +kernel
theorem dX8_dress_107 : decode cX8_dress 107 = .ok (.aload_n 0, 1) := by decide +kernel
theorem dX8_dress_108 : decode cX8_dress 108 = .ok (.getfield 7, 3) := by decide +kernel
theorem dX8_dress_111 : decode cX8_dress 111 = .ok (.iload 6, 2) := by decide +kernel
theorem dX8_dress_113 : decode cX8_dress 113 = .ok (.aload_n 0, 1) := by decide +kernel
theorem dX8_dress_114 : decode cX8_dress 114 = .ok (.getfield 65, 3) := by decide +kernel
theorem dX8_dress_117 : decode cX8_dress 117 = .ok (.bipush 24, 2) := by decide +kernel
theorem dX8_dress_119 : decode cX8_dress 119 = .ok (.iload_n 1, 1) := by decide +kernel
theorem dX8_dress_120 : decode cX8_dress 120 = .ok (.imul, 1) := by decide +kernel
theorem dX8_dress_121 : decode cX8_dress 121 = .ok (.iload_n 3, 1) := by decide +kernel
theorem dX8_dress_122 : decode cX8_dress 122 = .ok (.iadd, 1) := by decide +kernel
theorem dX8_dress_123 : decode cX8_dress 123 = .ok (.iload 6, 2) := by decide +kernel
theorem dX8_dress_125 : decode cX8_dress 125 = .ok (.iadd, 1) := by decide +kernel
theorem dX8_dress_126 : decode cX8_dress 126 = .ok (.laload, 1) := by decide +kernel
theorem dX8_dress_127 : decode cX8_dress 127 = .ok (.l2i, 1) := by decide +kernel
theorem dX8_dress_128 : decode cX8_dress 128 = .ok (.iastore, 1) := by decide +kernel
theorem dX8_dress_129 : decode cX8_dress 129 = .ok (.iinc 6 1, 3) := by decide +kernel
theorem dX8_dress_132 : decode cX8_dress 132 = .ok (.goto (-32), 3) := by decide +kernel
theorem dX8_dress_135 : decode cX8_dress 135 = .ok (.iload 4, 2) := by decide +kernel
theorem dX8_dress_137 : decode cX8_dress 137 = .ok (.ireturn, 1) := by decide +kernel
theorem dX8_film_0 : decode cX8_film 0 = .ok (.iload_n 1, 1) := by decide +kernel
theorem dX8_film_1 : decode cX8_film 1 = .ok (.iload_n 2, 1) := by decide +kernel
theorem dX8_film_2 : decode cX8_film 2 = .ok (.invokestatic 302, 3) := by decide +kernel
theorem dX8_film_5 : decode cX8_film 5 = .ok (.ifCond .ne 5, 3) := by decide +kernel
theorem dX8_film_8 : decode cX8_film 8 = .ok (.iconst (-1), 1) := by decide +kernel
theorem dX8_film_9 : decode cX8_film 9 = .ok (.ireturn, 1) := by decide +kernel
theorem dX8_film_10 : decode cX8_film 10 = .ok (.aload_n 0, 1) := by decide +kernel
theorem dX8_film_11 : decode cX8_film 11 = .ok (.iload_n 1, 1) := by decide +kernel
theorem dX8_film_12 : decode cX8_film 12 = .ok (.iload_n 2, 1) := by decide +kernel
theorem dX8_film_13 : decode cX8_film 13 = .ok (.iload_n 3, 1) := by decide +kernel
theorem dX8_film_14 : decode cX8_film 14 = .ok (.aload_n 0, 1) := by decide +kernel
theorem dX8_film_15 : decode cX8_film 15 = .ok (.getfield 72, 3) := by decide +kernel
theorem dX8_film_18 : decode cX8_film 18 = .ok (.invokevirtual 305, 3) := by decide +kernel
theorem dX8_film_21 : decode cX8_film 21 = .ok (.istore 4, 2) := by decide +kernel
theorem dX8_film_23 : decode cX8_film 23 = .ok (.iload 4, 2) := by decide +kernel
theorem dX8_film_25 : decode cX8_film 25 = .ok (.ifCond .ge 6, 3) := by decide +kernel
theorem dX8_film_28 : decode cX8_film 28 = .ok (.iload 4, 2) := by decide +kernel
theorem dX8_film_30 : decode cX8_film 30 = .ok (.ireturn, 1) := by decide +kernel
theorem dX8_film_31 : decode cX8_film 31 = .ok (.iconst 0, 1) := by decide +kernel
theorem dX8_film_32 : decode cX8_film 32 = .ok (.istore 5, 2) := by decide +kernel
theorem dX8_film_34 : decode cX8_film 34 = .ok (.iload 5, 2) := by decide +kernel
theorem dX8_film_36 : decode cX8_film 36 = .ok (.aload_n 0, 1) := by decide +kernel
theorem dX8_film_37 : decode cX8_film 37 = .ok (.getfield 72, 3) := by decide +kernel
theorem dX8_film_40 : decode cX8_film 40 = .ok (.if_icmp .ge 34, 3) := by decide +kernel
theorem dX8_film_43 : decode cX8_film 43 = .ok (.aload_n 0, 1) := by decide +kernel
theorem dX8_film_44 : decode cX8_film 44 = .ok (.getfield 65, 3) := by decide +kernel
theorem dX8_film_47 : decode cX8_film 47 = .ok (.bipush 24, 2) := by decide +kernel
theorem dX8_film_49 : decode cX8_film 49 = .ok (.iload_n 1, 1) := by decide +kernel
theorem dX8_film_50 : decode cX8_film 50 = .ok (.imul, 1) := by decide +kernel
theorem dX8_film_51 : decode cX8_film 51 = .ok (.iload_n 3, 1) := by decide +kernel
theorem dX8_film_52 : decode cX8_film 52 = .ok (.iadd, 1) := by decide +kernel
theorem dX8_film_53 : decode cX8_film 53 = .ok (.iload 5, 2) := by decide +kernel
theorem dX8_film_55 : decode cX8_film 55 = .ok (.iadd, 1) := by decide +kernel
theorem dX8_film_56 : decode cX8_film 56 = .ok (.aload_n 0, 1) := by decide +kernel
theorem dX8_film_57 : decode cX8_film 57 = .ok (.getfield 7, 3) := by decide +kernel
theorem dX8_film_60 : decode cX8_film 60 = .ok (.bipush 42, 2) := by decide +kernel
theorem dX8_film_62 : decode cX8_film 62 = .ok (.iload 5, 2) := by decide +kernel
theorem dX8_film_64 : decode cX8_film 64 = .ok (.iadd, 1) := by decide +kernel
theorem dX8_film_65 : decode cX8_film 65 = .ok (.iaload, 1) := by decide +kernel
theorem dX8_film_66 : decode cX8_film 66 = .ok (.i2l, 1) := by decide +kernel
theorem dX8_film_67 : decode cX8_film 67 = .ok (.lastore, 1) := by decide +kernel
theorem dX8_film_68 : decode cX8_film 68 = .ok (.iinc 5 1, 3) := by decide +kernel
theorem dX8_film_71 : decode cX8_film 71 = .ok (.goto (-37), 3) := by decide +kernel
theorem dX8_film_74 : decode cX8_film 74 = .ok (.aload_n 0, 1) := by decide +kernel
theorem dX8_film_75 : decode cX8_film 75 = .ok (.getfield 72, 3) := by decide +kernel
theorem dX8_film_78 : decode cX8_film 78 = .ok (.ireturn, 1) := by decide +kernel
theorem dX8_areSo_0 : decode cX8_areSo 0 = .ok (.iconst 1, 1) := by decide +kernel
theorem dX8_areSo_1 : decode cX8_areSo 1 = .ok (.istore_n 2, 1) := by decide +kernel
theorem dX8_areSo_2 : decode cX8_areSo 2 = .ok (.iconst 0, 1) := by decide +kernel
theorem dX8_areSo_3 : decode cX8_areSo 3 = .ok (.istore_n 3, 1) := by decide +kernel
theorem dX8_areSo_4 : decode cX8_areSo 4 = .ok (.iload_n 3, 1) := by decide +kernel
theorem dX8_areSo_5 : decode cX8_areSo 5 = .ok (.aload_n 0, 1) := by decide +kernel
theorem dX8_areSo_6 : decode cX8_areSo 6 = .ok (.getfield 72, 3) := by decide +kernel
theorem dX8_areSo_9 : decode cX8_areSo 9 = .ok (.if_icmp .ge 41, 3) := by decide +kernel
theorem dX8_areSo_12 : decode cX8_areSo 12 = .ok (.iload_n 2, 1) := by decide +kernel
theorem dX8_areSo_13 : decode cX8_areSo 13 = .ok (.ifCond .eq 29, 3) := by decide +kernel
theorem dX8_areSo_16 : decode cX8_areSo 16 = .ok (.aload_n 0, 1) := by decide +kernel
theorem dX8_areSo_17 : decode cX8_areSo 17 = .ok (.getfield 65, 3) := by decide +kernel
theorem dX8_areSo_20 : decode cX8_areSo 20 = .ok (.iload_n 1, 1) := by decide +kernel
theorem dX8_areSo_21 : decode cX8_areSo 21 = .ok (.iload_n 3, 1) := by decide +kernel
theorem dX8_areSo_22 : decode cX8_areSo 22 = .ok (.iadd, 1) := by decide +kernel
theorem dX8_areSo_23 : decode cX8_areSo 23 = .ok (.laload, 1) := by decide +kernel
theorem dX8_areSo_24 : decode cX8_areSo 24 = .ok (.aload_n 0, 1) := by decide +kernel
theorem dX8_areSo_25 : decode cX8_areSo 25 = .ok (.getfield 7, 3) := by decide +kernel
theorem dX8_areSo_28 : decode cX8_areSo 28 = .ok (.bipush 42, 2) := by decide +kernel
theorem dX8_areSo_30 : decode cX8_areSo 30 = .ok (.iload_n 3, 1) := by decide +kernel
theorem dX8_areSo_31 : decode cX8_areSo 31 = .ok (.iadd, 1) := by decide +kernel
theorem dX8_areSo_32 : decode cX8_areSo 32 = .ok (.iaload, 1) := by decide +kernel
theorem dX8_areSo_33 : decode cX8_areSo 33 = .ok (.i2l, 1) := by decide +kernel
theorem dX8_areSo_34 : decode cX8_areSo 34 = .ok (.lcmp, 1) := by decide +kernel
theorem dX8_areSo_35 : decode cX8_areSo 35 = .ok (.ifCond .ne 7, 3) := by decide +kernel
theorem dX8_areSo_38 : decode cX8_areSo 38 = .ok (.iconst 1, 1) := by decide +kernel
theorem dX8_areSo_39 : decode cX8_areSo 39 = .ok (.goto 4, 3) := by decide +kernel
theorem dX8_areSo_42 : decode cX8_areSo 42 = .ok (.iconst 0, 1) := by decide +kernel
theorem dX8_areSo_43 : decode cX8_areSo 43 = .ok (.istore_n 2, 1) := by decide +kernel
theorem dX8_areSo_44 : decode cX8_areSo 44 = .ok (.iinc 3 1, 3) := by decide +kernel
theorem dX8_areSo_47 : decode cX8_areSo 47 = .ok (.goto (-43), 3) := by decide +kernel
theorem dX8_areSo_50 : decode cX8_areSo 50 = .ok (.iload_n 2, 1) := by decide +kernel
theorem dX8_areSo_51 : decode cX8_areSo 51 = .ok (.ireturn, 1) := by decide +kernel
theorem dX8_seen_0 : decode cX8_seen 0 = .ok (.iload_n 1, 1) := by decide +kernel
theorem dX8_seen_1 : decode cX8_seen 1 = .ok (.iload_n 2, 1) := by decide +kernel
theorem dX8_seen_2 : decode cX8_seen 2 = .ok (.invokestatic 302, 3) := by decide +kernel
theorem dX8_seen_5 : decode cX8_seen 5 = .ok (.ifCond .ne 5, 3) := by decide +kernel
theorem dX8_seen_8 : decode cX8_seen 8 = .ok (.iconst (-1), 1) := by decide +kernel
theorem dX8_seen_9 : decode cX8_seen 9 = .ok (.ireturn, 1) := by decide +kernel
theorem dX8_seen_10 : decode cX8_seen 10 = .ok (.aload_n 0, 1) := by decide +kernel
theorem dX8_seen_11 : decode cX8_seen 11 = .ok (.iload_n 1, 1) := by decide +kernel
theorem dX8_seen_12 : decode cX8_seen 12 = .ok (.iload_n 2, 1) := by decide +kernel
theorem dX8_seen_13 : decode cX8_seen 13 = .ok (.iload_n 3, 1) := by decide +kernel
theorem dX8_seen_14 : decode cX8_seen 14 = .ok (.aload_n 0, 1) := by decide +kernel
theorem dX8_seen_15 : decode cX8_seen 15 = .ok (.getfield 72, 3) := by decide +kernel
theorem dX8_seen_18 : decode cX8_seen 18 = .ok (.invokevirtual 305, 3) := by decide +kernel
theorem dX8_seen_21 : decode cX8_seen 21 = .ok (.istore 4, 2) := by decide +kernel
theorem dX8_seen_23 : decode cX8_seen 23 = .ok (.iload 4, 2) := by decide +kernel
theorem dX8_seen_25 : decode cX8_seen 25 = .ok (.ifCond .ge 6, 3) := by decide +kernel
theorem dX8_seen_28 : decode cX8_seen 28 = .ok (.iload 4, 2) := by decide +kernel
theorem dX8_seen_30 : decode cX8_seen 30 = .ok (.ireturn, 1) := by decide +kernel
theorem dX8_seen_31 : decode cX8_seen 31 = .ok (.bipush 24, 2) := by decide +kernel
theorem dX8_seen_33 : decode cX8_seen 33 = .ok (.iload_n 1, 1) := by decide +kernel
theorem dX8_seen_34 : decode cX8_seen 34 = .ok (.imul, 1) := by decide +kernel
theorem dX8_seen_35 : decode cX8_seen 35 = .ok (.iload_n 3, 1) := by decide +kernel
theorem dX8_seen_36 : decode cX8_seen 36 = .ok (.iadd, 1) := by decide +kernel
theorem dX8_seen_37 : decode cX8_seen 37 = .ok (.istore 5, 2) := by decide +kernel
theorem dX8_seen_39 : decode cX8_seen 39 = .ok (.aload_n 0, 1) := by decide +kernel
theorem dX8_seen_40 : decode cX8_seen 40 = .ok (.invokevirtual 245, 3) := by decide +kernel
theorem dX8_seen_43 : decode cX8_seen 43 = .ok (.iconst 0, 1) := by decide +kernel
theorem dX8_seen_44 : decode cX8_seen 44 = .ok (.istore 6, 2) := by decide +kernel
theorem dX8_seen_46 : decode cX8_seen 46 = .ok (.iload 6, 2) := by decide +kernel
theorem dX8_seen_48 : decode cX8_seen 48 = .ok (.sipush 200, 3) := by decide +kernel
theorem dX8_seen_51 : decode cX8_seen 51 = .ok (.if_icmp .ge 27, 3) := by decide +kernel
theorem dX8_seen_54 : decode cX8_seen 54 = .ok (.aload_n 0, 1) := by decide +kernel
theorem dX8_seen_55 : decode cX8_seen 55 = .ok (.iload 5, 2) := by decide +kernel
theorem dX8_seen_57 : decode cX8_seen 57 = .ok (.invokevirtual 312, 3) := by decide +kernel
theorem dX8_seen_60 : decode cX8_seen 60 = .ok (.ifCond .ne 18, 3) := by decide +kernel
theorem dX8_seen_63 : decode cX8_seen 63 = .ok (.aload_n 0, 1) := by decide +kernel
theorem dX8_seen_64 : decode cX8_seen 64 = .ok (.aload_n 0, 1) := by decide +kernel
theorem dX8_seen_65 : decode cX8_seen 65 = .ok (.invokevirtual 223, 3) := by decide +kernel
theorem dX8_seen_68 : decode cX8_seen 68 = .ok (.invokevirtual 226, 3) := by decide +kernel
theorem dX8_seen_71 : decode cX8_seen 71 = .ok (.pop, 1) := by decide +kernel
theorem dX8_seen_72 : decode cX8_seen 72 = .ok (.iinc 6 1, 3) := by decide +kernel
theorem dX8_seen_75 : decode cX8_seen 75 = .ok (.goto (-29), 3) := by decide +kernel
theorem dX8_seen_78 : decode cX8_seen 78 = .ok (.aload_n 0, 1) := by decide +kernel
theorem dX8_seen_79 : decode cX8_seen 79 = .ok (.iload 5, 2) := by decide +kernel
theorem dX8_seen_81 : decode cX8_seen 81 = .ok (.invokevirtual 312, 3) := by decide +kernel
theorem dX8_seen_84 : decode cX8_seen 84 = .ok (.ifCond .eq 8, 3) := by decide +kernel
theorem dX8_seen_87 : decode cX8_seen 87 = .ok (.iload 6, 2) := by decide +kernel
theorem dX8_seen_89 : decode cX8_seen 89 = .ok (.goto 5, 3) := by decide +kernel
theorem dX8_seen_92 : decode cX8_seen 92 = .ok (.bipush (-4), 2) := by decide +kernel
theorem dX8_seen_94 : decode cX8_seen 94 = .ok (.istore 7, 2) := by decide +kernel
theorem dX8_seen_96 : decode cX8_seen 96 = .ok (.aload_n 0, 1) := by decide +kernel
theorem dX8_seen_97 : decode cX8_seen 97 = .ok (.invokevirtual 251, 3) := by decide +kernel
theorem dX8_seen_100 : decode cX8_seen 100 = .ok (.iload 7, 2) := by decide +kernel
theorem dX8_seen_102 : decode cX8_seen 102 = .ok (.ireturn, 1) := by decide +kernel
theorem dX8_copy_0 : decode cX8_copy 0 = .ok (.iload_n 1, 1) := by decide +kernel
theorem dX8_copy_1 : decode cX8_copy 1 = .ok (.i2l, 1) := by decide +kernel
theorem dX8_copy_2 : decode cX8_copy 2 = .ok (.lconst 0, 1) := by decide +kernel
theorem dX8_copy_3 : decode cX8_copy 3 = .ok (.ldc2_w 300, 3) := by decide +kernel
theorem dX8_copy_6 : decode cX8_copy 6 = .ok (.invokestatic 75, 3) := by decide +kernel
theorem dX8_copy_9 : decode cX8_copy 9 = .ok (.ifCond .eq 15, 3) := by decide +kernel
theorem dX8_copy_12 : decode cX8_copy 12 = .ok (.iload_n 3, 1) := by decide +kernel
theorem dX8_copy_13 : decode cX8_copy 13 = .ok (.i2l, 1) := by decide +kernel
theorem dX8_copy_14 : decode cX8_copy 14 = .ok (.lconst 0, 1) := by decide +kernel
theorem dX8_copy_15 : decode cX8_copy 15 = .ok (.ldc2_w 300, 3) := by decide +kernel
theorem dX8_copy_18 : decode cX8_copy 18 = .ok (.invokestatic 75, 3) := by decide +kernel
theorem dX8_copy_21 : decode cX8_copy 21 = .ok (.ifCond .ne 5, 3) := by decide +kernel
theorem dX8_copy_24 : decode cX8_copy 24 = .ok (.iconst (-1), 1) := by decide +kernel
theorem dX8_copy_25 : decode cX8_copy 25 = .ok (.ireturn, 1) := by decide +kernel
theorem dX8_copy_26 : decode cX8_copy 26 = .ok (.aload_n 0, 1) := by decide +kernel
theorem dX8_copy_27 : decode cX8_copy 27 = .ok (.getfield 59, 3) := by decide +kernel
theorem dX8_copy_30 : decode cX8_copy 30 = .ok (.iload_n 1, 1) := by decide +kernel
theorem dX8_copy_31 : decode cX8_copy 31 = .ok (.iaload, 1) := by decide +kernel
theorem dX8_copy_32 : decode cX8_copy 32 = .ok (.ifCond .lt 12, 3) := by decide +kernel
theorem dX8_copy_35 : decode cX8_copy 35 = .ok (.aload_n 0, 1) := by decide +kernel
theorem dX8_copy_36 : decode cX8_copy 36 = .ok (.getfield 59, 3) := by decide +kernel
theorem dX8_copy_39 : decode cX8_copy 39 = .ok (.iload_n 3, 1) := by decide +kernel
theorem dX8_copy_40 : decode cX8_copy 40 = .ok (.iaload, 1) := by decide +kernel
theorem dX8_copy_41 : decode cX8_copy 41 = .ok (.ifCond .ge 6, 3) := by decide +kernel
theorem dX8_copy_44 : decode cX8_copy 44 = .ok (.bipush (-11), 2) := by decide +kernel
theorem dX8_copy_46 : decode cX8_copy 46 = .ok (.ireturn, 1) := by decide +kernel
theorem dX8_copy_47 : decode cX8_copy 47 = .ok (.aload_n 0, 1) := by decide +kernel
theorem dX8_copy_48 : decode cX8_copy 48 = .ok (.getfield 59, 3) := by decide +kernel
theorem dX8_copy_51 : decode cX8_copy 51 = .ok (.iload_n 1, 1) := by decide +kernel
theorem dX8_copy_52 : decode cX8_copy 52 = .ok (.iaload, 1) := by decide +kernel
theorem dX8_copy_53 : decode cX8_copy 53 = .ok (.aload_n 0, 1) := by decide +kernel
theorem dX8_copy_54 : decode cX8_copy 54 = .ok (.getfield 59, 3) := by decide +kernel
theorem dX8_copy_57 : decode cX8_copy 57 = .ok (.iload_n 3, 1) := by decide +kernel
theorem dX8_copy_58 : decode cX8_copy 58 = .ok (.iaload, 1) := by decide +kernel
theorem dX8_copy_59 : decode cX8_copy 59 = .ok (.if_icmp .eq 6, 3) := by decide +kernel
theorem dX8_copy_62 : decode cX8_copy 62 = .ok (.bipush (-12), 2) := by decide +kernel
theorem dX8_copy_64 : decode cX8_copy 64 = .ok (.ireturn, 1) := by decide +kernel
theorem dX8_copy_65 : decode cX8_copy 65 = .ok (.iload 5, 2) := by decide +kernel
theorem dX8_copy_67 : decode cX8_copy 67 = .ok (.ifCond .lt 44, 3) := by decide +kernel
theorem dX8_copy_70 : decode cX8_copy 70 = .ok (.iload_n 2, 1) := by decide +kernel
theorem dX8_copy_71 : decode cX8_copy 71 = .ok (.i2l, 1) := by decide +kernel
theorem dX8_copy_72 : decode cX8_copy 72 = .ok (.lconst 0, 1) := by decide +kernel
theorem dX8_copy_73 : decode cX8_copy 73 = .ok (.aload_n 0, 1) := by decide +kernel
theorem dX8_copy_74 : decode cX8_copy 74 = .ok (.getfield 62, 3) := by decide +kernel
theorem dX8_copy_77 : decode cX8_copy 77 = .ok (.iload_n 1, 1) := by decide +kernel
theorem dX8_copy_78 : decode cX8_copy 78 = .ok (.iaload, 1) := by decide +kernel
theorem dX8_copy_79 : decode cX8_copy 79 = .ok (.i2l, 1) := by decide +kernel
theorem dX8_copy_80 : decode cX8_copy 80 = .ok (.iload 5, 2) := by decide +kernel
theorem dX8_copy_82 : decode cX8_copy 82 = .ok (.i2l, 1) := by decide +kernel
theorem dX8_copy_83 : decode cX8_copy 83 = .ok (.lsub, 1) := by decide +kernel
theorem dX8_copy_84 : decode cX8_copy 84 = .ok (.invokestatic 75, 3) := by decide +kernel
theorem dX8_copy_87 : decode cX8_copy 87 = .ok (.ifCond .eq 24, 3) := by decide +kernel
theorem dX8_copy_90 : decode cX8_copy 90 = .ok (.iload 4, 2) := by decide +kernel
theorem dX8_copy_92 : decode cX8_copy 92 = .ok (.i2l, 1) := by decide +kernel
theorem dX8_copy_93 : decode cX8_copy 93 = .ok (.lconst 0, 1) := by decide +kernel
theorem dX8_copy_94 : decode cX8_copy 94 = .ok (.aload_n 0, 1) := by decide +kernel
theorem dX8_copy_95 : decode cX8_copy 95 = .ok (.getfield 62, 3) := by decide +kernel
theorem dX8_copy_98 : decode cX8_copy 98 = .ok (.iload_n 3, 1) := by decide +kernel
theorem dX8_copy_99 : decode cX8_copy 99 = .ok (.iaload, 1) := by decide +kernel
theorem dX8_copy_100 : decode cX8_copy 100 = .ok (.i2l, 1) := by decide +kernel
theorem dX8_copy_101 : decode cX8_copy 101 = .ok (.iload 5, 2) := by decide +kernel
theorem dX8_copy_103 : decode cX8_copy 103 = .ok (.i2l, 1) := by decide +kernel
theorem dX8_copy_104 : decode cX8_copy 104 = .ok (.lsub, 1) := by decide +kernel
theorem dX8_copy_105 : decode cX8_copy 105 = .ok (.invokestatic 75, 3) := by decide +kernel
theorem dX8_copy_108 : decode cX8_copy 108 = .ok (.ifCond .ne 6, 3) := by decide +kernel
theorem dX8_copy_111 : decode cX8_copy 111 = .ok (.bipush (-13), 2) := by decide +kernel
theorem dX8_copy_113 : decode cX8_copy 113 = .ok (.ireturn, 1) := by decide +kernel
theorem dX8_copy_114 : decode cX8_copy 114 = .ok (.iconst 0, 1) := by decide +kernel
theorem dX8_copy_115 : decode cX8_copy 115 = .ok (.istore 6, 2) := by decide +kernel
theorem dX8_copy_117 : decode cX8_copy 117 = .ok (.iload 6, 2) := by decide +kernel
theorem dX8_copy_119 : decode cX8_copy 119 = .ok (.iload 5, 2) := by decide +kernel
theorem dX8_copy_121 : decode cX8_copy 121 = .ok (.if_icmp .ge 30, 3) := by decide +kernel
theorem dX8_copy_124 : decode cX8_copy 124 = .ok (.aload_n 0, 1) := by decide +kernel
theorem dX8_copy_125 : decode cX8_copy 125 = .ok (.getfield 69, 3) := by decide +kernel
theorem dX8_copy_128 : decode cX8_copy 128 = .ok (.iload 6, 2) := by decide +kernel
theorem dX8_copy_130 : decode cX8_copy 130 = .ok (.aload_n 0, 1) := by decide +kernel
theorem dX8_copy_131 : decode cX8_copy 131 = .ok (.getfield 65, 3) := by decide +kernel
theorem dX8_copy_134 : decode cX8_copy 134 = .ok (.bipush 24, 2) := by decide +kernel
theorem dX8_copy_136 : decode cX8_copy 136 = .ok (.iload_n 1, 1) := by decide +kernel
theorem dX8_copy_137 : decode cX8_copy 137 = .ok (.imul, 1) := by decide +kernel
theorem dX8_copy_138 : decode cX8_copy 138 = .ok (.iload_n 2, 1) := by decide +kernel
theorem dX8_copy_139 : decode cX8_copy 139 = .ok (.iadd, 1) := by decide +kernel
theorem dX8_copy_140 : decode cX8_copy 140 = .ok (.iload 6, 2) := by decide +kernel
theorem dX8_copy_142 : decode cX8_copy 142 = .ok (.iadd, 1) := by decide +kernel
theorem dX8_copy_143 : decode cX8_copy 143 = .ok (.laload, 1) := by decide +kernel
theorem dX8_copy_144 : decode cX8_copy 144 = .ok (.lastore, 1) := by decide +kernel
theorem dX8_copy_145 : decode cX8_copy 145 = .ok (.iinc 6 1, 3) := by decide +kernel
theorem dX8_copy_148 : decode cX8_copy 148 = .ok (.goto (-31), 3) := by decide +kernel
theorem dX8_copy_151 : decode cX8_copy 151 = .ok (.iconst 0, 1) := by decide +kernel
theorem dX8_copy_152 : decode cX8_copy 152 = .ok (.istore 6, 2) := by decide +kernel
theorem dX8_copy_154 : decode cX8_copy 154 = .ok (.iload 6, 2) := by decide +kernel
theorem dX8_copy_156 : decode cX8_copy 156 = .ok (.iload 5, 2) := by decide +kernel
theorem dX8_copy_158 : decode cX8_copy 158 = .ok (.if_icmp .ge 31, 3) := by decide +kernel
theorem dX8_copy_161 : decode cX8_copy 161 = .ok (.aload_n 0, 1) := by decide +kernel
theorem dX8_copy_162 : decode cX8_copy 162 = .ok (.getfield 65, 3) := by decide +kernel
theorem dX8_copy_165 : decode cX8_copy 165 = .ok (.bipush 24, 2) := by decide +kernel
theorem dX8_copy_167 : decode cX8_copy 167 = .ok (.iload_n 3, 1) := by decide +kernel
theorem dX8_copy_168 : decode cX8_copy 168 = .ok (.imul, 1) := by decide +kernel
theorem dX8_copy_169 : decode cX8_copy 169 = .ok (.iload 4, 2) := by decide +kernel
theorem dX8_copy_171 : decode cX8_copy 171 = .ok (.iadd, 1) := by decide +kernel
theorem dX8_copy_172 : decode cX8_copy 172 = .ok (.iload 6, 2) := by decide +kernel
theorem dX8_copy_174 : decode cX8_copy 174 = .ok (.iadd, 1) := by decide +kernel
theorem dX8_copy_175 : decode cX8_copy 175 = .ok (.aload_n 0, 1) := by decide +kernel
theorem dX8_copy_176 : decode cX8_copy 176 = .ok (.getfield 69, 3) := by decide +kernel
theorem dX8_copy_179 : decode cX8_copy 179 = .ok (.iload 6, 2) := by decide +kernel
theorem dX8_copy_181 : decode cX8_copy 181 = .ok (.laload, 1) := by decide +kernel
theorem dX8_copy_182 : decode cX8_copy 182 = .ok (.lastore, 1) := by decide +kernel
theorem dX8_copy_183 : decode cX8_copy 183 = .ok (.iinc 6 1, 3) := by decide +kernel
theorem dX8_copy_186 : decode cX8_copy 186 = .ok (.goto (-32), 3) := by decide +kernel
theorem dX8_copy_189 : decode cX8_copy 189 = .ok (.iload 5, 2) := by decide +kernel
theorem dX8_copy_191 : decode cX8_copy 191 = .ok (.ireturn, 1) := by decide +kernel
theorem dJ11_isValidCodePoint_9a6ad_0 : decode cJ11_isValidCodePoint_9a6ad 0 = .ok (.iload_n 0, 1) := by decide +kernel
theorem dJ11_isValidCodePoint_9a6ad_1 : decode cJ11_isValidCodePoint_9a6ad 1 = .ok (.bipush 16, 2) := by decide +kernel
theorem dJ11_isValidCodePoint_9a6ad_3 : decode cJ11_isValidCodePoint_9a6ad 3 = .ok (.iushr, 1) := by decide +kernel
theorem dJ11_isValidCodePoint_9a6ad_4 : decode cJ11_isValidCodePoint_9a6ad 4 = .ok (.istore_n 1, 1) := by decide +kernel
theorem dJ11_isValidCodePoint_9a6ad_5 : decode cJ11_isValidCodePoint_9a6ad 5 = .ok (.iload_n 1, 1) := by decide +kernel
theorem dJ11_isValidCodePoint_9a6ad_6 : decode cJ11_isValidCodePoint_9a6ad 6 = .ok (.bipush 17, 2) := by decide +kernel
theorem dJ11_isValidCodePoint_9a6ad_8 : decode cJ11_isValidCodePoint_9a6ad 8 = .ok (.if_icmp .ge 7, 3) := by decide +kernel
theorem dJ11_isValidCodePoint_9a6ad_11 : decode cJ11_isValidCodePoint_9a6ad 11 = .ok (.iconst 1, 1) := by decide +kernel
theorem dJ11_isValidCodePoint_9a6ad_12 : decode cJ11_isValidCodePoint_9a6ad 12 = .ok (.goto 4, 3) := by decide +kernel
theorem dJ11_isValidCodePoint_9a6ad_15 : decode cJ11_isValidCodePoint_9a6ad 15 = .ok (.iconst 0, 1) := by decide +kernel
theorem dJ11_isValidCodePoint_9a6ad_16 : decode cJ11_isValidCodePoint_9a6ad 16 = .ok (.ireturn, 1) := by decide +kernel
theorem dJ11_highSurrogate_5068e_0 : decode cJ11_highSurrogate_5068e 0 = .ok (.iload_n 0, 1) := by decide +kernel
theorem dJ11_highSurrogate_5068e_1 : decode cJ11_highSurrogate_5068e 1 = .ok (.bipush 10, 2) := by decide +kernel
theorem dJ11_highSurrogate_5068e_3 : decode cJ11_highSurrogate_5068e 3 = .ok (.iushr, 1) := by decide +kernel
theorem dJ11_highSurrogate_5068e_4 : decode cJ11_highSurrogate_5068e 4 = .ok (.ldc 110, 2) := by decide +kernel
theorem dJ11_highSurrogate_5068e_6 : decode cJ11_highSurrogate_5068e 6 = .ok (.iadd, 1) := by decide +kernel
theorem dJ11_highSurrogate_5068e_7 : decode cJ11_highSurrogate_5068e 7 = .ok (.i2c, 1) := by decide +kernel
theorem dJ11_highSurrogate_5068e_8 : decode cJ11_highSurrogate_5068e 8 = .ok (.ireturn, 1) := by decide +kernel
theorem dJ11_lowSurrogate_5068e_0 : decode cJ11_lowSurrogate_5068e 0 = .ok (.iload_n 0, 1) := by decide +kernel
theorem dJ11_lowSurrogate_5068e_1 : decode cJ11_lowSurrogate_5068e 1 = .ok (.sipush 1023, 3) := by decide +kernel
theorem dJ11_lowSurrogate_5068e_4 : decode cJ11_lowSurrogate_5068e 4 = .ok (.iand, 1) := by decide +kernel
theorem dJ11_lowSurrogate_5068e_5 : decode cJ11_lowSurrogate_5068e 5 = .ok (.ldc 76, 2) := by decide +kernel
theorem dJ11_lowSurrogate_5068e_7 : decode cJ11_lowSurrogate_5068e 7 = .ok (.iadd, 1) := by decide +kernel
theorem dJ11_lowSurrogate_5068e_8 : decode cJ11_lowSurrogate_5068e 8 = .ok (.i2c, 1) := by decide +kernel
theorem dJ11_lowSurrogate_5068e_9 : decode cJ11_lowSurrogate_5068e 9 = .ok (.ireturn, 1) := by decide +kernel
theorem dJ9_max_7cf53_0 : decode cJ9_max_7cf53 0 = .ok (.iload_n 0, 1) := by decide +kernel
theorem dJ9_max_7cf53_1 : decode cJ9_max_7cf53 1 = .ok (.iload_n 1, 1) := by decide +kernel
theorem dJ9_max_7cf53_2 : decode cJ9_max_7cf53 2 = .ok (.if_icmp .lt 7, 3) := by decide +kernel
theorem dJ9_max_7cf53_5 : decode cJ9_max_7cf53 5 = .ok (.iload_n 0, 1) := by decide +kernel
theorem dJ9_max_7cf53_6 : decode cJ9_max_7cf53 6 = .ok (.goto 4, 3) := by decide +kernel
theorem dJ9_max_7cf53_9 : decode cJ9_max_7cf53 9 = .ok (.iload_n 1, 1) := by decide +kernel
theorem dJ9_max_7cf53_10 : decode cJ9_max_7cf53 10 = .ok (.ireturn, 1) := by decide +kernel
theorem dJ9_min_7cf53_0 : decode cJ9_min_7cf53 0 = .ok (.iload_n 0, 1) := by decide +kernel
theorem dJ9_min_7cf53_1 : decode cJ9_min_7cf53 1 = .ok (.iload_n 1, 1) := by decide +kernel
theorem dJ9_min_7cf53_2 : decode cJ9_min_7cf53 2 = .ok (.if_icmp .gt 7, 3) := by decide +kernel
theorem dJ9_min_7cf53_5 : decode cJ9_min_7cf53 5 = .ok (.iload_n 0, 1) := by decide +kernel
theorem dJ9_min_7cf53_6 : decode cJ9_min_7cf53 6 = .ok (.goto 4, 3) := by decide +kernel
theorem dJ9_min_7cf53_9 : decode cJ9_min_7cf53 9 = .ok (.iload_n 1, 1) := by decide +kernel
theorem dJ9_min_7cf53_10 : decode cJ9_min_7cf53 10 = .ok (.ireturn, 1) := by decide +kernel
theorem dJ0_length_8abf5_0 : decode cJ0_length_8abf5 0 = .ok (.aload_n 0, 1) := by decide +kernel
theorem dJ0_length_8abf5_1 : decode cJ0_length_8abf5 1 = .ok (.getfield 9, 3) := by decide +kernel
theorem dJ0_length_8abf5_4 : decode cJ0_length_8abf5 4 = .ok (.arraylength, 1) := by decide +kernel
theorem dJ0_length_8abf5_5 : decode cJ0_length_8abf5 5 = .ok (.aload_n 0, 1) := by decide +kernel
theorem dJ0_length_8abf5_6 : decode cJ0_length_8abf5 6 = .ok (.invokevirtual 335, 3) := by decide +kernel
theorem dJ0_length_8abf5_9 : decode cJ0_length_8abf5 9 = .ok (.ishr, 1) := by decide +kernel
theorem dJ0_length_8abf5_10 : decode cJ0_length_8abf5 10 = .ok (.ireturn, 1) := by decide +kernel
theorem dJ0_indexOf_0f7a4_0 : decode cJ0_indexOf_0f7a4 0 = .ok (.aload_n 0, 1) := by decide +kernel
theorem dJ0_indexOf_0f7a4_1 : decode cJ0_indexOf_0f7a4 1 = .ok (.iload_n 1, 1) := by decide +kernel
theorem dJ0_indexOf_0f7a4_2 : decode cJ0_indexOf_0f7a4 2 = .ok (.iconst 0, 1) := by decide +kernel
theorem dJ0_indexOf_0f7a4_3 : decode cJ0_indexOf_0f7a4 3 = .ok (.invokevirtual 633, 3) := by decide +kernel
theorem dJ0_indexOf_0f7a4_6 : decode cJ0_indexOf_0f7a4 6 = .ok (.ireturn, 1) := by decide +kernel
theorem dJ0_indexOf_7cf53_0 : decode cJ0_indexOf_7cf53 0 = .ok (.aload_n 0, 1) := by decide +kernel
theorem dJ0_indexOf_7cf53_1 : decode cJ0_indexOf_7cf53 1 = .ok (.invokevirtual 492, 3) := by decide +kernel
theorem dJ0_indexOf_7cf53_4 : decode cJ0_indexOf_7cf53 4 = .ok (.ifCond .eq 19, 3) := by decide +kernel
theorem dJ0_indexOf_7cf53_7 : decode cJ0_indexOf_7cf53 7 = .ok (.aload_n 0, 1) := by decide +kernel
theorem dJ0_indexOf_7cf53_8 : decode cJ0_indexOf_7cf53 8 = .ok (.getfield 9, 3) := by decide +kernel
theorem dJ0_indexOf_7cf53_11 : decode cJ0_indexOf_7cf53 11 = .ok (.iload_n 1, 1) := by decide +kernel
theorem dJ0_indexOf_7cf53_12 : decode cJ0_indexOf_7cf53 12 = .ok (.iload_n 2, 1) := by decide +kernel
theorem dJ0_indexOf_7cf53_13 : decode cJ0_indexOf_7cf53 13 = .ok (.aload_n 0, 1) := by decide +kernel
theorem dJ0_indexOf_7cf53_14 : decode cJ0_indexOf_7cf53 14 = .ok (.invokevirtual 505, 3) := by decide +kernel
theorem dJ0_indexOf_7cf53_17 : decode cJ0_indexOf_7cf53 17 = .ok (.invokestatic 637, 3) := by decide +kernel
theorem dJ0_indexOf_7cf53_20 : decode cJ0_indexOf_7cf53 20 = .ok (.goto 16, 3) := by decide +kernel
theorem dJ0_indexOf_7cf53_23 : decode cJ0_indexOf_7cf53 23 = .ok (.aload_n 0, 1) := by decide +kernel
theorem dJ0_indexOf_7cf53_24 : decode cJ0_indexOf_7cf53 24 = .ok (.getfield 9, 3) := by decide +kernel
theorem dJ0_indexOf_7cf53_27 : decode cJ0_indexOf_7cf53 27 = .ok (.iload_n 1, 1) := by decide +kernel
theorem dJ0_indexOf_7cf53_28 : decode cJ0_indexOf_7cf53 28 = .ok (.iload_n 2, 1) := by decide +kernel
theorem dJ0_indexOf_7cf53_29 : decode cJ0_indexOf_7cf53 29 = .ok (.aload_n 0, 1) := by decide +kernel
theorem dJ0_indexOf_7cf53_30 : decode cJ0_indexOf_7cf53 30 = .ok (.invokevirtual 505, 3) := by decide +kernel
theorem dJ0_indexOf_7cf53_33 : decode cJ0_indexOf_7cf53 33 = .ok (.invokestatic 640, 3) := by decide +kernel
theorem dJ0_indexOf_7cf53_36 : decode cJ0_indexOf_7cf53 36 = .ok (.ireturn, 1) := by decide +kernel
theorem dJ0_coder_7d493_0 : decode cJ0_coder_7d493 0 = .ok (.getstatic 38, 3) := by decide +kernel
theorem dJ0_coder_7d493_3 : decode cJ0_coder_7d493 3 = .ok (.ifCond .eq 10, 3) := by decide +kernel
theorem dJ0_coder_7d493_6 : decode cJ0_coder_7d493 6 = .ok (.aload_n 0, 1) := by decide +kernel
theorem dJ0_coder_7d493_7 : decode cJ0_coder_7d493 7 = .ok (.getfield 15, 3) := by decide +kernel
theorem dJ0_coder_7d493_10 : decode cJ0_coder_7d493 10 = .ok (.goto 4, 3) := by decide +kernel
theorem dJ0_coder_7d493_13 : decode cJ0_coder_7d493 13 = .ok (.iconst 1, 1) := by decide +kernel
theorem dJ0_coder_7d493_14 : decode cJ0_coder_7d493 14 = .ok (.ireturn, 1) := by decide +kernel
theorem dJ0_isLatin1_aae02_0 : decode cJ0_isLatin1_aae02 0 = .ok (.getstatic 38, 3) := by decide +kernel
theorem dJ0_isLatin1_aae02_3 : decode cJ0_isLatin1_aae02 3 = .ok (.ifCond .eq 14, 3) := by decide +kernel
theorem dJ0_isLatin1_aae02_6 : decode cJ0_isLatin1_aae02 6 = .ok (.aload_n 0, 1) := by decide +kernel
theorem dJ0_isLatin1_aae02_7 : decode cJ0_isLatin1_aae02 7 = .ok (.getfield 15, 3) := by decide +kernel
theorem dJ0_isLatin1_aae02_10 : decode cJ0_isLatin1_aae02 10 = .ok (.ifCond .ne 7, 3) := by decide +kernel
theorem dJ0_isLatin1_aae02_13 : decode cJ0_isLatin1_aae02 13 = .ok (.iconst 1, 1) := by decide +kernel
theorem dJ0_isLatin1_aae02_14 : decode cJ0_isLatin1_aae02 14 = .ok (.goto 4, 3) := by decide +kernel
theorem dJ0_isLatin1_aae02_17 : decode cJ0_isLatin1_aae02 17 = .ok (.iconst 0, 1) := by decide +kernel
theorem dJ0_isLatin1_aae02_18 : decode cJ0_isLatin1_aae02 18 = .ok (.ireturn, 1) := by decide +kernel
theorem dJ0_checkBoundsBeginEnd_23922_0 : decode cJ0_checkBoundsBeginEnd_23922 0 = .ok (.iload_n 0, 1) := by decide +kernel
theorem dJ0_checkBoundsBeginEnd_23922_1 : decode cJ0_checkBoundsBeginEnd_23922 1 = .ok (.iload_n 1, 1) := by decide +kernel
theorem dJ0_checkBoundsBeginEnd_23922_2 : decode cJ0_checkBoundsBeginEnd_23922 2 = .ok (.iload_n 2, 1) := by decide +kernel
theorem dJ0_checkBoundsBeginEnd_23922_3 : decode cJ0_checkBoundsBeginEnd_23922 3 = .ok (.getstatic 1053, 3) := by decide +kernel
theorem dJ0_checkBoundsBeginEnd_23922_6 : decode cJ0_checkBoundsBeginEnd_23922 6 = .ok (.invokestatic 1062, 3) := by decide +kernel
theorem dJ0_checkBoundsBeginEnd_23922_9 : decode cJ0_checkBoundsBeginEnd_23922 9 = .ok (.pop, 1) := by decide +kernel
theorem dJ0_checkBoundsBeginEnd_23922_10 : decode cJ0_checkBoundsBeginEnd_23922 10 = .ok (.return_, 1) := by decide +kernel
theorem dJ1_canEncode_9a6ad_0 : decode cJ1_canEncode_9a6ad 0 = .ok (.iload_n 0, 1) := by decide +kernel
theorem dJ1_canEncode_9a6ad_1 : decode cJ1_canEncode_9a6ad 1 = .ok (.ifCond .lt 14, 3) := by decide +kernel
theorem dJ1_canEncode_9a6ad_4 : decode cJ1_canEncode_9a6ad 4 = .ok (.iload_n 0, 1) := by decide +kernel
theorem dJ1_canEncode_9a6ad_5 : decode cJ1_canEncode_9a6ad 5 = .ok (.sipush 255, 3) := by decide +kernel
theorem dJ1_canEncode_9a6ad_8 : decode cJ1_canEncode_9a6ad 8 = .ok (.if_icmp .gt 7, 3) := by decide +kernel
theorem dJ1_canEncode_9a6ad_11 : decode cJ1_canEncode_9a6ad 11 = .ok (.iconst 1, 1) := by decide +kernel
theorem dJ1_canEncode_9a6ad_12 : decode cJ1_canEncode_9a6ad 12 = .ok (.goto 4, 3) := by decide +kernel
theorem dJ1_canEncode_9a6ad_15 : decode cJ1_canEncode_9a6ad 15 = .ok (.iconst 0, 1) := by decide +kernel
theorem dJ1_canEncode_9a6ad_16 : decode cJ1_canEncode_9a6ad 16 = .ok (.ireturn, 1) := by decide +kernel
theorem dJ1_indexOf_4cfef_0 : decode cJ1_indexOf_4cfef 0 = .ok (.iload_n 1, 1) := by decide +kernel
theorem dJ1_indexOf_4cfef_1 : decode cJ1_indexOf_4cfef 1 = .ok (.invokestatic 88, 3) := by decide +kernel
theorem dJ1_indexOf_4cfef_4 : decode cJ1_indexOf_4cfef 4 = .ok (.ifCond .ne 5, 3) := by decide +kernel
theorem dJ1_indexOf_4cfef_7 : decode cJ1_indexOf_4cfef 7 = .ok (.iconst (-1), 1) := by decide +kernel
theorem dJ1_indexOf_4cfef_8 : decode cJ1_indexOf_4cfef 8 = .ok (.ireturn, 1) := by decide +kernel
theorem dJ1_indexOf_4cfef_9 : decode cJ1_indexOf_4cfef 9 = .ok (.iload_n 2, 1) := by decide +kernel
theorem dJ1_indexOf_4cfef_10 : decode cJ1_indexOf_4cfef 10 = .ok (.iconst 0, 1) := by decide +kernel
theorem dJ1_indexOf_4cfef_11 : decode cJ1_indexOf_4cfef 11 = .ok (.invokestatic 92, 3) := by decide +kernel
theorem dJ1_indexOf_4cfef_14 : decode cJ1_indexOf_4cfef 14 = .ok (.istore_n 2, 1) := by decide +kernel
theorem dJ1_indexOf_4cfef_15 : decode cJ1_indexOf_4cfef 15 = .ok (.iload_n 3, 1) := by decide +kernel
theorem dJ1_indexOf_4cfef_16 : decode cJ1_indexOf_4cfef 16 = .ok (.aload_n 0, 1) := by decide +kernel
theorem dJ1_indexOf_4cfef_17 : decode cJ1_indexOf_4cfef 17 = .ok (.arraylength, 1) := by decide +kernel
theorem dJ1_indexOf_4cfef_18 : decode cJ1_indexOf_4cfef 18 = .ok (.invokestatic 38, 3) := by decide +kernel
theorem dJ1_indexOf_4cfef_21 : decode cJ1_indexOf_4cfef 21 = .ok (.istore_n 3, 1) := by decide +kernel
theorem dJ1_indexOf_4cfef_22 : decode cJ1_indexOf_4cfef 22 = .ok (.iload_n 2, 1) := by decide +kernel
theorem dJ1_indexOf_4cfef_23 : decode cJ1_indexOf_4cfef 23 = .ok (.iload_n 3, 1) := by decide +kernel
theorem dJ1_indexOf_4cfef_24 : decode cJ1_indexOf_4cfef 24 = .ok (.if_icmp .lt 5, 3) := by decide +kernel
theorem dJ1_indexOf_4cfef_27 : decode cJ1_indexOf_4cfef 27 = .ok (.iconst (-1), 1) := by decide +kernel
theorem dJ1_indexOf_4cfef_28 : decode cJ1_indexOf_4cfef 28 = .ok (.ireturn, 1) := by decide +kernel
theorem dJ1_indexOf_4cfef_29 : decode cJ1_indexOf_4cfef 29 = .ok (.aload_n 0, 1) := by decide +kernel
theorem dJ1_indexOf_4cfef_30 : decode cJ1_indexOf_4cfef 30 = .ok (.iload_n 1, 1) := by decide +kernel
theorem dJ1_indexOf_4cfef_31 : decode cJ1_indexOf_4cfef 31 = .ok (.iload_n 2, 1) := by decide +kernel
theorem dJ1_indexOf_4cfef_32 : decode cJ1_indexOf_4cfef 32 = .ok (.iload_n 3, 1) := by decide +kernel
theorem dJ1_indexOf_4cfef_33 : decode cJ1_indexOf_4cfef 33 = .ok (.invokestatic 95, 3) := by decide +kernel
theorem dJ1_indexOf_4cfef_36 : decode cJ1_indexOf_4cfef 36 = .ok (.ireturn, 1) := by decide +kernel
theorem dJ1_indexOfChar_4cfef_0 : decode cJ1_indexOfChar_4cfef 0 = .ok (.iload_n 1, 1) := by decide +kernel
theorem dJ1_indexOfChar_4cfef_1 : decode cJ1_indexOfChar_4cfef 1 = .ok (.i2b, 1) := by decide +kernel
theorem dJ1_indexOfChar_4cfef_2 : decode cJ1_indexOfChar_4cfef 2 = .ok (.istore 4, 2) := by decide +kernel
theorem dJ1_indexOfChar_4cfef_4 : decode cJ1_indexOfChar_4cfef 4 = .ok (.iload_n 2, 1) := by decide +kernel
theorem dJ1_indexOfChar_4cfef_5 : decode cJ1_indexOfChar_4cfef 5 = .ok (.istore 5, 2) := by decide +kernel
theorem dJ1_indexOfChar_4cfef_7 : decode cJ1_indexOfChar_4cfef 7 = .ok (.iload 5, 2) := by decide +kernel
theorem dJ1_indexOfChar_4cfef_9 : decode cJ1_indexOfChar_4cfef 9 = .ok (.iload_n 3, 1) := by decide +kernel
theorem dJ1_indexOfChar_4cfef_10 : decode cJ1_indexOfChar_4cfef 10 = .ok (.if_icmp .ge 21, 3) := by decide +kernel
theorem dJ1_indexOfChar_4cfef_13 : decode cJ1_indexOfChar_4cfef 13 = .ok (.aload_n 0, 1) := by decide +kernel
theorem dJ1_indexOfChar_4cfef_14 : decode cJ1_indexOfChar_4cfef 14 = .ok (.iload 5, 2) := by decide +kernel
theorem dJ1_indexOfChar_4cfef_16 : decode cJ1_indexOfChar_4cfef 16 = .ok (.baload, 1) := by decide +kernel
theorem dJ1_indexOfChar_4cfef_17 : decode cJ1_indexOfChar_4cfef 17 = .ok (.iload 4, 2) := by decide +kernel
theorem dJ1_indexOfChar_4cfef_19 : decode cJ1_indexOfChar_4cfef 19 = .ok (.if_icmp .ne 6, 3) := by decide +kernel
theorem dJ1_indexOfChar_4cfef_22 : decode cJ1_indexOfChar_4cfef 22 = .ok (.iload 5, 2) := by decide +kernel
theorem dJ1_indexOfChar_4cfef_24 : decode cJ1_indexOfChar_4cfef 24 = .ok (.ireturn, 1) := by decide +kernel
theorem dJ1_indexOfChar_4cfef_25 : decode cJ1_indexOfChar_4cfef 25 = .ok (.iinc 5 1, 3) := by decide +kernel
theorem dJ1_indexOfChar_4cfef_28 : decode cJ1_indexOfChar_4cfef 28 = .ok (.goto (-21), 3) := by decide +kernel
theorem dJ1_indexOfChar_4cfef_31 : decode cJ1_indexOfChar_4cfef 31 = .ok (.iconst (-1), 1) := by decide +kernel
theorem dJ1_indexOfChar_4cfef_32 : decode cJ1_indexOfChar_4cfef 32 = .ok (.ireturn, 1) := by decide +kernel
theorem dJ2_getChar_3b067_0 : decode cJ2_getChar_3b067 0 = .ok (.getstatic 44, 3) := by decide +kernel
theorem dJ2_getChar_3b067_3 : decode cJ2_getChar_3b067 3 = .ok (.ifCond .ne 25, 3) := by decide +kernel
theorem dJ2_getChar_3b067_6 : decode cJ2_getChar_3b067 6 = .ok (.iload_n 1, 1) := by decide +kernel
theorem dJ2_getChar_3b067_7 : decode cJ2_getChar_3b067 7 = .ok (.ifCond .lt 11, 3) := by decide +kernel
theorem dJ2_getChar_3b067_10 : decode cJ2_getChar_3b067 10 = .ok (.iload_n 1, 1) := by decide +kernel
theorem dJ2_getChar_3b067_11 : decode cJ2_getChar_3b067 11 = .ok (.aload_n 0, 1) := by decide +kernel
theorem dJ2_getChar_3b067_12 : decode cJ2_getChar_3b067 12 = .ok (.invokestatic 48, 3) := by decide +kernel
theorem dJ2_getChar_3b067_15 : decode cJ2_getChar_3b067 15 = .ok (.if_icmp .lt 13, 3) := by decide +kernel
theorem dJ2_getChar_3b067_18 : decode cJ2_getChar_3b067 18 = .ok (.new 52, 3) := by decide +kernel
theorem dJ2_getChar_3b067_21 : decode cJ2_getChar_3b067 21 = .ok (.dup, 1) := by decide +kernel
theorem dJ2_getChar_3b067_22 : decode cJ2_getChar_3b067 22 = .ok (.ldc 54, 2) := by decide +kernel
theorem dJ2_getChar_3b067_24 : decode cJ2_getChar_3b067 24 = .ok (.invokespecial 56, 3) := by decide +kernel
theorem dJ2_getChar_3b067_27 : decode cJ2_getChar_3b067 27 = .ok (.athrow, 1) := by decide +kernel
theorem dJ2_getChar_3b067_28 : decode cJ2_getChar_3b067 28 = .ok (.iload_n 1, 1) := by decide +kernel
theorem dJ2_getChar_3b067_29 : decode cJ2_getChar_3b067 29 = .ok (.iconst 1, 1) := by decide +kernel
theorem dJ2_getChar_3b067_30 : decode cJ2_getChar_3b067 30 = .ok (.ishl, 1) := by decide +kernel
theorem dJ2_getChar_3b067_31 : decode cJ2_getChar_3b067 31 = .ok (.istore_n 1, 1) := by decide +kernel
theorem dJ2_getChar_3b067_32 : decode cJ2_getChar_3b067 32 = .ok (.aload_n 0, 1) := by decide +kernel
theorem dJ2_getChar_3b067_33 : decode cJ2_getChar_3b067 33 = .ok (.iload_n 1, 1) := by decide +kernel
theorem dJ2_getChar_3b067_34 : decode cJ2_getChar_3b067 34 = .ok (.iinc 1 1, 3) := by decide +kernel
theorem dJ2_getChar_3b067_37 : decode cJ2_getChar_3b067 37 = .ok (.baload, 1) := by decide +kernel
theorem dJ2_getChar_3b067_38 : decode cJ2_getChar_3b067 38 = .ok (.sipush 255, 3) := by decide +kernel
theorem dJ2_getChar_3b067_41 : decode cJ2_getChar_3b067 41 = .ok (.iand, 1) := by decide +kernel
theorem dJ2_getChar_3b067_42 : decode cJ2_getChar_3b067 42 = .ok (.getstatic 59, 3) := by decide +kernel
theorem dJ2_getChar_3b067_45 : decode cJ2_getChar_3b067 45 = .ok (.ishl, 1) := by decide +kernel
theorem dJ2_getChar_3b067_46 : decode cJ2_getChar_3b067 46 = .ok (.aload_n 0, 1) := by decide +kernel
theorem dJ2_getChar_3b067_47 : decode cJ2_getChar_3b067 47 = .ok (.iload_n 1, 1) := by decide +kernel
theorem dJ2_getChar_3b067_48 : decode cJ2_getChar_3b067 48 = .ok (.baload, 1) := by decide +kernel
theorem dJ2_getChar_3b067_49 : decode cJ2_getChar_3b067 49 = .ok (.sipush 255, 3) := by decide +kernel
theorem dJ2_getChar_3b067_52 : decode cJ2_getChar_3b067 52 = .ok (.iand, 1) := by decide +kernel
theorem dJ2_getChar_3b067_53 : decode cJ2_getChar_3b067 53 = .ok (.getstatic 63, 3) := by decide +kernel
theorem dJ2_getChar_3b067_56 : decode cJ2_getChar_3b067 56 = .ok (.ishl, 1) := by decide +kernel
theorem dJ2_getChar_3b067_57 : decode cJ2_getChar_3b067 57 = .ok (.ior, 1) := by decide +kernel
theorem dJ2_getChar_3b067_58 : decode cJ2_getChar_3b067 58 = .ok (.i2c, 1) := by decide +kernel
theorem dJ2_getChar_3b067_59 : decode cJ2_getChar_3b067 59 = .ok (.ireturn, 1) := by decide +kernel
theorem dJ2_length_9d52b_0 : decode cJ2_length_9d52b 0 = .ok (.aload_n 0, 1) := by decide +kernel
theorem dJ2_length_9d52b_1 : decode cJ2_length_9d52b 1 = .ok (.arraylength, 1) := by decide +kernel
theorem dJ2_length_9d52b_2 : decode cJ2_length_9d52b 2 = .ok (.iconst 1, 1) := by decide +kernel
theorem dJ2_length_9d52b_3 : decode cJ2_length_9d52b 3 = .ok (.ishr, 1) := by decide +kernel
theorem dJ2_length_9d52b_4 : decode cJ2_length_9d52b 4 = .ok (.ireturn, 1) := by decide +kernel
theorem dJ2_indexOf_4cfef_0 : decode cJ2_indexOf_4cfef 0 = .ok (.iload_n 2, 1) := by decide +kernel
theorem dJ2_indexOf_4cfef_1 : decode cJ2_indexOf_4cfef 1 = .ok (.iconst 0, 1) := by decide +kernel
theorem dJ2_indexOf_4cfef_2 : decode cJ2_indexOf_4cfef 2 = .ok (.invokestatic 224, 3) := by decide +kernel
theorem dJ2_indexOf_4cfef_5 : decode cJ2_indexOf_4cfef 5 = .ok (.istore_n 2, 1) := by decide +kernel
theorem dJ2_indexOf_4cfef_6 : decode cJ2_indexOf_4cfef 6 = .ok (.iload_n 3, 1) := by decide +kernel
theorem dJ2_indexOf_4cfef_7 : decode cJ2_indexOf_4cfef 7 = .ok (.aload_n 0, 1) := by decide +kernel
theorem dJ2_indexOf_4cfef_8 : decode cJ2_indexOf_4cfef 8 = .ok (.arraylength, 1) := by decide +kernel
theorem dJ2_indexOf_4cfef_9 : decode cJ2_indexOf_4cfef 9 = .ok (.iconst 1, 1) := by decide +kernel
theorem dJ2_indexOf_4cfef_10 : decode cJ2_indexOf_4cfef 10 = .ok (.ishr, 1) := by decide +kernel
theorem dJ2_indexOf_4cfef_11 : decode cJ2_indexOf_4cfef 11 = .ok (.invokestatic 183, 3) := by decide +kernel
theorem dJ2_indexOf_4cfef_14 : decode cJ2_indexOf_4cfef 14 = .ok (.istore_n 3, 1) := by decide +kernel
theorem dJ2_indexOf_4cfef_15 : decode cJ2_indexOf_4cfef 15 = .ok (.iload_n 2, 1) := by decide +kernel
theorem dJ2_indexOf_4cfef_16 : decode cJ2_indexOf_4cfef 16 = .ok (.iload_n 3, 1) := by decide +kernel
theorem dJ2_indexOf_4cfef_17 : decode cJ2_indexOf_4cfef 17 = .ok (.if_icmp .lt 5, 3) := by decide +kernel
theorem dJ2_indexOf_4cfef_20 : decode cJ2_indexOf_4cfef 20 = .ok (.iconst (-1), 1) := by decide +kernel
theorem dJ2_indexOf_4cfef_21 : decode cJ2_indexOf_4cfef 21 = .ok (.ireturn, 1) := by decide +kernel
theorem dJ2_indexOf_4cfef_22 : decode cJ2_indexOf_4cfef 22 = .ok (.iload_n 1, 1) := by decide +kernel
theorem dJ2_indexOf_4cfef_23 : decode cJ2_indexOf_4cfef 23 = .ok (.ldc 227, 2) := by decide +kernel
theorem dJ2_indexOf_4cfef_25 : decode cJ2_indexOf_4cfef 25 = .ok (.if_icmp .ge 11, 3) := by decide +kernel
theorem dJ2_indexOf_4cfef_28 : decode cJ2_indexOf_4cfef 28 = .ok (.aload_n 0, 1) := by decide +kernel
theorem dJ2_indexOf_4cfef_29 : decode cJ2_indexOf_4cfef 29 = .ok (.iload_n 1, 1) := by decide +kernel
theorem dJ2_indexOf_4cfef_30 : decode cJ2_indexOf_4cfef 30 = .ok (.iload_n 2, 1) := by decide +kernel
theorem dJ2_indexOf_4cfef_31 : decode cJ2_indexOf_4cfef 31 = .ok (.iload_n 3, 1) := by decide +kernel
theorem dJ2_indexOf_4cfef_32 : decode cJ2_indexOf_4cfef 32 = .ok (.invokestatic 228, 3) := by decide +kernel
theorem dJ2_indexOf_4cfef_35 : decode cJ2_indexOf_4cfef 35 = .ok (.ireturn, 1) := by decide +kernel
theorem dJ2_indexOf_4cfef_36 : decode cJ2_indexOf_4cfef 36 = .ok (.aload_n 0, 1) := by decide +kernel
theorem dJ2_indexOf_4cfef_37 : decode cJ2_indexOf_4cfef 37 = .ok (.iload_n 1, 1) := by decide +kernel
theorem dJ2_indexOf_4cfef_38 : decode cJ2_indexOf_4cfef 38 = .ok (.iload_n 2, 1) := by decide +kernel
theorem dJ2_indexOf_4cfef_39 : decode cJ2_indexOf_4cfef 39 = .ok (.iload_n 3, 1) := by decide +kernel
theorem dJ2_indexOf_4cfef_40 : decode cJ2_indexOf_4cfef 40 = .ok (.invokestatic 232, 3) := by decide +kernel
theorem dJ2_indexOf_4cfef_43 : decode cJ2_indexOf_4cfef 43 = .ok (.ireturn, 1) := by decide +kernel
theorem dJ2_indexOfChar_4cfef_0 : decode cJ2_indexOfChar_4cfef 0 = .ok (.iload_n 2, 1) := by decide +kernel
theorem dJ2_indexOfChar_4cfef_1 : decode cJ2_indexOfChar_4cfef 1 = .ok (.iload_n 3, 1) := by decide +kernel
theorem dJ2_indexOfChar_4cfef_2 : decode cJ2_indexOfChar_4cfef 2 = .ok (.aload_n 0, 1) := by decide +kernel
theorem dJ2_indexOfChar_4cfef_3 : decode cJ2_indexOfChar_4cfef 3 = .ok (.invokestatic 96, 3) := by decide +kernel
theorem dJ2_indexOfChar_4cfef_6 : decode cJ2_indexOfChar_4cfef 6 = .ok (.aload_n 0, 1) := by decide +kernel
theorem dJ2_indexOfChar_4cfef_7 : decode cJ2_indexOfChar_4cfef 7 = .ok (.iload_n 1, 1) := by decide +kernel
theorem dJ2_indexOfChar_4cfef_8 : decode cJ2_indexOfChar_4cfef 8 = .ok (.iload_n 2, 1) := by decide +kernel
theorem dJ2_indexOfChar_4cfef_9 : decode cJ2_indexOfChar_4cfef 9 = .ok (.iload_n 3, 1) := by decide +kernel
theorem dJ2_indexOfChar_4cfef_10 : decode cJ2_indexOfChar_4cfef 10 = .ok (.invokestatic 244, 3) := by decide +kernel
theorem dJ2_indexOfChar_4cfef_13 : decode cJ2_indexOfChar_4cfef 13 = .ok (.ireturn, 1) := by decide +kernel
theorem dJ2_indexOfCharUnsafe_4cfef_0 : decode cJ2_indexOfCharUnsafe_4cfef 0 = .ok (.iload_n 2, 1) := by decide +kernel
theorem dJ2_indexOfCharUnsafe_4cfef_1 : decode cJ2_indexOfCharUnsafe_4cfef 1 = .ok (.istore 4, 2) := by decide +kernel
theorem dJ2_indexOfCharUnsafe_4cfef_3 : decode cJ2_indexOfCharUnsafe_4cfef 3 = .ok (.iload 4, 2) := by decide +kernel
theorem dJ2_indexOfCharUnsafe_4cfef_5 : decode cJ2_indexOfCharUnsafe_4cfef 5 = .ok (.iload_n 3, 1) := by decide +kernel
theorem dJ2_indexOfCharUnsafe_4cfef_6 : decode cJ2_indexOfCharUnsafe_4cfef 6 = .ok (.if_icmp .ge 22, 3) := by decide +kernel
theorem dJ2_indexOfCharUnsafe_4cfef_9 : decode cJ2_indexOfCharUnsafe_4cfef 9 = .ok (.aload_n 0, 1) := by decide +kernel
theorem dJ2_indexOfCharUnsafe_4cfef_10 : decode cJ2_indexOfCharUnsafe_4cfef 10 = .ok (.iload 4, 2) := by decide +kernel
theorem dJ2_indexOfCharUnsafe_4cfef_12 : decode cJ2_indexOfCharUnsafe_4cfef 12 = .ok (.invokestatic 71, 3) := by decide +kernel
theorem dJ2_indexOfCharUnsafe_4cfef_15 : decode cJ2_indexOfCharUnsafe_4cfef 15 = .ok (.iload_n 1, 1) := by decide +kernel
theorem dJ2_indexOfCharUnsafe_4cfef_16 : decode cJ2_indexOfCharUnsafe_4cfef 16 = .ok (.if_icmp .ne 6, 3) := by decide +kernel
theorem dJ2_indexOfCharUnsafe_4cfef_19 : decode cJ2_indexOfCharUnsafe_4cfef 19 = .ok (.iload 4, 2) := by decide +kernel
theorem dJ2_indexOfCharUnsafe_4cfef_21 : decode cJ2_indexOfCharUnsafe_4cfef 21 = .ok (.ireturn, 1) := by decide +kernel
theorem dJ2_indexOfCharUnsafe_4cfef_22 : decode cJ2_indexOfCharUnsafe_4cfef 22 = .ok (.iinc 4 1, 3) := by decide +kernel
theorem dJ2_indexOfCharUnsafe_4cfef_25 : decode cJ2_indexOfCharUnsafe_4cfef 25 = .ok (.goto (-22), 3) := by decide +kernel
theorem dJ2_indexOfCharUnsafe_4cfef_28 : decode cJ2_indexOfCharUnsafe_4cfef 28 = .ok (.iconst (-1), 1) := by decide +kernel
theorem dJ2_indexOfCharUnsafe_4cfef_29 : decode cJ2_indexOfCharUnsafe_4cfef 29 = .ok (.ireturn, 1) := by decide +kernel
theorem dJ2_indexOfSupplementary_4cfef_0 : decode cJ2_indexOfSupplementary_4cfef 0 = .ok (.iload_n 1, 1) := by decide +kernel
theorem dJ2_indexOfSupplementary_4cfef_1 : decode cJ2_indexOfSupplementary_4cfef 1 = .ok (.invokestatic 164, 3) := by decide +kernel
theorem dJ2_indexOfSupplementary_4cfef_4 : decode cJ2_indexOfSupplementary_4cfef 4 = .ok (.ifCond .eq 65, 3) := by decide +kernel
theorem dJ2_indexOfSupplementary_4cfef_7 : decode cJ2_indexOfSupplementary_4cfef 7 = .ok (.iload_n 1, 1) := by decide +kernel
theorem dJ2_indexOfSupplementary_4cfef_8 : decode cJ2_indexOfSupplementary_4cfef 8 = .ok (.invokestatic 157, 3) := by decide +kernel
theorem dJ2_indexOfSupplementary_4cfef_11 : decode cJ2_indexOfSupplementary_4cfef 11 = .ok (.istore 4, 2) := by decide +kernel
theorem dJ2_indexOfSupplementary_4cfef_13 : decode cJ2_indexOfSupplementary_4cfef 13 = .ok (.iload_n 1, 1) := by decide +kernel
theorem dJ2_indexOfSupplementary_4cfef_14 : decode cJ2_indexOfSupplementary_4cfef 14 = .ok (.invokestatic 161, 3) := by decide +kernel
theorem dJ2_indexOfSupplementary_4cfef_17 : decode cJ2_indexOfSupplementary_4cfef 17 = .ok (.istore 5, 2) := by decide +kernel
theorem dJ2_indexOfSupplementary_4cfef_19 : decode cJ2_indexOfSupplementary_4cfef 19 = .ok (.iload_n 2, 1) := by decide +kernel
theorem dJ2_indexOfSupplementary_4cfef_20 : decode cJ2_indexOfSupplementary_4cfef 20 = .ok (.iload_n 3, 1) := by decide +kernel
theorem dJ2_indexOfSupplementary_4cfef_21 : decode cJ2_indexOfSupplementary_4cfef 21 = .ok (.aload_n 0, 1) := by decide +kernel
theorem dJ2_indexOfSupplementary_4cfef_22 : decode cJ2_indexOfSupplementary_4cfef 22 = .ok (.invokestatic 96, 3) := by decide +kernel
theorem dJ2_indexOfSupplementary_4cfef_25 : decode cJ2_indexOfSupplementary_4cfef 25 = .ok (.iload_n 2, 1) := by decide +kernel
theorem dJ2_indexOfSupplementary_4cfef_26 : decode cJ2_indexOfSupplementary_4cfef 26 = .ok (.istore 6, 2) := by decide +kernel
theorem dJ2_indexOfSupplementary_4cfef_28 : decode cJ2_indexOfSupplementary_4cfef 28 = .ok (.iload 6, 2) := by decide +kernel
theorem dJ2_indexOfSupplementary_4cfef_30 : decode cJ2_indexOfSupplementary_4cfef 30 = .ok (.iload_n 3, 1) := by decide +kernel
theorem dJ2_indexOfSupplementary_4cfef_31 : decode cJ2_indexOfSupplementary_4cfef 31 = .ok (.iconst 1, 1) := by decide +kernel
theorem dJ2_indexOfSupplementary_4cfef_32 : decode cJ2_indexOfSupplementary_4cfef 32 = .ok (.isub, 1) := by decide +kernel
theorem dJ2_indexOfSupplementary_4cfef_33 : decode cJ2_indexOfSupplementary_4cfef 33 = .ok (.if_icmp .ge 36, 3) := by decide +kernel
theorem dJ2_indexOfSupplementary_4cfef_36 : decode cJ2_indexOfSupplementary_4cfef 36 = .ok (.aload_n 0, 1) := by decide +kernel
theorem dJ2_indexOfSupplementary_4cfef_37 : decode cJ2_indexOfSupplementary_4cfef 37 = .ok (.iload 6, 2) := by decide +kernel
theorem dJ2_indexOfSupplementary_4cfef_39 : decode cJ2_indexOfSupplementary_4cfef 39 = .ok (.invokestatic 71, 3) := by decide +kernel
theorem dJ2_indexOfSupplementary_4cfef_42 : decode cJ2_indexOfSupplementary_4cfef 42 = .ok (.iload 4, 2) := by decide +kernel
theorem dJ2_indexOfSupplementary_4cfef_44 : decode cJ2_indexOfSupplementary_4cfef 44 = .ok (.if_icmp .ne 19, 3) := by decide +kernel
theorem dJ2_indexOfSupplementary_4cfef_47 : decode cJ2_indexOfSupplementary_4cfef 47 = .ok (.aload_n 0, 1) := by decide +kernel
theorem dJ2_indexOfSupplementary_4cfef_48 : decode cJ2_indexOfSupplementary_4cfef 48 = .ok (.iload 6, 2) := by decide +kernel
theorem dJ2_indexOfSupplementary_4cfef_50 : decode cJ2_indexOfSupplementary_4cfef 50 = .ok (.iconst 1, 1) := by decide +kernel
theorem dJ2_indexOfSupplementary_4cfef_51 : decode cJ2_indexOfSupplementary_4cfef 51 = .ok (.iadd, 1) := by decide +kernel
theorem dJ2_indexOfSupplementary_4cfef_52 : decode cJ2_indexOfSupplementary_4cfef 52 = .ok (.invokestatic 71, 3) := by decide +kernel
theorem dJ2_indexOfSupplementary_4cfef_55 : decode cJ2_indexOfSupplementary_4cfef 55 = .ok (.iload 5, 2) := by decide +kernel
theorem dJ2_indexOfSupplementary_4cfef_57 : decode cJ2_indexOfSupplementary_4cfef 57 = .ok (.if_icmp .ne 6, 3) := by decide +kernel
theorem dJ2_indexOfSupplementary_4cfef_60 : decode cJ2_indexOfSupplementary_4cfef 60 = .ok (.iload 6, 2) := by decide +kernel
theorem dJ2_indexOfSupplementary_4cfef_62 : decode cJ2_indexOfSupplementary_4cfef 62 = .ok (.ireturn, 1) := by decide +kernel
theorem dJ2_indexOfSupplementary_4cfef_63 : decode cJ2_indexOfSupplementary_4cfef 63 = .ok (.iinc 6 1, 3) := by decide +kernel
theorem dJ2_indexOfSupplementary_4cfef_66 : decode cJ2_indexOfSupplementary_4cfef 66 = .ok (.goto (-38), 3) := by decide +kernel
theorem dJ2_indexOfSupplementary_4cfef_69 : decode cJ2_indexOfSupplementary_4cfef 69 = .ok (.iconst (-1), 1) := by decide +kernel
theorem dJ2_indexOfSupplementary_4cfef_70 : decode cJ2_indexOfSupplementary_4cfef 70 = .ok (.ireturn, 1) := by decide +kernel
theorem dJ2_checkBoundsBeginEnd_d044e_0 : decode cJ2_checkBoundsBeginEnd_d044e 0 = .ok (.iload_n 0, 1) := by decide +kernel
theorem dJ2_checkBoundsBeginEnd_d044e_1 : decode cJ2_checkBoundsBeginEnd_d044e 1 = .ok (.iload_n 1, 1) := by decide +kernel
theorem dJ2_checkBoundsBeginEnd_d044e_2 : decode cJ2_checkBoundsBeginEnd_d044e 2 = .ok (.aload_n 2, 1) := by decide +kernel
theorem dJ2_checkBoundsBeginEnd_d044e_3 : decode cJ2_checkBoundsBeginEnd_d044e 3 = .ok (.invokestatic 48, 3) := by decide +kernel
theorem dJ2_checkBoundsBeginEnd_d044e_6 : decode cJ2_checkBoundsBeginEnd_d044e 6 = .ok (.invokestatic 241, 3) := by decide +kernel
theorem dJ2_checkBoundsBeginEnd_d044e_9 : decode cJ2_checkBoundsBeginEnd_d044e 9 = .ok (.return_, 1) := by decide +kernel
theorem dJ3_checkFromToIndex_8c36e_0 : decode cJ3_checkFromToIndex_8c36e 0 = .ok (.iload_n 0, 1) := by decide +kernel
theorem dJ3_checkFromToIndex_8c36e_1 : decode cJ3_checkFromToIndex_8c36e 1 = .ok (.ifCond .lt 13, 3) := by decide +kernel
theorem dJ3_checkFromToIndex_8c36e_4 : decode cJ3_checkFromToIndex_8c36e 4 = .ok (.iload_n 0, 1) := by decide +kernel
theorem dJ3_checkFromToIndex_8c36e_5 : decode cJ3_checkFromToIndex_8c36e 5 = .ok (.iload_n 1, 1) := by decide +kernel
theorem dJ3_checkFromToIndex_8c36e_6 : decode cJ3_checkFromToIndex_8c36e 6 = .ok (.if_icmp .gt 8, 3) := by decide +kernel
theorem dJ3_checkFromToIndex_8c36e_9 : decode cJ3_checkFromToIndex_8c36e 9 = .ok (.iload_n 1, 1) := by decide +kernel
theorem dJ3_checkFromToIndex_8c36e_10 : decode cJ3_checkFromToIndex_8c36e 10 = .ok (.iload_n 2, 1) := by decide +kernel
theorem dJ3_checkFromToIndex_8c36e_11 : decode cJ3_checkFromToIndex_8c36e 11 = .ok (.if_icmp .le 11, 3) := by decide +kernel
theorem dJ3_checkFromToIndex_8c36e_14 : decode cJ3_checkFromToIndex_8c36e 14 = .ok (.aload_n 3, 1) := by decide +kernel
theorem dJ3_checkFromToIndex_8c36e_15 : decode cJ3_checkFromToIndex_8c36e 15 = .ok (.iload_n 0, 1) := by decide +kernel
theorem dJ3_checkFromToIndex_8c36e_16 : decode cJ3_checkFromToIndex_8c36e 16 = .ok (.iload_n 1, 1) := by decide +kernel
theorem dJ3_checkFromToIndex_8c36e_17 : decode cJ3_checkFromToIndex_8c36e 17 = .ok (.iload_n 2, 1) := by decide +kernel
theorem dJ3_checkFromToIndex_8c36e_18 : decode cJ3_checkFromToIndex_8c36e 18 = .ok (.invokestatic 99, 3) := by decide +kernel
theorem dJ3_checkFromToIndex_8c36e_21 : decode cJ3_checkFromToIndex_8c36e 21 = .ok (.athrow, 1) := by decide +kernel
theorem dJ3_checkFromToIndex_8c36e_22 : decode cJ3_checkFromToIndex_8c36e 22 = .ok (.iload_n 0, 1) := by decide +kernel
theorem dJ3_checkFromToIndex_8c36e_23 : decode cJ3_checkFromToIndex_8c36e 23 = .ok (.ireturn, 1) := by decide +kernel
