theorem dX7_dress_24 : decode cX7_dress 24 = .ok (.getfield 153, 3) := by decide +kernel
theorem dX7_dress_27 : decode cX7_dress 27 = .ok (.invokestatic 55, 3) := by decide +kernel
theorem dX7_dress_30 : decode cX7_dress 30 = .ok (.ifCond .ne 5, 3) := by decide +kernel
theorem dX7_dress_33 : decode cX7_dress 33 = .ok (.iconst (-1), 1) := by decide +kernel
theorem dX7_dress_34 : decode cX7_dress 34 = .ok (.ireturn, 1) := by decide +kernel
theorem dX7_dress_35 : decode cX7_dress 35 = .ok (.aload_n 0, 1) := by decide +kernel
theorem dX7_dress_36 : decode cX7_dress 36 = .ok (.getfield 50, 3) := by decide +kernel
theorem dX7_dress_39 : decode cX7_dress 39 = .ok (.iload_n 1, 1) := by decide +kernel
theorem dX7_dress_40 : decode cX7_dress 40 = .ok (.aaload, 1) := by decide +kernel
theorem dX7_dress_41 : decode cX7_dress 41 = .ok (.astore 5, 2) := by decide +kernel
theorem dX7_dress_43 : decode cX7_dress 43 = .ok (.aload 5, 2) := by decide +kernel
theorem dX7_dress_45 : decode cX7_dress 45 = .ok (.iload_n 2, 1) := by decide +kernel
theorem dX7_dress_46 : decode cX7_dress 46 = .ok (.iload_n 3, 1) := by decide +kernel
theorem dX7_dress_47 : decode cX7_dress 47 = .ok (.iload 4, 2) := by decide +kernel
theorem dX7_dress_49 : decode cX7_dress 49 = .ok (.invokevirtual 303, 3) := by decide +kernel
theorem dX7_dress_52 : decode cX7_dress 52 = .ok (.istore 6, 2) := by decide +kernel
theorem dX7_dress_54 : decode cX7_dress 54 = .ok (.iload 6, 2) := by decide +kernel
theorem dX7_dress_56 : decode cX7_dress 56 = .ok (.ifCond .eq 6, 3) := by decide +kernel
theorem dX7_dress_59 : decode cX7_dress 59 = .ok (.iload 6, 2) := by decide +kernel
theorem dX7_dress_61 : decode cX7_dress 61 = .ok (.ireturn, 1) := by decide +kernel
theorem dX7_dress_62 : decode cX7_dress 62 = .ok (.iconst 0, 1) := by decide +kernel
theorem dX7_dress_63 : decode cX7_dress 63 = .ok (.istore 7, 2) := by decide +kernel
theorem dX7_dress_65 : decode cX7_dress 65 = .ok (.iload 7, 2) := by decide +kernel
theorem dX7_dress_67 : decode cX7_dress 67 = .ok (.iload 4, 2) := by decide +kernel
theorem dX7_dress_69 : decode cX7_dress 69 = .ok (.if_icmp .ge 40, 3) := by decide +kernel
theorem dX7_dress_72 : decode cX7_dress 72 = .ok (.aload 5, 2) := by decide +kernel
theorem dX7_dress_74 : decode cX7_dress 74 = .ok (.getfield 306, 3) := by decide +kernel
theorem dX7_dress_77 : decode cX7_dress 77 = .ok (.iload_n 3, 1) := by decide +kernel
theorem dX7_dress_78 : decode cX7_dress 78 = .ok (.iload 7, 2) := by decide +kernel
theorem dX7_dress_80 : decode cX7_dress 80 = .ok (.iadd, 1) := by decide +kernel
theorem dX7_dress_81 : decode cX7_dress 81 = .ok (.laload, 1) := by decide +kernel
theorem dX7_dress_82 : decode cX7_dress 82 = .ok (.lstore 8, 2) := by decide +kernel
theorem dX7_dress_84 : decode cX7_dress 84 = .ok (.lload 8, 2) := by decide +kernel
theorem dX7_dress_86 : decode cX7_dress 86 = .ok (.lconst 0, 1) := by decide +kernel
theorem dX7_dress_87 : decode cX7_dress 87 = .ok (.lcmp, 1) := by decide +kernel
theorem dX7_dress_88 : decode cX7_dress 88 = .ok (.ifCond .lt 12, 3) := by decide +kernel
theorem dX7_dress_91 : decode cX7_dress 91 = .ok (.lload 8, 2) := by decide +kernel
theorem dX7_dress_93 : decode cX7_dress 93 = .ok (.ldc2_w 310, 3) := by decide +kernel
theorem dX7_dress_96 : decode cX7_dress 96 = .ok (.lcmp, 1) := by decide +kernel
theorem dX7_dress_97 : decode cX7_dress 97 = .ok (.ifCond .le 6, 3) := by decide +kernel
theorem dX7_dress_100 : decode cX7_dress 100 = .ok (.bipush (-2), 2) := by decide +kernel
theorem dX7_dress_102 : decode cX7_dress 102 = .ok (.ireturn, 1) := by decide +kernel
theorem dX7_dress_103 : decode cX7_dress 103 = .ok (.iinc 7 1, 3) := by decide +kernel
theorem dX7_dress_106 : decode cX7_dress 106 = .ok (.goto (-41), 3) := by decide +kernel
theorem dX7_dress_109 : decode cX7_dress 109 = .ok (.iconst 0, 1) := by decide +kernel
theorem dX7_dress_110 : decode cX7_dress 110 = .ok (.istore 7, 2) := by decide +kernel
theorem dX7_dress_112 : decode cX7_dress 112 = .ok (.iload 7, 2) := by decide +kernel
theorem dX7_dress_114 : decode cX7_dress 114 = .ok (.iload 4, 2) := by decide +kernel
theorem dX7_dress_116 : decode cX7_dress 116 = .ok (.if_icmp .ge 33, 3) := by decide +kernel
theorem dX7_dress_119 : decode cX7_dress 119 = .ok (.aload_n 0, 1) := by decide +kernel
theorem dX7_dress_120 : decode cX7_dress 120 = .ok (.getfield 10, 3) := by decide +kernel
theorem dX7_dress_123 : decode cX7_dress 123 = .ok (.getfield 63, 3) := by decide +kernel
theorem dX7_dress_126 : decode cX7_dress 126 = .ok (.getfield 130, 3) := by decide +kernel
theorem dX7_dress_129 : decode cX7_dress 129 = .ok (.iload 7, 2) := by decide +kernel
theorem dX7_dress_131 : decode cX7_dress 131 = .ok (.aload 5, 2) := by decide +kernel
theorem dX7_dress_133 : decode cX7_dress 133 = .ok (.getfield 306, 3) := by decide +kernel
theorem dX7_dress_136 : decode cX7_dress 136 = .ok (.iload_n 3, 1) := by decide +kernel
theorem dX7_dress_137 : decode cX7_dress 137 = .ok (.iload 7, 2) := by decide +kernel
theorem dX7_dress_139 : decode cX7_dress 139 = .ok (.iadd, 1) := by decide +kernel
theorem dX7_dress_140 : decode cX7_dress 140 = .ok (.laload, 1) := by decide +kernel
theorem dX7_dress_141 : decode cX7_dress 141 = .ok (.l2i, 1) := by decide +kernel
theorem dX7_dress_142 : decode cX7_dress 142 = .ok (.iastore, 1) := by decide +kernel
theorem dX7_dress_143 : decode cX7_dress 143 = .ok (.iinc 7 1, 3) := by decide +kernel
theorem dX7_dress_146 : decode cX7_dress 146 = .ok (.goto (-34), 3) := by decide +kernel
theorem dX7_dress_149 : decode cX7_dress 149 = .ok (.iload 4, 2) := by decide +kernel
theorem dX7_dress_151 : decode cX7_dress 151 = .ok (.ireturn, 1) := by decide +kernel
theorem dX7_film_0 : decode cX7_film 0 = .ok (.iload_n 1, 1) := by decide +kernel
theorem dX7_film_1 : decode cX7_film 1 = .ok (.invokestatic 297, 3) := by decide +kernel
theorem dX7_film_4 : decode cX7_film 4 = .ok (.ifCond .eq 10, 3) := by decide +kernel
theorem dX7_film_7 : decode cX7_film 7 = .ok (.iload_n 2, 1) := by decide +kernel
theorem dX7_film_8 : decode cX7_film 8 = .ok (.invokestatic 300, 3) := by decide +kernel
theorem dX7_film_11 : decode cX7_film 11 = .ok (.ifCond .ne 5, 3) := by decide +kernel
theorem dX7_film_14 : decode cX7_film 14 = .ok (.iconst (-1), 1) := by decide +kernel
theorem dX7_film_15 : decode cX7_film 15 = .ok (.ireturn, 1) := by decide +kernel
theorem dX7_film_16 : decode cX7_film 16 = .ok (.aload_n 0, 1) := by decide +kernel
theorem dX7_film_17 : decode cX7_film 17 = .ok (.getfield 50, 3) := by decide +kernel
theorem dX7_film_20 : decode cX7_film 20 = .ok (.iload_n 1, 1) := by decide +kernel
theorem dX7_film_21 : decode cX7_film 21 = .ok (.aaload, 1) := by decide +kernel
theorem dX7_film_22 : decode cX7_film 22 = .ok (.astore 4, 2) := by decide +kernel
theorem dX7_film_24 : decode cX7_film 24 = .ok (.aload_n 0, 1) := by decide +kernel
theorem dX7_film_25 : decode cX7_film 25 = .ok (.getfield 10, 3) := by decide +kernel
theorem dX7_film_28 : decode cX7_film 28 = .ok (.getfield 63, 3) := by decide +kernel
theorem dX7_film_31 : decode cX7_film 31 = .ok (.getfield 66, 3) := by decide +kernel
theorem dX7_film_34 : decode cX7_film 34 = .ok (.istore 5, 2) := by decide +kernel
theorem dX7_film_36 : decode cX7_film 36 = .ok (.aload 4, 2) := by decide +kernel
theorem dX7_film_38 : decode cX7_film 38 = .ok (.iload_n 2, 1) := by decide +kernel
theorem dX7_film_39 : decode cX7_film 39 = .ok (.iload_n 3, 1) := by decide +kernel
theorem dX7_film_40 : decode cX7_film 40 = .ok (.iload 5, 2) := by decide +kernel
theorem dX7_film_42 : decode cX7_film 42 = .ok (.invokevirtual 303, 3) := by decide +kernel
theorem dX7_film_45 : decode cX7_film 45 = .ok (.istore 6, 2) := by decide +kernel
theorem dX7_film_47 : decode cX7_film 47 = .ok (.iload 6, 2) := by decide +kernel
theorem dX7_film_49 : decode cX7_film 49 = .ok (.ifCond .eq 6, 3) := by decide +kernel
theorem dX7_film_52 : decode cX7_film 52 = .ok (.iload 6, 2) := by decide +kernel
theorem dX7_film_54 : decode cX7_film 54 = .ok (.ireturn, 1) := by decide +kernel
theorem dX7_film_55 : decode cX7_film 55 = .ok (.iconst 0, 1) := by decide +kernel
theorem dX7_film_56 : decode cX7_film 56 = .ok (.istore 7, 2) := by decide +kernel
theorem dX7_film_58 : decode cX7_film 58 = .ok (.iload 7, 2) := by decide +kernel
theorem dX7_film_60 : decode cX7_film 60 = .ok (.iload 5, 2) := by decide +kernel
theorem dX7_film_62 : decode cX7_film 62 = .ok (.if_icmp .ge 32, 3) := by decide +kernel
theorem dX7_film_65 : decode cX7_film 65 = .ok (.aload 4, 2) := by decide +kernel
theorem dX7_film_67 : decode cX7_film 67 = .ok (.iload_n 3, 1) := by decide +kernel
theorem dX7_film_68 : decode cX7_film 68 = .ok (.iload 7, 2) := by decide +kernel
theorem dX7_film_70 : decode cX7_film 70 = .ok (.iadd, 1) := by decide +kernel
theorem dX7_film_71 : decode cX7_film 71 = .ok (.aload_n 0, 1) := by decide +kernel
theorem dX7_film_72 : decode cX7_film 72 = .ok (.getfield 10, 3) := by decide +kernel
theorem dX7_film_75 : decode cX7_film 75 = .ok (.getfield 63, 3) := by decide +kernel
theorem dX7_film_78 : decode cX7_film 78 = .ok (.getfield 108, 3) := by decide +kernel
theorem dX7_film_81 : decode cX7_film 81 = .ok (.iload 7, 2) := by decide +kernel
theorem dX7_film_83 : decode cX7_film 83 = .ok (.iaload, 1) := by decide +kernel
theorem dX7_film_84 : decode cX7_film 84 = .ok (.i2l, 1) := by decide +kernel
theorem dX7_film_85 : decode cX7_film 85 = .ok (.invokevirtual 312, 3) := by decide +kernel
theorem dX7_film_88 : decode cX7_film 88 = .ok (.iinc 7 1, 3) := by decide +kernel
theorem dX7_film_91 : decode cX7_film 91 = .ok (.goto (-33), 3) := by decide +kernel
theorem dX7_film_94 : decode cX7_film 94 = .ok (.iload 5, 2) := by decide +kernel
theorem dX7_film_96 : decode cX7_film 96 = .ok (.ireturn, 1) := by decide +kernel
theorem dX7_seen_0 : decode cX7_seen 0 = .ok (.iload_n 1, 1) := by decide +kernel
theorem dX7_seen_1 : decode cX7_seen 1 = .ok (.invokestatic 297, 3) := by decide +kernel
theorem dX7_seen_4 : decode cX7_seen 4 = .ok (.ifCond .eq 10, 3) := by decide +kernel
theorem dX7_seen_7 : decode cX7_seen 7 = .ok (.iload_n 2, 1) := by decide +kernel
theorem dX7_seen_8 : decode cX7_seen 8 = .ok (.invokestatic 300, 3) := by decide +kernel
theorem dX7_seen_11 : decode cX7_seen 11 = .ok (.ifCond .ne 5, 3) := by decide +kernel
theorem dX7_seen_14 : decode cX7_seen 14 = .ok (.iconst (-1), 1) := by decide +kernel
theorem dX7_seen_15 : decode cX7_seen 15 = .ok (.ireturn, 1) := by decide +kernel
theorem dX7_seen_16 : decode cX7_seen 16 = .ok (.aload_n 0, 1) := by decide +kernel
theorem dX7_seen_17 : decode cX7_seen 17 = .ok (.getfield 50, 3) := by decide +kernel
theorem dX7_seen_20 : decode cX7_seen 20 = .ok (.iload_n 1, 1) := by decide +kernel
theorem dX7_seen_21 : decode cX7_seen 21 = .ok (.aaload, 1) := by decide +kernel
theorem dX7_seen_22 : decode cX7_seen 22 = .ok (.astore 4, 2) := by decide +kernel
theorem dX7_seen_24 : decode cX7_seen 24 = .ok (.aload 4, 2) := by decide +kernel
theorem dX7_seen_26 : decode cX7_seen 26 = .ok (.iload_n 2, 1) := by decide +kernel
theorem dX7_seen_27 : decode cX7_seen 27 = .ok (.iload_n 3, 1) := by decide +kernel
theorem dX7_seen_28 : decode cX7_seen 28 = .ok (.aload_n 0, 1) := by decide +kernel
theorem dX7_seen_29 : decode cX7_seen 29 = .ok (.getfield 10, 3) := by decide +kernel
theorem dX7_seen_32 : decode cX7_seen 32 = .ok (.getfield 63, 3) := by decide +kernel
theorem dX7_seen_35 : decode cX7_seen 35 = .ok (.getfield 66, 3) := by decide +kernel
theorem dX7_seen_38 : decode cX7_seen 38 = .ok (.invokevirtual 303, 3) := by decide +kernel
theorem dX7_seen_41 : decode cX7_seen 41 = .ok (.istore 5, 2) := by decide +kernel
theorem dX7_seen_43 : decode cX7_seen 43 = .ok (.iload 5, 2) := by decide +kernel
theorem dX7_seen_45 : decode cX7_seen 45 = .ok (.ifCond .eq 6, 3) := by decide +kernel
theorem dX7_seen_48 : decode cX7_seen 48 = .ok (.iload 5, 2) := by decide +kernel
theorem dX7_seen_50 : decode cX7_seen 50 = .ok (.ireturn, 1) := by decide +kernel
theorem dX7_seen_51 : decode cX7_seen 51 = .ok (.aload_n 0, 1) := by decide +kernel
theorem dX7_seen_52 : decode cX7_seen 52 = .ok (.getfield 26, 3) := by decide +kernel
theorem dX7_seen_55 : decode cX7_seen 55 = .ok (.aload_n 0, 1) := by decide +kernel
theorem dX7_seen_56 : decode cX7_seen 56 = .ok (.getfield 10, 3) := by decide +kernel
theorem dX7_seen_59 : decode cX7_seen 59 = .ok (.getfield 63, 3) := by decide +kernel
theorem dX7_seen_62 : decode cX7_seen 62 = .ok (.invokevirtual 143, 3) := by decide +kernel
theorem dX7_seen_65 : decode cX7_seen 65 = .ok (.iconst 0, 1) := by decide +kernel
theorem dX7_seen_66 : decode cX7_seen 66 = .ok (.istore 6, 2) := by decide +kernel
theorem dX7_seen_68 : decode cX7_seen 68 = .ok (.iload 6, 2) := by decide +kernel
theorem dX7_seen_70 : decode cX7_seen 70 = .ok (.sipush 200, 3) := by decide +kernel
theorem dX7_seen_73 : decode cX7_seen 73 = .ok (.if_icmp .gt 31, 3) := by decide +kernel
theorem dX7_seen_76 : decode cX7_seen 76 = .ok (.aload_n 0, 1) := by decide +kernel
theorem dX7_seen_77 : decode cX7_seen 77 = .ok (.aload 4, 2) := by decide +kernel
theorem dX7_seen_79 : decode cX7_seen 79 = .ok (.iload_n 3, 1) := by decide +kernel
theorem dX7_seen_80 : decode cX7_seen 80 = .ok (.invokevirtual 316, 3) := by decide +kernel
theorem dX7_seen_83 : decode cX7_seen 83 = .ok (.ifCond .eq 6, 3) := by decide +kernel
theorem dX7_seen_86 : decode cX7_seen 86 = .ok (.iload 6, 2) := by decide +kernel
theorem dX7_seen_88 : decode cX7_seen 88 = .ok (.ireturn, 1) := by decide +kernel
theorem dX7_seen_89 : decode cX7_seen 89 = .ok (.aload_n 0, 1) := by decide +kernel
theorem dX7_seen_90 : decode cX7_seen 90 = .ok (.getfield 26, 3) := by decide +kernel
theorem dX7_seen_93 : decode cX7_seen 93 = .ok (.iconst (-1), 1) := by decide +kernel
theorem dX7_seen_94 : decode cX7_seen 94 = .ok (.invokevirtual 212, 3) := by decide +kernel
theorem dX7_seen_97 : decode cX7_seen 97 = .ok (.pop, 1) := by decide +kernel
theorem dX7_seen_98 : decode cX7_seen 98 = .ok (.iinc 6 1, 3) := by decide +kernel
theorem dX7_seen_101 : decode cX7_seen 101 = .ok (.goto (-33), 3) := by decide +kernel
theorem dX7_seen_104 : decode cX7_seen 104 = .ok (.bipush (-4), 2) := by decide +kernel
theorem dX7_seen_106 : decode cX7_seen 106 = .ok (.ireturn, 1) := by decide +kernel
theorem dX7_sheet_0 : decode cX7_sheet 0 = .ok (.iload_n 1, 1) := by decide +kernel
theorem dX7_sheet_1 : decode cX7_sheet 1 = .ok (.invokestatic 297, 3) := by decide +kernel
theorem dX7_sheet_4 : decode cX7_sheet 4 = .ok (.ifCond .eq 16, 3) := by decide +kernel
theorem dX7_sheet_7 : decode cX7_sheet 7 = .ok (.iload_n 2, 1) := by decide +kernel
theorem dX7_sheet_8 : decode cX7_sheet 8 = .ok (.invokestatic 300, 3) := by decide +kernel
theorem dX7_sheet_11 : decode cX7_sheet 11 = .ok (.ifCond .eq 9, 3) := by decide +kernel
theorem dX7_sheet_14 : decode cX7_sheet 14 = .ok (.iload_n 3, 1) := by decide +kernel
theorem dX7_sheet_15 : decode cX7_sheet 15 = .ok (.bipush 24, 2) := by decide +kernel
theorem dX7_sheet_17 : decode cX7_sheet 17 = .ok (.if_icmp .le 5, 3) := by decide +kernel
theorem dX7_sheet_20 : decode cX7_sheet 20 = .ok (.iconst (-1), 1) := by decide +kernel
theorem dX7_sheet_21 : decode cX7_sheet 21 = .ok (.ireturn, 1) := by decide +kernel
theorem dX7_sheet_22 : decode cX7_sheet 22 = .ok (.iload_n 3, 1) := by decide +kernel
theorem dX7_sheet_23 : decode cX7_sheet 23 = .ok (.ifCond .ge 6, 3) := by decide +kernel
theorem dX7_sheet_26 : decode cX7_sheet 26 = .ok (.bipush (-14), 2) := by decide +kernel
theorem dX7_sheet_28 : decode cX7_sheet 28 = .ok (.ireturn, 1) := by decide +kernel
theorem dX7_sheet_29 : decode cX7_sheet 29 = .ok (.aload_n 0, 1) := by decide +kernel
theorem dX7_sheet_30 : decode cX7_sheet 30 = .ok (.getfield 50, 3) := by decide +kernel
theorem dX7_sheet_33 : decode cX7_sheet 33 = .ok (.iload_n 1, 1) := by decide +kernel
theorem dX7_sheet_34 : decode cX7_sheet 34 = .ok (.aaload, 1) := by decide +kernel
theorem dX7_sheet_35 : decode cX7_sheet 35 = .ok (.iload_n 2, 1) := by decide +kernel
theorem dX7_sheet_36 : decode cX7_sheet 36 = .ok (.iload_n 3, 1) := by decide +kernel
theorem dX7_sheet_37 : decode cX7_sheet 37 = .ok (.invokevirtual 320, 3) := by decide +kernel
theorem dX7_sheet_40 : decode cX7_sheet 40 = .ok (.iload_n 3, 1) := by decide +kernel
theorem dX7_sheet_41 : decode cX7_sheet 41 = .ok (.ireturn, 1) := by decide +kernel
theorem dX7_drop_0 : decode cX7_drop 0 = .ok (.iload_n 1, 1) := by decide +kernel
theorem dX7_drop_1 : decode cX7_drop 1 = .ok (.invokestatic 297, 3) := by decide +kernel
theorem dX7_drop_4 : decode cX7_drop 4 = .ok (.ifCond .ne 5, 3) := by decide +kernel
theorem dX7_drop_7 : decode cX7_drop 7 = .ok (.iconst (-1), 1) := by decide +kernel
theorem dX7_drop_8 : decode cX7_drop 8 = .ok (.ireturn, 1) := by decide +kernel
theorem dX7_drop_9 : decode cX7_drop 9 = .ok (.aload_n 0, 1) := by decide +kernel
theorem dX7_drop_10 : decode cX7_drop 10 = .ok (.getfield 50, 3) := by decide +kernel
theorem dX7_drop_13 : decode cX7_drop 13 = .ok (.iload_n 1, 1) := by decide +kernel
theorem dX7_drop_14 : decode cX7_drop 14 = .ok (.aaload, 1) := by decide +kernel
theorem dX7_drop_15 : decode cX7_drop 15 = .ok (.getfield 323, 3) := by decide +kernel
theorem dX7_drop_18 : decode cX7_drop 18 = .ok (.ifCond .ne 6, 3) := by decide +kernel
theorem dX7_drop_21 : decode cX7_drop 21 = .ok (.bipush (-11), 2) := by decide +kernel
theorem dX7_drop_23 : decode cX7_drop 23 = .ok (.ireturn, 1) := by decide +kernel
theorem dX7_drop_24 : decode cX7_drop 24 = .ok (.aload_n 0, 1) := by decide +kernel
theorem dX7_drop_25 : decode cX7_drop 25 = .ok (.getfield 50, 3) := by decide +kernel
theorem dX7_drop_28 : decode cX7_drop 28 = .ok (.iload_n 1, 1) := by decide +kernel
theorem dX7_drop_29 : decode cX7_drop 29 = .ok (.aaload, 1) := by decide +kernel
theorem dX7_drop_30 : decode cX7_drop 30 = .ok (.iconst 0, 1) := by decide +kernel
theorem dX7_drop_31 : decode cX7_drop 31 = .ok (.putfield 323, 3) := by decide +kernel
theorem dX7_drop_34 : decode cX7_drop 34 = .ok (.aload_n 0, 1) := by decide +kernel
theorem dX7_drop_35 : decode cX7_drop 35 = .ok (.getfield 50, 3) := by decide +kernel
theorem dX7_drop_38 : decode cX7_drop 38 = .ok (.iload_n 1, 1) := by decide +kernel
theorem dX7_drop_39 : decode cX7_drop 39 = .ok (.aaload, 1) := by decide +kernel
theorem dX7_drop_40 : decode cX7_drop 40 = .ok (.getfield 326, 3) := by decide +kernel
theorem dX7_drop_43 : decode cX7_drop 43 = .ok (.ireturn, 1) := by decide +kernel
theorem dX7_item_0 : decode cX7_item 0 = .ok (.iload_n 1, 1) := by decide +kernel
theorem dX7_item_1 : decode cX7_item 1 = .ok (.invokestatic 297, 3) := by decide +kernel
theorem dX7_item_4 : decode cX7_item 4 = .ok (.ifCond .eq 10, 3) := by decide +kernel
theorem dX7_item_7 : decode cX7_item 7 = .ok (.iload_n 2, 1) := by decide +kernel
theorem dX7_item_8 : decode cX7_item 8 = .ok (.invokestatic 300, 3) := by decide +kernel
theorem dX7_item_11 : decode cX7_item 11 = .ok (.ifCond .ne 5, 3) := by decide +kernel
theorem dX7_item_14 : decode cX7_item 14 = .ok (.iconst (-1), 1) := by decide +kernel
theorem dX7_item_15 : decode cX7_item 15 = .ok (.ireturn, 1) := by decide +kernel
theorem dX7_item_16 : decode cX7_item 16 = .ok (.aload_n 0, 1) := by decide +kernel
theorem dX7_item_17 : decode cX7_item 17 = .ok (.getfield 50, 3) := by decide +kernel
theorem dX7_item_20 : decode cX7_item 20 = .ok (.iload_n 1, 1) := by decide +kernel
theorem dX7_item_21 : decode cX7_item 21 = .ok (.aaload, 1) := by decide +kernel
theorem dX7_item_22 : decode cX7_item 22 = .ok (.iload_n 2, 1) := by decide +kernel
theorem dX7_item_23 : decode cX7_item 23 = .ok (.iload_n 3, 1) := by decide +kernel
theorem dX7_item_24 : decode cX7_item 24 = .ok (.iconst 1, 1) := by decide +kernel
theorem dX7_item_25 : decode cX7_item 25 = .ok (.invokevirtual 303, 3) := by decide +kernel
theorem dX7_item_28 : decode cX7_item 28 = .ok (.istore 6, 2) := by decide +kernel
theorem dX7_item_30 : decode cX7_item 30 = .ok (.iload 6, 2) := by decide +kernel
theorem dX7_item_32 : decode cX7_item 32 = .ok (.ifCond .eq 6, 3) := by decide +kernel
theorem dX7_item_35 : decode cX7_item 35 = .ok (.iload 6, 2) := by decide +kernel
theorem dX7_item_37 : decode cX7_item 37 = .ok (.ireturn, 1) := by decide +kernel
theorem dX7_item_38 : decode cX7_item 38 = .ok (.aload_n 0, 1) := by decide +kernel
theorem dX7_item_39 : decode cX7_item 39 = .ok (.getfield 50, 3) := by decide +kernel
theorem dX7_item_42 : decode cX7_item 42 = .ok (.iload_n 1, 1) := by decide +kernel
theorem dX7_item_43 : decode cX7_item 43 = .ok (.aaload, 1) := by decide +kernel
theorem dX7_item_44 : decode cX7_item 44 = .ok (.iload_n 3, 1) := by decide +kernel
theorem dX7_item_45 : decode cX7_item 45 = .ok (.lload 4, 2) := by decide +kernel
theorem dX7_item_47 : decode cX7_item 47 = .ok (.invokevirtual 312, 3) := by decide +kernel
theorem dX7_item_50 : decode cX7_item 50 = .ok (.iconst 1, 1) := by decide +kernel
theorem dX7_item_51 : decode cX7_item 51 = .ok (.ireturn, 1) := by decide +kernel
theorem dX7_copy_0 : decode cX7_copy 0 = .ok (.iload_n 1, 1) := by decide +kernel
theorem dX7_copy_1 : decode cX7_copy 1 = .ok (.invokestatic 297, 3) := by decide +kernel
theorem dX7_copy_4 : decode cX7_copy 4 = .ok (.ifCond .eq 10, 3) := by decide +kernel
theorem dX7_copy_7 : decode cX7_copy 7 = .ok (.iload_n 3, 1) := by decide +kernel
theorem dX7_copy_8 : decode cX7_copy 8 = .ok (.invokestatic 297, 3) := by decide +kernel
theorem dX7_copy_11 : decode cX7_copy 11 = .ok (.ifCond .ne 5, 3) := by decide +kernel
theorem dX7_copy_14 : decode cX7_copy 14 = .ok (.iconst (-1), 1) := by decide +kernel
theorem dX7_copy_15 : decode cX7_copy 15 = .ok (.ireturn, 1) := by decide +kernel
theorem dX7_copy_16 : decode cX7_copy 16 = .ok (.aload_n 0, 1) := by decide +kernel
theorem dX7_copy_17 : decode cX7_copy 17 = .ok (.getfield 50, 3) := by decide +kernel
theorem dX7_copy_20 : decode cX7_copy 20 = .ok (.iload_n 1, 1) := by decide +kernel
theorem dX7_copy_21 : decode cX7_copy 21 = .ok (.aaload, 1) := by decide +kernel
theorem dX7_copy_22 : decode cX7_copy 22 = .ok (.astore 6, 2) := by decide +kernel
theorem dX7_copy_24 : decode cX7_copy 24 = .ok (.aload_n 0, 1) := by decide +kernel
theorem dX7_copy_25 : decode cX7_copy 25 = .ok (.getfield 50, 3) := by decide +kernel
theorem dX7_copy_28 : decode cX7_copy 28 = .ok (.iload_n 3, 1) := by decide +kernel
theorem dX7_copy_29 : decode cX7_copy 29 = .ok (.aaload, 1) := by decide +kernel
theorem dX7_copy_30 : decode cX7_copy 30 = .ok (.astore 7, 2) := by decide +kernel
theorem dX7_copy_32 : decode cX7_copy 32 = .ok (.aload 6, 2) := by decide +kernel
theorem dX7_copy_34 : decode cX7_copy 34 = .ok (.getfield 323, 3) := by decide +kernel
theorem dX7_copy_37 : decode cX7_copy 37 = .ok (.ifCond .eq 11, 3) := by decide +kernel
theorem dX7_copy_40 : decode cX7_copy 40 = .ok (.aload 7, 2) := by decide +kernel
theorem dX7_copy_42 : decode cX7_copy 42 = .ok (.getfield 323, 3) := by decide +kernel
theorem dX7_copy_45 : decode cX7_copy 45 = .ok (.ifCond .ne 6, 3) := by decide +kernel
theorem dX7_copy_48 : decode cX7_copy 48 = .ok (.bipush (-11), 2) := by decide +kernel
theorem dX7_copy_50 : decode cX7_copy 50 = .ok (.ireturn, 1) := by decide +kernel
theorem dX7_copy_51 : decode cX7_copy 51 = .ok (.aload 6, 2) := by decide +kernel
theorem dX7_copy_53 : decode cX7_copy 53 = .ok (.getfield 327, 3) := by decide +kernel
theorem dX7_copy_56 : decode cX7_copy 56 = .ok (.aload 7, 2) := by decide +kernel
theorem dX7_copy_58 : decode cX7_copy 58 = .ok (.getfield 327, 3) := by decide +kernel
theorem dX7_copy_61 : decode cX7_copy 61 = .ok (.if_icmp .eq 6, 3) := by decide +kernel
theorem dX7_copy_64 : decode cX7_copy 64 = .ok (.bipush (-12), 2) := by decide +kernel
theorem dX7_copy_66 : decode cX7_copy 66 = .ok (.ireturn, 1) := by decide +kernel
theorem dX7_copy_67 : decode cX7_copy 67 = .ok (.aload 6, 2) := by decide +kernel
theorem dX7_copy_69 : decode cX7_copy 69 = .ok (.iload_n 2, 1) := by decide +kernel
theorem dX7_copy_70 : decode cX7_copy 70 = .ok (.iload 5, 2) := by decide +kernel
theorem dX7_copy_72 : decode cX7_copy 72 = .ok (.invokevirtual 330, 3) := by decide +kernel
theorem dX7_copy_75 : decode cX7_copy 75 = .ok (.ifCond .eq 15, 3) := by decide +kernel
theorem dX7_copy_78 : decode cX7_copy 78 = .ok (.aload 7, 2) := by decide +kernel
theorem dX7_copy_80 : decode cX7_copy 80 = .ok (.iload 4, 2) := by decide +kernel
theorem dX7_copy_82 : decode cX7_copy 82 = .ok (.iload 5, 2) := by decide +kernel
theorem dX7_copy_84 : decode cX7_copy 84 = .ok (.invokevirtual 330, 3) := by decide +kernel
theorem dX7_copy_87 : decode cX7_copy 87 = .ok (.ifCond .ne 6, 3) := by decide +kernel
theorem dX7_copy_90 : decode cX7_copy 90 = .ok (.bipush (-13), 2) := by decide +kernel
theorem dX7_copy_92 : decode cX7_copy 92 = .ok (.ireturn, 1) := by decide +kernel
theorem dX7_copy_93 : decode cX7_copy 93 = .ok (.aload 6, 2) := by decide +kernel
theorem dX7_copy_95 : decode cX7_copy 95 = .ok (.getfield 306, 3) := by decide +kernel
theorem dX7_copy_98 : decode cX7_copy 98 = .ok (.iload_n 2, 1) := by decide +kernel
theorem dX7_copy_99 : decode cX7_copy 99 = .ok (.aload 7, 2) := by decide +kernel
theorem dX7_copy_101 : decode cX7_copy 101 = .ok (.getfield 306, 3) := by decide +kernel
theorem dX7_copy_104 : decode cX7_copy 104 = .ok (.iload 4, 2) := by decide +kernel
theorem dX7_copy_106 : decode cX7_copy 106 = .ok (.iload 5, 2) := by decide +kernel
theorem dX7_copy_108 : decode cX7_copy 108 = .ok (.invokestatic 333, 3) := by decide +kernel
theorem dX7_copy_111 : decode cX7_copy 111 = .ok (.iload 5, 2) := by decide +kernel
theorem dX7_copy_113 : decode cX7_copy 113 = .ok (.ireturn, 1) := by decide +kernel
theorem dX7_isIn_0 : decode cX7_isIn 0 = .ok (.iload_n 0, 1) := by decide +kernel
theorem dX7_isIn_1 : decode cX7_isIn 1 = .ok (.iload_n 1, 1) := by decide +kernel
theorem dX7_isIn_2 : decode cX7_isIn 2 = .ok (.if_icmp .lt 12, 3) := by decide +kernel
theorem dX7_isIn_5 : decode cX7_isIn 5 = .ok (.iload_n 0, 1) := by decide +kernel
theorem dX7_isIn_6 : decode cX7_isIn 6 = .ok (.iload_n 2, 1) := by decide +kernel
theorem dX7_isIn_7 : decode cX7_isIn 7 = .ok (.if_icmp .gt 7, 3) := by decide +kernel
theorem dX7_isIn_10 : decode cX7_isIn 10 = .ok (.iconst 1, 1) := by decide +kernel
theorem dX7_isIn_11 : decode cX7_isIn 11 = .ok (.goto 4, 3) := by decide +kernel
theorem dX7_isIn_14 : decode cX7_isIn 14 = .ok (.iconst 0, 1) := by decide +kernel
theorem dX7_isIn_15 : decode cX7_isIn 15 = .ok (.ireturn, 1) := by decide +kernel
theorem dX7_isRate_0 : decode cX7_isRate 0 = .ok (.iload_n 0, 1) := by decide +kernel
theorem dX7_isRate_1 : decode cX7_isRate 1 = .ok (.bipush (-30), 2) := by decide +kernel
theorem dX7_isRate_3 : decode cX7_isRate 3 = .ok (.bipush 30, 2) := by decide +kernel
theorem dX7_isRate_5 : decode cX7_isRate 5 = .ok (.invokestatic 55, 3) := by decide +kernel
theorem dX7_isRate_8 : decode cX7_isRate 8 = .ok (.ireturn, 1) := by decide +kernel
theorem dX7_isSpan_0 : decode cX7_isSpan 0 = .ok (.iload_n 0, 1) := by decide +kernel
theorem dX7_isSpan_1 : decode cX7_isSpan 1 = .ok (.iconst 0, 1) := by decide +kernel
theorem dX7_isSpan_2 : decode cX7_isSpan 2 = .ok (.sipush 200, 3) := by decide +kernel
theorem dX7_isSpan_5 : decode cX7_isSpan 5 = .ok (.invokestatic 55, 3) := by decide +kernel
theorem dX7_isSpan_8 : decode cX7_isSpan 8 = .ok (.ireturn, 1) := by decide +kernel
theorem dX7_isSheet_0 : decode cX7_isSheet 0 = .ok (.iload_n 0, 1) := by decide +kernel
theorem dX7_isSheet_1 : decode cX7_isSheet 1 = .ok (.iconst 0, 1) := by decide +kernel
theorem dX7_isSheet_2 : decode cX7_isSheet 2 = .ok (.iconst 3, 1) := by decide +kernel
theorem dX7_isSheet_3 : decode cX7_isSheet 3 = .ok (.invokestatic 55, 3) := by decide +kernel
theorem dX7_isSheet_6 : decode cX7_isSheet 6 = .ok (.ireturn, 1) := by decide +kernel
theorem dX7_isLane_0 : decode cX7_isLane 0 = .ok (.iload_n 0, 1) := by decide +kernel
theorem dX7_isLane_1 : decode cX7_isLane 1 = .ok (.iconst 0, 1) := by decide +kernel
theorem dX7_isLane_2 : decode cX7_isLane 2 = .ok (.iconst 3, 1) := by decide +kernel
theorem dX7_isLane_3 : decode cX7_isLane 3 = .ok (.invokestatic 55, 3) := by decide +kernel
theorem dX7_isLane_6 : decode cX7_isLane 6 = .ok (.ireturn, 1) := by decide +kernel
theorem dX7_isClock_0 : decode cX7_isClock 0 = .ok (.iload_n 1, 1) := by decide +kernel
theorem dX7_isClock_1 : decode cX7_isClock 1 = .ok (.iconst 0, 1) := by decide +kernel
theorem dX7_isClock_2 : decode cX7_isClock 2 = .ok (.aload_n 0, 1) := by decide +kernel
theorem dX7_isClock_3 : decode cX7_isClock 3 = .ok (.getfield 10, 3) := by decide +kernel
theorem dX7_isClock_6 : decode cX7_isClock 6 = .ok (.getfield 63, 3) := by decide +kernel
theorem dX7_isClock_9 : decode cX7_isClock 9 = .ok (.getfield 66, 3) := by decide +kernel
theorem dX7_isClock_12 : decode cX7_isClock 12 = .ok (.iconst 1, 1) := by decide +kernel
theorem dX7_isClock_13 : decode cX7_isClock 13 = .ok (.isub, 1) := by decide +kernel
theorem dX7_isClock_14 : decode cX7_isClock 14 = .ok (.invokestatic 55, 3) := by decide +kernel
theorem dX7_isClock_17 : decode cX7_isClock 17 = .ok (.ireturn, 1) := by decide +kernel
theorem dX7_isWindow_0 : decode cX7_isWindow 0 = .ok (.iload_n 1, 1) := by decide +kernel
theorem dX7_isWindow_1 : decode cX7_isWindow 1 = .ok (.iconst 0, 1) := by decide +kernel
theorem dX7_isWindow_2 : decode cX7_isWindow 2 = .ok (.aload_n 0, 1) := by decide +kernel
theorem dX7_isWindow_3 : decode cX7_isWindow 3 = .ok (.getfield 10, 3) := by decide +kernel
theorem dX7_isWindow_6 : decode cX7_isWindow 6 = .ok (.getfield 63, 3) := by decide +kernel
theorem dX7_isWindow_9 : decode cX7_isWindow 9 = .ok (.getfield 153, 3) := by decide +kernel
theorem dX7_isWindow_12 : decode cX7_isWindow 12 = .ok (.iconst 1, 1) := by decide +kernel
theorem dX7_isWindow_13 : decode cX7_isWindow 13 = .ok (.isub, 1) := by decide +kernel
theorem dX7_isWindow_14 : decode cX7_isWindow 14 = .ok (.invokestatic 55, 3) := by decide +kernel
theorem dX7_isWindow_17 : decode cX7_isWindow 17 = .ok (.ireturn, 1) := by decide +kernel
theorem dX7_isSet_0 : decode cX7_isSet 0 = .ok (.iload_n 1, 1) := by decide +kernel
theorem dX7_isSet_1 : decode cX7_isSet 1 = .ok (.iconst 0, 1) := by decide +kernel
theorem dX7_isSet_2 : decode cX7_isSet 2 = .ok (.iconst 1, 1) := by decide +kernel
theorem dX7_isSet_3 : decode cX7_isSet 3 = .ok (.aload_n 0, 1) := by decide +kernel
theorem dX7_isSet_4 : decode cX7_isSet 4 = .ok (.getfield 10, 3) := by decide +kernel
theorem dX7_isSet_7 : decode cX7_isSet 7 = .ok (.getfield 63, 3) := by decide +kernel
theorem dX7_isSet_10 : decode cX7_isSet 10 = .ok (.getfield 66, 3) := by decide +kernel
theorem dX7_isSet_13 : decode cX7_isSet 13 = .ok (.ishl, 1) := by decide +kernel
theorem dX7_isSet_14 : decode cX7_isSet 14 = .ok (.iconst 1, 1) := by decide +kernel
theorem dX7_isSet_15 : decode cX7_isSet 15 = .ok (.isub, 1) := by decide +kernel
theorem dX7_isSet_16 : decode cX7_isSet 16 = .ok (.invokestatic 55, 3) := by decide +kernel
theorem dX7_isSet_19 : decode cX7_isSet 19 = .ok (.ireturn, 1) := by decide +kernel
theorem dX7_isAim_0 : decode cX7_isAim 0 = .ok (.aload_n 0, 1) := by decide +kernel
theorem dX7_isAim_1 : decode cX7_isAim 1 = .ok (.iload_n 1, 1) := by decide +kernel
theorem dX7_isAim_2 : decode cX7_isAim 2 = .ok (.invokevirtual 96, 3) := by decide +kernel
theorem dX7_isAim_5 : decode cX7_isAim 5 = .ok (.ifCond .eq 24, 3) := by decide +kernel
theorem dX7_isAim_8 : decode cX7_isAim 8 = .ok (.iload_n 2, 1) := by decide +kernel
theorem dX7_isAim_9 : decode cX7_isAim 9 = .ok (.iconst 1, 1) := by decide +kernel
theorem dX7_isAim_10 : decode cX7_isAim 10 = .ok (.bipush 9, 2) := by decide +kernel
theorem dX7_isAim_12 : decode cX7_isAim 12 = .ok (.invokestatic 55, 3) := by decide +kernel
theorem dX7_isAim_15 : decode cX7_isAim 15 = .ok (.ifCond .eq 14, 3) := by decide +kernel
theorem dX7_isAim_18 : decode cX7_isAim 18 = .ok (.iload_n 3, 1) := by decide +kernel
theorem dX7_isAim_19 : decode cX7_isAim 19 = .ok (.invokestatic 229, 3) := by decide +kernel
theorem dX7_isAim_22 : decode cX7_isAim 22 = .ok (.ifCond .eq 7, 3) := by decide +kernel
theorem dX7_isAim_25 : decode cX7_isAim 25 = .ok (.iconst 1, 1) := by decide +kernel
theorem dX7_isAim_26 : decode cX7_isAim 26 = .ok (.goto 4, 3) := by decide +kernel
theorem dX7_isAim_29 : decode cX7_isAim 29 = .ok (.iconst 0, 1) := by decide +kernel
theorem dX7_isAim_30 : decode cX7_isAim 30 = .ok (.ireturn, 1) := by decide +kernel
theorem dX7_perform_0 : decode cX7_perform 0 = .ok (.iload_n 1, 1) := by decide +kernel
theorem dX7_perform_1 : decode cX7_perform 1 = .ok (.tableswitch 51 0 3 #[31, 38, 51, 45], 31) := by decide +kernel
theorem dX7_perform_32 : decode cX7_perform 32 = .ok (.aload_n 0, 1) := by decide +kernel
theorem dX7_perform_33 : decode cX7_perform 33 = .ok (.iload_n 2, 1) := by decide +kernel
theorem dX7_perform_34 : decode cX7_perform 34 = .ok (.iload_n 3, 1) := by decide +kernel
theorem dX7_perform_35 : decode cX7_perform 35 = .ok (.invokevirtual 339, 3) := by decide +kernel
theorem dX7_perform_38 : decode cX7_perform 38 = .ok (.ireturn, 1) := by decide +kernel
theorem dX7_perform_39 : decode cX7_perform 39 = .ok (.aload_n 0, 1) := by decide +kernel
theorem dX7_perform_40 : decode cX7_perform 40 = .ok (.iload_n 2, 1) := by decide +kernel
theorem dX7_perform_41 : decode cX7_perform 41 = .ok (.iload_n 3, 1) := by decide +kernel
theorem dX7_perform_42 : decode cX7_perform 42 = .ok (.invokevirtual 342, 3) := by decide +kernel
theorem dX7_perform_45 : decode cX7_perform 45 = .ok (.ireturn, 1) := by decide +kernel
theorem dX7_perform_46 : decode cX7_perform 46 = .ok (.aload_n 0, 1) := by decide +kernel
theorem dX7_perform_47 : decode cX7_perform 47 = .ok (.iload_n 2, 1) := by decide +kernel
theorem dX7_perform_48 : decode cX7_perform 48 = .ok (.invokevirtual 345, 3) := by decide +kernel
theorem dX7_perform_51 : decode cX7_perform 51 = .ok (.ireturn, 1) := by decide +kernel
theorem dX7_perform_52 : decode cX7_perform 52 = .ok (.aload_n 0, 1) := by decide +kernel
theorem dX7_perform_53 : decode cX7_perform 53 = .ok (.invokevirtual 348, 3) := by decide +kernel
theorem dX7_perform_56 : decode cX7_perform 56 = .ok (.ireturn, 1) := by decide +kernel
theorem dX7_foresee_0 : decode cX7_foresee 0 = .ok (.aload_n 0, 1) := by decide +kernel
theorem dX7_foresee_1 : decode cX7_foresee 1 = .ok (.getfield 26, 3) := by decide +kernel
theorem dX7_foresee_4 : decode cX7_foresee 4 = .ok (.aload_n 0, 1) := by decide +kernel
theorem dX7_foresee_5 : decode cX7_foresee 5 = .ok (.getfield 10, 3) := by decide +kernel
theorem dX7_foresee_8 : decode cX7_foresee 8 = .ok (.getfield 63, 3) := by decide +kernel
theorem dX7_foresee_11 : decode cX7_foresee 11 = .ok (.invokevirtual 143, 3) := by decide +kernel
theorem dX7_foresee_14 : decode cX7_foresee 14 = .ok (.aload_n 0, 1) := by decide +kernel
theorem dX7_foresee_15 : decode cX7_foresee 15 = .ok (.getfield 26, 3) := by decide +kernel
theorem dX7_foresee_18 : decode cX7_foresee 18 = .ok (.iload_n 1, 1) := by decide +kernel
theorem dX7_foresee_19 : decode cX7_foresee 19 = .ok (.iload_n 2, 1) := by decide +kernel
theorem dX7_foresee_20 : decode cX7_foresee 20 = .ok (.invokevirtual 271, 3) := by decide +kernel
theorem dX7_foresee_23 : decode cX7_foresee 23 = .ok (.return_, 1) := by decide +kernel
theorem dX7_hoursUntilHome_0 : decode cX7_hoursUntilHome 0 = .ok (.aload_n 0, 1) := by decide +kernel
theorem dX7_hoursUntilHome_1 : decode cX7_hoursUntilHome 1 = .ok (.getfield 26, 3) := by decide +kernel
theorem dX7_hoursUntilHome_4 : decode cX7_hoursUntilHome 4 = .ok (.aload_n 0, 1) := by decide +kernel
theorem dX7_hoursUntilHome_5 : decode cX7_hoursUntilHome 5 = .ok (.getfield 10, 3) := by decide +kernel
theorem dX7_hoursUntilHome_8 : decode cX7_hoursUntilHome 8 = .ok (.getfield 63, 3) := by decide +kernel
theorem dX7_hoursUntilHome_11 : decode cX7_hoursUntilHome 11 = .ok (.invokevirtual 143, 3) := by decide +kernel
theorem dX7_hoursUntilHome_14 : decode cX7_hoursUntilHome 14 = .ok (.iconst 0, 1) := by decide +kernel
theorem dX7_hoursUntilHome_15 : decode cX7_hoursUntilHome 15 = .ok (.istore_n 3, 1) := by decide +kernel
theorem dX7_hoursUntilHome_16 : decode cX7_hoursUntilHome 16 = .ok (.iload_n 3, 1) := by decide +kernel
theorem dX7_hoursUntilHome_17 : decode cX7_hoursUntilHome 17 = .ok (.sipush 200, 3) := by decide +kernel
theorem dX7_hoursUntilHome_20 : decode cX7_hoursUntilHome 20 = .ok (.if_icmp .gt 31, 3) := by decide +kernel
theorem dX7_hoursUntilHome_23 : decode cX7_hoursUntilHome 23 = .ok (.aload_n 0, 1) := by decide +kernel
theorem dX7_hoursUntilHome_24 : decode cX7_hoursUntilHome 24 = .ok (.getfield 26, 3) := by decide +kernel
theorem dX7_hoursUntilHome_27 : decode cX7_hoursUntilHome 27 = .ok (.iload_n 1, 1) := by decide +kernel
theorem dX7_hoursUntilHome_28 : decode cX7_hoursUntilHome 28 = .ok (.invokevirtual 111, 3) := by decide +kernel
theorem dX7_hoursUntilHome_31 : decode cX7_hoursUntilHome 31 = .ok (.ifCond .eq 5, 3) := by decide +kernel
theorem dX7_hoursUntilHome_34 : decode cX7_hoursUntilHome 34 = .ok (.iload_n 3, 1) := by decide +kernel
theorem dX7_hoursUntilHome_35 : decode cX7_hoursUntilHome 35 = .ok (.ireturn, 1) := by decide +kernel
theorem dX7_hoursUntilHome_36 : decode cX7_hoursUntilHome 36 = .ok (.aload_n 0, 1) := by decide +kernel
theorem dX7_hoursUntilHome_37 : decode cX7_hoursUntilHome 37 = .ok (.getfield 26, 3) := by decide +kernel
theorem dX7_hoursUntilHome_40 : decode cX7_hoursUntilHome 40 = .ok (.iload_n 2, 1) := by decide +kernel
theorem dX7_hoursUntilHome_41 : decode cX7_hoursUntilHome 41 = .ok (.invokevirtual 212, 3) := by decide +kernel
theorem dX7_hoursUntilHome_44 : decode cX7_hoursUntilHome 44 = .ok (.pop, 1) := by decide +kernel
theorem dX7_hoursUntilHome_45 : decode cX7_hoursUntilHome 45 = .ok (.iinc 3 1, 3) := by decide +kernel
theorem dX7_hoursUntilHome_48 : decode cX7_hoursUntilHome 48 = .ok (.goto (-32), 3) := by decide +kernel
theorem dX7_hoursUntilHome_51 : decode cX7_hoursUntilHome 51 = .ok (.sipush 201, 3) := by decide +kernel
theorem dX7_hoursUntilHome_54 : decode cX7_hoursUntilHome 54 = .ok (.ireturn, 1) := by decide +kernel
theorem dX7_usefulTurns_0 : decode cX7_usefulTurns 0 = .ok (.iload_n 2, 1) := by decide +kernel
theorem dX7_usefulTurns_1 : decode cX7_usefulTurns 1 = .ok (.bipush 99, 2) := by decide +kernel
theorem dX7_usefulTurns_3 : decode cX7_usefulTurns 3 = .ok (.invokestatic 256, 3) := by decide +kernel
theorem dX7_usefulTurns_6 : decode cX7_usefulTurns 6 = .ok (.aload_n 0, 1) := by decide +kernel
theorem dX7_usefulTurns_7 : decode cX7_usefulTurns 7 = .ok (.getfield 10, 3) := by decide +kernel
theorem dX7_usefulTurns_10 : decode cX7_usefulTurns 10 = .ok (.getfield 63, 3) := by decide +kernel
theorem dX7_usefulTurns_13 : decode cX7_usefulTurns 13 = .ok (.getfield 105, 3) := by decide +kernel
theorem dX7_usefulTurns_16 : decode cX7_usefulTurns 16 = .ok (.iload_n 1, 1) := by decide +kernel
theorem dX7_usefulTurns_17 : decode cX7_usefulTurns 17 = .ok (.iaload, 1) := by decide +kernel
theorem dX7_usefulTurns_18 : decode cX7_usefulTurns 18 = .ok (.isub, 1) := by decide +kernel
theorem dX7_usefulTurns_19 : decode cX7_usefulTurns 19 = .ok (.istore_n 3, 1) := by decide +kernel
theorem dX7_usefulTurns_20 : decode cX7_usefulTurns 20 = .ok (.iconst 0, 1) := by decide +kernel
theorem dX7_usefulTurns_21 : decode cX7_usefulTurns 21 = .ok (.iload_n 3, 1) := by decide +kernel
theorem dX7_usefulTurns_22 : decode cX7_usefulTurns 22 = .ok (.bipush 40, 2) := by decide +kernel
theorem dX7_usefulTurns_24 : decode cX7_usefulTurns 24 = .ok (.invokestatic 256, 3) := by decide +kernel
theorem dX7_usefulTurns_27 : decode cX7_usefulTurns 27 = .ok (.invokestatic 261, 3) := by decide +kernel
theorem dX7_usefulTurns_30 : decode cX7_usefulTurns 30 = .ok (.ireturn, 1) := by decide +kernel
theorem dX7_comesTo_0 : decode cX7_comesTo 0 = .ok (.aload_n 0, 1) := by decide +kernel
theorem dX7_comesTo_1 : decode cX7_comesTo 1 = .ok (.getfield 26, 3) := by decide +kernel
theorem dX7_comesTo_4 : decode cX7_comesTo 4 = .ok (.aload_n 0, 1) := by decide +kernel
theorem dX7_comesTo_5 : decode cX7_comesTo 5 = .ok (.getfield 10, 3) := by decide +kernel
theorem dX7_comesTo_8 : decode cX7_comesTo 8 = .ok (.getfield 63, 3) := by decide +kernel
theorem dX7_comesTo_11 : decode cX7_comesTo 11 = .ok (.invokevirtual 143, 3) := by decide +kernel
theorem dX7_comesTo_14 : decode cX7_comesTo 14 = .ok (.aload_n 0, 1) := by decide +kernel
theorem dX7_comesTo_15 : decode cX7_comesTo 15 = .ok (.getfield 26, 3) := by decide +kernel
theorem dX7_comesTo_18 : decode cX7_comesTo 18 = .ok (.iload_n 1, 1) := by decide +kernel
theorem dX7_comesTo_19 : decode cX7_comesTo 19 = .ok (.iload 4, 2) := by decide +kernel
theorem dX7_comesTo_21 : decode cX7_comesTo 21 = .ok (.invokevirtual 219, 3) := by decide +kernel
theorem dX7_comesTo_24 : decode cX7_comesTo 24 = .ok (.aload_n 0, 1) := by decide +kernel
theorem dX7_comesTo_25 : decode cX7_comesTo 25 = .ok (.getfield 26, 3) := by decide +kernel
theorem dX7_comesTo_28 : decode cX7_comesTo 28 = .ok (.iload_n 1, 1) := by decide +kernel
theorem dX7_comesTo_29 : decode cX7_comesTo 29 = .ok (.iload 5, 2) := by decide +kernel
theorem dX7_comesTo_31 : decode cX7_comesTo 31 = .ok (.bipush 60, 2) := by decide +kernel
theorem dX7_comesTo_33 : decode cX7_comesTo 33 = .ok (.imul, 1) := by decide +kernel
theorem dX7_comesTo_34 : decode cX7_comesTo 34 = .ok (.invokevirtual 223, 3) := by decide +kernel
theorem dX7_comesTo_37 : decode cX7_comesTo 37 = .ok (.aload_n 0, 1) := by decide +kernel
theorem dX7_comesTo_38 : decode cX7_comesTo 38 = .ok (.getfield 26, 3) := by decide +kernel
theorem dX7_comesTo_41 : decode cX7_comesTo 41 = .ok (.iload_n 3, 1) := by decide +kernel
theorem dX7_comesTo_42 : decode cX7_comesTo 42 = .ok (.iconst (-1), 1) := by decide +kernel
theorem dX7_comesTo_43 : decode cX7_comesTo 43 = .ok (.invokevirtual 271, 3) := by decide +kernel
theorem dX7_comesTo_46 : decode cX7_comesTo 46 = .ok (.aload_n 0, 1) := by decide +kernel
theorem dX7_comesTo_47 : decode cX7_comesTo 47 = .ok (.getfield 26, 3) := by decide +kernel
theorem dX7_comesTo_50 : decode cX7_comesTo 50 = .ok (.iload_n 1, 1) := by decide +kernel
theorem dX7_comesTo_51 : decode cX7_comesTo 51 = .ok (.invokevirtual 209, 3) := by decide +kernel
theorem dX7_comesTo_54 : decode cX7_comesTo 54 = .ok (.iload_n 2, 1) := by decide +kernel
theorem dX7_comesTo_55 : decode cX7_comesTo 55 = .ok (.if_icmp .gt 7, 3) := by decide +kernel
theorem dX7_comesTo_58 : decode cX7_comesTo 58 = .ok (.iconst 1, 1) := by decide +kernel
theorem dX7_comesTo_59 : decode cX7_comesTo 59 = .ok (.goto 4, 3) := by decide +kernel
theorem dX7_comesTo_62 : decode cX7_comesTo 62 = .ok (.iconst 0, 1) := by decide +kernel
theorem dX7_comesTo_63 : decode cX7_comesTo 63 = .ok (.ireturn, 1) := by decide +kernel
theorem dX7_fillGains_0 : decode cX7_fillGains 0 = .ok (.iconst 0, 1) := by decide +kernel
theorem dX7_fillGains_1 : decode cX7_fillGains 1 = .ok (.istore 4, 2) := by decide +kernel
theorem dX7_fillGains_3 : decode cX7_fillGains 3 = .ok (.iload 4, 2) := by decide +kernel
theorem dX7_fillGains_5 : decode cX7_fillGains 5 = .ok (.bipush 12, 2) := by decide +kernel
theorem dX7_fillGains_7 : decode cX7_fillGains 7 = .ok (.if_icmp .ge 106, 3) := by decide +kernel
theorem dX7_fillGains_10 : decode cX7_fillGains 10 = .ok (.iconst 0, 1) := by decide +kernel
theorem dX7_fillGains_11 : decode cX7_fillGains 11 = .ok (.istore 5, 2) := by decide +kernel
theorem dX7_fillGains_13 : decode cX7_fillGains 13 = .ok (.iload 5, 2) := by decide +kernel
theorem dX7_fillGains_15 : decode cX7_fillGains 15 = .ok (.bipush 12, 2) := by decide +kernel
theorem dX7_fillGains_17 : decode cX7_fillGains 17 = .ok (.if_icmp .ge 90, 3) := by decide +kernel
theorem dX7_fillGains_20 : decode cX7_fillGains 20 = .ok (.aload_n 0, 1) := by decide +kernel
theorem dX7_fillGains_21 : decode cX7_fillGains 21 = .ok (.getfield 26, 3) := by decide +kernel
theorem dX7_fillGains_24 : decode cX7_fillGains 24 = .ok (.aload_n 0, 1) := by decide +kernel
theorem dX7_fillGains_25 : decode cX7_fillGains 25 = .ok (.getfield 10, 3) := by decide +kernel
theorem dX7_fillGains_28 : decode cX7_fillGains 28 = .ok (.getfield 63, 3) := by decide +kernel
theorem dX7_fillGains_31 : decode cX7_fillGains 31 = .ok (.invokevirtual 143, 3) := by decide +kernel
theorem dX7_fillGains_34 : decode cX7_fillGains 34 = .ok (.aload_n 0, 1) := by decide +kernel
theorem dX7_fillGains_35 : decode cX7_fillGains 35 = .ok (.getfield 26, 3) := by decide +kernel
theorem dX7_fillGains_38 : decode cX7_fillGains 38 = .ok (.iload_n 1, 1) := by decide +kernel
theorem dX7_fillGains_39 : decode cX7_fillGains 39 = .ok (.iload 4, 2) := by decide +kernel
theorem dX7_fillGains_41 : decode cX7_fillGains 41 = .ok (.bipush 60, 2) := by decide +kernel
theorem dX7_fillGains_43 : decode cX7_fillGains 43 = .ok (.imul, 1) := by decide +kernel
theorem dX7_fillGains_44 : decode cX7_fillGains 44 = .ok (.invokevirtual 223, 3) := by decide +kernel
theorem dX7_fillGains_47 : decode cX7_fillGains 47 = .ok (.aload_n 0, 1) := by decide +kernel
theorem dX7_fillGains_48 : decode cX7_fillGains 48 = .ok (.getfield 26, 3) := by decide +kernel
theorem dX7_fillGains_51 : decode cX7_fillGains 51 = .ok (.iload_n 2, 1) := by decide +kernel
theorem dX7_fillGains_52 : decode cX7_fillGains 52 = .ok (.iload 5, 2) := by decide +kernel
theorem dX7_fillGains_54 : decode cX7_fillGains 54 = .ok (.bipush 60, 2) := by decide +kernel
theorem dX7_fillGains_56 : decode cX7_fillGains 56 = .ok (.imul, 1) := by decide +kernel
theorem dX7_fillGains_57 : decode cX7_fillGains 57 = .ok (.invokevirtual 223, 3) := by decide +kernel
theorem dX7_fillGains_60 : decode cX7_fillGains 60 = .ok (.aload_n 0, 1) := by decide +kernel
theorem dX7_fillGains_61 : decode cX7_fillGains 61 = .ok (.getfield 26, 3) := by decide +kernel
theorem dX7_fillGains_64 : decode cX7_fillGains 64 = .ok (.iload_n 3, 1) := by decide +kernel
theorem dX7_fillGains_65 : decode cX7_fillGains 65 = .ok (.iconst (-1), 1) := by decide +kernel
theorem dX7_fillGains_66 : decode cX7_fillGains 66 = .ok (.invokevirtual 271, 3) := by decide +kernel
theorem dX7_fillGains_69 : decode cX7_fillGains 69 = .ok (.aload_n 0, 1) := by decide +kernel
theorem dX7_fillGains_70 : decode cX7_fillGains 70 = .ok (.getfield 44, 3) := by decide +kernel
theorem dX7_fillGains_73 : decode cX7_fillGains 73 = .ok (.iload 4, 2) := by decide +kernel
theorem dX7_fillGains_75 : decode cX7_fillGains 75 = .ok (.bipush 12, 2) := by decide +kernel
theorem dX7_fillGains_77 : decode cX7_fillGains 77 = .ok (.imul, 1) := by decide +kernel
theorem dX7_fillGains_78 : decode cX7_fillGains 78 = .ok (.iload 5, 2) := by decide +kernel
theorem dX7_fillGains_80 : decode cX7_fillGains 80 = .ok (.iadd, 1) := by decide +kernel
theorem dX7_fillGains_81 : decode cX7_fillGains 81 = .ok (.aload_n 0, 1) := by decide +kernel
theorem dX7_fillGains_82 : decode cX7_fillGains 82 = .ok (.getfield 26, 3) := by decide +kernel
theorem dX7_fillGains_85 : decode cX7_fillGains 85 = .ok (.getfield 108, 3) := by decide +kernel
theorem dX7_fillGains_88 : decode cX7_fillGains 88 = .ok (.iload_n 1, 1) := by decide +kernel
theorem dX7_fillGains_89 : decode cX7_fillGains 89 = .ok (.iaload, 1) := by decide +kernel
theorem dX7_fillGains_90 : decode cX7_fillGains 90 = .ok (.aload_n 0, 1) := by decide +kernel
theorem dX7_fillGains_91 : decode cX7_fillGains 91 = .ok (.getfield 26, 3) := by decide +kernel
theorem dX7_fillGains_94 : decode cX7_fillGains 94 = .ok (.getfield 108, 3) := by decide +kernel
theorem dX7_fillGains_97 : decode cX7_fillGains 97 = .ok (.iload_n 2, 1) := by decide +kernel
theorem dX7_fillGains_98 : decode cX7_fillGains 98 = .ok (.iaload, 1) := by decide +kernel
theorem dX7_fillGains_99 : decode cX7_fillGains 99 = .ok (.isub, 1) := by decide +kernel
theorem dX7_fillGains_100 : decode cX7_fillGains 100 = .ok (.iastore, 1) := by decide +kernel
theorem dX7_fillGains_101 : decode cX7_fillGains 101 = .ok (.iinc 5 1, 3) := by decide +kernel
theorem dX7_fillGains_104 : decode cX7_fillGains 104 = .ok (.goto (-91), 3) := by decide +kernel
theorem dX7_fillGains_107 : decode cX7_fillGains 107 = .ok (.iinc 4 1, 3) := by decide +kernel
theorem dX7_fillGains_110 : decode cX7_fillGains 110 = .ok (.goto (-107), 3) := by decide +kernel
theorem dX7_fillGains_113 : decode cX7_fillGains 113 = .ok (.return_, 1) := by decide +kernel
theorem dX7_isRest_0 : decode cX7_isRest 0 = .ok (.aload_n 0, 1) := by decide +kernel
theorem dX7_isRest_1 : decode cX7_isRest 1 = .ok (.getfield 44, 3) := by decide +kernel
theorem dX7_isRest_4 : decode cX7_isRest 4 = .ok (.iload_n 1, 1) := by decide +kernel
theorem dX7_isRest_5 : decode cX7_isRest 5 = .ok (.bipush 12, 2) := by decide +kernel
theorem dX7_isRest_7 : decode cX7_isRest 7 = .ok (.imul, 1) := by decide +kernel
theorem dX7_isRest_8 : decode cX7_isRest 8 = .ok (.iload_n 2, 1) := by decide +kernel
theorem dX7_isRest_9 : decode cX7_isRest 9 = .ok (.iadd, 1) := by decide +kernel
theorem dX7_isRest_10 : decode cX7_isRest 10 = .ok (.iaload, 1) := by decide +kernel
theorem dX7_isRest_11 : decode cX7_isRest 11 = .ok (.istore_n 3, 1) := by decide +kernel
theorem dX7_isRest_12 : decode cX7_isRest 12 = .ok (.iconst 0, 1) := by decide +kernel
theorem dX7_isRest_13 : decode cX7_isRest 13 = .ok (.istore 4, 2) := by decide +kernel
theorem dX7_isRest_15 : decode cX7_isRest 15 = .ok (.iload 4, 2) := by decide +kernel
theorem dX7_isRest_17 : decode cX7_isRest 17 = .ok (.bipush 12, 2) := by decide +kernel
theorem dX7_isRest_19 : decode cX7_isRest 19 = .ok (.if_icmp .ge 45, 3) := by decide +kernel
theorem dX7_isRest_22 : decode cX7_isRest 22 = .ok (.aload_n 0, 1) := by decide +kernel
theorem dX7_isRest_23 : decode cX7_isRest 23 = .ok (.getfield 44, 3) := by decide +kernel
theorem dX7_isRest_26 : decode cX7_isRest 26 = .ok (.iload 4, 2) := by decide +kernel
theorem dX7_isRest_28 : decode cX7_isRest 28 = .ok (.bipush 12, 2) := by decide +kernel
theorem dX7_isRest_30 : decode cX7_isRest 30 = .ok (.imul, 1) := by decide +kernel
theorem dX7_isRest_31 : decode cX7_isRest 31 = .ok (.iload_n 2, 1) := by decide +kernel
theorem dX7_isRest_32 : decode cX7_isRest 32 = .ok (.iadd, 1) := by decide +kernel
theorem dX7_isRest_33 : decode cX7_isRest 33 = .ok (.iaload, 1) := by decide +kernel
theorem dX7_isRest_34 : decode cX7_isRest 34 = .ok (.iload_n 3, 1) := by decide +kernel
theorem dX7_isRest_35 : decode cX7_isRest 35 = .ok (.if_icmp .le 5, 3) := by decide +kernel
theorem dX7_isRest_38 : decode cX7_isRest 38 = .ok (.iconst 0, 1) := by decide +kernel
theorem dX7_isRest_39 : decode cX7_isRest 39 = .ok (.ireturn, 1) := by decide +kernel
theorem dX7_isRest_40 : decode cX7_isRest 40 = .ok (.aload_n 0, 1) := by decide +kernel
theorem dX7_isRest_41 : decode cX7_isRest 41 = .ok (.getfield 44, 3) := by decide +kernel
theorem dX7_isRest_44 : decode cX7_isRest 44 = .ok (.iload_n 1, 1) := by decide +kernel
theorem dX7_isRest_45 : decode cX7_isRest 45 = .ok (.bipush 12, 2) := by decide +kernel
theorem dX7_isRest_47 : decode cX7_isRest 47 = .ok (.imul, 1) := by decide +kernel
theorem dX7_isRest_48 : decode cX7_isRest 48 = .ok (.iload 4, 2) := by decide +kernel
theorem dX7_isRest_50 : decode cX7_isRest 50 = .ok (.iadd, 1) := by decide +kernel
theorem dX7_isRest_51 : decode cX7_isRest 51 = .ok (.iaload, 1) := by decide +kernel
theorem dX7_isRest_52 : decode cX7_isRest 52 = .ok (.iload_n 3, 1) := by decide +kernel
theorem dX7_isRest_53 : decode cX7_isRest 53 = .ok (.if_icmp .ge 5, 3) := by decide +kernel
theorem dX7_isRest_56 : decode cX7_isRest 56 = .ok (.iconst 0, 1) := by decide +kernel
theorem dX7_isRest_57 : decode cX7_isRest 57 = .ok (.ireturn, 1) := by decide +kernel
theorem dX7_isRest_58 : decode cX7_isRest 58 = .ok (.iinc 4 1, 3) := by decide +kernel
theorem dX7_isRest_61 : decode cX7_isRest 61 = .ok (.goto (-46), 3) := by decide +kernel
theorem dX7_isRest_64 : decode cX7_isRest 64 = .ok (.iconst 1, 1) := by decide +kernel
theorem dX7_isRest_65 : decode cX7_isRest 65 = .ok (.ireturn, 1) := by decide +kernel
theorem dX7_isFilmed_0 : decode cX7_isFilmed 0 = .ok (.iconst 0, 1) := by decide +kernel
theorem dX7_isFilmed_1 : decode cX7_isFilmed 1 = .ok (.istore_n 3, 1) := by decide +kernel
theorem dX7_isFilmed_2 : decode cX7_isFilmed 2 = .ok (.iload_n 3, 1) := by decide +kernel
theorem dX7_isFilmed_3 : decode cX7_isFilmed 3 = .ok (.aload_n 0, 1) := by decide +kernel
theorem dX7_isFilmed_4 : decode cX7_isFilmed 4 = .ok (.getfield 26, 3) := by decide +kernel
theorem dX7_isFilmed_7 : decode cX7_isFilmed 7 = .ok (.getfield 66, 3) := by decide +kernel
theorem dX7_isFilmed_10 : decode cX7_isFilmed 10 = .ok (.if_icmp .ge 33, 3) := by decide +kernel
theorem dX7_isFilmed_13 : decode cX7_isFilmed 13 = .ok (.aload_n 1, 1) := by decide +kernel
theorem dX7_isFilmed_14 : decode cX7_isFilmed 14 = .ok (.getfield 306, 3) := by decide +kernel
theorem dX7_isFilmed_17 : decode cX7_isFilmed 17 = .ok (.iload_n 2, 1) := by decide +kernel
theorem dX7_isFilmed_18 : decode cX7_isFilmed 18 = .ok (.iload_n 3, 1) := by decide +kernel
theorem dX7_isFilmed_19 : decode cX7_isFilmed 19 = .ok (.iadd, 1) := by decide +kernel
theorem dX7_isFilmed_20 : decode cX7_isFilmed 20 = .ok (.laload, 1) := by decide +kernel
theorem dX7_isFilmed_21 : decode cX7_isFilmed 21 = .ok (.aload_n 0, 1) := by decide +kernel
theorem dX7_isFilmed_22 : decode cX7_isFilmed 22 = .ok (.getfield 26, 3) := by decide +kernel
theorem dX7_isFilmed_25 : decode cX7_isFilmed 25 = .ok (.getfield 108, 3) := by decide +kernel
theorem dX7_isFilmed_28 : decode cX7_isFilmed 28 = .ok (.iload_n 3, 1) := by decide +kernel
theorem dX7_isFilmed_29 : decode cX7_isFilmed 29 = .ok (.iaload, 1) := by decide +kernel
theorem dX7_isFilmed_30 : decode cX7_isFilmed 30 = .ok (.i2l, 1) := by decide +kernel
theorem dX7_isFilmed_31 : decode cX7_isFilmed 31 = .ok (.lcmp, 1) := by decide +kernel
theorem dX7_isFilmed_32 : decode cX7_isFilmed 32 = .ok (.ifCond .eq 5, 3) := by decide +kernel
theorem dX7_isFilmed_35 : decode cX7_isFilmed 35 = .ok (.iconst 0, 1) := by decide +kernel
theorem dX7_isFilmed_36 : decode cX7_isFilmed 36 = .ok (.ireturn, 1) := by decide +kernel
theorem dX7_isFilmed_37 : decode cX7_isFilmed 37 = .ok (.iinc 3 1, 3) := by decide +kernel
theorem dX7_isFilmed_40 : decode cX7_isFilmed 40 = .ok (.goto (-38), 3) := by decide +kernel
theorem dX7_isFilmed_43 : decode cX7_isFilmed 43 = .ok (.iconst 1, 1) := by decide +kernel
theorem dX7_isFilmed_44 : decode cX7_isFilmed 44 = .ok (.ireturn, 1) := by decide +kernel
theorem dX8_init_0 : decode cX8_init 0 = .ok (.aload_n 0, 1) := by decide +kernel
theorem dX8_init_1 : decode cX8_init 1 = .ok (.invokespecial 1, 3) := by decide +kernel
theorem dX8_init_4 : decode cX8_init 4 = .ok (.aload_n 0, 1) := by decide +kernel
theorem dX8_init_5 : decode cX8_init 5 = .ok (.bipush 63, 2) := by decide +kernel
theorem dX8_init_7 : decode cX8_init 7 = .ok (.newarray .int, 2) := by decide +kernel
theorem dX8_init_9 : decode cX8_init 9 = .ok (.putfield 7, 3) := by decide +kernel
theorem dX8_init_12 : decode cX8_init 12 = .ok (.aload_n 0, 1) := by decide +kernel
theorem dX8_init_13 : decode cX8_init 13 = .ok (.bipush 9, 2) := by decide +kernel
theorem dX8_init_15 : decode cX8_init 15 = .ok (.newarray .int, 2) := by decide +kernel
theorem dX8_init_17 : decode cX8_init 17 = .ok (.putfield 13, 3) := by decide +kernel
theorem dX8_init_20 : decode cX8_init 20 = .ok (.aload_n 0, 1) := by decide +kernel
theorem dX8_init_21 : decode cX8_init 21 = .ok (.bipush 9, 2) := by decide +kernel
theorem dX8_init_23 : decode cX8_init 23 = .ok (.newarray .int, 2) := by decide +kernel
theorem dX8_init_25 : decode cX8_init 25 = .ok (.putfield 16, 3) := by decide +kernel
theorem dX8_init_28 : decode cX8_init 28 = .ok (.aload_n 0, 1) := by decide +kernel
theorem dX8_init_29 : decode cX8_init 29 = .ok (.bipush 8, 2) := by decide +kernel
theorem dX8_init_31 : decode cX8_init 31 = .ok (.putfield 19, 3) := by decide +kernel
theorem dX8_init_34 : decode cX8_init 34 = .ok (.aload_n 0, 1) := by decide +kernel
theorem dX8_init_35 : decode cX8_init 35 = .ok (.bipush 12, 2) := by decide +kernel
theorem dX8_init_37 : decode cX8_init 37 = .ok (.newarray .int, 2) := by decide +kernel
theorem dX8_init_39 : decode cX8_init 39 = .ok (.putfield 23, 3) := by decide +kernel
theorem dX8_init_42 : decode cX8_init 42 = .ok (.aload_n 0, 1) := by decide +kernel
theorem dX8_init_43 : decode cX8_init 43 = .ok (.iconst 1, 1) := by decide +kernel
theorem dX8_init_44 : decode cX8_init 44 = .ok (.putfield 26, 3) := by decide +kernel
theorem dX8_init_47 : decode cX8_init 47 = .ok (.aload_n 0, 1) := by decide +kernel
theorem dX8_init_48 : decode cX8_init 48 = .ok (.iconst (-1), 1) := by decide +kernel
theorem dX8_init_49 : decode cX8_init 49 = .ok (.putfield 29, 3) := by decide +kernel
theorem dX8_init_52 : decode cX8_init 52 = .ok (.aload_n 0, 1) := by decide +kernel
theorem dX8_init_53 : decode cX8_init 53 = .ok (.bipush 6, 2) := by decide +kernel
theorem dX8_init_55 : decode cX8_init 55 = .ok (.newarray .int, 2) := by decide +kernel
theorem dX8_init_57 : decode cX8_init 57 = .ok (.putfield 32, 3) := by decide +kernel
theorem dX8_init_60 : decode cX8_init 60 = .ok (.aload_n 0, 1) := by decide +kernel
theorem dX8_init_61 : decode cX8_init 61 = .ok (.bipush 6, 2) := by decide +kernel
theorem dX8_init_63 : decode cX8_init 63 = .ok (.newarray .int, 2) := by decide +kernel
theorem dX8_init_65 : decode cX8_init 65 = .ok (.putfield 35, 3) := by decide +kernel
theorem dX8_init_68 : decode cX8_init 68 = .ok (.aload_n 0, 1) := by decide +kernel
theorem dX8_init_69 : decode cX8_init 69 = .ok (.bipush 30, 2) := by decide +kernel
theorem dX8_init_71 : decode cX8_init 71 = .ok (.newarray .int, 2) := by decide +kernel
theorem dX8_init_73 : decode cX8_init 73 = .ok (.putfield 38, 3) := by decide +kernel
theorem dX8_init_76 : decode cX8_init 76 = .ok (.aload_n 0, 1) := by decide +kernel
theorem dX8_init_77 : decode cX8_init 77 = .ok (.iconst 1, 1) := by decide +kernel
theorem dX8_init_78 : decode cX8_init 78 = .ok (.putfield 41, 3) := by decide +kernel
theorem dX8_init_81 : decode cX8_init 81 = .ok (.aload_n 0, 1) := by decide +kernel
theorem dX8_init_82 : decode cX8_init 82 = .ok (.sipush 160, 3) := by decide +kernel
theorem dX8_init_85 : decode cX8_init 85 = .ok (.newarray .int, 2) := by decide +kernel
theorem dX8_init_87 : decode cX8_init 87 = .ok (.putfield 44, 3) := by decide +kernel
theorem dX8_init_90 : decode cX8_init 90 = .ok (.aload_n 0, 1) := by decide +kernel
theorem dX8_init_91 : decode cX8_init 91 = .ok (.sipush 480, 3) := by decide +kernel
theorem dX8_init_94 : decode cX8_init 94 = .ok (.newarray .int, 2) := by decide +kernel
theorem dX8_init_96 : decode cX8_init 96 = .ok (.putfield 47, 3) := by decide +kernel
theorem dX8_init_99 : decode cX8_init 99 = .ok (.aload_n 0, 1) := by decide +kernel
theorem dX8_init_100 : decode cX8_init 100 = .ok (.bipush 63, 2) := by decide +kernel
theorem dX8_init_102 : decode cX8_init 102 = .ok (.newarray .int, 2) := by decide +kernel
theorem dX8_init_104 : decode cX8_init 104 = .ok (.putfield 50, 3) := by decide +kernel
theorem dX8_init_107 : decode cX8_init 107 = .ok (.aload_n 0, 1) := by decide +kernel
theorem dX8_init_108 : decode cX8_init 108 = .ok (.sipush 144, 3) := by decide +kernel
theorem dX8_init_111 : decode cX8_init 111 = .ok (.newarray .int, 2) := by decide +kernel
theorem dX8_init_113 : decode cX8_init 113 = .ok (.putfield 53, 3) := by decide +kernel
theorem dX8_init_116 : decode cX8_init 116 = .ok (.aload_n 0, 1) := by decide +kernel
theorem dX8_init_117 : decode cX8_init 117 = .ok (.sipush 155, 3) := by decide +kernel
theorem dX8_init_120 : decode cX8_init 120 = .ok (.newarray .int, 2) := by decide +kernel
theorem dX8_init_122 : decode cX8_init 122 = .ok (.putfield 56, 3) := by decide +kernel
theorem dX8_init_125 : decode cX8_init 125 = .ok (.aload_n 0, 1) := by decide +kernel
theorem dX8_init_126 : decode cX8_init 126 = .ok (.iconst 4, 1) := by decide +kernel
theorem dX8_init_127 : decode cX8_init 127 = .ok (.newarray .int, 2) := by decide +kernel
theorem dX8_init_129 : decode cX8_init 129 = .ok (.putfield 59, 3) := by decide +kernel
theorem dX8_init_132 : decode cX8_init 132 = .ok (.aload_n 0, 1) := by decide +kernel
theorem dX8_init_133 : decode cX8_init 133 = .ok (.iconst 4, 1) := by decide +kernel
theorem dX8_init_134 : decode cX8_init 134 = .ok (.newarray .int, 2) := by decide +kernel
theorem dX8_init_136 : decode cX8_init 136 = .ok (.putfield 62, 3) := by decide +kernel
theorem dX8_init_139 : decode cX8_init 139 = .ok (.aload_n 0, 1) := by decide +kernel
theorem dX8_init_140 : decode cX8_init 140 = .ok (.bipush 96, 2) := by decide +kernel
theorem dX8_init_142 : decode cX8_init 142 = .ok (.newarray .long, 2) := by decide +kernel
theorem dX8_init_144 : decode cX8_init 144 = .ok (.putfield 65, 3) := by decide +kernel
theorem dX8_init_147 : decode cX8_init 147 = .ok (.aload_n 0, 1) := by decide +kernel
theorem dX8_init_148 : decode cX8_init 148 = .ok (.bipush 24, 2) := by decide +kernel
theorem dX8_init_150 : decode cX8_init 150 = .ok (.newarray .long, 2) := by decide +kernel
theorem dX8_init_152 : decode cX8_init 152 = .ok (.putfield 69, 3) := by decide +kernel
theorem dX8_init_155 : decode cX8_init 155 = .ok (.iconst 0, 1) := by decide +kernel
theorem dX8_init_156 : decode cX8_init 156 = .ok (.istore_n 1, 1) := by decide +kernel
theorem dX8_init_157 : decode cX8_init 157 = .ok (.iload_n 1, 1) := by decide +kernel
theorem dX8_init_158 : decode cX8_init 158 = .ok (.iconst 4, 1) := by decide +kernel
theorem dX8_init_159 : decode cX8_init 159 = .ok (.if_icmp .ge 16, 3) := by decide +kernel
theorem dX8_init_162 : decode cX8_init 162 = .ok (.aload_n 0, 1) := by decide +kernel
theorem dX8_init_163 : decode cX8_init 163 = .ok (.getfield 59, 3) := by decide +kernel
theorem dX8_init_166 : decode cX8_init 166 = .ok (.iload_n 1, 1) := by decide +kernel
theorem dX8_init_167 : decode cX8_init 167 = .ok (.iconst (-1), 1) := by decide +kernel
theorem dX8_init_168 : decode cX8_init 168 = .ok (.iastore, 1) := by decide +kernel
theorem dX8_init_169 : decode cX8_init 169 = .ok (.iinc 1 1, 3) := by decide +kernel
theorem dX8_init_172 : decode cX8_init 172 = .ok (.goto (-15), 3) := by decide +kernel
theorem dX8_init_175 : decode cX8_init 175 = .ok (.iconst 0, 1) := by decide +kernel
theorem dX8_init_176 : decode cX8_init 176 = .ok (.istore_n 1, 1) := by decide +kernel
theorem dX8_init_177 : decode cX8_init 177 = .ok (.iload_n 1, 1) := by decide +kernel
theorem dX8_init_178 : decode cX8_init 178 = .ok (.bipush 24, 2) := by decide +kernel
theorem dX8_init_180 : decode cX8_init 180 = .ok (.if_icmp .ge 17, 3) := by decide +kernel
theorem dX8_init_183 : decode cX8_init 183 = .ok (.aload_n 0, 1) := by decide +kernel
theorem dX8_init_184 : decode cX8_init 184 = .ok (.getfield 7, 3) := by decide +kernel
theorem dX8_init_187 : decode cX8_init 187 = .ok (.iload_n 1, 1) := by decide +kernel
theorem dX8_init_188 : decode cX8_init 188 = .ok (.bipush 12, 2) := by decide +kernel
theorem dX8_init_190 : decode cX8_init 190 = .ok (.iastore, 1) := by decide +kernel
theorem dX8_init_191 : decode cX8_init 191 = .ok (.iinc 1 1, 3) := by decide +kernel
theorem dX8_init_194 : decode cX8_init 194 = .ok (.goto (-17), 3) := by decide +kernel
theorem dX8_init_197 : decode cX8_init 197 = .ok (.return_, 1) := by decide +kernel
theorem dX8_in_0 : decode cX8_in 0 = .ok (.lload_n 0, 1) := by decide +kernel
theorem dX8_in_1 : decode cX8_in 1 = .ok (.lload_n 2, 1) := by decide +kernel
theorem dX8_in_2 : decode cX8_in 2 = .ok (.lcmp, 1) := by decide +kernel
theorem dX8_in_3 : decode cX8_in 3 = .ok (.ifCond .lt 14, 3) := by decide +kernel
theorem dX8_in_6 : decode cX8_in 6 = .ok (.lload_n 0, 1) := by decide +kernel
theorem dX8_in_7 : decode cX8_in 7 = .ok (.lload 4, 2) := by decide +kernel
theorem dX8_in_9 : decode cX8_in 9 = .ok (.lcmp, 1) := by decide +kernel
theorem dX8_in_10 : decode cX8_in 10 = .ok (.ifCond .gt 7, 3) := by decide +kernel
theorem dX8_in_13 : decode cX8_in 13 = .ok (.iconst 1, 1) := by decide +kernel
theorem dX8_in_14 : decode cX8_in 14 = .ok (.goto 4, 3) := by decide +kernel
theorem dX8_in_17 : decode cX8_in 17 = .ok (.iconst 0, 1) := by decide +kernel
theorem dX8_in_18 : decode cX8_in 18 = .ok (.ireturn, 1) := by decide +kernel
theorem dX8_has_0 : decode cX8_has 0 = .ok (.iload_n 0, 1) := by decide +kernel
theorem dX8_has_1 : decode cX8_has 1 = .ok (.iload_n 1, 1) := by decide +kernel
theorem dX8_has_2 : decode cX8_has 2 = .ok (.ishr, 1) := by decide +kernel
theorem dX8_has_3 : decode cX8_has 3 = .ok (.iconst 1, 1) := by decide +kernel
theorem dX8_has_4 : decode cX8_has 4 = .ok (.iand, 1) := by decide +kernel
theorem dX8_has_5 : decode cX8_has 5 = .ok (.iconst 1, 1) := by decide +kernel
theorem dX8_has_6 : decode cX8_has 6 = .ok (.if_icmp .ne 7, 3) := by decide +kernel
theorem dX8_has_9 : decode cX8_has 9 = .ok (.iconst 1, 1) := by decide +kernel
theorem dX8_has_10 : decode cX8_has 10 = .ok (.goto 4, 3) := by decide +kernel
theorem dX8_has_13 : decode cX8_has 13 = .ok (.iconst 0, 1) := by decide +kernel
theorem dX8_has_14 : decode cX8_has 14 = .ok (.ireturn, 1) := by decide +kernel
theorem dX8_isClock_0 : decode cX8_isClock 0 = .ok (.iload_n 1, 1) := by decide +kernel
theorem dX8_isClock_1 : decode cX8_isClock 1 = .ok (.i2l, 1) := by decide +kernel
theorem dX8_isClock_2 : decode cX8_isClock 2 = .ok (.lconst 0, 1) := by decide +kernel
theorem dX8_isClock_3 : decode cX8_isClock 3 = .ok (.aload_n 0, 1) := by decide +kernel
theorem dX8_isClock_4 : decode cX8_isClock 4 = .ok (.getfield 72, 3) := by decide +kernel
theorem dX8_isClock_7 : decode cX8_isClock 7 = .ok (.iconst 1, 1) := by decide +kernel
theorem dX8_isClock_8 : decode cX8_isClock 8 = .ok (.isub, 1) := by decide +kernel
theorem dX8_isClock_9 : decode cX8_isClock 9 = .ok (.i2l, 1) := by decide +kernel
theorem dX8_isClock_10 : decode cX8_isClock 10 = .ok (.invokestatic 75, 3) := by decide +kernel
theorem dX8_isClock_13 : decode cX8_isClock 13 = .ok (.ireturn, 1) := by decide +kernel
theorem dX8_isWindow_0 : decode cX8_isWindow 0 = .ok (.iload_n 1, 1) := by decide +kernel
theorem dX8_isWindow_1 : decode cX8_isWindow 1 = .ok (.i2l, 1) := by decide +kernel
theorem dX8_isWindow_2 : decode cX8_isWindow 2 = .ok (.lconst 0, 1) := by decide +kernel
theorem dX8_isWindow_3 : decode cX8_isWindow 3 = .ok (.aload_n 0, 1) := by decide +kernel
theorem dX8_isWindow_4 : decode cX8_isWindow 4 = .ok (.getfield 19, 3) := by decide +kernel
theorem dX8_isWindow_7 : decode cX8_isWindow 7 = .ok (.iconst 1, 1) := by decide +kernel
theorem dX8_isWindow_8 : decode cX8_isWindow 8 = .ok (.isub, 1) := by decide +kernel
theorem dX8_isWindow_9 : decode cX8_isWindow 9 = .ok (.i2l, 1) := by decide +kernel
theorem dX8_isWindow_10 : decode cX8_isWindow 10 = .ok (.invokestatic 75, 3) := by decide +kernel
theorem dX8_isWindow_13 : decode cX8_isWindow 13 = .ok (.ireturn, 1) := by decide +kernel
theorem dX8_isHome_0 : decode cX8_isHome 0 = .ok (.aload_n 0, 1) := by decide +kernel
theorem dX8_isHome_1 : decode cX8_isHome 1 = .ok (.getfield 7, 3) := by decide +kernel
theorem dX8_isHome_4 : decode cX8_isHome 4 = .ok (.bipush 42, 2) := by decide +kernel
theorem dX8_isHome_6 : decode cX8_isHome 6 = .ok (.iload_n 1, 1) := by decide +kernel
theorem dX8_isHome_7 : decode cX8_isHome 7 = .ok (.iadd, 1) := by decide +kernel
theorem dX8_isHome_8 : decode cX8_isHome 8 = .ok (.iaload, 1) := by decide +kernel
theorem dX8_isHome_9 : decode cX8_isHome 9 = .ok (.aload_n 0, 1) := by decide +kernel
theorem dX8_isHome_10 : decode cX8_isHome 10 = .ok (.getfield 19, 3) := by decide +kernel
theorem dX8_isHome_13 : decode cX8_isHome 13 = .ok (.iconst 1, 1) := by decide +kernel
theorem dX8_isHome_14 : decode cX8_isHome 14 = .ok (.isub, 1) := by decide +kernel
theorem dX8_isHome_15 : decode cX8_isHome 15 = .ok (.if_icmp .ne 7, 3) := by decide +kernel
theorem dX8_isHome_18 : decode cX8_isHome 18 = .ok (.iconst 1, 1) := by decide +kernel
theorem dX8_isHome_19 : decode cX8_isHome 19 = .ok (.goto 4, 3) := by decide +kernel
theorem dX8_isHome_22 : decode cX8_isHome 22 = .ok (.iconst 0, 1) := by decide +kernel
theorem dX8_isHome_23 : decode cX8_isHome 23 = .ok (.ireturn, 1) := by decide +kernel
theorem dX8_add_0 : decode cX8_add 0 = .ok (.aload_n 0, 1) := by decide +kernel
theorem dX8_add_1 : decode cX8_add 1 = .ok (.getfield 13, 3) := by decide +kernel
theorem dX8_add_4 : decode cX8_add 4 = .ok (.aload_n 0, 1) := by decide +kernel
theorem dX8_add_5 : decode cX8_add 5 = .ok (.getfield 72, 3) := by decide +kernel
theorem dX8_add_8 : decode cX8_add 8 = .ok (.iload_n 1, 1) := by decide +kernel
theorem dX8_add_9 : decode cX8_add 9 = .ok (.iastore, 1) := by decide +kernel
theorem dX8_add_10 : decode cX8_add 10 = .ok (.aload_n 0, 1) := by decide +kernel
theorem dX8_add_11 : decode cX8_add 11 = .ok (.getfield 16, 3) := by decide +kernel
theorem dX8_add_14 : decode cX8_add 14 = .ok (.aload_n 0, 1) := by decide +kernel
theorem dX8_add_15 : decode cX8_add 15 = .ok (.getfield 72, 3) := by decide +kernel
theorem dX8_add_18 : decode cX8_add 18 = .ok (.iload_n 3, 1) := by decide +kernel
theorem dX8_add_19 : decode cX8_add 19 = .ok (.iastore, 1) := by decide +kernel
theorem dX8_add_20 : decode cX8_add 20 = .ok (.aload_n 0, 1) := by decide +kernel
theorem dX8_add_21 : decode cX8_add 21 = .ok (.getfield 7, 3) := by decide +kernel
theorem dX8_add_24 : decode cX8_add 24 = .ok (.bipush 24, 2) := by decide +kernel
theorem dX8_add_26 : decode cX8_add 26 = .ok (.aload_n 0, 1) := by decide +kernel
theorem dX8_add_27 : decode cX8_add 27 = .ok (.getfield 72, 3) := by decide +kernel
theorem dX8_add_30 : decode cX8_add 30 = .ok (.iadd, 1) := by decide +kernel
theorem dX8_add_31 : decode cX8_add 31 = .ok (.iload_n 2, 1) := by decide +kernel
theorem dX8_add_32 : decode cX8_add 32 = .ok (.iastore, 1) := by decide +kernel
theorem dX8_add_33 : decode cX8_add 33 = .ok (.aload_n 0, 1) := by decide +kernel
theorem dX8_add_34 : decode cX8_add 34 = .ok (.getfield 7, 3) := by decide +kernel
theorem dX8_add_37 : decode cX8_add 37 = .ok (.bipush 33, 2) := by decide +kernel
theorem dX8_add_39 : decode cX8_add 39 = .ok (.aload_n 0, 1) := by decide +kernel
theorem dX8_add_40 : decode cX8_add 40 = .ok (.getfield 72, 3) := by decide +kernel
theorem dX8_add_43 : decode cX8_add 43 = .ok (.iadd, 1) := by decide +kernel
theorem dX8_add_44 : decode cX8_add 44 = .ok (.iload 4, 2) := by decide +kernel
theorem dX8_add_46 : decode cX8_add 46 = .ok (.iastore, 1) := by decide +kernel
theorem dX8_add_47 : decode cX8_add 47 = .ok (.aload_n 0, 1) := by decide +kernel
theorem dX8_add_48 : decode cX8_add 48 = .ok (.getfield 7, 3) := by decide +kernel
theorem dX8_add_51 : decode cX8_add 51 = .ok (.bipush 42, 2) := by decide +kernel
theorem dX8_add_53 : decode cX8_add 53 = .ok (.aload_n 0, 1) := by decide +kernel
theorem dX8_add_54 : decode cX8_add 54 = .ok (.getfield 72, 3) := by decide +kernel
theorem dX8_add_57 : decode cX8_add 57 = .ok (.iadd, 1) := by decide +kernel
theorem dX8_add_58 : decode cX8_add 58 = .ok (.iconst 0, 1) := by decide +kernel
theorem dX8_add_59 : decode cX8_add 59 = .ok (.iastore, 1) := by decide +kernel
theorem dX8_add_60 : decode cX8_add 60 = .ok (.aload_n 0, 1) := by decide +kernel
theorem dX8_add_61 : decode cX8_add 61 = .ok (.getfield 7, 3) := by decide +kernel
theorem dX8_add_64 : decode cX8_add 64 = .ok (.bipush 51, 2) := by decide +kernel
theorem dX8_add_66 : decode cX8_add 66 = .ok (.aload_n 0, 1) := by decide +kernel
theorem dX8_add_67 : decode cX8_add 67 = .ok (.getfield 72, 3) := by decide +kernel
theorem dX8_add_70 : decode cX8_add 70 = .ok (.iadd, 1) := by decide +kernel
theorem dX8_add_71 : decode cX8_add 71 = .ok (.bipush (-4), 2) := by decide +kernel
theorem dX8_add_73 : decode cX8_add 73 = .ok (.iastore, 1) := by decide +kernel
theorem dX8_add_74 : decode cX8_add 74 = .ok (.aload_n 0, 1) := by decide +kernel
theorem dX8_add_75 : decode cX8_add 75 = .ok (.dup, 1) := by decide +kernel
theorem dX8_add_76 : decode cX8_add 76 = .ok (.getfield 72, 3) := by decide +kernel
theorem dX8_add_79 : decode cX8_add 79 = .ok (.iconst 1, 1) := by decide +kernel
theorem dX8_add_80 : decode cX8_add 80 = .ok (.iadd, 1) := by decide +kernel
theorem dX8_add_81 : decode cX8_add 81 = .ok (.putfield 72, 3) := by decide +kernel
theorem dX8_add_84 : decode cX8_add 84 = .ok (.return_, 1) := by decide +kernel
theorem dX8_clock_0 : decode cX8_clock 0 = .ok (.iload_n 1, 1) := by decide +kernel
theorem dX8_clock_1 : decode cX8_clock 1 = .ok (.i2l, 1) := by decide +kernel
theorem dX8_clock_2 : decode cX8_clock 2 = .ok (.lconst 0, 1) := by decide +kernel
theorem dX8_clock_3 : decode cX8_clock 3 = .ok (.ldc2_w 79, 3) := by decide +kernel
theorem dX8_clock_6 : decode cX8_clock 6 = .ok (.invokestatic 75, 3) := by decide +kernel
theorem dX8_clock_9 : decode cX8_clock 9 = .ok (.ifCond .eq 42, 3) := by decide +kernel
theorem dX8_clock_12 : decode cX8_clock 12 = .ok (.iload_n 2, 1) := by decide +kernel
theorem dX8_clock_13 : decode cX8_clock 13 = .ok (.i2l, 1) := by decide +kernel
theorem dX8_clock_14 : decode cX8_clock 14 = .ok (.lconst 0, 1) := by decide +kernel
theorem dX8_clock_15 : decode cX8_clock 15 = .ok (.ldc2_w 81, 3) := by decide +kernel
theorem dX8_clock_18 : decode cX8_clock 18 = .ok (.invokestatic 75, 3) := by decide +kernel
theorem dX8_clock_21 : decode cX8_clock 21 = .ok (.ifCond .eq 30, 3) := by decide +kernel
theorem dX8_clock_24 : decode cX8_clock 24 = .ok (.iload_n 3, 1) := by decide +kernel
theorem dX8_clock_25 : decode cX8_clock 25 = .ok (.i2l, 1) := by decide +kernel
theorem dX8_clock_26 : decode cX8_clock 26 = .ok (.ldc2_w 83, 3) := by decide +kernel
theorem dX8_clock_29 : decode cX8_clock 29 = .ok (.ldc2_w 85, 3) := by decide +kernel
theorem dX8_clock_32 : decode cX8_clock 32 = .ok (.invokestatic 75, 3) := by decide +kernel
theorem dX8_clock_35 : decode cX8_clock 35 = .ok (.ifCond .eq 16, 3) := by decide +kernel
theorem dX8_clock_38 : decode cX8_clock 38 = .ok (.iload 4, 2) := by decide +kernel
theorem dX8_clock_40 : decode cX8_clock 40 = .ok (.i2l, 1) := by decide +kernel
theorem dX8_clock_41 : decode cX8_clock 41 = .ok (.lconst 0, 1) := by decide +kernel
theorem dX8_clock_42 : decode cX8_clock 42 = .ok (.ldc2_w 87, 3) := by decide +kernel
theorem dX8_clock_45 : decode cX8_clock 45 = .ok (.invokestatic 75, 3) := by decide +kernel
theorem dX8_clock_48 : decode cX8_clock 48 = .ok (.ifCond .ne 5, 3) := by decide +kernel
theorem dX8_clock_51 : decode cX8_clock 51 = .ok (.iconst (-1), 1) := by decide +kernel
theorem dX8_clock_52 : decode cX8_clock 52 = .ok (.ireturn, 1) := by decide +kernel
theorem dX8_clock_53 : decode cX8_clock 53 = .ok (.aload_n 0, 1) := by decide +kernel
theorem dX8_clock_54 : decode cX8_clock 54 = .ok (.getfield 72, 3) := by decide +kernel
theorem dX8_clock_57 : decode cX8_clock 57 = .ok (.bipush 9, 2) := by decide +kernel
theorem dX8_clock_59 : decode cX8_clock 59 = .ok (.if_icmp .ne 6, 3) := by decide +kernel
theorem dX8_clock_62 : decode cX8_clock 62 = .ok (.bipush (-3), 2) := by decide +kernel
theorem dX8_clock_64 : decode cX8_clock 64 = .ok (.ireturn, 1) := by decide +kernel
theorem dX8_clock_65 : decode cX8_clock 65 = .ok (.aload_n 0, 1) := by decide +kernel
theorem dX8_clock_66 : decode cX8_clock 66 = .ok (.iload_n 1, 1) := by decide +kernel
theorem dX8_clock_67 : decode cX8_clock 67 = .ok (.iload_n 2, 1) := by decide +kernel
theorem dX8_clock_68 : decode cX8_clock 68 = .ok (.iload_n 3, 1) := by decide +kernel
theorem dX8_clock_69 : decode cX8_clock 69 = .ok (.iload 4, 2) := by decide +kernel
theorem dX8_clock_71 : decode cX8_clock 71 = .ok (.invokevirtual 89, 3) := by decide +kernel
theorem dX8_clock_74 : decode cX8_clock 74 = .ok (.aload_n 0, 1) := by decide +kernel
theorem dX8_clock_75 : decode cX8_clock 75 = .ok (.getfield 72, 3) := by decide +kernel
theorem dX8_clock_78 : decode cX8_clock 78 = .ok (.iconst 1, 1) := by decide +kernel
theorem dX8_clock_79 : decode cX8_clock 79 = .ok (.isub, 1) := by decide +kernel
theorem dX8_clock_80 : decode cX8_clock 80 = .ok (.ireturn, 1) := by decide +kernel
theorem dX8_strike_0 : decode cX8_strike 0 = .ok (.aload_n 0, 1) := by decide +kernel
theorem dX8_strike_1 : decode cX8_strike 1 = .ok (.getfield 72, 3) := by decide +kernel
theorem dX8_strike_4 : decode cX8_strike 4 = .ok (.ifCond .ne 6, 3) := by decide +kernel
theorem dX8_strike_7 : decode cX8_strike 7 = .ok (.bipush (-4), 2) := by decide +kernel
theorem dX8_strike_9 : decode cX8_strike 9 = .ok (.ireturn, 1) := by decide +kernel
theorem dX8_strike_10 : decode cX8_strike 10 = .ok (.aload_n 0, 1) := by decide +kernel
theorem dX8_strike_11 : decode cX8_strike 11 = .ok (.dup, 1) := by decide +kernel
theorem dX8_strike_12 : decode cX8_strike 12 = .ok (.getfield 72, 3) := by decide +kernel
theorem dX8_strike_15 : decode cX8_strike 15 = .ok (.iconst 1, 1) := by decide +kernel
theorem dX8_strike_16 : decode cX8_strike 16 = .ok (.isub, 1) := by decide +kernel
theorem dX8_strike_17 : decode cX8_strike 17 = .ok (.putfield 72, 3) := by decide +kernel
theorem dX8_strike_20 : decode cX8_strike 20 = .ok (.iconst 0, 1) := by decide +kernel
theorem dX8_strike_21 : decode cX8_strike 21 = .ok (.istore_n 1, 1) := by decide +kernel
theorem dX8_strike_22 : decode cX8_strike 22 = .ok (.iconst 0, 1) := by decide +kernel
theorem dX8_strike_23 : decode cX8_strike 23 = .ok (.istore_n 2, 1) := by decide +kernel
theorem dX8_strike_24 : decode cX8_strike 24 = .ok (.iload_n 2, 1) := by decide +kernel
theorem dX8_strike_25 : decode cX8_strike 25 = .ok (.aload_n 0, 1) := by decide +kernel
theorem dX8_strike_26 : decode cX8_strike 26 = .ok (.getfield 93, 3) := by decide +kernel
theorem dX8_strike_29 : decode cX8_strike 29 = .ok (.if_icmp .ge 49, 3) := by decide +kernel
theorem dX8_strike_32 : decode cX8_strike 32 = .ok (.aload_n 0, 1) := by decide +kernel
theorem dX8_strike_33 : decode cX8_strike 33 = .ok (.getfield 32, 3) := by decide +kernel
theorem dX8_strike_36 : decode cX8_strike 36 = .ok (.iload_n 2, 1) := by decide +kernel
theorem dX8_strike_37 : decode cX8_strike 37 = .ok (.iaload, 1) := by decide +kernel
theorem dX8_strike_38 : decode cX8_strike 38 = .ok (.aload_n 0, 1) := by decide +kernel
theorem dX8_strike_39 : decode cX8_strike 39 = .ok (.getfield 72, 3) := by decide +kernel
theorem dX8_strike_42 : decode cX8_strike 42 = .ok (.if_icmp .eq 30, 3) := by decide +kernel
theorem dX8_strike_45 : decode cX8_strike 45 = .ok (.aload_n 0, 1) := by decide +kernel
theorem dX8_strike_46 : decode cX8_strike 46 = .ok (.getfield 32, 3) := by decide +kernel
theorem dX8_strike_49 : decode cX8_strike 49 = .ok (.iload_n 1, 1) := by decide +kernel
theorem dX8_strike_50 : decode cX8_strike 50 = .ok (.aload_n 0, 1) := by decide +kernel
theorem dX8_strike_51 : decode cX8_strike 51 = .ok (.getfield 32, 3) := by decide +kernel
theorem dX8_strike_54 : decode cX8_strike 54 = .ok (.iload_n 2, 1) := by decide +kernel
theorem dX8_strike_55 : decode cX8_strike 55 = .ok (.iaload, 1) := by decide +kernel
theorem dX8_strike_56 : decode cX8_strike 56 = .ok (.iastore, 1) := by decide +kernel
theorem dX8_strike_57 : decode cX8_strike 57 = .ok (.aload_n 0, 1) := by decide +kernel
theorem dX8_strike_58 : decode cX8_strike 58 = .ok (.getfield 35, 3) := by decide +kernel
theorem dX8_strike_61 : decode cX8_strike 61 = .ok (.iload_n 1, 1) := by decide +kernel
theorem dX8_strike_62 : decode cX8_strike 62 = .ok (.aload_n 0, 1) := by decide +kernel
theorem dX8_strike_63 : decode cX8_strike 63 = .ok (.getfield 35, 3) := by decide +kernel
theorem dX8_strike_66 : decode cX8_strike 66 = .ok (.iload_n 2, 1) := by decide +kernel
theorem dX8_strike_67 : decode cX8_strike 67 = .ok (.iaload, 1) := by decide +kernel
theorem dX8_strike_68 : decode cX8_strike 68 = .ok (.iastore, 1) := by decide +kernel
theorem dX8_strike_69 : decode cX8_strike 69 = .ok (.iinc 1 1, 3) := by decide +kernel
theorem dX8_strike_72 : decode cX8_strike 72 = .ok (.iinc 2 1, 3) := by decide +kernel
theorem dX8_strike_75 : decode cX8_strike 75 = .ok (.goto (-51), 3) := by decide +kernel
theorem dX8_strike_78 : decode cX8_strike 78 = .ok (.aload_n 0, 1) := by decide +kernel
theorem dX8_strike_79 : decode cX8_strike 79 = .ok (.iload_n 1, 1) := by decide +kernel
theorem dX8_strike_80 : decode cX8_strike 80 = .ok (.putfield 93, 3) := by decide +kernel
theorem dX8_strike_83 : decode cX8_strike 83 = .ok (.aload_n 0, 1) := by decide +kernel
theorem dX8_strike_84 : decode cX8_strike 84 = .ok (.getfield 7, 3) := by decide +kernel
theorem dX8_strike_87 : decode cX8_strike 87 = .ok (.bipush 61, 2) := by decide +kernel
theorem dX8_strike_89 : decode cX8_strike 89 = .ok (.dup2, 1) := by decide +kernel
theorem dX8_strike_90 : decode cX8_strike 90 = .ok (.iaload, 1) := by decide +kernel
theorem dX8_strike_91 : decode cX8_strike 91 = .ok (.iconst 1, 1) := by decide +kernel
theorem dX8_strike_92 : decode cX8_strike 92 = .ok (.aload_n 0, 1) := by decide +kernel
theorem dX8_strike_93 : decode cX8_strike 93 = .ok (.getfield 72, 3) := by decide +kernel
theorem dX8_strike_96 : decode cX8_strike 96 = .ok (.ishl, 1) := by decide +kernel
theorem dX8_strike_97 : decode cX8_strike 97 = .ok (.iconst (-1), 1) := by decide +kernel
theorem dX8_strike_98 : decode cX8_strike 98 = .ok (.ixor, 1) := by decide +kernel
theorem dX8_strike_99 : decode cX8_strike 99 = .ok (.iand, 1) := by decide +kernel
theorem dX8_strike_100 : decode cX8_strike 100 = .ok (.iastore, 1) := by decide +kernel
theorem dX8_strike_101 : decode cX8_strike 101 = .ok (.aload_n 0, 1) := by decide +kernel
theorem dX8_strike_102 : decode cX8_strike 102 = .ok (.iconst 0, 1) := by decide +kernel
theorem dX8_strike_103 : decode cX8_strike 103 = .ok (.putfield 96, 3) := by decide +kernel
theorem dX8_strike_106 : decode cX8_strike 106 = .ok (.aload_n 0, 1) := by decide +kernel
theorem dX8_strike_107 : decode cX8_strike 107 = .ok (.getfield 72, 3) := by decide +kernel
theorem dX8_strike_110 : decode cX8_strike 110 = .ok (.ireturn, 1) := by decide +kernel
theorem dX8_truth_0 : decode cX8_truth 0 = .ok (.bipush 60, 2) := by decide +kernel
theorem dX8_truth_2 : decode cX8_truth 2 = .ok (.aload_n 0, 1) := by decide +kernel
theorem dX8_truth_3 : decode cX8_truth 3 = .ok (.getfield 7, 3) := by decide +kernel
theorem dX8_truth_6 : decode cX8_truth 6 = .ok (.bipush 60, 2) := by decide +kernel
theorem dX8_truth_8 : decode cX8_truth 8 = .ok (.iaload, 1) := by decide +kernel
theorem dX8_truth_9 : decode cX8_truth 9 = .ok (.imul, 1) := by decide +kernel
theorem dX8_truth_10 : decode cX8_truth 10 = .ok (.sipush 720, 3) := by decide +kernel
theorem dX8_truth_13 : decode cX8_truth 13 = .ok (.irem, 1) := by decide +kernel
theorem dX8_truth_14 : decode cX8_truth 14 = .ok (.ireturn, 1) := by decide +kernel
theorem dX8_shownBy_0 : decode cX8_shownBy 0 = .ok (.iload_n 1, 1) := by decide +kernel
theorem dX8_shownBy_1 : decode cX8_shownBy 1 = .ok (.istore_n 2, 1) := by decide +kernel
theorem dX8_shownBy_2 : decode cX8_shownBy 2 = .ok (.iload_n 2, 1) := by decide +kernel
theorem dX8_shownBy_3 : decode cX8_shownBy 3 = .ok (.ifCond .le 19, 3) := by decide +kernel
theorem dX8_shownBy_6 : decode cX8_shownBy 6 = .ok (.aload_n 0, 1) := by decide +kernel
theorem dX8_shownBy_7 : decode cX8_shownBy 7 = .ok (.getfield 13, 3) := by decide +kernel
theorem dX8_shownBy_10 : decode cX8_shownBy 10 = .ok (.iload_n 2, 1) := by decide +kernel
theorem dX8_shownBy_11 : decode cX8_shownBy 11 = .ok (.iaload, 1) := by decide +kernel
theorem dX8_shownBy_12 : decode cX8_shownBy 12 = .ok (.iconst 4, 1) := by decide +kernel
theorem dX8_shownBy_13 : decode cX8_shownBy 13 = .ok (.if_icmp .ne 9, 3) := by decide +kernel
theorem dX8_shownBy_16 : decode cX8_shownBy 16 = .ok (.iinc 2 (-1), 3) := by decide +kernel
theorem dX8_shownBy_19 : decode cX8_shownBy 19 = .ok (.goto (-17), 3) := by decide +kernel
theorem dX8_shownBy_22 : decode cX8_shownBy 22 = .ok (.aload_n 0, 1) := by decide +kernel
theorem dX8_shownBy_23 : decode cX8_shownBy 23 = .ok (.getfield 13, 3) := by decide +kernel
theorem dX8_shownBy_26 : decode cX8_shownBy 26 = .ok (.iload_n 2, 1) := by decide +kernel
theorem dX8_shownBy_27 : decode cX8_shownBy 27 = .ok (.iaload, 1) := by decide +kernel
theorem dX8_shownBy_28 : decode cX8_shownBy 28 = .ok (.iconst 3, 1) := by decide +kernel
theorem dX8_shownBy_29 : decode cX8_shownBy 29 = .ok (.if_icmp .ne 10, 3) := by decide +kernel
theorem dX8_shownBy_32 : decode cX8_shownBy 32 = .ok (.aload_n 0, 1) := by decide +kernel
theorem dX8_shownBy_33 : decode cX8_shownBy 33 = .ok (.invokevirtual 99, 3) := by decide +kernel
theorem dX8_shownBy_36 : decode cX8_shownBy 36 = .ok (.goto 12, 3) := by decide +kernel
theorem dX8_shownBy_39 : decode cX8_shownBy 39 = .ok (.aload_n 0, 1) := by decide +kernel
theorem dX8_shownBy_40 : decode cX8_shownBy 40 = .ok (.getfield 7, 3) := by decide +kernel
theorem dX8_shownBy_43 : decode cX8_shownBy 43 = .ok (.bipush 24, 2) := by decide +kernel
theorem dX8_shownBy_45 : decode cX8_shownBy 45 = .ok (.iload_n 2, 1) := by decide +kernel
theorem dX8_shownBy_46 : decode cX8_shownBy 46 = .ok (.iadd, 1) := by decide +kernel
theorem dX8_shownBy_47 : decode cX8_shownBy 47 = .ok (.iaload, 1) := by decide +kernel
theorem dX8_shownBy_48 : decode cX8_shownBy 48 = .ok (.ireturn, 1) := by decide +kernel
theorem dX8_strikes_0 : decode cX8_strikes 0 = .ok (.aload_n 0, 1) := by decide +kernel
theorem dX8_strikes_1 : decode cX8_strikes 1 = .ok (.iload_n 1, 1) := by decide +kernel
theorem dX8_strikes_2 : decode cX8_strikes 2 = .ok (.invokevirtual 103, 3) := by decide +kernel
theorem dX8_strikes_5 : decode cX8_strikes 5 = .ok (.bipush 60, 2) := by decide +kernel
theorem dX8_strikes_7 : decode cX8_strikes 7 = .ok (.idiv, 1) := by decide +kernel
theorem dX8_strikes_8 : decode cX8_strikes 8 = .ok (.ireturn, 1) := by decide +kernel
theorem dX8_strokesOf_0 : decode cX8_strokesOf 0 = .ok (.iload_n 0, 1) := by decide +kernel
theorem dX8_strokesOf_1 : decode cX8_strokesOf 1 = .ok (.ifCond .ne 8, 3) := by decide +kernel
theorem dX8_strokesOf_4 : decode cX8_strokesOf 4 = .ok (.bipush 12, 2) := by decide +kernel
theorem dX8_strokesOf_6 : decode cX8_strokesOf 6 = .ok (.goto 4, 3) := by decide +kernel
theorem dX8_strokesOf_9 : decode cX8_strokesOf 9 = .ok (.iload_n 0, 1) := by decide +kernel
theorem dX8_strokesOf_10 : decode cX8_strokesOf 10 = .ok (.ireturn, 1) := by decide +kernel
theorem dX8_told_0 : decode cX8_told 0 = .ok (.aload_n 0, 1) := by decide +kernel
theorem dX8_told_1 : decode cX8_told 1 = .ok (.iload_n 1, 1) := by decide +kernel
theorem dX8_told_2 : decode cX8_told 2 = .ok (.invokevirtual 107, 3) := by decide +kernel
theorem dX8_told_5 : decode cX8_told 5 = .ok (.ifCond .ne 5, 3) := by decide +kernel
theorem dX8_told_8 : decode cX8_told 8 = .ok (.iconst (-1), 1) := by decide +kernel
theorem dX8_told_9 : decode cX8_told 9 = .ok (.ireturn, 1) := by decide +kernel
theorem dX8_told_10 : decode cX8_told 10 = .ok (.iload_n 2, 1) := by decide +kernel
theorem dX8_told_11 : decode cX8_told 11 = .ok (.tableswitch 100 0 6 #[41, 48, 58, 68, 78, 88, 94], 41) := by decide +kernel
theorem dX8_told_52 : decode cX8_told 52 = .ok (.aload_n 0, 1) := by decide +kernel
theorem dX8_told_53 : decode cX8_told 53 = .ok (.getfield 13, 3) := by decide +kernel
theorem dX8_told_56 : decode cX8_told 56 = .ok (.iload_n 1, 1) := by decide +kernel
theorem dX8_told_57 : decode cX8_told 57 = .ok (.iaload, 1) := by decide +kernel
theorem dX8_told_58 : decode cX8_told 58 = .ok (.ireturn, 1) := by decide +kernel
theorem dX8_told_59 : decode cX8_told 59 = .ok (.aload_n 0, 1) := by decide +kernel
theorem dX8_told_60 : decode cX8_told 60 = .ok (.getfield 7, 3) := by decide +kernel
theorem dX8_told_63 : decode cX8_told 63 = .ok (.bipush 24, 2) := by decide +kernel
theorem dX8_told_65 : decode cX8_told 65 = .ok (.iload_n 1, 1) := by decide +kernel
theorem dX8_told_66 : decode cX8_told 66 = .ok (.iadd, 1) := by decide +kernel
theorem dX8_told_67 : decode cX8_told 67 = .ok (.iaload, 1) := by decide +kernel
theorem dX8_told_68 : decode cX8_told 68 = .ok (.ireturn, 1) := by decide +kernel
theorem dX8_told_69 : decode cX8_told 69 = .ok (.aload_n 0, 1) := by decide +kernel
theorem dX8_told_70 : decode cX8_told 70 = .ok (.getfield 7, 3) := by decide +kernel
theorem dX8_told_73 : decode cX8_told 73 = .ok (.bipush 33, 2) := by decide +kernel
theorem dX8_told_75 : decode cX8_told 75 = .ok (.iload_n 1, 1) := by decide +kernel
theorem dX8_told_76 : decode cX8_told 76 = .ok (.iadd, 1) := by decide +kernel
theorem dX8_told_77 : decode cX8_told 77 = .ok (.iaload, 1) := by decide +kernel
theorem dX8_told_78 : decode cX8_told 78 = .ok (.ireturn, 1) := by decide +kernel
theorem dX8_told_79 : decode cX8_told 79 = .ok (.aload_n 0, 1) := by decide +kernel
theorem dX8_told_80 : decode cX8_told 80 = .ok (.getfield 7, 3) := by decide +kernel
theorem dX8_told_83 : decode cX8_told 83 = .ok (.bipush 42, 2) := by decide +kernel
theorem dX8_told_85 : decode cX8_told 85 = .ok (.iload_n 1, 1) := by decide +kernel
theorem dX8_told_86 : decode cX8_told 86 = .ok (.iadd, 1) := by decide +kernel
theorem dX8_told_87 : decode cX8_told 87 = .ok (.iaload, 1) := by decide +kernel
theorem dX8_told_88 : decode cX8_told 88 = .ok (.ireturn, 1) := by decide +kernel
theorem dX8_told_89 : decode cX8_told 89 = .ok (.aload_n 0, 1) := by decide +kernel
theorem dX8_told_90 : decode cX8_told 90 = .ok (.getfield 7, 3) := by decide +kernel
theorem dX8_told_93 : decode cX8_told 93 = .ok (.bipush 51, 2) := by decide +kernel
theorem dX8_told_95 : decode cX8_told 95 = .ok (.iload_n 1, 1) := by decide +kernel
theorem dX8_told_96 : decode cX8_told 96 = .ok (.iadd, 1) := by decide +kernel
theorem dX8_told_97 : decode cX8_told 97 = .ok (.iaload, 1) := by decide +kernel
theorem dX8_told_98 : decode cX8_told 98 = .ok (.ireturn, 1) := by decide +kernel
theorem dX8_told_99 : decode cX8_told 99 = .ok (.aload_n 0, 1) := by decide +kernel
theorem dX8_told_100 : decode cX8_told 100 = .ok (.iload_n 1, 1) := by decide +kernel
theorem dX8_told_101 : decode cX8_told 101 = .ok (.invokevirtual 103, 3) := by decide +kernel
theorem dX8_told_104 : decode cX8_told 104 = .ok (.ireturn, 1) := by decide +kernel
theorem dX8_told_105 : decode cX8_told 105 = .ok (.aload_n 0, 1) := by decide +kernel
theorem dX8_told_106 : decode cX8_told 106 = .ok (.iload_n 1, 1) := by decide +kernel
theorem dX8_told_107 : decode cX8_told 107 = .ok (.invokevirtual 111, 3) := by decide +kernel
theorem dX8_told_110 : decode cX8_told 110 = .ok (.ireturn, 1) := by decide +kernel
theorem dX8_told_111 : decode cX8_told 111 = .ok (.iconst (-1), 1) := by decide +kernel
theorem dX8_told_112 : decode cX8_told 112 = .ok (.ireturn, 1) := by decide +kernel
theorem dX8_rate_0 : decode cX8_rate 0 = .ok (.aload_n 0, 1) := by decide +kernel
theorem dX8_rate_1 : decode cX8_rate 1 = .ok (.iload_n 1, 1) := by decide +kernel
theorem dX8_rate_2 : decode cX8_rate 2 = .ok (.invokevirtual 107, 3) := by decide +kernel
theorem dX8_rate_5 : decode cX8_rate 5 = .ok (.ifCond .eq 12, 3) := by decide +kernel
theorem dX8_rate_8 : decode cX8_rate 8 = .ok (.aload_n 0, 1) := by decide +kernel
theorem dX8_rate_9 : decode cX8_rate 9 = .ok (.getfield 16, 3) := by decide +kernel
theorem dX8_rate_12 : decode cX8_rate 12 = .ok (.iload_n 1, 1) := by decide +kernel
theorem dX8_rate_13 : decode cX8_rate 13 = .ok (.iaload, 1) := by decide +kernel
theorem dX8_rate_14 : decode cX8_rate 14 = .ok (.goto 6, 3) := by decide +kernel
theorem dX8_rate_17 : decode cX8_rate 17 = .ok (.sipush (-1001), 3) := by decide +kernel
theorem dX8_rate_20 : decode cX8_rate 20 = .ok (.ireturn, 1) := by decide +kernel
theorem dX8_dial_0 : decode cX8_dial 0 = .ok (.aload_n 0, 1) := by decide +kernel
theorem dX8_dial_1 : decode cX8_dial 1 = .ok (.iload_n 1, 1) := by decide +kernel
theorem dX8_dial_2 : decode cX8_dial 2 = .ok (.invokevirtual 114, 3) := by decide +kernel
theorem dX8_dial_5 : decode cX8_dial 5 = .ok (.ifCond .eq 12, 3) := by decide +kernel
theorem dX8_dial_8 : decode cX8_dial 8 = .ok (.aload_n 0, 1) := by decide +kernel
theorem dX8_dial_9 : decode cX8_dial 9 = .ok (.getfield 7, 3) := by decide +kernel
theorem dX8_dial_12 : decode cX8_dial 12 = .ok (.iload_n 1, 1) := by decide +kernel
theorem dX8_dial_13 : decode cX8_dial 13 = .ok (.iaload, 1) := by decide +kernel
theorem dX8_dial_14 : decode cX8_dial 14 = .ok (.goto 4, 3) := by decide +kernel
theorem dX8_dial_17 : decode cX8_dial 17 = .ok (.iconst (-1), 1) := by decide +kernel
theorem dX8_dial_18 : decode cX8_dial 18 = .ok (.ireturn, 1) := by decide +kernel
theorem dX8_paint_0 : decode cX8_paint 0 = .ok (.aload_n 0, 1) := by decide +kernel
theorem dX8_paint_1 : decode cX8_paint 1 = .ok (.iload_n 1, 1) := by decide +kernel
theorem dX8_paint_2 : decode cX8_paint 2 = .ok (.invokevirtual 114, 3) := by decide +kernel
theorem dX8_paint_5 : decode cX8_paint 5 = .ok (.ifCond .eq 15, 3) := by decide +kernel
theorem dX8_paint_8 : decode cX8_paint 8 = .ok (.iload_n 2, 1) := by decide +kernel
theorem dX8_paint_9 : decode cX8_paint 9 = .ok (.i2l, 1) := by decide +kernel
theorem dX8_paint_10 : decode cX8_paint 10 = .ok (.lconst 0, 1) := by decide +kernel
theorem dX8_paint_11 : decode cX8_paint 11 = .ok (.ldc2_w 117, 3) := by decide +kernel
theorem dX8_paint_14 : decode cX8_paint 14 = .ok (.invokestatic 75, 3) := by decide +kernel
theorem dX8_paint_17 : decode cX8_paint 17 = .ok (.ifCond .ne 5, 3) := by decide +kernel
theorem dX8_paint_20 : decode cX8_paint 20 = .ok (.iconst (-1), 1) := by decide +kernel
theorem dX8_paint_21 : decode cX8_paint 21 = .ok (.ireturn, 1) := by decide +kernel
theorem dX8_paint_22 : decode cX8_paint 22 = .ok (.aload_n 0, 1) := by decide +kernel
theorem dX8_paint_23 : decode cX8_paint 23 = .ok (.getfield 7, 3) := by decide +kernel
theorem dX8_paint_26 : decode cX8_paint 26 = .ok (.iload_n 1, 1) := by decide +kernel
theorem dX8_paint_27 : decode cX8_paint 27 = .ok (.iaload, 1) := by decide +kernel
theorem dX8_paint_28 : decode cX8_paint 28 = .ok (.istore_n 3, 1) := by decide +kernel
theorem dX8_paint_29 : decode cX8_paint 29 = .ok (.aload_n 0, 1) := by decide +kernel
theorem dX8_paint_30 : decode cX8_paint 30 = .ok (.getfield 7, 3) := by decide +kernel
theorem dX8_paint_33 : decode cX8_paint 33 = .ok (.iload_n 1, 1) := by decide +kernel
theorem dX8_paint_34 : decode cX8_paint 34 = .ok (.iload_n 2, 1) := by decide +kernel
theorem dX8_paint_35 : decode cX8_paint 35 = .ok (.iastore, 1) := by decide +kernel
theorem dX8_paint_36 : decode cX8_paint 36 = .ok (.iload_n 3, 1) := by decide +kernel
theorem dX8_paint_37 : decode cX8_paint 37 = .ok (.ireturn, 1) := by decide +kernel
theorem dX8_weather_0 : decode cX8_weather 0 = .ok (.iload_n 1, 1) := by decide +kernel
theorem dX8_weather_1 : decode cX8_weather 1 = .ok (.i2l, 1) := by decide +kernel
theorem dX8_weather_2 : decode cX8_weather 2 = .ok (.lconst 0, 1) := by decide +kernel
theorem dX8_weather_3 : decode cX8_weather 3 = .ok (.ldc2_w 119, 3) := by decide +kernel
theorem dX8_weather_6 : decode cX8_weather 6 = .ok (.invokestatic 75, 3) := by decide +kernel
theorem dX8_weather_9 : decode cX8_weather 9 = .ok (.ifCond .eq 17, 3) := by decide +kernel
theorem dX8_weather_12 : decode cX8_weather 12 = .ok (.aload_n 0, 1) := by decide +kernel
theorem dX8_weather_13 : decode cX8_weather 13 = .ok (.getfield 23, 3) := by decide +kernel
theorem dX8_weather_16 : decode cX8_weather 16 = .ok (.iload_n 1, 1) := by decide +kernel
theorem dX8_weather_17 : decode cX8_weather 17 = .ok (.aload_n 0, 1) := by decide +kernel
theorem dX8_weather_18 : decode cX8_weather 18 = .ok (.getfield 26, 3) := by decide +kernel
theorem dX8_weather_21 : decode cX8_weather 21 = .ok (.irem, 1) := by decide +kernel
theorem dX8_weather_22 : decode cX8_weather 22 = .ok (.iaload, 1) := by decide +kernel
theorem dX8_weather_23 : decode cX8_weather 23 = .ok (.goto 4, 3) := by decide +kernel
theorem dX8_weather_26 : decode cX8_weather 26 = .ok (.iconst (-1), 1) := by decide +kernel
theorem dX8_weather_27 : decode cX8_weather 27 = .ok (.ireturn, 1) := by decide +kernel
theorem dX8_type_0 : decode cX8_type 0 = .ok (.iload_n 1, 1) := by decide +kernel
theorem dX8_type_1 : decode cX8_type 1 = .ok (.i2l, 1) := by decide +kernel
theorem dX8_type_2 : decode cX8_type 2 = .ok (.ldc2_w 121, 3) := by decide +kernel
theorem dX8_type_5 : decode cX8_type 5 = .ok (.ldc2_w 123, 3) := by decide +kernel
theorem dX8_type_8 : decode cX8_type 8 = .ok (.invokestatic 75, 3) := by decide +kernel
theorem dX8_type_11 : decode cX8_type 11 = .ok (.ifCond .ne 5, 3) := by decide +kernel
theorem dX8_type_14 : decode cX8_type 14 = .ok (.iconst (-1), 1) := by decide +kernel
theorem dX8_type_15 : decode cX8_type 15 = .ok (.ireturn, 1) := by decide +kernel
theorem dX8_type_16 : decode cX8_type 16 = .ok (.aload_n 0, 1) := by decide +kernel
theorem dX8_type_17 : decode cX8_type 17 = .ok (.getfield 125, 3) := by decide +kernel
theorem dX8_type_20 : decode cX8_type 20 = .ok (.sipush 160, 3) := by decide +kernel
theorem dX8_type_23 : decode cX8_type 23 = .ok (.if_icmp .ne 6, 3) := by decide +kernel
theorem dX8_type_26 : decode cX8_type 26 = .ok (.bipush (-3), 2) := by decide +kernel
theorem dX8_type_28 : decode cX8_type 28 = .ok (.ireturn, 1) := by decide +kernel
theorem dX8_type_29 : decode cX8_type 29 = .ok (.aload_n 0, 1) := by decide +kernel
theorem dX8_type_30 : decode cX8_type 30 = .ok (.getfield 44, 3) := by decide +kernel
theorem dX8_type_33 : decode cX8_type 33 = .ok (.aload_n 0, 1) := by decide +kernel
theorem dX8_type_34 : decode cX8_type 34 = .ok (.getfield 125, 3) := by decide +kernel
theorem dX8_type_37 : decode cX8_type 37 = .ok (.iload_n 1, 1) := by decide +kernel
theorem dX8_type_38 : decode cX8_type 38 = .ok (.iastore, 1) := by decide +kernel
theorem dX8_type_39 : decode cX8_type 39 = .ok (.aload_n 0, 1) := by decide +kernel
theorem dX8_type_40 : decode cX8_type 40 = .ok (.dup, 1) := by decide +kernel
theorem dX8_type_41 : decode cX8_type 41 = .ok (.getfield 125, 3) := by decide +kernel
theorem dX8_type_44 : decode cX8_type 44 = .ok (.iconst 1, 1) := by decide +kernel
theorem dX8_type_45 : decode cX8_type 45 = .ok (.iadd, 1) := by decide +kernel
theorem dX8_type_46 : decode cX8_type 46 = .ok (.putfield 125, 3) := by decide +kernel
theorem dX8_type_49 : decode cX8_type 49 = .ok (.aload_n 0, 1) := by decide +kernel
theorem dX8_type_50 : decode cX8_type 50 = .ok (.getfield 125, 3) := by decide +kernel
theorem dX8_type_53 : decode cX8_type 53 = .ok (.ireturn, 1) := by decide +kernel
theorem dX8_nextLetter_0 : decode cX8_nextLetter 0 = .ok (.aload_n 0, 1) := by decide +kernel
theorem dX8_nextLetter_1 : decode cX8_nextLetter 1 = .ok (.getfield 128, 3) := by decide +kernel
theorem dX8_nextLetter_4 : decode cX8_nextLetter 4 = .ok (.aload_n 0, 1) := by decide +kernel
theorem dX8_nextLetter_5 : decode cX8_nextLetter 5 = .ok (.getfield 125, 3) := by decide +kernel
theorem dX8_nextLetter_8 : decode cX8_nextLetter 8 = .ok (.if_icmp .ge 30, 3) := by decide +kernel
theorem dX8_nextLetter_11 : decode cX8_nextLetter 11 = .ok (.aload_n 0, 1) := by decide +kernel
theorem dX8_nextLetter_12 : decode cX8_nextLetter 12 = .ok (.getfield 44, 3) := by decide +kernel
theorem dX8_nextLetter_15 : decode cX8_nextLetter 15 = .ok (.aload_n 0, 1) := by decide +kernel
theorem dX8_nextLetter_16 : decode cX8_nextLetter 16 = .ok (.getfield 128, 3) := by decide +kernel
theorem dX8_nextLetter_19 : decode cX8_nextLetter 19 = .ok (.iaload, 1) := by decide +kernel
theorem dX8_nextLetter_20 : decode cX8_nextLetter 20 = .ok (.bipush 32, 2) := by decide +kernel
theorem dX8_nextLetter_22 : decode cX8_nextLetter 22 = .ok (.if_icmp .ne 16, 3) := by decide +kernel
theorem dX8_nextLetter_25 : decode cX8_nextLetter 25 = .ok (.aload_n 0, 1) := by decide +kernel
theorem dX8_nextLetter_26 : decode cX8_nextLetter 26 = .ok (.dup, 1) := by decide +kernel
theorem dX8_nextLetter_27 : decode cX8_nextLetter 27 = .ok (.getfield 128, 3) := by decide +kernel
theorem dX8_nextLetter_30 : decode cX8_nextLetter 30 = .ok (.iconst 1, 1) := by decide +kernel
theorem dX8_nextLetter_31 : decode cX8_nextLetter 31 = .ok (.iadd, 1) := by decide +kernel
theorem dX8_nextLetter_32 : decode cX8_nextLetter 32 = .ok (.putfield 128, 3) := by decide +kernel
theorem dX8_nextLetter_35 : decode cX8_nextLetter 35 = .ok (.goto (-35), 3) := by decide +kernel
theorem dX8_nextLetter_38 : decode cX8_nextLetter 38 = .ok (.aload_n 0, 1) := by decide +kernel
theorem dX8_nextLetter_39 : decode cX8_nextLetter 39 = .ok (.getfield 128, 3) := by decide +kernel
theorem dX8_nextLetter_42 : decode cX8_nextLetter 42 = .ok (.aload_n 0, 1) := by decide +kernel
theorem dX8_nextLetter_43 : decode cX8_nextLetter 43 = .ok (.getfield 125, 3) := by decide +kernel
theorem dX8_nextLetter_46 : decode cX8_nextLetter 46 = .ok (.if_icmp .ge 15, 3) := by decide +kernel
theorem dX8_nextLetter_49 : decode cX8_nextLetter 49 = .ok (.aload_n 0, 1) := by decide +kernel
theorem dX8_nextLetter_50 : decode cX8_nextLetter 50 = .ok (.getfield 44, 3) := by decide +kernel
theorem dX8_nextLetter_53 : decode cX8_nextLetter 53 = .ok (.aload_n 0, 1) := by decide +kernel
theorem dX8_nextLetter_54 : decode cX8_nextLetter 54 = .ok (.getfield 128, 3) := by decide +kernel
theorem dX8_nextLetter_57 : decode cX8_nextLetter 57 = .ok (.iaload, 1) := by decide +kernel
theorem dX8_nextLetter_58 : decode cX8_nextLetter 58 = .ok (.goto 4, 3) := by decide +kernel
theorem dX8_nextLetter_61 : decode cX8_nextLetter 61 = .ok (.iconst (-1), 1) := by decide +kernel
theorem dX8_nextLetter_62 : decode cX8_nextLetter 62 = .ok (.ireturn, 1) := by decide +kernel
theorem dX8_takes_0 : decode cX8_takes 0 = .ok (.aload_n 0, 1) := by decide +kernel
theorem dX8_takes_1 : decode cX8_takes 1 = .ok (.invokevirtual 131, 3) := by decide +kernel
theorem dX8_takes_4 : decode cX8_takes 4 = .ok (.iload_n 1, 1) := by decide +kernel
theorem dX8_takes_5 : decode cX8_takes 5 = .ok (.if_icmp .ne 7, 3) := by decide +kernel
theorem dX8_takes_8 : decode cX8_takes 8 = .ok (.iconst 1, 1) := by decide +kernel
theorem dX8_takes_9 : decode cX8_takes 9 = .ok (.goto 4, 3) := by decide +kernel
theorem dX8_takes_12 : decode cX8_takes 12 = .ok (.iconst 0, 1) := by decide +kernel
theorem dX8_takes_13 : decode cX8_takes 13 = .ok (.istore_n 2, 1) := by decide +kernel
theorem dX8_takes_14 : decode cX8_takes 14 = .ok (.aload_n 0, 1) := by decide +kernel
theorem dX8_takes_15 : decode cX8_takes 15 = .ok (.dup, 1) := by decide +kernel
theorem dX8_takes_16 : decode cX8_takes 16 = .ok (.getfield 128, 3) := by decide +kernel
theorem dX8_takes_19 : decode cX8_takes 19 = .ok (.iload_n 2, 1) := by decide +kernel
theorem dX8_takes_20 : decode cX8_takes 20 = .ok (.ifCond .eq 7, 3) := by decide +kernel
theorem dX8_takes_23 : decode cX8_takes 23 = .ok (.iconst 1, 1) := by decide +kernel
theorem dX8_takes_24 : decode cX8_takes 24 = .ok (.goto 4, 3) := by decide +kernel
theorem dX8_takes_27 : decode cX8_takes 27 = .ok (.iconst 0, 1) := by decide +kernel
theorem dX8_takes_28 : decode cX8_takes 28 = .ok (.iadd, 1) := by decide +kernel
theorem dX8_takes_29 : decode cX8_takes 29 = .ok (.putfield 128, 3) := by decide +kernel
theorem dX8_takes_32 : decode cX8_takes 32 = .ok (.iload_n 2, 1) := by decide +kernel
theorem dX8_takes_33 : decode cX8_takes 33 = .ok (.ireturn, 1) := by decide +kernel
theorem dX8_readNumber_0 : decode cX8_readNumber 0 = .ok (.aload_n 0, 1) := by decide +kernel
theorem dX8_readNumber_1 : decode cX8_readNumber 1 = .ok (.invokevirtual 131, 3) := by decide +kernel
theorem dX8_readNumber_4 : decode cX8_readNumber 4 = .ok (.pop, 1) := by decide +kernel
theorem dX8_readNumber_5 : decode cX8_readNumber 5 = .ok (.aload_n 0, 1) := by decide +kernel
theorem dX8_readNumber_6 : decode cX8_readNumber 6 = .ok (.getfield 128, 3) := by decide +kernel
theorem dX8_readNumber_9 : decode cX8_readNumber 9 = .ok (.istore_n 3, 1) := by decide +kernel
theorem dX8_readNumber_10 : decode cX8_readNumber 10 = .ok (.iconst 0, 1) := by decide +kernel
theorem dX8_readNumber_11 : decode cX8_readNumber 11 = .ok (.istore 4, 2) := by decide +kernel
theorem dX8_readNumber_13 : decode cX8_readNumber 13 = .ok (.aload_n 0, 1) := by decide +kernel
theorem dX8_readNumber_14 : decode cX8_readNumber 14 = .ok (.getfield 128, 3) := by decide +kernel
theorem dX8_readNumber_17 : decode cX8_readNumber 17 = .ok (.aload_n 0, 1) := by decide +kernel
theorem dX8_readNumber_18 : decode cX8_readNumber 18 = .ok (.getfield 125, 3) := by decide +kernel
theorem dX8_readNumber_21 : decode cX8_readNumber 21 = .ok (.if_icmp .ge 70, 3) := by decide +kernel
theorem dX8_readNumber_24 : decode cX8_readNumber 24 = .ok (.aload_n 0, 1) := by decide +kernel
theorem dX8_readNumber_25 : decode cX8_readNumber 25 = .ok (.getfield 44, 3) := by decide +kernel
theorem dX8_readNumber_28 : decode cX8_readNumber 28 = .ok (.aload_n 0, 1) := by decide +kernel
theorem dX8_readNumber_29 : decode cX8_readNumber 29 = .ok (.getfield 128, 3) := by decide +kernel
theorem dX8_readNumber_32 : decode cX8_readNumber 32 = .ok (.iaload, 1) := by decide +kernel
theorem dX8_readNumber_33 : decode cX8_readNumber 33 = .ok (.i2l, 1) := by decide +kernel
theorem dX8_readNumber_34 : decode cX8_readNumber 34 = .ok (.ldc2_w 134, 3) := by decide +kernel
theorem dX8_readNumber_37 : decode cX8_readNumber 37 = .ok (.ldc2_w 136, 3) := by decide +kernel
theorem dX8_readNumber_40 : decode cX8_readNumber 40 = .ok (.invokestatic 75, 3) := by decide +kernel
theorem dX8_readNumber_43 : decode cX8_readNumber 43 = .ok (.ifCond .eq 48, 3) := by decide +kernel
theorem dX8_readNumber_46 : decode cX8_readNumber 46 = .ok (.iload 4, 2) := by decide +kernel
theorem dX8_readNumber_48 : decode cX8_readNumber 48 = .ok (.ldc 138, 2) := by decide +kernel
theorem dX8_readNumber_50 : decode cX8_readNumber 50 = .ok (.if_icmp .le 8, 3) := by decide +kernel
theorem dX8_readNumber_53 : decode cX8_readNumber 53 = .ok (.iload 4, 2) := by decide +kernel
theorem dX8_readNumber_55 : decode cX8_readNumber 55 = .ok (.goto 21, 3) := by decide +kernel
theorem dX8_readNumber_58 : decode cX8_readNumber 58 = .ok (.bipush 10, 2) := by decide +kernel
theorem dX8_readNumber_60 : decode cX8_readNumber 60 = .ok (.iload 4, 2) := by decide +kernel
theorem dX8_readNumber_62 : decode cX8_readNumber 62 = .ok (.imul, 1) := by decide +kernel
theorem dX8_readNumber_63 : decode cX8_readNumber 63 = .ok (.aload_n 0, 1) := by decide +kernel
theorem dX8_readNumber_64 : decode cX8_readNumber 64 = .ok (.getfield 44, 3) := by decide +kernel
theorem dX8_readNumber_67 : decode cX8_readNumber 67 = .ok (.aload_n 0, 1) := by decide +kernel
theorem dX8_readNumber_68 : decode cX8_readNumber 68 = .ok (.getfield 128, 3) := by decide +kernel
theorem dX8_readNumber_71 : decode cX8_readNumber 71 = .ok (.iaload, 1) := by decide +kernel
theorem dX8_readNumber_72 : decode cX8_readNumber 72 = .ok (.iadd, 1) := by decide +kernel
theorem dX8_readNumber_73 : decode cX8_readNumber 73 = .ok (.bipush 48, 2) := by decide +kernel
theorem dX8_readNumber_75 : decode cX8_readNumber 75 = .ok (.isub, 1) := by decide +kernel
theorem dX8_readNumber_76 : decode cX8_readNumber 76 = .ok (.istore 4, 2) := by decide +kernel
theorem dX8_readNumber_78 : decode cX8_readNumber 78 = .ok (.aload_n 0, 1) := by decide +kernel
theorem dX8_readNumber_79 : decode cX8_readNumber 79 = .ok (.dup, 1) := by decide +kernel
theorem dX8_readNumber_80 : decode cX8_readNumber 80 = .ok (.getfield 128, 3) := by decide +kernel
theorem dX8_readNumber_83 : decode cX8_readNumber 83 = .ok (.iconst 1, 1) := by decide +kernel
theorem dX8_readNumber_84 : decode cX8_readNumber 84 = .ok (.iadd, 1) := by decide +kernel
theorem dX8_readNumber_85 : decode cX8_readNumber 85 = .ok (.putfield 128, 3) := by decide +kernel
theorem dX8_readNumber_88 : decode cX8_readNumber 88 = .ok (.goto (-75), 3) := by decide +kernel
theorem dX8_readNumber_91 : decode cX8_readNumber 91 = .ok (.aload_n 0, 1) := by decide +kernel
theorem dX8_readNumber_92 : decode cX8_readNumber 92 = .ok (.getfield 128, 3) := by decide +kernel
theorem dX8_readNumber_95 : decode cX8_readNumber 95 = .ok (.iload_n 3, 1) := by decide +kernel
theorem dX8_readNumber_96 : decode cX8_readNumber 96 = .ok (.if_icmp .ne 5, 3) := by decide +kernel
theorem dX8_readNumber_99 : decode cX8_readNumber 99 = .ok (.iconst (-1), 1) := by decide +kernel
theorem dX8_readNumber_100 : decode cX8_readNumber 100 = .ok (.ireturn, 1) := by decide +kernel
theorem dX8_readNumber_101 : decode cX8_readNumber 101 = .ok (.iload 4, 2) := by decide +kernel
theorem dX8_readNumber_103 : decode cX8_readNumber 103 = .ok (.i2l, 1) := by decide +kernel
theorem dX8_readNumber_104 : decode cX8_readNumber 104 = .ok (.iload_n 1, 1) := by decide +kernel
theorem dX8_readNumber_105 : decode cX8_readNumber 105 = .ok (.i2l, 1) := by decide +kernel
theorem dX8_readNumber_106 : decode cX8_readNumber 106 = .ok (.iload_n 2, 1) := by decide +kernel
theorem dX8_readNumber_107 : decode cX8_readNumber 107 = .ok (.i2l, 1) := by decide +kernel
theorem dX8_readNumber_108 : decode cX8_readNumber 108 = .ok (.invokestatic 75, 3) := by decide +kernel
theorem dX8_readNumber_111 : decode cX8_readNumber 111 = .ok (.ifCond .ne 10, 3) := by decide +kernel
theorem dX8_readNumber_114 : decode cX8_readNumber 114 = .ok (.aload_n 0, 1) := by decide +kernel
theorem dX8_readNumber_115 : decode cX8_readNumber 115 = .ok (.iload_n 3, 1) := by decide +kernel
theorem dX8_readNumber_116 : decode cX8_readNumber 116 = .ok (.putfield 128, 3) := by decide +kernel
theorem dX8_readNumber_119 : decode cX8_readNumber 119 = .ok (.iconst (-1), 1) := by decide +kernel
theorem dX8_readNumber_120 : decode cX8_readNumber 120 = .ok (.ireturn, 1) := by decide +kernel
theorem dX8_readNumber_121 : decode cX8_readNumber 121 = .ok (.iload 4, 2) := by decide +kernel
theorem dX8_readNumber_123 : decode cX8_readNumber 123 = .ok (.ireturn, 1) := by decide +kernel
theorem dX8_end_0 : decode cX8_end 0 = .ok (.iload_n 1, 1) := by decide +kernel
theorem dX8_end_1 : decode cX8_end 1 = .ok (.ifCond .ne 8, 3) := by decide +kernel
theorem dX8_end_4 : decode cX8_end 4 = .ok (.aload_n 0, 1) := by decide +kernel
theorem dX8_end_5 : decode cX8_end 5 = .ok (.invokevirtual 131, 3) := by decide +kernel
theorem dX8_end_8 : decode cX8_end 8 = .ok (.pop, 1) := by decide +kernel
theorem dX8_end_9 : decode cX8_end 9 = .ok (.aload_n 0, 1) := by decide +kernel
theorem dX8_end_10 : decode cX8_end 10 = .ok (.iconst 0, 1) := by decide +kernel
theorem dX8_end_11 : decode cX8_end 11 = .ok (.putfield 125, 3) := by decide +kernel
theorem dX8_end_14 : decode cX8_end 14 = .ok (.iload_n 1, 1) := by decide +kernel
theorem dX8_end_15 : decode cX8_end 15 = .ok (.ifCond .eq 7, 3) := by decide +kernel
theorem dX8_end_18 : decode cX8_end 18 = .ok (.iconst 0, 1) := by decide +kernel
theorem dX8_end_19 : decode cX8_end 19 = .ok (.goto 10, 3) := by decide +kernel
theorem dX8_end_22 : decode cX8_end 22 = .ok (.bipush (-20), 2) := by decide +kernel
theorem dX8_end_24 : decode cX8_end 24 = .ok (.aload_n 0, 1) := by decide +kernel
theorem dX8_end_25 : decode cX8_end 25 = .ok (.getfield 128, 3) := by decide +kernel
theorem dX8_end_28 : decode cX8_end 28 = .ok (.isub, 1) := by decide +kernel
theorem dX8_end_29 : decode cX8_end 29 = .ok (.ireturn, 1) := by decide +kernel
theorem dX8_dialOf_0 : decode cX8_dialOf 0 = .ok (.iload_n 0, 1) := by decide +kernel
theorem dX8_dialOf_1 : decode cX8_dialOf 1 = .ok (.i2l, 1) := by decide +kernel
theorem dX8_dialOf_2 : decode cX8_dialOf 2 = .ok (.ldc2_w 134, 3) := by decide +kernel
theorem dX8_dialOf_5 : decode cX8_dialOf 5 = .ok (.ldc2_w 136, 3) := by decide +kernel
theorem dX8_dialOf_8 : decode cX8_dialOf 8 = .ok (.invokestatic 75, 3) := by decide +kernel
theorem dX8_dialOf_11 : decode cX8_dialOf 11 = .ok (.ifCond .eq 10, 3) := by decide +kernel
theorem dX8_dialOf_14 : decode cX8_dialOf 14 = .ok (.iload_n 0, 1) := by decide +kernel
theorem dX8_dialOf_15 : decode cX8_dialOf 15 = .ok (.bipush 48, 2) := by decide +kernel
theorem dX8_dialOf_17 : decode cX8_dialOf 17 = .ok (.isub, 1) := by decide +kernel
theorem dX8_dialOf_18 : decode cX8_dialOf 18 = .ok (.goto 37, 3) := by decide +kernel
theorem dX8_dialOf_21 : decode cX8_dialOf 21 = .ok (.iload_n 0, 1) := by decide +kernel
theorem dX8_dialOf_22 : decode cX8_dialOf 22 = .ok (.bipush 97, 2) := by decide +kernel
theorem dX8_dialOf_24 : decode cX8_dialOf 24 = .ok (.if_icmp .ne 8, 3) := by decide +kernel
theorem dX8_dialOf_27 : decode cX8_dialOf 27 = .ok (.bipush 10, 2) := by decide +kernel
theorem dX8_dialOf_29 : decode cX8_dialOf 29 = .ok (.goto 26, 3) := by decide +kernel
theorem dX8_dialOf_32 : decode cX8_dialOf 32 = .ok (.iload_n 0, 1) := by decide +kernel
theorem dX8_dialOf_33 : decode cX8_dialOf 33 = .ok (.bipush 98, 2) := by decide +kernel
theorem dX8_dialOf_35 : decode cX8_dialOf 35 = .ok (.if_icmp .ne 8, 3) := by decide +kernel
theorem dX8_dialOf_38 : decode cX8_dialOf 38 = .ok (.bipush 11, 2) := by decide +kernel
theorem dX8_dialOf_40 : decode cX8_dialOf 40 = .ok (.goto 15, 3) := by decide +kernel
theorem dX8_dialOf_43 : decode cX8_dialOf 43 = .ok (.iload_n 0, 1) := by decide +kernel
theorem dX8_dialOf_44 : decode cX8_dialOf 44 = .ok (.bipush 45, 2) := by decide +kernel
theorem dX8_dialOf_46 : decode cX8_dialOf 46 = .ok (.if_icmp .ne 8, 3) := by decide +kernel
theorem dX8_dialOf_49 : decode cX8_dialOf 49 = .ok (.bipush 12, 2) := by decide +kernel
theorem dX8_dialOf_51 : decode cX8_dialOf 51 = .ok (.goto 4, 3) := by decide +kernel
theorem dX8_dialOf_54 : decode cX8_dialOf 54 = .ok (.iconst (-1), 1) := by decide +kernel
theorem dX8_dialOf_55 : decode cX8_dialOf 55 = .ok (.ireturn, 1) := by decide +kernel
theorem dX8_skyOf_0 : decode cX8_skyOf 0 = .ok (.iload_n 0, 1) := by decide +kernel
theorem dX8_skyOf_1 : decode cX8_skyOf 1 = .ok (.bipush 115, 2) := by decide +kernel
theorem dX8_skyOf_3 : decode cX8_skyOf 3 = .ok (.if_icmp .ne 7, 3) := by decide +kernel
theorem dX8_skyOf_6 : decode cX8_skyOf 6 = .ok (.iconst 0, 1) := by decide +kernel
theorem dX8_skyOf_7 : decode cX8_skyOf 7 = .ok (.goto 34, 3) := by decide +kernel
theorem dX8_skyOf_10 : decode cX8_skyOf 10 = .ok (.iload_n 0, 1) := by decide +kernel
theorem dX8_skyOf_11 : decode cX8_skyOf 11 = .ok (.bipush 114, 2) := by decide +kernel
theorem dX8_skyOf_13 : decode cX8_skyOf 13 = .ok (.if_icmp .ne 7, 3) := by decide +kernel
theorem dX8_skyOf_16 : decode cX8_skyOf 16 = .ok (.iconst 1, 1) := by decide +kernel
theorem dX8_skyOf_17 : decode cX8_skyOf 17 = .ok (.goto 24, 3) := by decide +kernel
theorem dX8_skyOf_20 : decode cX8_skyOf 20 = .ok (.iload_n 0, 1) := by decide +kernel
theorem dX8_skyOf_21 : decode cX8_skyOf 21 = .ok (.bipush 119, 2) := by decide +kernel
theorem dX8_skyOf_23 : decode cX8_skyOf 23 = .ok (.if_icmp .ne 7, 3) := by decide +kernel
theorem dX8_skyOf_26 : decode cX8_skyOf 26 = .ok (.iconst 2, 1) := by decide +kernel
theorem dX8_skyOf_27 : decode cX8_skyOf 27 = .ok (.goto 14, 3) := by decide +kernel
theorem dX8_skyOf_30 : decode cX8_skyOf 30 = .ok (.iload_n 0, 1) := by decide +kernel
theorem dX8_skyOf_31 : decode cX8_skyOf 31 = .ok (.bipush 110, 2) := by decide +kernel
theorem dX8_skyOf_33 : decode cX8_skyOf 33 = .ok (.if_icmp .ne 7, 3) := by decide +kernel
theorem dX8_skyOf_36 : decode cX8_skyOf 36 = .ok (.iconst 3, 1) := by decide +kernel
theorem dX8_skyOf_37 : decode cX8_skyOf 37 = .ok (.goto 4, 3) := by decide +kernel
theorem dX8_skyOf_40 : decode cX8_skyOf 40 = .ok (.iconst (-1), 1) := by decide +kernel
theorem dX8_skyOf_41 : decode cX8_skyOf 41 = .ok (.ireturn, 1) := by decide +kernel
theorem dX8_readSigns_0 : decode cX8_readSigns 0 = .ok (.aload_n 0, 1) := by decide +kernel
theorem dX8_readSigns_1 : decode cX8_readSigns 1 = .ok (.iconst 0, 1) := by decide +kernel
theorem dX8_readSigns_2 : decode cX8_readSigns 2 = .ok (.putfield 128, 3) := by decide +kernel
theorem dX8_readSigns_5 : decode cX8_readSigns 5 = .ok (.aload_n 0, 1) := by decide +kernel
theorem dX8_readSigns_6 : decode cX8_readSigns 6 = .ok (.iconst 0, 1) := by decide +kernel
theorem dX8_readSigns_7 : decode cX8_readSigns 7 = .ok (.putfield 139, 3) := by decide +kernel
theorem dX8_readSigns_10 : decode cX8_readSigns 10 = .ok (.aload_n 0, 1) := by decide +kernel
theorem dX8_readSigns_11 : decode cX8_readSigns 11 = .ok (.invokevirtual 131, 3) := by decide +kernel
theorem dX8_readSigns_14 : decode cX8_readSigns 14 = .ok (.ifCond .lt 75, 3) := by decide +kernel
theorem dX8_readSigns_17 : decode cX8_readSigns 17 = .ok (.iload_n 3, 1) := by decide +kernel
theorem dX8_readSigns_18 : decode cX8_readSigns 18 = .ok (.ifCond .eq 13, 3) := by decide +kernel
theorem dX8_readSigns_21 : decode cX8_readSigns 21 = .ok (.aload_n 0, 1) := by decide +kernel
theorem dX8_readSigns_22 : decode cX8_readSigns 22 = .ok (.invokevirtual 131, 3) := by decide +kernel
theorem dX8_readSigns_25 : decode cX8_readSigns 25 = .ok (.invokestatic 142, 3) := by decide +kernel
theorem dX8_readSigns_28 : decode cX8_readSigns 28 = .ok (.goto 10, 3) := by decide +kernel
theorem dX8_readSigns_31 : decode cX8_readSigns 31 = .ok (.aload_n 0, 1) := by decide +kernel
theorem dX8_readSigns_32 : decode cX8_readSigns 32 = .ok (.invokevirtual 131, 3) := by decide +kernel
theorem dX8_readSigns_35 : decode cX8_readSigns 35 = .ok (.invokestatic 145, 3) := by decide +kernel
theorem dX8_readSigns_38 : decode cX8_readSigns 38 = .ok (.istore 4, 2) := by decide +kernel
theorem dX8_readSigns_40 : decode cX8_readSigns 40 = .ok (.iload 4, 2) := by decide +kernel
theorem dX8_readSigns_42 : decode cX8_readSigns 42 = .ok (.ifCond .lt 11, 3) := by decide +kernel
theorem dX8_readSigns_45 : decode cX8_readSigns 45 = .ok (.aload_n 0, 1) := by decide +kernel
theorem dX8_readSigns_46 : decode cX8_readSigns 46 = .ok (.getfield 139, 3) := by decide +kernel
theorem dX8_readSigns_49 : decode cX8_readSigns 49 = .ok (.iload_n 2, 1) := by decide +kernel
theorem dX8_readSigns_50 : decode cX8_readSigns 50 = .ok (.if_icmp .ne 5, 3) := by decide +kernel
theorem dX8_readSigns_53 : decode cX8_readSigns 53 = .ok (.iconst 0, 1) := by decide +kernel
theorem dX8_readSigns_54 : decode cX8_readSigns 54 = .ok (.ireturn, 1) := by decide +kernel
theorem dX8_readSigns_55 : decode cX8_readSigns 55 = .ok (.aload_n 0, 1) := by decide +kernel
theorem dX8_readSigns_56 : decode cX8_readSigns 56 = .ok (.getfield 47, 3) := by decide +kernel
theorem dX8_readSigns_59 : decode cX8_readSigns 59 = .ok (.aload_n 0, 1) := by decide +kernel
theorem dX8_readSigns_60 : decode cX8_readSigns 60 = .ok (.getfield 139, 3) := by decide +kernel
theorem dX8_readSigns_63 : decode cX8_readSigns 63 = .ok (.iload 4, 2) := by decide +kernel
theorem dX8_readSigns_65 : decode cX8_readSigns 65 = .ok (.iastore, 1) := by decide +kernel
theorem dX8_readSigns_66 : decode cX8_readSigns 66 = .ok (.aload_n 0, 1) := by decide +kernel
theorem dX8_readSigns_67 : decode cX8_readSigns 67 = .ok (.dup, 1) := by decide +kernel
theorem dX8_readSigns_68 : decode cX8_readSigns 68 = .ok (.getfield 139, 3) := by decide +kernel
theorem dX8_readSigns_71 : decode cX8_readSigns 71 = .ok (.iconst 1, 1) := by decide +kernel
theorem dX8_readSigns_72 : decode cX8_readSigns 72 = .ok (.iadd, 1) := by decide +kernel
theorem dX8_readSigns_73 : decode cX8_readSigns 73 = .ok (.putfield 139, 3) := by decide +kernel
theorem dX8_readSigns_76 : decode cX8_readSigns 76 = .ok (.aload_n 0, 1) := by decide +kernel
theorem dX8_readSigns_77 : decode cX8_readSigns 77 = .ok (.dup, 1) := by decide +kernel
theorem dX8_readSigns_78 : decode cX8_readSigns 78 = .ok (.getfield 128, 3) := by decide +kernel
theorem dX8_readSigns_81 : decode cX8_readSigns 81 = .ok (.iconst 1, 1) := by decide +kernel
theorem dX8_readSigns_82 : decode cX8_readSigns 82 = .ok (.iadd, 1) := by decide +kernel
theorem dX8_readSigns_83 : decode cX8_readSigns 83 = .ok (.putfield 128, 3) := by decide +kernel
theorem dX8_readSigns_86 : decode cX8_readSigns 86 = .ok (.goto (-76), 3) := by decide +kernel
theorem dX8_readSigns_89 : decode cX8_readSigns 89 = .ok (.aload_n 0, 1) := by decide +kernel
theorem dX8_readSigns_90 : decode cX8_readSigns 90 = .ok (.getfield 139, 3) := by decide +kernel
theorem dX8_readSigns_93 : decode cX8_readSigns 93 = .ok (.iload_n 1, 1) := by decide +kernel
theorem dX8_readSigns_94 : decode cX8_readSigns 94 = .ok (.if_icmp .lt 7, 3) := by decide +kernel
theorem dX8_readSigns_97 : decode cX8_readSigns 97 = .ok (.iconst 1, 1) := by decide +kernel
theorem dX8_readSigns_98 : decode cX8_readSigns 98 = .ok (.goto 4, 3) := by decide +kernel
theorem dX8_readSigns_101 : decode cX8_readSigns 101 = .ok (.iconst 0, 1) := by decide +kernel
theorem dX8_readSigns_102 : decode cX8_readSigns 102 = .ok (.ireturn, 1) := by decide +kernel
theorem dX8_allBack_0 : decode cX8_allBack 0 = .ok (.iconst 0, 1) := by decide +kernel
theorem dX8_allBack_1 : decode cX8_allBack 1 = .ok (.istore_n 1, 1) := by decide +kernel
theorem dX8_allBack_2 : decode cX8_allBack 2 = .ok (.iload_n 1, 1) := by decide +kernel
theorem dX8_allBack_3 : decode cX8_allBack 3 = .ok (.aload_n 0, 1) := by decide +kernel
theorem dX8_allBack_4 : decode cX8_allBack 4 = .ok (.getfield 72, 3) := by decide +kernel
theorem dX8_allBack_7 : decode cX8_allBack 7 = .ok (.if_icmp .ge 30, 3) := by decide +kernel
theorem dX8_allBack_10 : decode cX8_allBack 10 = .ok (.aload_n 0, 1) := by decide +kernel
theorem dX8_allBack_11 : decode cX8_allBack 11 = .ok (.getfield 7, 3) := by decide +kernel
theorem dX8_allBack_14 : decode cX8_allBack 14 = .ok (.bipush 42, 2) := by decide +kernel
theorem dX8_allBack_16 : decode cX8_allBack 16 = .ok (.iload_n 1, 1) := by decide +kernel
theorem dX8_allBack_17 : decode cX8_allBack 17 = .ok (.iadd, 1) := by decide +kernel
theorem dX8_allBack_18 : decode cX8_allBack 18 = .ok (.iconst 0, 1) := by decide +kernel
theorem dX8_allBack_19 : decode cX8_allBack 19 = .ok (.iastore, 1) := by decide +kernel
theorem dX8_allBack_20 : decode cX8_allBack 20 = .ok (.aload_n 0, 1) := by decide +kernel
theorem dX8_allBack_21 : decode cX8_allBack 21 = .ok (.getfield 7, 3) := by decide +kernel
theorem dX8_allBack_24 : decode cX8_allBack 24 = .ok (.bipush 51, 2) := by decide +kernel
theorem dX8_allBack_26 : decode cX8_allBack 26 = .ok (.iload_n 1, 1) := by decide +kernel
theorem dX8_allBack_27 : decode cX8_allBack 27 = .ok (.iadd, 1) := by decide +kernel
theorem dX8_allBack_28 : decode cX8_allBack 28 = .ok (.bipush (-4), 2) := by decide +kernel
theorem dX8_allBack_30 : decode cX8_allBack 30 = .ok (.iastore, 1) := by decide +kernel
theorem dX8_allBack_31 : decode cX8_allBack 31 = .ok (.iinc 1 1, 3) := by decide +kernel
theorem dX8_allBack_34 : decode cX8_allBack 34 = .ok (.goto (-32), 3) := by decide +kernel
theorem dX8_allBack_37 : decode cX8_allBack 37 = .ok (.aload_n 0, 1) := by decide +kernel
theorem dX8_allBack_38 : decode cX8_allBack 38 = .ok (.iconst 0, 1) := by decide +kernel
theorem dX8_allBack_39 : decode cX8_allBack 39 = .ok (.putfield 96, 3) := by decide +kernel
theorem dX8_allBack_42 : decode cX8_allBack 42 = .ok (.return_, 1) := by decide +kernel
theorem dX8_course_0 : decode cX8_course 0 = .ok (.aload_n 0, 1) := by decide +kernel
theorem dX8_course_1 : decode cX8_course 1 = .ok (.aload_n 0, 1) := by decide +kernel
theorem dX8_course_2 : decode cX8_course 2 = .ok (.iconst 2, 1) := by decide +kernel
theorem dX8_course_3 : decode cX8_course 3 = .ok (.bipush 24, 2) := by decide +kernel
theorem dX8_course_5 : decode cX8_course 5 = .ok (.iconst 1, 1) := by decide +kernel
theorem dX8_course_6 : decode cX8_course 6 = .ok (.invokevirtual 148, 3) := by decide +kernel
theorem dX8_course_9 : decode cX8_course 9 = .ok (.invokevirtual 152, 3) := by decide +kernel
theorem dX8_course_12 : decode cX8_course 12 = .ok (.istore_n 1, 1) := by decide +kernel
theorem dX8_course_13 : decode cX8_course 13 = .ok (.iload_n 1, 1) := by decide +kernel
theorem dX8_course_14 : decode cX8_course 14 = .ok (.ifCond .ge 5, 3) := by decide +kernel
theorem dX8_course_17 : decode cX8_course 17 = .ok (.iload_n 1, 1) := by decide +kernel
theorem dX8_course_18 : decode cX8_course 18 = .ok (.ireturn, 1) := by decide +kernel
theorem dX8_course_19 : decode cX8_course 19 = .ok (.aload_n 0, 1) := by decide +kernel
theorem dX8_course_20 : decode cX8_course 20 = .ok (.aload_n 0, 1) := by decide +kernel
theorem dX8_course_21 : decode cX8_course 21 = .ok (.getfield 139, 3) := by decide +kernel
theorem dX8_course_24 : decode cX8_course 24 = .ok (.putfield 19, 3) := by decide +kernel
theorem dX8_course_27 : decode cX8_course 27 = .ok (.iconst 0, 1) := by decide +kernel
theorem dX8_course_28 : decode cX8_course 28 = .ok (.istore_n 2, 1) := by decide +kernel
theorem dX8_course_29 : decode cX8_course 29 = .ok (.iload_n 2, 1) := by decide +kernel
theorem dX8_course_30 : decode cX8_course 30 = .ok (.aload_n 0, 1) := by decide +kernel
theorem dX8_course_31 : decode cX8_course 31 = .ok (.getfield 19, 3) := by decide +kernel
theorem dX8_course_34 : decode cX8_course 34 = .ok (.if_icmp .ge 21, 3) := by decide +kernel
theorem dX8_course_37 : decode cX8_course 37 = .ok (.aload_n 0, 1) := by decide +kernel
theorem dX8_course_38 : decode cX8_course 38 = .ok (.getfield 7, 3) := by decide +kernel
theorem dX8_course_41 : decode cX8_course 41 = .ok (.iload_n 2, 1) := by decide +kernel
theorem dX8_course_42 : decode cX8_course 42 = .ok (.aload_n 0, 1) := by decide +kernel
theorem dX8_course_43 : decode cX8_course 43 = .ok (.getfield 47, 3) := by decide +kernel
theorem dX8_course_46 : decode cX8_course 46 = .ok (.iload_n 2, 1) := by decide +kernel
theorem dX8_course_47 : decode cX8_course 47 = .ok (.iaload, 1) := by decide +kernel
theorem dX8_course_48 : decode cX8_course 48 = .ok (.iastore, 1) := by decide +kernel
theorem dX8_course_49 : decode cX8_course 49 = .ok (.iinc 2 1, 3) := by decide +kernel
theorem dX8_course_52 : decode cX8_course 52 = .ok (.goto (-23), 3) := by decide +kernel
theorem dX8_course_55 : decode cX8_course 55 = .ok (.aload_n 0, 1) := by decide +kernel
theorem dX8_course_56 : decode cX8_course 56 = .ok (.invokevirtual 156, 3) := by decide +kernel
theorem dX8_course_59 : decode cX8_course 59 = .ok (.aload_n 0, 1) := by decide +kernel
theorem dX8_course_60 : decode cX8_course 60 = .ok (.getfield 19, 3) := by decide +kernel
theorem dX8_course_63 : decode cX8_course 63 = .ok (.ireturn, 1) := by decide +kernel
theorem dX8_skies_0 : decode cX8_skies 0 = .ok (.aload_n 0, 1) := by decide +kernel
theorem dX8_skies_1 : decode cX8_skies 1 = .ok (.aload_n 0, 1) := by decide +kernel
theorem dX8_skies_2 : decode cX8_skies 2 = .ok (.iconst 1, 1) := by decide +kernel
theorem dX8_skies_3 : decode cX8_skies 3 = .ok (.bipush 12, 2) := by decide +kernel
theorem dX8_skies_5 : decode cX8_skies 5 = .ok (.iconst 0, 1) := by decide +kernel
theorem dX8_skies_6 : decode cX8_skies 6 = .ok (.invokevirtual 148, 3) := by decide +kernel
theorem dX8_skies_9 : decode cX8_skies 9 = .ok (.invokevirtual 152, 3) := by decide +kernel
theorem dX8_skies_12 : decode cX8_skies 12 = .ok (.istore_n 1, 1) := by decide +kernel
theorem dX8_skies_13 : decode cX8_skies 13 = .ok (.iload_n 1, 1) := by decide +kernel
theorem dX8_skies_14 : decode cX8_skies 14 = .ok (.ifCond .ge 5, 3) := by decide +kernel
theorem dX8_skies_17 : decode cX8_skies 17 = .ok (.iload_n 1, 1) := by decide +kernel
theorem dX8_skies_18 : decode cX8_skies 18 = .ok (.ireturn, 1) := by decide +kernel
theorem dX8_skies_19 : decode cX8_skies 19 = .ok (.aload_n 0, 1) := by decide +kernel
theorem dX8_skies_20 : decode cX8_skies 20 = .ok (.aload_n 0, 1) := by decide +kernel
theorem dX8_skies_21 : decode cX8_skies 21 = .ok (.getfield 139, 3) := by decide +kernel
theorem dX8_skies_24 : decode cX8_skies 24 = .ok (.putfield 26, 3) := by decide +kernel
theorem dX8_skies_27 : decode cX8_skies 27 = .ok (.iconst 0, 1) := by decide +kernel
theorem dX8_skies_28 : decode cX8_skies 28 = .ok (.istore_n 2, 1) := by decide +kernel
theorem dX8_skies_29 : decode cX8_skies 29 = .ok (.iload_n 2, 1) := by decide +kernel
theorem dX8_skies_30 : decode cX8_skies 30 = .ok (.aload_n 0, 1) := by decide +kernel
theorem dX8_skies_31 : decode cX8_skies 31 = .ok (.getfield 26, 3) := by decide +kernel
theorem dX8_skies_34 : decode cX8_skies 34 = .ok (.if_icmp .ge 21, 3) := by decide +kernel
theorem dX8_skies_37 : decode cX8_skies 37 = .ok (.aload_n 0, 1) := by decide +kernel
theorem dX8_skies_38 : decode cX8_skies 38 = .ok (.getfield 23, 3) := by decide +kernel
theorem dX8_skies_41 : decode cX8_skies 41 = .ok (.iload_n 2, 1) := by decide +kernel
theorem dX8_skies_42 : decode cX8_skies 42 = .ok (.aload_n 0, 1) := by decide +kernel
theorem dX8_skies_43 : decode cX8_skies 43 = .ok (.getfield 47, 3) := by decide +kernel
theorem dX8_skies_46 : decode cX8_skies 46 = .ok (.iload_n 2, 1) := by decide +kernel
theorem dX8_skies_47 : decode cX8_skies 47 = .ok (.iaload, 1) := by decide +kernel
theorem dX8_skies_48 : decode cX8_skies 48 = .ok (.iastore, 1) := by decide +kernel
theorem dX8_skies_49 : decode cX8_skies 49 = .ok (.iinc 2 1, 3) := by decide +kernel
theorem dX8_skies_52 : decode cX8_skies 52 = .ok (.goto (-23), 3) := by decide +kernel
theorem dX8_skies_55 : decode cX8_skies 55 = .ok (.aload_n 0, 1) := by decide +kernel
theorem dX8_skies_56 : decode cX8_skies 56 = .ok (.getfield 26, 3) := by decide +kernel
theorem dX8_skies_59 : decode cX8_skies 59 = .ok (.ireturn, 1) := by decide +kernel
theorem dX8_kindOf_0 : decode cX8_kindOf 0 = .ok (.iload_n 0, 1) := by decide +kernel
theorem dX8_kindOf_1 : decode cX8_kindOf 1 = .ok (.bipush 112, 2) := by decide +kernel
theorem dX8_kindOf_3 : decode cX8_kindOf 3 = .ok (.if_icmp .ne 7, 3) := by decide +kernel
theorem dX8_kindOf_6 : decode cX8_kindOf 6 = .ok (.iconst 0, 1) := by decide +kernel
theorem dX8_kindOf_7 : decode cX8_kindOf 7 = .ok (.goto 54, 3) := by decide +kernel
theorem dX8_kindOf_10 : decode cX8_kindOf 10 = .ok (.iload_n 0, 1) := by decide +kernel
theorem dX8_kindOf_11 : decode cX8_kindOf 11 = .ok (.bipush 99, 2) := by decide +kernel
theorem dX8_kindOf_13 : decode cX8_kindOf 13 = .ok (.if_icmp .ne 7, 3) := by decide +kernel
theorem dX8_kindOf_16 : decode cX8_kindOf 16 = .ok (.iconst 1, 1) := by decide +kernel
theorem dX8_kindOf_17 : decode cX8_kindOf 17 = .ok (.goto 44, 3) := by decide +kernel
theorem dX8_kindOf_20 : decode cX8_kindOf 20 = .ok (.iload_n 0, 1) := by decide +kernel
theorem dX8_kindOf_21 : decode cX8_kindOf 21 = .ok (.bipush 111, 2) := by decide +kernel
theorem dX8_kindOf_23 : decode cX8_kindOf 23 = .ok (.if_icmp .ne 7, 3) := by decide +kernel
theorem dX8_kindOf_26 : decode cX8_kindOf 26 = .ok (.iconst 2, 1) := by decide +kernel
theorem dX8_kindOf_27 : decode cX8_kindOf 27 = .ok (.goto 34, 3) := by decide +kernel
theorem dX8_kindOf_30 : decode cX8_kindOf 30 = .ok (.iload_n 0, 1) := by decide +kernel
theorem dX8_kindOf_31 : decode cX8_kindOf 31 = .ok (.bipush 100, 2) := by decide +kernel
theorem dX8_kindOf_33 : decode cX8_kindOf 33 = .ok (.if_icmp .ne 7, 3) := by decide +kernel
theorem dX8_kindOf_36 : decode cX8_kindOf 36 = .ok (.iconst 3, 1) := by decide +kernel
theorem dX8_kindOf_37 : decode cX8_kindOf 37 = .ok (.goto 24, 3) := by decide +kernel
theorem dX8_kindOf_40 : decode cX8_kindOf 40 = .ok (.iload_n 0, 1) := by decide +kernel
theorem dX8_kindOf_41 : decode cX8_kindOf 41 = .ok (.bipush 116, 2) := by decide +kernel
theorem dX8_kindOf_43 : decode cX8_kindOf 43 = .ok (.if_icmp .ne 7, 3) := by decide +kernel
theorem dX8_kindOf_46 : decode cX8_kindOf 46 = .ok (.iconst 4, 1) := by decide +kernel
theorem dX8_kindOf_47 : decode cX8_kindOf 47 = .ok (.goto 14, 3) := by decide +kernel
theorem dX8_kindOf_50 : decode cX8_kindOf 50 = .ok (.iload_n 0, 1) := by decide +kernel
theorem dX8_kindOf_51 : decode cX8_kindOf 51 = .ok (.bipush 109, 2) := by decide +kernel
theorem dX8_kindOf_53 : decode cX8_kindOf 53 = .ok (.if_icmp .ne 7, 3) := by decide +kernel
theorem dX8_kindOf_56 : decode cX8_kindOf 56 = .ok (.iconst 5, 1) := by decide +kernel
theorem dX8_kindOf_57 : decode cX8_kindOf 57 = .ok (.goto 4, 3) := by decide +kernel
theorem dX8_kindOf_60 : decode cX8_kindOf 60 = .ok (.iconst (-1), 1) := by decide +kernel
theorem dX8_kindOf_61 : decode cX8_kindOf 61 = .ok (.ireturn, 1) := by decide +kernel
theorem dX8_readClock_0 : decode cX8_readClock 0 = .ok (.aload_n 0, 1) := by decide +kernel
theorem dX8_readClock_1 : decode cX8_readClock 1 = .ok (.getfield 47, 3) := by decide +kernel
theorem dX8_readClock_4 : decode cX8_readClock 4 = .ok (.iload_n 1, 1) := by decide +kernel
theorem dX8_readClock_5 : decode cX8_readClock 5 = .ok (.aload_n 0, 1) := by decide +kernel
theorem dX8_readClock_6 : decode cX8_readClock 6 = .ok (.invokevirtual 131, 3) := by decide +kernel
theorem dX8_readClock_9 : decode cX8_readClock 9 = .ok (.invokestatic 159, 3) := by decide +kernel
theorem dX8_readClock_12 : decode cX8_readClock 12 = .ok (.iastore, 1) := by decide +kernel
theorem dX8_readClock_13 : decode cX8_readClock 13 = .ok (.aload_n 0, 1) := by decide +kernel
theorem dX8_readClock_14 : decode cX8_readClock 14 = .ok (.getfield 47, 3) := by decide +kernel
theorem dX8_readClock_17 : decode cX8_readClock 17 = .ok (.iload_n 1, 1) := by decide +kernel
theorem dX8_readClock_18 : decode cX8_readClock 18 = .ok (.iaload, 1) := by decide +kernel
theorem dX8_readClock_19 : decode cX8_readClock 19 = .ok (.ifCond .ge 5, 3) := by decide +kernel
theorem dX8_readClock_22 : decode cX8_readClock 22 = .ok (.iconst 0, 1) := by decide +kernel
theorem dX8_readClock_23 : decode cX8_readClock 23 = .ok (.ireturn, 1) := by decide +kernel
theorem dX8_readClock_24 : decode cX8_readClock 24 = .ok (.aload_n 0, 1) := by decide +kernel
theorem dX8_readClock_25 : decode cX8_readClock 25 = .ok (.dup, 1) := by decide +kernel
theorem dX8_readClock_26 : decode cX8_readClock 26 = .ok (.getfield 128, 3) := by decide +kernel
theorem dX8_readClock_29 : decode cX8_readClock 29 = .ok (.iconst 1, 1) := by decide +kernel
theorem dX8_readClock_30 : decode cX8_readClock 30 = .ok (.iadd, 1) := by decide +kernel
theorem dX8_readClock_31 : decode cX8_readClock 31 = .ok (.putfield 128, 3) := by decide +kernel
theorem dX8_readClock_34 : decode cX8_readClock 34 = .ok (.aload_n 0, 1) := by decide +kernel
theorem dX8_readClock_35 : decode cX8_readClock 35 = .ok (.getfield 47, 3) := by decide +kernel
theorem dX8_readClock_38 : decode cX8_readClock 38 = .ok (.iload_n 1, 1) := by decide +kernel
theorem dX8_readClock_39 : decode cX8_readClock 39 = .ok (.iconst 1, 1) := by decide +kernel
theorem dX8_readClock_40 : decode cX8_readClock 40 = .ok (.iadd, 1) := by decide +kernel
theorem dX8_readClock_41 : decode cX8_readClock 41 = .ok (.aload_n 0, 1) := by decide +kernel
theorem dX8_readClock_42 : decode cX8_readClock 42 = .ok (.iconst 0, 1) := by decide +kernel
theorem dX8_readClock_43 : decode cX8_readClock 43 = .ok (.sipush 719, 3) := by decide +kernel
theorem dX8_readClock_46 : decode cX8_readClock 46 = .ok (.invokevirtual 162, 3) := by decide +kernel
theorem dX8_readClock_49 : decode cX8_readClock 49 = .ok (.iastore, 1) := by decide +kernel
theorem dX8_readClock_50 : decode cX8_readClock 50 = .ok (.aload_n 0, 1) := by decide +kernel
theorem dX8_readClock_51 : decode cX8_readClock 51 = .ok (.getfield 47, 3) := by decide +kernel
theorem dX8_readClock_54 : decode cX8_readClock 54 = .ok (.iload_n 1, 1) := by decide +kernel
theorem dX8_readClock_55 : decode cX8_readClock 55 = .ok (.iconst 1, 1) := by decide +kernel
theorem dX8_readClock_56 : decode cX8_readClock 56 = .ok (.iadd, 1) := by decide +kernel
theorem dX8_readClock_57 : decode cX8_readClock 57 = .ok (.iaload, 1) := by decide +kernel
theorem dX8_readClock_58 : decode cX8_readClock 58 = .ok (.ifCond .ge 5, 3) := by decide +kernel
theorem dX8_readClock_61 : decode cX8_readClock 61 = .ok (.iconst 0, 1) := by decide +kernel
theorem dX8_readClock_62 : decode cX8_readClock 62 = .ok (.ireturn, 1) := by decide +kernel
theorem dX8_readClock_63 : decode cX8_readClock 63 = .ok (.aload_n 0, 1) := by decide +kernel
theorem dX8_readClock_64 : decode cX8_readClock 64 = .ok (.bipush 43, 2) := by decide +kernel
theorem dX8_readClock_66 : decode cX8_readClock 66 = .ok (.invokevirtual 166, 3) := by decide +kernel
theorem dX8_readClock_69 : decode cX8_readClock 69 = .ok (.ifCond .eq 7, 3) := by decide +kernel
theorem dX8_readClock_72 : decode cX8_readClock 72 = .ok (.iconst 1, 1) := by decide +kernel
theorem dX8_readClock_73 : decode cX8_readClock 73 = .ok (.goto 17, 3) := by decide +kernel
theorem dX8_readClock_76 : decode cX8_readClock 76 = .ok (.aload_n 0, 1) := by decide +kernel
theorem dX8_readClock_77 : decode cX8_readClock 77 = .ok (.bipush 45, 2) := by decide +kernel
theorem dX8_readClock_79 : decode cX8_readClock 79 = .ok (.invokevirtual 166, 3) := by decide +kernel
theorem dX8_readClock_82 : decode cX8_readClock 82 = .ok (.ifCond .eq 7, 3) := by decide +kernel
theorem dX8_readClock_85 : decode cX8_readClock 85 = .ok (.iconst (-1), 1) := by decide +kernel
theorem dX8_readClock_86 : decode cX8_readClock 86 = .ok (.goto 4, 3) := by decide +kernel
theorem dX8_readClock_89 : decode cX8_readClock 89 = .ok (.iconst 0, 1) := by decide +kernel
theorem dX8_readClock_90 : decode cX8_readClock 90 = .ok (.istore_n 2, 1) := by decide +kernel
theorem dX8_readClock_91 : decode cX8_readClock 91 = .ok (.iload_n 2, 1) := by decide +kernel
theorem dX8_readClock_92 : decode cX8_readClock 92 = .ok (.ifCond .ne 7, 3) := by decide +kernel
theorem dX8_readClock_95 : decode cX8_readClock 95 = .ok (.iconst 0, 1) := by decide +kernel
theorem dX8_readClock_96 : decode cX8_readClock 96 = .ok (.goto 10, 3) := by decide +kernel
theorem dX8_readClock_99 : decode cX8_readClock 99 = .ok (.aload_n 0, 1) := by decide +kernel
theorem dX8_readClock_100 : decode cX8_readClock 100 = .ok (.iconst 0, 1) := by decide +kernel
theorem dX8_readClock_101 : decode cX8_readClock 101 = .ok (.bipush 30, 2) := by decide +kernel
theorem dX8_readClock_103 : decode cX8_readClock 103 = .ok (.invokevirtual 162, 3) := by decide +kernel
theorem dX8_readClock_106 : decode cX8_readClock 106 = .ok (.istore_n 3, 1) := by decide +kernel
theorem dX8_readClock_107 : decode cX8_readClock 107 = .ok (.iload_n 3, 1) := by decide +kernel
theorem dX8_readClock_108 : decode cX8_readClock 108 = .ok (.ifCond .ge 5, 3) := by decide +kernel
theorem dX8_readClock_111 : decode cX8_readClock 111 = .ok (.iconst 0, 1) := by decide +kernel
theorem dX8_readClock_112 : decode cX8_readClock 112 = .ok (.ireturn, 1) := by decide +kernel
theorem dX8_readClock_113 : decode cX8_readClock 113 = .ok (.aload_n 0, 1) := by decide +kernel
theorem dX8_readClock_114 : decode cX8_readClock 114 = .ok (.getfield 47, 3) := by decide +kernel
theorem dX8_readClock_117 : decode cX8_readClock 117 = .ok (.iload_n 1, 1) := by decide +kernel
theorem dX8_readClock_118 : decode cX8_readClock 118 = .ok (.iconst 2, 1) := by decide +kernel
theorem dX8_readClock_119 : decode cX8_readClock 119 = .ok (.iadd, 1) := by decide +kernel
theorem dX8_readClock_120 : decode cX8_readClock 120 = .ok (.iload_n 2, 1) := by decide +kernel
theorem dX8_readClock_121 : decode cX8_readClock 121 = .ok (.iload_n 3, 1) := by decide +kernel
theorem dX8_readClock_122 : decode cX8_readClock 122 = .ok (.imul, 1) := by decide +kernel
theorem dX8_readClock_123 : decode cX8_readClock 123 = .ok (.iastore, 1) := by decide +kernel
theorem dX8_readClock_124 : decode cX8_readClock 124 = .ok (.aload_n 0, 1) := by decide +kernel
theorem dX8_readClock_125 : decode cX8_readClock 125 = .ok (.getfield 47, 3) := by decide +kernel
theorem dX8_readClock_128 : decode cX8_readClock 128 = .ok (.iload_n 1, 1) := by decide +kernel
theorem dX8_readClock_129 : decode cX8_readClock 129 = .ok (.iconst 3, 1) := by decide +kernel
theorem dX8_readClock_130 : decode cX8_readClock 130 = .ok (.iadd, 1) := by decide +kernel
theorem dX8_readClock_131 : decode cX8_readClock 131 = .ok (.aload_n 0, 1) := by decide +kernel
theorem dX8_readClock_132 : decode cX8_readClock 132 = .ok (.bipush 42, 2) := by decide +kernel
theorem dX8_readClock_134 : decode cX8_readClock 134 = .ok (.invokevirtual 166, 3) := by decide +kernel
theorem dX8_readClock_137 : decode cX8_readClock 137 = .ok (.ifCond .eq 13, 3) := by decide +kernel
theorem dX8_readClock_140 : decode cX8_readClock 140 = .ok (.aload_n 0, 1) := by decide +kernel
theorem dX8_readClock_141 : decode cX8_readClock 141 = .ok (.iconst 0, 1) := by decide +kernel
theorem dX8_readClock_142 : decode cX8_readClock 142 = .ok (.bipush 99, 2) := by decide +kernel
theorem dX8_readClock_144 : decode cX8_readClock 144 = .ok (.invokevirtual 162, 3) := by decide +kernel
theorem dX8_readClock_147 : decode cX8_readClock 147 = .ok (.goto 4, 3) := by decide +kernel
theorem dX8_readClock_150 : decode cX8_readClock 150 = .ok (.iconst 0, 1) := by decide +kernel
theorem dX8_readClock_151 : decode cX8_readClock 151 = .ok (.iastore, 1) := by decide +kernel
theorem dX8_readClock_152 : decode cX8_readClock 152 = .ok (.aload_n 0, 1) := by decide +kernel
theorem dX8_readClock_153 : decode cX8_readClock 153 = .ok (.getfield 47, 3) := by decide +kernel
theorem dX8_readClock_156 : decode cX8_readClock 156 = .ok (.iload_n 1, 1) := by decide +kernel
theorem dX8_readClock_157 : decode cX8_readClock 157 = .ok (.iconst 3, 1) := by decide +kernel
theorem dX8_readClock_158 : decode cX8_readClock 158 = .ok (.iadd, 1) := by decide +kernel
theorem dX8_readClock_159 : decode cX8_readClock 159 = .ok (.iaload, 1) := by decide +kernel
theorem dX8_readClock_160 : decode cX8_readClock 160 = .ok (.ifCond .lt 7, 3) := by decide +kernel
theorem dX8_readClock_163 : decode cX8_readClock 163 = .ok (.iconst 1, 1) := by decide +kernel
theorem dX8_readClock_164 : decode cX8_readClock 164 = .ok (.goto 4, 3) := by decide +kernel
theorem dX8_readClock_167 : decode cX8_readClock 167 = .ok (.iconst 0, 1) := by decide +kernel
theorem dX8_readClock_168 : decode cX8_readClock 168 = .ok (.ireturn, 1) := by decide +kernel
theorem dX8_readStreet_0 : decode cX8_readStreet 0 = .ok (.aload_n 0, 1) := by decide +kernel
theorem dX8_readStreet_1 : decode cX8_readStreet 1 = .ok (.iconst 0, 1) := by decide +kernel
theorem dX8_readStreet_2 : decode cX8_readStreet 2 = .ok (.putfield 128, 3) := by decide +kernel
theorem dX8_readStreet_5 : decode cX8_readStreet 5 = .ok (.iconst 0, 1) := by decide +kernel
theorem dX8_readStreet_6 : decode cX8_readStreet 6 = .ok (.istore_n 1, 1) := by decide +kernel
theorem dX8_readStreet_7 : decode cX8_readStreet 7 = .ok (.iload_n 1, 1) := by decide +kernel
theorem dX8_readStreet_8 : decode cX8_readStreet 8 = .ok (.bipush 9, 2) := by decide +kernel
theorem dX8_readStreet_10 : decode cX8_readStreet 10 = .ok (.if_icmp .ge 63, 3) := by decide +kernel
theorem dX8_readStreet_13 : decode cX8_readStreet 13 = .ok (.aload_n 0, 1) := by decide +kernel
theorem dX8_readStreet_14 : decode cX8_readStreet 14 = .ok (.iconst 4, 1) := by decide +kernel
theorem dX8_readStreet_15 : decode cX8_readStreet 15 = .ok (.iload_n 1, 1) := by decide +kernel
theorem dX8_readStreet_16 : decode cX8_readStreet 16 = .ok (.imul, 1) := by decide +kernel
theorem dX8_readStreet_17 : decode cX8_readStreet 17 = .ok (.invokevirtual 169, 3) := by decide +kernel
theorem dX8_readStreet_20 : decode cX8_readStreet 20 = .ok (.ifCond .ne 5, 3) := by decide +kernel
theorem dX8_readStreet_23 : decode cX8_readStreet 23 = .ok (.iconst 0, 1) := by decide +kernel
theorem dX8_readStreet_24 : decode cX8_readStreet 24 = .ok (.ireturn, 1) := by decide +kernel
theorem dX8_readStreet_25 : decode cX8_readStreet 25 = .ok (.aload_n 0, 1) := by decide +kernel
theorem dX8_readStreet_26 : decode cX8_readStreet 26 = .ok (.iload_n 1, 1) := by decide +kernel
theorem dX8_readStreet_27 : decode cX8_readStreet 27 = .ok (.iconst 1, 1) := by decide +kernel
theorem dX8_readStreet_28 : decode cX8_readStreet 28 = .ok (.iadd, 1) := by decide +kernel
theorem dX8_readStreet_29 : decode cX8_readStreet 29 = .ok (.putfield 139, 3) := by decide +kernel
theorem dX8_readStreet_32 : decode cX8_readStreet 32 = .ok (.aload_n 0, 1) := by decide +kernel
theorem dX8_readStreet_33 : decode cX8_readStreet 33 = .ok (.invokevirtual 131, 3) := by decide +kernel
theorem dX8_readStreet_36 : decode cX8_readStreet 36 = .ok (.istore_n 2, 1) := by decide +kernel
theorem dX8_readStreet_37 : decode cX8_readStreet 37 = .ok (.iload_n 2, 1) := by decide +kernel
theorem dX8_readStreet_38 : decode cX8_readStreet 38 = .ok (.ifCond .ge 5, 3) := by decide +kernel
theorem dX8_readStreet_41 : decode cX8_readStreet 41 = .ok (.iconst 1, 1) := by decide +kernel
theorem dX8_readStreet_42 : decode cX8_readStreet 42 = .ok (.ireturn, 1) := by decide +kernel
theorem dX8_readStreet_43 : decode cX8_readStreet 43 = .ok (.iload_n 2, 1) := by decide +kernel
theorem dX8_readStreet_44 : decode cX8_readStreet 44 = .ok (.bipush 44, 2) := by decide +kernel
theorem dX8_readStreet_46 : decode cX8_readStreet 46 = .ok (.if_icmp .ne 9, 3) := by decide +kernel
theorem dX8_readStreet_49 : decode cX8_readStreet 49 = .ok (.iload_n 1, 1) := by decide +kernel
theorem dX8_readStreet_50 : decode cX8_readStreet 50 = .ok (.bipush 8, 2) := by decide +kernel
theorem dX8_readStreet_52 : decode cX8_readStreet 52 = .ok (.if_icmp .ne 5, 3) := by decide +kernel
theorem dX8_readStreet_55 : decode cX8_readStreet 55 = .ok (.iconst 0, 1) := by decide +kernel
theorem dX8_readStreet_56 : decode cX8_readStreet 56 = .ok (.ireturn, 1) := by decide +kernel
theorem dX8_readStreet_57 : decode cX8_readStreet 57 = .ok (.aload_n 0, 1) := by decide +kernel
theorem dX8_readStreet_58 : decode cX8_readStreet 58 = .ok (.dup, 1) := by decide +kernel
theorem dX8_readStreet_59 : decode cX8_readStreet 59 = .ok (.getfield 128, 3) := by decide +kernel
theorem dX8_readStreet_62 : decode cX8_readStreet 62 = .ok (.iconst 1, 1) := by decide +kernel
theorem dX8_readStreet_63 : decode cX8_readStreet 63 = .ok (.iadd, 1) := by decide +kernel
theorem dX8_readStreet_64 : decode cX8_readStreet 64 = .ok (.putfield 128, 3) := by decide +kernel
theorem dX8_readStreet_67 : decode cX8_readStreet 67 = .ok (.iinc 1 1, 3) := by decide +kernel
theorem dX8_readStreet_70 : decode cX8_readStreet 70 = .ok (.goto (-63), 3) := by decide +kernel
theorem dX8_readStreet_73 : decode cX8_readStreet 73 = .ok (.iconst 0, 1) := by decide +kernel
theorem dX8_readStreet_74 : decode cX8_readStreet 74 = .ok (.ireturn, 1) := by decide +kernel
theorem dX8_street_0 : decode cX8_street 0 = .ok (.aload_n 0, 1) := by decide +kernel
theorem dX8_street_1 : decode cX8_street 1 = .ok (.aload_n 0, 1) := by decide +kernel
theorem dX8_street_2 : decode cX8_street 2 = .ok (.invokevirtual 172, 3) := by decide +kernel
theorem dX8_street_5 : decode cX8_street 5 = .ok (.invokevirtual 152, 3) := by decide +kernel
theorem dX8_street_8 : decode cX8_street 8 = .ok (.istore_n 1, 1) := by decide +kernel
theorem dX8_street_9 : decode cX8_street 9 = .ok (.iload_n 1, 1) := by decide +kernel
theorem dX8_street_10 : decode cX8_street 10 = .ok (.ifCond .ge 5, 3) := by decide +kernel
theorem dX8_street_13 : decode cX8_street 13 = .ok (.iload_n 1, 1) := by decide +kernel
theorem dX8_street_14 : decode cX8_street 14 = .ok (.ireturn, 1) := by decide +kernel
theorem dX8_street_15 : decode cX8_street 15 = .ok (.aload_n 0, 1) := by decide +kernel
theorem dX8_street_16 : decode cX8_street 16 = .ok (.iconst 0, 1) := by decide +kernel
theorem dX8_street_17 : decode cX8_street 17 = .ok (.putfield 72, 3) := by decide +kernel
theorem dX8_street_20 : decode cX8_street 20 = .ok (.aload_n 0, 1) := by decide +kernel
theorem dX8_street_21 : decode cX8_street 21 = .ok (.iconst 0, 1) := by decide +kernel
theorem dX8_street_22 : decode cX8_street 22 = .ok (.putfield 93, 3) := by decide +kernel
theorem dX8_street_25 : decode cX8_street 25 = .ok (.aload_n 0, 1) := by decide +kernel
theorem dX8_street_26 : decode cX8_street 26 = .ok (.iconst 0, 1) := by decide +kernel
theorem dX8_street_27 : decode cX8_street 27 = .ok (.putfield 96, 3) := by decide +kernel
theorem dX8_street_30 : decode cX8_street 30 = .ok (.aload_n 0, 1) := by decide +kernel
theorem dX8_street_31 : decode cX8_street 31 = .ok (.getfield 7, 3) := by decide +kernel
theorem dX8_street_34 : decode cX8_street 34 = .ok (.bipush 61, 2) := by decide +kernel
theorem dX8_street_36 : decode cX8_street 36 = .ok (.iconst 0, 1) := by decide +kernel
theorem dX8_street_37 : decode cX8_street 37 = .ok (.iastore, 1) := by decide +kernel
theorem dX8_street_38 : decode cX8_street 38 = .ok (.aload_n 0, 1) := by decide +kernel
theorem dX8_street_39 : decode cX8_street 39 = .ok (.getfield 7, 3) := by decide +kernel
theorem dX8_street_42 : decode cX8_street 42 = .ok (.bipush 62, 2) := by decide +kernel
theorem dX8_street_44 : decode cX8_street 44 = .ok (.iconst 0, 1) := by decide +kernel
theorem dX8_street_45 : decode cX8_street 45 = .ok (.iastore, 1) := by decide +kernel
theorem dX8_street_46 : decode cX8_street 46 = .ok (.iconst 0, 1) := by decide +kernel
theorem dX8_street_47 : decode cX8_street 47 = .ok (.istore_n 2, 1) := by decide +kernel
theorem dX8_street_48 : decode cX8_street 48 = .ok (.iload_n 2, 1) := by decide +kernel
theorem dX8_street_49 : decode cX8_street 49 = .ok (.aload_n 0, 1) := by decide +kernel
theorem dX8_street_50 : decode cX8_street 50 = .ok (.getfield 139, 3) := by decide +kernel
theorem dX8_street_53 : decode cX8_street 53 = .ok (.if_icmp .ge 51, 3) := by decide +kernel
theorem dX8_street_56 : decode cX8_street 56 = .ok (.aload_n 0, 1) := by decide +kernel
theorem dX8_street_57 : decode cX8_street 57 = .ok (.aload_n 0, 1) := by decide +kernel
theorem dX8_street_58 : decode cX8_street 58 = .ok (.getfield 47, 3) := by decide +kernel
theorem dX8_street_61 : decode cX8_street 61 = .ok (.iconst 4, 1) := by decide +kernel
theorem dX8_street_62 : decode cX8_street 62 = .ok (.iload_n 2, 1) := by decide +kernel
theorem dX8_street_63 : decode cX8_street 63 = .ok (.imul, 1) := by decide +kernel
theorem dX8_street_64 : decode cX8_street 64 = .ok (.iaload, 1) := by decide +kernel
theorem dX8_street_65 : decode cX8_street 65 = .ok (.aload_n 0, 1) := by decide +kernel
theorem dX8_street_66 : decode cX8_street 66 = .ok (.getfield 47, 3) := by decide +kernel
theorem dX8_street_69 : decode cX8_street 69 = .ok (.iconst 4, 1) := by decide +kernel
theorem dX8_street_70 : decode cX8_street 70 = .ok (.iload_n 2, 1) := by decide +kernel
theorem dX8_street_71 : decode cX8_street 71 = .ok (.imul, 1) := by decide +kernel
theorem dX8_street_72 : decode cX8_street 72 = .ok (.iconst 1, 1) := by decide +kernel
theorem dX8_street_73 : decode cX8_street 73 = .ok (.iadd, 1) := by decide +kernel
theorem dX8_street_74 : decode cX8_street 74 = .ok (.iaload, 1) := by decide +kernel
theorem dX8_street_75 : decode cX8_street 75 = .ok (.aload_n 0, 1) := by decide +kernel
theorem dX8_street_76 : decode cX8_street 76 = .ok (.getfield 47, 3) := by decide +kernel
theorem dX8_street_79 : decode cX8_street 79 = .ok (.iconst 4, 1) := by decide +kernel
theorem dX8_street_80 : decode cX8_street 80 = .ok (.iload_n 2, 1) := by decide +kernel
theorem dX8_street_81 : decode cX8_street 81 = .ok (.imul, 1) := by decide +kernel
theorem dX8_street_82 : decode cX8_street 82 = .ok (.iconst 2, 1) := by decide +kernel
theorem dX8_street_83 : decode cX8_street 83 = .ok (.iadd, 1) := by decide +kernel
theorem dX8_street_84 : decode cX8_street 84 = .ok (.iaload, 1) := by decide +kernel
theorem dX8_street_85 : decode cX8_street 85 = .ok (.aload_n 0, 1) := by decide +kernel
theorem dX8_street_86 : decode cX8_street 86 = .ok (.getfield 47, 3) := by decide +kernel
theorem dX8_street_89 : decode cX8_street 89 = .ok (.iconst 4, 1) := by decide +kernel
theorem dX8_street_90 : decode cX8_street 90 = .ok (.iload_n 2, 1) := by decide +kernel
theorem dX8_street_91 : decode cX8_street 91 = .ok (.imul, 1) := by decide +kernel
theorem dX8_street_92 : decode cX8_street 92 = .ok (.iconst 3, 1) := by decide +kernel
theorem dX8_street_93 : decode cX8_street 93 = .ok (.iadd, 1) := by decide +kernel
theorem dX8_street_94 : decode cX8_street 94 = .ok (.iaload, 1) := by decide +kernel
theorem dX8_street_95 : decode cX8_street 95 = .ok (.invokevirtual 89, 3) := by decide +kernel
theorem dX8_street_98 : decode cX8_street 98 = .ok (.iinc 2 1, 3) := by decide +kernel
theorem dX8_street_101 : decode cX8_street 101 = .ok (.goto (-53), 3) := by decide +kernel
theorem dX8_street_104 : decode cX8_street 104 = .ok (.aload_n 0, 1) := by decide +kernel
theorem dX8_street_105 : decode cX8_street 105 = .ok (.getfield 72, 3) := by decide +kernel
theorem dX8_street_108 : decode cX8_street 108 = .ok (.ireturn, 1) := by decide +kernel
theorem dX8_readAct_0 : decode cX8_readAct 0 = .ok (.aload_n 0, 1) := by decide +kernel
theorem dX8_readAct_1 : decode cX8_readAct 1 = .ok (.invokevirtual 131, 3) := by decide +kernel
theorem dX8_readAct_4 : decode cX8_readAct 4 = .ok (.istore_n 2, 1) := by decide +kernel
theorem dX8_readAct_5 : decode cX8_readAct 5 = .ok (.iload_n 2, 1) := by decide +kernel
theorem dX8_readAct_6 : decode cX8_readAct 6 = .ok (.bipush 119, 2) := by decide +kernel
theorem dX8_readAct_8 : decode cX8_readAct 8 = .ok (.if_icmp .eq 23, 3) := by decide +kernel
theorem dX8_readAct_11 : decode cX8_readAct 11 = .ok (.iload_n 2, 1) := by decide +kernel
theorem dX8_readAct_12 : decode cX8_readAct 12 = .ok (.bipush 116, 2) := by decide +kernel
theorem dX8_readAct_14 : decode cX8_readAct 14 = .ok (.if_icmp .eq 17, 3) := by decide +kernel
theorem dX8_readAct_17 : decode cX8_readAct 17 = .ok (.iload_n 2, 1) := by decide +kernel
theorem dX8_readAct_18 : decode cX8_readAct 18 = .ok (.bipush 98, 2) := by decide +kernel
theorem dX8_readAct_20 : decode cX8_readAct 20 = .ok (.if_icmp .eq 11, 3) := by decide +kernel
theorem dX8_readAct_23 : decode cX8_readAct 23 = .ok (.iload_n 2, 1) := by decide +kernel
theorem dX8_readAct_24 : decode cX8_readAct 24 = .ok (.bipush 104, 2) := by decide +kernel
theorem dX8_readAct_26 : decode cX8_readAct 26 = .ok (.if_icmp .eq 5, 3) := by decide +kernel
theorem dX8_readAct_29 : decode cX8_readAct 29 = .ok (.iconst 0, 1) := by decide +kernel
theorem dX8_readAct_30 : decode cX8_readAct 30 = .ok (.ireturn, 1) := by decide +kernel
theorem dX8_readAct_31 : decode cX8_readAct 31 = .ok (.aload_n 0, 1) := by decide +kernel
theorem dX8_readAct_32 : decode cX8_readAct 32 = .ok (.dup, 1) := by decide +kernel
theorem dX8_readAct_33 : decode cX8_readAct 33 = .ok (.getfield 128, 3) := by decide +kernel
theorem dX8_readAct_36 : decode cX8_readAct 36 = .ok (.iconst 1, 1) := by decide +kernel
theorem dX8_readAct_37 : decode cX8_readAct 37 = .ok (.iadd, 1) := by decide +kernel
theorem dX8_readAct_38 : decode cX8_readAct 38 = .ok (.putfield 128, 3) := by decide +kernel
theorem dX8_readAct_41 : decode cX8_readAct 41 = .ok (.aload_n 0, 1) := by decide +kernel
theorem dX8_readAct_42 : decode cX8_readAct 42 = .ok (.getfield 47, 3) := by decide +kernel
theorem dX8_readAct_45 : decode cX8_readAct 45 = .ok (.iload_n 1, 1) := by decide +kernel
theorem dX8_readAct_46 : decode cX8_readAct 46 = .ok (.iload_n 2, 1) := by decide +kernel
theorem dX8_readAct_47 : decode cX8_readAct 47 = .ok (.iastore, 1) := by decide +kernel
theorem dX8_readAct_48 : decode cX8_readAct 48 = .ok (.iload_n 2, 1) := by decide +kernel
theorem dX8_readAct_49 : decode cX8_readAct 49 = .ok (.bipush 104, 2) := by decide +kernel
theorem dX8_readAct_51 : decode cX8_readAct 51 = .ok (.if_icmp .ne 5, 3) := by decide +kernel
theorem dX8_readAct_54 : decode cX8_readAct 54 = .ok (.iconst 1, 1) := by decide +kernel
theorem dX8_readAct_55 : decode cX8_readAct 55 = .ok (.ireturn, 1) := by decide +kernel
theorem dX8_readAct_56 : decode cX8_readAct 56 = .ok (.iload_n 2, 1) := by decide +kernel
theorem dX8_readAct_57 : decode cX8_readAct 57 = .ok (.bipush 98, 2) := by decide +kernel
theorem dX8_readAct_59 : decode cX8_readAct 59 = .ok (.if_icmp .ne 39, 3) := by decide +kernel
theorem dX8_readAct_62 : decode cX8_readAct 62 = .ok (.aload_n 0, 1) := by decide +kernel
theorem dX8_readAct_63 : decode cX8_readAct 63 = .ok (.getfield 47, 3) := by decide +kernel
theorem dX8_readAct_66 : decode cX8_readAct 66 = .ok (.iload_n 1, 1) := by decide +kernel
theorem dX8_readAct_67 : decode cX8_readAct 67 = .ok (.iconst 1, 1) := by decide +kernel
theorem dX8_readAct_68 : decode cX8_readAct 68 = .ok (.iadd, 1) := by decide +kernel
theorem dX8_readAct_69 : decode cX8_readAct 69 = .ok (.aload_n 0, 1) := by decide +kernel
theorem dX8_readAct_70 : decode cX8_readAct 70 = .ok (.iconst 0, 1) := by decide +kernel
theorem dX8_readAct_71 : decode cX8_readAct 71 = .ok (.aload_n 0, 1) := by decide +kernel
theorem dX8_readAct_72 : decode cX8_readAct 72 = .ok (.getfield 19, 3) := by decide +kernel
theorem dX8_readAct_75 : decode cX8_readAct 75 = .ok (.iconst 1, 1) := by decide +kernel
theorem dX8_readAct_76 : decode cX8_readAct 76 = .ok (.isub, 1) := by decide +kernel
theorem dX8_readAct_77 : decode cX8_readAct 77 = .ok (.invokevirtual 162, 3) := by decide +kernel
theorem dX8_readAct_80 : decode cX8_readAct 80 = .ok (.iastore, 1) := by decide +kernel
theorem dX8_readAct_81 : decode cX8_readAct 81 = .ok (.aload_n 0, 1) := by decide +kernel
theorem dX8_readAct_82 : decode cX8_readAct 82 = .ok (.getfield 47, 3) := by decide +kernel
theorem dX8_readAct_85 : decode cX8_readAct 85 = .ok (.iload_n 1, 1) := by decide +kernel
theorem dX8_readAct_86 : decode cX8_readAct 86 = .ok (.iconst 1, 1) := by decide +kernel
theorem dX8_readAct_87 : decode cX8_readAct 87 = .ok (.iadd, 1) := by decide +kernel
theorem dX8_readAct_88 : decode cX8_readAct 88 = .ok (.iaload, 1) := by decide +kernel
theorem dX8_readAct_89 : decode cX8_readAct 89 = .ok (.ifCond .lt 7, 3) := by decide +kernel
theorem dX8_readAct_92 : decode cX8_readAct 92 = .ok (.iconst 1, 1) := by decide +kernel
theorem dX8_readAct_93 : decode cX8_readAct 93 = .ok (.goto 4, 3) := by decide +kernel
theorem dX8_readAct_96 : decode cX8_readAct 96 = .ok (.iconst 0, 1) := by decide +kernel
theorem dX8_readAct_97 : decode cX8_readAct 97 = .ok (.ireturn, 1) := by decide +kernel
theorem dX8_readAct_98 : decode cX8_readAct 98 = .ok (.aload_n 0, 1) := by decide +kernel
theorem dX8_readAct_99 : decode cX8_readAct 99 = .ok (.getfield 47, 3) := by decide +kernel
theorem dX8_readAct_102 : decode cX8_readAct 102 = .ok (.iload_n 1, 1) := by decide +kernel
theorem dX8_readAct_103 : decode cX8_readAct 103 = .ok (.iconst 1, 1) := by decide +kernel
theorem dX8_readAct_104 : decode cX8_readAct 104 = .ok (.iadd, 1) := by decide +kernel
theorem dX8_readAct_105 : decode cX8_readAct 105 = .ok (.aload_n 0, 1) := by decide +kernel
theorem dX8_readAct_106 : decode cX8_readAct 106 = .ok (.invokevirtual 131, 3) := by decide +kernel
theorem dX8_readAct_109 : decode cX8_readAct 109 = .ok (.bipush 48, 2) := by decide +kernel
theorem dX8_readAct_111 : decode cX8_readAct 111 = .ok (.isub, 1) := by decide +kernel
theorem dX8_readAct_112 : decode cX8_readAct 112 = .ok (.iastore, 1) := by decide +kernel
theorem dX8_readAct_113 : decode cX8_readAct 113 = .ok (.aload_n 0, 1) := by decide +kernel
theorem dX8_readAct_114 : decode cX8_readAct 114 = .ok (.aload_n 0, 1) := by decide +kernel
theorem dX8_readAct_115 : decode cX8_readAct 115 = .ok (.getfield 47, 3) := by decide +kernel
theorem dX8_readAct_118 : decode cX8_readAct 118 = .ok (.iload_n 1, 1) := by decide +kernel
theorem dX8_readAct_119 : decode cX8_readAct 119 = .ok (.iconst 1, 1) := by decide +kernel
theorem dX8_readAct_120 : decode cX8_readAct 120 = .ok (.iadd, 1) := by decide +kernel
theorem dX8_readAct_121 : decode cX8_readAct 121 = .ok (.iaload, 1) := by decide +kernel
theorem dX8_readAct_122 : decode cX8_readAct 122 = .ok (.invokevirtual 107, 3) := by decide +kernel
theorem dX8_readAct_125 : decode cX8_readAct 125 = .ok (.ifCond .ne 5, 3) := by decide +kernel
theorem dX8_readAct_128 : decode cX8_readAct 128 = .ok (.iconst 0, 1) := by decide +kernel
theorem dX8_readAct_129 : decode cX8_readAct 129 = .ok (.ireturn, 1) := by decide +kernel
theorem dX8_readAct_130 : decode cX8_readAct 130 = .ok (.aload_n 0, 1) := by decide +kernel
theorem dX8_readAct_131 : decode cX8_readAct 131 = .ok (.dup, 1) := by decide +kernel
theorem dX8_readAct_132 : decode cX8_readAct 132 = .ok (.getfield 128, 3) := by decide +kernel
theorem dX8_readAct_135 : decode cX8_readAct 135 = .ok (.iconst 1, 1) := by decide +kernel
theorem dX8_readAct_136 : decode cX8_readAct 136 = .ok (.iadd, 1) := by decide +kernel
theorem dX8_readAct_137 : decode cX8_readAct 137 = .ok (.putfield 128, 3) := by decide +kernel
theorem dX8_readAct_140 : decode cX8_readAct 140 = .ok (.aload_n 0, 1) := by decide +kernel
theorem dX8_readAct_141 : decode cX8_readAct 141 = .ok (.bipush 43, 2) := by decide +kernel
theorem dX8_readAct_143 : decode cX8_readAct 143 = .ok (.invokevirtual 166, 3) := by decide +kernel
theorem dX8_readAct_146 : decode cX8_readAct 146 = .ok (.ifCond .ne 5, 3) := by decide +kernel
theorem dX8_readAct_149 : decode cX8_readAct 149 = .ok (.iconst 0, 1) := by decide +kernel
theorem dX8_readAct_150 : decode cX8_readAct 150 = .ok (.ireturn, 1) := by decide +kernel
theorem dX8_readAct_151 : decode cX8_readAct 151 = .ok (.aload_n 0, 1) := by decide +kernel
theorem dX8_readAct_152 : decode cX8_readAct 152 = .ok (.getfield 47, 3) := by decide +kernel
theorem dX8_readAct_155 : decode cX8_readAct 155 = .ok (.iload_n 1, 1) := by decide +kernel
theorem dX8_readAct_156 : decode cX8_readAct 156 = .ok (.iconst 2, 1) := by decide +kernel
theorem dX8_readAct_157 : decode cX8_readAct 157 = .ok (.iadd, 1) := by decide +kernel
theorem dX8_readAct_158 : decode cX8_readAct 158 = .ok (.aload_n 0, 1) := by decide +kernel
theorem dX8_readAct_159 : decode cX8_readAct 159 = .ok (.iconst 1, 1) := by decide +kernel
theorem dX8_readAct_160 : decode cX8_readAct 160 = .ok (.iload_n 2, 1) := by decide +kernel
theorem dX8_readAct_161 : decode cX8_readAct 161 = .ok (.bipush 119, 2) := by decide +kernel
theorem dX8_readAct_163 : decode cX8_readAct 163 = .ok (.if_icmp .ne 8, 3) := by decide +kernel
theorem dX8_readAct_166 : decode cX8_readAct 166 = .ok (.bipush 99, 2) := by decide +kernel
theorem dX8_readAct_168 : decode cX8_readAct 168 = .ok (.goto 6, 3) := by decide +kernel
theorem dX8_readAct_171 : decode cX8_readAct 171 = .ok (.sipush 719, 3) := by decide +kernel
theorem dX8_readAct_174 : decode cX8_readAct 174 = .ok (.invokevirtual 162, 3) := by decide +kernel
theorem dX8_readAct_177 : decode cX8_readAct 177 = .ok (.iastore, 1) := by decide +kernel
theorem dX8_readAct_178 : decode cX8_readAct 178 = .ok (.aload_n 0, 1) := by decide +kernel
theorem dX8_readAct_179 : decode cX8_readAct 179 = .ok (.getfield 47, 3) := by decide +kernel
theorem dX8_readAct_182 : decode cX8_readAct 182 = .ok (.iload_n 1, 1) := by decide +kernel
theorem dX8_readAct_183 : decode cX8_readAct 183 = .ok (.iconst 2, 1) := by decide +kernel
theorem dX8_readAct_184 : decode cX8_readAct 184 = .ok (.iadd, 1) := by decide +kernel
theorem dX8_readAct_185 : decode cX8_readAct 185 = .ok (.iaload, 1) := by decide +kernel
theorem dX8_readAct_186 : decode cX8_readAct 186 = .ok (.ifCond .lt 7, 3) := by decide +kernel
theorem dX8_readAct_189 : decode cX8_readAct 189 = .ok (.iconst 1, 1) := by decide +kernel
theorem dX8_readAct_190 : decode cX8_readAct 190 = .ok (.goto 4, 3) := by decide +kernel
theorem dX8_readAct_193 : decode cX8_readAct 193 = .ok (.iconst 0, 1) := by decide +kernel
theorem dX8_readAct_194 : decode cX8_readAct 194 = .ok (.ireturn, 1) := by decide +kernel
theorem dX8_readDay_0 : decode cX8_readDay 0 = .ok (.aload_n 0, 1) := by decide +kernel
theorem dX8_readDay_1 : decode cX8_readDay 1 = .ok (.iconst 0, 1) := by decide +kernel
theorem dX8_readDay_2 : decode cX8_readDay 2 = .ok (.putfield 128, 3) := by decide +kernel
theorem dX8_readDay_5 : decode cX8_readDay 5 = .ok (.aload_n 0, 1) := by decide +kernel
theorem dX8_readDay_6 : decode cX8_readDay 6 = .ok (.iconst 0, 1) := by decide +kernel
theorem dX8_readDay_7 : decode cX8_readDay 7 = .ok (.putfield 139, 3) := by decide +kernel
theorem dX8_readDay_10 : decode cX8_readDay 10 = .ok (.iconst 1, 1) := by decide +kernel
theorem dX8_readDay_11 : decode cX8_readDay 11 = .ok (.istore_n 1, 1) := by decide +kernel
theorem dX8_readDay_12 : decode cX8_readDay 12 = .ok (.iload_n 1, 1) := by decide +kernel
theorem dX8_readDay_13 : decode cX8_readDay 13 = .ok (.ifCond .eq 38, 3) := by decide +kernel
theorem dX8_readDay_16 : decode cX8_readDay 16 = .ok (.aload_n 0, 1) := by decide +kernel
theorem dX8_readDay_17 : decode cX8_readDay 17 = .ok (.iconst 3, 1) := by decide +kernel
theorem dX8_readDay_18 : decode cX8_readDay 18 = .ok (.aload_n 0, 1) := by decide +kernel
theorem dX8_readDay_19 : decode cX8_readDay 19 = .ok (.getfield 139, 3) := by decide +kernel
theorem dX8_readDay_22 : decode cX8_readDay 22 = .ok (.imul, 1) := by decide +kernel
theorem dX8_readDay_23 : decode cX8_readDay 23 = .ok (.invokevirtual 176, 3) := by decide +kernel
theorem dX8_readDay_26 : decode cX8_readDay 26 = .ok (.ifCond .ne 5, 3) := by decide +kernel
theorem dX8_readDay_29 : decode cX8_readDay 29 = .ok (.iconst 0, 1) := by decide +kernel
theorem dX8_readDay_30 : decode cX8_readDay 30 = .ok (.ireturn, 1) := by decide +kernel
theorem dX8_readDay_31 : decode cX8_readDay 31 = .ok (.aload_n 0, 1) := by decide +kernel
theorem dX8_readDay_32 : decode cX8_readDay 32 = .ok (.dup, 1) := by decide +kernel
theorem dX8_readDay_33 : decode cX8_readDay 33 = .ok (.getfield 139, 3) := by decide +kernel
theorem dX8_readDay_36 : decode cX8_readDay 36 = .ok (.iconst 1, 1) := by decide +kernel
theorem dX8_readDay_37 : decode cX8_readDay 37 = .ok (.iadd, 1) := by decide +kernel
theorem dX8_readDay_38 : decode cX8_readDay 38 = .ok (.putfield 139, 3) := by decide +kernel
theorem dX8_readDay_41 : decode cX8_readDay 41 = .ok (.aload_n 0, 1) := by decide +kernel
theorem dX8_readDay_42 : decode cX8_readDay 42 = .ok (.bipush 59, 2) := by decide +kernel
theorem dX8_readDay_44 : decode cX8_readDay 44 = .ok (.invokevirtual 166, 3) := by decide +kernel
theorem dX8_readDay_47 : decode cX8_readDay 47 = .ok (.istore_n 1, 1) := by decide +kernel
theorem dX8_readDay_48 : decode cX8_readDay 48 = .ok (.goto (-36), 3) := by decide +kernel
theorem dX8_readDay_51 : decode cX8_readDay 51 = .ok (.aload_n 0, 1) := by decide +kernel
theorem dX8_readDay_52 : decode cX8_readDay 52 = .ok (.invokevirtual 131, 3) := by decide +kernel
theorem dX8_readDay_55 : decode cX8_readDay 55 = .ok (.ifCond .ge 7, 3) := by decide +kernel
theorem dX8_readDay_58 : decode cX8_readDay 58 = .ok (.iconst 1, 1) := by decide +kernel
theorem dX8_readDay_59 : decode cX8_readDay 59 = .ok (.goto 4, 3) := by decide +kernel
theorem dX8_readDay_62 : decode cX8_readDay 62 = .ok (.iconst 0, 1) := by decide +kernel
theorem dX8_readDay_63 : decode cX8_readDay 63 = .ok (.ireturn, 1) := by decide +kernel
theorem dX8_does_0 : decode cX8_does 0 = .ok (.aload_n 0, 1) := by decide +kernel
theorem dX8_does_1 : decode cX8_does 1 = .ok (.getfield 47, 3) := by decide +kernel
theorem dX8_does_4 : decode cX8_does 4 = .ok (.iload_n 1, 1) := by decide +kernel
theorem dX8_does_5 : decode cX8_does 5 = .ok (.iaload, 1) := by decide +kernel
theorem dX8_does_6 : decode cX8_does 6 = .ok (.istore_n 2, 1) := by decide +kernel
theorem dX8_does_7 : decode cX8_does 7 = .ok (.aload_n 0, 1) := by decide +kernel
theorem dX8_does_8 : decode cX8_does 8 = .ok (.getfield 47, 3) := by decide +kernel
theorem dX8_does_11 : decode cX8_does 11 = .ok (.iload_n 1, 1) := by decide +kernel
theorem dX8_does_12 : decode cX8_does 12 = .ok (.iconst 1, 1) := by decide +kernel
theorem dX8_does_13 : decode cX8_does 13 = .ok (.iadd, 1) := by decide +kernel
theorem dX8_does_14 : decode cX8_does 14 = .ok (.iaload, 1) := by decide +kernel
theorem dX8_does_15 : decode cX8_does 15 = .ok (.istore_n 3, 1) := by decide +kernel
theorem dX8_does_16 : decode cX8_does 16 = .ok (.iload_n 2, 1) := by decide +kernel
theorem dX8_does_17 : decode cX8_does 17 = .ok (.bipush 119, 2) := by decide +kernel
theorem dX8_does_19 : decode cX8_does 19 = .ok (.if_icmp .ne 19, 3) := by decide +kernel
theorem dX8_does_22 : decode cX8_does 22 = .ok (.aload_n 0, 1) := by decide +kernel
theorem dX8_does_23 : decode cX8_does 23 = .ok (.iload_n 3, 1) := by decide +kernel
theorem dX8_does_24 : decode cX8_does 24 = .ok (.aload_n 0, 1) := by decide +kernel
theorem dX8_does_25 : decode cX8_does 25 = .ok (.getfield 47, 3) := by decide +kernel
theorem dX8_does_28 : decode cX8_does 28 = .ok (.iload_n 1, 1) := by decide +kernel
theorem dX8_does_29 : decode cX8_does 29 = .ok (.iconst 2, 1) := by decide +kernel
theorem dX8_does_30 : decode cX8_does 30 = .ok (.iadd, 1) := by decide +kernel
theorem dX8_does_31 : decode cX8_does 31 = .ok (.iaload, 1) := by decide +kernel
theorem dX8_does_32 : decode cX8_does 32 = .ok (.invokevirtual 179, 3) := by decide +kernel
theorem dX8_does_35 : decode cX8_does 35 = .ok (.goto 43, 3) := by decide +kernel
theorem dX8_does_38 : decode cX8_does 38 = .ok (.iload_n 2, 1) := by decide +kernel
theorem dX8_does_39 : decode cX8_does 39 = .ok (.bipush 116, 2) := by decide +kernel
theorem dX8_does_41 : decode cX8_does 41 = .ok (.if_icmp .ne 19, 3) := by decide +kernel
theorem dX8_does_44 : decode cX8_does 44 = .ok (.aload_n 0, 1) := by decide +kernel
theorem dX8_does_45 : decode cX8_does 45 = .ok (.iload_n 3, 1) := by decide +kernel
theorem dX8_does_46 : decode cX8_does 46 = .ok (.aload_n 0, 1) := by decide +kernel
theorem dX8_does_47 : decode cX8_does 47 = .ok (.getfield 47, 3) := by decide +kernel
theorem dX8_does_50 : decode cX8_does 50 = .ok (.iload_n 1, 1) := by decide +kernel
theorem dX8_does_51 : decode cX8_does 51 = .ok (.iconst 2, 1) := by decide +kernel
theorem dX8_does_52 : decode cX8_does 52 = .ok (.iadd, 1) := by decide +kernel
theorem dX8_does_53 : decode cX8_does 53 = .ok (.iaload, 1) := by decide +kernel
theorem dX8_does_54 : decode cX8_does 54 = .ok (.invokevirtual 182, 3) := by decide +kernel
theorem dX8_does_57 : decode cX8_does 57 = .ok (.goto 21, 3) := by decide +kernel
theorem dX8_does_60 : decode cX8_does 60 = .ok (.iload_n 2, 1) := by decide +kernel
theorem dX8_does_61 : decode cX8_does 61 = .ok (.bipush 98, 2) := by decide +kernel
theorem dX8_does_63 : decode cX8_does 63 = .ok (.if_icmp .ne 11, 3) := by decide +kernel
theorem dX8_does_66 : decode cX8_does 66 = .ok (.aload_n 0, 1) := by decide +kernel
theorem dX8_does_67 : decode cX8_does 67 = .ok (.iload_n 3, 1) := by decide +kernel
theorem dX8_does_68 : decode cX8_does 68 = .ok (.invokevirtual 185, 3) := by decide +kernel
theorem dX8_does_71 : decode cX8_does 71 = .ok (.goto 7, 3) := by decide +kernel
theorem dX8_does_74 : decode cX8_does 74 = .ok (.aload_n 0, 1) := by decide +kernel
theorem dX8_does_75 : decode cX8_does 75 = .ok (.invokevirtual 188, 3) := by decide +kernel
theorem dX8_does_78 : decode cX8_does 78 = .ok (.ifCond .lt 7, 3) := by decide +kernel
theorem dX8_does_81 : decode cX8_does 81 = .ok (.iconst 1, 1) := by decide +kernel
theorem dX8_does_82 : decode cX8_does 82 = .ok (.goto 4, 3) := by decide +kernel
theorem dX8_does_85 : decode cX8_does 85 = .ok (.iconst 0, 1) := by decide +kernel
theorem dX8_does_86 : decode cX8_does 86 = .ok (.ireturn, 1) := by decide +kernel
theorem dX8_day_0 : decode cX8_day 0 = .ok (.aload_n 0, 1) := by decide +kernel
theorem dX8_day_1 : decode cX8_day 1 = .ok (.aload_n 0, 1) := by decide +kernel
theorem dX8_day_2 : decode cX8_day 2 = .ok (.invokevirtual 191, 3) := by decide +kernel
theorem dX8_day_5 : decode cX8_day 5 = .ok (.invokevirtual 152, 3) := by decide +kernel
theorem dX8_day_8 : decode cX8_day 8 = .ok (.istore_n 1, 1) := by decide +kernel
theorem dX8_day_9 : decode cX8_day 9 = .ok (.iload_n 1, 1) := by decide +kernel
theorem dX8_day_10 : decode cX8_day 10 = .ok (.ifCond .ge 5, 3) := by decide +kernel
theorem dX8_day_13 : decode cX8_day 13 = .ok (.iload_n 1, 1) := by decide +kernel
theorem dX8_day_14 : decode cX8_day 14 = .ok (.ireturn, 1) := by decide +kernel
theorem dX8_day_15 : decode cX8_day 15 = .ok (.aload_n 0, 1) := by decide +kernel
theorem dX8_day_16 : decode cX8_day 16 = .ok (.getfield 139, 3) := by decide +kernel
theorem dX8_day_19 : decode cX8_day 19 = .ok (.istore_n 2, 1) := by decide +kernel
theorem dX8_day_20 : decode cX8_day 20 = .ok (.iconst 0, 1) := by decide +kernel
theorem dX8_day_21 : decode cX8_day 21 = .ok (.istore_n 3, 1) := by decide +kernel
theorem dX8_day_22 : decode cX8_day 22 = .ok (.iload_n 3, 1) := by decide +kernel
theorem dX8_day_23 : decode cX8_day 23 = .ok (.iload_n 2, 1) := by decide +kernel
theorem dX8_day_24 : decode cX8_day 24 = .ok (.if_icmp .ge 21, 3) := by decide +kernel
theorem dX8_day_27 : decode cX8_day 27 = .ok (.aload_n 0, 1) := by decide +kernel
theorem dX8_day_28 : decode cX8_day 28 = .ok (.iconst 3, 1) := by decide +kernel
theorem dX8_day_29 : decode cX8_day 29 = .ok (.iload_n 3, 1) := by decide +kernel
theorem dX8_day_30 : decode cX8_day 30 = .ok (.imul, 1) := by decide +kernel
theorem dX8_day_31 : decode cX8_day 31 = .ok (.invokevirtual 194, 3) := by decide +kernel
theorem dX8_day_34 : decode cX8_day 34 = .ok (.ifCond .ne 5, 3) := by decide +kernel
theorem dX8_day_37 : decode cX8_day 37 = .ok (.iload_n 3, 1) := by decide +kernel
theorem dX8_day_38 : decode cX8_day 38 = .ok (.ireturn, 1) := by decide +kernel
theorem dX8_day_39 : decode cX8_day 39 = .ok (.iinc 3 1, 3) := by decide +kernel
theorem dX8_day_42 : decode cX8_day 42 = .ok (.goto (-20), 3) := by decide +kernel
theorem dX8_day_45 : decode cX8_day 45 = .ok (.iload_n 2, 1) := by decide +kernel
theorem dX8_day_46 : decode cX8_day 46 = .ok (.ireturn, 1) := by decide +kernel
theorem dX8_isAhead_0 : decode cX8_isAhead 0 = .ok (.aload_n 0, 1) := by decide +kernel
theorem dX8_isAhead_1 : decode cX8_isAhead 1 = .ok (.iload_n 1, 1) := by decide +kernel
theorem dX8_isAhead_2 : decode cX8_isAhead 2 = .ok (.invokevirtual 197, 3) := by decide +kernel
theorem dX8_isAhead_5 : decode cX8_isAhead 5 = .ok (.ifCond .eq 38, 3) := by decide +kernel
theorem dX8_isAhead_8 : decode cX8_isAhead 8 = .ok (.aload_n 0, 1) := by decide +kernel
theorem dX8_isAhead_9 : decode cX8_isAhead 9 = .ok (.iload_n 2, 1) := by decide +kernel
theorem dX8_isAhead_10 : decode cX8_isAhead 10 = .ok (.invokevirtual 197, 3) := by decide +kernel
theorem dX8_isAhead_13 : decode cX8_isAhead 13 = .ok (.ifCond .eq 30, 3) := by decide +kernel
theorem dX8_isAhead_16 : decode cX8_isAhead 16 = .ok (.aload_n 0, 1) := by decide +kernel
theorem dX8_isAhead_17 : decode cX8_isAhead 17 = .ok (.getfield 7, 3) := by decide +kernel
theorem dX8_isAhead_20 : decode cX8_isAhead 20 = .ok (.bipush 51, 2) := by decide +kernel
theorem dX8_isAhead_22 : decode cX8_isAhead 22 = .ok (.iload_n 1, 1) := by decide +kernel
theorem dX8_isAhead_23 : decode cX8_isAhead 23 = .ok (.iadd, 1) := by decide +kernel
theorem dX8_isAhead_24 : decode cX8_isAhead 24 = .ok (.iaload, 1) := by decide +kernel
theorem dX8_isAhead_25 : decode cX8_isAhead 25 = .ok (.aload_n 0, 1) := by decide +kernel
theorem dX8_isAhead_26 : decode cX8_isAhead 26 = .ok (.getfield 7, 3) := by decide +kernel
theorem dX8_isAhead_29 : decode cX8_isAhead 29 = .ok (.bipush 51, 2) := by decide +kernel
theorem dX8_isAhead_31 : decode cX8_isAhead 31 = .ok (.iload_n 2, 1) := by decide +kernel
theorem dX8_isAhead_32 : decode cX8_isAhead 32 = .ok (.iadd, 1) := by decide +kernel
theorem dX8_isAhead_33 : decode cX8_isAhead 33 = .ok (.iaload, 1) := by decide +kernel
theorem dX8_isAhead_34 : decode cX8_isAhead 34 = .ok (.if_icmp .ge 7, 3) := by decide +kernel
theorem dX8_isAhead_37 : decode cX8_isAhead 37 = .ok (.iconst 1, 1) := by decide +kernel
theorem dX8_isAhead_38 : decode cX8_isAhead 38 = .ok (.goto 4, 3) := by decide +kernel
theorem dX8_isAhead_41 : decode cX8_isAhead 41 = .ok (.iconst 0, 1) := by decide +kernel
theorem dX8_isAhead_42 : decode cX8_isAhead 42 = .ok (.ireturn, 1) := by decide +kernel
theorem dX8_isAhead_43 : decode cX8_isAhead 43 = .ok (.aload_n 0, 1) := by decide +kernel
theorem dX8_isAhead_44 : decode cX8_isAhead 44 = .ok (.iload_n 1, 1) := by decide +kernel
theorem dX8_isAhead_45 : decode cX8_isAhead 45 = .ok (.invokevirtual 197, 3) := by decide +kernel
theorem dX8_isAhead_48 : decode cX8_isAhead 48 = .ok (.ifCond .ne 32, 3) := by decide +kernel
theorem dX8_isAhead_51 : decode cX8_isAhead 51 = .ok (.aload_n 0, 1) := by decide +kernel
theorem dX8_isAhead_52 : decode cX8_isAhead 52 = .ok (.iload_n 2, 1) := by decide +kernel
theorem dX8_isAhead_53 : decode cX8_isAhead 53 = .ok (.invokevirtual 197, 3) := by decide +kernel
theorem dX8_isAhead_56 : decode cX8_isAhead 56 = .ok (.ifCond .ne 28, 3) := by decide +kernel
theorem dX8_isAhead_59 : decode cX8_isAhead 59 = .ok (.aload_n 0, 1) := by decide +kernel
theorem dX8_isAhead_60 : decode cX8_isAhead 60 = .ok (.getfield 7, 3) := by decide +kernel
theorem dX8_isAhead_63 : decode cX8_isAhead 63 = .ok (.bipush 42, 2) := by decide +kernel
theorem dX8_isAhead_65 : decode cX8_isAhead 65 = .ok (.iload_n 1, 1) := by decide +kernel
theorem dX8_isAhead_66 : decode cX8_isAhead 66 = .ok (.iadd, 1) := by decide +kernel
theorem dX8_isAhead_67 : decode cX8_isAhead 67 = .ok (.iaload, 1) := by decide +kernel
theorem dX8_isAhead_68 : decode cX8_isAhead 68 = .ok (.aload_n 0, 1) := by decide +kernel
theorem dX8_isAhead_69 : decode cX8_isAhead 69 = .ok (.getfield 7, 3) := by decide +kernel
theorem dX8_isAhead_72 : decode cX8_isAhead 72 = .ok (.bipush 42, 2) := by decide +kernel
theorem dX8_isAhead_74 : decode cX8_isAhead 74 = .ok (.iload_n 2, 1) := by decide +kernel
theorem dX8_isAhead_75 : decode cX8_isAhead 75 = .ok (.iadd, 1) := by decide +kernel
theorem dX8_isAhead_76 : decode cX8_isAhead 76 = .ok (.iaload, 1) := by decide +kernel
theorem dX8_isAhead_77 : decode cX8_isAhead 77 = .ok (.if_icmp .le 7, 3) := by decide +kernel
theorem dX8_isAhead_80 : decode cX8_isAhead 80 = .ok (.iconst 1, 1) := by decide +kernel
theorem dX8_isAhead_81 : decode cX8_isAhead 81 = .ok (.goto 4, 3) := by decide +kernel
theorem dX8_isAhead_84 : decode cX8_isAhead 84 = .ok (.iconst 0, 1) := by decide +kernel
theorem dX8_isAhead_85 : decode cX8_isAhead 85 = .ok (.ireturn, 1) := by decide +kernel
theorem dX8_placeOf_0 : decode cX8_placeOf 0 = .ok (.iconst 1, 1) := by decide +kernel
theorem dX8_placeOf_1 : decode cX8_placeOf 1 = .ok (.istore_n 2, 1) := by decide +kernel
theorem dX8_placeOf_2 : decode cX8_placeOf 2 = .ok (.iconst 0, 1) := by decide +kernel
theorem dX8_placeOf_3 : decode cX8_placeOf 3 = .ok (.istore_n 3, 1) := by decide +kernel
theorem dX8_placeOf_4 : decode cX8_placeOf 4 = .ok (.iload_n 3, 1) := by decide +kernel
theorem dX8_placeOf_5 : decode cX8_placeOf 5 = .ok (.aload_n 0, 1) := by decide +kernel
theorem dX8_placeOf_6 : decode cX8_placeOf 6 = .ok (.getfield 72, 3) := by decide +kernel
theorem dX8_placeOf_9 : decode cX8_placeOf 9 = .ok (.if_icmp .ge 31, 3) := by decide +kernel
theorem dX8_placeOf_12 : decode cX8_placeOf 12 = .ok (.iload_n 2, 1) := by decide +kernel
theorem dX8_placeOf_13 : decode cX8_placeOf 13 = .ok (.iload_n 3, 1) := by decide +kernel
theorem dX8_placeOf_14 : decode cX8_placeOf 14 = .ok (.iload_n 1, 1) := by decide +kernel
theorem dX8_placeOf_15 : decode cX8_placeOf 15 = .ok (.if_icmp .eq 16, 3) := by decide +kernel
theorem dX8_placeOf_18 : decode cX8_placeOf 18 = .ok (.aload_n 0, 1) := by decide +kernel
theorem dX8_placeOf_19 : decode cX8_placeOf 19 = .ok (.iload_n 3, 1) := by decide +kernel
theorem dX8_placeOf_20 : decode cX8_placeOf 20 = .ok (.iload_n 1, 1) := by decide +kernel
theorem dX8_placeOf_21 : decode cX8_placeOf 21 = .ok (.invokevirtual 200, 3) := by decide +kernel
theorem dX8_placeOf_24 : decode cX8_placeOf 24 = .ok (.ifCond .eq 7, 3) := by decide +kernel
theorem dX8_placeOf_27 : decode cX8_placeOf 27 = .ok (.iconst 1, 1) := by decide +kernel
theorem dX8_placeOf_28 : decode cX8_placeOf 28 = .ok (.goto 4, 3) := by decide +kernel
theorem dX8_placeOf_31 : decode cX8_placeOf 31 = .ok (.iconst 0, 1) := by decide +kernel
theorem dX8_placeOf_32 : decode cX8_placeOf 32 = .ok (.iadd, 1) := by decide +kernel
theorem dX8_placeOf_33 : decode cX8_placeOf 33 = .ok (.istore_n 2, 1) := by decide +kernel
theorem dX8_placeOf_34 : decode cX8_placeOf 34 = .ok (.iinc 3 1, 3) := by decide +kernel
theorem dX8_placeOf_37 : decode cX8_placeOf 37 = .ok (.goto (-33), 3) := by decide +kernel
theorem dX8_placeOf_40 : decode cX8_placeOf 40 = .ok (.iload_n 2, 1) := by decide +kernel
theorem dX8_placeOf_41 : decode cX8_placeOf 41 = .ok (.ireturn, 1) := by decide +kernel
theorem dX8_place_0 : decode cX8_place 0 = .ok (.aload_n 0, 1) := by decide +kernel
theorem dX8_place_1 : decode cX8_place 1 = .ok (.iload_n 1, 1) := by decide +kernel
theorem dX8_place_2 : decode cX8_place 2 = .ok (.invokevirtual 107, 3) := by decide +kernel
theorem dX8_place_5 : decode cX8_place 5 = .ok (.ifCond .eq 11, 3) := by decide +kernel
theorem dX8_place_8 : decode cX8_place 8 = .ok (.aload_n 0, 1) := by decide +kernel
theorem dX8_place_9 : decode cX8_place 9 = .ok (.iload_n 1, 1) := by decide +kernel
theorem dX8_place_10 : decode cX8_place 10 = .ok (.invokevirtual 204, 3) := by decide +kernel
theorem dX8_place_13 : decode cX8_place 13 = .ok (.goto 4, 3) := by decide +kernel
theorem dX8_place_16 : decode cX8_place 16 = .ok (.iconst (-1), 1) := by decide +kernel
theorem dX8_place_17 : decode cX8_place 17 = .ok (.ireturn, 1) := by decide +kernel
theorem dX8_homes_0 : decode cX8_homes 0 = .ok (.iconst 0, 1) := by decide +kernel
theorem dX8_homes_1 : decode cX8_homes 1 = .ok (.istore_n 1, 1) := by decide +kernel
theorem dX8_homes_2 : decode cX8_homes 2 = .ok (.iconst 0, 1) := by decide +kernel
theorem dX8_homes_3 : decode cX8_homes 3 = .ok (.istore_n 2, 1) := by decide +kernel
theorem dX8_homes_4 : decode cX8_homes 4 = .ok (.iload_n 2, 1) := by decide +kernel
theorem dX8_homes_5 : decode cX8_homes 5 = .ok (.aload_n 0, 1) := by decide +kernel
theorem dX8_homes_6 : decode cX8_homes 6 = .ok (.getfield 72, 3) := by decide +kernel
theorem dX8_homes_9 : decode cX8_homes 9 = .ok (.if_icmp .ge 25, 3) := by decide +kernel
theorem dX8_homes_12 : decode cX8_homes 12 = .ok (.iload_n 1, 1) := by decide +kernel
theorem dX8_homes_13 : decode cX8_homes 13 = .ok (.aload_n 0, 1) := by decide +kernel
theorem dX8_homes_14 : decode cX8_homes 14 = .ok (.iload_n 2, 1) := by decide +kernel
theorem dX8_homes_15 : decode cX8_homes 15 = .ok (.invokevirtual 197, 3) := by decide +kernel
theorem dX8_homes_18 : decode cX8_homes 18 = .ok (.ifCond .eq 7, 3) := by decide +kernel
theorem dX8_homes_21 : decode cX8_homes 21 = .ok (.iconst 1, 1) := by decide +kernel
theorem dX8_homes_22 : decode cX8_homes 22 = .ok (.goto 4, 3) := by decide +kernel
theorem dX8_homes_25 : decode cX8_homes 25 = .ok (.iconst 0, 1) := by decide +kernel
theorem dX8_homes_26 : decode cX8_homes 26 = .ok (.iadd, 1) := by decide +kernel
theorem dX8_homes_27 : decode cX8_homes 27 = .ok (.istore_n 1, 1) := by decide +kernel
theorem dX8_homes_28 : decode cX8_homes 28 = .ok (.iinc 2 1, 3) := by decide +kernel
theorem dX8_homes_31 : decode cX8_homes 31 = .ok (.goto (-27), 3) := by decide +kernel
theorem dX8_homes_34 : decode cX8_homes 34 = .ok (.iload_n 1, 1) := by decide +kernel
theorem dX8_homes_35 : decode cX8_homes 35 = .ok (.ireturn, 1) := by decide +kernel
theorem dX8_tied_0 : decode cX8_tied 0 = .ok (.iconst 0, 1) := by decide +kernel
theorem dX8_tied_1 : decode cX8_tied 1 = .ok (.istore_n 1, 1) := by decide +kernel
theorem dX8_tied_2 : decode cX8_tied 2 = .ok (.iconst 0, 1) := by decide +kernel
theorem dX8_tied_3 : decode cX8_tied 3 = .ok (.istore_n 2, 1) := by decide +kernel
theorem dX8_tied_4 : decode cX8_tied 4 = .ok (.iload_n 2, 1) := by decide +kernel
theorem dX8_tied_5 : decode cX8_tied 5 = .ok (.aload_n 0, 1) := by decide +kernel
theorem dX8_tied_6 : decode cX8_tied 6 = .ok (.getfield 72, 3) := by decide +kernel
theorem dX8_tied_9 : decode cX8_tied 9 = .ok (.if_icmp .ge 48, 3) := by decide +kernel
theorem dX8_tied_12 : decode cX8_tied 12 = .ok (.iconst 0, 1) := by decide +kernel
theorem dX8_tied_13 : decode cX8_tied 13 = .ok (.istore_n 3, 1) := by decide +kernel
theorem dX8_tied_14 : decode cX8_tied 14 = .ok (.iload_n 3, 1) := by decide +kernel
theorem dX8_tied_15 : decode cX8_tied 15 = .ok (.iload_n 2, 1) := by decide +kernel
theorem dX8_tied_16 : decode cX8_tied 16 = .ok (.if_icmp .ge 35, 3) := by decide +kernel
theorem dX8_tied_19 : decode cX8_tied 19 = .ok (.iload_n 1, 1) := by decide +kernel
theorem dX8_tied_20 : decode cX8_tied 20 = .ok (.aload_n 0, 1) := by decide +kernel
theorem dX8_tied_21 : decode cX8_tied 21 = .ok (.iload_n 2, 1) := by decide +kernel
theorem dX8_tied_22 : decode cX8_tied 22 = .ok (.iload_n 3, 1) := by decide +kernel
theorem dX8_tied_23 : decode cX8_tied 23 = .ok (.invokevirtual 200, 3) := by decide +kernel
theorem dX8_tied_26 : decode cX8_tied 26 = .ok (.ifCond .ne 16, 3) := by decide +kernel
theorem dX8_tied_29 : decode cX8_tied 29 = .ok (.aload_n 0, 1) := by decide +kernel
theorem dX8_tied_30 : decode cX8_tied 30 = .ok (.iload_n 3, 1) := by decide +kernel
theorem dX8_tied_31 : decode cX8_tied 31 = .ok (.iload_n 2, 1) := by decide +kernel
theorem dX8_tied_32 : decode cX8_tied 32 = .ok (.invokevirtual 200, 3) := by decide +kernel
theorem dX8_tied_35 : decode cX8_tied 35 = .ok (.ifCond .ne 7, 3) := by decide +kernel
theorem dX8_tied_38 : decode cX8_tied 38 = .ok (.iconst 1, 1) := by decide +kernel
theorem dX8_tied_39 : decode cX8_tied 39 = .ok (.goto 4, 3) := by decide +kernel
theorem dX8_tied_42 : decode cX8_tied 42 = .ok (.iconst 0, 1) := by decide +kernel
theorem dX8_tied_43 : decode cX8_tied 43 = .ok (.iadd, 1) := by decide +kernel
theorem dX8_tied_44 : decode cX8_tied 44 = .ok (.istore_n 1, 1) := by decide +kernel
theorem dX8_tied_45 : decode cX8_tied 45 = .ok (.iinc 3 1, 3) := by decide +kernel
theorem dX8_tied_48 : decode cX8_tied 48 = .ok (.goto (-34), 3) := by decide +kernel
theorem dX8_tied_51 : decode cX8_tied 51 = .ok (.iinc 2 1, 3) := by decide +kernel
theorem dX8_tied_54 : decode cX8_tied 54 = .ok (.goto (-50), 3) := by decide +kernel
theorem dX8_tied_57 : decode cX8_tied 57 = .ok (.iload_n 1, 1) := by decide +kernel
theorem dX8_tied_58 : decode cX8_tied 58 = .ok (.ireturn, 1) := by decide +kernel
theorem dX8_count_0 : decode cX8_count 0 = .ok (.iload_n 1, 1) := by decide +kernel
theorem dX8_count_1 : decode cX8_count 1 = .ok (.tableswitch 93 0 7 #[47, 52, 57, 65, 70, 78, 83, 88], 47) := by decide +kernel
theorem dX8_count_48 : decode cX8_count 48 = .ok (.aload_n 0, 1) := by decide +kernel
theorem dX8_count_49 : decode cX8_count 49 = .ok (.getfield 19, 3) := by decide +kernel
theorem dX8_count_52 : decode cX8_count 52 = .ok (.ireturn, 1) := by decide +kernel
theorem dX8_count_53 : decode cX8_count 53 = .ok (.aload_n 0, 1) := by decide +kernel
theorem dX8_count_54 : decode cX8_count 54 = .ok (.getfield 72, 3) := by decide +kernel
theorem dX8_count_57 : decode cX8_count 57 = .ok (.ireturn, 1) := by decide +kernel
theorem dX8_count_58 : decode cX8_count 58 = .ok (.aload_n 0, 1) := by decide +kernel
theorem dX8_count_59 : decode cX8_count 59 = .ok (.getfield 7, 3) := by decide +kernel
theorem dX8_count_62 : decode cX8_count 62 = .ok (.bipush 60, 2) := by decide +kernel
theorem dX8_count_64 : decode cX8_count 64 = .ok (.iaload, 1) := by decide +kernel
theorem dX8_count_65 : decode cX8_count 65 = .ok (.ireturn, 1) := by decide +kernel
theorem dX8_count_66 : decode cX8_count 66 = .ok (.aload_n 0, 1) := by decide +kernel
theorem dX8_count_67 : decode cX8_count 67 = .ok (.invokevirtual 207, 3) := by decide +kernel
theorem dX8_count_70 : decode cX8_count 70 = .ok (.ireturn, 1) := by decide +kernel
theorem dX8_count_71 : decode cX8_count 71 = .ok (.aload_n 0, 1) := by decide +kernel
theorem dX8_count_72 : decode cX8_count 72 = .ok (.getfield 7, 3) := by decide +kernel
theorem dX8_count_75 : decode cX8_count 75 = .ok (.bipush 62, 2) := by decide +kernel
theorem dX8_count_77 : decode cX8_count 77 = .ok (.iaload, 1) := by decide +kernel
theorem dX8_count_78 : decode cX8_count 78 = .ok (.ireturn, 1) := by decide +kernel
theorem dX8_count_79 : decode cX8_count 79 = .ok (.aload_n 0, 1) := by decide +kernel
theorem dX8_count_80 : decode cX8_count 80 = .ok (.getfield 93, 3) := by decide +kernel
theorem dX8_count_83 : decode cX8_count 83 = .ok (.ireturn, 1) := by decide +kernel
theorem dX8_count_84 : decode cX8_count 84 = .ok (.aload_n 0, 1) := by decide +kernel
theorem dX8_count_85 : decode cX8_count 85 = .ok (.getfield 96, 3) := by decide +kernel
theorem dX8_count_88 : decode cX8_count 88 = .ok (.ireturn, 1) := by decide +kernel
theorem dX8_count_89 : decode cX8_count 89 = .ok (.aload_n 0, 1) := by decide +kernel
theorem dX8_count_90 : decode cX8_count 90 = .ok (.invokevirtual 210, 3) := by decide +kernel
theorem dX8_count_93 : decode cX8_count 93 = .ok (.ireturn, 1) := by decide +kernel
theorem dX8_count_94 : decode cX8_count 94 = .ok (.iconst (-1), 1) := by decide +kernel
theorem dX8_count_95 : decode cX8_count 95 = .ok (.ireturn, 1) := by decide +kernel
theorem dX8_heard_0 : decode cX8_heard 0 = .ok (.aload_n 0, 1) := by decide +kernel
theorem dX8_heard_1 : decode cX8_heard 1 = .ok (.getfield 7, 3) := by decide +kernel
theorem dX8_heard_4 : decode cX8_heard 4 = .ok (.bipush 61, 2) := by decide +kernel
theorem dX8_heard_6 : decode cX8_heard 6 = .ok (.iaload, 1) := by decide +kernel
theorem dX8_heard_7 : decode cX8_heard 7 = .ok (.ireturn, 1) := by decide +kernel
theorem dX8_goes_0 : decode cX8_goes 0 = .ok (.aload_n 0, 1) := by decide +kernel
theorem dX8_goes_1 : decode cX8_goes 1 = .ok (.getfield 13, 3) := by decide +kernel
theorem dX8_goes_4 : decode cX8_goes 4 = .ok (.iload_n 1, 1) := by decide +kernel
theorem dX8_goes_5 : decode cX8_goes 5 = .ok (.iaload, 1) := by decide +kernel
theorem dX8_goes_6 : decode cX8_goes 6 = .ok (.iconst 3, 1) := by decide +kernel
theorem dX8_goes_7 : decode cX8_goes 7 = .ok (.if_icmp .ne 9, 3) := by decide +kernel
theorem dX8_goes_10 : decode cX8_goes 10 = .ok (.iload_n 2, 1) := by decide +kernel
theorem dX8_goes_11 : decode cX8_goes 11 = .ok (.ifCond .eq 5, 3) := by decide +kernel
theorem dX8_goes_14 : decode cX8_goes 14 = .ok (.iconst 0, 1) := by decide +kernel
theorem dX8_goes_15 : decode cX8_goes 15 = .ok (.ireturn, 1) := by decide +kernel
theorem dX8_goes_16 : decode cX8_goes 16 = .ok (.aload_n 0, 1) := by decide +kernel
theorem dX8_goes_17 : decode cX8_goes 17 = .ok (.getfield 7, 3) := by decide +kernel
theorem dX8_goes_20 : decode cX8_goes 20 = .ok (.aload_n 0, 1) := by decide +kernel
theorem dX8_goes_21 : decode cX8_goes 21 = .ok (.getfield 7, 3) := by decide +kernel
theorem dX8_goes_24 : decode cX8_goes 24 = .ok (.bipush 42, 2) := by decide +kernel
theorem dX8_goes_26 : decode cX8_goes 26 = .ok (.iload_n 1, 1) := by decide +kernel
theorem dX8_goes_27 : decode cX8_goes 27 = .ok (.iadd, 1) := by decide +kernel
theorem dX8_goes_28 : decode cX8_goes 28 = .ok (.iaload, 1) := by decide +kernel
theorem dX8_goes_29 : decode cX8_goes 29 = .ok (.iconst 1, 1) := by decide +kernel
theorem dX8_goes_30 : decode cX8_goes 30 = .ok (.iadd, 1) := by decide +kernel
theorem dX8_goes_31 : decode cX8_goes 31 = .ok (.iaload, 1) := by decide +kernel
theorem dX8_goes_32 : decode cX8_goes 32 = .ok (.istore_n 3, 1) := by decide +kernel
theorem dX8_goes_33 : decode cX8_goes 33 = .ok (.iload_n 3, 1) := by decide +kernel
theorem dX8_goes_34 : decode cX8_goes 34 = .ok (.bipush 12, 2) := by decide +kernel
theorem dX8_goes_36 : decode cX8_goes 36 = .ok (.if_icmp .eq 35, 3) := by decide +kernel
theorem dX8_goes_39 : decode cX8_goes 39 = .ok (.iload_n 3, 1) := by decide +kernel
theorem dX8_goes_40 : decode cX8_goes 40 = .ok (.aload_n 0, 1) := by decide +kernel
theorem dX8_goes_41 : decode cX8_goes 41 = .ok (.iload_n 1, 1) := by decide +kernel
theorem dX8_goes_42 : decode cX8_goes 42 = .ok (.invokevirtual 111, 3) := by decide +kernel
theorem dX8_goes_45 : decode cX8_goes 45 = .ok (.if_icmp .eq 26, 3) := by decide +kernel
theorem dX8_goes_48 : decode cX8_goes 48 = .ok (.aload_n 0, 1) := by decide +kernel
theorem dX8_goes_49 : decode cX8_goes 49 = .ok (.getfield 13, 3) := by decide +kernel
theorem dX8_goes_52 : decode cX8_goes 52 = .ok (.iload_n 1, 1) := by decide +kernel
theorem dX8_goes_53 : decode cX8_goes 53 = .ok (.iaload, 1) := by decide +kernel
theorem dX8_goes_54 : decode cX8_goes 54 = .ok (.iconst 5, 1) := by decide +kernel
theorem dX8_goes_55 : decode cX8_goes 55 = .ok (.if_icmp .ne 20, 3) := by decide +kernel
theorem dX8_goes_58 : decode cX8_goes 58 = .ok (.aload_n 0, 1) := by decide +kernel
theorem dX8_goes_59 : decode cX8_goes 59 = .ok (.getfield 7, 3) := by decide +kernel
theorem dX8_goes_62 : decode cX8_goes 62 = .ok (.bipush 60, 2) := by decide +kernel
theorem dX8_goes_64 : decode cX8_goes 64 = .ok (.iaload, 1) := by decide +kernel
theorem dX8_goes_65 : decode cX8_goes 65 = .ok (.bipush 6, 2) := by decide +kernel
theorem dX8_goes_67 : decode cX8_goes 67 = .ok (.irem, 1) := by decide +kernel
theorem dX8_goes_68 : decode cX8_goes 68 = .ok (.ifCond .ne 7, 3) := by decide +kernel
theorem dX8_goes_71 : decode cX8_goes 71 = .ok (.iconst 1, 1) := by decide +kernel
theorem dX8_goes_72 : decode cX8_goes 72 = .ok (.goto 4, 3) := by decide +kernel
theorem dX8_goes_75 : decode cX8_goes 75 = .ok (.iconst 0, 1) := by decide +kernel
theorem dX8_goes_76 : decode cX8_goes 76 = .ok (.ireturn, 1) := by decide +kernel
theorem dX8_run_0 : decode cX8_run 0 = .ok (.aload_n 0, 1) := by decide +kernel
theorem dX8_run_1 : decode cX8_run 1 = .ok (.getfield 13, 3) := by decide +kernel
theorem dX8_run_4 : decode cX8_run 4 = .ok (.iload_n 1, 1) := by decide +kernel
theorem dX8_run_5 : decode cX8_run 5 = .ok (.iaload, 1) := by decide +kernel
theorem dX8_run_6 : decode cX8_run 6 = .ok (.iconst 2, 1) := by decide +kernel
theorem dX8_run_7 : decode cX8_run 7 = .ok (.if_icmp .eq 74, 3) := by decide +kernel
theorem dX8_run_10 : decode cX8_run 10 = .ok (.aload_n 0, 1) := by decide +kernel
theorem dX8_run_11 : decode cX8_run 11 = .ok (.getfield 13, 3) := by decide +kernel
theorem dX8_run_14 : decode cX8_run 14 = .ok (.iload_n 1, 1) := by decide +kernel
theorem dX8_run_15 : decode cX8_run 15 = .ok (.iaload, 1) := by decide +kernel
theorem dX8_run_16 : decode cX8_run 16 = .ok (.iconst 3, 1) := by decide +kernel
theorem dX8_run_17 : decode cX8_run 17 = .ok (.if_icmp .eq 64, 3) := by decide +kernel
theorem dX8_run_20 : decode cX8_run 20 = .ok (.aload_n 0, 1) := by decide +kernel
theorem dX8_run_21 : decode cX8_run 21 = .ok (.getfield 7, 3) := by decide +kernel
theorem dX8_run_24 : decode cX8_run 24 = .ok (.bipush 33, 2) := by decide +kernel
theorem dX8_run_26 : decode cX8_run 26 = .ok (.iload_n 1, 1) := by decide +kernel
theorem dX8_run_27 : decode cX8_run 27 = .ok (.iadd, 1) := by decide +kernel
theorem dX8_run_28 : decode cX8_run 28 = .ok (.iaload, 1) := by decide +kernel
theorem dX8_run_29 : decode cX8_run 29 = .ok (.ifCond .le 52, 3) := by decide +kernel
theorem dX8_run_32 : decode cX8_run 32 = .ok (.aload_n 0, 1) := by decide +kernel
theorem dX8_run_33 : decode cX8_run 33 = .ok (.getfield 7, 3) := by decide +kernel
theorem dX8_run_36 : decode cX8_run 36 = .ok (.bipush 24, 2) := by decide +kernel
theorem dX8_run_38 : decode cX8_run 38 = .ok (.iload_n 1, 1) := by decide +kernel
theorem dX8_run_39 : decode cX8_run 39 = .ok (.iadd, 1) := by decide +kernel
theorem dX8_run_40 : decode cX8_run 40 = .ok (.aload_n 0, 1) := by decide +kernel
theorem dX8_run_41 : decode cX8_run 41 = .ok (.getfield 7, 3) := by decide +kernel
theorem dX8_run_44 : decode cX8_run 44 = .ok (.bipush 24, 2) := by decide +kernel
theorem dX8_run_46 : decode cX8_run 46 = .ok (.iload_n 1, 1) := by decide +kernel
theorem dX8_run_47 : decode cX8_run 47 = .ok (.iadd, 1) := by decide +kernel
theorem dX8_run_48 : decode cX8_run 48 = .ok (.iaload, 1) := by decide +kernel
theorem dX8_run_49 : decode cX8_run 49 = .ok (.bipush 60, 2) := by decide +kernel
theorem dX8_run_51 : decode cX8_run 51 = .ok (.iadd, 1) := by decide +kernel
theorem dX8_run_52 : decode cX8_run 52 = .ok (.aload_n 0, 1) := by decide +kernel
theorem dX8_run_53 : decode cX8_run 53 = .ok (.getfield 16, 3) := by decide +kernel
theorem dX8_run_56 : decode cX8_run 56 = .ok (.iload_n 1, 1) := by decide +kernel
theorem dX8_run_57 : decode cX8_run 57 = .ok (.iaload, 1) := by decide +kernel
theorem dX8_run_58 : decode cX8_run 58 = .ok (.iadd, 1) := by decide +kernel
theorem dX8_run_59 : decode cX8_run 59 = .ok (.sipush 720, 3) := by decide +kernel
theorem dX8_run_62 : decode cX8_run 62 = .ok (.iadd, 1) := by decide +kernel
theorem dX8_run_63 : decode cX8_run 63 = .ok (.sipush 720, 3) := by decide +kernel
theorem dX8_run_66 : decode cX8_run 66 = .ok (.irem, 1) := by decide +kernel
theorem dX8_run_67 : decode cX8_run 67 = .ok (.iastore, 1) := by decide +kernel
theorem dX8_run_68 : decode cX8_run 68 = .ok (.aload_n 0, 1) := by decide +kernel
theorem dX8_run_69 : decode cX8_run 69 = .ok (.getfield 7, 3) := by decide +kernel
theorem dX8_run_72 : decode cX8_run 72 = .ok (.bipush 33, 2) := by decide +kernel
theorem dX8_run_74 : decode cX8_run 74 = .ok (.iload_n 1, 1) := by decide +kernel
theorem dX8_run_75 : decode cX8_run 75 = .ok (.iadd, 1) := by decide +kernel
theorem dX8_run_76 : decode cX8_run 76 = .ok (.dup2, 1) := by decide +kernel
theorem dX8_run_77 : decode cX8_run 77 = .ok (.iaload, 1) := by decide +kernel
theorem dX8_run_78 : decode cX8_run 78 = .ok (.iconst 1, 1) := by decide +kernel
theorem dX8_run_79 : decode cX8_run 79 = .ok (.isub, 1) := by decide +kernel
theorem dX8_run_80 : decode cX8_run 80 = .ok (.iastore, 1) := by decide +kernel
theorem dX8_run_81 : decode cX8_run 81 = .ok (.return_, 1) := by decide +kernel
theorem dX8_goOn_0 : decode cX8_goOn 0 = .ok (.iconst 0, 1) := by decide +kernel
theorem dX8_goOn_1 : decode cX8_goOn 1 = .ok (.istore_n 2, 1) := by decide +kernel
theorem dX8_goOn_2 : decode cX8_goOn 2 = .ok (.aload_n 0, 1) := by decide +kernel
theorem dX8_goOn_3 : decode cX8_goOn 3 = .ok (.getfield 7, 3) := by decide +kernel
theorem dX8_goOn_6 : decode cX8_goOn 6 = .ok (.bipush 61, 2) := by decide +kernel
theorem dX8_goOn_8 : decode cX8_goOn 8 = .ok (.iconst 0, 1) := by decide +kernel
theorem dX8_goOn_9 : decode cX8_goOn 9 = .ok (.iastore, 1) := by decide +kernel
theorem dX8_goOn_10 : decode cX8_goOn 10 = .ok (.aload_n 0, 1) := by decide +kernel
theorem dX8_goOn_11 : decode cX8_goOn 11 = .ok (.getfield 7, 3) := by decide +kernel
theorem dX8_goOn_14 : decode cX8_goOn 14 = .ok (.bipush 62, 2) := by decide +kernel
theorem dX8_goOn_16 : decode cX8_goOn 16 = .ok (.iconst 0, 1) := by decide +kernel
theorem dX8_goOn_17 : decode cX8_goOn 17 = .ok (.iastore, 1) := by decide +kernel
theorem dX8_goOn_18 : decode cX8_goOn 18 = .ok (.iconst 0, 1) := by decide +kernel
theorem dX8_goOn_19 : decode cX8_goOn 19 = .ok (.istore_n 3, 1) := by decide +kernel
theorem dX8_goOn_20 : decode cX8_goOn 20 = .ok (.iload_n 3, 1) := by decide +kernel
theorem dX8_goOn_21 : decode cX8_goOn 21 = .ok (.aload_n 0, 1) := by decide +kernel
theorem dX8_goOn_22 : decode cX8_goOn 22 = .ok (.getfield 72, 3) := by decide +kernel
theorem dX8_goOn_25 : decode cX8_goOn 25 = .ok (.if_icmp .ge 161, 3) := by decide +kernel
theorem dX8_goOn_28 : decode cX8_goOn 28 = .ok (.aload_n 0, 1) := by decide +kernel
theorem dX8_goOn_29 : decode cX8_goOn 29 = .ok (.iload_n 3, 1) := by decide +kernel
theorem dX8_goOn_30 : decode cX8_goOn 30 = .ok (.invokevirtual 197, 3) := by decide +kernel
theorem dX8_goOn_33 : decode cX8_goOn 33 = .ok (.ifCond .ne 147, 3) := by decide +kernel
theorem dX8_goOn_36 : decode cX8_goOn 36 = .ok (.aload_n 0, 1) := by decide +kernel
theorem dX8_goOn_37 : decode cX8_goOn 37 = .ok (.iload_n 3, 1) := by decide +kernel
theorem dX8_goOn_38 : decode cX8_goOn 38 = .ok (.iload_n 1, 1) := by decide +kernel
theorem dX8_goOn_39 : decode cX8_goOn 39 = .ok (.invokevirtual 213, 3) := by decide +kernel
theorem dX8_goOn_42 : decode cX8_goOn 42 = .ok (.ifCond .eq 138, 3) := by decide +kernel
theorem dX8_goOn_45 : decode cX8_goOn 45 = .ok (.aload_n 0, 1) := by decide +kernel
theorem dX8_goOn_46 : decode cX8_goOn 46 = .ok (.getfield 7, 3) := by decide +kernel
theorem dX8_goOn_49 : decode cX8_goOn 49 = .ok (.bipush 42, 2) := by decide +kernel
theorem dX8_goOn_51 : decode cX8_goOn 51 = .ok (.iload_n 3, 1) := by decide +kernel
theorem dX8_goOn_52 : decode cX8_goOn 52 = .ok (.iadd, 1) := by decide +kernel
theorem dX8_goOn_53 : decode cX8_goOn 53 = .ok (.iaload, 1) := by decide +kernel
theorem dX8_goOn_54 : decode cX8_goOn 54 = .ok (.istore 4, 2) := by decide +kernel
theorem dX8_goOn_56 : decode cX8_goOn 56 = .ok (.aload_n 0, 1) := by decide +kernel
theorem dX8_goOn_57 : decode cX8_goOn 57 = .ok (.iload_n 3, 1) := by decide +kernel
theorem dX8_goOn_58 : decode cX8_goOn 58 = .ok (.invokevirtual 111, 3) := by decide +kernel
theorem dX8_goOn_61 : decode cX8_goOn 61 = .ok (.istore 5, 2) := by decide +kernel
theorem dX8_goOn_63 : decode cX8_goOn 63 = .ok (.aload_n 0, 1) := by decide +kernel
theorem dX8_goOn_64 : decode cX8_goOn 64 = .ok (.getfield 13, 3) := by decide +kernel
theorem dX8_goOn_67 : decode cX8_goOn 67 = .ok (.iload_n 3, 1) := by decide +kernel
theorem dX8_goOn_68 : decode cX8_goOn 68 = .ok (.iaload, 1) := by decide +kernel
theorem dX8_goOn_69 : decode cX8_goOn 69 = .ok (.iconst 1, 1) := by decide +kernel
theorem dX8_goOn_70 : decode cX8_goOn 70 = .ok (.if_icmp .ne 15, 3) := by decide +kernel
theorem dX8_goOn_73 : decode cX8_goOn 73 = .ok (.iload_n 1, 1) := by decide +kernel
theorem dX8_goOn_74 : decode cX8_goOn 74 = .ok (.iconst 1, 1) := by decide +kernel
theorem dX8_goOn_75 : decode cX8_goOn 75 = .ok (.if_icmp .ne 10, 3) := by decide +kernel
theorem dX8_goOn_78 : decode cX8_goOn 78 = .ok (.iload 4, 2) := by decide +kernel
theorem dX8_goOn_80 : decode cX8_goOn 80 = .ok (.iconst 2, 1) := by decide +kernel
theorem dX8_goOn_81 : decode cX8_goOn 81 = .ok (.iadd, 1) := by decide +kernel
theorem dX8_goOn_82 : decode cX8_goOn 82 = .ok (.goto 7, 3) := by decide +kernel
theorem dX8_goOn_85 : decode cX8_goOn 85 = .ok (.iload 4, 2) := by decide +kernel
theorem dX8_goOn_87 : decode cX8_goOn 87 = .ok (.iconst 1, 1) := by decide +kernel
theorem dX8_goOn_88 : decode cX8_goOn 88 = .ok (.iadd, 1) := by decide +kernel
theorem dX8_goOn_89 : decode cX8_goOn 89 = .ok (.istore 6, 2) := by decide +kernel
theorem dX8_goOn_91 : decode cX8_goOn 91 = .ok (.aload_n 0, 1) := by decide +kernel
theorem dX8_goOn_92 : decode cX8_goOn 92 = .ok (.getfield 7, 3) := by decide +kernel
theorem dX8_goOn_95 : decode cX8_goOn 95 = .ok (.iload 4, 2) := by decide +kernel
theorem dX8_goOn_97 : decode cX8_goOn 97 = .ok (.iload 5, 2) := by decide +kernel
theorem dX8_goOn_99 : decode cX8_goOn 99 = .ok (.iastore, 1) := by decide +kernel
theorem dX8_goOn_100 : decode cX8_goOn 100 = .ok (.aload_n 0, 1) := by decide +kernel
theorem dX8_goOn_101 : decode cX8_goOn 101 = .ok (.getfield 7, 3) := by decide +kernel
theorem dX8_goOn_104 : decode cX8_goOn 104 = .ok (.bipush 42, 2) := by decide +kernel
theorem dX8_goOn_106 : decode cX8_goOn 106 = .ok (.iload_n 3, 1) := by decide +kernel
theorem dX8_goOn_107 : decode cX8_goOn 107 = .ok (.iadd, 1) := by decide +kernel
theorem dX8_goOn_108 : decode cX8_goOn 108 = .ok (.iload 6, 2) := by decide +kernel
theorem dX8_goOn_110 : decode cX8_goOn 110 = .ok (.aload_n 0, 1) := by decide +kernel
theorem dX8_goOn_111 : decode cX8_goOn 111 = .ok (.getfield 19, 3) := by decide +kernel
theorem dX8_goOn_114 : decode cX8_goOn 114 = .ok (.iconst 1, 1) := by decide +kernel
theorem dX8_goOn_115 : decode cX8_goOn 115 = .ok (.isub, 1) := by decide +kernel
theorem dX8_goOn_116 : decode cX8_goOn 116 = .ok (.if_icmp .le 12, 3) := by decide +kernel
theorem dX8_goOn_119 : decode cX8_goOn 119 = .ok (.aload_n 0, 1) := by decide +kernel
theorem dX8_goOn_120 : decode cX8_goOn 120 = .ok (.getfield 19, 3) := by decide +kernel
theorem dX8_goOn_123 : decode cX8_goOn 123 = .ok (.iconst 1, 1) := by decide +kernel
theorem dX8_goOn_124 : decode cX8_goOn 124 = .ok (.isub, 1) := by decide +kernel
theorem dX8_goOn_125 : decode cX8_goOn 125 = .ok (.goto 5, 3) := by decide +kernel
theorem dX8_goOn_128 : decode cX8_goOn 128 = .ok (.iload 6, 2) := by decide +kernel
theorem dX8_goOn_130 : decode cX8_goOn 130 = .ok (.iastore, 1) := by decide +kernel
theorem dX8_goOn_131 : decode cX8_goOn 131 = .ok (.aload_n 0, 1) := by decide +kernel
theorem dX8_goOn_132 : decode cX8_goOn 132 = .ok (.getfield 7, 3) := by decide +kernel
theorem dX8_goOn_135 : decode cX8_goOn 135 = .ok (.bipush 61, 2) := by decide +kernel
theorem dX8_goOn_137 : decode cX8_goOn 137 = .ok (.dup2, 1) := by decide +kernel
theorem dX8_goOn_138 : decode cX8_goOn 138 = .ok (.iaload, 1) := by decide +kernel
theorem dX8_goOn_139 : decode cX8_goOn 139 = .ok (.iload_n 1, 1) := by decide +kernel
theorem dX8_goOn_140 : decode cX8_goOn 140 = .ok (.iconst 2, 1) := by decide +kernel
theorem dX8_goOn_141 : decode cX8_goOn 141 = .ok (.if_icmp .ne 7, 3) := by decide +kernel
theorem dX8_goOn_144 : decode cX8_goOn 144 = .ok (.iconst 0, 1) := by decide +kernel
theorem dX8_goOn_145 : decode cX8_goOn 145 = .ok (.goto 6, 3) := by decide +kernel
theorem dX8_goOn_148 : decode cX8_goOn 148 = .ok (.iconst 1, 1) := by decide +kernel
theorem dX8_goOn_149 : decode cX8_goOn 149 = .ok (.iload_n 3, 1) := by decide +kernel
theorem dX8_goOn_150 : decode cX8_goOn 150 = .ok (.ishl, 1) := by decide +kernel
theorem dX8_goOn_151 : decode cX8_goOn 151 = .ok (.ior, 1) := by decide +kernel
theorem dX8_goOn_152 : decode cX8_goOn 152 = .ok (.iastore, 1) := by decide +kernel
theorem dX8_goOn_153 : decode cX8_goOn 153 = .ok (.aload_n 0, 1) := by decide +kernel
theorem dX8_goOn_154 : decode cX8_goOn 154 = .ok (.getfield 7, 3) := by decide +kernel
theorem dX8_goOn_157 : decode cX8_goOn 157 = .ok (.bipush 62, 2) := by decide +kernel
theorem dX8_goOn_159 : decode cX8_goOn 159 = .ok (.dup2, 1) := by decide +kernel
theorem dX8_goOn_160 : decode cX8_goOn 160 = .ok (.iaload, 1) := by decide +kernel
theorem dX8_goOn_161 : decode cX8_goOn 161 = .ok (.iload_n 1, 1) := by decide +kernel
theorem dX8_goOn_162 : decode cX8_goOn 162 = .ok (.iconst 2, 1) := by decide +kernel
theorem dX8_goOn_163 : decode cX8_goOn 163 = .ok (.if_icmp .ne 7, 3) := by decide +kernel
theorem dX8_goOn_166 : decode cX8_goOn 166 = .ok (.iconst 0, 1) := by decide +kernel
theorem dX8_goOn_167 : decode cX8_goOn 167 = .ok (.goto 8, 3) := by decide +kernel
theorem dX8_goOn_170 : decode cX8_goOn 170 = .ok (.iload 5, 2) := by decide +kernel
theorem dX8_goOn_172 : decode cX8_goOn 172 = .ok (.invokestatic 216, 3) := by decide +kernel
theorem dX8_goOn_175 : decode cX8_goOn 175 = .ok (.iadd, 1) := by decide +kernel
theorem dX8_goOn_176 : decode cX8_goOn 176 = .ok (.iastore, 1) := by decide +kernel
theorem dX8_goOn_177 : decode cX8_goOn 177 = .ok (.iinc 2 1, 3) := by decide +kernel
theorem dX8_goOn_180 : decode cX8_goOn 180 = .ok (.iinc 3 1, 3) := by decide +kernel
theorem dX8_goOn_183 : decode cX8_goOn 183 = .ok (.goto (-163), 3) := by decide +kernel
theorem dX8_goOn_186 : decode cX8_goOn 186 = .ok (.iconst 0, 1) := by decide +kernel
theorem dX8_goOn_187 : decode cX8_goOn 187 = .ok (.istore_n 3, 1) := by decide +kernel
theorem dX8_goOn_188 : decode cX8_goOn 188 = .ok (.iload_n 3, 1) := by decide +kernel
theorem dX8_goOn_189 : decode cX8_goOn 189 = .ok (.aload_n 0, 1) := by decide +kernel
theorem dX8_goOn_190 : decode cX8_goOn 190 = .ok (.getfield 72, 3) := by decide +kernel
theorem dX8_goOn_193 : decode cX8_goOn 193 = .ok (.if_icmp .ge 14, 3) := by decide +kernel
theorem dX8_goOn_196 : decode cX8_goOn 196 = .ok (.aload_n 0, 1) := by decide +kernel
theorem dX8_goOn_197 : decode cX8_goOn 197 = .ok (.iload_n 3, 1) := by decide +kernel
theorem dX8_goOn_198 : decode cX8_goOn 198 = .ok (.invokevirtual 219, 3) := by decide +kernel
theorem dX8_goOn_201 : decode cX8_goOn 201 = .ok (.iinc 3 1, 3) := by decide +kernel
theorem dX8_goOn_204 : decode cX8_goOn 204 = .ok (.goto (-16), 3) := by decide +kernel
theorem dX8_goOn_207 : decode cX8_goOn 207 = .ok (.aload_n 0, 1) := by decide +kernel
theorem dX8_goOn_208 : decode cX8_goOn 208 = .ok (.getfield 7, 3) := by decide +kernel
theorem dX8_goOn_211 : decode cX8_goOn 211 = .ok (.bipush 60, 2) := by decide +kernel
theorem dX8_goOn_213 : decode cX8_goOn 213 = .ok (.dup2, 1) := by decide +kernel
theorem dX8_goOn_214 : decode cX8_goOn 214 = .ok (.iaload, 1) := by decide +kernel
theorem dX8_goOn_215 : decode cX8_goOn 215 = .ok (.iconst 1, 1) := by decide +kernel
theorem dX8_goOn_216 : decode cX8_goOn 216 = .ok (.iadd, 1) := by decide +kernel
theorem dX8_goOn_217 : decode cX8_goOn 217 = .ok (.iastore, 1) := by decide +kernel
theorem dX8_goOn_218 : decode cX8_goOn 218 = .ok (.iconst 0, 1) := by decide +kernel
theorem dX8_goOn_219 : decode cX8_goOn 219 = .ok (.istore_n 3, 1) := by decide +kernel
theorem dX8_goOn_220 : decode cX8_goOn 220 = .ok (.iload_n 3, 1) := by decide +kernel
theorem dX8_goOn_221 : decode cX8_goOn 221 = .ok (.aload_n 0, 1) := by decide +kernel
theorem dX8_goOn_222 : decode cX8_goOn 222 = .ok (.getfield 72, 3) := by decide +kernel
theorem dX8_goOn_225 : decode cX8_goOn 225 = .ok (.if_icmp .ge 59, 3) := by decide +kernel
theorem dX8_goOn_228 : decode cX8_goOn 228 = .ok (.aload_n 0, 1) := by decide +kernel
theorem dX8_goOn_229 : decode cX8_goOn 229 = .ok (.getfield 7, 3) := by decide +kernel
theorem dX8_goOn_232 : decode cX8_goOn 232 = .ok (.bipush 51, 2) := by decide +kernel
theorem dX8_goOn_234 : decode cX8_goOn 234 = .ok (.iload_n 3, 1) := by decide +kernel
theorem dX8_goOn_235 : decode cX8_goOn 235 = .ok (.iadd, 1) := by decide +kernel
theorem dX8_goOn_236 : decode cX8_goOn 236 = .ok (.aload_n 0, 1) := by decide +kernel
theorem dX8_goOn_237 : decode cX8_goOn 237 = .ok (.iload_n 3, 1) := by decide +kernel
theorem dX8_goOn_238 : decode cX8_goOn 238 = .ok (.invokevirtual 197, 3) := by decide +kernel
theorem dX8_goOn_241 : decode cX8_goOn 241 = .ok (.ifCond .eq 27, 3) := by decide +kernel
theorem dX8_goOn_244 : decode cX8_goOn 244 = .ok (.aload_n 0, 1) := by decide +kernel
theorem dX8_goOn_245 : decode cX8_goOn 245 = .ok (.getfield 7, 3) := by decide +kernel
theorem dX8_goOn_248 : decode cX8_goOn 248 = .ok (.bipush 51, 2) := by decide +kernel
theorem dX8_goOn_250 : decode cX8_goOn 250 = .ok (.iload_n 3, 1) := by decide +kernel
theorem dX8_goOn_251 : decode cX8_goOn 251 = .ok (.iadd, 1) := by decide +kernel
theorem dX8_goOn_252 : decode cX8_goOn 252 = .ok (.iaload, 1) := by decide +kernel
theorem dX8_goOn_253 : decode cX8_goOn 253 = .ok (.bipush (-4), 2) := by decide +kernel
theorem dX8_goOn_255 : decode cX8_goOn 255 = .ok (.if_icmp .ne 13, 3) := by decide +kernel
theorem dX8_goOn_258 : decode cX8_goOn 258 = .ok (.aload_n 0, 1) := by decide +kernel
theorem dX8_goOn_259 : decode cX8_goOn 259 = .ok (.getfield 7, 3) := by decide +kernel
theorem dX8_goOn_262 : decode cX8_goOn 262 = .ok (.bipush 60, 2) := by decide +kernel
theorem dX8_goOn_264 : decode cX8_goOn 264 = .ok (.iaload, 1) := by decide +kernel
theorem dX8_goOn_265 : decode cX8_goOn 265 = .ok (.goto 12, 3) := by decide +kernel
theorem dX8_goOn_268 : decode cX8_goOn 268 = .ok (.aload_n 0, 1) := by decide +kernel
theorem dX8_goOn_269 : decode cX8_goOn 269 = .ok (.getfield 7, 3) := by decide +kernel
theorem dX8_goOn_272 : decode cX8_goOn 272 = .ok (.bipush 51, 2) := by decide +kernel
theorem dX8_goOn_274 : decode cX8_goOn 274 = .ok (.iload_n 3, 1) := by decide +kernel
theorem dX8_goOn_275 : decode cX8_goOn 275 = .ok (.iadd, 1) := by decide +kernel
theorem dX8_goOn_276 : decode cX8_goOn 276 = .ok (.iaload, 1) := by decide +kernel
theorem dX8_goOn_277 : decode cX8_goOn 277 = .ok (.iastore, 1) := by decide +kernel
theorem dX8_goOn_278 : decode cX8_goOn 278 = .ok (.iinc 3 1, 3) := by decide +kernel
theorem dX8_goOn_281 : decode cX8_goOn 281 = .ok (.goto (-61), 3) := by decide +kernel
theorem dX8_goOn_284 : decode cX8_goOn 284 = .ok (.iload_n 2, 1) := by decide +kernel
theorem dX8_goOn_285 : decode cX8_goOn 285 = .ok (.ireturn, 1) := by decide +kernel
theorem dX8_skyNow_0 : decode cX8_skyNow 0 = .ok (.aload_n 0, 1) := by decide +kernel
theorem dX8_skyNow_1 : decode cX8_skyNow 1 = .ok (.getfield 29, 3) := by decide +kernel
theorem dX8_skyNow_4 : decode cX8_skyNow 4 = .ok (.ifCond .lt 10, 3) := by decide +kernel
theorem dX8_skyNow_7 : decode cX8_skyNow 7 = .ok (.aload_n 0, 1) := by decide +kernel
theorem dX8_skyNow_8 : decode cX8_skyNow 8 = .ok (.getfield 29, 3) := by decide +kernel
theorem dX8_skyNow_11 : decode cX8_skyNow 11 = .ok (.goto 20, 3) := by decide +kernel
theorem dX8_skyNow_14 : decode cX8_skyNow 14 = .ok (.aload_n 0, 1) := by decide +kernel
theorem dX8_skyNow_15 : decode cX8_skyNow 15 = .ok (.getfield 23, 3) := by decide +kernel
theorem dX8_skyNow_18 : decode cX8_skyNow 18 = .ok (.aload_n 0, 1) := by decide +kernel
theorem dX8_skyNow_19 : decode cX8_skyNow 19 = .ok (.getfield 7, 3) := by decide +kernel
theorem dX8_skyNow_22 : decode cX8_skyNow 22 = .ok (.bipush 60, 2) := by decide +kernel
theorem dX8_skyNow_24 : decode cX8_skyNow 24 = .ok (.iaload, 1) := by decide +kernel
theorem dX8_skyNow_25 : decode cX8_skyNow 25 = .ok (.aload_n 0, 1) := by decide +kernel
theorem dX8_skyNow_26 : decode cX8_skyNow 26 = .ok (.getfield 26, 3) := by decide +kernel
theorem dX8_skyNow_29 : decode cX8_skyNow 29 = .ok (.irem, 1) := by decide +kernel
theorem dX8_skyNow_30 : decode cX8_skyNow 30 = .ok (.iaload, 1) := by decide +kernel
theorem dX8_skyNow_31 : decode cX8_skyNow 31 = .ok (.ireturn, 1) := by decide +kernel
theorem dX8_hour_0 : decode cX8_hour 0 = .ok (.aload_n 0, 1) := by decide +kernel
theorem dX8_hour_1 : decode cX8_hour 1 = .ok (.getfield 7, 3) := by decide +kernel
theorem dX8_hour_4 : decode cX8_hour 4 = .ok (.bipush 60, 2) := by decide +kernel
theorem dX8_hour_6 : decode cX8_hour 6 = .ok (.iaload, 1) := by decide +kernel
theorem dX8_hour_7 : decode cX8_hour 7 = .ok (.sipush 9999, 3) := by decide +kernel
theorem dX8_hour_10 : decode cX8_hour 10 = .ok (.if_icmp .ne 8, 3) := by decide +kernel
theorem dX8_hour_13 : decode cX8_hour 13 = .ok (.bipush (-3), 2) := by decide +kernel
theorem dX8_hour_15 : decode cX8_hour 15 = .ok (.goto 11, 3) := by decide +kernel
theorem dX8_hour_18 : decode cX8_hour 18 = .ok (.aload_n 0, 1) := by decide +kernel
theorem dX8_hour_19 : decode cX8_hour 19 = .ok (.aload_n 0, 1) := by decide +kernel
theorem dX8_hour_20 : decode cX8_hour 20 = .ok (.invokevirtual 223, 3) := by decide +kernel
theorem dX8_hour_23 : decode cX8_hour 23 = .ok (.invokevirtual 226, 3) := by decide +kernel
theorem dX8_hour_26 : decode cX8_hour 26 = .ok (.ireturn, 1) := by decide +kernel
theorem dX8_note_0 : decode cX8_note 0 = .ok (.aload_n 0, 1) := by decide +kernel
theorem dX8_note_1 : decode cX8_note 1 = .ok (.getfield 96, 3) := by decide +kernel
theorem dX8_note_4 : decode cX8_note 4 = .ok (.bipush 10, 2) := by decide +kernel
theorem dX8_note_6 : decode cX8_note 6 = .ok (.if_icmp .ne 45, 3) := by decide +kernel
theorem dX8_note_9 : decode cX8_note 9 = .ok (.iconst 0, 1) := by decide +kernel
theorem dX8_note_10 : decode cX8_note 10 = .ok (.istore 4, 2) := by decide +kernel
theorem dX8_note_12 : decode cX8_note 12 = .ok (.iload 4, 2) := by decide +kernel
theorem dX8_note_14 : decode cX8_note 14 = .ok (.bipush 27, 2) := by decide +kernel
theorem dX8_note_16 : decode cX8_note 16 = .ok (.if_icmp .ge 25, 3) := by decide +kernel
theorem dX8_note_19 : decode cX8_note 19 = .ok (.aload_n 0, 1) := by decide +kernel
theorem dX8_note_20 : decode cX8_note 20 = .ok (.getfield 38, 3) := by decide +kernel
theorem dX8_note_23 : decode cX8_note 23 = .ok (.iload 4, 2) := by decide +kernel
theorem dX8_note_25 : decode cX8_note 25 = .ok (.aload_n 0, 1) := by decide +kernel
theorem dX8_note_26 : decode cX8_note 26 = .ok (.getfield 38, 3) := by decide +kernel
theorem dX8_note_29 : decode cX8_note 29 = .ok (.iload 4, 2) := by decide +kernel
theorem dX8_note_31 : decode cX8_note 31 = .ok (.iconst 3, 1) := by decide +kernel
theorem dX8_note_32 : decode cX8_note 32 = .ok (.iadd, 1) := by decide +kernel
theorem dX8_note_33 : decode cX8_note 33 = .ok (.iaload, 1) := by decide +kernel
theorem dX8_note_34 : decode cX8_note 34 = .ok (.iastore, 1) := by decide +kernel
theorem dX8_note_35 : decode cX8_note 35 = .ok (.iinc 4 1, 3) := by decide +kernel
theorem dX8_note_38 : decode cX8_note 38 = .ok (.goto (-26), 3) := by decide +kernel
theorem dX8_note_41 : decode cX8_note 41 = .ok (.aload_n 0, 1) := by decide +kernel
theorem dX8_note_42 : decode cX8_note 42 = .ok (.dup, 1) := by decide +kernel
theorem dX8_note_43 : decode cX8_note 43 = .ok (.getfield 96, 3) := by decide +kernel
theorem dX8_note_46 : decode cX8_note 46 = .ok (.iconst 1, 1) := by decide +kernel
theorem dX8_note_47 : decode cX8_note 47 = .ok (.isub, 1) := by decide +kernel
theorem dX8_note_48 : decode cX8_note 48 = .ok (.putfield 96, 3) := by decide +kernel
theorem dX8_note_51 : decode cX8_note 51 = .ok (.aload_n 0, 1) := by decide +kernel
theorem dX8_note_52 : decode cX8_note 52 = .ok (.getfield 38, 3) := by decide +kernel
theorem dX8_note_55 : decode cX8_note 55 = .ok (.iconst 3, 1) := by decide +kernel
theorem dX8_note_56 : decode cX8_note 56 = .ok (.aload_n 0, 1) := by decide +kernel
theorem dX8_note_57 : decode cX8_note 57 = .ok (.getfield 96, 3) := by decide +kernel
theorem dX8_note_60 : decode cX8_note 60 = .ok (.imul, 1) := by decide +kernel
theorem dX8_note_61 : decode cX8_note 61 = .ok (.iload_n 1, 1) := by decide +kernel
theorem dX8_note_62 : decode cX8_note 62 = .ok (.iastore, 1) := by decide +kernel
theorem dX8_note_63 : decode cX8_note 63 = .ok (.aload_n 0, 1) := by decide +kernel
theorem dX8_note_64 : decode cX8_note 64 = .ok (.getfield 38, 3) := by decide +kernel
theorem dX8_note_67 : decode cX8_note 67 = .ok (.iconst 3, 1) := by decide +kernel
theorem dX8_note_68 : decode cX8_note 68 = .ok (.aload_n 0, 1) := by decide +kernel
theorem dX8_note_69 : decode cX8_note 69 = .ok (.getfield 96, 3) := by decide +kernel
theorem dX8_note_72 : decode cX8_note 72 = .ok (.imul, 1) := by decide +kernel
theorem dX8_note_73 : decode cX8_note 73 = .ok (.iconst 1, 1) := by decide +kernel
theorem dX8_note_74 : decode cX8_note 74 = .ok (.iadd, 1) := by decide +kernel
theorem dX8_note_75 : decode cX8_note 75 = .ok (.iload_n 2, 1) := by decide +kernel
theorem dX8_note_76 : decode cX8_note 76 = .ok (.iastore, 1) := by decide +kernel
theorem dX8_note_77 : decode cX8_note 77 = .ok (.aload_n 0, 1) := by decide +kernel
theorem dX8_note_78 : decode cX8_note 78 = .ok (.getfield 38, 3) := by decide +kernel
theorem dX8_note_81 : decode cX8_note 81 = .ok (.iconst 3, 1) := by decide +kernel
theorem dX8_note_82 : decode cX8_note 82 = .ok (.aload_n 0, 1) := by decide +kernel
theorem dX8_note_83 : decode cX8_note 83 = .ok (.getfield 96, 3) := by decide +kernel
theorem dX8_note_86 : decode cX8_note 86 = .ok (.imul, 1) := by decide +kernel
theorem dX8_note_87 : decode cX8_note 87 = .ok (.iconst 2, 1) := by decide +kernel
theorem dX8_note_88 : decode cX8_note 88 = .ok (.iadd, 1) := by decide +kernel
theorem dX8_note_89 : decode cX8_note 89 = .ok (.iload_n 3, 1) := by decide +kernel
theorem dX8_note_90 : decode cX8_note 90 = .ok (.iastore, 1) := by decide +kernel
theorem dX8_note_91 : decode cX8_note 91 = .ok (.aload_n 0, 1) := by decide +kernel
theorem dX8_note_92 : decode cX8_note 92 = .ok (.dup, 1) := by decide +kernel
theorem dX8_note_93 : decode cX8_note 93 = .ok (.getfield 96, 3) := by decide +kernel
theorem dX8_note_96 : decode cX8_note 96 = .ok (.iconst 1, 1) := by decide +kernel
theorem dX8_note_97 : decode cX8_note 97 = .ok (.iadd, 1) := by decide +kernel
theorem dX8_note_98 : decode cX8_note 98 = .ok (.putfield 96, 3) := by decide +kernel
theorem dX8_note_101 : decode cX8_note 101 = .ok (.return_, 1) := by decide +kernel
theorem dX8_wind_0 : decode cX8_wind 0 = .ok (.aload_n 0, 1) := by decide +kernel
theorem dX8_wind_1 : decode cX8_wind 1 = .ok (.iload_n 1, 1) := by decide +kernel
theorem dX8_wind_2 : decode cX8_wind 2 = .ok (.invokevirtual 107, 3) := by decide +kernel
theorem dX8_wind_5 : decode cX8_wind 5 = .ok (.ifCond .eq 15, 3) := by decide +kernel
theorem dX8_wind_8 : decode cX8_wind 8 = .ok (.iload_n 2, 1) := by decide +kernel
theorem dX8_wind_9 : decode cX8_wind 9 = .ok (.i2l, 1) := by decide +kernel
theorem dX8_wind_10 : decode cX8_wind 10 = .ok (.lconst 1, 1) := by decide +kernel
theorem dX8_wind_11 : decode cX8_wind 11 = .ok (.ldc2_w 87, 3) := by decide +kernel
theorem dX8_wind_14 : decode cX8_wind 14 = .ok (.invokestatic 75, 3) := by decide +kernel
theorem dX8_wind_17 : decode cX8_wind 17 = .ok (.ifCond .ne 5, 3) := by decide +kernel
theorem dX8_wind_20 : decode cX8_wind 20 = .ok (.iconst (-1), 1) := by decide +kernel
theorem dX8_wind_21 : decode cX8_wind 21 = .ok (.ireturn, 1) := by decide +kernel
theorem dX8_wind_22 : decode cX8_wind 22 = .ok (.aload_n 0, 1) := by decide +kernel
theorem dX8_wind_23 : decode cX8_wind 23 = .ok (.iconst 0, 1) := by decide +kernel
theorem dX8_wind_24 : decode cX8_wind 24 = .ok (.iload_n 1, 1) := by decide +kernel
theorem dX8_wind_25 : decode cX8_wind 25 = .ok (.aload_n 0, 1) := by decide +kernel
theorem dX8_wind_26 : decode cX8_wind 26 = .ok (.getfield 7, 3) := by decide +kernel
theorem dX8_wind_29 : decode cX8_wind 29 = .ok (.bipush 33, 2) := by decide +kernel
theorem dX8_wind_31 : decode cX8_wind 31 = .ok (.iload_n 1, 1) := by decide +kernel
theorem dX8_wind_32 : decode cX8_wind 32 = .ok (.iadd, 1) := by decide +kernel
theorem dX8_wind_33 : decode cX8_wind 33 = .ok (.iaload, 1) := by decide +kernel
theorem dX8_wind_34 : decode cX8_wind 34 = .ok (.invokevirtual 229, 3) := by decide +kernel
theorem dX8_wind_37 : decode cX8_wind 37 = .ok (.aload_n 0, 1) := by decide +kernel
theorem dX8_wind_38 : decode cX8_wind 38 = .ok (.iload_n 1, 1) := by decide +kernel
theorem dX8_wind_39 : decode cX8_wind 39 = .ok (.iload_n 2, 1) := by decide +kernel
theorem dX8_wind_40 : decode cX8_wind 40 = .ok (.invokevirtual 233, 3) := by decide +kernel
theorem dX8_wind_43 : decode cX8_wind 43 = .ok (.aload_n 0, 1) := by decide +kernel
theorem dX8_wind_44 : decode cX8_wind 44 = .ok (.getfield 7, 3) := by decide +kernel
theorem dX8_wind_47 : decode cX8_wind 47 = .ok (.bipush 33, 2) := by decide +kernel
theorem dX8_wind_49 : decode cX8_wind 49 = .ok (.iload_n 1, 1) := by decide +kernel
theorem dX8_wind_50 : decode cX8_wind 50 = .ok (.iadd, 1) := by decide +kernel
theorem dX8_wind_51 : decode cX8_wind 51 = .ok (.iaload, 1) := by decide +kernel
theorem dX8_wind_52 : decode cX8_wind 52 = .ok (.ireturn, 1) := by decide +kernel
theorem dX8_addSpring_0 : decode cX8_addSpring 0 = .ok (.aload_n 0, 1) := by decide +kernel
theorem dX8_addSpring_1 : decode cX8_addSpring 1 = .ok (.getfield 7, 3) := by decide +kernel
theorem dX8_addSpring_4 : decode cX8_addSpring 4 = .ok (.bipush 33, 2) := by decide +kernel
theorem dX8_addSpring_6 : decode cX8_addSpring 6 = .ok (.iload_n 1, 1) := by decide +kernel
theorem dX8_addSpring_7 : decode cX8_addSpring 7 = .ok (.iadd, 1) := by decide +kernel
theorem dX8_addSpring_8 : decode cX8_addSpring 8 = .ok (.aload_n 0, 1) := by decide +kernel
theorem dX8_addSpring_9 : decode cX8_addSpring 9 = .ok (.getfield 7, 3) := by decide +kernel
theorem dX8_addSpring_12 : decode cX8_addSpring 12 = .ok (.bipush 33, 2) := by decide +kernel
theorem dX8_addSpring_14 : decode cX8_addSpring 14 = .ok (.iload_n 1, 1) := by decide +kernel
theorem dX8_addSpring_15 : decode cX8_addSpring 15 = .ok (.iadd, 1) := by decide +kernel
theorem dX8_addSpring_16 : decode cX8_addSpring 16 = .ok (.iaload, 1) := by decide +kernel
theorem dX8_addSpring_17 : decode cX8_addSpring 17 = .ok (.iload_n 2, 1) := by decide +kernel
theorem dX8_addSpring_18 : decode cX8_addSpring 18 = .ok (.iadd, 1) := by decide +kernel
theorem dX8_addSpring_19 : decode cX8_addSpring 19 = .ok (.bipush 99, 2) := by decide +kernel
theorem dX8_addSpring_21 : decode cX8_addSpring 21 = .ok (.if_icmp .le 8, 3) := by decide +kernel
theorem dX8_addSpring_24 : decode cX8_addSpring 24 = .ok (.bipush 99, 2) := by decide +kernel
theorem dX8_addSpring_26 : decode cX8_addSpring 26 = .ok (.goto 14, 3) := by decide +kernel
theorem dX8_addSpring_29 : decode cX8_addSpring 29 = .ok (.aload_n 0, 1) := by decide +kernel
theorem dX8_addSpring_30 : decode cX8_addSpring 30 = .ok (.getfield 7, 3) := by decide +kernel
theorem dX8_addSpring_33 : decode cX8_addSpring 33 = .ok (.bipush 33, 2) := by decide +kernel
theorem dX8_addSpring_35 : decode cX8_addSpring 35 = .ok (.iload_n 1, 1) := by decide +kernel
theorem dX8_addSpring_36 : decode cX8_addSpring 36 = .ok (.iadd, 1) := by decide +kernel
theorem dX8_addSpring_37 : decode cX8_addSpring 37 = .ok (.iaload, 1) := by decide +kernel
theorem dX8_addSpring_38 : decode cX8_addSpring 38 = .ok (.iload_n 2, 1) := by decide +kernel
theorem dX8_addSpring_39 : decode cX8_addSpring 39 = .ok (.iadd, 1) := by decide +kernel
theorem dX8_addSpring_40 : decode cX8_addSpring 40 = .ok (.iastore, 1) := by decide +kernel
theorem dX8_addSpring_41 : decode cX8_addSpring 41 = .ok (.return_, 1) := by decide +kernel
theorem dX8_addHands_0 : decode cX8_addHands 0 = .ok (.aload_n 0, 1) := by decide +kernel
theorem dX8_addHands_1 : decode cX8_addHands 1 = .ok (.getfield 7, 3) := by decide +kernel
theorem dX8_addHands_4 : decode cX8_addHands 4 = .ok (.bipush 24, 2) := by decide +kernel
theorem dX8_addHands_6 : decode cX8_addHands 6 = .ok (.iload_n 1, 1) := by decide +kernel
theorem dX8_addHands_7 : decode cX8_addHands 7 = .ok (.iadd, 1) := by decide +kernel
theorem dX8_addHands_8 : decode cX8_addHands 8 = .ok (.aload_n 0, 1) := by decide +kernel
theorem dX8_addHands_9 : decode cX8_addHands 9 = .ok (.getfield 7, 3) := by decide +kernel
theorem dX8_addHands_12 : decode cX8_addHands 12 = .ok (.bipush 24, 2) := by decide +kernel
theorem dX8_addHands_14 : decode cX8_addHands 14 = .ok (.iload_n 1, 1) := by decide +kernel
theorem dX8_addHands_15 : decode cX8_addHands 15 = .ok (.iadd, 1) := by decide +kernel
theorem dX8_addHands_16 : decode cX8_addHands 16 = .ok (.iaload, 1) := by decide +kernel
theorem dX8_addHands_17 : decode cX8_addHands 17 = .ok (.iload_n 2, 1) := by decide +kernel
theorem dX8_addHands_18 : decode cX8_addHands 18 = .ok (.iadd, 1) := by decide +kernel
theorem dX8_addHands_19 : decode cX8_addHands 19 = .ok (.sipush 720, 3) := by decide +kernel
theorem dX8_addHands_22 : decode cX8_addHands 22 = .ok (.irem, 1) := by decide +kernel
theorem dX8_addHands_23 : decode cX8_addHands 23 = .ok (.iastore, 1) := by decide +kernel
theorem dX8_addHands_24 : decode cX8_addHands 24 = .ok (.return_, 1) := by decide +kernel
theorem dX8_turn_0 : decode cX8_turn 0 = .ok (.aload_n 0, 1) := by decide +kernel
theorem dX8_turn_1 : decode cX8_turn 1 = .ok (.iload_n 1, 1) := by decide +kernel
theorem dX8_turn_2 : decode cX8_turn 2 = .ok (.invokevirtual 107, 3) := by decide +kernel
theorem dX8_turn_5 : decode cX8_turn 5 = .ok (.ifCond .eq 15, 3) := by decide +kernel
theorem dX8_turn_8 : decode cX8_turn 8 = .ok (.iload_n 2, 1) := by decide +kernel
theorem dX8_turn_9 : decode cX8_turn 9 = .ok (.i2l, 1) := by decide +kernel
theorem dX8_turn_10 : decode cX8_turn 10 = .ok (.lconst 1, 1) := by decide +kernel
theorem dX8_turn_11 : decode cX8_turn 11 = .ok (.ldc2_w 81, 3) := by decide +kernel
theorem dX8_turn_14 : decode cX8_turn 14 = .ok (.invokestatic 75, 3) := by decide +kernel
theorem dX8_turn_17 : decode cX8_turn 17 = .ok (.ifCond .ne 5, 3) := by decide +kernel
theorem dX8_turn_20 : decode cX8_turn 20 = .ok (.iconst (-1), 1) := by decide +kernel
theorem dX8_turn_21 : decode cX8_turn 21 = .ok (.ireturn, 1) := by decide +kernel
theorem dX8_turn_22 : decode cX8_turn 22 = .ok (.aload_n 0, 1) := by decide +kernel
theorem dX8_turn_23 : decode cX8_turn 23 = .ok (.iconst 1, 1) := by decide +kernel
theorem dX8_turn_24 : decode cX8_turn 24 = .ok (.iload_n 1, 1) := by decide +kernel
theorem dX8_turn_25 : decode cX8_turn 25 = .ok (.aload_n 0, 1) := by decide +kernel
theorem dX8_turn_26 : decode cX8_turn 26 = .ok (.getfield 7, 3) := by decide +kernel
theorem dX8_turn_29 : decode cX8_turn 29 = .ok (.bipush 24, 2) := by decide +kernel
theorem dX8_turn_31 : decode cX8_turn 31 = .ok (.iload_n 1, 1) := by decide +kernel
theorem dX8_turn_32 : decode cX8_turn 32 = .ok (.iadd, 1) := by decide +kernel
theorem dX8_turn_33 : decode cX8_turn 33 = .ok (.iaload, 1) := by decide +kernel
theorem dX8_turn_34 : decode cX8_turn 34 = .ok (.invokevirtual 229, 3) := by decide +kernel
theorem dX8_turn_37 : decode cX8_turn 37 = .ok (.aload_n 0, 1) := by decide +kernel
theorem dX8_turn_38 : decode cX8_turn 38 = .ok (.iload_n 1, 1) := by decide +kernel
theorem dX8_turn_39 : decode cX8_turn 39 = .ok (.iload_n 2, 1) := by decide +kernel
theorem dX8_turn_40 : decode cX8_turn 40 = .ok (.invokevirtual 237, 3) := by decide +kernel
theorem dX8_turn_43 : decode cX8_turn 43 = .ok (.aload_n 0, 1) := by decide +kernel
theorem dX8_turn_44 : decode cX8_turn 44 = .ok (.getfield 7, 3) := by decide +kernel
theorem dX8_turn_47 : decode cX8_turn 47 = .ok (.bipush 24, 2) := by decide +kernel
theorem dX8_turn_49 : decode cX8_turn 49 = .ok (.iload_n 1, 1) := by decide +kernel
theorem dX8_turn_50 : decode cX8_turn 50 = .ok (.iadd, 1) := by decide +kernel
theorem dX8_turn_51 : decode cX8_turn 51 = .ok (.iaload, 1) := by decide +kernel
theorem dX8_turn_52 : decode cX8_turn 52 = .ok (.ireturn, 1) := by decide +kernel
theorem dX8_tune_0 : decode cX8_tune 0 = .ok (.aload_n 0, 1) := by decide +kernel
theorem dX8_tune_1 : decode cX8_tune 1 = .ok (.iload_n 1, 1) := by decide +kernel
theorem dX8_tune_2 : decode cX8_tune 2 = .ok (.invokevirtual 107, 3) := by decide +kernel
theorem dX8_tune_5 : decode cX8_tune 5 = .ok (.ifCond .eq 17, 3) := by decide +kernel
theorem dX8_tune_8 : decode cX8_tune 8 = .ok (.iload_n 2, 1) := by decide +kernel
theorem dX8_tune_9 : decode cX8_tune 9 = .ok (.i2l, 1) := by decide +kernel
theorem dX8_tune_10 : decode cX8_tune 10 = .ok (.ldc2_w 83, 3) := by decide +kernel
theorem dX8_tune_13 : decode cX8_tune 13 = .ok (.ldc2_w 85, 3) := by decide +kernel
theorem dX8_tune_16 : decode cX8_tune 16 = .ok (.invokestatic 75, 3) := by decide +kernel
theorem dX8_tune_19 : decode cX8_tune 19 = .ok (.ifCond .ne 7, 3) := by decide +kernel
theorem dX8_tune_22 : decode cX8_tune 22 = .ok (.sipush (-1001), 3) := by decide +kernel
theorem dX8_tune_25 : decode cX8_tune 25 = .ok (.ireturn, 1) := by decide +kernel
theorem dX8_tune_26 : decode cX8_tune 26 = .ok (.aload_n 0, 1) := by decide +kernel
theorem dX8_tune_27 : decode cX8_tune 27 = .ok (.getfield 16, 3) := by decide +kernel
theorem dX8_tune_30 : decode cX8_tune 30 = .ok (.iload_n 1, 1) := by decide +kernel
theorem dX8_tune_31 : decode cX8_tune 31 = .ok (.iaload, 1) := by decide +kernel
theorem dX8_tune_32 : decode cX8_tune 32 = .ok (.istore_n 3, 1) := by decide +kernel
theorem dX8_tune_33 : decode cX8_tune 33 = .ok (.aload_n 0, 1) := by decide +kernel
theorem dX8_tune_34 : decode cX8_tune 34 = .ok (.iconst 2, 1) := by decide +kernel
theorem dX8_tune_35 : decode cX8_tune 35 = .ok (.iload_n 1, 1) := by decide +kernel
theorem dX8_tune_36 : decode cX8_tune 36 = .ok (.iload_n 3, 1) := by decide +kernel
theorem dX8_tune_37 : decode cX8_tune 37 = .ok (.invokevirtual 229, 3) := by decide +kernel
theorem dX8_tune_40 : decode cX8_tune 40 = .ok (.aload_n 0, 1) := by decide +kernel
theorem dX8_tune_41 : decode cX8_tune 41 = .ok (.getfield 16, 3) := by decide +kernel
theorem dX8_tune_44 : decode cX8_tune 44 = .ok (.iload_n 1, 1) := by decide +kernel
theorem dX8_tune_45 : decode cX8_tune 45 = .ok (.iload_n 2, 1) := by decide +kernel
theorem dX8_tune_46 : decode cX8_tune 46 = .ok (.iastore, 1) := by decide +kernel
theorem dX8_tune_47 : decode cX8_tune 47 = .ok (.iload_n 3, 1) := by decide +kernel
theorem dX8_tune_48 : decode cX8_tune 48 = .ok (.ireturn, 1) := by decide +kernel
theorem dX8_breathe_0 : decode cX8_breathe 0 = .ok (.aload_n 0, 1) := by decide +kernel
theorem dX8_breathe_1 : decode cX8_breathe 1 = .ok (.iload_n 1, 1) := by decide +kernel
theorem dX8_breathe_2 : decode cX8_breathe 2 = .ok (.invokevirtual 114, 3) := by decide +kernel
theorem dX8_breathe_5 : decode cX8_breathe 5 = .ok (.ifCond .ne 5, 3) := by decide +kernel
theorem dX8_breathe_8 : decode cX8_breathe 8 = .ok (.iconst (-1), 1) := by decide +kernel
theorem dX8_breathe_9 : decode cX8_breathe 9 = .ok (.ireturn, 1) := by decide +kernel
theorem dX8_breathe_10 : decode cX8_breathe 10 = .ok (.aload_n 0, 1) := by decide +kernel
theorem dX8_breathe_11 : decode cX8_breathe 11 = .ok (.getfield 7, 3) := by decide +kernel
theorem dX8_breathe_14 : decode cX8_breathe 14 = .ok (.iload_n 1, 1) := by decide +kernel
theorem dX8_breathe_15 : decode cX8_breathe 15 = .ok (.iaload, 1) := by decide +kernel
theorem dX8_breathe_16 : decode cX8_breathe 16 = .ok (.istore_n 2, 1) := by decide +kernel
theorem dX8_breathe_17 : decode cX8_breathe 17 = .ok (.iload_n 2, 1) := by decide +kernel
theorem dX8_breathe_18 : decode cX8_breathe 18 = .ok (.bipush 12, 2) := by decide +kernel
theorem dX8_breathe_20 : decode cX8_breathe 20 = .ok (.if_icmp .ne 6, 3) := by decide +kernel
theorem dX8_breathe_23 : decode cX8_breathe 23 = .ok (.bipush (-2), 2) := by decide +kernel
theorem dX8_breathe_25 : decode cX8_breathe 25 = .ok (.ireturn, 1) := by decide +kernel
theorem dX8_breathe_26 : decode cX8_breathe 26 = .ok (.aload_n 0, 1) := by decide +kernel
theorem dX8_breathe_27 : decode cX8_breathe 27 = .ok (.iconst 3, 1) := by decide +kernel
theorem dX8_breathe_28 : decode cX8_breathe 28 = .ok (.iload_n 1, 1) := by decide +kernel
theorem dX8_breathe_29 : decode cX8_breathe 29 = .ok (.iload_n 2, 1) := by decide +kernel
theorem dX8_breathe_30 : decode cX8_breathe 30 = .ok (.invokevirtual 229, 3) := by decide +kernel
theorem dX8_breathe_33 : decode cX8_breathe 33 = .ok (.aload_n 0, 1) := by decide +kernel
theorem dX8_breathe_34 : decode cX8_breathe 34 = .ok (.getfield 7, 3) := by decide +kernel
theorem dX8_breathe_37 : decode cX8_breathe 37 = .ok (.iload_n 1, 1) := by decide +kernel
theorem dX8_breathe_38 : decode cX8_breathe 38 = .ok (.bipush 12, 2) := by decide +kernel
theorem dX8_breathe_40 : decode cX8_breathe 40 = .ok (.iastore, 1) := by decide +kernel
theorem dX8_breathe_41 : decode cX8_breathe 41 = .ok (.iload_n 2, 1) := by decide +kernel
theorem dX8_breathe_42 : decode cX8_breathe 42 = .ok (.ireturn, 1) := by decide +kernel
theorem dX8_undo_0 : decode cX8_undo 0 = .ok (.aload_n 0, 1) := by decide +kernel
theorem dX8_undo_1 : decode cX8_undo 1 = .ok (.getfield 96, 3) := by decide +kernel
theorem dX8_undo_4 : decode cX8_undo 4 = .ok (.ifCond .ne 6, 3) := by decide +kernel
theorem dX8_undo_7 : decode cX8_undo 7 = .ok (.bipush (-4), 2) := by decide +kernel
theorem dX8_undo_9 : decode cX8_undo 9 = .ok (.ireturn, 1) := by decide +kernel
theorem dX8_undo_10 : decode cX8_undo 10 = .ok (.aload_n 0, 1) := by decide +kernel
theorem dX8_undo_11 : decode cX8_undo 11 = .ok (.dup, 1) := by decide +kernel
theorem dX8_undo_12 : decode cX8_undo 12 = .ok (.getfield 96, 3) := by decide +kernel
theorem dX8_undo_15 : decode cX8_undo 15 = .ok (.iconst 1, 1) := by decide +kernel
theorem dX8_undo_16 : decode cX8_undo 16 = .ok (.isub, 1) := by decide +kernel
theorem dX8_undo_17 : decode cX8_undo 17 = .ok (.putfield 96, 3) := by decide +kernel
theorem dX8_undo_20 : decode cX8_undo 20 = .ok (.aload_n 0, 1) := by decide +kernel
theorem dX8_undo_21 : decode cX8_undo 21 = .ok (.getfield 38, 3) := by decide +kernel
theorem dX8_undo_24 : decode cX8_undo 24 = .ok (.iconst 3, 1) := by decide +kernel
theorem dX8_undo_25 : decode cX8_undo 25 = .ok (.aload_n 0, 1) := by decide +kernel
theorem dX8_undo_26 : decode cX8_undo 26 = .ok (.getfield 96, 3) := by decide +kernel
theorem dX8_undo_29 : decode cX8_undo 29 = .ok (.imul, 1) := by decide +kernel
theorem dX8_undo_30 : decode cX8_undo 30 = .ok (.iaload, 1) := by decide +kernel
theorem dX8_undo_31 : decode cX8_undo 31 = .ok (.istore_n 1, 1) := by decide +kernel
theorem dX8_undo_32 : decode cX8_undo 32 = .ok (.aload_n 0, 1) := by decide +kernel
theorem dX8_undo_33 : decode cX8_undo 33 = .ok (.getfield 38, 3) := by decide +kernel
theorem dX8_undo_36 : decode cX8_undo 36 = .ok (.iconst 3, 1) := by decide +kernel
theorem dX8_undo_37 : decode cX8_undo 37 = .ok (.aload_n 0, 1) := by decide +kernel
theorem dX8_undo_38 : decode cX8_undo 38 = .ok (.getfield 96, 3) := by decide +kernel
theorem dX8_undo_41 : decode cX8_undo 41 = .ok (.imul, 1) := by decide +kernel
theorem dX8_undo_42 : decode cX8_undo 42 = .ok (.iconst 1, 1) := by decide +kernel
theorem dX8_undo_43 : decode cX8_undo 43 = .ok (.iadd, 1) := by decide +kernel
theorem dX8_undo_44 : decode cX8_undo 44 = .ok (.iaload, 1) := by decide +kernel
theorem dX8_undo_45 : decode cX8_undo 45 = .ok (.istore_n 2, 1) := by decide +kernel
theorem dX8_undo_46 : decode cX8_undo 46 = .ok (.aload_n 0, 1) := by decide +kernel
theorem dX8_undo_47 : decode cX8_undo 47 = .ok (.getfield 38, 3) := by decide +kernel
theorem dX8_undo_50 : decode cX8_undo 50 = .ok (.iconst 3, 1) := by decide +kernel
theorem dX8_undo_51 : decode cX8_undo 51 = .ok (.aload_n 0, 1) := by decide +kernel
theorem dX8_undo_52 : decode cX8_undo 52 = .ok (.getfield 96, 3) := by decide +kernel
theorem dX8_undo_55 : decode cX8_undo 55 = .ok (.imul, 1) := by decide +kernel
theorem dX8_undo_56 : decode cX8_undo 56 = .ok (.iconst 2, 1) := by decide +kernel
theorem dX8_undo_57 : decode cX8_undo 57 = .ok (.iadd, 1) := by decide +kernel
theorem dX8_undo_58 : decode cX8_undo 58 = .ok (.iaload, 1) := by decide +kernel
theorem dX8_undo_59 : decode cX8_undo 59 = .ok (.istore_n 3, 1) := by decide +kernel
theorem dX8_undo_60 : decode cX8_undo 60 = .ok (.iload_n 1, 1) := by decide +kernel
theorem dX8_undo_61 : decode cX8_undo 61 = .ok (.iconst 2, 1) := by decide +kernel
theorem dX8_undo_62 : decode cX8_undo 62 = .ok (.if_icmp .ne 13, 3) := by decide +kernel
theorem dX8_undo_65 : decode cX8_undo 65 = .ok (.aload_n 0, 1) := by decide +kernel
theorem dX8_undo_66 : decode cX8_undo 66 = .ok (.getfield 16, 3) := by decide +kernel
theorem dX8_undo_69 : decode cX8_undo 69 = .ok (.iload_n 2, 1) := by decide +kernel
theorem dX8_undo_70 : decode cX8_undo 70 = .ok (.iload_n 3, 1) := by decide +kernel
theorem dX8_undo_71 : decode cX8_undo 71 = .ok (.iastore, 1) := by decide +kernel
theorem dX8_undo_72 : decode cX8_undo 72 = .ok (.goto 31, 3) := by decide +kernel
theorem dX8_undo_75 : decode cX8_undo 75 = .ok (.aload_n 0, 1) := by decide +kernel
theorem dX8_undo_76 : decode cX8_undo 76 = .ok (.getfield 7, 3) := by decide +kernel
theorem dX8_undo_79 : decode cX8_undo 79 = .ok (.iload_n 1, 1) := by decide +kernel
theorem dX8_undo_80 : decode cX8_undo 80 = .ok (.ifCond .ne 8, 3) := by decide +kernel
theorem dX8_undo_83 : decode cX8_undo 83 = .ok (.bipush 33, 2) := by decide +kernel
theorem dX8_undo_85 : decode cX8_undo 85 = .ok (.goto 14, 3) := by decide +kernel
theorem dX8_undo_88 : decode cX8_undo 88 = .ok (.iload_n 1, 1) := by decide +kernel
theorem dX8_undo_89 : decode cX8_undo 89 = .ok (.iconst 1, 1) := by decide +kernel
theorem dX8_undo_90 : decode cX8_undo 90 = .ok (.if_icmp .ne 8, 3) := by decide +kernel
theorem dX8_undo_93 : decode cX8_undo 93 = .ok (.bipush 24, 2) := by decide +kernel
theorem dX8_undo_95 : decode cX8_undo 95 = .ok (.goto 4, 3) := by decide +kernel
theorem dX8_undo_98 : decode cX8_undo 98 = .ok (.iconst 0, 1) := by decide +kernel
theorem dX8_undo_99 : decode cX8_undo 99 = .ok (.iload_n 2, 1) := by decide +kernel
theorem dX8_undo_100 : decode cX8_undo 100 = .ok (.iadd, 1) := by decide +kernel
theorem dX8_undo_101 : decode cX8_undo 101 = .ok (.iload_n 3, 1) := by decide +kernel
theorem dX8_undo_102 : decode cX8_undo 102 = .ok (.iastore, 1) := by decide +kernel
theorem dX8_undo_103 : decode cX8_undo 103 = .ok (.aload_n 0, 1) := by decide +kernel
theorem dX8_undo_104 : decode cX8_undo 104 = .ok (.getfield 96, 3) := by decide +kernel
theorem dX8_undo_107 : decode cX8_undo 107 = .ok (.ireturn, 1) := by decide +kernel
theorem dX8_restart_0 : decode cX8_restart 0 = .ok (.aload_n 0, 1) := by decide +kernel
theorem dX8_restart_1 : decode cX8_restart 1 = .ok (.invokevirtual 207, 3) := by decide +kernel
theorem dX8_restart_4 : decode cX8_restart 4 = .ok (.istore_n 1, 1) := by decide +kernel
theorem dX8_restart_5 : decode cX8_restart 5 = .ok (.aload_n 0, 1) := by decide +kernel
theorem dX8_restart_6 : decode cX8_restart 6 = .ok (.invokevirtual 156, 3) := by decide +kernel
theorem dX8_restart_9 : decode cX8_restart 9 = .ok (.aload_n 0, 1) := by decide +kernel
theorem dX8_restart_10 : decode cX8_restart 10 = .ok (.getfield 7, 3) := by decide +kernel
theorem dX8_restart_13 : decode cX8_restart 13 = .ok (.bipush 60, 2) := by decide +kernel
theorem dX8_restart_15 : decode cX8_restart 15 = .ok (.iconst 0, 1) := by decide +kernel
theorem dX8_restart_16 : decode cX8_restart 16 = .ok (.iastore, 1) := by decide +kernel
theorem dX8_restart_17 : decode cX8_restart 17 = .ok (.aload_n 0, 1) := by decide +kernel
theorem dX8_restart_18 : decode cX8_restart 18 = .ok (.getfield 7, 3) := by decide +kernel
theorem dX8_restart_21 : decode cX8_restart 21 = .ok (.bipush 61, 2) := by decide +kernel
theorem dX8_restart_23 : decode cX8_restart 23 = .ok (.iconst 0, 1) := by decide +kernel
theorem dX8_restart_24 : decode cX8_restart 24 = .ok (.iastore, 1) := by decide +kernel
theorem dX8_restart_25 : decode cX8_restart 25 = .ok (.aload_n 0, 1) := by decide +kernel
theorem dX8_restart_26 : decode cX8_restart 26 = .ok (.getfield 7, 3) := by decide +kernel
theorem dX8_restart_29 : decode cX8_restart 29 = .ok (.bipush 62, 2) := by decide +kernel
theorem dX8_restart_31 : decode cX8_restart 31 = .ok (.iconst 0, 1) := by decide +kernel
theorem dX8_restart_32 : decode cX8_restart 32 = .ok (.iastore, 1) := by decide +kernel
theorem dX8_restart_33 : decode cX8_restart 33 = .ok (.iload_n 1, 1) := by decide +kernel
theorem dX8_restart_34 : decode cX8_restart 34 = .ok (.ireturn, 1) := by decide +kernel
theorem dX8_keepAside_0 : decode cX8_keepAside 0 = .ok (.iconst 0, 1) := by decide +kernel
theorem dX8_keepAside_1 : decode cX8_keepAside 1 = .ok (.istore_n 1, 1) := by decide +kernel
theorem dX8_keepAside_2 : decode cX8_keepAside 2 = .ok (.iload_n 1, 1) := by decide +kernel
theorem dX8_keepAside_3 : decode cX8_keepAside 3 = .ok (.bipush 63, 2) := by decide +kernel
theorem dX8_keepAside_5 : decode cX8_keepAside 5 = .ok (.if_icmp .ge 21, 3) := by decide +kernel
theorem dX8_keepAside_8 : decode cX8_keepAside 8 = .ok (.aload_n 0, 1) := by decide +kernel
theorem dX8_keepAside_9 : decode cX8_keepAside 9 = .ok (.getfield 50, 3) := by decide +kernel
theorem dX8_keepAside_12 : decode cX8_keepAside 12 = .ok (.iload_n 1, 1) := by decide +kernel
theorem dX8_keepAside_13 : decode cX8_keepAside 13 = .ok (.aload_n 0, 1) := by decide +kernel
theorem dX8_keepAside_14 : decode cX8_keepAside 14 = .ok (.getfield 7, 3) := by decide +kernel
theorem dX8_keepAside_17 : decode cX8_keepAside 17 = .ok (.iload_n 1, 1) := by decide +kernel
theorem dX8_keepAside_18 : decode cX8_keepAside 18 = .ok (.iaload, 1) := by decide +kernel
theorem dX8_keepAside_19 : decode cX8_keepAside 19 = .ok (.iastore, 1) := by decide +kernel
theorem dX8_keepAside_20 : decode cX8_keepAside 20 = .ok (.iinc 1 1, 3) := by decide +kernel
theorem dX8_keepAside_23 : decode cX8_keepAside 23 = .ok (.goto (-21), 3) := by decide +kernel
theorem dX8_keepAside_26 : decode cX8_keepAside 26 = .ok (.return_, 1) := by decide +kernel
theorem dX8_bringBack_0 : decode cX8_bringBack 0 = .ok (.iconst 0, 1) := by decide +kernel
theorem dX8_bringBack_1 : decode cX8_bringBack 1 = .ok (.istore_n 1, 1) := by decide +kernel
theorem dX8_bringBack_2 : decode cX8_bringBack 2 = .ok (.iload_n 1, 1) := by decide +kernel
theorem dX8_bringBack_3 : decode cX8_bringBack 3 = .ok (.bipush 63, 2) := by decide +kernel
theorem dX8_bringBack_5 : decode cX8_bringBack 5 = .ok (.if_icmp .ge 21, 3) := by decide +kernel
theorem dX8_bringBack_8 : decode cX8_bringBack 8 = .ok (.aload_n 0, 1) := by decide +kernel
theorem dX8_bringBack_9 : decode cX8_bringBack 9 = .ok (.getfield 7, 3) := by decide +kernel
theorem dX8_bringBack_12 : decode cX8_bringBack 12 = .ok (.iload_n 1, 1) := by decide +kernel
theorem dX8_bringBack_13 : decode cX8_bringBack 13 = .ok (.aload_n 0, 1) := by decide +kernel
theorem dX8_bringBack_14 : decode cX8_bringBack 14 = .ok (.getfield 50, 3) := by decide +kernel
theorem dX8_bringBack_17 : decode cX8_bringBack 17 = .ok (.iload_n 1, 1) := by decide +kernel
theorem dX8_bringBack_18 : decode cX8_bringBack 18 = .ok (.iaload, 1) := by decide +kernel
theorem dX8_bringBack_19 : decode cX8_bringBack 19 = .ok (.iastore, 1) := by decide +kernel
theorem dX8_bringBack_20 : decode cX8_bringBack 20 = .ok (.iinc 1 1, 3) := by decide +kernel
theorem dX8_bringBack_23 : decode cX8_bringBack 23 = .ok (.goto (-21), 3) := by decide +kernel
theorem dX8_bringBack_26 : decode cX8_bringBack 26 = .ok (.return_, 1) := by decide +kernel
theorem dX8_goHours_0 : decode cX8_goHours 0 = .ok (.iconst 0, 1) := by decide +kernel
theorem dX8_goHours_1 : decode cX8_goHours 1 = .ok (.istore_n 2, 1) := by decide +kernel
theorem dX8_goHours_2 : decode cX8_goHours 2 = .ok (.iload_n 2, 1) := by decide +kernel
theorem dX8_goHours_3 : decode cX8_goHours 3 = .ok (.iload_n 1, 1) := by decide +kernel
theorem dX8_goHours_4 : decode cX8_goHours 4 = .ok (.if_icmp .ge 18, 3) := by decide +kernel
theorem dX8_goHours_7 : decode cX8_goHours 7 = .ok (.aload_n 0, 1) := by decide +kernel
theorem dX8_goHours_8 : decode cX8_goHours 8 = .ok (.aload_n 0, 1) := by decide +kernel
theorem dX8_goHours_9 : decode cX8_goHours 9 = .ok (.invokevirtual 223, 3) := by decide +kernel
theorem dX8_goHours_12 : decode cX8_goHours 12 = .ok (.invokevirtual 226, 3) := by decide +kernel
theorem dX8_goHours_15 : decode cX8_goHours 15 = .ok (.pop, 1) := by decide +kernel
theorem dX8_goHours_16 : decode cX8_goHours 16 = .ok (.iinc 2 1, 3) := by decide +kernel
theorem dX8_goHours_19 : decode cX8_goHours 19 = .ok (.goto (-17), 3) := by decide +kernel
theorem dX8_goHours_22 : decode cX8_goHours 22 = .ok (.return_, 1) := by decide +kernel
theorem dX8_isLong_0 : decode cX8_isLong 0 = .ok (.iload_n 0, 1) := by decide +kernel
theorem dX8_isLong_1 : decode cX8_isLong 1 = .ok (.i2l, 1) := by decide +kernel
theorem dX8_isLong_2 : decode cX8_isLong 2 = .ok (.lconst 0, 1) := by decide +kernel
theorem dX8_isLong_3 : decode cX8_isLong 3 = .ok (.ldc2_w 240, 3) := by decide +kernel
theorem dX8_isLong_6 : decode cX8_isLong 6 = .ok (.invokestatic 75, 3) := by decide +kernel
theorem dX8_isLong_9 : decode cX8_isLong 9 = .ok (.ireturn, 1) := by decide +kernel
theorem dX8_behind_0 : decode cX8_behind 0 = .ok (.aload_n 0, 1) := by decide +kernel
theorem dX8_behind_1 : decode cX8_behind 1 = .ok (.iload_n 1, 1) := by decide +kernel
theorem dX8_behind_2 : decode cX8_behind 2 = .ok (.invokevirtual 107, 3) := by decide +kernel
theorem dX8_behind_5 : decode cX8_behind 5 = .ok (.ifCond .eq 20, 3) := by decide +kernel
theorem dX8_behind_8 : decode cX8_behind 8 = .ok (.iload_n 2, 1) := by decide +kernel
theorem dX8_behind_9 : decode cX8_behind 9 = .ok (.invokestatic 242, 3) := by decide +kernel
theorem dX8_behind_12 : decode cX8_behind 12 = .ok (.ifCond .eq 13, 3) := by decide +kernel
theorem dX8_behind_15 : decode cX8_behind 15 = .ok (.iload_n 3, 1) := by decide +kernel
theorem dX8_behind_16 : decode cX8_behind 16 = .ok (.i2l, 1) := by decide +kernel
theorem dX8_behind_17 : decode cX8_behind 17 = .ok (.lconst 0, 1) := by decide +kernel
theorem dX8_behind_18 : decode cX8_behind 18 = .ok (.lconst 1, 1) := by decide +kernel
theorem dX8_behind_19 : decode cX8_behind 19 = .ok (.invokestatic 75, 3) := by decide +kernel
theorem dX8_behind_22 : decode cX8_behind 22 = .ok (.ifCond .ne 5, 3) := by decide +kernel
theorem dX8_behind_25 : decode cX8_behind 25 = .ok (.iconst (-1), 1) := by decide +kernel
theorem dX8_behind_26 : decode cX8_behind 26 = .ok (.ireturn, 1) := by decide +kernel
theorem dX8_behind_27 : decode cX8_behind 27 = .ok (.aload_n 0, 1) := by decide +kernel
theorem dX8_behind_28 : decode cX8_behind 28 = .ok (.invokevirtual 245, 3) := by decide +kernel
theorem dX8_behind_31 : decode cX8_behind 31 = .ok (.aload_n 0, 1) := by decide +kernel
theorem dX8_behind_32 : decode cX8_behind 32 = .ok (.iload_n 2, 1) := by decide +kernel
theorem dX8_behind_33 : decode cX8_behind 33 = .ok (.invokevirtual 248, 3) := by decide +kernel
theorem dX8_behind_36 : decode cX8_behind 36 = .ok (.iload_n 3, 1) := by decide +kernel
theorem dX8_behind_37 : decode cX8_behind 37 = .ok (.ifCond .ne 15, 3) := by decide +kernel
theorem dX8_behind_40 : decode cX8_behind 40 = .ok (.aload_n 0, 1) := by decide +kernel
theorem dX8_behind_41 : decode cX8_behind 41 = .ok (.getfield 7, 3) := by decide +kernel
theorem dX8_behind_44 : decode cX8_behind 44 = .ok (.bipush 42, 2) := by decide +kernel
theorem dX8_behind_46 : decode cX8_behind 46 = .ok (.iload_n 1, 1) := by decide +kernel
theorem dX8_behind_47 : decode cX8_behind 47 = .ok (.iadd, 1) := by decide +kernel
theorem dX8_behind_48 : decode cX8_behind 48 = .ok (.iaload, 1) := by decide +kernel
theorem dX8_behind_49 : decode cX8_behind 49 = .ok (.goto 8, 3) := by decide +kernel
theorem dX8_behind_52 : decode cX8_behind 52 = .ok (.aload_n 0, 1) := by decide +kernel
theorem dX8_behind_53 : decode cX8_behind 53 = .ok (.iload_n 1, 1) := by decide +kernel
theorem dX8_behind_54 : decode cX8_behind 54 = .ok (.invokevirtual 204, 3) := by decide +kernel
theorem dX8_behind_57 : decode cX8_behind 57 = .ok (.istore 4, 2) := by decide +kernel
theorem dX8_behind_59 : decode cX8_behind 59 = .ok (.aload_n 0, 1) := by decide +kernel
theorem dX8_behind_60 : decode cX8_behind 60 = .ok (.invokevirtual 251, 3) := by decide +kernel
theorem dX8_behind_63 : decode cX8_behind 63 = .ok (.iload 4, 2) := by decide +kernel
theorem dX8_behind_65 : decode cX8_behind 65 = .ok (.ireturn, 1) := by decide +kernel
theorem dX8_leads_0 : decode cX8_leads 0 = .ok (.iload_n 1, 1) := by decide +kernel
theorem dX8_leads_1 : decode cX8_leads 1 = .ok (.invokestatic 242, 3) := by decide +kernel
theorem dX8_leads_4 : decode cX8_leads 4 = .ok (.ifCond .ne 5, 3) := by decide +kernel
theorem dX8_leads_7 : decode cX8_leads 7 = .ok (.iconst (-1), 1) := by decide +kernel
theorem dX8_leads_8 : decode cX8_leads 8 = .ok (.ireturn, 1) := by decide +kernel
theorem dX8_leads_9 : decode cX8_leads 9 = .ok (.aload_n 0, 1) := by decide +kernel
theorem dX8_leads_10 : decode cX8_leads 10 = .ok (.invokevirtual 245, 3) := by decide +kernel
theorem dX8_leads_13 : decode cX8_leads 13 = .ok (.aload_n 0, 1) := by decide +kernel
theorem dX8_leads_14 : decode cX8_leads 14 = .ok (.iload_n 1, 1) := by decide +kernel
theorem dX8_leads_15 : decode cX8_leads 15 = .ok (.invokevirtual 248, 3) := by decide +kernel
theorem dX8_leads_18 : decode cX8_leads 18 = .ok (.iconst 0, 1) := by decide +kernel
theorem dX8_leads_19 : decode cX8_leads 19 = .ok (.istore_n 2, 1) := by decide +kernel
theorem dX8_leads_20 : decode cX8_leads 20 = .ok (.iconst 0, 1) := by decide +kernel
theorem dX8_leads_21 : decode cX8_leads 21 = .ok (.istore_n 3, 1) := by decide +kernel
theorem dX8_leads_22 : decode cX8_leads 22 = .ok (.iload_n 3, 1) := by decide +kernel
theorem dX8_leads_23 : decode cX8_leads 23 = .ok (.aload_n 0, 1) := by decide +kernel
theorem dX8_leads_24 : decode cX8_leads 24 = .ok (.getfield 72, 3) := by decide +kernel
theorem dX8_leads_27 : decode cX8_leads 27 = .ok (.if_icmp .ge 28, 3) := by decide +kernel
theorem dX8_leads_30 : decode cX8_leads 30 = .ok (.iload_n 2, 1) := by decide +kernel
theorem dX8_leads_31 : decode cX8_leads 31 = .ok (.aload_n 0, 1) := by decide +kernel
theorem dX8_leads_32 : decode cX8_leads 32 = .ok (.iload_n 3, 1) := by decide +kernel
theorem dX8_leads_33 : decode cX8_leads 33 = .ok (.invokevirtual 204, 3) := by decide +kernel
theorem dX8_leads_36 : decode cX8_leads 36 = .ok (.iconst 1, 1) := by decide +kernel
theorem dX8_leads_37 : decode cX8_leads 37 = .ok (.if_icmp .ne 9, 3) := by decide +kernel
theorem dX8_leads_40 : decode cX8_leads 40 = .ok (.iconst 1, 1) := by decide +kernel
theorem dX8_leads_41 : decode cX8_leads 41 = .ok (.iload_n 3, 1) := by decide +kernel
theorem dX8_leads_42 : decode cX8_leads 42 = .ok (.ishl, 1) := by decide +kernel
theorem dX8_leads_43 : decode cX8_leads 43 = .ok (.goto 4, 3) := by decide +kernel
theorem dX8_leads_46 : decode cX8_leads 46 = .ok (.iconst 0, 1) := by decide +kernel
theorem dX8_leads_47 : decode cX8_leads 47 = .ok (.ior, 1) := by decide +kernel
theorem dX8_leads_48 : decode cX8_leads 48 = .ok (.istore_n 2, 1) := by decide +kernel
theorem dX8_leads_49 : decode cX8_leads 49 = .ok (.iinc 3 1, 3) := by decide +kernel
theorem dX8_leads_52 : decode cX8_leads 52 = .ok (.goto (-30), 3) := by decide +kernel
theorem dX8_leads_55 : decode cX8_leads 55 = .ok (.aload_n 0, 1) := by decide +kernel
theorem dX8_leads_56 : decode cX8_leads 56 = .ok (.invokevirtual 251, 3) := by decide +kernel
theorem dX8_leads_59 : decode cX8_leads 59 = .ok (.iload_n 2, 1) := by decide +kernel
theorem dX8_leads_60 : decode cX8_leads 60 = .ok (.ireturn, 1) := by decide +kernel
theorem dX8_finish_0 : decode cX8_finish 0 = .ok (.aload_n 0, 1) := by decide +kernel
theorem dX8_finish_1 : decode cX8_finish 1 = .ok (.iload_n 1, 1) := by decide +kernel
theorem dX8_finish_2 : decode cX8_finish 2 = .ok (.invokevirtual 107, 3) := by decide +kernel
theorem dX8_finish_5 : decode cX8_finish 5 = .ok (.ifCond .ne 5, 3) := by decide +kernel
theorem dX8_finish_8 : decode cX8_finish 8 = .ok (.iconst (-1), 1) := by decide +kernel
theorem dX8_finish_9 : decode cX8_finish 9 = .ok (.ireturn, 1) := by decide +kernel
theorem dX8_finish_10 : decode cX8_finish 10 = .ok (.aload_n 0, 1) := by decide +kernel
theorem dX8_finish_11 : decode cX8_finish 11 = .ok (.invokevirtual 245, 3) := by decide +kernel
theorem dX8_finish_14 : decode cX8_finish 14 = .ok (.aload_n 0, 1) := by decide +kernel
theorem dX8_finish_15 : decode cX8_finish 15 = .ok (.sipush 200, 3) := by decide +kernel
theorem dX8_finish_18 : decode cX8_finish 18 = .ok (.invokevirtual 248, 3) := by decide +kernel
theorem dX8_finish_21 : decode cX8_finish 21 = .ok (.aload_n 0, 1) := by decide +kernel
theorem dX8_finish_22 : decode cX8_finish 22 = .ok (.getfield 7, 3) := by decide +kernel
theorem dX8_finish_25 : decode cX8_finish 25 = .ok (.bipush 51, 2) := by decide +kernel
theorem dX8_finish_27 : decode cX8_finish 27 = .ok (.iload_n 1, 1) := by decide +kernel
theorem dX8_finish_28 : decode cX8_finish 28 = .ok (.iadd, 1) := by decide +kernel
theorem dX8_finish_29 : decode cX8_finish 29 = .ok (.iaload, 1) := by decide +kernel
theorem dX8_finish_30 : decode cX8_finish 30 = .ok (.istore_n 2, 1) := by decide +kernel
theorem dX8_finish_31 : decode cX8_finish 31 = .ok (.aload_n 0, 1) := by decide +kernel
theorem dX8_finish_32 : decode cX8_finish 32 = .ok (.invokevirtual 251, 3) := by decide +kernel
theorem dX8_finish_35 : decode cX8_finish 35 = .ok (.iload_n 2, 1) := by decide +kernel
theorem dX8_finish_36 : decode cX8_finish 36 = .ok (.ireturn, 1) := by decide +kernel
theorem dX8_over_0 : decode cX8_over 0 = .ok (.aload_n 0, 1) := by decide +kernel
theorem dX8_over_1 : decode cX8_over 1 = .ok (.invokevirtual 245, 3) := by decide +kernel
theorem dX8_over_4 : decode cX8_over 4 = .ok (.iconst 0, 1) := by decide +kernel
theorem dX8_over_5 : decode cX8_over 5 = .ok (.istore_n 1, 1) := by decide +kernel
theorem dX8_over_6 : decode cX8_over 6 = .ok (.iload_n 1, 1) := by decide +kernel
theorem dX8_over_7 : decode cX8_over 7 = .ok (.sipush 200, 3) := by decide +kernel
theorem dX8_over_10 : decode cX8_over 10 = .ok (.if_icmp .ge 29, 3) := by decide +kernel
theorem dX8_over_13 : decode cX8_over 13 = .ok (.aload_n 0, 1) := by decide +kernel
theorem dX8_over_14 : decode cX8_over 14 = .ok (.invokevirtual 207, 3) := by decide +kernel
theorem dX8_over_17 : decode cX8_over 17 = .ok (.aload_n 0, 1) := by decide +kernel
theorem dX8_over_18 : decode cX8_over 18 = .ok (.getfield 72, 3) := by decide +kernel
theorem dX8_over_21 : decode cX8_over 21 = .ok (.if_icmp .ge 18, 3) := by decide +kernel
theorem dX8_over_24 : decode cX8_over 24 = .ok (.aload_n 0, 1) := by decide +kernel
theorem dX8_over_25 : decode cX8_over 25 = .ok (.aload_n 0, 1) := by decide +kernel
theorem dX8_over_26 : decode cX8_over 26 = .ok (.invokevirtual 223, 3) := by decide +kernel
theorem dX8_over_29 : decode cX8_over 29 = .ok (.invokevirtual 226, 3) := by decide +kernel
theorem dX8_over_32 : decode cX8_over 32 = .ok (.pop, 1) := by decide +kernel
theorem dX8_over_33 : decode cX8_over 33 = .ok (.iinc 1 1, 3) := by decide +kernel
theorem dX8_over_36 : decode cX8_over 36 = .ok (.goto (-30), 3) := by decide +kernel
theorem dX8_over_39 : decode cX8_over 39 = .ok (.aload_n 0, 1) := by decide +kernel
theorem dX8_over_40 : decode cX8_over 40 = .ok (.invokevirtual 207, 3) := by decide +kernel
theorem dX8_over_43 : decode cX8_over 43 = .ok (.aload_n 0, 1) := by decide +kernel
theorem dX8_over_44 : decode cX8_over 44 = .ok (.getfield 72, 3) := by decide +kernel
theorem dX8_over_47 : decode cX8_over 47 = .ok (.if_icmp .ge 8, 3) := by decide +kernel
theorem dX8_over_50 : decode cX8_over 50 = .ok (.bipush (-4), 2) := by decide +kernel
theorem dX8_over_52 : decode cX8_over 52 = .ok (.goto 4, 3) := by decide +kernel
theorem dX8_over_55 : decode cX8_over 55 = .ok (.iload_n 1, 1) := by decide +kernel
theorem dX8_over_56 : decode cX8_over 56 = .ok (.istore_n 2, 1) := by decide +kernel
theorem dX8_over_57 : decode cX8_over 57 = .ok (.aload_n 0, 1) := by decide +kernel
theorem dX8_over_58 : decode cX8_over 58 = .ok (.invokevirtual 251, 3) := by decide +kernel
theorem dX8_over_61 : decode cX8_over 61 = .ok (.iload_n 2, 1) := by decide +kernel
theorem dX8_over_62 : decode cX8_over 62 = .ok (.ireturn, 1) := by decide +kernel
theorem dX8_placeWith_0 : decode cX8_placeWith 0 = .ok (.aload_n 0, 1) := by decide +kernel
theorem dX8_placeWith_1 : decode cX8_placeWith 1 = .ok (.invokevirtual 245, 3) := by decide +kernel
theorem dX8_placeWith_4 : decode cX8_placeWith 4 = .ok (.aload_n 0, 1) := by decide +kernel
theorem dX8_placeWith_5 : decode cX8_placeWith 5 = .ok (.iload_n 1, 1) := by decide +kernel
theorem dX8_placeWith_6 : decode cX8_placeWith 6 = .ok (.iload_n 2, 1) := by decide +kernel
theorem dX8_placeWith_7 : decode cX8_placeWith 7 = .ok (.invokevirtual 233, 3) := by decide +kernel
theorem dX8_placeWith_10 : decode cX8_placeWith 10 = .ok (.aload_n 0, 1) := by decide +kernel
theorem dX8_placeWith_11 : decode cX8_placeWith 11 = .ok (.iload_n 1, 1) := by decide +kernel
theorem dX8_placeWith_12 : decode cX8_placeWith 12 = .ok (.bipush 60, 2) := by decide +kernel
theorem dX8_placeWith_14 : decode cX8_placeWith 14 = .ok (.iload_n 3, 1) := by decide +kernel
theorem dX8_placeWith_15 : decode cX8_placeWith 15 = .ok (.imul, 1) := by decide +kernel
theorem dX8_placeWith_16 : decode cX8_placeWith 16 = .ok (.invokevirtual 237, 3) := by decide +kernel
theorem dX8_placeWith_19 : decode cX8_placeWith 19 = .ok (.aload_n 0, 1) := by decide +kernel
theorem dX8_placeWith_20 : decode cX8_placeWith 20 = .ok (.iload 4, 2) := by decide +kernel
theorem dX8_placeWith_22 : decode cX8_placeWith 22 = .ok (.invokevirtual 248, 3) := by decide +kernel
theorem dX8_placeWith_25 : decode cX8_placeWith 25 = .ok (.aload_n 0, 1) := by decide +kernel
theorem dX8_placeWith_26 : decode cX8_placeWith 26 = .ok (.iload_n 1, 1) := by decide +kernel
theorem dX8_placeWith_27 : decode cX8_placeWith 27 = .ok (.invokevirtual 204, 3) := by decide +kernel
theorem dX8_placeWith_30 : decode cX8_placeWith 30 = .ok (.istore 5, 2) := by decide +kernel
theorem dX8_placeWith_32 : decode cX8_placeWith 32 = .ok (.aload_n 0, 1) := by decide +kernel
theorem dX8_placeWith_33 : decode cX8_placeWith 33 = .ok (.invokevirtual 251, 3) := by decide +kernel
theorem dX8_placeWith_36 : decode cX8_placeWith 36 = .ok (.iload 5, 2) := by decide +kernel
theorem dX8_placeWith_38 : decode cX8_placeWith 38 = .ok (.ireturn, 1) := by decide +kernel
theorem dX8_isAsked_0 : decode cX8_isAsked 0 = .ok (.aload_n 0, 1) := by decide +kernel
theorem dX8_isAsked_1 : decode cX8_isAsked 1 = .ok (.iload_n 1, 1) := by decide +kernel
theorem dX8_isAsked_2 : decode cX8_isAsked 2 = .ok (.invokevirtual 107, 3) := by decide +kernel
theorem dX8_isAsked_5 : decode cX8_isAsked 5 = .ok (.ifCond .eq 26, 3) := by decide +kernel
theorem dX8_isAsked_8 : decode cX8_isAsked 8 = .ok (.iload_n 2, 1) := by decide +kernel
theorem dX8_isAsked_9 : decode cX8_isAsked 9 = .ok (.i2l, 1) := by decide +kernel
theorem dX8_isAsked_10 : decode cX8_isAsked 10 = .ok (.lconst 1, 1) := by decide +kernel
theorem dX8_isAsked_11 : decode cX8_isAsked 11 = .ok (.ldc2_w 254, 3) := by decide +kernel
theorem dX8_isAsked_14 : decode cX8_isAsked 14 = .ok (.invokestatic 75, 3) := by decide +kernel
theorem dX8_isAsked_17 : decode cX8_isAsked 17 = .ok (.ifCond .eq 14, 3) := by decide +kernel
theorem dX8_isAsked_20 : decode cX8_isAsked 20 = .ok (.iload_n 3, 1) := by decide +kernel
theorem dX8_isAsked_21 : decode cX8_isAsked 21 = .ok (.invokestatic 242, 3) := by decide +kernel
theorem dX8_isAsked_24 : decode cX8_isAsked 24 = .ok (.ifCond .eq 7, 3) := by decide +kernel
theorem dX8_isAsked_27 : decode cX8_isAsked 27 = .ok (.iconst 1, 1) := by decide +kernel
theorem dX8_isAsked_28 : decode cX8_isAsked 28 = .ok (.goto 4, 3) := by decide +kernel
theorem dX8_isAsked_31 : decode cX8_isAsked 31 = .ok (.iconst 0, 1) := by decide +kernel
theorem dX8_isAsked_32 : decode cX8_isAsked 32 = .ok (.ireturn, 1) := by decide +kernel
theorem dX8_turns_0 : decode cX8_turns 0 = .ok (.aload_n 0, 1) := by decide +kernel
theorem dX8_turns_1 : decode cX8_turns 1 = .ok (.iload_n 1, 1) := by decide +kernel
theorem dX8_turns_2 : decode cX8_turns 2 = .ok (.iload_n 2, 1) := by decide +kernel
theorem dX8_turns_3 : decode cX8_turns 3 = .ok (.iload_n 3, 1) := by decide +kernel
theorem dX8_turns_4 : decode cX8_turns 4 = .ok (.invokevirtual 256, 3) := by decide +kernel
theorem dX8_turns_7 : decode cX8_turns 7 = .ok (.ifCond .ne 5, 3) := by decide +kernel
theorem dX8_turns_10 : decode cX8_turns 10 = .ok (.iconst (-1), 1) := by decide +kernel
theorem dX8_turns_11 : decode cX8_turns 11 = .ok (.ireturn, 1) := by decide +kernel
theorem dX8_turns_12 : decode cX8_turns 12 = .ok (.iconst 0, 1) := by decide +kernel
theorem dX8_turns_13 : decode cX8_turns 13 = .ok (.istore 4, 2) := by decide +kernel
theorem dX8_turns_15 : decode cX8_turns 15 = .ok (.iload 4, 2) := by decide +kernel
theorem dX8_turns_17 : decode cX8_turns 17 = .ok (.bipush 40, 2) := by decide +kernel
theorem dX8_turns_19 : decode cX8_turns 19 = .ok (.if_icmp .gt 25, 3) := by decide +kernel
theorem dX8_turns_22 : decode cX8_turns 22 = .ok (.aload_n 0, 1) := by decide +kernel
theorem dX8_turns_23 : decode cX8_turns 23 = .ok (.iload_n 1, 1) := by decide +kernel
theorem dX8_turns_24 : decode cX8_turns 24 = .ok (.iload 4, 2) := by decide +kernel
theorem dX8_turns_26 : decode cX8_turns 26 = .ok (.iconst 0, 1) := by decide +kernel
theorem dX8_turns_27 : decode cX8_turns 27 = .ok (.iload_n 3, 1) := by decide +kernel
theorem dX8_turns_28 : decode cX8_turns 28 = .ok (.invokevirtual 260, 3) := by decide +kernel
theorem dX8_turns_31 : decode cX8_turns 31 = .ok (.iload_n 2, 1) := by decide +kernel
theorem dX8_turns_32 : decode cX8_turns 32 = .ok (.if_icmp .gt 6, 3) := by decide +kernel
theorem dX8_turns_35 : decode cX8_turns 35 = .ok (.iload 4, 2) := by decide +kernel
theorem dX8_turns_37 : decode cX8_turns 37 = .ok (.ireturn, 1) := by decide +kernel
theorem dX8_turns_38 : decode cX8_turns 38 = .ok (.iinc 4 1, 3) := by decide +kernel
theorem dX8_turns_41 : decode cX8_turns 41 = .ok (.goto (-26), 3) := by decide +kernel
theorem dX8_turns_44 : decode cX8_turns 44 = .ok (.bipush (-4), 2) := by decide +kernel
theorem dX8_turns_46 : decode cX8_turns 46 = .ok (.ireturn, 1) := by decide +kernel
theorem dX8_hands_0 : decode cX8_hands 0 = .ok (.aload_n 0, 1) := by decide +kernel
theorem dX8_hands_1 : decode cX8_hands 1 = .ok (.iload_n 1, 1) := by decide +kernel
theorem dX8_hands_2 : decode cX8_hands 2 = .ok (.iload_n 2, 1) := by decide +kernel
theorem dX8_hands_3 : decode cX8_hands 3 = .ok (.iload_n 3, 1) := by decide +kernel
theorem dX8_hands_4 : decode cX8_hands 4 = .ok (.invokevirtual 256, 3) := by decide +kernel
theorem dX8_hands_7 : decode cX8_hands 7 = .ok (.ifCond .ne 5, 3) := by decide +kernel
theorem dX8_hands_10 : decode cX8_hands 10 = .ok (.iconst (-1), 1) := by decide +kernel
theorem dX8_hands_11 : decode cX8_hands 11 = .ok (.ireturn, 1) := by decide +kernel
theorem dX8_hands_12 : decode cX8_hands 12 = .ok (.iconst 0, 1) := by decide +kernel
theorem dX8_hands_13 : decode cX8_hands 13 = .ok (.istore 4, 2) := by decide +kernel
theorem dX8_hands_15 : decode cX8_hands 15 = .ok (.iload 4, 2) := by decide +kernel
theorem dX8_hands_17 : decode cX8_hands 17 = .ok (.bipush 12, 2) := by decide +kernel
theorem dX8_hands_19 : decode cX8_hands 19 = .ok (.if_icmp .ge 25, 3) := by decide +kernel
theorem dX8_hands_22 : decode cX8_hands 22 = .ok (.aload_n 0, 1) := by decide +kernel
theorem dX8_hands_23 : decode cX8_hands 23 = .ok (.iload_n 1, 1) := by decide +kernel
theorem dX8_hands_24 : decode cX8_hands 24 = .ok (.iconst 0, 1) := by decide +kernel
theorem dX8_hands_25 : decode cX8_hands 25 = .ok (.iload 4, 2) := by decide +kernel
theorem dX8_hands_27 : decode cX8_hands 27 = .ok (.iload_n 3, 1) := by decide +kernel
theorem dX8_hands_28 : decode cX8_hands 28 = .ok (.invokevirtual 260, 3) := by decide +kernel
theorem dX8_hands_31 : decode cX8_hands 31 = .ok (.iload_n 2, 1) := by decide +kernel
theorem dX8_hands_32 : decode cX8_hands 32 = .ok (.if_icmp .gt 6, 3) := by decide +kernel
theorem dX8_hands_35 : decode cX8_hands 35 = .ok (.iload 4, 2) := by decide +kernel
theorem dX8_hands_37 : decode cX8_hands 37 = .ok (.ireturn, 1) := by decide +kernel
theorem dX8_hands_38 : decode cX8_hands 38 = .ok (.iinc 4 1, 3) := by decide +kernel
theorem dX8_hands_41 : decode cX8_hands 41 = .ok (.goto (-26), 3) := by decide +kernel
theorem dX8_hands_44 : decode cX8_hands 44 = .ok (.bipush (-4), 2) := by decide +kernel
theorem dX8_hands_46 : decode cX8_hands 46 = .ok (.ireturn, 1) := by decide +kernel
theorem dX8_both_0 : decode cX8_both 0 = .ok (.aload_n 0, 1) := by decide +kernel
theorem dX8_both_1 : decode cX8_both 1 = .ok (.iload_n 1, 1) := by decide +kernel
theorem dX8_both_2 : decode cX8_both 2 = .ok (.iload_n 2, 1) := by decide +kernel
theorem dX8_both_3 : decode cX8_both 3 = .ok (.iload_n 3, 1) := by decide +kernel
theorem dX8_both_4 : decode cX8_both 4 = .ok (.invokevirtual 256, 3) := by decide +kernel
theorem dX8_both_7 : decode cX8_both 7 = .ok (.ifCond .eq 14, 3) := by decide +kernel
theorem dX8_both_10 : decode cX8_both 10 = .ok (.iload 4, 2) := by decide +kernel
theorem dX8_both_12 : decode cX8_both 12 = .ok (.i2l, 1) := by decide +kernel
theorem dX8_both_13 : decode cX8_both 13 = .ok (.lconst 0, 1) := by decide +kernel
theorem dX8_both_14 : decode cX8_both 14 = .ok (.lconst 1, 1) := by decide +kernel
theorem dX8_both_15 : decode cX8_both 15 = .ok (.invokestatic 75, 3) := by decide +kernel
theorem dX8_both_18 : decode cX8_both 18 = .ok (.ifCond .ne 5, 3) := by decide +kernel
theorem dX8_both_21 : decode cX8_both 21 = .ok (.iconst (-1), 1) := by decide +kernel
theorem dX8_both_22 : decode cX8_both 22 = .ok (.ireturn, 1) := by decide +kernel
theorem dX8_both_23 : decode cX8_both 23 = .ok (.iconst 0, 1) := by decide +kernel
theorem dX8_both_24 : decode cX8_both 24 = .ok (.istore 5, 2) := by decide +kernel
theorem dX8_both_26 : decode cX8_both 26 = .ok (.iload 5, 2) := by decide +kernel
theorem dX8_both_28 : decode cX8_both 28 = .ok (.bipush 51, 2) := by decide +kernel
theorem dX8_both_30 : decode cX8_both 30 = .ok (.if_icmp .gt 72, 3) := by decide +kernel
theorem dX8_both_33 : decode cX8_both 33 = .ok (.iconst 0, 1) := by decide +kernel
theorem dX8_both_34 : decode cX8_both 34 = .ok (.istore 6, 2) := by decide +kernel
theorem dX8_both_36 : decode cX8_both 36 = .ok (.iload 6, 2) := by decide +kernel
theorem dX8_both_38 : decode cX8_both 38 = .ok (.bipush 12, 2) := by decide +kernel
theorem dX8_both_40 : decode cX8_both 40 = .ok (.if_icmp .ge 56, 3) := by decide +kernel
theorem dX8_both_43 : decode cX8_both 43 = .ok (.iload 6, 2) := by decide +kernel
theorem dX8_both_45 : decode cX8_both 45 = .ok (.iload 5, 2) := by decide +kernel
theorem dX8_both_47 : decode cX8_both 47 = .ok (.if_icmp .gt 49, 3) := by decide +kernel
theorem dX8_both_50 : decode cX8_both 50 = .ok (.iload 5, 2) := by decide +kernel
theorem dX8_both_52 : decode cX8_both 52 = .ok (.iload 6, 2) := by decide +kernel
theorem dX8_both_54 : decode cX8_both 54 = .ok (.isub, 1) := by decide +kernel
theorem dX8_both_55 : decode cX8_both 55 = .ok (.bipush 40, 2) := by decide +kernel
theorem dX8_both_57 : decode cX8_both 57 = .ok (.if_icmp .gt 33, 3) := by decide +kernel
theorem dX8_both_60 : decode cX8_both 60 = .ok (.aload_n 0, 1) := by decide +kernel
theorem dX8_both_61 : decode cX8_both 61 = .ok (.iload_n 1, 1) := by decide +kernel
theorem dX8_both_62 : decode cX8_both 62 = .ok (.iload 5, 2) := by decide +kernel
theorem dX8_both_64 : decode cX8_both 64 = .ok (.iload 6, 2) := by decide +kernel
theorem dX8_both_66 : decode cX8_both 66 = .ok (.isub, 1) := by decide +kernel
theorem dX8_both_67 : decode cX8_both 67 = .ok (.iload 6, 2) := by decide +kernel
theorem dX8_both_69 : decode cX8_both 69 = .ok (.iload_n 3, 1) := by decide +kernel
theorem dX8_both_70 : decode cX8_both 70 = .ok (.invokevirtual 260, 3) := by decide +kernel
theorem dX8_both_73 : decode cX8_both 73 = .ok (.iload_n 2, 1) := by decide +kernel
theorem dX8_both_74 : decode cX8_both 74 = .ok (.if_icmp .gt 16, 3) := by decide +kernel
theorem dX8_both_77 : decode cX8_both 77 = .ok (.iload 4, 2) := by decide +kernel
theorem dX8_both_79 : decode cX8_both 79 = .ok (.ifCond .ne 8, 3) := by decide +kernel
theorem dX8_both_82 : decode cX8_both 82 = .ok (.iload 5, 2) := by decide +kernel
theorem dX8_both_84 : decode cX8_both 84 = .ok (.goto 5, 3) := by decide +kernel
theorem dX8_both_87 : decode cX8_both 87 = .ok (.iload 6, 2) := by decide +kernel
theorem dX8_both_89 : decode cX8_both 89 = .ok (.ireturn, 1) := by decide +kernel
theorem dX8_both_90 : decode cX8_both 90 = .ok (.iinc 6 1, 3) := by decide +kernel
theorem dX8_both_93 : decode cX8_both 93 = .ok (.goto (-57), 3) := by decide +kernel
theorem dX8_both_96 : decode cX8_both 96 = .ok (.iinc 5 1, 3) := by decide +kernel
theorem dX8_both_99 : decode cX8_both 99 = .ok (.goto (-73), 3) := by decide +kernel
theorem dX8_both_102 : decode cX8_both 102 = .ok (.bipush (-4), 2) := by decide +kernel
theorem dX8_both_104 : decode cX8_both 104 = .ok (.ireturn, 1) := by decide +kernel
theorem dX8_doesRest_0 : decode cX8_doesRest 0 = .ok (.iconst 1, 1) := by decide +kernel
theorem dX8_doesRest_1 : decode cX8_doesRest 1 = .ok (.istore_n 2, 1) := by decide +kernel
theorem dX8_doesRest_2 : decode cX8_doesRest 2 = .ok (.iconst 0, 1) := by decide +kernel
theorem dX8_doesRest_3 : decode cX8_doesRest 3 = .ok (.istore_n 3, 1) := by decide +kernel
theorem dX8_doesRest_4 : decode cX8_doesRest 4 = .ok (.iload_n 3, 1) := by decide +kernel
theorem dX8_doesRest_5 : decode cX8_doesRest 5 = .ok (.bipush 12, 2) := by decide +kernel
theorem dX8_doesRest_7 : decode cX8_doesRest 7 = .ok (.if_icmp .ge 65, 3) := by decide +kernel
theorem dX8_doesRest_10 : decode cX8_doesRest 10 = .ok (.iload_n 2, 1) := by decide +kernel
theorem dX8_doesRest_11 : decode cX8_doesRest 11 = .ok (.ifCond .eq 53, 3) := by decide +kernel
theorem dX8_doesRest_14 : decode cX8_doesRest 14 = .ok (.aload_n 0, 1) := by decide +kernel
theorem dX8_doesRest_15 : decode cX8_doesRest 15 = .ok (.getfield 53, 3) := by decide +kernel
theorem dX8_doesRest_18 : decode cX8_doesRest 18 = .ok (.bipush 12, 2) := by decide +kernel
theorem dX8_doesRest_20 : decode cX8_doesRest 20 = .ok (.iload_n 3, 1) := by decide +kernel
theorem dX8_doesRest_21 : decode cX8_doesRest 21 = .ok (.imul, 1) := by decide +kernel
theorem dX8_doesRest_22 : decode cX8_doesRest 22 = .ok (.iload_n 1, 1) := by decide +kernel
theorem dX8_doesRest_23 : decode cX8_doesRest 23 = .ok (.bipush 12, 2) := by decide +kernel
theorem dX8_doesRest_25 : decode cX8_doesRest 25 = .ok (.irem, 1) := by decide +kernel
theorem dX8_doesRest_26 : decode cX8_doesRest 26 = .ok (.iadd, 1) := by decide +kernel
theorem dX8_doesRest_27 : decode cX8_doesRest 27 = .ok (.iaload, 1) := by decide +kernel
theorem dX8_doesRest_28 : decode cX8_doesRest 28 = .ok (.aload_n 0, 1) := by decide +kernel
theorem dX8_doesRest_29 : decode cX8_doesRest 29 = .ok (.getfield 53, 3) := by decide +kernel
theorem dX8_doesRest_32 : decode cX8_doesRest 32 = .ok (.iload_n 1, 1) := by decide +kernel
