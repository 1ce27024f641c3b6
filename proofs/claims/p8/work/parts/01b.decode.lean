theorem dX0_init_0 : decode cX0_init 0 = .ok (.aload_n 0, 1) := by decide +kernel
theorem dX0_init_1 : decode cX0_init 1 = .ok (.invokespecial 3, 3) := by decide +kernel
theorem dX0_init_4 : decode cX0_init 4 = .ok (.aload_n 0, 1) := by decide +kernel
theorem dX0_init_5 : decode cX0_init 5 = .ok (.iconst 0, 1) := by decide +kernel
theorem dX0_init_6 : decode cX0_init 6 = .ok (.putfield 9, 3) := by decide +kernel
theorem dX0_init_9 : decode cX0_init 9 = .ok (.aload_n 0, 1) := by decide +kernel
theorem dX0_init_10 : decode cX0_init 10 = .ok (.bipush 6, 2) := by decide +kernel
theorem dX0_init_12 : decode cX0_init 12 = .ok (.newarray .int, 2) := by decide +kernel
theorem dX0_init_14 : decode cX0_init 14 = .ok (.putfield 15, 3) := by decide +kernel
theorem dX0_init_17 : decode cX0_init 17 = .ok (.aload_n 0, 1) := by decide +kernel
theorem dX0_init_18 : decode cX0_init 18 = .ok (.bipush 6, 2) := by decide +kernel
theorem dX0_init_20 : decode cX0_init 20 = .ok (.newarray .int, 2) := by decide +kernel
theorem dX0_init_22 : decode cX0_init 22 = .ok (.putfield 19, 3) := by decide +kernel
theorem dX0_init_25 : decode cX0_init 25 = .ok (.return_, 1) := by decide +kernel
theorem dX0_become_0 : decode cX0_become 0 = .ok (.aload_n 0, 1) := by decide +kernel
theorem dX0_become_1 : decode cX0_become 1 = .ok (.aload_n 1, 1) := by decide +kernel
theorem dX0_become_2 : decode cX0_become 2 = .ok (.getfield 9, 3) := by decide +kernel
theorem dX0_become_5 : decode cX0_become 5 = .ok (.putfield 9, 3) := by decide +kernel
theorem dX0_become_8 : decode cX0_become 8 = .ok (.aload_n 1, 1) := by decide +kernel
theorem dX0_become_9 : decode cX0_become 9 = .ok (.getfield 15, 3) := by decide +kernel
theorem dX0_become_12 : decode cX0_become 12 = .ok (.iconst 0, 1) := by decide +kernel
theorem dX0_become_13 : decode cX0_become 13 = .ok (.aload_n 0, 1) := by decide +kernel
theorem dX0_become_14 : decode cX0_become 14 = .ok (.getfield 15, 3) := by decide +kernel
theorem dX0_become_17 : decode cX0_become 17 = .ok (.iconst 0, 1) := by decide +kernel
theorem dX0_become_18 : decode cX0_become 18 = .ok (.aload_n 0, 1) := by decide +kernel
theorem dX0_become_19 : decode cX0_become 19 = .ok (.getfield 9, 3) := by decide +kernel
theorem dX0_become_22 : decode cX0_become 22 = .ok (.invokestatic 22, 3) := by decide +kernel
theorem dX0_become_25 : decode cX0_become 25 = .ok (.aload_n 1, 1) := by decide +kernel
theorem dX0_become_26 : decode cX0_become 26 = .ok (.getfield 19, 3) := by decide +kernel
theorem dX0_become_29 : decode cX0_become 29 = .ok (.iconst 0, 1) := by decide +kernel
theorem dX0_become_30 : decode cX0_become 30 = .ok (.aload_n 0, 1) := by decide +kernel
theorem dX0_become_31 : decode cX0_become 31 = .ok (.getfield 19, 3) := by decide +kernel
theorem dX0_become_34 : decode cX0_become 34 = .ok (.iconst 0, 1) := by decide +kernel
theorem dX0_become_35 : decode cX0_become 35 = .ok (.aload_n 0, 1) := by decide +kernel
theorem dX0_become_36 : decode cX0_become 36 = .ok (.getfield 9, 3) := by decide +kernel
theorem dX0_become_39 : decode cX0_become 39 = .ok (.invokestatic 22, 3) := by decide +kernel
theorem dX0_become_42 : decode cX0_become 42 = .ok (.return_, 1) := by decide +kernel
theorem dX0_add_0 : decode cX0_add 0 = .ok (.aload_n 0, 1) := by decide +kernel
theorem dX0_add_1 : decode cX0_add 1 = .ok (.getfield 9, 3) := by decide +kernel
theorem dX0_add_4 : decode cX0_add 4 = .ok (.istore_n 3, 1) := by decide +kernel
theorem dX0_add_5 : decode cX0_add 5 = .ok (.aload_n 0, 1) := by decide +kernel
theorem dX0_add_6 : decode cX0_add 6 = .ok (.getfield 15, 3) := by decide +kernel
theorem dX0_add_9 : decode cX0_add 9 = .ok (.iload_n 3, 1) := by decide +kernel
theorem dX0_add_10 : decode cX0_add 10 = .ok (.iload_n 1, 1) := by decide +kernel
theorem dX0_add_11 : decode cX0_add 11 = .ok (.iastore, 1) := by decide +kernel
theorem dX0_add_12 : decode cX0_add 12 = .ok (.aload_n 0, 1) := by decide +kernel
theorem dX0_add_13 : decode cX0_add 13 = .ok (.getfield 19, 3) := by decide +kernel
theorem dX0_add_16 : decode cX0_add 16 = .ok (.iload_n 3, 1) := by decide +kernel
theorem dX0_add_17 : decode cX0_add 17 = .ok (.iload_n 2, 1) := by decide +kernel
theorem dX0_add_18 : decode cX0_add 18 = .ok (.iastore, 1) := by decide +kernel
theorem dX0_add_19 : decode cX0_add 19 = .ok (.aload_n 0, 1) := by decide +kernel
theorem dX0_add_20 : decode cX0_add 20 = .ok (.dup, 1) := by decide +kernel
theorem dX0_add_21 : decode cX0_add 21 = .ok (.getfield 9, 3) := by decide +kernel
theorem dX0_add_24 : decode cX0_add 24 = .ok (.iconst 1, 1) := by decide +kernel
theorem dX0_add_25 : decode cX0_add 25 = .ok (.iadd, 1) := by decide +kernel
theorem dX0_add_26 : decode cX0_add 26 = .ok (.putfield 9, 3) := by decide +kernel
theorem dX0_add_29 : decode cX0_add 29 = .ok (.iload_n 3, 1) := by decide +kernel
theorem dX0_add_30 : decode cX0_add 30 = .ok (.ireturn, 1) := by decide +kernel
theorem dX0_removeOn_0 : decode cX0_removeOn 0 = .ok (.iconst 0, 1) := by decide +kernel
theorem dX0_removeOn_1 : decode cX0_removeOn 1 = .ok (.istore_n 2, 1) := by decide +kernel
theorem dX0_removeOn_2 : decode cX0_removeOn 2 = .ok (.iconst 0, 1) := by decide +kernel
theorem dX0_removeOn_3 : decode cX0_removeOn 3 = .ok (.istore_n 3, 1) := by decide +kernel
theorem dX0_removeOn_4 : decode cX0_removeOn 4 = .ok (.iload_n 3, 1) := by decide +kernel
theorem dX0_removeOn_5 : decode cX0_removeOn 5 = .ok (.aload_n 0, 1) := by decide +kernel
theorem dX0_removeOn_6 : decode cX0_removeOn 6 = .ok (.getfield 9, 3) := by decide +kernel
theorem dX0_removeOn_9 : decode cX0_removeOn 9 = .ok (.if_icmp .ge 49, 3) := by decide +kernel
theorem dX0_removeOn_12 : decode cX0_removeOn 12 = .ok (.aload_n 0, 1) := by decide +kernel
theorem dX0_removeOn_13 : decode cX0_removeOn 13 = .ok (.getfield 15, 3) := by decide +kernel
theorem dX0_removeOn_16 : decode cX0_removeOn 16 = .ok (.iload_n 3, 1) := by decide +kernel
theorem dX0_removeOn_17 : decode cX0_removeOn 17 = .ok (.iaload, 1) := by decide +kernel
theorem dX0_removeOn_18 : decode cX0_removeOn 18 = .ok (.iload_n 1, 1) := by decide +kernel
theorem dX0_removeOn_19 : decode cX0_removeOn 19 = .ok (.if_icmp .ne 6, 3) := by decide +kernel
theorem dX0_removeOn_22 : decode cX0_removeOn 22 = .ok (.goto 30, 3) := by decide +kernel
theorem dX0_removeOn_25 : decode cX0_removeOn 25 = .ok (.aload_n 0, 1) := by decide +kernel
theorem dX0_removeOn_26 : decode cX0_removeOn 26 = .ok (.getfield 15, 3) := by decide +kernel
theorem dX0_removeOn_29 : decode cX0_removeOn 29 = .ok (.iload_n 2, 1) := by decide +kernel
theorem dX0_removeOn_30 : decode cX0_removeOn 30 = .ok (.aload_n 0, 1) := by decide +kernel
theorem dX0_removeOn_31 : decode cX0_removeOn 31 = .ok (.getfield 15, 3) := by decide +kernel
theorem dX0_removeOn_34 : decode cX0_removeOn 34 = .ok (.iload_n 3, 1) := by decide +kernel
theorem dX0_removeOn_35 : decode cX0_removeOn 35 = .ok (.iaload, 1) := by decide +kernel
theorem dX0_removeOn_36 : decode cX0_removeOn 36 = .ok (.iastore, 1) := by decide +kernel
theorem dX0_removeOn_37 : decode cX0_removeOn 37 = .ok (.aload_n 0, 1) := by decide +kernel
theorem dX0_removeOn_38 : decode cX0_removeOn 38 = .ok (.getfield 19, 3) := by decide +kernel
theorem dX0_removeOn_41 : decode cX0_removeOn 41 = .ok (.iload_n 2, 1) := by decide +kernel
theorem dX0_removeOn_42 : decode cX0_removeOn 42 = .ok (.aload_n 0, 1) := by decide +kernel
theorem dX0_removeOn_43 : decode cX0_removeOn 43 = .ok (.getfield 19, 3) := by decide +kernel
theorem dX0_removeOn_46 : decode cX0_removeOn 46 = .ok (.iload_n 3, 1) := by decide +kernel
theorem dX0_removeOn_47 : decode cX0_removeOn 47 = .ok (.iaload, 1) := by decide +kernel
theorem dX0_removeOn_48 : decode cX0_removeOn 48 = .ok (.iastore, 1) := by decide +kernel
theorem dX0_removeOn_49 : decode cX0_removeOn 49 = .ok (.iinc 2 1, 3) := by decide +kernel
theorem dX0_removeOn_52 : decode cX0_removeOn 52 = .ok (.iinc 3 1, 3) := by decide +kernel
theorem dX0_removeOn_55 : decode cX0_removeOn 55 = .ok (.goto (-51), 3) := by decide +kernel
theorem dX0_removeOn_58 : decode cX0_removeOn 58 = .ok (.aload_n 0, 1) := by decide +kernel
theorem dX0_removeOn_59 : decode cX0_removeOn 59 = .ok (.iload_n 2, 1) := by decide +kernel
theorem dX0_removeOn_60 : decode cX0_removeOn 60 = .ok (.putfield 9, 3) := by decide +kernel
theorem dX0_removeOn_63 : decode cX0_removeOn 63 = .ok (.return_, 1) := by decide +kernel
theorem dX0_wins_0 : decode cX0_wins 0 = .ok (.iload_n 2, 1) := by decide +kernel
theorem dX0_wins_1 : decode cX0_wins 1 = .ok (.aload_n 0, 1) := by decide +kernel
theorem dX0_wins_2 : decode cX0_wins 2 = .ok (.getfield 15, 3) := by decide +kernel
theorem dX0_wins_5 : decode cX0_wins 5 = .ok (.iload_n 1, 1) := by decide +kernel
theorem dX0_wins_6 : decode cX0_wins 6 = .ok (.iaload, 1) := by decide +kernel
theorem dX0_wins_7 : decode cX0_wins 7 = .ok (.ishr, 1) := by decide +kernel
theorem dX0_wins_8 : decode cX0_wins 8 = .ok (.iconst 1, 1) := by decide +kernel
theorem dX0_wins_9 : decode cX0_wins 9 = .ok (.iand, 1) := by decide +kernel
theorem dX0_wins_10 : decode cX0_wins 10 = .ok (.iconst 1, 1) := by decide +kernel
theorem dX0_wins_11 : decode cX0_wins 11 = .ok (.if_icmp .ne 7, 3) := by decide +kernel
theorem dX0_wins_14 : decode cX0_wins 14 = .ok (.iconst 1, 1) := by decide +kernel
theorem dX0_wins_15 : decode cX0_wins 15 = .ok (.goto 4, 3) := by decide +kernel
theorem dX0_wins_18 : decode cX0_wins 18 = .ok (.iconst 0, 1) := by decide +kernel
theorem dX0_wins_19 : decode cX0_wins 19 = .ok (.ireturn, 1) := by decide +kernel
theorem dX0_share_0 : decode cX0_share 0 = .ok (.iconst 0, 1) := by decide +kernel
theorem dX0_share_1 : decode cX0_share 1 = .ok (.istore_n 3, 1) := by decide +kernel
theorem dX0_share_2 : decode cX0_share 2 = .ok (.iconst 0, 1) := by decide +kernel
theorem dX0_share_3 : decode cX0_share 3 = .ok (.istore 4, 2) := by decide +kernel
theorem dX0_share_5 : decode cX0_share 5 = .ok (.iconst 0, 1) := by decide +kernel
theorem dX0_share_6 : decode cX0_share 6 = .ok (.istore 5, 2) := by decide +kernel
theorem dX0_share_8 : decode cX0_share 8 = .ok (.iload 5, 2) := by decide +kernel
theorem dX0_share_10 : decode cX0_share 10 = .ok (.aload_n 0, 1) := by decide +kernel
theorem dX0_share_11 : decode cX0_share 11 = .ok (.getfield 9, 3) := by decide +kernel
theorem dX0_share_14 : decode cX0_share 14 = .ok (.if_icmp .ge 41, 3) := by decide +kernel
theorem dX0_share_17 : decode cX0_share 17 = .ok (.iload_n 3, 1) := by decide +kernel
theorem dX0_share_18 : decode cX0_share 18 = .ok (.aload_n 0, 1) := by decide +kernel
theorem dX0_share_19 : decode cX0_share 19 = .ok (.getfield 19, 3) := by decide +kernel
theorem dX0_share_22 : decode cX0_share 22 = .ok (.iload 5, 2) := by decide +kernel
theorem dX0_share_24 : decode cX0_share 24 = .ok (.iaload, 1) := by decide +kernel
theorem dX0_share_25 : decode cX0_share 25 = .ok (.iadd, 1) := by decide +kernel
theorem dX0_share_26 : decode cX0_share 26 = .ok (.istore_n 3, 1) := by decide +kernel
theorem dX0_share_27 : decode cX0_share 27 = .ok (.aload_n 0, 1) := by decide +kernel
theorem dX0_share_28 : decode cX0_share 28 = .ok (.iload 5, 2) := by decide +kernel
theorem dX0_share_30 : decode cX0_share 30 = .ok (.iload_n 2, 1) := by decide +kernel
theorem dX0_share_31 : decode cX0_share 31 = .ok (.invokevirtual 28, 3) := by decide +kernel
theorem dX0_share_34 : decode cX0_share 34 = .ok (.ifCond .eq 15, 3) := by decide +kernel
theorem dX0_share_37 : decode cX0_share 37 = .ok (.iload 4, 2) := by decide +kernel
theorem dX0_share_39 : decode cX0_share 39 = .ok (.aload_n 0, 1) := by decide +kernel
theorem dX0_share_40 : decode cX0_share 40 = .ok (.getfield 19, 3) := by decide +kernel
theorem dX0_share_43 : decode cX0_share 43 = .ok (.iload 5, 2) := by decide +kernel
theorem dX0_share_45 : decode cX0_share 45 = .ok (.iaload, 1) := by decide +kernel
theorem dX0_share_46 : decode cX0_share 46 = .ok (.iadd, 1) := by decide +kernel
theorem dX0_share_47 : decode cX0_share 47 = .ok (.istore 4, 2) := by decide +kernel
theorem dX0_share_49 : decode cX0_share 49 = .ok (.iinc 5 1, 3) := by decide +kernel
theorem dX0_share_52 : decode cX0_share 52 = .ok (.goto (-44), 3) := by decide +kernel
theorem dX0_share_55 : decode cX0_share 55 = .ok (.iload 4, 2) := by decide +kernel
theorem dX0_share_57 : decode cX0_share 57 = .ok (.ifCond .ne 10, 3) := by decide +kernel
theorem dX0_share_60 : decode cX0_share 60 = .ok (.aload_n 0, 1) := by decide +kernel
theorem dX0_share_61 : decode cX0_share 61 = .ok (.getfield 19, 3) := by decide +kernel
theorem dX0_share_64 : decode cX0_share 64 = .ok (.iload_n 1, 1) := by decide +kernel
theorem dX0_share_65 : decode cX0_share 65 = .ok (.iaload, 1) := by decide +kernel
theorem dX0_share_66 : decode cX0_share 66 = .ok (.ireturn, 1) := by decide +kernel
theorem dX0_share_67 : decode cX0_share 67 = .ok (.aload_n 0, 1) := by decide +kernel
theorem dX0_share_68 : decode cX0_share 68 = .ok (.iload_n 1, 1) := by decide +kernel
theorem dX0_share_69 : decode cX0_share 69 = .ok (.iload_n 2, 1) := by decide +kernel
theorem dX0_share_70 : decode cX0_share 70 = .ok (.invokevirtual 28, 3) := by decide +kernel
theorem dX0_share_73 : decode cX0_share 73 = .ok (.ifCond .eq 17, 3) := by decide +kernel
theorem dX0_share_76 : decode cX0_share 76 = .ok (.iload_n 3, 1) := by decide +kernel
theorem dX0_share_77 : decode cX0_share 77 = .ok (.aload_n 0, 1) := by decide +kernel
theorem dX0_share_78 : decode cX0_share 78 = .ok (.getfield 19, 3) := by decide +kernel
theorem dX0_share_81 : decode cX0_share 81 = .ok (.iload_n 1, 1) := by decide +kernel
theorem dX0_share_82 : decode cX0_share 82 = .ok (.iaload, 1) := by decide +kernel
theorem dX0_share_83 : decode cX0_share 83 = .ok (.imul, 1) := by decide +kernel
theorem dX0_share_84 : decode cX0_share 84 = .ok (.iload 4, 2) := by decide +kernel
theorem dX0_share_86 : decode cX0_share 86 = .ok (.idiv, 1) := by decide +kernel
theorem dX0_share_87 : decode cX0_share 87 = .ok (.goto 4, 3) := by decide +kernel
theorem dX0_share_90 : decode cX0_share 90 = .ok (.iconst 0, 1) := by decide +kernel
theorem dX0_share_91 : decode cX0_share 91 = .ok (.ireturn, 1) := by decide +kernel
theorem dX1_init_0 : decode cX1_init 0 = .ok (.aload_n 0, 1) := by decide +kernel
theorem dX1_init_1 : decode cX1_init 1 = .ok (.invokespecial 3, 3) := by decide +kernel
theorem dX1_init_4 : decode cX1_init 4 = .ok (.aload_n 0, 1) := by decide +kernel
theorem dX1_init_5 : decode cX1_init 5 = .ok (.iconst 0, 1) := by decide +kernel
theorem dX1_init_6 : decode cX1_init 6 = .ok (.putfield 9, 3) := by decide +kernel
theorem dX1_init_9 : decode cX1_init 9 = .ok (.aload_n 0, 1) := by decide +kernel
theorem dX1_init_10 : decode cX1_init 10 = .ok (.bipush 80, 2) := by decide +kernel
theorem dX1_init_12 : decode cX1_init 12 = .ok (.newarray .int, 2) := by decide +kernel
theorem dX1_init_14 : decode cX1_init 14 = .ok (.putfield 15, 3) := by decide +kernel
theorem dX1_init_17 : decode cX1_init 17 = .ok (.aload_n 0, 1) := by decide +kernel
theorem dX1_init_18 : decode cX1_init 18 = .ok (.bipush 80, 2) := by decide +kernel
theorem dX1_init_20 : decode cX1_init 20 = .ok (.newarray .int, 2) := by decide +kernel
theorem dX1_init_22 : decode cX1_init 22 = .ok (.putfield 19, 3) := by decide +kernel
theorem dX1_init_25 : decode cX1_init 25 = .ok (.aload_n 0, 1) := by decide +kernel
theorem dX1_init_26 : decode cX1_init 26 = .ok (.bipush 80, 2) := by decide +kernel
theorem dX1_init_28 : decode cX1_init 28 = .ok (.newarray .int, 2) := by decide +kernel
theorem dX1_init_30 : decode cX1_init 30 = .ok (.putfield 22, 3) := by decide +kernel
theorem dX1_init_33 : decode cX1_init 33 = .ok (.return_, 1) := by decide +kernel
theorem dX1_add_0 : decode cX1_add 0 = .ok (.aload_n 0, 1) := by decide +kernel
theorem dX1_add_1 : decode cX1_add 1 = .ok (.getfield 15, 3) := by decide +kernel
theorem dX1_add_4 : decode cX1_add 4 = .ok (.aload_n 0, 1) := by decide +kernel
theorem dX1_add_5 : decode cX1_add 5 = .ok (.getfield 9, 3) := by decide +kernel
theorem dX1_add_8 : decode cX1_add 8 = .ok (.iload_n 1, 1) := by decide +kernel
theorem dX1_add_9 : decode cX1_add 9 = .ok (.iastore, 1) := by decide +kernel
theorem dX1_add_10 : decode cX1_add 10 = .ok (.aload_n 0, 1) := by decide +kernel
theorem dX1_add_11 : decode cX1_add 11 = .ok (.getfield 19, 3) := by decide +kernel
theorem dX1_add_14 : decode cX1_add 14 = .ok (.aload_n 0, 1) := by decide +kernel
theorem dX1_add_15 : decode cX1_add 15 = .ok (.getfield 9, 3) := by decide +kernel
theorem dX1_add_18 : decode cX1_add 18 = .ok (.iload_n 2, 1) := by decide +kernel
theorem dX1_add_19 : decode cX1_add 19 = .ok (.iastore, 1) := by decide +kernel
theorem dX1_add_20 : decode cX1_add 20 = .ok (.aload_n 0, 1) := by decide +kernel
theorem dX1_add_21 : decode cX1_add 21 = .ok (.getfield 22, 3) := by decide +kernel
theorem dX1_add_24 : decode cX1_add 24 = .ok (.aload_n 0, 1) := by decide +kernel
theorem dX1_add_25 : decode cX1_add 25 = .ok (.getfield 9, 3) := by decide +kernel
theorem dX1_add_28 : decode cX1_add 28 = .ok (.iload_n 3, 1) := by decide +kernel
theorem dX1_add_29 : decode cX1_add 29 = .ok (.iastore, 1) := by decide +kernel
theorem dX1_add_30 : decode cX1_add 30 = .ok (.aload_n 0, 1) := by decide +kernel
theorem dX1_add_31 : decode cX1_add 31 = .ok (.dup, 1) := by decide +kernel
theorem dX1_add_32 : decode cX1_add 32 = .ok (.getfield 9, 3) := by decide +kernel
theorem dX1_add_35 : decode cX1_add 35 = .ok (.iconst 1, 1) := by decide +kernel
theorem dX1_add_36 : decode cX1_add 36 = .ok (.iadd, 1) := by decide +kernel
theorem dX1_add_37 : decode cX1_add 37 = .ok (.putfield 9, 3) := by decide +kernel
theorem dX1_add_40 : decode cX1_add 40 = .ok (.return_, 1) := by decide +kernel
theorem dX2_init_0 : decode cX2_init 0 = .ok (.aload_n 0, 1) := by decide +kernel
theorem dX2_init_1 : decode cX2_init 1 = .ok (.invokespecial 3, 3) := by decide +kernel
theorem dX2_init_4 : decode cX2_init 4 = .ok (.aload_n 0, 1) := by decide +kernel
theorem dX2_init_5 : decode cX2_init 5 = .ok (.bipush 8, 2) := by decide +kernel
theorem dX2_init_7 : decode cX2_init 7 = .ok (.putfield 9, 3) := by decide +kernel
theorem dX2_init_10 : decode cX2_init 10 = .ok (.aload_n 0, 1) := by decide +kernel
theorem dX2_init_11 : decode cX2_init 11 = .ok (.bipush 24, 2) := by decide +kernel
theorem dX2_init_13 : decode cX2_init 13 = .ok (.newarray .int, 2) := by decide +kernel
theorem dX2_init_15 : decode cX2_init 15 = .ok (.putfield 15, 3) := by decide +kernel
theorem dX2_init_18 : decode cX2_init 18 = .ok (.aload_n 0, 1) := by decide +kernel
theorem dX2_init_19 : decode cX2_init 19 = .ok (.iconst 0, 1) := by decide +kernel
theorem dX2_init_20 : decode cX2_init 20 = .ok (.putfield 19, 3) := by decide +kernel
theorem dX2_init_23 : decode cX2_init 23 = .ok (.aload_n 0, 1) := by decide +kernel
theorem dX2_init_24 : decode cX2_init 24 = .ok (.bipush 9, 2) := by decide +kernel
theorem dX2_init_26 : decode cX2_init 26 = .ok (.newarray .int, 2) := by decide +kernel
theorem dX2_init_28 : decode cX2_init 28 = .ok (.putfield 22, 3) := by decide +kernel
theorem dX2_init_31 : decode cX2_init 31 = .ok (.aload_n 0, 1) := by decide +kernel
theorem dX2_init_32 : decode cX2_init 32 = .ok (.bipush 9, 2) := by decide +kernel
theorem dX2_init_34 : decode cX2_init 34 = .ok (.newarray .int, 2) := by decide +kernel
theorem dX2_init_36 : decode cX2_init 36 = .ok (.putfield 25, 3) := by decide +kernel
theorem dX2_init_39 : decode cX2_init 39 = .ok (.aload_n 0, 1) := by decide +kernel
theorem dX2_init_40 : decode cX2_init 40 = .ok (.bipush 9, 2) := by decide +kernel
theorem dX2_init_42 : decode cX2_init 42 = .ok (.newarray .int, 2) := by decide +kernel
theorem dX2_init_44 : decode cX2_init 44 = .ok (.putfield 28, 3) := by decide +kernel
theorem dX2_init_47 : decode cX2_init 47 = .ok (.aload_n 0, 1) := by decide +kernel
theorem dX2_init_48 : decode cX2_init 48 = .ok (.bipush 9, 2) := by decide +kernel
theorem dX2_init_50 : decode cX2_init 50 = .ok (.newarray .int, 2) := by decide +kernel
theorem dX2_init_52 : decode cX2_init 52 = .ok (.putfield 31, 3) := by decide +kernel
theorem dX2_init_55 : decode cX2_init 55 = .ok (.aload_n 0, 1) := by decide +kernel
theorem dX2_init_56 : decode cX2_init 56 = .ok (.bipush 9, 2) := by decide +kernel
theorem dX2_init_58 : decode cX2_init 58 = .ok (.newarray .int, 2) := by decide +kernel
theorem dX2_init_60 : decode cX2_init 60 = .ok (.putfield 34, 3) := by decide +kernel
theorem dX2_init_63 : decode cX2_init 63 = .ok (.aload_n 0, 1) := by decide +kernel
theorem dX2_init_64 : decode cX2_init 64 = .ok (.bipush 9, 2) := by decide +kernel
theorem dX2_init_66 : decode cX2_init 66 = .ok (.newarray .int, 2) := by decide +kernel
theorem dX2_init_68 : decode cX2_init 68 = .ok (.putfield 37, 3) := by decide +kernel
theorem dX2_init_71 : decode cX2_init 71 = .ok (.aload_n 0, 1) := by decide +kernel
theorem dX2_init_72 : decode cX2_init 72 = .ok (.iconst 1, 1) := by decide +kernel
theorem dX2_init_73 : decode cX2_init 73 = .ok (.putfield 40, 3) := by decide +kernel
theorem dX2_init_76 : decode cX2_init 76 = .ok (.aload_n 0, 1) := by decide +kernel
theorem dX2_init_77 : decode cX2_init 77 = .ok (.bipush 12, 2) := by decide +kernel
theorem dX2_init_79 : decode cX2_init 79 = .ok (.newarray .int, 2) := by decide +kernel
theorem dX2_init_81 : decode cX2_init 81 = .ok (.putfield 43, 3) := by decide +kernel
theorem dX2_init_84 : decode cX2_init 84 = .ok (.aload_n 0, 1) := by decide +kernel
theorem dX2_init_85 : decode cX2_init 85 = .ok (.iconst 0, 1) := by decide +kernel
theorem dX2_init_86 : decode cX2_init 86 = .ok (.putfield 46, 3) := by decide +kernel
theorem dX2_init_89 : decode cX2_init 89 = .ok (.aload_n 0, 1) := by decide +kernel
theorem dX2_init_90 : decode cX2_init 90 = .ok (.iconst 0, 1) := by decide +kernel
theorem dX2_init_91 : decode cX2_init 91 = .ok (.putfield 49, 3) := by decide +kernel
theorem dX2_init_94 : decode cX2_init 94 = .ok (.aload_n 0, 1) := by decide +kernel
theorem dX2_init_95 : decode cX2_init 95 = .ok (.iconst 0, 1) := by decide +kernel
theorem dX2_init_96 : decode cX2_init 96 = .ok (.putfield 52, 3) := by decide +kernel
theorem dX2_init_99 : decode cX2_init 99 = .ok (.iconst 0, 1) := by decide +kernel
theorem dX2_init_100 : decode cX2_init 100 = .ok (.istore_n 1, 1) := by decide +kernel
theorem dX2_init_101 : decode cX2_init 101 = .ok (.iload_n 1, 1) := by decide +kernel
theorem dX2_init_102 : decode cX2_init 102 = .ok (.bipush 24, 2) := by decide +kernel
theorem dX2_init_104 : decode cX2_init 104 = .ok (.if_icmp .ge 17, 3) := by decide +kernel
theorem dX2_init_107 : decode cX2_init 107 = .ok (.aload_n 0, 1) := by decide +kernel
theorem dX2_init_108 : decode cX2_init 108 = .ok (.getfield 15, 3) := by decide +kernel
theorem dX2_init_111 : decode cX2_init 111 = .ok (.iload_n 1, 1) := by decide +kernel
theorem dX2_init_112 : decode cX2_init 112 = .ok (.bipush 12, 2) := by decide +kernel
theorem dX2_init_114 : decode cX2_init 114 = .ok (.iastore, 1) := by decide +kernel
theorem dX2_init_115 : decode cX2_init 115 = .ok (.iinc 1 1, 3) := by decide +kernel
theorem dX2_init_118 : decode cX2_init 118 = .ok (.goto (-17), 3) := by decide +kernel
theorem dX2_init_121 : decode cX2_init 121 = .ok (.return_, 1) := by decide +kernel
theorem dX2_become_0 : decode cX2_become 0 = .ok (.aload_n 0, 1) := by decide +kernel
theorem dX2_become_1 : decode cX2_become 1 = .ok (.aload_n 1, 1) := by decide +kernel
theorem dX2_become_2 : decode cX2_become 2 = .ok (.getfield 9, 3) := by decide +kernel
theorem dX2_become_5 : decode cX2_become 5 = .ok (.putfield 9, 3) := by decide +kernel
theorem dX2_become_8 : decode cX2_become 8 = .ok (.aload_n 1, 1) := by decide +kernel
theorem dX2_become_9 : decode cX2_become 9 = .ok (.getfield 15, 3) := by decide +kernel
theorem dX2_become_12 : decode cX2_become 12 = .ok (.iconst 0, 1) := by decide +kernel
theorem dX2_become_13 : decode cX2_become 13 = .ok (.aload_n 0, 1) := by decide +kernel
theorem dX2_become_14 : decode cX2_become 14 = .ok (.getfield 15, 3) := by decide +kernel
theorem dX2_become_17 : decode cX2_become 17 = .ok (.iconst 0, 1) := by decide +kernel
theorem dX2_become_18 : decode cX2_become 18 = .ok (.aload_n 0, 1) := by decide +kernel
theorem dX2_become_19 : decode cX2_become 19 = .ok (.getfield 9, 3) := by decide +kernel
theorem dX2_become_22 : decode cX2_become 22 = .ok (.invokestatic 55, 3) := by decide +kernel
theorem dX2_become_25 : decode cX2_become 25 = .ok (.aload_n 0, 1) := by decide +kernel
theorem dX2_become_26 : decode cX2_become 26 = .ok (.aload_n 1, 1) := by decide +kernel
theorem dX2_become_27 : decode cX2_become 27 = .ok (.getfield 19, 3) := by decide +kernel
theorem dX2_become_30 : decode cX2_become 30 = .ok (.putfield 19, 3) := by decide +kernel
theorem dX2_become_33 : decode cX2_become 33 = .ok (.aload_n 1, 1) := by decide +kernel
theorem dX2_become_34 : decode cX2_become 34 = .ok (.getfield 22, 3) := by decide +kernel
theorem dX2_become_37 : decode cX2_become 37 = .ok (.iconst 0, 1) := by decide +kernel
theorem dX2_become_38 : decode cX2_become 38 = .ok (.aload_n 0, 1) := by decide +kernel
theorem dX2_become_39 : decode cX2_become 39 = .ok (.getfield 22, 3) := by decide +kernel
theorem dX2_become_42 : decode cX2_become 42 = .ok (.iconst 0, 1) := by decide +kernel
theorem dX2_become_43 : decode cX2_become 43 = .ok (.aload_n 0, 1) := by decide +kernel
theorem dX2_become_44 : decode cX2_become 44 = .ok (.getfield 19, 3) := by decide +kernel
theorem dX2_become_47 : decode cX2_become 47 = .ok (.invokestatic 55, 3) := by decide +kernel
theorem dX2_become_50 : decode cX2_become 50 = .ok (.aload_n 1, 1) := by decide +kernel
theorem dX2_become_51 : decode cX2_become 51 = .ok (.getfield 25, 3) := by decide +kernel
theorem dX2_become_54 : decode cX2_become 54 = .ok (.iconst 0, 1) := by decide +kernel
theorem dX2_become_55 : decode cX2_become 55 = .ok (.aload_n 0, 1) := by decide +kernel
theorem dX2_become_56 : decode cX2_become 56 = .ok (.getfield 25, 3) := by decide +kernel
theorem dX2_become_59 : decode cX2_become 59 = .ok (.iconst 0, 1) := by decide +kernel
theorem dX2_become_60 : decode cX2_become 60 = .ok (.aload_n 0, 1) := by decide +kernel
theorem dX2_become_61 : decode cX2_become 61 = .ok (.getfield 19, 3) := by decide +kernel
theorem dX2_become_64 : decode cX2_become 64 = .ok (.invokestatic 55, 3) := by decide +kernel
theorem dX2_become_67 : decode cX2_become 67 = .ok (.aload_n 1, 1) := by decide +kernel
theorem dX2_become_68 : decode cX2_become 68 = .ok (.getfield 28, 3) := by decide +kernel
theorem dX2_become_71 : decode cX2_become 71 = .ok (.iconst 0, 1) := by decide +kernel
theorem dX2_become_72 : decode cX2_become 72 = .ok (.aload_n 0, 1) := by decide +kernel
theorem dX2_become_73 : decode cX2_become 73 = .ok (.getfield 28, 3) := by decide +kernel
theorem dX2_become_76 : decode cX2_become 76 = .ok (.iconst 0, 1) := by decide +kernel
theorem dX2_become_77 : decode cX2_become 77 = .ok (.aload_n 0, 1) := by decide +kernel
theorem dX2_become_78 : decode cX2_become 78 = .ok (.getfield 19, 3) := by decide +kernel
theorem dX2_become_81 : decode cX2_become 81 = .ok (.invokestatic 55, 3) := by decide +kernel
theorem dX2_become_84 : decode cX2_become 84 = .ok (.aload_n 1, 1) := by decide +kernel
theorem dX2_become_85 : decode cX2_become 85 = .ok (.getfield 31, 3) := by decide +kernel
theorem dX2_become_88 : decode cX2_become 88 = .ok (.iconst 0, 1) := by decide +kernel
theorem dX2_become_89 : decode cX2_become 89 = .ok (.aload_n 0, 1) := by decide +kernel
theorem dX2_become_90 : decode cX2_become 90 = .ok (.getfield 31, 3) := by decide +kernel
theorem dX2_become_93 : decode cX2_become 93 = .ok (.iconst 0, 1) := by decide +kernel
theorem dX2_become_94 : decode cX2_become 94 = .ok (.aload_n 0, 1) := by decide +kernel
theorem dX2_become_95 : decode cX2_become 95 = .ok (.getfield 19, 3) := by decide +kernel
theorem dX2_become_98 : decode cX2_become 98 = .ok (.invokestatic 55, 3) := by decide +kernel
theorem dX2_become_101 : decode cX2_become 101 = .ok (.aload_n 1, 1) := by decide +kernel
theorem dX2_become_102 : decode cX2_become 102 = .ok (.getfield 34, 3) := by decide +kernel
theorem dX2_become_105 : decode cX2_become 105 = .ok (.iconst 0, 1) := by decide +kernel
theorem dX2_become_106 : decode cX2_become 106 = .ok (.aload_n 0, 1) := by decide +kernel
theorem dX2_become_107 : decode cX2_become 107 = .ok (.getfield 34, 3) := by decide +kernel
theorem dX2_become_110 : decode cX2_become 110 = .ok (.iconst 0, 1) := by decide +kernel
theorem dX2_become_111 : decode cX2_become 111 = .ok (.aload_n 0, 1) := by decide +kernel
theorem dX2_become_112 : decode cX2_become 112 = .ok (.getfield 19, 3) := by decide +kernel
theorem dX2_become_115 : decode cX2_become 115 = .ok (.invokestatic 55, 3) := by decide +kernel
theorem dX2_become_118 : decode cX2_become 118 = .ok (.aload_n 1, 1) := by decide +kernel
theorem dX2_become_119 : decode cX2_become 119 = .ok (.getfield 37, 3) := by decide +kernel
theorem dX2_become_122 : decode cX2_become 122 = .ok (.iconst 0, 1) := by decide +kernel
theorem dX2_become_123 : decode cX2_become 123 = .ok (.aload_n 0, 1) := by decide +kernel
theorem dX2_become_124 : decode cX2_become 124 = .ok (.getfield 37, 3) := by decide +kernel
theorem dX2_become_127 : decode cX2_become 127 = .ok (.iconst 0, 1) := by decide +kernel
theorem dX2_become_128 : decode cX2_become 128 = .ok (.aload_n 0, 1) := by decide +kernel
theorem dX2_become_129 : decode cX2_become 129 = .ok (.getfield 19, 3) := by decide +kernel
theorem dX2_become_132 : decode cX2_become 132 = .ok (.invokestatic 55, 3) := by decide +kernel
theorem dX2_become_135 : decode cX2_become 135 = .ok (.aload_n 0, 1) := by decide +kernel
theorem dX2_become_136 : decode cX2_become 136 = .ok (.aload_n 1, 1) := by decide +kernel
theorem dX2_become_137 : decode cX2_become 137 = .ok (.getfield 40, 3) := by decide +kernel
theorem dX2_become_140 : decode cX2_become 140 = .ok (.putfield 40, 3) := by decide +kernel
theorem dX2_become_143 : decode cX2_become 143 = .ok (.aload_n 1, 1) := by decide +kernel
theorem dX2_become_144 : decode cX2_become 144 = .ok (.getfield 43, 3) := by decide +kernel
theorem dX2_become_147 : decode cX2_become 147 = .ok (.iconst 0, 1) := by decide +kernel
theorem dX2_become_148 : decode cX2_become 148 = .ok (.aload_n 0, 1) := by decide +kernel
theorem dX2_become_149 : decode cX2_become 149 = .ok (.getfield 43, 3) := by decide +kernel
theorem dX2_become_152 : decode cX2_become 152 = .ok (.iconst 0, 1) := by decide +kernel
theorem dX2_become_153 : decode cX2_become 153 = .ok (.aload_n 0, 1) := by decide +kernel
theorem dX2_become_154 : decode cX2_become 154 = .ok (.getfield 40, 3) := by decide +kernel
theorem dX2_become_157 : decode cX2_become 157 = .ok (.invokestatic 55, 3) := by decide +kernel
theorem dX2_become_160 : decode cX2_become 160 = .ok (.aload_n 0, 1) := by decide +kernel
theorem dX2_become_161 : decode cX2_become 161 = .ok (.aload_n 1, 1) := by decide +kernel
theorem dX2_become_162 : decode cX2_become 162 = .ok (.getfield 46, 3) := by decide +kernel
theorem dX2_become_165 : decode cX2_become 165 = .ok (.putfield 46, 3) := by decide +kernel
theorem dX2_become_168 : decode cX2_become 168 = .ok (.aload_n 0, 1) := by decide +kernel
theorem dX2_become_169 : decode cX2_become 169 = .ok (.aload_n 1, 1) := by decide +kernel
theorem dX2_become_170 : decode cX2_become 170 = .ok (.getfield 49, 3) := by decide +kernel
theorem dX2_become_173 : decode cX2_become 173 = .ok (.putfield 49, 3) := by decide +kernel
theorem dX2_become_176 : decode cX2_become 176 = .ok (.aload_n 0, 1) := by decide +kernel
theorem dX2_become_177 : decode cX2_become 177 = .ok (.aload_n 1, 1) := by decide +kernel
theorem dX2_become_178 : decode cX2_become 178 = .ok (.getfield 52, 3) := by decide +kernel
theorem dX2_become_181 : decode cX2_become 181 = .ok (.putfield 52, 3) := by decide +kernel
theorem dX2_become_184 : decode cX2_become 184 = .ok (.return_, 1) := by decide +kernel
theorem dX2_add_0 : decode cX2_add 0 = .ok (.aload_n 0, 1) := by decide +kernel
theorem dX2_add_1 : decode cX2_add 1 = .ok (.getfield 19, 3) := by decide +kernel
theorem dX2_add_4 : decode cX2_add 4 = .ok (.istore 5, 2) := by decide +kernel
theorem dX2_add_6 : decode cX2_add 6 = .ok (.aload_n 0, 1) := by decide +kernel
theorem dX2_add_7 : decode cX2_add 7 = .ok (.getfield 22, 3) := by decide +kernel
theorem dX2_add_10 : decode cX2_add 10 = .ok (.iload 5, 2) := by decide +kernel
theorem dX2_add_12 : decode cX2_add 12 = .ok (.iload_n 1, 1) := by decide +kernel
theorem dX2_add_13 : decode cX2_add 13 = .ok (.iastore, 1) := by decide +kernel
theorem dX2_add_14 : decode cX2_add 14 = .ok (.aload_n 0, 1) := by decide +kernel
theorem dX2_add_15 : decode cX2_add 15 = .ok (.getfield 25, 3) := by decide +kernel
theorem dX2_add_18 : decode cX2_add 18 = .ok (.iload 5, 2) := by decide +kernel
theorem dX2_add_20 : decode cX2_add 20 = .ok (.iload_n 2, 1) := by decide +kernel
theorem dX2_add_21 : decode cX2_add 21 = .ok (.iastore, 1) := by decide +kernel
theorem dX2_add_22 : decode cX2_add 22 = .ok (.aload_n 0, 1) := by decide +kernel
theorem dX2_add_23 : decode cX2_add 23 = .ok (.getfield 28, 3) := by decide +kernel
theorem dX2_add_26 : decode cX2_add 26 = .ok (.iload 5, 2) := by decide +kernel
theorem dX2_add_28 : decode cX2_add 28 = .ok (.iload_n 3, 1) := by decide +kernel
theorem dX2_add_29 : decode cX2_add 29 = .ok (.iastore, 1) := by decide +kernel
theorem dX2_add_30 : decode cX2_add 30 = .ok (.aload_n 0, 1) := by decide +kernel
theorem dX2_add_31 : decode cX2_add 31 = .ok (.getfield 31, 3) := by decide +kernel
theorem dX2_add_34 : decode cX2_add 34 = .ok (.iload 5, 2) := by decide +kernel
theorem dX2_add_36 : decode cX2_add 36 = .ok (.iload 4, 2) := by decide +kernel
theorem dX2_add_38 : decode cX2_add 38 = .ok (.iastore, 1) := by decide +kernel
theorem dX2_add_39 : decode cX2_add 39 = .ok (.aload_n 0, 1) := by decide +kernel
theorem dX2_add_40 : decode cX2_add 40 = .ok (.getfield 34, 3) := by decide +kernel
theorem dX2_add_43 : decode cX2_add 43 = .ok (.iload 5, 2) := by decide +kernel
theorem dX2_add_45 : decode cX2_add 45 = .ok (.iconst 0, 1) := by decide +kernel
theorem dX2_add_46 : decode cX2_add 46 = .ok (.iastore, 1) := by decide +kernel
theorem dX2_add_47 : decode cX2_add 47 = .ok (.aload_n 0, 1) := by decide +kernel
theorem dX2_add_48 : decode cX2_add 48 = .ok (.getfield 37, 3) := by decide +kernel
theorem dX2_add_51 : decode cX2_add 51 = .ok (.iload 5, 2) := by decide +kernel
theorem dX2_add_53 : decode cX2_add 53 = .ok (.iconst 0, 1) := by decide +kernel
theorem dX2_add_54 : decode cX2_add 54 = .ok (.iastore, 1) := by decide +kernel
theorem dX2_add_55 : decode cX2_add 55 = .ok (.aload_n 0, 1) := by decide +kernel
theorem dX2_add_56 : decode cX2_add 56 = .ok (.dup, 1) := by decide +kernel
theorem dX2_add_57 : decode cX2_add 57 = .ok (.getfield 19, 3) := by decide +kernel
theorem dX2_add_60 : decode cX2_add 60 = .ok (.iconst 1, 1) := by decide +kernel
theorem dX2_add_61 : decode cX2_add 61 = .ok (.iadd, 1) := by decide +kernel
theorem dX2_add_62 : decode cX2_add 62 = .ok (.putfield 19, 3) := by decide +kernel
theorem dX2_add_65 : decode cX2_add 65 = .ok (.iload 5, 2) := by decide +kernel
theorem dX2_add_67 : decode cX2_add 67 = .ok (.ireturn, 1) := by decide +kernel
theorem dX2_removeLast_0 : decode cX2_removeLast 0 = .ok (.aload_n 0, 1) := by decide +kernel
theorem dX2_removeLast_1 : decode cX2_removeLast 1 = .ok (.dup, 1) := by decide +kernel
theorem dX2_removeLast_2 : decode cX2_removeLast 2 = .ok (.getfield 19, 3) := by decide +kernel
theorem dX2_removeLast_5 : decode cX2_removeLast 5 = .ok (.iconst 1, 1) := by decide +kernel
theorem dX2_removeLast_6 : decode cX2_removeLast 6 = .ok (.isub, 1) := by decide +kernel
theorem dX2_removeLast_7 : decode cX2_removeLast 7 = .ok (.putfield 19, 3) := by decide +kernel
theorem dX2_removeLast_10 : decode cX2_removeLast 10 = .ok (.aload_n 0, 1) := by decide +kernel
theorem dX2_removeLast_11 : decode cX2_removeLast 11 = .ok (.dup, 1) := by decide +kernel
theorem dX2_removeLast_12 : decode cX2_removeLast 12 = .ok (.getfield 49, 3) := by decide +kernel
theorem dX2_removeLast_15 : decode cX2_removeLast 15 = .ok (.iconst 1, 1) := by decide +kernel
theorem dX2_removeLast_16 : decode cX2_removeLast 16 = .ok (.aload_n 0, 1) := by decide +kernel
theorem dX2_removeLast_17 : decode cX2_removeLast 17 = .ok (.getfield 19, 3) := by decide +kernel
theorem dX2_removeLast_20 : decode cX2_removeLast 20 = .ok (.ishl, 1) := by decide +kernel
theorem dX2_removeLast_21 : decode cX2_removeLast 21 = .ok (.iconst (-1), 1) := by decide +kernel
theorem dX2_removeLast_22 : decode cX2_removeLast 22 = .ok (.ixor, 1) := by decide +kernel
theorem dX2_removeLast_23 : decode cX2_removeLast 23 = .ok (.iand, 1) := by decide +kernel
theorem dX2_removeLast_24 : decode cX2_removeLast 24 = .ok (.putfield 49, 3) := by decide +kernel
theorem dX2_removeLast_27 : decode cX2_removeLast 27 = .ok (.return_, 1) := by decide +kernel
theorem dX2_toStart_0 : decode cX2_toStart 0 = .ok (.iconst 0, 1) := by decide +kernel
theorem dX2_toStart_1 : decode cX2_toStart 1 = .ok (.istore_n 1, 1) := by decide +kernel
theorem dX2_toStart_2 : decode cX2_toStart 2 = .ok (.iload_n 1, 1) := by decide +kernel
theorem dX2_toStart_3 : decode cX2_toStart 3 = .ok (.aload_n 0, 1) := by decide +kernel
theorem dX2_toStart_4 : decode cX2_toStart 4 = .ok (.getfield 19, 3) := by decide +kernel
theorem dX2_toStart_7 : decode cX2_toStart 7 = .ok (.if_icmp .ge 23, 3) := by decide +kernel
theorem dX2_toStart_10 : decode cX2_toStart 10 = .ok (.aload_n 0, 1) := by decide +kernel
theorem dX2_toStart_11 : decode cX2_toStart 11 = .ok (.getfield 34, 3) := by decide +kernel
theorem dX2_toStart_14 : decode cX2_toStart 14 = .ok (.iload_n 1, 1) := by decide +kernel
theorem dX2_toStart_15 : decode cX2_toStart 15 = .ok (.iconst 0, 1) := by decide +kernel
theorem dX2_toStart_16 : decode cX2_toStart 16 = .ok (.iastore, 1) := by decide +kernel
theorem dX2_toStart_17 : decode cX2_toStart 17 = .ok (.aload_n 0, 1) := by decide +kernel
theorem dX2_toStart_18 : decode cX2_toStart 18 = .ok (.getfield 37, 3) := by decide +kernel
theorem dX2_toStart_21 : decode cX2_toStart 21 = .ok (.iload_n 1, 1) := by decide +kernel
theorem dX2_toStart_22 : decode cX2_toStart 22 = .ok (.iconst 0, 1) := by decide +kernel
theorem dX2_toStart_23 : decode cX2_toStart 23 = .ok (.iastore, 1) := by decide +kernel
theorem dX2_toStart_24 : decode cX2_toStart 24 = .ok (.iinc 1 1, 3) := by decide +kernel
theorem dX2_toStart_27 : decode cX2_toStart 27 = .ok (.goto (-25), 3) := by decide +kernel
theorem dX2_toStart_30 : decode cX2_toStart 30 = .ok (.return_, 1) := by decide +kernel
theorem dX2_hush_0 : decode cX2_hush 0 = .ok (.aload_n 0, 1) := by decide +kernel
theorem dX2_hush_1 : decode cX2_hush 1 = .ok (.iconst 0, 1) := by decide +kernel
theorem dX2_hush_2 : decode cX2_hush 2 = .ok (.putfield 49, 3) := by decide +kernel
theorem dX2_hush_5 : decode cX2_hush 5 = .ok (.aload_n 0, 1) := by decide +kernel
theorem dX2_hush_6 : decode cX2_hush 6 = .ok (.iconst 0, 1) := by decide +kernel
theorem dX2_hush_7 : decode cX2_hush 7 = .ok (.putfield 52, 3) := by decide +kernel
theorem dX2_hush_10 : decode cX2_hush 10 = .ok (.return_, 1) := by decide +kernel
theorem dX2_weatherAt_0 : decode cX2_weatherAt 0 = .ok (.aload_n 0, 1) := by decide +kernel
theorem dX2_weatherAt_1 : decode cX2_weatherAt 1 = .ok (.getfield 40, 3) := by decide +kernel
theorem dX2_weatherAt_4 : decode cX2_weatherAt 4 = .ok (.ifCond .le 17, 3) := by decide +kernel
theorem dX2_weatherAt_7 : decode cX2_weatherAt 7 = .ok (.aload_n 0, 1) := by decide +kernel
theorem dX2_weatherAt_8 : decode cX2_weatherAt 8 = .ok (.getfield 43, 3) := by decide +kernel
theorem dX2_weatherAt_11 : decode cX2_weatherAt 11 = .ok (.iload_n 1, 1) := by decide +kernel
theorem dX2_weatherAt_12 : decode cX2_weatherAt 12 = .ok (.aload_n 0, 1) := by decide +kernel
theorem dX2_weatherAt_13 : decode cX2_weatherAt 13 = .ok (.getfield 40, 3) := by decide +kernel
theorem dX2_weatherAt_16 : decode cX2_weatherAt 16 = .ok (.irem, 1) := by decide +kernel
theorem dX2_weatherAt_17 : decode cX2_weatherAt 17 = .ok (.iaload, 1) := by decide +kernel
theorem dX2_weatherAt_18 : decode cX2_weatherAt 18 = .ok (.goto 4, 3) := by decide +kernel
theorem dX2_weatherAt_21 : decode cX2_weatherAt 21 = .ok (.iconst 0, 1) := by decide +kernel
theorem dX2_weatherAt_22 : decode cX2_weatherAt 22 = .ok (.ireturn, 1) := by decide +kernel
theorem dX2_trueMinutes_0 : decode cX2_trueMinutes 0 = .ok (.bipush 60, 2) := by decide +kernel
theorem dX2_trueMinutes_2 : decode cX2_trueMinutes 2 = .ok (.aload_n 0, 1) := by decide +kernel
theorem dX2_trueMinutes_3 : decode cX2_trueMinutes 3 = .ok (.getfield 46, 3) := by decide +kernel
theorem dX2_trueMinutes_6 : decode cX2_trueMinutes 6 = .ok (.imul, 1) := by decide +kernel
theorem dX2_trueMinutes_7 : decode cX2_trueMinutes 7 = .ok (.sipush 720, 3) := by decide +kernel
theorem dX2_trueMinutes_10 : decode cX2_trueMinutes 10 = .ok (.irem, 1) := by decide +kernel
theorem dX2_trueMinutes_11 : decode cX2_trueMinutes 11 = .ok (.ireturn, 1) := by decide +kernel
theorem dX2_shownBy_0 : decode cX2_shownBy 0 = .ok (.iload_n 1, 1) := by decide +kernel
theorem dX2_shownBy_1 : decode cX2_shownBy 1 = .ok (.istore_n 2, 1) := by decide +kernel
theorem dX2_shownBy_2 : decode cX2_shownBy 2 = .ok (.iload_n 2, 1) := by decide +kernel
theorem dX2_shownBy_3 : decode cX2_shownBy 3 = .ok (.ifCond .le 19, 3) := by decide +kernel
theorem dX2_shownBy_6 : decode cX2_shownBy 6 = .ok (.aload_n 0, 1) := by decide +kernel
theorem dX2_shownBy_7 : decode cX2_shownBy 7 = .ok (.getfield 22, 3) := by decide +kernel
theorem dX2_shownBy_10 : decode cX2_shownBy 10 = .ok (.iload_n 2, 1) := by decide +kernel
theorem dX2_shownBy_11 : decode cX2_shownBy 11 = .ok (.iaload, 1) := by decide +kernel
theorem dX2_shownBy_12 : decode cX2_shownBy 12 = .ok (.iconst 4, 1) := by decide +kernel
theorem dX2_shownBy_13 : decode cX2_shownBy 13 = .ok (.if_icmp .ne 9, 3) := by decide +kernel
theorem dX2_shownBy_16 : decode cX2_shownBy 16 = .ok (.iinc 2 (-1), 3) := by decide +kernel
theorem dX2_shownBy_19 : decode cX2_shownBy 19 = .ok (.goto (-17), 3) := by decide +kernel
theorem dX2_shownBy_22 : decode cX2_shownBy 22 = .ok (.aload_n 0, 1) := by decide +kernel
theorem dX2_shownBy_23 : decode cX2_shownBy 23 = .ok (.getfield 22, 3) := by decide +kernel
theorem dX2_shownBy_26 : decode cX2_shownBy 26 = .ok (.iload_n 2, 1) := by decide +kernel
theorem dX2_shownBy_27 : decode cX2_shownBy 27 = .ok (.iaload, 1) := by decide +kernel
theorem dX2_shownBy_28 : decode cX2_shownBy 28 = .ok (.iconst 3, 1) := by decide +kernel
theorem dX2_shownBy_29 : decode cX2_shownBy 29 = .ok (.if_icmp .ne 10, 3) := by decide +kernel
theorem dX2_shownBy_32 : decode cX2_shownBy 32 = .ok (.aload_n 0, 1) := by decide +kernel
theorem dX2_shownBy_33 : decode cX2_shownBy 33 = .ok (.invokevirtual 61, 3) := by decide +kernel
theorem dX2_shownBy_36 : decode cX2_shownBy 36 = .ok (.goto 9, 3) := by decide +kernel
theorem dX2_shownBy_39 : decode cX2_shownBy 39 = .ok (.aload_n 0, 1) := by decide +kernel
theorem dX2_shownBy_40 : decode cX2_shownBy 40 = .ok (.getfield 25, 3) := by decide +kernel
theorem dX2_shownBy_43 : decode cX2_shownBy 43 = .ok (.iload_n 2, 1) := by decide +kernel
theorem dX2_shownBy_44 : decode cX2_shownBy 44 = .ok (.iaload, 1) := by decide +kernel
theorem dX2_shownBy_45 : decode cX2_shownBy 45 = .ok (.ireturn, 1) := by decide +kernel
theorem dX2_struckBy_0 : decode cX2_struckBy 0 = .ok (.aload_n 0, 1) := by decide +kernel
theorem dX2_struckBy_1 : decode cX2_struckBy 1 = .ok (.iload_n 1, 1) := by decide +kernel
theorem dX2_struckBy_2 : decode cX2_struckBy 2 = .ok (.invokevirtual 65, 3) := by decide +kernel
theorem dX2_struckBy_5 : decode cX2_struckBy 5 = .ok (.bipush 60, 2) := by decide +kernel
theorem dX2_struckBy_7 : decode cX2_struckBy 7 = .ok (.idiv, 1) := by decide +kernel
theorem dX2_struckBy_8 : decode cX2_struckBy 8 = .ok (.ireturn, 1) := by decide +kernel
theorem dX2_strokesFor_0 : decode cX2_strokesFor 0 = .ok (.iload_n 0, 1) := by decide +kernel
theorem dX2_strokesFor_1 : decode cX2_strokesFor 1 = .ok (.ifCond .ne 8, 3) := by decide +kernel
theorem dX2_strokesFor_4 : decode cX2_strokesFor 4 = .ok (.bipush 12, 2) := by decide +kernel
theorem dX2_strokesFor_6 : decode cX2_strokesFor 6 = .ok (.goto 4, 3) := by decide +kernel
theorem dX2_strokesFor_9 : decode cX2_strokesFor 9 = .ok (.iload_n 0, 1) := by decide +kernel
theorem dX2_strokesFor_10 : decode cX2_strokesFor 10 = .ok (.ireturn, 1) := by decide +kernel
theorem dX2_strokesOfSet_0 : decode cX2_strokesOfSet 0 = .ok (.iconst 0, 1) := by decide +kernel
theorem dX2_strokesOfSet_1 : decode cX2_strokesOfSet 1 = .ok (.istore_n 2, 1) := by decide +kernel
theorem dX2_strokesOfSet_2 : decode cX2_strokesOfSet 2 = .ok (.iconst 0, 1) := by decide +kernel
theorem dX2_strokesOfSet_3 : decode cX2_strokesOfSet 3 = .ok (.istore_n 3, 1) := by decide +kernel
theorem dX2_strokesOfSet_4 : decode cX2_strokesOfSet 4 = .ok (.iload_n 3, 1) := by decide +kernel
theorem dX2_strokesOfSet_5 : decode cX2_strokesOfSet 5 = .ok (.aload_n 0, 1) := by decide +kernel
theorem dX2_strokesOfSet_6 : decode cX2_strokesOfSet 6 = .ok (.getfield 19, 3) := by decide +kernel
theorem dX2_strokesOfSet_9 : decode cX2_strokesOfSet 9 = .ok (.if_icmp .ge 29, 3) := by decide +kernel
theorem dX2_strokesOfSet_12 : decode cX2_strokesOfSet 12 = .ok (.iload_n 1, 1) := by decide +kernel
theorem dX2_strokesOfSet_13 : decode cX2_strokesOfSet 13 = .ok (.iload_n 3, 1) := by decide +kernel
theorem dX2_strokesOfSet_14 : decode cX2_strokesOfSet 14 = .ok (.ishr, 1) := by decide +kernel
theorem dX2_strokesOfSet_15 : decode cX2_strokesOfSet 15 = .ok (.iconst 1, 1) := by decide +kernel
theorem dX2_strokesOfSet_16 : decode cX2_strokesOfSet 16 = .ok (.iand, 1) := by decide +kernel
theorem dX2_strokesOfSet_17 : decode cX2_strokesOfSet 17 = .ok (.iconst 1, 1) := by decide +kernel
theorem dX2_strokesOfSet_18 : decode cX2_strokesOfSet 18 = .ok (.if_icmp .ne 14, 3) := by decide +kernel
theorem dX2_strokesOfSet_21 : decode cX2_strokesOfSet 21 = .ok (.iload_n 2, 1) := by decide +kernel
theorem dX2_strokesOfSet_22 : decode cX2_strokesOfSet 22 = .ok (.aload_n 0, 1) := by decide +kernel
theorem dX2_strokesOfSet_23 : decode cX2_strokesOfSet 23 = .ok (.iload_n 3, 1) := by decide +kernel
theorem dX2_strokesOfSet_24 : decode cX2_strokesOfSet 24 = .ok (.invokevirtual 69, 3) := by decide +kernel
theorem dX2_strokesOfSet_27 : decode cX2_strokesOfSet 27 = .ok (.invokestatic 72, 3) := by decide +kernel
theorem dX2_strokesOfSet_30 : decode cX2_strokesOfSet 30 = .ok (.iadd, 1) := by decide +kernel
theorem dX2_strokesOfSet_31 : decode cX2_strokesOfSet 31 = .ok (.istore_n 2, 1) := by decide +kernel
theorem dX2_strokesOfSet_32 : decode cX2_strokesOfSet 32 = .ok (.iinc 3 1, 3) := by decide +kernel
theorem dX2_strokesOfSet_35 : decode cX2_strokesOfSet 35 = .ok (.goto (-31), 3) := by decide +kernel
theorem dX2_strokesOfSet_38 : decode cX2_strokesOfSet 38 = .ok (.iload_n 2, 1) := by decide +kernel
theorem dX2_strokesOfSet_39 : decode cX2_strokesOfSet 39 = .ok (.ireturn, 1) := by decide +kernel
theorem dX2_isHome_0 : decode cX2_isHome 0 = .ok (.aload_n 0, 1) := by decide +kernel
theorem dX2_isHome_1 : decode cX2_isHome 1 = .ok (.getfield 34, 3) := by decide +kernel
theorem dX2_isHome_4 : decode cX2_isHome 4 = .ok (.iload_n 1, 1) := by decide +kernel
theorem dX2_isHome_5 : decode cX2_isHome 5 = .ok (.iaload, 1) := by decide +kernel
theorem dX2_isHome_6 : decode cX2_isHome 6 = .ok (.aload_n 0, 1) := by decide +kernel
theorem dX2_isHome_7 : decode cX2_isHome 7 = .ok (.getfield 9, 3) := by decide +kernel
theorem dX2_isHome_10 : decode cX2_isHome 10 = .ok (.iconst 1, 1) := by decide +kernel
theorem dX2_isHome_11 : decode cX2_isHome 11 = .ok (.isub, 1) := by decide +kernel
theorem dX2_isHome_12 : decode cX2_isHome 12 = .ok (.if_icmp .ne 7, 3) := by decide +kernel
theorem dX2_isHome_15 : decode cX2_isHome 15 = .ok (.iconst 1, 1) := by decide +kernel
theorem dX2_isHome_16 : decode cX2_isHome 16 = .ok (.goto 4, 3) := by decide +kernel
theorem dX2_isHome_19 : decode cX2_isHome 19 = .ok (.iconst 0, 1) := by decide +kernel
theorem dX2_isHome_20 : decode cX2_isHome 20 = .ok (.ireturn, 1) := by decide +kernel
theorem dX2_homeCount_0 : decode cX2_homeCount 0 = .ok (.iconst 0, 1) := by decide +kernel
theorem dX2_homeCount_1 : decode cX2_homeCount 1 = .ok (.istore_n 1, 1) := by decide +kernel
theorem dX2_homeCount_2 : decode cX2_homeCount 2 = .ok (.iconst 0, 1) := by decide +kernel
theorem dX2_homeCount_3 : decode cX2_homeCount 3 = .ok (.istore_n 2, 1) := by decide +kernel
theorem dX2_homeCount_4 : decode cX2_homeCount 4 = .ok (.iload_n 2, 1) := by decide +kernel
theorem dX2_homeCount_5 : decode cX2_homeCount 5 = .ok (.aload_n 0, 1) := by decide +kernel
theorem dX2_homeCount_6 : decode cX2_homeCount 6 = .ok (.getfield 19, 3) := by decide +kernel
theorem dX2_homeCount_9 : decode cX2_homeCount 9 = .ok (.if_icmp .ge 20, 3) := by decide +kernel
theorem dX2_homeCount_12 : decode cX2_homeCount 12 = .ok (.aload_n 0, 1) := by decide +kernel
theorem dX2_homeCount_13 : decode cX2_homeCount 13 = .ok (.iload_n 2, 1) := by decide +kernel
theorem dX2_homeCount_14 : decode cX2_homeCount 14 = .ok (.invokevirtual 75, 3) := by decide +kernel
theorem dX2_homeCount_17 : decode cX2_homeCount 17 = .ok (.ifCond .eq 6, 3) := by decide +kernel
theorem dX2_homeCount_20 : decode cX2_homeCount 20 = .ok (.iinc 1 1, 3) := by decide +kernel
theorem dX2_homeCount_23 : decode cX2_homeCount 23 = .ok (.iinc 2 1, 3) := by decide +kernel
theorem dX2_homeCount_26 : decode cX2_homeCount 26 = .ok (.goto (-22), 3) := by decide +kernel
theorem dX2_homeCount_29 : decode cX2_homeCount 29 = .ok (.iload_n 1, 1) := by decide +kernel
theorem dX2_homeCount_30 : decode cX2_homeCount 30 = .ok (.ireturn, 1) := by decide +kernel
theorem dX2_allHome_0 : decode cX2_allHome 0 = .ok (.aload_n 0, 1) := by decide +kernel
theorem dX2_allHome_1 : decode cX2_allHome 1 = .ok (.invokevirtual 79, 3) := by decide +kernel
theorem dX2_allHome_4 : decode cX2_allHome 4 = .ok (.aload_n 0, 1) := by decide +kernel
theorem dX2_allHome_5 : decode cX2_allHome 5 = .ok (.getfield 19, 3) := by decide +kernel
theorem dX2_allHome_8 : decode cX2_allHome 8 = .ok (.if_icmp .ne 7, 3) := by decide +kernel
theorem dX2_allHome_11 : decode cX2_allHome 11 = .ok (.iconst 1, 1) := by decide +kernel
theorem dX2_allHome_12 : decode cX2_allHome 12 = .ok (.goto 4, 3) := by decide +kernel
theorem dX2_allHome_15 : decode cX2_allHome 15 = .ok (.iconst 0, 1) := by decide +kernel
theorem dX2_allHome_16 : decode cX2_allHome 16 = .ok (.ireturn, 1) := by decide +kernel
theorem dX2_windOn_0 : decode cX2_windOn 0 = .ok (.aload_n 0, 1) := by decide +kernel
theorem dX2_windOn_1 : decode cX2_windOn 1 = .ok (.getfield 31, 3) := by decide +kernel
theorem dX2_windOn_4 : decode cX2_windOn 4 = .ok (.iload_n 1, 1) := by decide +kernel
theorem dX2_windOn_5 : decode cX2_windOn 5 = .ok (.bipush 99, 2) := by decide +kernel
theorem dX2_windOn_7 : decode cX2_windOn 7 = .ok (.aload_n 0, 1) := by decide +kernel
theorem dX2_windOn_8 : decode cX2_windOn 8 = .ok (.getfield 31, 3) := by decide +kernel
theorem dX2_windOn_11 : decode cX2_windOn 11 = .ok (.iload_n 1, 1) := by decide +kernel
theorem dX2_windOn_12 : decode cX2_windOn 12 = .ok (.iaload, 1) := by decide +kernel
theorem dX2_windOn_13 : decode cX2_windOn 13 = .ok (.iload_n 2, 1) := by decide +kernel
theorem dX2_windOn_14 : decode cX2_windOn 14 = .ok (.iadd, 1) := by decide +kernel
theorem dX2_windOn_15 : decode cX2_windOn 15 = .ok (.invokestatic 82, 3) := by decide +kernel
theorem dX2_windOn_18 : decode cX2_windOn 18 = .ok (.iastore, 1) := by decide +kernel
theorem dX2_windOn_19 : decode cX2_windOn 19 = .ok (.return_, 1) := by decide +kernel
theorem dX2_turnOn_0 : decode cX2_turnOn 0 = .ok (.aload_n 0, 1) := by decide +kernel
theorem dX2_turnOn_1 : decode cX2_turnOn 1 = .ok (.getfield 25, 3) := by decide +kernel
theorem dX2_turnOn_4 : decode cX2_turnOn 4 = .ok (.iload_n 1, 1) := by decide +kernel
theorem dX2_turnOn_5 : decode cX2_turnOn 5 = .ok (.aload_n 0, 1) := by decide +kernel
theorem dX2_turnOn_6 : decode cX2_turnOn 6 = .ok (.getfield 25, 3) := by decide +kernel
theorem dX2_turnOn_9 : decode cX2_turnOn 9 = .ok (.iload_n 1, 1) := by decide +kernel
theorem dX2_turnOn_10 : decode cX2_turnOn 10 = .ok (.iaload, 1) := by decide +kernel
theorem dX2_turnOn_11 : decode cX2_turnOn 11 = .ok (.iload_n 2, 1) := by decide +kernel
theorem dX2_turnOn_12 : decode cX2_turnOn 12 = .ok (.iadd, 1) := by decide +kernel
theorem dX2_turnOn_13 : decode cX2_turnOn 13 = .ok (.sipush 720, 3) := by decide +kernel
theorem dX2_turnOn_16 : decode cX2_turnOn 16 = .ok (.irem, 1) := by decide +kernel
theorem dX2_turnOn_17 : decode cX2_turnOn 17 = .ok (.iastore, 1) := by decide +kernel
theorem dX2_turnOn_18 : decode cX2_turnOn 18 = .ok (.return_, 1) := by decide +kernel
theorem dX2_pass_0 : decode cX2_pass 0 = .ok (.iload_n 1, 1) := by decide +kernel
theorem dX2_pass_1 : decode cX2_pass 1 = .ok (.iconst (-1), 1) := by decide +kernel
theorem dX2_pass_2 : decode cX2_pass 2 = .ok (.if_icmp .ne 14, 3) := by decide +kernel
theorem dX2_pass_5 : decode cX2_pass 5 = .ok (.aload_n 0, 1) := by decide +kernel
theorem dX2_pass_6 : decode cX2_pass 6 = .ok (.aload_n 0, 1) := by decide +kernel
theorem dX2_pass_7 : decode cX2_pass 7 = .ok (.getfield 46, 3) := by decide +kernel
theorem dX2_pass_10 : decode cX2_pass 10 = .ok (.invokevirtual 88, 3) := by decide +kernel
theorem dX2_pass_13 : decode cX2_pass 13 = .ok (.goto 4, 3) := by decide +kernel
theorem dX2_pass_16 : decode cX2_pass 16 = .ok (.iload_n 1, 1) := by decide +kernel
theorem dX2_pass_17 : decode cX2_pass 17 = .ok (.istore_n 2, 1) := by decide +kernel
theorem dX2_pass_18 : decode cX2_pass 18 = .ok (.aload_n 0, 1) := by decide +kernel
theorem dX2_pass_19 : decode cX2_pass 19 = .ok (.invokevirtual 91, 3) := by decide +kernel
theorem dX2_pass_22 : decode cX2_pass 22 = .ok (.iconst 0, 1) := by decide +kernel
theorem dX2_pass_23 : decode cX2_pass 23 = .ok (.istore_n 3, 1) := by decide +kernel
theorem dX2_pass_24 : decode cX2_pass 24 = .ok (.iconst 0, 1) := by decide +kernel
theorem dX2_pass_25 : decode cX2_pass 25 = .ok (.istore 4, 2) := by decide +kernel
theorem dX2_pass_27 : decode cX2_pass 27 = .ok (.iload 4, 2) := by decide +kernel
theorem dX2_pass_29 : decode cX2_pass 29 = .ok (.aload_n 0, 1) := by decide +kernel
theorem dX2_pass_30 : decode cX2_pass 30 = .ok (.getfield 19, 3) := by decide +kernel
theorem dX2_pass_33 : decode cX2_pass 33 = .ok (.if_icmp .ge 56, 3) := by decide +kernel
theorem dX2_pass_36 : decode cX2_pass 36 = .ok (.aload_n 0, 1) := by decide +kernel
theorem dX2_pass_37 : decode cX2_pass 37 = .ok (.iload 4, 2) := by decide +kernel
theorem dX2_pass_39 : decode cX2_pass 39 = .ok (.invokevirtual 75, 3) := by decide +kernel
theorem dX2_pass_42 : decode cX2_pass 42 = .ok (.ifCond .eq 6, 3) := by decide +kernel
theorem dX2_pass_45 : decode cX2_pass 45 = .ok (.goto 38, 3) := by decide +kernel
theorem dX2_pass_48 : decode cX2_pass 48 = .ok (.aload_n 0, 1) := by decide +kernel
theorem dX2_pass_49 : decode cX2_pass 49 = .ok (.iload 4, 2) := by decide +kernel
theorem dX2_pass_51 : decode cX2_pass 51 = .ok (.invokevirtual 69, 3) := by decide +kernel
theorem dX2_pass_54 : decode cX2_pass 54 = .ok (.istore 5, 2) := by decide +kernel
theorem dX2_pass_56 : decode cX2_pass 56 = .ok (.aload_n 0, 1) := by decide +kernel
theorem dX2_pass_57 : decode cX2_pass 57 = .ok (.iload 4, 2) := by decide +kernel
theorem dX2_pass_59 : decode cX2_pass 59 = .ok (.iload 5, 2) := by decide +kernel
theorem dX2_pass_61 : decode cX2_pass 61 = .ok (.iload_n 2, 1) := by decide +kernel
theorem dX2_pass_62 : decode cX2_pass 62 = .ok (.invokevirtual 94, 3) := by decide +kernel
theorem dX2_pass_65 : decode cX2_pass 65 = .ok (.ifCond .ne 6, 3) := by decide +kernel
theorem dX2_pass_68 : decode cX2_pass 68 = .ok (.goto 15, 3) := by decide +kernel
theorem dX2_pass_71 : decode cX2_pass 71 = .ok (.aload_n 0, 1) := by decide +kernel
theorem dX2_pass_72 : decode cX2_pass 72 = .ok (.iload 4, 2) := by decide +kernel
theorem dX2_pass_74 : decode cX2_pass 74 = .ok (.iload 5, 2) := by decide +kernel
theorem dX2_pass_76 : decode cX2_pass 76 = .ok (.iload_n 2, 1) := by decide +kernel
theorem dX2_pass_77 : decode cX2_pass 77 = .ok (.invokevirtual 98, 3) := by decide +kernel
theorem dX2_pass_80 : decode cX2_pass 80 = .ok (.iinc 3 1, 3) := by decide +kernel
theorem dX2_pass_83 : decode cX2_pass 83 = .ok (.iinc 4 1, 3) := by decide +kernel
theorem dX2_pass_86 : decode cX2_pass 86 = .ok (.goto (-59), 3) := by decide +kernel
theorem dX2_pass_89 : decode cX2_pass 89 = .ok (.iconst 0, 1) := by decide +kernel
theorem dX2_pass_90 : decode cX2_pass 90 = .ok (.istore 4, 2) := by decide +kernel
theorem dX2_pass_92 : decode cX2_pass 92 = .ok (.iload 4, 2) := by decide +kernel
theorem dX2_pass_94 : decode cX2_pass 94 = .ok (.aload_n 0, 1) := by decide +kernel
theorem dX2_pass_95 : decode cX2_pass 95 = .ok (.getfield 19, 3) := by decide +kernel
theorem dX2_pass_98 : decode cX2_pass 98 = .ok (.if_icmp .ge 15, 3) := by decide +kernel
theorem dX2_pass_101 : decode cX2_pass 101 = .ok (.aload_n 0, 1) := by decide +kernel
theorem dX2_pass_102 : decode cX2_pass 102 = .ok (.iload 4, 2) := by decide +kernel
theorem dX2_pass_104 : decode cX2_pass 104 = .ok (.invokevirtual 102, 3) := by decide +kernel
theorem dX2_pass_107 : decode cX2_pass 107 = .ok (.iinc 4 1, 3) := by decide +kernel
theorem dX2_pass_110 : decode cX2_pass 110 = .ok (.goto (-18), 3) := by decide +kernel
theorem dX2_pass_113 : decode cX2_pass 113 = .ok (.aload_n 0, 1) := by decide +kernel
theorem dX2_pass_114 : decode cX2_pass 114 = .ok (.dup, 1) := by decide +kernel
theorem dX2_pass_115 : decode cX2_pass 115 = .ok (.getfield 46, 3) := by decide +kernel
theorem dX2_pass_118 : decode cX2_pass 118 = .ok (.iconst 1, 1) := by decide +kernel
theorem dX2_pass_119 : decode cX2_pass 119 = .ok (.iadd, 1) := by decide +kernel
theorem dX2_pass_120 : decode cX2_pass 120 = .ok (.putfield 46, 3) := by decide +kernel
theorem dX2_pass_123 : decode cX2_pass 123 = .ok (.iload_n 3, 1) := by decide +kernel
theorem dX2_pass_124 : decode cX2_pass 124 = .ok (.ireturn, 1) := by decide +kernel
theorem dX2_passMany_0 : decode cX2_passMany 0 = .ok (.iconst 0, 1) := by decide +kernel
theorem dX2_passMany_1 : decode cX2_passMany 1 = .ok (.istore_n 3, 1) := by decide +kernel
theorem dX2_passMany_2 : decode cX2_passMany 2 = .ok (.iload_n 3, 1) := by decide +kernel
theorem dX2_passMany_3 : decode cX2_passMany 3 = .ok (.iload_n 1, 1) := by decide +kernel
theorem dX2_passMany_4 : decode cX2_passMany 4 = .ok (.if_icmp .ge 22, 3) := by decide +kernel
theorem dX2_passMany_7 : decode cX2_passMany 7 = .ok (.aload_n 0, 1) := by decide +kernel
theorem dX2_passMany_8 : decode cX2_passMany 8 = .ok (.invokevirtual 106, 3) := by decide +kernel
theorem dX2_passMany_11 : decode cX2_passMany 11 = .ok (.ifCond .ne 15, 3) := by decide +kernel
theorem dX2_passMany_14 : decode cX2_passMany 14 = .ok (.aload_n 0, 1) := by decide +kernel
theorem dX2_passMany_15 : decode cX2_passMany 15 = .ok (.iload_n 2, 1) := by decide +kernel
theorem dX2_passMany_16 : decode cX2_passMany 16 = .ok (.invokevirtual 110, 3) := by decide +kernel
theorem dX2_passMany_19 : decode cX2_passMany 19 = .ok (.pop, 1) := by decide +kernel
theorem dX2_passMany_20 : decode cX2_passMany 20 = .ok (.iinc 3 1, 3) := by decide +kernel
theorem dX2_passMany_23 : decode cX2_passMany 23 = .ok (.goto (-21), 3) := by decide +kernel
theorem dX2_passMany_26 : decode cX2_passMany 26 = .ok (.return_, 1) := by decide +kernel
theorem dX2_mayGo_0 : decode cX2_mayGo 0 = .ok (.aload_n 0, 1) := by decide +kernel
theorem dX2_mayGo_1 : decode cX2_mayGo 1 = .ok (.getfield 22, 3) := by decide +kernel
theorem dX2_mayGo_4 : decode cX2_mayGo 4 = .ok (.iload_n 1, 1) := by decide +kernel
theorem dX2_mayGo_5 : decode cX2_mayGo 5 = .ok (.iaload, 1) := by decide +kernel
theorem dX2_mayGo_6 : decode cX2_mayGo 6 = .ok (.iconst 5, 1) := by decide +kernel
theorem dX2_mayGo_7 : decode cX2_mayGo 7 = .ok (.if_icmp .ne 15, 3) := by decide +kernel
theorem dX2_mayGo_10 : decode cX2_mayGo 10 = .ok (.aload_n 0, 1) := by decide +kernel
theorem dX2_mayGo_11 : decode cX2_mayGo 11 = .ok (.getfield 46, 3) := by decide +kernel
theorem dX2_mayGo_14 : decode cX2_mayGo 14 = .ok (.bipush 6, 2) := by decide +kernel
theorem dX2_mayGo_16 : decode cX2_mayGo 16 = .ok (.irem, 1) := by decide +kernel
theorem dX2_mayGo_17 : decode cX2_mayGo 17 = .ok (.ifCond .ne 5, 3) := by decide +kernel
theorem dX2_mayGo_20 : decode cX2_mayGo 20 = .ok (.iconst 1, 1) := by decide +kernel
theorem dX2_mayGo_21 : decode cX2_mayGo 21 = .ok (.ireturn, 1) := by decide +kernel
theorem dX2_mayGo_22 : decode cX2_mayGo 22 = .ok (.aload_n 0, 1) := by decide +kernel
theorem dX2_mayGo_23 : decode cX2_mayGo 23 = .ok (.getfield 22, 3) := by decide +kernel
theorem dX2_mayGo_26 : decode cX2_mayGo 26 = .ok (.iload_n 1, 1) := by decide +kernel
theorem dX2_mayGo_27 : decode cX2_mayGo 27 = .ok (.iaload, 1) := by decide +kernel
theorem dX2_mayGo_28 : decode cX2_mayGo 28 = .ok (.iconst 3, 1) := by decide +kernel
theorem dX2_mayGo_29 : decode cX2_mayGo 29 = .ok (.if_icmp .ne 9, 3) := by decide +kernel
theorem dX2_mayGo_32 : decode cX2_mayGo 32 = .ok (.iload_n 3, 1) := by decide +kernel
theorem dX2_mayGo_33 : decode cX2_mayGo 33 = .ok (.ifCond .eq 5, 3) := by decide +kernel
theorem dX2_mayGo_36 : decode cX2_mayGo 36 = .ok (.iconst 0, 1) := by decide +kernel
theorem dX2_mayGo_37 : decode cX2_mayGo 37 = .ok (.ireturn, 1) := by decide +kernel
theorem dX2_mayGo_38 : decode cX2_mayGo 38 = .ok (.aload_n 0, 1) := by decide +kernel
theorem dX2_mayGo_39 : decode cX2_mayGo 39 = .ok (.getfield 15, 3) := by decide +kernel
theorem dX2_mayGo_42 : decode cX2_mayGo 42 = .ok (.aload_n 0, 1) := by decide +kernel
theorem dX2_mayGo_43 : decode cX2_mayGo 43 = .ok (.getfield 34, 3) := by decide +kernel
theorem dX2_mayGo_46 : decode cX2_mayGo 46 = .ok (.iload_n 1, 1) := by decide +kernel
theorem dX2_mayGo_47 : decode cX2_mayGo 47 = .ok (.iaload, 1) := by decide +kernel
theorem dX2_mayGo_48 : decode cX2_mayGo 48 = .ok (.iconst 1, 1) := by decide +kernel
theorem dX2_mayGo_49 : decode cX2_mayGo 49 = .ok (.iadd, 1) := by decide +kernel
theorem dX2_mayGo_50 : decode cX2_mayGo 50 = .ok (.iaload, 1) := by decide +kernel
theorem dX2_mayGo_51 : decode cX2_mayGo 51 = .ok (.istore 4, 2) := by decide +kernel
theorem dX2_mayGo_53 : decode cX2_mayGo 53 = .ok (.iload 4, 2) := by decide +kernel
theorem dX2_mayGo_55 : decode cX2_mayGo 55 = .ok (.bipush 12, 2) := by decide +kernel
theorem dX2_mayGo_57 : decode cX2_mayGo 57 = .ok (.if_icmp .eq 9, 3) := by decide +kernel
theorem dX2_mayGo_60 : decode cX2_mayGo 60 = .ok (.iload 4, 2) := by decide +kernel
theorem dX2_mayGo_62 : decode cX2_mayGo 62 = .ok (.iload_n 2, 1) := by decide +kernel
theorem dX2_mayGo_63 : decode cX2_mayGo 63 = .ok (.if_icmp .ne 7, 3) := by decide +kernel
theorem dX2_mayGo_66 : decode cX2_mayGo 66 = .ok (.iconst 1, 1) := by decide +kernel
theorem dX2_mayGo_67 : decode cX2_mayGo 67 = .ok (.goto 4, 3) := by decide +kernel
theorem dX2_mayGo_70 : decode cX2_mayGo 70 = .ok (.iconst 0, 1) := by decide +kernel
theorem dX2_mayGo_71 : decode cX2_mayGo 71 = .ok (.ireturn, 1) := by decide +kernel
theorem dX2_go_0 : decode cX2_go 0 = .ok (.aload_n 0, 1) := by decide +kernel
theorem dX2_go_1 : decode cX2_go 1 = .ok (.getfield 22, 3) := by decide +kernel
theorem dX2_go_4 : decode cX2_go 4 = .ok (.iload_n 1, 1) := by decide +kernel
theorem dX2_go_5 : decode cX2_go 5 = .ok (.iaload, 1) := by decide +kernel
theorem dX2_go_6 : decode cX2_go 6 = .ok (.iconst 1, 1) := by decide +kernel
theorem dX2_go_7 : decode cX2_go 7 = .ok (.if_icmp .ne 12, 3) := by decide +kernel
theorem dX2_go_10 : decode cX2_go 10 = .ok (.iload_n 3, 1) := by decide +kernel
theorem dX2_go_11 : decode cX2_go 11 = .ok (.iconst 1, 1) := by decide +kernel
theorem dX2_go_12 : decode cX2_go 12 = .ok (.if_icmp .ne 7, 3) := by decide +kernel
theorem dX2_go_15 : decode cX2_go 15 = .ok (.iconst 2, 1) := by decide +kernel
theorem dX2_go_16 : decode cX2_go 16 = .ok (.goto 4, 3) := by decide +kernel
theorem dX2_go_19 : decode cX2_go 19 = .ok (.iconst 1, 1) := by decide +kernel
theorem dX2_go_20 : decode cX2_go 20 = .ok (.istore 4, 2) := by decide +kernel
theorem dX2_go_22 : decode cX2_go 22 = .ok (.aload_n 0, 1) := by decide +kernel
theorem dX2_go_23 : decode cX2_go 23 = .ok (.getfield 15, 3) := by decide +kernel
theorem dX2_go_26 : decode cX2_go 26 = .ok (.aload_n 0, 1) := by decide +kernel
theorem dX2_go_27 : decode cX2_go 27 = .ok (.getfield 34, 3) := by decide +kernel
theorem dX2_go_30 : decode cX2_go 30 = .ok (.iload_n 1, 1) := by decide +kernel
theorem dX2_go_31 : decode cX2_go 31 = .ok (.iaload, 1) := by decide +kernel
theorem dX2_go_32 : decode cX2_go 32 = .ok (.iload_n 2, 1) := by decide +kernel
theorem dX2_go_33 : decode cX2_go 33 = .ok (.iastore, 1) := by decide +kernel
theorem dX2_go_34 : decode cX2_go 34 = .ok (.aload_n 0, 1) := by decide +kernel
theorem dX2_go_35 : decode cX2_go 35 = .ok (.getfield 34, 3) := by decide +kernel
theorem dX2_go_38 : decode cX2_go 38 = .ok (.iload_n 1, 1) := by decide +kernel
theorem dX2_go_39 : decode cX2_go 39 = .ok (.aload_n 0, 1) := by decide +kernel
theorem dX2_go_40 : decode cX2_go 40 = .ok (.getfield 34, 3) := by decide +kernel
theorem dX2_go_43 : decode cX2_go 43 = .ok (.iload_n 1, 1) := by decide +kernel
theorem dX2_go_44 : decode cX2_go 44 = .ok (.iaload, 1) := by decide +kernel
theorem dX2_go_45 : decode cX2_go 45 = .ok (.iload 4, 2) := by decide +kernel
theorem dX2_go_47 : decode cX2_go 47 = .ok (.iadd, 1) := by decide +kernel
theorem dX2_go_48 : decode cX2_go 48 = .ok (.aload_n 0, 1) := by decide +kernel
theorem dX2_go_49 : decode cX2_go 49 = .ok (.getfield 9, 3) := by decide +kernel
theorem dX2_go_52 : decode cX2_go 52 = .ok (.iconst 1, 1) := by decide +kernel
theorem dX2_go_53 : decode cX2_go 53 = .ok (.isub, 1) := by decide +kernel
theorem dX2_go_54 : decode cX2_go 54 = .ok (.invokestatic 82, 3) := by decide +kernel
theorem dX2_go_57 : decode cX2_go 57 = .ok (.iastore, 1) := by decide +kernel
theorem dX2_go_58 : decode cX2_go 58 = .ok (.aload_n 0, 1) := by decide +kernel
theorem dX2_go_59 : decode cX2_go 59 = .ok (.iload_n 1, 1) := by decide +kernel
theorem dX2_go_60 : decode cX2_go 60 = .ok (.invokevirtual 75, 3) := by decide +kernel
theorem dX2_go_63 : decode cX2_go 63 = .ok (.ifCond .eq 15, 3) := by decide +kernel
theorem dX2_go_66 : decode cX2_go 66 = .ok (.aload_n 0, 1) := by decide +kernel
theorem dX2_go_67 : decode cX2_go 67 = .ok (.getfield 37, 3) := by decide +kernel
theorem dX2_go_70 : decode cX2_go 70 = .ok (.iload_n 1, 1) := by decide +kernel
theorem dX2_go_71 : decode cX2_go 71 = .ok (.aload_n 0, 1) := by decide +kernel
theorem dX2_go_72 : decode cX2_go 72 = .ok (.getfield 46, 3) := by decide +kernel
theorem dX2_go_75 : decode cX2_go 75 = .ok (.iconst 1, 1) := by decide +kernel
theorem dX2_go_76 : decode cX2_go 76 = .ok (.iadd, 1) := by decide +kernel
theorem dX2_go_77 : decode cX2_go 77 = .ok (.iastore, 1) := by decide +kernel
theorem dX2_go_78 : decode cX2_go 78 = .ok (.iload_n 3, 1) := by decide +kernel
theorem dX2_go_79 : decode cX2_go 79 = .ok (.iconst 2, 1) := by decide +kernel
theorem dX2_go_80 : decode cX2_go 80 = .ok (.if_icmp .ne 4, 3) := by decide +kernel
theorem dX2_go_83 : decode cX2_go 83 = .ok (.return_, 1) := by decide +kernel
theorem dX2_go_84 : decode cX2_go 84 = .ok (.aload_n 0, 1) := by decide +kernel
theorem dX2_go_85 : decode cX2_go 85 = .ok (.dup, 1) := by decide +kernel
theorem dX2_go_86 : decode cX2_go 86 = .ok (.getfield 49, 3) := by decide +kernel
theorem dX2_go_89 : decode cX2_go 89 = .ok (.iconst 1, 1) := by decide +kernel
theorem dX2_go_90 : decode cX2_go 90 = .ok (.iload_n 1, 1) := by decide +kernel
theorem dX2_go_91 : decode cX2_go 91 = .ok (.ishl, 1) := by decide +kernel
theorem dX2_go_92 : decode cX2_go 92 = .ok (.ior, 1) := by decide +kernel
theorem dX2_go_93 : decode cX2_go 93 = .ok (.putfield 49, 3) := by decide +kernel
theorem dX2_go_96 : decode cX2_go 96 = .ok (.aload_n 0, 1) := by decide +kernel
theorem dX2_go_97 : decode cX2_go 97 = .ok (.dup, 1) := by decide +kernel
theorem dX2_go_98 : decode cX2_go 98 = .ok (.getfield 52, 3) := by decide +kernel
theorem dX2_go_101 : decode cX2_go 101 = .ok (.iload_n 2, 1) := by decide +kernel
theorem dX2_go_102 : decode cX2_go 102 = .ok (.invokestatic 72, 3) := by decide +kernel
theorem dX2_go_105 : decode cX2_go 105 = .ok (.iadd, 1) := by decide +kernel
theorem dX2_go_106 : decode cX2_go 106 = .ok (.putfield 52, 3) := by decide +kernel
theorem dX2_go_109 : decode cX2_go 109 = .ok (.return_, 1) := by decide +kernel
theorem dX2_run_0 : decode cX2_run 0 = .ok (.aload_n 0, 1) := by decide +kernel
theorem dX2_run_1 : decode cX2_run 1 = .ok (.getfield 22, 3) := by decide +kernel
theorem dX2_run_4 : decode cX2_run 4 = .ok (.iload_n 1, 1) := by decide +kernel
theorem dX2_run_5 : decode cX2_run 5 = .ok (.iaload, 1) := by decide +kernel
theorem dX2_run_6 : decode cX2_run 6 = .ok (.iconst 2, 1) := by decide +kernel
theorem dX2_run_7 : decode cX2_run 7 = .ok (.if_icmp .eq 22, 3) := by decide +kernel
theorem dX2_run_10 : decode cX2_run 10 = .ok (.aload_n 0, 1) := by decide +kernel
theorem dX2_run_11 : decode cX2_run 11 = .ok (.getfield 22, 3) := by decide +kernel
theorem dX2_run_14 : decode cX2_run 14 = .ok (.iload_n 1, 1) := by decide +kernel
theorem dX2_run_15 : decode cX2_run 15 = .ok (.iaload, 1) := by decide +kernel
theorem dX2_run_16 : decode cX2_run 16 = .ok (.iconst 3, 1) := by decide +kernel
theorem dX2_run_17 : decode cX2_run 17 = .ok (.if_icmp .eq 12, 3) := by decide +kernel
theorem dX2_run_20 : decode cX2_run 20 = .ok (.aload_n 0, 1) := by decide +kernel
theorem dX2_run_21 : decode cX2_run 21 = .ok (.getfield 31, 3) := by decide +kernel
theorem dX2_run_24 : decode cX2_run 24 = .ok (.iload_n 1, 1) := by decide +kernel
theorem dX2_run_25 : decode cX2_run 25 = .ok (.iaload, 1) := by decide +kernel
theorem dX2_run_26 : decode cX2_run 26 = .ok (.ifCond .ne 4, 3) := by decide +kernel
theorem dX2_run_29 : decode cX2_run 29 = .ok (.return_, 1) := by decide +kernel
theorem dX2_run_30 : decode cX2_run 30 = .ok (.aload_n 0, 1) := by decide +kernel
theorem dX2_run_31 : decode cX2_run 31 = .ok (.iload_n 1, 1) := by decide +kernel
theorem dX2_run_32 : decode cX2_run 32 = .ok (.bipush 60, 2) := by decide +kernel
theorem dX2_run_34 : decode cX2_run 34 = .ok (.aload_n 0, 1) := by decide +kernel
theorem dX2_run_35 : decode cX2_run 35 = .ok (.getfield 28, 3) := by decide +kernel
theorem dX2_run_38 : decode cX2_run 38 = .ok (.iload_n 1, 1) := by decide +kernel
theorem dX2_run_39 : decode cX2_run 39 = .ok (.iaload, 1) := by decide +kernel
theorem dX2_run_40 : decode cX2_run 40 = .ok (.iadd, 1) := by decide +kernel
theorem dX2_run_41 : decode cX2_run 41 = .ok (.invokevirtual 113, 3) := by decide +kernel
theorem dX2_run_44 : decode cX2_run 44 = .ok (.aload_n 0, 1) := by decide +kernel
theorem dX2_run_45 : decode cX2_run 45 = .ok (.getfield 31, 3) := by decide +kernel
theorem dX2_run_48 : decode cX2_run 48 = .ok (.iload_n 1, 1) := by decide +kernel
theorem dX2_run_49 : decode cX2_run 49 = .ok (.dup2, 1) := by decide +kernel
theorem dX2_run_50 : decode cX2_run 50 = .ok (.iaload, 1) := by decide +kernel
theorem dX2_run_51 : decode cX2_run 51 = .ok (.iconst 1, 1) := by decide +kernel
theorem dX2_run_52 : decode cX2_run 52 = .ok (.isub, 1) := by decide +kernel
theorem dX2_run_53 : decode cX2_run 53 = .ok (.iastore, 1) := by decide +kernel
theorem dX2_run_54 : decode cX2_run 54 = .ok (.return_, 1) := by decide +kernel
theorem dX2_isAhead_0 : decode cX2_isAhead 0 = .ok (.aload_n 0, 1) := by decide +kernel
theorem dX2_isAhead_1 : decode cX2_isAhead 1 = .ok (.iload_n 1, 1) := by decide +kernel
theorem dX2_isAhead_2 : decode cX2_isAhead 2 = .ok (.invokevirtual 75, 3) := by decide +kernel
theorem dX2_isAhead_5 : decode cX2_isAhead 5 = .ok (.ifCond .eq 32, 3) := by decide +kernel
theorem dX2_isAhead_8 : decode cX2_isAhead 8 = .ok (.aload_n 0, 1) := by decide +kernel
theorem dX2_isAhead_9 : decode cX2_isAhead 9 = .ok (.iload_n 2, 1) := by decide +kernel
theorem dX2_isAhead_10 : decode cX2_isAhead 10 = .ok (.invokevirtual 75, 3) := by decide +kernel
theorem dX2_isAhead_13 : decode cX2_isAhead 13 = .ok (.ifCond .eq 24, 3) := by decide +kernel
theorem dX2_isAhead_16 : decode cX2_isAhead 16 = .ok (.aload_n 0, 1) := by decide +kernel
theorem dX2_isAhead_17 : decode cX2_isAhead 17 = .ok (.getfield 37, 3) := by decide +kernel
theorem dX2_isAhead_20 : decode cX2_isAhead 20 = .ok (.iload_n 1, 1) := by decide +kernel
theorem dX2_isAhead_21 : decode cX2_isAhead 21 = .ok (.iaload, 1) := by decide +kernel
theorem dX2_isAhead_22 : decode cX2_isAhead 22 = .ok (.aload_n 0, 1) := by decide +kernel
theorem dX2_isAhead_23 : decode cX2_isAhead 23 = .ok (.getfield 37, 3) := by decide +kernel
theorem dX2_isAhead_26 : decode cX2_isAhead 26 = .ok (.iload_n 2, 1) := by decide +kernel
theorem dX2_isAhead_27 : decode cX2_isAhead 27 = .ok (.iaload, 1) := by decide +kernel
theorem dX2_isAhead_28 : decode cX2_isAhead 28 = .ok (.if_icmp .ge 7, 3) := by decide +kernel
theorem dX2_isAhead_31 : decode cX2_isAhead 31 = .ok (.iconst 1, 1) := by decide +kernel
theorem dX2_isAhead_32 : decode cX2_isAhead 32 = .ok (.goto 4, 3) := by decide +kernel
theorem dX2_isAhead_35 : decode cX2_isAhead 35 = .ok (.iconst 0, 1) := by decide +kernel
theorem dX2_isAhead_36 : decode cX2_isAhead 36 = .ok (.ireturn, 1) := by decide +kernel
theorem dX2_isAhead_37 : decode cX2_isAhead 37 = .ok (.aload_n 0, 1) := by decide +kernel
theorem dX2_isAhead_38 : decode cX2_isAhead 38 = .ok (.getfield 34, 3) := by decide +kernel
theorem dX2_isAhead_41 : decode cX2_isAhead 41 = .ok (.iload_n 1, 1) := by decide +kernel
theorem dX2_isAhead_42 : decode cX2_isAhead 42 = .ok (.iaload, 1) := by decide +kernel
theorem dX2_isAhead_43 : decode cX2_isAhead 43 = .ok (.aload_n 0, 1) := by decide +kernel
theorem dX2_isAhead_44 : decode cX2_isAhead 44 = .ok (.getfield 34, 3) := by decide +kernel
theorem dX2_isAhead_47 : decode cX2_isAhead 47 = .ok (.iload_n 2, 1) := by decide +kernel
theorem dX2_isAhead_48 : decode cX2_isAhead 48 = .ok (.iaload, 1) := by decide +kernel
theorem dX2_isAhead_49 : decode cX2_isAhead 49 = .ok (.if_icmp .le 7, 3) := by decide +kernel
theorem dX2_isAhead_52 : decode cX2_isAhead 52 = .ok (.iconst 1, 1) := by decide +kernel
theorem dX2_isAhead_53 : decode cX2_isAhead 53 = .ok (.goto 4, 3) := by decide +kernel
theorem dX2_isAhead_56 : decode cX2_isAhead 56 = .ok (.iconst 0, 1) := by decide +kernel
theorem dX2_isAhead_57 : decode cX2_isAhead 57 = .ok (.ireturn, 1) := by decide +kernel
theorem dX2_placeOf_0 : decode cX2_placeOf 0 = .ok (.iconst 1, 1) := by decide +kernel
theorem dX2_placeOf_1 : decode cX2_placeOf 1 = .ok (.istore_n 2, 1) := by decide +kernel
theorem dX2_placeOf_2 : decode cX2_placeOf 2 = .ok (.iconst 0, 1) := by decide +kernel
theorem dX2_placeOf_3 : decode cX2_placeOf 3 = .ok (.istore_n 3, 1) := by decide +kernel
theorem dX2_placeOf_4 : decode cX2_placeOf 4 = .ok (.iload_n 3, 1) := by decide +kernel
theorem dX2_placeOf_5 : decode cX2_placeOf 5 = .ok (.aload_n 0, 1) := by decide +kernel
theorem dX2_placeOf_6 : decode cX2_placeOf 6 = .ok (.getfield 19, 3) := by decide +kernel
theorem dX2_placeOf_9 : decode cX2_placeOf 9 = .ok (.if_icmp .ge 21, 3) := by decide +kernel
theorem dX2_placeOf_12 : decode cX2_placeOf 12 = .ok (.aload_n 0, 1) := by decide +kernel
theorem dX2_placeOf_13 : decode cX2_placeOf 13 = .ok (.iload_n 3, 1) := by decide +kernel
theorem dX2_placeOf_14 : decode cX2_placeOf 14 = .ok (.iload_n 1, 1) := by decide +kernel
theorem dX2_placeOf_15 : decode cX2_placeOf 15 = .ok (.invokevirtual 117, 3) := by decide +kernel
theorem dX2_placeOf_18 : decode cX2_placeOf 18 = .ok (.ifCond .eq 6, 3) := by decide +kernel
theorem dX2_placeOf_21 : decode cX2_placeOf 21 = .ok (.iinc 2 1, 3) := by decide +kernel
theorem dX2_placeOf_24 : decode cX2_placeOf 24 = .ok (.iinc 3 1, 3) := by decide +kernel
theorem dX2_placeOf_27 : decode cX2_placeOf 27 = .ok (.goto (-23), 3) := by decide +kernel
theorem dX2_placeOf_30 : decode cX2_placeOf 30 = .ok (.iload_n 2, 1) := by decide +kernel
theorem dX2_placeOf_31 : decode cX2_placeOf 31 = .ok (.ireturn, 1) := by decide +kernel
theorem dX2_leaders_0 : decode cX2_leaders 0 = .ok (.iconst 0, 1) := by decide +kernel
theorem dX2_leaders_1 : decode cX2_leaders 1 = .ok (.istore_n 1, 1) := by decide +kernel
theorem dX2_leaders_2 : decode cX2_leaders 2 = .ok (.iconst 0, 1) := by decide +kernel
theorem dX2_leaders_3 : decode cX2_leaders 3 = .ok (.istore_n 2, 1) := by decide +kernel
theorem dX2_leaders_4 : decode cX2_leaders 4 = .ok (.iload_n 2, 1) := by decide +kernel
theorem dX2_leaders_5 : decode cX2_leaders 5 = .ok (.aload_n 0, 1) := by decide +kernel
theorem dX2_leaders_6 : decode cX2_leaders 6 = .ok (.getfield 19, 3) := by decide +kernel
theorem dX2_leaders_9 : decode cX2_leaders 9 = .ok (.if_icmp .ge 24, 3) := by decide +kernel
theorem dX2_leaders_12 : decode cX2_leaders 12 = .ok (.aload_n 0, 1) := by decide +kernel
theorem dX2_leaders_13 : decode cX2_leaders 13 = .ok (.iload_n 2, 1) := by decide +kernel
theorem dX2_leaders_14 : decode cX2_leaders 14 = .ok (.invokevirtual 121, 3) := by decide +kernel
theorem dX2_leaders_17 : decode cX2_leaders 17 = .ok (.iconst 1, 1) := by decide +kernel
theorem dX2_leaders_18 : decode cX2_leaders 18 = .ok (.if_icmp .ne 9, 3) := by decide +kernel
theorem dX2_leaders_21 : decode cX2_leaders 21 = .ok (.iload_n 1, 1) := by decide +kernel
theorem dX2_leaders_22 : decode cX2_leaders 22 = .ok (.iconst 1, 1) := by decide +kernel
theorem dX2_leaders_23 : decode cX2_leaders 23 = .ok (.iload_n 2, 1) := by decide +kernel
theorem dX2_leaders_24 : decode cX2_leaders 24 = .ok (.ishl, 1) := by decide +kernel
theorem dX2_leaders_25 : decode cX2_leaders 25 = .ok (.ior, 1) := by decide +kernel
theorem dX2_leaders_26 : decode cX2_leaders 26 = .ok (.istore_n 1, 1) := by decide +kernel
theorem dX2_leaders_27 : decode cX2_leaders 27 = .ok (.iinc 2 1, 3) := by decide +kernel
theorem dX2_leaders_30 : decode cX2_leaders 30 = .ok (.goto (-26), 3) := by decide +kernel
theorem dX2_leaders_33 : decode cX2_leaders 33 = .ok (.iload_n 1, 1) := by decide +kernel
theorem dX2_leaders_34 : decode cX2_leaders 34 = .ok (.ireturn, 1) := by decide +kernel
theorem dX2_tiedPairs_0 : decode cX2_tiedPairs 0 = .ok (.iconst 0, 1) := by decide +kernel
theorem dX2_tiedPairs_1 : decode cX2_tiedPairs 1 = .ok (.istore_n 1, 1) := by decide +kernel
theorem dX2_tiedPairs_2 : decode cX2_tiedPairs 2 = .ok (.iconst 0, 1) := by decide +kernel
theorem dX2_tiedPairs_3 : decode cX2_tiedPairs 3 = .ok (.istore_n 2, 1) := by decide +kernel
theorem dX2_tiedPairs_4 : decode cX2_tiedPairs 4 = .ok (.iload_n 2, 1) := by decide +kernel
theorem dX2_tiedPairs_5 : decode cX2_tiedPairs 5 = .ok (.aload_n 0, 1) := by decide +kernel
theorem dX2_tiedPairs_6 : decode cX2_tiedPairs 6 = .ok (.getfield 19, 3) := by decide +kernel
theorem dX2_tiedPairs_9 : decode cX2_tiedPairs 9 = .ok (.if_icmp .ge 43, 3) := by decide +kernel
theorem dX2_tiedPairs_12 : decode cX2_tiedPairs 12 = .ok (.iconst 0, 1) := by decide +kernel
theorem dX2_tiedPairs_13 : decode cX2_tiedPairs 13 = .ok (.istore_n 3, 1) := by decide +kernel
theorem dX2_tiedPairs_14 : decode cX2_tiedPairs 14 = .ok (.iload_n 3, 1) := by decide +kernel
theorem dX2_tiedPairs_15 : decode cX2_tiedPairs 15 = .ok (.iload_n 2, 1) := by decide +kernel
theorem dX2_tiedPairs_16 : decode cX2_tiedPairs 16 = .ok (.if_icmp .ge 30, 3) := by decide +kernel
theorem dX2_tiedPairs_19 : decode cX2_tiedPairs 19 = .ok (.aload_n 0, 1) := by decide +kernel
theorem dX2_tiedPairs_20 : decode cX2_tiedPairs 20 = .ok (.iload_n 2, 1) := by decide +kernel
theorem dX2_tiedPairs_21 : decode cX2_tiedPairs 21 = .ok (.iload_n 3, 1) := by decide +kernel
theorem dX2_tiedPairs_22 : decode cX2_tiedPairs 22 = .ok (.invokevirtual 117, 3) := by decide +kernel
theorem dX2_tiedPairs_25 : decode cX2_tiedPairs 25 = .ok (.ifCond .ne 15, 3) := by decide +kernel
theorem dX2_tiedPairs_28 : decode cX2_tiedPairs 28 = .ok (.aload_n 0, 1) := by decide +kernel
theorem dX2_tiedPairs_29 : decode cX2_tiedPairs 29 = .ok (.iload_n 3, 1) := by decide +kernel
theorem dX2_tiedPairs_30 : decode cX2_tiedPairs 30 = .ok (.iload_n 2, 1) := by decide +kernel
theorem dX2_tiedPairs_31 : decode cX2_tiedPairs 31 = .ok (.invokevirtual 117, 3) := by decide +kernel
theorem dX2_tiedPairs_34 : decode cX2_tiedPairs 34 = .ok (.ifCond .ne 6, 3) := by decide +kernel
theorem dX2_tiedPairs_37 : decode cX2_tiedPairs 37 = .ok (.iinc 1 1, 3) := by decide +kernel
theorem dX2_tiedPairs_40 : decode cX2_tiedPairs 40 = .ok (.iinc 3 1, 3) := by decide +kernel
theorem dX2_tiedPairs_43 : decode cX2_tiedPairs 43 = .ok (.goto (-29), 3) := by decide +kernel
theorem dX2_tiedPairs_46 : decode cX2_tiedPairs 46 = .ok (.iinc 2 1, 3) := by decide +kernel
theorem dX2_tiedPairs_49 : decode cX2_tiedPairs 49 = .ok (.goto (-45), 3) := by decide +kernel
theorem dX2_tiedPairs_52 : decode cX2_tiedPairs 52 = .ok (.iload_n 1, 1) := by decide +kernel
theorem dX2_tiedPairs_53 : decode cX2_tiedPairs 53 = .ok (.ireturn, 1) := by decide +kernel
theorem dX3_init_0 : decode cX3_init 0 = .ok (.aload_n 0, 1) := by decide +kernel
theorem dX3_init_1 : decode cX3_init 1 = .ok (.invokespecial 3, 3) := by decide +kernel
theorem dX3_init_4 : decode cX3_init 4 = .ok (.aload_n 0, 1) := by decide +kernel
theorem dX3_init_5 : decode cX3_init 5 = .ok (.iconst 0, 1) := by decide +kernel
theorem dX3_init_6 : decode cX3_init 6 = .ok (.putfield 9, 3) := by decide +kernel
theorem dX3_init_9 : decode cX3_init 9 = .ok (.aload_n 0, 1) := by decide +kernel
theorem dX3_init_10 : decode cX3_init 10 = .ok (.bipush 10, 2) := by decide +kernel
theorem dX3_init_12 : decode cX3_init 12 = .ok (.newarray .int, 2) := by decide +kernel
theorem dX3_init_14 : decode cX3_init 14 = .ok (.putfield 15, 3) := by decide +kernel
theorem dX3_init_17 : decode cX3_init 17 = .ok (.aload_n 0, 1) := by decide +kernel
theorem dX3_init_18 : decode cX3_init 18 = .ok (.bipush 10, 2) := by decide +kernel
theorem dX3_init_20 : decode cX3_init 20 = .ok (.newarray .int, 2) := by decide +kernel
theorem dX3_init_22 : decode cX3_init 22 = .ok (.putfield 19, 3) := by decide +kernel
theorem dX3_init_25 : decode cX3_init 25 = .ok (.aload_n 0, 1) := by decide +kernel
theorem dX3_init_26 : decode cX3_init 26 = .ok (.bipush 10, 2) := by decide +kernel
theorem dX3_init_28 : decode cX3_init 28 = .ok (.newarray .int, 2) := by decide +kernel
theorem dX3_init_30 : decode cX3_init 30 = .ok (.putfield 22, 3) := by decide +kernel
theorem dX3_init_33 : decode cX3_init 33 = .ok (.return_, 1) := by decide +kernel
theorem dX3_become_0 : decode cX3_become 0 = .ok (.aload_n 0, 1) := by decide +kernel
theorem dX3_become_1 : decode cX3_become 1 = .ok (.aload_n 1, 1) := by decide +kernel
theorem dX3_become_2 : decode cX3_become 2 = .ok (.getfield 9, 3) := by decide +kernel
theorem dX3_become_5 : decode cX3_become 5 = .ok (.putfield 9, 3) := by decide +kernel
theorem dX3_become_8 : decode cX3_become 8 = .ok (.aload_n 1, 1) := by decide +kernel
theorem dX3_become_9 : decode cX3_become 9 = .ok (.getfield 15, 3) := by decide +kernel
theorem dX3_become_12 : decode cX3_become 12 = .ok (.iconst 0, 1) := by decide +kernel
theorem dX3_become_13 : decode cX3_become 13 = .ok (.aload_n 0, 1) := by decide +kernel
theorem dX3_become_14 : decode cX3_become 14 = .ok (.getfield 15, 3) := by decide +kernel
theorem dX3_become_17 : decode cX3_become 17 = .ok (.iconst 0, 1) := by decide +kernel
theorem dX3_become_18 : decode cX3_become 18 = .ok (.aload_n 0, 1) := by decide +kernel
theorem dX3_become_19 : decode cX3_become 19 = .ok (.getfield 9, 3) := by decide +kernel
theorem dX3_become_22 : decode cX3_become 22 = .ok (.invokestatic 25, 3) := by decide +kernel
theorem dX3_become_25 : decode cX3_become 25 = .ok (.aload_n 1, 1) := by decide +kernel
theorem dX3_become_26 : decode cX3_become 26 = .ok (.getfield 19, 3) := by decide +kernel
theorem dX3_become_29 : decode cX3_become 29 = .ok (.iconst 0, 1) := by decide +kernel
theorem dX3_become_30 : decode cX3_become 30 = .ok (.aload_n 0, 1) := by decide +kernel
theorem dX3_become_31 : decode cX3_become 31 = .ok (.getfield 19, 3) := by decide +kernel
theorem dX3_become_34 : decode cX3_become 34 = .ok (.iconst 0, 1) := by decide +kernel
theorem dX3_become_35 : decode cX3_become 35 = .ok (.aload_n 0, 1) := by decide +kernel
theorem dX3_become_36 : decode cX3_become 36 = .ok (.getfield 9, 3) := by decide +kernel
theorem dX3_become_39 : decode cX3_become 39 = .ok (.invokestatic 25, 3) := by decide +kernel
theorem dX3_become_42 : decode cX3_become 42 = .ok (.aload_n 1, 1) := by decide +kernel
theorem dX3_become_43 : decode cX3_become 43 = .ok (.getfield 22, 3) := by decide +kernel
theorem dX3_become_46 : decode cX3_become 46 = .ok (.iconst 0, 1) := by decide +kernel
theorem dX3_become_47 : decode cX3_become 47 = .ok (.aload_n 0, 1) := by decide +kernel
theorem dX3_become_48 : decode cX3_become 48 = .ok (.getfield 22, 3) := by decide +kernel
theorem dX3_become_51 : decode cX3_become 51 = .ok (.iconst 0, 1) := by decide +kernel
theorem dX3_become_52 : decode cX3_become 52 = .ok (.aload_n 0, 1) := by decide +kernel
theorem dX3_become_53 : decode cX3_become 53 = .ok (.getfield 9, 3) := by decide +kernel
theorem dX3_become_56 : decode cX3_become 56 = .ok (.invokestatic 25, 3) := by decide +kernel
theorem dX3_become_59 : decode cX3_become 59 = .ok (.return_, 1) := by decide +kernel
theorem dX3_note_0 : decode cX3_note 0 = .ok (.aload_n 0, 1) := by decide +kernel
theorem dX3_note_1 : decode cX3_note 1 = .ok (.getfield 9, 3) := by decide +kernel
theorem dX3_note_4 : decode cX3_note 4 = .ok (.bipush 10, 2) := by decide +kernel
theorem dX3_note_6 : decode cX3_note 6 = .ok (.if_icmp .ne 7, 3) := by decide +kernel
theorem dX3_note_9 : decode cX3_note 9 = .ok (.aload_n 0, 1) := by decide +kernel
theorem dX3_note_10 : decode cX3_note 10 = .ok (.invokevirtual 31, 3) := by decide +kernel
theorem dX3_note_13 : decode cX3_note 13 = .ok (.aload_n 0, 1) := by decide +kernel
theorem dX3_note_14 : decode cX3_note 14 = .ok (.getfield 15, 3) := by decide +kernel
theorem dX3_note_17 : decode cX3_note 17 = .ok (.aload_n 0, 1) := by decide +kernel
theorem dX3_note_18 : decode cX3_note 18 = .ok (.getfield 9, 3) := by decide +kernel
theorem dX3_note_21 : decode cX3_note 21 = .ok (.iload_n 1, 1) := by decide +kernel
theorem dX3_note_22 : decode cX3_note 22 = .ok (.iastore, 1) := by decide +kernel
theorem dX3_note_23 : decode cX3_note 23 = .ok (.aload_n 0, 1) := by decide +kernel
theorem dX3_note_24 : decode cX3_note 24 = .ok (.getfield 19, 3) := by decide +kernel
theorem dX3_note_27 : decode cX3_note 27 = .ok (.aload_n 0, 1) := by decide +kernel
theorem dX3_note_28 : decode cX3_note 28 = .ok (.getfield 9, 3) := by decide +kernel
theorem dX3_note_31 : decode cX3_note 31 = .ok (.iload_n 2, 1) := by decide +kernel
theorem dX3_note_32 : decode cX3_note 32 = .ok (.iastore, 1) := by decide +kernel
theorem dX3_note_33 : decode cX3_note 33 = .ok (.aload_n 0, 1) := by decide +kernel
theorem dX3_note_34 : decode cX3_note 34 = .ok (.getfield 22, 3) := by decide +kernel
theorem dX3_note_37 : decode cX3_note 37 = .ok (.aload_n 0, 1) := by decide +kernel
theorem dX3_note_38 : decode cX3_note 38 = .ok (.getfield 9, 3) := by decide +kernel
theorem dX3_note_41 : decode cX3_note 41 = .ok (.iload_n 3, 1) := by decide +kernel
theorem dX3_note_42 : decode cX3_note 42 = .ok (.iastore, 1) := by decide +kernel
theorem dX3_note_43 : decode cX3_note 43 = .ok (.aload_n 0, 1) := by decide +kernel
theorem dX3_note_44 : decode cX3_note 44 = .ok (.dup, 1) := by decide +kernel
theorem dX3_note_45 : decode cX3_note 45 = .ok (.getfield 9, 3) := by decide +kernel
theorem dX3_note_48 : decode cX3_note 48 = .ok (.iconst 1, 1) := by decide +kernel
theorem dX3_note_49 : decode cX3_note 49 = .ok (.iadd, 1) := by decide +kernel
theorem dX3_note_50 : decode cX3_note 50 = .ok (.putfield 9, 3) := by decide +kernel
theorem dX3_note_53 : decode cX3_note 53 = .ok (.return_, 1) := by decide +kernel
theorem dX3_forgetOldest_0 : decode cX3_forgetOldest 0 = .ok (.aload_n 0, 1) := by decide +kernel
theorem dX3_forgetOldest_1 : decode cX3_forgetOldest 1 = .ok (.dup, 1) := by decide +kernel
theorem dX3_forgetOldest_2 : decode cX3_forgetOldest 2 = .ok (.getfield 9, 3) := by decide +kernel
theorem dX3_forgetOldest_5 : decode cX3_forgetOldest 5 = .ok (.iconst 1, 1) := by decide +kernel
theorem dX3_forgetOldest_6 : decode cX3_forgetOldest 6 = .ok (.isub, 1) := by decide +kernel
theorem dX3_forgetOldest_7 : decode cX3_forgetOldest 7 = .ok (.putfield 9, 3) := by decide +kernel
theorem dX3_forgetOldest_10 : decode cX3_forgetOldest 10 = .ok (.aload_n 0, 1) := by decide +kernel
theorem dX3_forgetOldest_11 : decode cX3_forgetOldest 11 = .ok (.getfield 15, 3) := by decide +kernel
theorem dX3_forgetOldest_14 : decode cX3_forgetOldest 14 = .ok (.iconst 1, 1) := by decide +kernel
theorem dX3_forgetOldest_15 : decode cX3_forgetOldest 15 = .ok (.aload_n 0, 1) := by decide +kernel
theorem dX3_forgetOldest_16 : decode cX3_forgetOldest 16 = .ok (.getfield 15, 3) := by decide +kernel
theorem dX3_forgetOldest_19 : decode cX3_forgetOldest 19 = .ok (.iconst 0, 1) := by decide +kernel
theorem dX3_forgetOldest_20 : decode cX3_forgetOldest 20 = .ok (.aload_n 0, 1) := by decide +kernel
theorem dX3_forgetOldest_21 : decode cX3_forgetOldest 21 = .ok (.getfield 9, 3) := by decide +kernel
theorem dX3_forgetOldest_24 : decode cX3_forgetOldest 24 = .ok (.invokestatic 25, 3) := by decide +kernel
theorem dX3_forgetOldest_27 : decode cX3_forgetOldest 27 = .ok (.aload_n 0, 1) := by decide +kernel
theorem dX3_forgetOldest_28 : decode cX3_forgetOldest 28 = .ok (.getfield 19, 3) := by decide +kernel
theorem dX3_forgetOldest_31 : decode cX3_forgetOldest 31 = .ok (.iconst 1, 1) := by decide +kernel
theorem dX3_forgetOldest_32 : decode cX3_forgetOldest 32 = .ok (.aload_n 0, 1) := by decide +kernel
theorem dX3_forgetOldest_33 : decode cX3_forgetOldest 33 = .ok (.getfield 19, 3) := by decide +kernel
theorem dX3_forgetOldest_36 : decode cX3_forgetOldest 36 = .ok (.iconst 0, 1) := by decide +kernel
theorem dX3_forgetOldest_37 : decode cX3_forgetOldest 37 = .ok (.aload_n 0, 1) := by decide +kernel
theorem dX3_forgetOldest_38 : decode cX3_forgetOldest 38 = .ok (.getfield 9, 3) := by decide +kernel
theorem dX3_forgetOldest_41 : decode cX3_forgetOldest 41 = .ok (.invokestatic 25, 3) := by decide +kernel
theorem dX3_forgetOldest_44 : decode cX3_forgetOldest 44 = .ok (.aload_n 0, 1) := by decide +kernel
theorem dX3_forgetOldest_45 : decode cX3_forgetOldest 45 = .ok (.getfield 22, 3) := by decide +kernel
theorem dX3_forgetOldest_48 : decode cX3_forgetOldest 48 = .ok (.iconst 1, 1) := by decide +kernel
theorem dX3_forgetOldest_49 : decode cX3_forgetOldest 49 = .ok (.aload_n 0, 1) := by decide +kernel
theorem dX3_forgetOldest_50 : decode cX3_forgetOldest 50 = .ok (.getfield 22, 3) := by decide +kernel
theorem dX3_forgetOldest_53 : decode cX3_forgetOldest 53 = .ok (.iconst 0, 1) := by decide +kernel
theorem dX3_forgetOldest_54 : decode cX3_forgetOldest 54 = .ok (.aload_n 0, 1) := by decide +kernel
theorem dX3_forgetOldest_55 : decode cX3_forgetOldest 55 = .ok (.getfield 9, 3) := by decide +kernel
theorem dX3_forgetOldest_58 : decode cX3_forgetOldest 58 = .ok (.invokestatic 25, 3) := by decide +kernel
theorem dX3_forgetOldest_61 : decode cX3_forgetOldest 61 = .ok (.return_, 1) := by decide +kernel
theorem dX3_takeBack_0 : decode cX3_takeBack 0 = .ok (.aload_n 0, 1) := by decide +kernel
theorem dX3_takeBack_1 : decode cX3_takeBack 1 = .ok (.dup, 1) := by decide +kernel
theorem dX3_takeBack_2 : decode cX3_takeBack 2 = .ok (.getfield 9, 3) := by decide +kernel
theorem dX3_takeBack_5 : decode cX3_takeBack 5 = .ok (.iconst 1, 1) := by decide +kernel
theorem dX3_takeBack_6 : decode cX3_takeBack 6 = .ok (.isub, 1) := by decide +kernel
theorem dX3_takeBack_7 : decode cX3_takeBack 7 = .ok (.putfield 9, 3) := by decide +kernel
theorem dX3_takeBack_10 : decode cX3_takeBack 10 = .ok (.aload_n 0, 1) := by decide +kernel
theorem dX3_takeBack_11 : decode cX3_takeBack 11 = .ok (.getfield 19, 3) := by decide +kernel
theorem dX3_takeBack_14 : decode cX3_takeBack 14 = .ok (.aload_n 0, 1) := by decide +kernel
theorem dX3_takeBack_15 : decode cX3_takeBack 15 = .ok (.getfield 9, 3) := by decide +kernel
theorem dX3_takeBack_18 : decode cX3_takeBack 18 = .ok (.iaload, 1) := by decide +kernel
theorem dX3_takeBack_19 : decode cX3_takeBack 19 = .ok (.istore_n 2, 1) := by decide +kernel
theorem dX3_takeBack_20 : decode cX3_takeBack 20 = .ok (.aload_n 0, 1) := by decide +kernel
theorem dX3_takeBack_21 : decode cX3_takeBack 21 = .ok (.getfield 15, 3) := by decide +kernel
theorem dX3_takeBack_24 : decode cX3_takeBack 24 = .ok (.aload_n 0, 1) := by decide +kernel
theorem dX3_takeBack_25 : decode cX3_takeBack 25 = .ok (.getfield 9, 3) := by decide +kernel
theorem dX3_takeBack_28 : decode cX3_takeBack 28 = .ok (.iaload, 1) := by decide +kernel
theorem dX3_takeBack_29 : decode cX3_takeBack 29 = .ok (.tableswitch 81 0 2 #[27, 45, 63], 27) := by decide +kernel
theorem dX3_takeBack_56 : decode cX3_takeBack 56 = .ok (.aload_n 1, 1) := by decide +kernel
theorem dX3_takeBack_57 : decode cX3_takeBack 57 = .ok (.getfield 34, 3) := by decide +kernel
theorem dX3_takeBack_60 : decode cX3_takeBack 60 = .ok (.iload_n 2, 1) := by decide +kernel
theorem dX3_takeBack_61 : decode cX3_takeBack 61 = .ok (.aload_n 0, 1) := by decide +kernel
theorem dX3_takeBack_62 : decode cX3_takeBack 62 = .ok (.getfield 22, 3) := by decide +kernel
theorem dX3_takeBack_65 : decode cX3_takeBack 65 = .ok (.aload_n 0, 1) := by decide +kernel
theorem dX3_takeBack_66 : decode cX3_takeBack 66 = .ok (.getfield 9, 3) := by decide +kernel
theorem dX3_takeBack_69 : decode cX3_takeBack 69 = .ok (.iaload, 1) := by decide +kernel
theorem dX3_takeBack_70 : decode cX3_takeBack 70 = .ok (.iastore, 1) := by decide +kernel
theorem dX3_takeBack_71 : decode cX3_takeBack 71 = .ok (.goto 54, 3) := by decide +kernel
theorem dX3_takeBack_74 : decode cX3_takeBack 74 = .ok (.aload_n 1, 1) := by decide +kernel
theorem dX3_takeBack_75 : decode cX3_takeBack 75 = .ok (.getfield 39, 3) := by decide +kernel
theorem dX3_takeBack_78 : decode cX3_takeBack 78 = .ok (.iload_n 2, 1) := by decide +kernel
theorem dX3_takeBack_79 : decode cX3_takeBack 79 = .ok (.aload_n 0, 1) := by decide +kernel
theorem dX3_takeBack_80 : decode cX3_takeBack 80 = .ok (.getfield 22, 3) := by decide +kernel
theorem dX3_takeBack_83 : decode cX3_takeBack 83 = .ok (.aload_n 0, 1) := by decide +kernel
theorem dX3_takeBack_84 : decode cX3_takeBack 84 = .ok (.getfield 9, 3) := by decide +kernel
theorem dX3_takeBack_87 : decode cX3_takeBack 87 = .ok (.iaload, 1) := by decide +kernel
theorem dX3_takeBack_88 : decode cX3_takeBack 88 = .ok (.iastore, 1) := by decide +kernel
theorem dX3_takeBack_89 : decode cX3_takeBack 89 = .ok (.goto 36, 3) := by decide +kernel
theorem dX3_takeBack_92 : decode cX3_takeBack 92 = .ok (.aload_n 1, 1) := by decide +kernel
theorem dX3_takeBack_93 : decode cX3_takeBack 93 = .ok (.getfield 42, 3) := by decide +kernel
theorem dX3_takeBack_96 : decode cX3_takeBack 96 = .ok (.iload_n 2, 1) := by decide +kernel
theorem dX3_takeBack_97 : decode cX3_takeBack 97 = .ok (.aload_n 0, 1) := by decide +kernel
theorem dX3_takeBack_98 : decode cX3_takeBack 98 = .ok (.getfield 22, 3) := by decide +kernel
theorem dX3_takeBack_101 : decode cX3_takeBack 101 = .ok (.aload_n 0, 1) := by decide +kernel
theorem dX3_takeBack_102 : decode cX3_takeBack 102 = .ok (.getfield 9, 3) := by decide +kernel
theorem dX3_takeBack_105 : decode cX3_takeBack 105 = .ok (.iaload, 1) := by decide +kernel
theorem dX3_takeBack_106 : decode cX3_takeBack 106 = .ok (.iastore, 1) := by decide +kernel
theorem dX3_takeBack_107 : decode cX3_takeBack 107 = .ok (.goto 18, 3) := by decide +kernel
theorem dX3_takeBack_110 : decode cX3_takeBack 110 = .ok (.aload_n 1, 1) := by decide +kernel
theorem dX3_takeBack_111 : decode cX3_takeBack 111 = .ok (.getfield 45, 3) := by decide +kernel
theorem dX3_takeBack_114 : decode cX3_takeBack 114 = .ok (.iload_n 2, 1) := by decide +kernel
theorem dX3_takeBack_115 : decode cX3_takeBack 115 = .ok (.aload_n 0, 1) := by decide +kernel
theorem dX3_takeBack_116 : decode cX3_takeBack 116 = .ok (.getfield 22, 3) := by decide +kernel
theorem dX3_takeBack_119 : decode cX3_takeBack 119 = .ok (.aload_n 0, 1) := by decide +kernel
theorem dX3_takeBack_120 : decode cX3_takeBack 120 = .ok (.getfield 9, 3) := by decide +kernel
theorem dX3_takeBack_123 : decode cX3_takeBack 123 = .ok (.iaload, 1) := by decide +kernel
theorem dX3_takeBack_124 : decode cX3_takeBack 124 = .ok (.iastore, 1) := by decide +kernel
theorem dX3_takeBack_125 : decode cX3_takeBack 125 = .ok (.return_, 1) := by decide +kernel
theorem dX4_init_0 : decode cX4_init 0 = .ok (.aload_n 0, 1) := by decide +kernel
theorem dX4_init_1 : decode cX4_init 1 = .ok (.invokespecial 3, 3) := by decide +kernel
theorem dX4_init_4 : decode cX4_init 4 = .ok (.aload_n 0, 1) := by decide +kernel
theorem dX4_init_5 : decode cX4_init 5 = .ok (.iconst 0, 1) := by decide +kernel
theorem dX4_init_6 : decode cX4_init 6 = .ok (.putfield 9, 3) := by decide +kernel
theorem dX4_init_9 : decode cX4_init 9 = .ok (.aload_n 0, 1) := by decide +kernel
theorem dX4_init_10 : decode cX4_init 10 = .ok (.iconst 0, 1) := by decide +kernel
theorem dX4_init_11 : decode cX4_init 11 = .ok (.putfield 15, 3) := by decide +kernel
theorem dX4_init_14 : decode cX4_init 14 = .ok (.aload_n 0, 1) := by decide +kernel
theorem dX4_init_15 : decode cX4_init 15 = .ok (.iconst 0, 1) := by decide +kernel
theorem dX4_init_16 : decode cX4_init 16 = .ok (.putfield 19, 3) := by decide +kernel
theorem dX4_init_19 : decode cX4_init 19 = .ok (.aload_n 0, 1) := by decide +kernel
theorem dX4_init_20 : decode cX4_init 20 = .ok (.bipush 24, 2) := by decide +kernel
theorem dX4_init_22 : decode cX4_init 22 = .ok (.newarray .long, 2) := by decide +kernel
theorem dX4_init_24 : decode cX4_init 24 = .ok (.putfield 22, 3) := by decide +kernel
theorem dX4_init_27 : decode cX4_init 27 = .ok (.return_, 1) := by decide +kernel
theorem dX4_renew_0 : decode cX4_renew 0 = .ok (.aload_n 0, 1) := by decide +kernel
theorem dX4_renew_1 : decode cX4_renew 1 = .ok (.iconst 1, 1) := by decide +kernel
theorem dX4_renew_2 : decode cX4_renew 2 = .ok (.putfield 9, 3) := by decide +kernel
theorem dX4_renew_5 : decode cX4_renew 5 = .ok (.aload_n 0, 1) := by decide +kernel
theorem dX4_renew_6 : decode cX4_renew 6 = .ok (.iload_n 1, 1) := by decide +kernel
theorem dX4_renew_7 : decode cX4_renew 7 = .ok (.putfield 15, 3) := by decide +kernel
theorem dX4_renew_10 : decode cX4_renew 10 = .ok (.aload_n 0, 1) := by decide +kernel
theorem dX4_renew_11 : decode cX4_renew 11 = .ok (.iload_n 2, 1) := by decide +kernel
theorem dX4_renew_12 : decode cX4_renew 12 = .ok (.putfield 19, 3) := by decide +kernel
theorem dX4_renew_15 : decode cX4_renew 15 = .ok (.iconst 0, 1) := by decide +kernel
theorem dX4_renew_16 : decode cX4_renew 16 = .ok (.istore_n 3, 1) := by decide +kernel
theorem dX4_renew_17 : decode cX4_renew 17 = .ok (.iload_n 3, 1) := by decide +kernel
theorem dX4_renew_18 : decode cX4_renew 18 = .ok (.iload_n 2, 1) := by decide +kernel
theorem dX4_renew_19 : decode cX4_renew 19 = .ok (.if_icmp .ge 16, 3) := by decide +kernel
theorem dX4_renew_22 : decode cX4_renew 22 = .ok (.aload_n 0, 1) := by decide +kernel
theorem dX4_renew_23 : decode cX4_renew 23 = .ok (.getfield 22, 3) := by decide +kernel
theorem dX4_renew_26 : decode cX4_renew 26 = .ok (.iload_n 3, 1) := by decide +kernel
theorem dX4_renew_27 : decode cX4_renew 27 = .ok (.lconst 0, 1) := by decide +kernel
theorem dX4_renew_28 : decode cX4_renew 28 = .ok (.lastore, 1) := by decide +kernel
theorem dX4_renew_29 : decode cX4_renew 29 = .ok (.iinc 3 1, 3) := by decide +kernel
theorem dX4_renew_32 : decode cX4_renew 32 = .ok (.goto (-15), 3) := by decide +kernel
theorem dX4_renew_35 : decode cX4_renew 35 = .ok (.return_, 1) := by decide +kernel
theorem dX4_holds_0 : decode cX4_holds 0 = .ok (.iload_n 1, 1) := by decide +kernel
theorem dX4_holds_1 : decode cX4_holds 1 = .ok (.ifCond .lt 21, 3) := by decide +kernel
theorem dX4_holds_4 : decode cX4_holds 4 = .ok (.iload_n 2, 1) := by decide +kernel
theorem dX4_holds_5 : decode cX4_holds 5 = .ok (.ifCond .lt 17, 3) := by decide +kernel
theorem dX4_holds_8 : decode cX4_holds 8 = .ok (.iload_n 1, 1) := by decide +kernel
theorem dX4_holds_9 : decode cX4_holds 9 = .ok (.aload_n 0, 1) := by decide +kernel
theorem dX4_holds_10 : decode cX4_holds 10 = .ok (.getfield 19, 3) := by decide +kernel
theorem dX4_holds_13 : decode cX4_holds 13 = .ok (.iload_n 2, 1) := by decide +kernel
theorem dX4_holds_14 : decode cX4_holds 14 = .ok (.isub, 1) := by decide +kernel
theorem dX4_holds_15 : decode cX4_holds 15 = .ok (.if_icmp .gt 7, 3) := by decide +kernel
theorem dX4_holds_18 : decode cX4_holds 18 = .ok (.iconst 1, 1) := by decide +kernel
theorem dX4_holds_19 : decode cX4_holds 19 = .ok (.goto 4, 3) := by decide +kernel
theorem dX4_holds_22 : decode cX4_holds 22 = .ok (.iconst 0, 1) := by decide +kernel
theorem dX4_holds_23 : decode cX4_holds 23 = .ok (.ireturn, 1) := by decide +kernel
theorem dX4_refusal_0 : decode cX4_refusal 0 = .ok (.aload_n 0, 1) := by decide +kernel
theorem dX4_refusal_1 : decode cX4_refusal 1 = .ok (.getfield 9, 3) := by decide +kernel
theorem dX4_refusal_4 : decode cX4_refusal 4 = .ok (.ifCond .ne 6, 3) := by decide +kernel
theorem dX4_refusal_7 : decode cX4_refusal 7 = .ok (.bipush (-11), 2) := by decide +kernel
theorem dX4_refusal_9 : decode cX4_refusal 9 = .ok (.ireturn, 1) := by decide +kernel
theorem dX4_refusal_10 : decode cX4_refusal 10 = .ok (.aload_n 0, 1) := by decide +kernel
theorem dX4_refusal_11 : decode cX4_refusal 11 = .ok (.getfield 15, 3) := by decide +kernel
theorem dX4_refusal_14 : decode cX4_refusal 14 = .ok (.iload_n 1, 1) := by decide +kernel
theorem dX4_refusal_15 : decode cX4_refusal 15 = .ok (.if_icmp .eq 6, 3) := by decide +kernel
theorem dX4_refusal_18 : decode cX4_refusal 18 = .ok (.bipush (-12), 2) := by decide +kernel
theorem dX4_refusal_20 : decode cX4_refusal 20 = .ok (.ireturn, 1) := by decide +kernel
theorem dX4_refusal_21 : decode cX4_refusal 21 = .ok (.aload_n 0, 1) := by decide +kernel
theorem dX4_refusal_22 : decode cX4_refusal 22 = .ok (.iload_n 2, 1) := by decide +kernel
theorem dX4_refusal_23 : decode cX4_refusal 23 = .ok (.iload_n 3, 1) := by decide +kernel
theorem dX4_refusal_24 : decode cX4_refusal 24 = .ok (.invokevirtual 26, 3) := by decide +kernel
theorem dX4_refusal_27 : decode cX4_refusal 27 = .ok (.ifCond .eq 7, 3) := by decide +kernel
theorem dX4_refusal_30 : decode cX4_refusal 30 = .ok (.iconst 0, 1) := by decide +kernel
theorem dX4_refusal_31 : decode cX4_refusal 31 = .ok (.goto 5, 3) := by decide +kernel
theorem dX4_refusal_34 : decode cX4_refusal 34 = .ok (.bipush (-13), 2) := by decide +kernel
theorem dX4_refusal_36 : decode cX4_refusal 36 = .ok (.ireturn, 1) := by decide +kernel
theorem dX4_put_0 : decode cX4_put 0 = .ok (.aload_n 0, 1) := by decide +kernel
theorem dX4_put_1 : decode cX4_put 1 = .ok (.getfield 15, 3) := by decide +kernel
theorem dX4_put_4 : decode cX4_put 4 = .ok (.tableswitch 66 0 2 #[28, 41, 54], 28) := by decide +kernel
theorem dX4_put_32 : decode cX4_put 32 = .ok (.aload_n 0, 1) := by decide +kernel
theorem dX4_put_33 : decode cX4_put 33 = .ok (.getfield 22, 3) := by decide +kernel
theorem dX4_put_36 : decode cX4_put 36 = .ok (.iload_n 1, 1) := by decide +kernel
theorem dX4_put_37 : decode cX4_put 37 = .ok (.lload_n 2, 1) := by decide +kernel
theorem dX4_put_38 : decode cX4_put 38 = .ok (.l2i, 1) := by decide +kernel
theorem dX4_put_39 : decode cX4_put 39 = .ok (.i2b, 1) := by decide +kernel
theorem dX4_put_40 : decode cX4_put 40 = .ok (.i2l, 1) := by decide +kernel
theorem dX4_put_41 : decode cX4_put 41 = .ok (.lastore, 1) := by decide +kernel
theorem dX4_put_42 : decode cX4_put 42 = .ok (.goto 35, 3) := by decide +kernel
theorem dX4_put_45 : decode cX4_put 45 = .ok (.aload_n 0, 1) := by decide +kernel
theorem dX4_put_46 : decode cX4_put 46 = .ok (.getfield 22, 3) := by decide +kernel
theorem dX4_put_49 : decode cX4_put 49 = .ok (.iload_n 1, 1) := by decide +kernel
theorem dX4_put_50 : decode cX4_put 50 = .ok (.lload_n 2, 1) := by decide +kernel
theorem dX4_put_51 : decode cX4_put 51 = .ok (.l2i, 1) := by decide +kernel
theorem dX4_put_52 : decode cX4_put 52 = .ok (.i2s, 1) := by decide +kernel
theorem dX4_put_53 : decode cX4_put 53 = .ok (.i2l, 1) := by decide +kernel
theorem dX4_put_54 : decode cX4_put 54 = .ok (.lastore, 1) := by decide +kernel
theorem dX4_put_55 : decode cX4_put 55 = .ok (.goto 22, 3) := by decide +kernel
theorem dX4_put_58 : decode cX4_put 58 = .ok (.aload_n 0, 1) := by decide +kernel
theorem dX4_put_59 : decode cX4_put 59 = .ok (.getfield 22, 3) := by decide +kernel
theorem dX4_put_62 : decode cX4_put 62 = .ok (.iload_n 1, 1) := by decide +kernel
theorem dX4_put_63 : decode cX4_put 63 = .ok (.lload_n 2, 1) := by decide +kernel
theorem dX4_put_64 : decode cX4_put 64 = .ok (.l2i, 1) := by decide +kernel
theorem dX4_put_65 : decode cX4_put 65 = .ok (.i2l, 1) := by decide +kernel
theorem dX4_put_66 : decode cX4_put 66 = .ok (.lastore, 1) := by decide +kernel
theorem dX4_put_67 : decode cX4_put 67 = .ok (.goto 10, 3) := by decide +kernel
theorem dX4_put_70 : decode cX4_put 70 = .ok (.aload_n 0, 1) := by decide +kernel
theorem dX4_put_71 : decode cX4_put 71 = .ok (.getfield 22, 3) := by decide +kernel
theorem dX4_put_74 : decode cX4_put 74 = .ok (.iload_n 1, 1) := by decide +kernel
theorem dX4_put_75 : decode cX4_put 75 = .ok (.lload_n 2, 1) := by decide +kernel
theorem dX4_put_76 : decode cX4_put 76 = .ok (.lastore, 1) := by decide +kernel
theorem dX4_put_77 : decode cX4_put 77 = .ok (.return_, 1) := by decide +kernel
theorem dX5_init_0 : decode cX5_init 0 = .ok (.aload_n 0, 1) := by decide +kernel
theorem dX5_init_1 : decode cX5_init 1 = .ok (.invokespecial 3, 3) := by decide +kernel
theorem dX5_init_4 : decode cX5_init 4 = .ok (.aload_n 0, 1) := by decide +kernel
theorem dX5_init_5 : decode cX5_init 5 = .ok (.sipush 160, 3) := by decide +kernel
theorem dX5_init_8 : decode cX5_init 8 = .ok (.newarray .char, 2) := by decide +kernel
theorem dX5_init_10 : decode cX5_init 10 = .ok (.putfield 9, 3) := by decide +kernel
theorem dX5_init_13 : decode cX5_init 13 = .ok (.aload_n 0, 1) := by decide +kernel
theorem dX5_init_14 : decode cX5_init 14 = .ok (.iconst 0, 1) := by decide +kernel
theorem dX5_init_15 : decode cX5_init 15 = .ok (.putfield 15, 3) := by decide +kernel
theorem dX5_init_18 : decode cX5_init 18 = .ok (.aload_n 0, 1) := by decide +kernel
theorem dX5_init_19 : decode cX5_init 19 = .ok (.iconst 0, 1) := by decide +kernel
theorem dX5_init_20 : decode cX5_init 20 = .ok (.putfield 19, 3) := by decide +kernel
theorem dX5_init_23 : decode cX5_init 23 = .ok (.aload_n 0, 1) := by decide +kernel
theorem dX5_init_24 : decode cX5_init 24 = .ok (.iconst 0, 1) := by decide +kernel
theorem dX5_init_25 : decode cX5_init 25 = .ok (.putfield 22, 3) := by decide +kernel
theorem dX5_init_28 : decode cX5_init 28 = .ok (.aload_n 0, 1) := by decide +kernel
theorem dX5_init_29 : decode cX5_init 29 = .ok (.iconst 0, 1) := by decide +kernel
theorem dX5_init_30 : decode cX5_init 30 = .ok (.putfield 25, 3) := by decide +kernel
theorem dX5_init_33 : decode cX5_init 33 = .ok (.return_, 1) := by decide +kernel
theorem dX5_readSigns_0 : decode cX5_readSigns 0 = .ok (.aload_n 0, 1) := by decide +kernel
theorem dX5_readSigns_1 : decode cX5_readSigns 1 = .ok (.invokevirtual 28, 3) := by decide +kernel
theorem dX5_readSigns_4 : decode cX5_readSigns 4 = .ok (.iconst 0, 1) := by decide +kernel
theorem dX5_readSigns_5 : decode cX5_readSigns 5 = .ok (.istore 5, 2) := by decide +kernel
theorem dX5_readSigns_7 : decode cX5_readSigns 7 = .ok (.iload 5, 2) := by decide +kernel
theorem dX5_readSigns_9 : decode cX5_readSigns 9 = .ok (.iload_n 3, 1) := by decide +kernel
theorem dX5_readSigns_10 : decode cX5_readSigns 10 = .ok (.if_icmp .ge 57, 3) := by decide +kernel
theorem dX5_readSigns_13 : decode cX5_readSigns 13 = .ok (.iload 5, 2) := by decide +kernel
theorem dX5_readSigns_15 : decode cX5_readSigns 15 = .ok (.aload 4, 2) := by decide +kernel
theorem dX5_readSigns_17 : decode cX5_readSigns 17 = .ok (.arraylength, 1) := by decide +kernel
theorem dX5_readSigns_18 : decode cX5_readSigns 18 = .ok (.if_icmp .ge 49, 3) := by decide +kernel
theorem dX5_readSigns_21 : decode cX5_readSigns 21 = .ok (.aload_n 0, 1) := by decide +kernel
theorem dX5_readSigns_22 : decode cX5_readSigns 22 = .ok (.invokevirtual 31, 3) := by decide +kernel
theorem dX5_readSigns_25 : decode cX5_readSigns 25 = .ok (.iconst (-1), 1) := by decide +kernel
theorem dX5_readSigns_26 : decode cX5_readSigns 26 = .ok (.if_icmp .eq 41, 3) := by decide +kernel
theorem dX5_readSigns_29 : decode cX5_readSigns 29 = .ok (.aload_n 1, 1) := by decide +kernel
theorem dX5_readSigns_30 : decode cX5_readSigns 30 = .ok (.aload_n 0, 1) := by decide +kernel
theorem dX5_readSigns_31 : decode cX5_readSigns 31 = .ok (.invokevirtual 31, 3) := by decide +kernel
theorem dX5_readSigns_34 : decode cX5_readSigns 34 = .ok (.i2c, 1) := by decide +kernel
theorem dX5_readSigns_35 : decode cX5_readSigns 35 = .ok (.invokevirtual 35, 3) := by decide +kernel
theorem dX5_readSigns_38 : decode cX5_readSigns 38 = .ok (.istore 6, 2) := by decide +kernel
theorem dX5_readSigns_40 : decode cX5_readSigns 40 = .ok (.iload 6, 2) := by decide +kernel
theorem dX5_readSigns_42 : decode cX5_readSigns 42 = .ok (.ifCond .ge 8, 3) := by decide +kernel
theorem dX5_readSigns_45 : decode cX5_readSigns 45 = .ok (.aload_n 0, 1) := by decide +kernel
theorem dX5_readSigns_46 : decode cX5_readSigns 46 = .ok (.invokevirtual 41, 3) := by decide +kernel
theorem dX5_readSigns_49 : decode cX5_readSigns 49 = .ok (.ireturn, 1) := by decide +kernel
theorem dX5_readSigns_50 : decode cX5_readSigns 50 = .ok (.aload 4, 2) := by decide +kernel
theorem dX5_readSigns_52 : decode cX5_readSigns 52 = .ok (.iload 5, 2) := by decide +kernel
theorem dX5_readSigns_54 : decode cX5_readSigns 54 = .ok (.iload 6, 2) := by decide +kernel
theorem dX5_readSigns_56 : decode cX5_readSigns 56 = .ok (.iastore, 1) := by decide +kernel
theorem dX5_readSigns_57 : decode cX5_readSigns 57 = .ok (.aload_n 0, 1) := by decide +kernel
theorem dX5_readSigns_58 : decode cX5_readSigns 58 = .ok (.invokevirtual 44, 3) := by decide +kernel
theorem dX5_readSigns_61 : decode cX5_readSigns 61 = .ok (.iinc 5 1, 3) := by decide +kernel
theorem dX5_readSigns_64 : decode cX5_readSigns 64 = .ok (.goto (-57), 3) := by decide +kernel
theorem dX5_readSigns_67 : decode cX5_readSigns 67 = .ok (.iload 5, 2) := by decide +kernel
theorem dX5_readSigns_69 : decode cX5_readSigns 69 = .ok (.iload_n 2, 1) := by decide +kernel
theorem dX5_readSigns_70 : decode cX5_readSigns 70 = .ok (.if_icmp .lt 11, 3) := by decide +kernel
theorem dX5_readSigns_73 : decode cX5_readSigns 73 = .ok (.aload_n 0, 1) := by decide +kernel
theorem dX5_readSigns_74 : decode cX5_readSigns 74 = .ok (.invokevirtual 31, 3) := by decide +kernel
theorem dX5_readSigns_77 : decode cX5_readSigns 77 = .ok (.iconst (-1), 1) := by decide +kernel
theorem dX5_readSigns_78 : decode cX5_readSigns 78 = .ok (.if_icmp .eq 10, 3) := by decide +kernel
theorem dX5_readSigns_81 : decode cX5_readSigns 81 = .ok (.aload_n 0, 1) := by decide +kernel
theorem dX5_readSigns_82 : decode cX5_readSigns 82 = .ok (.invokevirtual 41, 3) := by decide +kernel
theorem dX5_readSigns_85 : decode cX5_readSigns 85 = .ok (.goto 5, 3) := by decide +kernel
theorem dX5_readSigns_88 : decode cX5_readSigns 88 = .ok (.iload 5, 2) := by decide +kernel
theorem dX5_readSigns_90 : decode cX5_readSigns 90 = .ok (.ireturn, 1) := by decide +kernel
theorem dX5_readStreet_0 : decode cX5_readStreet 0 = .ok (.aload_n 0, 1) := by decide +kernel
theorem dX5_readStreet_1 : decode cX5_readStreet 1 = .ok (.invokevirtual 28, 3) := by decide +kernel
theorem dX5_readStreet_4 : decode cX5_readStreet 4 = .ok (.iconst 1, 1) := by decide +kernel
theorem dX5_readStreet_5 : decode cX5_readStreet 5 = .ok (.istore_n 2, 1) := by decide +kernel
theorem dX5_readStreet_6 : decode cX5_readStreet 6 = .ok (.iload_n 2, 1) := by decide +kernel
theorem dX5_readStreet_7 : decode cX5_readStreet 7 = .ok (.bipush 9, 2) := by decide +kernel
theorem dX5_readStreet_9 : decode cX5_readStreet 9 = .ok (.if_icmp .gt 52, 3) := by decide +kernel
theorem dX5_readStreet_12 : decode cX5_readStreet 12 = .ok (.aload_n 0, 1) := by decide +kernel
theorem dX5_readStreet_13 : decode cX5_readStreet 13 = .ok (.aload_n 1, 1) := by decide +kernel
theorem dX5_readStreet_14 : decode cX5_readStreet 14 = .ok (.invokevirtual 47, 3) := by decide +kernel
theorem dX5_readStreet_17 : decode cX5_readStreet 17 = .ok (.ifCond .ne 8, 3) := by decide +kernel
theorem dX5_readStreet_20 : decode cX5_readStreet 20 = .ok (.aload_n 0, 1) := by decide +kernel
theorem dX5_readStreet_21 : decode cX5_readStreet 21 = .ok (.getfield 25, 3) := by decide +kernel
theorem dX5_readStreet_24 : decode cX5_readStreet 24 = .ok (.ireturn, 1) := by decide +kernel
theorem dX5_readStreet_25 : decode cX5_readStreet 25 = .ok (.aload_n 0, 1) := by decide +kernel
theorem dX5_readStreet_26 : decode cX5_readStreet 26 = .ok (.invokevirtual 31, 3) := by decide +kernel
theorem dX5_readStreet_29 : decode cX5_readStreet 29 = .ok (.iconst (-1), 1) := by decide +kernel
theorem dX5_readStreet_30 : decode cX5_readStreet 30 = .ok (.if_icmp .ne 5, 3) := by decide +kernel
theorem dX5_readStreet_33 : decode cX5_readStreet 33 = .ok (.iload_n 2, 1) := by decide +kernel
theorem dX5_readStreet_34 : decode cX5_readStreet 34 = .ok (.ireturn, 1) := by decide +kernel
theorem dX5_readStreet_35 : decode cX5_readStreet 35 = .ok (.iload_n 2, 1) := by decide +kernel
theorem dX5_readStreet_36 : decode cX5_readStreet 36 = .ok (.bipush 9, 2) := by decide +kernel
theorem dX5_readStreet_38 : decode cX5_readStreet 38 = .ok (.if_icmp .ge 17, 3) := by decide +kernel
theorem dX5_readStreet_41 : decode cX5_readStreet 41 = .ok (.aload_n 0, 1) := by decide +kernel
theorem dX5_readStreet_42 : decode cX5_readStreet 42 = .ok (.bipush 44, 2) := by decide +kernel
theorem dX5_readStreet_44 : decode cX5_readStreet 44 = .ok (.invokevirtual 51, 3) := by decide +kernel
theorem dX5_readStreet_47 : decode cX5_readStreet 47 = .ok (.ifCond .ne 8, 3) := by decide +kernel
theorem dX5_readStreet_50 : decode cX5_readStreet 50 = .ok (.aload_n 0, 1) := by decide +kernel
theorem dX5_readStreet_51 : decode cX5_readStreet 51 = .ok (.getfield 25, 3) := by decide +kernel
theorem dX5_readStreet_54 : decode cX5_readStreet 54 = .ok (.ireturn, 1) := by decide +kernel
theorem dX5_readStreet_55 : decode cX5_readStreet 55 = .ok (.iinc 2 1, 3) := by decide +kernel
theorem dX5_readStreet_58 : decode cX5_readStreet 58 = .ok (.goto (-52), 3) := by decide +kernel
theorem dX5_readStreet_61 : decode cX5_readStreet 61 = .ok (.aload_n 0, 1) := by decide +kernel
theorem dX5_readStreet_62 : decode cX5_readStreet 62 = .ok (.invokevirtual 41, 3) := by decide +kernel
theorem dX5_readStreet_65 : decode cX5_readStreet 65 = .ok (.ireturn, 1) := by decide +kernel
theorem dX5_readClock_0 : decode cX5_readClock 0 = .ok (.aload_n 0, 1) := by decide +kernel
theorem dX5_readClock_1 : decode cX5_readClock 1 = .ok (.invokevirtual 31, 3) := by decide +kernel
theorem dX5_readClock_4 : decode cX5_readClock 4 = .ok (.iconst (-1), 1) := by decide +kernel
theorem dX5_readClock_5 : decode cX5_readClock 5 = .ok (.if_icmp .ne 7, 3) := by decide +kernel
theorem dX5_readClock_8 : decode cX5_readClock 8 = .ok (.iconst (-1), 1) := by decide +kernel
theorem dX5_readClock_9 : decode cX5_readClock 9 = .ok (.goto 13, 3) := by decide +kernel
theorem dX5_readClock_12 : decode cX5_readClock 12 = .ok (.ldc 55, 2) := by decide +kernel
theorem dX5_readClock_14 : decode cX5_readClock 14 = .ok (.aload_n 0, 1) := by decide +kernel
theorem dX5_readClock_15 : decode cX5_readClock 15 = .ok (.invokevirtual 31, 3) := by decide +kernel
theorem dX5_readClock_18 : decode cX5_readClock 18 = .ok (.i2c, 1) := by decide +kernel
theorem dX5_readClock_19 : decode cX5_readClock 19 = .ok (.invokevirtual 35, 3) := by decide +kernel
theorem dX5_readClock_22 : decode cX5_readClock 22 = .ok (.istore_n 2, 1) := by decide +kernel
theorem dX5_readClock_23 : decode cX5_readClock 23 = .ok (.iload_n 2, 1) := by decide +kernel
theorem dX5_readClock_24 : decode cX5_readClock 24 = .ok (.ifCond .ge 12, 3) := by decide +kernel
theorem dX5_readClock_27 : decode cX5_readClock 27 = .ok (.aload_n 0, 1) := by decide +kernel
theorem dX5_readClock_28 : decode cX5_readClock 28 = .ok (.aload_n 0, 1) := by decide +kernel
theorem dX5_readClock_29 : decode cX5_readClock 29 = .ok (.invokevirtual 41, 3) := by decide +kernel
theorem dX5_readClock_32 : decode cX5_readClock 32 = .ok (.invokevirtual 57, 3) := by decide +kernel
theorem dX5_readClock_35 : decode cX5_readClock 35 = .ok (.ireturn, 1) := by decide +kernel
theorem dX5_readClock_36 : decode cX5_readClock 36 = .ok (.aload_n 0, 1) := by decide +kernel
theorem dX5_readClock_37 : decode cX5_readClock 37 = .ok (.invokevirtual 44, 3) := by decide +kernel
theorem dX5_readClock_40 : decode cX5_readClock 40 = .ok (.aload_n 0, 1) := by decide +kernel
theorem dX5_readClock_41 : decode cX5_readClock 41 = .ok (.iconst 0, 1) := by decide +kernel
theorem dX5_readClock_42 : decode cX5_readClock 42 = .ok (.sipush 719, 3) := by decide +kernel
theorem dX5_readClock_45 : decode cX5_readClock 45 = .ok (.invokevirtual 61, 3) := by decide +kernel
theorem dX5_readClock_48 : decode cX5_readClock 48 = .ok (.istore_n 3, 1) := by decide +kernel
theorem dX5_readClock_49 : decode cX5_readClock 49 = .ok (.iload_n 3, 1) := by decide +kernel
theorem dX5_readClock_50 : decode cX5_readClock 50 = .ok (.ifCond .ge 5, 3) := by decide +kernel
theorem dX5_readClock_53 : decode cX5_readClock 53 = .ok (.iconst 0, 1) := by decide +kernel
theorem dX5_readClock_54 : decode cX5_readClock 54 = .ok (.ireturn, 1) := by decide +kernel
theorem dX5_readClock_55 : decode cX5_readClock 55 = .ok (.iconst 0, 1) := by decide +kernel
theorem dX5_readClock_56 : decode cX5_readClock 56 = .ok (.istore 4, 2) := by decide +kernel
theorem dX5_readClock_58 : decode cX5_readClock 58 = .ok (.aload_n 0, 1) := by decide +kernel
theorem dX5_readClock_59 : decode cX5_readClock 59 = .ok (.invokevirtual 31, 3) := by decide +kernel
theorem dX5_readClock_62 : decode cX5_readClock 62 = .ok (.bipush 43, 2) := by decide +kernel
theorem dX5_readClock_64 : decode cX5_readClock 64 = .ok (.if_icmp .eq 12, 3) := by decide +kernel
theorem dX5_readClock_67 : decode cX5_readClock 67 = .ok (.aload_n 0, 1) := by decide +kernel
theorem dX5_readClock_68 : decode cX5_readClock 68 = .ok (.invokevirtual 31, 3) := by decide +kernel
theorem dX5_readClock_71 : decode cX5_readClock 71 = .ok (.bipush 45, 2) := by decide +kernel
theorem dX5_readClock_73 : decode cX5_readClock 73 = .ok (.if_icmp .ne 46, 3) := by decide +kernel
theorem dX5_readClock_76 : decode cX5_readClock 76 = .ok (.aload_n 0, 1) := by decide +kernel
theorem dX5_readClock_77 : decode cX5_readClock 77 = .ok (.invokevirtual 31, 3) := by decide +kernel
theorem dX5_readClock_80 : decode cX5_readClock 80 = .ok (.bipush 43, 2) := by decide +kernel
theorem dX5_readClock_82 : decode cX5_readClock 82 = .ok (.if_icmp .ne 7, 3) := by decide +kernel
theorem dX5_readClock_85 : decode cX5_readClock 85 = .ok (.iconst 1, 1) := by decide +kernel
theorem dX5_readClock_86 : decode cX5_readClock 86 = .ok (.goto 4, 3) := by decide +kernel
theorem dX5_readClock_89 : decode cX5_readClock 89 = .ok (.iconst (-1), 1) := by decide +kernel
theorem dX5_readClock_90 : decode cX5_readClock 90 = .ok (.istore 5, 2) := by decide +kernel
theorem dX5_readClock_92 : decode cX5_readClock 92 = .ok (.aload_n 0, 1) := by decide +kernel
theorem dX5_readClock_93 : decode cX5_readClock 93 = .ok (.invokevirtual 44, 3) := by decide +kernel
theorem dX5_readClock_96 : decode cX5_readClock 96 = .ok (.aload_n 0, 1) := by decide +kernel
theorem dX5_readClock_97 : decode cX5_readClock 97 = .ok (.iconst 0, 1) := by decide +kernel
theorem dX5_readClock_98 : decode cX5_readClock 98 = .ok (.bipush 30, 2) := by decide +kernel
theorem dX5_readClock_100 : decode cX5_readClock 100 = .ok (.invokevirtual 61, 3) := by decide +kernel
theorem dX5_readClock_103 : decode cX5_readClock 103 = .ok (.istore 4, 2) := by decide +kernel
theorem dX5_readClock_105 : decode cX5_readClock 105 = .ok (.iload 4, 2) := by decide +kernel
theorem dX5_readClock_107 : decode cX5_readClock 107 = .ok (.ifCond .ge 5, 3) := by decide +kernel
theorem dX5_readClock_110 : decode cX5_readClock 110 = .ok (.iconst 0, 1) := by decide +kernel
theorem dX5_readClock_111 : decode cX5_readClock 111 = .ok (.ireturn, 1) := by decide +kernel
theorem dX5_readClock_112 : decode cX5_readClock 112 = .ok (.iload 4, 2) := by decide +kernel
theorem dX5_readClock_114 : decode cX5_readClock 114 = .ok (.iload 5, 2) := by decide +kernel
theorem dX5_readClock_116 : decode cX5_readClock 116 = .ok (.imul, 1) := by decide +kernel
theorem dX5_readClock_117 : decode cX5_readClock 117 = .ok (.istore 4, 2) := by decide +kernel
theorem dX5_readClock_119 : decode cX5_readClock 119 = .ok (.iconst 0, 1) := by decide +kernel
theorem dX5_readClock_120 : decode cX5_readClock 120 = .ok (.istore 5, 2) := by decide +kernel
theorem dX5_readClock_122 : decode cX5_readClock 122 = .ok (.aload_n 0, 1) := by decide +kernel
theorem dX5_readClock_123 : decode cX5_readClock 123 = .ok (.invokevirtual 31, 3) := by decide +kernel
theorem dX5_readClock_126 : decode cX5_readClock 126 = .ok (.bipush 42, 2) := by decide +kernel
theorem dX5_readClock_128 : decode cX5_readClock 128 = .ok (.if_icmp .ne 23, 3) := by decide +kernel
theorem dX5_readClock_131 : decode cX5_readClock 131 = .ok (.aload_n 0, 1) := by decide +kernel
theorem dX5_readClock_132 : decode cX5_readClock 132 = .ok (.invokevirtual 44, 3) := by decide +kernel
theorem dX5_readClock_135 : decode cX5_readClock 135 = .ok (.aload_n 0, 1) := by decide +kernel
theorem dX5_readClock_136 : decode cX5_readClock 136 = .ok (.iconst 0, 1) := by decide +kernel
theorem dX5_readClock_137 : decode cX5_readClock 137 = .ok (.bipush 99, 2) := by decide +kernel
theorem dX5_readClock_139 : decode cX5_readClock 139 = .ok (.invokevirtual 61, 3) := by decide +kernel
theorem dX5_readClock_142 : decode cX5_readClock 142 = .ok (.istore 5, 2) := by decide +kernel
theorem dX5_readClock_144 : decode cX5_readClock 144 = .ok (.iload 5, 2) := by decide +kernel
theorem dX5_readClock_146 : decode cX5_readClock 146 = .ok (.ifCond .ge 5, 3) := by decide +kernel
theorem dX5_readClock_149 : decode cX5_readClock 149 = .ok (.iconst 0, 1) := by decide +kernel
theorem dX5_readClock_150 : decode cX5_readClock 150 = .ok (.ireturn, 1) := by decide +kernel
theorem dX5_readClock_151 : decode cX5_readClock 151 = .ok (.aload_n 1, 1) := by decide +kernel
theorem dX5_readClock_152 : decode cX5_readClock 152 = .ok (.iload_n 2, 1) := by decide +kernel
theorem dX5_readClock_153 : decode cX5_readClock 153 = .ok (.iload_n 3, 1) := by decide +kernel
theorem dX5_readClock_154 : decode cX5_readClock 154 = .ok (.iload 4, 2) := by decide +kernel
theorem dX5_readClock_156 : decode cX5_readClock 156 = .ok (.iload 5, 2) := by decide +kernel
theorem dX5_readClock_158 : decode cX5_readClock 158 = .ok (.invokevirtual 65, 3) := by decide +kernel
theorem dX5_readClock_161 : decode cX5_readClock 161 = .ok (.pop, 1) := by decide +kernel
theorem dX5_readClock_162 : decode cX5_readClock 162 = .ok (.iconst 1, 1) := by decide +kernel
theorem dX5_readClock_163 : decode cX5_readClock 163 = .ok (.ireturn, 1) := by decide +kernel
theorem dX5_readDay_0 : decode cX5_readDay 0 = .ok (.aload_n 0, 1) := by decide +kernel
theorem dX5_readDay_1 : decode cX5_readDay 1 = .ok (.invokevirtual 28, 3) := by decide +kernel
theorem dX5_readDay_4 : decode cX5_readDay 4 = .ok (.aload_n 1, 1) := by decide +kernel
theorem dX5_readDay_5 : decode cX5_readDay 5 = .ok (.iconst 0, 1) := by decide +kernel
theorem dX5_readDay_6 : decode cX5_readDay 6 = .ok (.putfield 71, 3) := by decide +kernel
theorem dX5_readDay_9 : decode cX5_readDay 9 = .ok (.iconst 1, 1) := by decide +kernel
theorem dX5_readDay_10 : decode cX5_readDay 10 = .ok (.istore_n 2, 1) := by decide +kernel
theorem dX5_readDay_11 : decode cX5_readDay 11 = .ok (.iload_n 2, 1) := by decide +kernel
theorem dX5_readDay_12 : decode cX5_readDay 12 = .ok (.bipush 80, 2) := by decide +kernel
theorem dX5_readDay_14 : decode cX5_readDay 14 = .ok (.if_icmp .gt 46, 3) := by decide +kernel
theorem dX5_readDay_17 : decode cX5_readDay 17 = .ok (.aload_n 0, 1) := by decide +kernel
theorem dX5_readDay_18 : decode cX5_readDay 18 = .ok (.aload_n 1, 1) := by decide +kernel
theorem dX5_readDay_19 : decode cX5_readDay 19 = .ok (.invokevirtual 74, 3) := by decide +kernel
theorem dX5_readDay_22 : decode cX5_readDay 22 = .ok (.ifCond .ne 8, 3) := by decide +kernel
theorem dX5_readDay_25 : decode cX5_readDay 25 = .ok (.aload_n 0, 1) := by decide +kernel
theorem dX5_readDay_26 : decode cX5_readDay 26 = .ok (.getfield 25, 3) := by decide +kernel
theorem dX5_readDay_29 : decode cX5_readDay 29 = .ok (.ireturn, 1) := by decide +kernel
theorem dX5_readDay_30 : decode cX5_readDay 30 = .ok (.aload_n 0, 1) := by decide +kernel
theorem dX5_readDay_31 : decode cX5_readDay 31 = .ok (.invokevirtual 31, 3) := by decide +kernel
theorem dX5_readDay_34 : decode cX5_readDay 34 = .ok (.iconst (-1), 1) := by decide +kernel
theorem dX5_readDay_35 : decode cX5_readDay 35 = .ok (.if_icmp .ne 5, 3) := by decide +kernel
theorem dX5_readDay_38 : decode cX5_readDay 38 = .ok (.iload_n 2, 1) := by decide +kernel
theorem dX5_readDay_39 : decode cX5_readDay 39 = .ok (.ireturn, 1) := by decide +kernel
theorem dX5_readDay_40 : decode cX5_readDay 40 = .ok (.aload_n 0, 1) := by decide +kernel
theorem dX5_readDay_41 : decode cX5_readDay 41 = .ok (.bipush 59, 2) := by decide +kernel
theorem dX5_readDay_43 : decode cX5_readDay 43 = .ok (.invokevirtual 51, 3) := by decide +kernel
theorem dX5_readDay_46 : decode cX5_readDay 46 = .ok (.ifCond .ne 8, 3) := by decide +kernel
theorem dX5_readDay_49 : decode cX5_readDay 49 = .ok (.aload_n 0, 1) := by decide +kernel
theorem dX5_readDay_50 : decode cX5_readDay 50 = .ok (.getfield 25, 3) := by decide +kernel
theorem dX5_readDay_53 : decode cX5_readDay 53 = .ok (.ireturn, 1) := by decide +kernel
theorem dX5_readDay_54 : decode cX5_readDay 54 = .ok (.iinc 2 1, 3) := by decide +kernel
theorem dX5_readDay_57 : decode cX5_readDay 57 = .ok (.goto (-46), 3) := by decide +kernel
theorem dX5_readDay_60 : decode cX5_readDay 60 = .ok (.aload_n 0, 1) := by decide +kernel
theorem dX5_readDay_61 : decode cX5_readDay 61 = .ok (.invokevirtual 41, 3) := by decide +kernel
theorem dX5_readDay_64 : decode cX5_readDay 64 = .ok (.ireturn, 1) := by decide +kernel
theorem dX5_readAct_0 : decode cX5_readAct 0 = .ok (.aload_n 0, 1) := by decide +kernel
theorem dX5_readAct_1 : decode cX5_readAct 1 = .ok (.invokevirtual 31, 3) := by decide +kernel
theorem dX5_readAct_4 : decode cX5_readAct 4 = .ok (.istore_n 2, 1) := by decide +kernel
theorem dX5_readAct_5 : decode cX5_readAct 5 = .ok (.iload_n 2, 1) := by decide +kernel
theorem dX5_readAct_6 : decode cX5_readAct 6 = .ok (.lookupswitch 92 #[(98, 55), (104, 42), (116, 78), (119, 65)], 42) := by decide +kernel
theorem dX5_readAct_48 : decode cX5_readAct 48 = .ok (.aload_n 0, 1) := by decide +kernel
theorem dX5_readAct_49 : decode cX5_readAct 49 = .ok (.invokevirtual 44, 3) := by decide +kernel
theorem dX5_readAct_52 : decode cX5_readAct 52 = .ok (.aload_n 1, 1) := by decide +kernel
theorem dX5_readAct_53 : decode cX5_readAct 53 = .ok (.iconst 4, 1) := by decide +kernel
theorem dX5_readAct_54 : decode cX5_readAct 54 = .ok (.iconst 0, 1) := by decide +kernel
theorem dX5_readAct_55 : decode cX5_readAct 55 = .ok (.iconst 0, 1) := by decide +kernel
theorem dX5_readAct_56 : decode cX5_readAct 56 = .ok (.invokevirtual 78, 3) := by decide +kernel
theorem dX5_readAct_59 : decode cX5_readAct 59 = .ok (.iconst 1, 1) := by decide +kernel
theorem dX5_readAct_60 : decode cX5_readAct 60 = .ok (.ireturn, 1) := by decide +kernel
theorem dX5_readAct_61 : decode cX5_readAct 61 = .ok (.aload_n 0, 1) := by decide +kernel
theorem dX5_readAct_62 : decode cX5_readAct 62 = .ok (.invokevirtual 44, 3) := by decide +kernel
theorem dX5_readAct_65 : decode cX5_readAct 65 = .ok (.aload_n 0, 1) := by decide +kernel
theorem dX5_readAct_66 : decode cX5_readAct 66 = .ok (.aload_n 1, 1) := by decide +kernel
theorem dX5_readAct_67 : decode cX5_readAct 67 = .ok (.invokevirtual 81, 3) := by decide +kernel
theorem dX5_readAct_70 : decode cX5_readAct 70 = .ok (.ireturn, 1) := by decide +kernel
theorem dX5_readAct_71 : decode cX5_readAct 71 = .ok (.aload_n 0, 1) := by decide +kernel
theorem dX5_readAct_72 : decode cX5_readAct 72 = .ok (.invokevirtual 44, 3) := by decide +kernel
theorem dX5_readAct_75 : decode cX5_readAct 75 = .ok (.aload_n 0, 1) := by decide +kernel
theorem dX5_readAct_76 : decode cX5_readAct 76 = .ok (.aload_n 1, 1) := by decide +kernel
theorem dX5_readAct_77 : decode cX5_readAct 77 = .ok (.iconst 0, 1) := by decide +kernel
theorem dX5_readAct_78 : decode cX5_readAct 78 = .ok (.bipush 99, 2) := by decide +kernel
theorem dX5_readAct_80 : decode cX5_readAct 80 = .ok (.invokevirtual 84, 3) := by decide +kernel
theorem dX5_readAct_83 : decode cX5_readAct 83 = .ok (.ireturn, 1) := by decide +kernel
theorem dX5_readAct_84 : decode cX5_readAct 84 = .ok (.aload_n 0, 1) := by decide +kernel
theorem dX5_readAct_85 : decode cX5_readAct 85 = .ok (.invokevirtual 44, 3) := by decide +kernel
theorem dX5_readAct_88 : decode cX5_readAct 88 = .ok (.aload_n 0, 1) := by decide +kernel
theorem dX5_readAct_89 : decode cX5_readAct 89 = .ok (.aload_n 1, 1) := by decide +kernel
theorem dX5_readAct_90 : decode cX5_readAct 90 = .ok (.iconst 1, 1) := by decide +kernel
theorem dX5_readAct_91 : decode cX5_readAct 91 = .ok (.sipush 719, 3) := by decide +kernel
theorem dX5_readAct_94 : decode cX5_readAct 94 = .ok (.invokevirtual 84, 3) := by decide +kernel
theorem dX5_readAct_97 : decode cX5_readAct 97 = .ok (.ireturn, 1) := by decide +kernel
theorem dX5_readAct_98 : decode cX5_readAct 98 = .ok (.aload_n 0, 1) := by decide +kernel
theorem dX5_readAct_99 : decode cX5_readAct 99 = .ok (.aload_n 0, 1) := by decide +kernel
theorem dX5_readAct_100 : decode cX5_readAct 100 = .ok (.invokevirtual 41, 3) := by decide +kernel
theorem dX5_readAct_103 : decode cX5_readAct 103 = .ok (.invokevirtual 57, 3) := by decide +kernel
theorem dX5_readAct_106 : decode cX5_readAct 106 = .ok (.ireturn, 1) := by decide +kernel
theorem dX5_readBreath_0 : decode cX5_readBreath 0 = .ok (.aload_n 0, 1) := by decide +kernel
theorem dX5_readBreath_1 : decode cX5_readBreath 1 = .ok (.iconst 0, 1) := by decide +kernel
theorem dX5_readBreath_2 : decode cX5_readBreath 2 = .ok (.ldc 88, 2) := by decide +kernel
theorem dX5_readBreath_4 : decode cX5_readBreath 4 = .ok (.invokevirtual 61, 3) := by decide +kernel
theorem dX5_readBreath_7 : decode cX5_readBreath 7 = .ok (.istore_n 2, 1) := by decide +kernel
theorem dX5_readBreath_8 : decode cX5_readBreath 8 = .ok (.iload_n 2, 1) := by decide +kernel
theorem dX5_readBreath_9 : decode cX5_readBreath 9 = .ok (.ifCond .ge 5, 3) := by decide +kernel
theorem dX5_readBreath_12 : decode cX5_readBreath 12 = .ok (.iconst 0, 1) := by decide +kernel
theorem dX5_readBreath_13 : decode cX5_readBreath 13 = .ok (.ireturn, 1) := by decide +kernel
theorem dX5_readBreath_14 : decode cX5_readBreath 14 = .ok (.aload_n 1, 1) := by decide +kernel
theorem dX5_readBreath_15 : decode cX5_readBreath 15 = .ok (.iconst 3, 1) := by decide +kernel
theorem dX5_readBreath_16 : decode cX5_readBreath 16 = .ok (.iload_n 2, 1) := by decide +kernel
theorem dX5_readBreath_17 : decode cX5_readBreath 17 = .ok (.iconst 0, 1) := by decide +kernel
theorem dX5_readBreath_18 : decode cX5_readBreath 18 = .ok (.invokevirtual 78, 3) := by decide +kernel
theorem dX5_readBreath_21 : decode cX5_readBreath 21 = .ok (.iconst 1, 1) := by decide +kernel
theorem dX5_readBreath_22 : decode cX5_readBreath 22 = .ok (.ireturn, 1) := by decide +kernel
theorem dX5_readByClock_0 : decode cX5_readByClock 0 = .ok (.aload_n 0, 1) := by decide +kernel
theorem dX5_readByClock_1 : decode cX5_readByClock 1 = .ok (.invokevirtual 31, 3) := by decide +kernel
theorem dX5_readByClock_4 : decode cX5_readByClock 4 = .ok (.invokestatic 89, 3) := by decide +kernel
theorem dX5_readByClock_7 : decode cX5_readByClock 7 = .ok (.ifCond .ne 12, 3) := by decide +kernel
theorem dX5_readByClock_10 : decode cX5_readByClock 10 = .ok (.aload_n 0, 1) := by decide +kernel
theorem dX5_readByClock_11 : decode cX5_readByClock 11 = .ok (.aload_n 0, 1) := by decide +kernel
theorem dX5_readByClock_12 : decode cX5_readByClock 12 = .ok (.invokevirtual 41, 3) := by decide +kernel
theorem dX5_readByClock_15 : decode cX5_readByClock 15 = .ok (.invokevirtual 57, 3) := by decide +kernel
theorem dX5_readByClock_18 : decode cX5_readByClock 18 = .ok (.ireturn, 1) := by decide +kernel
theorem dX5_readByClock_19 : decode cX5_readByClock 19 = .ok (.aload_n 0, 1) := by decide +kernel
theorem dX5_readByClock_20 : decode cX5_readByClock 20 = .ok (.invokevirtual 31, 3) := by decide +kernel
theorem dX5_readByClock_23 : decode cX5_readByClock 23 = .ok (.bipush 48, 2) := by decide +kernel
theorem dX5_readByClock_25 : decode cX5_readByClock 25 = .ok (.isub, 1) := by decide +kernel
theorem dX5_readByClock_26 : decode cX5_readByClock 26 = .ok (.istore 4, 2) := by decide +kernel
theorem dX5_readByClock_28 : decode cX5_readByClock 28 = .ok (.aload_n 0, 1) := by decide +kernel
theorem dX5_readByClock_29 : decode cX5_readByClock 29 = .ok (.invokevirtual 44, 3) := by decide +kernel
theorem dX5_readByClock_32 : decode cX5_readByClock 32 = .ok (.aload_n 0, 1) := by decide +kernel
theorem dX5_readByClock_33 : decode cX5_readByClock 33 = .ok (.bipush 43, 2) := by decide +kernel
theorem dX5_readByClock_35 : decode cX5_readByClock 35 = .ok (.invokevirtual 51, 3) := by decide +kernel
theorem dX5_readByClock_38 : decode cX5_readByClock 38 = .ok (.ifCond .ne 5, 3) := by decide +kernel
theorem dX5_readByClock_41 : decode cX5_readByClock 41 = .ok (.iconst 0, 1) := by decide +kernel
theorem dX5_readByClock_42 : decode cX5_readByClock 42 = .ok (.ireturn, 1) := by decide +kernel
theorem dX5_readByClock_43 : decode cX5_readByClock 43 = .ok (.aload_n 0, 1) := by decide +kernel
theorem dX5_readByClock_44 : decode cX5_readByClock 44 = .ok (.iconst 1, 1) := by decide +kernel
theorem dX5_readByClock_45 : decode cX5_readByClock 45 = .ok (.iload_n 3, 1) := by decide +kernel
theorem dX5_readByClock_46 : decode cX5_readByClock 46 = .ok (.invokevirtual 61, 3) := by decide +kernel
theorem dX5_readByClock_49 : decode cX5_readByClock 49 = .ok (.istore 5, 2) := by decide +kernel
theorem dX5_readByClock_51 : decode cX5_readByClock 51 = .ok (.iload 5, 2) := by decide +kernel
theorem dX5_readByClock_53 : decode cX5_readByClock 53 = .ok (.ifCond .ge 5, 3) := by decide +kernel
theorem dX5_readByClock_56 : decode cX5_readByClock 56 = .ok (.iconst 0, 1) := by decide +kernel
theorem dX5_readByClock_57 : decode cX5_readByClock 57 = .ok (.ireturn, 1) := by decide +kernel
theorem dX5_readByClock_58 : decode cX5_readByClock 58 = .ok (.aload_n 1, 1) := by decide +kernel
theorem dX5_readByClock_59 : decode cX5_readByClock 59 = .ok (.iload_n 2, 1) := by decide +kernel
theorem dX5_readByClock_60 : decode cX5_readByClock 60 = .ok (.iload 4, 2) := by decide +kernel
theorem dX5_readByClock_62 : decode cX5_readByClock 62 = .ok (.iload 5, 2) := by decide +kernel
theorem dX5_readByClock_64 : decode cX5_readByClock 64 = .ok (.invokevirtual 78, 3) := by decide +kernel
theorem dX5_readByClock_67 : decode cX5_readByClock 67 = .ok (.iconst 1, 1) := by decide +kernel
theorem dX5_readByClock_68 : decode cX5_readByClock 68 = .ok (.ireturn, 1) := by decide +kernel
theorem dX5_rewind_0 : decode cX5_rewind 0 = .ok (.aload_n 0, 1) := by decide +kernel
theorem dX5_rewind_1 : decode cX5_rewind 1 = .ok (.iconst 0, 1) := by decide +kernel
theorem dX5_rewind_2 : decode cX5_rewind 2 = .ok (.putfield 19, 3) := by decide +kernel
theorem dX5_rewind_5 : decode cX5_rewind 5 = .ok (.aload_n 0, 1) := by decide +kernel
theorem dX5_rewind_6 : decode cX5_rewind 6 = .ok (.iconst 0, 1) := by decide +kernel
theorem dX5_rewind_7 : decode cX5_rewind 7 = .ok (.putfield 22, 3) := by decide +kernel
theorem dX5_rewind_10 : decode cX5_rewind 10 = .ok (.aload_n 0, 1) := by decide +kernel
theorem dX5_rewind_11 : decode cX5_rewind 11 = .ok (.iconst 0, 1) := by decide +kernel
theorem dX5_rewind_12 : decode cX5_rewind 12 = .ok (.putfield 25, 3) := by decide +kernel
theorem dX5_rewind_15 : decode cX5_rewind 15 = .ok (.return_, 1) := by decide +kernel
theorem dX5_next_0 : decode cX5_next 0 = .ok (.aload_n 0, 1) := by decide +kernel
theorem dX5_next_1 : decode cX5_next 1 = .ok (.getfield 19, 3) := by decide +kernel
theorem dX5_next_4 : decode cX5_next 4 = .ok (.aload_n 0, 1) := by decide +kernel
theorem dX5_next_5 : decode cX5_next 5 = .ok (.getfield 15, 3) := by decide +kernel
theorem dX5_next_8 : decode cX5_next 8 = .ok (.if_icmp .ge 30, 3) := by decide +kernel
theorem dX5_next_11 : decode cX5_next 11 = .ok (.aload_n 0, 1) := by decide +kernel
theorem dX5_next_12 : decode cX5_next 12 = .ok (.getfield 9, 3) := by decide +kernel
theorem dX5_next_15 : decode cX5_next 15 = .ok (.aload_n 0, 1) := by decide +kernel
theorem dX5_next_16 : decode cX5_next 16 = .ok (.getfield 19, 3) := by decide +kernel
theorem dX5_next_19 : decode cX5_next 19 = .ok (.caload, 1) := by decide +kernel
theorem dX5_next_20 : decode cX5_next 20 = .ok (.bipush 32, 2) := by decide +kernel
theorem dX5_next_22 : decode cX5_next 22 = .ok (.if_icmp .ne 16, 3) := by decide +kernel
theorem dX5_next_25 : decode cX5_next 25 = .ok (.aload_n 0, 1) := by decide +kernel
theorem dX5_next_26 : decode cX5_next 26 = .ok (.dup, 1) := by decide +kernel
theorem dX5_next_27 : decode cX5_next 27 = .ok (.getfield 19, 3) := by decide +kernel
theorem dX5_next_30 : decode cX5_next 30 = .ok (.iconst 1, 1) := by decide +kernel
theorem dX5_next_31 : decode cX5_next 31 = .ok (.iadd, 1) := by decide +kernel
theorem dX5_next_32 : decode cX5_next 32 = .ok (.putfield 19, 3) := by decide +kernel
theorem dX5_next_35 : decode cX5_next 35 = .ok (.goto (-35), 3) := by decide +kernel
theorem dX5_next_38 : decode cX5_next 38 = .ok (.aload_n 0, 1) := by decide +kernel
theorem dX5_next_39 : decode cX5_next 39 = .ok (.getfield 19, 3) := by decide +kernel
theorem dX5_next_42 : decode cX5_next 42 = .ok (.aload_n 0, 1) := by decide +kernel
theorem dX5_next_43 : decode cX5_next 43 = .ok (.getfield 15, 3) := by decide +kernel
theorem dX5_next_46 : decode cX5_next 46 = .ok (.if_icmp .ge 15, 3) := by decide +kernel
theorem dX5_next_49 : decode cX5_next 49 = .ok (.aload_n 0, 1) := by decide +kernel
theorem dX5_next_50 : decode cX5_next 50 = .ok (.getfield 9, 3) := by decide +kernel
theorem dX5_next_53 : decode cX5_next 53 = .ok (.aload_n 0, 1) := by decide +kernel
theorem dX5_next_54 : decode cX5_next 54 = .ok (.getfield 19, 3) := by decide +kernel
theorem dX5_next_57 : decode cX5_next 57 = .ok (.caload, 1) := by decide +kernel
theorem dX5_next_58 : decode cX5_next 58 = .ok (.goto 4, 3) := by decide +kernel
theorem dX5_next_61 : decode cX5_next 61 = .ok (.iconst (-1), 1) := by decide +kernel
theorem dX5_next_62 : decode cX5_next 62 = .ok (.ireturn, 1) := by decide +kernel
theorem dX5_skip_0 : decode cX5_skip 0 = .ok (.aload_n 0, 1) := by decide +kernel
theorem dX5_skip_1 : decode cX5_skip 1 = .ok (.dup, 1) := by decide +kernel
theorem dX5_skip_2 : decode cX5_skip 2 = .ok (.getfield 19, 3) := by decide +kernel
theorem dX5_skip_5 : decode cX5_skip 5 = .ok (.iconst 1, 1) := by decide +kernel
theorem dX5_skip_6 : decode cX5_skip 6 = .ok (.iadd, 1) := by decide +kernel
theorem dX5_skip_7 : decode cX5_skip 7 = .ok (.putfield 19, 3) := by decide +kernel
theorem dX5_skip_10 : decode cX5_skip 10 = .ok (.aload_n 0, 1) := by decide +kernel
theorem dX5_skip_11 : decode cX5_skip 11 = .ok (.dup, 1) := by decide +kernel
theorem dX5_skip_12 : decode cX5_skip 12 = .ok (.getfield 22, 3) := by decide +kernel
theorem dX5_skip_15 : decode cX5_skip 15 = .ok (.iconst 1, 1) := by decide +kernel
theorem dX5_skip_16 : decode cX5_skip 16 = .ok (.iadd, 1) := by decide +kernel
theorem dX5_skip_17 : decode cX5_skip 17 = .ok (.putfield 22, 3) := by decide +kernel
theorem dX5_skip_20 : decode cX5_skip 20 = .ok (.return_, 1) := by decide +kernel
theorem dX5_takes_0 : decode cX5_takes 0 = .ok (.aload_n 0, 1) := by decide +kernel
theorem dX5_takes_1 : decode cX5_takes 1 = .ok (.invokevirtual 31, 3) := by decide +kernel
theorem dX5_takes_4 : decode cX5_takes 4 = .ok (.iload_n 1, 1) := by decide +kernel
theorem dX5_takes_5 : decode cX5_takes 5 = .ok (.if_icmp .eq 12, 3) := by decide +kernel
theorem dX5_takes_8 : decode cX5_takes 8 = .ok (.aload_n 0, 1) := by decide +kernel
theorem dX5_takes_9 : decode cX5_takes 9 = .ok (.aload_n 0, 1) := by decide +kernel
theorem dX5_takes_10 : decode cX5_takes 10 = .ok (.invokevirtual 41, 3) := by decide +kernel
theorem dX5_takes_13 : decode cX5_takes 13 = .ok (.invokevirtual 57, 3) := by decide +kernel
theorem dX5_takes_16 : decode cX5_takes 16 = .ok (.ireturn, 1) := by decide +kernel
theorem dX5_takes_17 : decode cX5_takes 17 = .ok (.aload_n 0, 1) := by decide +kernel
theorem dX5_takes_18 : decode cX5_takes 18 = .ok (.invokevirtual 44, 3) := by decide +kernel
theorem dX5_takes_21 : decode cX5_takes 21 = .ok (.iconst 1, 1) := by decide +kernel
theorem dX5_takes_22 : decode cX5_takes 22 = .ok (.ireturn, 1) := by decide +kernel
theorem dX5_number_0 : decode cX5_number 0 = .ok (.aload_n 0, 1) := by decide +kernel
theorem dX5_number_1 : decode cX5_number 1 = .ok (.invokevirtual 31, 3) := by decide +kernel
theorem dX5_number_4 : decode cX5_number 4 = .ok (.invokestatic 89, 3) := by decide +kernel
theorem dX5_number_7 : decode cX5_number 7 = .ok (.ifCond .ne 14, 3) := by decide +kernel
theorem dX5_number_10 : decode cX5_number 10 = .ok (.aload_n 0, 1) := by decide +kernel
theorem dX5_number_11 : decode cX5_number 11 = .ok (.aload_n 0, 1) := by decide +kernel
theorem dX5_number_12 : decode cX5_number 12 = .ok (.invokevirtual 41, 3) := by decide +kernel
theorem dX5_number_15 : decode cX5_number 15 = .ok (.invokevirtual 57, 3) := by decide +kernel
theorem dX5_number_18 : decode cX5_number 18 = .ok (.pop, 1) := by decide +kernel
theorem dX5_number_19 : decode cX5_number 19 = .ok (.iconst (-1), 1) := by decide +kernel
theorem dX5_number_20 : decode cX5_number 20 = .ok (.ireturn, 1) := by decide +kernel
theorem dX5_number_21 : decode cX5_number 21 = .ok (.aload_n 0, 1) := by decide +kernel
theorem dX5_number_22 : decode cX5_number 22 = .ok (.invokevirtual 41, 3) := by decide +kernel
theorem dX5_number_25 : decode cX5_number 25 = .ok (.istore_n 3, 1) := by decide +kernel
theorem dX5_number_26 : decode cX5_number 26 = .ok (.iconst 0, 1) := by decide +kernel
theorem dX5_number_27 : decode cX5_number 27 = .ok (.istore 4, 2) := by decide +kernel
theorem dX5_number_29 : decode cX5_number 29 = .ok (.aload_n 0, 1) := by decide +kernel
theorem dX5_number_30 : decode cX5_number 30 = .ok (.getfield 19, 3) := by decide +kernel
theorem dX5_number_33 : decode cX5_number 33 = .ok (.aload_n 0, 1) := by decide +kernel
theorem dX5_number_34 : decode cX5_number 34 = .ok (.getfield 15, 3) := by decide +kernel
theorem dX5_number_37 : decode cX5_number 37 = .ok (.if_icmp .ge 66, 3) := by decide +kernel
theorem dX5_number_40 : decode cX5_number 40 = .ok (.aload_n 0, 1) := by decide +kernel
theorem dX5_number_41 : decode cX5_number 41 = .ok (.getfield 9, 3) := by decide +kernel
theorem dX5_number_44 : decode cX5_number 44 = .ok (.aload_n 0, 1) := by decide +kernel
theorem dX5_number_45 : decode cX5_number 45 = .ok (.getfield 19, 3) := by decide +kernel
theorem dX5_number_48 : decode cX5_number 48 = .ok (.caload, 1) := by decide +kernel
theorem dX5_number_49 : decode cX5_number 49 = .ok (.invokestatic 89, 3) := by decide +kernel
theorem dX5_number_52 : decode cX5_number 52 = .ok (.ifCond .eq 51, 3) := by decide +kernel
theorem dX5_number_55 : decode cX5_number 55 = .ok (.ldc 88, 2) := by decide +kernel
theorem dX5_number_57 : decode cX5_number 57 = .ok (.iload 4, 2) := by decide +kernel
theorem dX5_number_59 : decode cX5_number 59 = .ok (.bipush 10, 2) := by decide +kernel
theorem dX5_number_61 : decode cX5_number 61 = .ok (.imul, 1) := by decide +kernel
theorem dX5_number_62 : decode cX5_number 62 = .ok (.aload_n 0, 1) := by decide +kernel
theorem dX5_number_63 : decode cX5_number 63 = .ok (.getfield 9, 3) := by decide +kernel
theorem dX5_number_66 : decode cX5_number 66 = .ok (.aload_n 0, 1) := by decide +kernel
theorem dX5_number_67 : decode cX5_number 67 = .ok (.getfield 19, 3) := by decide +kernel
theorem dX5_number_70 : decode cX5_number 70 = .ok (.caload, 1) := by decide +kernel
theorem dX5_number_71 : decode cX5_number 71 = .ok (.iadd, 1) := by decide +kernel
theorem dX5_number_72 : decode cX5_number 72 = .ok (.bipush 48, 2) := by decide +kernel
theorem dX5_number_74 : decode cX5_number 74 = .ok (.isub, 1) := by decide +kernel
theorem dX5_number_75 : decode cX5_number 75 = .ok (.invokestatic 92, 3) := by decide +kernel
theorem dX5_number_78 : decode cX5_number 78 = .ok (.istore 4, 2) := by decide +kernel
theorem dX5_number_80 : decode cX5_number 80 = .ok (.aload_n 0, 1) := by decide +kernel
theorem dX5_number_81 : decode cX5_number 81 = .ok (.dup, 1) := by decide +kernel
theorem dX5_number_82 : decode cX5_number 82 = .ok (.getfield 22, 3) := by decide +kernel
theorem dX5_number_85 : decode cX5_number 85 = .ok (.iconst 1, 1) := by decide +kernel
theorem dX5_number_86 : decode cX5_number 86 = .ok (.iadd, 1) := by decide +kernel
theorem dX5_number_87 : decode cX5_number 87 = .ok (.putfield 22, 3) := by decide +kernel
theorem dX5_number_90 : decode cX5_number 90 = .ok (.aload_n 0, 1) := by decide +kernel
theorem dX5_number_91 : decode cX5_number 91 = .ok (.dup, 1) := by decide +kernel
theorem dX5_number_92 : decode cX5_number 92 = .ok (.getfield 19, 3) := by decide +kernel
theorem dX5_number_95 : decode cX5_number 95 = .ok (.iconst 1, 1) := by decide +kernel
theorem dX5_number_96 : decode cX5_number 96 = .ok (.iadd, 1) := by decide +kernel
theorem dX5_number_97 : decode cX5_number 97 = .ok (.putfield 19, 3) := by decide +kernel
theorem dX5_number_100 : decode cX5_number 100 = .ok (.goto (-71), 3) := by decide +kernel
theorem dX5_number_103 : decode cX5_number 103 = .ok (.iload 4, 2) := by decide +kernel
theorem dX5_number_105 : decode cX5_number 105 = .ok (.iload_n 1, 1) := by decide +kernel
theorem dX5_number_106 : decode cX5_number 106 = .ok (.if_icmp .lt 12, 3) := by decide +kernel
theorem dX5_number_109 : decode cX5_number 109 = .ok (.iload 4, 2) := by decide +kernel
theorem dX5_number_111 : decode cX5_number 111 = .ok (.iload_n 2, 1) := by decide +kernel
theorem dX5_number_112 : decode cX5_number 112 = .ok (.if_icmp .gt 6, 3) := by decide +kernel
theorem dX5_number_115 : decode cX5_number 115 = .ok (.iload 4, 2) := by decide +kernel
theorem dX5_number_117 : decode cX5_number 117 = .ok (.ireturn, 1) := by decide +kernel
theorem dX5_number_118 : decode cX5_number 118 = .ok (.aload_n 0, 1) := by decide +kernel
theorem dX5_number_119 : decode cX5_number 119 = .ok (.iload_n 3, 1) := by decide +kernel
theorem dX5_number_120 : decode cX5_number 120 = .ok (.invokevirtual 57, 3) := by decide +kernel
theorem dX5_number_123 : decode cX5_number 123 = .ok (.pop, 1) := by decide +kernel
theorem dX5_number_124 : decode cX5_number 124 = .ok (.iconst (-1), 1) := by decide +kernel
theorem dX5_number_125 : decode cX5_number 125 = .ok (.ireturn, 1) := by decide +kernel
theorem dX5_isDigit_0 : decode cX5_isDigit 0 = .ok (.iload_n 0, 1) := by decide +kernel
theorem dX5_isDigit_1 : decode cX5_isDigit 1 = .ok (.bipush 48, 2) := by decide +kernel
theorem dX5_isDigit_3 : decode cX5_isDigit 3 = .ok (.if_icmp .lt 13, 3) := by decide +kernel
theorem dX5_isDigit_6 : decode cX5_isDigit 6 = .ok (.iload_n 0, 1) := by decide +kernel
theorem dX5_isDigit_7 : decode cX5_isDigit 7 = .ok (.bipush 57, 2) := by decide +kernel
theorem dX5_isDigit_9 : decode cX5_isDigit 9 = .ok (.if_icmp .gt 7, 3) := by decide +kernel
theorem dX5_isDigit_12 : decode cX5_isDigit 12 = .ok (.iconst 1, 1) := by decide +kernel
theorem dX5_isDigit_13 : decode cX5_isDigit 13 = .ok (.goto 4, 3) := by decide +kernel
theorem dX5_isDigit_16 : decode cX5_isDigit 16 = .ok (.iconst 0, 1) := by decide +kernel
theorem dX5_isDigit_17 : decode cX5_isDigit 17 = .ok (.ireturn, 1) := by decide +kernel
theorem dX5_here_0 : decode cX5_here 0 = .ok (.bipush (-20), 2) := by decide +kernel
theorem dX5_here_2 : decode cX5_here 2 = .ok (.aload_n 0, 1) := by decide +kernel
theorem dX5_here_3 : decode cX5_here 3 = .ok (.getfield 22, 3) := by decide +kernel
theorem dX5_here_6 : decode cX5_here 6 = .ok (.isub, 1) := by decide +kernel
theorem dX5_here_7 : decode cX5_here 7 = .ok (.ireturn, 1) := by decide +kernel
theorem dX5_fails_0 : decode cX5_fails 0 = .ok (.aload_n 0, 1) := by decide +kernel
theorem dX5_fails_1 : decode cX5_fails 1 = .ok (.iload_n 1, 1) := by decide +kernel
theorem dX5_fails_2 : decode cX5_fails 2 = .ok (.putfield 25, 3) := by decide +kernel
theorem dX5_fails_5 : decode cX5_fails 5 = .ok (.iconst 0, 1) := by decide +kernel
theorem dX5_fails_6 : decode cX5_fails 6 = .ok (.ireturn, 1) := by decide +kernel
theorem dX6_init_0 : decode cX6_init 0 = .ok (.aload_n 0, 1) := by decide +kernel
theorem dX6_init_1 : decode cX6_init 1 = .ok (.invokespecial 1, 3) := by decide +kernel
theorem dX6_init_4 : decode cX6_init 4 = .ok (.aload_n 0, 1) := by decide +kernel
theorem dX6_init_5 : decode cX6_init 5 = .ok (.new 7, 3) := by decide +kernel
theorem dX6_init_8 : decode cX6_init 8 = .ok (.dup, 1) := by decide +kernel
theorem dX6_init_9 : decode cX6_init 9 = .ok (.invokespecial 9, 3) := by decide +kernel
theorem dX6_init_12 : decode cX6_init 12 = .ok (.putfield 10, 3) := by decide +kernel
theorem dX6_init_15 : decode cX6_init 15 = .ok (.aload_n 0, 1) := by decide +kernel
theorem dX6_init_16 : decode cX6_init 16 = .ok (.new 16, 3) := by decide +kernel
theorem dX6_init_19 : decode cX6_init 19 = .ok (.dup, 1) := by decide +kernel
theorem dX6_init_20 : decode cX6_init 20 = .ok (.invokespecial 18, 3) := by decide +kernel
theorem dX6_init_23 : decode cX6_init 23 = .ok (.putfield 19, 3) := by decide +kernel
theorem dX6_init_26 : decode cX6_init 26 = .ok (.aload_n 0, 1) := by decide +kernel
theorem dX6_init_27 : decode cX6_init 27 = .ok (.new 23, 3) := by decide +kernel
theorem dX6_init_30 : decode cX6_init 30 = .ok (.dup, 1) := by decide +kernel
theorem dX6_init_31 : decode cX6_init 31 = .ok (.invokespecial 25, 3) := by decide +kernel
theorem dX6_init_34 : decode cX6_init 34 = .ok (.putfield 26, 3) := by decide +kernel
theorem dX6_init_37 : decode cX6_init 37 = .ok (.aload_n 0, 1) := by decide +kernel
theorem dX6_init_38 : decode cX6_init 38 = .ok (.iconst 1, 1) := by decide +kernel
theorem dX6_init_39 : decode cX6_init 39 = .ok (.putfield 30, 3) := by decide +kernel
theorem dX6_init_42 : decode cX6_init 42 = .ok (.return_, 1) := by decide +kernel
theorem dX6_become_0 : decode cX6_become 0 = .ok (.aload_n 0, 1) := by decide +kernel
theorem dX6_become_1 : decode cX6_become 1 = .ok (.getfield 10, 3) := by decide +kernel
theorem dX6_become_4 : decode cX6_become 4 = .ok (.aload_n 1, 1) := by decide +kernel
theorem dX6_become_5 : decode cX6_become 5 = .ok (.getfield 10, 3) := by decide +kernel
theorem dX6_become_8 : decode cX6_become 8 = .ok (.invokevirtual 34, 3) := by decide +kernel
theorem dX6_become_11 : decode cX6_become 11 = .ok (.aload_n 0, 1) := by decide +kernel
theorem dX6_become_12 : decode cX6_become 12 = .ok (.getfield 19, 3) := by decide +kernel
theorem dX6_become_15 : decode cX6_become 15 = .ok (.aload_n 1, 1) := by decide +kernel
theorem dX6_become_16 : decode cX6_become 16 = .ok (.getfield 19, 3) := by decide +kernel
theorem dX6_become_19 : decode cX6_become 19 = .ok (.invokevirtual 38, 3) := by decide +kernel
theorem dX6_become_22 : decode cX6_become 22 = .ok (.aload_n 0, 1) := by decide +kernel
theorem dX6_become_23 : decode cX6_become 23 = .ok (.getfield 26, 3) := by decide +kernel
theorem dX6_become_26 : decode cX6_become 26 = .ok (.aload_n 1, 1) := by decide +kernel
theorem dX6_become_27 : decode cX6_become 27 = .ok (.getfield 26, 3) := by decide +kernel
theorem dX6_become_30 : decode cX6_become 30 = .ok (.invokevirtual 41, 3) := by decide +kernel
theorem dX6_become_33 : decode cX6_become 33 = .ok (.aload_n 0, 1) := by decide +kernel
theorem dX6_become_34 : decode cX6_become 34 = .ok (.aload_n 1, 1) := by decide +kernel
theorem dX6_become_35 : decode cX6_become 35 = .ok (.getfield 30, 3) := by decide +kernel
theorem dX6_become_38 : decode cX6_become 38 = .ok (.putfield 30, 3) := by decide +kernel
theorem dX6_become_41 : decode cX6_become 41 = .ok (.return_, 1) := by decide +kernel
theorem dX6_drawWeather_0 : decode cX6_drawWeather 0 = .ok (.aload_n 0, 1) := by decide +kernel
theorem dX6_drawWeather_1 : decode cX6_drawWeather 1 = .ok (.aload_n 0, 1) := by decide +kernel
theorem dX6_drawWeather_2 : decode cX6_drawWeather 2 = .ok (.getfield 30, 3) := by decide +kernel
theorem dX6_drawWeather_5 : decode cX6_drawWeather 5 = .ok (.ldc 44, 2) := by decide +kernel
theorem dX6_drawWeather_7 : decode cX6_drawWeather 7 = .ok (.imul, 1) := by decide +kernel
theorem dX6_drawWeather_8 : decode cX6_drawWeather 8 = .ok (.sipush 12345, 3) := by decide +kernel
theorem dX6_drawWeather_11 : decode cX6_drawWeather 11 = .ok (.iadd, 1) := by decide +kernel
theorem dX6_drawWeather_12 : decode cX6_drawWeather 12 = .ok (.ldc 45, 2) := by decide +kernel
theorem dX6_drawWeather_14 : decode cX6_drawWeather 14 = .ok (.iand, 1) := by decide +kernel
theorem dX6_drawWeather_15 : decode cX6_drawWeather 15 = .ok (.putfield 30, 3) := by decide +kernel
theorem dX6_drawWeather_18 : decode cX6_drawWeather 18 = .ok (.aload_n 0, 1) := by decide +kernel
theorem dX6_drawWeather_19 : decode cX6_drawWeather 19 = .ok (.getfield 30, 3) := by decide +kernel
theorem dX6_drawWeather_22 : decode cX6_drawWeather 22 = .ok (.ldc 46, 2) := by decide +kernel
theorem dX6_drawWeather_24 : decode cX6_drawWeather 24 = .ok (.idiv, 1) := by decide +kernel
theorem dX6_drawWeather_25 : decode cX6_drawWeather 25 = .ok (.iconst 4, 1) := by decide +kernel
theorem dX6_drawWeather_26 : decode cX6_drawWeather 26 = .ok (.irem, 1) := by decide +kernel
theorem dX6_drawWeather_27 : decode cX6_drawWeather 27 = .ok (.ireturn, 1) := by decide +kernel
theorem dX7_init_0 : decode cX7_init 0 = .ok (.aload_n 0, 1) := by decide +kernel
theorem dX7_init_1 : decode cX7_init 1 = .ok (.invokespecial 1, 3) := by decide +kernel
theorem dX7_init_4 : decode cX7_init 4 = .ok (.aload_n 0, 1) := by decide +kernel
theorem dX7_init_5 : decode cX7_init 5 = .ok (.new 7, 3) := by decide +kernel
theorem dX7_init_8 : decode cX7_init 8 = .ok (.dup, 1) := by decide +kernel
theorem dX7_init_9 : decode cX7_init 9 = .ok (.invokespecial 9, 3) := by decide +kernel
theorem dX7_init_12 : decode cX7_init 12 = .ok (.putfield 10, 3) := by decide +kernel
theorem dX7_init_15 : decode cX7_init 15 = .ok (.aload_n 0, 1) := by decide +kernel
theorem dX7_init_16 : decode cX7_init 16 = .ok (.new 7, 3) := by decide +kernel
theorem dX7_init_19 : decode cX7_init 19 = .ok (.dup, 1) := by decide +kernel
theorem dX7_init_20 : decode cX7_init 20 = .ok (.invokespecial 9, 3) := by decide +kernel
theorem dX7_init_23 : decode cX7_init 23 = .ok (.putfield 16, 3) := by decide +kernel
theorem dX7_init_26 : decode cX7_init 26 = .ok (.aload_n 0, 1) := by decide +kernel
theorem dX7_init_27 : decode cX7_init 27 = .ok (.iconst 0, 1) := by decide +kernel
theorem dX7_init_28 : decode cX7_init 28 = .ok (.putfield 19, 3) := by decide +kernel
theorem dX7_init_31 : decode cX7_init 31 = .ok (.aload_n 0, 1) := by decide +kernel
theorem dX7_init_32 : decode cX7_init 32 = .ok (.new 23, 3) := by decide +kernel
theorem dX7_init_35 : decode cX7_init 35 = .ok (.dup, 1) := by decide +kernel
theorem dX7_init_36 : decode cX7_init 36 = .ok (.invokespecial 25, 3) := by decide +kernel
theorem dX7_init_39 : decode cX7_init 39 = .ok (.putfield 26, 3) := by decide +kernel
theorem dX7_init_42 : decode cX7_init 42 = .ok (.aload_n 0, 1) := by decide +kernel
theorem dX7_init_43 : decode cX7_init 43 = .ok (.new 30, 3) := by decide +kernel
theorem dX7_init_46 : decode cX7_init 46 = .ok (.dup, 1) := by decide +kernel
theorem dX7_init_47 : decode cX7_init 47 = .ok (.invokespecial 32, 3) := by decide +kernel
theorem dX7_init_50 : decode cX7_init 50 = .ok (.putfield 33, 3) := by decide +kernel
theorem dX7_init_53 : decode cX7_init 53 = .ok (.aload_n 0, 1) := by decide +kernel
theorem dX7_init_54 : decode cX7_init 54 = .ok (.new 37, 3) := by decide +kernel
theorem dX7_init_57 : decode cX7_init 57 = .ok (.dup, 1) := by decide +kernel
theorem dX7_init_58 : decode cX7_init 58 = .ok (.invokespecial 39, 3) := by decide +kernel
theorem dX7_init_61 : decode cX7_init 61 = .ok (.putfield 40, 3) := by decide +kernel
theorem dX7_init_64 : decode cX7_init 64 = .ok (.aload_n 0, 1) := by decide +kernel
theorem dX7_init_65 : decode cX7_init 65 = .ok (.sipush 144, 3) := by decide +kernel
theorem dX7_init_68 : decode cX7_init 68 = .ok (.newarray .int, 2) := by decide +kernel
theorem dX7_init_70 : decode cX7_init 70 = .ok (.putfield 44, 3) := by decide +kernel
theorem dX7_init_73 : decode cX7_init 73 = .ok (.aload_n 0, 1) := by decide +kernel
theorem dX7_init_74 : decode cX7_init 74 = .ok (.iconst 4, 1) := by decide +kernel
theorem dX7_init_75 : decode cX7_init 75 = .ok (.anewarray 48, 3) := by decide +kernel
theorem dX7_init_78 : decode cX7_init 78 = .ok (.putfield 50, 3) := by decide +kernel
theorem dX7_init_81 : decode cX7_init 81 = .ok (.iconst 0, 1) := by decide +kernel
theorem dX7_init_82 : decode cX7_init 82 = .ok (.istore_n 1, 1) := by decide +kernel
theorem dX7_init_83 : decode cX7_init 83 = .ok (.iload_n 1, 1) := by decide +kernel
theorem dX7_init_84 : decode cX7_init 84 = .ok (.iconst 4, 1) := by decide +kernel
theorem dX7_init_85 : decode cX7_init 85 = .ok (.if_icmp .ge 22, 3) := by decide +kernel
theorem dX7_init_88 : decode cX7_init 88 = .ok (.aload_n 0, 1) := by decide +kernel
theorem dX7_init_89 : decode cX7_init 89 = .ok (.getfield 50, 3) := by decide +kernel
theorem dX7_init_92 : decode cX7_init 92 = .ok (.iload_n 1, 1) := by decide +kernel
theorem dX7_init_93 : decode cX7_init 93 = .ok (.new 48, 3) := by decide +kernel
theorem dX7_init_96 : decode cX7_init 96 = .ok (.dup, 1) := by decide +kernel
theorem dX7_init_97 : decode cX7_init 97 = .ok (.invokespecial 54, 3) := by decide +kernel
theorem dX7_init_100 : decode cX7_init 100 = .ok (.aastore, 1) := by decide +kernel
theorem dX7_init_101 : decode cX7_init 101 = .ok (.iinc 1 1, 3) := by decide +kernel
theorem dX7_init_104 : decode cX7_init 104 = .ok (.goto (-21), 3) := by decide +kernel
theorem dX7_init_107 : decode cX7_init 107 = .ok (.return_, 1) := by decide +kernel
theorem dX7_clock_0 : decode cX7_clock 0 = .ok (.iload_n 1, 1) := by decide +kernel
theorem dX7_clock_1 : decode cX7_clock 1 = .ok (.iconst 0, 1) := by decide +kernel
theorem dX7_clock_2 : decode cX7_clock 2 = .ok (.iconst 5, 1) := by decide +kernel
theorem dX7_clock_3 : decode cX7_clock 3 = .ok (.invokestatic 55, 3) := by decide +kernel
theorem dX7_clock_6 : decode cX7_clock 6 = .ok (.ifCond .eq 14, 3) := by decide +kernel
theorem dX7_clock_9 : decode cX7_clock 9 = .ok (.iload_n 2, 1) := by decide +kernel
theorem dX7_clock_10 : decode cX7_clock 10 = .ok (.iconst 0, 1) := by decide +kernel
theorem dX7_clock_11 : decode cX7_clock 11 = .ok (.sipush 719, 3) := by decide +kernel
theorem dX7_clock_14 : decode cX7_clock 14 = .ok (.invokestatic 55, 3) := by decide +kernel
theorem dX7_clock_17 : decode cX7_clock 17 = .ok (.ifCond .ne 5, 3) := by decide +kernel
theorem dX7_clock_20 : decode cX7_clock 20 = .ok (.iconst (-1), 1) := by decide +kernel
theorem dX7_clock_21 : decode cX7_clock 21 = .ok (.ireturn, 1) := by decide +kernel
theorem dX7_clock_22 : decode cX7_clock 22 = .ok (.iload_n 3, 1) := by decide +kernel
theorem dX7_clock_23 : decode cX7_clock 23 = .ok (.invokestatic 59, 3) := by decide +kernel
theorem dX7_clock_26 : decode cX7_clock 26 = .ok (.ifCond .eq 14, 3) := by decide +kernel
theorem dX7_clock_29 : decode cX7_clock 29 = .ok (.iload 4, 2) := by decide +kernel
theorem dX7_clock_31 : decode cX7_clock 31 = .ok (.iconst 0, 1) := by decide +kernel
theorem dX7_clock_32 : decode cX7_clock 32 = .ok (.bipush 99, 2) := by decide +kernel
theorem dX7_clock_34 : decode cX7_clock 34 = .ok (.invokestatic 55, 3) := by decide +kernel
theorem dX7_clock_37 : decode cX7_clock 37 = .ok (.ifCond .ne 5, 3) := by decide +kernel
theorem dX7_clock_40 : decode cX7_clock 40 = .ok (.iconst (-1), 1) := by decide +kernel
theorem dX7_clock_41 : decode cX7_clock 41 = .ok (.ireturn, 1) := by decide +kernel
theorem dX7_clock_42 : decode cX7_clock 42 = .ok (.aload_n 0, 1) := by decide +kernel
theorem dX7_clock_43 : decode cX7_clock 43 = .ok (.getfield 10, 3) := by decide +kernel
theorem dX7_clock_46 : decode cX7_clock 46 = .ok (.getfield 63, 3) := by decide +kernel
theorem dX7_clock_49 : decode cX7_clock 49 = .ok (.getfield 66, 3) := by decide +kernel
theorem dX7_clock_52 : decode cX7_clock 52 = .ok (.bipush 9, 2) := by decide +kernel
theorem dX7_clock_54 : decode cX7_clock 54 = .ok (.if_icmp .lt 6, 3) := by decide +kernel
theorem dX7_clock_57 : decode cX7_clock 57 = .ok (.bipush (-3), 2) := by decide +kernel
theorem dX7_clock_59 : decode cX7_clock 59 = .ok (.ireturn, 1) := by decide +kernel
theorem dX7_clock_60 : decode cX7_clock 60 = .ok (.aload_n 0, 1) := by decide +kernel
theorem dX7_clock_61 : decode cX7_clock 61 = .ok (.getfield 10, 3) := by decide +kernel
theorem dX7_clock_64 : decode cX7_clock 64 = .ok (.getfield 63, 3) := by decide +kernel
theorem dX7_clock_67 : decode cX7_clock 67 = .ok (.iload_n 1, 1) := by decide +kernel
theorem dX7_clock_68 : decode cX7_clock 68 = .ok (.iload_n 2, 1) := by decide +kernel
theorem dX7_clock_69 : decode cX7_clock 69 = .ok (.iload_n 3, 1) := by decide +kernel
theorem dX7_clock_70 : decode cX7_clock 70 = .ok (.iload 4, 2) := by decide +kernel
theorem dX7_clock_72 : decode cX7_clock 72 = .ok (.invokevirtual 70, 3) := by decide +kernel
theorem dX7_clock_75 : decode cX7_clock 75 = .ok (.ireturn, 1) := by decide +kernel
theorem dX7_strike_0 : decode cX7_strike 0 = .ok (.aload_n 0, 1) := by decide +kernel
theorem dX7_strike_1 : decode cX7_strike 1 = .ok (.getfield 10, 3) := by decide +kernel
theorem dX7_strike_4 : decode cX7_strike 4 = .ok (.getfield 63, 3) := by decide +kernel
theorem dX7_strike_7 : decode cX7_strike 7 = .ok (.getfield 66, 3) := by decide +kernel
theorem dX7_strike_10 : decode cX7_strike 10 = .ok (.ifCond .ne 6, 3) := by decide +kernel
theorem dX7_strike_13 : decode cX7_strike 13 = .ok (.bipush (-4), 2) := by decide +kernel
theorem dX7_strike_15 : decode cX7_strike 15 = .ok (.ireturn, 1) := by decide +kernel
theorem dX7_strike_16 : decode cX7_strike 16 = .ok (.aload_n 0, 1) := by decide +kernel
theorem dX7_strike_17 : decode cX7_strike 17 = .ok (.getfield 10, 3) := by decide +kernel
theorem dX7_strike_20 : decode cX7_strike 20 = .ok (.getfield 63, 3) := by decide +kernel
theorem dX7_strike_23 : decode cX7_strike 23 = .ok (.invokevirtual 74, 3) := by decide +kernel
theorem dX7_strike_26 : decode cX7_strike 26 = .ok (.aload_n 0, 1) := by decide +kernel
theorem dX7_strike_27 : decode cX7_strike 27 = .ok (.getfield 10, 3) := by decide +kernel
theorem dX7_strike_30 : decode cX7_strike 30 = .ok (.getfield 77, 3) := by decide +kernel
theorem dX7_strike_33 : decode cX7_strike 33 = .ok (.aload_n 0, 1) := by decide +kernel
theorem dX7_strike_34 : decode cX7_strike 34 = .ok (.getfield 10, 3) := by decide +kernel
theorem dX7_strike_37 : decode cX7_strike 37 = .ok (.getfield 63, 3) := by decide +kernel
theorem dX7_strike_40 : decode cX7_strike 40 = .ok (.getfield 66, 3) := by decide +kernel
theorem dX7_strike_43 : decode cX7_strike 43 = .ok (.invokevirtual 81, 3) := by decide +kernel
theorem dX7_strike_46 : decode cX7_strike 46 = .ok (.aload_n 0, 1) := by decide +kernel
theorem dX7_strike_47 : decode cX7_strike 47 = .ok (.getfield 10, 3) := by decide +kernel
theorem dX7_strike_50 : decode cX7_strike 50 = .ok (.getfield 87, 3) := by decide +kernel
theorem dX7_strike_53 : decode cX7_strike 53 = .ok (.iconst 0, 1) := by decide +kernel
theorem dX7_strike_54 : decode cX7_strike 54 = .ok (.putfield 91, 3) := by decide +kernel
theorem dX7_strike_57 : decode cX7_strike 57 = .ok (.aload_n 0, 1) := by decide +kernel
theorem dX7_strike_58 : decode cX7_strike 58 = .ok (.getfield 10, 3) := by decide +kernel
theorem dX7_strike_61 : decode cX7_strike 61 = .ok (.getfield 63, 3) := by decide +kernel
theorem dX7_strike_64 : decode cX7_strike 64 = .ok (.getfield 66, 3) := by decide +kernel
theorem dX7_strike_67 : decode cX7_strike 67 = .ok (.ireturn, 1) := by decide +kernel
theorem dX7_told_0 : decode cX7_told 0 = .ok (.aload_n 0, 1) := by decide +kernel
theorem dX7_told_1 : decode cX7_told 1 = .ok (.iload_n 1, 1) := by decide +kernel
theorem dX7_told_2 : decode cX7_told 2 = .ok (.invokevirtual 96, 3) := by decide +kernel
theorem dX7_told_5 : decode cX7_told 5 = .ok (.ifCond .ne 5, 3) := by decide +kernel
theorem dX7_told_8 : decode cX7_told 8 = .ok (.iconst (-1), 1) := by decide +kernel
theorem dX7_told_9 : decode cX7_told 9 = .ok (.ireturn, 1) := by decide +kernel
theorem dX7_told_10 : decode cX7_told 10 = .ok (.aload_n 0, 1) := by decide +kernel
theorem dX7_told_11 : decode cX7_told 11 = .ok (.getfield 10, 3) := by decide +kernel
theorem dX7_told_14 : decode cX7_told 14 = .ok (.getfield 63, 3) := by decide +kernel
theorem dX7_told_17 : decode cX7_told 17 = .ok (.astore_n 3, 1) := by decide +kernel
theorem dX7_told_18 : decode cX7_told 18 = .ok (.iload_n 2, 1) := by decide +kernel
theorem dX7_told_19 : decode cX7_told 19 = .ok (.tableswitch 101 0 6 #[41, 48, 55, 62, 69, 89, 95], 41) := by decide +kernel
theorem dX7_told_60 : decode cX7_told 60 = .ok (.aload_n 3, 1) := by decide +kernel
theorem dX7_told_61 : decode cX7_told 61 = .ok (.getfield 99, 3) := by decide +kernel
theorem dX7_told_64 : decode cX7_told 64 = .ok (.iload_n 1, 1) := by decide +kernel
theorem dX7_told_65 : decode cX7_told 65 = .ok (.iaload, 1) := by decide +kernel
theorem dX7_told_66 : decode cX7_told 66 = .ok (.ireturn, 1) := by decide +kernel
theorem dX7_told_67 : decode cX7_told 67 = .ok (.aload_n 3, 1) := by decide +kernel
theorem dX7_told_68 : decode cX7_told 68 = .ok (.getfield 102, 3) := by decide +kernel
theorem dX7_told_71 : decode cX7_told 71 = .ok (.iload_n 1, 1) := by decide +kernel
theorem dX7_told_72 : decode cX7_told 72 = .ok (.iaload, 1) := by decide +kernel
theorem dX7_told_73 : decode cX7_told 73 = .ok (.ireturn, 1) := by decide +kernel
theorem dX7_told_74 : decode cX7_told 74 = .ok (.aload_n 3, 1) := by decide +kernel
theorem dX7_told_75 : decode cX7_told 75 = .ok (.getfield 105, 3) := by decide +kernel
theorem dX7_told_78 : decode cX7_told 78 = .ok (.iload_n 1, 1) := by decide +kernel
theorem dX7_told_79 : decode cX7_told 79 = .ok (.iaload, 1) := by decide +kernel
theorem dX7_told_80 : decode cX7_told 80 = .ok (.ireturn, 1) := by decide +kernel
theorem dX7_told_81 : decode cX7_told 81 = .ok (.aload_n 3, 1) := by decide +kernel
theorem dX7_told_82 : decode cX7_told 82 = .ok (.getfield 108, 3) := by decide +kernel
theorem dX7_told_85 : decode cX7_told 85 = .ok (.iload_n 1, 1) := by decide +kernel
theorem dX7_told_86 : decode cX7_told 86 = .ok (.iaload, 1) := by decide +kernel
theorem dX7_told_87 : decode cX7_told 87 = .ok (.ireturn, 1) := by decide +kernel
theorem dX7_told_88 : decode cX7_told 88 = .ok (.aload_n 3, 1) := by decide +kernel
theorem dX7_told_89 : decode cX7_told 89 = .ok (.iload_n 1, 1) := by decide +kernel
theorem dX7_told_90 : decode cX7_told 90 = .ok (.invokevirtual 111, 3) := by decide +kernel
theorem dX7_told_93 : decode cX7_told 93 = .ok (.ifCond .eq 12, 3) := by decide +kernel
theorem dX7_told_96 : decode cX7_told 96 = .ok (.aload_n 3, 1) := by decide +kernel
theorem dX7_told_97 : decode cX7_told 97 = .ok (.getfield 114, 3) := by decide +kernel
theorem dX7_told_100 : decode cX7_told 100 = .ok (.iload_n 1, 1) := by decide +kernel
theorem dX7_told_101 : decode cX7_told 101 = .ok (.iaload, 1) := by decide +kernel
theorem dX7_told_102 : decode cX7_told 102 = .ok (.goto 5, 3) := by decide +kernel
theorem dX7_told_105 : decode cX7_told 105 = .ok (.bipush (-4), 2) := by decide +kernel
theorem dX7_told_107 : decode cX7_told 107 = .ok (.ireturn, 1) := by decide +kernel
theorem dX7_told_108 : decode cX7_told 108 = .ok (.aload_n 3, 1) := by decide +kernel
theorem dX7_told_109 : decode cX7_told 109 = .ok (.iload_n 1, 1) := by decide +kernel
theorem dX7_told_110 : decode cX7_told 110 = .ok (.invokevirtual 117, 3) := by decide +kernel
theorem dX7_told_113 : decode cX7_told 113 = .ok (.ireturn, 1) := by decide +kernel
theorem dX7_told_114 : decode cX7_told 114 = .ok (.aload_n 3, 1) := by decide +kernel
theorem dX7_told_115 : decode cX7_told 115 = .ok (.iload_n 1, 1) := by decide +kernel
theorem dX7_told_116 : decode cX7_told 116 = .ok (.invokevirtual 121, 3) := by decide +kernel
theorem dX7_told_119 : decode cX7_told 119 = .ok (.ireturn, 1) := by decide +kernel
theorem dX7_told_120 : decode cX7_told 120 = .ok (.iconst (-1), 1) := by decide +kernel
theorem dX7_told_121 : decode cX7_told 121 = .ok (.ireturn, 1) := by decide +kernel
theorem dX7_rate_0 : decode cX7_rate 0 = .ok (.aload_n 0, 1) := by decide +kernel
theorem dX7_rate_1 : decode cX7_rate 1 = .ok (.iload_n 1, 1) := by decide +kernel
theorem dX7_rate_2 : decode cX7_rate 2 = .ok (.invokevirtual 96, 3) := by decide +kernel
theorem dX7_rate_5 : decode cX7_rate 5 = .ok (.ifCond .eq 18, 3) := by decide +kernel
theorem dX7_rate_8 : decode cX7_rate 8 = .ok (.aload_n 0, 1) := by decide +kernel
theorem dX7_rate_9 : decode cX7_rate 9 = .ok (.getfield 10, 3) := by decide +kernel
theorem dX7_rate_12 : decode cX7_rate 12 = .ok (.getfield 63, 3) := by decide +kernel
theorem dX7_rate_15 : decode cX7_rate 15 = .ok (.getfield 124, 3) := by decide +kernel
theorem dX7_rate_18 : decode cX7_rate 18 = .ok (.iload_n 1, 1) := by decide +kernel
theorem dX7_rate_19 : decode cX7_rate 19 = .ok (.iaload, 1) := by decide +kernel
theorem dX7_rate_20 : decode cX7_rate 20 = .ok (.goto 6, 3) := by decide +kernel
theorem dX7_rate_23 : decode cX7_rate 23 = .ok (.sipush (-1001), 3) := by decide +kernel
theorem dX7_rate_26 : decode cX7_rate 26 = .ok (.ireturn, 1) := by decide +kernel
theorem dX7_dial_0 : decode cX7_dial 0 = .ok (.aload_n 0, 1) := by decide +kernel
theorem dX7_dial_1 : decode cX7_dial 1 = .ok (.iload_n 1, 1) := by decide +kernel
theorem dX7_dial_2 : decode cX7_dial 2 = .ok (.invokevirtual 127, 3) := by decide +kernel
theorem dX7_dial_5 : decode cX7_dial 5 = .ok (.ifCond .eq 18, 3) := by decide +kernel
theorem dX7_dial_8 : decode cX7_dial 8 = .ok (.aload_n 0, 1) := by decide +kernel
theorem dX7_dial_9 : decode cX7_dial 9 = .ok (.getfield 10, 3) := by decide +kernel
theorem dX7_dial_12 : decode cX7_dial 12 = .ok (.getfield 63, 3) := by decide +kernel
theorem dX7_dial_15 : decode cX7_dial 15 = .ok (.getfield 130, 3) := by decide +kernel
theorem dX7_dial_18 : decode cX7_dial 18 = .ok (.iload_n 1, 1) := by decide +kernel
theorem dX7_dial_19 : decode cX7_dial 19 = .ok (.iaload, 1) := by decide +kernel
theorem dX7_dial_20 : decode cX7_dial 20 = .ok (.goto 4, 3) := by decide +kernel
theorem dX7_dial_23 : decode cX7_dial 23 = .ok (.iconst (-1), 1) := by decide +kernel
theorem dX7_dial_24 : decode cX7_dial 24 = .ok (.ireturn, 1) := by decide +kernel
theorem dX7_paint_0 : decode cX7_paint 0 = .ok (.aload_n 0, 1) := by decide +kernel
theorem dX7_paint_1 : decode cX7_paint 1 = .ok (.iload_n 1, 1) := by decide +kernel
theorem dX7_paint_2 : decode cX7_paint 2 = .ok (.invokevirtual 127, 3) := by decide +kernel
theorem dX7_paint_5 : decode cX7_paint 5 = .ok (.ifCond .eq 13, 3) := by decide +kernel
theorem dX7_paint_8 : decode cX7_paint 8 = .ok (.iload_n 2, 1) := by decide +kernel
theorem dX7_paint_9 : decode cX7_paint 9 = .ok (.iconst 0, 1) := by decide +kernel
theorem dX7_paint_10 : decode cX7_paint 10 = .ok (.bipush 12, 2) := by decide +kernel
theorem dX7_paint_12 : decode cX7_paint 12 = .ok (.invokestatic 55, 3) := by decide +kernel
theorem dX7_paint_15 : decode cX7_paint 15 = .ok (.ifCond .ne 5, 3) := by decide +kernel
theorem dX7_paint_18 : decode cX7_paint 18 = .ok (.iconst (-1), 1) := by decide +kernel
theorem dX7_paint_19 : decode cX7_paint 19 = .ok (.ireturn, 1) := by decide +kernel
theorem dX7_paint_20 : decode cX7_paint 20 = .ok (.aload_n 0, 1) := by decide +kernel
theorem dX7_paint_21 : decode cX7_paint 21 = .ok (.getfield 10, 3) := by decide +kernel
theorem dX7_paint_24 : decode cX7_paint 24 = .ok (.getfield 63, 3) := by decide +kernel
theorem dX7_paint_27 : decode cX7_paint 27 = .ok (.getfield 130, 3) := by decide +kernel
theorem dX7_paint_30 : decode cX7_paint 30 = .ok (.iload_n 1, 1) := by decide +kernel
theorem dX7_paint_31 : decode cX7_paint 31 = .ok (.iaload, 1) := by decide +kernel
theorem dX7_paint_32 : decode cX7_paint 32 = .ok (.istore_n 3, 1) := by decide +kernel
theorem dX7_paint_33 : decode cX7_paint 33 = .ok (.aload_n 0, 1) := by decide +kernel
theorem dX7_paint_34 : decode cX7_paint 34 = .ok (.getfield 10, 3) := by decide +kernel
theorem dX7_paint_37 : decode cX7_paint 37 = .ok (.getfield 63, 3) := by decide +kernel
theorem dX7_paint_40 : decode cX7_paint 40 = .ok (.getfield 130, 3) := by decide +kernel
theorem dX7_paint_43 : decode cX7_paint 43 = .ok (.iload_n 1, 1) := by decide +kernel
theorem dX7_paint_44 : decode cX7_paint 44 = .ok (.iload_n 2, 1) := by decide +kernel
theorem dX7_paint_45 : decode cX7_paint 45 = .ok (.iastore, 1) := by decide +kernel
theorem dX7_paint_46 : decode cX7_paint 46 = .ok (.iload_n 3, 1) := by decide +kernel
theorem dX7_paint_47 : decode cX7_paint 47 = .ok (.ireturn, 1) := by decide +kernel
theorem dX7_weather_0 : decode cX7_weather 0 = .ok (.iload_n 1, 1) := by decide +kernel
theorem dX7_weather_1 : decode cX7_weather 1 = .ok (.iconst 0, 1) := by decide +kernel
theorem dX7_weather_2 : decode cX7_weather 2 = .ok (.sipush 9999, 3) := by decide +kernel
theorem dX7_weather_5 : decode cX7_weather 5 = .ok (.invokestatic 55, 3) := by decide +kernel
theorem dX7_weather_8 : decode cX7_weather 8 = .ok (.ifCond .eq 17, 3) := by decide +kernel
theorem dX7_weather_11 : decode cX7_weather 11 = .ok (.aload_n 0, 1) := by decide +kernel
theorem dX7_weather_12 : decode cX7_weather 12 = .ok (.getfield 10, 3) := by decide +kernel
theorem dX7_weather_15 : decode cX7_weather 15 = .ok (.getfield 63, 3) := by decide +kernel
theorem dX7_weather_18 : decode cX7_weather 18 = .ok (.iload_n 1, 1) := by decide +kernel
theorem dX7_weather_19 : decode cX7_weather 19 = .ok (.invokevirtual 133, 3) := by decide +kernel
theorem dX7_weather_22 : decode cX7_weather 22 = .ok (.goto 4, 3) := by decide +kernel
theorem dX7_weather_25 : decode cX7_weather 25 = .ok (.iconst (-1), 1) := by decide +kernel
theorem dX7_weather_26 : decode cX7_weather 26 = .ok (.ireturn, 1) := by decide +kernel
theorem dX7_type_0 : decode cX7_type 0 = .ok (.iload_n 1, 1) := by decide +kernel
theorem dX7_type_1 : decode cX7_type 1 = .ok (.bipush 32, 2) := by decide +kernel
theorem dX7_type_3 : decode cX7_type 3 = .ok (.bipush 126, 2) := by decide +kernel
theorem dX7_type_5 : decode cX7_type 5 = .ok (.invokestatic 55, 3) := by decide +kernel
theorem dX7_type_8 : decode cX7_type 8 = .ok (.ifCond .ne 5, 3) := by decide +kernel
theorem dX7_type_11 : decode cX7_type 11 = .ok (.iconst (-1), 1) := by decide +kernel
theorem dX7_type_12 : decode cX7_type 12 = .ok (.ireturn, 1) := by decide +kernel
theorem dX7_type_13 : decode cX7_type 13 = .ok (.aload_n 0, 1) := by decide +kernel
theorem dX7_type_14 : decode cX7_type 14 = .ok (.getfield 33, 3) := by decide +kernel
theorem dX7_type_17 : decode cX7_type 17 = .ok (.getfield 136, 3) := by decide +kernel
theorem dX7_type_20 : decode cX7_type 20 = .ok (.sipush 160, 3) := by decide +kernel
theorem dX7_type_23 : decode cX7_type 23 = .ok (.if_icmp .lt 6, 3) := by decide +kernel
theorem dX7_type_26 : decode cX7_type 26 = .ok (.bipush (-3), 2) := by decide +kernel
theorem dX7_type_28 : decode cX7_type 28 = .ok (.ireturn, 1) := by decide +kernel
theorem dX7_type_29 : decode cX7_type 29 = .ok (.aload_n 0, 1) := by decide +kernel
theorem dX7_type_30 : decode cX7_type 30 = .ok (.getfield 33, 3) := by decide +kernel
theorem dX7_type_33 : decode cX7_type 33 = .ok (.getfield 139, 3) := by decide +kernel
theorem dX7_type_36 : decode cX7_type 36 = .ok (.aload_n 0, 1) := by decide +kernel
theorem dX7_type_37 : decode cX7_type 37 = .ok (.getfield 33, 3) := by decide +kernel
theorem dX7_type_40 : decode cX7_type 40 = .ok (.getfield 136, 3) := by decide +kernel
theorem dX7_type_43 : decode cX7_type 43 = .ok (.iload_n 1, 1) := by decide +kernel
theorem dX7_type_44 : decode cX7_type 44 = .ok (.i2c, 1) := by decide +kernel
theorem dX7_type_45 : decode cX7_type 45 = .ok (.castore, 1) := by decide +kernel
theorem dX7_type_46 : decode cX7_type 46 = .ok (.aload_n 0, 1) := by decide +kernel
theorem dX7_type_47 : decode cX7_type 47 = .ok (.getfield 33, 3) := by decide +kernel
theorem dX7_type_50 : decode cX7_type 50 = .ok (.dup, 1) := by decide +kernel
theorem dX7_type_51 : decode cX7_type 51 = .ok (.getfield 136, 3) := by decide +kernel
theorem dX7_type_54 : decode cX7_type 54 = .ok (.iconst 1, 1) := by decide +kernel
theorem dX7_type_55 : decode cX7_type 55 = .ok (.iadd, 1) := by decide +kernel
theorem dX7_type_56 : decode cX7_type 56 = .ok (.putfield 136, 3) := by decide +kernel
theorem dX7_type_59 : decode cX7_type 59 = .ok (.aload_n 0, 1) := by decide +kernel
theorem dX7_type_60 : decode cX7_type 60 = .ok (.getfield 33, 3) := by decide +kernel
theorem dX7_type_63 : decode cX7_type 63 = .ok (.getfield 136, 3) := by decide +kernel
theorem dX7_type_66 : decode cX7_type 66 = .ok (.ireturn, 1) := by decide +kernel
theorem dX7_course_0 : decode cX7_course 0 = .ok (.aload_n 0, 1) := by decide +kernel
theorem dX7_course_1 : decode cX7_course 1 = .ok (.getfield 26, 3) := by decide +kernel
theorem dX7_course_4 : decode cX7_course 4 = .ok (.aload_n 0, 1) := by decide +kernel
theorem dX7_course_5 : decode cX7_course 5 = .ok (.getfield 10, 3) := by decide +kernel
theorem dX7_course_8 : decode cX7_course 8 = .ok (.getfield 63, 3) := by decide +kernel
theorem dX7_course_11 : decode cX7_course 11 = .ok (.invokevirtual 143, 3) := by decide +kernel
theorem dX7_course_14 : decode cX7_course 14 = .ok (.aload_n 0, 1) := by decide +kernel
theorem dX7_course_15 : decode cX7_course 15 = .ok (.getfield 33, 3) := by decide +kernel
theorem dX7_course_18 : decode cX7_course 18 = .ok (.ldc 147, 2) := by decide +kernel
theorem dX7_course_20 : decode cX7_course 20 = .ok (.iconst 2, 1) := by decide +kernel
theorem dX7_course_21 : decode cX7_course 21 = .ok (.bipush 24, 2) := by decide +kernel
theorem dX7_course_23 : decode cX7_course 23 = .ok (.aload_n 0, 1) := by decide +kernel
theorem dX7_course_24 : decode cX7_course 24 = .ok (.getfield 26, 3) := by decide +kernel
theorem dX7_course_27 : decode cX7_course 27 = .ok (.getfield 130, 3) := by decide +kernel
theorem dX7_course_30 : decode cX7_course 30 = .ok (.invokevirtual 149, 3) := by decide +kernel
theorem dX7_course_33 : decode cX7_course 33 = .ok (.istore_n 1, 1) := by decide +kernel
theorem dX7_course_34 : decode cX7_course 34 = .ok (.aload_n 0, 1) := by decide +kernel
theorem dX7_course_35 : decode cX7_course 35 = .ok (.getfield 33, 3) := by decide +kernel
theorem dX7_course_38 : decode cX7_course 38 = .ok (.iconst 0, 1) := by decide +kernel
theorem dX7_course_39 : decode cX7_course 39 = .ok (.putfield 136, 3) := by decide +kernel
theorem dX7_course_42 : decode cX7_course 42 = .ok (.iload_n 1, 1) := by decide +kernel
theorem dX7_course_43 : decode cX7_course 43 = .ok (.ifCond .ge 5, 3) := by decide +kernel
theorem dX7_course_46 : decode cX7_course 46 = .ok (.iload_n 1, 1) := by decide +kernel
theorem dX7_course_47 : decode cX7_course 47 = .ok (.ireturn, 1) := by decide +kernel
theorem dX7_course_48 : decode cX7_course 48 = .ok (.aload_n 0, 1) := by decide +kernel
theorem dX7_course_49 : decode cX7_course 49 = .ok (.getfield 26, 3) := by decide +kernel
theorem dX7_course_52 : decode cX7_course 52 = .ok (.iload_n 1, 1) := by decide +kernel
theorem dX7_course_53 : decode cX7_course 53 = .ok (.putfield 153, 3) := by decide +kernel
theorem dX7_course_56 : decode cX7_course 56 = .ok (.aload_n 0, 1) := by decide +kernel
theorem dX7_course_57 : decode cX7_course 57 = .ok (.getfield 26, 3) := by decide +kernel
theorem dX7_course_60 : decode cX7_course 60 = .ok (.invokevirtual 156, 3) := by decide +kernel
theorem dX7_course_63 : decode cX7_course 63 = .ok (.aload_n 0, 1) := by decide +kernel
theorem dX7_course_64 : decode cX7_course 64 = .ok (.getfield 10, 3) := by decide +kernel
theorem dX7_course_67 : decode cX7_course 67 = .ok (.getfield 63, 3) := by decide +kernel
theorem dX7_course_70 : decode cX7_course 70 = .ok (.aload_n 0, 1) := by decide +kernel
theorem dX7_course_71 : decode cX7_course 71 = .ok (.getfield 26, 3) := by decide +kernel
theorem dX7_course_74 : decode cX7_course 74 = .ok (.invokevirtual 143, 3) := by decide +kernel
theorem dX7_course_77 : decode cX7_course 77 = .ok (.aload_n 0, 1) := by decide +kernel
theorem dX7_course_78 : decode cX7_course 78 = .ok (.getfield 10, 3) := by decide +kernel
theorem dX7_course_81 : decode cX7_course 81 = .ok (.getfield 87, 3) := by decide +kernel
theorem dX7_course_84 : decode cX7_course 84 = .ok (.iconst 0, 1) := by decide +kernel
theorem dX7_course_85 : decode cX7_course 85 = .ok (.putfield 91, 3) := by decide +kernel
theorem dX7_course_88 : decode cX7_course 88 = .ok (.iload_n 1, 1) := by decide +kernel
theorem dX7_course_89 : decode cX7_course 89 = .ok (.ireturn, 1) := by decide +kernel
theorem dX7_skies_0 : decode cX7_skies 0 = .ok (.aload_n 0, 1) := by decide +kernel
theorem dX7_skies_1 : decode cX7_skies 1 = .ok (.getfield 26, 3) := by decide +kernel
theorem dX7_skies_4 : decode cX7_skies 4 = .ok (.aload_n 0, 1) := by decide +kernel
theorem dX7_skies_5 : decode cX7_skies 5 = .ok (.getfield 10, 3) := by decide +kernel
theorem dX7_skies_8 : decode cX7_skies 8 = .ok (.getfield 63, 3) := by decide +kernel
theorem dX7_skies_11 : decode cX7_skies 11 = .ok (.invokevirtual 143, 3) := by decide +kernel
theorem dX7_skies_14 : decode cX7_skies 14 = .ok (.aload_n 0, 1) := by decide +kernel
theorem dX7_skies_15 : decode cX7_skies 15 = .ok (.getfield 33, 3) := by decide +kernel
theorem dX7_skies_18 : decode cX7_skies 18 = .ok (.ldc 159, 2) := by decide +kernel
theorem dX7_skies_20 : decode cX7_skies 20 = .ok (.iconst 1, 1) := by decide +kernel
theorem dX7_skies_21 : decode cX7_skies 21 = .ok (.bipush 12, 2) := by decide +kernel
theorem dX7_skies_23 : decode cX7_skies 23 = .ok (.aload_n 0, 1) := by decide +kernel
theorem dX7_skies_24 : decode cX7_skies 24 = .ok (.getfield 26, 3) := by decide +kernel
theorem dX7_skies_27 : decode cX7_skies 27 = .ok (.getfield 161, 3) := by decide +kernel
theorem dX7_skies_30 : decode cX7_skies 30 = .ok (.invokevirtual 149, 3) := by decide +kernel
theorem dX7_skies_33 : decode cX7_skies 33 = .ok (.istore_n 1, 1) := by decide +kernel
theorem dX7_skies_34 : decode cX7_skies 34 = .ok (.aload_n 0, 1) := by decide +kernel
theorem dX7_skies_35 : decode cX7_skies 35 = .ok (.getfield 33, 3) := by decide +kernel
theorem dX7_skies_38 : decode cX7_skies 38 = .ok (.iconst 0, 1) := by decide +kernel
theorem dX7_skies_39 : decode cX7_skies 39 = .ok (.putfield 136, 3) := by decide +kernel
theorem dX7_skies_42 : decode cX7_skies 42 = .ok (.iload_n 1, 1) := by decide +kernel
theorem dX7_skies_43 : decode cX7_skies 43 = .ok (.ifCond .ge 5, 3) := by decide +kernel
theorem dX7_skies_46 : decode cX7_skies 46 = .ok (.iload_n 1, 1) := by decide +kernel
theorem dX7_skies_47 : decode cX7_skies 47 = .ok (.ireturn, 1) := by decide +kernel
theorem dX7_skies_48 : decode cX7_skies 48 = .ok (.aload_n 0, 1) := by decide +kernel
theorem dX7_skies_49 : decode cX7_skies 49 = .ok (.getfield 26, 3) := by decide +kernel
theorem dX7_skies_52 : decode cX7_skies 52 = .ok (.iload_n 1, 1) := by decide +kernel
theorem dX7_skies_53 : decode cX7_skies 53 = .ok (.putfield 164, 3) := by decide +kernel
theorem dX7_skies_56 : decode cX7_skies 56 = .ok (.aload_n 0, 1) := by decide +kernel
theorem dX7_skies_57 : decode cX7_skies 57 = .ok (.getfield 10, 3) := by decide +kernel
theorem dX7_skies_60 : decode cX7_skies 60 = .ok (.getfield 63, 3) := by decide +kernel
theorem dX7_skies_63 : decode cX7_skies 63 = .ok (.aload_n 0, 1) := by decide +kernel
theorem dX7_skies_64 : decode cX7_skies 64 = .ok (.getfield 26, 3) := by decide +kernel
theorem dX7_skies_67 : decode cX7_skies 67 = .ok (.invokevirtual 143, 3) := by decide +kernel
theorem dX7_skies_70 : decode cX7_skies 70 = .ok (.iload_n 1, 1) := by decide +kernel
theorem dX7_skies_71 : decode cX7_skies 71 = .ok (.ireturn, 1) := by decide +kernel
theorem dX7_street_0 : decode cX7_street 0 = .ok (.aload_n 0, 1) := by decide +kernel
theorem dX7_street_1 : decode cX7_street 1 = .ok (.getfield 26, 3) := by decide +kernel
theorem dX7_street_4 : decode cX7_street 4 = .ok (.aload_n 0, 1) := by decide +kernel
theorem dX7_street_5 : decode cX7_street 5 = .ok (.getfield 10, 3) := by decide +kernel
theorem dX7_street_8 : decode cX7_street 8 = .ok (.getfield 63, 3) := by decide +kernel
theorem dX7_street_11 : decode cX7_street 11 = .ok (.invokevirtual 143, 3) := by decide +kernel
theorem dX7_street_14 : decode cX7_street 14 = .ok (.aload_n 0, 1) := by decide +kernel
theorem dX7_street_15 : decode cX7_street 15 = .ok (.getfield 26, 3) := by decide +kernel
theorem dX7_street_18 : decode cX7_street 18 = .ok (.iconst 0, 1) := by decide +kernel
theorem dX7_street_19 : decode cX7_street 19 = .ok (.putfield 66, 3) := by decide +kernel
theorem dX7_street_22 : decode cX7_street 22 = .ok (.aload_n 0, 1) := by decide +kernel
theorem dX7_street_23 : decode cX7_street 23 = .ok (.getfield 26, 3) := by decide +kernel
theorem dX7_street_26 : decode cX7_street 26 = .ok (.invokevirtual 167, 3) := by decide +kernel
theorem dX7_street_29 : decode cX7_street 29 = .ok (.aload_n 0, 1) := by decide +kernel
theorem dX7_street_30 : decode cX7_street 30 = .ok (.getfield 33, 3) := by decide +kernel
theorem dX7_street_33 : decode cX7_street 33 = .ok (.aload_n 0, 1) := by decide +kernel
theorem dX7_street_34 : decode cX7_street 34 = .ok (.getfield 26, 3) := by decide +kernel
theorem dX7_street_37 : decode cX7_street 37 = .ok (.invokevirtual 170, 3) := by decide +kernel
theorem dX7_street_40 : decode cX7_street 40 = .ok (.istore_n 1, 1) := by decide +kernel
theorem dX7_street_41 : decode cX7_street 41 = .ok (.aload_n 0, 1) := by decide +kernel
theorem dX7_street_42 : decode cX7_street 42 = .ok (.getfield 33, 3) := by decide +kernel
theorem dX7_street_45 : decode cX7_street 45 = .ok (.iconst 0, 1) := by decide +kernel
theorem dX7_street_46 : decode cX7_street 46 = .ok (.putfield 136, 3) := by decide +kernel
theorem dX7_street_49 : decode cX7_street 49 = .ok (.iload_n 1, 1) := by decide +kernel
theorem dX7_street_50 : decode cX7_street 50 = .ok (.ifCond .ge 5, 3) := by decide +kernel
theorem dX7_street_53 : decode cX7_street 53 = .ok (.iload_n 1, 1) := by decide +kernel
theorem dX7_street_54 : decode cX7_street 54 = .ok (.ireturn, 1) := by decide +kernel
theorem dX7_street_55 : decode cX7_street 55 = .ok (.aload_n 0, 1) := by decide +kernel
theorem dX7_street_56 : decode cX7_street 56 = .ok (.getfield 10, 3) := by decide +kernel
theorem dX7_street_59 : decode cX7_street 59 = .ok (.getfield 63, 3) := by decide +kernel
theorem dX7_street_62 : decode cX7_street 62 = .ok (.aload_n 0, 1) := by decide +kernel
theorem dX7_street_63 : decode cX7_street 63 = .ok (.getfield 26, 3) := by decide +kernel
theorem dX7_street_66 : decode cX7_street 66 = .ok (.invokevirtual 143, 3) := by decide +kernel
theorem dX7_street_69 : decode cX7_street 69 = .ok (.aload_n 0, 1) := by decide +kernel
theorem dX7_street_70 : decode cX7_street 70 = .ok (.getfield 10, 3) := by decide +kernel
theorem dX7_street_73 : decode cX7_street 73 = .ok (.getfield 77, 3) := by decide +kernel
theorem dX7_street_76 : decode cX7_street 76 = .ok (.iconst 0, 1) := by decide +kernel
theorem dX7_street_77 : decode cX7_street 77 = .ok (.putfield 174, 3) := by decide +kernel
theorem dX7_street_80 : decode cX7_street 80 = .ok (.aload_n 0, 1) := by decide +kernel
theorem dX7_street_81 : decode cX7_street 81 = .ok (.getfield 10, 3) := by decide +kernel
theorem dX7_street_84 : decode cX7_street 84 = .ok (.getfield 87, 3) := by decide +kernel
theorem dX7_street_87 : decode cX7_street 87 = .ok (.iconst 0, 1) := by decide +kernel
theorem dX7_street_88 : decode cX7_street 88 = .ok (.putfield 91, 3) := by decide +kernel
theorem dX7_street_91 : decode cX7_street 91 = .ok (.iload_n 1, 1) := by decide +kernel
theorem dX7_street_92 : decode cX7_street 92 = .ok (.ireturn, 1) := by decide +kernel
theorem dX7_day_0 : decode cX7_day 0 = .ok (.aload_n 0, 1) := by decide +kernel
theorem dX7_day_1 : decode cX7_day 1 = .ok (.getfield 33, 3) := by decide +kernel
theorem dX7_day_4 : decode cX7_day 4 = .ok (.aload_n 0, 1) := by decide +kernel
theorem dX7_day_5 : decode cX7_day 5 = .ok (.getfield 40, 3) := by decide +kernel
theorem dX7_day_8 : decode cX7_day 8 = .ok (.invokevirtual 175, 3) := by decide +kernel
theorem dX7_day_11 : decode cX7_day 11 = .ok (.istore_n 1, 1) := by decide +kernel
theorem dX7_day_12 : decode cX7_day 12 = .ok (.aload_n 0, 1) := by decide +kernel
theorem dX7_day_13 : decode cX7_day 13 = .ok (.getfield 33, 3) := by decide +kernel
theorem dX7_day_16 : decode cX7_day 16 = .ok (.iconst 0, 1) := by decide +kernel
theorem dX7_day_17 : decode cX7_day 17 = .ok (.putfield 136, 3) := by decide +kernel
theorem dX7_day_20 : decode cX7_day 20 = .ok (.iload_n 1, 1) := by decide +kernel
theorem dX7_day_21 : decode cX7_day 21 = .ok (.ifCond .ge 5, 3) := by decide +kernel
theorem dX7_day_24 : decode cX7_day 24 = .ok (.iload_n 1, 1) := by decide +kernel
theorem dX7_day_25 : decode cX7_day 25 = .ok (.ireturn, 1) := by decide +kernel
theorem dX7_day_26 : decode cX7_day 26 = .ok (.iconst 0, 1) := by decide +kernel
theorem dX7_day_27 : decode cX7_day 27 = .ok (.istore_n 2, 1) := by decide +kernel
theorem dX7_day_28 : decode cX7_day 28 = .ok (.iload_n 2, 1) := by decide +kernel
theorem dX7_day_29 : decode cX7_day 29 = .ok (.aload_n 0, 1) := by decide +kernel
theorem dX7_day_30 : decode cX7_day 30 = .ok (.getfield 40, 3) := by decide +kernel
theorem dX7_day_33 : decode cX7_day 33 = .ok (.getfield 179, 3) := by decide +kernel
theorem dX7_day_36 : decode cX7_day 36 = .ok (.if_icmp .ge 45, 3) := by decide +kernel
theorem dX7_day_39 : decode cX7_day 39 = .ok (.aload_n 0, 1) := by decide +kernel
theorem dX7_day_40 : decode cX7_day 40 = .ok (.aload_n 0, 1) := by decide +kernel
theorem dX7_day_41 : decode cX7_day 41 = .ok (.getfield 40, 3) := by decide +kernel
theorem dX7_day_44 : decode cX7_day 44 = .ok (.getfield 180, 3) := by decide +kernel
theorem dX7_day_47 : decode cX7_day 47 = .ok (.iload_n 2, 1) := by decide +kernel
theorem dX7_day_48 : decode cX7_day 48 = .ok (.iaload, 1) := by decide +kernel
theorem dX7_day_49 : decode cX7_day 49 = .ok (.aload_n 0, 1) := by decide +kernel
theorem dX7_day_50 : decode cX7_day 50 = .ok (.getfield 40, 3) := by decide +kernel
theorem dX7_day_53 : decode cX7_day 53 = .ok (.getfield 183, 3) := by decide +kernel
theorem dX7_day_56 : decode cX7_day 56 = .ok (.iload_n 2, 1) := by decide +kernel
theorem dX7_day_57 : decode cX7_day 57 = .ok (.iaload, 1) := by decide +kernel
theorem dX7_day_58 : decode cX7_day 58 = .ok (.aload_n 0, 1) := by decide +kernel
theorem dX7_day_59 : decode cX7_day 59 = .ok (.getfield 40, 3) := by decide +kernel
theorem dX7_day_62 : decode cX7_day 62 = .ok (.getfield 186, 3) := by decide +kernel
theorem dX7_day_65 : decode cX7_day 65 = .ok (.iload_n 2, 1) := by decide +kernel
theorem dX7_day_66 : decode cX7_day 66 = .ok (.iaload, 1) := by decide +kernel
theorem dX7_day_67 : decode cX7_day 67 = .ok (.invokevirtual 189, 3) := by decide +kernel
theorem dX7_day_70 : decode cX7_day 70 = .ok (.ifCond .ge 5, 3) := by decide +kernel
theorem dX7_day_73 : decode cX7_day 73 = .ok (.iload_n 2, 1) := by decide +kernel
theorem dX7_day_74 : decode cX7_day 74 = .ok (.ireturn, 1) := by decide +kernel
theorem dX7_day_75 : decode cX7_day 75 = .ok (.iinc 2 1, 3) := by decide +kernel
theorem dX7_day_78 : decode cX7_day 78 = .ok (.goto (-50), 3) := by decide +kernel
theorem dX7_day_81 : decode cX7_day 81 = .ok (.aload_n 0, 1) := by decide +kernel
theorem dX7_day_82 : decode cX7_day 82 = .ok (.getfield 40, 3) := by decide +kernel
theorem dX7_day_85 : decode cX7_day 85 = .ok (.getfield 179, 3) := by decide +kernel
theorem dX7_day_88 : decode cX7_day 88 = .ok (.ireturn, 1) := by decide +kernel
theorem dX7_count_0 : decode cX7_count 0 = .ok (.iload_n 1, 1) := by decide +kernel
theorem dX7_count_1 : decode cX7_count 1 = .ok (.tableswitch 135 0 7 #[47, 58, 69, 80, 91, 102, 113, 124], 47) := by decide +kernel
theorem dX7_count_48 : decode cX7_count 48 = .ok (.aload_n 0, 1) := by decide +kernel
theorem dX7_count_49 : decode cX7_count 49 = .ok (.getfield 10, 3) := by decide +kernel
theorem dX7_count_52 : decode cX7_count 52 = .ok (.getfield 63, 3) := by decide +kernel
theorem dX7_count_55 : decode cX7_count 55 = .ok (.getfield 153, 3) := by decide +kernel
theorem dX7_count_58 : decode cX7_count 58 = .ok (.ireturn, 1) := by decide +kernel
theorem dX7_count_59 : decode cX7_count 59 = .ok (.aload_n 0, 1) := by decide +kernel
theorem dX7_count_60 : decode cX7_count 60 = .ok (.getfield 10, 3) := by decide +kernel
theorem dX7_count_63 : decode cX7_count 63 = .ok (.getfield 63, 3) := by decide +kernel
theorem dX7_count_66 : decode cX7_count 66 = .ok (.getfield 66, 3) := by decide +kernel
theorem dX7_count_69 : decode cX7_count 69 = .ok (.ireturn, 1) := by decide +kernel
theorem dX7_count_70 : decode cX7_count 70 = .ok (.aload_n 0, 1) := by decide +kernel
theorem dX7_count_71 : decode cX7_count 71 = .ok (.getfield 10, 3) := by decide +kernel
theorem dX7_count_74 : decode cX7_count 74 = .ok (.getfield 63, 3) := by decide +kernel
theorem dX7_count_77 : decode cX7_count 77 = .ok (.getfield 193, 3) := by decide +kernel
theorem dX7_count_80 : decode cX7_count 80 = .ok (.ireturn, 1) := by decide +kernel
theorem dX7_count_81 : decode cX7_count 81 = .ok (.aload_n 0, 1) := by decide +kernel
theorem dX7_count_82 : decode cX7_count 82 = .ok (.getfield 10, 3) := by decide +kernel
theorem dX7_count_85 : decode cX7_count 85 = .ok (.getfield 63, 3) := by decide +kernel
theorem dX7_count_88 : decode cX7_count 88 = .ok (.invokevirtual 196, 3) := by decide +kernel
theorem dX7_count_91 : decode cX7_count 91 = .ok (.ireturn, 1) := by decide +kernel
theorem dX7_count_92 : decode cX7_count 92 = .ok (.aload_n 0, 1) := by decide +kernel
theorem dX7_count_93 : decode cX7_count 93 = .ok (.getfield 10, 3) := by decide +kernel
theorem dX7_count_96 : decode cX7_count 96 = .ok (.getfield 63, 3) := by decide +kernel
theorem dX7_count_99 : decode cX7_count 99 = .ok (.getfield 200, 3) := by decide +kernel
theorem dX7_count_102 : decode cX7_count 102 = .ok (.ireturn, 1) := by decide +kernel
theorem dX7_count_103 : decode cX7_count 103 = .ok (.aload_n 0, 1) := by decide +kernel
theorem dX7_count_104 : decode cX7_count 104 = .ok (.getfield 10, 3) := by decide +kernel
theorem dX7_count_107 : decode cX7_count 107 = .ok (.getfield 77, 3) := by decide +kernel
theorem dX7_count_110 : decode cX7_count 110 = .ok (.getfield 174, 3) := by decide +kernel
theorem dX7_count_113 : decode cX7_count 113 = .ok (.ireturn, 1) := by decide +kernel
theorem dX7_count_114 : decode cX7_count 114 = .ok (.aload_n 0, 1) := by decide +kernel
theorem dX7_count_115 : decode cX7_count 115 = .ok (.getfield 10, 3) := by decide +kernel
theorem dX7_count_118 : decode cX7_count 118 = .ok (.getfield 87, 3) := by decide +kernel
theorem dX7_count_121 : decode cX7_count 121 = .ok (.getfield 91, 3) := by decide +kernel
theorem dX7_count_124 : decode cX7_count 124 = .ok (.ireturn, 1) := by decide +kernel
theorem dX7_count_125 : decode cX7_count 125 = .ok (.aload_n 0, 1) := by decide +kernel
theorem dX7_count_126 : decode cX7_count 126 = .ok (.getfield 10, 3) := by decide +kernel
theorem dX7_count_129 : decode cX7_count 129 = .ok (.getfield 63, 3) := by decide +kernel
theorem dX7_count_132 : decode cX7_count 132 = .ok (.invokevirtual 203, 3) := by decide +kernel
theorem dX7_count_135 : decode cX7_count 135 = .ok (.ireturn, 1) := by decide +kernel
theorem dX7_count_136 : decode cX7_count 136 = .ok (.iconst (-1), 1) := by decide +kernel
theorem dX7_count_137 : decode cX7_count 137 = .ok (.ireturn, 1) := by decide +kernel
theorem dX7_heard_0 : decode cX7_heard 0 = .ok (.aload_n 0, 1) := by decide +kernel
theorem dX7_heard_1 : decode cX7_heard 1 = .ok (.getfield 10, 3) := by decide +kernel
theorem dX7_heard_4 : decode cX7_heard 4 = .ok (.getfield 63, 3) := by decide +kernel
theorem dX7_heard_7 : decode cX7_heard 7 = .ok (.getfield 206, 3) := by decide +kernel
theorem dX7_heard_10 : decode cX7_heard 10 = .ok (.ireturn, 1) := by decide +kernel
theorem dX7_place_0 : decode cX7_place 0 = .ok (.aload_n 0, 1) := by decide +kernel
theorem dX7_place_1 : decode cX7_place 1 = .ok (.iload_n 1, 1) := by decide +kernel
theorem dX7_place_2 : decode cX7_place 2 = .ok (.invokevirtual 96, 3) := by decide +kernel
theorem dX7_place_5 : decode cX7_place 5 = .ok (.ifCond .eq 17, 3) := by decide +kernel
theorem dX7_place_8 : decode cX7_place 8 = .ok (.aload_n 0, 1) := by decide +kernel
theorem dX7_place_9 : decode cX7_place 9 = .ok (.getfield 10, 3) := by decide +kernel
theorem dX7_place_12 : decode cX7_place 12 = .ok (.getfield 63, 3) := by decide +kernel
theorem dX7_place_15 : decode cX7_place 15 = .ok (.iload_n 1, 1) := by decide +kernel
theorem dX7_place_16 : decode cX7_place 16 = .ok (.invokevirtual 209, 3) := by decide +kernel
theorem dX7_place_19 : decode cX7_place 19 = .ok (.goto 4, 3) := by decide +kernel
theorem dX7_place_22 : decode cX7_place 22 = .ok (.iconst (-1), 1) := by decide +kernel
theorem dX7_place_23 : decode cX7_place 23 = .ok (.ireturn, 1) := by decide +kernel
theorem dX7_hour_0 : decode cX7_hour 0 = .ok (.aload_n 0, 1) := by decide +kernel
theorem dX7_hour_1 : decode cX7_hour 1 = .ok (.getfield 10, 3) := by decide +kernel
theorem dX7_hour_4 : decode cX7_hour 4 = .ok (.getfield 63, 3) := by decide +kernel
theorem dX7_hour_7 : decode cX7_hour 7 = .ok (.getfield 193, 3) := by decide +kernel
theorem dX7_hour_10 : decode cX7_hour 10 = .ok (.sipush 9999, 3) := by decide +kernel
theorem dX7_hour_13 : decode cX7_hour 13 = .ok (.if_icmp .lt 6, 3) := by decide +kernel
theorem dX7_hour_16 : decode cX7_hour 16 = .ok (.bipush (-3), 2) := by decide +kernel
theorem dX7_hour_18 : decode cX7_hour 18 = .ok (.ireturn, 1) := by decide +kernel
theorem dX7_hour_19 : decode cX7_hour 19 = .ok (.aload_n 0, 1) := by decide +kernel
theorem dX7_hour_20 : decode cX7_hour 20 = .ok (.getfield 10, 3) := by decide +kernel
theorem dX7_hour_23 : decode cX7_hour 23 = .ok (.getfield 63, 3) := by decide +kernel
theorem dX7_hour_26 : decode cX7_hour 26 = .ok (.iconst (-1), 1) := by decide +kernel
theorem dX7_hour_27 : decode cX7_hour 27 = .ok (.invokevirtual 212, 3) := by decide +kernel
theorem dX7_hour_30 : decode cX7_hour 30 = .ok (.ireturn, 1) := by decide +kernel
theorem dX7_wind_0 : decode cX7_wind 0 = .ok (.aload_n 0, 1) := by decide +kernel
theorem dX7_wind_1 : decode cX7_wind 1 = .ok (.iload_n 1, 1) := by decide +kernel
theorem dX7_wind_2 : decode cX7_wind 2 = .ok (.invokevirtual 96, 3) := by decide +kernel
theorem dX7_wind_5 : decode cX7_wind 5 = .ok (.ifCond .eq 13, 3) := by decide +kernel
theorem dX7_wind_8 : decode cX7_wind 8 = .ok (.iload_n 2, 1) := by decide +kernel
theorem dX7_wind_9 : decode cX7_wind 9 = .ok (.iconst 1, 1) := by decide +kernel
theorem dX7_wind_10 : decode cX7_wind 10 = .ok (.bipush 99, 2) := by decide +kernel
theorem dX7_wind_12 : decode cX7_wind 12 = .ok (.invokestatic 55, 3) := by decide +kernel
theorem dX7_wind_15 : decode cX7_wind 15 = .ok (.ifCond .ne 5, 3) := by decide +kernel
theorem dX7_wind_18 : decode cX7_wind 18 = .ok (.iconst (-1), 1) := by decide +kernel
theorem dX7_wind_19 : decode cX7_wind 19 = .ok (.ireturn, 1) := by decide +kernel
theorem dX7_wind_20 : decode cX7_wind 20 = .ok (.aload_n 0, 1) := by decide +kernel
theorem dX7_wind_21 : decode cX7_wind 21 = .ok (.getfield 10, 3) := by decide +kernel
theorem dX7_wind_24 : decode cX7_wind 24 = .ok (.getfield 87, 3) := by decide +kernel
theorem dX7_wind_27 : decode cX7_wind 27 = .ok (.iconst 0, 1) := by decide +kernel
theorem dX7_wind_28 : decode cX7_wind 28 = .ok (.iload_n 1, 1) := by decide +kernel
theorem dX7_wind_29 : decode cX7_wind 29 = .ok (.aload_n 0, 1) := by decide +kernel
theorem dX7_wind_30 : decode cX7_wind 30 = .ok (.getfield 10, 3) := by decide +kernel
theorem dX7_wind_33 : decode cX7_wind 33 = .ok (.getfield 63, 3) := by decide +kernel
theorem dX7_wind_36 : decode cX7_wind 36 = .ok (.getfield 105, 3) := by decide +kernel
theorem dX7_wind_39 : decode cX7_wind 39 = .ok (.iload_n 1, 1) := by decide +kernel
theorem dX7_wind_40 : decode cX7_wind 40 = .ok (.iaload, 1) := by decide +kernel
theorem dX7_wind_41 : decode cX7_wind 41 = .ok (.invokevirtual 215, 3) := by decide +kernel
theorem dX7_wind_44 : decode cX7_wind 44 = .ok (.aload_n 0, 1) := by decide +kernel
theorem dX7_wind_45 : decode cX7_wind 45 = .ok (.getfield 10, 3) := by decide +kernel
theorem dX7_wind_48 : decode cX7_wind 48 = .ok (.getfield 63, 3) := by decide +kernel
theorem dX7_wind_51 : decode cX7_wind 51 = .ok (.iload_n 1, 1) := by decide +kernel
theorem dX7_wind_52 : decode cX7_wind 52 = .ok (.iload_n 2, 1) := by decide +kernel
theorem dX7_wind_53 : decode cX7_wind 53 = .ok (.invokevirtual 219, 3) := by decide +kernel
theorem dX7_wind_56 : decode cX7_wind 56 = .ok (.aload_n 0, 1) := by decide +kernel
theorem dX7_wind_57 : decode cX7_wind 57 = .ok (.getfield 10, 3) := by decide +kernel
theorem dX7_wind_60 : decode cX7_wind 60 = .ok (.getfield 63, 3) := by decide +kernel
theorem dX7_wind_63 : decode cX7_wind 63 = .ok (.getfield 105, 3) := by decide +kernel
theorem dX7_wind_66 : decode cX7_wind 66 = .ok (.iload_n 1, 1) := by decide +kernel
theorem dX7_wind_67 : decode cX7_wind 67 = .ok (.iaload, 1) := by decide +kernel
theorem dX7_wind_68 : decode cX7_wind 68 = .ok (.ireturn, 1) := by decide +kernel
theorem dX7_turn_0 : decode cX7_turn 0 = .ok (.aload_n 0, 1) := by decide +kernel
theorem dX7_turn_1 : decode cX7_turn 1 = .ok (.iload_n 1, 1) := by decide +kernel
theorem dX7_turn_2 : decode cX7_turn 2 = .ok (.invokevirtual 96, 3) := by decide +kernel
theorem dX7_turn_5 : decode cX7_turn 5 = .ok (.ifCond .eq 14, 3) := by decide +kernel
theorem dX7_turn_8 : decode cX7_turn 8 = .ok (.iload_n 2, 1) := by decide +kernel
theorem dX7_turn_9 : decode cX7_turn 9 = .ok (.iconst 1, 1) := by decide +kernel
theorem dX7_turn_10 : decode cX7_turn 10 = .ok (.sipush 719, 3) := by decide +kernel
theorem dX7_turn_13 : decode cX7_turn 13 = .ok (.invokestatic 55, 3) := by decide +kernel
theorem dX7_turn_16 : decode cX7_turn 16 = .ok (.ifCond .ne 5, 3) := by decide +kernel
theorem dX7_turn_19 : decode cX7_turn 19 = .ok (.iconst (-1), 1) := by decide +kernel
theorem dX7_turn_20 : decode cX7_turn 20 = .ok (.ireturn, 1) := by decide +kernel
theorem dX7_turn_21 : decode cX7_turn 21 = .ok (.aload_n 0, 1) := by decide +kernel
theorem dX7_turn_22 : decode cX7_turn 22 = .ok (.getfield 10, 3) := by decide +kernel
theorem dX7_turn_25 : decode cX7_turn 25 = .ok (.getfield 87, 3) := by decide +kernel
theorem dX7_turn_28 : decode cX7_turn 28 = .ok (.iconst 1, 1) := by decide +kernel
theorem dX7_turn_29 : decode cX7_turn 29 = .ok (.iload_n 1, 1) := by decide +kernel
theorem dX7_turn_30 : decode cX7_turn 30 = .ok (.aload_n 0, 1) := by decide +kernel
theorem dX7_turn_31 : decode cX7_turn 31 = .ok (.getfield 10, 3) := by decide +kernel
theorem dX7_turn_34 : decode cX7_turn 34 = .ok (.getfield 63, 3) := by decide +kernel
theorem dX7_turn_37 : decode cX7_turn 37 = .ok (.getfield 102, 3) := by decide +kernel
theorem dX7_turn_40 : decode cX7_turn 40 = .ok (.iload_n 1, 1) := by decide +kernel
theorem dX7_turn_41 : decode cX7_turn 41 = .ok (.iaload, 1) := by decide +kernel
theorem dX7_turn_42 : decode cX7_turn 42 = .ok (.invokevirtual 215, 3) := by decide +kernel
theorem dX7_turn_45 : decode cX7_turn 45 = .ok (.aload_n 0, 1) := by decide +kernel
theorem dX7_turn_46 : decode cX7_turn 46 = .ok (.getfield 10, 3) := by decide +kernel
theorem dX7_turn_49 : decode cX7_turn 49 = .ok (.getfield 63, 3) := by decide +kernel
theorem dX7_turn_52 : decode cX7_turn 52 = .ok (.iload_n 1, 1) := by decide +kernel
theorem dX7_turn_53 : decode cX7_turn 53 = .ok (.iload_n 2, 1) := by decide +kernel
theorem dX7_turn_54 : decode cX7_turn 54 = .ok (.invokevirtual 223, 3) := by decide +kernel
theorem dX7_turn_57 : decode cX7_turn 57 = .ok (.aload_n 0, 1) := by decide +kernel
theorem dX7_turn_58 : decode cX7_turn 58 = .ok (.getfield 10, 3) := by decide +kernel
theorem dX7_turn_61 : decode cX7_turn 61 = .ok (.getfield 63, 3) := by decide +kernel
theorem dX7_turn_64 : decode cX7_turn 64 = .ok (.getfield 102, 3) := by decide +kernel
theorem dX7_turn_67 : decode cX7_turn 67 = .ok (.iload_n 1, 1) := by decide +kernel
theorem dX7_turn_68 : decode cX7_turn 68 = .ok (.iaload, 1) := by decide +kernel
theorem dX7_turn_69 : decode cX7_turn 69 = .ok (.ireturn, 1) := by decide +kernel
theorem dX7_tune_0 : decode cX7_tune 0 = .ok (.aload_n 0, 1) := by decide +kernel
theorem dX7_tune_1 : decode cX7_tune 1 = .ok (.iload_n 1, 1) := by decide +kernel
theorem dX7_tune_2 : decode cX7_tune 2 = .ok (.invokevirtual 96, 3) := by decide +kernel
theorem dX7_tune_5 : decode cX7_tune 5 = .ok (.ifCond .eq 10, 3) := by decide +kernel
theorem dX7_tune_8 : decode cX7_tune 8 = .ok (.iload_n 2, 1) := by decide +kernel
theorem dX7_tune_9 : decode cX7_tune 9 = .ok (.invokestatic 59, 3) := by decide +kernel
theorem dX7_tune_12 : decode cX7_tune 12 = .ok (.ifCond .ne 7, 3) := by decide +kernel
theorem dX7_tune_15 : decode cX7_tune 15 = .ok (.sipush (-1001), 3) := by decide +kernel
theorem dX7_tune_18 : decode cX7_tune 18 = .ok (.ireturn, 1) := by decide +kernel
theorem dX7_tune_19 : decode cX7_tune 19 = .ok (.aload_n 0, 1) := by decide +kernel
theorem dX7_tune_20 : decode cX7_tune 20 = .ok (.getfield 10, 3) := by decide +kernel
theorem dX7_tune_23 : decode cX7_tune 23 = .ok (.getfield 63, 3) := by decide +kernel
theorem dX7_tune_26 : decode cX7_tune 26 = .ok (.getfield 124, 3) := by decide +kernel
theorem dX7_tune_29 : decode cX7_tune 29 = .ok (.iload_n 1, 1) := by decide +kernel
theorem dX7_tune_30 : decode cX7_tune 30 = .ok (.iaload, 1) := by decide +kernel
theorem dX7_tune_31 : decode cX7_tune 31 = .ok (.istore_n 3, 1) := by decide +kernel
theorem dX7_tune_32 : decode cX7_tune 32 = .ok (.aload_n 0, 1) := by decide +kernel
theorem dX7_tune_33 : decode cX7_tune 33 = .ok (.getfield 10, 3) := by decide +kernel
theorem dX7_tune_36 : decode cX7_tune 36 = .ok (.getfield 87, 3) := by decide +kernel
theorem dX7_tune_39 : decode cX7_tune 39 = .ok (.iconst 2, 1) := by decide +kernel
theorem dX7_tune_40 : decode cX7_tune 40 = .ok (.iload_n 1, 1) := by decide +kernel
theorem dX7_tune_41 : decode cX7_tune 41 = .ok (.iload_n 3, 1) := by decide +kernel
theorem dX7_tune_42 : decode cX7_tune 42 = .ok (.invokevirtual 215, 3) := by decide +kernel
theorem dX7_tune_45 : decode cX7_tune 45 = .ok (.aload_n 0, 1) := by decide +kernel
theorem dX7_tune_46 : decode cX7_tune 46 = .ok (.getfield 10, 3) := by decide +kernel
theorem dX7_tune_49 : decode cX7_tune 49 = .ok (.getfield 63, 3) := by decide +kernel
theorem dX7_tune_52 : decode cX7_tune 52 = .ok (.getfield 124, 3) := by decide +kernel
theorem dX7_tune_55 : decode cX7_tune 55 = .ok (.iload_n 1, 1) := by decide +kernel
theorem dX7_tune_56 : decode cX7_tune 56 = .ok (.iload_n 2, 1) := by decide +kernel
theorem dX7_tune_57 : decode cX7_tune 57 = .ok (.iastore, 1) := by decide +kernel
theorem dX7_tune_58 : decode cX7_tune 58 = .ok (.iload_n 3, 1) := by decide +kernel
theorem dX7_tune_59 : decode cX7_tune 59 = .ok (.ireturn, 1) := by decide +kernel
theorem dX7_breathe_0 : decode cX7_breathe 0 = .ok (.aload_n 0, 1) := by decide +kernel
theorem dX7_breathe_1 : decode cX7_breathe 1 = .ok (.iload_n 1, 1) := by decide +kernel
theorem dX7_breathe_2 : decode cX7_breathe 2 = .ok (.invokevirtual 127, 3) := by decide +kernel
theorem dX7_breathe_5 : decode cX7_breathe 5 = .ok (.ifCond .ne 5, 3) := by decide +kernel
theorem dX7_breathe_8 : decode cX7_breathe 8 = .ok (.iconst (-1), 1) := by decide +kernel
theorem dX7_breathe_9 : decode cX7_breathe 9 = .ok (.ireturn, 1) := by decide +kernel
theorem dX7_breathe_10 : decode cX7_breathe 10 = .ok (.aload_n 0, 1) := by decide +kernel
theorem dX7_breathe_11 : decode cX7_breathe 11 = .ok (.getfield 10, 3) := by decide +kernel
theorem dX7_breathe_14 : decode cX7_breathe 14 = .ok (.getfield 63, 3) := by decide +kernel
theorem dX7_breathe_17 : decode cX7_breathe 17 = .ok (.getfield 130, 3) := by decide +kernel
theorem dX7_breathe_20 : decode cX7_breathe 20 = .ok (.iload_n 1, 1) := by decide +kernel
theorem dX7_breathe_21 : decode cX7_breathe 21 = .ok (.iaload, 1) := by decide +kernel
theorem dX7_breathe_22 : decode cX7_breathe 22 = .ok (.istore_n 2, 1) := by decide +kernel
theorem dX7_breathe_23 : decode cX7_breathe 23 = .ok (.iload_n 2, 1) := by decide +kernel
theorem dX7_breathe_24 : decode cX7_breathe 24 = .ok (.bipush 12, 2) := by decide +kernel
theorem dX7_breathe_26 : decode cX7_breathe 26 = .ok (.if_icmp .ne 6, 3) := by decide +kernel
theorem dX7_breathe_29 : decode cX7_breathe 29 = .ok (.bipush (-2), 2) := by decide +kernel
theorem dX7_breathe_31 : decode cX7_breathe 31 = .ok (.ireturn, 1) := by decide +kernel
theorem dX7_breathe_32 : decode cX7_breathe 32 = .ok (.aload_n 0, 1) := by decide +kernel
theorem dX7_breathe_33 : decode cX7_breathe 33 = .ok (.getfield 10, 3) := by decide +kernel
theorem dX7_breathe_36 : decode cX7_breathe 36 = .ok (.getfield 87, 3) := by decide +kernel
theorem dX7_breathe_39 : decode cX7_breathe 39 = .ok (.iconst 3, 1) := by decide +kernel
theorem dX7_breathe_40 : decode cX7_breathe 40 = .ok (.iload_n 1, 1) := by decide +kernel
theorem dX7_breathe_41 : decode cX7_breathe 41 = .ok (.iload_n 2, 1) := by decide +kernel
theorem dX7_breathe_42 : decode cX7_breathe 42 = .ok (.invokevirtual 215, 3) := by decide +kernel
theorem dX7_breathe_45 : decode cX7_breathe 45 = .ok (.aload_n 0, 1) := by decide +kernel
theorem dX7_breathe_46 : decode cX7_breathe 46 = .ok (.getfield 10, 3) := by decide +kernel
theorem dX7_breathe_49 : decode cX7_breathe 49 = .ok (.getfield 63, 3) := by decide +kernel
theorem dX7_breathe_52 : decode cX7_breathe 52 = .ok (.getfield 130, 3) := by decide +kernel
theorem dX7_breathe_55 : decode cX7_breathe 55 = .ok (.iload_n 1, 1) := by decide +kernel
theorem dX7_breathe_56 : decode cX7_breathe 56 = .ok (.bipush 12, 2) := by decide +kernel
theorem dX7_breathe_58 : decode cX7_breathe 58 = .ok (.iastore, 1) := by decide +kernel
theorem dX7_breathe_59 : decode cX7_breathe 59 = .ok (.iload_n 2, 1) := by decide +kernel
theorem dX7_breathe_60 : decode cX7_breathe 60 = .ok (.ireturn, 1) := by decide +kernel
theorem dX7_undo_0 : decode cX7_undo 0 = .ok (.aload_n 0, 1) := by decide +kernel
theorem dX7_undo_1 : decode cX7_undo 1 = .ok (.getfield 10, 3) := by decide +kernel
theorem dX7_undo_4 : decode cX7_undo 4 = .ok (.getfield 87, 3) := by decide +kernel
theorem dX7_undo_7 : decode cX7_undo 7 = .ok (.getfield 91, 3) := by decide +kernel
theorem dX7_undo_10 : decode cX7_undo 10 = .ok (.ifCond .ne 6, 3) := by decide +kernel
theorem dX7_undo_13 : decode cX7_undo 13 = .ok (.bipush (-4), 2) := by decide +kernel
theorem dX7_undo_15 : decode cX7_undo 15 = .ok (.ireturn, 1) := by decide +kernel
theorem dX7_undo_16 : decode cX7_undo 16 = .ok (.aload_n 0, 1) := by decide +kernel
theorem dX7_undo_17 : decode cX7_undo 17 = .ok (.getfield 10, 3) := by decide +kernel
theorem dX7_undo_20 : decode cX7_undo 20 = .ok (.getfield 87, 3) := by decide +kernel
theorem dX7_undo_23 : decode cX7_undo 23 = .ok (.aload_n 0, 1) := by decide +kernel
theorem dX7_undo_24 : decode cX7_undo 24 = .ok (.getfield 10, 3) := by decide +kernel
theorem dX7_undo_27 : decode cX7_undo 27 = .ok (.getfield 63, 3) := by decide +kernel
theorem dX7_undo_30 : decode cX7_undo 30 = .ok (.invokevirtual 226, 3) := by decide +kernel
theorem dX7_undo_33 : decode cX7_undo 33 = .ok (.aload_n 0, 1) := by decide +kernel
theorem dX7_undo_34 : decode cX7_undo 34 = .ok (.getfield 10, 3) := by decide +kernel
theorem dX7_undo_37 : decode cX7_undo 37 = .ok (.getfield 87, 3) := by decide +kernel
theorem dX7_undo_40 : decode cX7_undo 40 = .ok (.getfield 91, 3) := by decide +kernel
theorem dX7_undo_43 : decode cX7_undo 43 = .ok (.ireturn, 1) := by decide +kernel
theorem dX7_restart_0 : decode cX7_restart 0 = .ok (.aload_n 0, 1) := by decide +kernel
theorem dX7_restart_1 : decode cX7_restart 1 = .ok (.getfield 10, 3) := by decide +kernel
theorem dX7_restart_4 : decode cX7_restart 4 = .ok (.getfield 63, 3) := by decide +kernel
theorem dX7_restart_7 : decode cX7_restart 7 = .ok (.invokevirtual 196, 3) := by decide +kernel
theorem dX7_restart_10 : decode cX7_restart 10 = .ok (.istore_n 1, 1) := by decide +kernel
theorem dX7_restart_11 : decode cX7_restart 11 = .ok (.aload_n 0, 1) := by decide +kernel
theorem dX7_restart_12 : decode cX7_restart 12 = .ok (.getfield 10, 3) := by decide +kernel
theorem dX7_restart_15 : decode cX7_restart 15 = .ok (.getfield 63, 3) := by decide +kernel
theorem dX7_restart_18 : decode cX7_restart 18 = .ok (.invokevirtual 156, 3) := by decide +kernel
theorem dX7_restart_21 : decode cX7_restart 21 = .ok (.aload_n 0, 1) := by decide +kernel
theorem dX7_restart_22 : decode cX7_restart 22 = .ok (.getfield 10, 3) := by decide +kernel
theorem dX7_restart_25 : decode cX7_restart 25 = .ok (.getfield 63, 3) := by decide +kernel
theorem dX7_restart_28 : decode cX7_restart 28 = .ok (.invokevirtual 167, 3) := by decide +kernel
theorem dX7_restart_31 : decode cX7_restart 31 = .ok (.aload_n 0, 1) := by decide +kernel
theorem dX7_restart_32 : decode cX7_restart 32 = .ok (.getfield 10, 3) := by decide +kernel
theorem dX7_restart_35 : decode cX7_restart 35 = .ok (.getfield 63, 3) := by decide +kernel
theorem dX7_restart_38 : decode cX7_restart 38 = .ok (.iconst 0, 1) := by decide +kernel
theorem dX7_restart_39 : decode cX7_restart 39 = .ok (.putfield 193, 3) := by decide +kernel
theorem dX7_restart_42 : decode cX7_restart 42 = .ok (.aload_n 0, 1) := by decide +kernel
theorem dX7_restart_43 : decode cX7_restart 43 = .ok (.getfield 10, 3) := by decide +kernel
theorem dX7_restart_46 : decode cX7_restart 46 = .ok (.getfield 87, 3) := by decide +kernel
theorem dX7_restart_49 : decode cX7_restart 49 = .ok (.iconst 0, 1) := by decide +kernel
theorem dX7_restart_50 : decode cX7_restart 50 = .ok (.putfield 91, 3) := by decide +kernel
theorem dX7_restart_53 : decode cX7_restart 53 = .ok (.iload_n 1, 1) := by decide +kernel
theorem dX7_restart_54 : decode cX7_restart 54 = .ok (.ireturn, 1) := by decide +kernel
theorem dX7_behind_0 : decode cX7_behind 0 = .ok (.aload_n 0, 1) := by decide +kernel
theorem dX7_behind_1 : decode cX7_behind 1 = .ok (.iload_n 1, 1) := by decide +kernel
theorem dX7_behind_2 : decode cX7_behind 2 = .ok (.invokevirtual 96, 3) := by decide +kernel
theorem dX7_behind_5 : decode cX7_behind 5 = .ok (.ifCond .eq 19, 3) := by decide +kernel
theorem dX7_behind_8 : decode cX7_behind 8 = .ok (.iload_n 2, 1) := by decide +kernel
theorem dX7_behind_9 : decode cX7_behind 9 = .ok (.invokestatic 229, 3) := by decide +kernel
theorem dX7_behind_12 : decode cX7_behind 12 = .ok (.ifCond .eq 12, 3) := by decide +kernel
theorem dX7_behind_15 : decode cX7_behind 15 = .ok (.iload_n 3, 1) := by decide +kernel
theorem dX7_behind_16 : decode cX7_behind 16 = .ok (.iconst 0, 1) := by decide +kernel
theorem dX7_behind_17 : decode cX7_behind 17 = .ok (.iconst 1, 1) := by decide +kernel
theorem dX7_behind_18 : decode cX7_behind 18 = .ok (.invokestatic 55, 3) := by decide +kernel
theorem dX7_behind_21 : decode cX7_behind 21 = .ok (.ifCond .ne 5, 3) := by decide +kernel
theorem dX7_behind_24 : decode cX7_behind 24 = .ok (.iconst (-1), 1) := by decide +kernel
theorem dX7_behind_25 : decode cX7_behind 25 = .ok (.ireturn, 1) := by decide +kernel
theorem dX7_behind_26 : decode cX7_behind 26 = .ok (.aload_n 0, 1) := by decide +kernel
theorem dX7_behind_27 : decode cX7_behind 27 = .ok (.iload_n 2, 1) := by decide +kernel
theorem dX7_behind_28 : decode cX7_behind 28 = .ok (.iconst (-1), 1) := by decide +kernel
theorem dX7_behind_29 : decode cX7_behind 29 = .ok (.invokevirtual 232, 3) := by decide +kernel
theorem dX7_behind_32 : decode cX7_behind 32 = .ok (.iload_n 3, 1) := by decide +kernel
theorem dX7_behind_33 : decode cX7_behind 33 = .ok (.ifCond .ne 15, 3) := by decide +kernel
theorem dX7_behind_36 : decode cX7_behind 36 = .ok (.aload_n 0, 1) := by decide +kernel
theorem dX7_behind_37 : decode cX7_behind 37 = .ok (.getfield 26, 3) := by decide +kernel
theorem dX7_behind_40 : decode cX7_behind 40 = .ok (.getfield 108, 3) := by decide +kernel
theorem dX7_behind_43 : decode cX7_behind 43 = .ok (.iload_n 1, 1) := by decide +kernel
theorem dX7_behind_44 : decode cX7_behind 44 = .ok (.iaload, 1) := by decide +kernel
theorem dX7_behind_45 : decode cX7_behind 45 = .ok (.goto 11, 3) := by decide +kernel
theorem dX7_behind_48 : decode cX7_behind 48 = .ok (.aload_n 0, 1) := by decide +kernel
theorem dX7_behind_49 : decode cX7_behind 49 = .ok (.getfield 26, 3) := by decide +kernel
theorem dX7_behind_52 : decode cX7_behind 52 = .ok (.iload_n 1, 1) := by decide +kernel
theorem dX7_behind_53 : decode cX7_behind 53 = .ok (.invokevirtual 209, 3) := by decide +kernel
theorem dX7_behind_56 : decode cX7_behind 56 = .ok (.ireturn, 1) := by decide +kernel
theorem dX7_leads_0 : decode cX7_leads 0 = .ok (.iload_n 1, 1) := by decide +kernel
theorem dX7_leads_1 : decode cX7_leads 1 = .ok (.invokestatic 229, 3) := by decide +kernel
theorem dX7_leads_4 : decode cX7_leads 4 = .ok (.ifCond .ne 5, 3) := by decide +kernel
theorem dX7_leads_7 : decode cX7_leads 7 = .ok (.iconst (-1), 1) := by decide +kernel
theorem dX7_leads_8 : decode cX7_leads 8 = .ok (.ireturn, 1) := by decide +kernel
theorem dX7_leads_9 : decode cX7_leads 9 = .ok (.aload_n 0, 1) := by decide +kernel
theorem dX7_leads_10 : decode cX7_leads 10 = .ok (.iload_n 1, 1) := by decide +kernel
theorem dX7_leads_11 : decode cX7_leads 11 = .ok (.iconst (-1), 1) := by decide +kernel
theorem dX7_leads_12 : decode cX7_leads 12 = .ok (.invokevirtual 232, 3) := by decide +kernel
theorem dX7_leads_15 : decode cX7_leads 15 = .ok (.aload_n 0, 1) := by decide +kernel
theorem dX7_leads_16 : decode cX7_leads 16 = .ok (.getfield 26, 3) := by decide +kernel
theorem dX7_leads_19 : decode cX7_leads 19 = .ok (.invokevirtual 235, 3) := by decide +kernel
theorem dX7_leads_22 : decode cX7_leads 22 = .ok (.ireturn, 1) := by decide +kernel
theorem dX7_finish_0 : decode cX7_finish 0 = .ok (.aload_n 0, 1) := by decide +kernel
theorem dX7_finish_1 : decode cX7_finish 1 = .ok (.iload_n 1, 1) := by decide +kernel
theorem dX7_finish_2 : decode cX7_finish 2 = .ok (.invokevirtual 96, 3) := by decide +kernel
theorem dX7_finish_5 : decode cX7_finish 5 = .ok (.ifCond .ne 5, 3) := by decide +kernel
theorem dX7_finish_8 : decode cX7_finish 8 = .ok (.iconst (-1), 1) := by decide +kernel
theorem dX7_finish_9 : decode cX7_finish 9 = .ok (.ireturn, 1) := by decide +kernel
theorem dX7_finish_10 : decode cX7_finish 10 = .ok (.aload_n 0, 1) := by decide +kernel
theorem dX7_finish_11 : decode cX7_finish 11 = .ok (.iload_n 1, 1) := by decide +kernel
theorem dX7_finish_12 : decode cX7_finish 12 = .ok (.iconst (-1), 1) := by decide +kernel
theorem dX7_finish_13 : decode cX7_finish 13 = .ok (.invokevirtual 238, 3) := by decide +kernel
theorem dX7_finish_16 : decode cX7_finish 16 = .ok (.istore_n 2, 1) := by decide +kernel
theorem dX7_finish_17 : decode cX7_finish 17 = .ok (.iload_n 2, 1) := by decide +kernel
theorem dX7_finish_18 : decode cX7_finish 18 = .ok (.sipush 200, 3) := by decide +kernel
theorem dX7_finish_21 : decode cX7_finish 21 = .ok (.if_icmp .le 8, 3) := by decide +kernel
theorem dX7_finish_24 : decode cX7_finish 24 = .ok (.bipush (-4), 2) := by decide +kernel
theorem dX7_finish_26 : decode cX7_finish 26 = .ok (.goto 12, 3) := by decide +kernel
theorem dX7_finish_29 : decode cX7_finish 29 = .ok (.aload_n 0, 1) := by decide +kernel
theorem dX7_finish_30 : decode cX7_finish 30 = .ok (.getfield 26, 3) := by decide +kernel
theorem dX7_finish_33 : decode cX7_finish 33 = .ok (.getfield 114, 3) := by decide +kernel
theorem dX7_finish_36 : decode cX7_finish 36 = .ok (.iload_n 1, 1) := by decide +kernel
theorem dX7_finish_37 : decode cX7_finish 37 = .ok (.iaload, 1) := by decide +kernel
theorem dX7_finish_38 : decode cX7_finish 38 = .ok (.ireturn, 1) := by decide +kernel
theorem dX7_over_0 : decode cX7_over 0 = .ok (.aload_n 0, 1) := by decide +kernel
theorem dX7_over_1 : decode cX7_over 1 = .ok (.getfield 26, 3) := by decide +kernel
theorem dX7_over_4 : decode cX7_over 4 = .ok (.aload_n 0, 1) := by decide +kernel
theorem dX7_over_5 : decode cX7_over 5 = .ok (.getfield 10, 3) := by decide +kernel
theorem dX7_over_8 : decode cX7_over 8 = .ok (.getfield 63, 3) := by decide +kernel
theorem dX7_over_11 : decode cX7_over 11 = .ok (.invokevirtual 143, 3) := by decide +kernel
theorem dX7_over_14 : decode cX7_over 14 = .ok (.iconst 0, 1) := by decide +kernel
theorem dX7_over_15 : decode cX7_over 15 = .ok (.istore_n 1, 1) := by decide +kernel
theorem dX7_over_16 : decode cX7_over 16 = .ok (.iload_n 1, 1) := by decide +kernel
theorem dX7_over_17 : decode cX7_over 17 = .ok (.sipush 200, 3) := by decide +kernel
theorem dX7_over_20 : decode cX7_over 20 = .ok (.if_icmp .gt 30, 3) := by decide +kernel
theorem dX7_over_23 : decode cX7_over 23 = .ok (.aload_n 0, 1) := by decide +kernel
theorem dX7_over_24 : decode cX7_over 24 = .ok (.getfield 26, 3) := by decide +kernel
theorem dX7_over_27 : decode cX7_over 27 = .ok (.invokevirtual 242, 3) := by decide +kernel
theorem dX7_over_30 : decode cX7_over 30 = .ok (.ifCond .eq 5, 3) := by decide +kernel
theorem dX7_over_33 : decode cX7_over 33 = .ok (.iload_n 1, 1) := by decide +kernel
theorem dX7_over_34 : decode cX7_over 34 = .ok (.ireturn, 1) := by decide +kernel
theorem dX7_over_35 : decode cX7_over 35 = .ok (.aload_n 0, 1) := by decide +kernel
theorem dX7_over_36 : decode cX7_over 36 = .ok (.getfield 26, 3) := by decide +kernel
theorem dX7_over_39 : decode cX7_over 39 = .ok (.iconst (-1), 1) := by decide +kernel
theorem dX7_over_40 : decode cX7_over 40 = .ok (.invokevirtual 212, 3) := by decide +kernel
theorem dX7_over_43 : decode cX7_over 43 = .ok (.pop, 1) := by decide +kernel
theorem dX7_over_44 : decode cX7_over 44 = .ok (.iinc 1 1, 3) := by decide +kernel
theorem dX7_over_47 : decode cX7_over 47 = .ok (.goto (-31), 3) := by decide +kernel
theorem dX7_over_50 : decode cX7_over 50 = .ok (.bipush (-4), 2) := by decide +kernel
theorem dX7_over_52 : decode cX7_over 52 = .ok (.ireturn, 1) := by decide +kernel
theorem dX7_turns_0 : decode cX7_turns 0 = .ok (.aload_n 0, 1) := by decide +kernel
theorem dX7_turns_1 : decode cX7_turns 1 = .ok (.iload_n 1, 1) := by decide +kernel
theorem dX7_turns_2 : decode cX7_turns 2 = .ok (.iload_n 2, 1) := by decide +kernel
theorem dX7_turns_3 : decode cX7_turns 3 = .ok (.iload_n 3, 1) := by decide +kernel
theorem dX7_turns_4 : decode cX7_turns 4 = .ok (.invokevirtual 246, 3) := by decide +kernel
theorem dX7_turns_7 : decode cX7_turns 7 = .ok (.ifCond .ne 5, 3) := by decide +kernel
theorem dX7_turns_10 : decode cX7_turns 10 = .ok (.iconst (-1), 1) := by decide +kernel
theorem dX7_turns_11 : decode cX7_turns 11 = .ok (.ireturn, 1) := by decide +kernel
theorem dX7_turns_12 : decode cX7_turns 12 = .ok (.aload_n 0, 1) := by decide +kernel
theorem dX7_turns_13 : decode cX7_turns 13 = .ok (.iload_n 1, 1) := by decide +kernel
theorem dX7_turns_14 : decode cX7_turns 14 = .ok (.iload_n 3, 1) := by decide +kernel
theorem dX7_turns_15 : decode cX7_turns 15 = .ok (.invokevirtual 249, 3) := by decide +kernel
theorem dX7_turns_18 : decode cX7_turns 18 = .ok (.istore 4, 2) := by decide +kernel
theorem dX7_turns_20 : decode cX7_turns 20 = .ok (.iconst 0, 1) := by decide +kernel
theorem dX7_turns_21 : decode cX7_turns 21 = .ok (.istore 5, 2) := by decide +kernel
theorem dX7_turns_23 : decode cX7_turns 23 = .ok (.iload 5, 2) := by decide +kernel
theorem dX7_turns_25 : decode cX7_turns 25 = .ok (.iload 4, 2) := by decide +kernel
theorem dX7_turns_27 : decode cX7_turns 27 = .ok (.if_icmp .gt 25, 3) := by decide +kernel
theorem dX7_turns_30 : decode cX7_turns 30 = .ok (.aload_n 0, 1) := by decide +kernel
theorem dX7_turns_31 : decode cX7_turns 31 = .ok (.iload_n 1, 1) := by decide +kernel
theorem dX7_turns_32 : decode cX7_turns 32 = .ok (.iload_n 2, 1) := by decide +kernel
theorem dX7_turns_33 : decode cX7_turns 33 = .ok (.iload_n 3, 1) := by decide +kernel
theorem dX7_turns_34 : decode cX7_turns 34 = .ok (.iload 5, 2) := by decide +kernel
theorem dX7_turns_36 : decode cX7_turns 36 = .ok (.iconst 0, 1) := by decide +kernel
theorem dX7_turns_37 : decode cX7_turns 37 = .ok (.invokevirtual 252, 3) := by decide +kernel
theorem dX7_turns_40 : decode cX7_turns 40 = .ok (.ifCond .eq 6, 3) := by decide +kernel
theorem dX7_turns_43 : decode cX7_turns 43 = .ok (.iload 5, 2) := by decide +kernel
theorem dX7_turns_45 : decode cX7_turns 45 = .ok (.ireturn, 1) := by decide +kernel
theorem dX7_turns_46 : decode cX7_turns 46 = .ok (.iinc 5 1, 3) := by decide +kernel
theorem dX7_turns_49 : decode cX7_turns 49 = .ok (.goto (-26), 3) := by decide +kernel
theorem dX7_turns_52 : decode cX7_turns 52 = .ok (.bipush (-4), 2) := by decide +kernel
theorem dX7_turns_54 : decode cX7_turns 54 = .ok (.ireturn, 1) := by decide +kernel
theorem dX7_hands_0 : decode cX7_hands 0 = .ok (.aload_n 0, 1) := by decide +kernel
theorem dX7_hands_1 : decode cX7_hands 1 = .ok (.iload_n 1, 1) := by decide +kernel
theorem dX7_hands_2 : decode cX7_hands 2 = .ok (.iload_n 2, 1) := by decide +kernel
theorem dX7_hands_3 : decode cX7_hands 3 = .ok (.iload_n 3, 1) := by decide +kernel
theorem dX7_hands_4 : decode cX7_hands 4 = .ok (.invokevirtual 246, 3) := by decide +kernel
theorem dX7_hands_7 : decode cX7_hands 7 = .ok (.ifCond .ne 5, 3) := by decide +kernel
theorem dX7_hands_10 : decode cX7_hands 10 = .ok (.iconst (-1), 1) := by decide +kernel
theorem dX7_hands_11 : decode cX7_hands 11 = .ok (.ireturn, 1) := by decide +kernel
theorem dX7_hands_12 : decode cX7_hands 12 = .ok (.iconst 0, 1) := by decide +kernel
theorem dX7_hands_13 : decode cX7_hands 13 = .ok (.istore 4, 2) := by decide +kernel
theorem dX7_hands_15 : decode cX7_hands 15 = .ok (.iload 4, 2) := by decide +kernel
theorem dX7_hands_17 : decode cX7_hands 17 = .ok (.bipush 12, 2) := by decide +kernel
theorem dX7_hands_19 : decode cX7_hands 19 = .ok (.if_icmp .ge 25, 3) := by decide +kernel
theorem dX7_hands_22 : decode cX7_hands 22 = .ok (.aload_n 0, 1) := by decide +kernel
theorem dX7_hands_23 : decode cX7_hands 23 = .ok (.iload_n 1, 1) := by decide +kernel
theorem dX7_hands_24 : decode cX7_hands 24 = .ok (.iload_n 2, 1) := by decide +kernel
theorem dX7_hands_25 : decode cX7_hands 25 = .ok (.iload_n 3, 1) := by decide +kernel
theorem dX7_hands_26 : decode cX7_hands 26 = .ok (.iconst 0, 1) := by decide +kernel
theorem dX7_hands_27 : decode cX7_hands 27 = .ok (.iload 4, 2) := by decide +kernel
theorem dX7_hands_29 : decode cX7_hands 29 = .ok (.invokevirtual 252, 3) := by decide +kernel
theorem dX7_hands_32 : decode cX7_hands 32 = .ok (.ifCond .eq 6, 3) := by decide +kernel
theorem dX7_hands_35 : decode cX7_hands 35 = .ok (.iload 4, 2) := by decide +kernel
theorem dX7_hands_37 : decode cX7_hands 37 = .ok (.ireturn, 1) := by decide +kernel
theorem dX7_hands_38 : decode cX7_hands 38 = .ok (.iinc 4 1, 3) := by decide +kernel
theorem dX7_hands_41 : decode cX7_hands 41 = .ok (.goto (-26), 3) := by decide +kernel
theorem dX7_hands_44 : decode cX7_hands 44 = .ok (.bipush (-4), 2) := by decide +kernel
theorem dX7_hands_46 : decode cX7_hands 46 = .ok (.ireturn, 1) := by decide +kernel
theorem dX7_both_0 : decode cX7_both 0 = .ok (.aload_n 0, 1) := by decide +kernel
theorem dX7_both_1 : decode cX7_both 1 = .ok (.iload_n 1, 1) := by decide +kernel
theorem dX7_both_2 : decode cX7_both 2 = .ok (.iload_n 2, 1) := by decide +kernel
theorem dX7_both_3 : decode cX7_both 3 = .ok (.iload_n 3, 1) := by decide +kernel
theorem dX7_both_4 : decode cX7_both 4 = .ok (.invokevirtual 246, 3) := by decide +kernel
theorem dX7_both_7 : decode cX7_both 7 = .ok (.ifCond .eq 13, 3) := by decide +kernel
theorem dX7_both_10 : decode cX7_both 10 = .ok (.iload 4, 2) := by decide +kernel
theorem dX7_both_12 : decode cX7_both 12 = .ok (.iconst 0, 1) := by decide +kernel
theorem dX7_both_13 : decode cX7_both 13 = .ok (.iconst 1, 1) := by decide +kernel
theorem dX7_both_14 : decode cX7_both 14 = .ok (.invokestatic 55, 3) := by decide +kernel
theorem dX7_both_17 : decode cX7_both 17 = .ok (.ifCond .ne 5, 3) := by decide +kernel
theorem dX7_both_20 : decode cX7_both 20 = .ok (.iconst (-1), 1) := by decide +kernel
theorem dX7_both_21 : decode cX7_both 21 = .ok (.ireturn, 1) := by decide +kernel
theorem dX7_both_22 : decode cX7_both 22 = .ok (.aload_n 0, 1) := by decide +kernel
theorem dX7_both_23 : decode cX7_both 23 = .ok (.iload_n 1, 1) := by decide +kernel
theorem dX7_both_24 : decode cX7_both 24 = .ok (.iload_n 3, 1) := by decide +kernel
theorem dX7_both_25 : decode cX7_both 25 = .ok (.invokevirtual 249, 3) := by decide +kernel
theorem dX7_both_28 : decode cX7_both 28 = .ok (.istore 5, 2) := by decide +kernel
theorem dX7_both_30 : decode cX7_both 30 = .ok (.iconst 0, 1) := by decide +kernel
theorem dX7_both_31 : decode cX7_both 31 = .ok (.istore 6, 2) := by decide +kernel
theorem dX7_both_33 : decode cX7_both 33 = .ok (.iload 6, 2) := by decide +kernel
theorem dX7_both_35 : decode cX7_both 35 = .ok (.iload 5, 2) := by decide +kernel
theorem dX7_both_37 : decode cX7_both 37 = .ok (.bipush 12, 2) := by decide +kernel
theorem dX7_both_39 : decode cX7_both 39 = .ok (.iadd, 1) := by decide +kernel
theorem dX7_both_40 : decode cX7_both 40 = .ok (.iconst 1, 1) := by decide +kernel
theorem dX7_both_41 : decode cX7_both 41 = .ok (.isub, 1) := by decide +kernel
theorem dX7_both_42 : decode cX7_both 42 = .ok (.if_icmp .gt 72, 3) := by decide +kernel
theorem dX7_both_45 : decode cX7_both 45 = .ok (.iload 6, 2) := by decide +kernel
theorem dX7_both_47 : decode cX7_both 47 = .ok (.bipush 11, 2) := by decide +kernel
theorem dX7_both_49 : decode cX7_both 49 = .ok (.invokestatic 256, 3) := by decide +kernel
theorem dX7_both_52 : decode cX7_both 52 = .ok (.istore 7, 2) := by decide +kernel
theorem dX7_both_54 : decode cX7_both 54 = .ok (.iconst 0, 1) := by decide +kernel
theorem dX7_both_55 : decode cX7_both 55 = .ok (.iload 6, 2) := by decide +kernel
theorem dX7_both_57 : decode cX7_both 57 = .ok (.iload 5, 2) := by decide +kernel
theorem dX7_both_59 : decode cX7_both 59 = .ok (.isub, 1) := by decide +kernel
theorem dX7_both_60 : decode cX7_both 60 = .ok (.invokestatic 261, 3) := by decide +kernel
theorem dX7_both_63 : decode cX7_both 63 = .ok (.istore 8, 2) := by decide +kernel
theorem dX7_both_65 : decode cX7_both 65 = .ok (.iload 8, 2) := by decide +kernel
theorem dX7_both_67 : decode cX7_both 67 = .ok (.iload 7, 2) := by decide +kernel
theorem dX7_both_69 : decode cX7_both 69 = .ok (.if_icmp .gt 39, 3) := by decide +kernel
theorem dX7_both_72 : decode cX7_both 72 = .ok (.aload_n 0, 1) := by decide +kernel
theorem dX7_both_73 : decode cX7_both 73 = .ok (.iload_n 1, 1) := by decide +kernel
theorem dX7_both_74 : decode cX7_both 74 = .ok (.iload_n 2, 1) := by decide +kernel
theorem dX7_both_75 : decode cX7_both 75 = .ok (.iload_n 3, 1) := by decide +kernel
theorem dX7_both_76 : decode cX7_both 76 = .ok (.iload 6, 2) := by decide +kernel
theorem dX7_both_78 : decode cX7_both 78 = .ok (.iload 8, 2) := by decide +kernel
theorem dX7_both_80 : decode cX7_both 80 = .ok (.isub, 1) := by decide +kernel
theorem dX7_both_81 : decode cX7_both 81 = .ok (.iload 8, 2) := by decide +kernel
theorem dX7_both_83 : decode cX7_both 83 = .ok (.invokevirtual 252, 3) := by decide +kernel
theorem dX7_both_86 : decode cX7_both 86 = .ok (.ifCond .eq 16, 3) := by decide +kernel
theorem dX7_both_89 : decode cX7_both 89 = .ok (.iload 4, 2) := by decide +kernel
theorem dX7_both_91 : decode cX7_both 91 = .ok (.ifCond .ne 8, 3) := by decide +kernel
theorem dX7_both_94 : decode cX7_both 94 = .ok (.iload 6, 2) := by decide +kernel
theorem dX7_both_96 : decode cX7_both 96 = .ok (.goto 5, 3) := by decide +kernel
theorem dX7_both_99 : decode cX7_both 99 = .ok (.iload 8, 2) := by decide +kernel
theorem dX7_both_101 : decode cX7_both 101 = .ok (.ireturn, 1) := by decide +kernel
theorem dX7_both_102 : decode cX7_both 102 = .ok (.iinc 8 1, 3) := by decide +kernel
theorem dX7_both_105 : decode cX7_both 105 = .ok (.goto (-40), 3) := by decide +kernel
theorem dX7_both_108 : decode cX7_both 108 = .ok (.iinc 6 1, 3) := by decide +kernel
theorem dX7_both_111 : decode cX7_both 111 = .ok (.goto (-78), 3) := by decide +kernel
theorem dX7_both_114 : decode cX7_both 114 = .ok (.bipush (-4), 2) := by decide +kernel
theorem dX7_both_116 : decode cX7_both 116 = .ok (.ireturn, 1) := by decide +kernel
theorem dX7_duel_0 : decode cX7_duel 0 = .ok (.aload_n 0, 1) := by decide +kernel
theorem dX7_duel_1 : decode cX7_duel 1 = .ok (.iload_n 1, 1) := by decide +kernel
theorem dX7_duel_2 : decode cX7_duel 2 = .ok (.invokevirtual 96, 3) := by decide +kernel
theorem dX7_duel_5 : decode cX7_duel 5 = .ok (.ifCond .eq 33, 3) := by decide +kernel
theorem dX7_duel_8 : decode cX7_duel 8 = .ok (.aload_n 0, 1) := by decide +kernel
theorem dX7_duel_9 : decode cX7_duel 9 = .ok (.iload_n 2, 1) := by decide +kernel
theorem dX7_duel_10 : decode cX7_duel 10 = .ok (.invokevirtual 96, 3) := by decide +kernel
theorem dX7_duel_13 : decode cX7_duel 13 = .ok (.ifCond .eq 25, 3) := by decide +kernel
theorem dX7_duel_16 : decode cX7_duel 16 = .ok (.iload_n 1, 1) := by decide +kernel
theorem dX7_duel_17 : decode cX7_duel 17 = .ok (.iload_n 2, 1) := by decide +kernel
theorem dX7_duel_18 : decode cX7_duel 18 = .ok (.if_icmp .eq 20, 3) := by decide +kernel
theorem dX7_duel_21 : decode cX7_duel 21 = .ok (.iload_n 3, 1) := by decide +kernel
theorem dX7_duel_22 : decode cX7_duel 22 = .ok (.invokestatic 229, 3) := by decide +kernel
theorem dX7_duel_25 : decode cX7_duel 25 = .ok (.ifCond .eq 13, 3) := by decide +kernel
theorem dX7_duel_28 : decode cX7_duel 28 = .ok (.iload 4, 2) := by decide +kernel
theorem dX7_duel_30 : decode cX7_duel 30 = .ok (.iconst 0, 1) := by decide +kernel
theorem dX7_duel_31 : decode cX7_duel 31 = .ok (.iconst 1, 1) := by decide +kernel
theorem dX7_duel_32 : decode cX7_duel 32 = .ok (.invokestatic 55, 3) := by decide +kernel
theorem dX7_duel_35 : decode cX7_duel 35 = .ok (.ifCond .ne 5, 3) := by decide +kernel
theorem dX7_duel_38 : decode cX7_duel 38 = .ok (.iconst (-1), 1) := by decide +kernel
theorem dX7_duel_39 : decode cX7_duel 39 = .ok (.ireturn, 1) := by decide +kernel
theorem dX7_duel_40 : decode cX7_duel 40 = .ok (.aload_n 0, 1) := by decide +kernel
theorem dX7_duel_41 : decode cX7_duel 41 = .ok (.iload_n 1, 1) := by decide +kernel
theorem dX7_duel_42 : decode cX7_duel 42 = .ok (.iload_n 2, 1) := by decide +kernel
theorem dX7_duel_43 : decode cX7_duel 43 = .ok (.iload_n 3, 1) := by decide +kernel
theorem dX7_duel_44 : decode cX7_duel 44 = .ok (.invokevirtual 264, 3) := by decide +kernel
theorem dX7_duel_47 : decode cX7_duel 47 = .ok (.iconst 0, 1) := by decide +kernel
theorem dX7_duel_48 : decode cX7_duel 48 = .ok (.istore 5, 2) := by decide +kernel
theorem dX7_duel_50 : decode cX7_duel 50 = .ok (.iconst 0, 1) := by decide +kernel
theorem dX7_duel_51 : decode cX7_duel 51 = .ok (.istore 6, 2) := by decide +kernel
theorem dX7_duel_53 : decode cX7_duel 53 = .ok (.iload 6, 2) := by decide +kernel
theorem dX7_duel_55 : decode cX7_duel 55 = .ok (.bipush 12, 2) := by decide +kernel
theorem dX7_duel_57 : decode cX7_duel 57 = .ok (.if_icmp .ge 57, 3) := by decide +kernel
theorem dX7_duel_60 : decode cX7_duel 60 = .ok (.iconst 0, 1) := by decide +kernel
theorem dX7_duel_61 : decode cX7_duel 61 = .ok (.istore 7, 2) := by decide +kernel
theorem dX7_duel_63 : decode cX7_duel 63 = .ok (.iload 7, 2) := by decide +kernel
theorem dX7_duel_65 : decode cX7_duel 65 = .ok (.bipush 12, 2) := by decide +kernel
theorem dX7_duel_67 : decode cX7_duel 67 = .ok (.if_icmp .ge 41, 3) := by decide +kernel
theorem dX7_duel_70 : decode cX7_duel 70 = .ok (.aload_n 0, 1) := by decide +kernel
theorem dX7_duel_71 : decode cX7_duel 71 = .ok (.iload 6, 2) := by decide +kernel
theorem dX7_duel_73 : decode cX7_duel 73 = .ok (.iload 7, 2) := by decide +kernel
theorem dX7_duel_75 : decode cX7_duel 75 = .ok (.invokevirtual 267, 3) := by decide +kernel
theorem dX7_duel_78 : decode cX7_duel 78 = .ok (.ifCond .ne 6, 3) := by decide +kernel
theorem dX7_duel_81 : decode cX7_duel 81 = .ok (.goto 21, 3) := by decide +kernel
theorem dX7_duel_84 : decode cX7_duel 84 = .ok (.iload 4, 2) := by decide +kernel
theorem dX7_duel_86 : decode cX7_duel 86 = .ok (.iconst 1, 1) := by decide +kernel
theorem dX7_duel_87 : decode cX7_duel 87 = .ok (.if_icmp .ne 12, 3) := by decide +kernel
theorem dX7_duel_90 : decode cX7_duel 90 = .ok (.bipush 100, 2) := by decide +kernel
theorem dX7_duel_92 : decode cX7_duel 92 = .ok (.iload 6, 2) := by decide +kernel
theorem dX7_duel_94 : decode cX7_duel 94 = .ok (.imul, 1) := by decide +kernel
theorem dX7_duel_95 : decode cX7_duel 95 = .ok (.iload 7, 2) := by decide +kernel
theorem dX7_duel_97 : decode cX7_duel 97 = .ok (.iadd, 1) := by decide +kernel
theorem dX7_duel_98 : decode cX7_duel 98 = .ok (.ireturn, 1) := by decide +kernel
theorem dX7_duel_99 : decode cX7_duel 99 = .ok (.iinc 5 1, 3) := by decide +kernel
theorem dX7_duel_102 : decode cX7_duel 102 = .ok (.iinc 7 1, 3) := by decide +kernel
theorem dX7_duel_105 : decode cX7_duel 105 = .ok (.goto (-42), 3) := by decide +kernel
theorem dX7_duel_108 : decode cX7_duel 108 = .ok (.iinc 6 1, 3) := by decide +kernel
theorem dX7_duel_111 : decode cX7_duel 111 = .ok (.goto (-58), 3) := by decide +kernel
theorem dX7_duel_114 : decode cX7_duel 114 = .ok (.iload 4, 2) := by decide +kernel
theorem dX7_duel_116 : decode cX7_duel 116 = .ok (.ifCond .ne 8, 3) := by decide +kernel
theorem dX7_duel_119 : decode cX7_duel 119 = .ok (.iload 5, 2) := by decide +kernel
theorem dX7_duel_121 : decode cX7_duel 121 = .ok (.goto 5, 3) := by decide +kernel
theorem dX7_duel_124 : decode cX7_duel 124 = .ok (.bipush (-4), 2) := by decide +kernel
theorem dX7_duel_126 : decode cX7_duel 126 = .ok (.ireturn, 1) := by decide +kernel
theorem dX7_breath_0 : decode cX7_breath 0 = .ok (.aload_n 0, 1) := by decide +kernel
theorem dX7_breath_1 : decode cX7_breath 1 = .ok (.iload_n 1, 1) := by decide +kernel
theorem dX7_breath_2 : decode cX7_breath 2 = .ok (.invokevirtual 96, 3) := by decide +kernel
theorem dX7_breath_5 : decode cX7_breath 5 = .ok (.ifCond .eq 10, 3) := by decide +kernel
theorem dX7_breath_8 : decode cX7_breath 8 = .ok (.iload_n 2, 1) := by decide +kernel
theorem dX7_breath_9 : decode cX7_breath 9 = .ok (.invokestatic 229, 3) := by decide +kernel
theorem dX7_breath_12 : decode cX7_breath 12 = .ok (.ifCond .ne 5, 3) := by decide +kernel
theorem dX7_breath_15 : decode cX7_breath 15 = .ok (.iconst (-1), 1) := by decide +kernel
theorem dX7_breath_16 : decode cX7_breath 16 = .ok (.ireturn, 1) := by decide +kernel
theorem dX7_breath_17 : decode cX7_breath 17 = .ok (.aload_n 0, 1) := by decide +kernel
theorem dX7_breath_18 : decode cX7_breath 18 = .ok (.iload_n 2, 1) := by decide +kernel
theorem dX7_breath_19 : decode cX7_breath 19 = .ok (.iconst (-1), 1) := by decide +kernel
theorem dX7_breath_20 : decode cX7_breath 20 = .ok (.invokevirtual 232, 3) := by decide +kernel
theorem dX7_breath_23 : decode cX7_breath 23 = .ok (.aload_n 0, 1) := by decide +kernel
theorem dX7_breath_24 : decode cX7_breath 24 = .ok (.getfield 26, 3) := by decide +kernel
theorem dX7_breath_27 : decode cX7_breath 27 = .ok (.getfield 108, 3) := by decide +kernel
theorem dX7_breath_30 : decode cX7_breath 30 = .ok (.iload_n 1, 1) := by decide +kernel
theorem dX7_breath_31 : decode cX7_breath 31 = .ok (.iaload, 1) := by decide +kernel
theorem dX7_breath_32 : decode cX7_breath 32 = .ok (.istore_n 3, 1) := by decide +kernel
theorem dX7_breath_33 : decode cX7_breath 33 = .ok (.bipush (-4), 2) := by decide +kernel
theorem dX7_breath_35 : decode cX7_breath 35 = .ok (.istore 4, 2) := by decide +kernel
theorem dX7_breath_37 : decode cX7_breath 37 = .ok (.iconst 0, 1) := by decide +kernel
theorem dX7_breath_38 : decode cX7_breath 38 = .ok (.istore 5, 2) := by decide +kernel
theorem dX7_breath_40 : decode cX7_breath 40 = .ok (.iload 5, 2) := by decide +kernel
theorem dX7_breath_42 : decode cX7_breath 42 = .ok (.aload_n 0, 1) := by decide +kernel
theorem dX7_breath_43 : decode cX7_breath 43 = .ok (.getfield 10, 3) := by decide +kernel
theorem dX7_breath_46 : decode cX7_breath 46 = .ok (.getfield 63, 3) := by decide +kernel
theorem dX7_breath_49 : decode cX7_breath 49 = .ok (.getfield 153, 3) := by decide +kernel
theorem dX7_breath_52 : decode cX7_breath 52 = .ok (.if_icmp .ge 71, 3) := by decide +kernel
theorem dX7_breath_55 : decode cX7_breath 55 = .ok (.aload_n 0, 1) := by decide +kernel
theorem dX7_breath_56 : decode cX7_breath 56 = .ok (.getfield 26, 3) := by decide +kernel
theorem dX7_breath_59 : decode cX7_breath 59 = .ok (.aload_n 0, 1) := by decide +kernel
theorem dX7_breath_60 : decode cX7_breath 60 = .ok (.getfield 10, 3) := by decide +kernel
theorem dX7_breath_63 : decode cX7_breath 63 = .ok (.getfield 63, 3) := by decide +kernel
theorem dX7_breath_66 : decode cX7_breath 66 = .ok (.invokevirtual 143, 3) := by decide +kernel
theorem dX7_breath_69 : decode cX7_breath 69 = .ok (.aload_n 0, 1) := by decide +kernel
theorem dX7_breath_70 : decode cX7_breath 70 = .ok (.getfield 26, 3) := by decide +kernel
theorem dX7_breath_73 : decode cX7_breath 73 = .ok (.getfield 130, 3) := by decide +kernel
theorem dX7_breath_76 : decode cX7_breath 76 = .ok (.iload 5, 2) := by decide +kernel
theorem dX7_breath_78 : decode cX7_breath 78 = .ok (.bipush 12, 2) := by decide +kernel
theorem dX7_breath_80 : decode cX7_breath 80 = .ok (.iastore, 1) := by decide +kernel
theorem dX7_breath_81 : decode cX7_breath 81 = .ok (.aload_n 0, 1) := by decide +kernel
theorem dX7_breath_82 : decode cX7_breath 82 = .ok (.getfield 26, 3) := by decide +kernel
theorem dX7_breath_85 : decode cX7_breath 85 = .ok (.iload_n 2, 1) := by decide +kernel
theorem dX7_breath_86 : decode cX7_breath 86 = .ok (.iconst (-1), 1) := by decide +kernel
theorem dX7_breath_87 : decode cX7_breath 87 = .ok (.invokevirtual 271, 3) := by decide +kernel
theorem dX7_breath_90 : decode cX7_breath 90 = .ok (.aload_n 0, 1) := by decide +kernel
theorem dX7_breath_91 : decode cX7_breath 91 = .ok (.getfield 26, 3) := by decide +kernel
theorem dX7_breath_94 : decode cX7_breath 94 = .ok (.getfield 108, 3) := by decide +kernel
theorem dX7_breath_97 : decode cX7_breath 97 = .ok (.iload_n 1, 1) := by decide +kernel
theorem dX7_breath_98 : decode cX7_breath 98 = .ok (.iaload, 1) := by decide +kernel
theorem dX7_breath_99 : decode cX7_breath 99 = .ok (.iload_n 3, 1) := by decide +kernel
theorem dX7_breath_100 : decode cX7_breath 100 = .ok (.if_icmp .le 17, 3) := by decide +kernel
theorem dX7_breath_103 : decode cX7_breath 103 = .ok (.aload_n 0, 1) := by decide +kernel
theorem dX7_breath_104 : decode cX7_breath 104 = .ok (.getfield 26, 3) := by decide +kernel
theorem dX7_breath_107 : decode cX7_breath 107 = .ok (.getfield 108, 3) := by decide +kernel
theorem dX7_breath_110 : decode cX7_breath 110 = .ok (.iload_n 1, 1) := by decide +kernel
theorem dX7_breath_111 : decode cX7_breath 111 = .ok (.iaload, 1) := by decide +kernel
theorem dX7_breath_112 : decode cX7_breath 112 = .ok (.istore_n 3, 1) := by decide +kernel
theorem dX7_breath_113 : decode cX7_breath 113 = .ok (.iload 5, 2) := by decide +kernel
theorem dX7_breath_115 : decode cX7_breath 115 = .ok (.istore 4, 2) := by decide +kernel
theorem dX7_breath_117 : decode cX7_breath 117 = .ok (.iinc 5 1, 3) := by decide +kernel
theorem dX7_breath_120 : decode cX7_breath 120 = .ok (.goto (-80), 3) := by decide +kernel
theorem dX7_breath_123 : decode cX7_breath 123 = .ok (.iload 4, 2) := by decide +kernel
theorem dX7_breath_125 : decode cX7_breath 125 = .ok (.ireturn, 1) := by decide +kernel
theorem dX7_right_0 : decode cX7_right 0 = .ok (.aload_n 0, 1) := by decide +kernel
theorem dX7_right_1 : decode cX7_right 1 = .ok (.iload_n 1, 1) := by decide +kernel
theorem dX7_right_2 : decode cX7_right 2 = .ok (.invokevirtual 96, 3) := by decide +kernel
theorem dX7_right_5 : decode cX7_right 5 = .ok (.ifCond .eq 10, 3) := by decide +kernel
theorem dX7_right_8 : decode cX7_right 8 = .ok (.iload_n 2, 1) := by decide +kernel
theorem dX7_right_9 : decode cX7_right 9 = .ok (.invokestatic 229, 3) := by decide +kernel
theorem dX7_right_12 : decode cX7_right 12 = .ok (.ifCond .ne 5, 3) := by decide +kernel
theorem dX7_right_15 : decode cX7_right 15 = .ok (.iconst (-1), 1) := by decide +kernel
theorem dX7_right_16 : decode cX7_right 16 = .ok (.ireturn, 1) := by decide +kernel
theorem dX7_right_17 : decode cX7_right 17 = .ok (.aload_n 0, 1) := by decide +kernel
theorem dX7_right_18 : decode cX7_right 18 = .ok (.getfield 26, 3) := by decide +kernel
theorem dX7_right_21 : decode cX7_right 21 = .ok (.aload_n 0, 1) := by decide +kernel
theorem dX7_right_22 : decode cX7_right 22 = .ok (.getfield 10, 3) := by decide +kernel
theorem dX7_right_25 : decode cX7_right 25 = .ok (.getfield 63, 3) := by decide +kernel
theorem dX7_right_28 : decode cX7_right 28 = .ok (.invokevirtual 143, 3) := by decide +kernel
theorem dX7_right_31 : decode cX7_right 31 = .ok (.iconst 0, 1) := by decide +kernel
theorem dX7_right_32 : decode cX7_right 32 = .ok (.istore_n 3, 1) := by decide +kernel
theorem dX7_right_33 : decode cX7_right 33 = .ok (.iconst 0, 1) := by decide +kernel
theorem dX7_right_34 : decode cX7_right 34 = .ok (.istore 4, 2) := by decide +kernel
theorem dX7_right_36 : decode cX7_right 36 = .ok (.iload 4, 2) := by decide +kernel
theorem dX7_right_38 : decode cX7_right 38 = .ok (.iload_n 2, 1) := by decide +kernel
theorem dX7_right_39 : decode cX7_right 39 = .ok (.if_icmp .ge 42, 3) := by decide +kernel
theorem dX7_right_42 : decode cX7_right 42 = .ok (.aload_n 0, 1) := by decide +kernel
theorem dX7_right_43 : decode cX7_right 43 = .ok (.getfield 26, 3) := by decide +kernel
theorem dX7_right_46 : decode cX7_right 46 = .ok (.iload_n 1, 1) := by decide +kernel
theorem dX7_right_47 : decode cX7_right 47 = .ok (.invokevirtual 121, 3) := by decide +kernel
theorem dX7_right_50 : decode cX7_right 50 = .ok (.aload_n 0, 1) := by decide +kernel
theorem dX7_right_51 : decode cX7_right 51 = .ok (.getfield 26, 3) := by decide +kernel
theorem dX7_right_54 : decode cX7_right 54 = .ok (.invokevirtual 274, 3) := by decide +kernel
theorem dX7_right_57 : decode cX7_right 57 = .ok (.bipush 60, 2) := by decide +kernel
theorem dX7_right_59 : decode cX7_right 59 = .ok (.idiv, 1) := by decide +kernel
theorem dX7_right_60 : decode cX7_right 60 = .ok (.if_icmp .ne 6, 3) := by decide +kernel
theorem dX7_right_63 : decode cX7_right 63 = .ok (.iinc 3 1, 3) := by decide +kernel
theorem dX7_right_66 : decode cX7_right 66 = .ok (.aload_n 0, 1) := by decide +kernel
theorem dX7_right_67 : decode cX7_right 67 = .ok (.getfield 26, 3) := by decide +kernel
theorem dX7_right_70 : decode cX7_right 70 = .ok (.iconst (-1), 1) := by decide +kernel
theorem dX7_right_71 : decode cX7_right 71 = .ok (.invokevirtual 212, 3) := by decide +kernel
theorem dX7_right_74 : decode cX7_right 74 = .ok (.pop, 1) := by decide +kernel
theorem dX7_right_75 : decode cX7_right 75 = .ok (.iinc 4 1, 3) := by decide +kernel
theorem dX7_right_78 : decode cX7_right 78 = .ok (.goto (-42), 3) := by decide +kernel
theorem dX7_right_81 : decode cX7_right 81 = .ok (.iload_n 3, 1) := by decide +kernel
theorem dX7_right_82 : decode cX7_right 82 = .ok (.ireturn, 1) := by decide +kernel
theorem dX7_appeal_0 : decode cX7_appeal 0 = .ok (.aload_n 0, 1) := by decide +kernel
theorem dX7_appeal_1 : decode cX7_appeal 1 = .ok (.iload_n 1, 1) := by decide +kernel
theorem dX7_appeal_2 : decode cX7_appeal 2 = .ok (.invokevirtual 96, 3) := by decide +kernel
theorem dX7_appeal_5 : decode cX7_appeal 5 = .ok (.ifCond .eq 10, 3) := by decide +kernel
theorem dX7_appeal_8 : decode cX7_appeal 8 = .ok (.iload_n 2, 1) := by decide +kernel
theorem dX7_appeal_9 : decode cX7_appeal 9 = .ok (.invokestatic 229, 3) := by decide +kernel
theorem dX7_appeal_12 : decode cX7_appeal 12 = .ok (.ifCond .ne 5, 3) := by decide +kernel
theorem dX7_appeal_15 : decode cX7_appeal 15 = .ok (.iconst (-1), 1) := by decide +kernel
theorem dX7_appeal_16 : decode cX7_appeal 16 = .ok (.ireturn, 1) := by decide +kernel
theorem dX7_appeal_17 : decode cX7_appeal 17 = .ok (.aload_n 0, 1) := by decide +kernel
theorem dX7_appeal_18 : decode cX7_appeal 18 = .ok (.iload_n 2, 1) := by decide +kernel
theorem dX7_appeal_19 : decode cX7_appeal 19 = .ok (.iconst 0, 1) := by decide +kernel
theorem dX7_appeal_20 : decode cX7_appeal 20 = .ok (.invokevirtual 232, 3) := by decide +kernel
theorem dX7_appeal_23 : decode cX7_appeal 23 = .ok (.aload_n 0, 1) := by decide +kernel
theorem dX7_appeal_24 : decode cX7_appeal 24 = .ok (.getfield 26, 3) := by decide +kernel
theorem dX7_appeal_27 : decode cX7_appeal 27 = .ok (.iload_n 1, 1) := by decide +kernel
theorem dX7_appeal_28 : decode cX7_appeal 28 = .ok (.invokevirtual 209, 3) := by decide +kernel
theorem dX7_appeal_31 : decode cX7_appeal 31 = .ok (.ireturn, 1) := by decide +kernel
theorem dX7_spans_0 : decode cX7_spans 0 = .ok (.aload_n 0, 1) := by decide +kernel
theorem dX7_spans_1 : decode cX7_spans 1 = .ok (.iload_n 1, 1) := by decide +kernel
theorem dX7_spans_2 : decode cX7_spans 2 = .ok (.invokevirtual 96, 3) := by decide +kernel
theorem dX7_spans_5 : decode cX7_spans 5 = .ok (.ifCond .eq 12, 3) := by decide +kernel
theorem dX7_spans_8 : decode cX7_spans 8 = .ok (.iload_n 2, 1) := by decide +kernel
theorem dX7_spans_9 : decode cX7_spans 9 = .ok (.iconst 0, 1) := by decide +kernel
theorem dX7_spans_10 : decode cX7_spans 10 = .ok (.iconst 1, 1) := by decide +kernel
theorem dX7_spans_11 : decode cX7_spans 11 = .ok (.invokestatic 55, 3) := by decide +kernel
theorem dX7_spans_14 : decode cX7_spans 14 = .ok (.ifCond .ne 5, 3) := by decide +kernel
theorem dX7_spans_17 : decode cX7_spans 17 = .ok (.iconst (-1), 1) := by decide +kernel
theorem dX7_spans_18 : decode cX7_spans 18 = .ok (.ireturn, 1) := by decide +kernel
theorem dX7_spans_19 : decode cX7_spans 19 = .ok (.sipush 201, 3) := by decide +kernel
theorem dX7_spans_22 : decode cX7_spans 22 = .ok (.istore_n 3, 1) := by decide +kernel
theorem dX7_spans_23 : decode cX7_spans 23 = .ok (.iconst 0, 1) := by decide +kernel
theorem dX7_spans_24 : decode cX7_spans 24 = .ok (.istore 4, 2) := by decide +kernel
theorem dX7_spans_26 : decode cX7_spans 26 = .ok (.iconst 0, 1) := by decide +kernel
theorem dX7_spans_27 : decode cX7_spans 27 = .ok (.istore 5, 2) := by decide +kernel
theorem dX7_spans_29 : decode cX7_spans 29 = .ok (.iload 5, 2) := by decide +kernel
theorem dX7_spans_31 : decode cX7_spans 31 = .ok (.iconst 3, 1) := by decide +kernel
theorem dX7_spans_32 : decode cX7_spans 32 = .ok (.if_icmp .gt 34, 3) := by decide +kernel
theorem dX7_spans_35 : decode cX7_spans 35 = .ok (.aload_n 0, 1) := by decide +kernel
theorem dX7_spans_36 : decode cX7_spans 36 = .ok (.iload_n 1, 1) := by decide +kernel
theorem dX7_spans_37 : decode cX7_spans 37 = .ok (.iload 5, 2) := by decide +kernel
theorem dX7_spans_39 : decode cX7_spans 39 = .ok (.invokevirtual 238, 3) := by decide +kernel
theorem dX7_spans_42 : decode cX7_spans 42 = .ok (.istore 6, 2) := by decide +kernel
theorem dX7_spans_44 : decode cX7_spans 44 = .ok (.iload_n 3, 1) := by decide +kernel
theorem dX7_spans_45 : decode cX7_spans 45 = .ok (.iload 6, 2) := by decide +kernel
theorem dX7_spans_47 : decode cX7_spans 47 = .ok (.invokestatic 256, 3) := by decide +kernel
theorem dX7_spans_50 : decode cX7_spans 50 = .ok (.istore_n 3, 1) := by decide +kernel
theorem dX7_spans_51 : decode cX7_spans 51 = .ok (.iload 4, 2) := by decide +kernel
theorem dX7_spans_53 : decode cX7_spans 53 = .ok (.iload 6, 2) := by decide +kernel
theorem dX7_spans_55 : decode cX7_spans 55 = .ok (.invokestatic 261, 3) := by decide +kernel
theorem dX7_spans_58 : decode cX7_spans 58 = .ok (.istore 4, 2) := by decide +kernel
theorem dX7_spans_60 : decode cX7_spans 60 = .ok (.iinc 5 1, 3) := by decide +kernel
theorem dX7_spans_63 : decode cX7_spans 63 = .ok (.goto (-34), 3) := by decide +kernel
theorem dX7_spans_66 : decode cX7_spans 66 = .ok (.iload_n 2, 1) := by decide +kernel
theorem dX7_spans_67 : decode cX7_spans 67 = .ok (.ifCond .ne 7, 3) := by decide +kernel
theorem dX7_spans_70 : decode cX7_spans 70 = .ok (.iload_n 3, 1) := by decide +kernel
theorem dX7_spans_71 : decode cX7_spans 71 = .ok (.goto 5, 3) := by decide +kernel
theorem dX7_spans_74 : decode cX7_spans 74 = .ok (.iload 4, 2) := by decide +kernel
theorem dX7_spans_76 : decode cX7_spans 76 = .ok (.ireturn, 1) := by decide +kernel
theorem dX7_struck_0 : decode cX7_struck 0 = .ok (.aload_n 0, 1) := by decide +kernel
theorem dX7_struck_1 : decode cX7_struck 1 = .ok (.iload_n 1, 1) := by decide +kernel
theorem dX7_struck_2 : decode cX7_struck 2 = .ok (.invokevirtual 277, 3) := by decide +kernel
theorem dX7_struck_5 : decode cX7_struck 5 = .ok (.ifCond .eq 22, 3) := by decide +kernel
theorem dX7_struck_8 : decode cX7_struck 8 = .ok (.iload_n 2, 1) := by decide +kernel
theorem dX7_struck_9 : decode cX7_struck 9 = .ok (.iconst 1, 1) := by decide +kernel
theorem dX7_struck_10 : decode cX7_struck 10 = .ok (.bipush 108, 2) := by decide +kernel
theorem dX7_struck_12 : decode cX7_struck 12 = .ok (.invokestatic 55, 3) := by decide +kernel
theorem dX7_struck_15 : decode cX7_struck 15 = .ok (.ifCond .eq 12, 3) := by decide +kernel
theorem dX7_struck_18 : decode cX7_struck 18 = .ok (.iload_n 3, 1) := by decide +kernel
theorem dX7_struck_19 : decode cX7_struck 19 = .ok (.iconst 0, 1) := by decide +kernel
theorem dX7_struck_20 : decode cX7_struck 20 = .ok (.iconst 2, 1) := by decide +kernel
theorem dX7_struck_21 : decode cX7_struck 21 = .ok (.invokestatic 55, 3) := by decide +kernel
theorem dX7_struck_24 : decode cX7_struck 24 = .ok (.ifCond .ne 5, 3) := by decide +kernel
theorem dX7_struck_27 : decode cX7_struck 27 = .ok (.iconst (-1), 1) := by decide +kernel
theorem dX7_struck_28 : decode cX7_struck 28 = .ok (.ireturn, 1) := by decide +kernel
theorem dX7_struck_29 : decode cX7_struck 29 = .ok (.iconst 0, 1) := by decide +kernel
theorem dX7_struck_30 : decode cX7_struck 30 = .ok (.istore 4, 2) := by decide +kernel
theorem dX7_struck_32 : decode cX7_struck 32 = .ok (.iload_n 1, 1) := by decide +kernel
theorem dX7_struck_33 : decode cX7_struck 33 = .ok (.istore 5, 2) := by decide +kernel
theorem dX7_struck_35 : decode cX7_struck 35 = .ok (.iconst 1, 1) := by decide +kernel
theorem dX7_struck_36 : decode cX7_struck 36 = .ok (.istore 6, 2) := by decide +kernel
theorem dX7_struck_38 : decode cX7_struck 38 = .ok (.iload 6, 2) := by decide +kernel
theorem dX7_struck_40 : decode cX7_struck 40 = .ok (.iload_n 1, 1) := by decide +kernel
theorem dX7_struck_41 : decode cX7_struck 41 = .ok (.if_icmp .gt 55, 3) := by decide +kernel
theorem dX7_struck_44 : decode cX7_struck 44 = .ok (.iload 6, 2) := by decide +kernel
theorem dX7_struck_46 : decode cX7_struck 46 = .ok (.iload_n 1, 1) := by decide +kernel
theorem dX7_struck_47 : decode cX7_struck 47 = .ok (.iconst (-1), 1) := by decide +kernel
theorem dX7_struck_48 : decode cX7_struck 48 = .ok (.ixor, 1) := by decide +kernel
theorem dX7_struck_49 : decode cX7_struck 49 = .ok (.iand, 1) := by decide +kernel
theorem dX7_struck_50 : decode cX7_struck 50 = .ok (.ifCond .ne 40, 3) := by decide +kernel
theorem dX7_struck_53 : decode cX7_struck 53 = .ok (.aload_n 0, 1) := by decide +kernel
theorem dX7_struck_54 : decode cX7_struck 54 = .ok (.getfield 10, 3) := by decide +kernel
theorem dX7_struck_57 : decode cX7_struck 57 = .ok (.getfield 63, 3) := by decide +kernel
theorem dX7_struck_60 : decode cX7_struck 60 = .ok (.iload 6, 2) := by decide +kernel
theorem dX7_struck_62 : decode cX7_struck 62 = .ok (.invokevirtual 280, 3) := by decide +kernel
theorem dX7_struck_65 : decode cX7_struck 65 = .ok (.iload_n 2, 1) := by decide +kernel
theorem dX7_struck_66 : decode cX7_struck 66 = .ok (.if_icmp .eq 6, 3) := by decide +kernel
theorem dX7_struck_69 : decode cX7_struck 69 = .ok (.goto 21, 3) := by decide +kernel
theorem dX7_struck_72 : decode cX7_struck 72 = .ok (.iload_n 3, 1) := by decide +kernel
theorem dX7_struck_73 : decode cX7_struck 73 = .ok (.iconst 1, 1) := by decide +kernel
theorem dX7_struck_74 : decode cX7_struck 74 = .ok (.if_icmp .ne 6, 3) := by decide +kernel
theorem dX7_struck_77 : decode cX7_struck 77 = .ok (.iload 6, 2) := by decide +kernel
theorem dX7_struck_79 : decode cX7_struck 79 = .ok (.ireturn, 1) := by decide +kernel
theorem dX7_struck_80 : decode cX7_struck 80 = .ok (.iinc 4 1, 3) := by decide +kernel
theorem dX7_struck_83 : decode cX7_struck 83 = .ok (.iload 5, 2) := by decide +kernel
theorem dX7_struck_85 : decode cX7_struck 85 = .ok (.iload 6, 2) := by decide +kernel
theorem dX7_struck_87 : decode cX7_struck 87 = .ok (.iand, 1) := by decide +kernel
theorem dX7_struck_88 : decode cX7_struck 88 = .ok (.istore 5, 2) := by decide +kernel
theorem dX7_struck_90 : decode cX7_struck 90 = .ok (.iinc 6 1, 3) := by decide +kernel
theorem dX7_struck_93 : decode cX7_struck 93 = .ok (.goto (-55), 3) := by decide +kernel
theorem dX7_struck_96 : decode cX7_struck 96 = .ok (.iload_n 3, 1) := by decide +kernel
theorem dX7_struck_97 : decode cX7_struck 97 = .ok (.ifCond .ne 6, 3) := by decide +kernel
theorem dX7_struck_100 : decode cX7_struck 100 = .ok (.iload 4, 2) := by decide +kernel
theorem dX7_struck_102 : decode cX7_struck 102 = .ok (.ireturn, 1) := by decide +kernel
theorem dX7_struck_103 : decode cX7_struck 103 = .ok (.iload 4, 2) := by decide +kernel
theorem dX7_struck_105 : decode cX7_struck 105 = .ok (.ifCond .ne 8, 3) := by decide +kernel
theorem dX7_struck_108 : decode cX7_struck 108 = .ok (.bipush (-4), 2) := by decide +kernel
theorem dX7_struck_110 : decode cX7_struck 110 = .ok (.goto 5, 3) := by decide +kernel
theorem dX7_struck_113 : decode cX7_struck 113 = .ok (.iload 5, 2) := by decide +kernel
theorem dX7_struck_115 : decode cX7_struck 115 = .ok (.ireturn, 1) := by decide +kernel
theorem dX7_bet_0 : decode cX7_bet 0 = .ok (.aload_n 0, 1) := by decide +kernel
theorem dX7_bet_1 : decode cX7_bet 1 = .ok (.iload_n 1, 1) := by decide +kernel
theorem dX7_bet_2 : decode cX7_bet 2 = .ok (.invokevirtual 96, 3) := by decide +kernel
theorem dX7_bet_5 : decode cX7_bet 5 = .ok (.ifCond .eq 14, 3) := by decide +kernel
theorem dX7_bet_8 : decode cX7_bet 8 = .ok (.iload_n 2, 1) := by decide +kernel
theorem dX7_bet_9 : decode cX7_bet 9 = .ok (.iconst 1, 1) := by decide +kernel
theorem dX7_bet_10 : decode cX7_bet 10 = .ok (.sipush 999, 3) := by decide +kernel
theorem dX7_bet_13 : decode cX7_bet 13 = .ok (.invokestatic 55, 3) := by decide +kernel
theorem dX7_bet_16 : decode cX7_bet 16 = .ok (.ifCond .ne 5, 3) := by decide +kernel
theorem dX7_bet_19 : decode cX7_bet 19 = .ok (.iconst (-1), 1) := by decide +kernel
theorem dX7_bet_20 : decode cX7_bet 20 = .ok (.ireturn, 1) := by decide +kernel
theorem dX7_bet_21 : decode cX7_bet 21 = .ok (.aload_n 0, 1) := by decide +kernel
theorem dX7_bet_22 : decode cX7_bet 22 = .ok (.getfield 10, 3) := by decide +kernel
theorem dX7_bet_25 : decode cX7_bet 25 = .ok (.getfield 77, 3) := by decide +kernel
theorem dX7_bet_28 : decode cX7_bet 28 = .ok (.getfield 174, 3) := by decide +kernel
theorem dX7_bet_31 : decode cX7_bet 31 = .ok (.bipush 6, 2) := by decide +kernel
theorem dX7_bet_33 : decode cX7_bet 33 = .ok (.if_icmp .lt 6, 3) := by decide +kernel
theorem dX7_bet_36 : decode cX7_bet 36 = .ok (.bipush (-3), 2) := by decide +kernel
theorem dX7_bet_38 : decode cX7_bet 38 = .ok (.ireturn, 1) := by decide +kernel
theorem dX7_bet_39 : decode cX7_bet 39 = .ok (.aload_n 0, 1) := by decide +kernel
theorem dX7_bet_40 : decode cX7_bet 40 = .ok (.getfield 10, 3) := by decide +kernel
theorem dX7_bet_43 : decode cX7_bet 43 = .ok (.getfield 77, 3) := by decide +kernel
theorem dX7_bet_46 : decode cX7_bet 46 = .ok (.iload_n 1, 1) := by decide +kernel
theorem dX7_bet_47 : decode cX7_bet 47 = .ok (.iload_n 2, 1) := by decide +kernel
theorem dX7_bet_48 : decode cX7_bet 48 = .ok (.invokevirtual 283, 3) := by decide +kernel
theorem dX7_bet_51 : decode cX7_bet 51 = .ok (.ireturn, 1) := by decide +kernel
theorem dX7_pays_0 : decode cX7_pays 0 = .ok (.iload_n 1, 1) := by decide +kernel
theorem dX7_pays_1 : decode cX7_pays 1 = .ok (.iconst 0, 1) := by decide +kernel
theorem dX7_pays_2 : decode cX7_pays 2 = .ok (.aload_n 0, 1) := by decide +kernel
theorem dX7_pays_3 : decode cX7_pays 3 = .ok (.getfield 10, 3) := by decide +kernel
theorem dX7_pays_6 : decode cX7_pays 6 = .ok (.getfield 77, 3) := by decide +kernel
theorem dX7_pays_9 : decode cX7_pays 9 = .ok (.getfield 174, 3) := by decide +kernel
theorem dX7_pays_12 : decode cX7_pays 12 = .ok (.iconst 1, 1) := by decide +kernel
theorem dX7_pays_13 : decode cX7_pays 13 = .ok (.isub, 1) := by decide +kernel
theorem dX7_pays_14 : decode cX7_pays 14 = .ok (.invokestatic 55, 3) := by decide +kernel
theorem dX7_pays_17 : decode cX7_pays 17 = .ok (.ifCond .eq 11, 3) := by decide +kernel
theorem dX7_pays_20 : decode cX7_pays 20 = .ok (.aload_n 0, 1) := by decide +kernel
theorem dX7_pays_21 : decode cX7_pays 21 = .ok (.iload_n 2, 1) := by decide +kernel
theorem dX7_pays_22 : decode cX7_pays 22 = .ok (.invokevirtual 277, 3) := by decide +kernel
theorem dX7_pays_25 : decode cX7_pays 25 = .ok (.ifCond .ne 5, 3) := by decide +kernel
theorem dX7_pays_28 : decode cX7_pays 28 = .ok (.iconst (-1), 1) := by decide +kernel
theorem dX7_pays_29 : decode cX7_pays 29 = .ok (.ireturn, 1) := by decide +kernel
theorem dX7_pays_30 : decode cX7_pays 30 = .ok (.aload_n 0, 1) := by decide +kernel
theorem dX7_pays_31 : decode cX7_pays 31 = .ok (.getfield 10, 3) := by decide +kernel
theorem dX7_pays_34 : decode cX7_pays 34 = .ok (.getfield 77, 3) := by decide +kernel
theorem dX7_pays_37 : decode cX7_pays 37 = .ok (.iload_n 1, 1) := by decide +kernel
theorem dX7_pays_38 : decode cX7_pays 38 = .ok (.iload_n 2, 1) := by decide +kernel
theorem dX7_pays_39 : decode cX7_pays 39 = .ok (.invokevirtual 285, 3) := by decide +kernel
theorem dX7_pays_42 : decode cX7_pays 42 = .ok (.ireturn, 1) := by decide +kernel
theorem dX7_settle_0 : decode cX7_settle 0 = .ok (.aload_n 0, 1) := by decide +kernel
theorem dX7_settle_1 : decode cX7_settle 1 = .ok (.getfield 10, 3) := by decide +kernel
theorem dX7_settle_4 : decode cX7_settle 4 = .ok (.getfield 77, 3) := by decide +kernel
theorem dX7_settle_7 : decode cX7_settle 7 = .ok (.getfield 174, 3) := by decide +kernel
theorem dX7_settle_10 : decode cX7_settle 10 = .ok (.istore_n 1, 1) := by decide +kernel
theorem dX7_settle_11 : decode cX7_settle 11 = .ok (.aload_n 0, 1) := by decide +kernel
theorem dX7_settle_12 : decode cX7_settle 12 = .ok (.getfield 10, 3) := by decide +kernel
theorem dX7_settle_15 : decode cX7_settle 15 = .ok (.getfield 77, 3) := by decide +kernel
theorem dX7_settle_18 : decode cX7_settle 18 = .ok (.iconst 0, 1) := by decide +kernel
theorem dX7_settle_19 : decode cX7_settle 19 = .ok (.putfield 174, 3) := by decide +kernel
theorem dX7_settle_22 : decode cX7_settle 22 = .ok (.iload_n 1, 1) := by decide +kernel
theorem dX7_settle_23 : decode cX7_settle 23 = .ok (.ireturn, 1) := by decide +kernel
theorem dX7_lots_0 : decode cX7_lots 0 = .ok (.iload_n 1, 1) := by decide +kernel
theorem dX7_lots_1 : decode cX7_lots 1 = .ok (.iconst 1, 1) := by decide +kernel
theorem dX7_lots_2 : decode cX7_lots 2 = .ok (.bipush 60, 2) := by decide +kernel
theorem dX7_lots_4 : decode cX7_lots 4 = .ok (.invokestatic 55, 3) := by decide +kernel
theorem dX7_lots_7 : decode cX7_lots 7 = .ok (.ifCond .ne 5, 3) := by decide +kernel
theorem dX7_lots_10 : decode cX7_lots 10 = .ok (.iconst (-1), 1) := by decide +kernel
theorem dX7_lots_11 : decode cX7_lots 11 = .ok (.ireturn, 1) := by decide +kernel
theorem dX7_lots_12 : decode cX7_lots 12 = .ok (.aload_n 0, 1) := by decide +kernel
theorem dX7_lots_13 : decode cX7_lots 13 = .ok (.getfield 10, 3) := by decide +kernel
theorem dX7_lots_16 : decode cX7_lots 16 = .ok (.getfield 63, 3) := by decide +kernel
theorem dX7_lots_19 : decode cX7_lots 19 = .ok (.getfield 193, 3) := by decide +kernel
theorem dX7_lots_22 : decode cX7_lots 22 = .ok (.iload_n 1, 1) := by decide +kernel
theorem dX7_lots_23 : decode cX7_lots 23 = .ok (.iadd, 1) := by decide +kernel
theorem dX7_lots_24 : decode cX7_lots 24 = .ok (.sipush 9999, 3) := by decide +kernel
theorem dX7_lots_27 : decode cX7_lots 27 = .ok (.if_icmp .le 6, 3) := by decide +kernel
theorem dX7_lots_30 : decode cX7_lots 30 = .ok (.bipush (-3), 2) := by decide +kernel
theorem dX7_lots_32 : decode cX7_lots 32 = .ok (.ireturn, 1) := by decide +kernel
theorem dX7_lots_33 : decode cX7_lots 33 = .ok (.iconst 0, 1) := by decide +kernel
theorem dX7_lots_34 : decode cX7_lots 34 = .ok (.istore_n 2, 1) := by decide +kernel
theorem dX7_lots_35 : decode cX7_lots 35 = .ok (.iconst 0, 1) := by decide +kernel
theorem dX7_lots_36 : decode cX7_lots 36 = .ok (.istore_n 3, 1) := by decide +kernel
theorem dX7_lots_37 : decode cX7_lots 37 = .ok (.iload_n 3, 1) := by decide +kernel
theorem dX7_lots_38 : decode cX7_lots 38 = .ok (.iload_n 1, 1) := by decide +kernel
theorem dX7_lots_39 : decode cX7_lots 39 = .ok (.if_icmp .ge 29, 3) := by decide +kernel
theorem dX7_lots_42 : decode cX7_lots 42 = .ok (.iload_n 2, 1) := by decide +kernel
theorem dX7_lots_43 : decode cX7_lots 43 = .ok (.aload_n 0, 1) := by decide +kernel
theorem dX7_lots_44 : decode cX7_lots 44 = .ok (.getfield 10, 3) := by decide +kernel
theorem dX7_lots_47 : decode cX7_lots 47 = .ok (.getfield 63, 3) := by decide +kernel
theorem dX7_lots_50 : decode cX7_lots 50 = .ok (.aload_n 0, 1) := by decide +kernel
theorem dX7_lots_51 : decode cX7_lots 51 = .ok (.getfield 10, 3) := by decide +kernel
theorem dX7_lots_54 : decode cX7_lots 54 = .ok (.invokevirtual 288, 3) := by decide +kernel
theorem dX7_lots_57 : decode cX7_lots 57 = .ok (.invokevirtual 212, 3) := by decide +kernel
theorem dX7_lots_60 : decode cX7_lots 60 = .ok (.iadd, 1) := by decide +kernel
theorem dX7_lots_61 : decode cX7_lots 61 = .ok (.istore_n 2, 1) := by decide +kernel
theorem dX7_lots_62 : decode cX7_lots 62 = .ok (.iinc 3 1, 3) := by decide +kernel
theorem dX7_lots_65 : decode cX7_lots 65 = .ok (.goto (-28), 3) := by decide +kernel
theorem dX7_lots_68 : decode cX7_lots 68 = .ok (.iload_n 2, 1) := by decide +kernel
theorem dX7_lots_69 : decode cX7_lots 69 = .ok (.ireturn, 1) := by decide +kernel
theorem dX7_seed_0 : decode cX7_seed 0 = .ok (.iload_n 1, 1) := by decide +kernel
theorem dX7_seed_1 : decode cX7_seed 1 = .ok (.ifCond .ge 5, 3) := by decide +kernel
theorem dX7_seed_4 : decode cX7_seed 4 = .ok (.iconst (-1), 1) := by decide +kernel
theorem dX7_seed_5 : decode cX7_seed 5 = .ok (.ireturn, 1) := by decide +kernel
theorem dX7_seed_6 : decode cX7_seed 6 = .ok (.aload_n 0, 1) := by decide +kernel
theorem dX7_seed_7 : decode cX7_seed 7 = .ok (.getfield 10, 3) := by decide +kernel
theorem dX7_seed_10 : decode cX7_seed 10 = .ok (.getfield 291, 3) := by decide +kernel
theorem dX7_seed_13 : decode cX7_seed 13 = .ok (.istore_n 2, 1) := by decide +kernel
theorem dX7_seed_14 : decode cX7_seed 14 = .ok (.aload_n 0, 1) := by decide +kernel
theorem dX7_seed_15 : decode cX7_seed 15 = .ok (.getfield 10, 3) := by decide +kernel
theorem dX7_seed_18 : decode cX7_seed 18 = .ok (.iload_n 1, 1) := by decide +kernel
theorem dX7_seed_19 : decode cX7_seed 19 = .ok (.putfield 291, 3) := by decide +kernel
theorem dX7_seed_22 : decode cX7_seed 22 = .ok (.iload_n 2, 1) := by decide +kernel
theorem dX7_seed_23 : decode cX7_seed 23 = .ok (.ireturn, 1) := by decide +kernel
theorem dX7_image_0 : decode cX7_image 0 = .ok (.aload_n 0, 1) := by decide +kernel
theorem dX7_image_1 : decode cX7_image 1 = .ok (.getfield 16, 3) := by decide +kernel
theorem dX7_image_4 : decode cX7_image 4 = .ok (.aload_n 0, 1) := by decide +kernel
theorem dX7_image_5 : decode cX7_image 5 = .ok (.getfield 10, 3) := by decide +kernel
theorem dX7_image_8 : decode cX7_image 8 = .ok (.invokevirtual 294, 3) := by decide +kernel
theorem dX7_image_11 : decode cX7_image 11 = .ok (.aload_n 0, 1) := by decide +kernel
theorem dX7_image_12 : decode cX7_image 12 = .ok (.iconst 1, 1) := by decide +kernel
theorem dX7_image_13 : decode cX7_image 13 = .ok (.putfield 19, 3) := by decide +kernel
theorem dX7_image_16 : decode cX7_image 16 = .ok (.iconst 1, 1) := by decide +kernel
theorem dX7_image_17 : decode cX7_image 17 = .ok (.ireturn, 1) := by decide +kernel
theorem dX7_restore_0 : decode cX7_restore 0 = .ok (.aload_n 0, 1) := by decide +kernel
theorem dX7_restore_1 : decode cX7_restore 1 = .ok (.getfield 19, 3) := by decide +kernel
theorem dX7_restore_4 : decode cX7_restore 4 = .ok (.ifCond .ne 6, 3) := by decide +kernel
theorem dX7_restore_7 : decode cX7_restore 7 = .ok (.bipush (-4), 2) := by decide +kernel
theorem dX7_restore_9 : decode cX7_restore 9 = .ok (.ireturn, 1) := by decide +kernel
theorem dX7_restore_10 : decode cX7_restore 10 = .ok (.aload_n 0, 1) := by decide +kernel
theorem dX7_restore_11 : decode cX7_restore 11 = .ok (.getfield 10, 3) := by decide +kernel
theorem dX7_restore_14 : decode cX7_restore 14 = .ok (.aload_n 0, 1) := by decide +kernel
theorem dX7_restore_15 : decode cX7_restore 15 = .ok (.getfield 16, 3) := by decide +kernel
theorem dX7_restore_18 : decode cX7_restore 18 = .ok (.invokevirtual 294, 3) := by decide +kernel
theorem dX7_restore_21 : decode cX7_restore 21 = .ok (.iconst 1, 1) := by decide +kernel
theorem dX7_restore_22 : decode cX7_restore 22 = .ok (.ireturn, 1) := by decide +kernel
theorem dX7_dress_0 : decode cX7_dress 0 = .ok (.iload_n 1, 1) := by decide +kernel
theorem dX7_dress_1 : decode cX7_dress 1 = .ok (.invokestatic 297, 3) := by decide +kernel
theorem dX7_dress_4 : decode cX7_dress 4 = .ok (.ifCond .eq 29, 3) := by decide +kernel
theorem dX7_dress_7 : decode cX7_dress 7 = .ok (.iload_n 2, 1) := by decide +kernel
theorem dX7_dress_8 : decode cX7_dress 8 = .ok (.invokestatic 300, 3) := by decide +kernel
theorem dX7_dress_11 : decode cX7_dress 11 = .ok (.ifCond .eq 22, 3) := by decide +kernel
theorem dX7_dress_14 : decode cX7_dress 14 = .ok (.iload 4, 2) := by decide +kernel
theorem dX7_dress_16 : decode cX7_dress 16 = .ok (.iconst 1, 1) := by decide +kernel
theorem dX7_dress_17 : decode cX7_dress 17 = .ok (.aload_n 0, 1) := by decide +kernel
theorem dX7_dress_18 : decode cX7_dress 18 = .ok (.getfield 10, 3) := by decide +kernel
theorem dX7_dress_21 : decode cX7_dress 21 = .ok (.getfield 63, 3) := by decide +kernel
