theorem dX5_sitting_87 : decode cX5_sitting 87 = .ok (.aload_n 0, 1) := by decide +kernel
theorem dX5_sitting_88 : decode cX5_sitting 88 = .ok (.getfield 146, 3) := by decide +kernel
theorem dX5_sitting_91 : decode cX5_sitting 91 = .ok (.ireturn, 1) := by decide +kernel
theorem dX5_sitting_92 : decode cX5_sitting 92 = .ok (.aload_n 0, 1) := by decide +kernel
theorem dX5_sitting_93 : decode cX5_sitting 93 = .ok (.iload 5, 2) := by decide +kernel
theorem dX5_sitting_95 : decode cX5_sitting 95 = .ok (.bipush 10, 2) := by decide +kernel
theorem dX5_sitting_97 : decode cX5_sitting 97 = .ok (.isub, 1) := by decide +kernel
theorem dX5_sitting_98 : decode cX5_sitting 98 = .ok (.invokevirtual 143, 3) := by decide +kernel
theorem dX5_sitting_101 : decode cX5_sitting 101 = .ok (.ifCond .eq 16, 3) := by decide +kernel
theorem dX5_sitting_104 : decode cX5_sitting 104 = .ok (.aload_n 0, 1) := by decide +kernel
theorem dX5_sitting_105 : decode cX5_sitting 105 = .ok (.getfield 47, 3) := by decide +kernel
theorem dX5_sitting_108 : decode cX5_sitting 108 = .ok (.iload 5, 2) := by decide +kernel
theorem dX5_sitting_110 : decode cX5_sitting 110 = .ok (.bipush 10, 2) := by decide +kernel
theorem dX5_sitting_112 : decode cX5_sitting 112 = .ok (.isub, 1) := by decide +kernel
theorem dX5_sitting_113 : decode cX5_sitting 113 = .ok (.iaload, 1) := by decide +kernel
theorem dX5_sitting_114 : decode cX5_sitting 114 = .ok (.goto 5, 3) := by decide +kernel
theorem dX5_sitting_117 : decode cX5_sitting 117 = .ok (.bipush (-9), 2) := by decide +kernel
theorem dX5_sitting_119 : decode cX5_sitting 119 = .ok (.ireturn, 1) := by decide +kernel
theorem dX5_votes_0 : decode cX5_votes 0 = .ok (.aload_n 0, 1) := by decide +kernel
theorem dX5_votes_1 : decode cX5_votes 1 = .ok (.iload_n 1, 1) := by decide +kernel
theorem dX5_votes_2 : decode cX5_votes 2 = .ok (.invokevirtual 143, 3) := by decide +kernel
theorem dX5_votes_5 : decode cX5_votes 5 = .ok (.ifCond .ne 5, 3) := by decide +kernel
theorem dX5_votes_8 : decode cX5_votes 8 = .ok (.iconst (-1), 1) := by decide +kernel
theorem dX5_votes_9 : decode cX5_votes 9 = .ok (.ireturn, 1) := by decide +kernel
theorem dX5_votes_10 : decode cX5_votes 10 = .ok (.iload_n 2, 1) := by decide +kernel
theorem dX5_votes_11 : decode cX5_votes 11 = .ok (.iconst 0, 1) := by decide +kernel
theorem dX5_votes_12 : decode cX5_votes 12 = .ok (.bipush 60, 2) := by decide +kernel
theorem dX5_votes_14 : decode cX5_votes 14 = .ok (.invokestatic 74, 3) := by decide +kernel
theorem dX5_votes_17 : decode cX5_votes 17 = .ok (.ifCond .ne 6, 3) := by decide +kernel
theorem dX5_votes_20 : decode cX5_votes 20 = .ok (.bipush (-2), 2) := by decide +kernel
theorem dX5_votes_22 : decode cX5_votes 22 = .ok (.ireturn, 1) := by decide +kernel
theorem dX5_votes_23 : decode cX5_votes 23 = .ok (.aload_n 0, 1) := by decide +kernel
theorem dX5_votes_24 : decode cX5_votes 24 = .ok (.invokevirtual 163, 3) := by decide +kernel
theorem dX5_votes_27 : decode cX5_votes 27 = .ok (.iconst 0, 1) := by decide +kernel
theorem dX5_votes_28 : decode cX5_votes 28 = .ok (.istore_n 3, 1) := by decide +kernel
theorem dX5_votes_29 : decode cX5_votes 29 = .ok (.iconst 0, 1) := by decide +kernel
theorem dX5_votes_30 : decode cX5_votes 30 = .ok (.istore 4, 2) := by decide +kernel
theorem dX5_votes_32 : decode cX5_votes 32 = .ok (.iload 4, 2) := by decide +kernel
theorem dX5_votes_34 : decode cX5_votes 34 = .ok (.aload_n 0, 1) := by decide +kernel
theorem dX5_votes_35 : decode cX5_votes 35 = .ok (.getfield 78, 3) := by decide +kernel
theorem dX5_votes_38 : decode cX5_votes 38 = .ok (.if_icmp .ge 42, 3) := by decide +kernel
theorem dX5_votes_41 : decode cX5_votes 41 = .ok (.iload_n 3, 1) := by decide +kernel
theorem dX5_votes_42 : decode cX5_votes 42 = .ok (.aload_n 0, 1) := by decide +kernel
theorem dX5_votes_43 : decode cX5_votes 43 = .ok (.getfield 29, 3) := by decide +kernel
theorem dX5_votes_46 : decode cX5_votes 46 = .ok (.iload 4, 2) := by decide +kernel
theorem dX5_votes_48 : decode cX5_votes 48 = .ok (.baload, 1) := by decide +kernel
theorem dX5_votes_49 : decode cX5_votes 49 = .ok (.ifCond .ne 22, 3) := by decide +kernel
theorem dX5_votes_52 : decode cX5_votes 52 = .ok (.aload_n 0, 1) := by decide +kernel
theorem dX5_votes_53 : decode cX5_votes 53 = .ok (.iload 4, 2) := by decide +kernel
theorem dX5_votes_55 : decode cX5_votes 55 = .ok (.iload_n 1, 1) := by decide +kernel
theorem dX5_votes_56 : decode cX5_votes 56 = .ok (.iload_n 2, 1) := by decide +kernel
theorem dX5_votes_57 : decode cX5_votes 57 = .ok (.iconst 0, 1) := by decide +kernel
theorem dX5_votes_58 : decode cX5_votes 58 = .ok (.invokevirtual 156, 3) := by decide +kernel
theorem dX5_votes_61 : decode cX5_votes 61 = .ok (.ifCond .eq 10, 3) := by decide +kernel
theorem dX5_votes_64 : decode cX5_votes 64 = .ok (.iconst 1, 1) := by decide +kernel
theorem dX5_votes_65 : decode cX5_votes 65 = .ok (.iload 4, 2) := by decide +kernel
theorem dX5_votes_67 : decode cX5_votes 67 = .ok (.ishl, 1) := by decide +kernel
theorem dX5_votes_68 : decode cX5_votes 68 = .ok (.goto 4, 3) := by decide +kernel
theorem dX5_votes_71 : decode cX5_votes 71 = .ok (.iconst 0, 1) := by decide +kernel
theorem dX5_votes_72 : decode cX5_votes 72 = .ok (.ior, 1) := by decide +kernel
theorem dX5_votes_73 : decode cX5_votes 73 = .ok (.istore_n 3, 1) := by decide +kernel
theorem dX5_votes_74 : decode cX5_votes 74 = .ok (.iinc 4 1, 3) := by decide +kernel
theorem dX5_votes_77 : decode cX5_votes 77 = .ok (.goto (-45), 3) := by decide +kernel
theorem dX5_votes_80 : decode cX5_votes 80 = .ok (.iload_n 3, 1) := by decide +kernel
theorem dX5_votes_81 : decode cX5_votes 81 = .ok (.ireturn, 1) := by decide +kernel
theorem dX5_swap_0 : decode cX5_swap 0 = .ok (.aload_n 0, 1) := by decide +kernel
theorem dX5_swap_1 : decode cX5_swap 1 = .ok (.getfield 56, 3) := by decide +kernel
theorem dX5_swap_4 : decode cX5_swap 4 = .ok (.iload_n 1, 1) := by decide +kernel
theorem dX5_swap_5 : decode cX5_swap 5 = .ok (.iaload, 1) := by decide +kernel
theorem dX5_swap_6 : decode cX5_swap 6 = .ok (.istore_n 3, 1) := by decide +kernel
theorem dX5_swap_7 : decode cX5_swap 7 = .ok (.aload_n 0, 1) := by decide +kernel
theorem dX5_swap_8 : decode cX5_swap 8 = .ok (.getfield 56, 3) := by decide +kernel
theorem dX5_swap_11 : decode cX5_swap 11 = .ok (.iload_n 1, 1) := by decide +kernel
theorem dX5_swap_12 : decode cX5_swap 12 = .ok (.aload_n 0, 1) := by decide +kernel
theorem dX5_swap_13 : decode cX5_swap 13 = .ok (.getfield 56, 3) := by decide +kernel
theorem dX5_swap_16 : decode cX5_swap 16 = .ok (.iload_n 2, 1) := by decide +kernel
theorem dX5_swap_17 : decode cX5_swap 17 = .ok (.iaload, 1) := by decide +kernel
theorem dX5_swap_18 : decode cX5_swap 18 = .ok (.iastore, 1) := by decide +kernel
theorem dX5_swap_19 : decode cX5_swap 19 = .ok (.aload_n 0, 1) := by decide +kernel
theorem dX5_swap_20 : decode cX5_swap 20 = .ok (.getfield 56, 3) := by decide +kernel
theorem dX5_swap_23 : decode cX5_swap 23 = .ok (.iload_n 2, 1) := by decide +kernel
theorem dX5_swap_24 : decode cX5_swap 24 = .ok (.iload_n 3, 1) := by decide +kernel
theorem dX5_swap_25 : decode cX5_swap 25 = .ok (.iastore, 1) := by decide +kernel
theorem dX5_swap_26 : decode cX5_swap 26 = .ok (.return_, 1) := by decide +kernel
theorem dX5_nextRow_0 : decode cX5_nextRow 0 = .ok (.aload_n 0, 1) := by decide +kernel
theorem dX5_nextRow_1 : decode cX5_nextRow 1 = .ok (.getfield 81, 3) := by decide +kernel
theorem dX5_nextRow_4 : decode cX5_nextRow 4 = .ok (.iconst 2, 1) := by decide +kernel
theorem dX5_nextRow_5 : decode cX5_nextRow 5 = .ok (.isub, 1) := by decide +kernel
theorem dX5_nextRow_6 : decode cX5_nextRow 6 = .ok (.istore_n 1, 1) := by decide +kernel
theorem dX5_nextRow_7 : decode cX5_nextRow 7 = .ok (.iload_n 1, 1) := by decide +kernel
theorem dX5_nextRow_8 : decode cX5_nextRow 8 = .ok (.ifCond .lt 26, 3) := by decide +kernel
theorem dX5_nextRow_11 : decode cX5_nextRow 11 = .ok (.aload_n 0, 1) := by decide +kernel
theorem dX5_nextRow_12 : decode cX5_nextRow 12 = .ok (.getfield 56, 3) := by decide +kernel
theorem dX5_nextRow_15 : decode cX5_nextRow 15 = .ok (.iload_n 1, 1) := by decide +kernel
theorem dX5_nextRow_16 : decode cX5_nextRow 16 = .ok (.iaload, 1) := by decide +kernel
theorem dX5_nextRow_17 : decode cX5_nextRow 17 = .ok (.aload_n 0, 1) := by decide +kernel
theorem dX5_nextRow_18 : decode cX5_nextRow 18 = .ok (.getfield 56, 3) := by decide +kernel
theorem dX5_nextRow_21 : decode cX5_nextRow 21 = .ok (.iload_n 1, 1) := by decide +kernel
theorem dX5_nextRow_22 : decode cX5_nextRow 22 = .ok (.iconst 1, 1) := by decide +kernel
theorem dX5_nextRow_23 : decode cX5_nextRow 23 = .ok (.iadd, 1) := by decide +kernel
theorem dX5_nextRow_24 : decode cX5_nextRow 24 = .ok (.iaload, 1) := by decide +kernel
theorem dX5_nextRow_25 : decode cX5_nextRow 25 = .ok (.if_icmp .le 9, 3) := by decide +kernel
theorem dX5_nextRow_28 : decode cX5_nextRow 28 = .ok (.iinc 1 (-1), 3) := by decide +kernel
theorem dX5_nextRow_31 : decode cX5_nextRow 31 = .ok (.goto (-24), 3) := by decide +kernel
theorem dX5_nextRow_34 : decode cX5_nextRow 34 = .ok (.iload_n 1, 1) := by decide +kernel
theorem dX5_nextRow_35 : decode cX5_nextRow 35 = .ok (.ifCond .ge 5, 3) := by decide +kernel
theorem dX5_nextRow_38 : decode cX5_nextRow 38 = .ok (.iconst 0, 1) := by decide +kernel
theorem dX5_nextRow_39 : decode cX5_nextRow 39 = .ok (.ireturn, 1) := by decide +kernel
theorem dX5_nextRow_40 : decode cX5_nextRow 40 = .ok (.aload_n 0, 1) := by decide +kernel
theorem dX5_nextRow_41 : decode cX5_nextRow 41 = .ok (.getfield 81, 3) := by decide +kernel
theorem dX5_nextRow_44 : decode cX5_nextRow 44 = .ok (.iconst 1, 1) := by decide +kernel
theorem dX5_nextRow_45 : decode cX5_nextRow 45 = .ok (.isub, 1) := by decide +kernel
theorem dX5_nextRow_46 : decode cX5_nextRow 46 = .ok (.istore_n 2, 1) := by decide +kernel
theorem dX5_nextRow_47 : decode cX5_nextRow 47 = .ok (.aload_n 0, 1) := by decide +kernel
theorem dX5_nextRow_48 : decode cX5_nextRow 48 = .ok (.getfield 56, 3) := by decide +kernel
theorem dX5_nextRow_51 : decode cX5_nextRow 51 = .ok (.iload_n 2, 1) := by decide +kernel
theorem dX5_nextRow_52 : decode cX5_nextRow 52 = .ok (.iaload, 1) := by decide +kernel
theorem dX5_nextRow_53 : decode cX5_nextRow 53 = .ok (.aload_n 0, 1) := by decide +kernel
theorem dX5_nextRow_54 : decode cX5_nextRow 54 = .ok (.getfield 56, 3) := by decide +kernel
theorem dX5_nextRow_57 : decode cX5_nextRow 57 = .ok (.iload_n 1, 1) := by decide +kernel
theorem dX5_nextRow_58 : decode cX5_nextRow 58 = .ok (.iaload, 1) := by decide +kernel
theorem dX5_nextRow_59 : decode cX5_nextRow 59 = .ok (.if_icmp .ge 9, 3) := by decide +kernel
theorem dX5_nextRow_62 : decode cX5_nextRow 62 = .ok (.iinc 2 (-1), 3) := by decide +kernel
theorem dX5_nextRow_65 : decode cX5_nextRow 65 = .ok (.goto (-18), 3) := by decide +kernel
theorem dX5_nextRow_68 : decode cX5_nextRow 68 = .ok (.aload_n 0, 1) := by decide +kernel
theorem dX5_nextRow_69 : decode cX5_nextRow 69 = .ok (.iload_n 1, 1) := by decide +kernel
theorem dX5_nextRow_70 : decode cX5_nextRow 70 = .ok (.iload_n 2, 1) := by decide +kernel
theorem dX5_nextRow_71 : decode cX5_nextRow 71 = .ok (.invokevirtual 186, 3) := by decide +kernel
theorem dX5_nextRow_74 : decode cX5_nextRow 74 = .ok (.iload_n 1, 1) := by decide +kernel
theorem dX5_nextRow_75 : decode cX5_nextRow 75 = .ok (.iconst 1, 1) := by decide +kernel
theorem dX5_nextRow_76 : decode cX5_nextRow 76 = .ok (.iadd, 1) := by decide +kernel
theorem dX5_nextRow_77 : decode cX5_nextRow 77 = .ok (.istore_n 3, 1) := by decide +kernel
theorem dX5_nextRow_78 : decode cX5_nextRow 78 = .ok (.aload_n 0, 1) := by decide +kernel
theorem dX5_nextRow_79 : decode cX5_nextRow 79 = .ok (.getfield 81, 3) := by decide +kernel
theorem dX5_nextRow_82 : decode cX5_nextRow 82 = .ok (.iconst 1, 1) := by decide +kernel
theorem dX5_nextRow_83 : decode cX5_nextRow 83 = .ok (.isub, 1) := by decide +kernel
theorem dX5_nextRow_84 : decode cX5_nextRow 84 = .ok (.istore 4, 2) := by decide +kernel
theorem dX5_nextRow_86 : decode cX5_nextRow 86 = .ok (.iload_n 3, 1) := by decide +kernel
theorem dX5_nextRow_87 : decode cX5_nextRow 87 = .ok (.iload 4, 2) := by decide +kernel
theorem dX5_nextRow_89 : decode cX5_nextRow 89 = .ok (.if_icmp .ge 19, 3) := by decide +kernel
theorem dX5_nextRow_92 : decode cX5_nextRow 92 = .ok (.aload_n 0, 1) := by decide +kernel
theorem dX5_nextRow_93 : decode cX5_nextRow 93 = .ok (.iload_n 3, 1) := by decide +kernel
theorem dX5_nextRow_94 : decode cX5_nextRow 94 = .ok (.iload 4, 2) := by decide +kernel
theorem dX5_nextRow_96 : decode cX5_nextRow 96 = .ok (.invokevirtual 186, 3) := by decide +kernel
theorem dX5_nextRow_99 : decode cX5_nextRow 99 = .ok (.iinc 3 1, 3) := by decide +kernel
theorem dX5_nextRow_102 : decode cX5_nextRow 102 = .ok (.iinc 4 (-1), 3) := by decide +kernel
theorem dX5_nextRow_105 : decode cX5_nextRow 105 = .ok (.goto (-19), 3) := by decide +kernel
theorem dX5_nextRow_108 : decode cX5_nextRow 108 = .ok (.iconst 1, 1) := by decide +kernel
theorem dX5_nextRow_109 : decode cX5_nextRow 109 = .ok (.ireturn, 1) := by decide +kernel
theorem dX5_findOrder_0 : decode cX5_findOrder 0 = .ok (.bipush (-9), 2) := by decide +kernel
theorem dX5_findOrder_2 : decode cX5_findOrder 2 = .ok (.istore_n 2, 1) := by decide +kernel
theorem dX5_findOrder_3 : decode cX5_findOrder 3 = .ok (.iconst 1, 1) := by decide +kernel
theorem dX5_findOrder_4 : decode cX5_findOrder 4 = .ok (.istore_n 3, 1) := by decide +kernel
theorem dX5_findOrder_5 : decode cX5_findOrder 5 = .ok (.aload_n 0, 1) := by decide +kernel
theorem dX5_findOrder_6 : decode cX5_findOrder 6 = .ok (.invokevirtual 173, 3) := by decide +kernel
theorem dX5_findOrder_9 : decode cX5_findOrder 9 = .ok (.iload_n 3, 1) := by decide +kernel
theorem dX5_findOrder_10 : decode cX5_findOrder 10 = .ok (.ifCond .eq 98, 3) := by decide +kernel
theorem dX5_findOrder_13 : decode cX5_findOrder 13 = .ok (.aload_n 0, 1) := by decide +kernel
theorem dX5_findOrder_14 : decode cX5_findOrder 14 = .ok (.invokevirtual 176, 3) := by decide +kernel
theorem dX5_findOrder_17 : decode cX5_findOrder 17 = .ok (.aload_n 0, 1) := by decide +kernel
theorem dX5_findOrder_18 : decode cX5_findOrder 18 = .ok (.invokevirtual 179, 3) := by decide +kernel
theorem dX5_findOrder_21 : decode cX5_findOrder 21 = .ok (.istore 4, 2) := by decide +kernel
theorem dX5_findOrder_23 : decode cX5_findOrder 23 = .ok (.iload_n 1, 1) := by decide +kernel
theorem dX5_findOrder_24 : decode cX5_findOrder 24 = .ok (.ifCond .eq 17, 3) := by decide +kernel
theorem dX5_findOrder_27 : decode cX5_findOrder 27 = .ok (.iload 4, 2) := by decide +kernel
theorem dX5_findOrder_29 : decode cX5_findOrder 29 = .ok (.iload_n 2, 1) := by decide +kernel
theorem dX5_findOrder_30 : decode cX5_findOrder 30 = .ok (.if_icmp .le 7, 3) := by decide +kernel
theorem dX5_findOrder_33 : decode cX5_findOrder 33 = .ok (.iconst 1, 1) := by decide +kernel
theorem dX5_findOrder_34 : decode cX5_findOrder 34 = .ok (.goto 18, 3) := by decide +kernel
theorem dX5_findOrder_37 : decode cX5_findOrder 37 = .ok (.iconst 0, 1) := by decide +kernel
theorem dX5_findOrder_38 : decode cX5_findOrder 38 = .ok (.goto 14, 3) := by decide +kernel
theorem dX5_findOrder_41 : decode cX5_findOrder 41 = .ok (.iload 4, 2) := by decide +kernel
theorem dX5_findOrder_43 : decode cX5_findOrder 43 = .ok (.iload_n 2, 1) := by decide +kernel
theorem dX5_findOrder_44 : decode cX5_findOrder 44 = .ok (.if_icmp .ge 7, 3) := by decide +kernel
theorem dX5_findOrder_47 : decode cX5_findOrder 47 = .ok (.iconst 1, 1) := by decide +kernel
theorem dX5_findOrder_48 : decode cX5_findOrder 48 = .ok (.goto 4, 3) := by decide +kernel
theorem dX5_findOrder_51 : decode cX5_findOrder 51 = .ok (.iconst 0, 1) := by decide +kernel
theorem dX5_findOrder_52 : decode cX5_findOrder 52 = .ok (.istore 5, 2) := by decide +kernel
theorem dX5_findOrder_54 : decode cX5_findOrder 54 = .ok (.iload_n 2, 1) := by decide +kernel
theorem dX5_findOrder_55 : decode cX5_findOrder 55 = .ok (.bipush (-9), 2) := by decide +kernel
theorem dX5_findOrder_57 : decode cX5_findOrder 57 = .ok (.if_icmp .eq 8, 3) := by decide +kernel
theorem dX5_findOrder_60 : decode cX5_findOrder 60 = .ok (.iload 5, 2) := by decide +kernel
theorem dX5_findOrder_62 : decode cX5_findOrder 62 = .ok (.ifCond .eq 38, 3) := by decide +kernel
theorem dX5_findOrder_65 : decode cX5_findOrder 65 = .ok (.iload 4, 2) := by decide +kernel
theorem dX5_findOrder_67 : decode cX5_findOrder 67 = .ok (.istore_n 2, 1) := by decide +kernel
theorem dX5_findOrder_68 : decode cX5_findOrder 68 = .ok (.iconst 0, 1) := by decide +kernel
theorem dX5_findOrder_69 : decode cX5_findOrder 69 = .ok (.istore 6, 2) := by decide +kernel
theorem dX5_findOrder_71 : decode cX5_findOrder 71 = .ok (.iload 6, 2) := by decide +kernel
theorem dX5_findOrder_73 : decode cX5_findOrder 73 = .ok (.aload_n 0, 1) := by decide +kernel
theorem dX5_findOrder_74 : decode cX5_findOrder 74 = .ok (.getfield 81, 3) := by decide +kernel
theorem dX5_findOrder_77 : decode cX5_findOrder 77 = .ok (.if_icmp .ge 23, 3) := by decide +kernel
theorem dX5_findOrder_80 : decode cX5_findOrder 80 = .ok (.aload_n 0, 1) := by decide +kernel
theorem dX5_findOrder_81 : decode cX5_findOrder 81 = .ok (.getfield 59, 3) := by decide +kernel
theorem dX5_findOrder_84 : decode cX5_findOrder 84 = .ok (.iload 6, 2) := by decide +kernel
theorem dX5_findOrder_86 : decode cX5_findOrder 86 = .ok (.aload_n 0, 1) := by decide +kernel
theorem dX5_findOrder_87 : decode cX5_findOrder 87 = .ok (.getfield 56, 3) := by decide +kernel
theorem dX5_findOrder_90 : decode cX5_findOrder 90 = .ok (.iload 6, 2) := by decide +kernel
theorem dX5_findOrder_92 : decode cX5_findOrder 92 = .ok (.iaload, 1) := by decide +kernel
theorem dX5_findOrder_93 : decode cX5_findOrder 93 = .ok (.iastore, 1) := by decide +kernel
theorem dX5_findOrder_94 : decode cX5_findOrder 94 = .ok (.iinc 6 1, 3) := by decide +kernel
theorem dX5_findOrder_97 : decode cX5_findOrder 97 = .ok (.goto (-26), 3) := by decide +kernel
theorem dX5_findOrder_100 : decode cX5_findOrder 100 = .ok (.aload_n 0, 1) := by decide +kernel
theorem dX5_findOrder_101 : decode cX5_findOrder 101 = .ok (.invokevirtual 190, 3) := by decide +kernel
theorem dX5_findOrder_104 : decode cX5_findOrder 104 = .ok (.istore_n 3, 1) := by decide +kernel
theorem dX5_findOrder_105 : decode cX5_findOrder 105 = .ok (.goto (-96), 3) := by decide +kernel
theorem dX5_findOrder_108 : decode cX5_findOrder 108 = .ok (.iload_n 2, 1) := by decide +kernel
theorem dX5_findOrder_109 : decode cX5_findOrder 109 = .ok (.ireturn, 1) := by decide +kernel
theorem dX5_order_0 : decode cX5_order 0 = .ok (.iload_n 1, 1) := by decide +kernel
theorem dX5_order_1 : decode cX5_order 1 = .ok (.iconst (-1), 1) := by decide +kernel
theorem dX5_order_2 : decode cX5_order 2 = .ok (.if_icmp .ge 5, 3) := by decide +kernel
theorem dX5_order_5 : decode cX5_order 5 = .ok (.iconst (-1), 1) := by decide +kernel
theorem dX5_order_6 : decode cX5_order 6 = .ok (.ireturn, 1) := by decide +kernel
theorem dX5_order_7 : decode cX5_order 7 = .ok (.aload_n 0, 1) := by decide +kernel
theorem dX5_order_8 : decode cX5_order 8 = .ok (.getfield 81, 3) := by decide +kernel
theorem dX5_order_11 : decode cX5_order 11 = .ok (.ifCond .ne 6, 3) := by decide +kernel
theorem dX5_order_14 : decode cX5_order 14 = .ok (.bipush (-3), 2) := by decide +kernel
theorem dX5_order_16 : decode cX5_order 16 = .ok (.ireturn, 1) := by decide +kernel
theorem dX5_order_17 : decode cX5_order 17 = .ok (.aload_n 0, 1) := by decide +kernel
theorem dX5_order_18 : decode cX5_order 18 = .ok (.iload_n 2, 1) := by decide +kernel
theorem dX5_order_19 : decode cX5_order 19 = .ok (.invokevirtual 194, 3) := by decide +kernel
theorem dX5_order_22 : decode cX5_order 22 = .ok (.istore_n 3, 1) := by decide +kernel
theorem dX5_order_23 : decode cX5_order 23 = .ok (.iload_n 1, 1) := by decide +kernel
theorem dX5_order_24 : decode cX5_order 24 = .ok (.iconst (-1), 1) := by decide +kernel
theorem dX5_order_25 : decode cX5_order 25 = .ok (.if_icmp .ne 7, 3) := by decide +kernel
theorem dX5_order_28 : decode cX5_order 28 = .ok (.iload_n 3, 1) := by decide +kernel
theorem dX5_order_29 : decode cX5_order 29 = .ok (.goto 22, 3) := by decide +kernel
theorem dX5_order_32 : decode cX5_order 32 = .ok (.iload_n 1, 1) := by decide +kernel
theorem dX5_order_33 : decode cX5_order 33 = .ok (.aload_n 0, 1) := by decide +kernel
theorem dX5_order_34 : decode cX5_order 34 = .ok (.getfield 81, 3) := by decide +kernel
theorem dX5_order_37 : decode cX5_order 37 = .ok (.if_icmp .ge 12, 3) := by decide +kernel
theorem dX5_order_40 : decode cX5_order 40 = .ok (.aload_n 0, 1) := by decide +kernel
theorem dX5_order_41 : decode cX5_order 41 = .ok (.getfield 59, 3) := by decide +kernel
theorem dX5_order_44 : decode cX5_order 44 = .ok (.iload_n 1, 1) := by decide +kernel
theorem dX5_order_45 : decode cX5_order 45 = .ok (.iaload, 1) := by decide +kernel
theorem dX5_order_46 : decode cX5_order 46 = .ok (.goto 5, 3) := by decide +kernel
theorem dX5_order_49 : decode cX5_order 49 = .ok (.bipush (-9), 2) := by decide +kernel
theorem dX5_order_51 : decode cX5_order 51 = .ok (.ireturn, 1) := by decide +kernel
theorem dX5_most_0 : decode cX5_most 0 = .ok (.aload_n 0, 1) := by decide +kernel
theorem dX5_most_1 : decode cX5_most 1 = .ok (.iload_n 1, 1) := by decide +kernel
theorem dX5_most_2 : decode cX5_most 2 = .ok (.iconst 1, 1) := by decide +kernel
theorem dX5_most_3 : decode cX5_most 3 = .ok (.invokevirtual 198, 3) := by decide +kernel
theorem dX5_most_6 : decode cX5_most 6 = .ok (.ireturn, 1) := by decide +kernel
theorem dX5_delay_0 : decode cX5_delay 0 = .ok (.aload_n 0, 1) := by decide +kernel
theorem dX5_delay_1 : decode cX5_delay 1 = .ok (.iload_n 1, 1) := by decide +kernel
theorem dX5_delay_2 : decode cX5_delay 2 = .ok (.iconst 0, 1) := by decide +kernel
theorem dX5_delay_3 : decode cX5_delay 3 = .ok (.invokevirtual 198, 3) := by decide +kernel
theorem dX5_delay_6 : decode cX5_delay 6 = .ok (.ireturn, 1) := by decide +kernel
theorem dX5_size_0 : decode cX5_size 0 = .ok (.iconst 0, 1) := by decide +kernel
theorem dX5_size_1 : decode cX5_size 1 = .ok (.istore_n 1, 1) := by decide +kernel
theorem dX5_size_2 : decode cX5_size 2 = .ok (.iload_n 0, 1) := by decide +kernel
theorem dX5_size_3 : decode cX5_size 3 = .ok (.istore_n 2, 1) := by decide +kernel
theorem dX5_size_4 : decode cX5_size 4 = .ok (.iload_n 2, 1) := by decide +kernel
theorem dX5_size_5 : decode cX5_size 5 = .ok (.ifCond .le 16, 3) := by decide +kernel
theorem dX5_size_8 : decode cX5_size 8 = .ok (.iload_n 1, 1) := by decide +kernel
theorem dX5_size_9 : decode cX5_size 9 = .ok (.iload_n 2, 1) := by decide +kernel
theorem dX5_size_10 : decode cX5_size 10 = .ok (.iconst 1, 1) := by decide +kernel
theorem dX5_size_11 : decode cX5_size 11 = .ok (.iand, 1) := by decide +kernel
theorem dX5_size_12 : decode cX5_size 12 = .ok (.iadd, 1) := by decide +kernel
theorem dX5_size_13 : decode cX5_size 13 = .ok (.istore_n 1, 1) := by decide +kernel
theorem dX5_size_14 : decode cX5_size 14 = .ok (.iload_n 2, 1) := by decide +kernel
theorem dX5_size_15 : decode cX5_size 15 = .ok (.iconst 1, 1) := by decide +kernel
theorem dX5_size_16 : decode cX5_size 16 = .ok (.ishr, 1) := by decide +kernel
theorem dX5_size_17 : decode cX5_size 17 = .ok (.istore_n 2, 1) := by decide +kernel
theorem dX5_size_18 : decode cX5_size 18 = .ok (.goto (-14), 3) := by decide +kernel
theorem dX5_size_21 : decode cX5_size 21 = .ok (.iload_n 1, 1) := by decide +kernel
theorem dX5_size_22 : decode cX5_size 22 = .ok (.ireturn, 1) := by decide +kernel
theorem dX5_sweets_0 : decode cX5_sweets 0 = .ok (.iconst 0, 1) := by decide +kernel
theorem dX5_sweets_1 : decode cX5_sweets 1 = .ok (.istore_n 1, 1) := by decide +kernel
theorem dX5_sweets_2 : decode cX5_sweets 2 = .ok (.iconst 0, 1) := by decide +kernel
theorem dX5_sweets_3 : decode cX5_sweets 3 = .ok (.istore_n 2, 1) := by decide +kernel
theorem dX5_sweets_4 : decode cX5_sweets 4 = .ok (.iload_n 2, 1) := by decide +kernel
theorem dX5_sweets_5 : decode cX5_sweets 5 = .ok (.aload_n 0, 1) := by decide +kernel
theorem dX5_sweets_6 : decode cX5_sweets 6 = .ok (.getfield 78, 3) := by decide +kernel
theorem dX5_sweets_9 : decode cX5_sweets 9 = .ok (.if_icmp .ge 28, 3) := by decide +kernel
theorem dX5_sweets_12 : decode cX5_sweets 12 = .ok (.iload_n 1, 1) := by decide +kernel
theorem dX5_sweets_13 : decode cX5_sweets 13 = .ok (.aload_n 0, 1) := by decide +kernel
theorem dX5_sweets_14 : decode cX5_sweets 14 = .ok (.getfield 25, 3) := by decide +kernel
theorem dX5_sweets_17 : decode cX5_sweets 17 = .ok (.iload_n 2, 1) := by decide +kernel
theorem dX5_sweets_18 : decode cX5_sweets 18 = .ok (.baload, 1) := by decide +kernel
theorem dX5_sweets_19 : decode cX5_sweets 19 = .ok (.ifCond .eq 9, 3) := by decide +kernel
theorem dX5_sweets_22 : decode cX5_sweets 22 = .ok (.iconst 1, 1) := by decide +kernel
theorem dX5_sweets_23 : decode cX5_sweets 23 = .ok (.iload_n 2, 1) := by decide +kernel
theorem dX5_sweets_24 : decode cX5_sweets 24 = .ok (.ishl, 1) := by decide +kernel
theorem dX5_sweets_25 : decode cX5_sweets 25 = .ok (.goto 4, 3) := by decide +kernel
theorem dX5_sweets_28 : decode cX5_sweets 28 = .ok (.iconst 0, 1) := by decide +kernel
theorem dX5_sweets_29 : decode cX5_sweets 29 = .ok (.ior, 1) := by decide +kernel
theorem dX5_sweets_30 : decode cX5_sweets 30 = .ok (.istore_n 1, 1) := by decide +kernel
theorem dX5_sweets_31 : decode cX5_sweets 31 = .ok (.iinc 2 1, 3) := by decide +kernel
theorem dX5_sweets_34 : decode cX5_sweets 34 = .ok (.goto (-30), 3) := by decide +kernel
theorem dX5_sweets_37 : decode cX5_sweets 37 = .ok (.iload_n 1, 1) := by decide +kernel
theorem dX5_sweets_38 : decode cX5_sweets 38 = .ok (.ireturn, 1) := by decide +kernel
theorem dX5_laySweets_0 : decode cX5_laySweets 0 = .ok (.iconst 0, 1) := by decide +kernel
theorem dX5_laySweets_1 : decode cX5_laySweets 1 = .ok (.istore_n 2, 1) := by decide +kernel
theorem dX5_laySweets_2 : decode cX5_laySweets 2 = .ok (.iload_n 2, 1) := by decide +kernel
theorem dX5_laySweets_3 : decode cX5_laySweets 3 = .ok (.aload_n 0, 1) := by decide +kernel
theorem dX5_laySweets_4 : decode cX5_laySweets 4 = .ok (.getfield 78, 3) := by decide +kernel
theorem dX5_laySweets_7 : decode cX5_laySweets 7 = .ok (.if_icmp .ge 29, 3) := by decide +kernel
theorem dX5_laySweets_10 : decode cX5_laySweets 10 = .ok (.aload_n 0, 1) := by decide +kernel
theorem dX5_laySweets_11 : decode cX5_laySweets 11 = .ok (.getfield 25, 3) := by decide +kernel
theorem dX5_laySweets_14 : decode cX5_laySweets 14 = .ok (.iload_n 2, 1) := by decide +kernel
theorem dX5_laySweets_15 : decode cX5_laySweets 15 = .ok (.iload_n 1, 1) := by decide +kernel
theorem dX5_laySweets_16 : decode cX5_laySweets 16 = .ok (.iload_n 2, 1) := by decide +kernel
theorem dX5_laySweets_17 : decode cX5_laySweets 17 = .ok (.ishr, 1) := by decide +kernel
theorem dX5_laySweets_18 : decode cX5_laySweets 18 = .ok (.iconst 1, 1) := by decide +kernel
theorem dX5_laySweets_19 : decode cX5_laySweets 19 = .ok (.iand, 1) := by decide +kernel
theorem dX5_laySweets_20 : decode cX5_laySweets 20 = .ok (.iconst 1, 1) := by decide +kernel
theorem dX5_laySweets_21 : decode cX5_laySweets 21 = .ok (.if_icmp .ne 7, 3) := by decide +kernel
theorem dX5_laySweets_24 : decode cX5_laySweets 24 = .ok (.iconst 1, 1) := by decide +kernel
theorem dX5_laySweets_25 : decode cX5_laySweets 25 = .ok (.goto 4, 3) := by decide +kernel
theorem dX5_laySweets_28 : decode cX5_laySweets 28 = .ok (.iconst 0, 1) := by decide +kernel
theorem dX5_laySweets_29 : decode cX5_laySweets 29 = .ok (.bastore, 1) := by decide +kernel
theorem dX5_laySweets_30 : decode cX5_laySweets 30 = .ok (.iinc 2 1, 3) := by decide +kernel
theorem dX5_laySweets_33 : decode cX5_laySweets 33 = .ok (.goto (-31), 3) := by decide +kernel
theorem dX5_laySweets_36 : decode cX5_laySweets 36 = .ok (.return_, 1) := by decide +kernel
theorem dX5_bribe_0 : decode cX5_bribe 0 = .ok (.aload_n 0, 1) := by decide +kernel
theorem dX5_bribe_1 : decode cX5_bribe 1 = .ok (.iconst 0, 1) := by decide +kernel
theorem dX5_bribe_2 : decode cX5_bribe 2 = .ok (.putfield 68, 3) := by decide +kernel
theorem dX5_bribe_5 : decode cX5_bribe 5 = .ok (.aload_n 0, 1) := by decide +kernel
theorem dX5_bribe_6 : decode cX5_bribe 6 = .ok (.iload_n 1, 1) := by decide +kernel
theorem dX5_bribe_7 : decode cX5_bribe 7 = .ok (.invokevirtual 143, 3) := by decide +kernel
theorem dX5_bribe_10 : decode cX5_bribe 10 = .ok (.ifCond .eq 10, 3) := by decide +kernel
theorem dX5_bribe_13 : decode cX5_bribe 13 = .ok (.iload_n 2, 1) := by decide +kernel
theorem dX5_bribe_14 : decode cX5_bribe 14 = .ok (.invokestatic 87, 3) := by decide +kernel
theorem dX5_bribe_17 : decode cX5_bribe 17 = .ok (.ifCond .ne 5, 3) := by decide +kernel
theorem dX5_bribe_20 : decode cX5_bribe 20 = .ok (.iconst (-1), 1) := by decide +kernel
theorem dX5_bribe_21 : decode cX5_bribe 21 = .ok (.ireturn, 1) := by decide +kernel
theorem dX5_bribe_22 : decode cX5_bribe 22 = .ok (.iload_n 3, 1) := by decide +kernel
theorem dX5_bribe_23 : decode cX5_bribe 23 = .ok (.invokestatic 91, 3) := by decide +kernel
theorem dX5_bribe_26 : decode cX5_bribe 26 = .ok (.ifCond .ne 6, 3) := by decide +kernel
theorem dX5_bribe_29 : decode cX5_bribe 29 = .ok (.bipush (-2), 2) := by decide +kernel
theorem dX5_bribe_31 : decode cX5_bribe 31 = .ok (.ireturn, 1) := by decide +kernel
theorem dX5_bribe_32 : decode cX5_bribe 32 = .ok (.aload_n 0, 1) := by decide +kernel
theorem dX5_bribe_33 : decode cX5_bribe 33 = .ok (.iload_n 2, 1) := by decide +kernel
theorem dX5_bribe_34 : decode cX5_bribe 34 = .ok (.iload_n 3, 1) := by decide +kernel
theorem dX5_bribe_35 : decode cX5_bribe 35 = .ok (.iload 4, 2) := by decide +kernel
theorem dX5_bribe_37 : decode cX5_bribe 37 = .ok (.iload 5, 2) := by decide +kernel
theorem dX5_bribe_39 : decode cX5_bribe 39 = .ok (.invokevirtual 183, 3) := by decide +kernel
theorem dX5_bribe_42 : decode cX5_bribe 42 = .ok (.istore 6, 2) := by decide +kernel
theorem dX5_bribe_44 : decode cX5_bribe 44 = .ok (.iload 6, 2) := by decide +kernel
theorem dX5_bribe_46 : decode cX5_bribe 46 = .ok (.ifCond .eq 6, 3) := by decide +kernel
theorem dX5_bribe_49 : decode cX5_bribe 49 = .ok (.iload 6, 2) := by decide +kernel
theorem dX5_bribe_51 : decode cX5_bribe 51 = .ok (.ireturn, 1) := by decide +kernel
theorem dX5_bribe_52 : decode cX5_bribe 52 = .ok (.aload_n 0, 1) := by decide +kernel
theorem dX5_bribe_53 : decode cX5_bribe 53 = .ok (.invokevirtual 202, 3) := by decide +kernel
theorem dX5_bribe_56 : decode cX5_bribe 56 = .ok (.istore 7, 2) := by decide +kernel
theorem dX5_bribe_58 : decode cX5_bribe 58 = .ok (.bipush (-9), 2) := by decide +kernel
theorem dX5_bribe_60 : decode cX5_bribe 60 = .ok (.istore 8, 2) := by decide +kernel
theorem dX5_bribe_62 : decode cX5_bribe 62 = .ok (.iconst 0, 1) := by decide +kernel
theorem dX5_bribe_63 : decode cX5_bribe 63 = .ok (.istore 9, 2) := by decide +kernel
theorem dX5_bribe_65 : decode cX5_bribe 65 = .ok (.iload 9, 2) := by decide +kernel
theorem dX5_bribe_67 : decode cX5_bribe 67 = .ok (.iconst 1, 1) := by decide +kernel
theorem dX5_bribe_68 : decode cX5_bribe 68 = .ok (.aload_n 0, 1) := by decide +kernel
theorem dX5_bribe_69 : decode cX5_bribe 69 = .ok (.getfield 78, 3) := by decide +kernel
theorem dX5_bribe_72 : decode cX5_bribe 72 = .ok (.ishl, 1) := by decide +kernel
theorem dX5_bribe_73 : decode cX5_bribe 73 = .ok (.if_icmp .ge 69, 3) := by decide +kernel
theorem dX5_bribe_76 : decode cX5_bribe 76 = .ok (.iload 9, 2) := by decide +kernel
theorem dX5_bribe_78 : decode cX5_bribe 78 = .ok (.iload 7, 2) := by decide +kernel
theorem dX5_bribe_80 : decode cX5_bribe 80 = .ok (.iand, 1) := by decide +kernel
theorem dX5_bribe_81 : decode cX5_bribe 81 = .ok (.ifCond .ne 55, 3) := by decide +kernel
theorem dX5_bribe_84 : decode cX5_bribe 84 = .ok (.iload 8, 2) := by decide +kernel
theorem dX5_bribe_86 : decode cX5_bribe 86 = .ok (.bipush (-9), 2) := by decide +kernel
theorem dX5_bribe_88 : decode cX5_bribe 88 = .ok (.if_icmp .eq 16, 3) := by decide +kernel
theorem dX5_bribe_91 : decode cX5_bribe 91 = .ok (.iload 9, 2) := by decide +kernel
theorem dX5_bribe_93 : decode cX5_bribe 93 = .ok (.invokestatic 205, 3) := by decide +kernel
theorem dX5_bribe_96 : decode cX5_bribe 96 = .ok (.iload 8, 2) := by decide +kernel
theorem dX5_bribe_98 : decode cX5_bribe 98 = .ok (.invokestatic 205, 3) := by decide +kernel
theorem dX5_bribe_101 : decode cX5_bribe 101 = .ok (.if_icmp .ge 35, 3) := by decide +kernel
theorem dX5_bribe_104 : decode cX5_bribe 104 = .ok (.aload_n 0, 1) := by decide +kernel
theorem dX5_bribe_105 : decode cX5_bribe 105 = .ok (.iload 7, 2) := by decide +kernel
theorem dX5_bribe_107 : decode cX5_bribe 107 = .ok (.iload 9, 2) := by decide +kernel
theorem dX5_bribe_109 : decode cX5_bribe 109 = .ok (.ior, 1) := by decide +kernel
theorem dX5_bribe_110 : decode cX5_bribe 110 = .ok (.invokevirtual 208, 3) := by decide +kernel
theorem dX5_bribe_113 : decode cX5_bribe 113 = .ok (.aload_n 0, 1) := by decide +kernel
theorem dX5_bribe_114 : decode cX5_bribe 114 = .ok (.invokevirtual 176, 3) := by decide +kernel
theorem dX5_bribe_117 : decode cX5_bribe 117 = .ok (.aload_n 0, 1) := by decide +kernel
theorem dX5_bribe_118 : decode cX5_bribe 118 = .ok (.getfield 47, 3) := by decide +kernel
theorem dX5_bribe_121 : decode cX5_bribe 121 = .ok (.iload_n 1, 1) := by decide +kernel
theorem dX5_bribe_122 : decode cX5_bribe 122 = .ok (.iaload, 1) := by decide +kernel
theorem dX5_bribe_123 : decode cX5_bribe 123 = .ok (.iconst 1, 1) := by decide +kernel
theorem dX5_bribe_124 : decode cX5_bribe 124 = .ok (.if_icmp .ne 8, 3) := by decide +kernel
theorem dX5_bribe_127 : decode cX5_bribe 127 = .ok (.iload 8, 2) := by decide +kernel
theorem dX5_bribe_129 : decode cX5_bribe 129 = .ok (.goto 5, 3) := by decide +kernel
theorem dX5_bribe_132 : decode cX5_bribe 132 = .ok (.iload 9, 2) := by decide +kernel
theorem dX5_bribe_134 : decode cX5_bribe 134 = .ok (.istore 8, 2) := by decide +kernel
theorem dX5_bribe_136 : decode cX5_bribe 136 = .ok (.iinc 9 1, 3) := by decide +kernel
theorem dX5_bribe_139 : decode cX5_bribe 139 = .ok (.goto (-74), 3) := by decide +kernel
theorem dX5_bribe_142 : decode cX5_bribe 142 = .ok (.aload_n 0, 1) := by decide +kernel
theorem dX5_bribe_143 : decode cX5_bribe 143 = .ok (.iload 7, 2) := by decide +kernel
theorem dX5_bribe_145 : decode cX5_bribe 145 = .ok (.invokevirtual 208, 3) := by decide +kernel
theorem dX5_bribe_148 : decode cX5_bribe 148 = .ok (.iload 8, 2) := by decide +kernel
theorem dX5_bribe_150 : decode cX5_bribe 150 = .ok (.ireturn, 1) := by decide +kernel
theorem dX5_mostByCourt_0 : decode cX5_mostByCourt 0 = .ok (.bipush (-9), 2) := by decide +kernel
theorem dX5_mostByCourt_2 : decode cX5_mostByCourt 2 = .ok (.istore_n 1, 1) := by decide +kernel
theorem dX5_mostByCourt_3 : decode cX5_mostByCourt 3 = .ok (.iconst 0, 1) := by decide +kernel
theorem dX5_mostByCourt_4 : decode cX5_mostByCourt 4 = .ok (.istore_n 2, 1) := by decide +kernel
theorem dX5_mostByCourt_5 : decode cX5_mostByCourt 5 = .ok (.iload_n 2, 1) := by decide +kernel
theorem dX5_mostByCourt_6 : decode cX5_mostByCourt 6 = .ok (.aload_n 0, 1) := by decide +kernel
theorem dX5_mostByCourt_7 : decode cX5_mostByCourt 7 = .ok (.getfield 78, 3) := by decide +kernel
theorem dX5_mostByCourt_10 : decode cX5_mostByCourt 10 = .ok (.if_icmp .ge 48, 3) := by decide +kernel
theorem dX5_mostByCourt_13 : decode cX5_mostByCourt 13 = .ok (.aload_n 0, 1) := by decide +kernel
theorem dX5_mostByCourt_14 : decode cX5_mostByCourt 14 = .ok (.getfield 29, 3) := by decide +kernel
theorem dX5_mostByCourt_17 : decode cX5_mostByCourt 17 = .ok (.iload_n 2, 1) := by decide +kernel
theorem dX5_mostByCourt_18 : decode cX5_mostByCourt 18 = .ok (.baload, 1) := by decide +kernel
theorem dX5_mostByCourt_19 : decode cX5_mostByCourt 19 = .ok (.ifCond .ne 33, 3) := by decide +kernel
theorem dX5_mostByCourt_22 : decode cX5_mostByCourt 22 = .ok (.aload_n 0, 1) := by decide +kernel
theorem dX5_mostByCourt_23 : decode cX5_mostByCourt 23 = .ok (.getfield 29, 3) := by decide +kernel
theorem dX5_mostByCourt_26 : decode cX5_mostByCourt 26 = .ok (.iload_n 2, 1) := by decide +kernel
theorem dX5_mostByCourt_27 : decode cX5_mostByCourt 27 = .ok (.iconst 1, 1) := by decide +kernel
theorem dX5_mostByCourt_28 : decode cX5_mostByCourt 28 = .ok (.bastore, 1) := by decide +kernel
theorem dX5_mostByCourt_29 : decode cX5_mostByCourt 29 = .ok (.aload_n 0, 1) := by decide +kernel
theorem dX5_mostByCourt_30 : decode cX5_mostByCourt 30 = .ok (.invokevirtual 211, 3) := by decide +kernel
theorem dX5_mostByCourt_33 : decode cX5_mostByCourt 33 = .ok (.istore_n 3, 1) := by decide +kernel
theorem dX5_mostByCourt_34 : decode cX5_mostByCourt 34 = .ok (.iload_n 3, 1) := by decide +kernel
theorem dX5_mostByCourt_35 : decode cX5_mostByCourt 35 = .ok (.iload_n 1, 1) := by decide +kernel
theorem dX5_mostByCourt_36 : decode cX5_mostByCourt 36 = .ok (.if_icmp .le 7, 3) := by decide +kernel
theorem dX5_mostByCourt_39 : decode cX5_mostByCourt 39 = .ok (.iload_n 3, 1) := by decide +kernel
theorem dX5_mostByCourt_40 : decode cX5_mostByCourt 40 = .ok (.goto 4, 3) := by decide +kernel
theorem dX5_mostByCourt_43 : decode cX5_mostByCourt 43 = .ok (.iload_n 1, 1) := by decide +kernel
theorem dX5_mostByCourt_44 : decode cX5_mostByCourt 44 = .ok (.istore_n 1, 1) := by decide +kernel
theorem dX5_mostByCourt_45 : decode cX5_mostByCourt 45 = .ok (.aload_n 0, 1) := by decide +kernel
theorem dX5_mostByCourt_46 : decode cX5_mostByCourt 46 = .ok (.getfield 29, 3) := by decide +kernel
theorem dX5_mostByCourt_49 : decode cX5_mostByCourt 49 = .ok (.iload_n 2, 1) := by decide +kernel
theorem dX5_mostByCourt_50 : decode cX5_mostByCourt 50 = .ok (.iconst 0, 1) := by decide +kernel
theorem dX5_mostByCourt_51 : decode cX5_mostByCourt 51 = .ok (.bastore, 1) := by decide +kernel
theorem dX5_mostByCourt_52 : decode cX5_mostByCourt 52 = .ok (.iinc 2 1, 3) := by decide +kernel
theorem dX5_mostByCourt_55 : decode cX5_mostByCourt 55 = .ok (.goto (-50), 3) := by decide +kernel
theorem dX5_mostByCourt_58 : decode cX5_mostByCourt 58 = .ok (.iload_n 1, 1) := by decide +kernel
theorem dX5_mostByCourt_59 : decode cX5_mostByCourt 59 = .ok (.bipush (-9), 2) := by decide +kernel
theorem dX5_mostByCourt_61 : decode cX5_mostByCourt 61 = .ok (.if_icmp .ne 10, 3) := by decide +kernel
theorem dX5_mostByCourt_64 : decode cX5_mostByCourt 64 = .ok (.aload_n 0, 1) := by decide +kernel
theorem dX5_mostByCourt_65 : decode cX5_mostByCourt 65 = .ok (.invokevirtual 211, 3) := by decide +kernel
theorem dX5_mostByCourt_68 : decode cX5_mostByCourt 68 = .ok (.goto 4, 3) := by decide +kernel
theorem dX5_mostByCourt_71 : decode cX5_mostByCourt 71 = .ok (.iload_n 1, 1) := by decide +kernel
theorem dX5_mostByCourt_72 : decode cX5_mostByCourt 72 = .ok (.ireturn, 1) := by decide +kernel
theorem dX5_strikes_0 : decode cX5_strikes 0 = .ok (.iload_n 1, 1) := by decide +kernel
theorem dX5_strikes_1 : decode cX5_strikes 1 = .ok (.iconst 0, 1) := by decide +kernel
theorem dX5_strikes_2 : decode cX5_strikes 2 = .ok (.iconst 1, 1) := by decide +kernel
theorem dX5_strikes_3 : decode cX5_strikes 3 = .ok (.invokestatic 74, 3) := by decide +kernel
theorem dX5_strikes_6 : decode cX5_strikes 6 = .ok (.ifCond .ne 6, 3) := by decide +kernel
theorem dX5_strikes_9 : decode cX5_strikes 9 = .ok (.bipush (-2), 2) := by decide +kernel
theorem dX5_strikes_11 : decode cX5_strikes 11 = .ok (.ireturn, 1) := by decide +kernel
theorem dX5_strikes_12 : decode cX5_strikes 12 = .ok (.aload_n 0, 1) := by decide +kernel
theorem dX5_strikes_13 : decode cX5_strikes 13 = .ok (.getfield 81, 3) := by decide +kernel
theorem dX5_strikes_16 : decode cX5_strikes 16 = .ok (.ifCond .ne 6, 3) := by decide +kernel
theorem dX5_strikes_19 : decode cX5_strikes 19 = .ok (.bipush (-3), 2) := by decide +kernel
theorem dX5_strikes_21 : decode cX5_strikes 21 = .ok (.ireturn, 1) := by decide +kernel
theorem dX5_strikes_22 : decode cX5_strikes 22 = .ok (.aload_n 0, 1) := by decide +kernel
theorem dX5_strikes_23 : decode cX5_strikes 23 = .ok (.invokevirtual 211, 3) := by decide +kernel
theorem dX5_strikes_26 : decode cX5_strikes 26 = .ok (.istore_n 2, 1) := by decide +kernel
theorem dX5_strikes_27 : decode cX5_strikes 27 = .ok (.bipush (-9), 2) := by decide +kernel
theorem dX5_strikes_29 : decode cX5_strikes 29 = .ok (.istore_n 3, 1) := by decide +kernel
theorem dX5_strikes_30 : decode cX5_strikes 30 = .ok (.iconst 0, 1) := by decide +kernel
theorem dX5_strikes_31 : decode cX5_strikes 31 = .ok (.istore 4, 2) := by decide +kernel
theorem dX5_strikes_33 : decode cX5_strikes 33 = .ok (.iload 4, 2) := by decide +kernel
theorem dX5_strikes_35 : decode cX5_strikes 35 = .ok (.aload_n 0, 1) := by decide +kernel
theorem dX5_strikes_36 : decode cX5_strikes 36 = .ok (.getfield 78, 3) := by decide +kernel
theorem dX5_strikes_39 : decode cX5_strikes 39 = .ok (.if_icmp .ge 59, 3) := by decide +kernel
theorem dX5_strikes_42 : decode cX5_strikes 42 = .ok (.aload_n 0, 1) := by decide +kernel
theorem dX5_strikes_43 : decode cX5_strikes 43 = .ok (.getfield 29, 3) := by decide +kernel
theorem dX5_strikes_46 : decode cX5_strikes 46 = .ok (.iload 4, 2) := by decide +kernel
theorem dX5_strikes_48 : decode cX5_strikes 48 = .ok (.baload, 1) := by decide +kernel
theorem dX5_strikes_49 : decode cX5_strikes 49 = .ok (.ifCond .ne 43, 3) := by decide +kernel
theorem dX5_strikes_52 : decode cX5_strikes 52 = .ok (.aload_n 0, 1) := by decide +kernel
theorem dX5_strikes_53 : decode cX5_strikes 53 = .ok (.getfield 29, 3) := by decide +kernel
theorem dX5_strikes_56 : decode cX5_strikes 56 = .ok (.iload 4, 2) := by decide +kernel
theorem dX5_strikes_58 : decode cX5_strikes 58 = .ok (.iconst 1, 1) := by decide +kernel
theorem dX5_strikes_59 : decode cX5_strikes 59 = .ok (.bastore, 1) := by decide +kernel
theorem dX5_strikes_60 : decode cX5_strikes 60 = .ok (.aload_n 0, 1) := by decide +kernel
theorem dX5_strikes_61 : decode cX5_strikes 61 = .ok (.invokevirtual 214, 3) := by decide +kernel
theorem dX5_strikes_64 : decode cX5_strikes 64 = .ok (.istore 5, 2) := by decide +kernel
theorem dX5_strikes_66 : decode cX5_strikes 66 = .ok (.aload_n 0, 1) := by decide +kernel
theorem dX5_strikes_67 : decode cX5_strikes 67 = .ok (.getfield 29, 3) := by decide +kernel
theorem dX5_strikes_70 : decode cX5_strikes 70 = .ok (.iload 4, 2) := by decide +kernel
theorem dX5_strikes_72 : decode cX5_strikes 72 = .ok (.iconst 0, 1) := by decide +kernel
theorem dX5_strikes_73 : decode cX5_strikes 73 = .ok (.bastore, 1) := by decide +kernel
theorem dX5_strikes_74 : decode cX5_strikes 74 = .ok (.iload_n 3, 1) := by decide +kernel
theorem dX5_strikes_75 : decode cX5_strikes 75 = .ok (.bipush (-9), 2) := by decide +kernel
theorem dX5_strikes_77 : decode cX5_strikes 77 = .ok (.if_icmp .eq 9, 3) := by decide +kernel
theorem dX5_strikes_80 : decode cX5_strikes 80 = .ok (.iload 5, 2) := by decide +kernel
theorem dX5_strikes_82 : decode cX5_strikes 82 = .ok (.iload_n 2, 1) := by decide +kernel
theorem dX5_strikes_83 : decode cX5_strikes 83 = .ok (.if_icmp .ge 9, 3) := by decide +kernel
theorem dX5_strikes_86 : decode cX5_strikes 86 = .ok (.iload 4, 2) := by decide +kernel
theorem dX5_strikes_88 : decode cX5_strikes 88 = .ok (.istore_n 3, 1) := by decide +kernel
theorem dX5_strikes_89 : decode cX5_strikes 89 = .ok (.iload 5, 2) := by decide +kernel
theorem dX5_strikes_91 : decode cX5_strikes 91 = .ok (.istore_n 2, 1) := by decide +kernel
theorem dX5_strikes_92 : decode cX5_strikes 92 = .ok (.iinc 4 1, 3) := by decide +kernel
theorem dX5_strikes_95 : decode cX5_strikes 95 = .ok (.goto (-62), 3) := by decide +kernel
theorem dX5_strikes_98 : decode cX5_strikes 98 = .ok (.iload_n 1, 1) := by decide +kernel
theorem dX5_strikes_99 : decode cX5_strikes 99 = .ok (.ifCond .ne 7, 3) := by decide +kernel
theorem dX5_strikes_102 : decode cX5_strikes 102 = .ok (.iload_n 2, 1) := by decide +kernel
theorem dX5_strikes_103 : decode cX5_strikes 103 = .ok (.goto 4, 3) := by decide +kernel
theorem dX5_strikes_106 : decode cX5_strikes 106 = .ok (.iload_n 3, 1) := by decide +kernel
theorem dX5_strikes_107 : decode cX5_strikes 107 = .ok (.ireturn, 1) := by decide +kernel
theorem dX5_worth_0 : decode cX5_worth 0 = .ok (.aload_n 0, 1) := by decide +kernel
theorem dX5_worth_1 : decode cX5_worth 1 = .ok (.iload_n 1, 1) := by decide +kernel
theorem dX5_worth_2 : decode cX5_worth 2 = .ok (.invokevirtual 140, 3) := by decide +kernel
theorem dX5_worth_5 : decode cX5_worth 5 = .ok (.ifCond .ne 5, 3) := by decide +kernel
theorem dX5_worth_8 : decode cX5_worth 8 = .ok (.iconst (-1), 1) := by decide +kernel
theorem dX5_worth_9 : decode cX5_worth 9 = .ok (.ireturn, 1) := by decide +kernel
theorem dX5_worth_10 : decode cX5_worth 10 = .ok (.aload_n 0, 1) := by decide +kernel
theorem dX5_worth_11 : decode cX5_worth 11 = .ok (.invokevirtual 211, 3) := by decide +kernel
theorem dX5_worth_14 : decode cX5_worth 14 = .ok (.istore_n 2, 1) := by decide +kernel
theorem dX5_worth_15 : decode cX5_worth 15 = .ok (.aload_n 0, 1) := by decide +kernel
theorem dX5_worth_16 : decode cX5_worth 16 = .ok (.getfield 29, 3) := by decide +kernel
theorem dX5_worth_19 : decode cX5_worth 19 = .ok (.iload_n 1, 1) := by decide +kernel
theorem dX5_worth_20 : decode cX5_worth 20 = .ok (.baload, 1) := by decide +kernel
theorem dX5_worth_21 : decode cX5_worth 21 = .ok (.istore_n 3, 1) := by decide +kernel
theorem dX5_worth_22 : decode cX5_worth 22 = .ok (.aload_n 0, 1) := by decide +kernel
theorem dX5_worth_23 : decode cX5_worth 23 = .ok (.getfield 29, 3) := by decide +kernel
theorem dX5_worth_26 : decode cX5_worth 26 = .ok (.iload_n 1, 1) := by decide +kernel
theorem dX5_worth_27 : decode cX5_worth 27 = .ok (.iconst 1, 1) := by decide +kernel
theorem dX5_worth_28 : decode cX5_worth 28 = .ok (.bastore, 1) := by decide +kernel
theorem dX5_worth_29 : decode cX5_worth 29 = .ok (.aload_n 0, 1) := by decide +kernel
theorem dX5_worth_30 : decode cX5_worth 30 = .ok (.invokevirtual 211, 3) := by decide +kernel
theorem dX5_worth_33 : decode cX5_worth 33 = .ok (.istore 4, 2) := by decide +kernel
theorem dX5_worth_35 : decode cX5_worth 35 = .ok (.aload_n 0, 1) := by decide +kernel
theorem dX5_worth_36 : decode cX5_worth 36 = .ok (.getfield 29, 3) := by decide +kernel
theorem dX5_worth_39 : decode cX5_worth 39 = .ok (.iload_n 1, 1) := by decide +kernel
theorem dX5_worth_40 : decode cX5_worth 40 = .ok (.iload_n 3, 1) := by decide +kernel
theorem dX5_worth_41 : decode cX5_worth 41 = .ok (.bastore, 1) := by decide +kernel
theorem dX5_worth_42 : decode cX5_worth 42 = .ok (.iload_n 2, 1) := by decide +kernel
theorem dX5_worth_43 : decode cX5_worth 43 = .ok (.iload 4, 2) := by decide +kernel
theorem dX5_worth_45 : decode cX5_worth 45 = .ok (.isub, 1) := by decide +kernel
theorem dX5_worth_46 : decode cX5_worth 46 = .ok (.bipush 100, 2) := by decide +kernel
theorem dX5_worth_48 : decode cX5_worth 48 = .ok (.iadd, 1) := by decide +kernel
theorem dX5_worth_49 : decode cX5_worth 49 = .ok (.ireturn, 1) := by decide +kernel
theorem dX5_reading_0 : decode cX5_reading 0 = .ok (.aload_n 0, 1) := by decide +kernel
theorem dX5_reading_1 : decode cX5_reading 1 = .ok (.iload_n 1, 1) := by decide +kernel
theorem dX5_reading_2 : decode cX5_reading 2 = .ok (.invokevirtual 143, 3) := by decide +kernel
theorem dX5_reading_5 : decode cX5_reading 5 = .ok (.ifCond .ne 5, 3) := by decide +kernel
theorem dX5_reading_8 : decode cX5_reading 8 = .ok (.iconst (-1), 1) := by decide +kernel
theorem dX5_reading_9 : decode cX5_reading 9 = .ok (.ireturn, 1) := by decide +kernel
theorem dX5_reading_10 : decode cX5_reading 10 = .ok (.iload_n 2, 1) := by decide +kernel
theorem dX5_reading_11 : decode cX5_reading 11 = .ok (.iconst 0, 1) := by decide +kernel
theorem dX5_reading_12 : decode cX5_reading 12 = .ok (.iconst 2, 1) := by decide +kernel
theorem dX5_reading_13 : decode cX5_reading 13 = .ok (.invokestatic 74, 3) := by decide +kernel
theorem dX5_reading_16 : decode cX5_reading 16 = .ok (.ifCond .ne 6, 3) := by decide +kernel
theorem dX5_reading_19 : decode cX5_reading 19 = .ok (.bipush (-2), 2) := by decide +kernel
theorem dX5_reading_21 : decode cX5_reading 21 = .ok (.ireturn, 1) := by decide +kernel
theorem dX5_reading_22 : decode cX5_reading 22 = .ok (.aload_n 0, 1) := by decide +kernel
theorem dX5_reading_23 : decode cX5_reading 23 = .ok (.getfield 120, 3) := by decide +kernel
theorem dX5_reading_26 : decode cX5_reading 26 = .ok (.bipush 8, 2) := by decide +kernel
theorem dX5_reading_28 : decode cX5_reading 28 = .ok (.if_icmp .ne 6, 3) := by decide +kernel
theorem dX5_reading_31 : decode cX5_reading 31 = .ok (.bipush (-4), 2) := by decide +kernel
theorem dX5_reading_33 : decode cX5_reading 33 = .ok (.ireturn, 1) := by decide +kernel
theorem dX5_reading_34 : decode cX5_reading 34 = .ok (.aload_n 0, 1) := by decide +kernel
theorem dX5_reading_35 : decode cX5_reading 35 = .ok (.getfield 62, 3) := by decide +kernel
theorem dX5_reading_38 : decode cX5_reading 38 = .ok (.aload_n 0, 1) := by decide +kernel
theorem dX5_reading_39 : decode cX5_reading 39 = .ok (.getfield 120, 3) := by decide +kernel
theorem dX5_reading_42 : decode cX5_reading 42 = .ok (.iload_n 1, 1) := by decide +kernel
theorem dX5_reading_43 : decode cX5_reading 43 = .ok (.iastore, 1) := by decide +kernel
theorem dX5_reading_44 : decode cX5_reading 44 = .ok (.aload_n 0, 1) := by decide +kernel
theorem dX5_reading_45 : decode cX5_reading 45 = .ok (.getfield 65, 3) := by decide +kernel
theorem dX5_reading_48 : decode cX5_reading 48 = .ok (.aload_n 0, 1) := by decide +kernel
theorem dX5_reading_49 : decode cX5_reading 49 = .ok (.getfield 120, 3) := by decide +kernel
theorem dX5_reading_52 : decode cX5_reading 52 = .ok (.iload_n 2, 1) := by decide +kernel
theorem dX5_reading_53 : decode cX5_reading 53 = .ok (.iastore, 1) := by decide +kernel
theorem dX5_reading_54 : decode cX5_reading 54 = .ok (.aload_n 0, 1) := by decide +kernel
theorem dX5_reading_55 : decode cX5_reading 55 = .ok (.dup, 1) := by decide +kernel
theorem dX5_reading_56 : decode cX5_reading 56 = .ok (.getfield 120, 3) := by decide +kernel
theorem dX5_reading_59 : decode cX5_reading 59 = .ok (.iconst 1, 1) := by decide +kernel
theorem dX5_reading_60 : decode cX5_reading 60 = .ok (.iadd, 1) := by decide +kernel
theorem dX5_reading_61 : decode cX5_reading 61 = .ok (.putfield 120, 3) := by decide +kernel
theorem dX5_reading_64 : decode cX5_reading 64 = .ok (.aload_n 0, 1) := by decide +kernel
theorem dX5_reading_65 : decode cX5_reading 65 = .ok (.getfield 120, 3) := by decide +kernel
theorem dX5_reading_68 : decode cX5_reading 68 = .ok (.iconst 1, 1) := by decide +kernel
theorem dX5_reading_69 : decode cX5_reading 69 = .ok (.isub, 1) := by decide +kernel
theorem dX5_reading_70 : decode cX5_reading 70 = .ok (.ireturn, 1) := by decide +kernel
theorem dX5_back_0 : decode cX5_back 0 = .ok (.iload_n 1, 1) := by decide +kernel
theorem dX5_back_1 : decode cX5_back 1 = .ok (.iconst 0, 1) := by decide +kernel
theorem dX5_back_2 : decode cX5_back 2 = .ok (.aload_n 0, 1) := by decide +kernel
theorem dX5_back_3 : decode cX5_back 3 = .ok (.getfield 120, 3) := by decide +kernel
theorem dX5_back_6 : decode cX5_back 6 = .ok (.invokestatic 74, 3) := by decide +kernel
theorem dX5_back_9 : decode cX5_back 9 = .ok (.ifCond .ne 6, 3) := by decide +kernel
theorem dX5_back_12 : decode cX5_back 12 = .ok (.bipush (-2), 2) := by decide +kernel
theorem dX5_back_14 : decode cX5_back 14 = .ok (.ireturn, 1) := by decide +kernel
theorem dX5_back_15 : decode cX5_back 15 = .ok (.aload_n 0, 1) := by decide +kernel
theorem dX5_back_16 : decode cX5_back 16 = .ok (.dup, 1) := by decide +kernel
theorem dX5_back_17 : decode cX5_back 17 = .ok (.getfield 120, 3) := by decide +kernel
theorem dX5_back_20 : decode cX5_back 20 = .ok (.iload_n 1, 1) := by decide +kernel
theorem dX5_back_21 : decode cX5_back 21 = .ok (.isub, 1) := by decide +kernel
theorem dX5_back_22 : decode cX5_back 22 = .ok (.putfield 120, 3) := by decide +kernel
theorem dX5_back_25 : decode cX5_back 25 = .ok (.aload_n 0, 1) := by decide +kernel
theorem dX5_back_26 : decode cX5_back 26 = .ok (.getfield 120, 3) := by decide +kernel
theorem dX5_back_29 : decode cX5_back 29 = .ok (.ireturn, 1) := by decide +kernel
theorem dX5_areSo_0 : decode cX5_areSo 0 = .ok (.aload_n 0, 1) := by decide +kernel
theorem dX5_areSo_1 : decode cX5_areSo 1 = .ok (.invokevirtual 211, 3) := by decide +kernel
theorem dX5_areSo_4 : decode cX5_areSo 4 = .ok (.pop, 1) := by decide +kernel
theorem dX5_areSo_5 : decode cX5_areSo 5 = .ok (.iconst 0, 1) := by decide +kernel
theorem dX5_areSo_6 : decode cX5_areSo 6 = .ok (.istore_n 1, 1) := by decide +kernel
theorem dX5_areSo_7 : decode cX5_areSo 7 = .ok (.iload_n 1, 1) := by decide +kernel
theorem dX5_areSo_8 : decode cX5_areSo 8 = .ok (.aload_n 0, 1) := by decide +kernel
theorem dX5_areSo_9 : decode cX5_areSo 9 = .ok (.getfield 120, 3) := by decide +kernel
theorem dX5_areSo_12 : decode cX5_areSo 12 = .ok (.if_icmp .ge 31, 3) := by decide +kernel
theorem dX5_areSo_15 : decode cX5_areSo 15 = .ok (.aload_n 0, 1) := by decide +kernel
theorem dX5_areSo_16 : decode cX5_areSo 16 = .ok (.getfield 47, 3) := by decide +kernel
theorem dX5_areSo_19 : decode cX5_areSo 19 = .ok (.aload_n 0, 1) := by decide +kernel
theorem dX5_areSo_20 : decode cX5_areSo 20 = .ok (.getfield 62, 3) := by decide +kernel
theorem dX5_areSo_23 : decode cX5_areSo 23 = .ok (.iload_n 1, 1) := by decide +kernel
theorem dX5_areSo_24 : decode cX5_areSo 24 = .ok (.iaload, 1) := by decide +kernel
theorem dX5_areSo_25 : decode cX5_areSo 25 = .ok (.iaload, 1) := by decide +kernel
theorem dX5_areSo_26 : decode cX5_areSo 26 = .ok (.aload_n 0, 1) := by decide +kernel
theorem dX5_areSo_27 : decode cX5_areSo 27 = .ok (.getfield 65, 3) := by decide +kernel
theorem dX5_areSo_30 : decode cX5_areSo 30 = .ok (.iload_n 1, 1) := by decide +kernel
theorem dX5_areSo_31 : decode cX5_areSo 31 = .ok (.iaload, 1) := by decide +kernel
theorem dX5_areSo_32 : decode cX5_areSo 32 = .ok (.if_icmp .eq 5, 3) := by decide +kernel
theorem dX5_areSo_35 : decode cX5_areSo 35 = .ok (.iconst 0, 1) := by decide +kernel
theorem dX5_areSo_36 : decode cX5_areSo 36 = .ok (.ireturn, 1) := by decide +kernel
theorem dX5_areSo_37 : decode cX5_areSo 37 = .ok (.iinc 1 1, 3) := by decide +kernel
theorem dX5_areSo_40 : decode cX5_areSo 40 = .ok (.goto (-33), 3) := by decide +kernel
theorem dX5_areSo_43 : decode cX5_areSo 43 = .ok (.iconst 1, 1) := by decide +kernel
theorem dX5_areSo_44 : decode cX5_areSo 44 = .ok (.ireturn, 1) := by decide +kernel
theorem dX5_codes_0 : decode cX5_codes 0 = .ok (.iload_n 1, 1) := by decide +kernel
theorem dX5_codes_1 : decode cX5_codes 1 = .ok (.iconst 0, 1) := by decide +kernel
theorem dX5_codes_2 : decode cX5_codes 2 = .ok (.iconst 2, 1) := by decide +kernel
theorem dX5_codes_3 : decode cX5_codes 3 = .ok (.invokestatic 74, 3) := by decide +kernel
theorem dX5_codes_6 : decode cX5_codes 6 = .ok (.ifCond .ne 6, 3) := by decide +kernel
theorem dX5_codes_9 : decode cX5_codes 9 = .ok (.bipush (-2), 2) := by decide +kernel
theorem dX5_codes_11 : decode cX5_codes 11 = .ok (.ireturn, 1) := by decide +kernel
theorem dX5_codes_12 : decode cX5_codes 12 = .ok (.aload_n 0, 1) := by decide +kernel
theorem dX5_codes_13 : decode cX5_codes 13 = .ok (.getfield 81, 3) := by decide +kernel
theorem dX5_codes_16 : decode cX5_codes 16 = .ok (.ifCond .ne 6, 3) := by decide +kernel
theorem dX5_codes_19 : decode cX5_codes 19 = .ok (.bipush (-3), 2) := by decide +kernel
theorem dX5_codes_21 : decode cX5_codes 21 = .ok (.ireturn, 1) := by decide +kernel
theorem dX5_codes_22 : decode cX5_codes 22 = .ok (.aload_n 0, 1) := by decide +kernel
theorem dX5_codes_23 : decode cX5_codes 23 = .ok (.getfield 117, 3) := by decide +kernel
theorem dX5_codes_26 : decode cX5_codes 26 = .ok (.istore_n 2, 1) := by decide +kernel
theorem dX5_codes_27 : decode cX5_codes 27 = .ok (.iconst 0, 1) := by decide +kernel
theorem dX5_codes_28 : decode cX5_codes 28 = .ok (.istore_n 3, 1) := by decide +kernel
theorem dX5_codes_29 : decode cX5_codes 29 = .ok (.bipush (-9), 2) := by decide +kernel
theorem dX5_codes_31 : decode cX5_codes 31 = .ok (.istore 4, 2) := by decide +kernel
theorem dX5_codes_33 : decode cX5_codes 33 = .ok (.bipush (-9), 2) := by decide +kernel
theorem dX5_codes_35 : decode cX5_codes 35 = .ok (.istore 5, 2) := by decide +kernel
theorem dX5_codes_37 : decode cX5_codes 37 = .ok (.iconst 0, 1) := by decide +kernel
theorem dX5_codes_38 : decode cX5_codes 38 = .ok (.istore 6, 2) := by decide +kernel
theorem dX5_codes_40 : decode cX5_codes 40 = .ok (.iload 6, 2) := by decide +kernel
theorem dX5_codes_42 : decode cX5_codes 42 = .ok (.bipush 64, 2) := by decide +kernel
theorem dX5_codes_44 : decode cX5_codes 44 = .ok (.if_icmp .ge 67, 3) := by decide +kernel
theorem dX5_codes_47 : decode cX5_codes 47 = .ok (.aload_n 0, 1) := by decide +kernel
theorem dX5_codes_48 : decode cX5_codes 48 = .ok (.iload 6, 2) := by decide +kernel
theorem dX5_codes_50 : decode cX5_codes 50 = .ok (.putfield 117, 3) := by decide +kernel
theorem dX5_codes_53 : decode cX5_codes 53 = .ok (.aload_n 0, 1) := by decide +kernel
theorem dX5_codes_54 : decode cX5_codes 54 = .ok (.invokevirtual 217, 3) := by decide +kernel
theorem dX5_codes_57 : decode cX5_codes 57 = .ok (.ifCond .eq 48, 3) := by decide +kernel
theorem dX5_codes_60 : decode cX5_codes 60 = .ok (.iload_n 3, 1) := by decide +kernel
theorem dX5_codes_61 : decode cX5_codes 61 = .ok (.ifCond .ne 8, 3) := by decide +kernel
theorem dX5_codes_64 : decode cX5_codes 64 = .ok (.iload 6, 2) := by decide +kernel
theorem dX5_codes_66 : decode cX5_codes 66 = .ok (.goto 5, 3) := by decide +kernel
theorem dX5_codes_69 : decode cX5_codes 69 = .ok (.iload 4, 2) := by decide +kernel
theorem dX5_codes_71 : decode cX5_codes 71 = .ok (.istore 4, 2) := by decide +kernel
theorem dX5_codes_73 : decode cX5_codes 73 = .ok (.iload 5, 2) := by decide +kernel
theorem dX5_codes_75 : decode cX5_codes 75 = .ok (.bipush (-9), 2) := by decide +kernel
theorem dX5_codes_77 : decode cX5_codes 77 = .ok (.if_icmp .eq 16, 3) := by decide +kernel
theorem dX5_codes_80 : decode cX5_codes 80 = .ok (.iload 6, 2) := by decide +kernel
theorem dX5_codes_82 : decode cX5_codes 82 = .ok (.invokestatic 205, 3) := by decide +kernel
theorem dX5_codes_85 : decode cX5_codes 85 = .ok (.iload 5, 2) := by decide +kernel
theorem dX5_codes_87 : decode cX5_codes 87 = .ok (.invokestatic 205, 3) := by decide +kernel
theorem dX5_codes_90 : decode cX5_codes 90 = .ok (.if_icmp .ge 8, 3) := by decide +kernel
theorem dX5_codes_93 : decode cX5_codes 93 = .ok (.iload 6, 2) := by decide +kernel
theorem dX5_codes_95 : decode cX5_codes 95 = .ok (.goto 5, 3) := by decide +kernel
theorem dX5_codes_98 : decode cX5_codes 98 = .ok (.iload 5, 2) := by decide +kernel
theorem dX5_codes_100 : decode cX5_codes 100 = .ok (.istore 5, 2) := by decide +kernel
theorem dX5_codes_102 : decode cX5_codes 102 = .ok (.iinc 3 1, 3) := by decide +kernel
theorem dX5_codes_105 : decode cX5_codes 105 = .ok (.iinc 6 1, 3) := by decide +kernel
theorem dX5_codes_108 : decode cX5_codes 108 = .ok (.goto (-68), 3) := by decide +kernel
theorem dX5_codes_111 : decode cX5_codes 111 = .ok (.aload_n 0, 1) := by decide +kernel
theorem dX5_codes_112 : decode cX5_codes 112 = .ok (.iload_n 2, 1) := by decide +kernel
theorem dX5_codes_113 : decode cX5_codes 113 = .ok (.putfield 117, 3) := by decide +kernel
theorem dX5_codes_116 : decode cX5_codes 116 = .ok (.iload_n 1, 1) := by decide +kernel
theorem dX5_codes_117 : decode cX5_codes 117 = .ok (.ifCond .ne 7, 3) := by decide +kernel
theorem dX5_codes_120 : decode cX5_codes 120 = .ok (.iload_n 3, 1) := by decide +kernel
theorem dX5_codes_121 : decode cX5_codes 121 = .ok (.goto 15, 3) := by decide +kernel
theorem dX5_codes_124 : decode cX5_codes 124 = .ok (.iload_n 1, 1) := by decide +kernel
theorem dX5_codes_125 : decode cX5_codes 125 = .ok (.iconst 1, 1) := by decide +kernel
theorem dX5_codes_126 : decode cX5_codes 126 = .ok (.if_icmp .ne 8, 3) := by decide +kernel
theorem dX5_codes_129 : decode cX5_codes 129 = .ok (.iload 4, 2) := by decide +kernel
theorem dX5_codes_131 : decode cX5_codes 131 = .ok (.goto 5, 3) := by decide +kernel
theorem dX5_codes_134 : decode cX5_codes 134 = .ok (.iload 5, 2) := by decide +kernel
theorem dX5_codes_136 : decode cX5_codes 136 = .ok (.ireturn, 1) := by decide +kernel
theorem dX5_kinds_0 : decode cX5_kinds 0 = .ok (.aload_n 0, 1) := by decide +kernel
theorem dX5_kinds_1 : decode cX5_kinds 1 = .ok (.iload_n 1, 1) := by decide +kernel
theorem dX5_kinds_2 : decode cX5_kinds 2 = .ok (.invokevirtual 140, 3) := by decide +kernel
theorem dX5_kinds_5 : decode cX5_kinds 5 = .ok (.ifCond .ne 5, 3) := by decide +kernel
theorem dX5_kinds_8 : decode cX5_kinds 8 = .ok (.iconst (-1), 1) := by decide +kernel
theorem dX5_kinds_9 : decode cX5_kinds 9 = .ok (.ireturn, 1) := by decide +kernel
theorem dX5_kinds_10 : decode cX5_kinds 10 = .ok (.aload_n 0, 1) := by decide +kernel
theorem dX5_kinds_11 : decode cX5_kinds 11 = .ok (.getfield 19, 3) := by decide +kernel
theorem dX5_kinds_14 : decode cX5_kinds 14 = .ok (.iload_n 1, 1) := by decide +kernel
theorem dX5_kinds_15 : decode cX5_kinds 15 = .ok (.iaload, 1) := by decide +kernel
theorem dX5_kinds_16 : decode cX5_kinds 16 = .ok (.istore_n 2, 1) := by decide +kernel
theorem dX5_kinds_17 : decode cX5_kinds 17 = .ok (.iconst 0, 1) := by decide +kernel
theorem dX5_kinds_18 : decode cX5_kinds 18 = .ok (.istore_n 3, 1) := by decide +kernel
theorem dX5_kinds_19 : decode cX5_kinds 19 = .ok (.iconst 0, 1) := by decide +kernel
theorem dX5_kinds_20 : decode cX5_kinds 20 = .ok (.istore 4, 2) := by decide +kernel
theorem dX5_kinds_22 : decode cX5_kinds 22 = .ok (.iload 4, 2) := by decide +kernel
theorem dX5_kinds_24 : decode cX5_kinds 24 = .ok (.iconst 3, 1) := by decide +kernel
theorem dX5_kinds_25 : decode cX5_kinds 25 = .ok (.if_icmp .ge 35, 3) := by decide +kernel
theorem dX5_kinds_28 : decode cX5_kinds 28 = .ok (.aload_n 0, 1) := by decide +kernel
theorem dX5_kinds_29 : decode cX5_kinds 29 = .ok (.getfield 19, 3) := by decide +kernel
theorem dX5_kinds_32 : decode cX5_kinds 32 = .ok (.iload_n 1, 1) := by decide +kernel
theorem dX5_kinds_33 : decode cX5_kinds 33 = .ok (.iload 4, 2) := by decide +kernel
theorem dX5_kinds_35 : decode cX5_kinds 35 = .ok (.iastore, 1) := by decide +kernel
theorem dX5_kinds_36 : decode cX5_kinds 36 = .ok (.iload_n 3, 1) := by decide +kernel
theorem dX5_kinds_37 : decode cX5_kinds 37 = .ok (.aload_n 0, 1) := by decide +kernel
theorem dX5_kinds_38 : decode cX5_kinds 38 = .ok (.invokevirtual 217, 3) := by decide +kernel
theorem dX5_kinds_41 : decode cX5_kinds 41 = .ok (.ifCond .eq 10, 3) := by decide +kernel
theorem dX5_kinds_44 : decode cX5_kinds 44 = .ok (.iconst 1, 1) := by decide +kernel
theorem dX5_kinds_45 : decode cX5_kinds 45 = .ok (.iload 4, 2) := by decide +kernel
theorem dX5_kinds_47 : decode cX5_kinds 47 = .ok (.ishl, 1) := by decide +kernel
theorem dX5_kinds_48 : decode cX5_kinds 48 = .ok (.goto 4, 3) := by decide +kernel
theorem dX5_kinds_51 : decode cX5_kinds 51 = .ok (.iconst 0, 1) := by decide +kernel
theorem dX5_kinds_52 : decode cX5_kinds 52 = .ok (.ior, 1) := by decide +kernel
theorem dX5_kinds_53 : decode cX5_kinds 53 = .ok (.istore_n 3, 1) := by decide +kernel
theorem dX5_kinds_54 : decode cX5_kinds 54 = .ok (.iinc 4 1, 3) := by decide +kernel
theorem dX5_kinds_57 : decode cX5_kinds 57 = .ok (.goto (-35), 3) := by decide +kernel
theorem dX5_kinds_60 : decode cX5_kinds 60 = .ok (.aload_n 0, 1) := by decide +kernel
theorem dX5_kinds_61 : decode cX5_kinds 61 = .ok (.getfield 19, 3) := by decide +kernel
theorem dX5_kinds_64 : decode cX5_kinds 64 = .ok (.iload_n 1, 1) := by decide +kernel
theorem dX5_kinds_65 : decode cX5_kinds 65 = .ok (.iload_n 2, 1) := by decide +kernel
theorem dX5_kinds_66 : decode cX5_kinds 66 = .ok (.iastore, 1) := by decide +kernel
theorem dX5_kinds_67 : decode cX5_kinds 67 = .ok (.iload_n 3, 1) := by decide +kernel
theorem dX5_kinds_68 : decode cX5_kinds 68 = .ok (.ireturn, 1) := by decide +kernel
theorem dX5_treated_0 : decode cX5_treated 0 = .ok (.aload_n 0, 1) := by decide +kernel
theorem dX5_treated_1 : decode cX5_treated 1 = .ok (.getfield 81, 3) := by decide +kernel
theorem dX5_treated_4 : decode cX5_treated 4 = .ok (.ifCond .ne 6, 3) := by decide +kernel
theorem dX5_treated_7 : decode cX5_treated 7 = .ok (.bipush (-3), 2) := by decide +kernel
theorem dX5_treated_9 : decode cX5_treated 9 = .ok (.ireturn, 1) := by decide +kernel
theorem dX5_treated_10 : decode cX5_treated 10 = .ok (.iconst 0, 1) := by decide +kernel
theorem dX5_treated_11 : decode cX5_treated 11 = .ok (.istore_n 1, 1) := by decide +kernel
theorem dX5_treated_12 : decode cX5_treated 12 = .ok (.iconst 0, 1) := by decide +kernel
theorem dX5_treated_13 : decode cX5_treated 13 = .ok (.istore_n 2, 1) := by decide +kernel
theorem dX5_treated_14 : decode cX5_treated 14 = .ok (.iload_n 2, 1) := by decide +kernel
theorem dX5_treated_15 : decode cX5_treated 15 = .ok (.aload_n 0, 1) := by decide +kernel
theorem dX5_treated_16 : decode cX5_treated 16 = .ok (.getfield 78, 3) := by decide +kernel
theorem dX5_treated_19 : decode cX5_treated 19 = .ok (.if_icmp .ge 47, 3) := by decide +kernel
theorem dX5_treated_22 : decode cX5_treated 22 = .ok (.aload_n 0, 1) := by decide +kernel
theorem dX5_treated_23 : decode cX5_treated 23 = .ok (.getfield 25, 3) := by decide +kernel
theorem dX5_treated_26 : decode cX5_treated 26 = .ok (.iload_n 2, 1) := by decide +kernel
theorem dX5_treated_27 : decode cX5_treated 27 = .ok (.baload, 1) := by decide +kernel
theorem dX5_treated_28 : decode cX5_treated 28 = .ok (.istore_n 3, 1) := by decide +kernel
theorem dX5_treated_29 : decode cX5_treated 29 = .ok (.aload_n 0, 1) := by decide +kernel
theorem dX5_treated_30 : decode cX5_treated 30 = .ok (.getfield 25, 3) := by decide +kernel
theorem dX5_treated_33 : decode cX5_treated 33 = .ok (.iload_n 2, 1) := by decide +kernel
theorem dX5_treated_34 : decode cX5_treated 34 = .ok (.iconst 1, 1) := by decide +kernel
theorem dX5_treated_35 : decode cX5_treated 35 = .ok (.bastore, 1) := by decide +kernel
theorem dX5_treated_36 : decode cX5_treated 36 = .ok (.iload_n 1, 1) := by decide +kernel
theorem dX5_treated_37 : decode cX5_treated 37 = .ok (.aload_n 0, 1) := by decide +kernel
theorem dX5_treated_38 : decode cX5_treated 38 = .ok (.invokevirtual 217, 3) := by decide +kernel
theorem dX5_treated_41 : decode cX5_treated 41 = .ok (.ifCond .eq 9, 3) := by decide +kernel
theorem dX5_treated_44 : decode cX5_treated 44 = .ok (.iconst 1, 1) := by decide +kernel
theorem dX5_treated_45 : decode cX5_treated 45 = .ok (.iload_n 2, 1) := by decide +kernel
theorem dX5_treated_46 : decode cX5_treated 46 = .ok (.ishl, 1) := by decide +kernel
theorem dX5_treated_47 : decode cX5_treated 47 = .ok (.goto 4, 3) := by decide +kernel
theorem dX5_treated_50 : decode cX5_treated 50 = .ok (.iconst 0, 1) := by decide +kernel
theorem dX5_treated_51 : decode cX5_treated 51 = .ok (.ior, 1) := by decide +kernel
theorem dX5_treated_52 : decode cX5_treated 52 = .ok (.istore_n 1, 1) := by decide +kernel
theorem dX5_treated_53 : decode cX5_treated 53 = .ok (.aload_n 0, 1) := by decide +kernel
theorem dX5_treated_54 : decode cX5_treated 54 = .ok (.getfield 25, 3) := by decide +kernel
theorem dX5_treated_57 : decode cX5_treated 57 = .ok (.iload_n 2, 1) := by decide +kernel
theorem dX5_treated_58 : decode cX5_treated 58 = .ok (.iload_n 3, 1) := by decide +kernel
theorem dX5_treated_59 : decode cX5_treated 59 = .ok (.bastore, 1) := by decide +kernel
theorem dX5_treated_60 : decode cX5_treated 60 = .ok (.iinc 2 1, 3) := by decide +kernel
theorem dX5_treated_63 : decode cX5_treated 63 = .ok (.goto (-49), 3) := by decide +kernel
theorem dX5_treated_66 : decode cX5_treated 66 = .ok (.iload_n 1, 1) := by decide +kernel
theorem dX5_treated_67 : decode cX5_treated 67 = .ok (.ireturn, 1) := by decide +kernel
theorem dX5_inLeastTerms_0 : decode cX5_inLeastTerms 0 = .ok (.lload_n 0, 1) := by decide +kernel
theorem dX5_inLeastTerms_1 : decode cX5_inLeastTerms 1 = .ok (.lstore 5, 2) := by decide +kernel
theorem dX5_inLeastTerms_3 : decode cX5_inLeastTerms 3 = .ok (.lload_n 2, 1) := by decide +kernel
theorem dX5_inLeastTerms_4 : decode cX5_inLeastTerms 4 = .ok (.lstore 7, 2) := by decide +kernel
theorem dX5_inLeastTerms_6 : decode cX5_inLeastTerms 6 = .ok (.lload 7, 2) := by decide +kernel
theorem dX5_inLeastTerms_8 : decode cX5_inLeastTerms 8 = .ok (.lconst 0, 1) := by decide +kernel
theorem dX5_inLeastTerms_9 : decode cX5_inLeastTerms 9 = .ok (.lcmp, 1) := by decide +kernel
theorem dX5_inLeastTerms_10 : decode cX5_inLeastTerms 10 = .ok (.ifCond .eq 21, 3) := by decide +kernel
theorem dX5_inLeastTerms_13 : decode cX5_inLeastTerms 13 = .ok (.lload 5, 2) := by decide +kernel
theorem dX5_inLeastTerms_15 : decode cX5_inLeastTerms 15 = .ok (.lload 7, 2) := by decide +kernel
theorem dX5_inLeastTerms_17 : decode cX5_inLeastTerms 17 = .ok (.lrem, 1) := by decide +kernel
theorem dX5_inLeastTerms_18 : decode cX5_inLeastTerms 18 = .ok (.lstore 9, 2) := by decide +kernel
theorem dX5_inLeastTerms_20 : decode cX5_inLeastTerms 20 = .ok (.lload 7, 2) := by decide +kernel
theorem dX5_inLeastTerms_22 : decode cX5_inLeastTerms 22 = .ok (.lstore 5, 2) := by decide +kernel
theorem dX5_inLeastTerms_24 : decode cX5_inLeastTerms 24 = .ok (.lload 9, 2) := by decide +kernel
theorem dX5_inLeastTerms_26 : decode cX5_inLeastTerms 26 = .ok (.lstore 7, 2) := by decide +kernel
theorem dX5_inLeastTerms_28 : decode cX5_inLeastTerms 28 = .ok (.goto (-22), 3) := by decide +kernel
theorem dX5_inLeastTerms_31 : decode cX5_inLeastTerms 31 = .ok (.iload 4, 2) := by decide +kernel
theorem dX5_inLeastTerms_33 : decode cX5_inLeastTerms 33 = .ok (.ifCond .ne 10, 3) := by decide +kernel
theorem dX5_inLeastTerms_36 : decode cX5_inLeastTerms 36 = .ok (.lload_n 0, 1) := by decide +kernel
theorem dX5_inLeastTerms_37 : decode cX5_inLeastTerms 37 = .ok (.lload 5, 2) := by decide +kernel
theorem dX5_inLeastTerms_39 : decode cX5_inLeastTerms 39 = .ok (.ldiv, 1) := by decide +kernel
theorem dX5_inLeastTerms_40 : decode cX5_inLeastTerms 40 = .ok (.goto 7, 3) := by decide +kernel
theorem dX5_inLeastTerms_43 : decode cX5_inLeastTerms 43 = .ok (.lload_n 2, 1) := by decide +kernel
theorem dX5_inLeastTerms_44 : decode cX5_inLeastTerms 44 = .ok (.lload 5, 2) := by decide +kernel
theorem dX5_inLeastTerms_46 : decode cX5_inLeastTerms 46 = .ok (.ldiv, 1) := by decide +kernel
theorem dX5_inLeastTerms_47 : decode cX5_inLeastTerms 47 = .ok (.lreturn, 1) := by decide +kernel
theorem dX5_struck_0 : decode cX5_struck 0 = .ok (.iconst 0, 1) := by decide +kernel
theorem dX5_struck_1 : decode cX5_struck 1 = .ok (.istore_n 1, 1) := by decide +kernel
theorem dX5_struck_2 : decode cX5_struck 2 = .ok (.iconst 0, 1) := by decide +kernel
theorem dX5_struck_3 : decode cX5_struck 3 = .ok (.istore_n 2, 1) := by decide +kernel
theorem dX5_struck_4 : decode cX5_struck 4 = .ok (.iload_n 2, 1) := by decide +kernel
theorem dX5_struck_5 : decode cX5_struck 5 = .ok (.aload_n 0, 1) := by decide +kernel
theorem dX5_struck_6 : decode cX5_struck 6 = .ok (.getfield 78, 3) := by decide +kernel
theorem dX5_struck_9 : decode cX5_struck 9 = .ok (.if_icmp .ge 28, 3) := by decide +kernel
theorem dX5_struck_12 : decode cX5_struck 12 = .ok (.iload_n 1, 1) := by decide +kernel
theorem dX5_struck_13 : decode cX5_struck 13 = .ok (.aload_n 0, 1) := by decide +kernel
theorem dX5_struck_14 : decode cX5_struck 14 = .ok (.getfield 29, 3) := by decide +kernel
theorem dX5_struck_17 : decode cX5_struck 17 = .ok (.iload_n 2, 1) := by decide +kernel
theorem dX5_struck_18 : decode cX5_struck 18 = .ok (.baload, 1) := by decide +kernel
theorem dX5_struck_19 : decode cX5_struck 19 = .ok (.ifCond .eq 9, 3) := by decide +kernel
theorem dX5_struck_22 : decode cX5_struck 22 = .ok (.iconst 1, 1) := by decide +kernel
theorem dX5_struck_23 : decode cX5_struck 23 = .ok (.iload_n 2, 1) := by decide +kernel
theorem dX5_struck_24 : decode cX5_struck 24 = .ok (.ishl, 1) := by decide +kernel
theorem dX5_struck_25 : decode cX5_struck 25 = .ok (.goto 4, 3) := by decide +kernel
theorem dX5_struck_28 : decode cX5_struck 28 = .ok (.iconst 0, 1) := by decide +kernel
theorem dX5_struck_29 : decode cX5_struck 29 = .ok (.ior, 1) := by decide +kernel
theorem dX5_struck_30 : decode cX5_struck 30 = .ok (.istore_n 1, 1) := by decide +kernel
theorem dX5_struck_31 : decode cX5_struck 31 = .ok (.iinc 2 1, 3) := by decide +kernel
theorem dX5_struck_34 : decode cX5_struck 34 = .ok (.goto (-30), 3) := by decide +kernel
theorem dX5_struck_37 : decode cX5_struck 37 = .ok (.iload_n 1, 1) := by decide +kernel
theorem dX5_struck_38 : decode cX5_struck 38 = .ok (.ireturn, 1) := by decide +kernel
theorem dX5_layStruck_0 : decode cX5_layStruck 0 = .ok (.iconst 0, 1) := by decide +kernel
theorem dX5_layStruck_1 : decode cX5_layStruck 1 = .ok (.istore_n 2, 1) := by decide +kernel
theorem dX5_layStruck_2 : decode cX5_layStruck 2 = .ok (.iload_n 2, 1) := by decide +kernel
theorem dX5_layStruck_3 : decode cX5_layStruck 3 = .ok (.aload_n 0, 1) := by decide +kernel
theorem dX5_layStruck_4 : decode cX5_layStruck 4 = .ok (.getfield 78, 3) := by decide +kernel
theorem dX5_layStruck_7 : decode cX5_layStruck 7 = .ok (.if_icmp .ge 29, 3) := by decide +kernel
theorem dX5_layStruck_10 : decode cX5_layStruck 10 = .ok (.aload_n 0, 1) := by decide +kernel
theorem dX5_layStruck_11 : decode cX5_layStruck 11 = .ok (.getfield 29, 3) := by decide +kernel
theorem dX5_layStruck_14 : decode cX5_layStruck 14 = .ok (.iload_n 2, 1) := by decide +kernel
theorem dX5_layStruck_15 : decode cX5_layStruck 15 = .ok (.iload_n 1, 1) := by decide +kernel
theorem dX5_layStruck_16 : decode cX5_layStruck 16 = .ok (.iload_n 2, 1) := by decide +kernel
theorem dX5_layStruck_17 : decode cX5_layStruck 17 = .ok (.ishr, 1) := by decide +kernel
theorem dX5_layStruck_18 : decode cX5_layStruck 18 = .ok (.iconst 1, 1) := by decide +kernel
theorem dX5_layStruck_19 : decode cX5_layStruck 19 = .ok (.iand, 1) := by decide +kernel
theorem dX5_layStruck_20 : decode cX5_layStruck 20 = .ok (.iconst 1, 1) := by decide +kernel
theorem dX5_layStruck_21 : decode cX5_layStruck 21 = .ok (.if_icmp .ne 7, 3) := by decide +kernel
theorem dX5_layStruck_24 : decode cX5_layStruck 24 = .ok (.iconst 1, 1) := by decide +kernel
theorem dX5_layStruck_25 : decode cX5_layStruck 25 = .ok (.goto 4, 3) := by decide +kernel
theorem dX5_layStruck_28 : decode cX5_layStruck 28 = .ok (.iconst 0, 1) := by decide +kernel
theorem dX5_layStruck_29 : decode cX5_layStruck 29 = .ok (.bastore, 1) := by decide +kernel
theorem dX5_layStruck_30 : decode cX5_layStruck 30 = .ok (.iinc 2 1, 3) := by decide +kernel
theorem dX5_layStruck_33 : decode cX5_layStruck 33 = .ok (.goto (-31), 3) := by decide +kernel
theorem dX5_layStruck_36 : decode cX5_layStruck 36 = .ok (.return_, 1) := by decide +kernel
theorem dX5_odds_0 : decode cX5_odds 0 = .ok (.aload_n 0, 1) := by decide +kernel
theorem dX5_odds_1 : decode cX5_odds 1 = .ok (.iload_n 1, 1) := by decide +kernel
theorem dX5_odds_2 : decode cX5_odds 2 = .ok (.invokevirtual 143, 3) := by decide +kernel
theorem dX5_odds_5 : decode cX5_odds 5 = .ok (.ifCond .eq 12, 3) := by decide +kernel
theorem dX5_odds_8 : decode cX5_odds 8 = .ok (.iload_n 2, 1) := by decide +kernel
theorem dX5_odds_9 : decode cX5_odds 9 = .ok (.iconst 0, 1) := by decide +kernel
theorem dX5_odds_10 : decode cX5_odds 10 = .ok (.iconst 1, 1) := by decide +kernel
theorem dX5_odds_11 : decode cX5_odds 11 = .ok (.invokestatic 74, 3) := by decide +kernel
theorem dX5_odds_14 : decode cX5_odds 14 = .ok (.ifCond .ne 7, 3) := by decide +kernel
theorem dX5_odds_17 : decode cX5_odds 17 = .ok (.ldc2_w 72, 3) := by decide +kernel
theorem dX5_odds_20 : decode cX5_odds 20 = .ok (.lreturn, 1) := by decide +kernel
theorem dX5_odds_21 : decode cX5_odds 21 = .ok (.aload_n 0, 1) := by decide +kernel
theorem dX5_odds_22 : decode cX5_odds 22 = .ok (.invokevirtual 220, 3) := by decide +kernel
theorem dX5_odds_25 : decode cX5_odds 25 = .ok (.istore_n 3, 1) := by decide +kernel
theorem dX5_odds_26 : decode cX5_odds 26 = .ok (.iconst 0, 1) := by decide +kernel
theorem dX5_odds_27 : decode cX5_odds 27 = .ok (.istore 4, 2) := by decide +kernel
theorem dX5_odds_29 : decode cX5_odds 29 = .ok (.iconst 0, 1) := by decide +kernel
theorem dX5_odds_30 : decode cX5_odds 30 = .ok (.istore 5, 2) := by decide +kernel
theorem dX5_odds_32 : decode cX5_odds 32 = .ok (.iload 5, 2) := by decide +kernel
theorem dX5_odds_34 : decode cX5_odds 34 = .ok (.iconst 1, 1) := by decide +kernel
theorem dX5_odds_35 : decode cX5_odds 35 = .ok (.aload_n 0, 1) := by decide +kernel
theorem dX5_odds_36 : decode cX5_odds 36 = .ok (.getfield 78, 3) := by decide +kernel
theorem dX5_odds_39 : decode cX5_odds 39 = .ok (.ishl, 1) := by decide +kernel
theorem dX5_odds_40 : decode cX5_odds 40 = .ok (.if_icmp .ge 40, 3) := by decide +kernel
theorem dX5_odds_43 : decode cX5_odds 43 = .ok (.aload_n 0, 1) := by decide +kernel
theorem dX5_odds_44 : decode cX5_odds 44 = .ok (.iload 5, 2) := by decide +kernel
theorem dX5_odds_46 : decode cX5_odds 46 = .ok (.invokevirtual 223, 3) := by decide +kernel
theorem dX5_odds_49 : decode cX5_odds 49 = .ok (.aload_n 0, 1) := by decide +kernel
theorem dX5_odds_50 : decode cX5_odds 50 = .ok (.invokevirtual 211, 3) := by decide +kernel
theorem dX5_odds_53 : decode cX5_odds 53 = .ok (.pop, 1) := by decide +kernel
theorem dX5_odds_54 : decode cX5_odds 54 = .ok (.iload 4, 2) := by decide +kernel
theorem dX5_odds_56 : decode cX5_odds 56 = .ok (.aload_n 0, 1) := by decide +kernel
theorem dX5_odds_57 : decode cX5_odds 57 = .ok (.getfield 47, 3) := by decide +kernel
theorem dX5_odds_60 : decode cX5_odds 60 = .ok (.iload_n 1, 1) := by decide +kernel
theorem dX5_odds_61 : decode cX5_odds 61 = .ok (.iaload, 1) := by decide +kernel
theorem dX5_odds_62 : decode cX5_odds 62 = .ok (.iconst 1, 1) := by decide +kernel
theorem dX5_odds_63 : decode cX5_odds 63 = .ok (.if_icmp .ne 7, 3) := by decide +kernel
theorem dX5_odds_66 : decode cX5_odds 66 = .ok (.iconst 1, 1) := by decide +kernel
theorem dX5_odds_67 : decode cX5_odds 67 = .ok (.goto 4, 3) := by decide +kernel
theorem dX5_odds_70 : decode cX5_odds 70 = .ok (.iconst 0, 1) := by decide +kernel
theorem dX5_odds_71 : decode cX5_odds 71 = .ok (.iadd, 1) := by decide +kernel
theorem dX5_odds_72 : decode cX5_odds 72 = .ok (.istore 4, 2) := by decide +kernel
theorem dX5_odds_74 : decode cX5_odds 74 = .ok (.iinc 5 1, 3) := by decide +kernel
theorem dX5_odds_77 : decode cX5_odds 77 = .ok (.goto (-45), 3) := by decide +kernel
theorem dX5_odds_80 : decode cX5_odds 80 = .ok (.aload_n 0, 1) := by decide +kernel
theorem dX5_odds_81 : decode cX5_odds 81 = .ok (.iload_n 3, 1) := by decide +kernel
theorem dX5_odds_82 : decode cX5_odds 82 = .ok (.invokevirtual 223, 3) := by decide +kernel
theorem dX5_odds_85 : decode cX5_odds 85 = .ok (.iload 4, 2) := by decide +kernel
theorem dX5_odds_87 : decode cX5_odds 87 = .ok (.i2l, 1) := by decide +kernel
theorem dX5_odds_88 : decode cX5_odds 88 = .ok (.lconst 1, 1) := by decide +kernel
theorem dX5_odds_89 : decode cX5_odds 89 = .ok (.aload_n 0, 1) := by decide +kernel
theorem dX5_odds_90 : decode cX5_odds 90 = .ok (.getfield 78, 3) := by decide +kernel
theorem dX5_odds_93 : decode cX5_odds 93 = .ok (.lshl, 1) := by decide +kernel
theorem dX5_odds_94 : decode cX5_odds 94 = .ok (.iload_n 2, 1) := by decide +kernel
theorem dX5_odds_95 : decode cX5_odds 95 = .ok (.invokestatic 226, 3) := by decide +kernel
theorem dX5_odds_98 : decode cX5_odds 98 = .ok (.lreturn, 1) := by decide +kernel
theorem dX5_sheet_0 : decode cX5_sheet 0 = .ok (.aload_n 0, 1) := by decide +kernel
theorem dX5_sheet_1 : decode cX5_sheet 1 = .ok (.iconst 0, 1) := by decide +kernel
theorem dX5_sheet_2 : decode cX5_sheet 2 = .ok (.putfield 68, 3) := by decide +kernel
theorem dX5_sheet_5 : decode cX5_sheet 5 = .ok (.iload_n 1, 1) := by decide +kernel
