theorem dX3_toldJurors_1 : decode cX3_toldJurors 1 = .ok (.getfield 30, 3) := by decide +kernel
theorem dX3_toldJurors_4 : decode cX3_toldJurors 4 = .ok (.iconst 3, 1) := by decide +kernel
theorem dX3_toldJurors_5 : decode cX3_toldJurors 5 = .ok (.isub, 1) := by decide +kernel
theorem dX3_toldJurors_6 : decode cX3_toldJurors 6 = .ok (.iconst 3, 1) := by decide +kernel
theorem dX3_toldJurors_7 : decode cX3_toldJurors 7 = .ok (.idiv, 1) := by decide +kernel
theorem dX3_toldJurors_8 : decode cX3_toldJurors 8 = .ok (.ireturn, 1) := by decide +kernel
theorem dX3_toldCases_0 : decode cX3_toldCases 0 = .ok (.aload_n 0, 1) := by decide +kernel
theorem dX3_toldCases_1 : decode cX3_toldCases 1 = .ok (.getfield 26, 3) := by decide +kernel
theorem dX3_toldCases_4 : decode cX3_toldCases 4 = .ok (.aload_n 0, 1) := by decide +kernel
theorem dX3_toldCases_5 : decode cX3_toldCases 5 = .ok (.getfield 30, 3) := by decide +kernel
theorem dX3_toldCases_8 : decode cX3_toldCases 8 = .ok (.isub, 1) := by decide +kernel
theorem dX3_toldCases_9 : decode cX3_toldCases 9 = .ok (.iconst 4, 1) := by decide +kernel
theorem dX3_toldCases_10 : decode cX3_toldCases 10 = .ok (.idiv, 1) := by decide +kernel
theorem dX3_toldCases_11 : decode cX3_toldCases 11 = .ok (.ireturn, 1) := by decide +kernel
theorem dX3_toldKind_0 : decode cX3_toldKind 0 = .ok (.aload_n 0, 1) := by decide +kernel
theorem dX3_toldKind_1 : decode cX3_toldKind 1 = .ok (.iconst 3, 1) := by decide +kernel
theorem dX3_toldKind_2 : decode cX3_toldKind 2 = .ok (.iconst 3, 1) := by decide +kernel
theorem dX3_toldKind_3 : decode cX3_toldKind 3 = .ok (.iload_n 1, 1) := by decide +kernel
theorem dX3_toldKind_4 : decode cX3_toldKind 4 = .ok (.imul, 1) := by decide +kernel
theorem dX3_toldKind_5 : decode cX3_toldKind 5 = .ok (.iadd, 1) := by decide +kernel
theorem dX3_toldKind_6 : decode cX3_toldKind 6 = .ok (.iconst 1, 1) := by decide +kernel
theorem dX3_toldKind_7 : decode cX3_toldKind 7 = .ok (.iadd, 1) := by decide +kernel
theorem dX3_toldKind_8 : decode cX3_toldKind 8 = .ok (.invokevirtual 58, 3) := by decide +kernel
theorem dX3_toldKind_11 : decode cX3_toldKind 11 = .ok (.ireturn, 1) := by decide +kernel
theorem dX3_toldAge_0 : decode cX3_toldAge 0 = .ok (.aload_n 0, 1) := by decide +kernel
theorem dX3_toldAge_1 : decode cX3_toldAge 1 = .ok (.iconst 3, 1) := by decide +kernel
theorem dX3_toldAge_2 : decode cX3_toldAge 2 = .ok (.iconst 3, 1) := by decide +kernel
theorem dX3_toldAge_3 : decode cX3_toldAge 3 = .ok (.iload_n 1, 1) := by decide +kernel
theorem dX3_toldAge_4 : decode cX3_toldAge 4 = .ok (.imul, 1) := by decide +kernel
theorem dX3_toldAge_5 : decode cX3_toldAge 5 = .ok (.iadd, 1) := by decide +kernel
theorem dX3_toldAge_6 : decode cX3_toldAge 6 = .ok (.iconst 2, 1) := by decide +kernel
theorem dX3_toldAge_7 : decode cX3_toldAge 7 = .ok (.iadd, 1) := by decide +kernel
theorem dX3_toldAge_8 : decode cX3_toldAge 8 = .ok (.invokevirtual 62, 3) := by decide +kernel
theorem dX3_toldAge_11 : decode cX3_toldAge 11 = .ok (.ireturn, 1) := by decide +kernel
theorem dX3_toldOfCase_0 : decode cX3_toldOfCase 0 = .ok (.aload_n 0, 1) := by decide +kernel
theorem dX3_toldOfCase_1 : decode cX3_toldOfCase 1 = .ok (.aload_n 0, 1) := by decide +kernel
theorem dX3_toldOfCase_2 : decode cX3_toldOfCase 2 = .ok (.getfield 30, 3) := by decide +kernel
theorem dX3_toldOfCase_5 : decode cX3_toldOfCase 5 = .ok (.iconst 4, 1) := by decide +kernel
theorem dX3_toldOfCase_6 : decode cX3_toldOfCase 6 = .ok (.iload_n 1, 1) := by decide +kernel
theorem dX3_toldOfCase_7 : decode cX3_toldOfCase 7 = .ok (.imul, 1) := by decide +kernel
theorem dX3_toldOfCase_8 : decode cX3_toldOfCase 8 = .ok (.iadd, 1) := by decide +kernel
theorem dX3_toldOfCase_9 : decode cX3_toldOfCase 9 = .ok (.iconst 1, 1) := by decide +kernel
theorem dX3_toldOfCase_10 : decode cX3_toldOfCase 10 = .ok (.iadd, 1) := by decide +kernel
theorem dX3_toldOfCase_11 : decode cX3_toldOfCase 11 = .ok (.iload_n 2, 1) := by decide +kernel
theorem dX3_toldOfCase_12 : decode cX3_toldOfCase 12 = .ok (.iadd, 1) := by decide +kernel
theorem dX3_toldOfCase_13 : decode cX3_toldOfCase 13 = .ok (.invokevirtual 62, 3) := by decide +kernel
theorem dX3_toldOfCase_16 : decode cX3_toldOfCase 16 = .ok (.ireturn, 1) := by decide +kernel
theorem dX4_init_0 : decode cX4_init 0 = .ok (.aload_n 0, 1) := by decide +kernel
theorem dX4_init_1 : decode cX4_init 1 = .ok (.invokespecial 3, 3) := by decide +kernel
theorem dX4_init_4 : decode cX4_init 4 = .ok (.aload_n 0, 1) := by decide +kernel
theorem dX4_init_5 : decode cX4_init 5 = .ok (.iconst 4, 1) := by decide +kernel
theorem dX4_init_6 : decode cX4_init 6 = .ok (.anewarray 11, 3) := by decide +kernel
theorem dX4_init_9 : decode cX4_init 9 = .ok (.putfield 13, 3) := by decide +kernel
theorem dX4_init_12 : decode cX4_init 12 = .ok (.aload_n 0, 1) := by decide +kernel
theorem dX4_init_13 : decode cX4_init 13 = .ok (.new 17, 3) := by decide +kernel
theorem dX4_init_16 : decode cX4_init 16 = .ok (.dup, 1) := by decide +kernel
theorem dX4_init_17 : decode cX4_init 17 = .ok (.invokespecial 19, 3) := by decide +kernel
theorem dX4_init_20 : decode cX4_init 20 = .ok (.putfield 20, 3) := by decide +kernel
theorem dX4_init_23 : decode cX4_init 23 = .ok (.aload_n 0, 1) := by decide +kernel
theorem dX4_init_24 : decode cX4_init 24 = .ok (.new 24, 3) := by decide +kernel
theorem dX4_init_27 : decode cX4_init 27 = .ok (.dup, 1) := by decide +kernel
theorem dX4_init_28 : decode cX4_init 28 = .ok (.invokespecial 26, 3) := by decide +kernel
theorem dX4_init_31 : decode cX4_init 31 = .ok (.putfield 27, 3) := by decide +kernel
theorem dX4_init_34 : decode cX4_init 34 = .ok (.aload_n 0, 1) := by decide +kernel
theorem dX4_init_35 : decode cX4_init 35 = .ok (.new 31, 3) := by decide +kernel
theorem dX4_init_38 : decode cX4_init 38 = .ok (.dup, 1) := by decide +kernel
theorem dX4_init_39 : decode cX4_init 39 = .ok (.aload_n 0, 1) := by decide +kernel
theorem dX4_init_40 : decode cX4_init 40 = .ok (.getfield 27, 3) := by decide +kernel
theorem dX4_init_43 : decode cX4_init 43 = .ok (.invokespecial 33, 3) := by decide +kernel
theorem dX4_init_46 : decode cX4_init 46 = .ok (.putfield 36, 3) := by decide +kernel
theorem dX4_init_49 : decode cX4_init 49 = .ok (.aload_n 0, 1) := by decide +kernel
theorem dX4_init_50 : decode cX4_init 50 = .ok (.iconst 5, 1) := by decide +kernel
theorem dX4_init_51 : decode cX4_init 51 = .ok (.newarray .int, 2) := by decide +kernel
theorem dX4_init_53 : decode cX4_init 53 = .ok (.putfield 40, 3) := by decide +kernel
theorem dX4_init_56 : decode cX4_init 56 = .ok (.iconst 0, 1) := by decide +kernel
theorem dX4_init_57 : decode cX4_init 57 = .ok (.istore_n 1, 1) := by decide +kernel
theorem dX4_init_58 : decode cX4_init 58 = .ok (.iload_n 1, 1) := by decide +kernel
theorem dX4_init_59 : decode cX4_init 59 = .ok (.iconst 4, 1) := by decide +kernel
theorem dX4_init_60 : decode cX4_init 60 = .ok (.if_icmp .ge 22, 3) := by decide +kernel
theorem dX4_init_63 : decode cX4_init 63 = .ok (.aload_n 0, 1) := by decide +kernel
theorem dX4_init_64 : decode cX4_init 64 = .ok (.getfield 13, 3) := by decide +kernel
theorem dX4_init_67 : decode cX4_init 67 = .ok (.iload_n 1, 1) := by decide +kernel
theorem dX4_init_68 : decode cX4_init 68 = .ok (.new 11, 3) := by decide +kernel
theorem dX4_init_71 : decode cX4_init 71 = .ok (.dup, 1) := by decide +kernel
theorem dX4_init_72 : decode cX4_init 72 = .ok (.invokespecial 44, 3) := by decide +kernel
theorem dX4_init_75 : decode cX4_init 75 = .ok (.aastore, 1) := by decide +kernel
theorem dX4_init_76 : decode cX4_init 76 = .ok (.iinc 1 1, 3) := by decide +kernel
theorem dX4_init_79 : decode cX4_init 79 = .ok (.goto (-21), 3) := by decide +kernel
theorem dX4_init_82 : decode cX4_init 82 = .ok (.return_, 1) := by decide +kernel
theorem dX4_court_0 : decode cX4_court 0 = .ok (.aload_n 0, 1) := by decide +kernel
theorem dX4_court_1 : decode cX4_court 1 = .ok (.iconst 0, 1) := by decide +kernel
theorem dX4_court_2 : decode cX4_court 2 = .ok (.putfield 45, 3) := by decide +kernel
theorem dX4_court_5 : decode cX4_court 5 = .ok (.iload_n 1, 1) := by decide +kernel
theorem dX4_court_6 : decode cX4_court 6 = .ok (.invokestatic 49, 3) := by decide +kernel
theorem dX4_court_9 : decode cX4_court 9 = .ok (.ifCond .ne 5, 3) := by decide +kernel
theorem dX4_court_12 : decode cX4_court 12 = .ok (.iconst (-1), 1) := by decide +kernel
theorem dX4_court_13 : decode cX4_court 13 = .ok (.ireturn, 1) := by decide +kernel
theorem dX4_court_14 : decode cX4_court 14 = .ok (.iload_n 2, 1) := by decide +kernel
theorem dX4_court_15 : decode cX4_court 15 = .ok (.invokestatic 53, 3) := by decide +kernel
theorem dX4_court_18 : decode cX4_court 18 = .ok (.ifCond .ne 6, 3) := by decide +kernel
theorem dX4_court_21 : decode cX4_court 21 = .ok (.bipush (-2), 2) := by decide +kernel
theorem dX4_court_23 : decode cX4_court 23 = .ok (.ireturn, 1) := by decide +kernel
theorem dX4_court_24 : decode cX4_court 24 = .ok (.aload_n 0, 1) := by decide +kernel
theorem dX4_court_25 : decode cX4_court 25 = .ok (.getfield 13, 3) := by decide +kernel
theorem dX4_court_28 : decode cX4_court 28 = .ok (.iload_n 1, 1) := by decide +kernel
theorem dX4_court_29 : decode cX4_court 29 = .ok (.aaload, 1) := by decide +kernel
theorem dX4_court_30 : decode cX4_court 30 = .ok (.astore 5, 2) := by decide +kernel
theorem dX4_court_32 : decode cX4_court 32 = .ok (.aload 5, 2) := by decide +kernel
theorem dX4_court_34 : decode cX4_court 34 = .ok (.iload_n 2, 1) := by decide +kernel
theorem dX4_court_35 : decode cX4_court 35 = .ok (.iload_n 3, 1) := by decide +kernel
theorem dX4_court_36 : decode cX4_court 36 = .ok (.iload 4, 2) := by decide +kernel
theorem dX4_court_38 : decode cX4_court 38 = .ok (.invokevirtual 56, 3) := by decide +kernel
theorem dX4_court_41 : decode cX4_court 41 = .ok (.istore 6, 2) := by decide +kernel
theorem dX4_court_43 : decode cX4_court 43 = .ok (.iload 6, 2) := by decide +kernel
theorem dX4_court_45 : decode cX4_court 45 = .ok (.ifCond .eq 10, 3) := by decide +kernel
theorem dX4_court_48 : decode cX4_court 48 = .ok (.aload_n 0, 1) := by decide +kernel
theorem dX4_court_49 : decode cX4_court 49 = .ok (.iload 6, 2) := by decide +kernel
theorem dX4_court_51 : decode cX4_court 51 = .ok (.invokevirtual 60, 3) := by decide +kernel
theorem dX4_court_54 : decode cX4_court 54 = .ok (.ireturn, 1) := by decide +kernel
theorem dX4_court_55 : decode cX4_court 55 = .ok (.aload_n 0, 1) := by decide +kernel
theorem dX4_court_56 : decode cX4_court 56 = .ok (.getfield 20, 3) := by decide +kernel
theorem dX4_court_59 : decode cX4_court 59 = .ok (.aload 5, 2) := by decide +kernel
theorem dX4_court_61 : decode cX4_court 61 = .ok (.iload_n 3, 1) := by decide +kernel
theorem dX4_court_62 : decode cX4_court 62 = .ok (.iload 4, 2) := by decide +kernel
theorem dX4_court_64 : decode cX4_court 64 = .ok (.invokevirtual 64, 3) := by decide +kernel
theorem dX4_court_67 : decode cX4_court 67 = .ok (.istore 7, 2) := by decide +kernel
theorem dX4_court_69 : decode cX4_court 69 = .ok (.iload 7, 2) := by decide +kernel
theorem dX4_court_71 : decode cX4_court 71 = .ok (.bipush (-9), 2) := by decide +kernel
theorem dX4_court_73 : decode cX4_court 73 = .ok (.if_icmp .eq 9, 3) := by decide +kernel
theorem dX4_court_76 : decode cX4_court 76 = .ok (.bipush (-100), 2) := by decide +kernel
theorem dX4_court_78 : decode cX4_court 78 = .ok (.iload 7, 2) := by decide +kernel
theorem dX4_court_80 : decode cX4_court 80 = .ok (.isub, 1) := by decide +kernel
theorem dX4_court_81 : decode cX4_court 81 = .ok (.ireturn, 1) := by decide +kernel
theorem dX4_court_82 : decode cX4_court 82 = .ok (.aload_n 0, 1) := by decide +kernel
theorem dX4_court_83 : decode cX4_court 83 = .ok (.getfield 27, 3) := by decide +kernel
theorem dX4_court_86 : decode cX4_court 86 = .ok (.aload_n 0, 1) := by decide +kernel
theorem dX4_court_87 : decode cX4_court 87 = .ok (.getfield 20, 3) := by decide +kernel
theorem dX4_court_90 : decode cX4_court 90 = .ok (.invokevirtual 68, 3) := by decide +kernel
theorem dX4_court_93 : decode cX4_court 93 = .ok (.aload_n 0, 1) := by decide +kernel
theorem dX4_court_94 : decode cX4_court 94 = .ok (.getfield 27, 3) := by decide +kernel
theorem dX4_court_97 : decode cX4_court 97 = .ok (.getfield 72, 3) := by decide +kernel
theorem dX4_court_100 : decode cX4_court 100 = .ok (.ireturn, 1) := by decide +kernel
theorem dX4_ofJuror_0 : decode cX4_ofJuror 0 = .ok (.aload_n 0, 1) := by decide +kernel
theorem dX4_ofJuror_1 : decode cX4_ofJuror 1 = .ok (.getfield 27, 3) := by decide +kernel
theorem dX4_ofJuror_4 : decode cX4_ofJuror 4 = .ok (.iload_n 1, 1) := by decide +kernel
theorem dX4_ofJuror_5 : decode cX4_ofJuror 5 = .ok (.invokevirtual 75, 3) := by decide +kernel
theorem dX4_ofJuror_8 : decode cX4_ofJuror 8 = .ok (.ifCond .ne 5, 3) := by decide +kernel
theorem dX4_ofJuror_11 : decode cX4_ofJuror 11 = .ok (.iconst (-1), 1) := by decide +kernel
theorem dX4_ofJuror_12 : decode cX4_ofJuror 12 = .ok (.ireturn, 1) := by decide +kernel
theorem dX4_ofJuror_13 : decode cX4_ofJuror 13 = .ok (.iload_n 2, 1) := by decide +kernel
theorem dX4_ofJuror_14 : decode cX4_ofJuror 14 = .ok (.tableswitch 74 0 3 #[30, 40, 50, 62], 30) := by decide +kernel
theorem dX4_ofJuror_44 : decode cX4_ofJuror 44 = .ok (.aload_n 0, 1) := by decide +kernel
theorem dX4_ofJuror_45 : decode cX4_ofJuror 45 = .ok (.getfield 27, 3) := by decide +kernel
theorem dX4_ofJuror_48 : decode cX4_ofJuror 48 = .ok (.getfield 78, 3) := by decide +kernel
theorem dX4_ofJuror_51 : decode cX4_ofJuror 51 = .ok (.iload_n 1, 1) := by decide +kernel
theorem dX4_ofJuror_52 : decode cX4_ofJuror 52 = .ok (.iaload, 1) := by decide +kernel
theorem dX4_ofJuror_53 : decode cX4_ofJuror 53 = .ok (.ireturn, 1) := by decide +kernel
theorem dX4_ofJuror_54 : decode cX4_ofJuror 54 = .ok (.aload_n 0, 1) := by decide +kernel
theorem dX4_ofJuror_55 : decode cX4_ofJuror 55 = .ok (.getfield 27, 3) := by decide +kernel
theorem dX4_ofJuror_58 : decode cX4_ofJuror 58 = .ok (.getfield 81, 3) := by decide +kernel
theorem dX4_ofJuror_61 : decode cX4_ofJuror 61 = .ok (.iload_n 1, 1) := by decide +kernel
theorem dX4_ofJuror_62 : decode cX4_ofJuror 62 = .ok (.iaload, 1) := by decide +kernel
theorem dX4_ofJuror_63 : decode cX4_ofJuror 63 = .ok (.ireturn, 1) := by decide +kernel
theorem dX4_ofJuror_64 : decode cX4_ofJuror 64 = .ok (.aload_n 0, 1) := by decide +kernel
theorem dX4_ofJuror_65 : decode cX4_ofJuror 65 = .ok (.getfield 27, 3) := by decide +kernel
theorem dX4_ofJuror_68 : decode cX4_ofJuror 68 = .ok (.getfield 84, 3) := by decide +kernel
theorem dX4_ofJuror_71 : decode cX4_ofJuror 71 = .ok (.iload_n 1, 1) := by decide +kernel
theorem dX4_ofJuror_72 : decode cX4_ofJuror 72 = .ok (.invokestatic 87, 3) := by decide +kernel
theorem dX4_ofJuror_75 : decode cX4_ofJuror 75 = .ok (.ireturn, 1) := by decide +kernel
theorem dX4_ofJuror_76 : decode cX4_ofJuror 76 = .ok (.aload_n 0, 1) := by decide +kernel
theorem dX4_ofJuror_77 : decode cX4_ofJuror 77 = .ok (.getfield 27, 3) := by decide +kernel
theorem dX4_ofJuror_80 : decode cX4_ofJuror 80 = .ok (.getfield 91, 3) := by decide +kernel
theorem dX4_ofJuror_83 : decode cX4_ofJuror 83 = .ok (.iload_n 1, 1) := by decide +kernel
theorem dX4_ofJuror_84 : decode cX4_ofJuror 84 = .ok (.invokestatic 87, 3) := by decide +kernel
theorem dX4_ofJuror_87 : decode cX4_ofJuror 87 = .ok (.ireturn, 1) := by decide +kernel
theorem dX4_ofJuror_88 : decode cX4_ofJuror 88 = .ok (.bipush (-2), 2) := by decide +kernel
theorem dX4_ofJuror_90 : decode cX4_ofJuror 90 = .ok (.ireturn, 1) := by decide +kernel
theorem dX4_ofCase_0 : decode cX4_ofCase 0 = .ok (.aload_n 0, 1) := by decide +kernel
theorem dX4_ofCase_1 : decode cX4_ofCase 1 = .ok (.getfield 27, 3) := by decide +kernel
theorem dX4_ofCase_4 : decode cX4_ofCase 4 = .ok (.iload_n 1, 1) := by decide +kernel
theorem dX4_ofCase_5 : decode cX4_ofCase 5 = .ok (.invokevirtual 94, 3) := by decide +kernel
theorem dX4_ofCase_8 : decode cX4_ofCase 8 = .ok (.ifCond .ne 5, 3) := by decide +kernel
theorem dX4_ofCase_11 : decode cX4_ofCase 11 = .ok (.iconst (-1), 1) := by decide +kernel
theorem dX4_ofCase_12 : decode cX4_ofCase 12 = .ok (.ireturn, 1) := by decide +kernel
theorem dX4_ofCase_13 : decode cX4_ofCase 13 = .ok (.iload_n 2, 1) := by decide +kernel
theorem dX4_ofCase_14 : decode cX4_ofCase 14 = .ok (.tableswitch 56 0 2 #[26, 36, 46], 26) := by decide +kernel
theorem dX4_ofCase_40 : decode cX4_ofCase 40 = .ok (.aload_n 0, 1) := by decide +kernel
theorem dX4_ofCase_41 : decode cX4_ofCase 41 = .ok (.getfield 27, 3) := by decide +kernel
theorem dX4_ofCase_44 : decode cX4_ofCase 44 = .ok (.getfield 97, 3) := by decide +kernel
theorem dX4_ofCase_47 : decode cX4_ofCase 47 = .ok (.iload_n 1, 1) := by decide +kernel
theorem dX4_ofCase_48 : decode cX4_ofCase 48 = .ok (.iaload, 1) := by decide +kernel
theorem dX4_ofCase_49 : decode cX4_ofCase 49 = .ok (.ireturn, 1) := by decide +kernel
theorem dX4_ofCase_50 : decode cX4_ofCase 50 = .ok (.aload_n 0, 1) := by decide +kernel
theorem dX4_ofCase_51 : decode cX4_ofCase 51 = .ok (.getfield 27, 3) := by decide +kernel
theorem dX4_ofCase_54 : decode cX4_ofCase 54 = .ok (.getfield 100, 3) := by decide +kernel
theorem dX4_ofCase_57 : decode cX4_ofCase 57 = .ok (.iload_n 1, 1) := by decide +kernel
theorem dX4_ofCase_58 : decode cX4_ofCase 58 = .ok (.iaload, 1) := by decide +kernel
theorem dX4_ofCase_59 : decode cX4_ofCase 59 = .ok (.ireturn, 1) := by decide +kernel
theorem dX4_ofCase_60 : decode cX4_ofCase 60 = .ok (.aload_n 0, 1) := by decide +kernel
theorem dX4_ofCase_61 : decode cX4_ofCase 61 = .ok (.getfield 27, 3) := by decide +kernel
theorem dX4_ofCase_64 : decode cX4_ofCase 64 = .ok (.getfield 103, 3) := by decide +kernel
theorem dX4_ofCase_67 : decode cX4_ofCase 67 = .ok (.iload_n 1, 1) := by decide +kernel
theorem dX4_ofCase_68 : decode cX4_ofCase 68 = .ok (.iaload, 1) := by decide +kernel
theorem dX4_ofCase_69 : decode cX4_ofCase 69 = .ok (.ireturn, 1) := by decide +kernel
theorem dX4_ofCase_70 : decode cX4_ofCase 70 = .ok (.bipush (-2), 2) := by decide +kernel
theorem dX4_ofCase_72 : decode cX4_ofCase 72 = .ok (.ireturn, 1) := by decide +kernel
theorem dX4_chalk_0 : decode cX4_chalk 0 = .ok (.iload_n 1, 1) := by decide +kernel
theorem dX4_chalk_1 : decode cX4_chalk 1 = .ok (.ifCond .lt 9, 3) := by decide +kernel
theorem dX4_chalk_4 : decode cX4_chalk 4 = .ok (.iload_n 1, 1) := by decide +kernel
theorem dX4_chalk_5 : decode cX4_chalk 5 = .ok (.bipush 64, 2) := by decide +kernel
theorem dX4_chalk_7 : decode cX4_chalk 7 = .ok (.if_icmp .lt 6, 3) := by decide +kernel
theorem dX4_chalk_10 : decode cX4_chalk 10 = .ok (.bipush (-2), 2) := by decide +kernel
theorem dX4_chalk_12 : decode cX4_chalk 12 = .ok (.ireturn, 1) := by decide +kernel
theorem dX4_chalk_13 : decode cX4_chalk 13 = .ok (.aload_n 0, 1) := by decide +kernel
theorem dX4_chalk_14 : decode cX4_chalk 14 = .ok (.getfield 27, 3) := by decide +kernel
theorem dX4_chalk_17 : decode cX4_chalk 17 = .ok (.invokevirtual 106, 3) := by decide +kernel
theorem dX4_chalk_20 : decode cX4_chalk 20 = .ok (.ifCond .ne 6, 3) := by decide +kernel
theorem dX4_chalk_23 : decode cX4_chalk 23 = .ok (.bipush (-3), 2) := by decide +kernel
theorem dX4_chalk_25 : decode cX4_chalk 25 = .ok (.ireturn, 1) := by decide +kernel
theorem dX4_chalk_26 : decode cX4_chalk 26 = .ok (.aload_n 0, 1) := by decide +kernel
theorem dX4_chalk_27 : decode cX4_chalk 27 = .ok (.getfield 27, 3) := by decide +kernel
theorem dX4_chalk_30 : decode cX4_chalk 30 = .ok (.getfield 110, 3) := by decide +kernel
theorem dX4_chalk_33 : decode cX4_chalk 33 = .ok (.istore_n 2, 1) := by decide +kernel
theorem dX4_chalk_34 : decode cX4_chalk 34 = .ok (.aload_n 0, 1) := by decide +kernel
theorem dX4_chalk_35 : decode cX4_chalk 35 = .ok (.getfield 27, 3) := by decide +kernel
theorem dX4_chalk_38 : decode cX4_chalk 38 = .ok (.iload_n 1, 1) := by decide +kernel
theorem dX4_chalk_39 : decode cX4_chalk 39 = .ok (.putfield 110, 3) := by decide +kernel
theorem dX4_chalk_42 : decode cX4_chalk 42 = .ok (.iload_n 2, 1) := by decide +kernel
theorem dX4_chalk_43 : decode cX4_chalk 43 = .ok (.ireturn, 1) := by decide +kernel
theorem dX4_treat_0 : decode cX4_treat 0 = .ok (.aload_n 0, 1) := by decide +kernel
theorem dX4_treat_1 : decode cX4_treat 1 = .ok (.getfield 27, 3) := by decide +kernel
theorem dX4_treat_4 : decode cX4_treat 4 = .ok (.iload_n 1, 1) := by decide +kernel
theorem dX4_treat_5 : decode cX4_treat 5 = .ok (.invokevirtual 75, 3) := by decide +kernel
theorem dX4_treat_8 : decode cX4_treat 8 = .ok (.ifCond .ne 5, 3) := by decide +kernel
theorem dX4_treat_11 : decode cX4_treat 11 = .ok (.iconst (-1), 1) := by decide +kernel
theorem dX4_treat_12 : decode cX4_treat 12 = .ok (.ireturn, 1) := by decide +kernel
theorem dX4_treat_13 : decode cX4_treat 13 = .ok (.aload_n 0, 1) := by decide +kernel
theorem dX4_treat_14 : decode cX4_treat 14 = .ok (.getfield 27, 3) := by decide +kernel
theorem dX4_treat_17 : decode cX4_treat 17 = .ok (.getfield 84, 3) := by decide +kernel
theorem dX4_treat_20 : decode cX4_treat 20 = .ok (.istore_n 3, 1) := by decide +kernel
theorem dX4_treat_21 : decode cX4_treat 21 = .ok (.aload_n 0, 1) := by decide +kernel
theorem dX4_treat_22 : decode cX4_treat 22 = .ok (.getfield 27, 3) := by decide +kernel
theorem dX4_treat_25 : decode cX4_treat 25 = .ok (.iload_n 3, 1) := by decide +kernel
theorem dX4_treat_26 : decode cX4_treat 26 = .ok (.iload_n 1, 1) := by decide +kernel
theorem dX4_treat_27 : decode cX4_treat 27 = .ok (.iload_n 2, 1) := by decide +kernel
theorem dX4_treat_28 : decode cX4_treat 28 = .ok (.invokestatic 113, 3) := by decide +kernel
theorem dX4_treat_31 : decode cX4_treat 31 = .ok (.putfield 84, 3) := by decide +kernel
theorem dX4_treat_34 : decode cX4_treat 34 = .ok (.aload_n 0, 1) := by decide +kernel
theorem dX4_treat_35 : decode cX4_treat 35 = .ok (.getfield 27, 3) := by decide +kernel
theorem dX4_treat_38 : decode cX4_treat 38 = .ok (.getfield 84, 3) := by decide +kernel
theorem dX4_treat_41 : decode cX4_treat 41 = .ok (.iload_n 3, 1) := by decide +kernel
theorem dX4_treat_42 : decode cX4_treat 42 = .ok (.if_icmp .ne 7, 3) := by decide +kernel
theorem dX4_treat_45 : decode cX4_treat 45 = .ok (.iconst 0, 1) := by decide +kernel
theorem dX4_treat_46 : decode cX4_treat 46 = .ok (.goto 4, 3) := by decide +kernel
theorem dX4_treat_49 : decode cX4_treat 49 = .ok (.iconst 1, 1) := by decide +kernel
theorem dX4_treat_50 : decode cX4_treat 50 = .ok (.ireturn, 1) := by decide +kernel
theorem dX4_strike_0 : decode cX4_strike 0 = .ok (.aload_n 0, 1) := by decide +kernel
theorem dX4_strike_1 : decode cX4_strike 1 = .ok (.getfield 27, 3) := by decide +kernel
theorem dX4_strike_4 : decode cX4_strike 4 = .ok (.iload_n 1, 1) := by decide +kernel
theorem dX4_strike_5 : decode cX4_strike 5 = .ok (.invokevirtual 75, 3) := by decide +kernel
theorem dX4_strike_8 : decode cX4_strike 8 = .ok (.ifCond .ne 5, 3) := by decide +kernel
theorem dX4_strike_11 : decode cX4_strike 11 = .ok (.iconst (-1), 1) := by decide +kernel
theorem dX4_strike_12 : decode cX4_strike 12 = .ok (.ireturn, 1) := by decide +kernel
theorem dX4_strike_13 : decode cX4_strike 13 = .ok (.aload_n 0, 1) := by decide +kernel
theorem dX4_strike_14 : decode cX4_strike 14 = .ok (.getfield 27, 3) := by decide +kernel
theorem dX4_strike_17 : decode cX4_strike 17 = .ok (.getfield 91, 3) := by decide +kernel
theorem dX4_strike_20 : decode cX4_strike 20 = .ok (.istore_n 3, 1) := by decide +kernel
theorem dX4_strike_21 : decode cX4_strike 21 = .ok (.aload_n 0, 1) := by decide +kernel
theorem dX4_strike_22 : decode cX4_strike 22 = .ok (.getfield 27, 3) := by decide +kernel
theorem dX4_strike_25 : decode cX4_strike 25 = .ok (.iload_n 3, 1) := by decide +kernel
theorem dX4_strike_26 : decode cX4_strike 26 = .ok (.iload_n 1, 1) := by decide +kernel
theorem dX4_strike_27 : decode cX4_strike 27 = .ok (.iload_n 2, 1) := by decide +kernel
theorem dX4_strike_28 : decode cX4_strike 28 = .ok (.invokestatic 113, 3) := by decide +kernel
theorem dX4_strike_31 : decode cX4_strike 31 = .ok (.putfield 91, 3) := by decide +kernel
theorem dX4_strike_34 : decode cX4_strike 34 = .ok (.aload_n 0, 1) := by decide +kernel
theorem dX4_strike_35 : decode cX4_strike 35 = .ok (.getfield 27, 3) := by decide +kernel
theorem dX4_strike_38 : decode cX4_strike 38 = .ok (.getfield 91, 3) := by decide +kernel
theorem dX4_strike_41 : decode cX4_strike 41 = .ok (.iload_n 3, 1) := by decide +kernel
theorem dX4_strike_42 : decode cX4_strike 42 = .ok (.if_icmp .ne 7, 3) := by decide +kernel
theorem dX4_strike_45 : decode cX4_strike 45 = .ok (.iconst 0, 1) := by decide +kernel
theorem dX4_strike_46 : decode cX4_strike 46 = .ok (.goto 4, 3) := by decide +kernel
theorem dX4_strike_49 : decode cX4_strike 49 = .ok (.iconst 1, 1) := by decide +kernel
theorem dX4_strike_50 : decode cX4_strike 50 = .ok (.ireturn, 1) := by decide +kernel
theorem dX4_minutes_0 : decode cX4_minutes 0 = .ok (.iload_n 1, 1) := by decide +kernel
theorem dX4_minutes_1 : decode cX4_minutes 1 = .ok (.iconst 5, 1) := by decide +kernel
theorem dX4_minutes_2 : decode cX4_minutes 2 = .ok (.if_icmp .lt 9, 3) := by decide +kernel
theorem dX4_minutes_5 : decode cX4_minutes 5 = .ok (.iload_n 1, 1) := by decide +kernel
theorem dX4_minutes_6 : decode cX4_minutes 6 = .ok (.bipush 60, 2) := by decide +kernel
theorem dX4_minutes_8 : decode cX4_minutes 8 = .ok (.if_icmp .le 6, 3) := by decide +kernel
theorem dX4_minutes_11 : decode cX4_minutes 11 = .ok (.bipush (-2), 2) := by decide +kernel
theorem dX4_minutes_13 : decode cX4_minutes 13 = .ok (.ireturn, 1) := by decide +kernel
theorem dX4_minutes_14 : decode cX4_minutes 14 = .ok (.aload_n 0, 1) := by decide +kernel
theorem dX4_minutes_15 : decode cX4_minutes 15 = .ok (.getfield 27, 3) := by decide +kernel
theorem dX4_minutes_18 : decode cX4_minutes 18 = .ok (.invokevirtual 106, 3) := by decide +kernel
theorem dX4_minutes_21 : decode cX4_minutes 21 = .ok (.ifCond .ne 6, 3) := by decide +kernel
theorem dX4_minutes_24 : decode cX4_minutes 24 = .ok (.bipush (-3), 2) := by decide +kernel
theorem dX4_minutes_26 : decode cX4_minutes 26 = .ok (.ireturn, 1) := by decide +kernel
theorem dX4_minutes_27 : decode cX4_minutes 27 = .ok (.aload_n 0, 1) := by decide +kernel
theorem dX4_minutes_28 : decode cX4_minutes 28 = .ok (.getfield 27, 3) := by decide +kernel
theorem dX4_minutes_31 : decode cX4_minutes 31 = .ok (.getfield 117, 3) := by decide +kernel
theorem dX4_minutes_34 : decode cX4_minutes 34 = .ok (.istore_n 2, 1) := by decide +kernel
theorem dX4_minutes_35 : decode cX4_minutes 35 = .ok (.aload_n 0, 1) := by decide +kernel
theorem dX4_minutes_36 : decode cX4_minutes 36 = .ok (.getfield 27, 3) := by decide +kernel
theorem dX4_minutes_39 : decode cX4_minutes 39 = .ok (.iload_n 1, 1) := by decide +kernel
theorem dX4_minutes_40 : decode cX4_minutes 40 = .ok (.putfield 117, 3) := by decide +kernel
theorem dX4_minutes_43 : decode cX4_minutes 43 = .ok (.iload_n 2, 1) := by decide +kernel
theorem dX4_minutes_44 : decode cX4_minutes 44 = .ok (.ireturn, 1) := by decide +kernel
theorem dX4_sitting_0 : decode cX4_sitting 0 = .ok (.aload_n 0, 1) := by decide +kernel
theorem dX4_sitting_1 : decode cX4_sitting 1 = .ok (.iconst 0, 1) := by decide +kernel
theorem dX4_sitting_2 : decode cX4_sitting 2 = .ok (.putfield 45, 3) := by decide +kernel
theorem dX4_sitting_5 : decode cX4_sitting 5 = .ok (.iload_n 1, 1) := by decide +kernel
theorem dX4_sitting_6 : decode cX4_sitting 6 = .ok (.invokestatic 49, 3) := by decide +kernel
theorem dX4_sitting_9 : decode cX4_sitting 9 = .ok (.ifCond .ne 5, 3) := by decide +kernel
theorem dX4_sitting_12 : decode cX4_sitting 12 = .ok (.iconst (-1), 1) := by decide +kernel
theorem dX4_sitting_13 : decode cX4_sitting 13 = .ok (.ireturn, 1) := by decide +kernel
theorem dX4_sitting_14 : decode cX4_sitting 14 = .ok (.iload 5, 2) := by decide +kernel
theorem dX4_sitting_16 : decode cX4_sitting 16 = .ok (.bipush 10, 2) := by decide +kernel
theorem dX4_sitting_18 : decode cX4_sitting 18 = .ok (.if_icmp .lt 14, 3) := by decide +kernel
theorem dX4_sitting_21 : decode cX4_sitting 21 = .ok (.iload 5, 2) := by decide +kernel
theorem dX4_sitting_23 : decode cX4_sitting 23 = .ok (.bipush 15, 2) := by decide +kernel
theorem dX4_sitting_25 : decode cX4_sitting 25 = .ok (.if_icmp .ge 7, 3) := by decide +kernel
theorem dX4_sitting_28 : decode cX4_sitting 28 = .ok (.iconst 1, 1) := by decide +kernel
theorem dX4_sitting_29 : decode cX4_sitting 29 = .ok (.goto 4, 3) := by decide +kernel
theorem dX4_sitting_32 : decode cX4_sitting 32 = .ok (.iconst 0, 1) := by decide +kernel
theorem dX4_sitting_33 : decode cX4_sitting 33 = .ok (.istore 6, 2) := by decide +kernel
theorem dX4_sitting_35 : decode cX4_sitting 35 = .ok (.iload_n 2, 1) := by decide +kernel
theorem dX4_sitting_36 : decode cX4_sitting 36 = .ok (.invokestatic 53, 3) := by decide +kernel
theorem dX4_sitting_39 : decode cX4_sitting 39 = .ok (.ifCond .eq 19, 3) := by decide +kernel
theorem dX4_sitting_42 : decode cX4_sitting 42 = .ok (.iload 6, 2) := by decide +kernel
theorem dX4_sitting_44 : decode cX4_sitting 44 = .ok (.ifCond .ne 17, 3) := by decide +kernel
theorem dX4_sitting_47 : decode cX4_sitting 47 = .ok (.iload 5, 2) := by decide +kernel
theorem dX4_sitting_49 : decode cX4_sitting 49 = .ok (.ifCond .eq 12, 3) := by decide +kernel
theorem dX4_sitting_52 : decode cX4_sitting 52 = .ok (.iload 5, 2) := by decide +kernel
theorem dX4_sitting_54 : decode cX4_sitting 54 = .ok (.iconst 1, 1) := by decide +kernel
theorem dX4_sitting_55 : decode cX4_sitting 55 = .ok (.if_icmp .eq 6, 3) := by decide +kernel
theorem dX4_sitting_58 : decode cX4_sitting 58 = .ok (.bipush (-2), 2) := by decide +kernel
theorem dX4_sitting_60 : decode cX4_sitting 60 = .ok (.ireturn, 1) := by decide +kernel
theorem dX4_sitting_61 : decode cX4_sitting 61 = .ok (.aload_n 0, 1) := by decide +kernel
theorem dX4_sitting_62 : decode cX4_sitting 62 = .ok (.aload_n 0, 1) := by decide +kernel
theorem dX4_sitting_63 : decode cX4_sitting 63 = .ok (.getfield 13, 3) := by decide +kernel
theorem dX4_sitting_66 : decode cX4_sitting 66 = .ok (.iload_n 1, 1) := by decide +kernel
theorem dX4_sitting_67 : decode cX4_sitting 67 = .ok (.aaload, 1) := by decide +kernel
theorem dX4_sitting_68 : decode cX4_sitting 68 = .ok (.iload_n 2, 1) := by decide +kernel
theorem dX4_sitting_69 : decode cX4_sitting 69 = .ok (.iload_n 3, 1) := by decide +kernel
theorem dX4_sitting_70 : decode cX4_sitting 70 = .ok (.iload 4, 2) := by decide +kernel
theorem dX4_sitting_72 : decode cX4_sitting 72 = .ok (.invokevirtual 120, 3) := by decide +kernel
theorem dX4_sitting_75 : decode cX4_sitting 75 = .ok (.istore 7, 2) := by decide +kernel
theorem dX4_sitting_77 : decode cX4_sitting 77 = .ok (.iload 7, 2) := by decide +kernel
theorem dX4_sitting_79 : decode cX4_sitting 79 = .ok (.ifCond .eq 6, 3) := by decide +kernel
theorem dX4_sitting_82 : decode cX4_sitting 82 = .ok (.iload 7, 2) := by decide +kernel
theorem dX4_sitting_84 : decode cX4_sitting 84 = .ok (.ireturn, 1) := by decide +kernel
theorem dX4_sitting_85 : decode cX4_sitting 85 = .ok (.aload_n 0, 1) := by decide +kernel
theorem dX4_sitting_86 : decode cX4_sitting 86 = .ok (.getfield 36, 3) := by decide +kernel
theorem dX4_sitting_89 : decode cX4_sitting 89 = .ok (.invokevirtual 124, 3) := by decide +kernel
theorem dX4_sitting_92 : decode cX4_sitting 92 = .ok (.iload 6, 2) := by decide +kernel
theorem dX4_sitting_94 : decode cX4_sitting 94 = .ok (.ifCond .eq 17, 3) := by decide +kernel
theorem dX4_sitting_97 : decode cX4_sitting 97 = .ok (.aload_n 0, 1) := by decide +kernel
theorem dX4_sitting_98 : decode cX4_sitting 98 = .ok (.getfield 36, 3) := by decide +kernel
theorem dX4_sitting_101 : decode cX4_sitting 101 = .ok (.getfield 127, 3) := by decide +kernel
theorem dX4_sitting_104 : decode cX4_sitting 104 = .ok (.iload 5, 2) := by decide +kernel
theorem dX4_sitting_106 : decode cX4_sitting 106 = .ok (.bipush 10, 2) := by decide +kernel
theorem dX4_sitting_108 : decode cX4_sitting 108 = .ok (.isub, 1) := by decide +kernel
theorem dX4_sitting_109 : decode cX4_sitting 109 = .ok (.iaload, 1) := by decide +kernel
theorem dX4_sitting_110 : decode cX4_sitting 110 = .ok (.ireturn, 1) := by decide +kernel
theorem dX4_sitting_111 : decode cX4_sitting 111 = .ok (.iload 5, 2) := by decide +kernel
theorem dX4_sitting_113 : decode cX4_sitting 113 = .ok (.ifCond .ne 13, 3) := by decide +kernel
theorem dX4_sitting_116 : decode cX4_sitting 116 = .ok (.aload_n 0, 1) := by decide +kernel
theorem dX4_sitting_117 : decode cX4_sitting 117 = .ok (.getfield 36, 3) := by decide +kernel
theorem dX4_sitting_120 : decode cX4_sitting 120 = .ok (.getfield 130, 3) := by decide +kernel
theorem dX4_sitting_123 : decode cX4_sitting 123 = .ok (.goto 10, 3) := by decide +kernel
theorem dX4_sitting_126 : decode cX4_sitting 126 = .ok (.aload_n 0, 1) := by decide +kernel
theorem dX4_sitting_127 : decode cX4_sitting 127 = .ok (.getfield 36, 3) := by decide +kernel
theorem dX4_sitting_130 : decode cX4_sitting 130 = .ok (.getfield 133, 3) := by decide +kernel
theorem dX4_sitting_133 : decode cX4_sitting 133 = .ok (.ireturn, 1) := by decide +kernel
theorem dX4_votes_0 : decode cX4_votes 0 = .ok (.aload_n 0, 1) := by decide +kernel
theorem dX4_votes_1 : decode cX4_votes 1 = .ok (.getfield 27, 3) := by decide +kernel
theorem dX4_votes_4 : decode cX4_votes 4 = .ok (.iload_n 1, 1) := by decide +kernel
theorem dX4_votes_5 : decode cX4_votes 5 = .ok (.invokevirtual 94, 3) := by decide +kernel
theorem dX4_votes_8 : decode cX4_votes 8 = .ok (.ifCond .ne 5, 3) := by decide +kernel
theorem dX4_votes_11 : decode cX4_votes 11 = .ok (.iconst (-1), 1) := by decide +kernel
theorem dX4_votes_12 : decode cX4_votes 12 = .ok (.ireturn, 1) := by decide +kernel
theorem dX4_votes_13 : decode cX4_votes 13 = .ok (.iload_n 2, 1) := by decide +kernel
theorem dX4_votes_14 : decode cX4_votes 14 = .ok (.ifCond .lt 9, 3) := by decide +kernel
theorem dX4_votes_17 : decode cX4_votes 17 = .ok (.iload_n 2, 1) := by decide +kernel
theorem dX4_votes_18 : decode cX4_votes 18 = .ok (.bipush 60, 2) := by decide +kernel
theorem dX4_votes_20 : decode cX4_votes 20 = .ok (.if_icmp .le 6, 3) := by decide +kernel
theorem dX4_votes_23 : decode cX4_votes 23 = .ok (.bipush (-2), 2) := by decide +kernel
theorem dX4_votes_25 : decode cX4_votes 25 = .ok (.ireturn, 1) := by decide +kernel
theorem dX4_votes_26 : decode cX4_votes 26 = .ok (.aload_n 0, 1) := by decide +kernel
theorem dX4_votes_27 : decode cX4_votes 27 = .ok (.getfield 36, 3) := by decide +kernel
theorem dX4_votes_30 : decode cX4_votes 30 = .ok (.invokevirtual 136, 3) := by decide +kernel
theorem dX4_votes_33 : decode cX4_votes 33 = .ok (.aload_n 0, 1) := by decide +kernel
theorem dX4_votes_34 : decode cX4_votes 34 = .ok (.getfield 36, 3) := by decide +kernel
theorem dX4_votes_37 : decode cX4_votes 37 = .ok (.aload_n 0, 1) := by decide +kernel
theorem dX4_votes_38 : decode cX4_votes 38 = .ok (.getfield 27, 3) := by decide +kernel
theorem dX4_votes_41 : decode cX4_votes 41 = .ok (.getfield 97, 3) := by decide +kernel
theorem dX4_votes_44 : decode cX4_votes 44 = .ok (.iload_n 1, 1) := by decide +kernel
theorem dX4_votes_45 : decode cX4_votes 45 = .ok (.iaload, 1) := by decide +kernel
theorem dX4_votes_46 : decode cX4_votes 46 = .ok (.iload_n 2, 1) := by decide +kernel
theorem dX4_votes_47 : decode cX4_votes 47 = .ok (.invokevirtual 139, 3) := by decide +kernel
theorem dX4_votes_50 : decode cX4_votes 50 = .ok (.ireturn, 1) := by decide +kernel
theorem dX4_most_0 : decode cX4_most 0 = .ok (.aload_n 0, 1) := by decide +kernel
theorem dX4_most_1 : decode cX4_most 1 = .ok (.iload_n 1, 1) := by decide +kernel
theorem dX4_most_2 : decode cX4_most 2 = .ok (.iconst 1, 1) := by decide +kernel
theorem dX4_most_3 : decode cX4_most 3 = .ok (.invokevirtual 142, 3) := by decide +kernel
theorem dX4_most_6 : decode cX4_most 6 = .ok (.ireturn, 1) := by decide +kernel
theorem dX4_delay_0 : decode cX4_delay 0 = .ok (.aload_n 0, 1) := by decide +kernel
theorem dX4_delay_1 : decode cX4_delay 1 = .ok (.iload_n 1, 1) := by decide +kernel
theorem dX4_delay_2 : decode cX4_delay 2 = .ok (.iconst (-1), 1) := by decide +kernel
theorem dX4_delay_3 : decode cX4_delay 3 = .ok (.invokevirtual 142, 3) := by decide +kernel
theorem dX4_delay_6 : decode cX4_delay 6 = .ok (.ireturn, 1) := by decide +kernel
theorem dX4_bribe_0 : decode cX4_bribe 0 = .ok (.aload_n 0, 1) := by decide +kernel
theorem dX4_bribe_1 : decode cX4_bribe 1 = .ok (.iconst 0, 1) := by decide +kernel
theorem dX4_bribe_2 : decode cX4_bribe 2 = .ok (.putfield 45, 3) := by decide +kernel
theorem dX4_bribe_5 : decode cX4_bribe 5 = .ok (.aload_n 0, 1) := by decide +kernel
theorem dX4_bribe_6 : decode cX4_bribe 6 = .ok (.getfield 27, 3) := by decide +kernel
theorem dX4_bribe_9 : decode cX4_bribe 9 = .ok (.iload_n 1, 1) := by decide +kernel
theorem dX4_bribe_10 : decode cX4_bribe 10 = .ok (.invokevirtual 94, 3) := by decide +kernel
theorem dX4_bribe_13 : decode cX4_bribe 13 = .ok (.ifCond .eq 10, 3) := by decide +kernel
theorem dX4_bribe_16 : decode cX4_bribe 16 = .ok (.iload_n 2, 1) := by decide +kernel
theorem dX4_bribe_17 : decode cX4_bribe 17 = .ok (.invokestatic 49, 3) := by decide +kernel
theorem dX4_bribe_20 : decode cX4_bribe 20 = .ok (.ifCond .ne 5, 3) := by decide +kernel
theorem dX4_bribe_23 : decode cX4_bribe 23 = .ok (.iconst (-1), 1) := by decide +kernel
theorem dX4_bribe_24 : decode cX4_bribe 24 = .ok (.ireturn, 1) := by decide +kernel
theorem dX4_bribe_25 : decode cX4_bribe 25 = .ok (.iload_n 3, 1) := by decide +kernel
theorem dX4_bribe_26 : decode cX4_bribe 26 = .ok (.invokestatic 53, 3) := by decide +kernel
theorem dX4_bribe_29 : decode cX4_bribe 29 = .ok (.ifCond .ne 6, 3) := by decide +kernel
theorem dX4_bribe_32 : decode cX4_bribe 32 = .ok (.bipush (-2), 2) := by decide +kernel
theorem dX4_bribe_34 : decode cX4_bribe 34 = .ok (.ireturn, 1) := by decide +kernel
theorem dX4_bribe_35 : decode cX4_bribe 35 = .ok (.aload_n 0, 1) := by decide +kernel
theorem dX4_bribe_36 : decode cX4_bribe 36 = .ok (.aload_n 0, 1) := by decide +kernel
theorem dX4_bribe_37 : decode cX4_bribe 37 = .ok (.getfield 13, 3) := by decide +kernel
theorem dX4_bribe_40 : decode cX4_bribe 40 = .ok (.iload_n 2, 1) := by decide +kernel
theorem dX4_bribe_41 : decode cX4_bribe 41 = .ok (.aaload, 1) := by decide +kernel
theorem dX4_bribe_42 : decode cX4_bribe 42 = .ok (.iload_n 3, 1) := by decide +kernel
theorem dX4_bribe_43 : decode cX4_bribe 43 = .ok (.iload 4, 2) := by decide +kernel
theorem dX4_bribe_45 : decode cX4_bribe 45 = .ok (.iload 5, 2) := by decide +kernel
theorem dX4_bribe_47 : decode cX4_bribe 47 = .ok (.invokevirtual 120, 3) := by decide +kernel
theorem dX4_bribe_50 : decode cX4_bribe 50 = .ok (.istore 6, 2) := by decide +kernel
theorem dX4_bribe_52 : decode cX4_bribe 52 = .ok (.iload 6, 2) := by decide +kernel
theorem dX4_bribe_54 : decode cX4_bribe 54 = .ok (.ifCond .eq 8, 3) := by decide +kernel
theorem dX4_bribe_57 : decode cX4_bribe 57 = .ok (.iload 6, 2) := by decide +kernel
theorem dX4_bribe_59 : decode cX4_bribe 59 = .ok (.goto 8, 3) := by decide +kernel
theorem dX4_bribe_62 : decode cX4_bribe 62 = .ok (.aload_n 0, 1) := by decide +kernel
theorem dX4_bribe_63 : decode cX4_bribe 63 = .ok (.iload_n 1, 1) := by decide +kernel
theorem dX4_bribe_64 : decode cX4_bribe 64 = .ok (.invokevirtual 145, 3) := by decide +kernel
theorem dX4_bribe_67 : decode cX4_bribe 67 = .ok (.ireturn, 1) := by decide +kernel
theorem dX4_strikes_0 : decode cX4_strikes 0 = .ok (.iload_n 1, 1) := by decide +kernel
theorem dX4_strikes_1 : decode cX4_strikes 1 = .ok (.ifCond .lt 8, 3) := by decide +kernel
theorem dX4_strikes_4 : decode cX4_strikes 4 = .ok (.iload_n 1, 1) := by decide +kernel
theorem dX4_strikes_5 : decode cX4_strikes 5 = .ok (.iconst 1, 1) := by decide +kernel
theorem dX4_strikes_6 : decode cX4_strikes 6 = .ok (.if_icmp .le 6, 3) := by decide +kernel
theorem dX4_strikes_9 : decode cX4_strikes 9 = .ok (.bipush (-2), 2) := by decide +kernel
theorem dX4_strikes_11 : decode cX4_strikes 11 = .ok (.ireturn, 1) := by decide +kernel
theorem dX4_strikes_12 : decode cX4_strikes 12 = .ok (.aload_n 0, 1) := by decide +kernel
theorem dX4_strikes_13 : decode cX4_strikes 13 = .ok (.getfield 27, 3) := by decide +kernel
theorem dX4_strikes_16 : decode cX4_strikes 16 = .ok (.invokevirtual 106, 3) := by decide +kernel
theorem dX4_strikes_19 : decode cX4_strikes 19 = .ok (.ifCond .ne 6, 3) := by decide +kernel
theorem dX4_strikes_22 : decode cX4_strikes 22 = .ok (.bipush (-3), 2) := by decide +kernel
theorem dX4_strikes_24 : decode cX4_strikes 24 = .ok (.ireturn, 1) := by decide +kernel
theorem dX4_strikes_25 : decode cX4_strikes 25 = .ok (.aload_n 0, 1) := by decide +kernel
theorem dX4_strikes_26 : decode cX4_strikes 26 = .ok (.invokevirtual 148, 3) := by decide +kernel
theorem dX4_strikes_29 : decode cX4_strikes 29 = .ok (.bipush (-9), 2) := by decide +kernel
theorem dX4_strikes_31 : decode cX4_strikes 31 = .ok (.istore_n 2, 1) := by decide +kernel
theorem dX4_strikes_32 : decode cX4_strikes 32 = .ok (.iconst 0, 1) := by decide +kernel
theorem dX4_strikes_33 : decode cX4_strikes 33 = .ok (.istore_n 3, 1) := by decide +kernel
theorem dX4_strikes_34 : decode cX4_strikes 34 = .ok (.iconst 0, 1) := by decide +kernel
theorem dX4_strikes_35 : decode cX4_strikes 35 = .ok (.istore 4, 2) := by decide +kernel
theorem dX4_strikes_37 : decode cX4_strikes 37 = .ok (.iload 4, 2) := by decide +kernel
theorem dX4_strikes_39 : decode cX4_strikes 39 = .ok (.aload_n 0, 1) := by decide +kernel
theorem dX4_strikes_40 : decode cX4_strikes 40 = .ok (.getfield 27, 3) := by decide +kernel
theorem dX4_strikes_43 : decode cX4_strikes 43 = .ok (.getfield 151, 3) := by decide +kernel
theorem dX4_strikes_46 : decode cX4_strikes 46 = .ok (.if_icmp .ge 61, 3) := by decide +kernel
theorem dX4_strikes_49 : decode cX4_strikes 49 = .ok (.aload_n 0, 1) := by decide +kernel
theorem dX4_strikes_50 : decode cX4_strikes 50 = .ok (.getfield 27, 3) := by decide +kernel
theorem dX4_strikes_53 : decode cX4_strikes 53 = .ok (.getfield 91, 3) := by decide +kernel
theorem dX4_strikes_56 : decode cX4_strikes 56 = .ok (.iload 4, 2) := by decide +kernel
theorem dX4_strikes_58 : decode cX4_strikes 58 = .ok (.invokestatic 87, 3) := by decide +kernel
theorem dX4_strikes_61 : decode cX4_strikes 61 = .ok (.ifCond .ne 40, 3) := by decide +kernel
theorem dX4_strikes_64 : decode cX4_strikes 64 = .ok (.aload_n 0, 1) := by decide +kernel
theorem dX4_strikes_65 : decode cX4_strikes 65 = .ok (.aload_n 0, 1) := by decide +kernel
theorem dX4_strikes_66 : decode cX4_strikes 66 = .ok (.getfield 27, 3) := by decide +kernel
theorem dX4_strikes_69 : decode cX4_strikes 69 = .ok (.getfield 91, 3) := by decide +kernel
theorem dX4_strikes_72 : decode cX4_strikes 72 = .ok (.iload 4, 2) := by decide +kernel
theorem dX4_strikes_74 : decode cX4_strikes 74 = .ok (.iconst 1, 1) := by decide +kernel
theorem dX4_strikes_75 : decode cX4_strikes 75 = .ok (.invokestatic 113, 3) := by decide +kernel
theorem dX4_strikes_78 : decode cX4_strikes 78 = .ok (.invokevirtual 154, 3) := by decide +kernel
theorem dX4_strikes_81 : decode cX4_strikes 81 = .ok (.istore 5, 2) := by decide +kernel
theorem dX4_strikes_83 : decode cX4_strikes 83 = .ok (.iload_n 2, 1) := by decide +kernel
theorem dX4_strikes_84 : decode cX4_strikes 84 = .ok (.bipush (-9), 2) := by decide +kernel
theorem dX4_strikes_86 : decode cX4_strikes 86 = .ok (.if_icmp .eq 9, 3) := by decide +kernel
theorem dX4_strikes_89 : decode cX4_strikes 89 = .ok (.iload 5, 2) := by decide +kernel
theorem dX4_strikes_91 : decode cX4_strikes 91 = .ok (.iload_n 3, 1) := by decide +kernel
theorem dX4_strikes_92 : decode cX4_strikes 92 = .ok (.if_icmp .ge 9, 3) := by decide +kernel
theorem dX4_strikes_95 : decode cX4_strikes 95 = .ok (.iload 4, 2) := by decide +kernel
theorem dX4_strikes_97 : decode cX4_strikes 97 = .ok (.istore_n 2, 1) := by decide +kernel
theorem dX4_strikes_98 : decode cX4_strikes 98 = .ok (.iload 5, 2) := by decide +kernel
theorem dX4_strikes_100 : decode cX4_strikes 100 = .ok (.istore_n 3, 1) := by decide +kernel
theorem dX4_strikes_101 : decode cX4_strikes 101 = .ok (.iinc 4 1, 3) := by decide +kernel
theorem dX4_strikes_104 : decode cX4_strikes 104 = .ok (.goto (-67), 3) := by decide +kernel
theorem dX4_strikes_107 : decode cX4_strikes 107 = .ok (.iload_n 1, 1) := by decide +kernel
theorem dX4_strikes_108 : decode cX4_strikes 108 = .ok (.iconst 1, 1) := by decide +kernel
theorem dX4_strikes_109 : decode cX4_strikes 109 = .ok (.if_icmp .ne 5, 3) := by decide +kernel
theorem dX4_strikes_112 : decode cX4_strikes 112 = .ok (.iload_n 2, 1) := by decide +kernel
theorem dX4_strikes_113 : decode cX4_strikes 113 = .ok (.ireturn, 1) := by decide +kernel
theorem dX4_strikes_114 : decode cX4_strikes 114 = .ok (.iload_n 2, 1) := by decide +kernel
theorem dX4_strikes_115 : decode cX4_strikes 115 = .ok (.bipush (-9), 2) := by decide +kernel
theorem dX4_strikes_117 : decode cX4_strikes 117 = .ok (.if_icmp .ne 17, 3) := by decide +kernel
theorem dX4_strikes_120 : decode cX4_strikes 120 = .ok (.aload_n 0, 1) := by decide +kernel
theorem dX4_strikes_121 : decode cX4_strikes 121 = .ok (.aload_n 0, 1) := by decide +kernel
theorem dX4_strikes_122 : decode cX4_strikes 122 = .ok (.getfield 27, 3) := by decide +kernel
theorem dX4_strikes_125 : decode cX4_strikes 125 = .ok (.getfield 91, 3) := by decide +kernel
theorem dX4_strikes_128 : decode cX4_strikes 128 = .ok (.invokevirtual 157, 3) := by decide +kernel
theorem dX4_strikes_131 : decode cX4_strikes 131 = .ok (.goto 4, 3) := by decide +kernel
theorem dX4_strikes_134 : decode cX4_strikes 134 = .ok (.iload_n 3, 1) := by decide +kernel
theorem dX4_strikes_135 : decode cX4_strikes 135 = .ok (.ireturn, 1) := by decide +kernel
theorem dX4_worth_0 : decode cX4_worth 0 = .ok (.aload_n 0, 1) := by decide +kernel
theorem dX4_worth_1 : decode cX4_worth 1 = .ok (.getfield 27, 3) := by decide +kernel
theorem dX4_worth_4 : decode cX4_worth 4 = .ok (.iload_n 1, 1) := by decide +kernel
theorem dX4_worth_5 : decode cX4_worth 5 = .ok (.invokevirtual 75, 3) := by decide +kernel
theorem dX4_worth_8 : decode cX4_worth 8 = .ok (.ifCond .ne 5, 3) := by decide +kernel
theorem dX4_worth_11 : decode cX4_worth 11 = .ok (.iconst (-1), 1) := by decide +kernel
theorem dX4_worth_12 : decode cX4_worth 12 = .ok (.ireturn, 1) := by decide +kernel
theorem dX4_worth_13 : decode cX4_worth 13 = .ok (.aload_n 0, 1) := by decide +kernel
theorem dX4_worth_14 : decode cX4_worth 14 = .ok (.invokevirtual 148, 3) := by decide +kernel
theorem dX4_worth_17 : decode cX4_worth 17 = .ok (.aload_n 0, 1) := by decide +kernel
theorem dX4_worth_18 : decode cX4_worth 18 = .ok (.aload_n 0, 1) := by decide +kernel
theorem dX4_worth_19 : decode cX4_worth 19 = .ok (.getfield 27, 3) := by decide +kernel
theorem dX4_worth_22 : decode cX4_worth 22 = .ok (.getfield 91, 3) := by decide +kernel
theorem dX4_worth_25 : decode cX4_worth 25 = .ok (.invokevirtual 157, 3) := by decide +kernel
theorem dX4_worth_28 : decode cX4_worth 28 = .ok (.istore_n 2, 1) := by decide +kernel
theorem dX4_worth_29 : decode cX4_worth 29 = .ok (.aload_n 0, 1) := by decide +kernel
theorem dX4_worth_30 : decode cX4_worth 30 = .ok (.aload_n 0, 1) := by decide +kernel
theorem dX4_worth_31 : decode cX4_worth 31 = .ok (.getfield 27, 3) := by decide +kernel
theorem dX4_worth_34 : decode cX4_worth 34 = .ok (.getfield 91, 3) := by decide +kernel
theorem dX4_worth_37 : decode cX4_worth 37 = .ok (.iload_n 1, 1) := by decide +kernel
theorem dX4_worth_38 : decode cX4_worth 38 = .ok (.iconst 1, 1) := by decide +kernel
theorem dX4_worth_39 : decode cX4_worth 39 = .ok (.invokestatic 113, 3) := by decide +kernel
theorem dX4_worth_42 : decode cX4_worth 42 = .ok (.invokevirtual 157, 3) := by decide +kernel
theorem dX4_worth_45 : decode cX4_worth 45 = .ok (.istore_n 3, 1) := by decide +kernel
theorem dX4_worth_46 : decode cX4_worth 46 = .ok (.iload_n 2, 1) := by decide +kernel
theorem dX4_worth_47 : decode cX4_worth 47 = .ok (.iload_n 3, 1) := by decide +kernel
theorem dX4_worth_48 : decode cX4_worth 48 = .ok (.isub, 1) := by decide +kernel
theorem dX4_worth_49 : decode cX4_worth 49 = .ok (.bipush 100, 2) := by decide +kernel
theorem dX4_worth_51 : decode cX4_worth 51 = .ok (.iadd, 1) := by decide +kernel
theorem dX4_worth_52 : decode cX4_worth 52 = .ok (.ireturn, 1) := by decide +kernel
theorem dX4_reading_0 : decode cX4_reading 0 = .ok (.aload_n 0, 1) := by decide +kernel
theorem dX4_reading_1 : decode cX4_reading 1 = .ok (.getfield 27, 3) := by decide +kernel
theorem dX4_reading_4 : decode cX4_reading 4 = .ok (.iload_n 1, 1) := by decide +kernel
theorem dX4_reading_5 : decode cX4_reading 5 = .ok (.invokevirtual 94, 3) := by decide +kernel
theorem dX4_reading_8 : decode cX4_reading 8 = .ok (.ifCond .ne 5, 3) := by decide +kernel
theorem dX4_reading_11 : decode cX4_reading 11 = .ok (.iconst (-1), 1) := by decide +kernel
theorem dX4_reading_12 : decode cX4_reading 12 = .ok (.ireturn, 1) := by decide +kernel
theorem dX4_reading_13 : decode cX4_reading 13 = .ok (.iload_n 2, 1) := by decide +kernel
theorem dX4_reading_14 : decode cX4_reading 14 = .ok (.ifCond .lt 8, 3) := by decide +kernel
theorem dX4_reading_17 : decode cX4_reading 17 = .ok (.iload_n 2, 1) := by decide +kernel
theorem dX4_reading_18 : decode cX4_reading 18 = .ok (.iconst 2, 1) := by decide +kernel
theorem dX4_reading_19 : decode cX4_reading 19 = .ok (.if_icmp .le 6, 3) := by decide +kernel
theorem dX4_reading_22 : decode cX4_reading 22 = .ok (.bipush (-2), 2) := by decide +kernel
theorem dX4_reading_24 : decode cX4_reading 24 = .ok (.ireturn, 1) := by decide +kernel
theorem dX4_reading_25 : decode cX4_reading 25 = .ok (.aload_n 0, 1) := by decide +kernel
theorem dX4_reading_26 : decode cX4_reading 26 = .ok (.getfield 27, 3) := by decide +kernel
theorem dX4_reading_29 : decode cX4_reading 29 = .ok (.getfield 160, 3) := by decide +kernel
theorem dX4_reading_32 : decode cX4_reading 32 = .ok (.bipush 8, 2) := by decide +kernel
theorem dX4_reading_34 : decode cX4_reading 34 = .ok (.if_icmp .lt 6, 3) := by decide +kernel
theorem dX4_reading_37 : decode cX4_reading 37 = .ok (.bipush (-4), 2) := by decide +kernel
theorem dX4_reading_39 : decode cX4_reading 39 = .ok (.ireturn, 1) := by decide +kernel
theorem dX4_reading_40 : decode cX4_reading 40 = .ok (.aload_n 0, 1) := by decide +kernel
theorem dX4_reading_41 : decode cX4_reading 41 = .ok (.getfield 27, 3) := by decide +kernel
theorem dX4_reading_44 : decode cX4_reading 44 = .ok (.getfield 160, 3) := by decide +kernel
theorem dX4_reading_47 : decode cX4_reading 47 = .ok (.istore_n 3, 1) := by decide +kernel
theorem dX4_reading_48 : decode cX4_reading 48 = .ok (.aload_n 0, 1) := by decide +kernel
theorem dX4_reading_49 : decode cX4_reading 49 = .ok (.getfield 27, 3) := by decide +kernel
theorem dX4_reading_52 : decode cX4_reading 52 = .ok (.getfield 163, 3) := by decide +kernel
theorem dX4_reading_55 : decode cX4_reading 55 = .ok (.iload_n 3, 1) := by decide +kernel
theorem dX4_reading_56 : decode cX4_reading 56 = .ok (.iload_n 1, 1) := by decide +kernel
theorem dX4_reading_57 : decode cX4_reading 57 = .ok (.iastore, 1) := by decide +kernel
theorem dX4_reading_58 : decode cX4_reading 58 = .ok (.aload_n 0, 1) := by decide +kernel
theorem dX4_reading_59 : decode cX4_reading 59 = .ok (.getfield 27, 3) := by decide +kernel
theorem dX4_reading_62 : decode cX4_reading 62 = .ok (.getfield 166, 3) := by decide +kernel
theorem dX4_reading_65 : decode cX4_reading 65 = .ok (.iload_n 3, 1) := by decide +kernel
theorem dX4_reading_66 : decode cX4_reading 66 = .ok (.iload_n 2, 1) := by decide +kernel
theorem dX4_reading_67 : decode cX4_reading 67 = .ok (.iastore, 1) := by decide +kernel
theorem dX4_reading_68 : decode cX4_reading 68 = .ok (.aload_n 0, 1) := by decide +kernel
theorem dX4_reading_69 : decode cX4_reading 69 = .ok (.getfield 27, 3) := by decide +kernel
theorem dX4_reading_72 : decode cX4_reading 72 = .ok (.iload_n 3, 1) := by decide +kernel
theorem dX4_reading_73 : decode cX4_reading 73 = .ok (.iconst 1, 1) := by decide +kernel
theorem dX4_reading_74 : decode cX4_reading 74 = .ok (.iadd, 1) := by decide +kernel
theorem dX4_reading_75 : decode cX4_reading 75 = .ok (.putfield 160, 3) := by decide +kernel
theorem dX4_reading_78 : decode cX4_reading 78 = .ok (.iload_n 3, 1) := by decide +kernel
theorem dX4_reading_79 : decode cX4_reading 79 = .ok (.ireturn, 1) := by decide +kernel
theorem dX4_back_0 : decode cX4_back 0 = .ok (.iload_n 1, 1) := by decide +kernel
theorem dX4_back_1 : decode cX4_back 1 = .ok (.ifCond .lt 14, 3) := by decide +kernel
theorem dX4_back_4 : decode cX4_back 4 = .ok (.iload_n 1, 1) := by decide +kernel
theorem dX4_back_5 : decode cX4_back 5 = .ok (.aload_n 0, 1) := by decide +kernel
theorem dX4_back_6 : decode cX4_back 6 = .ok (.getfield 27, 3) := by decide +kernel
theorem dX4_back_9 : decode cX4_back 9 = .ok (.getfield 160, 3) := by decide +kernel
theorem dX4_back_12 : decode cX4_back 12 = .ok (.if_icmp .le 6, 3) := by decide +kernel
theorem dX4_back_15 : decode cX4_back 15 = .ok (.bipush (-2), 2) := by decide +kernel
theorem dX4_back_17 : decode cX4_back 17 = .ok (.ireturn, 1) := by decide +kernel
theorem dX4_back_18 : decode cX4_back 18 = .ok (.aload_n 0, 1) := by decide +kernel
theorem dX4_back_19 : decode cX4_back 19 = .ok (.getfield 27, 3) := by decide +kernel
theorem dX4_back_22 : decode cX4_back 22 = .ok (.dup, 1) := by decide +kernel
theorem dX4_back_23 : decode cX4_back 23 = .ok (.getfield 160, 3) := by decide +kernel
theorem dX4_back_26 : decode cX4_back 26 = .ok (.iload_n 1, 1) := by decide +kernel
theorem dX4_back_27 : decode cX4_back 27 = .ok (.isub, 1) := by decide +kernel
theorem dX4_back_28 : decode cX4_back 28 = .ok (.putfield 160, 3) := by decide +kernel
theorem dX4_back_31 : decode cX4_back 31 = .ok (.aload_n 0, 1) := by decide +kernel
theorem dX4_back_32 : decode cX4_back 32 = .ok (.getfield 27, 3) := by decide +kernel
theorem dX4_back_35 : decode cX4_back 35 = .ok (.getfield 160, 3) := by decide +kernel
theorem dX4_back_38 : decode cX4_back 38 = .ok (.ireturn, 1) := by decide +kernel
theorem dX4_codes_0 : decode cX4_codes 0 = .ok (.iload_n 1, 1) := by decide +kernel
theorem dX4_codes_1 : decode cX4_codes 1 = .ok (.ifCond .lt 8, 3) := by decide +kernel
theorem dX4_codes_4 : decode cX4_codes 4 = .ok (.iload_n 1, 1) := by decide +kernel
theorem dX4_codes_5 : decode cX4_codes 5 = .ok (.iconst 2, 1) := by decide +kernel
theorem dX4_codes_6 : decode cX4_codes 6 = .ok (.if_icmp .le 6, 3) := by decide +kernel
theorem dX4_codes_9 : decode cX4_codes 9 = .ok (.bipush (-2), 2) := by decide +kernel
theorem dX4_codes_11 : decode cX4_codes 11 = .ok (.ireturn, 1) := by decide +kernel
theorem dX4_codes_12 : decode cX4_codes 12 = .ok (.aload_n 0, 1) := by decide +kernel
theorem dX4_codes_13 : decode cX4_codes 13 = .ok (.getfield 27, 3) := by decide +kernel
theorem dX4_codes_16 : decode cX4_codes 16 = .ok (.invokevirtual 106, 3) := by decide +kernel
theorem dX4_codes_19 : decode cX4_codes 19 = .ok (.ifCond .ne 6, 3) := by decide +kernel
theorem dX4_codes_22 : decode cX4_codes 22 = .ok (.bipush (-3), 2) := by decide +kernel
theorem dX4_codes_24 : decode cX4_codes 24 = .ok (.ireturn, 1) := by decide +kernel
theorem dX4_codes_25 : decode cX4_codes 25 = .ok (.aload_n 0, 1) := by decide +kernel
theorem dX4_codes_26 : decode cX4_codes 26 = .ok (.invokevirtual 148, 3) := by decide +kernel
theorem dX4_codes_29 : decode cX4_codes 29 = .ok (.iconst 0, 1) := by decide +kernel
theorem dX4_codes_30 : decode cX4_codes 30 = .ok (.istore_n 2, 1) := by decide +kernel
theorem dX4_codes_31 : decode cX4_codes 31 = .ok (.bipush (-9), 2) := by decide +kernel
theorem dX4_codes_33 : decode cX4_codes 33 = .ok (.istore_n 3, 1) := by decide +kernel
theorem dX4_codes_34 : decode cX4_codes 34 = .ok (.bipush (-9), 2) := by decide +kernel
theorem dX4_codes_36 : decode cX4_codes 36 = .ok (.istore 4, 2) := by decide +kernel
theorem dX4_codes_38 : decode cX4_codes 38 = .ok (.iconst 0, 1) := by decide +kernel
theorem dX4_codes_39 : decode cX4_codes 39 = .ok (.istore 5, 2) := by decide +kernel
theorem dX4_codes_41 : decode cX4_codes 41 = .ok (.iload 5, 2) := by decide +kernel
theorem dX4_codes_43 : decode cX4_codes 43 = .ok (.bipush 64, 2) := by decide +kernel
theorem dX4_codes_45 : decode cX4_codes 45 = .ok (.if_icmp .ge 67, 3) := by decide +kernel
theorem dX4_codes_48 : decode cX4_codes 48 = .ok (.aload_n 0, 1) := by decide +kernel
theorem dX4_codes_49 : decode cX4_codes 49 = .ok (.getfield 36, 3) := by decide +kernel
theorem dX4_codes_52 : decode cX4_codes 52 = .ok (.iload 5, 2) := by decide +kernel
theorem dX4_codes_54 : decode cX4_codes 54 = .ok (.putfield 169, 3) := by decide +kernel
theorem dX4_codes_57 : decode cX4_codes 57 = .ok (.aload_n 0, 1) := by decide +kernel
theorem dX4_codes_58 : decode cX4_codes 58 = .ok (.invokevirtual 170, 3) := by decide +kernel
theorem dX4_codes_61 : decode cX4_codes 61 = .ok (.ifCond .eq 45, 3) := by decide +kernel
theorem dX4_codes_64 : decode cX4_codes 64 = .ok (.iinc 2 1, 3) := by decide +kernel
theorem dX4_codes_67 : decode cX4_codes 67 = .ok (.iload_n 3, 1) := by decide +kernel
theorem dX4_codes_68 : decode cX4_codes 68 = .ok (.bipush (-9), 2) := by decide +kernel
theorem dX4_codes_70 : decode cX4_codes 70 = .ok (.if_icmp .ne 8, 3) := by decide +kernel
theorem dX4_codes_73 : decode cX4_codes 73 = .ok (.iload 5, 2) := by decide +kernel
theorem dX4_codes_75 : decode cX4_codes 75 = .ok (.goto 4, 3) := by decide +kernel
theorem dX4_codes_78 : decode cX4_codes 78 = .ok (.iload_n 3, 1) := by decide +kernel
theorem dX4_codes_79 : decode cX4_codes 79 = .ok (.istore_n 3, 1) := by decide +kernel
theorem dX4_codes_80 : decode cX4_codes 80 = .ok (.iload 4, 2) := by decide +kernel
theorem dX4_codes_82 : decode cX4_codes 82 = .ok (.bipush (-9), 2) := by decide +kernel
theorem dX4_codes_84 : decode cX4_codes 84 = .ok (.if_icmp .eq 13, 3) := by decide +kernel
theorem dX4_codes_87 : decode cX4_codes 87 = .ok (.iload 5, 2) := by decide +kernel
theorem dX4_codes_89 : decode cX4_codes 89 = .ok (.iload 4, 2) := by decide +kernel
theorem dX4_codes_91 : decode cX4_codes 91 = .ok (.invokestatic 173, 3) := by decide +kernel
theorem dX4_codes_94 : decode cX4_codes 94 = .ok (.ifCond .eq 8, 3) := by decide +kernel
theorem dX4_codes_97 : decode cX4_codes 97 = .ok (.iload 5, 2) := by decide +kernel
theorem dX4_codes_99 : decode cX4_codes 99 = .ok (.goto 5, 3) := by decide +kernel
theorem dX4_codes_102 : decode cX4_codes 102 = .ok (.iload 4, 2) := by decide +kernel
theorem dX4_codes_104 : decode cX4_codes 104 = .ok (.istore 4, 2) := by decide +kernel
theorem dX4_codes_106 : decode cX4_codes 106 = .ok (.iinc 5 1, 3) := by decide +kernel
theorem dX4_codes_109 : decode cX4_codes 109 = .ok (.goto (-68), 3) := by decide +kernel
theorem dX4_codes_112 : decode cX4_codes 112 = .ok (.iload_n 1, 1) := by decide +kernel
theorem dX4_codes_113 : decode cX4_codes 113 = .ok (.ifCond .ne 5, 3) := by decide +kernel
theorem dX4_codes_116 : decode cX4_codes 116 = .ok (.iload_n 2, 1) := by decide +kernel
theorem dX4_codes_117 : decode cX4_codes 117 = .ok (.ireturn, 1) := by decide +kernel
theorem dX4_codes_118 : decode cX4_codes 118 = .ok (.iload_n 1, 1) := by decide +kernel
theorem dX4_codes_119 : decode cX4_codes 119 = .ok (.iconst 1, 1) := by decide +kernel
theorem dX4_codes_120 : decode cX4_codes 120 = .ok (.if_icmp .ne 7, 3) := by decide +kernel
theorem dX4_codes_123 : decode cX4_codes 123 = .ok (.iload_n 3, 1) := by decide +kernel
theorem dX4_codes_124 : decode cX4_codes 124 = .ok (.goto 5, 3) := by decide +kernel
theorem dX4_codes_127 : decode cX4_codes 127 = .ok (.iload 4, 2) := by decide +kernel
theorem dX4_codes_129 : decode cX4_codes 129 = .ok (.ireturn, 1) := by decide +kernel
theorem dX4_kinds_0 : decode cX4_kinds 0 = .ok (.aload_n 0, 1) := by decide +kernel
theorem dX4_kinds_1 : decode cX4_kinds 1 = .ok (.getfield 27, 3) := by decide +kernel
theorem dX4_kinds_4 : decode cX4_kinds 4 = .ok (.iload_n 1, 1) := by decide +kernel
theorem dX4_kinds_5 : decode cX4_kinds 5 = .ok (.invokevirtual 75, 3) := by decide +kernel
theorem dX4_kinds_8 : decode cX4_kinds 8 = .ok (.ifCond .ne 5, 3) := by decide +kernel
theorem dX4_kinds_11 : decode cX4_kinds 11 = .ok (.iconst (-1), 1) := by decide +kernel
theorem dX4_kinds_12 : decode cX4_kinds 12 = .ok (.ireturn, 1) := by decide +kernel
theorem dX4_kinds_13 : decode cX4_kinds 13 = .ok (.aload_n 0, 1) := by decide +kernel
theorem dX4_kinds_14 : decode cX4_kinds 14 = .ok (.invokevirtual 148, 3) := by decide +kernel
theorem dX4_kinds_17 : decode cX4_kinds 17 = .ok (.iconst 0, 1) := by decide +kernel
theorem dX4_kinds_18 : decode cX4_kinds 18 = .ok (.istore_n 2, 1) := by decide +kernel
theorem dX4_kinds_19 : decode cX4_kinds 19 = .ok (.iconst 0, 1) := by decide +kernel
theorem dX4_kinds_20 : decode cX4_kinds 20 = .ok (.istore_n 3, 1) := by decide +kernel
theorem dX4_kinds_21 : decode cX4_kinds 21 = .ok (.iload_n 3, 1) := by decide +kernel
theorem dX4_kinds_22 : decode cX4_kinds 22 = .ok (.iconst 3, 1) := by decide +kernel
theorem dX4_kinds_23 : decode cX4_kinds 23 = .ok (.if_icmp .ge 29, 3) := by decide +kernel
theorem dX4_kinds_26 : decode cX4_kinds 26 = .ok (.aload_n 0, 1) := by decide +kernel
theorem dX4_kinds_27 : decode cX4_kinds 27 = .ok (.getfield 36, 3) := by decide +kernel
theorem dX4_kinds_30 : decode cX4_kinds 30 = .ok (.getfield 177, 3) := by decide +kernel
theorem dX4_kinds_33 : decode cX4_kinds 33 = .ok (.iload_n 1, 1) := by decide +kernel
theorem dX4_kinds_34 : decode cX4_kinds 34 = .ok (.iload_n 3, 1) := by decide +kernel
theorem dX4_kinds_35 : decode cX4_kinds 35 = .ok (.iastore, 1) := by decide +kernel
theorem dX4_kinds_36 : decode cX4_kinds 36 = .ok (.iload_n 2, 1) := by decide +kernel
theorem dX4_kinds_37 : decode cX4_kinds 37 = .ok (.iload_n 3, 1) := by decide +kernel
theorem dX4_kinds_38 : decode cX4_kinds 38 = .ok (.aload_n 0, 1) := by decide +kernel
theorem dX4_kinds_39 : decode cX4_kinds 39 = .ok (.invokevirtual 170, 3) := by decide +kernel
theorem dX4_kinds_42 : decode cX4_kinds 42 = .ok (.invokestatic 113, 3) := by decide +kernel
theorem dX4_kinds_45 : decode cX4_kinds 45 = .ok (.istore_n 2, 1) := by decide +kernel
theorem dX4_kinds_46 : decode cX4_kinds 46 = .ok (.iinc 3 1, 3) := by decide +kernel
theorem dX4_kinds_49 : decode cX4_kinds 49 = .ok (.goto (-28), 3) := by decide +kernel
theorem dX4_kinds_52 : decode cX4_kinds 52 = .ok (.iload_n 2, 1) := by decide +kernel
theorem dX4_kinds_53 : decode cX4_kinds 53 = .ok (.ireturn, 1) := by decide +kernel
theorem dX4_treated_0 : decode cX4_treated 0 = .ok (.aload_n 0, 1) := by decide +kernel
theorem dX4_treated_1 : decode cX4_treated 1 = .ok (.getfield 27, 3) := by decide +kernel
theorem dX4_treated_4 : decode cX4_treated 4 = .ok (.invokevirtual 106, 3) := by decide +kernel
theorem dX4_treated_7 : decode cX4_treated 7 = .ok (.ifCond .ne 6, 3) := by decide +kernel
theorem dX4_treated_10 : decode cX4_treated 10 = .ok (.bipush (-3), 2) := by decide +kernel
theorem dX4_treated_12 : decode cX4_treated 12 = .ok (.ireturn, 1) := by decide +kernel
theorem dX4_treated_13 : decode cX4_treated 13 = .ok (.aload_n 0, 1) := by decide +kernel
theorem dX4_treated_14 : decode cX4_treated 14 = .ok (.invokevirtual 148, 3) := by decide +kernel
theorem dX4_treated_17 : decode cX4_treated 17 = .ok (.iconst 0, 1) := by decide +kernel
theorem dX4_treated_18 : decode cX4_treated 18 = .ok (.istore_n 1, 1) := by decide +kernel
theorem dX4_treated_19 : decode cX4_treated 19 = .ok (.iconst 0, 1) := by decide +kernel
theorem dX4_treated_20 : decode cX4_treated 20 = .ok (.istore_n 2, 1) := by decide +kernel
theorem dX4_treated_21 : decode cX4_treated 21 = .ok (.iload_n 2, 1) := by decide +kernel
theorem dX4_treated_22 : decode cX4_treated 22 = .ok (.aload_n 0, 1) := by decide +kernel
theorem dX4_treated_23 : decode cX4_treated 23 = .ok (.getfield 27, 3) := by decide +kernel
theorem dX4_treated_26 : decode cX4_treated 26 = .ok (.getfield 151, 3) := by decide +kernel
theorem dX4_treated_29 : decode cX4_treated 29 = .ok (.if_icmp .ge 38, 3) := by decide +kernel
theorem dX4_treated_32 : decode cX4_treated 32 = .ok (.aload_n 0, 1) := by decide +kernel
theorem dX4_treated_33 : decode cX4_treated 33 = .ok (.getfield 36, 3) := by decide +kernel
theorem dX4_treated_36 : decode cX4_treated 36 = .ok (.aload_n 0, 1) := by decide +kernel
theorem dX4_treated_37 : decode cX4_treated 37 = .ok (.getfield 27, 3) := by decide +kernel
theorem dX4_treated_40 : decode cX4_treated 40 = .ok (.getfield 84, 3) := by decide +kernel
theorem dX4_treated_43 : decode cX4_treated 43 = .ok (.iload_n 2, 1) := by decide +kernel
theorem dX4_treated_44 : decode cX4_treated 44 = .ok (.iconst 1, 1) := by decide +kernel
theorem dX4_treated_45 : decode cX4_treated 45 = .ok (.invokestatic 113, 3) := by decide +kernel
theorem dX4_treated_48 : decode cX4_treated 48 = .ok (.putfield 178, 3) := by decide +kernel
theorem dX4_treated_51 : decode cX4_treated 51 = .ok (.iload_n 1, 1) := by decide +kernel
theorem dX4_treated_52 : decode cX4_treated 52 = .ok (.iload_n 2, 1) := by decide +kernel
theorem dX4_treated_53 : decode cX4_treated 53 = .ok (.aload_n 0, 1) := by decide +kernel
theorem dX4_treated_54 : decode cX4_treated 54 = .ok (.invokevirtual 170, 3) := by decide +kernel
theorem dX4_treated_57 : decode cX4_treated 57 = .ok (.invokestatic 113, 3) := by decide +kernel
theorem dX4_treated_60 : decode cX4_treated 60 = .ok (.istore_n 1, 1) := by decide +kernel
theorem dX4_treated_61 : decode cX4_treated 61 = .ok (.iinc 2 1, 3) := by decide +kernel
theorem dX4_treated_64 : decode cX4_treated 64 = .ok (.goto (-43), 3) := by decide +kernel
theorem dX4_treated_67 : decode cX4_treated 67 = .ok (.iload_n 1, 1) := by decide +kernel
theorem dX4_treated_68 : decode cX4_treated 68 = .ok (.ireturn, 1) := by decide +kernel
theorem dX4_odds_0 : decode cX4_odds 0 = .ok (.aload_n 0, 1) := by decide +kernel
theorem dX4_odds_1 : decode cX4_odds 1 = .ok (.getfield 27, 3) := by decide +kernel
theorem dX4_odds_4 : decode cX4_odds 4 = .ok (.iload_n 1, 1) := by decide +kernel
theorem dX4_odds_5 : decode cX4_odds 5 = .ok (.invokevirtual 94, 3) := by decide +kernel
theorem dX4_odds_8 : decode cX4_odds 8 = .ok (.ifCond .eq 12, 3) := by decide +kernel
theorem dX4_odds_11 : decode cX4_odds 11 = .ok (.iload_n 2, 1) := by decide +kernel
theorem dX4_odds_12 : decode cX4_odds 12 = .ok (.ifCond .lt 8, 3) := by decide +kernel
theorem dX4_odds_15 : decode cX4_odds 15 = .ok (.iload_n 2, 1) := by decide +kernel
theorem dX4_odds_16 : decode cX4_odds 16 = .ok (.iconst 1, 1) := by decide +kernel
theorem dX4_odds_17 : decode cX4_odds 17 = .ok (.if_icmp .le 7, 3) := by decide +kernel
theorem dX4_odds_20 : decode cX4_odds 20 = .ok (.ldc2_w 179, 3) := by decide +kernel
theorem dX4_odds_23 : decode cX4_odds 23 = .ok (.lreturn, 1) := by decide +kernel
theorem dX4_odds_24 : decode cX4_odds 24 = .ok (.aload_n 0, 1) := by decide +kernel
theorem dX4_odds_25 : decode cX4_odds 25 = .ok (.invokevirtual 148, 3) := by decide +kernel
theorem dX4_odds_28 : decode cX4_odds 28 = .ok (.iconst 1, 1) := by decide +kernel
theorem dX4_odds_29 : decode cX4_odds 29 = .ok (.aload_n 0, 1) := by decide +kernel
theorem dX4_odds_30 : decode cX4_odds 30 = .ok (.getfield 27, 3) := by decide +kernel
theorem dX4_odds_33 : decode cX4_odds 33 = .ok (.getfield 151, 3) := by decide +kernel
theorem dX4_odds_36 : decode cX4_odds 36 = .ok (.ishl, 1) := by decide +kernel
theorem dX4_odds_37 : decode cX4_odds 37 = .ok (.istore_n 3, 1) := by decide +kernel
theorem dX4_odds_38 : decode cX4_odds 38 = .ok (.iconst 0, 1) := by decide +kernel
theorem dX4_odds_39 : decode cX4_odds 39 = .ok (.istore 4, 2) := by decide +kernel
theorem dX4_odds_41 : decode cX4_odds 41 = .ok (.iconst 0, 1) := by decide +kernel
theorem dX4_odds_42 : decode cX4_odds 42 = .ok (.istore 5, 2) := by decide +kernel
theorem dX4_odds_44 : decode cX4_odds 44 = .ok (.iload 5, 2) := by decide +kernel
theorem dX4_odds_46 : decode cX4_odds 46 = .ok (.iload_n 3, 1) := by decide +kernel
theorem dX4_odds_47 : decode cX4_odds 47 = .ok (.if_icmp .ge 48, 3) := by decide +kernel
theorem dX4_odds_50 : decode cX4_odds 50 = .ok (.aload_n 0, 1) := by decide +kernel
theorem dX4_odds_51 : decode cX4_odds 51 = .ok (.getfield 36, 3) := by decide +kernel
theorem dX4_odds_54 : decode cX4_odds 54 = .ok (.iload 5, 2) := by decide +kernel
theorem dX4_odds_56 : decode cX4_odds 56 = .ok (.putfield 181, 3) := by decide +kernel
theorem dX4_odds_59 : decode cX4_odds 59 = .ok (.aload_n 0, 1) := by decide +kernel
theorem dX4_odds_60 : decode cX4_odds 60 = .ok (.getfield 36, 3) := by decide +kernel
theorem dX4_odds_63 : decode cX4_odds 63 = .ok (.invokevirtual 124, 3) := by decide +kernel
theorem dX4_odds_66 : decode cX4_odds 66 = .ok (.iload 4, 2) := by decide +kernel
theorem dX4_odds_68 : decode cX4_odds 68 = .ok (.aload_n 0, 1) := by decide +kernel
theorem dX4_odds_69 : decode cX4_odds 69 = .ok (.getfield 36, 3) := by decide +kernel
theorem dX4_odds_72 : decode cX4_odds 72 = .ok (.getfield 127, 3) := by decide +kernel
theorem dX4_odds_75 : decode cX4_odds 75 = .ok (.iload_n 1, 1) := by decide +kernel
theorem dX4_odds_76 : decode cX4_odds 76 = .ok (.iaload, 1) := by decide +kernel
theorem dX4_odds_77 : decode cX4_odds 77 = .ok (.iconst 1, 1) := by decide +kernel
theorem dX4_odds_78 : decode cX4_odds 78 = .ok (.if_icmp .ne 7, 3) := by decide +kernel
theorem dX4_odds_81 : decode cX4_odds 81 = .ok (.iconst 1, 1) := by decide +kernel
theorem dX4_odds_82 : decode cX4_odds 82 = .ok (.goto 4, 3) := by decide +kernel
theorem dX4_odds_85 : decode cX4_odds 85 = .ok (.iconst 0, 1) := by decide +kernel
theorem dX4_odds_86 : decode cX4_odds 86 = .ok (.iadd, 1) := by decide +kernel
theorem dX4_odds_87 : decode cX4_odds 87 = .ok (.istore 4, 2) := by decide +kernel
theorem dX4_odds_89 : decode cX4_odds 89 = .ok (.iinc 5 1, 3) := by decide +kernel
theorem dX4_odds_92 : decode cX4_odds 92 = .ok (.goto (-48), 3) := by decide +kernel
theorem dX4_odds_95 : decode cX4_odds 95 = .ok (.iload_n 3, 1) := by decide +kernel
theorem dX4_odds_96 : decode cX4_odds 96 = .ok (.iconst 1, 1) := by decide +kernel
theorem dX4_odds_97 : decode cX4_odds 97 = .ok (.if_icmp .le 23, 3) := by decide +kernel
theorem dX4_odds_100 : decode cX4_odds 100 = .ok (.iload 4, 2) := by decide +kernel
theorem dX4_odds_102 : decode cX4_odds 102 = .ok (.iconst 2, 1) := by decide +kernel
theorem dX4_odds_103 : decode cX4_odds 103 = .ok (.irem, 1) := by decide +kernel
theorem dX4_odds_104 : decode cX4_odds 104 = .ok (.ifCond .ne 16, 3) := by decide +kernel
theorem dX4_odds_107 : decode cX4_odds 107 = .ok (.iload 4, 2) := by decide +kernel
theorem dX4_odds_109 : decode cX4_odds 109 = .ok (.iconst 2, 1) := by decide +kernel
theorem dX4_odds_110 : decode cX4_odds 110 = .ok (.idiv, 1) := by decide +kernel
theorem dX4_odds_111 : decode cX4_odds 111 = .ok (.istore 4, 2) := by decide +kernel
theorem dX4_odds_113 : decode cX4_odds 113 = .ok (.iload_n 3, 1) := by decide +kernel
theorem dX4_odds_114 : decode cX4_odds 114 = .ok (.iconst 2, 1) := by decide +kernel
theorem dX4_odds_115 : decode cX4_odds 115 = .ok (.idiv, 1) := by decide +kernel
theorem dX4_odds_116 : decode cX4_odds 116 = .ok (.istore_n 3, 1) := by decide +kernel
theorem dX4_odds_117 : decode cX4_odds 117 = .ok (.goto (-22), 3) := by decide +kernel
theorem dX4_odds_120 : decode cX4_odds 120 = .ok (.iload_n 2, 1) := by decide +kernel
theorem dX4_odds_121 : decode cX4_odds 121 = .ok (.ifCond .ne 9, 3) := by decide +kernel
theorem dX4_odds_124 : decode cX4_odds 124 = .ok (.iload 4, 2) := by decide +kernel
theorem dX4_odds_126 : decode cX4_odds 126 = .ok (.i2l, 1) := by decide +kernel
theorem dX4_odds_127 : decode cX4_odds 127 = .ok (.goto 5, 3) := by decide +kernel
theorem dX4_odds_130 : decode cX4_odds 130 = .ok (.iload_n 3, 1) := by decide +kernel
theorem dX4_odds_131 : decode cX4_odds 131 = .ok (.i2l, 1) := by decide +kernel
theorem dX4_odds_132 : decode cX4_odds 132 = .ok (.lreturn, 1) := by decide +kernel
theorem dX4_sheet_0 : decode cX4_sheet 0 = .ok (.aload_n 0, 1) := by decide +kernel
theorem dX4_sheet_1 : decode cX4_sheet 1 = .ok (.iconst 0, 1) := by decide +kernel
theorem dX4_sheet_2 : decode cX4_sheet 2 = .ok (.putfield 45, 3) := by decide +kernel
theorem dX4_sheet_5 : decode cX4_sheet 5 = .ok (.iload_n 1, 1) := by decide +kernel
theorem dX4_sheet_6 : decode cX4_sheet 6 = .ok (.invokestatic 49, 3) := by decide +kernel
theorem dX4_sheet_9 : decode cX4_sheet 9 = .ok (.ifCond .ne 5, 3) := by decide +kernel
theorem dX4_sheet_12 : decode cX4_sheet 12 = .ok (.iconst (-1), 1) := by decide +kernel
theorem dX4_sheet_13 : decode cX4_sheet 13 = .ok (.ireturn, 1) := by decide +kernel
theorem dX4_sheet_14 : decode cX4_sheet 14 = .ok (.iload_n 2, 1) := by decide +kernel
theorem dX4_sheet_15 : decode cX4_sheet 15 = .ok (.invokestatic 53, 3) := by decide +kernel
theorem dX4_sheet_18 : decode cX4_sheet 18 = .ok (.ifCond .eq 9, 3) := by decide +kernel
theorem dX4_sheet_21 : decode cX4_sheet 21 = .ok (.iload_n 3, 1) := by decide +kernel
theorem dX4_sheet_22 : decode cX4_sheet 22 = .ok (.bipush 60, 2) := by decide +kernel
theorem dX4_sheet_24 : decode cX4_sheet 24 = .ok (.if_icmp .le 6, 3) := by decide +kernel
theorem dX4_sheet_27 : decode cX4_sheet 27 = .ok (.bipush (-2), 2) := by decide +kernel
theorem dX4_sheet_29 : decode cX4_sheet 29 = .ok (.ireturn, 1) := by decide +kernel
theorem dX4_sheet_30 : decode cX4_sheet 30 = .ok (.iload_n 3, 1) := by decide +kernel
theorem dX4_sheet_31 : decode cX4_sheet 31 = .ok (.ifCond .ge 9, 3) := by decide +kernel
theorem dX4_sheet_34 : decode cX4_sheet 34 = .ok (.aload_n 0, 1) := by decide +kernel
theorem dX4_sheet_35 : decode cX4_sheet 35 = .ok (.iconst 4, 1) := by decide +kernel
theorem dX4_sheet_36 : decode cX4_sheet 36 = .ok (.invokevirtual 60, 3) := by decide +kernel
theorem dX4_sheet_39 : decode cX4_sheet 39 = .ok (.ireturn, 1) := by decide +kernel
theorem dX4_sheet_40 : decode cX4_sheet 40 = .ok (.aload_n 0, 1) := by decide +kernel
theorem dX4_sheet_41 : decode cX4_sheet 41 = .ok (.getfield 13, 3) := by decide +kernel
theorem dX4_sheet_44 : decode cX4_sheet 44 = .ok (.iload_n 1, 1) := by decide +kernel
theorem dX4_sheet_45 : decode cX4_sheet 45 = .ok (.aaload, 1) := by decide +kernel
theorem dX4_sheet_46 : decode cX4_sheet 46 = .ok (.iload_n 2, 1) := by decide +kernel
theorem dX4_sheet_47 : decode cX4_sheet 47 = .ok (.iload_n 3, 1) := by decide +kernel
theorem dX4_sheet_48 : decode cX4_sheet 48 = .ok (.invokevirtual 182, 3) := by decide +kernel
theorem dX4_sheet_51 : decode cX4_sheet 51 = .ok (.iconst 1, 1) := by decide +kernel
theorem dX4_sheet_52 : decode cX4_sheet 52 = .ok (.ireturn, 1) := by decide +kernel
theorem dX4_lose_0 : decode cX4_lose 0 = .ok (.iload_n 1, 1) := by decide +kernel
theorem dX4_lose_1 : decode cX4_lose 1 = .ok (.invokestatic 49, 3) := by decide +kernel
theorem dX4_lose_4 : decode cX4_lose 4 = .ok (.ifCond .ne 5, 3) := by decide +kernel
theorem dX4_lose_7 : decode cX4_lose 7 = .ok (.iconst (-1), 1) := by decide +kernel
theorem dX4_lose_8 : decode cX4_lose 8 = .ok (.ireturn, 1) := by decide +kernel
theorem dX4_lose_9 : decode cX4_lose 9 = .ok (.aload_n 0, 1) := by decide +kernel
theorem dX4_lose_10 : decode cX4_lose 10 = .ok (.getfield 13, 3) := by decide +kernel
theorem dX4_lose_13 : decode cX4_lose 13 = .ok (.iload_n 1, 1) := by decide +kernel
theorem dX4_lose_14 : decode cX4_lose 14 = .ok (.aaload, 1) := by decide +kernel
theorem dX4_lose_15 : decode cX4_lose 15 = .ok (.getfield 186, 3) := by decide +kernel
theorem dX4_lose_18 : decode cX4_lose 18 = .ok (.istore_n 2, 1) := by decide +kernel
theorem dX4_lose_19 : decode cX4_lose 19 = .ok (.aload_n 0, 1) := by decide +kernel
theorem dX4_lose_20 : decode cX4_lose 20 = .ok (.getfield 13, 3) := by decide +kernel
theorem dX4_lose_23 : decode cX4_lose 23 = .ok (.iload_n 1, 1) := by decide +kernel
theorem dX4_lose_24 : decode cX4_lose 24 = .ok (.aaload, 1) := by decide +kernel
theorem dX4_lose_25 : decode cX4_lose 25 = .ok (.iconst 0, 1) := by decide +kernel
theorem dX4_lose_26 : decode cX4_lose 26 = .ok (.putfield 186, 3) := by decide +kernel
theorem dX4_lose_29 : decode cX4_lose 29 = .ok (.iload_n 2, 1) := by decide +kernel
theorem dX4_lose_30 : decode cX4_lose 30 = .ok (.ifCond .eq 7, 3) := by decide +kernel
theorem dX4_lose_33 : decode cX4_lose 33 = .ok (.iconst 1, 1) := by decide +kernel
theorem dX4_lose_34 : decode cX4_lose 34 = .ok (.goto 4, 3) := by decide +kernel
theorem dX4_lose_37 : decode cX4_lose 37 = .ok (.iconst 0, 1) := by decide +kernel
theorem dX4_lose_38 : decode cX4_lose 38 = .ok (.ireturn, 1) := by decide +kernel
theorem dX4_put_0 : decode cX4_put 0 = .ok (.aload_n 0, 1) := by decide +kernel
theorem dX4_put_1 : decode cX4_put 1 = .ok (.iconst 0, 1) := by decide +kernel
theorem dX4_put_2 : decode cX4_put 2 = .ok (.putfield 45, 3) := by decide +kernel
theorem dX4_put_5 : decode cX4_put 5 = .ok (.iload_n 1, 1) := by decide +kernel
theorem dX4_put_6 : decode cX4_put 6 = .ok (.invokestatic 49, 3) := by decide +kernel
theorem dX4_put_9 : decode cX4_put 9 = .ok (.ifCond .ne 5, 3) := by decide +kernel
theorem dX4_put_12 : decode cX4_put 12 = .ok (.iconst (-1), 1) := by decide +kernel
theorem dX4_put_13 : decode cX4_put 13 = .ok (.ireturn, 1) := by decide +kernel
theorem dX4_put_14 : decode cX4_put 14 = .ok (.aload_n 0, 1) := by decide +kernel
theorem dX4_put_15 : decode cX4_put 15 = .ok (.getfield 13, 3) := by decide +kernel
theorem dX4_put_18 : decode cX4_put 18 = .ok (.iload_n 1, 1) := by decide +kernel
theorem dX4_put_19 : decode cX4_put 19 = .ok (.aaload, 1) := by decide +kernel
theorem dX4_put_20 : decode cX4_put 20 = .ok (.astore 4, 2) := by decide +kernel
theorem dX4_put_22 : decode cX4_put 22 = .ok (.aload 4, 2) := by decide +kernel
theorem dX4_put_24 : decode cX4_put 24 = .ok (.getfield 186, 3) := by decide +kernel
theorem dX4_put_27 : decode cX4_put 27 = .ok (.ifCond .ne 9, 3) := by decide +kernel
theorem dX4_put_30 : decode cX4_put 30 = .ok (.aload_n 0, 1) := by decide +kernel
theorem dX4_put_31 : decode cX4_put 31 = .ok (.iconst 1, 1) := by decide +kernel
theorem dX4_put_32 : decode cX4_put 32 = .ok (.invokevirtual 60, 3) := by decide +kernel
theorem dX4_put_35 : decode cX4_put 35 = .ok (.ireturn, 1) := by decide +kernel
theorem dX4_put_36 : decode cX4_put 36 = .ok (.aload 4, 2) := by decide +kernel
theorem dX4_put_38 : decode cX4_put 38 = .ok (.iload_n 2, 1) := by decide +kernel
theorem dX4_put_39 : decode cX4_put 39 = .ok (.invokevirtual 190, 3) := by decide +kernel
theorem dX4_put_42 : decode cX4_put 42 = .ok (.ifCond .ne 9, 3) := by decide +kernel
theorem dX4_put_45 : decode cX4_put 45 = .ok (.aload_n 0, 1) := by decide +kernel
theorem dX4_put_46 : decode cX4_put 46 = .ok (.iconst 3, 1) := by decide +kernel
theorem dX4_put_47 : decode cX4_put 47 = .ok (.invokevirtual 60, 3) := by decide +kernel
theorem dX4_put_50 : decode cX4_put 50 = .ok (.ireturn, 1) := by decide +kernel
theorem dX4_put_51 : decode cX4_put 51 = .ok (.aload 4, 2) := by decide +kernel
