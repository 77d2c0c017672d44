theorem dX0_init_0 : decode cX0_init 0 = .ok (.aload_n 0, 1) := by decide +kernel
theorem dX0_init_1 : decode cX0_init 1 = .ok (.invokespecial 3, 3) := by decide +kernel
theorem dX0_init_4 : decode cX0_init 4 = .ok (.aload_n 0, 1) := by decide +kernel
theorem dX0_init_5 : decode cX0_init 5 = .ok (.iconst 5, 1) := by decide +kernel
theorem dX0_init_6 : decode cX0_init 6 = .ok (.newarray .int, 2) := by decide +kernel
theorem dX0_init_8 : decode cX0_init 8 = .ok (.putfield 9, 3) := by decide +kernel
theorem dX0_init_11 : decode cX0_init 11 = .ok (.aload_n 0, 1) := by decide +kernel
theorem dX0_init_12 : decode cX0_init 12 = .ok (.iconst 5, 1) := by decide +kernel
theorem dX0_init_13 : decode cX0_init 13 = .ok (.newarray .int, 2) := by decide +kernel
theorem dX0_init_15 : decode cX0_init 15 = .ok (.putfield 15, 3) := by decide +kernel
theorem dX0_init_18 : decode cX0_init 18 = .ok (.aload_n 0, 1) := by decide +kernel
theorem dX0_init_19 : decode cX0_init 19 = .ok (.iconst 5, 1) := by decide +kernel
theorem dX0_init_20 : decode cX0_init 20 = .ok (.newarray .int, 2) := by decide +kernel
theorem dX0_init_22 : decode cX0_init 22 = .ok (.putfield 18, 3) := by decide +kernel
theorem dX0_init_25 : decode cX0_init 25 = .ok (.aload_n 0, 1) := by decide +kernel
theorem dX0_init_26 : decode cX0_init 26 = .ok (.iconst 5, 1) := by decide +kernel
theorem dX0_init_27 : decode cX0_init 27 = .ok (.newarray .int, 2) := by decide +kernel
theorem dX0_init_29 : decode cX0_init 29 = .ok (.putfield 21, 3) := by decide +kernel
theorem dX0_init_32 : decode cX0_init 32 = .ok (.aload_n 0, 1) := by decide +kernel
theorem dX0_init_33 : decode cX0_init 33 = .ok (.iconst 5, 1) := by decide +kernel
theorem dX0_init_34 : decode cX0_init 34 = .ok (.newarray .int, 2) := by decide +kernel
theorem dX0_init_36 : decode cX0_init 36 = .ok (.putfield 24, 3) := by decide +kernel
theorem dX0_init_39 : decode cX0_init 39 = .ok (.aload_n 0, 1) := by decide +kernel
theorem dX0_init_40 : decode cX0_init 40 = .ok (.bipush 8, 2) := by decide +kernel
theorem dX0_init_42 : decode cX0_init 42 = .ok (.newarray .int, 2) := by decide +kernel
theorem dX0_init_44 : decode cX0_init 44 = .ok (.putfield 27, 3) := by decide +kernel
theorem dX0_init_47 : decode cX0_init 47 = .ok (.aload_n 0, 1) := by decide +kernel
theorem dX0_init_48 : decode cX0_init 48 = .ok (.bipush 8, 2) := by decide +kernel
theorem dX0_init_50 : decode cX0_init 50 = .ok (.newarray .int, 2) := by decide +kernel
theorem dX0_init_52 : decode cX0_init 52 = .ok (.putfield 30, 3) := by decide +kernel
theorem dX0_init_55 : decode cX0_init 55 = .ok (.return_, 1) := by decide +kernel
theorem dX0_stands_0 : decode cX0_stands 0 = .ok (.aload_n 0, 1) := by decide +kernel
theorem dX0_stands_1 : decode cX0_stands 1 = .ok (.getfield 33, 3) := by decide +kernel
theorem dX0_stands_4 : decode cX0_stands 4 = .ok (.ifCond .le 7, 3) := by decide +kernel
theorem dX0_stands_7 : decode cX0_stands 7 = .ok (.iconst 1, 1) := by decide +kernel
theorem dX0_stands_8 : decode cX0_stands 8 = .ok (.goto 4, 3) := by decide +kernel
theorem dX0_stands_11 : decode cX0_stands 11 = .ok (.iconst 0, 1) := by decide +kernel
theorem dX0_stands_12 : decode cX0_stands 12 = .ok (.ireturn, 1) := by decide +kernel
theorem dX0_isJuror_0 : decode cX0_isJuror 0 = .ok (.iload_n 1, 1) := by decide +kernel
theorem dX0_isJuror_1 : decode cX0_isJuror 1 = .ok (.ifCond .lt 15, 3) := by decide +kernel
theorem dX0_isJuror_4 : decode cX0_isJuror 4 = .ok (.iload_n 1, 1) := by decide +kernel
theorem dX0_isJuror_5 : decode cX0_isJuror 5 = .ok (.aload_n 0, 1) := by decide +kernel
theorem dX0_isJuror_6 : decode cX0_isJuror 6 = .ok (.getfield 37, 3) := by decide +kernel
theorem dX0_isJuror_9 : decode cX0_isJuror 9 = .ok (.if_icmp .ge 7, 3) := by decide +kernel
theorem dX0_isJuror_12 : decode cX0_isJuror 12 = .ok (.iconst 1, 1) := by decide +kernel
theorem dX0_isJuror_13 : decode cX0_isJuror 13 = .ok (.goto 4, 3) := by decide +kernel
theorem dX0_isJuror_16 : decode cX0_isJuror 16 = .ok (.iconst 0, 1) := by decide +kernel
theorem dX0_isJuror_17 : decode cX0_isJuror 17 = .ok (.ireturn, 1) := by decide +kernel
theorem dX0_isCase_0 : decode cX0_isCase 0 = .ok (.iload_n 1, 1) := by decide +kernel
theorem dX0_isCase_1 : decode cX0_isCase 1 = .ok (.ifCond .lt 15, 3) := by decide +kernel
theorem dX0_isCase_4 : decode cX0_isCase 4 = .ok (.iload_n 1, 1) := by decide +kernel
theorem dX0_isCase_5 : decode cX0_isCase 5 = .ok (.aload_n 0, 1) := by decide +kernel
theorem dX0_isCase_6 : decode cX0_isCase 6 = .ok (.getfield 33, 3) := by decide +kernel
theorem dX0_isCase_9 : decode cX0_isCase 9 = .ok (.if_icmp .ge 7, 3) := by decide +kernel
theorem dX0_isCase_12 : decode cX0_isCase 12 = .ok (.iconst 1, 1) := by decide +kernel
theorem dX0_isCase_13 : decode cX0_isCase 13 = .ok (.goto 4, 3) := by decide +kernel
theorem dX0_isCase_16 : decode cX0_isCase 16 = .ok (.iconst 0, 1) := by decide +kernel
theorem dX0_isCase_17 : decode cX0_isCase 17 = .ok (.ireturn, 1) := by decide +kernel
theorem dX0_makeAnew_0 : decode cX0_makeAnew 0 = .ok (.aload_n 0, 1) := by decide +kernel
theorem dX0_makeAnew_1 : decode cX0_makeAnew 1 = .ok (.aload_n 1, 1) := by decide +kernel
theorem dX0_makeAnew_2 : decode cX0_makeAnew 2 = .ok (.invokevirtual 40, 3) := by decide +kernel
theorem dX0_makeAnew_5 : decode cX0_makeAnew 5 = .ok (.putfield 46, 3) := by decide +kernel
theorem dX0_makeAnew_8 : decode cX0_makeAnew 8 = .ok (.aload_n 0, 1) := by decide +kernel
theorem dX0_makeAnew_9 : decode cX0_makeAnew 9 = .ok (.aload_n 1, 1) := by decide +kernel
theorem dX0_makeAnew_10 : decode cX0_makeAnew 10 = .ok (.invokevirtual 49, 3) := by decide +kernel
theorem dX0_makeAnew_13 : decode cX0_makeAnew 13 = .ok (.putfield 37, 3) := by decide +kernel
theorem dX0_makeAnew_16 : decode cX0_makeAnew 16 = .ok (.iconst 0, 1) := by decide +kernel
theorem dX0_makeAnew_17 : decode cX0_makeAnew 17 = .ok (.istore_n 2, 1) := by decide +kernel
theorem dX0_makeAnew_18 : decode cX0_makeAnew 18 = .ok (.iload_n 2, 1) := by decide +kernel
theorem dX0_makeAnew_19 : decode cX0_makeAnew 19 = .ok (.aload_n 0, 1) := by decide +kernel
theorem dX0_makeAnew_20 : decode cX0_makeAnew 20 = .ok (.getfield 37, 3) := by decide +kernel
theorem dX0_makeAnew_23 : decode cX0_makeAnew 23 = .ok (.if_icmp .ge 31, 3) := by decide +kernel
theorem dX0_makeAnew_26 : decode cX0_makeAnew 26 = .ok (.aload_n 0, 1) := by decide +kernel
theorem dX0_makeAnew_27 : decode cX0_makeAnew 27 = .ok (.getfield 9, 3) := by decide +kernel
theorem dX0_makeAnew_30 : decode cX0_makeAnew 30 = .ok (.iload_n 2, 1) := by decide +kernel
theorem dX0_makeAnew_31 : decode cX0_makeAnew 31 = .ok (.aload_n 1, 1) := by decide +kernel
theorem dX0_makeAnew_32 : decode cX0_makeAnew 32 = .ok (.iload_n 2, 1) := by decide +kernel
theorem dX0_makeAnew_33 : decode cX0_makeAnew 33 = .ok (.invokevirtual 52, 3) := by decide +kernel
theorem dX0_makeAnew_36 : decode cX0_makeAnew 36 = .ok (.iastore, 1) := by decide +kernel
theorem dX0_makeAnew_37 : decode cX0_makeAnew 37 = .ok (.aload_n 0, 1) := by decide +kernel
theorem dX0_makeAnew_38 : decode cX0_makeAnew 38 = .ok (.getfield 15, 3) := by decide +kernel
theorem dX0_makeAnew_41 : decode cX0_makeAnew 41 = .ok (.iload_n 2, 1) := by decide +kernel
theorem dX0_makeAnew_42 : decode cX0_makeAnew 42 = .ok (.aload_n 1, 1) := by decide +kernel
theorem dX0_makeAnew_43 : decode cX0_makeAnew 43 = .ok (.iload_n 2, 1) := by decide +kernel
theorem dX0_makeAnew_44 : decode cX0_makeAnew 44 = .ok (.invokevirtual 56, 3) := by decide +kernel
theorem dX0_makeAnew_47 : decode cX0_makeAnew 47 = .ok (.iastore, 1) := by decide +kernel
theorem dX0_makeAnew_48 : decode cX0_makeAnew 48 = .ok (.iinc 2 1, 3) := by decide +kernel
theorem dX0_makeAnew_51 : decode cX0_makeAnew 51 = .ok (.goto (-33), 3) := by decide +kernel
theorem dX0_makeAnew_54 : decode cX0_makeAnew 54 = .ok (.aload_n 0, 1) := by decide +kernel
theorem dX0_makeAnew_55 : decode cX0_makeAnew 55 = .ok (.aload_n 1, 1) := by decide +kernel
theorem dX0_makeAnew_56 : decode cX0_makeAnew 56 = .ok (.invokevirtual 59, 3) := by decide +kernel
theorem dX0_makeAnew_59 : decode cX0_makeAnew 59 = .ok (.putfield 33, 3) := by decide +kernel
theorem dX0_makeAnew_62 : decode cX0_makeAnew 62 = .ok (.iconst 0, 1) := by decide +kernel
theorem dX0_makeAnew_63 : decode cX0_makeAnew 63 = .ok (.istore_n 2, 1) := by decide +kernel
theorem dX0_makeAnew_64 : decode cX0_makeAnew 64 = .ok (.iload_n 2, 1) := by decide +kernel
theorem dX0_makeAnew_65 : decode cX0_makeAnew 65 = .ok (.aload_n 0, 1) := by decide +kernel
theorem dX0_makeAnew_66 : decode cX0_makeAnew 66 = .ok (.getfield 33, 3) := by decide +kernel
theorem dX0_makeAnew_69 : decode cX0_makeAnew 69 = .ok (.if_icmp .ge 45, 3) := by decide +kernel
theorem dX0_makeAnew_72 : decode cX0_makeAnew 72 = .ok (.aload_n 0, 1) := by decide +kernel
theorem dX0_makeAnew_73 : decode cX0_makeAnew 73 = .ok (.getfield 18, 3) := by decide +kernel
theorem dX0_makeAnew_76 : decode cX0_makeAnew 76 = .ok (.iload_n 2, 1) := by decide +kernel
theorem dX0_makeAnew_77 : decode cX0_makeAnew 77 = .ok (.aload_n 1, 1) := by decide +kernel
theorem dX0_makeAnew_78 : decode cX0_makeAnew 78 = .ok (.iload_n 2, 1) := by decide +kernel
theorem dX0_makeAnew_79 : decode cX0_makeAnew 79 = .ok (.iconst 0, 1) := by decide +kernel
theorem dX0_makeAnew_80 : decode cX0_makeAnew 80 = .ok (.invokevirtual 62, 3) := by decide +kernel
theorem dX0_makeAnew_83 : decode cX0_makeAnew 83 = .ok (.iastore, 1) := by decide +kernel
theorem dX0_makeAnew_84 : decode cX0_makeAnew 84 = .ok (.aload_n 0, 1) := by decide +kernel
theorem dX0_makeAnew_85 : decode cX0_makeAnew 85 = .ok (.getfield 21, 3) := by decide +kernel
theorem dX0_makeAnew_88 : decode cX0_makeAnew 88 = .ok (.iload_n 2, 1) := by decide +kernel
theorem dX0_makeAnew_89 : decode cX0_makeAnew 89 = .ok (.aload_n 1, 1) := by decide +kernel
theorem dX0_makeAnew_90 : decode cX0_makeAnew 90 = .ok (.iload_n 2, 1) := by decide +kernel
theorem dX0_makeAnew_91 : decode cX0_makeAnew 91 = .ok (.iconst 1, 1) := by decide +kernel
theorem dX0_makeAnew_92 : decode cX0_makeAnew 92 = .ok (.invokevirtual 62, 3) := by decide +kernel
theorem dX0_makeAnew_95 : decode cX0_makeAnew 95 = .ok (.iastore, 1) := by decide +kernel
theorem dX0_makeAnew_96 : decode cX0_makeAnew 96 = .ok (.aload_n 0, 1) := by decide +kernel
theorem dX0_makeAnew_97 : decode cX0_makeAnew 97 = .ok (.getfield 24, 3) := by decide +kernel
theorem dX0_makeAnew_100 : decode cX0_makeAnew 100 = .ok (.iload_n 2, 1) := by decide +kernel
theorem dX0_makeAnew_101 : decode cX0_makeAnew 101 = .ok (.aload_n 1, 1) := by decide +kernel
theorem dX0_makeAnew_102 : decode cX0_makeAnew 102 = .ok (.iload_n 2, 1) := by decide +kernel
theorem dX0_makeAnew_103 : decode cX0_makeAnew 103 = .ok (.iconst 2, 1) := by decide +kernel
theorem dX0_makeAnew_104 : decode cX0_makeAnew 104 = .ok (.invokevirtual 62, 3) := by decide +kernel
theorem dX0_makeAnew_107 : decode cX0_makeAnew 107 = .ok (.iastore, 1) := by decide +kernel
theorem dX0_makeAnew_108 : decode cX0_makeAnew 108 = .ok (.iinc 2 1, 3) := by decide +kernel
theorem dX0_makeAnew_111 : decode cX0_makeAnew 111 = .ok (.goto (-47), 3) := by decide +kernel
theorem dX0_makeAnew_114 : decode cX0_makeAnew 114 = .ok (.aload_n 0, 1) := by decide +kernel
theorem dX0_makeAnew_115 : decode cX0_makeAnew 115 = .ok (.iconst 0, 1) := by decide +kernel
theorem dX0_makeAnew_116 : decode cX0_makeAnew 116 = .ok (.putfield 66, 3) := by decide +kernel
theorem dX0_makeAnew_119 : decode cX0_makeAnew 119 = .ok (.aload_n 0, 1) := by decide +kernel
theorem dX0_makeAnew_120 : decode cX0_makeAnew 120 = .ok (.iconst 0, 1) := by decide +kernel
theorem dX0_makeAnew_121 : decode cX0_makeAnew 121 = .ok (.putfield 69, 3) := by decide +kernel
theorem dX0_makeAnew_124 : decode cX0_makeAnew 124 = .ok (.aload_n 0, 1) := by decide +kernel
theorem dX0_makeAnew_125 : decode cX0_makeAnew 125 = .ok (.iconst 0, 1) := by decide +kernel
theorem dX0_makeAnew_126 : decode cX0_makeAnew 126 = .ok (.putfield 72, 3) := by decide +kernel
theorem dX0_makeAnew_129 : decode cX0_makeAnew 129 = .ok (.aload_n 0, 1) := by decide +kernel
theorem dX0_makeAnew_130 : decode cX0_makeAnew 130 = .ok (.iconst 0, 1) := by decide +kernel
theorem dX0_makeAnew_131 : decode cX0_makeAnew 131 = .ok (.putfield 75, 3) := by decide +kernel
theorem dX0_makeAnew_134 : decode cX0_makeAnew 134 = .ok (.return_, 1) := by decide +kernel
theorem dX1_init_0 : decode cX1_init 0 = .ok (.aload_n 0, 1) := by decide +kernel
theorem dX1_init_1 : decode cX1_init 1 = .ok (.invokespecial 3, 3) := by decide +kernel
theorem dX1_init_4 : decode cX1_init 4 = .ok (.aload_n 0, 1) := by decide +kernel
theorem dX1_init_5 : decode cX1_init 5 = .ok (.bipush 60, 2) := by decide +kernel
theorem dX1_init_7 : decode cX1_init 7 = .ok (.newarray .int, 2) := by decide +kernel
theorem dX1_init_9 : decode cX1_init 9 = .ok (.putfield 9, 3) := by decide +kernel
theorem dX1_init_12 : decode cX1_init 12 = .ok (.return_, 1) := by decide +kernel
theorem dX1_renew_0 : decode cX1_renew 0 = .ok (.aload_n 0, 1) := by decide +kernel
theorem dX1_renew_1 : decode cX1_renew 1 = .ok (.getfield 9, 3) := by decide +kernel
theorem dX1_renew_4 : decode cX1_renew 4 = .ok (.iconst 0, 1) := by decide +kernel
theorem dX1_renew_5 : decode cX1_renew 5 = .ok (.invokestatic 15, 3) := by decide +kernel
theorem dX1_renew_8 : decode cX1_renew 8 = .ok (.aload_n 0, 1) := by decide +kernel
theorem dX1_renew_9 : decode cX1_renew 9 = .ok (.iconst 1, 1) := by decide +kernel
theorem dX1_renew_10 : decode cX1_renew 10 = .ok (.putfield 21, 3) := by decide +kernel
theorem dX1_renew_13 : decode cX1_renew 13 = .ok (.aload_n 0, 1) := by decide +kernel
theorem dX1_renew_14 : decode cX1_renew 14 = .ok (.iload_n 1, 1) := by decide +kernel
theorem dX1_renew_15 : decode cX1_renew 15 = .ok (.putfield 25, 3) := by decide +kernel
theorem dX1_renew_18 : decode cX1_renew 18 = .ok (.aload_n 0, 1) := by decide +kernel
theorem dX1_renew_19 : decode cX1_renew 19 = .ok (.iload_n 2, 1) := by decide +kernel
theorem dX1_renew_20 : decode cX1_renew 20 = .ok (.putfield 29, 3) := by decide +kernel
theorem dX1_renew_23 : decode cX1_renew 23 = .ok (.return_, 1) := by decide +kernel
theorem dX1_isPlace_0 : decode cX1_isPlace 0 = .ok (.iload_n 1, 1) := by decide +kernel
theorem dX1_isPlace_1 : decode cX1_isPlace 1 = .ok (.ifCond .lt 15, 3) := by decide +kernel
theorem dX1_isPlace_4 : decode cX1_isPlace 4 = .ok (.iload_n 1, 1) := by decide +kernel
theorem dX1_isPlace_5 : decode cX1_isPlace 5 = .ok (.aload_n 0, 1) := by decide +kernel
theorem dX1_isPlace_6 : decode cX1_isPlace 6 = .ok (.getfield 29, 3) := by decide +kernel
theorem dX1_isPlace_9 : decode cX1_isPlace 9 = .ok (.if_icmp .ge 7, 3) := by decide +kernel
theorem dX1_isPlace_12 : decode cX1_isPlace 12 = .ok (.iconst 1, 1) := by decide +kernel
theorem dX1_isPlace_13 : decode cX1_isPlace 13 = .ok (.goto 4, 3) := by decide +kernel
theorem dX1_isPlace_16 : decode cX1_isPlace 16 = .ok (.iconst 0, 1) := by decide +kernel
theorem dX1_isPlace_17 : decode cX1_isPlace 17 = .ok (.ireturn, 1) := by decide +kernel
theorem dX1_hasCells_0 : decode cX1_hasCells 0 = .ok (.iload_n 1, 1) := by decide +kernel
theorem dX1_hasCells_1 : decode cX1_hasCells 1 = .ok (.ifCond .lt 29, 3) := by decide +kernel
theorem dX1_hasCells_4 : decode cX1_hasCells 4 = .ok (.iload_n 2, 1) := by decide +kernel
theorem dX1_hasCells_5 : decode cX1_hasCells 5 = .ok (.ifCond .lt 25, 3) := by decide +kernel
theorem dX1_hasCells_8 : decode cX1_hasCells 8 = .ok (.iload_n 1, 1) := by decide +kernel
theorem dX1_hasCells_9 : decode cX1_hasCells 9 = .ok (.aload_n 0, 1) := by decide +kernel
theorem dX1_hasCells_10 : decode cX1_hasCells 10 = .ok (.getfield 29, 3) := by decide +kernel
theorem dX1_hasCells_13 : decode cX1_hasCells 13 = .ok (.if_icmp .gt 17, 3) := by decide +kernel
theorem dX1_hasCells_16 : decode cX1_hasCells 16 = .ok (.iload_n 2, 1) := by decide +kernel
theorem dX1_hasCells_17 : decode cX1_hasCells 17 = .ok (.aload_n 0, 1) := by decide +kernel
theorem dX1_hasCells_18 : decode cX1_hasCells 18 = .ok (.getfield 29, 3) := by decide +kernel
theorem dX1_hasCells_21 : decode cX1_hasCells 21 = .ok (.iload_n 1, 1) := by decide +kernel
theorem dX1_hasCells_22 : decode cX1_hasCells 22 = .ok (.isub, 1) := by decide +kernel
theorem dX1_hasCells_23 : decode cX1_hasCells 23 = .ok (.if_icmp .gt 7, 3) := by decide +kernel
theorem dX1_hasCells_26 : decode cX1_hasCells 26 = .ok (.iconst 1, 1) := by decide +kernel
theorem dX1_hasCells_27 : decode cX1_hasCells 27 = .ok (.goto 4, 3) := by decide +kernel
theorem dX1_hasCells_30 : decode cX1_hasCells 30 = .ok (.iconst 0, 1) := by decide +kernel
theorem dX1_hasCells_31 : decode cX1_hasCells 31 = .ok (.ireturn, 1) := by decide +kernel
theorem dX1_cut_0 : decode cX1_cut 0 = .ok (.aload_n 0, 1) := by decide +kernel
theorem dX1_cut_1 : decode cX1_cut 1 = .ok (.getfield 25, 3) := by decide +kernel
theorem dX1_cut_4 : decode cX1_cut 4 = .ok (.lookupswitch 34 #[(0, 28), (1, 31)], 28) := by decide +kernel
theorem dX1_cut_32 : decode cX1_cut 32 = .ok (.iload_n 1, 1) := by decide +kernel
theorem dX1_cut_33 : decode cX1_cut 33 = .ok (.i2b, 1) := by decide +kernel
theorem dX1_cut_34 : decode cX1_cut 34 = .ok (.ireturn, 1) := by decide +kernel
theorem dX1_cut_35 : decode cX1_cut 35 = .ok (.iload_n 1, 1) := by decide +kernel
theorem dX1_cut_36 : decode cX1_cut 36 = .ok (.i2s, 1) := by decide +kernel
theorem dX1_cut_37 : decode cX1_cut 37 = .ok (.ireturn, 1) := by decide +kernel
theorem dX1_cut_38 : decode cX1_cut 38 = .ok (.iload_n 1, 1) := by decide +kernel
theorem dX1_cut_39 : decode cX1_cut 39 = .ok (.ireturn, 1) := by decide +kernel
theorem dX1_faultOfLane_0 : decode cX1_faultOfLane 0 = .ok (.aload_n 0, 1) := by decide +kernel
theorem dX1_faultOfLane_1 : decode cX1_faultOfLane 1 = .ok (.getfield 21, 3) := by decide +kernel
theorem dX1_faultOfLane_4 : decode cX1_faultOfLane 4 = .ok (.ifCond .ne 5, 3) := by decide +kernel
theorem dX1_faultOfLane_7 : decode cX1_faultOfLane 7 = .ok (.iconst 1, 1) := by decide +kernel
theorem dX1_faultOfLane_8 : decode cX1_faultOfLane 8 = .ok (.ireturn, 1) := by decide +kernel
theorem dX1_faultOfLane_9 : decode cX1_faultOfLane 9 = .ok (.aload_n 0, 1) := by decide +kernel
theorem dX1_faultOfLane_10 : decode cX1_faultOfLane 10 = .ok (.getfield 25, 3) := by decide +kernel
theorem dX1_faultOfLane_13 : decode cX1_faultOfLane 13 = .ok (.iload_n 1, 1) := by decide +kernel
theorem dX1_faultOfLane_14 : decode cX1_faultOfLane 14 = .ok (.if_icmp .ne 7, 3) := by decide +kernel
theorem dX1_faultOfLane_17 : decode cX1_faultOfLane 17 = .ok (.iconst 0, 1) := by decide +kernel
theorem dX1_faultOfLane_18 : decode cX1_faultOfLane 18 = .ok (.goto 4, 3) := by decide +kernel
theorem dX1_faultOfLane_21 : decode cX1_faultOfLane 21 = .ok (.iconst 2, 1) := by decide +kernel
theorem dX1_faultOfLane_22 : decode cX1_faultOfLane 22 = .ok (.ireturn, 1) := by decide +kernel
theorem dX1_faultOfCells_0 : decode cX1_faultOfCells 0 = .ok (.aload_n 0, 1) := by decide +kernel
theorem dX1_faultOfCells_1 : decode cX1_faultOfCells 1 = .ok (.iload_n 1, 1) := by decide +kernel
theorem dX1_faultOfCells_2 : decode cX1_faultOfCells 2 = .ok (.invokevirtual 32, 3) := by decide +kernel
theorem dX1_faultOfCells_5 : decode cX1_faultOfCells 5 = .ok (.istore 4, 2) := by decide +kernel
theorem dX1_faultOfCells_7 : decode cX1_faultOfCells 7 = .ok (.iload 4, 2) := by decide +kernel
theorem dX1_faultOfCells_9 : decode cX1_faultOfCells 9 = .ok (.ifCond .eq 6, 3) := by decide +kernel
theorem dX1_faultOfCells_12 : decode cX1_faultOfCells 12 = .ok (.iload 4, 2) := by decide +kernel
theorem dX1_faultOfCells_14 : decode cX1_faultOfCells 14 = .ok (.ireturn, 1) := by decide +kernel
theorem dX1_faultOfCells_15 : decode cX1_faultOfCells 15 = .ok (.iload_n 3, 1) := by decide +kernel
theorem dX1_faultOfCells_16 : decode cX1_faultOfCells 16 = .ok (.ifCond .ge 5, 3) := by decide +kernel
theorem dX1_faultOfCells_19 : decode cX1_faultOfCells 19 = .ok (.iconst 4, 1) := by decide +kernel
theorem dX1_faultOfCells_20 : decode cX1_faultOfCells 20 = .ok (.ireturn, 1) := by decide +kernel
theorem dX1_faultOfCells_21 : decode cX1_faultOfCells 21 = .ok (.aload_n 0, 1) := by decide +kernel
theorem dX1_faultOfCells_22 : decode cX1_faultOfCells 22 = .ok (.iload_n 2, 1) := by decide +kernel
theorem dX1_faultOfCells_23 : decode cX1_faultOfCells 23 = .ok (.iload_n 3, 1) := by decide +kernel
theorem dX1_faultOfCells_24 : decode cX1_faultOfCells 24 = .ok (.invokevirtual 36, 3) := by decide +kernel
theorem dX1_faultOfCells_27 : decode cX1_faultOfCells 27 = .ok (.ifCond .eq 7, 3) := by decide +kernel
theorem dX1_faultOfCells_30 : decode cX1_faultOfCells 30 = .ok (.iconst 0, 1) := by decide +kernel
theorem dX1_faultOfCells_31 : decode cX1_faultOfCells 31 = .ok (.goto 4, 3) := by decide +kernel
theorem dX1_faultOfCells_34 : decode cX1_faultOfCells 34 = .ok (.iconst 3, 1) := by decide +kernel
theorem dX1_faultOfCells_35 : decode cX1_faultOfCells 35 = .ok (.ireturn, 1) := by decide +kernel
theorem dX2_init_0 : decode cX2_init 0 = .ok (.aload_n 0, 1) := by decide +kernel
theorem dX2_init_1 : decode cX2_init 1 = .ok (.invokespecial 3, 3) := by decide +kernel
theorem dX2_init_4 : decode cX2_init 4 = .ok (.aload_n 0, 1) := by decide +kernel
theorem dX2_init_5 : decode cX2_init 5 = .ok (.iconst 5, 1) := by decide +kernel
theorem dX2_init_6 : decode cX2_init 6 = .ok (.newarray .int, 2) := by decide +kernel
theorem dX2_init_8 : decode cX2_init 8 = .ok (.putfield 9, 3) := by decide +kernel
theorem dX2_init_11 : decode cX2_init 11 = .ok (.aload_n 0, 1) := by decide +kernel
theorem dX2_init_12 : decode cX2_init 12 = .ok (.iconst 5, 1) := by decide +kernel
theorem dX2_init_13 : decode cX2_init 13 = .ok (.newarray .int, 2) := by decide +kernel
theorem dX2_init_15 : decode cX2_init 15 = .ok (.putfield 15, 3) := by decide +kernel
theorem dX2_init_18 : decode cX2_init 18 = .ok (.aload_n 0, 1) := by decide +kernel
theorem dX2_init_19 : decode cX2_init 19 = .ok (.iconst 5, 1) := by decide +kernel
theorem dX2_init_20 : decode cX2_init 20 = .ok (.newarray .int, 2) := by decide +kernel
theorem dX2_init_22 : decode cX2_init 22 = .ok (.putfield 18, 3) := by decide +kernel
theorem dX2_init_25 : decode cX2_init 25 = .ok (.aload_n 0, 1) := by decide +kernel
theorem dX2_init_26 : decode cX2_init 26 = .ok (.bipush 6, 2) := by decide +kernel
theorem dX2_init_28 : decode cX2_init 28 = .ok (.newarray .int, 2) := by decide +kernel
theorem dX2_init_30 : decode cX2_init 30 = .ok (.putfield 21, 3) := by decide +kernel
theorem dX2_init_33 : decode cX2_init 33 = .ok (.aload_n 0, 1) := by decide +kernel
theorem dX2_init_34 : decode cX2_init 34 = .ok (.aload_n 1, 1) := by decide +kernel
theorem dX2_init_35 : decode cX2_init 35 = .ok (.putfield 24, 3) := by decide +kernel
theorem dX2_init_38 : decode cX2_init 38 = .ok (.return_, 1) := by decide +kernel
theorem dX2_prepare_0 : decode cX2_prepare 0 = .ok (.aload_n 0, 1) := by decide +kernel
theorem dX2_prepare_1 : decode cX2_prepare 1 = .ok (.getfield 24, 3) := by decide +kernel
theorem dX2_prepare_4 : decode cX2_prepare 4 = .ok (.getfield 28, 3) := by decide +kernel
theorem dX2_prepare_7 : decode cX2_prepare 7 = .ok (.iconst 0, 1) := by decide +kernel
theorem dX2_prepare_8 : decode cX2_prepare 8 = .ok (.aload_n 0, 1) := by decide +kernel
theorem dX2_prepare_9 : decode cX2_prepare 9 = .ok (.getfield 9, 3) := by decide +kernel
theorem dX2_prepare_12 : decode cX2_prepare 12 = .ok (.iconst 0, 1) := by decide +kernel
theorem dX2_prepare_13 : decode cX2_prepare 13 = .ok (.iconst 5, 1) := by decide +kernel
theorem dX2_prepare_14 : decode cX2_prepare 14 = .ok (.invokestatic 31, 3) := by decide +kernel
theorem dX2_prepare_17 : decode cX2_prepare 17 = .ok (.aload_n 0, 1) := by decide +kernel
theorem dX2_prepare_18 : decode cX2_prepare 18 = .ok (.aload_n 0, 1) := by decide +kernel
theorem dX2_prepare_19 : decode cX2_prepare 19 = .ok (.getfield 24, 3) := by decide +kernel
theorem dX2_prepare_22 : decode cX2_prepare 22 = .ok (.getfield 37, 3) := by decide +kernel
theorem dX2_prepare_25 : decode cX2_prepare 25 = .ok (.putfield 41, 3) := by decide +kernel
theorem dX2_prepare_28 : decode cX2_prepare 28 = .ok (.aload_n 0, 1) := by decide +kernel
theorem dX2_prepare_29 : decode cX2_prepare 29 = .ok (.aload_n 0, 1) := by decide +kernel
theorem dX2_prepare_30 : decode cX2_prepare 30 = .ok (.getfield 24, 3) := by decide +kernel
theorem dX2_prepare_33 : decode cX2_prepare 33 = .ok (.getfield 42, 3) := by decide +kernel
theorem dX2_prepare_36 : decode cX2_prepare 36 = .ok (.putfield 45, 3) := by decide +kernel
theorem dX2_prepare_39 : decode cX2_prepare 39 = .ok (.aload_n 0, 1) := by decide +kernel
theorem dX2_prepare_40 : decode cX2_prepare 40 = .ok (.aload_n 0, 1) := by decide +kernel
theorem dX2_prepare_41 : decode cX2_prepare 41 = .ok (.getfield 24, 3) := by decide +kernel
theorem dX2_prepare_44 : decode cX2_prepare 44 = .ok (.getfield 46, 3) := by decide +kernel
theorem dX2_prepare_47 : decode cX2_prepare 47 = .ok (.putfield 49, 3) := by decide +kernel
theorem dX2_prepare_50 : decode cX2_prepare 50 = .ok (.aload_n 0, 1) := by decide +kernel
theorem dX2_prepare_51 : decode cX2_prepare 51 = .ok (.aload_n 0, 1) := by decide +kernel
theorem dX2_prepare_52 : decode cX2_prepare 52 = .ok (.getfield 45, 3) := by decide +kernel
theorem dX2_prepare_55 : decode cX2_prepare 55 = .ok (.putfield 50, 3) := by decide +kernel
theorem dX2_prepare_58 : decode cX2_prepare 58 = .ok (.aload_n 0, 1) := by decide +kernel
theorem dX2_prepare_59 : decode cX2_prepare 59 = .ok (.iconst 0, 1) := by decide +kernel
theorem dX2_prepare_60 : decode cX2_prepare 60 = .ok (.putfield 53, 3) := by decide +kernel
theorem dX2_prepare_63 : decode cX2_prepare 63 = .ok (.return_, 1) := by decide +kernel
theorem dX2_addToOrder_0 : decode cX2_addToOrder 0 = .ok (.aload_n 0, 1) := by decide +kernel
theorem dX2_addToOrder_1 : decode cX2_addToOrder 1 = .ok (.getfield 53, 3) := by decide +kernel
theorem dX2_addToOrder_4 : decode cX2_addToOrder 4 = .ok (.iconst 5, 1) := by decide +kernel
theorem dX2_addToOrder_5 : decode cX2_addToOrder 5 = .ok (.if_icmp .ge 23, 3) := by decide +kernel
theorem dX2_addToOrder_8 : decode cX2_addToOrder 8 = .ok (.aload_n 0, 1) := by decide +kernel
theorem dX2_addToOrder_9 : decode cX2_addToOrder 9 = .ok (.getfield 15, 3) := by decide +kernel
theorem dX2_addToOrder_12 : decode cX2_addToOrder 12 = .ok (.aload_n 0, 1) := by decide +kernel
theorem dX2_addToOrder_13 : decode cX2_addToOrder 13 = .ok (.getfield 53, 3) := by decide +kernel
theorem dX2_addToOrder_16 : decode cX2_addToOrder 16 = .ok (.iload_n 1, 1) := by decide +kernel
theorem dX2_addToOrder_17 : decode cX2_addToOrder 17 = .ok (.iastore, 1) := by decide +kernel
theorem dX2_addToOrder_18 : decode cX2_addToOrder 18 = .ok (.aload_n 0, 1) := by decide +kernel
theorem dX2_addToOrder_19 : decode cX2_addToOrder 19 = .ok (.dup, 1) := by decide +kernel
theorem dX2_addToOrder_20 : decode cX2_addToOrder 20 = .ok (.getfield 53, 3) := by decide +kernel
theorem dX2_addToOrder_23 : decode cX2_addToOrder 23 = .ok (.iconst 1, 1) := by decide +kernel
theorem dX2_addToOrder_24 : decode cX2_addToOrder 24 = .ok (.iadd, 1) := by decide +kernel
theorem dX2_addToOrder_25 : decode cX2_addToOrder 25 = .ok (.putfield 53, 3) := by decide +kernel
theorem dX2_addToOrder_28 : decode cX2_addToOrder 28 = .ok (.return_, 1) := by decide +kernel
theorem dX2_goToNextOrder_0 : decode cX2_goToNextOrder 0 = .ok (.aload_n 0, 1) := by decide +kernel
theorem dX2_goToNextOrder_1 : decode cX2_goToNextOrder 1 = .ok (.getfield 53, 3) := by decide +kernel
theorem dX2_goToNextOrder_4 : decode cX2_goToNextOrder 4 = .ok (.iconst 2, 1) := by decide +kernel
theorem dX2_goToNextOrder_5 : decode cX2_goToNextOrder 5 = .ok (.isub, 1) := by decide +kernel
theorem dX2_goToNextOrder_6 : decode cX2_goToNextOrder 6 = .ok (.istore_n 1, 1) := by decide +kernel
theorem dX2_goToNextOrder_7 : decode cX2_goToNextOrder 7 = .ok (.iload_n 1, 1) := by decide +kernel
theorem dX2_goToNextOrder_8 : decode cX2_goToNextOrder 8 = .ok (.ifCond .lt 26, 3) := by decide +kernel
theorem dX2_goToNextOrder_11 : decode cX2_goToNextOrder 11 = .ok (.aload_n 0, 1) := by decide +kernel
theorem dX2_goToNextOrder_12 : decode cX2_goToNextOrder 12 = .ok (.getfield 15, 3) := by decide +kernel
theorem dX2_goToNextOrder_15 : decode cX2_goToNextOrder 15 = .ok (.iload_n 1, 1) := by decide +kernel
theorem dX2_goToNextOrder_16 : decode cX2_goToNextOrder 16 = .ok (.iaload, 1) := by decide +kernel
theorem dX2_goToNextOrder_17 : decode cX2_goToNextOrder 17 = .ok (.aload_n 0, 1) := by decide +kernel
theorem dX2_goToNextOrder_18 : decode cX2_goToNextOrder 18 = .ok (.getfield 15, 3) := by decide +kernel
theorem dX2_goToNextOrder_21 : decode cX2_goToNextOrder 21 = .ok (.iload_n 1, 1) := by decide +kernel
theorem dX2_goToNextOrder_22 : decode cX2_goToNextOrder 22 = .ok (.iconst 1, 1) := by decide +kernel
theorem dX2_goToNextOrder_23 : decode cX2_goToNextOrder 23 = .ok (.iadd, 1) := by decide +kernel
theorem dX2_goToNextOrder_24 : decode cX2_goToNextOrder 24 = .ok (.iaload, 1) := by decide +kernel
theorem dX2_goToNextOrder_25 : decode cX2_goToNextOrder 25 = .ok (.if_icmp .le 9, 3) := by decide +kernel
theorem dX2_goToNextOrder_28 : decode cX2_goToNextOrder 28 = .ok (.iinc 1 (-1), 3) := by decide +kernel
theorem dX2_goToNextOrder_31 : decode cX2_goToNextOrder 31 = .ok (.goto (-24), 3) := by decide +kernel
theorem dX2_goToNextOrder_34 : decode cX2_goToNextOrder 34 = .ok (.iload_n 1, 1) := by decide +kernel
theorem dX2_goToNextOrder_35 : decode cX2_goToNextOrder 35 = .ok (.ifCond .ge 5, 3) := by decide +kernel
theorem dX2_goToNextOrder_38 : decode cX2_goToNextOrder 38 = .ok (.iconst 0, 1) := by decide +kernel
theorem dX2_goToNextOrder_39 : decode cX2_goToNextOrder 39 = .ok (.ireturn, 1) := by decide +kernel
theorem dX2_goToNextOrder_40 : decode cX2_goToNextOrder 40 = .ok (.aload_n 0, 1) := by decide +kernel
theorem dX2_goToNextOrder_41 : decode cX2_goToNextOrder 41 = .ok (.getfield 53, 3) := by decide +kernel
theorem dX2_goToNextOrder_44 : decode cX2_goToNextOrder 44 = .ok (.iconst 1, 1) := by decide +kernel
theorem dX2_goToNextOrder_45 : decode cX2_goToNextOrder 45 = .ok (.isub, 1) := by decide +kernel
theorem dX2_goToNextOrder_46 : decode cX2_goToNextOrder 46 = .ok (.istore_n 2, 1) := by decide +kernel
theorem dX2_goToNextOrder_47 : decode cX2_goToNextOrder 47 = .ok (.iload_n 2, 1) := by decide +kernel
theorem dX2_goToNextOrder_48 : decode cX2_goToNextOrder 48 = .ok (.iload_n 1, 1) := by decide +kernel
theorem dX2_goToNextOrder_49 : decode cX2_goToNextOrder 49 = .ok (.if_icmp .le 24, 3) := by decide +kernel
theorem dX2_goToNextOrder_52 : decode cX2_goToNextOrder 52 = .ok (.aload_n 0, 1) := by decide +kernel
theorem dX2_goToNextOrder_53 : decode cX2_goToNextOrder 53 = .ok (.getfield 15, 3) := by decide +kernel
theorem dX2_goToNextOrder_56 : decode cX2_goToNextOrder 56 = .ok (.iload_n 2, 1) := by decide +kernel
theorem dX2_goToNextOrder_57 : decode cX2_goToNextOrder 57 = .ok (.iaload, 1) := by decide +kernel
theorem dX2_goToNextOrder_58 : decode cX2_goToNextOrder 58 = .ok (.aload_n 0, 1) := by decide +kernel
theorem dX2_goToNextOrder_59 : decode cX2_goToNextOrder 59 = .ok (.getfield 15, 3) := by decide +kernel
theorem dX2_goToNextOrder_62 : decode cX2_goToNextOrder 62 = .ok (.iload_n 1, 1) := by decide +kernel
theorem dX2_goToNextOrder_63 : decode cX2_goToNextOrder 63 = .ok (.iaload, 1) := by decide +kernel
theorem dX2_goToNextOrder_64 : decode cX2_goToNextOrder 64 = .ok (.if_icmp .ge 9, 3) := by decide +kernel
theorem dX2_goToNextOrder_67 : decode cX2_goToNextOrder 67 = .ok (.iinc 2 (-1), 3) := by decide +kernel
theorem dX2_goToNextOrder_70 : decode cX2_goToNextOrder 70 = .ok (.goto (-23), 3) := by decide +kernel
theorem dX2_goToNextOrder_73 : decode cX2_goToNextOrder 73 = .ok (.aload_n 0, 1) := by decide +kernel
theorem dX2_goToNextOrder_74 : decode cX2_goToNextOrder 74 = .ok (.iload_n 1, 1) := by decide +kernel
theorem dX2_goToNextOrder_75 : decode cX2_goToNextOrder 75 = .ok (.iload_n 2, 1) := by decide +kernel
theorem dX2_goToNextOrder_76 : decode cX2_goToNextOrder 76 = .ok (.invokevirtual 56, 3) := by decide +kernel
theorem dX2_goToNextOrder_79 : decode cX2_goToNextOrder 79 = .ok (.iload_n 1, 1) := by decide +kernel
theorem dX2_goToNextOrder_80 : decode cX2_goToNextOrder 80 = .ok (.iconst 1, 1) := by decide +kernel
theorem dX2_goToNextOrder_81 : decode cX2_goToNextOrder 81 = .ok (.iadd, 1) := by decide +kernel
theorem dX2_goToNextOrder_82 : decode cX2_goToNextOrder 82 = .ok (.istore_n 3, 1) := by decide +kernel
theorem dX2_goToNextOrder_83 : decode cX2_goToNextOrder 83 = .ok (.aload_n 0, 1) := by decide +kernel
theorem dX2_goToNextOrder_84 : decode cX2_goToNextOrder 84 = .ok (.getfield 53, 3) := by decide +kernel
theorem dX2_goToNextOrder_87 : decode cX2_goToNextOrder 87 = .ok (.iconst 1, 1) := by decide +kernel
theorem dX2_goToNextOrder_88 : decode cX2_goToNextOrder 88 = .ok (.isub, 1) := by decide +kernel
theorem dX2_goToNextOrder_89 : decode cX2_goToNextOrder 89 = .ok (.istore 4, 2) := by decide +kernel
theorem dX2_goToNextOrder_91 : decode cX2_goToNextOrder 91 = .ok (.iload_n 3, 1) := by decide +kernel
theorem dX2_goToNextOrder_92 : decode cX2_goToNextOrder 92 = .ok (.iload 4, 2) := by decide +kernel
theorem dX2_goToNextOrder_94 : decode cX2_goToNextOrder 94 = .ok (.if_icmp .ge 19, 3) := by decide +kernel
theorem dX2_goToNextOrder_97 : decode cX2_goToNextOrder 97 = .ok (.aload_n 0, 1) := by decide +kernel
theorem dX2_goToNextOrder_98 : decode cX2_goToNextOrder 98 = .ok (.iload_n 3, 1) := by decide +kernel
theorem dX2_goToNextOrder_99 : decode cX2_goToNextOrder 99 = .ok (.iload 4, 2) := by decide +kernel
theorem dX2_goToNextOrder_101 : decode cX2_goToNextOrder 101 = .ok (.invokevirtual 56, 3) := by decide +kernel
theorem dX2_goToNextOrder_104 : decode cX2_goToNextOrder 104 = .ok (.iinc 3 1, 3) := by decide +kernel
theorem dX2_goToNextOrder_107 : decode cX2_goToNextOrder 107 = .ok (.iinc 4 (-1), 3) := by decide +kernel
theorem dX2_goToNextOrder_110 : decode cX2_goToNextOrder 110 = .ok (.goto (-19), 3) := by decide +kernel
theorem dX2_goToNextOrder_113 : decode cX2_goToNextOrder 113 = .ok (.iconst 1, 1) := by decide +kernel
theorem dX2_goToNextOrder_114 : decode cX2_goToNextOrder 114 = .ok (.ireturn, 1) := by decide +kernel
theorem dX2_swapInOrder_0 : decode cX2_swapInOrder 0 = .ok (.aload_n 0, 1) := by decide +kernel
theorem dX2_swapInOrder_1 : decode cX2_swapInOrder 1 = .ok (.getfield 15, 3) := by decide +kernel
theorem dX2_swapInOrder_4 : decode cX2_swapInOrder 4 = .ok (.iload_n 1, 1) := by decide +kernel
theorem dX2_swapInOrder_5 : decode cX2_swapInOrder 5 = .ok (.iaload, 1) := by decide +kernel
theorem dX2_swapInOrder_6 : decode cX2_swapInOrder 6 = .ok (.istore_n 3, 1) := by decide +kernel
theorem dX2_swapInOrder_7 : decode cX2_swapInOrder 7 = .ok (.aload_n 0, 1) := by decide +kernel
theorem dX2_swapInOrder_8 : decode cX2_swapInOrder 8 = .ok (.getfield 15, 3) := by decide +kernel
theorem dX2_swapInOrder_11 : decode cX2_swapInOrder 11 = .ok (.iload_n 1, 1) := by decide +kernel
theorem dX2_swapInOrder_12 : decode cX2_swapInOrder 12 = .ok (.aload_n 0, 1) := by decide +kernel
theorem dX2_swapInOrder_13 : decode cX2_swapInOrder 13 = .ok (.getfield 15, 3) := by decide +kernel
theorem dX2_swapInOrder_16 : decode cX2_swapInOrder 16 = .ok (.iload_n 2, 1) := by decide +kernel
theorem dX2_swapInOrder_17 : decode cX2_swapInOrder 17 = .ok (.iaload, 1) := by decide +kernel
theorem dX2_swapInOrder_18 : decode cX2_swapInOrder 18 = .ok (.iastore, 1) := by decide +kernel
theorem dX2_swapInOrder_19 : decode cX2_swapInOrder 19 = .ok (.aload_n 0, 1) := by decide +kernel
theorem dX2_swapInOrder_20 : decode cX2_swapInOrder 20 = .ok (.getfield 15, 3) := by decide +kernel
theorem dX2_swapInOrder_23 : decode cX2_swapInOrder 23 = .ok (.iload_n 2, 1) := by decide +kernel
theorem dX2_swapInOrder_24 : decode cX2_swapInOrder 24 = .ok (.iload_n 3, 1) := by decide +kernel
theorem dX2_swapInOrder_25 : decode cX2_swapInOrder 25 = .ok (.iastore, 1) := by decide +kernel
theorem dX2_swapInOrder_26 : decode cX2_swapInOrder 26 = .ok (.return_, 1) := by decide +kernel
theorem dX2_hold_0 : decode cX2_hold 0 = .ok (.aload_n 0, 1) := by decide +kernel
theorem dX2_hold_1 : decode cX2_hold 1 = .ok (.getfield 18, 3) := by decide +kernel
theorem dX2_hold_4 : decode cX2_hold 4 = .ok (.bipush (-9), 2) := by decide +kernel
theorem dX2_hold_6 : decode cX2_hold 6 = .ok (.invokestatic 60, 3) := by decide +kernel
theorem dX2_hold_9 : decode cX2_hold 9 = .ok (.aload_n 0, 1) := by decide +kernel
theorem dX2_hold_10 : decode cX2_hold 10 = .ok (.getfield 21, 3) := by decide +kernel
theorem dX2_hold_13 : decode cX2_hold 13 = .ok (.bipush (-9), 2) := by decide +kernel
theorem dX2_hold_15 : decode cX2_hold 15 = .ok (.invokestatic 60, 3) := by decide +kernel
theorem dX2_hold_18 : decode cX2_hold 18 = .ok (.aload_n 0, 1) := by decide +kernel
theorem dX2_hold_19 : decode cX2_hold 19 = .ok (.aload_n 0, 1) := by decide +kernel
theorem dX2_hold_20 : decode cX2_hold 20 = .ok (.getfield 45, 3) := by decide +kernel
theorem dX2_hold_23 : decode cX2_hold 23 = .ok (.putfield 50, 3) := by decide +kernel
theorem dX2_hold_26 : decode cX2_hold 26 = .ok (.aload_n 0, 1) := by decide +kernel
theorem dX2_hold_27 : decode cX2_hold 27 = .ok (.iconst 0, 1) := by decide +kernel
theorem dX2_hold_28 : decode cX2_hold 28 = .ok (.putfield 66, 3) := by decide +kernel
theorem dX2_hold_31 : decode cX2_hold 31 = .ok (.aload_n 0, 1) := by decide +kernel
theorem dX2_hold_32 : decode cX2_hold 32 = .ok (.iconst 0, 1) := by decide +kernel
theorem dX2_hold_33 : decode cX2_hold 33 = .ok (.putfield 69, 3) := by decide +kernel
theorem dX2_hold_36 : decode cX2_hold 36 = .ok (.iconst 0, 1) := by decide +kernel
theorem dX2_hold_37 : decode cX2_hold 37 = .ok (.istore_n 1, 1) := by decide +kernel
theorem dX2_hold_38 : decode cX2_hold 38 = .ok (.iconst 0, 1) := by decide +kernel
theorem dX2_hold_39 : decode cX2_hold 39 = .ok (.istore_n 2, 1) := by decide +kernel
theorem dX2_hold_40 : decode cX2_hold 40 = .ok (.iload_n 2, 1) := by decide +kernel
theorem dX2_hold_41 : decode cX2_hold 41 = .ok (.aload_n 0, 1) := by decide +kernel
theorem dX2_hold_42 : decode cX2_hold 42 = .ok (.getfield 53, 3) := by decide +kernel
theorem dX2_hold_45 : decode cX2_hold 45 = .ok (.if_icmp .ge 116, 3) := by decide +kernel
theorem dX2_hold_48 : decode cX2_hold 48 = .ok (.aload_n 0, 1) := by decide +kernel
theorem dX2_hold_49 : decode cX2_hold 49 = .ok (.getfield 15, 3) := by decide +kernel
theorem dX2_hold_52 : decode cX2_hold 52 = .ok (.iload_n 2, 1) := by decide +kernel
theorem dX2_hold_53 : decode cX2_hold 53 = .ok (.iaload, 1) := by decide +kernel
theorem dX2_hold_54 : decode cX2_hold 54 = .ok (.istore_n 3, 1) := by decide +kernel
theorem dX2_hold_55 : decode cX2_hold 55 = .ok (.aload_n 0, 1) := by decide +kernel
theorem dX2_hold_56 : decode cX2_hold 56 = .ok (.getfield 21, 3) := by decide +kernel
theorem dX2_hold_59 : decode cX2_hold 59 = .ok (.aload_n 0, 1) := by decide +kernel
theorem dX2_hold_60 : decode cX2_hold 60 = .ok (.getfield 24, 3) := by decide +kernel
theorem dX2_hold_63 : decode cX2_hold 63 = .ok (.getfield 72, 3) := by decide +kernel
theorem dX2_hold_66 : decode cX2_hold 66 = .ok (.iload_n 3, 1) := by decide +kernel
theorem dX2_hold_67 : decode cX2_hold 67 = .ok (.iaload, 1) := by decide +kernel
theorem dX2_hold_68 : decode cX2_hold 68 = .ok (.iaload, 1) := by decide +kernel
theorem dX2_hold_69 : decode cX2_hold 69 = .ok (.bipush (-9), 2) := by decide +kernel
theorem dX2_hold_71 : decode cX2_hold 71 = .ok (.if_icmp .ne 7, 3) := by decide +kernel
theorem dX2_hold_74 : decode cX2_hold 74 = .ok (.iconst 1, 1) := by decide +kernel
theorem dX2_hold_75 : decode cX2_hold 75 = .ok (.goto 4, 3) := by decide +kernel
theorem dX2_hold_78 : decode cX2_hold 78 = .ok (.iconst 0, 1) := by decide +kernel
theorem dX2_hold_79 : decode cX2_hold 79 = .ok (.istore 4, 2) := by decide +kernel
theorem dX2_hold_81 : decode cX2_hold 81 = .ok (.aload_n 0, 1) := by decide +kernel
theorem dX2_hold_82 : decode cX2_hold 82 = .ok (.getfield 66, 3) := by decide +kernel
theorem dX2_hold_85 : decode cX2_hold 85 = .ok (.iload 4, 2) := by decide +kernel
theorem dX2_hold_87 : decode cX2_hold 87 = .ok (.ifCond .eq 15, 3) := by decide +kernel
theorem dX2_hold_90 : decode cX2_hold 90 = .ok (.aload_n 0, 1) := by decide +kernel
theorem dX2_hold_91 : decode cX2_hold 91 = .ok (.getfield 24, 3) := by decide +kernel
theorem dX2_hold_94 : decode cX2_hold 94 = .ok (.getfield 75, 3) := by decide +kernel
theorem dX2_hold_97 : decode cX2_hold 97 = .ok (.iload_n 3, 1) := by decide +kernel
theorem dX2_hold_98 : decode cX2_hold 98 = .ok (.iaload, 1) := by decide +kernel
theorem dX2_hold_99 : decode cX2_hold 99 = .ok (.goto 4, 3) := by decide +kernel
theorem dX2_hold_102 : decode cX2_hold 102 = .ok (.iconst 1, 1) := by decide +kernel
theorem dX2_hold_103 : decode cX2_hold 103 = .ok (.iadd, 1) := by decide +kernel
theorem dX2_hold_104 : decode cX2_hold 104 = .ok (.istore 5, 2) := by decide +kernel
theorem dX2_hold_106 : decode cX2_hold 106 = .ok (.iload_n 1, 1) := by decide +kernel
theorem dX2_hold_107 : decode cX2_hold 107 = .ok (.ifCond .ne 15, 3) := by decide +kernel
theorem dX2_hold_110 : decode cX2_hold 110 = .ok (.iload 5, 2) := by decide +kernel
theorem dX2_hold_112 : decode cX2_hold 112 = .ok (.aload_n 0, 1) := by decide +kernel
theorem dX2_hold_113 : decode cX2_hold 113 = .ok (.getfield 24, 3) := by decide +kernel
theorem dX2_hold_116 : decode cX2_hold 116 = .ok (.getfield 78, 3) := by decide +kernel
theorem dX2_hold_119 : decode cX2_hold 119 = .ok (.if_icmp .le 7, 3) := by decide +kernel
theorem dX2_hold_122 : decode cX2_hold 122 = .ok (.iconst 1, 1) := by decide +kernel
theorem dX2_hold_123 : decode cX2_hold 123 = .ok (.goto 4, 3) := by decide +kernel
theorem dX2_hold_126 : decode cX2_hold 126 = .ok (.iconst 0, 1) := by decide +kernel
theorem dX2_hold_127 : decode cX2_hold 127 = .ok (.istore_n 1, 1) := by decide +kernel
theorem dX2_hold_128 : decode cX2_hold 128 = .ok (.iload_n 1, 1) := by decide +kernel
theorem dX2_hold_129 : decode cX2_hold 129 = .ok (.ifCond .eq 13, 3) := by decide +kernel
theorem dX2_hold_132 : decode cX2_hold 132 = .ok (.aload_n 0, 1) := by decide +kernel
theorem dX2_hold_133 : decode cX2_hold 133 = .ok (.getfield 18, 3) := by decide +kernel
theorem dX2_hold_136 : decode cX2_hold 136 = .ok (.iload_n 3, 1) := by decide +kernel
theorem dX2_hold_137 : decode cX2_hold 137 = .ok (.iconst 2, 1) := by decide +kernel
theorem dX2_hold_138 : decode cX2_hold 138 = .ok (.iastore, 1) := by decide +kernel
theorem dX2_hold_139 : decode cX2_hold 139 = .ok (.goto 16, 3) := by decide +kernel
theorem dX2_hold_142 : decode cX2_hold 142 = .ok (.aload_n 0, 1) := by decide +kernel
theorem dX2_hold_143 : decode cX2_hold 143 = .ok (.iload 5, 2) := by decide +kernel
theorem dX2_hold_145 : decode cX2_hold 145 = .ok (.putfield 66, 3) := by decide +kernel
theorem dX2_hold_148 : decode cX2_hold 148 = .ok (.aload_n 0, 1) := by decide +kernel
theorem dX2_hold_149 : decode cX2_hold 149 = .ok (.iload_n 3, 1) := by decide +kernel
theorem dX2_hold_150 : decode cX2_hold 150 = .ok (.iload 4, 2) := by decide +kernel
theorem dX2_hold_152 : decode cX2_hold 152 = .ok (.invokevirtual 81, 3) := by decide +kernel
theorem dX2_hold_155 : decode cX2_hold 155 = .ok (.iinc 2 1, 3) := by decide +kernel
theorem dX2_hold_158 : decode cX2_hold 158 = .ok (.goto (-118), 3) := by decide +kernel
theorem dX2_hold_161 : decode cX2_hold 161 = .ok (.return_, 1) := by decide +kernel
theorem dX2_judge_0 : decode cX2_judge 0 = .ok (.aload_n 0, 1) := by decide +kernel
theorem dX2_judge_1 : decode cX2_judge 1 = .ok (.getfield 24, 3) := by decide +kernel
theorem dX2_judge_4 : decode cX2_judge 4 = .ok (.getfield 72, 3) := by decide +kernel
theorem dX2_judge_7 : decode cX2_judge 7 = .ok (.iload_n 1, 1) := by decide +kernel
theorem dX2_judge_8 : decode cX2_judge 8 = .ok (.iaload, 1) := by decide +kernel
theorem dX2_judge_9 : decode cX2_judge 9 = .ok (.istore_n 3, 1) := by decide +kernel
theorem dX2_judge_10 : decode cX2_judge 10 = .ok (.iload_n 2, 1) := by decide +kernel
theorem dX2_judge_11 : decode cX2_judge 11 = .ok (.ifCond .eq 42, 3) := by decide +kernel
theorem dX2_judge_14 : decode cX2_judge 14 = .ok (.aload_n 0, 1) := by decide +kernel
theorem dX2_judge_15 : decode cX2_judge 15 = .ok (.iload_n 3, 1) := by decide +kernel
theorem dX2_judge_16 : decode cX2_judge 16 = .ok (.aload_n 0, 1) := by decide +kernel
theorem dX2_judge_17 : decode cX2_judge 17 = .ok (.getfield 66, 3) := by decide +kernel
theorem dX2_judge_20 : decode cX2_judge 20 = .ok (.invokevirtual 85, 3) := by decide +kernel
theorem dX2_judge_23 : decode cX2_judge 23 = .ok (.invokestatic 89, 3) := by decide +kernel
theorem dX2_judge_26 : decode cX2_judge 26 = .ok (.istore 4, 2) := by decide +kernel
theorem dX2_judge_28 : decode cX2_judge 28 = .ok (.aload_n 0, 1) := by decide +kernel
theorem dX2_judge_29 : decode cX2_judge 29 = .ok (.getfield 21, 3) := by decide +kernel
theorem dX2_judge_32 : decode cX2_judge 32 = .ok (.iload_n 3, 1) := by decide +kernel
theorem dX2_judge_33 : decode cX2_judge 33 = .ok (.iconst 2, 1) := by decide +kernel
theorem dX2_judge_34 : decode cX2_judge 34 = .ok (.iload 4, 2) := by decide +kernel
theorem dX2_judge_36 : decode cX2_judge 36 = .ok (.imul, 1) := by decide +kernel
theorem dX2_judge_37 : decode cX2_judge 37 = .ok (.aload_n 0, 1) := by decide +kernel
theorem dX2_judge_38 : decode cX2_judge 38 = .ok (.invokevirtual 95, 3) := by decide +kernel
theorem dX2_judge_41 : decode cX2_judge 41 = .ok (.invokestatic 89, 3) := by decide +kernel
theorem dX2_judge_44 : decode cX2_judge 44 = .ok (.if_icmp .le 7, 3) := by decide +kernel
theorem dX2_judge_47 : decode cX2_judge 47 = .ok (.iconst 1, 1) := by decide +kernel
theorem dX2_judge_48 : decode cX2_judge 48 = .ok (.goto 4, 3) := by decide +kernel
theorem dX2_judge_51 : decode cX2_judge 51 = .ok (.iconst 0, 1) := by decide +kernel
theorem dX2_judge_52 : decode cX2_judge 52 = .ok (.iastore, 1) := by decide +kernel
theorem dX2_judge_53 : decode cX2_judge 53 = .ok (.aload_n 0, 1) := by decide +kernel
theorem dX2_judge_54 : decode cX2_judge 54 = .ok (.getfield 18, 3) := by decide +kernel
theorem dX2_judge_57 : decode cX2_judge 57 = .ok (.iload_n 1, 1) := by decide +kernel
theorem dX2_judge_58 : decode cX2_judge 58 = .ok (.aload_n 0, 1) := by decide +kernel
theorem dX2_judge_59 : decode cX2_judge 59 = .ok (.getfield 21, 3) := by decide +kernel
theorem dX2_judge_62 : decode cX2_judge 62 = .ok (.iload_n 3, 1) := by decide +kernel
theorem dX2_judge_63 : decode cX2_judge 63 = .ok (.iaload, 1) := by decide +kernel
theorem dX2_judge_64 : decode cX2_judge 64 = .ok (.iastore, 1) := by decide +kernel
theorem dX2_judge_65 : decode cX2_judge 65 = .ok (.aload_n 0, 1) := by decide +kernel
theorem dX2_judge_66 : decode cX2_judge 66 = .ok (.getfield 18, 3) := by decide +kernel
theorem dX2_judge_69 : decode cX2_judge 69 = .ok (.iload_n 1, 1) := by decide +kernel
theorem dX2_judge_70 : decode cX2_judge 70 = .ok (.iaload, 1) := by decide +kernel
theorem dX2_judge_71 : decode cX2_judge 71 = .ok (.iconst 1, 1) := by decide +kernel
theorem dX2_judge_72 : decode cX2_judge 72 = .ok (.if_icmp .ne 21, 3) := by decide +kernel
theorem dX2_judge_75 : decode cX2_judge 75 = .ok (.aload_n 0, 1) := by decide +kernel
theorem dX2_judge_76 : decode cX2_judge 76 = .ok (.dup, 1) := by decide +kernel
theorem dX2_judge_77 : decode cX2_judge 77 = .ok (.getfield 69, 3) := by decide +kernel
theorem dX2_judge_80 : decode cX2_judge 80 = .ok (.aload_n 0, 1) := by decide +kernel
theorem dX2_judge_81 : decode cX2_judge 81 = .ok (.getfield 24, 3) := by decide +kernel
theorem dX2_judge_84 : decode cX2_judge 84 = .ok (.getfield 99, 3) := by decide +kernel
theorem dX2_judge_87 : decode cX2_judge 87 = .ok (.iload_n 1, 1) := by decide +kernel
theorem dX2_judge_88 : decode cX2_judge 88 = .ok (.iaload, 1) := by decide +kernel
theorem dX2_judge_89 : decode cX2_judge 89 = .ok (.iadd, 1) := by decide +kernel
theorem dX2_judge_90 : decode cX2_judge 90 = .ok (.putfield 69, 3) := by decide +kernel
theorem dX2_judge_93 : decode cX2_judge 93 = .ok (.return_, 1) := by decide +kernel
theorem dX2_voters_0 : decode cX2_voters 0 = .ok (.iconst 1, 1) := by decide +kernel
theorem dX2_voters_1 : decode cX2_voters 1 = .ok (.aload_n 0, 1) := by decide +kernel
theorem dX2_voters_2 : decode cX2_voters 2 = .ok (.getfield 24, 3) := by decide +kernel
theorem dX2_voters_5 : decode cX2_voters 5 = .ok (.getfield 102, 3) := by decide +kernel
theorem dX2_voters_8 : decode cX2_voters 8 = .ok (.ishl, 1) := by decide +kernel
theorem dX2_voters_9 : decode cX2_voters 9 = .ok (.iconst 1, 1) := by decide +kernel
theorem dX2_voters_10 : decode cX2_voters 10 = .ok (.isub, 1) := by decide +kernel
theorem dX2_voters_11 : decode cX2_voters 11 = .ok (.istore_n 1, 1) := by decide +kernel
theorem dX2_voters_12 : decode cX2_voters 12 = .ok (.iload_n 1, 1) := by decide +kernel
theorem dX2_voters_13 : decode cX2_voters 13 = .ok (.aload_n 0, 1) := by decide +kernel
theorem dX2_voters_14 : decode cX2_voters 14 = .ok (.getfield 49, 3) := by decide +kernel
theorem dX2_voters_17 : decode cX2_voters 17 = .ok (.iconst (-1), 1) := by decide +kernel
theorem dX2_voters_18 : decode cX2_voters 18 = .ok (.ixor, 1) := by decide +kernel
theorem dX2_voters_19 : decode cX2_voters 19 = .ok (.iand, 1) := by decide +kernel
theorem dX2_voters_20 : decode cX2_voters 20 = .ok (.ireturn, 1) := by decide +kernel
theorem dX2_guiltyVotes_0 : decode cX2_guiltyVotes 0 = .ok (.aload_n 0, 1) := by decide +kernel
theorem dX2_guiltyVotes_1 : decode cX2_guiltyVotes 1 = .ok (.getfield 41, 3) := by decide +kernel
theorem dX2_guiltyVotes_4 : decode cX2_guiltyVotes 4 = .ok (.iload_n 1, 1) := by decide +kernel
theorem dX2_guiltyVotes_5 : decode cX2_guiltyVotes 5 = .ok (.invokestatic 105, 3) := by decide +kernel
theorem dX2_guiltyVotes_8 : decode cX2_guiltyVotes 8 = .ok (.iconst 1, 1) := by decide +kernel
theorem dX2_guiltyVotes_9 : decode cX2_guiltyVotes 9 = .ok (.if_icmp .ne 7, 3) := by decide +kernel
theorem dX2_guiltyVotes_12 : decode cX2_guiltyVotes 12 = .ok (.iconst 1, 1) := by decide +kernel
theorem dX2_guiltyVotes_13 : decode cX2_guiltyVotes 13 = .ok (.goto 4, 3) := by decide +kernel
theorem dX2_guiltyVotes_16 : decode cX2_guiltyVotes 16 = .ok (.iconst 0, 1) := by decide +kernel
theorem dX2_guiltyVotes_17 : decode cX2_guiltyVotes 17 = .ok (.istore_n 3, 1) := by decide +kernel
theorem dX2_guiltyVotes_18 : decode cX2_guiltyVotes 18 = .ok (.aload_n 0, 1) := by decide +kernel
theorem dX2_guiltyVotes_19 : decode cX2_guiltyVotes 19 = .ok (.invokevirtual 95, 3) := by decide +kernel
theorem dX2_guiltyVotes_22 : decode cX2_guiltyVotes 22 = .ok (.istore 4, 2) := by decide +kernel
theorem dX2_guiltyVotes_24 : decode cX2_guiltyVotes 24 = .ok (.iconst 0, 1) := by decide +kernel
theorem dX2_guiltyVotes_25 : decode cX2_guiltyVotes 25 = .ok (.istore 5, 2) := by decide +kernel
theorem dX2_guiltyVotes_27 : decode cX2_guiltyVotes 27 = .ok (.iconst 0, 1) := by decide +kernel
theorem dX2_guiltyVotes_28 : decode cX2_guiltyVotes 28 = .ok (.istore 6, 2) := by decide +kernel
theorem dX2_guiltyVotes_30 : decode cX2_guiltyVotes 30 = .ok (.iload 6, 2) := by decide +kernel
theorem dX2_guiltyVotes_32 : decode cX2_guiltyVotes 32 = .ok (.aload_n 0, 1) := by decide +kernel
theorem dX2_guiltyVotes_33 : decode cX2_guiltyVotes 33 = .ok (.getfield 24, 3) := by decide +kernel
theorem dX2_guiltyVotes_36 : decode cX2_guiltyVotes 36 = .ok (.getfield 102, 3) := by decide +kernel
theorem dX2_guiltyVotes_39 : decode cX2_guiltyVotes 39 = .ok (.if_icmp .ge 40, 3) := by decide +kernel
theorem dX2_guiltyVotes_42 : decode cX2_guiltyVotes 42 = .ok (.iload 4, 2) := by decide +kernel
theorem dX2_guiltyVotes_44 : decode cX2_guiltyVotes 44 = .ok (.iload 6, 2) := by decide +kernel
theorem dX2_guiltyVotes_46 : decode cX2_guiltyVotes 46 = .ok (.invokestatic 105, 3) := by decide +kernel
theorem dX2_guiltyVotes_49 : decode cX2_guiltyVotes 49 = .ok (.iconst 1, 1) := by decide +kernel
theorem dX2_guiltyVotes_50 : decode cX2_guiltyVotes 50 = .ok (.if_icmp .ne 23, 3) := by decide +kernel
theorem dX2_guiltyVotes_53 : decode cX2_guiltyVotes 53 = .ok (.aload_n 0, 1) := by decide +kernel
theorem dX2_guiltyVotes_54 : decode cX2_guiltyVotes 54 = .ok (.iload 6, 2) := by decide +kernel
theorem dX2_guiltyVotes_56 : decode cX2_guiltyVotes 56 = .ok (.iload_n 3, 1) := by decide +kernel
theorem dX2_guiltyVotes_57 : decode cX2_guiltyVotes 57 = .ok (.iload_n 2, 1) := by decide +kernel
theorem dX2_guiltyVotes_58 : decode cX2_guiltyVotes 58 = .ok (.invokevirtual 108, 3) := by decide +kernel
theorem dX2_guiltyVotes_61 : decode cX2_guiltyVotes 61 = .ok (.ifCond .eq 12, 3) := by decide +kernel
theorem dX2_guiltyVotes_64 : decode cX2_guiltyVotes 64 = .ok (.iload 5, 2) := by decide +kernel
theorem dX2_guiltyVotes_66 : decode cX2_guiltyVotes 66 = .ok (.iconst 1, 1) := by decide +kernel
theorem dX2_guiltyVotes_67 : decode cX2_guiltyVotes 67 = .ok (.iload 6, 2) := by decide +kernel
theorem dX2_guiltyVotes_69 : decode cX2_guiltyVotes 69 = .ok (.ishl, 1) := by decide +kernel
theorem dX2_guiltyVotes_70 : decode cX2_guiltyVotes 70 = .ok (.ior, 1) := by decide +kernel
theorem dX2_guiltyVotes_71 : decode cX2_guiltyVotes 71 = .ok (.istore 5, 2) := by decide +kernel
theorem dX2_guiltyVotes_73 : decode cX2_guiltyVotes 73 = .ok (.iinc 6 1, 3) := by decide +kernel
theorem dX2_guiltyVotes_76 : decode cX2_guiltyVotes 76 = .ok (.goto (-46), 3) := by decide +kernel
theorem dX2_guiltyVotes_79 : decode cX2_guiltyVotes 79 = .ok (.iload 5, 2) := by decide +kernel
theorem dX2_guiltyVotes_81 : decode cX2_guiltyVotes 81 = .ok (.ireturn, 1) := by decide +kernel
theorem dX2_votesGuilty_0 : decode cX2_votesGuilty 0 = .ok (.aload_n 0, 1) := by decide +kernel
theorem dX2_votesGuilty_1 : decode cX2_votesGuilty 1 = .ok (.getfield 9, 3) := by decide +kernel
theorem dX2_votesGuilty_4 : decode cX2_votesGuilty 4 = .ok (.iload_n 1, 1) := by decide +kernel
theorem dX2_votesGuilty_5 : decode cX2_votesGuilty 5 = .ok (.iaload, 1) := by decide +kernel
theorem dX2_votesGuilty_6 : decode cX2_votesGuilty 6 = .ok (.iconst 2, 1) := by decide +kernel
theorem dX2_votesGuilty_7 : decode cX2_votesGuilty 7 = .ok (.if_icmp .ne 30, 3) := by decide +kernel
theorem dX2_votesGuilty_10 : decode cX2_votesGuilty 10 = .ok (.aload_n 0, 1) := by decide +kernel
theorem dX2_votesGuilty_11 : decode cX2_votesGuilty 11 = .ok (.getfield 50, 3) := by decide +kernel
theorem dX2_votesGuilty_14 : decode cX2_votesGuilty 14 = .ok (.iconst 1, 1) := by decide +kernel
theorem dX2_votesGuilty_15 : decode cX2_votesGuilty 15 = .ok (.iload_n 1, 1) := by decide +kernel
theorem dX2_votesGuilty_16 : decode cX2_votesGuilty 16 = .ok (.ishl, 1) := by decide +kernel
theorem dX2_votesGuilty_17 : decode cX2_votesGuilty 17 = .ok (.iand, 1) := by decide +kernel
theorem dX2_votesGuilty_18 : decode cX2_votesGuilty 18 = .ok (.ifCond .eq 19, 3) := by decide +kernel
theorem dX2_votesGuilty_21 : decode cX2_votesGuilty 21 = .ok (.aload_n 0, 1) := by decide +kernel
theorem dX2_votesGuilty_22 : decode cX2_votesGuilty 22 = .ok (.dup, 1) := by decide +kernel
theorem dX2_votesGuilty_23 : decode cX2_votesGuilty 23 = .ok (.getfield 50, 3) := by decide +kernel
theorem dX2_votesGuilty_26 : decode cX2_votesGuilty 26 = .ok (.iconst 1, 1) := by decide +kernel
theorem dX2_votesGuilty_27 : decode cX2_votesGuilty 27 = .ok (.iload_n 1, 1) := by decide +kernel
theorem dX2_votesGuilty_28 : decode cX2_votesGuilty 28 = .ok (.ishl, 1) := by decide +kernel
theorem dX2_votesGuilty_29 : decode cX2_votesGuilty 29 = .ok (.iconst (-1), 1) := by decide +kernel
theorem dX2_votesGuilty_30 : decode cX2_votesGuilty 30 = .ok (.ixor, 1) := by decide +kernel
theorem dX2_votesGuilty_31 : decode cX2_votesGuilty 31 = .ok (.iand, 1) := by decide +kernel
theorem dX2_votesGuilty_32 : decode cX2_votesGuilty 32 = .ok (.putfield 50, 3) := by decide +kernel
theorem dX2_votesGuilty_35 : decode cX2_votesGuilty 35 = .ok (.iconst 0, 1) := by decide +kernel
theorem dX2_votesGuilty_36 : decode cX2_votesGuilty 36 = .ok (.ireturn, 1) := by decide +kernel
theorem dX2_votesGuilty_37 : decode cX2_votesGuilty 37 = .ok (.iload_n 2, 1) := by decide +kernel
theorem dX2_votesGuilty_38 : decode cX2_votesGuilty 38 = .ok (.ifCond .ne 28, 3) := by decide +kernel
theorem dX2_votesGuilty_41 : decode cX2_votesGuilty 41 = .ok (.aload_n 0, 1) := by decide +kernel
theorem dX2_votesGuilty_42 : decode cX2_votesGuilty 42 = .ok (.getfield 9, 3) := by decide +kernel
theorem dX2_votesGuilty_45 : decode cX2_votesGuilty 45 = .ok (.iload_n 1, 1) := by decide +kernel
theorem dX2_votesGuilty_46 : decode cX2_votesGuilty 46 = .ok (.iaload, 1) := by decide +kernel
theorem dX2_votesGuilty_47 : decode cX2_votesGuilty 47 = .ok (.iconst 1, 1) := by decide +kernel
theorem dX2_votesGuilty_48 : decode cX2_votesGuilty 48 = .ok (.if_icmp .ne 22, 3) := by decide +kernel
theorem dX2_votesGuilty_51 : decode cX2_votesGuilty 51 = .ok (.iload_n 3, 1) := by decide +kernel
theorem dX2_votesGuilty_52 : decode cX2_votesGuilty 52 = .ok (.iconst 5, 1) := by decide +kernel
theorem dX2_votesGuilty_53 : decode cX2_votesGuilty 53 = .ok (.aload_n 0, 1) := by decide +kernel
theorem dX2_votesGuilty_54 : decode cX2_votesGuilty 54 = .ok (.getfield 24, 3) := by decide +kernel
theorem dX2_votesGuilty_57 : decode cX2_votesGuilty 57 = .ok (.getfield 112, 3) := by decide +kernel
theorem dX2_votesGuilty_60 : decode cX2_votesGuilty 60 = .ok (.iload_n 1, 1) := by decide +kernel
theorem dX2_votesGuilty_61 : decode cX2_votesGuilty 61 = .ok (.iaload, 1) := by decide +kernel
theorem dX2_votesGuilty_62 : decode cX2_votesGuilty 62 = .ok (.imul, 1) := by decide +kernel
theorem dX2_votesGuilty_63 : decode cX2_votesGuilty 63 = .ok (.if_icmp .lt 7, 3) := by decide +kernel
theorem dX2_votesGuilty_66 : decode cX2_votesGuilty 66 = .ok (.iconst 1, 1) := by decide +kernel
theorem dX2_votesGuilty_67 : decode cX2_votesGuilty 67 = .ok (.goto 4, 3) := by decide +kernel
theorem dX2_votesGuilty_70 : decode cX2_votesGuilty 70 = .ok (.iconst 0, 1) := by decide +kernel
theorem dX2_votesGuilty_71 : decode cX2_votesGuilty 71 = .ok (.ireturn, 1) := by decide +kernel
theorem dX3_init_0 : decode cX3_init 0 = .ok (.aload_n 0, 1) := by decide +kernel
theorem dX3_init_1 : decode cX3_init 1 = .ok (.invokespecial 3, 3) := by decide +kernel
theorem dX3_init_4 : decode cX3_init 4 = .ok (.aload_n 0, 1) := by decide +kernel
theorem dX3_init_5 : decode cX3_init 5 = .ok (.bipush 60, 2) := by decide +kernel
theorem dX3_init_7 : decode cX3_init 7 = .ok (.newarray .int, 2) := by decide +kernel
theorem dX3_init_9 : decode cX3_init 9 = .ok (.putfield 9, 3) := by decide +kernel
theorem dX3_init_12 : decode cX3_init 12 = .ok (.return_, 1) := by decide +kernel
theorem dX3_firstFault_0 : decode cX3_firstFault 0 = .ok (.aload_n 1, 1) := by decide +kernel
theorem dX3_firstFault_1 : decode cX3_firstFault 1 = .ok (.getfield 15, 3) := by decide +kernel
theorem dX3_firstFault_4 : decode cX3_firstFault 4 = .ok (.iload_n 2, 1) := by decide +kernel
theorem dX3_firstFault_5 : decode cX3_firstFault 5 = .ok (.aload_n 0, 1) := by decide +kernel
theorem dX3_firstFault_6 : decode cX3_firstFault 6 = .ok (.getfield 9, 3) := by decide +kernel
theorem dX3_firstFault_9 : decode cX3_firstFault 9 = .ok (.iconst 0, 1) := by decide +kernel
theorem dX3_firstFault_10 : decode cX3_firstFault 10 = .ok (.iload_n 3, 1) := by decide +kernel
theorem dX3_firstFault_11 : decode cX3_firstFault 11 = .ok (.invokestatic 20, 3) := by decide +kernel
theorem dX3_firstFault_14 : decode cX3_firstFault 14 = .ok (.aload_n 0, 1) := by decide +kernel
theorem dX3_firstFault_15 : decode cX3_firstFault 15 = .ok (.iload_n 3, 1) := by decide +kernel
theorem dX3_firstFault_16 : decode cX3_firstFault 16 = .ok (.putfield 26, 3) := by decide +kernel
theorem dX3_firstFault_19 : decode cX3_firstFault 19 = .ok (.aload_n 0, 1) := by decide +kernel
theorem dX3_firstFault_20 : decode cX3_firstFault 20 = .ok (.bipush (-9), 2) := by decide +kernel
theorem dX3_firstFault_22 : decode cX3_firstFault 22 = .ok (.putfield 30, 3) := by decide +kernel
theorem dX3_firstFault_25 : decode cX3_firstFault 25 = .ok (.iconst 0, 1) := by decide +kernel
theorem dX3_firstFault_26 : decode cX3_firstFault 26 = .ok (.istore 4, 2) := by decide +kernel
theorem dX3_firstFault_28 : decode cX3_firstFault 28 = .ok (.iload 4, 2) := by decide +kernel
theorem dX3_firstFault_30 : decode cX3_firstFault 30 = .ok (.iload_n 3, 1) := by decide +kernel
theorem dX3_firstFault_31 : decode cX3_firstFault 31 = .ok (.if_icmp .ge 48, 3) := by decide +kernel
theorem dX3_firstFault_34 : decode cX3_firstFault 34 = .ok (.aload_n 0, 1) := by decide +kernel
theorem dX3_firstFault_35 : decode cX3_firstFault 35 = .ok (.iload 4, 2) := by decide +kernel
theorem dX3_firstFault_37 : decode cX3_firstFault 37 = .ok (.invokevirtual 33, 3) := by decide +kernel
theorem dX3_firstFault_40 : decode cX3_firstFault 40 = .ok (.ifCond .ne 6, 3) := by decide +kernel
theorem dX3_firstFault_43 : decode cX3_firstFault 43 = .ok (.iload 4, 2) := by decide +kernel
theorem dX3_firstFault_45 : decode cX3_firstFault 45 = .ok (.ireturn, 1) := by decide +kernel
theorem dX3_firstFault_46 : decode cX3_firstFault 46 = .ok (.aload_n 0, 1) := by decide +kernel
theorem dX3_firstFault_47 : decode cX3_firstFault 47 = .ok (.getfield 30, 3) := by decide +kernel
theorem dX3_firstFault_50 : decode cX3_firstFault 50 = .ok (.bipush (-9), 2) := by decide +kernel
theorem dX3_firstFault_52 : decode cX3_firstFault 52 = .ok (.if_icmp .ne 21, 3) := by decide +kernel
theorem dX3_firstFault_55 : decode cX3_firstFault 55 = .ok (.aload_n 0, 1) := by decide +kernel
theorem dX3_firstFault_56 : decode cX3_firstFault 56 = .ok (.getfield 9, 3) := by decide +kernel
theorem dX3_firstFault_59 : decode cX3_firstFault 59 = .ok (.iload 4, 2) := by decide +kernel
theorem dX3_firstFault_61 : decode cX3_firstFault 61 = .ok (.iaload, 1) := by decide +kernel
theorem dX3_firstFault_62 : decode cX3_firstFault 62 = .ok (.bipush 59, 2) := by decide +kernel
theorem dX3_firstFault_64 : decode cX3_firstFault 64 = .ok (.if_icmp .ne 9, 3) := by decide +kernel
theorem dX3_firstFault_67 : decode cX3_firstFault 67 = .ok (.aload_n 0, 1) := by decide +kernel
theorem dX3_firstFault_68 : decode cX3_firstFault 68 = .ok (.iload 4, 2) := by decide +kernel
theorem dX3_firstFault_70 : decode cX3_firstFault 70 = .ok (.putfield 30, 3) := by decide +kernel
theorem dX3_firstFault_73 : decode cX3_firstFault 73 = .ok (.iinc 4 1, 3) := by decide +kernel
theorem dX3_firstFault_76 : decode cX3_firstFault 76 = .ok (.goto (-48), 3) := by decide +kernel
theorem dX3_firstFault_79 : decode cX3_firstFault 79 = .ok (.aload_n 0, 1) := by decide +kernel
theorem dX3_firstFault_80 : decode cX3_firstFault 80 = .ok (.invokevirtual 37, 3) := by decide +kernel
theorem dX3_firstFault_83 : decode cX3_firstFault 83 = .ok (.ifCond .eq 8, 3) := by decide +kernel
theorem dX3_firstFault_86 : decode cX3_firstFault 86 = .ok (.bipush (-9), 2) := by decide +kernel
theorem dX3_firstFault_88 : decode cX3_firstFault 88 = .ok (.goto 4, 3) := by decide +kernel
theorem dX3_firstFault_91 : decode cX3_firstFault 91 = .ok (.iload_n 3, 1) := by decide +kernel
theorem dX3_firstFault_92 : decode cX3_firstFault 92 = .ok (.ireturn, 1) := by decide +kernel
theorem dX3_goesOn_0 : decode cX3_goesOn 0 = .ok (.iload_n 1, 1) := by decide +kernel
theorem dX3_goesOn_1 : decode cX3_goesOn 1 = .ok (.ifCond .ne 20, 3) := by decide +kernel
theorem dX3_goesOn_4 : decode cX3_goesOn 4 = .ok (.aload_n 0, 1) := by decide +kernel
theorem dX3_goesOn_5 : decode cX3_goesOn 5 = .ok (.getfield 9, 3) := by decide +kernel
theorem dX3_goesOn_8 : decode cX3_goesOn 8 = .ok (.iload_n 1, 1) := by decide +kernel
theorem dX3_goesOn_9 : decode cX3_goesOn 9 = .ok (.iaload, 1) := by decide +kernel
theorem dX3_goesOn_10 : decode cX3_goesOn 10 = .ok (.bipush 107, 2) := by decide +kernel
theorem dX3_goesOn_12 : decode cX3_goesOn 12 = .ok (.if_icmp .ne 7, 3) := by decide +kernel
theorem dX3_goesOn_15 : decode cX3_goesOn 15 = .ok (.iconst 1, 1) := by decide +kernel
theorem dX3_goesOn_16 : decode cX3_goesOn 16 = .ok (.goto 4, 3) := by decide +kernel
theorem dX3_goesOn_19 : decode cX3_goesOn 19 = .ok (.iconst 0, 1) := by decide +kernel
theorem dX3_goesOn_20 : decode cX3_goesOn 20 = .ok (.ireturn, 1) := by decide +kernel
theorem dX3_goesOn_21 : decode cX3_goesOn 21 = .ok (.iload_n 1, 1) := by decide +kernel
theorem dX3_goesOn_22 : decode cX3_goesOn 22 = .ok (.iconst 3, 1) := by decide +kernel
theorem dX3_goesOn_23 : decode cX3_goesOn 23 = .ok (.if_icmp .ge 9, 3) := by decide +kernel
theorem dX3_goesOn_26 : decode cX3_goesOn 26 = .ok (.aload_n 0, 1) := by decide +kernel
theorem dX3_goesOn_27 : decode cX3_goesOn 27 = .ok (.iload_n 1, 1) := by decide +kernel
theorem dX3_goesOn_28 : decode cX3_goesOn 28 = .ok (.invokevirtual 41, 3) := by decide +kernel
theorem dX3_goesOn_31 : decode cX3_goesOn 31 = .ok (.ireturn, 1) := by decide +kernel
theorem dX3_goesOn_32 : decode cX3_goesOn 32 = .ok (.aload_n 0, 1) := by decide +kernel
theorem dX3_goesOn_33 : decode cX3_goesOn 33 = .ok (.getfield 30, 3) := by decide +kernel
theorem dX3_goesOn_36 : decode cX3_goesOn 36 = .ok (.bipush (-9), 2) := by decide +kernel
theorem dX3_goesOn_38 : decode cX3_goesOn 38 = .ok (.if_icmp .ne 11, 3) := by decide +kernel
theorem dX3_goesOn_41 : decode cX3_goesOn 41 = .ok (.aload_n 0, 1) := by decide +kernel
theorem dX3_goesOn_42 : decode cX3_goesOn 42 = .ok (.iload_n 1, 1) := by decide +kernel
theorem dX3_goesOn_43 : decode cX3_goesOn 43 = .ok (.invokevirtual 44, 3) := by decide +kernel
theorem dX3_goesOn_46 : decode cX3_goesOn 46 = .ok (.goto 8, 3) := by decide +kernel
theorem dX3_goesOn_49 : decode cX3_goesOn 49 = .ok (.aload_n 0, 1) := by decide +kernel
theorem dX3_goesOn_50 : decode cX3_goesOn 50 = .ok (.iload_n 1, 1) := by decide +kernel
theorem dX3_goesOn_51 : decode cX3_goesOn 51 = .ok (.invokevirtual 47, 3) := by decide +kernel
theorem dX3_goesOn_54 : decode cX3_goesOn 54 = .ok (.ireturn, 1) := by decide +kernel
theorem dX3_goesOnInMinutes_0 : decode cX3_goesOnInMinutes 0 = .ok (.iload_n 1, 1) := by decide +kernel
theorem dX3_goesOnInMinutes_1 : decode cX3_goesOnInMinutes 1 = .ok (.iconst 1, 1) := by decide +kernel
theorem dX3_goesOnInMinutes_2 : decode cX3_goesOnInMinutes 2 = .ok (.if_icmp .ne 12, 3) := by decide +kernel
theorem dX3_goesOnInMinutes_5 : decode cX3_goesOnInMinutes 5 = .ok (.aload_n 0, 1) := by decide +kernel
theorem dX3_goesOnInMinutes_6 : decode cX3_goesOnInMinutes 6 = .ok (.iload_n 1, 1) := by decide +kernel
theorem dX3_goesOnInMinutes_7 : decode cX3_goesOnInMinutes 7 = .ok (.iconst 0, 1) := by decide +kernel
theorem dX3_goesOnInMinutes_8 : decode cX3_goesOnInMinutes 8 = .ok (.bipush 6, 2) := by decide +kernel
theorem dX3_goesOnInMinutes_10 : decode cX3_goesOnInMinutes 10 = .ok (.invokevirtual 50, 3) := by decide +kernel
theorem dX3_goesOnInMinutes_13 : decode cX3_goesOnInMinutes 13 = .ok (.ireturn, 1) := by decide +kernel
theorem dX3_goesOnInMinutes_14 : decode cX3_goesOnInMinutes 14 = .ok (.aload_n 0, 1) := by decide +kernel
theorem dX3_goesOnInMinutes_15 : decode cX3_goesOnInMinutes 15 = .ok (.iload_n 1, 1) := by decide +kernel
theorem dX3_goesOnInMinutes_16 : decode cX3_goesOnInMinutes 16 = .ok (.iconst 0, 1) := by decide +kernel
theorem dX3_goesOnInMinutes_17 : decode cX3_goesOnInMinutes 17 = .ok (.bipush 9, 2) := by decide +kernel
theorem dX3_goesOnInMinutes_19 : decode cX3_goesOnInMinutes 19 = .ok (.invokevirtual 50, 3) := by decide +kernel
theorem dX3_goesOnInMinutes_22 : decode cX3_goesOnInMinutes 22 = .ok (.ifCond .eq 24, 3) := by decide +kernel
theorem dX3_goesOnInMinutes_25 : decode cX3_goesOnInMinutes 25 = .ok (.aload_n 0, 1) := by decide +kernel
theorem dX3_goesOnInMinutes_26 : decode cX3_goesOnInMinutes 26 = .ok (.invokevirtual 54, 3) := by decide +kernel
theorem dX3_goesOnInMinutes_29 : decode cX3_goesOnInMinutes 29 = .ok (.iconst 5, 1) := by decide +kernel
theorem dX3_goesOnInMinutes_30 : decode cX3_goesOnInMinutes 30 = .ok (.if_icmp .lt 16, 3) := by decide +kernel
theorem dX3_goesOnInMinutes_33 : decode cX3_goesOnInMinutes 33 = .ok (.aload_n 0, 1) := by decide +kernel
theorem dX3_goesOnInMinutes_34 : decode cX3_goesOnInMinutes 34 = .ok (.invokevirtual 54, 3) := by decide +kernel
theorem dX3_goesOnInMinutes_37 : decode cX3_goesOnInMinutes 37 = .ok (.bipush 60, 2) := by decide +kernel
theorem dX3_goesOnInMinutes_39 : decode cX3_goesOnInMinutes 39 = .ok (.if_icmp .gt 7, 3) := by decide +kernel
theorem dX3_goesOnInMinutes_42 : decode cX3_goesOnInMinutes 42 = .ok (.iconst 1, 1) := by decide +kernel
theorem dX3_goesOnInMinutes_43 : decode cX3_goesOnInMinutes 43 = .ok (.goto 4, 3) := by decide +kernel
theorem dX3_goesOnInMinutes_46 : decode cX3_goesOnInMinutes 46 = .ok (.iconst 0, 1) := by decide +kernel
theorem dX3_goesOnInMinutes_47 : decode cX3_goesOnInMinutes 47 = .ok (.ireturn, 1) := by decide +kernel
theorem dX3_goesOnInJurors_0 : decode cX3_goesOnInJurors 0 = .ok (.iload_n 1, 1) := by decide +kernel
theorem dX3_goesOnInJurors_1 : decode cX3_goesOnInJurors 1 = .ok (.iconst 3, 1) := by decide +kernel
theorem dX3_goesOnInJurors_2 : decode cX3_goesOnInJurors 2 = .ok (.isub, 1) := by decide +kernel
theorem dX3_goesOnInJurors_3 : decode cX3_goesOnInJurors 3 = .ok (.iconst 3, 1) := by decide +kernel
theorem dX3_goesOnInJurors_4 : decode cX3_goesOnInJurors 4 = .ok (.idiv, 1) := by decide +kernel
theorem dX3_goesOnInJurors_5 : decode cX3_goesOnInJurors 5 = .ok (.istore_n 2, 1) := by decide +kernel
theorem dX3_goesOnInJurors_6 : decode cX3_goesOnInJurors 6 = .ok (.iload_n 1, 1) := by decide +kernel
theorem dX3_goesOnInJurors_7 : decode cX3_goesOnInJurors 7 = .ok (.iconst 3, 1) := by decide +kernel
theorem dX3_goesOnInJurors_8 : decode cX3_goesOnInJurors 8 = .ok (.isub, 1) := by decide +kernel
theorem dX3_goesOnInJurors_9 : decode cX3_goesOnInJurors 9 = .ok (.iconst 3, 1) := by decide +kernel
theorem dX3_goesOnInJurors_10 : decode cX3_goesOnInJurors 10 = .ok (.irem, 1) := by decide +kernel
theorem dX3_goesOnInJurors_11 : decode cX3_goesOnInJurors 11 = .ok (.lookupswitch 78 #[(0, 25), (1, 62)], 25) := by decide +kernel
theorem dX3_goesOnInJurors_36 : decode cX3_goesOnInJurors 36 = .ok (.aload_n 0, 1) := by decide +kernel
theorem dX3_goesOnInJurors_37 : decode cX3_goesOnInJurors 37 = .ok (.getfield 9, 3) := by decide +kernel
theorem dX3_goesOnInJurors_40 : decode cX3_goesOnInJurors 40 = .ok (.iload_n 1, 1) := by decide +kernel
theorem dX3_goesOnInJurors_41 : decode cX3_goesOnInJurors 41 = .ok (.iaload, 1) := by decide +kernel
theorem dX3_goesOnInJurors_42 : decode cX3_goesOnInJurors 42 = .ok (.bipush 44, 2) := by decide +kernel
theorem dX3_goesOnInJurors_44 : decode cX3_goesOnInJurors 44 = .ok (.if_icmp .ne 8, 3) := by decide +kernel
theorem dX3_goesOnInJurors_47 : decode cX3_goesOnInJurors 47 = .ok (.iload_n 2, 1) := by decide +kernel
theorem dX3_goesOnInJurors_48 : decode cX3_goesOnInJurors 48 = .ok (.iconst 5, 1) := by decide +kernel
theorem dX3_goesOnInJurors_49 : decode cX3_goesOnInJurors 49 = .ok (.if_icmp .lt 18, 3) := by decide +kernel
theorem dX3_goesOnInJurors_52 : decode cX3_goesOnInJurors 52 = .ok (.aload_n 0, 1) := by decide +kernel
theorem dX3_goesOnInJurors_53 : decode cX3_goesOnInJurors 53 = .ok (.getfield 9, 3) := by decide +kernel
theorem dX3_goesOnInJurors_56 : decode cX3_goesOnInJurors 56 = .ok (.iload_n 1, 1) := by decide +kernel
theorem dX3_goesOnInJurors_57 : decode cX3_goesOnInJurors 57 = .ok (.iaload, 1) := by decide +kernel
theorem dX3_goesOnInJurors_58 : decode cX3_goesOnInJurors 58 = .ok (.bipush 59, 2) := by decide +kernel
theorem dX3_goesOnInJurors_60 : decode cX3_goesOnInJurors 60 = .ok (.if_icmp .ne 11, 3) := by decide +kernel
theorem dX3_goesOnInJurors_63 : decode cX3_goesOnInJurors 63 = .ok (.iload_n 2, 1) := by decide +kernel
theorem dX3_goesOnInJurors_64 : decode cX3_goesOnInJurors 64 = .ok (.ifCond .le 7, 3) := by decide +kernel
theorem dX3_goesOnInJurors_67 : decode cX3_goesOnInJurors 67 = .ok (.iconst 1, 1) := by decide +kernel
theorem dX3_goesOnInJurors_68 : decode cX3_goesOnInJurors 68 = .ok (.goto 4, 3) := by decide +kernel
theorem dX3_goesOnInJurors_71 : decode cX3_goesOnInJurors 71 = .ok (.iconst 0, 1) := by decide +kernel
theorem dX3_goesOnInJurors_72 : decode cX3_goesOnInJurors 72 = .ok (.ireturn, 1) := by decide +kernel
theorem dX3_goesOnInJurors_73 : decode cX3_goesOnInJurors 73 = .ok (.aload_n 0, 1) := by decide +kernel
theorem dX3_goesOnInJurors_74 : decode cX3_goesOnInJurors 74 = .ok (.iload_n 1, 1) := by decide +kernel
theorem dX3_goesOnInJurors_75 : decode cX3_goesOnInJurors 75 = .ok (.invokevirtual 58, 3) := by decide +kernel
theorem dX3_goesOnInJurors_78 : decode cX3_goesOnInJurors 78 = .ok (.bipush (-9), 2) := by decide +kernel
theorem dX3_goesOnInJurors_80 : decode cX3_goesOnInJurors 80 = .ok (.if_icmp .eq 7, 3) := by decide +kernel
theorem dX3_goesOnInJurors_83 : decode cX3_goesOnInJurors 83 = .ok (.iconst 1, 1) := by decide +kernel
theorem dX3_goesOnInJurors_84 : decode cX3_goesOnInJurors 84 = .ok (.goto 4, 3) := by decide +kernel
theorem dX3_goesOnInJurors_87 : decode cX3_goesOnInJurors 87 = .ok (.iconst 0, 1) := by decide +kernel
theorem dX3_goesOnInJurors_88 : decode cX3_goesOnInJurors 88 = .ok (.ireturn, 1) := by decide +kernel
theorem dX3_goesOnInJurors_89 : decode cX3_goesOnInJurors 89 = .ok (.aload_n 0, 1) := by decide +kernel
theorem dX3_goesOnInJurors_90 : decode cX3_goesOnInJurors 90 = .ok (.iload_n 1, 1) := by decide +kernel
theorem dX3_goesOnInJurors_91 : decode cX3_goesOnInJurors 91 = .ok (.iconst 1, 1) := by decide +kernel
theorem dX3_goesOnInJurors_92 : decode cX3_goesOnInJurors 92 = .ok (.bipush 9, 2) := by decide +kernel
theorem dX3_goesOnInJurors_94 : decode cX3_goesOnInJurors 94 = .ok (.invokevirtual 50, 3) := by decide +kernel
theorem dX3_goesOnInJurors_97 : decode cX3_goesOnInJurors 97 = .ok (.ireturn, 1) := by decide +kernel
theorem dX3_goesOnInCases_0 : decode cX3_goesOnInCases 0 = .ok (.iload_n 1, 1) := by decide +kernel
theorem dX3_goesOnInCases_1 : decode cX3_goesOnInCases 1 = .ok (.aload_n 0, 1) := by decide +kernel
theorem dX3_goesOnInCases_2 : decode cX3_goesOnInCases 2 = .ok (.getfield 30, 3) := by decide +kernel
theorem dX3_goesOnInCases_5 : decode cX3_goesOnInCases 5 = .ok (.isub, 1) := by decide +kernel
theorem dX3_goesOnInCases_6 : decode cX3_goesOnInCases 6 = .ok (.iconst 4, 1) := by decide +kernel
theorem dX3_goesOnInCases_7 : decode cX3_goesOnInCases 7 = .ok (.idiv, 1) := by decide +kernel
theorem dX3_goesOnInCases_8 : decode cX3_goesOnInCases 8 = .ok (.istore_n 2, 1) := by decide +kernel
theorem dX3_goesOnInCases_9 : decode cX3_goesOnInCases 9 = .ok (.iload_n 1, 1) := by decide +kernel
theorem dX3_goesOnInCases_10 : decode cX3_goesOnInCases 10 = .ok (.aload_n 0, 1) := by decide +kernel
theorem dX3_goesOnInCases_11 : decode cX3_goesOnInCases 11 = .ok (.getfield 30, 3) := by decide +kernel
theorem dX3_goesOnInCases_14 : decode cX3_goesOnInCases 14 = .ok (.isub, 1) := by decide +kernel
theorem dX3_goesOnInCases_15 : decode cX3_goesOnInCases 15 = .ok (.iconst 4, 1) := by decide +kernel
theorem dX3_goesOnInCases_16 : decode cX3_goesOnInCases 16 = .ok (.irem, 1) := by decide +kernel
theorem dX3_goesOnInCases_17 : decode cX3_goesOnInCases 17 = .ok (.lookupswitch 57 #[(0, 27), (1, 49)], 27) := by decide +kernel
theorem dX3_goesOnInCases_44 : decode cX3_goesOnInCases 44 = .ok (.aload_n 0, 1) := by decide +kernel
theorem dX3_goesOnInCases_45 : decode cX3_goesOnInCases 45 = .ok (.getfield 9, 3) := by decide +kernel
theorem dX3_goesOnInCases_48 : decode cX3_goesOnInCases 48 = .ok (.iload_n 1, 1) := by decide +kernel
theorem dX3_goesOnInCases_49 : decode cX3_goesOnInCases 49 = .ok (.iaload, 1) := by decide +kernel
theorem dX3_goesOnInCases_50 : decode cX3_goesOnInCases 50 = .ok (.bipush 59, 2) := by decide +kernel
theorem dX3_goesOnInCases_52 : decode cX3_goesOnInCases 52 = .ok (.if_icmp .ne 12, 3) := by decide +kernel
theorem dX3_goesOnInCases_55 : decode cX3_goesOnInCases 55 = .ok (.iload_n 2, 1) := by decide +kernel
theorem dX3_goesOnInCases_56 : decode cX3_goesOnInCases 56 = .ok (.iconst 5, 1) := by decide +kernel
theorem dX3_goesOnInCases_57 : decode cX3_goesOnInCases 57 = .ok (.if_icmp .ge 7, 3) := by decide +kernel
theorem dX3_goesOnInCases_60 : decode cX3_goesOnInCases 60 = .ok (.iconst 1, 1) := by decide +kernel
theorem dX3_goesOnInCases_61 : decode cX3_goesOnInCases 61 = .ok (.goto 4, 3) := by decide +kernel
theorem dX3_goesOnInCases_64 : decode cX3_goesOnInCases 64 = .ok (.iconst 0, 1) := by decide +kernel
theorem dX3_goesOnInCases_65 : decode cX3_goesOnInCases 65 = .ok (.ireturn, 1) := by decide +kernel
theorem dX3_goesOnInCases_66 : decode cX3_goesOnInCases 66 = .ok (.aload_n 0, 1) := by decide +kernel
theorem dX3_goesOnInCases_67 : decode cX3_goesOnInCases 67 = .ok (.iload_n 1, 1) := by decide +kernel
theorem dX3_goesOnInCases_68 : decode cX3_goesOnInCases 68 = .ok (.iconst 0, 1) := by decide +kernel
theorem dX3_goesOnInCases_69 : decode cX3_goesOnInCases 69 = .ok (.iconst 5, 1) := by decide +kernel
theorem dX3_goesOnInCases_70 : decode cX3_goesOnInCases 70 = .ok (.invokevirtual 50, 3) := by decide +kernel
theorem dX3_goesOnInCases_73 : decode cX3_goesOnInCases 73 = .ok (.ireturn, 1) := by decide +kernel
theorem dX3_goesOnInCases_74 : decode cX3_goesOnInCases 74 = .ok (.aload_n 0, 1) := by decide +kernel
theorem dX3_goesOnInCases_75 : decode cX3_goesOnInCases 75 = .ok (.iload_n 1, 1) := by decide +kernel
theorem dX3_goesOnInCases_76 : decode cX3_goesOnInCases 76 = .ok (.iconst 1, 1) := by decide +kernel
theorem dX3_goesOnInCases_77 : decode cX3_goesOnInCases 77 = .ok (.bipush 9, 2) := by decide +kernel
theorem dX3_goesOnInCases_79 : decode cX3_goesOnInCases 79 = .ok (.invokevirtual 50, 3) := by decide +kernel
theorem dX3_goesOnInCases_82 : decode cX3_goesOnInCases 82 = .ok (.ireturn, 1) := by decide +kernel
theorem dX3_isWhole_0 : decode cX3_isWhole 0 = .ok (.aload_n 0, 1) := by decide +kernel
theorem dX3_isWhole_1 : decode cX3_isWhole 1 = .ok (.getfield 30, 3) := by decide +kernel
theorem dX3_isWhole_4 : decode cX3_isWhole 4 = .ok (.bipush (-9), 2) := by decide +kernel
theorem dX3_isWhole_6 : decode cX3_isWhole 6 = .ok (.if_icmp .eq 21, 3) := by decide +kernel
theorem dX3_isWhole_9 : decode cX3_isWhole 9 = .ok (.aload_n 0, 1) := by decide +kernel
theorem dX3_isWhole_10 : decode cX3_isWhole 10 = .ok (.getfield 26, 3) := by decide +kernel
theorem dX3_isWhole_13 : decode cX3_isWhole 13 = .ok (.aload_n 0, 1) := by decide +kernel
theorem dX3_isWhole_14 : decode cX3_isWhole 14 = .ok (.getfield 30, 3) := by decide +kernel
theorem dX3_isWhole_17 : decode cX3_isWhole 17 = .ok (.isub, 1) := by decide +kernel
theorem dX3_isWhole_18 : decode cX3_isWhole 18 = .ok (.iconst 4, 1) := by decide +kernel
theorem dX3_isWhole_19 : decode cX3_isWhole 19 = .ok (.irem, 1) := by decide +kernel
theorem dX3_isWhole_20 : decode cX3_isWhole 20 = .ok (.ifCond .ne 7, 3) := by decide +kernel
theorem dX3_isWhole_23 : decode cX3_isWhole 23 = .ok (.iconst 1, 1) := by decide +kernel
theorem dX3_isWhole_24 : decode cX3_isWhole 24 = .ok (.goto 4, 3) := by decide +kernel
theorem dX3_isWhole_27 : decode cX3_isWhole 27 = .ok (.iconst 0, 1) := by decide +kernel
theorem dX3_isWhole_28 : decode cX3_isWhole 28 = .ok (.ireturn, 1) := by decide +kernel
theorem dX3_isDigit_0 : decode cX3_isDigit 0 = .ok (.aload_n 0, 1) := by decide +kernel
theorem dX3_isDigit_1 : decode cX3_isDigit 1 = .ok (.getfield 9, 3) := by decide +kernel
theorem dX3_isDigit_4 : decode cX3_isDigit 4 = .ok (.iload_n 1, 1) := by decide +kernel
theorem dX3_isDigit_5 : decode cX3_isDigit 5 = .ok (.iaload, 1) := by decide +kernel
theorem dX3_isDigit_6 : decode cX3_isDigit 6 = .ok (.bipush 48, 2) := by decide +kernel
theorem dX3_isDigit_8 : decode cX3_isDigit 8 = .ok (.iload_n 2, 1) := by decide +kernel
theorem dX3_isDigit_9 : decode cX3_isDigit 9 = .ok (.iadd, 1) := by decide +kernel
theorem dX3_isDigit_10 : decode cX3_isDigit 10 = .ok (.if_icmp .lt 20, 3) := by decide +kernel
theorem dX3_isDigit_13 : decode cX3_isDigit 13 = .ok (.aload_n 0, 1) := by decide +kernel
theorem dX3_isDigit_14 : decode cX3_isDigit 14 = .ok (.getfield 9, 3) := by decide +kernel
theorem dX3_isDigit_17 : decode cX3_isDigit 17 = .ok (.iload_n 1, 1) := by decide +kernel
theorem dX3_isDigit_18 : decode cX3_isDigit 18 = .ok (.iaload, 1) := by decide +kernel
theorem dX3_isDigit_19 : decode cX3_isDigit 19 = .ok (.bipush 48, 2) := by decide +kernel
theorem dX3_isDigit_21 : decode cX3_isDigit 21 = .ok (.iload_n 3, 1) := by decide +kernel
theorem dX3_isDigit_22 : decode cX3_isDigit 22 = .ok (.iadd, 1) := by decide +kernel
theorem dX3_isDigit_23 : decode cX3_isDigit 23 = .ok (.if_icmp .gt 7, 3) := by decide +kernel
theorem dX3_isDigit_26 : decode cX3_isDigit 26 = .ok (.iconst 1, 1) := by decide +kernel
theorem dX3_isDigit_27 : decode cX3_isDigit 27 = .ok (.goto 4, 3) := by decide +kernel
theorem dX3_isDigit_30 : decode cX3_isDigit 30 = .ok (.iconst 0, 1) := by decide +kernel
theorem dX3_isDigit_31 : decode cX3_isDigit 31 = .ok (.ireturn, 1) := by decide +kernel
theorem dX3_digit_0 : decode cX3_digit 0 = .ok (.aload_n 0, 1) := by decide +kernel
theorem dX3_digit_1 : decode cX3_digit 1 = .ok (.getfield 9, 3) := by decide +kernel
theorem dX3_digit_4 : decode cX3_digit 4 = .ok (.iload_n 1, 1) := by decide +kernel
theorem dX3_digit_5 : decode cX3_digit 5 = .ok (.iaload, 1) := by decide +kernel
theorem dX3_digit_6 : decode cX3_digit 6 = .ok (.bipush 48, 2) := by decide +kernel
theorem dX3_digit_8 : decode cX3_digit 8 = .ok (.isub, 1) := by decide +kernel
theorem dX3_digit_9 : decode cX3_digit 9 = .ok (.ireturn, 1) := by decide +kernel
theorem dX3_kindAt_0 : decode cX3_kindAt 0 = .ok (.aload_n 0, 1) := by decide +kernel
theorem dX3_kindAt_1 : decode cX3_kindAt 1 = .ok (.getfield 9, 3) := by decide +kernel
theorem dX3_kindAt_4 : decode cX3_kindAt 4 = .ok (.iload_n 1, 1) := by decide +kernel
theorem dX3_kindAt_5 : decode cX3_kindAt 5 = .ok (.iaload, 1) := by decide +kernel
theorem dX3_kindAt_6 : decode cX3_kindAt 6 = .ok (.lookupswitch 40 #[(99, 34), (104, 36), (115, 38)], 34) := by decide +kernel
theorem dX3_kindAt_40 : decode cX3_kindAt 40 = .ok (.iconst 0, 1) := by decide +kernel
theorem dX3_kindAt_41 : decode cX3_kindAt 41 = .ok (.ireturn, 1) := by decide +kernel
theorem dX3_kindAt_42 : decode cX3_kindAt 42 = .ok (.iconst 1, 1) := by decide +kernel
theorem dX3_kindAt_43 : decode cX3_kindAt 43 = .ok (.ireturn, 1) := by decide +kernel
theorem dX3_kindAt_44 : decode cX3_kindAt 44 = .ok (.iconst 2, 1) := by decide +kernel
theorem dX3_kindAt_45 : decode cX3_kindAt 45 = .ok (.ireturn, 1) := by decide +kernel
theorem dX3_kindAt_46 : decode cX3_kindAt 46 = .ok (.bipush (-9), 2) := by decide +kernel
theorem dX3_kindAt_48 : decode cX3_kindAt 48 = .ok (.ireturn, 1) := by decide +kernel
theorem dX3_toldMinutes_0 : decode cX3_toldMinutes 0 = .ok (.bipush 10, 2) := by decide +kernel
theorem dX3_toldMinutes_2 : decode cX3_toldMinutes 2 = .ok (.aload_n 0, 1) := by decide +kernel
theorem dX3_toldMinutes_3 : decode cX3_toldMinutes 3 = .ok (.iconst 1, 1) := by decide +kernel
theorem dX3_toldMinutes_4 : decode cX3_toldMinutes 4 = .ok (.invokevirtual 62, 3) := by decide +kernel
theorem dX3_toldMinutes_7 : decode cX3_toldMinutes 7 = .ok (.imul, 1) := by decide +kernel
theorem dX3_toldMinutes_8 : decode cX3_toldMinutes 8 = .ok (.aload_n 0, 1) := by decide +kernel
theorem dX3_toldMinutes_9 : decode cX3_toldMinutes 9 = .ok (.iconst 2, 1) := by decide +kernel
theorem dX3_toldMinutes_10 : decode cX3_toldMinutes 10 = .ok (.invokevirtual 62, 3) := by decide +kernel
theorem dX3_toldMinutes_13 : decode cX3_toldMinutes 13 = .ok (.iadd, 1) := by decide +kernel
theorem dX3_toldMinutes_14 : decode cX3_toldMinutes 14 = .ok (.ireturn, 1) := by decide +kernel
theorem dX3_toldJurors_0 : decode cX3_toldJurors 0 = .ok (.aload_n 0, 1) := by decide +kernel
