theorem dX4_put_53 : decode cX4_put 53 = .ok (.getfield 193, 3) := by decide +kernel
theorem dX4_put_56 : decode cX4_put 56 = .ok (.iload_n 2, 1) := by decide +kernel
theorem dX4_put_57 : decode cX4_put 57 = .ok (.aload 4, 2) := by decide +kernel
theorem dX4_put_59 : decode cX4_put 59 = .ok (.iload_n 3, 1) := by decide +kernel
theorem dX4_put_60 : decode cX4_put 60 = .ok (.invokevirtual 196, 3) := by decide +kernel
theorem dX4_put_63 : decode cX4_put 63 = .ok (.iastore, 1) := by decide +kernel
theorem dX4_put_64 : decode cX4_put 64 = .ok (.iconst 1, 1) := by decide +kernel
theorem dX4_put_65 : decode cX4_put 65 = .ok (.ireturn, 1) := by decide +kernel
theorem dX4_cell_0 : decode cX4_cell 0 = .ok (.aload_n 0, 1) := by decide +kernel
theorem dX4_cell_1 : decode cX4_cell 1 = .ok (.iconst 0, 1) := by decide +kernel
theorem dX4_cell_2 : decode cX4_cell 2 = .ok (.putfield 45, 3) := by decide +kernel
theorem dX4_cell_5 : decode cX4_cell 5 = .ok (.iload_n 1, 1) := by decide +kernel
theorem dX4_cell_6 : decode cX4_cell 6 = .ok (.invokestatic 49, 3) := by decide +kernel
theorem dX4_cell_9 : decode cX4_cell 9 = .ok (.ifCond .eq 10, 3) := by decide +kernel
theorem dX4_cell_12 : decode cX4_cell 12 = .ok (.iload_n 3, 1) := by decide +kernel
theorem dX4_cell_13 : decode cX4_cell 13 = .ok (.invokestatic 53, 3) := by decide +kernel
theorem dX4_cell_16 : decode cX4_cell 16 = .ok (.ifCond .ne 7, 3) := by decide +kernel
theorem dX4_cell_19 : decode cX4_cell 19 = .ok (.ldc2_w 179, 3) := by decide +kernel
theorem dX4_cell_22 : decode cX4_cell 22 = .ok (.lreturn, 1) := by decide +kernel
theorem dX4_cell_23 : decode cX4_cell 23 = .ok (.aload_n 0, 1) := by decide +kernel
theorem dX4_cell_24 : decode cX4_cell 24 = .ok (.getfield 13, 3) := by decide +kernel
theorem dX4_cell_27 : decode cX4_cell 27 = .ok (.iload_n 1, 1) := by decide +kernel
theorem dX4_cell_28 : decode cX4_cell 28 = .ok (.aaload, 1) := by decide +kernel
theorem dX4_cell_29 : decode cX4_cell 29 = .ok (.astore 4, 2) := by decide +kernel
theorem dX4_cell_31 : decode cX4_cell 31 = .ok (.aload 4, 2) := by decide +kernel
theorem dX4_cell_33 : decode cX4_cell 33 = .ok (.iload_n 3, 1) := by decide +kernel
theorem dX4_cell_34 : decode cX4_cell 34 = .ok (.invokevirtual 199, 3) := by decide +kernel
theorem dX4_cell_37 : decode cX4_cell 37 = .ok (.istore 5, 2) := by decide +kernel
theorem dX4_cell_39 : decode cX4_cell 39 = .ok (.iload 5, 2) := by decide +kernel
theorem dX4_cell_41 : decode cX4_cell 41 = .ok (.ifCond .ne 15, 3) := by decide +kernel
theorem dX4_cell_44 : decode cX4_cell 44 = .ok (.aload 4, 2) := by decide +kernel
theorem dX4_cell_46 : decode cX4_cell 46 = .ok (.iload_n 2, 1) := by decide +kernel
theorem dX4_cell_47 : decode cX4_cell 47 = .ok (.invokevirtual 190, 3) := by decide +kernel
theorem dX4_cell_50 : decode cX4_cell 50 = .ok (.ifCond .ne 6, 3) := by decide +kernel
theorem dX4_cell_53 : decode cX4_cell 53 = .ok (.iconst 3, 1) := by decide +kernel
theorem dX4_cell_54 : decode cX4_cell 54 = .ok (.istore 5, 2) := by decide +kernel
theorem dX4_cell_56 : decode cX4_cell 56 = .ok (.aload_n 0, 1) := by decide +kernel
theorem dX4_cell_57 : decode cX4_cell 57 = .ok (.iload 5, 2) := by decide +kernel
theorem dX4_cell_59 : decode cX4_cell 59 = .ok (.putfield 45, 3) := by decide +kernel
theorem dX4_cell_62 : decode cX4_cell 62 = .ok (.iload 5, 2) := by decide +kernel
theorem dX4_cell_64 : decode cX4_cell 64 = .ok (.ifCond .ne 14, 3) := by decide +kernel
theorem dX4_cell_67 : decode cX4_cell 67 = .ok (.aload 4, 2) := by decide +kernel
theorem dX4_cell_69 : decode cX4_cell 69 = .ok (.getfield 193, 3) := by decide +kernel
theorem dX4_cell_72 : decode cX4_cell 72 = .ok (.iload_n 2, 1) := by decide +kernel
theorem dX4_cell_73 : decode cX4_cell 73 = .ok (.iaload, 1) := by decide +kernel
theorem dX4_cell_74 : decode cX4_cell 74 = .ok (.i2l, 1) := by decide +kernel
theorem dX4_cell_75 : decode cX4_cell 75 = .ok (.goto 6, 3) := by decide +kernel
theorem dX4_cell_78 : decode cX4_cell 78 = .ok (.ldc2_w 179, 3) := by decide +kernel
theorem dX4_cell_81 : decode cX4_cell 81 = .ok (.lreturn, 1) := by decide +kernel
theorem dX4_copy_0 : decode cX4_copy 0 = .ok (.aload_n 0, 1) := by decide +kernel
theorem dX4_copy_1 : decode cX4_copy 1 = .ok (.iconst 0, 1) := by decide +kernel
theorem dX4_copy_2 : decode cX4_copy 2 = .ok (.putfield 45, 3) := by decide +kernel
theorem dX4_copy_5 : decode cX4_copy 5 = .ok (.iload_n 1, 1) := by decide +kernel
theorem dX4_copy_6 : decode cX4_copy 6 = .ok (.invokestatic 49, 3) := by decide +kernel
theorem dX4_copy_9 : decode cX4_copy 9 = .ok (.ifCond .eq 10, 3) := by decide +kernel
theorem dX4_copy_12 : decode cX4_copy 12 = .ok (.iload_n 3, 1) := by decide +kernel
theorem dX4_copy_13 : decode cX4_copy 13 = .ok (.invokestatic 49, 3) := by decide +kernel
theorem dX4_copy_16 : decode cX4_copy 16 = .ok (.ifCond .ne 5, 3) := by decide +kernel
theorem dX4_copy_19 : decode cX4_copy 19 = .ok (.iconst (-1), 1) := by decide +kernel
theorem dX4_copy_20 : decode cX4_copy 20 = .ok (.ireturn, 1) := by decide +kernel
theorem dX4_copy_21 : decode cX4_copy 21 = .ok (.aload_n 0, 1) := by decide +kernel
theorem dX4_copy_22 : decode cX4_copy 22 = .ok (.getfield 13, 3) := by decide +kernel
theorem dX4_copy_25 : decode cX4_copy 25 = .ok (.iload_n 1, 1) := by decide +kernel
theorem dX4_copy_26 : decode cX4_copy 26 = .ok (.aaload, 1) := by decide +kernel
theorem dX4_copy_27 : decode cX4_copy 27 = .ok (.astore 6, 2) := by decide +kernel
theorem dX4_copy_29 : decode cX4_copy 29 = .ok (.aload_n 0, 1) := by decide +kernel
theorem dX4_copy_30 : decode cX4_copy 30 = .ok (.getfield 13, 3) := by decide +kernel
theorem dX4_copy_33 : decode cX4_copy 33 = .ok (.iload_n 3, 1) := by decide +kernel
theorem dX4_copy_34 : decode cX4_copy 34 = .ok (.aaload, 1) := by decide +kernel
theorem dX4_copy_35 : decode cX4_copy 35 = .ok (.astore 7, 2) := by decide +kernel
theorem dX4_copy_37 : decode cX4_copy 37 = .ok (.aload 6, 2) := by decide +kernel
theorem dX4_copy_39 : decode cX4_copy 39 = .ok (.getfield 186, 3) := by decide +kernel
theorem dX4_copy_42 : decode cX4_copy 42 = .ok (.ifCond .eq 11, 3) := by decide +kernel
theorem dX4_copy_45 : decode cX4_copy 45 = .ok (.aload 7, 2) := by decide +kernel
theorem dX4_copy_47 : decode cX4_copy 47 = .ok (.getfield 186, 3) := by decide +kernel
theorem dX4_copy_50 : decode cX4_copy 50 = .ok (.ifCond .ne 9, 3) := by decide +kernel
theorem dX4_copy_53 : decode cX4_copy 53 = .ok (.aload_n 0, 1) := by decide +kernel
theorem dX4_copy_54 : decode cX4_copy 54 = .ok (.iconst 1, 1) := by decide +kernel
theorem dX4_copy_55 : decode cX4_copy 55 = .ok (.invokevirtual 60, 3) := by decide +kernel
theorem dX4_copy_58 : decode cX4_copy 58 = .ok (.ireturn, 1) := by decide +kernel
theorem dX4_copy_59 : decode cX4_copy 59 = .ok (.aload 6, 2) := by decide +kernel
theorem dX4_copy_61 : decode cX4_copy 61 = .ok (.getfield 202, 3) := by decide +kernel
theorem dX4_copy_64 : decode cX4_copy 64 = .ok (.aload 7, 2) := by decide +kernel
theorem dX4_copy_66 : decode cX4_copy 66 = .ok (.getfield 202, 3) := by decide +kernel
theorem dX4_copy_69 : decode cX4_copy 69 = .ok (.if_icmp .eq 9, 3) := by decide +kernel
theorem dX4_copy_72 : decode cX4_copy 72 = .ok (.aload_n 0, 1) := by decide +kernel
theorem dX4_copy_73 : decode cX4_copy 73 = .ok (.iconst 2, 1) := by decide +kernel
theorem dX4_copy_74 : decode cX4_copy 74 = .ok (.invokevirtual 60, 3) := by decide +kernel
theorem dX4_copy_77 : decode cX4_copy 77 = .ok (.ireturn, 1) := by decide +kernel
theorem dX4_copy_78 : decode cX4_copy 78 = .ok (.aload 6, 2) := by decide +kernel
theorem dX4_copy_80 : decode cX4_copy 80 = .ok (.iload_n 2, 1) := by decide +kernel
theorem dX4_copy_81 : decode cX4_copy 81 = .ok (.iload 5, 2) := by decide +kernel
theorem dX4_copy_83 : decode cX4_copy 83 = .ok (.invokevirtual 205, 3) := by decide +kernel
theorem dX4_copy_86 : decode cX4_copy 86 = .ok (.ifCond .eq 15, 3) := by decide +kernel
theorem dX4_copy_89 : decode cX4_copy 89 = .ok (.aload 7, 2) := by decide +kernel
theorem dX4_copy_91 : decode cX4_copy 91 = .ok (.iload 4, 2) := by decide +kernel
theorem dX4_copy_93 : decode cX4_copy 93 = .ok (.iload 5, 2) := by decide +kernel
theorem dX4_copy_95 : decode cX4_copy 95 = .ok (.invokevirtual 205, 3) := by decide +kernel
theorem dX4_copy_98 : decode cX4_copy 98 = .ok (.ifCond .ne 9, 3) := by decide +kernel
theorem dX4_copy_101 : decode cX4_copy 101 = .ok (.aload_n 0, 1) := by decide +kernel
theorem dX4_copy_102 : decode cX4_copy 102 = .ok (.iconst 3, 1) := by decide +kernel
theorem dX4_copy_103 : decode cX4_copy 103 = .ok (.invokevirtual 60, 3) := by decide +kernel
theorem dX4_copy_106 : decode cX4_copy 106 = .ok (.ireturn, 1) := by decide +kernel
theorem dX4_copy_107 : decode cX4_copy 107 = .ok (.aload 6, 2) := by decide +kernel
theorem dX4_copy_109 : decode cX4_copy 109 = .ok (.getfield 193, 3) := by decide +kernel
theorem dX4_copy_112 : decode cX4_copy 112 = .ok (.iload_n 2, 1) := by decide +kernel
theorem dX4_copy_113 : decode cX4_copy 113 = .ok (.aload 7, 2) := by decide +kernel
theorem dX4_copy_115 : decode cX4_copy 115 = .ok (.getfield 193, 3) := by decide +kernel
theorem dX4_copy_118 : decode cX4_copy 118 = .ok (.iload 4, 2) := by decide +kernel
theorem dX4_copy_120 : decode cX4_copy 120 = .ok (.iload 5, 2) := by decide +kernel
theorem dX4_copy_122 : decode cX4_copy 122 = .ok (.invokestatic 208, 3) := by decide +kernel
theorem dX4_copy_125 : decode cX4_copy 125 = .ok (.iload 5, 2) := by decide +kernel
theorem dX4_copy_127 : decode cX4_copy 127 = .ok (.ireturn, 1) := by decide +kernel
theorem dX4_tell_0 : decode cX4_tell 0 = .ok (.aload_n 0, 1) := by decide +kernel
theorem dX4_tell_1 : decode cX4_tell 1 = .ok (.getfield 27, 3) := by decide +kernel
theorem dX4_tell_4 : decode cX4_tell 4 = .ok (.iload_n 1, 1) := by decide +kernel
theorem dX4_tell_5 : decode cX4_tell 5 = .ok (.invokevirtual 75, 3) := by decide +kernel
theorem dX4_tell_8 : decode cX4_tell 8 = .ok (.ifCond .ne 5, 3) := by decide +kernel
theorem dX4_tell_11 : decode cX4_tell 11 = .ok (.iconst (-1), 1) := by decide +kernel
theorem dX4_tell_12 : decode cX4_tell 12 = .ok (.ireturn, 1) := by decide +kernel
theorem dX4_tell_13 : decode cX4_tell 13 = .ok (.aload_n 0, 1) := by decide +kernel
theorem dX4_tell_14 : decode cX4_tell 14 = .ok (.getfield 27, 3) := by decide +kernel
theorem dX4_tell_17 : decode cX4_tell 17 = .ok (.getfield 78, 3) := by decide +kernel
theorem dX4_tell_20 : decode cX4_tell 20 = .ok (.iload_n 1, 1) := by decide +kernel
theorem dX4_tell_21 : decode cX4_tell 21 = .ok (.iaload, 1) := by decide +kernel
theorem dX4_tell_22 : decode cX4_tell 22 = .ok (.lookupswitch 38 #[(1, 32), (2, 26)], 26) := by decide +kernel
theorem dX4_tell_48 : decode cX4_tell 48 = .ok (.aload_n 0, 1) := by decide +kernel
theorem dX4_tell_49 : decode cX4_tell 49 = .ok (.iload_n 1, 1) := by decide +kernel
theorem dX4_tell_50 : decode cX4_tell 50 = .ok (.invokevirtual 214, 3) := by decide +kernel
theorem dX4_tell_53 : decode cX4_tell 53 = .ok (.ireturn, 1) := by decide +kernel
theorem dX4_tell_54 : decode cX4_tell 54 = .ok (.aload_n 0, 1) := by decide +kernel
theorem dX4_tell_55 : decode cX4_tell 55 = .ok (.iload_n 1, 1) := by decide +kernel
theorem dX4_tell_56 : decode cX4_tell 56 = .ok (.invokevirtual 217, 3) := by decide +kernel
theorem dX4_tell_59 : decode cX4_tell 59 = .ok (.ireturn, 1) := by decide +kernel
theorem dX4_tell_60 : decode cX4_tell 60 = .ok (.aload_n 0, 1) := by decide +kernel
theorem dX4_tell_61 : decode cX4_tell 61 = .ok (.iload_n 1, 1) := by decide +kernel
theorem dX4_tell_62 : decode cX4_tell 62 = .ok (.invokevirtual 220, 3) := by decide +kernel
theorem dX4_tell_65 : decode cX4_tell 65 = .ok (.ireturn, 1) := by decide +kernel
theorem dX4_hush_0 : decode cX4_hush 0 = .ok (.aload_n 0, 1) := by decide +kernel
theorem dX4_hush_1 : decode cX4_hush 1 = .ok (.getfield 27, 3) := by decide +kernel
theorem dX4_hush_4 : decode cX4_hush 4 = .ok (.iload_n 1, 1) := by decide +kernel
theorem dX4_hush_5 : decode cX4_hush 5 = .ok (.invokevirtual 75, 3) := by decide +kernel
theorem dX4_hush_8 : decode cX4_hush 8 = .ok (.ifCond .ne 5, 3) := by decide +kernel
theorem dX4_hush_11 : decode cX4_hush 11 = .ok (.iconst (-1), 1) := by decide +kernel
theorem dX4_hush_12 : decode cX4_hush 12 = .ok (.ireturn, 1) := by decide +kernel
theorem dX4_hush_13 : decode cX4_hush 13 = .ok (.aload_n 0, 1) := by decide +kernel
theorem dX4_hush_14 : decode cX4_hush 14 = .ok (.getfield 27, 3) := by decide +kernel
theorem dX4_hush_17 : decode cX4_hush 17 = .ok (.getfield 78, 3) := by decide +kernel
theorem dX4_hush_20 : decode cX4_hush 20 = .ok (.iload_n 1, 1) := by decide +kernel
theorem dX4_hush_21 : decode cX4_hush 21 = .ok (.iaload, 1) := by decide +kernel
theorem dX4_hush_22 : decode cX4_hush 22 = .ok (.iconst 2, 1) := by decide +kernel
theorem dX4_hush_23 : decode cX4_hush 23 = .ok (.if_icmp .ne 11, 3) := by decide +kernel
theorem dX4_hush_26 : decode cX4_hush 26 = .ok (.aload_n 0, 1) := by decide +kernel
theorem dX4_hush_27 : decode cX4_hush 27 = .ok (.iconst 5, 1) := by decide +kernel
theorem dX4_hush_28 : decode cX4_hush 28 = .ok (.invokevirtual 223, 3) := by decide +kernel
theorem dX4_hush_31 : decode cX4_hush 31 = .ok (.bipush 70, 2) := by decide +kernel
theorem dX4_hush_33 : decode cX4_hush 33 = .ok (.ireturn, 1) := by decide +kernel
theorem dX4_hush_34 : decode cX4_hush 34 = .ok (.aload_n 0, 1) := by decide +kernel
theorem dX4_hush_35 : decode cX4_hush 35 = .ok (.iconst 4, 1) := by decide +kernel
theorem dX4_hush_36 : decode cX4_hush 36 = .ok (.invokevirtual 223, 3) := by decide +kernel
theorem dX4_hush_39 : decode cX4_hush 39 = .ok (.iload_n 1, 1) := by decide +kernel
theorem dX4_hush_40 : decode cX4_hush 40 = .ok (.ireturn, 1) := by decide +kernel
theorem dX4_as_0 : decode cX4_as 0 = .ok (.aload_n 0, 1) := by decide +kernel
theorem dX4_as_1 : decode cX4_as 1 = .ok (.iconst 0, 1) := by decide +kernel
theorem dX4_as_2 : decode cX4_as 2 = .ok (.putfield 45, 3) := by decide +kernel
theorem dX4_as_5 : decode cX4_as 5 = .ok (.aload_n 0, 1) := by decide +kernel
theorem dX4_as_6 : decode cX4_as 6 = .ok (.getfield 27, 3) := by decide +kernel
theorem dX4_as_9 : decode cX4_as 9 = .ok (.iload_n 1, 1) := by decide +kernel
theorem dX4_as_10 : decode cX4_as 10 = .ok (.invokevirtual 75, 3) := by decide +kernel
theorem dX4_as_13 : decode cX4_as 13 = .ok (.ifCond .ne 5, 3) := by decide +kernel
theorem dX4_as_16 : decode cX4_as 16 = .ok (.iconst (-1), 1) := by decide +kernel
theorem dX4_as_17 : decode cX4_as 17 = .ok (.ireturn, 1) := by decide +kernel
theorem dX4_as_18 : decode cX4_as 18 = .ok (.iload_n 2, 1) := by decide +kernel
theorem dX4_as_19 : decode cX4_as 19 = .ok (.ifCond .lt 8, 3) := by decide +kernel
theorem dX4_as_22 : decode cX4_as 22 = .ok (.iload_n 2, 1) := by decide +kernel
theorem dX4_as_23 : decode cX4_as 23 = .ok (.iconst 3, 1) := by decide +kernel
theorem dX4_as_24 : decode cX4_as 24 = .ok (.if_icmp .lt 6, 3) := by decide +kernel
theorem dX4_as_27 : decode cX4_as 27 = .ok (.bipush (-2), 2) := by decide +kernel
theorem dX4_as_29 : decode cX4_as 29 = .ok (.ireturn, 1) := by decide +kernel
theorem dX4_as_30 : decode cX4_as 30 = .ok (.aload_n 0, 1) := by decide +kernel
theorem dX4_as_31 : decode cX4_as 31 = .ok (.getfield 27, 3) := by decide +kernel
theorem dX4_as_34 : decode cX4_as 34 = .ok (.getfield 78, 3) := by decide +kernel
theorem dX4_as_37 : decode cX4_as 37 = .ok (.iload_n 1, 1) := by decide +kernel
theorem dX4_as_38 : decode cX4_as 38 = .ok (.iaload, 1) := by decide +kernel
theorem dX4_as_39 : decode cX4_as 39 = .ok (.iload_n 2, 1) := by decide +kernel
theorem dX4_as_40 : decode cX4_as 40 = .ok (.if_icmp .ge 11, 3) := by decide +kernel
theorem dX4_as_43 : decode cX4_as 43 = .ok (.aload_n 0, 1) := by decide +kernel
theorem dX4_as_44 : decode cX4_as 44 = .ok (.iconst 2, 1) := by decide +kernel
theorem dX4_as_45 : decode cX4_as 45 = .ok (.invokevirtual 60, 3) := by decide +kernel
theorem dX4_as_48 : decode cX4_as 48 = .ok (.goto 4, 3) := by decide +kernel
theorem dX4_as_51 : decode cX4_as 51 = .ok (.iconst 1, 1) := by decide +kernel
theorem dX4_as_52 : decode cX4_as 52 = .ok (.ireturn, 1) := by decide +kernel
theorem dX4_trace_0 : decode cX4_trace 0 = .ok (.aload_n 0, 1) := by decide +kernel
theorem dX4_trace_1 : decode cX4_trace 1 = .ok (.getfield 227, 3) := by decide +kernel
theorem dX4_trace_4 : decode cX4_trace 4 = .ok (.ireturn, 1) := by decide +kernel
theorem dX4_fault_0 : decode cX4_fault 0 = .ok (.aload_n 0, 1) := by decide +kernel
theorem dX4_fault_1 : decode cX4_fault 1 = .ok (.getfield 45, 3) := by decide +kernel
theorem dX4_fault_4 : decode cX4_fault 4 = .ok (.ireturn, 1) := by decide +kernel
theorem dX4_many_0 : decode cX4_many 0 = .ok (.iload_n 1, 1) := by decide +kernel
theorem dX4_many_1 : decode cX4_many 1 = .ok (.tableswitch 75 0 4 #[35, 43, 51, 59, 67], 35) := by decide +kernel
theorem dX4_many_36 : decode cX4_many 36 = .ok (.aload_n 0, 1) := by decide +kernel
theorem dX4_many_37 : decode cX4_many 37 = .ok (.getfield 27, 3) := by decide +kernel
theorem dX4_many_40 : decode cX4_many 40 = .ok (.getfield 72, 3) := by decide +kernel
theorem dX4_many_43 : decode cX4_many 43 = .ok (.ireturn, 1) := by decide +kernel
theorem dX4_many_44 : decode cX4_many 44 = .ok (.aload_n 0, 1) := by decide +kernel
theorem dX4_many_45 : decode cX4_many 45 = .ok (.getfield 27, 3) := by decide +kernel
theorem dX4_many_48 : decode cX4_many 48 = .ok (.getfield 151, 3) := by decide +kernel
theorem dX4_many_51 : decode cX4_many 51 = .ok (.ireturn, 1) := by decide +kernel
theorem dX4_many_52 : decode cX4_many 52 = .ok (.aload_n 0, 1) := by decide +kernel
theorem dX4_many_53 : decode cX4_many 53 = .ok (.getfield 27, 3) := by decide +kernel
theorem dX4_many_56 : decode cX4_many 56 = .ok (.getfield 117, 3) := by decide +kernel
theorem dX4_many_59 : decode cX4_many 59 = .ok (.ireturn, 1) := by decide +kernel
theorem dX4_many_60 : decode cX4_many 60 = .ok (.aload_n 0, 1) := by decide +kernel
theorem dX4_many_61 : decode cX4_many 61 = .ok (.getfield 27, 3) := by decide +kernel
theorem dX4_many_64 : decode cX4_many 64 = .ok (.getfield 110, 3) := by decide +kernel
theorem dX4_many_67 : decode cX4_many 67 = .ok (.ireturn, 1) := by decide +kernel
theorem dX4_many_68 : decode cX4_many 68 = .ok (.aload_n 0, 1) := by decide +kernel
theorem dX4_many_69 : decode cX4_many 69 = .ok (.getfield 27, 3) := by decide +kernel
theorem dX4_many_72 : decode cX4_many 72 = .ok (.getfield 160, 3) := by decide +kernel
theorem dX4_many_75 : decode cX4_many 75 = .ok (.ireturn, 1) := by decide +kernel
theorem dX4_many_76 : decode cX4_many 76 = .ok (.bipush (-2), 2) := by decide +kernel
theorem dX4_many_78 : decode cX4_many 78 = .ok (.ireturn, 1) := by decide +kernel
theorem dX4_isSheet_0 : decode cX4_isSheet 0 = .ok (.iload_n 0, 1) := by decide +kernel
theorem dX4_isSheet_1 : decode cX4_isSheet 1 = .ok (.ifCond .lt 12, 3) := by decide +kernel
theorem dX4_isSheet_4 : decode cX4_isSheet 4 = .ok (.iload_n 0, 1) := by decide +kernel
theorem dX4_isSheet_5 : decode cX4_isSheet 5 = .ok (.iconst 4, 1) := by decide +kernel
theorem dX4_isSheet_6 : decode cX4_isSheet 6 = .ok (.if_icmp .ge 7, 3) := by decide +kernel
theorem dX4_isSheet_9 : decode cX4_isSheet 9 = .ok (.iconst 1, 1) := by decide +kernel
theorem dX4_isSheet_10 : decode cX4_isSheet 10 = .ok (.goto 4, 3) := by decide +kernel
theorem dX4_isSheet_13 : decode cX4_isSheet 13 = .ok (.iconst 0, 1) := by decide +kernel
theorem dX4_isSheet_14 : decode cX4_isSheet 14 = .ok (.ireturn, 1) := by decide +kernel
theorem dX4_isLane_0 : decode cX4_isLane 0 = .ok (.iload_n 0, 1) := by decide +kernel
theorem dX4_isLane_1 : decode cX4_isLane 1 = .ok (.ifCond .lt 12, 3) := by decide +kernel
theorem dX4_isLane_4 : decode cX4_isLane 4 = .ok (.iload_n 0, 1) := by decide +kernel
theorem dX4_isLane_5 : decode cX4_isLane 5 = .ok (.iconst 2, 1) := by decide +kernel
theorem dX4_isLane_6 : decode cX4_isLane 6 = .ok (.if_icmp .gt 7, 3) := by decide +kernel
theorem dX4_isLane_9 : decode cX4_isLane 9 = .ok (.iconst 1, 1) := by decide +kernel
theorem dX4_isLane_10 : decode cX4_isLane 10 = .ok (.goto 4, 3) := by decide +kernel
theorem dX4_isLane_13 : decode cX4_isLane 13 = .ok (.iconst 0, 1) := by decide +kernel
theorem dX4_isLane_14 : decode cX4_isLane 14 = .ok (.ireturn, 1) := by decide +kernel
theorem dX4_bitOf_0 : decode cX4_bitOf 0 = .ok (.iload_n 0, 1) := by decide +kernel
theorem dX4_bitOf_1 : decode cX4_bitOf 1 = .ok (.iload_n 1, 1) := by decide +kernel
theorem dX4_bitOf_2 : decode cX4_bitOf 2 = .ok (.ishr, 1) := by decide +kernel
theorem dX4_bitOf_3 : decode cX4_bitOf 3 = .ok (.iconst 1, 1) := by decide +kernel
theorem dX4_bitOf_4 : decode cX4_bitOf 4 = .ok (.iand, 1) := by decide +kernel
theorem dX4_bitOf_5 : decode cX4_bitOf 5 = .ok (.ireturn, 1) := by decide +kernel
theorem dX4_withBit_0 : decode cX4_withBit 0 = .ok (.iload_n 2, 1) := by decide +kernel
theorem dX4_withBit_1 : decode cX4_withBit 1 = .ok (.ifCond .eq 11, 3) := by decide +kernel
theorem dX4_withBit_4 : decode cX4_withBit 4 = .ok (.iload_n 0, 1) := by decide +kernel
theorem dX4_withBit_5 : decode cX4_withBit 5 = .ok (.iconst 1, 1) := by decide +kernel
theorem dX4_withBit_6 : decode cX4_withBit 6 = .ok (.iload_n 1, 1) := by decide +kernel
theorem dX4_withBit_7 : decode cX4_withBit 7 = .ok (.ishl, 1) := by decide +kernel
theorem dX4_withBit_8 : decode cX4_withBit 8 = .ok (.ior, 1) := by decide +kernel
theorem dX4_withBit_9 : decode cX4_withBit 9 = .ok (.goto 10, 3) := by decide +kernel
theorem dX4_withBit_12 : decode cX4_withBit 12 = .ok (.iload_n 0, 1) := by decide +kernel
theorem dX4_withBit_13 : decode cX4_withBit 13 = .ok (.iconst 1, 1) := by decide +kernel
theorem dX4_withBit_14 : decode cX4_withBit 14 = .ok (.iload_n 1, 1) := by decide +kernel
theorem dX4_withBit_15 : decode cX4_withBit 15 = .ok (.ishl, 1) := by decide +kernel
theorem dX4_withBit_16 : decode cX4_withBit 16 = .ok (.iconst (-1), 1) := by decide +kernel
theorem dX4_withBit_17 : decode cX4_withBit 17 = .ok (.ixor, 1) := by decide +kernel
theorem dX4_withBit_18 : decode cX4_withBit 18 = .ok (.iand, 1) := by decide +kernel
theorem dX4_withBit_19 : decode cX4_withBit 19 = .ok (.ireturn, 1) := by decide +kernel
theorem dX4_hasFewer_0 : decode cX4_hasFewer 0 = .ok (.iload_n 0, 1) := by decide +kernel
theorem dX4_hasFewer_1 : decode cX4_hasFewer 1 = .ok (.invokestatic 230, 3) := by decide +kernel
theorem dX4_hasFewer_4 : decode cX4_hasFewer 4 = .ok (.iload_n 1, 1) := by decide +kernel
theorem dX4_hasFewer_5 : decode cX4_hasFewer 5 = .ok (.invokestatic 230, 3) := by decide +kernel
theorem dX4_hasFewer_8 : decode cX4_hasFewer 8 = .ok (.if_icmp .ge 7, 3) := by decide +kernel
theorem dX4_hasFewer_11 : decode cX4_hasFewer 11 = .ok (.iconst 1, 1) := by decide +kernel
theorem dX4_hasFewer_12 : decode cX4_hasFewer 12 = .ok (.goto 4, 3) := by decide +kernel
theorem dX4_hasFewer_15 : decode cX4_hasFewer 15 = .ok (.iconst 0, 1) := by decide +kernel
theorem dX4_hasFewer_16 : decode cX4_hasFewer 16 = .ok (.ireturn, 1) := by decide +kernel
theorem dX4_faulty_0 : decode cX4_faulty 0 = .ok (.aload_n 0, 1) := by decide +kernel
theorem dX4_faulty_1 : decode cX4_faulty 1 = .ok (.iload_n 1, 1) := by decide +kernel
theorem dX4_faulty_2 : decode cX4_faulty 2 = .ok (.putfield 45, 3) := by decide +kernel
theorem dX4_faulty_5 : decode cX4_faulty 5 = .ok (.bipush (-10), 2) := by decide +kernel
theorem dX4_faulty_7 : decode cX4_faulty 7 = .ok (.iload_n 1, 1) := by decide +kernel
theorem dX4_faulty_8 : decode cX4_faulty 8 = .ok (.isub, 1) := by decide +kernel
theorem dX4_faulty_9 : decode cX4_faulty 9 = .ok (.ireturn, 1) := by decide +kernel
theorem dX4_takeOrder_0 : decode cX4_takeOrder 0 = .ok (.aload_n 1, 1) := by decide +kernel
theorem dX4_takeOrder_1 : decode cX4_takeOrder 1 = .ok (.iload_n 2, 1) := by decide +kernel
theorem dX4_takeOrder_2 : decode cX4_takeOrder 2 = .ok (.iload_n 3, 1) := by decide +kernel
theorem dX4_takeOrder_3 : decode cX4_takeOrder 3 = .ok (.iload 4, 2) := by decide +kernel
theorem dX4_takeOrder_5 : decode cX4_takeOrder 5 = .ok (.invokevirtual 56, 3) := by decide +kernel
theorem dX4_takeOrder_8 : decode cX4_takeOrder 8 = .ok (.istore 5, 2) := by decide +kernel
theorem dX4_takeOrder_10 : decode cX4_takeOrder 10 = .ok (.iload 5, 2) := by decide +kernel
theorem dX4_takeOrder_12 : decode cX4_takeOrder 12 = .ok (.ifCond .eq 10, 3) := by decide +kernel
theorem dX4_takeOrder_15 : decode cX4_takeOrder 15 = .ok (.aload_n 0, 1) := by decide +kernel
theorem dX4_takeOrder_16 : decode cX4_takeOrder 16 = .ok (.iload 5, 2) := by decide +kernel
theorem dX4_takeOrder_18 : decode cX4_takeOrder 18 = .ok (.invokevirtual 60, 3) := by decide +kernel
theorem dX4_takeOrder_21 : decode cX4_takeOrder 21 = .ok (.ireturn, 1) := by decide +kernel
theorem dX4_takeOrder_22 : decode cX4_takeOrder 22 = .ok (.aload_n 0, 1) := by decide +kernel
theorem dX4_takeOrder_23 : decode cX4_takeOrder 23 = .ok (.getfield 27, 3) := by decide +kernel
theorem dX4_takeOrder_26 : decode cX4_takeOrder 26 = .ok (.invokevirtual 106, 3) := by decide +kernel
theorem dX4_takeOrder_29 : decode cX4_takeOrder 29 = .ok (.ifCond .ne 6, 3) := by decide +kernel
theorem dX4_takeOrder_32 : decode cX4_takeOrder 32 = .ok (.bipush (-3), 2) := by decide +kernel
theorem dX4_takeOrder_34 : decode cX4_takeOrder 34 = .ok (.ireturn, 1) := by decide +kernel
theorem dX4_takeOrder_35 : decode cX4_takeOrder 35 = .ok (.aload_n 0, 1) := by decide +kernel
theorem dX4_takeOrder_36 : decode cX4_takeOrder 36 = .ok (.getfield 36, 3) := by decide +kernel
theorem dX4_takeOrder_39 : decode cX4_takeOrder 39 = .ok (.invokevirtual 136, 3) := by decide +kernel
theorem dX4_takeOrder_42 : decode cX4_takeOrder 42 = .ok (.iconst 0, 1) := by decide +kernel
theorem dX4_takeOrder_43 : decode cX4_takeOrder 43 = .ok (.istore 6, 2) := by decide +kernel
theorem dX4_takeOrder_45 : decode cX4_takeOrder 45 = .ok (.iconst 0, 1) := by decide +kernel
theorem dX4_takeOrder_46 : decode cX4_takeOrder 46 = .ok (.istore 7, 2) := by decide +kernel
theorem dX4_takeOrder_48 : decode cX4_takeOrder 48 = .ok (.iload 7, 2) := by decide +kernel
theorem dX4_takeOrder_50 : decode cX4_takeOrder 50 = .ok (.iload 4, 2) := by decide +kernel
theorem dX4_takeOrder_52 : decode cX4_takeOrder 52 = .ok (.if_icmp .ge 64, 3) := by decide +kernel
theorem dX4_takeOrder_55 : decode cX4_takeOrder 55 = .ok (.aload_n 1, 1) := by decide +kernel
theorem dX4_takeOrder_56 : decode cX4_takeOrder 56 = .ok (.getfield 193, 3) := by decide +kernel
theorem dX4_takeOrder_59 : decode cX4_takeOrder 59 = .ok (.iload_n 3, 1) := by decide +kernel
theorem dX4_takeOrder_60 : decode cX4_takeOrder 60 = .ok (.iload 7, 2) := by decide +kernel
theorem dX4_takeOrder_62 : decode cX4_takeOrder 62 = .ok (.iadd, 1) := by decide +kernel
theorem dX4_takeOrder_63 : decode cX4_takeOrder 63 = .ok (.iaload, 1) := by decide +kernel
theorem dX4_takeOrder_64 : decode cX4_takeOrder 64 = .ok (.istore 8, 2) := by decide +kernel
theorem dX4_takeOrder_66 : decode cX4_takeOrder 66 = .ok (.aload_n 0, 1) := by decide +kernel
theorem dX4_takeOrder_67 : decode cX4_takeOrder 67 = .ok (.getfield 27, 3) := by decide +kernel
theorem dX4_takeOrder_70 : decode cX4_takeOrder 70 = .ok (.iload 8, 2) := by decide +kernel
theorem dX4_takeOrder_72 : decode cX4_takeOrder 72 = .ok (.invokevirtual 94, 3) := by decide +kernel
theorem dX4_takeOrder_75 : decode cX4_takeOrder 75 = .ok (.ifCond .eq 14, 3) := by decide +kernel
theorem dX4_takeOrder_78 : decode cX4_takeOrder 78 = .ok (.iload 6, 2) := by decide +kernel
theorem dX4_takeOrder_80 : decode cX4_takeOrder 80 = .ok (.iload 8, 2) := by decide +kernel
theorem dX4_takeOrder_82 : decode cX4_takeOrder 82 = .ok (.invokestatic 87, 3) := by decide +kernel
theorem dX4_takeOrder_85 : decode cX4_takeOrder 85 = .ok (.iconst 1, 1) := by decide +kernel
theorem dX4_takeOrder_86 : decode cX4_takeOrder 86 = .ok (.if_icmp .ne 5, 3) := by decide +kernel
theorem dX4_takeOrder_89 : decode cX4_takeOrder 89 = .ok (.iconst (-1), 1) := by decide +kernel
theorem dX4_takeOrder_90 : decode cX4_takeOrder 90 = .ok (.ireturn, 1) := by decide +kernel
theorem dX4_takeOrder_91 : decode cX4_takeOrder 91 = .ok (.iload 6, 2) := by decide +kernel
theorem dX4_takeOrder_93 : decode cX4_takeOrder 93 = .ok (.iload 8, 2) := by decide +kernel
theorem dX4_takeOrder_95 : decode cX4_takeOrder 95 = .ok (.iconst 1, 1) := by decide +kernel
theorem dX4_takeOrder_96 : decode cX4_takeOrder 96 = .ok (.invokestatic 113, 3) := by decide +kernel
theorem dX4_takeOrder_99 : decode cX4_takeOrder 99 = .ok (.istore 6, 2) := by decide +kernel
theorem dX4_takeOrder_101 : decode cX4_takeOrder 101 = .ok (.aload_n 0, 1) := by decide +kernel
theorem dX4_takeOrder_102 : decode cX4_takeOrder 102 = .ok (.getfield 36, 3) := by decide +kernel
theorem dX4_takeOrder_105 : decode cX4_takeOrder 105 = .ok (.iload 8, 2) := by decide +kernel
theorem dX4_takeOrder_107 : decode cX4_takeOrder 107 = .ok (.invokevirtual 235, 3) := by decide +kernel
theorem dX4_takeOrder_110 : decode cX4_takeOrder 110 = .ok (.iinc 7 1, 3) := by decide +kernel
theorem dX4_takeOrder_113 : decode cX4_takeOrder 113 = .ok (.goto (-65), 3) := by decide +kernel
theorem dX4_takeOrder_116 : decode cX4_takeOrder 116 = .ok (.iconst 0, 1) := by decide +kernel
theorem dX4_takeOrder_117 : decode cX4_takeOrder 117 = .ok (.ireturn, 1) := by decide +kernel
theorem dX4_prepareByNumbers_0 : decode cX4_prepareByNumbers 0 = .ok (.aload_n 0, 1) := by decide +kernel
theorem dX4_prepareByNumbers_1 : decode cX4_prepareByNumbers 1 = .ok (.getfield 36, 3) := by decide +kernel
theorem dX4_prepareByNumbers_4 : decode cX4_prepareByNumbers 4 = .ok (.invokevirtual 136, 3) := by decide +kernel
theorem dX4_prepareByNumbers_7 : decode cX4_prepareByNumbers 7 = .ok (.iconst 0, 1) := by decide +kernel
theorem dX4_prepareByNumbers_8 : decode cX4_prepareByNumbers 8 = .ok (.istore_n 1, 1) := by decide +kernel
theorem dX4_prepareByNumbers_9 : decode cX4_prepareByNumbers 9 = .ok (.iload_n 1, 1) := by decide +kernel
theorem dX4_prepareByNumbers_10 : decode cX4_prepareByNumbers 10 = .ok (.aload_n 0, 1) := by decide +kernel
theorem dX4_prepareByNumbers_11 : decode cX4_prepareByNumbers 11 = .ok (.getfield 27, 3) := by decide +kernel
theorem dX4_prepareByNumbers_14 : decode cX4_prepareByNumbers 14 = .ok (.getfield 72, 3) := by decide +kernel
theorem dX4_prepareByNumbers_17 : decode cX4_prepareByNumbers 17 = .ok (.if_icmp .ge 17, 3) := by decide +kernel
theorem dX4_prepareByNumbers_20 : decode cX4_prepareByNumbers 20 = .ok (.aload_n 0, 1) := by decide +kernel
theorem dX4_prepareByNumbers_21 : decode cX4_prepareByNumbers 21 = .ok (.getfield 36, 3) := by decide +kernel
theorem dX4_prepareByNumbers_24 : decode cX4_prepareByNumbers 24 = .ok (.iload_n 1, 1) := by decide +kernel
theorem dX4_prepareByNumbers_25 : decode cX4_prepareByNumbers 25 = .ok (.invokevirtual 235, 3) := by decide +kernel
theorem dX4_prepareByNumbers_28 : decode cX4_prepareByNumbers 28 = .ok (.iinc 1 1, 3) := by decide +kernel
theorem dX4_prepareByNumbers_31 : decode cX4_prepareByNumbers 31 = .ok (.goto (-22), 3) := by decide +kernel
theorem dX4_prepareByNumbers_34 : decode cX4_prepareByNumbers 34 = .ok (.return_, 1) := by decide +kernel
theorem dX4_byOrderOfHighest_0 : decode cX4_byOrderOfHighest 0 = .ok (.iload_n 1, 1) := by decide +kernel
theorem dX4_byOrderOfHighest_1 : decode cX4_byOrderOfHighest 1 = .ok (.iconst (-1), 1) := by decide +kernel
theorem dX4_byOrderOfHighest_2 : decode cX4_byOrderOfHighest 2 = .ok (.if_icmp .ge 5, 3) := by decide +kernel
theorem dX4_byOrderOfHighest_5 : decode cX4_byOrderOfHighest 5 = .ok (.iconst (-1), 1) := by decide +kernel
theorem dX4_byOrderOfHighest_6 : decode cX4_byOrderOfHighest 6 = .ok (.ireturn, 1) := by decide +kernel
theorem dX4_byOrderOfHighest_7 : decode cX4_byOrderOfHighest 7 = .ok (.aload_n 0, 1) := by decide +kernel
theorem dX4_byOrderOfHighest_8 : decode cX4_byOrderOfHighest 8 = .ok (.getfield 27, 3) := by decide +kernel
theorem dX4_byOrderOfHighest_11 : decode cX4_byOrderOfHighest 11 = .ok (.invokevirtual 106, 3) := by decide +kernel
theorem dX4_byOrderOfHighest_14 : decode cX4_byOrderOfHighest 14 = .ok (.ifCond .ne 6, 3) := by decide +kernel
theorem dX4_byOrderOfHighest_17 : decode cX4_byOrderOfHighest 17 = .ok (.bipush (-3), 2) := by decide +kernel
theorem dX4_byOrderOfHighest_19 : decode cX4_byOrderOfHighest 19 = .ok (.ireturn, 1) := by decide +kernel
theorem dX4_byOrderOfHighest_20 : decode cX4_byOrderOfHighest 20 = .ok (.iload_n 1, 1) := by decide +kernel
theorem dX4_byOrderOfHighest_21 : decode cX4_byOrderOfHighest 21 = .ok (.aload_n 0, 1) := by decide +kernel
theorem dX4_byOrderOfHighest_22 : decode cX4_byOrderOfHighest 22 = .ok (.getfield 27, 3) := by decide +kernel
theorem dX4_byOrderOfHighest_25 : decode cX4_byOrderOfHighest 25 = .ok (.getfield 72, 3) := by decide +kernel
theorem dX4_byOrderOfHighest_28 : decode cX4_byOrderOfHighest 28 = .ok (.if_icmp .lt 6, 3) := by decide +kernel
theorem dX4_byOrderOfHighest_31 : decode cX4_byOrderOfHighest 31 = .ok (.bipush (-9), 2) := by decide +kernel
theorem dX4_byOrderOfHighest_33 : decode cX4_byOrderOfHighest 33 = .ok (.ireturn, 1) := by decide +kernel
theorem dX4_byOrderOfHighest_34 : decode cX4_byOrderOfHighest 34 = .ok (.aload_n 0, 1) := by decide +kernel
theorem dX4_byOrderOfHighest_35 : decode cX4_byOrderOfHighest 35 = .ok (.iload_n 2, 1) := by decide +kernel
theorem dX4_byOrderOfHighest_36 : decode cX4_byOrderOfHighest 36 = .ok (.invokevirtual 238, 3) := by decide +kernel
theorem dX4_byOrderOfHighest_39 : decode cX4_byOrderOfHighest 39 = .ok (.istore_n 3, 1) := by decide +kernel
theorem dX4_byOrderOfHighest_40 : decode cX4_byOrderOfHighest 40 = .ok (.iload_n 1, 1) := by decide +kernel
theorem dX4_byOrderOfHighest_41 : decode cX4_byOrderOfHighest 41 = .ok (.ifCond .ge 9, 3) := by decide +kernel
theorem dX4_byOrderOfHighest_44 : decode cX4_byOrderOfHighest 44 = .ok (.iload_n 2, 1) := by decide +kernel
theorem dX4_byOrderOfHighest_45 : decode cX4_byOrderOfHighest 45 = .ok (.iload_n 3, 1) := by decide +kernel
theorem dX4_byOrderOfHighest_46 : decode cX4_byOrderOfHighest 46 = .ok (.imul, 1) := by decide +kernel
theorem dX4_byOrderOfHighest_47 : decode cX4_byOrderOfHighest 47 = .ok (.goto 9, 3) := by decide +kernel
theorem dX4_byOrderOfHighest_50 : decode cX4_byOrderOfHighest 50 = .ok (.aload_n 0, 1) := by decide +kernel
theorem dX4_byOrderOfHighest_51 : decode cX4_byOrderOfHighest 51 = .ok (.getfield 40, 3) := by decide +kernel
theorem dX4_byOrderOfHighest_54 : decode cX4_byOrderOfHighest 54 = .ok (.iload_n 1, 1) := by decide +kernel
theorem dX4_byOrderOfHighest_55 : decode cX4_byOrderOfHighest 55 = .ok (.iaload, 1) := by decide +kernel
theorem dX4_byOrderOfHighest_56 : decode cX4_byOrderOfHighest 56 = .ok (.ireturn, 1) := by decide +kernel
theorem dX4_findOrderOfHighest_0 : decode cX4_findOrderOfHighest 0 = .ok (.aload_n 0, 1) := by decide +kernel
theorem dX4_findOrderOfHighest_1 : decode cX4_findOrderOfHighest 1 = .ok (.invokevirtual 148, 3) := by decide +kernel
theorem dX4_findOrderOfHighest_4 : decode cX4_findOrderOfHighest 4 = .ok (.sipush (-1000), 3) := by decide +kernel
theorem dX4_findOrderOfHighest_7 : decode cX4_findOrderOfHighest 7 = .ok (.istore_n 2, 1) := by decide +kernel
theorem dX4_findOrderOfHighest_8 : decode cX4_findOrderOfHighest 8 = .ok (.iconst 1, 1) := by decide +kernel
theorem dX4_findOrderOfHighest_9 : decode cX4_findOrderOfHighest 9 = .ok (.istore_n 3, 1) := by decide +kernel
theorem dX4_findOrderOfHighest_10 : decode cX4_findOrderOfHighest 10 = .ok (.iconst 0, 1) := by decide +kernel
theorem dX4_findOrderOfHighest_11 : decode cX4_findOrderOfHighest 11 = .ok (.istore 4, 2) := by decide +kernel
theorem dX4_findOrderOfHighest_13 : decode cX4_findOrderOfHighest 13 = .ok (.iload_n 3, 1) := by decide +kernel
theorem dX4_findOrderOfHighest_14 : decode cX4_findOrderOfHighest 14 = .ok (.ifCond .eq 71, 3) := by decide +kernel
theorem dX4_findOrderOfHighest_17 : decode cX4_findOrderOfHighest 17 = .ok (.iload 4, 2) := by decide +kernel
theorem dX4_findOrderOfHighest_19 : decode cX4_findOrderOfHighest 19 = .ok (.bipush 120, 2) := by decide +kernel
theorem dX4_findOrderOfHighest_21 : decode cX4_findOrderOfHighest 21 = .ok (.if_icmp .ge 64, 3) := by decide +kernel
theorem dX4_findOrderOfHighest_24 : decode cX4_findOrderOfHighest 24 = .ok (.aload_n 0, 1) := by decide +kernel
theorem dX4_findOrderOfHighest_25 : decode cX4_findOrderOfHighest 25 = .ok (.getfield 36, 3) := by decide +kernel
theorem dX4_findOrderOfHighest_28 : decode cX4_findOrderOfHighest 28 = .ok (.invokevirtual 124, 3) := by decide +kernel
theorem dX4_findOrderOfHighest_31 : decode cX4_findOrderOfHighest 31 = .ok (.iload_n 1, 1) := by decide +kernel
theorem dX4_findOrderOfHighest_32 : decode cX4_findOrderOfHighest 32 = .ok (.aload_n 0, 1) := by decide +kernel
theorem dX4_findOrderOfHighest_33 : decode cX4_findOrderOfHighest 33 = .ok (.getfield 36, 3) := by decide +kernel
theorem dX4_findOrderOfHighest_36 : decode cX4_findOrderOfHighest 36 = .ok (.getfield 130, 3) := by decide +kernel
theorem dX4_findOrderOfHighest_39 : decode cX4_findOrderOfHighest 39 = .ok (.imul, 1) := by decide +kernel
theorem dX4_findOrderOfHighest_40 : decode cX4_findOrderOfHighest 40 = .ok (.iload_n 2, 1) := by decide +kernel
theorem dX4_findOrderOfHighest_41 : decode cX4_findOrderOfHighest 41 = .ok (.if_icmp .le 30, 3) := by decide +kernel
theorem dX4_findOrderOfHighest_44 : decode cX4_findOrderOfHighest 44 = .ok (.iload_n 1, 1) := by decide +kernel
theorem dX4_findOrderOfHighest_45 : decode cX4_findOrderOfHighest 45 = .ok (.aload_n 0, 1) := by decide +kernel
theorem dX4_findOrderOfHighest_46 : decode cX4_findOrderOfHighest 46 = .ok (.getfield 36, 3) := by decide +kernel
theorem dX4_findOrderOfHighest_49 : decode cX4_findOrderOfHighest 49 = .ok (.getfield 130, 3) := by decide +kernel
theorem dX4_findOrderOfHighest_52 : decode cX4_findOrderOfHighest 52 = .ok (.imul, 1) := by decide +kernel
theorem dX4_findOrderOfHighest_53 : decode cX4_findOrderOfHighest 53 = .ok (.istore_n 2, 1) := by decide +kernel
theorem dX4_findOrderOfHighest_54 : decode cX4_findOrderOfHighest 54 = .ok (.aload_n 0, 1) := by decide +kernel
theorem dX4_findOrderOfHighest_55 : decode cX4_findOrderOfHighest 55 = .ok (.getfield 36, 3) := by decide +kernel
theorem dX4_findOrderOfHighest_58 : decode cX4_findOrderOfHighest 58 = .ok (.getfield 241, 3) := by decide +kernel
theorem dX4_findOrderOfHighest_61 : decode cX4_findOrderOfHighest 61 = .ok (.iconst 0, 1) := by decide +kernel
theorem dX4_findOrderOfHighest_62 : decode cX4_findOrderOfHighest 62 = .ok (.aload_n 0, 1) := by decide +kernel
theorem dX4_findOrderOfHighest_63 : decode cX4_findOrderOfHighest 63 = .ok (.getfield 40, 3) := by decide +kernel
theorem dX4_findOrderOfHighest_66 : decode cX4_findOrderOfHighest 66 = .ok (.iconst 0, 1) := by decide +kernel
theorem dX4_findOrderOfHighest_67 : decode cX4_findOrderOfHighest 67 = .ok (.iconst 5, 1) := by decide +kernel
theorem dX4_findOrderOfHighest_68 : decode cX4_findOrderOfHighest 68 = .ok (.invokestatic 208, 3) := by decide +kernel
theorem dX4_findOrderOfHighest_71 : decode cX4_findOrderOfHighest 71 = .ok (.aload_n 0, 1) := by decide +kernel
theorem dX4_findOrderOfHighest_72 : decode cX4_findOrderOfHighest 72 = .ok (.getfield 36, 3) := by decide +kernel
theorem dX4_findOrderOfHighest_75 : decode cX4_findOrderOfHighest 75 = .ok (.invokevirtual 244, 3) := by decide +kernel
theorem dX4_findOrderOfHighest_78 : decode cX4_findOrderOfHighest 78 = .ok (.istore_n 3, 1) := by decide +kernel
theorem dX4_findOrderOfHighest_79 : decode cX4_findOrderOfHighest 79 = .ok (.iinc 4 1, 3) := by decide +kernel
theorem dX4_findOrderOfHighest_82 : decode cX4_findOrderOfHighest 82 = .ok (.goto (-69), 3) := by decide +kernel
theorem dX4_findOrderOfHighest_85 : decode cX4_findOrderOfHighest 85 = .ok (.iload_n 2, 1) := by decide +kernel
theorem dX4_findOrderOfHighest_86 : decode cX4_findOrderOfHighest 86 = .ok (.ireturn, 1) := by decide +kernel
theorem dX4_fewestSweets_0 : decode cX4_fewestSweets 0 = .ok (.bipush (-9), 2) := by decide +kernel
theorem dX4_fewestSweets_2 : decode cX4_fewestSweets 2 = .ok (.istore_n 2, 1) := by decide +kernel
theorem dX4_fewestSweets_3 : decode cX4_fewestSweets 3 = .ok (.iconst 0, 1) := by decide +kernel
theorem dX4_fewestSweets_4 : decode cX4_fewestSweets 4 = .ok (.istore_n 3, 1) := by decide +kernel
theorem dX4_fewestSweets_5 : decode cX4_fewestSweets 5 = .ok (.iload_n 3, 1) := by decide +kernel
theorem dX4_fewestSweets_6 : decode cX4_fewestSweets 6 = .ok (.iconst 1, 1) := by decide +kernel
theorem dX4_fewestSweets_7 : decode cX4_fewestSweets 7 = .ok (.aload_n 0, 1) := by decide +kernel
theorem dX4_fewestSweets_8 : decode cX4_fewestSweets 8 = .ok (.getfield 27, 3) := by decide +kernel
theorem dX4_fewestSweets_11 : decode cX4_fewestSweets 11 = .ok (.getfield 151, 3) := by decide +kernel
theorem dX4_fewestSweets_14 : decode cX4_fewestSweets 14 = .ok (.ishl, 1) := by decide +kernel
theorem dX4_fewestSweets_15 : decode cX4_fewestSweets 15 = .ok (.if_icmp .ge 89, 3) := by decide +kernel
theorem dX4_fewestSweets_18 : decode cX4_fewestSweets 18 = .ok (.iload_n 3, 1) := by decide +kernel
theorem dX4_fewestSweets_19 : decode cX4_fewestSweets 19 = .ok (.aload_n 0, 1) := by decide +kernel
theorem dX4_fewestSweets_20 : decode cX4_fewestSweets 20 = .ok (.getfield 27, 3) := by decide +kernel
theorem dX4_fewestSweets_23 : decode cX4_fewestSweets 23 = .ok (.getfield 84, 3) := by decide +kernel
theorem dX4_fewestSweets_26 : decode cX4_fewestSweets 26 = .ok (.iand, 1) := by decide +kernel
theorem dX4_fewestSweets_27 : decode cX4_fewestSweets 27 = .ok (.ifCond .ne 7, 3) := by decide +kernel
theorem dX4_fewestSweets_30 : decode cX4_fewestSweets 30 = .ok (.iconst 1, 1) := by decide +kernel
theorem dX4_fewestSweets_31 : decode cX4_fewestSweets 31 = .ok (.goto 4, 3) := by decide +kernel
theorem dX4_fewestSweets_34 : decode cX4_fewestSweets 34 = .ok (.iconst 0, 1) := by decide +kernel
theorem dX4_fewestSweets_35 : decode cX4_fewestSweets 35 = .ok (.istore 4, 2) := by decide +kernel
theorem dX4_fewestSweets_37 : decode cX4_fewestSweets 37 = .ok (.iload 4, 2) := by decide +kernel
theorem dX4_fewestSweets_39 : decode cX4_fewestSweets 39 = .ok (.ifCond .eq 59, 3) := by decide +kernel
theorem dX4_fewestSweets_42 : decode cX4_fewestSweets 42 = .ok (.iload_n 2, 1) := by decide +kernel
theorem dX4_fewestSweets_43 : decode cX4_fewestSweets 43 = .ok (.bipush (-9), 2) := by decide +kernel
theorem dX4_fewestSweets_45 : decode cX4_fewestSweets 45 = .ok (.if_icmp .eq 11, 3) := by decide +kernel
theorem dX4_fewestSweets_48 : decode cX4_fewestSweets 48 = .ok (.iload_n 3, 1) := by decide +kernel
theorem dX4_fewestSweets_49 : decode cX4_fewestSweets 49 = .ok (.iload_n 2, 1) := by decide +kernel
theorem dX4_fewestSweets_50 : decode cX4_fewestSweets 50 = .ok (.invokestatic 173, 3) := by decide +kernel
theorem dX4_fewestSweets_53 : decode cX4_fewestSweets 53 = .ok (.ifCond .eq 45, 3) := by decide +kernel
theorem dX4_fewestSweets_56 : decode cX4_fewestSweets 56 = .ok (.aload_n 0, 1) := by decide +kernel
theorem dX4_fewestSweets_57 : decode cX4_fewestSweets 57 = .ok (.getfield 36, 3) := by decide +kernel
theorem dX4_fewestSweets_60 : decode cX4_fewestSweets 60 = .ok (.aload_n 0, 1) := by decide +kernel
theorem dX4_fewestSweets_61 : decode cX4_fewestSweets 61 = .ok (.getfield 27, 3) := by decide +kernel
theorem dX4_fewestSweets_64 : decode cX4_fewestSweets 64 = .ok (.getfield 84, 3) := by decide +kernel
theorem dX4_fewestSweets_67 : decode cX4_fewestSweets 67 = .ok (.iload_n 3, 1) := by decide +kernel
theorem dX4_fewestSweets_68 : decode cX4_fewestSweets 68 = .ok (.ior, 1) := by decide +kernel
theorem dX4_fewestSweets_69 : decode cX4_fewestSweets 69 = .ok (.putfield 178, 3) := by decide +kernel
theorem dX4_fewestSweets_72 : decode cX4_fewestSweets 72 = .ok (.aload_n 0, 1) := by decide +kernel
theorem dX4_fewestSweets_73 : decode cX4_fewestSweets 73 = .ok (.getfield 36, 3) := by decide +kernel
theorem dX4_fewestSweets_76 : decode cX4_fewestSweets 76 = .ok (.invokevirtual 124, 3) := by decide +kernel
theorem dX4_fewestSweets_79 : decode cX4_fewestSweets 79 = .ok (.aload_n 0, 1) := by decide +kernel
theorem dX4_fewestSweets_80 : decode cX4_fewestSweets 80 = .ok (.getfield 36, 3) := by decide +kernel
theorem dX4_fewestSweets_83 : decode cX4_fewestSweets 83 = .ok (.getfield 127, 3) := by decide +kernel
theorem dX4_fewestSweets_86 : decode cX4_fewestSweets 86 = .ok (.iload_n 1, 1) := by decide +kernel
theorem dX4_fewestSweets_87 : decode cX4_fewestSweets 87 = .ok (.iaload, 1) := by decide +kernel
theorem dX4_fewestSweets_88 : decode cX4_fewestSweets 88 = .ok (.iconst 1, 1) := by decide +kernel
theorem dX4_fewestSweets_89 : decode cX4_fewestSweets 89 = .ok (.if_icmp .ne 7, 3) := by decide +kernel
theorem dX4_fewestSweets_92 : decode cX4_fewestSweets 92 = .ok (.iload_n 2, 1) := by decide +kernel
theorem dX4_fewestSweets_93 : decode cX4_fewestSweets 93 = .ok (.goto 4, 3) := by decide +kernel
theorem dX4_fewestSweets_96 : decode cX4_fewestSweets 96 = .ok (.iload_n 3, 1) := by decide +kernel
theorem dX4_fewestSweets_97 : decode cX4_fewestSweets 97 = .ok (.istore_n 2, 1) := by decide +kernel
theorem dX4_fewestSweets_98 : decode cX4_fewestSweets 98 = .ok (.iinc 3 1, 3) := by decide +kernel
theorem dX4_fewestSweets_101 : decode cX4_fewestSweets 101 = .ok (.goto (-96), 3) := by decide +kernel
theorem dX4_fewestSweets_104 : decode cX4_fewestSweets 104 = .ok (.iload_n 2, 1) := by decide +kernel
theorem dX4_fewestSweets_105 : decode cX4_fewestSweets 105 = .ok (.ireturn, 1) := by decide +kernel
theorem dX4_mostByCourtsStrike_0 : decode cX4_mostByCourtsStrike 0 = .ok (.bipush (-9), 2) := by decide +kernel
theorem dX4_mostByCourtsStrike_2 : decode cX4_mostByCourtsStrike 2 = .ok (.istore_n 2, 1) := by decide +kernel
theorem dX4_mostByCourtsStrike_3 : decode cX4_mostByCourtsStrike 3 = .ok (.iconst 0, 1) := by decide +kernel
theorem dX4_mostByCourtsStrike_4 : decode cX4_mostByCourtsStrike 4 = .ok (.istore_n 3, 1) := by decide +kernel
theorem dX4_mostByCourtsStrike_5 : decode cX4_mostByCourtsStrike 5 = .ok (.iload_n 3, 1) := by decide +kernel
theorem dX4_mostByCourtsStrike_6 : decode cX4_mostByCourtsStrike 6 = .ok (.aload_n 0, 1) := by decide +kernel
theorem dX4_mostByCourtsStrike_7 : decode cX4_mostByCourtsStrike 7 = .ok (.getfield 27, 3) := by decide +kernel
theorem dX4_mostByCourtsStrike_10 : decode cX4_mostByCourtsStrike 10 = .ok (.getfield 151, 3) := by decide +kernel
theorem dX4_mostByCourtsStrike_13 : decode cX4_mostByCourtsStrike 13 = .ok (.if_icmp .ge 32, 3) := by decide +kernel
theorem dX4_mostByCourtsStrike_16 : decode cX4_mostByCourtsStrike 16 = .ok (.iload_n 1, 1) := by decide +kernel
theorem dX4_mostByCourtsStrike_17 : decode cX4_mostByCourtsStrike 17 = .ok (.iload_n 3, 1) := by decide +kernel
theorem dX4_mostByCourtsStrike_18 : decode cX4_mostByCourtsStrike 18 = .ok (.invokestatic 87, 3) := by decide +kernel
theorem dX4_mostByCourtsStrike_21 : decode cX4_mostByCourtsStrike 21 = .ok (.ifCond .ne 18, 3) := by decide +kernel
theorem dX4_mostByCourtsStrike_24 : decode cX4_mostByCourtsStrike 24 = .ok (.iload_n 2, 1) := by decide +kernel
theorem dX4_mostByCourtsStrike_25 : decode cX4_mostByCourtsStrike 25 = .ok (.aload_n 0, 1) := by decide +kernel
theorem dX4_mostByCourtsStrike_26 : decode cX4_mostByCourtsStrike 26 = .ok (.iload_n 1, 1) := by decide +kernel
theorem dX4_mostByCourtsStrike_27 : decode cX4_mostByCourtsStrike 27 = .ok (.iload_n 3, 1) := by decide +kernel
theorem dX4_mostByCourtsStrike_28 : decode cX4_mostByCourtsStrike 28 = .ok (.iconst 1, 1) := by decide +kernel
theorem dX4_mostByCourtsStrike_29 : decode cX4_mostByCourtsStrike 29 = .ok (.invokestatic 113, 3) := by decide +kernel
theorem dX4_mostByCourtsStrike_32 : decode cX4_mostByCourtsStrike 32 = .ok (.invokevirtual 157, 3) := by decide +kernel
theorem dX4_mostByCourtsStrike_35 : decode cX4_mostByCourtsStrike 35 = .ok (.invokestatic 247, 3) := by decide +kernel
theorem dX4_mostByCourtsStrike_38 : decode cX4_mostByCourtsStrike 38 = .ok (.istore_n 2, 1) := by decide +kernel
theorem dX4_mostByCourtsStrike_39 : decode cX4_mostByCourtsStrike 39 = .ok (.iinc 3 1, 3) := by decide +kernel
theorem dX4_mostByCourtsStrike_42 : decode cX4_mostByCourtsStrike 42 = .ok (.goto (-37), 3) := by decide +kernel
theorem dX4_mostByCourtsStrike_45 : decode cX4_mostByCourtsStrike 45 = .ok (.iload_n 2, 1) := by decide +kernel
theorem dX4_mostByCourtsStrike_46 : decode cX4_mostByCourtsStrike 46 = .ok (.bipush (-9), 2) := by decide +kernel
theorem dX4_mostByCourtsStrike_48 : decode cX4_mostByCourtsStrike 48 = .ok (.if_icmp .ne 11, 3) := by decide +kernel
theorem dX4_mostByCourtsStrike_51 : decode cX4_mostByCourtsStrike 51 = .ok (.aload_n 0, 1) := by decide +kernel
theorem dX4_mostByCourtsStrike_52 : decode cX4_mostByCourtsStrike 52 = .ok (.iload_n 1, 1) := by decide +kernel
theorem dX4_mostByCourtsStrike_53 : decode cX4_mostByCourtsStrike 53 = .ok (.invokevirtual 157, 3) := by decide +kernel
theorem dX4_mostByCourtsStrike_56 : decode cX4_mostByCourtsStrike 56 = .ok (.goto 4, 3) := by decide +kernel
theorem dX4_mostByCourtsStrike_59 : decode cX4_mostByCourtsStrike 59 = .ok (.iload_n 2, 1) := by decide +kernel
theorem dX4_mostByCourtsStrike_60 : decode cX4_mostByCourtsStrike 60 = .ok (.ireturn, 1) := by decide +kernel
theorem dX4_sentencedIfStruck_0 : decode cX4_sentencedIfStruck 0 = .ok (.aload_n 0, 1) := by decide +kernel
theorem dX4_sentencedIfStruck_1 : decode cX4_sentencedIfStruck 1 = .ok (.getfield 36, 3) := by decide +kernel
theorem dX4_sentencedIfStruck_4 : decode cX4_sentencedIfStruck 4 = .ok (.iload_n 1, 1) := by decide +kernel
theorem dX4_sentencedIfStruck_5 : decode cX4_sentencedIfStruck 5 = .ok (.putfield 181, 3) := by decide +kernel
theorem dX4_sentencedIfStruck_8 : decode cX4_sentencedIfStruck 8 = .ok (.aload_n 0, 1) := by decide +kernel
theorem dX4_sentencedIfStruck_9 : decode cX4_sentencedIfStruck 9 = .ok (.getfield 36, 3) := by decide +kernel
theorem dX4_sentencedIfStruck_12 : decode cX4_sentencedIfStruck 12 = .ok (.invokevirtual 124, 3) := by decide +kernel
theorem dX4_sentencedIfStruck_15 : decode cX4_sentencedIfStruck 15 = .ok (.aload_n 0, 1) := by decide +kernel
theorem dX4_sentencedIfStruck_16 : decode cX4_sentencedIfStruck 16 = .ok (.getfield 36, 3) := by decide +kernel
theorem dX4_sentencedIfStruck_19 : decode cX4_sentencedIfStruck 19 = .ok (.getfield 130, 3) := by decide +kernel
theorem dX4_sentencedIfStruck_22 : decode cX4_sentencedIfStruck 22 = .ok (.ireturn, 1) := by decide +kernel
theorem dX4_isAsRead_0 : decode cX4_isAsRead 0 = .ok (.aload_n 0, 1) := by decide +kernel
theorem dX4_isAsRead_1 : decode cX4_isAsRead 1 = .ok (.getfield 36, 3) := by decide +kernel
theorem dX4_isAsRead_4 : decode cX4_isAsRead 4 = .ok (.invokevirtual 124, 3) := by decide +kernel
theorem dX4_isAsRead_7 : decode cX4_isAsRead 7 = .ok (.iconst 0, 1) := by decide +kernel
theorem dX4_isAsRead_8 : decode cX4_isAsRead 8 = .ok (.istore_n 1, 1) := by decide +kernel
theorem dX4_isAsRead_9 : decode cX4_isAsRead 9 = .ok (.iload_n 1, 1) := by decide +kernel
theorem dX4_isAsRead_10 : decode cX4_isAsRead 10 = .ok (.aload_n 0, 1) := by decide +kernel
theorem dX4_isAsRead_11 : decode cX4_isAsRead 11 = .ok (.getfield 27, 3) := by decide +kernel
theorem dX4_isAsRead_14 : decode cX4_isAsRead 14 = .ok (.getfield 160, 3) := by decide +kernel
theorem dX4_isAsRead_17 : decode cX4_isAsRead 17 = .ok (.if_icmp .ge 40, 3) := by decide +kernel
theorem dX4_isAsRead_20 : decode cX4_isAsRead 20 = .ok (.aload_n 0, 1) := by decide +kernel
theorem dX4_isAsRead_21 : decode cX4_isAsRead 21 = .ok (.getfield 36, 3) := by decide +kernel
theorem dX4_isAsRead_24 : decode cX4_isAsRead 24 = .ok (.getfield 127, 3) := by decide +kernel
theorem dX4_isAsRead_27 : decode cX4_isAsRead 27 = .ok (.aload_n 0, 1) := by decide +kernel
theorem dX4_isAsRead_28 : decode cX4_isAsRead 28 = .ok (.getfield 27, 3) := by decide +kernel
theorem dX4_isAsRead_31 : decode cX4_isAsRead 31 = .ok (.getfield 163, 3) := by decide +kernel
theorem dX4_isAsRead_34 : decode cX4_isAsRead 34 = .ok (.iload_n 1, 1) := by decide +kernel
theorem dX4_isAsRead_35 : decode cX4_isAsRead 35 = .ok (.iaload, 1) := by decide +kernel
theorem dX4_isAsRead_36 : decode cX4_isAsRead 36 = .ok (.iaload, 1) := by decide +kernel
theorem dX4_isAsRead_37 : decode cX4_isAsRead 37 = .ok (.aload_n 0, 1) := by decide +kernel
theorem dX4_isAsRead_38 : decode cX4_isAsRead 38 = .ok (.getfield 27, 3) := by decide +kernel
theorem dX4_isAsRead_41 : decode cX4_isAsRead 41 = .ok (.getfield 166, 3) := by decide +kernel
theorem dX4_isAsRead_44 : decode cX4_isAsRead 44 = .ok (.iload_n 1, 1) := by decide +kernel
theorem dX4_isAsRead_45 : decode cX4_isAsRead 45 = .ok (.iaload, 1) := by decide +kernel
theorem dX4_isAsRead_46 : decode cX4_isAsRead 46 = .ok (.if_icmp .eq 5, 3) := by decide +kernel
theorem dX4_isAsRead_49 : decode cX4_isAsRead 49 = .ok (.iconst 0, 1) := by decide +kernel
theorem dX4_isAsRead_50 : decode cX4_isAsRead 50 = .ok (.ireturn, 1) := by decide +kernel
theorem dX4_isAsRead_51 : decode cX4_isAsRead 51 = .ok (.iinc 1 1, 3) := by decide +kernel
theorem dX4_isAsRead_54 : decode cX4_isAsRead 54 = .ok (.goto (-45), 3) := by decide +kernel
theorem dX4_isAsRead_57 : decode cX4_isAsRead 57 = .ok (.iconst 1, 1) := by decide +kernel
theorem dX4_isAsRead_58 : decode cX4_isAsRead 58 = .ok (.ireturn, 1) := by decide +kernel
theorem dX4_leaveInTrace_0 : decode cX4_leaveInTrace 0 = .ok (.aload_n 0, 1) := by decide +kernel
theorem dX4_leaveInTrace_1 : decode cX4_leaveInTrace 1 = .ok (.bipush 31, 2) := by decide +kernel
theorem dX4_leaveInTrace_3 : decode cX4_leaveInTrace 3 = .ok (.aload_n 0, 1) := by decide +kernel
theorem dX4_leaveInTrace_4 : decode cX4_leaveInTrace 4 = .ok (.getfield 227, 3) := by decide +kernel
theorem dX4_leaveInTrace_7 : decode cX4_leaveInTrace 7 = .ok (.imul, 1) := by decide +kernel
theorem dX4_leaveInTrace_8 : decode cX4_leaveInTrace 8 = .ok (.iload_n 1, 1) := by decide +kernel
theorem dX4_leaveInTrace_9 : decode cX4_leaveInTrace 9 = .ok (.iadd, 1) := by decide +kernel
theorem dX4_leaveInTrace_10 : decode cX4_leaveInTrace 10 = .ok (.putfield 227, 3) := by decide +kernel
theorem dX4_leaveInTrace_13 : decode cX4_leaveInTrace 13 = .ok (.return_, 1) := by decide +kernel
theorem dX4_childTelling_0 : decode cX4_childTelling 0 = .ok (.aload_n 0, 1) := by decide +kernel
theorem dX4_childTelling_1 : decode cX4_childTelling 1 = .ok (.iconst 1, 1) := by decide +kernel
theorem dX4_childTelling_2 : decode cX4_childTelling 2 = .ok (.invokevirtual 223, 3) := by decide +kernel
theorem dX4_childTelling_5 : decode cX4_childTelling 5 = .ok (.aload_n 0, 1) := by decide +kernel
theorem dX4_childTelling_6 : decode cX4_childTelling 6 = .ok (.getfield 27, 3) := by decide +kernel
theorem dX4_childTelling_9 : decode cX4_childTelling 9 = .ok (.getfield 81, 3) := by decide +kernel
theorem dX4_childTelling_12 : decode cX4_childTelling 12 = .ok (.iload_n 1, 1) := by decide +kernel
theorem dX4_childTelling_13 : decode cX4_childTelling 13 = .ok (.iaload, 1) := by decide +kernel
theorem dX4_childTelling_14 : decode cX4_childTelling 14 = .ok (.ireturn, 1) := by decide +kernel
theorem dX4_hungryTelling_0 : decode cX4_hungryTelling 0 = .ok (.aload_n 0, 1) := by decide +kernel
theorem dX4_hungryTelling_1 : decode cX4_hungryTelling 1 = .ok (.iconst 2, 1) := by decide +kernel
theorem dX4_hungryTelling_2 : decode cX4_hungryTelling 2 = .ok (.invokevirtual 223, 3) := by decide +kernel
theorem dX4_hungryTelling_5 : decode cX4_hungryTelling 5 = .ok (.aload_n 0, 1) := by decide +kernel
theorem dX4_hungryTelling_6 : decode cX4_hungryTelling 6 = .ok (.iload_n 1, 1) := by decide +kernel
theorem dX4_hungryTelling_7 : decode cX4_hungryTelling 7 = .ok (.invokevirtual 220, 3) := by decide +kernel
theorem dX4_hungryTelling_10 : decode cX4_hungryTelling 10 = .ok (.bipush 100, 2) := by decide +kernel
theorem dX4_hungryTelling_12 : decode cX4_hungryTelling 12 = .ok (.iadd, 1) := by decide +kernel
theorem dX4_hungryTelling_13 : decode cX4_hungryTelling 13 = .ok (.ireturn, 1) := by decide +kernel
theorem dX4_sweetTelling_0 : decode cX4_sweetTelling 0 = .ok (.aload_n 0, 1) := by decide +kernel
theorem dX4_sweetTelling_1 : decode cX4_sweetTelling 1 = .ok (.iconst 3, 1) := by decide +kernel
theorem dX4_sweetTelling_2 : decode cX4_sweetTelling 2 = .ok (.invokevirtual 223, 3) := by decide +kernel
theorem dX4_sweetTelling_5 : decode cX4_sweetTelling 5 = .ok (.aload_n 0, 1) := by decide +kernel
theorem dX4_sweetTelling_6 : decode cX4_sweetTelling 6 = .ok (.iload_n 1, 1) := by decide +kernel
theorem dX4_sweetTelling_7 : decode cX4_sweetTelling 7 = .ok (.invokevirtual 217, 3) := by decide +kernel
theorem dX4_sweetTelling_10 : decode cX4_sweetTelling 10 = .ok (.aload_n 0, 1) := by decide +kernel
theorem dX4_sweetTelling_11 : decode cX4_sweetTelling 11 = .ok (.iload_n 1, 1) := by decide +kernel
theorem dX4_sweetTelling_12 : decode cX4_sweetTelling 12 = .ok (.invokevirtual 220, 3) := by decide +kernel
theorem dX4_sweetTelling_15 : decode cX4_sweetTelling 15 = .ok (.iadd, 1) := by decide +kernel
theorem dX4_sweetTelling_16 : decode cX4_sweetTelling 16 = .ok (.ireturn, 1) := by decide +kernel
theorem dX5_init_0 : decode cX5_init 0 = .ok (.aload_n 0, 1) := by decide +kernel
theorem dX5_init_1 : decode cX5_init 1 = .ok (.invokespecial 1, 3) := by decide +kernel
theorem dX5_init_4 : decode cX5_init 4 = .ok (.aload_n 0, 1) := by decide +kernel
theorem dX5_init_5 : decode cX5_init 5 = .ok (.iconst 4, 1) := by decide +kernel
theorem dX5_init_6 : decode cX5_init 6 = .ok (.newarray .int, 2) := by decide +kernel
theorem dX5_init_8 : decode cX5_init 8 = .ok (.dup, 1) := by decide +kernel
theorem dX5_init_9 : decode cX5_init 9 = .ok (.iconst 0, 1) := by decide +kernel
theorem dX5_init_10 : decode cX5_init 10 = .ok (.bipush (-9), 2) := by decide +kernel
theorem dX5_init_12 : decode cX5_init 12 = .ok (.iastore, 1) := by decide +kernel
theorem dX5_init_13 : decode cX5_init 13 = .ok (.dup, 1) := by decide +kernel
theorem dX5_init_14 : decode cX5_init 14 = .ok (.iconst 1, 1) := by decide +kernel
theorem dX5_init_15 : decode cX5_init 15 = .ok (.bipush (-9), 2) := by decide +kernel
theorem dX5_init_17 : decode cX5_init 17 = .ok (.iastore, 1) := by decide +kernel
theorem dX5_init_18 : decode cX5_init 18 = .ok (.dup, 1) := by decide +kernel
theorem dX5_init_19 : decode cX5_init 19 = .ok (.iconst 2, 1) := by decide +kernel
theorem dX5_init_20 : decode cX5_init 20 = .ok (.bipush (-9), 2) := by decide +kernel
theorem dX5_init_22 : decode cX5_init 22 = .ok (.iastore, 1) := by decide +kernel
theorem dX5_init_23 : decode cX5_init 23 = .ok (.dup, 1) := by decide +kernel
theorem dX5_init_24 : decode cX5_init 24 = .ok (.iconst 3, 1) := by decide +kernel
theorem dX5_init_25 : decode cX5_init 25 = .ok (.bipush (-9), 2) := by decide +kernel
theorem dX5_init_27 : decode cX5_init 27 = .ok (.iastore, 1) := by decide +kernel
theorem dX5_init_28 : decode cX5_init 28 = .ok (.putfield 9, 3) := by decide +kernel
theorem dX5_init_31 : decode cX5_init 31 = .ok (.aload_n 0, 1) := by decide +kernel
theorem dX5_init_32 : decode cX5_init 32 = .ok (.iconst 4, 1) := by decide +kernel
theorem dX5_init_33 : decode cX5_init 33 = .ok (.newarray .int, 2) := by decide +kernel
theorem dX5_init_35 : decode cX5_init 35 = .ok (.putfield 13, 3) := by decide +kernel
theorem dX5_init_38 : decode cX5_init 38 = .ok (.aload_n 0, 1) := by decide +kernel
theorem dX5_init_39 : decode cX5_init 39 = .ok (.sipush 240, 3) := by decide +kernel
theorem dX5_init_42 : decode cX5_init 42 = .ok (.newarray .int, 2) := by decide +kernel
theorem dX5_init_44 : decode cX5_init 44 = .ok (.putfield 16, 3) := by decide +kernel
theorem dX5_init_47 : decode cX5_init 47 = .ok (.aload_n 0, 1) := by decide +kernel
theorem dX5_init_48 : decode cX5_init 48 = .ok (.iconst 5, 1) := by decide +kernel
theorem dX5_init_49 : decode cX5_init 49 = .ok (.newarray .int, 2) := by decide +kernel
theorem dX5_init_51 : decode cX5_init 51 = .ok (.putfield 19, 3) := by decide +kernel
theorem dX5_init_54 : decode cX5_init 54 = .ok (.aload_n 0, 1) := by decide +kernel
theorem dX5_init_55 : decode cX5_init 55 = .ok (.iconst 5, 1) := by decide +kernel
theorem dX5_init_56 : decode cX5_init 56 = .ok (.newarray .int, 2) := by decide +kernel
theorem dX5_init_58 : decode cX5_init 58 = .ok (.putfield 22, 3) := by decide +kernel
theorem dX5_init_61 : decode cX5_init 61 = .ok (.aload_n 0, 1) := by decide +kernel
theorem dX5_init_62 : decode cX5_init 62 = .ok (.iconst 5, 1) := by decide +kernel
theorem dX5_init_63 : decode cX5_init 63 = .ok (.newarray .boolean, 2) := by decide +kernel
theorem dX5_init_65 : decode cX5_init 65 = .ok (.putfield 25, 3) := by decide +kernel
theorem dX5_init_68 : decode cX5_init 68 = .ok (.aload_n 0, 1) := by decide +kernel
theorem dX5_init_69 : decode cX5_init 69 = .ok (.iconst 5, 1) := by decide +kernel
theorem dX5_init_70 : decode cX5_init 70 = .ok (.newarray .boolean, 2) := by decide +kernel
theorem dX5_init_72 : decode cX5_init 72 = .ok (.putfield 29, 3) := by decide +kernel
theorem dX5_init_75 : decode cX5_init 75 = .ok (.aload_n 0, 1) := by decide +kernel
theorem dX5_init_76 : decode cX5_init 76 = .ok (.iconst 5, 1) := by decide +kernel
theorem dX5_init_77 : decode cX5_init 77 = .ok (.newarray .int, 2) := by decide +kernel
theorem dX5_init_79 : decode cX5_init 79 = .ok (.putfield 32, 3) := by decide +kernel
theorem dX5_init_82 : decode cX5_init 82 = .ok (.aload_n 0, 1) := by decide +kernel
theorem dX5_init_83 : decode cX5_init 83 = .ok (.iconst 5, 1) := by decide +kernel
theorem dX5_init_84 : decode cX5_init 84 = .ok (.newarray .int, 2) := by decide +kernel
theorem dX5_init_86 : decode cX5_init 86 = .ok (.putfield 35, 3) := by decide +kernel
theorem dX5_init_89 : decode cX5_init 89 = .ok (.aload_n 0, 1) := by decide +kernel
theorem dX5_init_90 : decode cX5_init 90 = .ok (.iconst 5, 1) := by decide +kernel
theorem dX5_init_91 : decode cX5_init 91 = .ok (.newarray .int, 2) := by decide +kernel
theorem dX5_init_93 : decode cX5_init 93 = .ok (.putfield 38, 3) := by decide +kernel
theorem dX5_init_96 : decode cX5_init 96 = .ok (.aload_n 0, 1) := by decide +kernel
theorem dX5_init_97 : decode cX5_init 97 = .ok (.bipush 10, 2) := by decide +kernel
theorem dX5_init_99 : decode cX5_init 99 = .ok (.newarray .int, 2) := by decide +kernel
theorem dX5_init_101 : decode cX5_init 101 = .ok (.putfield 41, 3) := by decide +kernel
theorem dX5_init_104 : decode cX5_init 104 = .ok (.aload_n 0, 1) := by decide +kernel
theorem dX5_init_105 : decode cX5_init 105 = .ok (.bipush 15, 2) := by decide +kernel
theorem dX5_init_107 : decode cX5_init 107 = .ok (.newarray .int, 2) := by decide +kernel
theorem dX5_init_109 : decode cX5_init 109 = .ok (.putfield 44, 3) := by decide +kernel
theorem dX5_init_112 : decode cX5_init 112 = .ok (.aload_n 0, 1) := by decide +kernel
theorem dX5_init_113 : decode cX5_init 113 = .ok (.iconst 5, 1) := by decide +kernel
theorem dX5_init_114 : decode cX5_init 114 = .ok (.newarray .int, 2) := by decide +kernel
theorem dX5_init_116 : decode cX5_init 116 = .ok (.putfield 47, 3) := by decide +kernel
theorem dX5_init_119 : decode cX5_init 119 = .ok (.aload_n 0, 1) := by decide +kernel
theorem dX5_init_120 : decode cX5_init 120 = .ok (.bipush 6, 2) := by decide +kernel
theorem dX5_init_122 : decode cX5_init 122 = .ok (.newarray .int, 2) := by decide +kernel
theorem dX5_init_124 : decode cX5_init 124 = .ok (.putfield 50, 3) := by decide +kernel
theorem dX5_init_127 : decode cX5_init 127 = .ok (.aload_n 0, 1) := by decide +kernel
theorem dX5_init_128 : decode cX5_init 128 = .ok (.iconst 5, 1) := by decide +kernel
theorem dX5_init_129 : decode cX5_init 129 = .ok (.newarray .boolean, 2) := by decide +kernel
theorem dX5_init_131 : decode cX5_init 131 = .ok (.putfield 53, 3) := by decide +kernel
theorem dX5_init_134 : decode cX5_init 134 = .ok (.aload_n 0, 1) := by decide +kernel
theorem dX5_init_135 : decode cX5_init 135 = .ok (.iconst 5, 1) := by decide +kernel
theorem dX5_init_136 : decode cX5_init 136 = .ok (.newarray .int, 2) := by decide +kernel
theorem dX5_init_138 : decode cX5_init 138 = .ok (.putfield 56, 3) := by decide +kernel
theorem dX5_init_141 : decode cX5_init 141 = .ok (.aload_n 0, 1) := by decide +kernel
theorem dX5_init_142 : decode cX5_init 142 = .ok (.iconst 5, 1) := by decide +kernel
theorem dX5_init_143 : decode cX5_init 143 = .ok (.newarray .int, 2) := by decide +kernel
theorem dX5_init_145 : decode cX5_init 145 = .ok (.putfield 59, 3) := by decide +kernel
theorem dX5_init_148 : decode cX5_init 148 = .ok (.aload_n 0, 1) := by decide +kernel
theorem dX5_init_149 : decode cX5_init 149 = .ok (.bipush 8, 2) := by decide +kernel
theorem dX5_init_151 : decode cX5_init 151 = .ok (.newarray .int, 2) := by decide +kernel
theorem dX5_init_153 : decode cX5_init 153 = .ok (.putfield 62, 3) := by decide +kernel
theorem dX5_init_156 : decode cX5_init 156 = .ok (.aload_n 0, 1) := by decide +kernel
theorem dX5_init_157 : decode cX5_init 157 = .ok (.bipush 8, 2) := by decide +kernel
theorem dX5_init_159 : decode cX5_init 159 = .ok (.newarray .int, 2) := by decide +kernel
theorem dX5_init_161 : decode cX5_init 161 = .ok (.putfield 65, 3) := by decide +kernel
theorem dX5_init_164 : decode cX5_init 164 = .ok (.return_, 1) := by decide +kernel
theorem dX5_fails_0 : decode cX5_fails 0 = .ok (.aload_n 0, 1) := by decide +kernel
theorem dX5_fails_1 : decode cX5_fails 1 = .ok (.iload_n 1, 1) := by decide +kernel
theorem dX5_fails_2 : decode cX5_fails 2 = .ok (.putfield 68, 3) := by decide +kernel
theorem dX5_fails_5 : decode cX5_fails 5 = .ok (.bipush (-10), 2) := by decide +kernel
theorem dX5_fails_7 : decode cX5_fails 7 = .ok (.iload_n 1, 1) := by decide +kernel
theorem dX5_fails_8 : decode cX5_fails 8 = .ok (.isub, 1) := by decide +kernel
theorem dX5_fails_9 : decode cX5_fails 9 = .ok (.ireturn, 1) := by decide +kernel
theorem dX5_lost_0 : decode cX5_lost 0 = .ok (.aload_n 0, 1) := by decide +kernel
theorem dX5_lost_1 : decode cX5_lost 1 = .ok (.iload_n 1, 1) := by decide +kernel
theorem dX5_lost_2 : decode cX5_lost 2 = .ok (.putfield 68, 3) := by decide +kernel
theorem dX5_lost_5 : decode cX5_lost 5 = .ok (.ldc2_w 72, 3) := by decide +kernel
theorem dX5_lost_8 : decode cX5_lost 8 = .ok (.lreturn, 1) := by decide +kernel
theorem dX5_within_0 : decode cX5_within 0 = .ok (.iload_n 0, 1) := by decide +kernel
theorem dX5_within_1 : decode cX5_within 1 = .ok (.iload_n 1, 1) := by decide +kernel
theorem dX5_within_2 : decode cX5_within 2 = .ok (.if_icmp .lt 12, 3) := by decide +kernel
theorem dX5_within_5 : decode cX5_within 5 = .ok (.iload_n 0, 1) := by decide +kernel
theorem dX5_within_6 : decode cX5_within 6 = .ok (.iload_n 2, 1) := by decide +kernel
theorem dX5_within_7 : decode cX5_within 7 = .ok (.if_icmp .gt 7, 3) := by decide +kernel
theorem dX5_within_10 : decode cX5_within 10 = .ok (.iconst 1, 1) := by decide +kernel
theorem dX5_within_11 : decode cX5_within 11 = .ok (.goto 4, 3) := by decide +kernel
theorem dX5_within_14 : decode cX5_within 14 = .ok (.iconst 0, 1) := by decide +kernel
theorem dX5_within_15 : decode cX5_within 15 = .ok (.ireturn, 1) := by decide +kernel
theorem dX5_isSheet_0 : decode cX5_isSheet 0 = .ok (.iload_n 0, 1) := by decide +kernel
theorem dX5_isSheet_1 : decode cX5_isSheet 1 = .ok (.iconst 0, 1) := by decide +kernel
theorem dX5_isSheet_2 : decode cX5_isSheet 2 = .ok (.iconst 3, 1) := by decide +kernel
theorem dX5_isSheet_3 : decode cX5_isSheet 3 = .ok (.invokestatic 74, 3) := by decide +kernel
theorem dX5_isSheet_6 : decode cX5_isSheet 6 = .ok (.ireturn, 1) := by decide +kernel
theorem dX5_isSort_0 : decode cX5_isSort 0 = .ok (.iload_n 0, 1) := by decide +kernel
theorem dX5_isSort_1 : decode cX5_isSort 1 = .ok (.iconst 0, 1) := by decide +kernel
theorem dX5_isSort_2 : decode cX5_isSort 2 = .ok (.iconst 2, 1) := by decide +kernel
theorem dX5_isSort_3 : decode cX5_isSort 3 = .ok (.invokestatic 74, 3) := by decide +kernel
theorem dX5_isSort_6 : decode cX5_isSort 6 = .ok (.ireturn, 1) := by decide +kernel
theorem dX5_against_0 : decode cX5_against 0 = .ok (.aload_n 0, 1) := by decide +kernel
theorem dX5_against_1 : decode cX5_against 1 = .ok (.getfield 9, 3) := by decide +kernel
theorem dX5_against_4 : decode cX5_against 4 = .ok (.iload_n 1, 1) := by decide +kernel
theorem dX5_against_5 : decode cX5_against 5 = .ok (.iaload, 1) := by decide +kernel
theorem dX5_against_6 : decode cX5_against 6 = .ok (.bipush (-9), 2) := by decide +kernel
theorem dX5_against_8 : decode cX5_against 8 = .ok (.if_icmp .eq 15, 3) := by decide +kernel
theorem dX5_against_11 : decode cX5_against 11 = .ok (.aload_n 0, 1) := by decide +kernel
theorem dX5_against_12 : decode cX5_against 12 = .ok (.getfield 9, 3) := by decide +kernel
theorem dX5_against_15 : decode cX5_against 15 = .ok (.iload_n 1, 1) := by decide +kernel
theorem dX5_against_16 : decode cX5_against 16 = .ok (.iaload, 1) := by decide +kernel
theorem dX5_against_17 : decode cX5_against 17 = .ok (.iload_n 2, 1) := by decide +kernel
theorem dX5_against_18 : decode cX5_against 18 = .ok (.if_icmp .eq 5, 3) := by decide +kernel
theorem dX5_against_21 : decode cX5_against 21 = .ok (.iconst 2, 1) := by decide +kernel
theorem dX5_against_22 : decode cX5_against 22 = .ok (.ireturn, 1) := by decide +kernel
theorem dX5_against_23 : decode cX5_against 23 = .ok (.aload_n 0, 1) := by decide +kernel
theorem dX5_against_24 : decode cX5_against 24 = .ok (.getfield 9, 3) := by decide +kernel
theorem dX5_against_27 : decode cX5_against 27 = .ok (.iload_n 1, 1) := by decide +kernel
theorem dX5_against_28 : decode cX5_against 28 = .ok (.iaload, 1) := by decide +kernel
theorem dX5_against_29 : decode cX5_against 29 = .ok (.bipush (-9), 2) := by decide +kernel
theorem dX5_against_31 : decode cX5_against 31 = .ok (.if_icmp .ne 5, 3) := by decide +kernel
theorem dX5_against_34 : decode cX5_against 34 = .ok (.iconst 1, 1) := by decide +kernel
theorem dX5_against_35 : decode cX5_against 35 = .ok (.ireturn, 1) := by decide +kernel
theorem dX5_against_36 : decode cX5_against 36 = .ok (.iload 4, 2) := by decide +kernel
theorem dX5_against_38 : decode cX5_against 38 = .ok (.ifCond .ge 5, 3) := by decide +kernel
theorem dX5_against_41 : decode cX5_against 41 = .ok (.iconst 4, 1) := by decide +kernel
theorem dX5_against_42 : decode cX5_against 42 = .ok (.ireturn, 1) := by decide +kernel
theorem dX5_against_43 : decode cX5_against 43 = .ok (.iload_n 3, 1) := by decide +kernel
theorem dX5_against_44 : decode cX5_against 44 = .ok (.ifCond .lt 26, 3) := by decide +kernel
theorem dX5_against_47 : decode cX5_against 47 = .ok (.iload_n 3, 1) := by decide +kernel
theorem dX5_against_48 : decode cX5_against 48 = .ok (.aload_n 0, 1) := by decide +kernel
theorem dX5_against_49 : decode cX5_against 49 = .ok (.getfield 13, 3) := by decide +kernel
theorem dX5_against_52 : decode cX5_against 52 = .ok (.iload_n 1, 1) := by decide +kernel
theorem dX5_against_53 : decode cX5_against 53 = .ok (.iaload, 1) := by decide +kernel
theorem dX5_against_54 : decode cX5_against 54 = .ok (.if_icmp .gt 16, 3) := by decide +kernel
theorem dX5_against_57 : decode cX5_against 57 = .ok (.iload 4, 2) := by decide +kernel
theorem dX5_against_59 : decode cX5_against 59 = .ok (.aload_n 0, 1) := by decide +kernel
theorem dX5_against_60 : decode cX5_against 60 = .ok (.getfield 13, 3) := by decide +kernel
theorem dX5_against_63 : decode cX5_against 63 = .ok (.iload_n 1, 1) := by decide +kernel
theorem dX5_against_64 : decode cX5_against 64 = .ok (.iaload, 1) := by decide +kernel
theorem dX5_against_65 : decode cX5_against 65 = .ok (.iload_n 3, 1) := by decide +kernel
theorem dX5_against_66 : decode cX5_against 66 = .ok (.isub, 1) := by decide +kernel
theorem dX5_against_67 : decode cX5_against 67 = .ok (.if_icmp .le 7, 3) := by decide +kernel
theorem dX5_against_70 : decode cX5_against 70 = .ok (.iconst 3, 1) := by decide +kernel
theorem dX5_against_71 : decode cX5_against 71 = .ok (.goto 4, 3) := by decide +kernel
theorem dX5_against_74 : decode cX5_against 74 = .ok (.iconst 0, 1) := by decide +kernel
theorem dX5_against_75 : decode cX5_against 75 = .ok (.ireturn, 1) := by decide +kernel
theorem dX5_isJuror_0 : decode cX5_isJuror 0 = .ok (.iload_n 1, 1) := by decide +kernel
theorem dX5_isJuror_1 : decode cX5_isJuror 1 = .ok (.ifCond .lt 15, 3) := by decide +kernel
theorem dX5_isJuror_4 : decode cX5_isJuror 4 = .ok (.iload_n 1, 1) := by decide +kernel
theorem dX5_isJuror_5 : decode cX5_isJuror 5 = .ok (.aload_n 0, 1) := by decide +kernel
theorem dX5_isJuror_6 : decode cX5_isJuror 6 = .ok (.getfield 78, 3) := by decide +kernel
theorem dX5_isJuror_9 : decode cX5_isJuror 9 = .ok (.if_icmp .ge 7, 3) := by decide +kernel
theorem dX5_isJuror_12 : decode cX5_isJuror 12 = .ok (.iconst 1, 1) := by decide +kernel
theorem dX5_isJuror_13 : decode cX5_isJuror 13 = .ok (.goto 4, 3) := by decide +kernel
theorem dX5_isJuror_16 : decode cX5_isJuror 16 = .ok (.iconst 0, 1) := by decide +kernel
theorem dX5_isJuror_17 : decode cX5_isJuror 17 = .ok (.ireturn, 1) := by decide +kernel
theorem dX5_isCase_0 : decode cX5_isCase 0 = .ok (.iload_n 1, 1) := by decide +kernel
theorem dX5_isCase_1 : decode cX5_isCase 1 = .ok (.ifCond .lt 15, 3) := by decide +kernel
theorem dX5_isCase_4 : decode cX5_isCase 4 = .ok (.iload_n 1, 1) := by decide +kernel
theorem dX5_isCase_5 : decode cX5_isCase 5 = .ok (.aload_n 0, 1) := by decide +kernel
theorem dX5_isCase_6 : decode cX5_isCase 6 = .ok (.getfield 81, 3) := by decide +kernel
theorem dX5_isCase_9 : decode cX5_isCase 9 = .ok (.if_icmp .ge 7, 3) := by decide +kernel
theorem dX5_isCase_12 : decode cX5_isCase 12 = .ok (.iconst 1, 1) := by decide +kernel
theorem dX5_isCase_13 : decode cX5_isCase 13 = .ok (.goto 4, 3) := by decide +kernel
theorem dX5_isCase_16 : decode cX5_isCase 16 = .ok (.iconst 0, 1) := by decide +kernel
theorem dX5_isCase_17 : decode cX5_isCase 17 = .ok (.ireturn, 1) := by decide +kernel
theorem dX5_digit_0 : decode cX5_digit 0 = .ok (.aload_n 0, 1) := by decide +kernel
theorem dX5_digit_1 : decode cX5_digit 1 = .ok (.getfield 84, 3) := by decide +kernel
theorem dX5_digit_4 : decode cX5_digit 4 = .ok (.iload_n 1, 1) := by decide +kernel
theorem dX5_digit_5 : decode cX5_digit 5 = .ok (.if_icmp .ge 26, 3) := by decide +kernel
theorem dX5_digit_8 : decode cX5_digit 8 = .ok (.aload_n 0, 1) := by decide +kernel
theorem dX5_digit_9 : decode cX5_digit 9 = .ok (.getfield 16, 3) := by decide +kernel
theorem dX5_digit_12 : decode cX5_digit 12 = .ok (.aload_n 0, 1) := by decide +kernel
theorem dX5_digit_13 : decode cX5_digit 13 = .ok (.getfield 84, 3) := by decide +kernel
theorem dX5_digit_16 : decode cX5_digit 16 = .ok (.iaload, 1) := by decide +kernel
theorem dX5_digit_17 : decode cX5_digit 17 = .ok (.bipush 48, 2) := by decide +kernel
theorem dX5_digit_19 : decode cX5_digit 19 = .ok (.iload_n 2, 1) := by decide +kernel
theorem dX5_digit_20 : decode cX5_digit 20 = .ok (.iadd, 1) := by decide +kernel
theorem dX5_digit_21 : decode cX5_digit 21 = .ok (.bipush 48, 2) := by decide +kernel
theorem dX5_digit_23 : decode cX5_digit 23 = .ok (.iload_n 3, 1) := by decide +kernel
theorem dX5_digit_24 : decode cX5_digit 24 = .ok (.iadd, 1) := by decide +kernel
theorem dX5_digit_25 : decode cX5_digit 25 = .ok (.invokestatic 74, 3) := by decide +kernel
theorem dX5_digit_28 : decode cX5_digit 28 = .ok (.ifCond .ne 6, 3) := by decide +kernel
theorem dX5_digit_31 : decode cX5_digit 31 = .ok (.bipush (-9), 2) := by decide +kernel
theorem dX5_digit_33 : decode cX5_digit 33 = .ok (.ireturn, 1) := by decide +kernel
theorem dX5_digit_34 : decode cX5_digit 34 = .ok (.aload_n 0, 1) := by decide +kernel
theorem dX5_digit_35 : decode cX5_digit 35 = .ok (.dup, 1) := by decide +kernel
theorem dX5_digit_36 : decode cX5_digit 36 = .ok (.getfield 84, 3) := by decide +kernel
theorem dX5_digit_39 : decode cX5_digit 39 = .ok (.iconst 1, 1) := by decide +kernel
theorem dX5_digit_40 : decode cX5_digit 40 = .ok (.iadd, 1) := by decide +kernel
theorem dX5_digit_41 : decode cX5_digit 41 = .ok (.putfield 84, 3) := by decide +kernel
theorem dX5_digit_44 : decode cX5_digit 44 = .ok (.aload_n 0, 1) := by decide +kernel
theorem dX5_digit_45 : decode cX5_digit 45 = .ok (.getfield 16, 3) := by decide +kernel
theorem dX5_digit_48 : decode cX5_digit 48 = .ok (.aload_n 0, 1) := by decide +kernel
theorem dX5_digit_49 : decode cX5_digit 49 = .ok (.getfield 84, 3) := by decide +kernel
theorem dX5_digit_52 : decode cX5_digit 52 = .ok (.iconst 1, 1) := by decide +kernel
theorem dX5_digit_53 : decode cX5_digit 53 = .ok (.isub, 1) := by decide +kernel
theorem dX5_digit_54 : decode cX5_digit 54 = .ok (.iaload, 1) := by decide +kernel
theorem dX5_digit_55 : decode cX5_digit 55 = .ok (.bipush 48, 2) := by decide +kernel
theorem dX5_digit_57 : decode cX5_digit 57 = .ok (.isub, 1) := by decide +kernel
theorem dX5_digit_58 : decode cX5_digit 58 = .ok (.ireturn, 1) := by decide +kernel
theorem dX5_isSign_0 : decode cX5_isSign 0 = .ok (.aload_n 0, 1) := by decide +kernel
theorem dX5_isSign_1 : decode cX5_isSign 1 = .ok (.getfield 84, 3) := by decide +kernel
theorem dX5_isSign_4 : decode cX5_isSign 4 = .ok (.iload_n 1, 1) := by decide +kernel
theorem dX5_isSign_5 : decode cX5_isSign 5 = .ok (.if_icmp .ge 16, 3) := by decide +kernel
theorem dX5_isSign_8 : decode cX5_isSign 8 = .ok (.aload_n 0, 1) := by decide +kernel
theorem dX5_isSign_9 : decode cX5_isSign 9 = .ok (.getfield 16, 3) := by decide +kernel
theorem dX5_isSign_12 : decode cX5_isSign 12 = .ok (.aload_n 0, 1) := by decide +kernel
theorem dX5_isSign_13 : decode cX5_isSign 13 = .ok (.getfield 84, 3) := by decide +kernel
theorem dX5_isSign_16 : decode cX5_isSign 16 = .ok (.iaload, 1) := by decide +kernel
theorem dX5_isSign_17 : decode cX5_isSign 17 = .ok (.iload_n 2, 1) := by decide +kernel
theorem dX5_isSign_18 : decode cX5_isSign 18 = .ok (.if_icmp .eq 5, 3) := by decide +kernel
theorem dX5_isSign_21 : decode cX5_isSign 21 = .ok (.iconst 0, 1) := by decide +kernel
theorem dX5_isSign_22 : decode cX5_isSign 22 = .ok (.ireturn, 1) := by decide +kernel
theorem dX5_isSign_23 : decode cX5_isSign 23 = .ok (.aload_n 0, 1) := by decide +kernel
theorem dX5_isSign_24 : decode cX5_isSign 24 = .ok (.dup, 1) := by decide +kernel
theorem dX5_isSign_25 : decode cX5_isSign 25 = .ok (.getfield 84, 3) := by decide +kernel
theorem dX5_isSign_28 : decode cX5_isSign 28 = .ok (.iconst 1, 1) := by decide +kernel
theorem dX5_isSign_29 : decode cX5_isSign 29 = .ok (.iadd, 1) := by decide +kernel
theorem dX5_isSign_30 : decode cX5_isSign 30 = .ok (.putfield 84, 3) := by decide +kernel
theorem dX5_isSign_33 : decode cX5_isSign 33 = .ok (.iconst 1, 1) := by decide +kernel
theorem dX5_isSign_34 : decode cX5_isSign 34 = .ok (.ireturn, 1) := by decide +kernel
theorem dX5_court_0 : decode cX5_court 0 = .ok (.aload_n 0, 1) := by decide +kernel
theorem dX5_court_1 : decode cX5_court 1 = .ok (.iconst 0, 1) := by decide +kernel
theorem dX5_court_2 : decode cX5_court 2 = .ok (.putfield 68, 3) := by decide +kernel
theorem dX5_court_5 : decode cX5_court 5 = .ok (.iload_n 1, 1) := by decide +kernel
theorem dX5_court_6 : decode cX5_court 6 = .ok (.invokestatic 87, 3) := by decide +kernel
theorem dX5_court_9 : decode cX5_court 9 = .ok (.ifCond .ne 5, 3) := by decide +kernel
theorem dX5_court_12 : decode cX5_court 12 = .ok (.iconst (-1), 1) := by decide +kernel
theorem dX5_court_13 : decode cX5_court 13 = .ok (.ireturn, 1) := by decide +kernel
theorem dX5_court_14 : decode cX5_court 14 = .ok (.iload_n 2, 1) := by decide +kernel
theorem dX5_court_15 : decode cX5_court 15 = .ok (.invokestatic 91, 3) := by decide +kernel
theorem dX5_court_18 : decode cX5_court 18 = .ok (.ifCond .ne 6, 3) := by decide +kernel
theorem dX5_court_21 : decode cX5_court 21 = .ok (.bipush (-2), 2) := by decide +kernel
theorem dX5_court_23 : decode cX5_court 23 = .ok (.ireturn, 1) := by decide +kernel
theorem dX5_court_24 : decode cX5_court 24 = .ok (.aload_n 0, 1) := by decide +kernel
theorem dX5_court_25 : decode cX5_court 25 = .ok (.iload_n 1, 1) := by decide +kernel
theorem dX5_court_26 : decode cX5_court 26 = .ok (.iload_n 2, 1) := by decide +kernel
theorem dX5_court_27 : decode cX5_court 27 = .ok (.iload_n 3, 1) := by decide +kernel
theorem dX5_court_28 : decode cX5_court 28 = .ok (.iload 4, 2) := by decide +kernel
theorem dX5_court_30 : decode cX5_court 30 = .ok (.invokevirtual 94, 3) := by decide +kernel
theorem dX5_court_33 : decode cX5_court 33 = .ok (.istore 5, 2) := by decide +kernel
theorem dX5_court_35 : decode cX5_court 35 = .ok (.iload 5, 2) := by decide +kernel
theorem dX5_court_37 : decode cX5_court 37 = .ok (.ifCond .eq 10, 3) := by decide +kernel
theorem dX5_court_40 : decode cX5_court 40 = .ok (.aload_n 0, 1) := by decide +kernel
theorem dX5_court_41 : decode cX5_court 41 = .ok (.iload 5, 2) := by decide +kernel
theorem dX5_court_43 : decode cX5_court 43 = .ok (.invokevirtual 98, 3) := by decide +kernel
theorem dX5_court_46 : decode cX5_court 46 = .ok (.ireturn, 1) := by decide +kernel
theorem dX5_court_47 : decode cX5_court 47 = .ok (.bipush 60, 2) := by decide +kernel
theorem dX5_court_49 : decode cX5_court 49 = .ok (.iload_n 1, 1) := by decide +kernel
theorem dX5_court_50 : decode cX5_court 50 = .ok (.imul, 1) := by decide +kernel
theorem dX5_court_51 : decode cX5_court 51 = .ok (.iload_n 3, 1) := by decide +kernel
theorem dX5_court_52 : decode cX5_court 52 = .ok (.iadd, 1) := by decide +kernel
theorem dX5_court_53 : decode cX5_court 53 = .ok (.istore 6, 2) := by decide +kernel
theorem dX5_court_55 : decode cX5_court 55 = .ok (.aload_n 0, 1) := by decide +kernel
theorem dX5_court_56 : decode cX5_court 56 = .ok (.iload 6, 2) := by decide +kernel
theorem dX5_court_58 : decode cX5_court 58 = .ok (.putfield 84, 3) := by decide +kernel
theorem dX5_court_61 : decode cX5_court 61 = .ok (.aload_n 0, 1) := by decide +kernel
theorem dX5_court_62 : decode cX5_court 62 = .ok (.iload 6, 2) := by decide +kernel
theorem dX5_court_64 : decode cX5_court 64 = .ok (.iload 4, 2) := by decide +kernel
theorem dX5_court_66 : decode cX5_court 66 = .ok (.iadd, 1) := by decide +kernel
theorem dX5_court_67 : decode cX5_court 67 = .ok (.invokevirtual 102, 3) := by decide +kernel
theorem dX5_court_70 : decode cX5_court 70 = .ok (.ifCond .ne 14, 3) := by decide +kernel
theorem dX5_court_73 : decode cX5_court 73 = .ok (.bipush (-100), 2) := by decide +kernel
theorem dX5_court_75 : decode cX5_court 75 = .ok (.aload_n 0, 1) := by decide +kernel
theorem dX5_court_76 : decode cX5_court 76 = .ok (.getfield 84, 3) := by decide +kernel
theorem dX5_court_79 : decode cX5_court 79 = .ok (.iload 6, 2) := by decide +kernel
theorem dX5_court_81 : decode cX5_court 81 = .ok (.isub, 1) := by decide +kernel
theorem dX5_court_82 : decode cX5_court 82 = .ok (.isub, 1) := by decide +kernel
theorem dX5_court_83 : decode cX5_court 83 = .ok (.ireturn, 1) := by decide +kernel
