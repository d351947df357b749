theorem dL_below_0 : decode cL_below 0 = .ok (.iload_n 0, 1) := by decide +kernel
theorem dL_below_1 : decode cL_below 1 = .ok (.ldc 7, 2) := by decide +kernel
theorem dL_below_3 : decode cL_below 3 = .ok (.iand, 1) := by decide +kernel
theorem dL_below_4 : decode cL_below 4 = .ok (.iload_n 1, 1) := by decide +kernel
theorem dL_below_5 : decode cL_below 5 = .ok (.irem, 1) := by decide +kernel
theorem dL_below_6 : decode cL_below 6 = .ok (.ireturn, 1) := by decide +kernel
theorem dL_cell_0 : decode cL_cell 0 = .ok (.iload_n 1, 1) := by decide +kernel
theorem dL_cell_1 : decode cL_cell 1 = .ok (.aload_n 0, 1) := by decide +kernel
theorem dL_cell_2 : decode cL_cell 2 = .ok (.arraylength, 1) := by decide +kernel
theorem dL_cell_3 : decode cL_cell 3 = .ok (.if_icmp .ge 9, 3) := by decide +kernel
theorem dL_cell_6 : decode cL_cell 6 = .ok (.aload_n 0, 1) := by decide +kernel
theorem dL_cell_7 : decode cL_cell 7 = .ok (.iload_n 1, 1) := by decide +kernel
theorem dL_cell_8 : decode cL_cell 8 = .ok (.iaload, 1) := by decide +kernel
theorem dL_cell_9 : decode cL_cell 9 = .ok (.goto 9, 3) := by decide +kernel
theorem dL_cell_12 : decode cL_cell 12 = .ok (.ldc 8, 2) := by decide +kernel
theorem dL_cell_14 : decode cL_cell 14 = .ok (.iload_n 1, 1) := by decide +kernel
theorem dL_cell_15 : decode cL_cell 15 = .ok (.iconst 3, 1) := by decide +kernel
theorem dL_cell_16 : decode cL_cell 16 = .ok (.iadd, 1) := by decide +kernel
theorem dL_cell_17 : decode cL_cell 17 = .ok (.imul, 1) := by decide +kernel
theorem dL_cell_18 : decode cL_cell 18 = .ok (.ireturn, 1) := by decide +kernel
theorem dL_check_0 : decode cL_check 0 = .ok (.ldc 9, 2) := by decide +kernel
theorem dL_check_2 : decode cL_check 2 = .ok (.istore_n 3, 1) := by decide +kernel
theorem dL_check_3 : decode cL_check 3 = .ok (.iload_n 1, 1) := by decide +kernel
theorem dL_check_4 : decode cL_check 4 = .ok (.istore 4, 2) := by decide +kernel
theorem dL_check_6 : decode cL_check 6 = .ok (.iload 4, 2) := by decide +kernel
theorem dL_check_8 : decode cL_check 8 = .ok (.iload_n 2, 1) := by decide +kernel
theorem dL_check_9 : decode cL_check 9 = .ok (.if_icmp .ge 59, 3) := by decide +kernel
theorem dL_check_12 : decode cL_check 12 = .ok (.bipush 7, 2) := by decide +kernel
theorem dL_check_14 : decode cL_check 14 = .ok (.istore 5, 2) := by decide +kernel
theorem dL_check_16 : decode cL_check 16 = .ok (.iload 5, 2) := by decide +kernel
theorem dL_check_18 : decode cL_check 18 = .ok (.ifCond .lt 44, 3) := by decide +kernel
theorem dL_check_21 : decode cL_check 21 = .ok (.iload_n 3, 1) := by decide +kernel
theorem dL_check_22 : decode cL_check 22 = .ok (.bipush 15, 2) := by decide +kernel
theorem dL_check_24 : decode cL_check 24 = .ok (.ishr, 1) := by decide +kernel
theorem dL_check_25 : decode cL_check 25 = .ok (.aload_n 0, 1) := by decide +kernel
theorem dL_check_26 : decode cL_check 26 = .ok (.iload 4, 2) := by decide +kernel
theorem dL_check_28 : decode cL_check 28 = .ok (.iaload, 1) := by decide +kernel
theorem dL_check_29 : decode cL_check 29 = .ok (.iload 5, 2) := by decide +kernel
theorem dL_check_31 : decode cL_check 31 = .ok (.ishr, 1) := by decide +kernel
theorem dL_check_32 : decode cL_check 32 = .ok (.iconst 1, 1) := by decide +kernel
theorem dL_check_33 : decode cL_check 33 = .ok (.iand, 1) := by decide +kernel
theorem dL_check_34 : decode cL_check 34 = .ok (.ixor, 1) := by decide +kernel
theorem dL_check_35 : decode cL_check 35 = .ok (.istore 6, 2) := by decide +kernel
theorem dL_check_37 : decode cL_check 37 = .ok (.iload_n 3, 1) := by decide +kernel
theorem dL_check_38 : decode cL_check 38 = .ok (.iconst 1, 1) := by decide +kernel
theorem dL_check_39 : decode cL_check 39 = .ok (.ishl, 1) := by decide +kernel
theorem dL_check_40 : decode cL_check 40 = .ok (.ldc 9, 2) := by decide +kernel
theorem dL_check_42 : decode cL_check 42 = .ok (.iand, 1) := by decide +kernel
theorem dL_check_43 : decode cL_check 43 = .ok (.istore_n 3, 1) := by decide +kernel
theorem dL_check_44 : decode cL_check 44 = .ok (.iload 6, 2) := by decide +kernel
theorem dL_check_46 : decode cL_check 46 = .ok (.iconst 1, 1) := by decide +kernel
theorem dL_check_47 : decode cL_check 47 = .ok (.if_icmp .ne 9, 3) := by decide +kernel
theorem dL_check_50 : decode cL_check 50 = .ok (.iload_n 3, 1) := by decide +kernel
theorem dL_check_51 : decode cL_check 51 = .ok (.sipush 4129, 3) := by decide +kernel
theorem dL_check_54 : decode cL_check 54 = .ok (.ixor, 1) := by decide +kernel
theorem dL_check_55 : decode cL_check 55 = .ok (.istore_n 3, 1) := by decide +kernel
theorem dL_check_56 : decode cL_check 56 = .ok (.iinc 5 (-1), 3) := by decide +kernel
theorem dL_check_59 : decode cL_check 59 = .ok (.goto (-43), 3) := by decide +kernel
theorem dL_check_62 : decode cL_check 62 = .ok (.iinc 4 1, 3) := by decide +kernel
theorem dL_check_65 : decode cL_check 65 = .ok (.goto (-59), 3) := by decide +kernel
theorem dL_check_68 : decode cL_check 68 = .ok (.iload_n 3, 1) := by decide +kernel
theorem dL_check_69 : decode cL_check 69 = .ok (.ireturn, 1) := by decide +kernel
theorem dL_law_0 : decode cL_law 0 = .ok (.iconst 0, 1) := by decide +kernel
theorem dL_law_1 : decode cL_law 1 = .ok (.istore_n 1, 1) := by decide +kernel
theorem dL_law_2 : decode cL_law 2 = .ok (.iload_n 1, 1) := by decide +kernel
theorem dL_law_3 : decode cL_law 3 = .ok (.iconst 3, 1) := by decide +kernel
theorem dL_law_4 : decode cL_law 4 = .ok (.if_icmp .ge 1005, 3) := by decide +kernel
theorem dL_law_7 : decode cL_law 7 = .ok (.new 23, 3) := by decide +kernel
theorem dL_law_10 : decode cL_law 10 = .ok (.dup, 1) := by decide +kernel
theorem dL_law_11 : decode cL_law 11 = .ok (.aload_n 0, 1) := by decide +kernel
theorem dL_law_12 : decode cL_law 12 = .ok (.bipush 31, 2) := by decide +kernel
theorem dL_law_14 : decode cL_law 14 = .ok (.iload_n 1, 1) := by decide +kernel
theorem dL_law_15 : decode cL_law 15 = .ok (.imul, 1) := by decide +kernel
theorem dL_law_16 : decode cL_law 16 = .ok (.bipush 6, 2) := by decide +kernel
theorem dL_law_18 : decode cL_law 18 = .ok (.iadd, 1) := by decide +kernel
theorem dL_law_19 : decode cL_law 19 = .ok (.invokespecial 46, 3) := by decide +kernel
theorem dL_law_22 : decode cL_law 22 = .ok (.astore_n 2, 1) := by decide +kernel
theorem dL_law_23 : decode cL_law 23 = .ok (.aload_n 2, 1) := by decide +kernel
theorem dL_law_24 : decode cL_law 24 = .ok (.getfield 49, 3) := by decide +kernel
theorem dL_law_27 : decode cL_law 27 = .ok (.astore_n 3, 1) := by decide +kernel
theorem dL_law_28 : decode cL_law 28 = .ok (.iconst 0, 1) := by decide +kernel
theorem dL_law_29 : decode cL_law 29 = .ok (.istore 4, 2) := by decide +kernel
theorem dL_law_31 : decode cL_law 31 = .ok (.iload 4, 2) := by decide +kernel
theorem dL_law_33 : decode cL_law 33 = .ok (.bipush 7, 2) := by decide +kernel
theorem dL_law_35 : decode cL_law 35 = .ok (.if_icmp .ge 968, 3) := by decide +kernel
theorem dL_law_38 : decode cL_law 38 = .ok (.iload 4, 2) := by decide +kernel
theorem dL_law_40 : decode cL_law 40 = .ok (.ifCond .eq 11, 3) := by decide +kernel
theorem dL_law_43 : decode cL_law 43 = .ok (.aload_n 2, 1) := by decide +kernel
theorem dL_law_44 : decode cL_law 44 = .ok (.iconst 5, 1) := by decide +kernel
theorem dL_law_45 : decode cL_law 45 = .ok (.invokevirtual 53, 3) := by decide +kernel
theorem dL_law_48 : decode cL_law 48 = .ok (.ifCond .ne 41, 3) := by decide +kernel
theorem dL_law_51 : decode cL_law 51 = .ok (.aload_n 2, 1) := by decide +kernel
theorem dL_law_52 : decode cL_law 52 = .ok (.iconst 1, 1) := by decide +kernel
theorem dL_law_53 : decode cL_law 53 = .ok (.aload_n 2, 1) := by decide +kernel
theorem dL_law_54 : decode cL_law 54 = .ok (.iconst 3, 1) := by decide +kernel
theorem dL_law_55 : decode cL_law 55 = .ok (.invokevirtual 53, 3) := by decide +kernel
theorem dL_law_58 : decode cL_law 58 = .ok (.iadd, 1) := by decide +kernel
