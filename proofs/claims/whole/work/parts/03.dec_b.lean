theorem dX10_init_0 : decode cX10_init 0 = .ok (.aload_n 0, 1) := by decide +kernel
theorem dX10_init_1 : decode cX10_init 1 = .ok (.invokespecial 1, 3) := by decide +kernel
theorem dX10_init_4 : decode cX10_init 4 = .ok (.aload_n 0, 1) := by decide +kernel
theorem dX10_init_5 : decode cX10_init 5 = .ok (.new 7, 3) := by decide +kernel
theorem dX10_init_8 : decode cX10_init 8 = .ok (.dup, 1) := by decide +kernel
theorem dX10_init_9 : decode cX10_init 9 = .ok (.invokespecial 9, 3) := by decide +kernel
theorem dX10_init_12 : decode cX10_init 12 = .ok (.putfield 10, 3) := by decide +kernel
theorem dX10_init_15 : decode cX10_init 15 = .ok (.aload_n 0, 1) := by decide +kernel
theorem dX10_init_16 : decode cX10_init 16 = .ok (.new 16, 3) := by decide +kernel
theorem dX10_init_19 : decode cX10_init 19 = .ok (.dup, 1) := by decide +kernel
theorem dX10_init_20 : decode cX10_init 20 = .ok (.bipush 8, 2) := by decide +kernel
theorem dX10_init_22 : decode cX10_init 22 = .ok (.invokespecial 18, 3) := by decide +kernel
theorem dX10_init_25 : decode cX10_init 25 = .ok (.putfield 21, 3) := by decide +kernel
theorem dX10_init_28 : decode cX10_init 28 = .ok (.aload_n 0, 1) := by decide +kernel
theorem dX10_init_29 : decode cX10_init 29 = .ok (.new 16, 3) := by decide +kernel
theorem dX10_init_32 : decode cX10_init 32 = .ok (.dup, 1) := by decide +kernel
theorem dX10_init_33 : decode cX10_init 33 = .ok (.bipush 47, 2) := by decide +kernel
theorem dX10_init_35 : decode cX10_init 35 = .ok (.invokespecial 18, 3) := by decide +kernel
theorem dX10_init_38 : decode cX10_init 38 = .ok (.putfield 25, 3) := by decide +kernel
theorem dX10_init_41 : decode cX10_init 41 = .ok (.aload_n 0, 1) := by decide +kernel
theorem dX10_init_42 : decode cX10_init 42 = .ok (.new 28, 3) := by decide +kernel
theorem dX10_init_45 : decode cX10_init 45 = .ok (.dup, 1) := by decide +kernel
theorem dX10_init_46 : decode cX10_init 46 = .ok (.invokespecial 30, 3) := by decide +kernel
theorem dX10_init_49 : decode cX10_init 49 = .ok (.putfield 31, 3) := by decide +kernel
theorem dX10_init_52 : decode cX10_init 52 = .ok (.aload_n 0, 1) := by decide +kernel
theorem dX10_init_53 : decode cX10_init 53 = .ok (.new 35, 3) := by decide +kernel
theorem dX10_init_56 : decode cX10_init 56 = .ok (.dup, 1) := by decide +kernel
theorem dX10_init_57 : decode cX10_init 57 = .ok (.invokespecial 37, 3) := by decide +kernel
theorem dX10_init_60 : decode cX10_init 60 = .ok (.putfield 38, 3) := by decide +kernel
theorem dX10_init_63 : decode cX10_init 63 = .ok (.aload_n 0, 1) := by decide +kernel
theorem dX10_init_64 : decode cX10_init 64 = .ok (.new 42, 3) := by decide +kernel
theorem dX10_init_67 : decode cX10_init 67 = .ok (.dup, 1) := by decide +kernel
theorem dX10_init_68 : decode cX10_init 68 = .ok (.invokespecial 44, 3) := by decide +kernel
theorem dX10_init_71 : decode cX10_init 71 = .ok (.putfield 45, 3) := by decide +kernel
theorem dX10_init_74 : decode cX10_init 74 = .ok (.aload_n 0, 1) := by decide +kernel
theorem dX10_init_75 : decode cX10_init 75 = .ok (.new 49, 3) := by decide +kernel
theorem dX10_init_78 : decode cX10_init 78 = .ok (.dup, 1) := by decide +kernel
theorem dX10_init_79 : decode cX10_init 79 = .ok (.invokespecial 51, 3) := by decide +kernel
theorem dX10_init_82 : decode cX10_init 82 = .ok (.putfield 52, 3) := by decide +kernel
theorem dX10_init_85 : decode cX10_init 85 = .ok (.aload_n 0, 1) := by decide +kernel
theorem dX10_init_86 : decode cX10_init 86 = .ok (.new 56, 3) := by decide +kernel
theorem dX10_init_89 : decode cX10_init 89 = .ok (.dup, 1) := by decide +kernel
theorem dX10_init_90 : decode cX10_init 90 = .ok (.invokespecial 58, 3) := by decide +kernel
theorem dX10_init_93 : decode cX10_init 93 = .ok (.putfield 59, 3) := by decide +kernel
theorem dX10_init_96 : decode cX10_init 96 = .ok (.aload_n 0, 1) := by decide +kernel
theorem dX10_init_97 : decode cX10_init 97 = .ok (.new 63, 3) := by decide +kernel
theorem dX10_init_100 : decode cX10_init 100 = .ok (.dup, 1) := by decide +kernel
theorem dX10_init_101 : decode cX10_init 101 = .ok (.iconst 5, 1) := by decide +kernel
theorem dX10_init_102 : decode cX10_init 102 = .ok (.invokespecial 65, 3) := by decide +kernel
theorem dX10_init_105 : decode cX10_init 105 = .ok (.putfield 66, 3) := by decide +kernel
theorem dX10_init_108 : decode cX10_init 108 = .ok (.aload_n 0, 1) := by decide +kernel
theorem dX10_init_109 : decode cX10_init 109 = .ok (.new 7, 3) := by decide +kernel
theorem dX10_init_112 : decode cX10_init 112 = .ok (.dup, 1) := by decide +kernel
theorem dX10_init_113 : decode cX10_init 113 = .ok (.invokespecial 9, 3) := by decide +kernel
theorem dX10_init_116 : decode cX10_init 116 = .ok (.putfield 70, 3) := by decide +kernel
theorem dX10_init_119 : decode cX10_init 119 = .ok (.aload_n 0, 1) := by decide +kernel
theorem dX10_init_120 : decode cX10_init 120 = .ok (.new 16, 3) := by decide +kernel
theorem dX10_init_123 : decode cX10_init 123 = .ok (.dup, 1) := by decide +kernel
theorem dX10_init_124 : decode cX10_init 124 = .ok (.bipush 8, 2) := by decide +kernel
theorem dX10_init_126 : decode cX10_init 126 = .ok (.invokespecial 18, 3) := by decide +kernel
theorem dX10_init_129 : decode cX10_init 129 = .ok (.putfield 73, 3) := by decide +kernel
theorem dX10_init_132 : decode cX10_init 132 = .ok (.return_, 1) := by decide +kernel
theorem dX10_letter_0 : decode cX10_letter 0 = .ok (.iload_n 1, 1) := by decide +kernel
theorem dX10_letter_1 : decode cX10_letter 1 = .ok (.bipush 32, 2) := by decide +kernel
theorem dX10_letter_3 : decode cX10_letter 3 = .ok (.bipush 126, 2) := by decide +kernel
theorem dX10_letter_5 : decode cX10_letter 5 = .ok (.invokestatic 76, 3) := by decide +kernel
theorem dX10_letter_8 : decode cX10_letter 8 = .ok (.ifCond .ne 6, 3) := by decide +kernel
theorem dX10_letter_11 : decode cX10_letter 11 = .ok (.ldc 80, 2) := by decide +kernel
theorem dX10_letter_13 : decode cX10_letter 13 = .ok (.ireturn, 1) := by decide +kernel
theorem dX10_letter_14 : decode cX10_letter 14 = .ok (.aload_n 0, 1) := by decide +kernel
theorem dX10_letter_15 : decode cX10_letter 15 = .ok (.getfield 25, 3) := by decide +kernel
theorem dX10_letter_18 : decode cX10_letter 18 = .ok (.iload_n 1, 1) := by decide +kernel
theorem dX10_letter_19 : decode cX10_letter 19 = .ok (.invokevirtual 81, 3) := by decide +kernel
theorem dX10_letter_22 : decode cX10_letter 22 = .ok (.ifCond .eq 13, 3) := by decide +kernel
theorem dX10_letter_25 : decode cX10_letter 25 = .ok (.aload_n 0, 1) := by decide +kernel
theorem dX10_letter_26 : decode cX10_letter 26 = .ok (.getfield 25, 3) := by decide +kernel
theorem dX10_letter_29 : decode cX10_letter 29 = .ok (.invokevirtual 85, 3) := by decide +kernel
theorem dX10_letter_32 : decode cX10_letter 32 = .ok (.goto 5, 3) := by decide +kernel
theorem dX10_letter_35 : decode cX10_letter 35 = .ok (.ldc 89, 2) := by decide +kernel
theorem dX10_letter_37 : decode cX10_letter 37 = .ok (.ireturn, 1) := by decide +kernel
theorem dX10_blank_0 : decode cX10_blank 0 = .ok (.aload_n 0, 1) := by decide +kernel
theorem dX10_blank_1 : decode cX10_blank 1 = .ok (.getfield 25, 3) := by decide +kernel
theorem dX10_blank_4 : decode cX10_blank 4 = .ok (.invokevirtual 85, 3) := by decide +kernel
theorem dX10_blank_7 : decode cX10_blank 7 = .ok (.istore_n 1, 1) := by decide +kernel
theorem dX10_blank_8 : decode cX10_blank 8 = .ok (.aload_n 0, 1) := by decide +kernel
theorem dX10_blank_9 : decode cX10_blank 9 = .ok (.getfield 25, 3) := by decide +kernel
theorem dX10_blank_12 : decode cX10_blank 12 = .ok (.invokevirtual 90, 3) := by decide +kernel
theorem dX10_blank_15 : decode cX10_blank 15 = .ok (.iload_n 1, 1) := by decide +kernel
theorem dX10_blank_16 : decode cX10_blank 16 = .ok (.ireturn, 1) := by decide +kernel
theorem dX10_fault_0 : decode cX10_fault 0 = .ok (.aload_n 0, 1) := by decide +kernel
theorem dX10_fault_1 : decode cX10_fault 1 = .ok (.getfield 31, 3) := by decide +kernel
theorem dX10_fault_4 : decode cX10_fault 4 = .ok (.aload_n 0, 1) := by decide +kernel
theorem dX10_fault_5 : decode cX10_fault 5 = .ok (.getfield 25, 3) := by decide +kernel
theorem dX10_fault_8 : decode cX10_fault 8 = .ok (.invokevirtual 93, 3) := by decide +kernel
theorem dX10_fault_11 : decode cX10_fault 11 = .ok (.ireturn, 1) := by decide +kernel
theorem dX10_rows_0 : decode cX10_rows 0 = .ok (.aload_n 0, 1) := by decide +kernel
theorem dX10_rows_1 : decode cX10_rows 1 = .ok (.getfield 31, 3) := by decide +kernel
theorem dX10_rows_4 : decode cX10_rows 4 = .ok (.aload_n 0, 1) := by decide +kernel
theorem dX10_rows_5 : decode cX10_rows 5 = .ok (.getfield 25, 3) := by decide +kernel
theorem dX10_rows_8 : decode cX10_rows 8 = .ok (.invokevirtual 97, 3) := by decide +kernel
theorem dX10_rows_11 : decode cX10_rows 11 = .ok (.ifCond .ne 6, 3) := by decide +kernel
theorem dX10_rows_14 : decode cX10_rows 14 = .ok (.ldc 101, 2) := by decide +kernel
theorem dX10_rows_16 : decode cX10_rows 16 = .ok (.ireturn, 1) := by decide +kernel
theorem dX10_rows_17 : decode cX10_rows 17 = .ok (.aload_n 0, 1) := by decide +kernel
theorem dX10_rows_18 : decode cX10_rows 18 = .ok (.getfield 10, 3) := by decide +kernel
theorem dX10_rows_21 : decode cX10_rows 21 = .ok (.aload_n 0, 1) := by decide +kernel
theorem dX10_rows_22 : decode cX10_rows 22 = .ok (.getfield 31, 3) := by decide +kernel
theorem dX10_rows_25 : decode cX10_rows 25 = .ok (.invokevirtual 102, 3) := by decide +kernel
theorem dX10_rows_28 : decode cX10_rows 28 = .ok (.invokevirtual 106, 3) := by decide +kernel
theorem dX10_rows_31 : decode cX10_rows 31 = .ok (.aload_n 0, 1) := by decide +kernel
theorem dX10_rows_32 : decode cX10_rows 32 = .ok (.iconst 0, 1) := by decide +kernel
theorem dX10_rows_33 : decode cX10_rows 33 = .ok (.invokevirtual 110, 3) := by decide +kernel
theorem dX10_rows_36 : decode cX10_rows 36 = .ok (.aload_n 0, 1) := by decide +kernel
theorem dX10_rows_37 : decode cX10_rows 37 = .ok (.getfield 25, 3) := by decide +kernel
theorem dX10_rows_40 : decode cX10_rows 40 = .ok (.invokevirtual 90, 3) := by decide +kernel
theorem dX10_rows_43 : decode cX10_rows 43 = .ok (.aload_n 0, 1) := by decide +kernel
theorem dX10_rows_44 : decode cX10_rows 44 = .ok (.iconst 0, 1) := by decide +kernel
theorem dX10_rows_45 : decode cX10_rows 45 = .ok (.putfield 113, 3) := by decide +kernel
theorem dX10_rows_48 : decode cX10_rows 48 = .ok (.aload_n 0, 1) := by decide +kernel
theorem dX10_rows_49 : decode cX10_rows 49 = .ok (.dup, 1) := by decide +kernel
theorem dX10_rows_50 : decode cX10_rows 50 = .ok (.getfield 117, 3) := by decide +kernel
theorem dX10_rows_53 : decode cX10_rows 53 = .ok (.iconst 1, 1) := by decide +kernel
theorem dX10_rows_54 : decode cX10_rows 54 = .ok (.iadd, 1) := by decide +kernel
theorem dX10_rows_55 : decode cX10_rows 55 = .ok (.putfield 117, 3) := by decide +kernel
theorem dX10_rows_58 : decode cX10_rows 58 = .ok (.aload_n 0, 1) := by decide +kernel
theorem dX10_rows_59 : decode cX10_rows 59 = .ok (.getfield 10, 3) := by decide +kernel
theorem dX10_rows_62 : decode cX10_rows 62 = .ok (.invokevirtual 121, 3) := by decide +kernel
theorem dX10_rows_65 : decode cX10_rows 65 = .ok (.ireturn, 1) := by decide +kernel
theorem dX10_row_0 : decode cX10_row 0 = .ok (.aload_n 0, 1) := by decide +kernel
theorem dX10_row_1 : decode cX10_row 1 = .ok (.getfield 10, 3) := by decide +kernel
theorem dX10_row_4 : decode cX10_row 4 = .ok (.iload_n 1, 1) := by decide +kernel
theorem dX10_row_5 : decode cX10_row 5 = .ok (.invokevirtual 122, 3) := by decide +kernel
theorem dX10_row_8 : decode cX10_row 8 = .ok (.ifCond .ne 6, 3) := by decide +kernel
theorem dX10_row_11 : decode cX10_row 11 = .ok (.ldc 125, 2) := by decide +kernel
theorem dX10_row_13 : decode cX10_row 13 = .ok (.ireturn, 1) := by decide +kernel
theorem dX10_row_14 : decode cX10_row 14 = .ok (.iload_n 2, 1) := by decide +kernel
theorem dX10_row_15 : decode cX10_row 15 = .ok (.iconst 0, 1) := by decide +kernel
theorem dX10_row_16 : decode cX10_row 16 = .ok (.iconst 4, 1) := by decide +kernel
theorem dX10_row_17 : decode cX10_row 17 = .ok (.invokestatic 76, 3) := by decide +kernel
theorem dX10_row_20 : decode cX10_row 20 = .ok (.ifCond .ne 6, 3) := by decide +kernel
theorem dX10_row_23 : decode cX10_row 23 = .ok (.ldc 80, 2) := by decide +kernel
theorem dX10_row_25 : decode cX10_row 25 = .ok (.ireturn, 1) := by decide +kernel
theorem dX10_row_26 : decode cX10_row 26 = .ok (.aload_n 0, 1) := by decide +kernel
theorem dX10_row_27 : decode cX10_row 27 = .ok (.getfield 10, 3) := by decide +kernel
theorem dX10_row_30 : decode cX10_row 30 = .ok (.iload_n 1, 1) := by decide +kernel
theorem dX10_row_31 : decode cX10_row 31 = .ok (.invokevirtual 126, 3) := by decide +kernel
theorem dX10_row_34 : decode cX10_row 34 = .ok (.istore_n 3, 1) := by decide +kernel
theorem dX10_row_35 : decode cX10_row 35 = .ok (.iload_n 2, 1) := by decide +kernel
theorem dX10_row_36 : decode cX10_row 36 = .ok (.ifCond .ne 5, 3) := by decide +kernel
theorem dX10_row_39 : decode cX10_row 39 = .ok (.iload_n 3, 1) := by decide +kernel
theorem dX10_row_40 : decode cX10_row 40 = .ok (.ireturn, 1) := by decide +kernel
theorem dX10_row_41 : decode cX10_row 41 = .ok (.iload_n 2, 1) := by decide +kernel
theorem dX10_row_42 : decode cX10_row 42 = .ok (.iload_n 3, 1) := by decide +kernel
theorem dX10_row_43 : decode cX10_row 43 = .ok (.invokestatic 130, 3) := by decide +kernel
theorem dX10_row_46 : decode cX10_row 46 = .ok (.if_icmp .gt 17, 3) := by decide +kernel
theorem dX10_row_49 : decode cX10_row 49 = .ok (.aload_n 0, 1) := by decide +kernel
theorem dX10_row_50 : decode cX10_row 50 = .ok (.getfield 10, 3) := by decide +kernel
theorem dX10_row_53 : decode cX10_row 53 = .ok (.iload_n 1, 1) := by decide +kernel
theorem dX10_row_54 : decode cX10_row 54 = .ok (.iload_n 2, 1) := by decide +kernel
theorem dX10_row_55 : decode cX10_row 55 = .ok (.iconst 1, 1) := by decide +kernel
theorem dX10_row_56 : decode cX10_row 56 = .ok (.isub, 1) := by decide +kernel
theorem dX10_row_57 : decode cX10_row 57 = .ok (.invokevirtual 133, 3) := by decide +kernel
theorem dX10_row_60 : decode cX10_row 60 = .ok (.goto 5, 3) := by decide +kernel
theorem dX10_row_63 : decode cX10_row 63 = .ok (.ldc 137, 2) := by decide +kernel
theorem dX10_row_65 : decode cX10_row 65 = .ok (.ireturn, 1) := by decide +kernel
theorem dX10_as_0 : decode cX10_as 0 = .ok (.aload_n 0, 1) := by decide +kernel
theorem dX10_as_1 : decode cX10_as 1 = .ok (.getfield 10, 3) := by decide +kernel
theorem dX10_as_4 : decode cX10_as 4 = .ok (.iload_n 1, 1) := by decide +kernel
theorem dX10_as_5 : decode cX10_as 5 = .ok (.invokevirtual 122, 3) := by decide +kernel
theorem dX10_as_8 : decode cX10_as 8 = .ok (.ifCond .ne 6, 3) := by decide +kernel
theorem dX10_as_11 : decode cX10_as 11 = .ok (.ldc 125, 2) := by decide +kernel
theorem dX10_as_13 : decode cX10_as 13 = .ok (.ireturn, 1) := by decide +kernel
theorem dX10_as_14 : decode cX10_as 14 = .ok (.iload_n 2, 1) := by decide +kernel
theorem dX10_as_15 : decode cX10_as 15 = .ok (.iconst 0, 1) := by decide +kernel
theorem dX10_as_16 : decode cX10_as 16 = .ok (.bipush 6, 2) := by decide +kernel
theorem dX10_as_18 : decode cX10_as 18 = .ok (.invokestatic 76, 3) := by decide +kernel
theorem dX10_as_21 : decode cX10_as 21 = .ok (.ifCond .ne 6, 3) := by decide +kernel
theorem dX10_as_24 : decode cX10_as 24 = .ok (.ldc 80, 2) := by decide +kernel
theorem dX10_as_26 : decode cX10_as 26 = .ok (.ireturn, 1) := by decide +kernel
theorem dX10_as_27 : decode cX10_as 27 = .ok (.aload_n 0, 1) := by decide +kernel
theorem dX10_as_28 : decode cX10_as 28 = .ok (.getfield 10, 3) := by decide +kernel
theorem dX10_as_31 : decode cX10_as 31 = .ok (.iload_n 1, 1) := by decide +kernel
theorem dX10_as_32 : decode cX10_as 32 = .ok (.invokevirtual 126, 3) := by decide +kernel
theorem dX10_as_35 : decode cX10_as 35 = .ok (.istore_n 3, 1) := by decide +kernel
theorem dX10_as_36 : decode cX10_as 36 = .ok (.iload_n 3, 1) := by decide +kernel
theorem dX10_as_37 : decode cX10_as 37 = .ok (.iload_n 2, 1) := by decide +kernel
theorem dX10_as_38 : decode cX10_as 38 = .ok (.if_icmp .eq 11, 3) := by decide +kernel
theorem dX10_as_41 : decode cX10_as 41 = .ok (.iload_n 3, 1) := by decide +kernel
theorem dX10_as_42 : decode cX10_as 42 = .ok (.invokestatic 138, 3) := by decide +kernel
theorem dX10_as_45 : decode cX10_as 45 = .ok (.iload_n 2, 1) := by decide +kernel
theorem dX10_as_46 : decode cX10_as 46 = .ok (.if_icmp .ne 7, 3) := by decide +kernel
theorem dX10_as_49 : decode cX10_as 49 = .ok (.iload_n 3, 1) := by decide +kernel
theorem dX10_as_50 : decode cX10_as 50 = .ok (.goto 5, 3) := by decide +kernel
theorem dX10_as_53 : decode cX10_as 53 = .ok (.ldc 137, 2) := by decide +kernel
theorem dX10_as_55 : decode cX10_as 55 = .ok (.ireturn, 1) := by decide +kernel
theorem dX10_term_0 : decode cX10_term 0 = .ok (.aload_n 0, 1) := by decide +kernel
theorem dX10_term_1 : decode cX10_term 1 = .ok (.getfield 10, 3) := by decide +kernel
theorem dX10_term_4 : decode cX10_term 4 = .ok (.iload_n 1, 1) := by decide +kernel
theorem dX10_term_5 : decode cX10_term 5 = .ok (.invokevirtual 122, 3) := by decide +kernel
theorem dX10_term_8 : decode cX10_term 8 = .ok (.ifCond .ne 6, 3) := by decide +kernel
theorem dX10_term_11 : decode cX10_term 11 = .ok (.ldc 125, 2) := by decide +kernel
theorem dX10_term_13 : decode cX10_term 13 = .ok (.ireturn, 1) := by decide +kernel
theorem dX10_term_14 : decode cX10_term 14 = .ok (.iload_n 2, 1) := by decide +kernel
theorem dX10_term_15 : decode cX10_term 15 = .ok (.iconst 0, 1) := by decide +kernel
theorem dX10_term_16 : decode cX10_term 16 = .ok (.sipush 200, 3) := by decide +kernel
theorem dX10_term_19 : decode cX10_term 19 = .ok (.invokestatic 76, 3) := by decide +kernel
theorem dX10_term_22 : decode cX10_term 22 = .ok (.ifCond .ne 6, 3) := by decide +kernel
theorem dX10_term_25 : decode cX10_term 25 = .ok (.ldc 80, 2) := by decide +kernel
theorem dX10_term_27 : decode cX10_term 27 = .ok (.ireturn, 1) := by decide +kernel
theorem dX10_term_28 : decode cX10_term 28 = .ok (.aload_n 0, 1) := by decide +kernel
theorem dX10_term_29 : decode cX10_term 29 = .ok (.getfield 45, 3) := by decide +kernel
theorem dX10_term_32 : decode cX10_term 32 = .ok (.aload_n 0, 1) := by decide +kernel
theorem dX10_term_33 : decode cX10_term 33 = .ok (.getfield 10, 3) := by decide +kernel
theorem dX10_term_36 : decode cX10_term 36 = .ok (.iload_n 1, 1) := by decide +kernel
theorem dX10_term_37 : decode cX10_term 37 = .ok (.iload_n 2, 1) := by decide +kernel
theorem dX10_term_38 : decode cX10_term 38 = .ok (.invokevirtual 141, 3) := by decide +kernel
theorem dX10_term_41 : decode cX10_term 41 = .ok (.ireturn, 1) := by decide +kernel
theorem dX10_by_0 : decode cX10_by 0 = .ok (.aload_n 0, 1) := by decide +kernel
theorem dX10_by_1 : decode cX10_by 1 = .ok (.getfield 10, 3) := by decide +kernel
theorem dX10_by_4 : decode cX10_by 4 = .ok (.iload_n 1, 1) := by decide +kernel
theorem dX10_by_5 : decode cX10_by 5 = .ok (.invokevirtual 122, 3) := by decide +kernel
theorem dX10_by_8 : decode cX10_by 8 = .ok (.ifCond .ne 6, 3) := by decide +kernel
theorem dX10_by_11 : decode cX10_by 11 = .ok (.ldc 125, 2) := by decide +kernel
theorem dX10_by_13 : decode cX10_by 13 = .ok (.ireturn, 1) := by decide +kernel
theorem dX10_by_14 : decode cX10_by 14 = .ok (.iload_n 2, 1) := by decide +kernel
theorem dX10_by_15 : decode cX10_by 15 = .ok (.ifCond .lt 10, 3) := by decide +kernel
theorem dX10_by_18 : decode cX10_by 18 = .ok (.iload_n 3, 1) := by decide +kernel
theorem dX10_by_19 : decode cX10_by 19 = .ok (.invokestatic 145, 3) := by decide +kernel
theorem dX10_by_22 : decode cX10_by 22 = .ok (.ifCond .ne 6, 3) := by decide +kernel
theorem dX10_by_25 : decode cX10_by 25 = .ok (.ldc 80, 2) := by decide +kernel
theorem dX10_by_27 : decode cX10_by 27 = .ok (.ireturn, 1) := by decide +kernel
theorem dX10_by_28 : decode cX10_by 28 = .ok (.aload_n 0, 1) := by decide +kernel
theorem dX10_by_29 : decode cX10_by 29 = .ok (.getfield 52, 3) := by decide +kernel
theorem dX10_by_32 : decode cX10_by 32 = .ok (.aload_n 0, 1) := by decide +kernel
theorem dX10_by_33 : decode cX10_by 33 = .ok (.getfield 10, 3) := by decide +kernel
theorem dX10_by_36 : decode cX10_by 36 = .ok (.iload_n 1, 1) := by decide +kernel
theorem dX10_by_37 : decode cX10_by 37 = .ok (.iload_n 3, 1) := by decide +kernel
theorem dX10_by_38 : decode cX10_by 38 = .ok (.invokevirtual 148, 3) := by decide +kernel
theorem dX10_by_41 : decode cX10_by 41 = .ok (.iload_n 2, 1) := by decide +kernel
theorem dX10_by_42 : decode cX10_by 42 = .ok (.invokevirtual 152, 3) := by decide +kernel
theorem dX10_by_45 : decode cX10_by 45 = .ok (.ireturn, 1) := by decide +kernel
theorem dX10_lap_0 : decode cX10_lap 0 = .ok (.aload_n 0, 1) := by decide +kernel
theorem dX10_lap_1 : decode cX10_lap 1 = .ok (.getfield 10, 3) := by decide +kernel
theorem dX10_lap_4 : decode cX10_lap 4 = .ok (.iload_n 1, 1) := by decide +kernel
theorem dX10_lap_5 : decode cX10_lap 5 = .ok (.invokevirtual 122, 3) := by decide +kernel
theorem dX10_lap_8 : decode cX10_lap 8 = .ok (.ifCond .ne 6, 3) := by decide +kernel
theorem dX10_lap_11 : decode cX10_lap 11 = .ok (.ldc 125, 2) := by decide +kernel
theorem dX10_lap_13 : decode cX10_lap 13 = .ok (.ireturn, 1) := by decide +kernel
theorem dX10_lap_14 : decode cX10_lap 14 = .ok (.iload_n 2, 1) := by decide +kernel
theorem dX10_lap_15 : decode cX10_lap 15 = .ok (.invokestatic 145, 3) := by decide +kernel
theorem dX10_lap_18 : decode cX10_lap 18 = .ok (.ifCond .eq 12, 3) := by decide +kernel
theorem dX10_lap_21 : decode cX10_lap 21 = .ok (.iload_n 3, 1) := by decide +kernel
theorem dX10_lap_22 : decode cX10_lap 22 = .ok (.iconst 0, 1) := by decide +kernel
theorem dX10_lap_23 : decode cX10_lap 23 = .ok (.iconst 2, 1) := by decide +kernel
theorem dX10_lap_24 : decode cX10_lap 24 = .ok (.invokestatic 76, 3) := by decide +kernel
theorem dX10_lap_27 : decode cX10_lap 27 = .ok (.ifCond .ne 6, 3) := by decide +kernel
theorem dX10_lap_30 : decode cX10_lap 30 = .ok (.ldc 80, 2) := by decide +kernel
theorem dX10_lap_32 : decode cX10_lap 32 = .ok (.ireturn, 1) := by decide +kernel
theorem dX10_lap_33 : decode cX10_lap 33 = .ok (.aload_n 0, 1) := by decide +kernel
theorem dX10_lap_34 : decode cX10_lap 34 = .ok (.getfield 52, 3) := by decide +kernel
theorem dX10_lap_37 : decode cX10_lap 37 = .ok (.aload_n 0, 1) := by decide +kernel
theorem dX10_lap_38 : decode cX10_lap 38 = .ok (.getfield 10, 3) := by decide +kernel
theorem dX10_lap_41 : decode cX10_lap 41 = .ok (.iload_n 1, 1) := by decide +kernel
theorem dX10_lap_42 : decode cX10_lap 42 = .ok (.iload_n 2, 1) := by decide +kernel
theorem dX10_lap_43 : decode cX10_lap 43 = .ok (.invokevirtual 148, 3) := by decide +kernel
theorem dX10_lap_46 : decode cX10_lap 46 = .ok (.astore 4, 2) := by decide +kernel
theorem dX10_lap_48 : decode cX10_lap 48 = .ok (.aload 4, 2) := by decide +kernel
theorem dX10_lap_50 : decode cX10_lap 50 = .ok (.invokevirtual 154, 3) := by decide +kernel
theorem dX10_lap_53 : decode cX10_lap 53 = .ok (.istore 5, 2) := by decide +kernel
theorem dX10_lap_55 : decode cX10_lap 55 = .ok (.iload_n 3, 1) := by decide +kernel
theorem dX10_lap_56 : decode cX10_lap 56 = .ok (.ifCond .ne 6, 3) := by decide +kernel
theorem dX10_lap_59 : decode cX10_lap 59 = .ok (.iload 5, 2) := by decide +kernel
theorem dX10_lap_61 : decode cX10_lap 61 = .ok (.ireturn, 1) := by decide +kernel
theorem dX10_lap_62 : decode cX10_lap 62 = .ok (.aload 4, 2) := by decide +kernel
theorem dX10_lap_64 : decode cX10_lap 64 = .ok (.iload 5, 2) := by decide +kernel
theorem dX10_lap_66 : decode cX10_lap 66 = .ok (.invokevirtual 157, 3) := by decide +kernel
theorem dX10_lap_69 : decode cX10_lap 69 = .ok (.istore 6, 2) := by decide +kernel
theorem dX10_lap_71 : decode cX10_lap 71 = .ok (.iload_n 3, 1) := by decide +kernel
theorem dX10_lap_72 : decode cX10_lap 72 = .ok (.iconst 1, 1) := by decide +kernel
theorem dX10_lap_73 : decode cX10_lap 73 = .ok (.if_icmp .ne 8, 3) := by decide +kernel
theorem dX10_lap_76 : decode cX10_lap 76 = .ok (.iload 6, 2) := by decide +kernel
theorem dX10_lap_78 : decode cX10_lap 78 = .ok (.goto 12, 3) := by decide +kernel
theorem dX10_lap_81 : decode cX10_lap 81 = .ok (.aload 4, 2) := by decide +kernel
theorem dX10_lap_83 : decode cX10_lap 83 = .ok (.iload 6, 2) := by decide +kernel
theorem dX10_lap_85 : decode cX10_lap 85 = .ok (.iload 5, 2) := by decide +kernel
theorem dX10_lap_87 : decode cX10_lap 87 = .ok (.invokevirtual 160, 3) := by decide +kernel
theorem dX10_lap_90 : decode cX10_lap 90 = .ok (.ireturn, 1) := by decide +kernel
theorem dX10_least_0 : decode cX10_least 0 = .ok (.aload_n 0, 1) := by decide +kernel
theorem dX10_least_1 : decode cX10_least 1 = .ok (.getfield 10, 3) := by decide +kernel
theorem dX10_least_4 : decode cX10_least 4 = .ok (.iload_n 1, 1) := by decide +kernel
theorem dX10_least_5 : decode cX10_least 5 = .ok (.invokevirtual 122, 3) := by decide +kernel
theorem dX10_least_8 : decode cX10_least 8 = .ok (.ifCond .ne 6, 3) := by decide +kernel
theorem dX10_least_11 : decode cX10_least 11 = .ok (.ldc 125, 2) := by decide +kernel
theorem dX10_least_13 : decode cX10_least 13 = .ok (.ireturn, 1) := by decide +kernel
theorem dX10_least_14 : decode cX10_least 14 = .ok (.iload_n 2, 1) := by decide +kernel
theorem dX10_least_15 : decode cX10_least 15 = .ok (.invokestatic 163, 3) := by decide +kernel
theorem dX10_least_18 : decode cX10_least 18 = .ok (.ifCond .eq 13, 3) := by decide +kernel
theorem dX10_least_21 : decode cX10_least 21 = .ok (.iload_n 3, 1) := by decide +kernel
theorem dX10_least_22 : decode cX10_least 22 = .ok (.iconst 0, 1) := by decide +kernel
theorem dX10_least_23 : decode cX10_least 23 = .ok (.bipush 8, 2) := by decide +kernel
theorem dX10_least_25 : decode cX10_least 25 = .ok (.invokestatic 76, 3) := by decide +kernel
theorem dX10_least_28 : decode cX10_least 28 = .ok (.ifCond .ne 6, 3) := by decide +kernel
theorem dX10_least_31 : decode cX10_least 31 = .ok (.ldc 80, 2) := by decide +kernel
theorem dX10_least_33 : decode cX10_least 33 = .ok (.ireturn, 1) := by decide +kernel
theorem dX10_least_34 : decode cX10_least 34 = .ok (.aload_n 0, 1) := by decide +kernel
theorem dX10_least_35 : decode cX10_least 35 = .ok (.getfield 59, 3) := by decide +kernel
theorem dX10_least_38 : decode cX10_least 38 = .ok (.aload_n 0, 1) := by decide +kernel
theorem dX10_least_39 : decode cX10_least 39 = .ok (.getfield 52, 3) := by decide +kernel
theorem dX10_least_42 : decode cX10_least 42 = .ok (.aload_n 0, 1) := by decide +kernel
theorem dX10_least_43 : decode cX10_least 43 = .ok (.getfield 10, 3) := by decide +kernel
theorem dX10_least_46 : decode cX10_least 46 = .ok (.iload_n 1, 1) := by decide +kernel
theorem dX10_least_47 : decode cX10_least 47 = .ok (.iload_n 2, 1) := by decide +kernel
theorem dX10_least_48 : decode cX10_least 48 = .ok (.invokevirtual 148, 3) := by decide +kernel
theorem dX10_least_51 : decode cX10_least 51 = .ok (.iload_n 2, 1) := by decide +kernel
theorem dX10_least_52 : decode cX10_least 52 = .ok (.invokevirtual 166, 3) := by decide +kernel
theorem dX10_least_55 : decode cX10_least 55 = .ok (.iload_n 3, 1) := by decide +kernel
theorem dX10_least_56 : decode cX10_least 56 = .ok (.ifCond .ne 11, 3) := by decide +kernel
theorem dX10_least_59 : decode cX10_least 59 = .ok (.aload_n 0, 1) := by decide +kernel
theorem dX10_least_60 : decode cX10_least 60 = .ok (.getfield 59, 3) := by decide +kernel
theorem dX10_least_63 : decode cX10_least 63 = .ok (.invokevirtual 170, 3) := by decide +kernel
theorem dX10_least_66 : decode cX10_least 66 = .ok (.ireturn, 1) := by decide +kernel
theorem dX10_least_67 : decode cX10_least 67 = .ok (.aload_n 0, 1) := by decide +kernel
theorem dX10_least_68 : decode cX10_least 68 = .ok (.getfield 59, 3) := by decide +kernel
theorem dX10_least_71 : decode cX10_least 71 = .ok (.invokevirtual 170, 3) := by decide +kernel
theorem dX10_least_74 : decode cX10_least 74 = .ok (.bipush 8, 2) := by decide +kernel
theorem dX10_least_76 : decode cX10_least 76 = .ok (.if_icmp .le 8, 3) := by decide +kernel
theorem dX10_least_79 : decode cX10_least 79 = .ok (.ldc 137, 2) := by decide +kernel
theorem dX10_least_81 : decode cX10_least 81 = .ok (.goto 11, 3) := by decide +kernel
theorem dX10_least_84 : decode cX10_least 84 = .ok (.aload_n 0, 1) := by decide +kernel
theorem dX10_least_85 : decode cX10_least 85 = .ok (.getfield 59, 3) := by decide +kernel
theorem dX10_least_88 : decode cX10_least 88 = .ok (.iload_n 3, 1) := by decide +kernel
theorem dX10_least_89 : decode cX10_least 89 = .ok (.invokevirtual 173, 3) := by decide +kernel
theorem dX10_least_92 : decode cX10_least 92 = .ok (.ireturn, 1) := by decide +kernel
theorem dX10_rule_0 : decode cX10_rule 0 = .ok (.aload_n 0, 1) := by decide +kernel
theorem dX10_rule_1 : decode cX10_rule 1 = .ok (.getfield 10, 3) := by decide +kernel
theorem dX10_rule_4 : decode cX10_rule 4 = .ok (.iload_n 1, 1) := by decide +kernel
theorem dX10_rule_5 : decode cX10_rule 5 = .ok (.invokevirtual 122, 3) := by decide +kernel
theorem dX10_rule_8 : decode cX10_rule 8 = .ok (.ifCond .ne 6, 3) := by decide +kernel
theorem dX10_rule_11 : decode cX10_rule 11 = .ok (.ldc 125, 2) := by decide +kernel
theorem dX10_rule_13 : decode cX10_rule 13 = .ok (.ireturn, 1) := by decide +kernel
theorem dX10_rule_14 : decode cX10_rule 14 = .ok (.iload_n 2, 1) := by decide +kernel
theorem dX10_rule_15 : decode cX10_rule 15 = .ok (.iconst 0, 1) := by decide +kernel
theorem dX10_rule_16 : decode cX10_rule 16 = .ok (.iconst 4, 1) := by decide +kernel
theorem dX10_rule_17 : decode cX10_rule 17 = .ok (.invokestatic 76, 3) := by decide +kernel
theorem dX10_rule_20 : decode cX10_rule 20 = .ok (.ifCond .ne 6, 3) := by decide +kernel
theorem dX10_rule_23 : decode cX10_rule 23 = .ok (.ldc 80, 2) := by decide +kernel
theorem dX10_rule_25 : decode cX10_rule 25 = .ok (.ireturn, 1) := by decide +kernel
theorem dX10_rule_26 : decode cX10_rule 26 = .ok (.aload_n 0, 1) := by decide +kernel
theorem dX10_rule_27 : decode cX10_rule 27 = .ok (.getfield 10, 3) := by decide +kernel
theorem dX10_rule_30 : decode cX10_rule 30 = .ok (.iload_n 1, 1) := by decide +kernel
theorem dX10_rule_31 : decode cX10_rule 31 = .ok (.invokestatic 176, 3) := by decide +kernel
theorem dX10_rule_34 : decode cX10_rule 34 = .ok (.istore_n 3, 1) := by decide +kernel
theorem dX10_rule_35 : decode cX10_rule 35 = .ok (.iload_n 3, 1) := by decide +kernel
theorem dX10_rule_36 : decode cX10_rule 36 = .ok (.ifCond .ne 6, 3) := by decide +kernel
theorem dX10_rule_39 : decode cX10_rule 39 = .ok (.ldc 101, 2) := by decide +kernel
theorem dX10_rule_41 : decode cX10_rule 41 = .ok (.ireturn, 1) := by decide +kernel
theorem dX10_rule_42 : decode cX10_rule 42 = .ok (.iload_n 2, 1) := by decide +kernel
theorem dX10_rule_43 : decode cX10_rule 43 = .ok (.ifCond .ne 7, 3) := by decide +kernel
theorem dX10_rule_46 : decode cX10_rule 46 = .ok (.iload_n 3, 1) := by decide +kernel
theorem dX10_rule_47 : decode cX10_rule 47 = .ok (.goto 12, 3) := by decide +kernel
theorem dX10_rule_50 : decode cX10_rule 50 = .ok (.aload_n 0, 1) := by decide +kernel
theorem dX10_rule_51 : decode cX10_rule 51 = .ok (.getfield 10, 3) := by decide +kernel
theorem dX10_rule_54 : decode cX10_rule 54 = .ok (.iload_n 1, 1) := by decide +kernel
theorem dX10_rule_55 : decode cX10_rule 55 = .ok (.iload_n 2, 1) := by decide +kernel
theorem dX10_rule_56 : decode cX10_rule 56 = .ok (.invokestatic 182, 3) := by decide +kernel
theorem dX10_rule_59 : decode cX10_rule 59 = .ok (.ireturn, 1) := by decide +kernel
theorem dX10_roots_0 : decode cX10_roots 0 = .ok (.aload_n 0, 1) := by decide +kernel
theorem dX10_roots_1 : decode cX10_roots 1 = .ok (.getfield 10, 3) := by decide +kernel
theorem dX10_roots_4 : decode cX10_roots 4 = .ok (.iload_n 1, 1) := by decide +kernel
theorem dX10_roots_5 : decode cX10_roots 5 = .ok (.invokevirtual 122, 3) := by decide +kernel
theorem dX10_roots_8 : decode cX10_roots 8 = .ok (.ifCond .ne 6, 3) := by decide +kernel
theorem dX10_roots_11 : decode cX10_roots 11 = .ok (.ldc 125, 2) := by decide +kernel
theorem dX10_roots_13 : decode cX10_roots 13 = .ok (.ireturn, 1) := by decide +kernel
theorem dX10_roots_14 : decode cX10_roots 14 = .ok (.iload_n 2, 1) := by decide +kernel
theorem dX10_roots_15 : decode cX10_roots 15 = .ok (.iconst 0, 1) := by decide +kernel
theorem dX10_roots_16 : decode cX10_roots 16 = .ok (.iconst 4, 1) := by decide +kernel
theorem dX10_roots_17 : decode cX10_roots 17 = .ok (.invokestatic 76, 3) := by decide +kernel
theorem dX10_roots_20 : decode cX10_roots 20 = .ok (.ifCond .ne 6, 3) := by decide +kernel
theorem dX10_roots_23 : decode cX10_roots 23 = .ok (.ldc 80, 2) := by decide +kernel
theorem dX10_roots_25 : decode cX10_roots 25 = .ok (.ireturn, 1) := by decide +kernel
theorem dX10_roots_26 : decode cX10_roots 26 = .ok (.aload_n 0, 1) := by decide +kernel
theorem dX10_roots_27 : decode cX10_roots 27 = .ok (.getfield 10, 3) := by decide +kernel
theorem dX10_roots_30 : decode cX10_roots 30 = .ok (.iload_n 1, 1) := by decide +kernel
theorem dX10_roots_31 : decode cX10_roots 31 = .ok (.invokevirtual 185, 3) := by decide +kernel
theorem dX10_roots_34 : decode cX10_roots 34 = .ok (.ifCond .ne 6, 3) := by decide +kernel
theorem dX10_roots_37 : decode cX10_roots 37 = .ok (.ldc 101, 2) := by decide +kernel
theorem dX10_roots_39 : decode cX10_roots 39 = .ok (.ireturn, 1) := by decide +kernel
theorem dX10_roots_40 : decode cX10_roots 40 = .ok (.aload_n 0, 1) := by decide +kernel
theorem dX10_roots_41 : decode cX10_roots 41 = .ok (.getfield 10, 3) := by decide +kernel
theorem dX10_roots_44 : decode cX10_roots 44 = .ok (.iload_n 1, 1) := by decide +kernel
theorem dX10_roots_45 : decode cX10_roots 45 = .ok (.iconst 0, 1) := by decide +kernel
theorem dX10_roots_46 : decode cX10_roots 46 = .ok (.invokevirtual 133, 3) := by decide +kernel
theorem dX10_roots_49 : decode cX10_roots 49 = .ok (.istore_n 3, 1) := by decide +kernel
theorem dX10_roots_50 : decode cX10_roots 50 = .ok (.aload_n 0, 1) := by decide +kernel
theorem dX10_roots_51 : decode cX10_roots 51 = .ok (.getfield 10, 3) := by decide +kernel
theorem dX10_roots_54 : decode cX10_roots 54 = .ok (.iload_n 1, 1) := by decide +kernel
theorem dX10_roots_55 : decode cX10_roots 55 = .ok (.iconst 1, 1) := by decide +kernel
theorem dX10_roots_56 : decode cX10_roots 56 = .ok (.invokevirtual 133, 3) := by decide +kernel
theorem dX10_roots_59 : decode cX10_roots 59 = .ok (.istore 4, 2) := by decide +kernel
theorem dX10_roots_61 : decode cX10_roots 61 = .ok (.iload_n 2, 1) := by decide +kernel
theorem dX10_roots_62 : decode cX10_roots 62 = .ok (.tableswitch 58 0 3 #[30, 37, 44, 51], 30) := by decide +kernel
theorem dX10_roots_92 : decode cX10_roots 92 = .ok (.iload_n 3, 1) := by decide +kernel
theorem dX10_roots_93 : decode cX10_roots 93 = .ok (.iload 4, 2) := by decide +kernel
theorem dX10_roots_95 : decode cX10_roots 95 = .ok (.invokestatic 188, 3) := by decide +kernel
theorem dX10_roots_98 : decode cX10_roots 98 = .ok (.ireturn, 1) := by decide +kernel
theorem dX10_roots_99 : decode cX10_roots 99 = .ok (.iload_n 3, 1) := by decide +kernel
theorem dX10_roots_100 : decode cX10_roots 100 = .ok (.iload 4, 2) := by decide +kernel
theorem dX10_roots_102 : decode cX10_roots 102 = .ok (.invokestatic 193, 3) := by decide +kernel
theorem dX10_roots_105 : decode cX10_roots 105 = .ok (.ireturn, 1) := by decide +kernel
theorem dX10_roots_106 : decode cX10_roots 106 = .ok (.iload_n 3, 1) := by decide +kernel
theorem dX10_roots_107 : decode cX10_roots 107 = .ok (.iload 4, 2) := by decide +kernel
theorem dX10_roots_109 : decode cX10_roots 109 = .ok (.invokestatic 196, 3) := by decide +kernel
theorem dX10_roots_112 : decode cX10_roots 112 = .ok (.ireturn, 1) := by decide +kernel
theorem dX10_roots_113 : decode cX10_roots 113 = .ok (.iload_n 3, 1) := by decide +kernel
theorem dX10_roots_114 : decode cX10_roots 114 = .ok (.iload 4, 2) := by decide +kernel
theorem dX10_roots_116 : decode cX10_roots 116 = .ok (.invokestatic 199, 3) := by decide +kernel
theorem dX10_roots_119 : decode cX10_roots 119 = .ok (.ireturn, 1) := by decide +kernel
theorem dX10_roots_120 : decode cX10_roots 120 = .ok (.iload_n 3, 1) := by decide +kernel
theorem dX10_roots_121 : decode cX10_roots 121 = .ok (.iload 4, 2) := by decide +kernel
theorem dX10_roots_123 : decode cX10_roots 123 = .ok (.invokestatic 202, 3) := by decide +kernel
theorem dX10_roots_126 : decode cX10_roots 126 = .ok (.ireturn, 1) := by decide +kernel
theorem dX10_noughts_0 : decode cX10_noughts 0 = .ok (.aload_n 0, 1) := by decide +kernel
theorem dX10_noughts_1 : decode cX10_noughts 1 = .ok (.getfield 10, 3) := by decide +kernel
theorem dX10_noughts_4 : decode cX10_noughts 4 = .ok (.iload_n 1, 1) := by decide +kernel
theorem dX10_noughts_5 : decode cX10_noughts 5 = .ok (.invokevirtual 122, 3) := by decide +kernel
theorem dX10_noughts_8 : decode cX10_noughts 8 = .ok (.ifCond .ne 6, 3) := by decide +kernel
theorem dX10_noughts_11 : decode cX10_noughts 11 = .ok (.ldc 125, 2) := by decide +kernel
theorem dX10_noughts_13 : decode cX10_noughts 13 = .ok (.ireturn, 1) := by decide +kernel
theorem dX10_noughts_14 : decode cX10_noughts 14 = .ok (.iconst 0, 1) := by decide +kernel
theorem dX10_noughts_15 : decode cX10_noughts 15 = .ok (.istore_n 2, 1) := by decide +kernel
theorem dX10_noughts_16 : decode cX10_noughts 16 = .ok (.iconst 0, 1) := by decide +kernel
theorem dX10_noughts_17 : decode cX10_noughts 17 = .ok (.istore_n 3, 1) := by decide +kernel
theorem dX10_noughts_18 : decode cX10_noughts 18 = .ok (.iload_n 3, 1) := by decide +kernel
theorem dX10_noughts_19 : decode cX10_noughts 19 = .ok (.bipush 24, 2) := by decide +kernel
theorem dX10_noughts_21 : decode cX10_noughts 21 = .ok (.if_icmp .ge 31, 3) := by decide +kernel
theorem dX10_noughts_24 : decode cX10_noughts 24 = .ok (.aload_n 0, 1) := by decide +kernel
theorem dX10_noughts_25 : decode cX10_noughts 25 = .ok (.getfield 45, 3) := by decide +kernel
theorem dX10_noughts_28 : decode cX10_noughts 28 = .ok (.aload_n 0, 1) := by decide +kernel
theorem dX10_noughts_29 : decode cX10_noughts 29 = .ok (.getfield 10, 3) := by decide +kernel
theorem dX10_noughts_32 : decode cX10_noughts 32 = .ok (.iload_n 1, 1) := by decide +kernel
theorem dX10_noughts_33 : decode cX10_noughts 33 = .ok (.iload_n 3, 1) := by decide +kernel
theorem dX10_noughts_34 : decode cX10_noughts 34 = .ok (.invokevirtual 141, 3) := by decide +kernel
theorem dX10_noughts_37 : decode cX10_noughts 37 = .ok (.ifCond .ne 9, 3) := by decide +kernel
theorem dX10_noughts_40 : decode cX10_noughts 40 = .ok (.iload_n 2, 1) := by decide +kernel
theorem dX10_noughts_41 : decode cX10_noughts 41 = .ok (.iconst 1, 1) := by decide +kernel
theorem dX10_noughts_42 : decode cX10_noughts 42 = .ok (.iload_n 3, 1) := by decide +kernel
theorem dX10_noughts_43 : decode cX10_noughts 43 = .ok (.ishl, 1) := by decide +kernel
theorem dX10_noughts_44 : decode cX10_noughts 44 = .ok (.ior, 1) := by decide +kernel
theorem dX10_noughts_45 : decode cX10_noughts 45 = .ok (.istore_n 2, 1) := by decide +kernel
theorem dX10_noughts_46 : decode cX10_noughts 46 = .ok (.iinc 3 1, 3) := by decide +kernel
theorem dX10_noughts_49 : decode cX10_noughts 49 = .ok (.goto (-31), 3) := by decide +kernel
theorem dX10_noughts_52 : decode cX10_noughts 52 = .ok (.iload_n 2, 1) := by decide +kernel
theorem dX10_noughts_53 : decode cX10_noughts 53 = .ok (.ireturn, 1) := by decide +kernel
theorem dX10_ends_0 : decode cX10_ends 0 = .ok (.aload_n 0, 1) := by decide +kernel
theorem dX10_ends_1 : decode cX10_ends 1 = .ok (.getfield 10, 3) := by decide +kernel
theorem dX10_ends_4 : decode cX10_ends 4 = .ok (.iload_n 1, 1) := by decide +kernel
theorem dX10_ends_5 : decode cX10_ends 5 = .ok (.invokevirtual 122, 3) := by decide +kernel
theorem dX10_ends_8 : decode cX10_ends 8 = .ok (.ifCond .ne 6, 3) := by decide +kernel
theorem dX10_ends_11 : decode cX10_ends 11 = .ok (.ldc 125, 2) := by decide +kernel
theorem dX10_ends_13 : decode cX10_ends 13 = .ok (.ireturn, 1) := by decide +kernel
theorem dX10_ends_14 : decode cX10_ends 14 = .ok (.iconst 2, 1) := by decide +kernel
theorem dX10_ends_15 : decode cX10_ends 15 = .ok (.istore_n 2, 1) := by decide +kernel
theorem dX10_ends_16 : decode cX10_ends 16 = .ok (.iload_n 2, 1) := by decide +kernel
theorem dX10_ends_17 : decode cX10_ends 17 = .ok (.bipush 10, 2) := by decide +kernel
theorem dX10_ends_19 : decode cX10_ends 19 = .ok (.if_icmp .gt 21, 3) := by decide +kernel
theorem dX10_ends_22 : decode cX10_ends 22 = .ok (.aload_n 0, 1) := by decide +kernel
theorem dX10_ends_23 : decode cX10_ends 23 = .ok (.iload_n 1, 1) := by decide +kernel
theorem dX10_ends_24 : decode cX10_ends 24 = .ok (.iload_n 2, 1) := by decide +kernel
theorem dX10_ends_25 : decode cX10_ends 25 = .ok (.iconst 2, 1) := by decide +kernel
theorem dX10_ends_26 : decode cX10_ends 26 = .ok (.invokevirtual 205, 3) := by decide +kernel
theorem dX10_ends_29 : decode cX10_ends 29 = .ok (.ifCond .ne 5, 3) := by decide +kernel
theorem dX10_ends_32 : decode cX10_ends 32 = .ok (.iload_n 2, 1) := by decide +kernel
theorem dX10_ends_33 : decode cX10_ends 33 = .ok (.ireturn, 1) := by decide +kernel
theorem dX10_ends_34 : decode cX10_ends 34 = .ok (.iinc 2 1, 3) := by decide +kernel
theorem dX10_ends_37 : decode cX10_ends 37 = .ok (.goto (-21), 3) := by decide +kernel
theorem dX10_ends_40 : decode cX10_ends 40 = .ok (.ldc 137, 2) := by decide +kernel
theorem dX10_ends_42 : decode cX10_ends 42 = .ok (.ireturn, 1) := by decide +kernel
theorem dX10_open_0 : decode cX10_open 0 = .ok (.aload_n 0, 1) := by decide +kernel
theorem dX10_open_1 : decode cX10_open 1 = .ok (.getfield 10, 3) := by decide +kernel
theorem dX10_open_4 : decode cX10_open 4 = .ok (.iload_n 1, 1) := by decide +kernel
theorem dX10_open_5 : decode cX10_open 5 = .ok (.invokevirtual 122, 3) := by decide +kernel
theorem dX10_open_8 : decode cX10_open 8 = .ok (.ifCond .ne 6, 3) := by decide +kernel
theorem dX10_open_11 : decode cX10_open 11 = .ok (.ldc 125, 2) := by decide +kernel
theorem dX10_open_13 : decode cX10_open 13 = .ok (.ireturn, 1) := by decide +kernel
theorem dX10_open_14 : decode cX10_open 14 = .ok (.iload_n 2, 1) := by decide +kernel
theorem dX10_open_15 : decode cX10_open 15 = .ok (.iconst 0, 1) := by decide +kernel
theorem dX10_open_16 : decode cX10_open 16 = .ok (.iconst 1, 1) := by decide +kernel
theorem dX10_open_17 : decode cX10_open 17 = .ok (.invokestatic 76, 3) := by decide +kernel
theorem dX10_open_20 : decode cX10_open 20 = .ok (.ifCond .ne 6, 3) := by decide +kernel
theorem dX10_open_23 : decode cX10_open 23 = .ok (.ldc 80, 2) := by decide +kernel
theorem dX10_open_25 : decode cX10_open 25 = .ok (.ireturn, 1) := by decide +kernel
theorem dX10_open_26 : decode cX10_open 26 = .ok (.iconst 0, 1) := by decide +kernel
theorem dX10_open_27 : decode cX10_open 27 = .ok (.istore_n 3, 1) := by decide +kernel
theorem dX10_open_28 : decode cX10_open 28 = .ok (.ldc 137, 2) := by decide +kernel
theorem dX10_open_30 : decode cX10_open 30 = .ok (.istore 4, 2) := by decide +kernel
theorem dX10_open_32 : decode cX10_open 32 = .ok (.iconst 0, 1) := by decide +kernel
theorem dX10_open_33 : decode cX10_open 33 = .ok (.istore 5, 2) := by decide +kernel
theorem dX10_open_35 : decode cX10_open 35 = .ok (.iload 5, 2) := by decide +kernel
theorem dX10_open_37 : decode cX10_open 37 = .ok (.sipush 1000, 3) := by decide +kernel
theorem dX10_open_40 : decode cX10_open 40 = .ok (.if_icmp .ge 26, 3) := by decide +kernel
theorem dX10_open_43 : decode cX10_open 43 = .ok (.aload_n 0, 1) := by decide +kernel
theorem dX10_open_44 : decode cX10_open 44 = .ok (.iload_n 1, 1) := by decide +kernel
theorem dX10_open_45 : decode cX10_open 45 = .ok (.iload 5, 2) := by decide +kernel
theorem dX10_open_47 : decode cX10_open 47 = .ok (.invokevirtual 209, 3) := by decide +kernel
theorem dX10_open_50 : decode cX10_open 50 = .ok (.ifCond .eq 10, 3) := by decide +kernel
theorem dX10_open_53 : decode cX10_open 53 = .ok (.iinc 3 1, 3) := by decide +kernel
theorem dX10_open_56 : decode cX10_open 56 = .ok (.iload 5, 2) := by decide +kernel
theorem dX10_open_58 : decode cX10_open 58 = .ok (.istore 4, 2) := by decide +kernel
theorem dX10_open_60 : decode cX10_open 60 = .ok (.iinc 5 1, 3) := by decide +kernel
theorem dX10_open_63 : decode cX10_open 63 = .ok (.goto (-28), 3) := by decide +kernel
theorem dX10_open_66 : decode cX10_open 66 = .ok (.iload_n 2, 1) := by decide +kernel
theorem dX10_open_67 : decode cX10_open 67 = .ok (.ifCond .ne 7, 3) := by decide +kernel
theorem dX10_open_70 : decode cX10_open 70 = .ok (.iload_n 3, 1) := by decide +kernel
theorem dX10_open_71 : decode cX10_open 71 = .ok (.goto 5, 3) := by decide +kernel
theorem dX10_open_74 : decode cX10_open 74 = .ok (.iload 4, 2) := by decide +kernel
theorem dX10_open_76 : decode cX10_open 76 = .ok (.ireturn, 1) := by decide +kernel
theorem dX10_meets_0 : decode cX10_meets 0 = .ok (.aload_n 0, 1) := by decide +kernel
theorem dX10_meets_1 : decode cX10_meets 1 = .ok (.getfield 10, 3) := by decide +kernel
theorem dX10_meets_4 : decode cX10_meets 4 = .ok (.iload_n 1, 1) := by decide +kernel
theorem dX10_meets_5 : decode cX10_meets 5 = .ok (.invokevirtual 122, 3) := by decide +kernel
theorem dX10_meets_8 : decode cX10_meets 8 = .ok (.ifCond .eq 14, 3) := by decide +kernel
theorem dX10_meets_11 : decode cX10_meets 11 = .ok (.aload_n 0, 1) := by decide +kernel
theorem dX10_meets_12 : decode cX10_meets 12 = .ok (.getfield 10, 3) := by decide +kernel
theorem dX10_meets_15 : decode cX10_meets 15 = .ok (.iload_n 2, 1) := by decide +kernel
theorem dX10_meets_16 : decode cX10_meets 16 = .ok (.invokevirtual 122, 3) := by decide +kernel
theorem dX10_meets_19 : decode cX10_meets 19 = .ok (.ifCond .ne 6, 3) := by decide +kernel
theorem dX10_meets_22 : decode cX10_meets 22 = .ok (.ldc 125, 2) := by decide +kernel
theorem dX10_meets_24 : decode cX10_meets 24 = .ok (.ireturn, 1) := by decide +kernel
theorem dX10_meets_25 : decode cX10_meets 25 = .ok (.iload_n 3, 1) := by decide +kernel
theorem dX10_meets_26 : decode cX10_meets 26 = .ok (.invokestatic 145, 3) := by decide +kernel
theorem dX10_meets_29 : decode cX10_meets 29 = .ok (.ifCond .ne 6, 3) := by decide +kernel
theorem dX10_meets_32 : decode cX10_meets 32 = .ok (.ldc 80, 2) := by decide +kernel
theorem dX10_meets_34 : decode cX10_meets 34 = .ok (.ireturn, 1) := by decide +kernel
theorem dX10_meets_35 : decode cX10_meets 35 = .ok (.aload_n 0, 1) := by decide +kernel
theorem dX10_meets_36 : decode cX10_meets 36 = .ok (.getfield 52, 3) := by decide +kernel
theorem dX10_meets_39 : decode cX10_meets 39 = .ok (.aload_n 0, 1) := by decide +kernel
theorem dX10_meets_40 : decode cX10_meets 40 = .ok (.getfield 10, 3) := by decide +kernel
theorem dX10_meets_43 : decode cX10_meets 43 = .ok (.iload_n 1, 1) := by decide +kernel
theorem dX10_meets_44 : decode cX10_meets 44 = .ok (.iload_n 3, 1) := by decide +kernel
theorem dX10_meets_45 : decode cX10_meets 45 = .ok (.invokevirtual 148, 3) := by decide +kernel
theorem dX10_meets_48 : decode cX10_meets 48 = .ok (.aload_n 0, 1) := by decide +kernel
theorem dX10_meets_49 : decode cX10_meets 49 = .ok (.getfield 52, 3) := by decide +kernel
theorem dX10_meets_52 : decode cX10_meets 52 = .ok (.aload_n 0, 1) := by decide +kernel
theorem dX10_meets_53 : decode cX10_meets 53 = .ok (.getfield 10, 3) := by decide +kernel
theorem dX10_meets_56 : decode cX10_meets 56 = .ok (.iload_n 2, 1) := by decide +kernel
theorem dX10_meets_57 : decode cX10_meets 57 = .ok (.iload_n 3, 1) := by decide +kernel
theorem dX10_meets_58 : decode cX10_meets 58 = .ok (.invokevirtual 148, 3) := by decide +kernel
theorem dX10_meets_61 : decode cX10_meets 61 = .ok (.invokevirtual 213, 3) := by decide +kernel
theorem dX10_meets_64 : decode cX10_meets 64 = .ok (.ireturn, 1) := by decide +kernel
theorem dX10_told_0 : decode cX10_told 0 = .ok (.iload_n 1, 1) := by decide +kernel
theorem dX10_told_1 : decode cX10_told 1 = .ok (.iload_n 2, 1) := by decide +kernel
theorem dX10_told_2 : decode cX10_told 2 = .ok (.iload_n 3, 1) := by decide +kernel
theorem dX10_told_3 : decode cX10_told 3 = .ok (.iload 4, 2) := by decide +kernel
theorem dX10_told_5 : decode cX10_told 5 = .ok (.invokestatic 217, 3) := by decide +kernel
theorem dX10_told_8 : decode cX10_told 8 = .ok (.ifCond .eq 16, 3) := by decide +kernel
theorem dX10_told_11 : decode cX10_told 11 = .ok (.aload_n 0, 1) := by decide +kernel
theorem dX10_told_12 : decode cX10_told 12 = .ok (.iconst 0, 1) := by decide +kernel
theorem dX10_told_13 : decode cX10_told 13 = .ok (.iload_n 1, 1) := by decide +kernel
theorem dX10_told_14 : decode cX10_told 14 = .ok (.iload_n 2, 1) := by decide +kernel
theorem dX10_told_15 : decode cX10_told 15 = .ok (.iload_n 3, 1) := by decide +kernel
theorem dX10_told_16 : decode cX10_told 16 = .ok (.iload 4, 2) := by decide +kernel
theorem dX10_told_18 : decode cX10_told 18 = .ok (.invokevirtual 221, 3) := by decide +kernel
theorem dX10_told_21 : decode cX10_told 21 = .ok (.goto 5, 3) := by decide +kernel
theorem dX10_told_24 : decode cX10_told 24 = .ok (.ldc 80, 2) := by decide +kernel
theorem dX10_told_26 : decode cX10_told 26 = .ok (.ireturn, 1) := by decide +kernel
theorem dX10_sum_0 : decode cX10_sum 0 = .ok (.aload_n 0, 1) := by decide +kernel
theorem dX10_sum_1 : decode cX10_sum 1 = .ok (.getfield 10, 3) := by decide +kernel
theorem dX10_sum_4 : decode cX10_sum 4 = .ok (.iload_n 1, 1) := by decide +kernel
theorem dX10_sum_5 : decode cX10_sum 5 = .ok (.invokevirtual 122, 3) := by decide +kernel
theorem dX10_sum_8 : decode cX10_sum 8 = .ok (.ifCond .eq 26, 3) := by decide +kernel
theorem dX10_sum_11 : decode cX10_sum 11 = .ok (.aload_n 0, 1) := by decide +kernel
theorem dX10_sum_12 : decode cX10_sum 12 = .ok (.getfield 10, 3) := by decide +kernel
theorem dX10_sum_15 : decode cX10_sum 15 = .ok (.iload_n 2, 1) := by decide +kernel
theorem dX10_sum_16 : decode cX10_sum 16 = .ok (.invokevirtual 122, 3) := by decide +kernel
theorem dX10_sum_19 : decode cX10_sum 19 = .ok (.ifCond .eq 15, 3) := by decide +kernel
theorem dX10_sum_22 : decode cX10_sum 22 = .ok (.aload_n 0, 1) := by decide +kernel
theorem dX10_sum_23 : decode cX10_sum 23 = .ok (.iconst 1, 1) := by decide +kernel
theorem dX10_sum_24 : decode cX10_sum 24 = .ok (.iload_n 1, 1) := by decide +kernel
theorem dX10_sum_25 : decode cX10_sum 25 = .ok (.iload_n 2, 1) := by decide +kernel
theorem dX10_sum_26 : decode cX10_sum 26 = .ok (.iconst 0, 1) := by decide +kernel
theorem dX10_sum_27 : decode cX10_sum 27 = .ok (.iconst 0, 1) := by decide +kernel
theorem dX10_sum_28 : decode cX10_sum 28 = .ok (.invokevirtual 221, 3) := by decide +kernel
theorem dX10_sum_31 : decode cX10_sum 31 = .ok (.goto 5, 3) := by decide +kernel
theorem dX10_sum_34 : decode cX10_sum 34 = .ok (.ldc 125, 2) := by decide +kernel
theorem dX10_sum_36 : decode cX10_sum 36 = .ok (.ireturn, 1) := by decide +kernel
theorem dX10_product_0 : decode cX10_product 0 = .ok (.aload_n 0, 1) := by decide +kernel
theorem dX10_product_1 : decode cX10_product 1 = .ok (.getfield 10, 3) := by decide +kernel
theorem dX10_product_4 : decode cX10_product 4 = .ok (.iload_n 1, 1) := by decide +kernel
theorem dX10_product_5 : decode cX10_product 5 = .ok (.invokevirtual 122, 3) := by decide +kernel
theorem dX10_product_8 : decode cX10_product 8 = .ok (.ifCond .eq 26, 3) := by decide +kernel
theorem dX10_product_11 : decode cX10_product 11 = .ok (.aload_n 0, 1) := by decide +kernel
theorem dX10_product_12 : decode cX10_product 12 = .ok (.getfield 10, 3) := by decide +kernel
theorem dX10_product_15 : decode cX10_product 15 = .ok (.iload_n 2, 1) := by decide +kernel
theorem dX10_product_16 : decode cX10_product 16 = .ok (.invokevirtual 122, 3) := by decide +kernel
theorem dX10_product_19 : decode cX10_product 19 = .ok (.ifCond .eq 15, 3) := by decide +kernel
theorem dX10_product_22 : decode cX10_product 22 = .ok (.aload_n 0, 1) := by decide +kernel
theorem dX10_product_23 : decode cX10_product 23 = .ok (.iconst 2, 1) := by decide +kernel
theorem dX10_product_24 : decode cX10_product 24 = .ok (.iload_n 1, 1) := by decide +kernel
theorem dX10_product_25 : decode cX10_product 25 = .ok (.iload_n 2, 1) := by decide +kernel
theorem dX10_product_26 : decode cX10_product 26 = .ok (.iconst 0, 1) := by decide +kernel
theorem dX10_product_27 : decode cX10_product 27 = .ok (.iconst 0, 1) := by decide +kernel
theorem dX10_product_28 : decode cX10_product 28 = .ok (.invokevirtual 221, 3) := by decide +kernel
theorem dX10_product_31 : decode cX10_product 31 = .ok (.goto 5, 3) := by decide +kernel
theorem dX10_product_34 : decode cX10_product 34 = .ok (.ldc 125, 2) := by decide +kernel
theorem dX10_product_36 : decode cX10_product 36 = .ok (.ireturn, 1) := by decide +kernel
theorem dX10_each_0 : decode cX10_each 0 = .ok (.aload_n 0, 1) := by decide +kernel
theorem dX10_each_1 : decode cX10_each 1 = .ok (.getfield 10, 3) := by decide +kernel
theorem dX10_each_4 : decode cX10_each 4 = .ok (.iload_n 1, 1) := by decide +kernel
theorem dX10_each_5 : decode cX10_each 5 = .ok (.invokevirtual 122, 3) := by decide +kernel
theorem dX10_each_8 : decode cX10_each 8 = .ok (.ifCond .ne 6, 3) := by decide +kernel
theorem dX10_each_11 : decode cX10_each 11 = .ok (.ldc 125, 2) := by decide +kernel
theorem dX10_each_13 : decode cX10_each 13 = .ok (.ireturn, 1) := by decide +kernel
theorem dX10_each_14 : decode cX10_each 14 = .ok (.iload_n 2, 1) := by decide +kernel
theorem dX10_each_15 : decode cX10_each 15 = .ok (.iconst 1, 1) := by decide +kernel
theorem dX10_each_16 : decode cX10_each 16 = .ok (.iconst 5, 1) := by decide +kernel
theorem dX10_each_17 : decode cX10_each 17 = .ok (.invokestatic 76, 3) := by decide +kernel
theorem dX10_each_20 : decode cX10_each 20 = .ok (.ifCond .eq 25, 3) := by decide +kernel
theorem dX10_each_23 : decode cX10_each 23 = .ok (.iload_n 3, 1) := by decide +kernel
theorem dX10_each_24 : decode cX10_each 24 = .ok (.iconst 0, 1) := by decide +kernel
theorem dX10_each_25 : decode cX10_each 25 = .ok (.bipush 9, 2) := by decide +kernel
theorem dX10_each_27 : decode cX10_each 27 = .ok (.invokestatic 76, 3) := by decide +kernel
theorem dX10_each_30 : decode cX10_each 30 = .ok (.ifCond .eq 15, 3) := by decide +kernel
theorem dX10_each_33 : decode cX10_each 33 = .ok (.aload_n 0, 1) := by decide +kernel
theorem dX10_each_34 : decode cX10_each 34 = .ok (.iconst 3, 1) := by decide +kernel
theorem dX10_each_35 : decode cX10_each 35 = .ok (.iload_n 1, 1) := by decide +kernel
theorem dX10_each_36 : decode cX10_each 36 = .ok (.iload_n 2, 1) := by decide +kernel
theorem dX10_each_37 : decode cX10_each 37 = .ok (.iload_n 3, 1) := by decide +kernel
theorem dX10_each_38 : decode cX10_each 38 = .ok (.iconst 0, 1) := by decide +kernel
theorem dX10_each_39 : decode cX10_each 39 = .ok (.invokevirtual 221, 3) := by decide +kernel
theorem dX10_each_42 : decode cX10_each 42 = .ok (.goto 5, 3) := by decide +kernel
theorem dX10_each_45 : decode cX10_each 45 = .ok (.ldc 80, 2) := by decide +kernel
theorem dX10_each_47 : decode cX10_each 47 = .ok (.ireturn, 1) := by decide +kernel
theorem dX10_step_0 : decode cX10_step 0 = .ok (.aload_n 0, 1) := by decide +kernel
theorem dX10_step_1 : decode cX10_step 1 = .ok (.getfield 10, 3) := by decide +kernel
theorem dX10_step_4 : decode cX10_step 4 = .ok (.iload_n 1, 1) := by decide +kernel
theorem dX10_step_5 : decode cX10_step 5 = .ok (.invokevirtual 122, 3) := by decide +kernel
theorem dX10_step_8 : decode cX10_step 8 = .ok (.ifCond .eq 15, 3) := by decide +kernel
theorem dX10_step_11 : decode cX10_step 11 = .ok (.aload_n 0, 1) := by decide +kernel
theorem dX10_step_12 : decode cX10_step 12 = .ok (.iconst 4, 1) := by decide +kernel
theorem dX10_step_13 : decode cX10_step 13 = .ok (.iload_n 1, 1) := by decide +kernel
theorem dX10_step_14 : decode cX10_step 14 = .ok (.iconst 0, 1) := by decide +kernel
theorem dX10_step_15 : decode cX10_step 15 = .ok (.iconst 0, 1) := by decide +kernel
theorem dX10_step_16 : decode cX10_step 16 = .ok (.iconst 0, 1) := by decide +kernel
theorem dX10_step_17 : decode cX10_step 17 = .ok (.invokevirtual 221, 3) := by decide +kernel
theorem dX10_step_20 : decode cX10_step 20 = .ok (.goto 5, 3) := by decide +kernel
theorem dX10_step_23 : decode cX10_step 23 = .ok (.ldc 125, 2) := by decide +kernel
theorem dX10_step_25 : decode cX10_step 25 = .ok (.ireturn, 1) := by decide +kernel
theorem dX10_put_0 : decode cX10_put 0 = .ok (.aload_n 0, 1) := by decide +kernel
theorem dX10_put_1 : decode cX10_put 1 = .ok (.getfield 10, 3) := by decide +kernel
theorem dX10_put_4 : decode cX10_put 4 = .ok (.iload_n 1, 1) := by decide +kernel
theorem dX10_put_5 : decode cX10_put 5 = .ok (.invokevirtual 122, 3) := by decide +kernel
theorem dX10_put_8 : decode cX10_put 8 = .ok (.ifCond .ne 6, 3) := by decide +kernel
theorem dX10_put_11 : decode cX10_put 11 = .ok (.ldc 125, 2) := by decide +kernel
theorem dX10_put_13 : decode cX10_put 13 = .ok (.ireturn, 1) := by decide +kernel
theorem dX10_put_14 : decode cX10_put 14 = .ok (.iload_n 2, 1) := by decide +kernel
theorem dX10_put_15 : decode cX10_put 15 = .ok (.iconst 0, 1) := by decide +kernel
theorem dX10_put_16 : decode cX10_put 16 = .ok (.iconst 3, 1) := by decide +kernel
theorem dX10_put_17 : decode cX10_put 17 = .ok (.invokestatic 76, 3) := by decide +kernel
theorem dX10_put_20 : decode cX10_put 20 = .ok (.ifCond .ne 6, 3) := by decide +kernel
theorem dX10_put_23 : decode cX10_put 23 = .ok (.ldc 80, 2) := by decide +kernel
theorem dX10_put_25 : decode cX10_put 25 = .ok (.ireturn, 1) := by decide +kernel
theorem dX10_put_26 : decode cX10_put 26 = .ok (.aload_n 0, 1) := by decide +kernel
theorem dX10_put_27 : decode cX10_put 27 = .ok (.getfield 10, 3) := by decide +kernel
theorem dX10_put_30 : decode cX10_put 30 = .ok (.iload_n 1, 1) := by decide +kernel
theorem dX10_put_31 : decode cX10_put 31 = .ok (.invokevirtual 185, 3) := by decide +kernel
theorem dX10_put_34 : decode cX10_put 34 = .ok (.ifCond .ne 6, 3) := by decide +kernel
theorem dX10_put_37 : decode cX10_put 37 = .ok (.ldc 101, 2) := by decide +kernel
theorem dX10_put_39 : decode cX10_put 39 = .ok (.ireturn, 1) := by decide +kernel
theorem dX10_put_40 : decode cX10_put 40 = .ok (.iload_n 2, 1) := by decide +kernel
theorem dX10_put_41 : decode cX10_put 41 = .ok (.ifCond .eq 8, 3) := by decide +kernel
theorem dX10_put_44 : decode cX10_put 44 = .ok (.iload_n 2, 1) := by decide +kernel
theorem dX10_put_45 : decode cX10_put 45 = .ok (.iconst 1, 1) := by decide +kernel
theorem dX10_put_46 : decode cX10_put 46 = .ok (.if_icmp .ne 8, 3) := by decide +kernel
theorem dX10_put_49 : decode cX10_put 49 = .ok (.bipush 9, 2) := by decide +kernel
theorem dX10_put_51 : decode cX10_put 51 = .ok (.goto 6, 3) := by decide +kernel
theorem dX10_put_54 : decode cX10_put 54 = .ok (.sipush 999, 3) := by decide +kernel
theorem dX10_put_57 : decode cX10_put 57 = .ok (.istore 4, 2) := by decide +kernel
theorem dX10_put_59 : decode cX10_put 59 = .ok (.iload_n 3, 1) := by decide +kernel
theorem dX10_put_60 : decode cX10_put 60 = .ok (.iload 4, 2) := by decide +kernel
theorem dX10_put_62 : decode cX10_put 62 = .ok (.ineg, 1) := by decide +kernel
theorem dX10_put_63 : decode cX10_put 63 = .ok (.iload 4, 2) := by decide +kernel
theorem dX10_put_65 : decode cX10_put 65 = .ok (.invokestatic 76, 3) := by decide +kernel
theorem dX10_put_68 : decode cX10_put 68 = .ok (.ifCond .ne 6, 3) := by decide +kernel
theorem dX10_put_71 : decode cX10_put 71 = .ok (.ldc 80, 2) := by decide +kernel
theorem dX10_put_73 : decode cX10_put 73 = .ok (.ireturn, 1) := by decide +kernel
theorem dX10_put_74 : decode cX10_put 74 = .ok (.aload_n 0, 1) := by decide +kernel
theorem dX10_put_75 : decode cX10_put 75 = .ok (.getfield 10, 3) := by decide +kernel
theorem dX10_put_78 : decode cX10_put 78 = .ok (.iload_n 1, 1) := by decide +kernel
theorem dX10_put_79 : decode cX10_put 79 = .ok (.iload_n 2, 1) := by decide +kernel
theorem dX10_put_80 : decode cX10_put 80 = .ok (.invokevirtual 133, 3) := by decide +kernel
theorem dX10_put_83 : decode cX10_put 83 = .ok (.istore 5, 2) := by decide +kernel
theorem dX10_put_85 : decode cX10_put 85 = .ok (.aload_n 0, 1) := by decide +kernel
theorem dX10_put_86 : decode cX10_put 86 = .ok (.getfield 10, 3) := by decide +kernel
theorem dX10_put_89 : decode cX10_put 89 = .ok (.iload_n 1, 1) := by decide +kernel
theorem dX10_put_90 : decode cX10_put 90 = .ok (.iload_n 2, 1) := by decide +kernel
theorem dX10_put_91 : decode cX10_put 91 = .ok (.iload_n 3, 1) := by decide +kernel
theorem dX10_put_92 : decode cX10_put 92 = .ok (.invokevirtual 225, 3) := by decide +kernel
theorem dX10_put_95 : decode cX10_put 95 = .ok (.aload_n 0, 1) := by decide +kernel
theorem dX10_put_96 : decode cX10_put 96 = .ok (.iload_n 1, 1) := by decide +kernel
theorem dX10_put_97 : decode cX10_put 97 = .ok (.invokevirtual 110, 3) := by decide +kernel
theorem dX10_put_100 : decode cX10_put 100 = .ok (.iload 5, 2) := by decide +kernel
theorem dX10_put_102 : decode cX10_put 102 = .ok (.ireturn, 1) := by decide +kernel
theorem dX10_drop_0 : decode cX10_drop 0 = .ok (.aload_n 0, 1) := by decide +kernel
theorem dX10_drop_1 : decode cX10_drop 1 = .ok (.getfield 10, 3) := by decide +kernel
theorem dX10_drop_4 : decode cX10_drop 4 = .ok (.invokevirtual 121, 3) := by decide +kernel
theorem dX10_drop_7 : decode cX10_drop 7 = .ok (.ifCond .ne 6, 3) := by decide +kernel
theorem dX10_drop_10 : decode cX10_drop 10 = .ok (.ldc 101, 2) := by decide +kernel
theorem dX10_drop_12 : decode cX10_drop 12 = .ok (.ireturn, 1) := by decide +kernel
theorem dX10_drop_13 : decode cX10_drop 13 = .ok (.aload_n 0, 1) := by decide +kernel
theorem dX10_drop_14 : decode cX10_drop 14 = .ok (.getfield 10, 3) := by decide +kernel
theorem dX10_drop_17 : decode cX10_drop 17 = .ok (.invokevirtual 229, 3) := by decide +kernel
theorem dX10_drop_20 : decode cX10_drop 20 = .ok (.aload_n 0, 1) := by decide +kernel
theorem dX10_drop_21 : decode cX10_drop 21 = .ok (.aload_n 0, 1) := by decide +kernel
theorem dX10_drop_22 : decode cX10_drop 22 = .ok (.getfield 10, 3) := by decide +kernel
theorem dX10_drop_25 : decode cX10_drop 25 = .ok (.invokevirtual 121, 3) := by decide +kernel
theorem dX10_drop_28 : decode cX10_drop 28 = .ok (.invokevirtual 110, 3) := by decide +kernel
theorem dX10_drop_31 : decode cX10_drop 31 = .ok (.aload_n 0, 1) := by decide +kernel
theorem dX10_drop_32 : decode cX10_drop 32 = .ok (.getfield 10, 3) := by decide +kernel
theorem dX10_drop_35 : decode cX10_drop 35 = .ok (.invokevirtual 121, 3) := by decide +kernel
theorem dX10_drop_38 : decode cX10_drop 38 = .ok (.ireturn, 1) := by decide +kernel
theorem dX10_ease_0 : decode cX10_ease 0 = .ok (.aload_n 0, 1) := by decide +kernel
theorem dX10_ease_1 : decode cX10_ease 1 = .ok (.getfield 10, 3) := by decide +kernel
theorem dX10_ease_4 : decode cX10_ease 4 = .ok (.iload_n 1, 1) := by decide +kernel
theorem dX10_ease_5 : decode cX10_ease 5 = .ok (.invokevirtual 122, 3) := by decide +kernel
theorem dX10_ease_8 : decode cX10_ease 8 = .ok (.ifCond .ne 6, 3) := by decide +kernel
theorem dX10_ease_11 : decode cX10_ease 11 = .ok (.ldc 125, 2) := by decide +kernel
theorem dX10_ease_13 : decode cX10_ease 13 = .ok (.ireturn, 1) := by decide +kernel
theorem dX10_ease_14 : decode cX10_ease 14 = .ok (.aload_n 0, 1) := by decide +kernel
theorem dX10_ease_15 : decode cX10_ease 15 = .ok (.getfield 10, 3) := by decide +kernel
theorem dX10_ease_18 : decode cX10_ease 18 = .ok (.iload_n 1, 1) := by decide +kernel
theorem dX10_ease_19 : decode cX10_ease 19 = .ok (.invokevirtual 126, 3) := by decide +kernel
theorem dX10_ease_22 : decode cX10_ease 22 = .ok (.istore_n 2, 1) := by decide +kernel
theorem dX10_ease_23 : decode cX10_ease 23 = .ok (.aload_n 0, 1) := by decide +kernel
theorem dX10_ease_24 : decode cX10_ease 24 = .ok (.iload_n 1, 1) := by decide +kernel
theorem dX10_ease_25 : decode cX10_ease 25 = .ok (.invokevirtual 232, 3) := by decide +kernel
theorem dX10_ease_28 : decode cX10_ease 28 = .ok (.ifCond .ne 6, 3) := by decide +kernel
theorem dX10_ease_31 : decode cX10_ease 31 = .ok (.ldc 101, 2) := by decide +kernel
theorem dX10_ease_33 : decode cX10_ease 33 = .ok (.ireturn, 1) := by decide +kernel
theorem dX10_ease_34 : decode cX10_ease 34 = .ok (.iload_n 2, 1) := by decide +kernel
theorem dX10_ease_35 : decode cX10_ease 35 = .ok (.iconst 1, 1) := by decide +kernel
theorem dX10_ease_36 : decode cX10_ease 36 = .ok (.if_icmp .ne 13, 3) := by decide +kernel
theorem dX10_ease_39 : decode cX10_ease 39 = .ok (.aload_n 0, 1) := by decide +kernel
theorem dX10_ease_40 : decode cX10_ease 40 = .ok (.iload_n 1, 1) := by decide +kernel
theorem dX10_ease_41 : decode cX10_ease 41 = .ok (.iconst 0, 1) := by decide +kernel
theorem dX10_ease_42 : decode cX10_ease 42 = .ok (.iconst 0, 1) := by decide +kernel
theorem dX10_ease_43 : decode cX10_ease 43 = .ok (.invokevirtual 235, 3) := by decide +kernel
theorem dX10_ease_46 : decode cX10_ease 46 = .ok (.goto 12, 3) := by decide +kernel
theorem dX10_ease_49 : decode cX10_ease 49 = .ok (.aload_n 0, 1) := by decide +kernel
theorem dX10_ease_50 : decode cX10_ease 50 = .ok (.getfield 10, 3) := by decide +kernel
theorem dX10_ease_53 : decode cX10_ease 53 = .ok (.iload_n 1, 1) := by decide +kernel
theorem dX10_ease_54 : decode cX10_ease 54 = .ok (.iconst 1, 1) := by decide +kernel
theorem dX10_ease_55 : decode cX10_ease 55 = .ok (.invokestatic 182, 3) := by decide +kernel
theorem dX10_ease_58 : decode cX10_ease 58 = .ok (.istore_n 3, 1) := by decide +kernel
theorem dX10_ease_59 : decode cX10_ease 59 = .ok (.iload_n 2, 1) := by decide +kernel
theorem dX10_ease_60 : decode cX10_ease 60 = .ok (.iconst 1, 1) := by decide +kernel
theorem dX10_ease_61 : decode cX10_ease 61 = .ok (.if_icmp .ne 13, 3) := by decide +kernel
theorem dX10_ease_64 : decode cX10_ease 64 = .ok (.aload_n 0, 1) := by decide +kernel
theorem dX10_ease_65 : decode cX10_ease 65 = .ok (.iload_n 1, 1) := by decide +kernel
theorem dX10_ease_66 : decode cX10_ease 66 = .ok (.iconst 0, 1) := by decide +kernel
theorem dX10_ease_67 : decode cX10_ease 67 = .ok (.iconst 1, 1) := by decide +kernel
theorem dX10_ease_68 : decode cX10_ease 68 = .ok (.invokevirtual 235, 3) := by decide +kernel
theorem dX10_ease_71 : decode cX10_ease 71 = .ok (.goto 12, 3) := by decide +kernel
theorem dX10_ease_74 : decode cX10_ease 74 = .ok (.aload_n 0, 1) := by decide +kernel
theorem dX10_ease_75 : decode cX10_ease 75 = .ok (.getfield 10, 3) := by decide +kernel
theorem dX10_ease_78 : decode cX10_ease 78 = .ok (.iload_n 1, 1) := by decide +kernel
theorem dX10_ease_79 : decode cX10_ease 79 = .ok (.iconst 2, 1) := by decide +kernel
theorem dX10_ease_80 : decode cX10_ease 80 = .ok (.invokestatic 182, 3) := by decide +kernel
theorem dX10_ease_83 : decode cX10_ease 83 = .ok (.istore 4, 2) := by decide +kernel
theorem dX10_ease_85 : decode cX10_ease 85 = .ok (.aload_n 0, 1) := by decide +kernel
theorem dX10_ease_86 : decode cX10_ease 86 = .ok (.getfield 45, 3) := by decide +kernel
theorem dX10_ease_89 : decode cX10_ease 89 = .ok (.aload_n 0, 1) := by decide +kernel
theorem dX10_ease_90 : decode cX10_ease 90 = .ok (.getfield 10, 3) := by decide +kernel
theorem dX10_ease_93 : decode cX10_ease 93 = .ok (.iload_n 1, 1) := by decide +kernel
theorem dX10_ease_94 : decode cX10_ease 94 = .ok (.iconst 0, 1) := by decide +kernel
theorem dX10_ease_95 : decode cX10_ease 95 = .ok (.invokevirtual 141, 3) := by decide +kernel
theorem dX10_ease_98 : decode cX10_ease 98 = .ok (.istore 5, 2) := by decide +kernel
theorem dX10_ease_100 : decode cX10_ease 100 = .ok (.aload_n 0, 1) := by decide +kernel
theorem dX10_ease_101 : decode cX10_ease 101 = .ok (.getfield 45, 3) := by decide +kernel
theorem dX10_ease_104 : decode cX10_ease 104 = .ok (.aload_n 0, 1) := by decide +kernel
theorem dX10_ease_105 : decode cX10_ease 105 = .ok (.getfield 10, 3) := by decide +kernel
theorem dX10_ease_108 : decode cX10_ease 108 = .ok (.iload_n 1, 1) := by decide +kernel
theorem dX10_ease_109 : decode cX10_ease 109 = .ok (.iconst 1, 1) := by decide +kernel
theorem dX10_ease_110 : decode cX10_ease 110 = .ok (.invokevirtual 141, 3) := by decide +kernel
theorem dX10_ease_113 : decode cX10_ease 113 = .ok (.istore 6, 2) := by decide +kernel
theorem dX10_ease_115 : decode cX10_ease 115 = .ok (.iload_n 3, 1) := by decide +kernel
theorem dX10_ease_116 : decode cX10_ease 116 = .ok (.iload 4, 2) := by decide +kernel
theorem dX10_ease_118 : decode cX10_ease 118 = .ok (.iload 5, 2) := by decide +kernel
theorem dX10_ease_120 : decode cX10_ease 120 = .ok (.iload 6, 2) := by decide +kernel
theorem dX10_ease_122 : decode cX10_ease 122 = .ok (.invokestatic 217, 3) := by decide +kernel
theorem dX10_ease_125 : decode cX10_ease 125 = .ok (.ifCond .ne 6, 3) := by decide +kernel
theorem dX10_ease_128 : decode cX10_ease 128 = .ok (.ldc 101, 2) := by decide +kernel
theorem dX10_ease_130 : decode cX10_ease 130 = .ok (.ireturn, 1) := by decide +kernel
theorem dX10_ease_131 : decode cX10_ease 131 = .ok (.aload_n 0, 1) := by decide +kernel
theorem dX10_ease_132 : decode cX10_ease 132 = .ok (.getfield 10, 3) := by decide +kernel
theorem dX10_ease_135 : decode cX10_ease 135 = .ok (.iload_n 1, 1) := by decide +kernel
theorem dX10_ease_136 : decode cX10_ease 136 = .ok (.iconst 0, 1) := by decide +kernel
theorem dX10_ease_137 : decode cX10_ease 137 = .ok (.iload_n 3, 1) := by decide +kernel
theorem dX10_ease_138 : decode cX10_ease 138 = .ok (.iload 4, 2) := by decide +kernel
theorem dX10_ease_140 : decode cX10_ease 140 = .ok (.iload 5, 2) := by decide +kernel
theorem dX10_ease_142 : decode cX10_ease 142 = .ok (.iload 6, 2) := by decide +kernel
theorem dX10_ease_144 : decode cX10_ease 144 = .ok (.invokevirtual 238, 3) := by decide +kernel
theorem dX10_ease_147 : decode cX10_ease 147 = .ok (.aload_n 0, 1) := by decide +kernel
theorem dX10_ease_148 : decode cX10_ease 148 = .ok (.iload_n 1, 1) := by decide +kernel
theorem dX10_ease_149 : decode cX10_ease 149 = .ok (.invokevirtual 110, 3) := by decide +kernel
theorem dX10_ease_152 : decode cX10_ease 152 = .ok (.iload_n 2, 1) := by decide +kernel
theorem dX10_ease_153 : decode cX10_ease 153 = .ok (.ireturn, 1) := by decide +kernel
theorem dX10_give_0 : decode cX10_give 0 = .ok (.iload_n 1, 1) := by decide +kernel
theorem dX10_give_1 : decode cX10_give 1 = .ok (.bipush (-99), 2) := by decide +kernel
theorem dX10_give_3 : decode cX10_give 3 = .ok (.bipush 99, 2) := by decide +kernel
theorem dX10_give_5 : decode cX10_give 5 = .ok (.invokestatic 76, 3) := by decide +kernel
theorem dX10_give_8 : decode cX10_give 8 = .ok (.ifCond .ne 6, 3) := by decide +kernel
theorem dX10_give_11 : decode cX10_give 11 = .ok (.ldc 80, 2) := by decide +kernel
theorem dX10_give_13 : decode cX10_give 13 = .ok (.ireturn, 1) := by decide +kernel
theorem dX10_give_14 : decode cX10_give 14 = .ok (.aload_n 0, 1) := by decide +kernel
theorem dX10_give_15 : decode cX10_give 15 = .ok (.getfield 21, 3) := by decide +kernel
theorem dX10_give_18 : decode cX10_give 18 = .ok (.iload_n 1, 1) := by decide +kernel
theorem dX10_give_19 : decode cX10_give 19 = .ok (.invokevirtual 81, 3) := by decide +kernel
theorem dX10_give_22 : decode cX10_give 22 = .ok (.ifCond .eq 13, 3) := by decide +kernel
theorem dX10_give_25 : decode cX10_give 25 = .ok (.aload_n 0, 1) := by decide +kernel
theorem dX10_give_26 : decode cX10_give 26 = .ok (.getfield 21, 3) := by decide +kernel
theorem dX10_give_29 : decode cX10_give 29 = .ok (.invokevirtual 85, 3) := by decide +kernel
theorem dX10_give_32 : decode cX10_give 32 = .ok (.goto 5, 3) := by decide +kernel
theorem dX10_give_35 : decode cX10_give 35 = .ok (.ldc 89, 2) := by decide +kernel
theorem dX10_give_37 : decode cX10_give 37 = .ok (.ireturn, 1) := by decide +kernel
theorem dX10_forget_0 : decode cX10_forget 0 = .ok (.aload_n 0, 1) := by decide +kernel
theorem dX10_forget_1 : decode cX10_forget 1 = .ok (.getfield 21, 3) := by decide +kernel
theorem dX10_forget_4 : decode cX10_forget 4 = .ok (.invokevirtual 85, 3) := by decide +kernel
theorem dX10_forget_7 : decode cX10_forget 7 = .ok (.istore_n 1, 1) := by decide +kernel
theorem dX10_forget_8 : decode cX10_forget 8 = .ok (.aload_n 0, 1) := by decide +kernel
theorem dX10_forget_9 : decode cX10_forget 9 = .ok (.getfield 21, 3) := by decide +kernel
theorem dX10_forget_12 : decode cX10_forget 12 = .ok (.invokevirtual 90, 3) := by decide +kernel
theorem dX10_forget_15 : decode cX10_forget 15 = .ok (.iload_n 1, 1) := by decide +kernel
theorem dX10_forget_16 : decode cX10_forget 16 = .ok (.ireturn, 1) := by decide +kernel
theorem dX10_guess_0 : decode cX10_guess 0 = .ok (.iload_n 1, 1) := by decide +kernel
theorem dX10_guess_1 : decode cX10_guess 1 = .ok (.iconst 0, 1) := by decide +kernel
theorem dX10_guess_2 : decode cX10_guess 2 = .ok (.iconst 2, 1) := by decide +kernel
theorem dX10_guess_3 : decode cX10_guess 3 = .ok (.invokestatic 76, 3) := by decide +kernel
theorem dX10_guess_6 : decode cX10_guess 6 = .ok (.ifCond .ne 6, 3) := by decide +kernel
theorem dX10_guess_9 : decode cX10_guess 9 = .ok (.ldc 80, 2) := by decide +kernel
theorem dX10_guess_11 : decode cX10_guess 11 = .ok (.ireturn, 1) := by decide +kernel
theorem dX10_guess_12 : decode cX10_guess 12 = .ok (.aload_n 0, 1) := by decide +kernel
theorem dX10_guess_13 : decode cX10_guess 13 = .ok (.getfield 38, 3) := by decide +kernel
theorem dX10_guess_16 : decode cX10_guess 16 = .ok (.aload_n 0, 1) := by decide +kernel
theorem dX10_guess_17 : decode cX10_guess 17 = .ok (.getfield 21, 3) := by decide +kernel
theorem dX10_guess_20 : decode cX10_guess 20 = .ok (.invokevirtual 242, 3) := by decide +kernel
theorem dX10_guess_23 : decode cX10_guess 23 = .ok (.ifCond .ne 6, 3) := by decide +kernel
theorem dX10_guess_26 : decode cX10_guess 26 = .ok (.ldc 137, 2) := by decide +kernel
theorem dX10_guess_28 : decode cX10_guess 28 = .ok (.ireturn, 1) := by decide +kernel
theorem dX10_guess_29 : decode cX10_guess 29 = .ok (.iload_n 1, 1) := by decide +kernel
theorem dX10_guess_30 : decode cX10_guess 30 = .ok (.ifCond .ne 11, 3) := by decide +kernel
theorem dX10_guess_33 : decode cX10_guess 33 = .ok (.aload_n 0, 1) := by decide +kernel
theorem dX10_guess_34 : decode cX10_guess 34 = .ok (.getfield 38, 3) := by decide +kernel
theorem dX10_guess_37 : decode cX10_guess 37 = .ok (.invokevirtual 245, 3) := by decide +kernel
theorem dX10_guess_40 : decode cX10_guess 40 = .ok (.ireturn, 1) := by decide +kernel
theorem dX10_guess_41 : decode cX10_guess 41 = .ok (.iload_n 1, 1) := by decide +kernel
theorem dX10_guess_42 : decode cX10_guess 42 = .ok (.iconst 1, 1) := by decide +kernel
theorem dX10_guess_43 : decode cX10_guess 43 = .ok (.if_icmp .ne 13, 3) := by decide +kernel
theorem dX10_guess_46 : decode cX10_guess 46 = .ok (.aload_n 0, 1) := by decide +kernel
theorem dX10_guess_47 : decode cX10_guess 47 = .ok (.getfield 38, 3) := by decide +kernel
theorem dX10_guess_50 : decode cX10_guess 50 = .ok (.invokevirtual 248, 3) := by decide +kernel
theorem dX10_guess_53 : decode cX10_guess 53 = .ok (.goto 10, 3) := by decide +kernel
theorem dX10_guess_56 : decode cX10_guess 56 = .ok (.aload_n 0, 1) := by decide +kernel
theorem dX10_guess_57 : decode cX10_guess 57 = .ok (.getfield 38, 3) := by decide +kernel
theorem dX10_guess_60 : decode cX10_guess 60 = .ok (.invokevirtual 251, 3) := by decide +kernel
theorem dX10_guess_63 : decode cX10_guess 63 = .ok (.ireturn, 1) := by decide +kernel
theorem dX10_found_0 : decode cX10_found 0 = .ok (.aload_n 0, 1) := by decide +kernel
theorem dX10_found_1 : decode cX10_found 1 = .ok (.getfield 38, 3) := by decide +kernel
theorem dX10_found_4 : decode cX10_found 4 = .ok (.aload_n 0, 1) := by decide +kernel
theorem dX10_found_5 : decode cX10_found 5 = .ok (.getfield 21, 3) := by decide +kernel
theorem dX10_found_8 : decode cX10_found 8 = .ok (.invokevirtual 242, 3) := by decide +kernel
theorem dX10_found_11 : decode cX10_found 11 = .ok (.ifCond .ne 6, 3) := by decide +kernel
theorem dX10_found_14 : decode cX10_found 14 = .ok (.ldc 101, 2) := by decide +kernel
theorem dX10_found_16 : decode cX10_found 16 = .ok (.ireturn, 1) := by decide +kernel
theorem dX10_found_17 : decode cX10_found 17 = .ok (.aload_n 0, 1) := by decide +kernel
theorem dX10_found_18 : decode cX10_found 18 = .ok (.getfield 38, 3) := by decide +kernel
theorem dX10_found_21 : decode cX10_found 21 = .ok (.invokevirtual 245, 3) := by decide +kernel
theorem dX10_found_24 : decode cX10_found 24 = .ok (.lookupswitch 76 #[(0, 28), (1, 38)], 28) := by decide +kernel
theorem dX10_found_52 : decode cX10_found 52 = .ok (.aload_n 0, 1) := by decide +kernel
theorem dX10_found_53 : decode cX10_found 53 = .ok (.iconst 0, 1) := by decide +kernel
theorem dX10_found_54 : decode cX10_found 54 = .ok (.iconst 0, 1) := by decide +kernel
theorem dX10_found_55 : decode cX10_found 55 = .ok (.iconst 0, 1) := by decide +kernel
theorem dX10_found_56 : decode cX10_found 56 = .ok (.iconst 0, 1) := by decide +kernel
theorem dX10_found_57 : decode cX10_found 57 = .ok (.iconst 0, 1) := by decide +kernel
theorem dX10_found_58 : decode cX10_found 58 = .ok (.invokevirtual 221, 3) := by decide +kernel
theorem dX10_found_61 : decode cX10_found 61 = .ok (.ireturn, 1) := by decide +kernel
theorem dX10_found_62 : decode cX10_found 62 = .ok (.aload_n 0, 1) := by decide +kernel
theorem dX10_found_63 : decode cX10_found 63 = .ok (.iconst 0, 1) := by decide +kernel
theorem dX10_found_64 : decode cX10_found 64 = .ok (.aload_n 0, 1) := by decide +kernel
theorem dX10_found_65 : decode cX10_found 65 = .ok (.getfield 38, 3) := by decide +kernel
theorem dX10_found_68 : decode cX10_found 68 = .ok (.invokevirtual 248, 3) := by decide +kernel
theorem dX10_found_71 : decode cX10_found 71 = .ok (.iconst 0, 1) := by decide +kernel
theorem dX10_found_72 : decode cX10_found 72 = .ok (.aload_n 0, 1) := by decide +kernel
theorem dX10_found_73 : decode cX10_found 73 = .ok (.getfield 21, 3) := by decide +kernel
theorem dX10_found_76 : decode cX10_found 76 = .ok (.iconst 0, 1) := by decide +kernel
theorem dX10_found_77 : decode cX10_found 77 = .ok (.invokevirtual 254, 3) := by decide +kernel
theorem dX10_found_80 : decode cX10_found 80 = .ok (.aload_n 0, 1) := by decide +kernel
theorem dX10_found_81 : decode cX10_found 81 = .ok (.getfield 38, 3) := by decide +kernel
theorem dX10_found_84 : decode cX10_found 84 = .ok (.invokevirtual 248, 3) := by decide +kernel
theorem dX10_found_87 : decode cX10_found 87 = .ok (.aload_n 0, 1) := by decide +kernel
theorem dX10_found_88 : decode cX10_found 88 = .ok (.getfield 21, 3) := by decide +kernel
theorem dX10_found_91 : decode cX10_found 91 = .ok (.iconst 0, 1) := by decide +kernel
theorem dX10_found_92 : decode cX10_found 92 = .ok (.invokevirtual 254, 3) := by decide +kernel
theorem dX10_found_95 : decode cX10_found 95 = .ok (.imul, 1) := by decide +kernel
theorem dX10_found_96 : decode cX10_found 96 = .ok (.invokevirtual 221, 3) := by decide +kernel
theorem dX10_found_99 : decode cX10_found 99 = .ok (.ireturn, 1) := by decide +kernel
theorem dX10_found_100 : decode cX10_found 100 = .ok (.aload_n 0, 1) := by decide +kernel
theorem dX10_found_101 : decode cX10_found 101 = .ok (.iconst 0, 1) := by decide +kernel
theorem dX10_found_102 : decode cX10_found 102 = .ok (.aload_n 0, 1) := by decide +kernel
theorem dX10_found_103 : decode cX10_found 103 = .ok (.getfield 38, 3) := by decide +kernel
theorem dX10_found_106 : decode cX10_found 106 = .ok (.invokevirtual 248, 3) := by decide +kernel
theorem dX10_found_109 : decode cX10_found 109 = .ok (.aload_n 0, 1) := by decide +kernel
theorem dX10_found_110 : decode cX10_found 110 = .ok (.getfield 38, 3) := by decide +kernel
theorem dX10_found_113 : decode cX10_found 113 = .ok (.invokevirtual 251, 3) := by decide +kernel
theorem dX10_found_116 : decode cX10_found 116 = .ok (.aload_n 0, 1) := by decide +kernel
theorem dX10_found_117 : decode cX10_found 117 = .ok (.getfield 21, 3) := by decide +kernel
theorem dX10_found_120 : decode cX10_found 120 = .ok (.iconst 0, 1) := by decide +kernel
theorem dX10_found_121 : decode cX10_found 121 = .ok (.invokevirtual 254, 3) := by decide +kernel
theorem dX10_found_124 : decode cX10_found 124 = .ok (.aload_n 0, 1) := by decide +kernel
theorem dX10_found_125 : decode cX10_found 125 = .ok (.getfield 21, 3) := by decide +kernel
theorem dX10_found_128 : decode cX10_found 128 = .ok (.iconst 1, 1) := by decide +kernel
theorem dX10_found_129 : decode cX10_found 129 = .ok (.invokevirtual 254, 3) := by decide +kernel
theorem dX10_found_132 : decode cX10_found 132 = .ok (.invokevirtual 221, 3) := by decide +kernel
theorem dX10_found_135 : decode cX10_found 135 = .ok (.ireturn, 1) := by decide +kernel
theorem dX10_drawn_0 : decode cX10_drawn 0 = .ok (.iload_n 1, 1) := by decide +kernel
theorem dX10_drawn_1 : decode cX10_drawn 1 = .ok (.iconst 1, 1) := by decide +kernel
theorem dX10_drawn_2 : decode cX10_drawn 2 = .ok (.bipush 30, 2) := by decide +kernel
theorem dX10_drawn_4 : decode cX10_drawn 4 = .ok (.invokestatic 76, 3) := by decide +kernel
theorem dX10_drawn_7 : decode cX10_drawn 7 = .ok (.ifCond .eq 16, 3) := by decide +kernel
theorem dX10_drawn_10 : decode cX10_drawn 10 = .ok (.iload_n 2, 1) := by decide +kernel
theorem dX10_drawn_11 : decode cX10_drawn 11 = .ok (.ifCond .lt 12, 3) := by decide +kernel
theorem dX10_drawn_14 : decode cX10_drawn 14 = .ok (.iload_n 3, 1) := by decide +kernel
theorem dX10_drawn_15 : decode cX10_drawn 15 = .ok (.iconst 0, 1) := by decide +kernel
theorem dX10_drawn_16 : decode cX10_drawn 16 = .ok (.iconst 2, 1) := by decide +kernel
theorem dX10_drawn_17 : decode cX10_drawn 17 = .ok (.invokestatic 76, 3) := by decide +kernel
theorem dX10_drawn_20 : decode cX10_drawn 20 = .ok (.ifCond .ne 6, 3) := by decide +kernel
theorem dX10_drawn_23 : decode cX10_drawn 23 = .ok (.ldc 80, 2) := by decide +kernel
theorem dX10_drawn_25 : decode cX10_drawn 25 = .ok (.ireturn, 1) := by decide +kernel
theorem dX10_drawn_26 : decode cX10_drawn 26 = .ok (.iload_n 2, 1) := by decide +kernel
theorem dX10_drawn_27 : decode cX10_drawn 27 = .ok (.istore 4, 2) := by decide +kernel
theorem dX10_drawn_29 : decode cX10_drawn 29 = .ok (.iconst 0, 1) := by decide +kernel
theorem dX10_drawn_30 : decode cX10_drawn 30 = .ok (.istore 5, 2) := by decide +kernel
theorem dX10_drawn_32 : decode cX10_drawn 32 = .ok (.iconst 0, 1) := by decide +kernel
theorem dX10_drawn_33 : decode cX10_drawn 33 = .ok (.istore 6, 2) := by decide +kernel
theorem dX10_drawn_35 : decode cX10_drawn 35 = .ok (.iconst 0, 1) := by decide +kernel
theorem dX10_drawn_36 : decode cX10_drawn 36 = .ok (.istore 7, 2) := by decide +kernel
theorem dX10_drawn_38 : decode cX10_drawn 38 = .ok (.iload 7, 2) := by decide +kernel
theorem dX10_drawn_40 : decode cX10_drawn 40 = .ok (.iload_n 1, 1) := by decide +kernel
theorem dX10_drawn_41 : decode cX10_drawn 41 = .ok (.if_icmp .ge 97, 3) := by decide +kernel
theorem dX10_drawn_44 : decode cX10_drawn 44 = .ok (.iload 4, 2) := by decide +kernel
theorem dX10_drawn_46 : decode cX10_drawn 46 = .ok (.invokestatic 255, 3) := by decide +kernel
theorem dX10_drawn_49 : decode cX10_drawn 49 = .ok (.istore 8, 2) := by decide +kernel
theorem dX10_drawn_51 : decode cX10_drawn 51 = .ok (.iload 8, 2) := by decide +kernel
theorem dX10_drawn_53 : decode cX10_drawn 53 = .ok (.invokestatic 255, 3) := by decide +kernel
theorem dX10_drawn_56 : decode cX10_drawn 56 = .ok (.istore 9, 2) := by decide +kernel
theorem dX10_drawn_58 : decode cX10_drawn 58 = .ok (.iload 9, 2) := by decide +kernel
theorem dX10_drawn_60 : decode cX10_drawn 60 = .ok (.invokestatic 255, 3) := by decide +kernel
theorem dX10_drawn_63 : decode cX10_drawn 63 = .ok (.istore 10, 2) := by decide +kernel
theorem dX10_drawn_65 : decode cX10_drawn 65 = .ok (.iload 10, 2) := by decide +kernel
theorem dX10_drawn_67 : decode cX10_drawn 67 = .ok (.invokestatic 255, 3) := by decide +kernel
theorem dX10_drawn_70 : decode cX10_drawn 70 = .ok (.istore 4, 2) := by decide +kernel
theorem dX10_drawn_72 : decode cX10_drawn 72 = .ok (.iload 8, 2) := by decide +kernel
theorem dX10_drawn_74 : decode cX10_drawn 74 = .ok (.invokestatic 258, 3) := by decide +kernel
theorem dX10_drawn_77 : decode cX10_drawn 77 = .ok (.istore 11, 2) := by decide +kernel
theorem dX10_drawn_79 : decode cX10_drawn 79 = .ok (.iload 9, 2) := by decide +kernel
theorem dX10_drawn_81 : decode cX10_drawn 81 = .ok (.invokestatic 258, 3) := by decide +kernel
theorem dX10_drawn_84 : decode cX10_drawn 84 = .ok (.istore 12, 2) := by decide +kernel
theorem dX10_drawn_86 : decode cX10_drawn 86 = .ok (.aload_n 0, 1) := by decide +kernel
theorem dX10_drawn_87 : decode cX10_drawn 87 = .ok (.getfield 66, 3) := by decide +kernel
theorem dX10_drawn_90 : decode cX10_drawn 90 = .ok (.iload 11, 2) := by decide +kernel
theorem dX10_drawn_92 : decode cX10_drawn 92 = .ok (.iload 12, 2) := by decide +kernel
theorem dX10_drawn_94 : decode cX10_drawn 94 = .ok (.iload 10, 2) := by decide +kernel
theorem dX10_drawn_96 : decode cX10_drawn 96 = .ok (.invokestatic 258, 3) := by decide +kernel
theorem dX10_drawn_99 : decode cX10_drawn 99 = .ok (.iload 4, 2) := by decide +kernel
theorem dX10_drawn_101 : decode cX10_drawn 101 = .ok (.invokestatic 258, 3) := by decide +kernel
theorem dX10_drawn_104 : decode cX10_drawn 104 = .ok (.invokevirtual 261, 3) := by decide +kernel
theorem dX10_drawn_107 : decode cX10_drawn 107 = .ok (.iload 5, 2) := by decide +kernel
theorem dX10_drawn_109 : decode cX10_drawn 109 = .ok (.aload_n 0, 1) := by decide +kernel
theorem dX10_drawn_110 : decode cX10_drawn 110 = .ok (.getfield 66, 3) := by decide +kernel
theorem dX10_drawn_113 : decode cX10_drawn 113 = .ok (.invokevirtual 154, 3) := by decide +kernel
theorem dX10_drawn_116 : decode cX10_drawn 116 = .ok (.iadd, 1) := by decide +kernel
theorem dX10_drawn_117 : decode cX10_drawn 117 = .ok (.istore 5, 2) := by decide +kernel
theorem dX10_drawn_119 : decode cX10_drawn 119 = .ok (.iload 11, 2) := by decide +kernel
theorem dX10_drawn_121 : decode cX10_drawn 121 = .ok (.iload 12, 2) := by decide +kernel
theorem dX10_drawn_123 : decode cX10_drawn 123 = .ok (.invokestatic 199, 3) := by decide +kernel
theorem dX10_drawn_126 : decode cX10_drawn 126 = .ok (.ifCond .eq 6, 3) := by decide +kernel
theorem dX10_drawn_129 : decode cX10_drawn 129 = .ok (.iinc 6 1, 3) := by decide +kernel
theorem dX10_drawn_132 : decode cX10_drawn 132 = .ok (.iinc 7 1, 3) := by decide +kernel
theorem dX10_drawn_135 : decode cX10_drawn 135 = .ok (.goto (-97), 3) := by decide +kernel
theorem dX10_drawn_138 : decode cX10_drawn 138 = .ok (.iload_n 3, 1) := by decide +kernel
theorem dX10_drawn_139 : decode cX10_drawn 139 = .ok (.ifCond .ne 6, 3) := by decide +kernel
theorem dX10_drawn_142 : decode cX10_drawn 142 = .ok (.iload 5, 2) := by decide +kernel
theorem dX10_drawn_144 : decode cX10_drawn 144 = .ok (.ireturn, 1) := by decide +kernel
theorem dX10_drawn_145 : decode cX10_drawn 145 = .ok (.iload_n 3, 1) := by decide +kernel
theorem dX10_drawn_146 : decode cX10_drawn 146 = .ok (.iconst 1, 1) := by decide +kernel
theorem dX10_drawn_147 : decode cX10_drawn 147 = .ok (.if_icmp .ne 8, 3) := by decide +kernel
theorem dX10_drawn_150 : decode cX10_drawn 150 = .ok (.iload 6, 2) := by decide +kernel
theorem dX10_drawn_152 : decode cX10_drawn 152 = .ok (.goto 5, 3) := by decide +kernel
theorem dX10_drawn_155 : decode cX10_drawn 155 = .ok (.iload 4, 2) := by decide +kernel
theorem dX10_drawn_157 : decode cX10_drawn 157 = .ok (.ireturn, 1) := by decide +kernel
theorem dX10_image_0 : decode cX10_image 0 = .ok (.aload_n 0, 1) := by decide +kernel
theorem dX10_image_1 : decode cX10_image 1 = .ok (.getfield 10, 3) := by decide +kernel
theorem dX10_image_4 : decode cX10_image 4 = .ok (.invokevirtual 121, 3) := by decide +kernel
theorem dX10_image_7 : decode cX10_image 7 = .ok (.ifCond .ne 6, 3) := by decide +kernel
theorem dX10_image_10 : decode cX10_image 10 = .ok (.ldc 101, 2) := by decide +kernel
theorem dX10_image_12 : decode cX10_image 12 = .ok (.ireturn, 1) := by decide +kernel
theorem dX10_image_13 : decode cX10_image 13 = .ok (.aload_n 0, 1) := by decide +kernel
theorem dX10_image_14 : decode cX10_image 14 = .ok (.getfield 70, 3) := by decide +kernel
theorem dX10_image_17 : decode cX10_image 17 = .ok (.aload_n 0, 1) := by decide +kernel
theorem dX10_image_18 : decode cX10_image 18 = .ok (.getfield 10, 3) := by decide +kernel
theorem dX10_image_21 : decode cX10_image 21 = .ok (.invokevirtual 106, 3) := by decide +kernel
theorem dX10_image_24 : decode cX10_image 24 = .ok (.aload_n 0, 1) := by decide +kernel
theorem dX10_image_25 : decode cX10_image 25 = .ok (.getfield 73, 3) := by decide +kernel
theorem dX10_image_28 : decode cX10_image 28 = .ok (.aload_n 0, 1) := by decide +kernel
theorem dX10_image_29 : decode cX10_image 29 = .ok (.getfield 21, 3) := by decide +kernel
theorem dX10_image_32 : decode cX10_image 32 = .ok (.invokevirtual 265, 3) := by decide +kernel
theorem dX10_image_35 : decode cX10_image 35 = .ok (.aload_n 0, 1) := by decide +kernel
theorem dX10_image_36 : decode cX10_image 36 = .ok (.iconst 1, 1) := by decide +kernel
theorem dX10_image_37 : decode cX10_image 37 = .ok (.putfield 113, 3) := by decide +kernel
theorem dX10_image_40 : decode cX10_image 40 = .ok (.aload_n 0, 1) := by decide +kernel
theorem dX10_image_41 : decode cX10_image 41 = .ok (.getfield 10, 3) := by decide +kernel
theorem dX10_image_44 : decode cX10_image 44 = .ok (.invokevirtual 121, 3) := by decide +kernel
theorem dX10_image_47 : decode cX10_image 47 = .ok (.ireturn, 1) := by decide +kernel
theorem dX10_restore_0 : decode cX10_restore 0 = .ok (.aload_n 0, 1) := by decide +kernel
theorem dX10_restore_1 : decode cX10_restore 1 = .ok (.getfield 113, 3) := by decide +kernel
theorem dX10_restore_4 : decode cX10_restore 4 = .ok (.ifCond .ne 6, 3) := by decide +kernel
theorem dX10_restore_7 : decode cX10_restore 7 = .ok (.ldc 101, 2) := by decide +kernel
theorem dX10_restore_9 : decode cX10_restore 9 = .ok (.ireturn, 1) := by decide +kernel
theorem dX10_restore_10 : decode cX10_restore 10 = .ok (.aload_n 0, 1) := by decide +kernel
theorem dX10_restore_11 : decode cX10_restore 11 = .ok (.getfield 10, 3) := by decide +kernel
theorem dX10_restore_14 : decode cX10_restore 14 = .ok (.aload_n 0, 1) := by decide +kernel
theorem dX10_restore_15 : decode cX10_restore 15 = .ok (.getfield 70, 3) := by decide +kernel
theorem dX10_restore_18 : decode cX10_restore 18 = .ok (.invokevirtual 106, 3) := by decide +kernel
theorem dX10_restore_21 : decode cX10_restore 21 = .ok (.aload_n 0, 1) := by decide +kernel
theorem dX10_restore_22 : decode cX10_restore 22 = .ok (.getfield 21, 3) := by decide +kernel
theorem dX10_restore_25 : decode cX10_restore 25 = .ok (.aload_n 0, 1) := by decide +kernel
theorem dX10_restore_26 : decode cX10_restore 26 = .ok (.getfield 73, 3) := by decide +kernel
theorem dX10_restore_29 : decode cX10_restore 29 = .ok (.invokevirtual 265, 3) := by decide +kernel
theorem dX10_restore_32 : decode cX10_restore 32 = .ok (.aload_n 0, 1) := by decide +kernel
theorem dX10_restore_33 : decode cX10_restore 33 = .ok (.iconst 0, 1) := by decide +kernel
theorem dX10_restore_34 : decode cX10_restore 34 = .ok (.invokevirtual 110, 3) := by decide +kernel
theorem dX10_restore_37 : decode cX10_restore 37 = .ok (.aload_n 0, 1) := by decide +kernel
theorem dX10_restore_38 : decode cX10_restore 38 = .ok (.getfield 10, 3) := by decide +kernel
theorem dX10_restore_41 : decode cX10_restore 41 = .ok (.invokevirtual 121, 3) := by decide +kernel
theorem dX10_restore_44 : decode cX10_restore 44 = .ok (.ireturn, 1) := by decide +kernel
theorem dX10_count_0 : decode cX10_count 0 = .ok (.iload_n 1, 1) := by decide +kernel
theorem dX10_count_1 : decode cX10_count 1 = .ok (.tableswitch 78 0 5 #[39, 47, 52, 57, 65, 73], 39) := by decide +kernel
theorem dX10_count_40 : decode cX10_count 40 = .ok (.aload_n 0, 1) := by decide +kernel
theorem dX10_count_41 : decode cX10_count 41 = .ok (.getfield 10, 3) := by decide +kernel
theorem dX10_count_44 : decode cX10_count 44 = .ok (.invokevirtual 121, 3) := by decide +kernel
theorem dX10_count_47 : decode cX10_count 47 = .ok (.ireturn, 1) := by decide +kernel
theorem dX10_count_48 : decode cX10_count 48 = .ok (.aload_n 0, 1) := by decide +kernel
theorem dX10_count_49 : decode cX10_count 49 = .ok (.invokevirtual 268, 3) := by decide +kernel
theorem dX10_count_52 : decode cX10_count 52 = .ok (.ireturn, 1) := by decide +kernel
theorem dX10_count_53 : decode cX10_count 53 = .ok (.aload_n 0, 1) := by decide +kernel
theorem dX10_count_54 : decode cX10_count 54 = .ok (.invokevirtual 271, 3) := by decide +kernel
theorem dX10_count_57 : decode cX10_count 57 = .ok (.ireturn, 1) := by decide +kernel
theorem dX10_count_58 : decode cX10_count 58 = .ok (.aload_n 0, 1) := by decide +kernel
theorem dX10_count_59 : decode cX10_count 59 = .ok (.getfield 21, 3) := by decide +kernel
theorem dX10_count_62 : decode cX10_count 62 = .ok (.invokevirtual 85, 3) := by decide +kernel
theorem dX10_count_65 : decode cX10_count 65 = .ok (.ireturn, 1) := by decide +kernel
theorem dX10_count_66 : decode cX10_count 66 = .ok (.aload_n 0, 1) := by decide +kernel
theorem dX10_count_67 : decode cX10_count 67 = .ok (.getfield 25, 3) := by decide +kernel
theorem dX10_count_70 : decode cX10_count 70 = .ok (.invokevirtual 85, 3) := by decide +kernel
theorem dX10_count_73 : decode cX10_count 73 = .ok (.ireturn, 1) := by decide +kernel
theorem dX10_count_74 : decode cX10_count 74 = .ok (.aload_n 0, 1) := by decide +kernel
theorem dX10_count_75 : decode cX10_count 75 = .ok (.getfield 117, 3) := by decide +kernel
theorem dX10_count_78 : decode cX10_count 78 = .ok (.ireturn, 1) := by decide +kernel
theorem dX10_count_79 : decode cX10_count 79 = .ok (.ldc 80, 2) := by decide +kernel
theorem dX10_count_81 : decode cX10_count 81 = .ok (.ireturn, 1) := by decide +kernel
theorem dX10_digest_0 : decode cX10_digest 0 = .ok (.ldc2_w 274, 3) := by decide +kernel
theorem dX10_digest_3 : decode cX10_digest 3 = .ok (.lstore_n 1, 1) := by decide +kernel
theorem dX10_digest_4 : decode cX10_digest 4 = .ok (.iconst 0, 1) := by decide +kernel
theorem dX10_digest_5 : decode cX10_digest 5 = .ok (.istore_n 3, 1) := by decide +kernel
theorem dX10_digest_6 : decode cX10_digest 6 = .ok (.iload_n 3, 1) := by decide +kernel
theorem dX10_digest_7 : decode cX10_digest 7 = .ok (.aload_n 0, 1) := by decide +kernel
theorem dX10_digest_8 : decode cX10_digest 8 = .ok (.getfield 10, 3) := by decide +kernel
theorem dX10_digest_11 : decode cX10_digest 11 = .ok (.invokevirtual 121, 3) := by decide +kernel
theorem dX10_digest_14 : decode cX10_digest 14 = .ok (.if_icmp .ge 16, 3) := by decide +kernel
theorem dX10_digest_17 : decode cX10_digest 17 = .ok (.aload_n 0, 1) := by decide +kernel
theorem dX10_digest_18 : decode cX10_digest 18 = .ok (.lload_n 1, 1) := by decide +kernel
theorem dX10_digest_19 : decode cX10_digest 19 = .ok (.iload_n 3, 1) := by decide +kernel
theorem dX10_digest_20 : decode cX10_digest 20 = .ok (.invokevirtual 276, 3) := by decide +kernel
theorem dX10_digest_23 : decode cX10_digest 23 = .ok (.lstore_n 1, 1) := by decide +kernel
theorem dX10_digest_24 : decode cX10_digest 24 = .ok (.iinc 3 1, 3) := by decide +kernel
theorem dX10_digest_27 : decode cX10_digest 27 = .ok (.goto (-21), 3) := by decide +kernel
theorem dX10_digest_30 : decode cX10_digest 30 = .ok (.iconst 0, 1) := by decide +kernel
theorem dX10_digest_31 : decode cX10_digest 31 = .ok (.istore_n 3, 1) := by decide +kernel
theorem dX10_digest_32 : decode cX10_digest 32 = .ok (.iload_n 3, 1) := by decide +kernel
theorem dX10_digest_33 : decode cX10_digest 33 = .ok (.aload_n 0, 1) := by decide +kernel
theorem dX10_digest_34 : decode cX10_digest 34 = .ok (.getfield 21, 3) := by decide +kernel
theorem dX10_digest_37 : decode cX10_digest 37 = .ok (.invokevirtual 85, 3) := by decide +kernel
theorem dX10_digest_40 : decode cX10_digest 40 = .ok (.if_icmp .ge 25, 3) := by decide +kernel
theorem dX10_digest_43 : decode cX10_digest 43 = .ok (.ldc2_w 280, 3) := by decide +kernel
theorem dX10_digest_46 : decode cX10_digest 46 = .ok (.lload_n 1, 1) := by decide +kernel
theorem dX10_digest_47 : decode cX10_digest 47 = .ok (.lmul, 1) := by decide +kernel
theorem dX10_digest_48 : decode cX10_digest 48 = .ok (.aload_n 0, 1) := by decide +kernel
theorem dX10_digest_49 : decode cX10_digest 49 = .ok (.getfield 21, 3) := by decide +kernel
theorem dX10_digest_52 : decode cX10_digest 52 = .ok (.iload_n 3, 1) := by decide +kernel
theorem dX10_digest_53 : decode cX10_digest 53 = .ok (.invokevirtual 254, 3) := by decide +kernel
theorem dX10_digest_56 : decode cX10_digest 56 = .ok (.i2l, 1) := by decide +kernel
theorem dX10_digest_57 : decode cX10_digest 57 = .ok (.ladd, 1) := by decide +kernel
theorem dX10_digest_58 : decode cX10_digest 58 = .ok (.lstore_n 1, 1) := by decide +kernel
theorem dX10_digest_59 : decode cX10_digest 59 = .ok (.iinc 3 1, 3) := by decide +kernel
theorem dX10_digest_62 : decode cX10_digest 62 = .ok (.goto (-30), 3) := by decide +kernel
theorem dX10_digest_65 : decode cX10_digest 65 = .ok (.iconst 0, 1) := by decide +kernel
theorem dX10_digest_66 : decode cX10_digest 66 = .ok (.istore_n 3, 1) := by decide +kernel
theorem dX10_digest_67 : decode cX10_digest 67 = .ok (.iload_n 3, 1) := by decide +kernel
theorem dX10_digest_68 : decode cX10_digest 68 = .ok (.iconst 2, 1) := by decide +kernel
theorem dX10_digest_69 : decode cX10_digest 69 = .ok (.if_icmp .gt 22, 3) := by decide +kernel
theorem dX10_digest_72 : decode cX10_digest 72 = .ok (.ldc2_w 280, 3) := by decide +kernel
theorem dX10_digest_75 : decode cX10_digest 75 = .ok (.lload_n 1, 1) := by decide +kernel
theorem dX10_digest_76 : decode cX10_digest 76 = .ok (.lmul, 1) := by decide +kernel
theorem dX10_digest_77 : decode cX10_digest 77 = .ok (.aload_n 0, 1) := by decide +kernel
theorem dX10_digest_78 : decode cX10_digest 78 = .ok (.iload_n 3, 1) := by decide +kernel
theorem dX10_digest_79 : decode cX10_digest 79 = .ok (.invokevirtual 282, 3) := by decide +kernel
theorem dX10_digest_82 : decode cX10_digest 82 = .ok (.i2l, 1) := by decide +kernel
theorem dX10_digest_83 : decode cX10_digest 83 = .ok (.ladd, 1) := by decide +kernel
theorem dX10_digest_84 : decode cX10_digest 84 = .ok (.lstore_n 1, 1) := by decide +kernel
theorem dX10_digest_85 : decode cX10_digest 85 = .ok (.iinc 3 1, 3) := by decide +kernel
theorem dX10_digest_88 : decode cX10_digest 88 = .ok (.goto (-21), 3) := by decide +kernel
theorem dX10_digest_91 : decode cX10_digest 91 = .ok (.iconst 0, 1) := by decide +kernel
theorem dX10_digest_92 : decode cX10_digest 92 = .ok (.istore_n 3, 1) := by decide +kernel
theorem dX10_digest_93 : decode cX10_digest 93 = .ok (.iload_n 3, 1) := by decide +kernel
theorem dX10_digest_94 : decode cX10_digest 94 = .ok (.aload_n 0, 1) := by decide +kernel
theorem dX10_digest_95 : decode cX10_digest 95 = .ok (.getfield 25, 3) := by decide +kernel
theorem dX10_digest_98 : decode cX10_digest 98 = .ok (.invokevirtual 85, 3) := by decide +kernel
theorem dX10_digest_101 : decode cX10_digest 101 = .ok (.if_icmp .ge 25, 3) := by decide +kernel
theorem dX10_digest_104 : decode cX10_digest 104 = .ok (.ldc2_w 280, 3) := by decide +kernel
theorem dX10_digest_107 : decode cX10_digest 107 = .ok (.lload_n 1, 1) := by decide +kernel
theorem dX10_digest_108 : decode cX10_digest 108 = .ok (.lmul, 1) := by decide +kernel
theorem dX10_digest_109 : decode cX10_digest 109 = .ok (.aload_n 0, 1) := by decide +kernel
theorem dX10_digest_110 : decode cX10_digest 110 = .ok (.getfield 25, 3) := by decide +kernel
theorem dX10_digest_113 : decode cX10_digest 113 = .ok (.iload_n 3, 1) := by decide +kernel
theorem dX10_digest_114 : decode cX10_digest 114 = .ok (.invokevirtual 254, 3) := by decide +kernel
theorem dX10_digest_117 : decode cX10_digest 117 = .ok (.i2l, 1) := by decide +kernel
theorem dX10_digest_118 : decode cX10_digest 118 = .ok (.ladd, 1) := by decide +kernel
theorem dX10_digest_119 : decode cX10_digest 119 = .ok (.lstore_n 1, 1) := by decide +kernel
theorem dX10_digest_120 : decode cX10_digest 120 = .ok (.iinc 3 1, 3) := by decide +kernel
theorem dX10_digest_123 : decode cX10_digest 123 = .ok (.goto (-30), 3) := by decide +kernel
theorem dX10_digest_126 : decode cX10_digest 126 = .ok (.iconst 0, 1) := by decide +kernel
theorem dX10_digest_127 : decode cX10_digest 127 = .ok (.istore_n 3, 1) := by decide +kernel
theorem dX10_digest_128 : decode cX10_digest 128 = .ok (.iload_n 3, 1) := by decide +kernel
theorem dX10_digest_129 : decode cX10_digest 129 = .ok (.iconst 5, 1) := by decide +kernel
theorem dX10_digest_130 : decode cX10_digest 130 = .ok (.if_icmp .gt 22, 3) := by decide +kernel
theorem dX10_digest_133 : decode cX10_digest 133 = .ok (.ldc2_w 280, 3) := by decide +kernel
theorem dX10_digest_136 : decode cX10_digest 136 = .ok (.lload_n 1, 1) := by decide +kernel
theorem dX10_digest_137 : decode cX10_digest 137 = .ok (.lmul, 1) := by decide +kernel
theorem dX10_digest_138 : decode cX10_digest 138 = .ok (.aload_n 0, 1) := by decide +kernel
theorem dX10_digest_139 : decode cX10_digest 139 = .ok (.iload_n 3, 1) := by decide +kernel
theorem dX10_digest_140 : decode cX10_digest 140 = .ok (.invokevirtual 285, 3) := by decide +kernel
theorem dX10_digest_143 : decode cX10_digest 143 = .ok (.i2l, 1) := by decide +kernel
theorem dX10_digest_144 : decode cX10_digest 144 = .ok (.ladd, 1) := by decide +kernel
theorem dX10_digest_145 : decode cX10_digest 145 = .ok (.lstore_n 1, 1) := by decide +kernel
theorem dX10_digest_146 : decode cX10_digest 146 = .ok (.iinc 3 1, 3) := by decide +kernel
theorem dX10_digest_149 : decode cX10_digest 149 = .ok (.goto (-21), 3) := by decide +kernel
theorem dX10_digest_152 : decode cX10_digest 152 = .ok (.lload_n 1, 1) := by decide +kernel
theorem dX10_digest_153 : decode cX10_digest 153 = .ok (.lreturn, 1) := by decide +kernel
theorem dX10_digestWithRow_0 : decode cX10_digestWithRow 0 = .ok (.lload_n 1, 1) := by decide +kernel
theorem dX10_digestWithRow_1 : decode cX10_digestWithRow 1 = .ok (.lstore 4, 2) := by decide +kernel
theorem dX10_digestWithRow_3 : decode cX10_digestWithRow 3 = .ok (.iconst 0, 1) := by decide +kernel
theorem dX10_digestWithRow_4 : decode cX10_digestWithRow 4 = .ok (.istore 6, 2) := by decide +kernel
theorem dX10_digestWithRow_6 : decode cX10_digestWithRow 6 = .ok (.iload 6, 2) := by decide +kernel
theorem dX10_digestWithRow_8 : decode cX10_digestWithRow 8 = .ok (.iconst 4, 1) := by decide +kernel
theorem dX10_digestWithRow_9 : decode cX10_digestWithRow 9 = .ok (.if_icmp .gt 26, 3) := by decide +kernel
theorem dX10_digestWithRow_12 : decode cX10_digestWithRow 12 = .ok (.ldc2_w 280, 3) := by decide +kernel
theorem dX10_digestWithRow_15 : decode cX10_digestWithRow 15 = .ok (.lload 4, 2) := by decide +kernel
theorem dX10_digestWithRow_17 : decode cX10_digestWithRow 17 = .ok (.lmul, 1) := by decide +kernel
theorem dX10_digestWithRow_18 : decode cX10_digestWithRow 18 = .ok (.aload_n 0, 1) := by decide +kernel
theorem dX10_digestWithRow_19 : decode cX10_digestWithRow 19 = .ok (.iload_n 3, 1) := by decide +kernel
theorem dX10_digestWithRow_20 : decode cX10_digestWithRow 20 = .ok (.iload 6, 2) := by decide +kernel
theorem dX10_digestWithRow_22 : decode cX10_digestWithRow 22 = .ok (.invokevirtual 288, 3) := by decide +kernel
theorem dX10_digestWithRow_25 : decode cX10_digestWithRow 25 = .ok (.i2l, 1) := by decide +kernel
theorem dX10_digestWithRow_26 : decode cX10_digestWithRow 26 = .ok (.ladd, 1) := by decide +kernel
theorem dX10_digestWithRow_27 : decode cX10_digestWithRow 27 = .ok (.lstore 4, 2) := by decide +kernel
theorem dX10_digestWithRow_29 : decode cX10_digestWithRow 29 = .ok (.iinc 6 1, 3) := by decide +kernel
theorem dX10_digestWithRow_32 : decode cX10_digestWithRow 32 = .ok (.goto (-26), 3) := by decide +kernel
theorem dX10_digestWithRow_35 : decode cX10_digestWithRow 35 = .ok (.iconst 0, 1) := by decide +kernel
theorem dX10_digestWithRow_36 : decode cX10_digestWithRow 36 = .ok (.istore 6, 2) := by decide +kernel
theorem dX10_digestWithRow_38 : decode cX10_digestWithRow 38 = .ok (.iload 6, 2) := by decide +kernel
theorem dX10_digestWithRow_40 : decode cX10_digestWithRow 40 = .ok (.bipush 7, 2) := by decide +kernel
theorem dX10_digestWithRow_42 : decode cX10_digestWithRow 42 = .ok (.if_icmp .gt 26, 3) := by decide +kernel
theorem dX10_digestWithRow_45 : decode cX10_digestWithRow 45 = .ok (.ldc2_w 280, 3) := by decide +kernel
theorem dX10_digestWithRow_48 : decode cX10_digestWithRow 48 = .ok (.lload 4, 2) := by decide +kernel
theorem dX10_digestWithRow_50 : decode cX10_digestWithRow 50 = .ok (.lmul, 1) := by decide +kernel
theorem dX10_digestWithRow_51 : decode cX10_digestWithRow 51 = .ok (.aload_n 0, 1) := by decide +kernel
theorem dX10_digestWithRow_52 : decode cX10_digestWithRow 52 = .ok (.iload_n 3, 1) := by decide +kernel
theorem dX10_digestWithRow_53 : decode cX10_digestWithRow 53 = .ok (.iload 6, 2) := by decide +kernel
theorem dX10_digestWithRow_55 : decode cX10_digestWithRow 55 = .ok (.invokevirtual 291, 3) := by decide +kernel
theorem dX10_digestWithRow_58 : decode cX10_digestWithRow 58 = .ok (.i2l, 1) := by decide +kernel
theorem dX10_digestWithRow_59 : decode cX10_digestWithRow 59 = .ok (.ladd, 1) := by decide +kernel
theorem dX10_digestWithRow_60 : decode cX10_digestWithRow 60 = .ok (.lstore 4, 2) := by decide +kernel
theorem dX10_digestWithRow_62 : decode cX10_digestWithRow 62 = .ok (.iinc 6 1, 3) := by decide +kernel
theorem dX10_digestWithRow_65 : decode cX10_digestWithRow 65 = .ok (.goto (-27), 3) := by decide +kernel
theorem dX10_digestWithRow_68 : decode cX10_digestWithRow 68 = .ok (.ldc2_w 280, 3) := by decide +kernel
theorem dX10_digestWithRow_71 : decode cX10_digestWithRow 71 = .ok (.lload 4, 2) := by decide +kernel
theorem dX10_digestWithRow_73 : decode cX10_digestWithRow 73 = .ok (.lmul, 1) := by decide +kernel
theorem dX10_digestWithRow_74 : decode cX10_digestWithRow 74 = .ok (.aload_n 0, 1) := by decide +kernel
theorem dX10_digestWithRow_75 : decode cX10_digestWithRow 75 = .ok (.iload_n 3, 1) := by decide +kernel
theorem dX10_digestWithRow_76 : decode cX10_digestWithRow 76 = .ok (.ldc_w 294, 3) := by decide +kernel
theorem dX10_digestWithRow_79 : decode cX10_digestWithRow 79 = .ok (.bipush 7, 2) := by decide +kernel
theorem dX10_digestWithRow_81 : decode cX10_digestWithRow 81 = .ok (.invokevirtual 295, 3) := by decide +kernel
theorem dX10_digestWithRow_84 : decode cX10_digestWithRow 84 = .ok (.i2l, 1) := by decide +kernel
theorem dX10_digestWithRow_85 : decode cX10_digestWithRow 85 = .ok (.ladd, 1) := by decide +kernel
theorem dX10_digestWithRow_86 : decode cX10_digestWithRow 86 = .ok (.lstore 4, 2) := by decide +kernel
theorem dX10_digestWithRow_88 : decode cX10_digestWithRow 88 = .ok (.iconst 0, 1) := by decide +kernel
theorem dX10_digestWithRow_89 : decode cX10_digestWithRow 89 = .ok (.istore 6, 2) := by decide +kernel
theorem dX10_digestWithRow_91 : decode cX10_digestWithRow 91 = .ok (.iload 6, 2) := by decide +kernel
theorem dX10_digestWithRow_93 : decode cX10_digestWithRow 93 = .ok (.iconst 2, 1) := by decide +kernel
theorem dX10_digestWithRow_94 : decode cX10_digestWithRow 94 = .ok (.if_icmp .gt 27, 3) := by decide +kernel
theorem dX10_digestWithRow_97 : decode cX10_digestWithRow 97 = .ok (.ldc2_w 280, 3) := by decide +kernel
theorem dX10_digestWithRow_100 : decode cX10_digestWithRow 100 = .ok (.lload 4, 2) := by decide +kernel
theorem dX10_digestWithRow_102 : decode cX10_digestWithRow 102 = .ok (.lmul, 1) := by decide +kernel
theorem dX10_digestWithRow_103 : decode cX10_digestWithRow 103 = .ok (.aload_n 0, 1) := by decide +kernel
theorem dX10_digestWithRow_104 : decode cX10_digestWithRow 104 = .ok (.iload_n 3, 1) := by decide +kernel
theorem dX10_digestWithRow_105 : decode cX10_digestWithRow 105 = .ok (.iconst 5, 1) := by decide +kernel
theorem dX10_digestWithRow_106 : decode cX10_digestWithRow 106 = .ok (.iload 6, 2) := by decide +kernel
theorem dX10_digestWithRow_108 : decode cX10_digestWithRow 108 = .ok (.invokevirtual 205, 3) := by decide +kernel
theorem dX10_digestWithRow_111 : decode cX10_digestWithRow 111 = .ok (.i2l, 1) := by decide +kernel
theorem dX10_digestWithRow_112 : decode cX10_digestWithRow 112 = .ok (.ladd, 1) := by decide +kernel
theorem dX10_digestWithRow_113 : decode cX10_digestWithRow 113 = .ok (.lstore 4, 2) := by decide +kernel
theorem dX10_digestWithRow_115 : decode cX10_digestWithRow 115 = .ok (.iinc 6 1, 3) := by decide +kernel
theorem dX10_digestWithRow_118 : decode cX10_digestWithRow 118 = .ok (.goto (-27), 3) := by decide +kernel
theorem dX10_digestWithRow_121 : decode cX10_digestWithRow 121 = .ok (.ldc2_w 280, 3) := by decide +kernel
theorem dX10_digestWithRow_124 : decode cX10_digestWithRow 124 = .ok (.lload 4, 2) := by decide +kernel
theorem dX10_digestWithRow_126 : decode cX10_digestWithRow 126 = .ok (.lmul, 1) := by decide +kernel
theorem dX10_digestWithRow_127 : decode cX10_digestWithRow 127 = .ok (.aload_n 0, 1) := by decide +kernel
theorem dX10_digestWithRow_128 : decode cX10_digestWithRow 128 = .ok (.iload_n 3, 1) := by decide +kernel
theorem dX10_digestWithRow_129 : decode cX10_digestWithRow 129 = .ok (.invokevirtual 298, 3) := by decide +kernel
theorem dX10_digestWithRow_132 : decode cX10_digestWithRow 132 = .ok (.i2l, 1) := by decide +kernel
theorem dX10_digestWithRow_133 : decode cX10_digestWithRow 133 = .ok (.ladd, 1) := by decide +kernel
theorem dX10_digestWithRow_134 : decode cX10_digestWithRow 134 = .ok (.lreturn, 1) := by decide +kernel
theorem dX10_added_0 : decode cX10_added 0 = .ok (.aload_n 0, 1) := by decide +kernel
theorem dX10_added_1 : decode cX10_added 1 = .ok (.getfield 10, 3) := by decide +kernel
theorem dX10_added_4 : decode cX10_added 4 = .ok (.iload_n 1, 1) := by decide +kernel
theorem dX10_added_5 : decode cX10_added 5 = .ok (.iload_n 2, 1) := by decide +kernel
theorem dX10_added_6 : decode cX10_added 6 = .ok (.iload_n 3, 1) := by decide +kernel
theorem dX10_added_7 : decode cX10_added 7 = .ok (.iload 4, 2) := by decide +kernel
theorem dX10_added_9 : decode cX10_added 9 = .ok (.iload 5, 2) := by decide +kernel
theorem dX10_added_11 : decode cX10_added 11 = .ok (.invokevirtual 301, 3) := by decide +kernel
theorem dX10_added_14 : decode cX10_added 14 = .ok (.ifCond .eq 15, 3) := by decide +kernel
theorem dX10_added_17 : decode cX10_added 17 = .ok (.aload_n 0, 1) := by decide +kernel
theorem dX10_added_18 : decode cX10_added 18 = .ok (.getfield 10, 3) := by decide +kernel
theorem dX10_added_21 : decode cX10_added 21 = .ok (.invokevirtual 121, 3) := by decide +kernel
theorem dX10_added_24 : decode cX10_added 24 = .ok (.iconst 1, 1) := by decide +kernel
theorem dX10_added_25 : decode cX10_added 25 = .ok (.isub, 1) := by decide +kernel
theorem dX10_added_26 : decode cX10_added 26 = .ok (.goto 5, 3) := by decide +kernel
theorem dX10_added_29 : decode cX10_added 29 = .ok (.ldc 89, 2) := by decide +kernel
theorem dX10_added_31 : decode cX10_added 31 = .ok (.ireturn, 1) := by decide +kernel
theorem dX10_changedFrom_0 : decode cX10_changedFrom 0 = .ok (.aload_n 0, 1) := by decide +kernel
theorem dX10_changedFrom_1 : decode cX10_changedFrom 1 = .ok (.getfield 45, 3) := by decide +kernel
theorem dX10_changedFrom_4 : decode cX10_changedFrom 4 = .ok (.iload_n 1, 1) := by decide +kernel
theorem dX10_changedFrom_5 : decode cX10_changedFrom 5 = .ok (.invokevirtual 304, 3) := by decide +kernel
theorem dX10_changedFrom_8 : decode cX10_changedFrom 8 = .ok (.aload_n 0, 1) := by decide +kernel
theorem dX10_changedFrom_9 : decode cX10_changedFrom 9 = .ok (.getfield 52, 3) := by decide +kernel
theorem dX10_changedFrom_12 : decode cX10_changedFrom 12 = .ok (.iload_n 1, 1) := by decide +kernel
theorem dX10_changedFrom_13 : decode cX10_changedFrom 13 = .ok (.invokevirtual 307, 3) := by decide +kernel
theorem dX10_changedFrom_16 : decode cX10_changedFrom 16 = .ok (.return_, 1) := by decide +kernel
theorem dX10_isOpenAt_0 : decode cX10_isOpenAt 0 = .ok (.aload_n 0, 1) := by decide +kernel
theorem dX10_isOpenAt_1 : decode cX10_isOpenAt 1 = .ok (.iload_n 1, 1) := by decide +kernel
theorem dX10_isOpenAt_2 : decode cX10_isOpenAt 2 = .ok (.iload_n 2, 1) := by decide +kernel
theorem dX10_isOpenAt_3 : decode cX10_isOpenAt 3 = .ok (.bipush 7, 2) := by decide +kernel
theorem dX10_isOpenAt_5 : decode cX10_isOpenAt 5 = .ok (.invokevirtual 308, 3) := by decide +kernel
theorem dX10_isOpenAt_8 : decode cX10_isOpenAt 8 = .ok (.ifCond .eq 39, 3) := by decide +kernel
theorem dX10_isOpenAt_11 : decode cX10_isOpenAt 11 = .ok (.aload_n 0, 1) := by decide +kernel
theorem dX10_isOpenAt_12 : decode cX10_isOpenAt 12 = .ok (.iload_n 1, 1) := by decide +kernel
theorem dX10_isOpenAt_13 : decode cX10_isOpenAt 13 = .ok (.iload_n 2, 1) := by decide +kernel
theorem dX10_isOpenAt_14 : decode cX10_isOpenAt 14 = .ok (.bipush 9, 2) := by decide +kernel
theorem dX10_isOpenAt_16 : decode cX10_isOpenAt 16 = .ok (.invokevirtual 308, 3) := by decide +kernel
theorem dX10_isOpenAt_19 : decode cX10_isOpenAt 19 = .ok (.ifCond .eq 28, 3) := by decide +kernel
theorem dX10_isOpenAt_22 : decode cX10_isOpenAt 22 = .ok (.aload_n 0, 1) := by decide +kernel
theorem dX10_isOpenAt_23 : decode cX10_isOpenAt 23 = .ok (.iload_n 1, 1) := by decide +kernel
theorem dX10_isOpenAt_24 : decode cX10_isOpenAt 24 = .ok (.iload_n 2, 1) := by decide +kernel
theorem dX10_isOpenAt_25 : decode cX10_isOpenAt 25 = .ok (.bipush 8, 2) := by decide +kernel
theorem dX10_isOpenAt_27 : decode cX10_isOpenAt 27 = .ok (.invokevirtual 308, 3) := by decide +kernel
theorem dX10_isOpenAt_30 : decode cX10_isOpenAt 30 = .ok (.ifCond .eq 17, 3) := by decide +kernel
theorem dX10_isOpenAt_33 : decode cX10_isOpenAt 33 = .ok (.aload_n 0, 1) := by decide +kernel
theorem dX10_isOpenAt_34 : decode cX10_isOpenAt 34 = .ok (.iload_n 1, 1) := by decide +kernel
theorem dX10_isOpenAt_35 : decode cX10_isOpenAt 35 = .ok (.iload_n 2, 1) := by decide +kernel
theorem dX10_isOpenAt_36 : decode cX10_isOpenAt 36 = .ok (.iconst 5, 1) := by decide +kernel
theorem dX10_isOpenAt_37 : decode cX10_isOpenAt 37 = .ok (.invokevirtual 308, 3) := by decide +kernel
theorem dX10_isOpenAt_40 : decode cX10_isOpenAt 40 = .ok (.ifCond .eq 7, 3) := by decide +kernel
theorem dX10_isOpenAt_43 : decode cX10_isOpenAt 43 = .ok (.iconst 1, 1) := by decide +kernel
theorem dX10_isOpenAt_44 : decode cX10_isOpenAt 44 = .ok (.goto 4, 3) := by decide +kernel
theorem dX10_isOpenAt_47 : decode cX10_isOpenAt 47 = .ok (.iconst 0, 1) := by decide +kernel
theorem dX10_isOpenAt_48 : decode cX10_isOpenAt 48 = .ok (.ireturn, 1) := by decide +kernel
theorem dX10_hasRemainderNought_0 : decode cX10_hasRemainderNought 0 = .ok (.aload_n 0, 1) := by decide +kernel
theorem dX10_hasRemainderNought_1 : decode cX10_hasRemainderNought 1 = .ok (.getfield 52, 3) := by decide +kernel
theorem dX10_hasRemainderNought_4 : decode cX10_hasRemainderNought 4 = .ok (.aload_n 0, 1) := by decide +kernel
theorem dX10_hasRemainderNought_5 : decode cX10_hasRemainderNought 5 = .ok (.getfield 10, 3) := by decide +kernel
theorem dX10_hasRemainderNought_8 : decode cX10_hasRemainderNought 8 = .ok (.iload_n 1, 1) := by decide +kernel
theorem dX10_hasRemainderNought_9 : decode cX10_hasRemainderNought 9 = .ok (.iload_n 3, 1) := by decide +kernel
theorem dX10_hasRemainderNought_10 : decode cX10_hasRemainderNought 10 = .ok (.invokevirtual 148, 3) := by decide +kernel
theorem dX10_hasRemainderNought_13 : decode cX10_hasRemainderNought 13 = .ok (.iload_n 2, 1) := by decide +kernel
theorem dX10_hasRemainderNought_14 : decode cX10_hasRemainderNought 14 = .ok (.invokevirtual 152, 3) := by decide +kernel
theorem dX10_hasRemainderNought_17 : decode cX10_hasRemainderNought 17 = .ok (.ifCond .ne 7, 3) := by decide +kernel
theorem dX10_hasRemainderNought_20 : decode cX10_hasRemainderNought 20 = .ok (.iconst 1, 1) := by decide +kernel
theorem dX10_hasRemainderNought_21 : decode cX10_hasRemainderNought 21 = .ok (.goto 4, 3) := by decide +kernel
theorem dX10_hasRemainderNought_24 : decode cX10_hasRemainderNought 24 = .ok (.iconst 0, 1) := by decide +kernel
theorem dX10_hasRemainderNought_25 : decode cX10_hasRemainderNought 25 = .ok (.ireturn, 1) := by decide +kernel
theorem dX10_isEasy_0 : decode cX10_isEasy 0 = .ok (.aload_n 0, 1) := by decide +kernel
theorem dX10_isEasy_1 : decode cX10_isEasy 1 = .ok (.getfield 10, 3) := by decide +kernel
theorem dX10_isEasy_4 : decode cX10_isEasy 4 = .ok (.iload_n 1, 1) := by decide +kernel
theorem dX10_isEasy_5 : decode cX10_isEasy 5 = .ok (.invokevirtual 126, 3) := by decide +kernel
theorem dX10_isEasy_8 : decode cX10_isEasy 8 = .ok (.istore_n 2, 1) := by decide +kernel
theorem dX10_isEasy_9 : decode cX10_isEasy 9 = .ok (.iload_n 2, 1) := by decide +kernel
theorem dX10_isEasy_10 : decode cX10_isEasy 10 = .ok (.ifCond .eq 14, 3) := by decide +kernel
theorem dX10_isEasy_13 : decode cX10_isEasy 13 = .ok (.aload_n 0, 1) := by decide +kernel
theorem dX10_isEasy_14 : decode cX10_isEasy 14 = .ok (.getfield 10, 3) := by decide +kernel
theorem dX10_isEasy_17 : decode cX10_isEasy 17 = .ok (.iload_n 1, 1) := by decide +kernel
theorem dX10_isEasy_18 : decode cX10_isEasy 18 = .ok (.invokestatic 176, 3) := by decide +kernel
theorem dX10_isEasy_21 : decode cX10_isEasy 21 = .ok (.ifCond .ne 5, 3) := by decide +kernel
theorem dX10_isEasy_24 : decode cX10_isEasy 24 = .ok (.iconst 0, 1) := by decide +kernel
theorem dX10_isEasy_25 : decode cX10_isEasy 25 = .ok (.ireturn, 1) := by decide +kernel
theorem dX10_isEasy_26 : decode cX10_isEasy 26 = .ok (.iload_n 2, 1) := by decide +kernel
theorem dX10_isEasy_27 : decode cX10_isEasy 27 = .ok (.iconst 1, 1) := by decide +kernel
theorem dX10_isEasy_28 : decode cX10_isEasy 28 = .ok (.if_icmp .ne 43, 3) := by decide +kernel
theorem dX10_isEasy_31 : decode cX10_isEasy 31 = .ok (.aload_n 0, 1) := by decide +kernel
theorem dX10_isEasy_32 : decode cX10_isEasy 32 = .ok (.iload_n 1, 1) := by decide +kernel
theorem dX10_isEasy_33 : decode cX10_isEasy 33 = .ok (.iconst 0, 1) := by decide +kernel
theorem dX10_isEasy_34 : decode cX10_isEasy 34 = .ok (.iconst 0, 1) := by decide +kernel
theorem dX10_isEasy_35 : decode cX10_isEasy 35 = .ok (.invokevirtual 235, 3) := by decide +kernel
theorem dX10_isEasy_38 : decode cX10_isEasy 38 = .ok (.aload_n 0, 1) := by decide +kernel
theorem dX10_isEasy_39 : decode cX10_isEasy 39 = .ok (.iload_n 1, 1) := by decide +kernel
theorem dX10_isEasy_40 : decode cX10_isEasy 40 = .ok (.iconst 1, 1) := by decide +kernel
theorem dX10_isEasy_41 : decode cX10_isEasy 41 = .ok (.iconst 0, 1) := by decide +kernel
theorem dX10_isEasy_42 : decode cX10_isEasy 42 = .ok (.invokevirtual 235, 3) := by decide +kernel
theorem dX10_isEasy_45 : decode cX10_isEasy 45 = .ok (.if_icmp .ne 24, 3) := by decide +kernel
theorem dX10_isEasy_48 : decode cX10_isEasy 48 = .ok (.aload_n 0, 1) := by decide +kernel
theorem dX10_isEasy_49 : decode cX10_isEasy 49 = .ok (.iload_n 1, 1) := by decide +kernel
theorem dX10_isEasy_50 : decode cX10_isEasy 50 = .ok (.iconst 0, 1) := by decide +kernel
theorem dX10_isEasy_51 : decode cX10_isEasy 51 = .ok (.iconst 1, 1) := by decide +kernel
theorem dX10_isEasy_52 : decode cX10_isEasy 52 = .ok (.invokevirtual 235, 3) := by decide +kernel
theorem dX10_isEasy_55 : decode cX10_isEasy 55 = .ok (.aload_n 0, 1) := by decide +kernel
theorem dX10_isEasy_56 : decode cX10_isEasy 56 = .ok (.iload_n 1, 1) := by decide +kernel
theorem dX10_isEasy_57 : decode cX10_isEasy 57 = .ok (.iconst 1, 1) := by decide +kernel
theorem dX10_isEasy_58 : decode cX10_isEasy 58 = .ok (.iconst 1, 1) := by decide +kernel
theorem dX10_isEasy_59 : decode cX10_isEasy 59 = .ok (.invokevirtual 235, 3) := by decide +kernel
theorem dX10_isEasy_62 : decode cX10_isEasy 62 = .ok (.if_icmp .ne 7, 3) := by decide +kernel
theorem dX10_isEasy_65 : decode cX10_isEasy 65 = .ok (.iconst 1, 1) := by decide +kernel
theorem dX10_isEasy_66 : decode cX10_isEasy 66 = .ok (.goto 4, 3) := by decide +kernel
theorem dX10_isEasy_69 : decode cX10_isEasy 69 = .ok (.iconst 0, 1) := by decide +kernel
theorem dX10_isEasy_70 : decode cX10_isEasy 70 = .ok (.ireturn, 1) := by decide +kernel
theorem dX10_isEasy_71 : decode cX10_isEasy 71 = .ok (.iload_n 2, 1) := by decide +kernel
theorem dX10_isEasy_72 : decode cX10_isEasy 72 = .ok (.iconst 2, 1) := by decide +kernel
theorem dX10_isEasy_73 : decode cX10_isEasy 73 = .ok (.if_icmp .ne 21, 3) := by decide +kernel
theorem dX10_isEasy_76 : decode cX10_isEasy 76 = .ok (.aload_n 0, 1) := by decide +kernel
theorem dX10_isEasy_77 : decode cX10_isEasy 77 = .ok (.iload_n 1, 1) := by decide +kernel
theorem dX10_isEasy_78 : decode cX10_isEasy 78 = .ok (.iconst 0, 1) := by decide +kernel
theorem dX10_isEasy_79 : decode cX10_isEasy 79 = .ok (.invokevirtual 311, 3) := by decide +kernel
theorem dX10_isEasy_82 : decode cX10_isEasy 82 = .ok (.ifCond .ne 12, 3) := by decide +kernel
theorem dX10_isEasy_85 : decode cX10_isEasy 85 = .ok (.aload_n 0, 1) := by decide +kernel
theorem dX10_isEasy_86 : decode cX10_isEasy 86 = .ok (.iload_n 1, 1) := by decide +kernel
theorem dX10_isEasy_87 : decode cX10_isEasy 87 = .ok (.iconst 1, 1) := by decide +kernel
theorem dX10_isEasy_88 : decode cX10_isEasy 88 = .ok (.invokevirtual 311, 3) := by decide +kernel
theorem dX10_isEasy_91 : decode cX10_isEasy 91 = .ok (.ifCond .eq 7, 3) := by decide +kernel
theorem dX10_isEasy_94 : decode cX10_isEasy 94 = .ok (.iconst 1, 1) := by decide +kernel
theorem dX10_isEasy_95 : decode cX10_isEasy 95 = .ok (.goto 4, 3) := by decide +kernel
theorem dX10_isEasy_98 : decode cX10_isEasy 98 = .ok (.iconst 0, 1) := by decide +kernel
theorem dX10_isEasy_99 : decode cX10_isEasy 99 = .ok (.ireturn, 1) := by decide +kernel
theorem dX10_isPartOfPowers_0 : decode cX10_isPartOfPowers 0 = .ok (.aload_n 0, 1) := by decide +kernel
theorem dX10_isPartOfPowers_1 : decode cX10_isPartOfPowers 1 = .ok (.iload_n 1, 1) := by decide +kernel
theorem dX10_isPartOfPowers_2 : decode cX10_isPartOfPowers 2 = .ok (.iload_n 2, 1) := by decide +kernel
theorem dX10_isPartOfPowers_3 : decode cX10_isPartOfPowers 3 = .ok (.iconst 1, 1) := by decide +kernel
theorem dX10_isPartOfPowers_4 : decode cX10_isPartOfPowers 4 = .ok (.invokevirtual 235, 3) := by decide +kernel
theorem dX10_isPartOfPowers_7 : decode cX10_isPartOfPowers 7 = .ok (.ifCond .ne 32, 3) := by decide +kernel
theorem dX10_isPartOfPowers_10 : decode cX10_isPartOfPowers 10 = .ok (.aload_n 0, 1) := by decide +kernel
theorem dX10_isPartOfPowers_11 : decode cX10_isPartOfPowers 11 = .ok (.iload_n 1, 1) := by decide +kernel
theorem dX10_isPartOfPowers_12 : decode cX10_isPartOfPowers 12 = .ok (.iload_n 2, 1) := by decide +kernel
theorem dX10_isPartOfPowers_13 : decode cX10_isPartOfPowers 13 = .ok (.iconst 3, 1) := by decide +kernel
theorem dX10_isPartOfPowers_14 : decode cX10_isPartOfPowers 14 = .ok (.invokevirtual 235, 3) := by decide +kernel
theorem dX10_isPartOfPowers_17 : decode cX10_isPartOfPowers 17 = .ok (.aload_n 0, 1) := by decide +kernel
theorem dX10_isPartOfPowers_18 : decode cX10_isPartOfPowers 18 = .ok (.iload_n 1, 1) := by decide +kernel
theorem dX10_isPartOfPowers_19 : decode cX10_isPartOfPowers 19 = .ok (.iload_n 2, 1) := by decide +kernel
theorem dX10_isPartOfPowers_20 : decode cX10_isPartOfPowers 20 = .ok (.iconst 0, 1) := by decide +kernel
theorem dX10_isPartOfPowers_21 : decode cX10_isPartOfPowers 21 = .ok (.invokevirtual 235, 3) := by decide +kernel
theorem dX10_isPartOfPowers_24 : decode cX10_isPartOfPowers 24 = .ok (.aload_n 0, 1) := by decide +kernel
theorem dX10_isPartOfPowers_25 : decode cX10_isPartOfPowers 25 = .ok (.iload_n 1, 1) := by decide +kernel
theorem dX10_isPartOfPowers_26 : decode cX10_isPartOfPowers 26 = .ok (.iload_n 2, 1) := by decide +kernel
theorem dX10_isPartOfPowers_27 : decode cX10_isPartOfPowers 27 = .ok (.iconst 2, 1) := by decide +kernel
theorem dX10_isPartOfPowers_28 : decode cX10_isPartOfPowers 28 = .ok (.invokevirtual 235, 3) := by decide +kernel
theorem dX10_isPartOfPowers_31 : decode cX10_isPartOfPowers 31 = .ok (.imul, 1) := by decide +kernel
theorem dX10_isPartOfPowers_32 : decode cX10_isPartOfPowers 32 = .ok (.if_icmp .ne 7, 3) := by decide +kernel
theorem dX10_isPartOfPowers_35 : decode cX10_isPartOfPowers 35 = .ok (.iconst 1, 1) := by decide +kernel
theorem dX10_isPartOfPowers_36 : decode cX10_isPartOfPowers 36 = .ok (.goto 4, 3) := by decide +kernel
theorem dX10_isPartOfPowers_39 : decode cX10_isPartOfPowers 39 = .ok (.iconst 0, 1) := by decide +kernel
theorem dX10_isPartOfPowers_40 : decode cX10_isPartOfPowers 40 = .ok (.ireturn, 1) := by decide +kernel
theorem dX10_numberOfPart_0 : decode cX10_numberOfPart 0 = .ok (.aload_n 0, 1) := by decide +kernel
theorem dX10_numberOfPart_1 : decode cX10_numberOfPart 1 = .ok (.getfield 10, 3) := by decide +kernel
theorem dX10_numberOfPart_4 : decode cX10_numberOfPart 4 = .ok (.aload_n 0, 1) := by decide +kernel
theorem dX10_numberOfPart_5 : decode cX10_numberOfPart 5 = .ok (.getfield 10, 3) := by decide +kernel
theorem dX10_numberOfPart_8 : decode cX10_numberOfPart 8 = .ok (.iload_n 1, 1) := by decide +kernel
theorem dX10_numberOfPart_9 : decode cX10_numberOfPart 9 = .ok (.iload_n 2, 1) := by decide +kernel
theorem dX10_numberOfPart_10 : decode cX10_numberOfPart 10 = .ok (.invokevirtual 133, 3) := by decide +kernel
theorem dX10_numberOfPart_13 : decode cX10_numberOfPart 13 = .ok (.iload_n 3, 1) := by decide +kernel
theorem dX10_numberOfPart_14 : decode cX10_numberOfPart 14 = .ok (.invokevirtual 133, 3) := by decide +kernel
theorem dX10_numberOfPart_17 : decode cX10_numberOfPart 17 = .ok (.ireturn, 1) := by decide +kernel
theorem dX10_toldRows_0 : decode cX10_toldRows 0 = .ok (.iconst 0, 1) := by decide +kernel
theorem dX10_toldRows_1 : decode cX10_toldRows 1 = .ok (.istore_n 1, 1) := by decide +kernel
theorem dX10_toldRows_2 : decode cX10_toldRows 2 = .ok (.iconst 0, 1) := by decide +kernel
theorem dX10_toldRows_3 : decode cX10_toldRows 3 = .ok (.istore_n 2, 1) := by decide +kernel
theorem dX10_toldRows_4 : decode cX10_toldRows 4 = .ok (.iload_n 2, 1) := by decide +kernel
theorem dX10_toldRows_5 : decode cX10_toldRows 5 = .ok (.aload_n 0, 1) := by decide +kernel
theorem dX10_toldRows_6 : decode cX10_toldRows 6 = .ok (.getfield 10, 3) := by decide +kernel
theorem dX10_toldRows_9 : decode cX10_toldRows 9 = .ok (.invokevirtual 121, 3) := by decide +kernel
theorem dX10_toldRows_12 : decode cX10_toldRows 12 = .ok (.if_icmp .ge 23, 3) := by decide +kernel
theorem dX10_toldRows_15 : decode cX10_toldRows 15 = .ok (.aload_n 0, 1) := by decide +kernel
theorem dX10_toldRows_16 : decode cX10_toldRows 16 = .ok (.getfield 10, 3) := by decide +kernel
theorem dX10_toldRows_19 : decode cX10_toldRows 19 = .ok (.iload_n 2, 1) := by decide +kernel
theorem dX10_toldRows_20 : decode cX10_toldRows 20 = .ok (.invokevirtual 185, 3) := by decide +kernel
theorem dX10_toldRows_23 : decode cX10_toldRows 23 = .ok (.ifCond .eq 6, 3) := by decide +kernel
theorem dX10_toldRows_26 : decode cX10_toldRows 26 = .ok (.iinc 1 1, 3) := by decide +kernel
theorem dX10_toldRows_29 : decode cX10_toldRows 29 = .ok (.iinc 2 1, 3) := by decide +kernel
theorem dX10_toldRows_32 : decode cX10_toldRows 32 = .ok (.goto (-28), 3) := by decide +kernel
theorem dX10_toldRows_35 : decode cX10_toldRows 35 = .ok (.iload_n 1, 1) := by decide +kernel
theorem dX10_toldRows_36 : decode cX10_toldRows 36 = .ok (.ireturn, 1) := by decide +kernel
theorem dX10_degenerateRows_0 : decode cX10_degenerateRows 0 = .ok (.iconst 0, 1) := by decide +kernel
theorem dX10_degenerateRows_1 : decode cX10_degenerateRows 1 = .ok (.istore_n 1, 1) := by decide +kernel
theorem dX10_degenerateRows_2 : decode cX10_degenerateRows 2 = .ok (.iconst 0, 1) := by decide +kernel
theorem dX10_degenerateRows_3 : decode cX10_degenerateRows 3 = .ok (.istore_n 2, 1) := by decide +kernel
theorem dX10_degenerateRows_4 : decode cX10_degenerateRows 4 = .ok (.iload_n 2, 1) := by decide +kernel
theorem dX10_degenerateRows_5 : decode cX10_degenerateRows 5 = .ok (.aload_n 0, 1) := by decide +kernel
theorem dX10_degenerateRows_6 : decode cX10_degenerateRows 6 = .ok (.getfield 10, 3) := by decide +kernel
theorem dX10_degenerateRows_9 : decode cX10_degenerateRows 9 = .ok (.invokevirtual 121, 3) := by decide +kernel
theorem dX10_degenerateRows_12 : decode cX10_degenerateRows 12 = .ok (.if_icmp .ge 47, 3) := by decide +kernel
theorem dX10_degenerateRows_15 : decode cX10_degenerateRows 15 = .ok (.aload_n 0, 1) := by decide +kernel
theorem dX10_degenerateRows_16 : decode cX10_degenerateRows 16 = .ok (.getfield 10, 3) := by decide +kernel
theorem dX10_degenerateRows_19 : decode cX10_degenerateRows 19 = .ok (.iload_n 2, 1) := by decide +kernel
theorem dX10_degenerateRows_20 : decode cX10_degenerateRows 20 = .ok (.invokevirtual 185, 3) := by decide +kernel
theorem dX10_degenerateRows_23 : decode cX10_degenerateRows 23 = .ok (.ifCond .eq 30, 3) := by decide +kernel
theorem dX10_degenerateRows_26 : decode cX10_degenerateRows 26 = .ok (.aload_n 0, 1) := by decide +kernel
theorem dX10_degenerateRows_27 : decode cX10_degenerateRows 27 = .ok (.getfield 10, 3) := by decide +kernel
theorem dX10_degenerateRows_30 : decode cX10_degenerateRows 30 = .ok (.iload_n 2, 1) := by decide +kernel
theorem dX10_degenerateRows_31 : decode cX10_degenerateRows 31 = .ok (.iconst 0, 1) := by decide +kernel
theorem dX10_degenerateRows_32 : decode cX10_degenerateRows 32 = .ok (.invokevirtual 133, 3) := by decide +kernel
theorem dX10_degenerateRows_35 : decode cX10_degenerateRows 35 = .ok (.aload_n 0, 1) := by decide +kernel
theorem dX10_degenerateRows_36 : decode cX10_degenerateRows 36 = .ok (.getfield 10, 3) := by decide +kernel
theorem dX10_degenerateRows_39 : decode cX10_degenerateRows 39 = .ok (.iload_n 2, 1) := by decide +kernel
theorem dX10_degenerateRows_40 : decode cX10_degenerateRows 40 = .ok (.iconst 1, 1) := by decide +kernel
theorem dX10_degenerateRows_41 : decode cX10_degenerateRows 41 = .ok (.invokevirtual 133, 3) := by decide +kernel
theorem dX10_degenerateRows_44 : decode cX10_degenerateRows 44 = .ok (.invokestatic 199, 3) := by decide +kernel
theorem dX10_degenerateRows_47 : decode cX10_degenerateRows 47 = .ok (.ifCond .eq 6, 3) := by decide +kernel
theorem dX10_degenerateRows_50 : decode cX10_degenerateRows 50 = .ok (.iinc 1 1, 3) := by decide +kernel
theorem dX10_degenerateRows_53 : decode cX10_degenerateRows 53 = .ok (.iinc 2 1, 3) := by decide +kernel
theorem dX10_degenerateRows_56 : decode cX10_degenerateRows 56 = .ok (.goto (-52), 3) := by decide +kernel
theorem dX10_degenerateRows_59 : decode cX10_degenerateRows 59 = .ok (.iload_n 1, 1) := by decide +kernel
theorem dX10_degenerateRows_60 : decode cX10_degenerateRows 60 = .ok (.ireturn, 1) := by decide +kernel
theorem dX10_nextState_0 : decode cX10_nextState 0 = .ok (.ldc2_w 314, 3) := by decide +kernel
theorem dX10_nextState_3 : decode cX10_nextState 3 = .ok (.iload_n 0, 1) := by decide +kernel
theorem dX10_nextState_4 : decode cX10_nextState 4 = .ok (.i2l, 1) := by decide +kernel
theorem dX10_nextState_5 : decode cX10_nextState 5 = .ok (.lmul, 1) := by decide +kernel
theorem dX10_nextState_6 : decode cX10_nextState 6 = .ok (.ldc2_w 316, 3) := by decide +kernel
theorem dX10_nextState_9 : decode cX10_nextState 9 = .ok (.ladd, 1) := by decide +kernel
theorem dX10_nextState_10 : decode cX10_nextState 10 = .ok (.ldc2_w 318, 3) := by decide +kernel
theorem dX10_nextState_13 : decode cX10_nextState 13 = .ok (.land, 1) := by decide +kernel
theorem dX10_nextState_14 : decode cX10_nextState 14 = .ok (.l2i, 1) := by decide +kernel
theorem dX10_nextState_15 : decode cX10_nextState 15 = .ok (.ireturn, 1) := by decide +kernel
theorem dX10_numberDrawnAt_0 : decode cX10_numberDrawnAt 0 = .ok (.iload_n 0, 1) := by decide +kernel
theorem dX10_numberDrawnAt_1 : decode cX10_numberDrawnAt 1 = .ok (.ldc_w 320, 3) := by decide +kernel
theorem dX10_numberDrawnAt_4 : decode cX10_numberDrawnAt 4 = .ok (.idiv, 1) := by decide +kernel
theorem dX10_numberDrawnAt_5 : decode cX10_numberDrawnAt 5 = .ok (.bipush 7, 2) := by decide +kernel
theorem dX10_numberDrawnAt_7 : decode cX10_numberDrawnAt 7 = .ok (.irem, 1) := by decide +kernel
theorem dX10_numberDrawnAt_8 : decode cX10_numberDrawnAt 8 = .ok (.iconst 3, 1) := by decide +kernel
theorem dX10_numberDrawnAt_9 : decode cX10_numberDrawnAt 9 = .ok (.isub, 1) := by decide +kernel
theorem dX10_numberDrawnAt_10 : decode cX10_numberDrawnAt 10 = .ok (.ireturn, 1) := by decide +kernel
theorem dX10_numbersOf_0 : decode cX10_numbersOf 0 = .ok (.iload_n 0, 1) := by decide +kernel
theorem dX10_numbersOf_1 : decode cX10_numbersOf 1 = .ok (.tableswitch 41 0 4 #[35, 41, 41, 37, 39], 35) := by decide +kernel
theorem dX10_numbersOf_36 : decode cX10_numbersOf 36 = .ok (.iconst 4, 1) := by decide +kernel
theorem dX10_numbersOf_37 : decode cX10_numbersOf 37 = .ok (.ireturn, 1) := by decide +kernel
theorem dX10_numbersOf_38 : decode cX10_numbersOf 38 = .ok (.iconst 3, 1) := by decide +kernel
theorem dX10_numbersOf_39 : decode cX10_numbersOf 39 = .ok (.ireturn, 1) := by decide +kernel
theorem dX10_numbersOf_40 : decode cX10_numbersOf 40 = .ok (.iconst 1, 1) := by decide +kernel
theorem dX10_numbersOf_41 : decode cX10_numbersOf 41 = .ok (.ireturn, 1) := by decide +kernel
theorem dX10_numbersOf_42 : decode cX10_numbersOf 42 = .ok (.iconst 2, 1) := by decide +kernel
theorem dX10_numbersOf_43 : decode cX10_numbersOf 43 = .ok (.ireturn, 1) := by decide +kernel
theorem dX10_classAbove_0 : decode cX10_classAbove 0 = .ok (.iload_n 0, 1) := by decide +kernel
theorem dX10_classAbove_1 : decode cX10_classAbove 1 = .ok (.tableswitch 36 1 4 #[31, 31, 33, 33], 31) := by decide +kernel
theorem dX10_classAbove_32 : decode cX10_classAbove 32 = .ok (.iconst 5, 1) := by decide +kernel
theorem dX10_classAbove_33 : decode cX10_classAbove 33 = .ok (.ireturn, 1) := by decide +kernel
theorem dX10_classAbove_34 : decode cX10_classAbove 34 = .ok (.bipush 6, 2) := by decide +kernel
theorem dX10_classAbove_36 : decode cX10_classAbove 36 = .ok (.ireturn, 1) := by decide +kernel
theorem dX10_classAbove_37 : decode cX10_classAbove 37 = .ok (.iload_n 0, 1) := by decide +kernel
theorem dX10_classAbove_38 : decode cX10_classAbove 38 = .ok (.ireturn, 1) := by decide +kernel
theorem dX10_isTellable_0 : decode cX10_isTellable 0 = .ok (.iload_n 0, 1) := by decide +kernel
theorem dX10_isTellable_1 : decode cX10_isTellable 1 = .ok (.bipush (-9), 2) := by decide +kernel
theorem dX10_isTellable_3 : decode cX10_isTellable 3 = .ok (.bipush 9, 2) := by decide +kernel
theorem dX10_isTellable_5 : decode cX10_isTellable 5 = .ok (.invokestatic 76, 3) := by decide +kernel
theorem dX10_isTellable_8 : decode cX10_isTellable 8 = .ok (.ifCond .eq 44, 3) := by decide +kernel
theorem dX10_isTellable_11 : decode cX10_isTellable 11 = .ok (.iload_n 1, 1) := by decide +kernel
theorem dX10_isTellable_12 : decode cX10_isTellable 12 = .ok (.bipush (-9), 2) := by decide +kernel
theorem dX10_isTellable_14 : decode cX10_isTellable 14 = .ok (.bipush 9, 2) := by decide +kernel
theorem dX10_isTellable_16 : decode cX10_isTellable 16 = .ok (.invokestatic 76, 3) := by decide +kernel
theorem dX10_isTellable_19 : decode cX10_isTellable 19 = .ok (.ifCond .eq 33, 3) := by decide +kernel
theorem dX10_isTellable_22 : decode cX10_isTellable 22 = .ok (.iload_n 2, 1) := by decide +kernel
theorem dX10_isTellable_23 : decode cX10_isTellable 23 = .ok (.sipush (-999), 3) := by decide +kernel
theorem dX10_isTellable_26 : decode cX10_isTellable 26 = .ok (.sipush 999, 3) := by decide +kernel
theorem dX10_isTellable_29 : decode cX10_isTellable 29 = .ok (.invokestatic 76, 3) := by decide +kernel
theorem dX10_isTellable_32 : decode cX10_isTellable 32 = .ok (.ifCond .eq 20, 3) := by decide +kernel
theorem dX10_isTellable_35 : decode cX10_isTellable 35 = .ok (.iload_n 3, 1) := by decide +kernel
theorem dX10_isTellable_36 : decode cX10_isTellable 36 = .ok (.sipush (-999), 3) := by decide +kernel
theorem dX10_isTellable_39 : decode cX10_isTellable 39 = .ok (.sipush 999, 3) := by decide +kernel
theorem dX10_isTellable_42 : decode cX10_isTellable 42 = .ok (.invokestatic 76, 3) := by decide +kernel
theorem dX10_isTellable_45 : decode cX10_isTellable 45 = .ok (.ifCond .eq 7, 3) := by decide +kernel
theorem dX10_isTellable_48 : decode cX10_isTellable 48 = .ok (.iconst 1, 1) := by decide +kernel
theorem dX10_isTellable_49 : decode cX10_isTellable 49 = .ok (.goto 4, 3) := by decide +kernel
theorem dX10_isTellable_52 : decode cX10_isTellable 52 = .ok (.iconst 0, 1) := by decide +kernel
theorem dX10_isTellable_53 : decode cX10_isTellable 53 = .ok (.ireturn, 1) := by decide +kernel
theorem dX10_isModulus_0 : decode cX10_isModulus 0 = .ok (.iload_n 0, 1) := by decide +kernel
theorem dX10_isModulus_1 : decode cX10_isModulus 1 = .ok (.iconst 2, 1) := by decide +kernel
theorem dX10_isModulus_2 : decode cX10_isModulus 2 = .ok (.bipush 10, 2) := by decide +kernel
theorem dX10_isModulus_4 : decode cX10_isModulus 4 = .ok (.invokestatic 76, 3) := by decide +kernel
theorem dX10_isModulus_7 : decode cX10_isModulus 7 = .ok (.ireturn, 1) := by decide +kernel
theorem dX10_isPrime_0 : decode cX10_isPrime 0 = .ok (.iload_n 0, 1) := by decide +kernel
theorem dX10_isPrime_1 : decode cX10_isPrime 1 = .ok (.iconst 2, 1) := by decide +kernel
theorem dX10_isPrime_2 : decode cX10_isPrime 2 = .ok (.if_icmp .eq 19, 3) := by decide +kernel
theorem dX10_isPrime_5 : decode cX10_isPrime 5 = .ok (.iload_n 0, 1) := by decide +kernel
theorem dX10_isPrime_6 : decode cX10_isPrime 6 = .ok (.iconst 3, 1) := by decide +kernel
theorem dX10_isPrime_7 : decode cX10_isPrime 7 = .ok (.if_icmp .eq 14, 3) := by decide +kernel
theorem dX10_isPrime_10 : decode cX10_isPrime 10 = .ok (.iload_n 0, 1) := by decide +kernel
theorem dX10_isPrime_11 : decode cX10_isPrime 11 = .ok (.iconst 5, 1) := by decide +kernel
theorem dX10_isPrime_12 : decode cX10_isPrime 12 = .ok (.if_icmp .eq 9, 3) := by decide +kernel
theorem dX10_isPrime_15 : decode cX10_isPrime 15 = .ok (.iload_n 0, 1) := by decide +kernel
theorem dX10_isPrime_16 : decode cX10_isPrime 16 = .ok (.bipush 7, 2) := by decide +kernel
theorem dX10_isPrime_18 : decode cX10_isPrime 18 = .ok (.if_icmp .ne 7, 3) := by decide +kernel
theorem dX10_isPrime_21 : decode cX10_isPrime 21 = .ok (.iconst 1, 1) := by decide +kernel
theorem dX10_isPrime_22 : decode cX10_isPrime 22 = .ok (.goto 4, 3) := by decide +kernel
theorem dX10_isPrime_25 : decode cX10_isPrime 25 = .ok (.iconst 0, 1) := by decide +kernel
theorem dX10_isPrime_26 : decode cX10_isPrime 26 = .ok (.ireturn, 1) := by decide +kernel
theorem dX10_isWithin_0 : decode cX10_isWithin 0 = .ok (.iload_n 0, 1) := by decide +kernel
theorem dX10_isWithin_1 : decode cX10_isWithin 1 = .ok (.iload_n 1, 1) := by decide +kernel
theorem dX10_isWithin_2 : decode cX10_isWithin 2 = .ok (.if_icmp .lt 12, 3) := by decide +kernel
theorem dX10_isWithin_5 : decode cX10_isWithin 5 = .ok (.iload_n 0, 1) := by decide +kernel
theorem dX10_isWithin_6 : decode cX10_isWithin 6 = .ok (.iload_n 2, 1) := by decide +kernel
theorem dX10_isWithin_7 : decode cX10_isWithin 7 = .ok (.if_icmp .gt 7, 3) := by decide +kernel
theorem dX10_isWithin_10 : decode cX10_isWithin 10 = .ok (.iconst 1, 1) := by decide +kernel
theorem dX10_isWithin_11 : decode cX10_isWithin 11 = .ok (.goto 4, 3) := by decide +kernel
theorem dX10_isWithin_14 : decode cX10_isWithin 14 = .ok (.iconst 0, 1) := by decide +kernel
theorem dX10_isWithin_15 : decode cX10_isWithin 15 = .ok (.ireturn, 1) := by decide +kernel
