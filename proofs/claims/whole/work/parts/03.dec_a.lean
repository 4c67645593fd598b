theorem dX0_init_0 : decode cX0_init 0 = .ok (.aload_n 0, 1) := by decide +kernel
theorem dX0_init_1 : decode cX0_init 1 = .ok (.invokespecial 3, 3) := by decide +kernel
theorem dX0_init_4 : decode cX0_init 4 = .ok (.aload_n 0, 1) := by decide +kernel
theorem dX0_init_5 : decode cX0_init 5 = .ok (.bipush 17, 2) := by decide +kernel
theorem dX0_init_7 : decode cX0_init 7 = .ok (.newarray .int, 2) := by decide +kernel
theorem dX0_init_9 : decode cX0_init 9 = .ok (.putfield 9, 3) := by decide +kernel
theorem dX0_init_12 : decode cX0_init 12 = .ok (.aload_n 0, 1) := by decide +kernel
theorem dX0_init_13 : decode cX0_init 13 = .ok (.bipush 17, 2) := by decide +kernel
theorem dX0_init_15 : decode cX0_init 15 = .ok (.newarray .int, 2) := by decide +kernel
theorem dX0_init_17 : decode cX0_init 17 = .ok (.putfield 13, 3) := by decide +kernel
theorem dX0_init_20 : decode cX0_init 20 = .ok (.aload_n 0, 1) := by decide +kernel
theorem dX0_init_21 : decode cX0_init 21 = .ok (.bipush 17, 2) := by decide +kernel
theorem dX0_init_23 : decode cX0_init 23 = .ok (.newarray .int, 2) := by decide +kernel
theorem dX0_init_25 : decode cX0_init 25 = .ok (.putfield 16, 3) := by decide +kernel
theorem dX0_init_28 : decode cX0_init 28 = .ok (.aload_n 0, 1) := by decide +kernel
theorem dX0_init_29 : decode cX0_init 29 = .ok (.iconst 2, 1) := by decide +kernel
theorem dX0_init_30 : decode cX0_init 30 = .ok (.putfield 19, 3) := by decide +kernel
theorem dX0_init_33 : decode cX0_init 33 = .ok (.return_, 1) := by decide +kernel
theorem dX0_length_0 : decode cX0_length 0 = .ok (.aload_n 0, 1) := by decide +kernel
theorem dX0_length_1 : decode cX0_length 1 = .ok (.getfield 23, 3) := by decide +kernel
theorem dX0_length_4 : decode cX0_length 4 = .ok (.ireturn, 1) := by decide +kernel
theorem dX0_factor_0 : decode cX0_factor 0 = .ok (.iload_n 1, 1) := by decide +kernel
theorem dX0_factor_1 : decode cX0_factor 1 = .ok (.iconst 1, 1) := by decide +kernel
theorem dX0_factor_2 : decode cX0_factor 2 = .ok (.if_icmp .lt 34, 3) := by decide +kernel
theorem dX0_factor_5 : decode cX0_factor 5 = .ok (.iload_n 1, 1) := by decide +kernel
theorem dX0_factor_6 : decode cX0_factor 6 = .ok (.aload_n 0, 1) := by decide +kernel
theorem dX0_factor_7 : decode cX0_factor 7 = .ok (.getfield 23, 3) := by decide +kernel
theorem dX0_factor_10 : decode cX0_factor 10 = .ok (.if_icmp .gt 26, 3) := by decide +kernel
theorem dX0_factor_13 : decode cX0_factor 13 = .ok (.iload_n 1, 1) := by decide +kernel
theorem dX0_factor_14 : decode cX0_factor 14 = .ok (.bipush 17, 2) := by decide +kernel
theorem dX0_factor_16 : decode cX0_factor 16 = .ok (.if_icmp .ge 20, 3) := by decide +kernel
theorem dX0_factor_19 : decode cX0_factor 19 = .ok (.aload_n 0, 1) := by decide +kernel
theorem dX0_factor_20 : decode cX0_factor 20 = .ok (.getfield 9, 3) := by decide +kernel
theorem dX0_factor_23 : decode cX0_factor 23 = .ok (.iload_n 1, 1) := by decide +kernel
theorem dX0_factor_24 : decode cX0_factor 24 = .ok (.iaload, 1) := by decide +kernel
theorem dX0_factor_25 : decode cX0_factor 25 = .ok (.ineg, 1) := by decide +kernel
theorem dX0_factor_26 : decode cX0_factor 26 = .ok (.aload_n 0, 1) := by decide +kernel
theorem dX0_factor_27 : decode cX0_factor 27 = .ok (.getfield 19, 3) := by decide +kernel
theorem dX0_factor_30 : decode cX0_factor 30 = .ok (.invokestatic 26, 3) := by decide +kernel
theorem dX0_factor_33 : decode cX0_factor 33 = .ok (.goto 4, 3) := by decide +kernel
theorem dX0_factor_36 : decode cX0_factor 36 = .ok (.iconst 0, 1) := by decide +kernel
theorem dX0_factor_37 : decode cX0_factor 37 = .ok (.ireturn, 1) := by decide +kernel
theorem dX0_examine_0 : decode cX0_examine 0 = .ok (.aload_n 0, 1) := by decide +kernel
theorem dX0_examine_1 : decode cX0_examine 1 = .ok (.iload_n 2, 1) := by decide +kernel
theorem dX0_examine_2 : decode cX0_examine 2 = .ok (.invokevirtual 32, 3) := by decide +kernel
theorem dX0_examine_5 : decode cX0_examine 5 = .ok (.iconst 1, 1) := by decide +kernel
theorem dX0_examine_6 : decode cX0_examine 6 = .ok (.istore_n 3, 1) := by decide +kernel
theorem dX0_examine_7 : decode cX0_examine 7 = .ok (.iconst 1, 1) := by decide +kernel
theorem dX0_examine_8 : decode cX0_examine 8 = .ok (.istore 4, 2) := by decide +kernel
theorem dX0_examine_10 : decode cX0_examine 10 = .ok (.iconst 0, 1) := by decide +kernel
theorem dX0_examine_11 : decode cX0_examine 11 = .ok (.istore 5, 2) := by decide +kernel
theorem dX0_examine_13 : decode cX0_examine 13 = .ok (.iload 5, 2) := by decide +kernel
theorem dX0_examine_15 : decode cX0_examine 15 = .ok (.bipush 16, 2) := by decide +kernel
theorem dX0_examine_17 : decode cX0_examine 17 = .ok (.if_icmp .ge 123, 3) := by decide +kernel
theorem dX0_examine_20 : decode cX0_examine 20 = .ok (.aload_n 0, 1) := by decide +kernel
theorem dX0_examine_21 : decode cX0_examine 21 = .ok (.aload_n 1, 1) := by decide +kernel
theorem dX0_examine_22 : decode cX0_examine 22 = .ok (.iload 5, 2) := by decide +kernel
theorem dX0_examine_24 : decode cX0_examine 24 = .ok (.invokevirtual 36, 3) := by decide +kernel
theorem dX0_examine_27 : decode cX0_examine 27 = .ok (.istore 6, 2) := by decide +kernel
theorem dX0_examine_29 : decode cX0_examine 29 = .ok (.iload 6, 2) := by decide +kernel
theorem dX0_examine_31 : decode cX0_examine 31 = .ok (.ifCond .ne 9, 3) := by decide +kernel
theorem dX0_examine_34 : decode cX0_examine 34 = .ok (.iinc 3 1, 3) := by decide +kernel
theorem dX0_examine_37 : decode cX0_examine 37 = .ok (.goto 97, 3) := by decide +kernel
theorem dX0_examine_40 : decode cX0_examine 40 = .ok (.iconst 2, 1) := by decide +kernel
theorem dX0_examine_41 : decode cX0_examine 41 = .ok (.aload_n 0, 1) := by decide +kernel
theorem dX0_examine_42 : decode cX0_examine 42 = .ok (.getfield 23, 3) := by decide +kernel
theorem dX0_examine_45 : decode cX0_examine 45 = .ok (.imul, 1) := by decide +kernel
theorem dX0_examine_46 : decode cX0_examine 46 = .ok (.iload 5, 2) := by decide +kernel
theorem dX0_examine_48 : decode cX0_examine 48 = .ok (.if_icmp .gt 69, 3) := by decide +kernel
theorem dX0_examine_51 : decode cX0_examine 51 = .ok (.aload_n 0, 1) := by decide +kernel
theorem dX0_examine_52 : decode cX0_examine 52 = .ok (.getfield 9, 3) := by decide +kernel
theorem dX0_examine_55 : decode cX0_examine 55 = .ok (.iconst 0, 1) := by decide +kernel
theorem dX0_examine_56 : decode cX0_examine 56 = .ok (.aload_n 0, 1) := by decide +kernel
theorem dX0_examine_57 : decode cX0_examine 57 = .ok (.getfield 16, 3) := by decide +kernel
theorem dX0_examine_60 : decode cX0_examine 60 = .ok (.iconst 0, 1) := by decide +kernel
theorem dX0_examine_61 : decode cX0_examine 61 = .ok (.bipush 17, 2) := by decide +kernel
theorem dX0_examine_63 : decode cX0_examine 63 = .ok (.invokestatic 40, 3) := by decide +kernel
theorem dX0_examine_66 : decode cX0_examine 66 = .ok (.aload_n 0, 1) := by decide +kernel
theorem dX0_examine_67 : decode cX0_examine 67 = .ok (.iload 6, 2) := by decide +kernel
theorem dX0_examine_69 : decode cX0_examine 69 = .ok (.aload_n 0, 1) := by decide +kernel
theorem dX0_examine_70 : decode cX0_examine 70 = .ok (.iload 4, 2) := by decide +kernel
theorem dX0_examine_72 : decode cX0_examine 72 = .ok (.invokevirtual 46, 3) := by decide +kernel
theorem dX0_examine_75 : decode cX0_examine 75 = .ok (.imul, 1) := by decide +kernel
theorem dX0_examine_76 : decode cX0_examine 76 = .ok (.iload_n 3, 1) := by decide +kernel
theorem dX0_examine_77 : decode cX0_examine 77 = .ok (.invokevirtual 50, 3) := by decide +kernel
theorem dX0_examine_80 : decode cX0_examine 80 = .ok (.aload_n 0, 1) := by decide +kernel
theorem dX0_examine_81 : decode cX0_examine 81 = .ok (.getfield 16, 3) := by decide +kernel
theorem dX0_examine_84 : decode cX0_examine 84 = .ok (.iconst 0, 1) := by decide +kernel
theorem dX0_examine_85 : decode cX0_examine 85 = .ok (.aload_n 0, 1) := by decide +kernel
theorem dX0_examine_86 : decode cX0_examine 86 = .ok (.getfield 13, 3) := by decide +kernel
theorem dX0_examine_89 : decode cX0_examine 89 = .ok (.iconst 0, 1) := by decide +kernel
theorem dX0_examine_90 : decode cX0_examine 90 = .ok (.bipush 17, 2) := by decide +kernel
theorem dX0_examine_92 : decode cX0_examine 92 = .ok (.invokestatic 40, 3) := by decide +kernel
theorem dX0_examine_95 : decode cX0_examine 95 = .ok (.aload_n 0, 1) := by decide +kernel
theorem dX0_examine_96 : decode cX0_examine 96 = .ok (.iload 5, 2) := by decide +kernel
theorem dX0_examine_98 : decode cX0_examine 98 = .ok (.iconst 1, 1) := by decide +kernel
theorem dX0_examine_99 : decode cX0_examine 99 = .ok (.iadd, 1) := by decide +kernel
theorem dX0_examine_100 : decode cX0_examine 100 = .ok (.aload_n 0, 1) := by decide +kernel
theorem dX0_examine_101 : decode cX0_examine 101 = .ok (.getfield 23, 3) := by decide +kernel
theorem dX0_examine_104 : decode cX0_examine 104 = .ok (.isub, 1) := by decide +kernel
theorem dX0_examine_105 : decode cX0_examine 105 = .ok (.putfield 23, 3) := by decide +kernel
theorem dX0_examine_108 : decode cX0_examine 108 = .ok (.iload 6, 2) := by decide +kernel
theorem dX0_examine_110 : decode cX0_examine 110 = .ok (.istore 4, 2) := by decide +kernel
theorem dX0_examine_112 : decode cX0_examine 112 = .ok (.iconst 1, 1) := by decide +kernel
theorem dX0_examine_113 : decode cX0_examine 113 = .ok (.istore_n 3, 1) := by decide +kernel
theorem dX0_examine_114 : decode cX0_examine 114 = .ok (.goto 20, 3) := by decide +kernel
theorem dX0_examine_117 : decode cX0_examine 117 = .ok (.aload_n 0, 1) := by decide +kernel
theorem dX0_examine_118 : decode cX0_examine 118 = .ok (.iload 6, 2) := by decide +kernel
theorem dX0_examine_120 : decode cX0_examine 120 = .ok (.aload_n 0, 1) := by decide +kernel
theorem dX0_examine_121 : decode cX0_examine 121 = .ok (.iload 4, 2) := by decide +kernel
theorem dX0_examine_123 : decode cX0_examine 123 = .ok (.invokevirtual 46, 3) := by decide +kernel
theorem dX0_examine_126 : decode cX0_examine 126 = .ok (.imul, 1) := by decide +kernel
theorem dX0_examine_127 : decode cX0_examine 127 = .ok (.iload_n 3, 1) := by decide +kernel
theorem dX0_examine_128 : decode cX0_examine 128 = .ok (.invokevirtual 50, 3) := by decide +kernel
theorem dX0_examine_131 : decode cX0_examine 131 = .ok (.iinc 3 1, 3) := by decide +kernel
theorem dX0_examine_134 : decode cX0_examine 134 = .ok (.iinc 5 1, 3) := by decide +kernel
theorem dX0_examine_137 : decode cX0_examine 137 = .ok (.goto (-124), 3) := by decide +kernel
theorem dX0_examine_140 : decode cX0_examine 140 = .ok (.return_, 1) := by decide +kernel
theorem dX0_begin_0 : decode cX0_begin 0 = .ok (.aload_n 0, 1) := by decide +kernel
theorem dX0_begin_1 : decode cX0_begin 1 = .ok (.iload_n 1, 1) := by decide +kernel
theorem dX0_begin_2 : decode cX0_begin 2 = .ok (.invokestatic 54, 3) := by decide +kernel
theorem dX0_begin_5 : decode cX0_begin 5 = .ok (.ifCond .eq 7, 3) := by decide +kernel
theorem dX0_begin_8 : decode cX0_begin 8 = .ok (.iload_n 1, 1) := by decide +kernel
theorem dX0_begin_9 : decode cX0_begin 9 = .ok (.goto 4, 3) := by decide +kernel
theorem dX0_begin_12 : decode cX0_begin 12 = .ok (.iconst 2, 1) := by decide +kernel
theorem dX0_begin_13 : decode cX0_begin 13 = .ok (.putfield 19, 3) := by decide +kernel
theorem dX0_begin_16 : decode cX0_begin 16 = .ok (.aload_n 0, 1) := by decide +kernel
theorem dX0_begin_17 : decode cX0_begin 17 = .ok (.iconst 0, 1) := by decide +kernel
theorem dX0_begin_18 : decode cX0_begin 18 = .ok (.putfield 23, 3) := by decide +kernel
theorem dX0_begin_21 : decode cX0_begin 21 = .ok (.iconst 0, 1) := by decide +kernel
theorem dX0_begin_22 : decode cX0_begin 22 = .ok (.istore_n 2, 1) := by decide +kernel
theorem dX0_begin_23 : decode cX0_begin 23 = .ok (.iload_n 2, 1) := by decide +kernel
theorem dX0_begin_24 : decode cX0_begin 24 = .ok (.bipush 17, 2) := by decide +kernel
theorem dX0_begin_26 : decode cX0_begin 26 = .ok (.if_icmp .ge 36, 3) := by decide +kernel
theorem dX0_begin_29 : decode cX0_begin 29 = .ok (.aload_n 0, 1) := by decide +kernel
theorem dX0_begin_30 : decode cX0_begin 30 = .ok (.getfield 9, 3) := by decide +kernel
theorem dX0_begin_33 : decode cX0_begin 33 = .ok (.iload_n 2, 1) := by decide +kernel
theorem dX0_begin_34 : decode cX0_begin 34 = .ok (.iload_n 2, 1) := by decide +kernel
theorem dX0_begin_35 : decode cX0_begin 35 = .ok (.ifCond .ne 7, 3) := by decide +kernel
theorem dX0_begin_38 : decode cX0_begin 38 = .ok (.iconst 1, 1) := by decide +kernel
theorem dX0_begin_39 : decode cX0_begin 39 = .ok (.goto 4, 3) := by decide +kernel
theorem dX0_begin_42 : decode cX0_begin 42 = .ok (.iconst 0, 1) := by decide +kernel
theorem dX0_begin_43 : decode cX0_begin 43 = .ok (.iastore, 1) := by decide +kernel
theorem dX0_begin_44 : decode cX0_begin 44 = .ok (.aload_n 0, 1) := by decide +kernel
theorem dX0_begin_45 : decode cX0_begin 45 = .ok (.getfield 13, 3) := by decide +kernel
theorem dX0_begin_48 : decode cX0_begin 48 = .ok (.iload_n 2, 1) := by decide +kernel
theorem dX0_begin_49 : decode cX0_begin 49 = .ok (.aload_n 0, 1) := by decide +kernel
theorem dX0_begin_50 : decode cX0_begin 50 = .ok (.getfield 9, 3) := by decide +kernel
theorem dX0_begin_53 : decode cX0_begin 53 = .ok (.iload_n 2, 1) := by decide +kernel
theorem dX0_begin_54 : decode cX0_begin 54 = .ok (.iaload, 1) := by decide +kernel
theorem dX0_begin_55 : decode cX0_begin 55 = .ok (.iastore, 1) := by decide +kernel
theorem dX0_begin_56 : decode cX0_begin 56 = .ok (.iinc 2 1, 3) := by decide +kernel
theorem dX0_begin_59 : decode cX0_begin 59 = .ok (.goto (-36), 3) := by decide +kernel
theorem dX0_begin_62 : decode cX0_begin 62 = .ok (.return_, 1) := by decide +kernel
theorem dX0_missAt_0 : decode cX0_missAt 0 = .ok (.iconst 0, 1) := by decide +kernel
theorem dX0_missAt_1 : decode cX0_missAt 1 = .ok (.istore_n 3, 1) := by decide +kernel
theorem dX0_missAt_2 : decode cX0_missAt 2 = .ok (.iconst 0, 1) := by decide +kernel
theorem dX0_missAt_3 : decode cX0_missAt 3 = .ok (.istore 4, 2) := by decide +kernel
theorem dX0_missAt_5 : decode cX0_missAt 5 = .ok (.iload 4, 2) := by decide +kernel
theorem dX0_missAt_7 : decode cX0_missAt 7 = .ok (.aload_n 0, 1) := by decide +kernel
theorem dX0_missAt_8 : decode cX0_missAt 8 = .ok (.getfield 23, 3) := by decide +kernel
theorem dX0_missAt_11 : decode cX0_missAt 11 = .ok (.if_icmp .gt 41, 3) := by decide +kernel
theorem dX0_missAt_14 : decode cX0_missAt 14 = .ok (.iload 4, 2) := by decide +kernel
theorem dX0_missAt_16 : decode cX0_missAt 16 = .ok (.iload_n 2, 1) := by decide +kernel
theorem dX0_missAt_17 : decode cX0_missAt 17 = .ok (.if_icmp .gt 35, 3) := by decide +kernel
theorem dX0_missAt_20 : decode cX0_missAt 20 = .ok (.iload 4, 2) := by decide +kernel
theorem dX0_missAt_22 : decode cX0_missAt 22 = .ok (.bipush 17, 2) := by decide +kernel
theorem dX0_missAt_24 : decode cX0_missAt 24 = .ok (.if_icmp .ge 28, 3) := by decide +kernel
theorem dX0_missAt_27 : decode cX0_missAt 27 = .ok (.iload_n 3, 1) := by decide +kernel
theorem dX0_missAt_28 : decode cX0_missAt 28 = .ok (.aload_n 0, 1) := by decide +kernel
theorem dX0_missAt_29 : decode cX0_missAt 29 = .ok (.getfield 9, 3) := by decide +kernel
theorem dX0_missAt_32 : decode cX0_missAt 32 = .ok (.iload 4, 2) := by decide +kernel
theorem dX0_missAt_34 : decode cX0_missAt 34 = .ok (.iaload, 1) := by decide +kernel
theorem dX0_missAt_35 : decode cX0_missAt 35 = .ok (.aload_n 1, 1) := by decide +kernel
theorem dX0_missAt_36 : decode cX0_missAt 36 = .ok (.iload_n 2, 1) := by decide +kernel
theorem dX0_missAt_37 : decode cX0_missAt 37 = .ok (.iload 4, 2) := by decide +kernel
theorem dX0_missAt_39 : decode cX0_missAt 39 = .ok (.isub, 1) := by decide +kernel
theorem dX0_missAt_40 : decode cX0_missAt 40 = .ok (.invokevirtual 60, 3) := by decide +kernel
theorem dX0_missAt_43 : decode cX0_missAt 43 = .ok (.imul, 1) := by decide +kernel
theorem dX0_missAt_44 : decode cX0_missAt 44 = .ok (.iadd, 1) := by decide +kernel
theorem dX0_missAt_45 : decode cX0_missAt 45 = .ok (.istore_n 3, 1) := by decide +kernel
theorem dX0_missAt_46 : decode cX0_missAt 46 = .ok (.iinc 4 1, 3) := by decide +kernel
theorem dX0_missAt_49 : decode cX0_missAt 49 = .ok (.goto (-44), 3) := by decide +kernel
theorem dX0_missAt_52 : decode cX0_missAt 52 = .ok (.iload_n 3, 1) := by decide +kernel
theorem dX0_missAt_53 : decode cX0_missAt 53 = .ok (.aload_n 0, 1) := by decide +kernel
theorem dX0_missAt_54 : decode cX0_missAt 54 = .ok (.getfield 19, 3) := by decide +kernel
theorem dX0_missAt_57 : decode cX0_missAt 57 = .ok (.irem, 1) := by decide +kernel
theorem dX0_missAt_58 : decode cX0_missAt 58 = .ok (.ireturn, 1) := by decide +kernel
theorem dX0_mend_0 : decode cX0_mend 0 = .ok (.iconst 0, 1) := by decide +kernel
theorem dX0_mend_1 : decode cX0_mend 1 = .ok (.istore_n 3, 1) := by decide +kernel
theorem dX0_mend_2 : decode cX0_mend 2 = .ok (.iload_n 3, 1) := by decide +kernel
theorem dX0_mend_3 : decode cX0_mend 3 = .ok (.iload_n 2, 1) := by decide +kernel
theorem dX0_mend_4 : decode cX0_mend 4 = .ok (.iadd, 1) := by decide +kernel
theorem dX0_mend_5 : decode cX0_mend 5 = .ok (.bipush 17, 2) := by decide +kernel
theorem dX0_mend_7 : decode cX0_mend 7 = .ok (.if_icmp .ge 41, 3) := by decide +kernel
theorem dX0_mend_10 : decode cX0_mend 10 = .ok (.aload_n 0, 1) := by decide +kernel
theorem dX0_mend_11 : decode cX0_mend 11 = .ok (.getfield 9, 3) := by decide +kernel
theorem dX0_mend_14 : decode cX0_mend 14 = .ok (.iload_n 3, 1) := by decide +kernel
theorem dX0_mend_15 : decode cX0_mend 15 = .ok (.iload_n 2, 1) := by decide +kernel
theorem dX0_mend_16 : decode cX0_mend 16 = .ok (.iadd, 1) := by decide +kernel
theorem dX0_mend_17 : decode cX0_mend 17 = .ok (.aload_n 0, 1) := by decide +kernel
theorem dX0_mend_18 : decode cX0_mend 18 = .ok (.getfield 9, 3) := by decide +kernel
theorem dX0_mend_21 : decode cX0_mend 21 = .ok (.iload_n 3, 1) := by decide +kernel
theorem dX0_mend_22 : decode cX0_mend 22 = .ok (.iload_n 2, 1) := by decide +kernel
theorem dX0_mend_23 : decode cX0_mend 23 = .ok (.iadd, 1) := by decide +kernel
theorem dX0_mend_24 : decode cX0_mend 24 = .ok (.iaload, 1) := by decide +kernel
theorem dX0_mend_25 : decode cX0_mend 25 = .ok (.iload_n 1, 1) := by decide +kernel
theorem dX0_mend_26 : decode cX0_mend 26 = .ok (.aload_n 0, 1) := by decide +kernel
theorem dX0_mend_27 : decode cX0_mend 27 = .ok (.getfield 13, 3) := by decide +kernel
theorem dX0_mend_30 : decode cX0_mend 30 = .ok (.iload_n 3, 1) := by decide +kernel
theorem dX0_mend_31 : decode cX0_mend 31 = .ok (.iaload, 1) := by decide +kernel
theorem dX0_mend_32 : decode cX0_mend 32 = .ok (.imul, 1) := by decide +kernel
theorem dX0_mend_33 : decode cX0_mend 33 = .ok (.isub, 1) := by decide +kernel
theorem dX0_mend_34 : decode cX0_mend 34 = .ok (.aload_n 0, 1) := by decide +kernel
theorem dX0_mend_35 : decode cX0_mend 35 = .ok (.getfield 19, 3) := by decide +kernel
theorem dX0_mend_38 : decode cX0_mend 38 = .ok (.invokestatic 26, 3) := by decide +kernel
theorem dX0_mend_41 : decode cX0_mend 41 = .ok (.iastore, 1) := by decide +kernel
theorem dX0_mend_42 : decode cX0_mend 42 = .ok (.iinc 3 1, 3) := by decide +kernel
theorem dX0_mend_45 : decode cX0_mend 45 = .ok (.goto (-43), 3) := by decide +kernel
theorem dX0_mend_48 : decode cX0_mend 48 = .ok (.return_, 1) := by decide +kernel
theorem dX0_inverse_0 : decode cX0_inverse 0 = .ok (.iconst 1, 1) := by decide +kernel
theorem dX0_inverse_1 : decode cX0_inverse 1 = .ok (.istore_n 2, 1) := by decide +kernel
theorem dX0_inverse_2 : decode cX0_inverse 2 = .ok (.iload_n 2, 1) := by decide +kernel
theorem dX0_inverse_3 : decode cX0_inverse 3 = .ok (.aload_n 0, 1) := by decide +kernel
theorem dX0_inverse_4 : decode cX0_inverse 4 = .ok (.getfield 19, 3) := by decide +kernel
theorem dX0_inverse_7 : decode cX0_inverse 7 = .ok (.if_icmp .ge 23, 3) := by decide +kernel
theorem dX0_inverse_10 : decode cX0_inverse 10 = .ok (.iload_n 2, 1) := by decide +kernel
theorem dX0_inverse_11 : decode cX0_inverse 11 = .ok (.iload_n 1, 1) := by decide +kernel
theorem dX0_inverse_12 : decode cX0_inverse 12 = .ok (.imul, 1) := by decide +kernel
theorem dX0_inverse_13 : decode cX0_inverse 13 = .ok (.aload_n 0, 1) := by decide +kernel
theorem dX0_inverse_14 : decode cX0_inverse 14 = .ok (.getfield 19, 3) := by decide +kernel
theorem dX0_inverse_17 : decode cX0_inverse 17 = .ok (.irem, 1) := by decide +kernel
theorem dX0_inverse_18 : decode cX0_inverse 18 = .ok (.iconst 1, 1) := by decide +kernel
theorem dX0_inverse_19 : decode cX0_inverse 19 = .ok (.if_icmp .ne 5, 3) := by decide +kernel
theorem dX0_inverse_22 : decode cX0_inverse 22 = .ok (.iload_n 2, 1) := by decide +kernel
theorem dX0_inverse_23 : decode cX0_inverse 23 = .ok (.ireturn, 1) := by decide +kernel
theorem dX0_inverse_24 : decode cX0_inverse 24 = .ok (.iinc 2 1, 3) := by decide +kernel
theorem dX0_inverse_27 : decode cX0_inverse 27 = .ok (.goto (-25), 3) := by decide +kernel
theorem dX0_inverse_30 : decode cX0_inverse 30 = .ok (.iconst 0, 1) := by decide +kernel
theorem dX0_inverse_31 : decode cX0_inverse 31 = .ok (.ireturn, 1) := by decide +kernel
theorem dX1_init_0 : decode cX1_init 0 = .ok (.aload_n 0, 1) := by decide +kernel
theorem dX1_init_1 : decode cX1_init 1 = .ok (.invokespecial 3, 3) := by decide +kernel
theorem dX1_init_4 : decode cX1_init 4 = .ok (.aload_n 0, 1) := by decide +kernel
theorem dX1_init_5 : decode cX1_init 5 = .ok (.iload_n 1, 1) := by decide +kernel
theorem dX1_init_6 : decode cX1_init 6 = .ok (.invokestatic 9, 3) := by decide +kernel
theorem dX1_init_9 : decode cX1_init 9 = .ok (.ifCond .eq 7, 3) := by decide +kernel
theorem dX1_init_12 : decode cX1_init 12 = .ok (.iload_n 1, 1) := by decide +kernel
theorem dX1_init_13 : decode cX1_init 13 = .ok (.goto 4, 3) := by decide +kernel
theorem dX1_init_16 : decode cX1_init 16 = .ok (.iconst 2, 1) := by decide +kernel
theorem dX1_init_17 : decode cX1_init 17 = .ok (.putfield 13, 3) := by decide +kernel
theorem dX1_init_20 : decode cX1_init 20 = .ok (.aload_n 0, 1) := by decide +kernel
theorem dX1_init_21 : decode cX1_init 21 = .ok (.getstatic 19, 3) := by decide +kernel
theorem dX1_init_24 : decode cX1_init 24 = .ok (.aload_n 0, 1) := by decide +kernel
theorem dX1_init_25 : decode cX1_init 25 = .ok (.getfield 13, 3) := by decide +kernel
theorem dX1_init_28 : decode cX1_init 28 = .ok (.iconst 2, 1) := by decide +kernel
theorem dX1_init_29 : decode cX1_init 29 = .ok (.isub, 1) := by decide +kernel
theorem dX1_init_30 : decode cX1_init 30 = .ok (.iaload, 1) := by decide +kernel
theorem dX1_init_31 : decode cX1_init 31 = .ok (.putfield 23, 3) := by decide +kernel
theorem dX1_init_34 : decode cX1_init 34 = .ok (.aload_n 0, 1) := by decide +kernel
theorem dX1_init_35 : decode cX1_init 35 = .ok (.bipush 6, 2) := by decide +kernel
theorem dX1_init_37 : decode cX1_init 37 = .ok (.aload_n 0, 1) := by decide +kernel
theorem dX1_init_38 : decode cX1_init 38 = .ok (.getfield 23, 3) := by decide +kernel
theorem dX1_init_41 : decode cX1_init 41 = .ok (.iadd, 1) := by decide +kernel
theorem dX1_init_42 : decode cX1_init 42 = .ok (.newarray .int, 2) := by decide +kernel
theorem dX1_init_44 : decode cX1_init 44 = .ok (.putfield 26, 3) := by decide +kernel
theorem dX1_init_47 : decode cX1_init 47 = .ok (.return_, 1) := by decide +kernel
theorem dX1_at_0 : decode cX1_at 0 = .ok (.iload_n 1, 1) := by decide +kernel
theorem dX1_at_1 : decode cX1_at 1 = .ok (.ifCond .ge 5, 3) := by decide +kernel
theorem dX1_at_4 : decode cX1_at 4 = .ok (.iconst 0, 1) := by decide +kernel
theorem dX1_at_5 : decode cX1_at 5 = .ok (.ireturn, 1) := by decide +kernel
theorem dX1_at_6 : decode cX1_at 6 = .ok (.iload_n 1, 1) := by decide +kernel
theorem dX1_at_7 : decode cX1_at 7 = .ok (.bipush 6, 2) := by decide +kernel
theorem dX1_at_9 : decode cX1_at 9 = .ok (.if_icmp .ge 12, 3) := by decide +kernel
theorem dX1_at_12 : decode cX1_at 12 = .ok (.aload_n 0, 1) := by decide +kernel
theorem dX1_at_13 : decode cX1_at 13 = .ok (.getfield 26, 3) := by decide +kernel
theorem dX1_at_16 : decode cX1_at 16 = .ok (.iload_n 1, 1) := by decide +kernel
theorem dX1_at_17 : decode cX1_at 17 = .ok (.iaload, 1) := by decide +kernel
theorem dX1_at_18 : decode cX1_at 18 = .ok (.goto 20, 3) := by decide +kernel
theorem dX1_at_21 : decode cX1_at 21 = .ok (.aload_n 0, 1) := by decide +kernel
theorem dX1_at_22 : decode cX1_at 22 = .ok (.getfield 26, 3) := by decide +kernel
theorem dX1_at_25 : decode cX1_at 25 = .ok (.bipush 6, 2) := by decide +kernel
theorem dX1_at_27 : decode cX1_at 27 = .ok (.iload_n 1, 1) := by decide +kernel
theorem dX1_at_28 : decode cX1_at 28 = .ok (.bipush 6, 2) := by decide +kernel
theorem dX1_at_30 : decode cX1_at 30 = .ok (.isub, 1) := by decide +kernel
theorem dX1_at_31 : decode cX1_at 31 = .ok (.aload_n 0, 1) := by decide +kernel
theorem dX1_at_32 : decode cX1_at 32 = .ok (.getfield 23, 3) := by decide +kernel
theorem dX1_at_35 : decode cX1_at 35 = .ok (.irem, 1) := by decide +kernel
theorem dX1_at_36 : decode cX1_at 36 = .ok (.iadd, 1) := by decide +kernel
theorem dX1_at_37 : decode cX1_at 37 = .ok (.iaload, 1) := by decide +kernel
theorem dX1_at_38 : decode cX1_at 38 = .ok (.ireturn, 1) := by decide +kernel
theorem dX1_fillTold_0 : decode cX1_fillTold 0 = .ok (.aload_n 0, 1) := by decide +kernel
theorem dX1_fillTold_1 : decode cX1_fillTold 1 = .ok (.getfield 26, 3) := by decide +kernel
theorem dX1_fillTold_4 : decode cX1_fillTold 4 = .ok (.iconst 0, 1) := by decide +kernel
theorem dX1_fillTold_5 : decode cX1_fillTold 5 = .ok (.iload_n 3, 1) := by decide +kernel
theorem dX1_fillTold_6 : decode cX1_fillTold 6 = .ok (.aload_n 0, 1) := by decide +kernel
theorem dX1_fillTold_7 : decode cX1_fillTold 7 = .ok (.getfield 13, 3) := by decide +kernel
theorem dX1_fillTold_10 : decode cX1_fillTold 10 = .ok (.invokestatic 29, 3) := by decide +kernel
theorem dX1_fillTold_13 : decode cX1_fillTold 13 = .ok (.iastore, 1) := by decide +kernel
theorem dX1_fillTold_14 : decode cX1_fillTold 14 = .ok (.aload_n 0, 1) := by decide +kernel
theorem dX1_fillTold_15 : decode cX1_fillTold 15 = .ok (.getfield 26, 3) := by decide +kernel
theorem dX1_fillTold_18 : decode cX1_fillTold 18 = .ok (.iconst 1, 1) := by decide +kernel
theorem dX1_fillTold_19 : decode cX1_fillTold 19 = .ok (.iload 4, 2) := by decide +kernel
theorem dX1_fillTold_21 : decode cX1_fillTold 21 = .ok (.aload_n 0, 1) := by decide +kernel
theorem dX1_fillTold_22 : decode cX1_fillTold 22 = .ok (.getfield 13, 3) := by decide +kernel
theorem dX1_fillTold_25 : decode cX1_fillTold 25 = .ok (.invokestatic 29, 3) := by decide +kernel
theorem dX1_fillTold_28 : decode cX1_fillTold 28 = .ok (.iastore, 1) := by decide +kernel
theorem dX1_fillTold_29 : decode cX1_fillTold 29 = .ok (.iconst 2, 1) := by decide +kernel
theorem dX1_fillTold_30 : decode cX1_fillTold 30 = .ok (.istore 5, 2) := by decide +kernel
theorem dX1_fillTold_32 : decode cX1_fillTold 32 = .ok (.iload 5, 2) := by decide +kernel
theorem dX1_fillTold_34 : decode cX1_fillTold 34 = .ok (.aload_n 0, 1) := by decide +kernel
theorem dX1_fillTold_35 : decode cX1_fillTold 35 = .ok (.getfield 26, 3) := by decide +kernel
theorem dX1_fillTold_38 : decode cX1_fillTold 38 = .ok (.arraylength, 1) := by decide +kernel
theorem dX1_fillTold_39 : decode cX1_fillTold 39 = .ok (.if_icmp .ge 46, 3) := by decide +kernel
theorem dX1_fillTold_42 : decode cX1_fillTold 42 = .ok (.aload_n 0, 1) := by decide +kernel
theorem dX1_fillTold_43 : decode cX1_fillTold 43 = .ok (.getfield 26, 3) := by decide +kernel
theorem dX1_fillTold_46 : decode cX1_fillTold 46 = .ok (.iload 5, 2) := by decide +kernel
theorem dX1_fillTold_48 : decode cX1_fillTold 48 = .ok (.iload_n 1, 1) := by decide +kernel
theorem dX1_fillTold_49 : decode cX1_fillTold 49 = .ok (.aload_n 0, 1) := by decide +kernel
theorem dX1_fillTold_50 : decode cX1_fillTold 50 = .ok (.getfield 26, 3) := by decide +kernel
theorem dX1_fillTold_53 : decode cX1_fillTold 53 = .ok (.iload 5, 2) := by decide +kernel
theorem dX1_fillTold_55 : decode cX1_fillTold 55 = .ok (.iconst 1, 1) := by decide +kernel
theorem dX1_fillTold_56 : decode cX1_fillTold 56 = .ok (.isub, 1) := by decide +kernel
theorem dX1_fillTold_57 : decode cX1_fillTold 57 = .ok (.iaload, 1) := by decide +kernel
theorem dX1_fillTold_58 : decode cX1_fillTold 58 = .ok (.imul, 1) := by decide +kernel
theorem dX1_fillTold_59 : decode cX1_fillTold 59 = .ok (.iload_n 2, 1) := by decide +kernel
theorem dX1_fillTold_60 : decode cX1_fillTold 60 = .ok (.aload_n 0, 1) := by decide +kernel
theorem dX1_fillTold_61 : decode cX1_fillTold 61 = .ok (.getfield 26, 3) := by decide +kernel
theorem dX1_fillTold_64 : decode cX1_fillTold 64 = .ok (.iload 5, 2) := by decide +kernel
theorem dX1_fillTold_66 : decode cX1_fillTold 66 = .ok (.iconst 2, 1) := by decide +kernel
theorem dX1_fillTold_67 : decode cX1_fillTold 67 = .ok (.isub, 1) := by decide +kernel
theorem dX1_fillTold_68 : decode cX1_fillTold 68 = .ok (.iaload, 1) := by decide +kernel
theorem dX1_fillTold_69 : decode cX1_fillTold 69 = .ok (.imul, 1) := by decide +kernel
theorem dX1_fillTold_70 : decode cX1_fillTold 70 = .ok (.iadd, 1) := by decide +kernel
theorem dX1_fillTold_71 : decode cX1_fillTold 71 = .ok (.aload_n 0, 1) := by decide +kernel
theorem dX1_fillTold_72 : decode cX1_fillTold 72 = .ok (.getfield 13, 3) := by decide +kernel
theorem dX1_fillTold_75 : decode cX1_fillTold 75 = .ok (.invokestatic 29, 3) := by decide +kernel
theorem dX1_fillTold_78 : decode cX1_fillTold 78 = .ok (.iastore, 1) := by decide +kernel
theorem dX1_fillTold_79 : decode cX1_fillTold 79 = .ok (.iinc 5 1, 3) := by decide +kernel
theorem dX1_fillTold_82 : decode cX1_fillTold 82 = .ok (.goto (-50), 3) := by decide +kernel
theorem dX1_fillTold_85 : decode cX1_fillTold 85 = .ok (.return_, 1) := by decide +kernel
theorem dX1_fillSum_0 : decode cX1_fillSum 0 = .ok (.iconst 0, 1) := by decide +kernel
theorem dX1_fillSum_1 : decode cX1_fillSum 1 = .ok (.istore_n 3, 1) := by decide +kernel
theorem dX1_fillSum_2 : decode cX1_fillSum 2 = .ok (.iload_n 3, 1) := by decide +kernel
theorem dX1_fillSum_3 : decode cX1_fillSum 3 = .ok (.aload_n 0, 1) := by decide +kernel
theorem dX1_fillSum_4 : decode cX1_fillSum 4 = .ok (.getfield 26, 3) := by decide +kernel
theorem dX1_fillSum_7 : decode cX1_fillSum 7 = .ok (.arraylength, 1) := by decide +kernel
theorem dX1_fillSum_8 : decode cX1_fillSum 8 = .ok (.if_icmp .ge 31, 3) := by decide +kernel
theorem dX1_fillSum_11 : decode cX1_fillSum 11 = .ok (.aload_n 0, 1) := by decide +kernel
theorem dX1_fillSum_12 : decode cX1_fillSum 12 = .ok (.getfield 26, 3) := by decide +kernel
theorem dX1_fillSum_15 : decode cX1_fillSum 15 = .ok (.iload_n 3, 1) := by decide +kernel
theorem dX1_fillSum_16 : decode cX1_fillSum 16 = .ok (.aload_n 1, 1) := by decide +kernel
theorem dX1_fillSum_17 : decode cX1_fillSum 17 = .ok (.iload_n 3, 1) := by decide +kernel
theorem dX1_fillSum_18 : decode cX1_fillSum 18 = .ok (.invokevirtual 35, 3) := by decide +kernel
theorem dX1_fillSum_21 : decode cX1_fillSum 21 = .ok (.aload_n 2, 1) := by decide +kernel
theorem dX1_fillSum_22 : decode cX1_fillSum 22 = .ok (.iload_n 3, 1) := by decide +kernel
theorem dX1_fillSum_23 : decode cX1_fillSum 23 = .ok (.invokevirtual 35, 3) := by decide +kernel
theorem dX1_fillSum_26 : decode cX1_fillSum 26 = .ok (.iadd, 1) := by decide +kernel
theorem dX1_fillSum_27 : decode cX1_fillSum 27 = .ok (.aload_n 0, 1) := by decide +kernel
theorem dX1_fillSum_28 : decode cX1_fillSum 28 = .ok (.getfield 13, 3) := by decide +kernel
theorem dX1_fillSum_31 : decode cX1_fillSum 31 = .ok (.irem, 1) := by decide +kernel
theorem dX1_fillSum_32 : decode cX1_fillSum 32 = .ok (.iastore, 1) := by decide +kernel
theorem dX1_fillSum_33 : decode cX1_fillSum 33 = .ok (.iinc 3 1, 3) := by decide +kernel
theorem dX1_fillSum_36 : decode cX1_fillSum 36 = .ok (.goto (-34), 3) := by decide +kernel
theorem dX1_fillSum_39 : decode cX1_fillSum 39 = .ok (.return_, 1) := by decide +kernel
theorem dX1_fillProduct_0 : decode cX1_fillProduct 0 = .ok (.iconst 0, 1) := by decide +kernel
theorem dX1_fillProduct_1 : decode cX1_fillProduct 1 = .ok (.istore_n 3, 1) := by decide +kernel
theorem dX1_fillProduct_2 : decode cX1_fillProduct 2 = .ok (.iload_n 3, 1) := by decide +kernel
theorem dX1_fillProduct_3 : decode cX1_fillProduct 3 = .ok (.aload_n 0, 1) := by decide +kernel
theorem dX1_fillProduct_4 : decode cX1_fillProduct 4 = .ok (.getfield 26, 3) := by decide +kernel
theorem dX1_fillProduct_7 : decode cX1_fillProduct 7 = .ok (.arraylength, 1) := by decide +kernel
theorem dX1_fillProduct_8 : decode cX1_fillProduct 8 = .ok (.if_icmp .ge 31, 3) := by decide +kernel
theorem dX1_fillProduct_11 : decode cX1_fillProduct 11 = .ok (.aload_n 0, 1) := by decide +kernel
theorem dX1_fillProduct_12 : decode cX1_fillProduct 12 = .ok (.getfield 26, 3) := by decide +kernel
theorem dX1_fillProduct_15 : decode cX1_fillProduct 15 = .ok (.iload_n 3, 1) := by decide +kernel
theorem dX1_fillProduct_16 : decode cX1_fillProduct 16 = .ok (.aload_n 1, 1) := by decide +kernel
theorem dX1_fillProduct_17 : decode cX1_fillProduct 17 = .ok (.iload_n 3, 1) := by decide +kernel
theorem dX1_fillProduct_18 : decode cX1_fillProduct 18 = .ok (.invokevirtual 35, 3) := by decide +kernel
theorem dX1_fillProduct_21 : decode cX1_fillProduct 21 = .ok (.aload_n 2, 1) := by decide +kernel
theorem dX1_fillProduct_22 : decode cX1_fillProduct 22 = .ok (.iload_n 3, 1) := by decide +kernel
theorem dX1_fillProduct_23 : decode cX1_fillProduct 23 = .ok (.invokevirtual 35, 3) := by decide +kernel
theorem dX1_fillProduct_26 : decode cX1_fillProduct 26 = .ok (.imul, 1) := by decide +kernel
theorem dX1_fillProduct_27 : decode cX1_fillProduct 27 = .ok (.aload_n 0, 1) := by decide +kernel
theorem dX1_fillProduct_28 : decode cX1_fillProduct 28 = .ok (.getfield 13, 3) := by decide +kernel
theorem dX1_fillProduct_31 : decode cX1_fillProduct 31 = .ok (.irem, 1) := by decide +kernel
theorem dX1_fillProduct_32 : decode cX1_fillProduct 32 = .ok (.iastore, 1) := by decide +kernel
theorem dX1_fillProduct_33 : decode cX1_fillProduct 33 = .ok (.iinc 3 1, 3) := by decide +kernel
theorem dX1_fillProduct_36 : decode cX1_fillProduct 36 = .ok (.goto (-34), 3) := by decide +kernel
theorem dX1_fillProduct_39 : decode cX1_fillProduct 39 = .ok (.return_, 1) := by decide +kernel
theorem dX1_fillEach_0 : decode cX1_fillEach 0 = .ok (.iconst 0, 1) := by decide +kernel
theorem dX1_fillEach_1 : decode cX1_fillEach 1 = .ok (.istore 4, 2) := by decide +kernel
theorem dX1_fillEach_3 : decode cX1_fillEach 3 = .ok (.iload 4, 2) := by decide +kernel
theorem dX1_fillEach_5 : decode cX1_fillEach 5 = .ok (.aload_n 0, 1) := by decide +kernel
theorem dX1_fillEach_6 : decode cX1_fillEach 6 = .ok (.getfield 26, 3) := by decide +kernel
theorem dX1_fillEach_9 : decode cX1_fillEach 9 = .ok (.arraylength, 1) := by decide +kernel
theorem dX1_fillEach_10 : decode cX1_fillEach 10 = .ok (.if_icmp .ge 26, 3) := by decide +kernel
theorem dX1_fillEach_13 : decode cX1_fillEach 13 = .ok (.aload_n 0, 1) := by decide +kernel
theorem dX1_fillEach_14 : decode cX1_fillEach 14 = .ok (.getfield 26, 3) := by decide +kernel
theorem dX1_fillEach_17 : decode cX1_fillEach 17 = .ok (.iload 4, 2) := by decide +kernel
theorem dX1_fillEach_19 : decode cX1_fillEach 19 = .ok (.aload_n 1, 1) := by decide +kernel
theorem dX1_fillEach_20 : decode cX1_fillEach 20 = .ok (.iload_n 2, 1) := by decide +kernel
theorem dX1_fillEach_21 : decode cX1_fillEach 21 = .ok (.iload 4, 2) := by decide +kernel
theorem dX1_fillEach_23 : decode cX1_fillEach 23 = .ok (.imul, 1) := by decide +kernel
theorem dX1_fillEach_24 : decode cX1_fillEach 24 = .ok (.iload_n 3, 1) := by decide +kernel
theorem dX1_fillEach_25 : decode cX1_fillEach 25 = .ok (.iadd, 1) := by decide +kernel
theorem dX1_fillEach_26 : decode cX1_fillEach 26 = .ok (.invokevirtual 35, 3) := by decide +kernel
theorem dX1_fillEach_29 : decode cX1_fillEach 29 = .ok (.iastore, 1) := by decide +kernel
theorem dX1_fillEach_30 : decode cX1_fillEach 30 = .ok (.iinc 4 1, 3) := by decide +kernel
theorem dX1_fillEach_33 : decode cX1_fillEach 33 = .ok (.goto (-30), 3) := by decide +kernel
theorem dX1_fillEach_36 : decode cX1_fillEach 36 = .ok (.return_, 1) := by decide +kernel
theorem dX1_fillStep_0 : decode cX1_fillStep 0 = .ok (.iconst 0, 1) := by decide +kernel
theorem dX1_fillStep_1 : decode cX1_fillStep 1 = .ok (.istore_n 2, 1) := by decide +kernel
theorem dX1_fillStep_2 : decode cX1_fillStep 2 = .ok (.iload_n 2, 1) := by decide +kernel
theorem dX1_fillStep_3 : decode cX1_fillStep 3 = .ok (.aload_n 0, 1) := by decide +kernel
theorem dX1_fillStep_4 : decode cX1_fillStep 4 = .ok (.getfield 26, 3) := by decide +kernel
theorem dX1_fillStep_7 : decode cX1_fillStep 7 = .ok (.arraylength, 1) := by decide +kernel
theorem dX1_fillStep_8 : decode cX1_fillStep 8 = .ok (.if_icmp .ge 35, 3) := by decide +kernel
theorem dX1_fillStep_11 : decode cX1_fillStep 11 = .ok (.aload_n 0, 1) := by decide +kernel
theorem dX1_fillStep_12 : decode cX1_fillStep 12 = .ok (.getfield 26, 3) := by decide +kernel
theorem dX1_fillStep_15 : decode cX1_fillStep 15 = .ok (.iload_n 2, 1) := by decide +kernel
theorem dX1_fillStep_16 : decode cX1_fillStep 16 = .ok (.aload_n 1, 1) := by decide +kernel
theorem dX1_fillStep_17 : decode cX1_fillStep 17 = .ok (.iload_n 2, 1) := by decide +kernel
theorem dX1_fillStep_18 : decode cX1_fillStep 18 = .ok (.iconst 1, 1) := by decide +kernel
theorem dX1_fillStep_19 : decode cX1_fillStep 19 = .ok (.iadd, 1) := by decide +kernel
theorem dX1_fillStep_20 : decode cX1_fillStep 20 = .ok (.invokevirtual 35, 3) := by decide +kernel
theorem dX1_fillStep_23 : decode cX1_fillStep 23 = .ok (.aload_n 1, 1) := by decide +kernel
theorem dX1_fillStep_24 : decode cX1_fillStep 24 = .ok (.iload_n 2, 1) := by decide +kernel
theorem dX1_fillStep_25 : decode cX1_fillStep 25 = .ok (.invokevirtual 35, 3) := by decide +kernel
theorem dX1_fillStep_28 : decode cX1_fillStep 28 = .ok (.isub, 1) := by decide +kernel
theorem dX1_fillStep_29 : decode cX1_fillStep 29 = .ok (.aload_n 0, 1) := by decide +kernel
theorem dX1_fillStep_30 : decode cX1_fillStep 30 = .ok (.getfield 13, 3) := by decide +kernel
theorem dX1_fillStep_33 : decode cX1_fillStep 33 = .ok (.invokestatic 29, 3) := by decide +kernel
theorem dX1_fillStep_36 : decode cX1_fillStep 36 = .ok (.iastore, 1) := by decide +kernel
theorem dX1_fillStep_37 : decode cX1_fillStep 37 = .ok (.iinc 2 1, 3) := by decide +kernel
theorem dX1_fillStep_40 : decode cX1_fillStep 40 = .ok (.goto (-38), 3) := by decide +kernel
theorem dX1_fillStep_43 : decode cX1_fillStep 43 = .ok (.return_, 1) := by decide +kernel
theorem dX1_shortestLap_0 : decode cX1_shortestLap 0 = .ok (.iconst 1, 1) := by decide +kernel
theorem dX1_shortestLap_1 : decode cX1_shortestLap 1 = .ok (.istore_n 1, 1) := by decide +kernel
theorem dX1_shortestLap_2 : decode cX1_shortestLap 2 = .ok (.iload_n 1, 1) := by decide +kernel
theorem dX1_shortestLap_3 : decode cX1_shortestLap 3 = .ok (.aload_n 0, 1) := by decide +kernel
theorem dX1_shortestLap_4 : decode cX1_shortestLap 4 = .ok (.getfield 23, 3) := by decide +kernel
theorem dX1_shortestLap_7 : decode cX1_shortestLap 7 = .ok (.if_icmp .ge 28, 3) := by decide +kernel
theorem dX1_shortestLap_10 : decode cX1_shortestLap 10 = .ok (.aload_n 0, 1) := by decide +kernel
theorem dX1_shortestLap_11 : decode cX1_shortestLap 11 = .ok (.getfield 23, 3) := by decide +kernel
theorem dX1_shortestLap_14 : decode cX1_shortestLap 14 = .ok (.iload_n 1, 1) := by decide +kernel
theorem dX1_shortestLap_15 : decode cX1_shortestLap 15 = .ok (.irem, 1) := by decide +kernel
theorem dX1_shortestLap_16 : decode cX1_shortestLap 16 = .ok (.ifCond .ne 13, 3) := by decide +kernel
theorem dX1_shortestLap_19 : decode cX1_shortestLap 19 = .ok (.aload_n 0, 1) := by decide +kernel
theorem dX1_shortestLap_20 : decode cX1_shortestLap 20 = .ok (.iload_n 1, 1) := by decide +kernel
theorem dX1_shortestLap_21 : decode cX1_shortestLap 21 = .ok (.invokevirtual 39, 3) := by decide +kernel
theorem dX1_shortestLap_24 : decode cX1_shortestLap 24 = .ok (.ifCond .eq 5, 3) := by decide +kernel
theorem dX1_shortestLap_27 : decode cX1_shortestLap 27 = .ok (.iload_n 1, 1) := by decide +kernel
theorem dX1_shortestLap_28 : decode cX1_shortestLap 28 = .ok (.ireturn, 1) := by decide +kernel
theorem dX1_shortestLap_29 : decode cX1_shortestLap 29 = .ok (.iinc 1 1, 3) := by decide +kernel
theorem dX1_shortestLap_32 : decode cX1_shortestLap 32 = .ok (.goto (-30), 3) := by decide +kernel
theorem dX1_shortestLap_35 : decode cX1_shortestLap 35 = .ok (.aload_n 0, 1) := by decide +kernel
theorem dX1_shortestLap_36 : decode cX1_shortestLap 36 = .ok (.getfield 23, 3) := by decide +kernel
theorem dX1_shortestLap_39 : decode cX1_shortestLap 39 = .ok (.ireturn, 1) := by decide +kernel
theorem dX1_repeatsAfter_0 : decode cX1_repeatsAfter 0 = .ok (.bipush 6, 2) := by decide +kernel
theorem dX1_repeatsAfter_2 : decode cX1_repeatsAfter 2 = .ok (.istore_n 2, 1) := by decide +kernel
theorem dX1_repeatsAfter_3 : decode cX1_repeatsAfter 3 = .ok (.iload_n 2, 1) := by decide +kernel
theorem dX1_repeatsAfter_4 : decode cX1_repeatsAfter 4 = .ok (.iload_n 1, 1) := by decide +kernel
theorem dX1_repeatsAfter_5 : decode cX1_repeatsAfter 5 = .ok (.iadd, 1) := by decide +kernel
theorem dX1_repeatsAfter_6 : decode cX1_repeatsAfter 6 = .ok (.aload_n 0, 1) := by decide +kernel
theorem dX1_repeatsAfter_7 : decode cX1_repeatsAfter 7 = .ok (.getfield 26, 3) := by decide +kernel
theorem dX1_repeatsAfter_10 : decode cX1_repeatsAfter 10 = .ok (.arraylength, 1) := by decide +kernel
theorem dX1_repeatsAfter_11 : decode cX1_repeatsAfter 11 = .ok (.if_icmp .ge 28, 3) := by decide +kernel
theorem dX1_repeatsAfter_14 : decode cX1_repeatsAfter 14 = .ok (.aload_n 0, 1) := by decide +kernel
theorem dX1_repeatsAfter_15 : decode cX1_repeatsAfter 15 = .ok (.getfield 26, 3) := by decide +kernel
theorem dX1_repeatsAfter_18 : decode cX1_repeatsAfter 18 = .ok (.iload_n 2, 1) := by decide +kernel
theorem dX1_repeatsAfter_19 : decode cX1_repeatsAfter 19 = .ok (.iaload, 1) := by decide +kernel
theorem dX1_repeatsAfter_20 : decode cX1_repeatsAfter 20 = .ok (.aload_n 0, 1) := by decide +kernel
theorem dX1_repeatsAfter_21 : decode cX1_repeatsAfter 21 = .ok (.getfield 26, 3) := by decide +kernel
theorem dX1_repeatsAfter_24 : decode cX1_repeatsAfter 24 = .ok (.iload_n 2, 1) := by decide +kernel
theorem dX1_repeatsAfter_25 : decode cX1_repeatsAfter 25 = .ok (.iload_n 1, 1) := by decide +kernel
theorem dX1_repeatsAfter_26 : decode cX1_repeatsAfter 26 = .ok (.iadd, 1) := by decide +kernel
theorem dX1_repeatsAfter_27 : decode cX1_repeatsAfter 27 = .ok (.iaload, 1) := by decide +kernel
theorem dX1_repeatsAfter_28 : decode cX1_repeatsAfter 28 = .ok (.if_icmp .eq 5, 3) := by decide +kernel
theorem dX1_repeatsAfter_31 : decode cX1_repeatsAfter 31 = .ok (.iconst 0, 1) := by decide +kernel
theorem dX1_repeatsAfter_32 : decode cX1_repeatsAfter 32 = .ok (.ireturn, 1) := by decide +kernel
theorem dX1_repeatsAfter_33 : decode cX1_repeatsAfter 33 = .ok (.iinc 2 1, 3) := by decide +kernel
theorem dX1_repeatsAfter_36 : decode cX1_repeatsAfter 36 = .ok (.goto (-33), 3) := by decide +kernel
theorem dX1_repeatsAfter_39 : decode cX1_repeatsAfter 39 = .ok (.iconst 1, 1) := by decide +kernel
theorem dX1_repeatsAfter_40 : decode cX1_repeatsAfter 40 = .ok (.ireturn, 1) := by decide +kernel
theorem dX1_headFor_0 : decode cX1_headFor 0 = .ok (.bipush 6, 2) := by decide +kernel
theorem dX1_headFor_2 : decode cX1_headFor 2 = .ok (.istore_n 2, 1) := by decide +kernel
theorem dX1_headFor_3 : decode cX1_headFor 3 = .ok (.iload_n 2, 1) := by decide +kernel
theorem dX1_headFor_4 : decode cX1_headFor 4 = .ok (.ifCond .le 28, 3) := by decide +kernel
theorem dX1_headFor_7 : decode cX1_headFor 7 = .ok (.aload_n 0, 1) := by decide +kernel
theorem dX1_headFor_8 : decode cX1_headFor 8 = .ok (.iload_n 2, 1) := by decide +kernel
theorem dX1_headFor_9 : decode cX1_headFor 9 = .ok (.iconst 1, 1) := by decide +kernel
theorem dX1_headFor_10 : decode cX1_headFor 10 = .ok (.isub, 1) := by decide +kernel
theorem dX1_headFor_11 : decode cX1_headFor 11 = .ok (.invokevirtual 35, 3) := by decide +kernel
theorem dX1_headFor_14 : decode cX1_headFor 14 = .ok (.aload_n 0, 1) := by decide +kernel
theorem dX1_headFor_15 : decode cX1_headFor 15 = .ok (.iload_n 2, 1) := by decide +kernel
theorem dX1_headFor_16 : decode cX1_headFor 16 = .ok (.iconst 1, 1) := by decide +kernel
theorem dX1_headFor_17 : decode cX1_headFor 17 = .ok (.isub, 1) := by decide +kernel
theorem dX1_headFor_18 : decode cX1_headFor 18 = .ok (.iload_n 1, 1) := by decide +kernel
theorem dX1_headFor_19 : decode cX1_headFor 19 = .ok (.iadd, 1) := by decide +kernel
theorem dX1_headFor_20 : decode cX1_headFor 20 = .ok (.invokevirtual 35, 3) := by decide +kernel
theorem dX1_headFor_23 : decode cX1_headFor 23 = .ok (.if_icmp .ne 9, 3) := by decide +kernel
theorem dX1_headFor_26 : decode cX1_headFor 26 = .ok (.iinc 2 (-1), 3) := by decide +kernel
theorem dX1_headFor_29 : decode cX1_headFor 29 = .ok (.goto (-26), 3) := by decide +kernel
theorem dX1_headFor_32 : decode cX1_headFor 32 = .ok (.iload_n 2, 1) := by decide +kernel
theorem dX1_headFor_33 : decode cX1_headFor 33 = .ok (.ireturn, 1) := by decide +kernel
theorem dX1_noughtsFrom_0 : decode cX1_noughtsFrom 0 = .ok (.iconst 0, 1) := by decide +kernel
theorem dX1_noughtsFrom_1 : decode cX1_noughtsFrom 1 = .ok (.istore_n 3, 1) := by decide +kernel
theorem dX1_noughtsFrom_2 : decode cX1_noughtsFrom 2 = .ok (.iload_n 1, 1) := by decide +kernel
theorem dX1_noughtsFrom_3 : decode cX1_noughtsFrom 3 = .ok (.istore 4, 2) := by decide +kernel
theorem dX1_noughtsFrom_5 : decode cX1_noughtsFrom 5 = .ok (.iload 4, 2) := by decide +kernel
theorem dX1_noughtsFrom_7 : decode cX1_noughtsFrom 7 = .ok (.iload_n 1, 1) := by decide +kernel
theorem dX1_noughtsFrom_8 : decode cX1_noughtsFrom 8 = .ok (.iload_n 2, 1) := by decide +kernel
theorem dX1_noughtsFrom_9 : decode cX1_noughtsFrom 9 = .ok (.iadd, 1) := by decide +kernel
theorem dX1_noughtsFrom_10 : decode cX1_noughtsFrom 10 = .ok (.if_icmp .ge 21, 3) := by decide +kernel
theorem dX1_noughtsFrom_13 : decode cX1_noughtsFrom 13 = .ok (.aload_n 0, 1) := by decide +kernel
theorem dX1_noughtsFrom_14 : decode cX1_noughtsFrom 14 = .ok (.iload 4, 2) := by decide +kernel
theorem dX1_noughtsFrom_16 : decode cX1_noughtsFrom 16 = .ok (.invokevirtual 35, 3) := by decide +kernel
theorem dX1_noughtsFrom_19 : decode cX1_noughtsFrom 19 = .ok (.ifCond .ne 6, 3) := by decide +kernel
theorem dX1_noughtsFrom_22 : decode cX1_noughtsFrom 22 = .ok (.iinc 3 1, 3) := by decide +kernel
theorem dX1_noughtsFrom_25 : decode cX1_noughtsFrom 25 = .ok (.iinc 4 1, 3) := by decide +kernel
theorem dX1_noughtsFrom_28 : decode cX1_noughtsFrom 28 = .ok (.goto (-23), 3) := by decide +kernel
theorem dX1_noughtsFrom_31 : decode cX1_noughtsFrom 31 = .ok (.iload_n 3, 1) := by decide +kernel
theorem dX1_noughtsFrom_32 : decode cX1_noughtsFrom 32 = .ok (.ireturn, 1) := by decide +kernel
theorem dX1_firstMeeting_0 : decode cX1_firstMeeting 0 = .ok (.iconst 0, 1) := by decide +kernel
theorem dX1_firstMeeting_1 : decode cX1_firstMeeting 1 = .ok (.istore_n 2, 1) := by decide +kernel
theorem dX1_firstMeeting_2 : decode cX1_firstMeeting 2 = .ok (.iload_n 2, 1) := by decide +kernel
theorem dX1_firstMeeting_3 : decode cX1_firstMeeting 3 = .ok (.aload_n 0, 1) := by decide +kernel
theorem dX1_firstMeeting_4 : decode cX1_firstMeeting 4 = .ok (.getfield 26, 3) := by decide +kernel
theorem dX1_firstMeeting_7 : decode cX1_firstMeeting 7 = .ok (.arraylength, 1) := by decide +kernel
theorem dX1_firstMeeting_8 : decode cX1_firstMeeting 8 = .ok (.if_icmp .ge 25, 3) := by decide +kernel
theorem dX1_firstMeeting_11 : decode cX1_firstMeeting 11 = .ok (.aload_n 0, 1) := by decide +kernel
theorem dX1_firstMeeting_12 : decode cX1_firstMeeting 12 = .ok (.getfield 26, 3) := by decide +kernel
theorem dX1_firstMeeting_15 : decode cX1_firstMeeting 15 = .ok (.iload_n 2, 1) := by decide +kernel
theorem dX1_firstMeeting_16 : decode cX1_firstMeeting 16 = .ok (.iaload, 1) := by decide +kernel
theorem dX1_firstMeeting_17 : decode cX1_firstMeeting 17 = .ok (.aload_n 1, 1) := by decide +kernel
theorem dX1_firstMeeting_18 : decode cX1_firstMeeting 18 = .ok (.iload_n 2, 1) := by decide +kernel
theorem dX1_firstMeeting_19 : decode cX1_firstMeeting 19 = .ok (.invokevirtual 35, 3) := by decide +kernel
theorem dX1_firstMeeting_22 : decode cX1_firstMeeting 22 = .ok (.if_icmp .ne 5, 3) := by decide +kernel
theorem dX1_firstMeeting_25 : decode cX1_firstMeeting 25 = .ok (.iload_n 2, 1) := by decide +kernel
theorem dX1_firstMeeting_26 : decode cX1_firstMeeting 26 = .ok (.ireturn, 1) := by decide +kernel
theorem dX1_firstMeeting_27 : decode cX1_firstMeeting 27 = .ok (.iinc 2 1, 3) := by decide +kernel
theorem dX1_firstMeeting_30 : decode cX1_firstMeeting 30 = .ok (.goto (-28), 3) := by decide +kernel
theorem dX1_firstMeeting_33 : decode cX1_firstMeeting 33 = .ok (.ldc 42, 2) := by decide +kernel
theorem dX1_firstMeeting_35 : decode cX1_firstMeeting 35 = .ok (.ireturn, 1) := by decide +kernel
theorem dX2_init_0 : decode cX2_init 0 = .ok (.aload_n 0, 1) := by decide +kernel
theorem dX2_init_1 : decode cX2_init 1 = .ok (.invokespecial 1, 3) := by decide +kernel
theorem dX2_init_4 : decode cX2_init 4 = .ok (.return_, 1) := by decide +kernel
theorem dX2_degree_0 : decode cX2_degree 0 = .ok (.aload_n 0, 1) := by decide +kernel
theorem dX2_degree_1 : decode cX2_degree 1 = .ok (.getfield 7, 3) := by decide +kernel
theorem dX2_degree_4 : decode cX2_degree 4 = .ok (.ireturn, 1) := by decide +kernel
theorem dX2_u_0 : decode cX2_u 0 = .ok (.aload_n 0, 1) := by decide +kernel
theorem dX2_u_1 : decode cX2_u 1 = .ok (.getfield 13, 3) := by decide +kernel
theorem dX2_u_4 : decode cX2_u 4 = .ok (.ireturn, 1) := by decide +kernel
theorem dX2_v_0 : decode cX2_v 0 = .ok (.aload_n 0, 1) := by decide +kernel
theorem dX2_v_1 : decode cX2_v 1 = .ok (.getfield 16, 3) := by decide +kernel
theorem dX2_v_4 : decode cX2_v 4 = .ok (.ireturn, 1) := by decide +kernel
theorem dX2_isFoundFor_0 : decode cX2_isFoundFor 0 = .ok (.aload_n 0, 1) := by decide +kernel
theorem dX2_isFoundFor_1 : decode cX2_isFoundFor 1 = .ok (.iconst 0, 1) := by decide +kernel
theorem dX2_isFoundFor_2 : decode cX2_isFoundFor 2 = .ok (.putfield 7, 3) := by decide +kernel
theorem dX2_isFoundFor_5 : decode cX2_isFoundFor 5 = .ok (.aload_n 0, 1) := by decide +kernel
theorem dX2_isFoundFor_6 : decode cX2_isFoundFor 6 = .ok (.iconst 0, 1) := by decide +kernel
theorem dX2_isFoundFor_7 : decode cX2_isFoundFor 7 = .ok (.putfield 13, 3) := by decide +kernel
theorem dX2_isFoundFor_10 : decode cX2_isFoundFor 10 = .ok (.aload_n 0, 1) := by decide +kernel
theorem dX2_isFoundFor_11 : decode cX2_isFoundFor 11 = .ok (.iconst 0, 1) := by decide +kernel
theorem dX2_isFoundFor_12 : decode cX2_isFoundFor 12 = .ok (.putfield 16, 3) := by decide +kernel
theorem dX2_isFoundFor_15 : decode cX2_isFoundFor 15 = .ok (.aload_n 0, 1) := by decide +kernel
theorem dX2_isFoundFor_16 : decode cX2_isFoundFor 16 = .ok (.aload_n 1, 1) := by decide +kernel
theorem dX2_isFoundFor_17 : decode cX2_isFoundFor 17 = .ok (.invokevirtual 19, 3) := by decide +kernel
theorem dX2_isFoundFor_20 : decode cX2_isFoundFor 20 = .ok (.ifCond .ne 19, 3) := by decide +kernel
theorem dX2_isFoundFor_23 : decode cX2_isFoundFor 23 = .ok (.aload_n 0, 1) := by decide +kernel
theorem dX2_isFoundFor_24 : decode cX2_isFoundFor 24 = .ok (.aload_n 1, 1) := by decide +kernel
theorem dX2_isFoundFor_25 : decode cX2_isFoundFor 25 = .ok (.invokevirtual 23, 3) := by decide +kernel
theorem dX2_isFoundFor_28 : decode cX2_isFoundFor 28 = .ok (.ifCond .ne 11, 3) := by decide +kernel
theorem dX2_isFoundFor_31 : decode cX2_isFoundFor 31 = .ok (.aload_n 0, 1) := by decide +kernel
theorem dX2_isFoundFor_32 : decode cX2_isFoundFor 32 = .ok (.aload_n 1, 1) := by decide +kernel
theorem dX2_isFoundFor_33 : decode cX2_isFoundFor 33 = .ok (.invokevirtual 26, 3) := by decide +kernel
theorem dX2_isFoundFor_36 : decode cX2_isFoundFor 36 = .ok (.ifCond .eq 7, 3) := by decide +kernel
theorem dX2_isFoundFor_39 : decode cX2_isFoundFor 39 = .ok (.iconst 1, 1) := by decide +kernel
theorem dX2_isFoundFor_40 : decode cX2_isFoundFor 40 = .ok (.goto 4, 3) := by decide +kernel
theorem dX2_isFoundFor_43 : decode cX2_isFoundFor 43 = .ok (.iconst 0, 1) := by decide +kernel
theorem dX2_isFoundFor_44 : decode cX2_isFoundFor 44 = .ok (.ireturn, 1) := by decide +kernel
theorem dX2_isFoundByOne_0 : decode cX2_isFoundByOne 0 = .ok (.aload_n 0, 1) := by decide +kernel
theorem dX2_isFoundByOne_1 : decode cX2_isFoundByOne 1 = .ok (.iconst 1, 1) := by decide +kernel
theorem dX2_isFoundByOne_2 : decode cX2_isFoundByOne 2 = .ok (.putfield 7, 3) := by decide +kernel
theorem dX2_isFoundByOne_5 : decode cX2_isFoundByOne 5 = .ok (.bipush (-9), 2) := by decide +kernel
theorem dX2_isFoundByOne_7 : decode cX2_isFoundByOne 7 = .ok (.istore_n 2, 1) := by decide +kernel
theorem dX2_isFoundByOne_8 : decode cX2_isFoundByOne 8 = .ok (.iload_n 2, 1) := by decide +kernel
theorem dX2_isFoundByOne_9 : decode cX2_isFoundByOne 9 = .ok (.bipush 9, 2) := by decide +kernel
theorem dX2_isFoundByOne_11 : decode cX2_isFoundByOne 11 = .ok (.if_icmp .gt 24, 3) := by decide +kernel
theorem dX2_isFoundByOne_14 : decode cX2_isFoundByOne 14 = .ok (.aload_n 0, 1) := by decide +kernel
theorem dX2_isFoundByOne_15 : decode cX2_isFoundByOne 15 = .ok (.iload_n 2, 1) := by decide +kernel
theorem dX2_isFoundByOne_16 : decode cX2_isFoundByOne 16 = .ok (.putfield 13, 3) := by decide +kernel
theorem dX2_isFoundByOne_19 : decode cX2_isFoundByOne 19 = .ok (.aload_n 0, 1) := by decide +kernel
theorem dX2_isFoundByOne_20 : decode cX2_isFoundByOne 20 = .ok (.aload_n 1, 1) := by decide +kernel
theorem dX2_isFoundByOne_21 : decode cX2_isFoundByOne 21 = .ok (.invokevirtual 19, 3) := by decide +kernel
theorem dX2_isFoundByOne_24 : decode cX2_isFoundByOne 24 = .ok (.ifCond .eq 5, 3) := by decide +kernel
theorem dX2_isFoundByOne_27 : decode cX2_isFoundByOne 27 = .ok (.iconst 1, 1) := by decide +kernel
theorem dX2_isFoundByOne_28 : decode cX2_isFoundByOne 28 = .ok (.ireturn, 1) := by decide +kernel
theorem dX2_isFoundByOne_29 : decode cX2_isFoundByOne 29 = .ok (.iinc 2 1, 3) := by decide +kernel
theorem dX2_isFoundByOne_32 : decode cX2_isFoundByOne 32 = .ok (.goto (-24), 3) := by decide +kernel
theorem dX2_isFoundByOne_35 : decode cX2_isFoundByOne 35 = .ok (.iconst 0, 1) := by decide +kernel
theorem dX2_isFoundByOne_36 : decode cX2_isFoundByOne 36 = .ok (.ireturn, 1) := by decide +kernel
theorem dX2_isFoundByTwo_0 : decode cX2_isFoundByTwo 0 = .ok (.aload_n 0, 1) := by decide +kernel
theorem dX2_isFoundByTwo_1 : decode cX2_isFoundByTwo 1 = .ok (.iconst 2, 1) := by decide +kernel
theorem dX2_isFoundByTwo_2 : decode cX2_isFoundByTwo 2 = .ok (.putfield 7, 3) := by decide +kernel
theorem dX2_isFoundByTwo_5 : decode cX2_isFoundByTwo 5 = .ok (.bipush (-9), 2) := by decide +kernel
theorem dX2_isFoundByTwo_7 : decode cX2_isFoundByTwo 7 = .ok (.istore_n 2, 1) := by decide +kernel
theorem dX2_isFoundByTwo_8 : decode cX2_isFoundByTwo 8 = .ok (.iload_n 2, 1) := by decide +kernel
theorem dX2_isFoundByTwo_9 : decode cX2_isFoundByTwo 9 = .ok (.bipush 9, 2) := by decide +kernel
theorem dX2_isFoundByTwo_11 : decode cX2_isFoundByTwo 11 = .ok (.if_icmp .gt 44, 3) := by decide +kernel
theorem dX2_isFoundByTwo_14 : decode cX2_isFoundByTwo 14 = .ok (.bipush (-9), 2) := by decide +kernel
theorem dX2_isFoundByTwo_16 : decode cX2_isFoundByTwo 16 = .ok (.istore_n 3, 1) := by decide +kernel
theorem dX2_isFoundByTwo_17 : decode cX2_isFoundByTwo 17 = .ok (.iload_n 3, 1) := by decide +kernel
theorem dX2_isFoundByTwo_18 : decode cX2_isFoundByTwo 18 = .ok (.bipush 9, 2) := by decide +kernel
theorem dX2_isFoundByTwo_20 : decode cX2_isFoundByTwo 20 = .ok (.if_icmp .gt 29, 3) := by decide +kernel
theorem dX2_isFoundByTwo_23 : decode cX2_isFoundByTwo 23 = .ok (.aload_n 0, 1) := by decide +kernel
theorem dX2_isFoundByTwo_24 : decode cX2_isFoundByTwo 24 = .ok (.iload_n 2, 1) := by decide +kernel
theorem dX2_isFoundByTwo_25 : decode cX2_isFoundByTwo 25 = .ok (.putfield 13, 3) := by decide +kernel
theorem dX2_isFoundByTwo_28 : decode cX2_isFoundByTwo 28 = .ok (.aload_n 0, 1) := by decide +kernel
theorem dX2_isFoundByTwo_29 : decode cX2_isFoundByTwo 29 = .ok (.iload_n 3, 1) := by decide +kernel
theorem dX2_isFoundByTwo_30 : decode cX2_isFoundByTwo 30 = .ok (.putfield 16, 3) := by decide +kernel
theorem dX2_isFoundByTwo_33 : decode cX2_isFoundByTwo 33 = .ok (.aload_n 0, 1) := by decide +kernel
theorem dX2_isFoundByTwo_34 : decode cX2_isFoundByTwo 34 = .ok (.aload_n 1, 1) := by decide +kernel
theorem dX2_isFoundByTwo_35 : decode cX2_isFoundByTwo 35 = .ok (.invokevirtual 19, 3) := by decide +kernel
theorem dX2_isFoundByTwo_38 : decode cX2_isFoundByTwo 38 = .ok (.ifCond .eq 5, 3) := by decide +kernel
theorem dX2_isFoundByTwo_41 : decode cX2_isFoundByTwo 41 = .ok (.iconst 1, 1) := by decide +kernel
theorem dX2_isFoundByTwo_42 : decode cX2_isFoundByTwo 42 = .ok (.ireturn, 1) := by decide +kernel
theorem dX2_isFoundByTwo_43 : decode cX2_isFoundByTwo 43 = .ok (.iinc 3 1, 3) := by decide +kernel
theorem dX2_isFoundByTwo_46 : decode cX2_isFoundByTwo 46 = .ok (.goto (-29), 3) := by decide +kernel
theorem dX2_isFoundByTwo_49 : decode cX2_isFoundByTwo 49 = .ok (.iinc 2 1, 3) := by decide +kernel
theorem dX2_isFoundByTwo_52 : decode cX2_isFoundByTwo 52 = .ok (.goto (-44), 3) := by decide +kernel
theorem dX2_isFoundByTwo_55 : decode cX2_isFoundByTwo 55 = .ok (.iconst 0, 1) := by decide +kernel
theorem dX2_isFoundByTwo_56 : decode cX2_isFoundByTwo 56 = .ok (.ireturn, 1) := by decide +kernel
theorem dX2_fits_0 : decode cX2_fits 0 = .ok (.aload_n 0, 1) := by decide +kernel
theorem dX2_fits_1 : decode cX2_fits 1 = .ok (.getfield 7, 3) := by decide +kernel
theorem dX2_fits_4 : decode cX2_fits 4 = .ok (.istore_n 2, 1) := by decide +kernel
theorem dX2_fits_5 : decode cX2_fits 5 = .ok (.iload_n 2, 1) := by decide +kernel
theorem dX2_fits_6 : decode cX2_fits 6 = .ok (.aload_n 1, 1) := by decide +kernel
theorem dX2_fits_7 : decode cX2_fits 7 = .ok (.invokevirtual 29, 3) := by decide +kernel
theorem dX2_fits_10 : decode cX2_fits 10 = .ok (.if_icmp .ge 44, 3) := by decide +kernel
theorem dX2_fits_13 : decode cX2_fits 13 = .ok (.aload_n 1, 1) := by decide +kernel
theorem dX2_fits_14 : decode cX2_fits 14 = .ok (.iload_n 2, 1) := by decide +kernel
theorem dX2_fits_15 : decode cX2_fits 15 = .ok (.invokevirtual 35, 3) := by decide +kernel
theorem dX2_fits_18 : decode cX2_fits 18 = .ok (.aload_n 0, 1) := by decide +kernel
theorem dX2_fits_19 : decode cX2_fits 19 = .ok (.getfield 13, 3) := by decide +kernel
theorem dX2_fits_22 : decode cX2_fits 22 = .ok (.aload_n 1, 1) := by decide +kernel
theorem dX2_fits_23 : decode cX2_fits 23 = .ok (.iload_n 2, 1) := by decide +kernel
theorem dX2_fits_24 : decode cX2_fits 24 = .ok (.iconst 1, 1) := by decide +kernel
theorem dX2_fits_25 : decode cX2_fits 25 = .ok (.isub, 1) := by decide +kernel
theorem dX2_fits_26 : decode cX2_fits 26 = .ok (.invokevirtual 35, 3) := by decide +kernel
theorem dX2_fits_29 : decode cX2_fits 29 = .ok (.imul, 1) := by decide +kernel
theorem dX2_fits_30 : decode cX2_fits 30 = .ok (.aload_n 0, 1) := by decide +kernel
theorem dX2_fits_31 : decode cX2_fits 31 = .ok (.getfield 16, 3) := by decide +kernel
theorem dX2_fits_34 : decode cX2_fits 34 = .ok (.aload_n 1, 1) := by decide +kernel
theorem dX2_fits_35 : decode cX2_fits 35 = .ok (.iload_n 2, 1) := by decide +kernel
theorem dX2_fits_36 : decode cX2_fits 36 = .ok (.iconst 2, 1) := by decide +kernel
theorem dX2_fits_37 : decode cX2_fits 37 = .ok (.isub, 1) := by decide +kernel
theorem dX2_fits_38 : decode cX2_fits 38 = .ok (.invokevirtual 35, 3) := by decide +kernel
theorem dX2_fits_41 : decode cX2_fits 41 = .ok (.imul, 1) := by decide +kernel
theorem dX2_fits_42 : decode cX2_fits 42 = .ok (.iadd, 1) := by decide +kernel
theorem dX2_fits_43 : decode cX2_fits 43 = .ok (.if_icmp .eq 5, 3) := by decide +kernel
theorem dX2_fits_46 : decode cX2_fits 46 = .ok (.iconst 0, 1) := by decide +kernel
theorem dX2_fits_47 : decode cX2_fits 47 = .ok (.ireturn, 1) := by decide +kernel
theorem dX2_fits_48 : decode cX2_fits 48 = .ok (.iinc 2 1, 3) := by decide +kernel
theorem dX2_fits_51 : decode cX2_fits 51 = .ok (.goto (-46), 3) := by decide +kernel
theorem dX2_fits_54 : decode cX2_fits 54 = .ok (.iconst 1, 1) := by decide +kernel
theorem dX2_fits_55 : decode cX2_fits 55 = .ok (.ireturn, 1) := by decide +kernel
theorem dX3_init_0 : decode cX3_init 0 = .ok (.aload_n 0, 1) := by decide +kernel
theorem dX3_init_1 : decode cX3_init 1 = .ok (.invokespecial 3, 3) := by decide +kernel
theorem dX3_init_4 : decode cX3_init 4 = .ok (.aload_n 0, 1) := by decide +kernel
theorem dX3_init_5 : decode cX3_init 5 = .ok (.bipush 8, 2) := by decide +kernel
theorem dX3_init_7 : decode cX3_init 7 = .ok (.newarray .int, 2) := by decide +kernel
theorem dX3_init_9 : decode cX3_init 9 = .ok (.putfield 9, 3) := by decide +kernel
theorem dX3_init_12 : decode cX3_init 12 = .ok (.aload_n 0, 1) := by decide +kernel
theorem dX3_init_13 : decode cX3_init 13 = .ok (.bipush 32, 2) := by decide +kernel
theorem dX3_init_15 : decode cX3_init 15 = .ok (.newarray .int, 2) := by decide +kernel
theorem dX3_init_17 : decode cX3_init 17 = .ok (.putfield 15, 3) := by decide +kernel
theorem dX3_init_20 : decode cX3_init 20 = .ok (.return_, 1) := by decide +kernel
theorem dX3_size_0 : decode cX3_size 0 = .ok (.aload_n 0, 1) := by decide +kernel
theorem dX3_size_1 : decode cX3_size 1 = .ok (.getfield 18, 3) := by decide +kernel
theorem dX3_size_4 : decode cX3_size 4 = .ok (.ireturn, 1) := by decide +kernel
theorem dX3_holds_0 : decode cX3_holds 0 = .ok (.iload_n 1, 1) := by decide +kernel
theorem dX3_holds_1 : decode cX3_holds 1 = .ok (.ifCond .lt 21, 3) := by decide +kernel
theorem dX3_holds_4 : decode cX3_holds 4 = .ok (.iload_n 1, 1) := by decide +kernel
theorem dX3_holds_5 : decode cX3_holds 5 = .ok (.aload_n 0, 1) := by decide +kernel
theorem dX3_holds_6 : decode cX3_holds 6 = .ok (.getfield 18, 3) := by decide +kernel
theorem dX3_holds_9 : decode cX3_holds 9 = .ok (.if_icmp .ge 13, 3) := by decide +kernel
theorem dX3_holds_12 : decode cX3_holds 12 = .ok (.iload_n 1, 1) := by decide +kernel
theorem dX3_holds_13 : decode cX3_holds 13 = .ok (.bipush 8, 2) := by decide +kernel
theorem dX3_holds_15 : decode cX3_holds 15 = .ok (.if_icmp .ge 7, 3) := by decide +kernel
theorem dX3_holds_18 : decode cX3_holds 18 = .ok (.iconst 1, 1) := by decide +kernel
theorem dX3_holds_19 : decode cX3_holds 19 = .ok (.goto 4, 3) := by decide +kernel
theorem dX3_holds_22 : decode cX3_holds 22 = .ok (.iconst 0, 1) := by decide +kernel
theorem dX3_holds_23 : decode cX3_holds 23 = .ok (.ireturn, 1) := by decide +kernel
theorem dX3_isTold_0 : decode cX3_isTold 0 = .ok (.aload_n 0, 1) := by decide +kernel
theorem dX3_isTold_1 : decode cX3_isTold 1 = .ok (.iload_n 1, 1) := by decide +kernel
theorem dX3_isTold_2 : decode cX3_isTold 2 = .ok (.invokevirtual 22, 3) := by decide +kernel
theorem dX3_isTold_5 : decode cX3_isTold 5 = .ok (.ifCond .eq 16, 3) := by decide +kernel
theorem dX3_isTold_8 : decode cX3_isTold 8 = .ok (.aload_n 0, 1) := by decide +kernel
theorem dX3_isTold_9 : decode cX3_isTold 9 = .ok (.getfield 9, 3) := by decide +kernel
theorem dX3_isTold_12 : decode cX3_isTold 12 = .ok (.iload_n 1, 1) := by decide +kernel
theorem dX3_isTold_13 : decode cX3_isTold 13 = .ok (.iaload, 1) := by decide +kernel
theorem dX3_isTold_14 : decode cX3_isTold 14 = .ok (.ifCond .ne 7, 3) := by decide +kernel
theorem dX3_isTold_17 : decode cX3_isTold 17 = .ok (.iconst 1, 1) := by decide +kernel
theorem dX3_isTold_18 : decode cX3_isTold 18 = .ok (.goto 4, 3) := by decide +kernel
theorem dX3_isTold_21 : decode cX3_isTold 21 = .ok (.iconst 0, 1) := by decide +kernel
theorem dX3_isTold_22 : decode cX3_isTold 22 = .ok (.ireturn, 1) := by decide +kernel
theorem dX3_kindOf_0 : decode cX3_kindOf 0 = .ok (.aload_n 0, 1) := by decide +kernel
theorem dX3_kindOf_1 : decode cX3_kindOf 1 = .ok (.iload_n 1, 1) := by decide +kernel
theorem dX3_kindOf_2 : decode cX3_kindOf 2 = .ok (.invokevirtual 22, 3) := by decide +kernel
theorem dX3_kindOf_5 : decode cX3_kindOf 5 = .ok (.ifCond .eq 12, 3) := by decide +kernel
theorem dX3_kindOf_8 : decode cX3_kindOf 8 = .ok (.aload_n 0, 1) := by decide +kernel
theorem dX3_kindOf_9 : decode cX3_kindOf 9 = .ok (.getfield 9, 3) := by decide +kernel
theorem dX3_kindOf_12 : decode cX3_kindOf 12 = .ok (.iload_n 1, 1) := by decide +kernel
theorem dX3_kindOf_13 : decode cX3_kindOf 13 = .ok (.iaload, 1) := by decide +kernel
theorem dX3_kindOf_14 : decode cX3_kindOf 14 = .ok (.goto 4, 3) := by decide +kernel
theorem dX3_kindOf_17 : decode cX3_kindOf 17 = .ok (.iconst 0, 1) := by decide +kernel
theorem dX3_kindOf_18 : decode cX3_kindOf 18 = .ok (.ireturn, 1) := by decide +kernel
theorem dX3_numberOf_0 : decode cX3_numberOf 0 = .ok (.aload_n 0, 1) := by decide +kernel
theorem dX3_numberOf_1 : decode cX3_numberOf 1 = .ok (.iload_n 1, 1) := by decide +kernel
theorem dX3_numberOf_2 : decode cX3_numberOf 2 = .ok (.invokevirtual 22, 3) := by decide +kernel
theorem dX3_numberOf_5 : decode cX3_numberOf 5 = .ok (.ifCond .eq 23, 3) := by decide +kernel
theorem dX3_numberOf_8 : decode cX3_numberOf 8 = .ok (.iload_n 2, 1) := by decide +kernel
theorem dX3_numberOf_9 : decode cX3_numberOf 9 = .ok (.invokestatic 26, 3) := by decide +kernel
theorem dX3_numberOf_12 : decode cX3_numberOf 12 = .ok (.ifCond .eq 16, 3) := by decide +kernel
theorem dX3_numberOf_15 : decode cX3_numberOf 15 = .ok (.aload_n 0, 1) := by decide +kernel
theorem dX3_numberOf_16 : decode cX3_numberOf 16 = .ok (.getfield 15, 3) := by decide +kernel
theorem dX3_numberOf_19 : decode cX3_numberOf 19 = .ok (.iload_n 1, 1) := by decide +kernel
theorem dX3_numberOf_20 : decode cX3_numberOf 20 = .ok (.iconst 4, 1) := by decide +kernel
theorem dX3_numberOf_21 : decode cX3_numberOf 21 = .ok (.imul, 1) := by decide +kernel
theorem dX3_numberOf_22 : decode cX3_numberOf 22 = .ok (.iload_n 2, 1) := by decide +kernel
theorem dX3_numberOf_23 : decode cX3_numberOf 23 = .ok (.iadd, 1) := by decide +kernel
theorem dX3_numberOf_24 : decode cX3_numberOf 24 = .ok (.iaload, 1) := by decide +kernel
theorem dX3_numberOf_25 : decode cX3_numberOf 25 = .ok (.goto 4, 3) := by decide +kernel
theorem dX3_numberOf_28 : decode cX3_numberOf 28 = .ok (.iconst 0, 1) := by decide +kernel
theorem dX3_numberOf_29 : decode cX3_numberOf 29 = .ok (.ireturn, 1) := by decide +kernel
theorem dX3_setNumber_0 : decode cX3_setNumber 0 = .ok (.aload_n 0, 1) := by decide +kernel
theorem dX3_setNumber_1 : decode cX3_setNumber 1 = .ok (.iload_n 1, 1) := by decide +kernel
theorem dX3_setNumber_2 : decode cX3_setNumber 2 = .ok (.invokevirtual 22, 3) := by decide +kernel
theorem dX3_setNumber_5 : decode cX3_setNumber 5 = .ok (.ifCond .eq 21, 3) := by decide +kernel
theorem dX3_setNumber_8 : decode cX3_setNumber 8 = .ok (.iload_n 2, 1) := by decide +kernel
theorem dX3_setNumber_9 : decode cX3_setNumber 9 = .ok (.invokestatic 26, 3) := by decide +kernel
theorem dX3_setNumber_12 : decode cX3_setNumber 12 = .ok (.ifCond .eq 14, 3) := by decide +kernel
theorem dX3_setNumber_15 : decode cX3_setNumber 15 = .ok (.aload_n 0, 1) := by decide +kernel
theorem dX3_setNumber_16 : decode cX3_setNumber 16 = .ok (.getfield 15, 3) := by decide +kernel
theorem dX3_setNumber_19 : decode cX3_setNumber 19 = .ok (.iload_n 1, 1) := by decide +kernel
theorem dX3_setNumber_20 : decode cX3_setNumber 20 = .ok (.iconst 4, 1) := by decide +kernel
theorem dX3_setNumber_21 : decode cX3_setNumber 21 = .ok (.imul, 1) := by decide +kernel
theorem dX3_setNumber_22 : decode cX3_setNumber 22 = .ok (.iload_n 2, 1) := by decide +kernel
theorem dX3_setNumber_23 : decode cX3_setNumber 23 = .ok (.iadd, 1) := by decide +kernel
theorem dX3_setNumber_24 : decode cX3_setNumber 24 = .ok (.iload_n 3, 1) := by decide +kernel
theorem dX3_setNumber_25 : decode cX3_setNumber 25 = .ok (.iastore, 1) := by decide +kernel
theorem dX3_setNumber_26 : decode cX3_setNumber 26 = .ok (.return_, 1) := by decide +kernel
theorem dX3_append_0 : decode cX3_append 0 = .ok (.aload_n 0, 1) := by decide +kernel
theorem dX3_append_1 : decode cX3_append 1 = .ok (.getfield 18, 3) := by decide +kernel
theorem dX3_append_4 : decode cX3_append 4 = .ok (.bipush 8, 2) := by decide +kernel
theorem dX3_append_6 : decode cX3_append 6 = .ok (.if_icmp .lt 5, 3) := by decide +kernel
theorem dX3_append_9 : decode cX3_append 9 = .ok (.iconst 0, 1) := by decide +kernel
theorem dX3_append_10 : decode cX3_append 10 = .ok (.ireturn, 1) := by decide +kernel
theorem dX3_append_11 : decode cX3_append 11 = .ok (.aload_n 0, 1) := by decide +kernel
theorem dX3_append_12 : decode cX3_append 12 = .ok (.dup, 1) := by decide +kernel
theorem dX3_append_13 : decode cX3_append 13 = .ok (.getfield 18, 3) := by decide +kernel
theorem dX3_append_16 : decode cX3_append 16 = .ok (.iconst 1, 1) := by decide +kernel
theorem dX3_append_17 : decode cX3_append 17 = .ok (.iadd, 1) := by decide +kernel
theorem dX3_append_18 : decode cX3_append 18 = .ok (.putfield 18, 3) := by decide +kernel
theorem dX3_append_21 : decode cX3_append 21 = .ok (.aload_n 0, 1) := by decide +kernel
theorem dX3_append_22 : decode cX3_append 22 = .ok (.aload_n 0, 1) := by decide +kernel
theorem dX3_append_23 : decode cX3_append 23 = .ok (.getfield 18, 3) := by decide +kernel
theorem dX3_append_26 : decode cX3_append 26 = .ok (.iconst 1, 1) := by decide +kernel
theorem dX3_append_27 : decode cX3_append 27 = .ok (.isub, 1) := by decide +kernel
theorem dX3_append_28 : decode cX3_append 28 = .ok (.iload_n 1, 1) := by decide +kernel
theorem dX3_append_29 : decode cX3_append 29 = .ok (.iload_n 2, 1) := by decide +kernel
theorem dX3_append_30 : decode cX3_append 30 = .ok (.iload_n 3, 1) := by decide +kernel
theorem dX3_append_31 : decode cX3_append 31 = .ok (.iload 4, 2) := by decide +kernel
theorem dX3_append_33 : decode cX3_append 33 = .ok (.iload 5, 2) := by decide +kernel
theorem dX3_append_35 : decode cX3_append 35 = .ok (.invokevirtual 29, 3) := by decide +kernel
theorem dX3_append_38 : decode cX3_append 38 = .ok (.iconst 1, 1) := by decide +kernel
theorem dX3_append_39 : decode cX3_append 39 = .ok (.ireturn, 1) := by decide +kernel
theorem dX3_write_0 : decode cX3_write 0 = .ok (.iload_n 1, 1) := by decide +kernel
theorem dX3_write_1 : decode cX3_write 1 = .ok (.ifCond .lt 9, 3) := by decide +kernel
theorem dX3_write_4 : decode cX3_write 4 = .ok (.iload_n 1, 1) := by decide +kernel
theorem dX3_write_5 : decode cX3_write 5 = .ok (.bipush 8, 2) := by decide +kernel
theorem dX3_write_7 : decode cX3_write 7 = .ok (.if_icmp .lt 4, 3) := by decide +kernel
theorem dX3_write_10 : decode cX3_write 10 = .ok (.return_, 1) := by decide +kernel
theorem dX3_write_11 : decode cX3_write 11 = .ok (.iload_n 1, 1) := by decide +kernel
theorem dX3_write_12 : decode cX3_write 12 = .ok (.iconst 4, 1) := by decide +kernel
theorem dX3_write_13 : decode cX3_write 13 = .ok (.imul, 1) := by decide +kernel
theorem dX3_write_14 : decode cX3_write 14 = .ok (.istore 7, 2) := by decide +kernel
theorem dX3_write_16 : decode cX3_write 16 = .ok (.aload_n 0, 1) := by decide +kernel
theorem dX3_write_17 : decode cX3_write 17 = .ok (.getfield 9, 3) := by decide +kernel
theorem dX3_write_20 : decode cX3_write 20 = .ok (.iload_n 1, 1) := by decide +kernel
theorem dX3_write_21 : decode cX3_write 21 = .ok (.iload_n 2, 1) := by decide +kernel
theorem dX3_write_22 : decode cX3_write 22 = .ok (.iastore, 1) := by decide +kernel
theorem dX3_write_23 : decode cX3_write 23 = .ok (.aload_n 0, 1) := by decide +kernel
theorem dX3_write_24 : decode cX3_write 24 = .ok (.getfield 15, 3) := by decide +kernel
theorem dX3_write_27 : decode cX3_write 27 = .ok (.iload 7, 2) := by decide +kernel
theorem dX3_write_29 : decode cX3_write 29 = .ok (.iload_n 3, 1) := by decide +kernel
theorem dX3_write_30 : decode cX3_write 30 = .ok (.iastore, 1) := by decide +kernel
theorem dX3_write_31 : decode cX3_write 31 = .ok (.aload_n 0, 1) := by decide +kernel
theorem dX3_write_32 : decode cX3_write 32 = .ok (.getfield 15, 3) := by decide +kernel
theorem dX3_write_35 : decode cX3_write 35 = .ok (.iload 7, 2) := by decide +kernel
theorem dX3_write_37 : decode cX3_write 37 = .ok (.iconst 1, 1) := by decide +kernel
theorem dX3_write_38 : decode cX3_write 38 = .ok (.iadd, 1) := by decide +kernel
theorem dX3_write_39 : decode cX3_write 39 = .ok (.iload 4, 2) := by decide +kernel
theorem dX3_write_41 : decode cX3_write 41 = .ok (.iastore, 1) := by decide +kernel
theorem dX3_write_42 : decode cX3_write 42 = .ok (.aload_n 0, 1) := by decide +kernel
theorem dX3_write_43 : decode cX3_write 43 = .ok (.getfield 15, 3) := by decide +kernel
theorem dX3_write_46 : decode cX3_write 46 = .ok (.iload 7, 2) := by decide +kernel
theorem dX3_write_48 : decode cX3_write 48 = .ok (.iconst 2, 1) := by decide +kernel
theorem dX3_write_49 : decode cX3_write 49 = .ok (.iadd, 1) := by decide +kernel
theorem dX3_write_50 : decode cX3_write 50 = .ok (.iload 5, 2) := by decide +kernel
theorem dX3_write_52 : decode cX3_write 52 = .ok (.iastore, 1) := by decide +kernel
theorem dX3_write_53 : decode cX3_write 53 = .ok (.aload_n 0, 1) := by decide +kernel
theorem dX3_write_54 : decode cX3_write 54 = .ok (.getfield 15, 3) := by decide +kernel
theorem dX3_write_57 : decode cX3_write 57 = .ok (.iload 7, 2) := by decide +kernel
theorem dX3_write_59 : decode cX3_write 59 = .ok (.iconst 3, 1) := by decide +kernel
theorem dX3_write_60 : decode cX3_write 60 = .ok (.iadd, 1) := by decide +kernel
theorem dX3_write_61 : decode cX3_write 61 = .ok (.iload 6, 2) := by decide +kernel
theorem dX3_write_63 : decode cX3_write 63 = .ok (.iastore, 1) := by decide +kernel
theorem dX3_write_64 : decode cX3_write 64 = .ok (.return_, 1) := by decide +kernel
theorem dX3_removeLast_0 : decode cX3_removeLast 0 = .ok (.aload_n 0, 1) := by decide +kernel
theorem dX3_removeLast_1 : decode cX3_removeLast 1 = .ok (.getfield 18, 3) := by decide +kernel
theorem dX3_removeLast_4 : decode cX3_removeLast 4 = .ok (.ifCond .le 13, 3) := by decide +kernel
theorem dX3_removeLast_7 : decode cX3_removeLast 7 = .ok (.aload_n 0, 1) := by decide +kernel
theorem dX3_removeLast_8 : decode cX3_removeLast 8 = .ok (.dup, 1) := by decide +kernel
theorem dX3_removeLast_9 : decode cX3_removeLast 9 = .ok (.getfield 18, 3) := by decide +kernel
theorem dX3_removeLast_12 : decode cX3_removeLast 12 = .ok (.iconst 1, 1) := by decide +kernel
theorem dX3_removeLast_13 : decode cX3_removeLast 13 = .ok (.isub, 1) := by decide +kernel
theorem dX3_removeLast_14 : decode cX3_removeLast 14 = .ok (.putfield 18, 3) := by decide +kernel
theorem dX3_removeLast_17 : decode cX3_removeLast 17 = .ok (.return_, 1) := by decide +kernel
theorem dX3_clear_0 : decode cX3_clear 0 = .ok (.aload_n 0, 1) := by decide +kernel
theorem dX3_clear_1 : decode cX3_clear 1 = .ok (.iconst 0, 1) := by decide +kernel
theorem dX3_clear_2 : decode cX3_clear 2 = .ok (.putfield 18, 3) := by decide +kernel
theorem dX3_clear_5 : decode cX3_clear 5 = .ok (.return_, 1) := by decide +kernel
theorem dX3_copyFrom_0 : decode cX3_copyFrom 0 = .ok (.aload_n 1, 1) := by decide +kernel
theorem dX3_copyFrom_1 : decode cX3_copyFrom 1 = .ok (.getfield 9, 3) := by decide +kernel
theorem dX3_copyFrom_4 : decode cX3_copyFrom 4 = .ok (.iconst 0, 1) := by decide +kernel
theorem dX3_copyFrom_5 : decode cX3_copyFrom 5 = .ok (.aload_n 0, 1) := by decide +kernel
theorem dX3_copyFrom_6 : decode cX3_copyFrom 6 = .ok (.getfield 9, 3) := by decide +kernel
theorem dX3_copyFrom_9 : decode cX3_copyFrom 9 = .ok (.iconst 0, 1) := by decide +kernel
theorem dX3_copyFrom_10 : decode cX3_copyFrom 10 = .ok (.bipush 8, 2) := by decide +kernel
theorem dX3_copyFrom_12 : decode cX3_copyFrom 12 = .ok (.invokestatic 33, 3) := by decide +kernel
theorem dX3_copyFrom_15 : decode cX3_copyFrom 15 = .ok (.aload_n 1, 1) := by decide +kernel
theorem dX3_copyFrom_16 : decode cX3_copyFrom 16 = .ok (.getfield 15, 3) := by decide +kernel
theorem dX3_copyFrom_19 : decode cX3_copyFrom 19 = .ok (.iconst 0, 1) := by decide +kernel
theorem dX3_copyFrom_20 : decode cX3_copyFrom 20 = .ok (.aload_n 0, 1) := by decide +kernel
theorem dX3_copyFrom_21 : decode cX3_copyFrom 21 = .ok (.getfield 15, 3) := by decide +kernel
theorem dX3_copyFrom_24 : decode cX3_copyFrom 24 = .ok (.iconst 0, 1) := by decide +kernel
theorem dX3_copyFrom_25 : decode cX3_copyFrom 25 = .ok (.bipush 32, 2) := by decide +kernel
theorem dX3_copyFrom_27 : decode cX3_copyFrom 27 = .ok (.invokestatic 33, 3) := by decide +kernel
theorem dX3_copyFrom_30 : decode cX3_copyFrom 30 = .ok (.aload_n 0, 1) := by decide +kernel
theorem dX3_copyFrom_31 : decode cX3_copyFrom 31 = .ok (.aload_n 1, 1) := by decide +kernel
theorem dX3_copyFrom_32 : decode cX3_copyFrom 32 = .ok (.getfield 18, 3) := by decide +kernel
theorem dX3_copyFrom_35 : decode cX3_copyFrom 35 = .ok (.putfield 18, 3) := by decide +kernel
theorem dX3_copyFrom_38 : decode cX3_copyFrom 38 = .ok (.return_, 1) := by decide +kernel
theorem dX3_isPlace_0 : decode cX3_isPlace 0 = .ok (.iload_n 0, 1) := by decide +kernel
theorem dX3_isPlace_1 : decode cX3_isPlace 1 = .ok (.ifCond .lt 12, 3) := by decide +kernel
theorem dX3_isPlace_4 : decode cX3_isPlace 4 = .ok (.iload_n 0, 1) := by decide +kernel
theorem dX3_isPlace_5 : decode cX3_isPlace 5 = .ok (.iconst 4, 1) := by decide +kernel
theorem dX3_isPlace_6 : decode cX3_isPlace 6 = .ok (.if_icmp .ge 7, 3) := by decide +kernel
theorem dX3_isPlace_9 : decode cX3_isPlace 9 = .ok (.iconst 1, 1) := by decide +kernel
theorem dX3_isPlace_10 : decode cX3_isPlace 10 = .ok (.goto 4, 3) := by decide +kernel
theorem dX3_isPlace_13 : decode cX3_isPlace 13 = .ok (.iconst 0, 1) := by decide +kernel
theorem dX3_isPlace_14 : decode cX3_isPlace 14 = .ok (.ireturn, 1) := by decide +kernel
theorem dX4_init_0 : decode cX4_init 0 = .ok (.aload_n 0, 1) := by decide +kernel
theorem dX4_init_1 : decode cX4_init 1 = .ok (.invokespecial 1, 3) := by decide +kernel
theorem dX4_init_4 : decode cX4_init 4 = .ok (.aload_n 0, 1) := by decide +kernel
theorem dX4_init_5 : decode cX4_init 5 = .ok (.iload_n 1, 1) := by decide +kernel
theorem dX4_init_6 : decode cX4_init 6 = .ok (.iconst 0, 1) := by decide +kernel
theorem dX4_init_7 : decode cX4_init 7 = .ok (.invokestatic 7, 3) := by decide +kernel
theorem dX4_init_10 : decode cX4_init 10 = .ok (.newarray .int, 2) := by decide +kernel
theorem dX4_init_12 : decode cX4_init 12 = .ok (.putfield 13, 3) := by decide +kernel
theorem dX4_init_15 : decode cX4_init 15 = .ok (.return_, 1) := by decide +kernel
theorem dX4_size_0 : decode cX4_size 0 = .ok (.aload_n 0, 1) := by decide +kernel
theorem dX4_size_1 : decode cX4_size 1 = .ok (.getfield 19, 3) := by decide +kernel
theorem dX4_size_4 : decode cX4_size 4 = .ok (.ireturn, 1) := by decide +kernel
theorem dX4_at_0 : decode cX4_at 0 = .ok (.iload_n 1, 1) := by decide +kernel
theorem dX4_at_1 : decode cX4_at 1 = .ok (.ifCond .lt 29, 3) := by decide +kernel
theorem dX4_at_4 : decode cX4_at 4 = .ok (.iload_n 1, 1) := by decide +kernel
theorem dX4_at_5 : decode cX4_at 5 = .ok (.aload_n 0, 1) := by decide +kernel
theorem dX4_at_6 : decode cX4_at 6 = .ok (.getfield 19, 3) := by decide +kernel
theorem dX4_at_9 : decode cX4_at 9 = .ok (.if_icmp .ge 21, 3) := by decide +kernel
theorem dX4_at_12 : decode cX4_at 12 = .ok (.iload_n 1, 1) := by decide +kernel
theorem dX4_at_13 : decode cX4_at 13 = .ok (.aload_n 0, 1) := by decide +kernel
theorem dX4_at_14 : decode cX4_at 14 = .ok (.getfield 13, 3) := by decide +kernel
theorem dX4_at_17 : decode cX4_at 17 = .ok (.arraylength, 1) := by decide +kernel
theorem dX4_at_18 : decode cX4_at 18 = .ok (.if_icmp .ge 12, 3) := by decide +kernel
theorem dX4_at_21 : decode cX4_at 21 = .ok (.aload_n 0, 1) := by decide +kernel
theorem dX4_at_22 : decode cX4_at 22 = .ok (.getfield 13, 3) := by decide +kernel
theorem dX4_at_25 : decode cX4_at 25 = .ok (.iload_n 1, 1) := by decide +kernel
theorem dX4_at_26 : decode cX4_at 26 = .ok (.iaload, 1) := by decide +kernel
theorem dX4_at_27 : decode cX4_at 27 = .ok (.goto 4, 3) := by decide +kernel
theorem dX4_at_30 : decode cX4_at 30 = .ok (.iconst 0, 1) := by decide +kernel
theorem dX4_at_31 : decode cX4_at 31 = .ok (.ireturn, 1) := by decide +kernel
theorem dX4_append_0 : decode cX4_append 0 = .ok (.aload_n 0, 1) := by decide +kernel
theorem dX4_append_1 : decode cX4_append 1 = .ok (.getfield 19, 3) := by decide +kernel
theorem dX4_append_4 : decode cX4_append 4 = .ok (.ifCond .lt 15, 3) := by decide +kernel
theorem dX4_append_7 : decode cX4_append 7 = .ok (.aload_n 0, 1) := by decide +kernel
theorem dX4_append_8 : decode cX4_append 8 = .ok (.getfield 19, 3) := by decide +kernel
theorem dX4_append_11 : decode cX4_append 11 = .ok (.aload_n 0, 1) := by decide +kernel
theorem dX4_append_12 : decode cX4_append 12 = .ok (.getfield 13, 3) := by decide +kernel
theorem dX4_append_15 : decode cX4_append 15 = .ok (.arraylength, 1) := by decide +kernel
theorem dX4_append_16 : decode cX4_append 16 = .ok (.if_icmp .lt 5, 3) := by decide +kernel
theorem dX4_append_19 : decode cX4_append 19 = .ok (.iconst 0, 1) := by decide +kernel
theorem dX4_append_20 : decode cX4_append 20 = .ok (.ireturn, 1) := by decide +kernel
theorem dX4_append_21 : decode cX4_append 21 = .ok (.aload_n 0, 1) := by decide +kernel
theorem dX4_append_22 : decode cX4_append 22 = .ok (.getfield 13, 3) := by decide +kernel
theorem dX4_append_25 : decode cX4_append 25 = .ok (.aload_n 0, 1) := by decide +kernel
theorem dX4_append_26 : decode cX4_append 26 = .ok (.getfield 19, 3) := by decide +kernel
theorem dX4_append_29 : decode cX4_append 29 = .ok (.iload_n 1, 1) := by decide +kernel
theorem dX4_append_30 : decode cX4_append 30 = .ok (.iastore, 1) := by decide +kernel
theorem dX4_append_31 : decode cX4_append 31 = .ok (.aload_n 0, 1) := by decide +kernel
theorem dX4_append_32 : decode cX4_append 32 = .ok (.dup, 1) := by decide +kernel
theorem dX4_append_33 : decode cX4_append 33 = .ok (.getfield 19, 3) := by decide +kernel
theorem dX4_append_36 : decode cX4_append 36 = .ok (.iconst 1, 1) := by decide +kernel
theorem dX4_append_37 : decode cX4_append 37 = .ok (.iadd, 1) := by decide +kernel
theorem dX4_append_38 : decode cX4_append 38 = .ok (.putfield 19, 3) := by decide +kernel
theorem dX4_append_41 : decode cX4_append 41 = .ok (.iconst 1, 1) := by decide +kernel
theorem dX4_append_42 : decode cX4_append 42 = .ok (.ireturn, 1) := by decide +kernel
theorem dX4_clear_0 : decode cX4_clear 0 = .ok (.aload_n 0, 1) := by decide +kernel
theorem dX4_clear_1 : decode cX4_clear 1 = .ok (.iconst 0, 1) := by decide +kernel
theorem dX4_clear_2 : decode cX4_clear 2 = .ok (.putfield 19, 3) := by decide +kernel
theorem dX4_clear_5 : decode cX4_clear 5 = .ok (.return_, 1) := by decide +kernel
theorem dX4_copyFrom_0 : decode cX4_copyFrom 0 = .ok (.aload_n 0, 1) := by decide +kernel
theorem dX4_copyFrom_1 : decode cX4_copyFrom 1 = .ok (.invokevirtual 23, 3) := by decide +kernel
theorem dX4_copyFrom_4 : decode cX4_copyFrom 4 = .ok (.iconst 0, 1) := by decide +kernel
theorem dX4_copyFrom_5 : decode cX4_copyFrom 5 = .ok (.istore_n 2, 1) := by decide +kernel
theorem dX4_copyFrom_6 : decode cX4_copyFrom 6 = .ok (.iload_n 2, 1) := by decide +kernel
theorem dX4_copyFrom_7 : decode cX4_copyFrom 7 = .ok (.aload_n 1, 1) := by decide +kernel
theorem dX4_copyFrom_8 : decode cX4_copyFrom 8 = .ok (.invokevirtual 26, 3) := by decide +kernel
theorem dX4_copyFrom_11 : decode cX4_copyFrom 11 = .ok (.if_icmp .ge 19, 3) := by decide +kernel
theorem dX4_copyFrom_14 : decode cX4_copyFrom 14 = .ok (.aload_n 0, 1) := by decide +kernel
theorem dX4_copyFrom_15 : decode cX4_copyFrom 15 = .ok (.aload_n 1, 1) := by decide +kernel
theorem dX4_copyFrom_16 : decode cX4_copyFrom 16 = .ok (.iload_n 2, 1) := by decide +kernel
theorem dX4_copyFrom_17 : decode cX4_copyFrom 17 = .ok (.invokevirtual 29, 3) := by decide +kernel
theorem dX4_copyFrom_20 : decode cX4_copyFrom 20 = .ok (.invokevirtual 33, 3) := by decide +kernel
theorem dX4_copyFrom_23 : decode cX4_copyFrom 23 = .ok (.pop, 1) := by decide +kernel
theorem dX4_copyFrom_24 : decode cX4_copyFrom 24 = .ok (.iinc 2 1, 3) := by decide +kernel
theorem dX4_copyFrom_27 : decode cX4_copyFrom 27 = .ok (.goto (-21), 3) := by decide +kernel
theorem dX4_copyFrom_30 : decode cX4_copyFrom 30 = .ok (.return_, 1) := by decide +kernel
theorem dX5_init_0 : decode cX5_init 0 = .ok (.aload_n 0, 1) := by decide +kernel
theorem dX5_init_1 : decode cX5_init 1 = .ok (.invokespecial 3, 3) := by decide +kernel
theorem dX5_init_4 : decode cX5_init 4 = .ok (.aload_n 0, 1) := by decide +kernel
theorem dX5_init_5 : decode cX5_init 5 = .ok (.new 9, 3) := by decide +kernel
theorem dX5_init_8 : decode cX5_init 8 = .ok (.dup, 1) := by decide +kernel
theorem dX5_init_9 : decode cX5_init 9 = .ok (.invokespecial 11, 3) := by decide +kernel
theorem dX5_init_12 : decode cX5_init 12 = .ok (.putfield 12, 3) := by decide +kernel
theorem dX5_init_15 : decode cX5_init 15 = .ok (.return_, 1) := by decide +kernel
theorem dX5_draft_0 : decode cX5_draft 0 = .ok (.aload_n 0, 1) := by decide +kernel
theorem dX5_draft_1 : decode cX5_draft 1 = .ok (.getfield 12, 3) := by decide +kernel
theorem dX5_draft_4 : decode cX5_draft 4 = .ok (.areturn, 1) := by decide +kernel
theorem dX5_isWhole_0 : decode cX5_isWhole 0 = .ok (.aload_n 0, 1) := by decide +kernel
theorem dX5_isWhole_1 : decode cX5_isWhole 1 = .ok (.aload_n 1, 1) := by decide +kernel
theorem dX5_isWhole_2 : decode cX5_isWhole 2 = .ok (.invokevirtual 18, 3) := by decide +kernel
theorem dX5_isWhole_5 : decode cX5_isWhole 5 = .ok (.aload_n 1, 1) := by decide +kernel
theorem dX5_isWhole_6 : decode cX5_isWhole 6 = .ok (.invokevirtual 22, 3) := by decide +kernel
theorem dX5_isWhole_9 : decode cX5_isWhole 9 = .ok (.if_icmp .ne 14, 3) := by decide +kernel
theorem dX5_isWhole_12 : decode cX5_isWhole 12 = .ok (.aload_n 0, 1) := by decide +kernel
theorem dX5_isWhole_13 : decode cX5_isWhole 13 = .ok (.invokevirtual 28, 3) := by decide +kernel
theorem dX5_isWhole_16 : decode cX5_isWhole 16 = .ok (.ifCond .eq 7, 3) := by decide +kernel
theorem dX5_isWhole_19 : decode cX5_isWhole 19 = .ok (.iconst 1, 1) := by decide +kernel
theorem dX5_isWhole_20 : decode cX5_isWhole 20 = .ok (.goto 4, 3) := by decide +kernel
theorem dX5_isWhole_23 : decode cX5_isWhole 23 = .ok (.iconst 0, 1) := by decide +kernel
theorem dX5_isWhole_24 : decode cX5_isWhole 24 = .ok (.ireturn, 1) := by decide +kernel
theorem dX5_faultOf_0 : decode cX5_faultOf 0 = .ok (.aload_n 0, 1) := by decide +kernel
theorem dX5_faultOf_1 : decode cX5_faultOf 1 = .ok (.getfield 12, 3) := by decide +kernel
theorem dX5_faultOf_4 : decode cX5_faultOf 4 = .ok (.invokevirtual 32, 3) := by decide +kernel
theorem dX5_faultOf_7 : decode cX5_faultOf 7 = .ok (.aload_n 0, 1) := by decide +kernel
theorem dX5_faultOf_8 : decode cX5_faultOf 8 = .ok (.iconst 0, 1) := by decide +kernel
theorem dX5_faultOf_9 : decode cX5_faultOf 9 = .ok (.putfield 35, 3) := by decide +kernel
theorem dX5_faultOf_12 : decode cX5_faultOf 12 = .ok (.iconst 0, 1) := by decide +kernel
theorem dX5_faultOf_13 : decode cX5_faultOf 13 = .ok (.istore_n 2, 1) := by decide +kernel
theorem dX5_faultOf_14 : decode cX5_faultOf 14 = .ok (.iload_n 2, 1) := by decide +kernel
theorem dX5_faultOf_15 : decode cX5_faultOf 15 = .ok (.aload_n 1, 1) := by decide +kernel
theorem dX5_faultOf_16 : decode cX5_faultOf 16 = .ok (.invokevirtual 22, 3) := by decide +kernel
theorem dX5_faultOf_19 : decode cX5_faultOf 19 = .ok (.if_icmp .ge 23, 3) := by decide +kernel
theorem dX5_faultOf_22 : decode cX5_faultOf 22 = .ok (.aload_n 0, 1) := by decide +kernel
theorem dX5_faultOf_23 : decode cX5_faultOf 23 = .ok (.aload_n 1, 1) := by decide +kernel
theorem dX5_faultOf_24 : decode cX5_faultOf 24 = .ok (.iload_n 2, 1) := by decide +kernel
theorem dX5_faultOf_25 : decode cX5_faultOf 25 = .ok (.invokevirtual 39, 3) := by decide +kernel
theorem dX5_faultOf_28 : decode cX5_faultOf 28 = .ok (.invokevirtual 43, 3) := by decide +kernel
theorem dX5_faultOf_31 : decode cX5_faultOf 31 = .ok (.ifCond .ne 5, 3) := by decide +kernel
theorem dX5_faultOf_34 : decode cX5_faultOf 34 = .ok (.iload_n 2, 1) := by decide +kernel
theorem dX5_faultOf_35 : decode cX5_faultOf 35 = .ok (.ireturn, 1) := by decide +kernel
theorem dX5_faultOf_36 : decode cX5_faultOf 36 = .ok (.iinc 2 1, 3) := by decide +kernel
theorem dX5_faultOf_39 : decode cX5_faultOf 39 = .ok (.goto (-25), 3) := by decide +kernel
theorem dX5_faultOf_42 : decode cX5_faultOf 42 = .ok (.aload_n 1, 1) := by decide +kernel
theorem dX5_faultOf_43 : decode cX5_faultOf 43 = .ok (.invokevirtual 22, 3) := by decide +kernel
theorem dX5_faultOf_46 : decode cX5_faultOf 46 = .ok (.ireturn, 1) := by decide +kernel
theorem dX5_takes_0 : decode cX5_takes 0 = .ok (.aload_n 0, 1) := by decide +kernel
theorem dX5_takes_1 : decode cX5_takes 1 = .ok (.getfield 35, 3) := by decide +kernel
theorem dX5_takes_4 : decode cX5_takes 4 = .ok (.ifCond .ne 9, 3) := by decide +kernel
theorem dX5_takes_7 : decode cX5_takes 7 = .ok (.aload_n 0, 1) := by decide +kernel
theorem dX5_takes_8 : decode cX5_takes 8 = .ok (.iload_n 1, 1) := by decide +kernel
theorem dX5_takes_9 : decode cX5_takes 9 = .ok (.invokevirtual 47, 3) := by decide +kernel
theorem dX5_takes_12 : decode cX5_takes 12 = .ok (.ireturn, 1) := by decide +kernel
theorem dX5_takes_13 : decode cX5_takes 13 = .ok (.aload_n 0, 1) := by decide +kernel
theorem dX5_takes_14 : decode cX5_takes 14 = .ok (.invokevirtual 28, 3) := by decide +kernel
theorem dX5_takes_17 : decode cX5_takes 17 = .ok (.ifCond .eq 11, 3) := by decide +kernel
theorem dX5_takes_20 : decode cX5_takes 20 = .ok (.aload_n 0, 1) := by decide +kernel
theorem dX5_takes_21 : decode cX5_takes 21 = .ok (.iload_n 1, 1) := by decide +kernel
theorem dX5_takes_22 : decode cX5_takes 22 = .ok (.invokevirtual 50, 3) := by decide +kernel
theorem dX5_takes_25 : decode cX5_takes 25 = .ok (.goto 8, 3) := by decide +kernel
theorem dX5_takes_28 : decode cX5_takes 28 = .ok (.aload_n 0, 1) := by decide +kernel
theorem dX5_takes_29 : decode cX5_takes 29 = .ok (.iload_n 1, 1) := by decide +kernel
theorem dX5_takes_30 : decode cX5_takes 30 = .ok (.invokevirtual 53, 3) := by decide +kernel
theorem dX5_takes_33 : decode cX5_takes 33 = .ok (.ireturn, 1) := by decide +kernel
theorem dX5_isRowWhole_0 : decode cX5_isRowWhole 0 = .ok (.aload_n 0, 1) := by decide +kernel
theorem dX5_isRowWhole_1 : decode cX5_isRowWhole 1 = .ok (.getfield 35, 3) := by decide +kernel
theorem dX5_isRowWhole_4 : decode cX5_isRowWhole 4 = .ok (.iconst 1, 1) := by decide +kernel
theorem dX5_isRowWhole_5 : decode cX5_isRowWhole 5 = .ok (.aload_n 0, 1) := by decide +kernel
theorem dX5_isRowWhole_6 : decode cX5_isRowWhole 6 = .ok (.getfield 56, 3) := by decide +kernel
theorem dX5_isRowWhole_9 : decode cX5_isRowWhole 9 = .ok (.invokestatic 59, 3) := by decide +kernel
theorem dX5_isRowWhole_12 : decode cX5_isRowWhole 12 = .ok (.iadd, 1) := by decide +kernel
theorem dX5_isRowWhole_13 : decode cX5_isRowWhole 13 = .ok (.if_icmp .ne 7, 3) := by decide +kernel
theorem dX5_isRowWhole_16 : decode cX5_isRowWhole 16 = .ok (.iconst 1, 1) := by decide +kernel
theorem dX5_isRowWhole_17 : decode cX5_isRowWhole 17 = .ok (.goto 4, 3) := by decide +kernel
theorem dX5_isRowWhole_20 : decode cX5_isRowWhole 20 = .ok (.iconst 0, 1) := by decide +kernel
theorem dX5_isRowWhole_21 : decode cX5_isRowWhole 21 = .ok (.ireturn, 1) := by decide +kernel
theorem dX5_takesMark_0 : decode cX5_takesMark 0 = .ok (.aload_n 0, 1) := by decide +kernel
theorem dX5_takesMark_1 : decode cX5_takesMark 1 = .ok (.iload_n 1, 1) := by decide +kernel
theorem dX5_takesMark_2 : decode cX5_takesMark 2 = .ok (.invokestatic 62, 3) := by decide +kernel
theorem dX5_takesMark_5 : decode cX5_takesMark 5 = .ok (.putfield 56, 3) := by decide +kernel
theorem dX5_takesMark_8 : decode cX5_takesMark 8 = .ok (.aload_n 0, 1) := by decide +kernel
theorem dX5_takesMark_9 : decode cX5_takesMark 9 = .ok (.getfield 56, 3) := by decide +kernel
theorem dX5_takesMark_12 : decode cX5_takesMark 12 = .ok (.iconst (-1), 1) := by decide +kernel
theorem dX5_takesMark_13 : decode cX5_takesMark 13 = .ok (.if_icmp .eq 20, 3) := by decide +kernel
theorem dX5_takesMark_16 : decode cX5_takesMark 16 = .ok (.aload_n 0, 1) := by decide +kernel
theorem dX5_takesMark_17 : decode cX5_takesMark 17 = .ok (.getfield 56, 3) := by decide +kernel
theorem dX5_takesMark_20 : decode cX5_takesMark 20 = .ok (.ifCond .eq 15, 3) := by decide +kernel
theorem dX5_takesMark_23 : decode cX5_takesMark 23 = .ok (.aload_n 0, 1) := by decide +kernel
theorem dX5_takesMark_24 : decode cX5_takesMark 24 = .ok (.getfield 12, 3) := by decide +kernel
theorem dX5_takesMark_27 : decode cX5_takesMark 27 = .ok (.invokevirtual 65, 3) := by decide +kernel
theorem dX5_takesMark_30 : decode cX5_takesMark 30 = .ok (.ifCond .ne 5, 3) := by decide +kernel
theorem dX5_takesMark_33 : decode cX5_takesMark 33 = .ok (.iconst 0, 1) := by decide +kernel
theorem dX5_takesMark_34 : decode cX5_takesMark 34 = .ok (.ireturn, 1) := by decide +kernel
theorem dX5_takesMark_35 : decode cX5_takesMark 35 = .ok (.aload_n 0, 1) := by decide +kernel
theorem dX5_takesMark_36 : decode cX5_takesMark 36 = .ok (.iconst 1, 1) := by decide +kernel
theorem dX5_takesMark_37 : decode cX5_takesMark 37 = .ok (.putfield 35, 3) := by decide +kernel
theorem dX5_takesMark_40 : decode cX5_takesMark 40 = .ok (.aload_n 0, 1) := by decide +kernel
theorem dX5_takesMark_41 : decode cX5_takesMark 41 = .ok (.getfield 12, 3) := by decide +kernel
theorem dX5_takesMark_44 : decode cX5_takesMark 44 = .ok (.aload_n 0, 1) := by decide +kernel
theorem dX5_takesMark_45 : decode cX5_takesMark 45 = .ok (.getfield 56, 3) := by decide +kernel
theorem dX5_takesMark_48 : decode cX5_takesMark 48 = .ok (.iconst 0, 1) := by decide +kernel
theorem dX5_takesMark_49 : decode cX5_takesMark 49 = .ok (.iconst 0, 1) := by decide +kernel
theorem dX5_takesMark_50 : decode cX5_takesMark 50 = .ok (.iconst 0, 1) := by decide +kernel
theorem dX5_takesMark_51 : decode cX5_takesMark 51 = .ok (.iconst 0, 1) := by decide +kernel
theorem dX5_takesMark_52 : decode cX5_takesMark 52 = .ok (.invokevirtual 66, 3) := by decide +kernel
theorem dX5_takesMark_55 : decode cX5_takesMark 55 = .ok (.ireturn, 1) := by decide +kernel
theorem dX5_takesDivider_0 : decode cX5_takesDivider 0 = .ok (.aload_n 0, 1) := by decide +kernel
theorem dX5_takesDivider_1 : decode cX5_takesDivider 1 = .ok (.iconst 0, 1) := by decide +kernel
theorem dX5_takesDivider_2 : decode cX5_takesDivider 2 = .ok (.putfield 35, 3) := by decide +kernel
theorem dX5_takesDivider_5 : decode cX5_takesDivider 5 = .ok (.iload_n 1, 1) := by decide +kernel
theorem dX5_takesDivider_6 : decode cX5_takesDivider 6 = .ok (.bipush 59, 2) := by decide +kernel
theorem dX5_takesDivider_8 : decode cX5_takesDivider 8 = .ok (.if_icmp .ne 19, 3) := by decide +kernel
theorem dX5_takesDivider_11 : decode cX5_takesDivider 11 = .ok (.aload_n 0, 1) := by decide +kernel
theorem dX5_takesDivider_12 : decode cX5_takesDivider 12 = .ok (.getfield 12, 3) := by decide +kernel
theorem dX5_takesDivider_15 : decode cX5_takesDivider 15 = .ok (.invokevirtual 65, 3) := by decide +kernel
theorem dX5_takesDivider_18 : decode cX5_takesDivider 18 = .ok (.bipush 8, 2) := by decide +kernel
theorem dX5_takesDivider_20 : decode cX5_takesDivider 20 = .ok (.if_icmp .ge 7, 3) := by decide +kernel
theorem dX5_takesDivider_23 : decode cX5_takesDivider 23 = .ok (.iconst 1, 1) := by decide +kernel
theorem dX5_takesDivider_24 : decode cX5_takesDivider 24 = .ok (.goto 4, 3) := by decide +kernel
theorem dX5_takesDivider_27 : decode cX5_takesDivider 27 = .ok (.iconst 0, 1) := by decide +kernel
theorem dX5_takesDivider_28 : decode cX5_takesDivider 28 = .ok (.ireturn, 1) := by decide +kernel
theorem dX5_takesNumber_0 : decode cX5_takesNumber 0 = .ok (.iload_n 1, 1) := by decide +kernel
theorem dX5_takesNumber_1 : decode cX5_takesNumber 1 = .ok (.invokestatic 70, 3) := by decide +kernel
theorem dX5_takesNumber_4 : decode cX5_takesNumber 4 = .ok (.istore_n 2, 1) := by decide +kernel
theorem dX5_takesNumber_5 : decode cX5_takesNumber 5 = .ok (.iload_n 2, 1) := by decide +kernel
theorem dX5_takesNumber_6 : decode cX5_takesNumber 6 = .ok (.aload_n 0, 1) := by decide +kernel
theorem dX5_takesNumber_7 : decode cX5_takesNumber 7 = .ok (.invokevirtual 73, 3) := by decide +kernel
theorem dX5_takesNumber_10 : decode cX5_takesNumber 10 = .ok (.aload_n 0, 1) := by decide +kernel
theorem dX5_takesNumber_11 : decode cX5_takesNumber 11 = .ok (.invokevirtual 76, 3) := by decide +kernel
theorem dX5_takesNumber_14 : decode cX5_takesNumber 14 = .ok (.invokestatic 79, 3) := by decide +kernel
theorem dX5_takesNumber_17 : decode cX5_takesNumber 17 = .ok (.ifCond .ne 5, 3) := by decide +kernel
theorem dX5_takesNumber_20 : decode cX5_takesNumber 20 = .ok (.iconst 0, 1) := by decide +kernel
theorem dX5_takesNumber_21 : decode cX5_takesNumber 21 = .ok (.ireturn, 1) := by decide +kernel
theorem dX5_takesNumber_22 : decode cX5_takesNumber 22 = .ok (.aload_n 0, 1) := by decide +kernel
theorem dX5_takesNumber_23 : decode cX5_takesNumber 23 = .ok (.getfield 12, 3) := by decide +kernel
theorem dX5_takesNumber_26 : decode cX5_takesNumber 26 = .ok (.aload_n 0, 1) := by decide +kernel
theorem dX5_takesNumber_27 : decode cX5_takesNumber 27 = .ok (.getfield 12, 3) := by decide +kernel
theorem dX5_takesNumber_30 : decode cX5_takesNumber 30 = .ok (.invokevirtual 65, 3) := by decide +kernel
theorem dX5_takesNumber_33 : decode cX5_takesNumber 33 = .ok (.iconst 1, 1) := by decide +kernel
theorem dX5_takesNumber_34 : decode cX5_takesNumber 34 = .ok (.isub, 1) := by decide +kernel
theorem dX5_takesNumber_35 : decode cX5_takesNumber 35 = .ok (.aload_n 0, 1) := by decide +kernel
theorem dX5_takesNumber_36 : decode cX5_takesNumber 36 = .ok (.getfield 35, 3) := by decide +kernel
theorem dX5_takesNumber_39 : decode cX5_takesNumber 39 = .ok (.iconst 1, 1) := by decide +kernel
theorem dX5_takesNumber_40 : decode cX5_takesNumber 40 = .ok (.isub, 1) := by decide +kernel
theorem dX5_takesNumber_41 : decode cX5_takesNumber 41 = .ok (.iload_n 2, 1) := by decide +kernel
theorem dX5_takesNumber_42 : decode cX5_takesNumber 42 = .ok (.invokevirtual 83, 3) := by decide +kernel
theorem dX5_takesNumber_45 : decode cX5_takesNumber 45 = .ok (.aload_n 0, 1) := by decide +kernel
theorem dX5_takesNumber_46 : decode cX5_takesNumber 46 = .ok (.dup, 1) := by decide +kernel
theorem dX5_takesNumber_47 : decode cX5_takesNumber 47 = .ok (.getfield 35, 3) := by decide +kernel
theorem dX5_takesNumber_50 : decode cX5_takesNumber 50 = .ok (.iconst 1, 1) := by decide +kernel
theorem dX5_takesNumber_51 : decode cX5_takesNumber 51 = .ok (.iadd, 1) := by decide +kernel
theorem dX5_takesNumber_52 : decode cX5_takesNumber 52 = .ok (.putfield 35, 3) := by decide +kernel
theorem dX5_takesNumber_55 : decode cX5_takesNumber 55 = .ok (.iconst 1, 1) := by decide +kernel
theorem dX5_takesNumber_56 : decode cX5_takesNumber 56 = .ok (.ireturn, 1) := by decide +kernel
theorem dX5_leastNumber_0 : decode cX5_leastNumber 0 = .ok (.aload_n 0, 1) := by decide +kernel
theorem dX5_leastNumber_1 : decode cX5_leastNumber 1 = .ok (.getfield 56, 3) := by decide +kernel
theorem dX5_leastNumber_4 : decode cX5_leastNumber 4 = .ok (.ifCond .ne 6, 3) := by decide +kernel
theorem dX5_leastNumber_7 : decode cX5_leastNumber 7 = .ok (.bipush (-9), 2) := by decide +kernel
theorem dX5_leastNumber_9 : decode cX5_leastNumber 9 = .ok (.ireturn, 1) := by decide +kernel
theorem dX5_leastNumber_10 : decode cX5_leastNumber 10 = .ok (.aload_n 0, 1) := by decide +kernel
theorem dX5_leastNumber_11 : decode cX5_leastNumber 11 = .ok (.getfield 56, 3) := by decide +kernel
theorem dX5_leastNumber_14 : decode cX5_leastNumber 14 = .ok (.iconst 3, 1) := by decide +kernel
theorem dX5_leastNumber_15 : decode cX5_leastNumber 15 = .ok (.if_icmp .ne 17, 3) := by decide +kernel
theorem dX5_leastNumber_18 : decode cX5_leastNumber 18 = .ok (.aload_n 0, 1) := by decide +kernel
theorem dX5_leastNumber_19 : decode cX5_leastNumber 19 = .ok (.getfield 35, 3) := by decide +kernel
theorem dX5_leastNumber_22 : decode cX5_leastNumber 22 = .ok (.iconst 1, 1) := by decide +kernel
theorem dX5_leastNumber_23 : decode cX5_leastNumber 23 = .ok (.isub, 1) := by decide +kernel
theorem dX5_leastNumber_24 : decode cX5_leastNumber 24 = .ok (.iconst 1, 1) := by decide +kernel
theorem dX5_leastNumber_25 : decode cX5_leastNumber 25 = .ok (.if_icmp .ne 7, 3) := by decide +kernel
theorem dX5_leastNumber_28 : decode cX5_leastNumber 28 = .ok (.iconst 1, 1) := by decide +kernel
theorem dX5_leastNumber_29 : decode cX5_leastNumber 29 = .ok (.goto 4, 3) := by decide +kernel
theorem dX5_leastNumber_32 : decode cX5_leastNumber 32 = .ok (.iconst 0, 1) := by decide +kernel
theorem dX5_leastNumber_33 : decode cX5_leastNumber 33 = .ok (.ireturn, 1) := by decide +kernel
theorem dX5_mostNumber_0 : decode cX5_mostNumber 0 = .ok (.aload_n 0, 1) := by decide +kernel
theorem dX5_mostNumber_1 : decode cX5_mostNumber 1 = .ok (.getfield 56, 3) := by decide +kernel
theorem dX5_mostNumber_4 : decode cX5_mostNumber 4 = .ok (.ifCond .eq 21, 3) := by decide +kernel
theorem dX5_mostNumber_7 : decode cX5_mostNumber 7 = .ok (.aload_n 0, 1) := by decide +kernel
theorem dX5_mostNumber_8 : decode cX5_mostNumber 8 = .ok (.getfield 56, 3) := by decide +kernel
theorem dX5_mostNumber_11 : decode cX5_mostNumber 11 = .ok (.iconst 3, 1) := by decide +kernel
theorem dX5_mostNumber_12 : decode cX5_mostNumber 12 = .ok (.if_icmp .ne 16, 3) := by decide +kernel
theorem dX5_mostNumber_15 : decode cX5_mostNumber 15 = .ok (.aload_n 0, 1) := by decide +kernel
theorem dX5_mostNumber_16 : decode cX5_mostNumber 16 = .ok (.getfield 35, 3) := by decide +kernel
theorem dX5_mostNumber_19 : decode cX5_mostNumber 19 = .ok (.iconst 1, 1) := by decide +kernel
theorem dX5_mostNumber_20 : decode cX5_mostNumber 20 = .ok (.isub, 1) := by decide +kernel
theorem dX5_mostNumber_21 : decode cX5_mostNumber 21 = .ok (.iconst 2, 1) := by decide +kernel
theorem dX5_mostNumber_22 : decode cX5_mostNumber 22 = .ok (.if_icmp .ne 6, 3) := by decide +kernel
theorem dX5_mostNumber_25 : decode cX5_mostNumber 25 = .ok (.bipush 9, 2) := by decide +kernel
theorem dX5_mostNumber_27 : decode cX5_mostNumber 27 = .ok (.ireturn, 1) := by decide +kernel
theorem dX5_mostNumber_28 : decode cX5_mostNumber 28 = .ok (.aload_n 0, 1) := by decide +kernel
theorem dX5_mostNumber_29 : decode cX5_mostNumber 29 = .ok (.getfield 56, 3) := by decide +kernel
theorem dX5_mostNumber_32 : decode cX5_mostNumber 32 = .ok (.iconst 3, 1) := by decide +kernel
theorem dX5_mostNumber_33 : decode cX5_mostNumber 33 = .ok (.if_icmp .ne 17, 3) := by decide +kernel
theorem dX5_mostNumber_36 : decode cX5_mostNumber 36 = .ok (.aload_n 0, 1) := by decide +kernel
theorem dX5_mostNumber_37 : decode cX5_mostNumber 37 = .ok (.getfield 35, 3) := by decide +kernel
theorem dX5_mostNumber_40 : decode cX5_mostNumber 40 = .ok (.iconst 1, 1) := by decide +kernel
theorem dX5_mostNumber_41 : decode cX5_mostNumber 41 = .ok (.isub, 1) := by decide +kernel
theorem dX5_mostNumber_42 : decode cX5_mostNumber 42 = .ok (.iconst 1, 1) := by decide +kernel
theorem dX5_mostNumber_43 : decode cX5_mostNumber 43 = .ok (.if_icmp .ne 7, 3) := by decide +kernel
theorem dX5_mostNumber_46 : decode cX5_mostNumber 46 = .ok (.iconst 5, 1) := by decide +kernel
theorem dX5_mostNumber_47 : decode cX5_mostNumber 47 = .ok (.goto 12, 3) := by decide +kernel
theorem dX5_mostNumber_50 : decode cX5_mostNumber 50 = .ok (.aload_n 0, 1) := by decide +kernel
theorem dX5_mostNumber_51 : decode cX5_mostNumber 51 = .ok (.getfield 12, 3) := by decide +kernel
theorem dX5_mostNumber_54 : decode cX5_mostNumber 54 = .ok (.invokevirtual 65, 3) := by decide +kernel
theorem dX5_mostNumber_57 : decode cX5_mostNumber 57 = .ok (.iconst 2, 1) := by decide +kernel
theorem dX5_mostNumber_58 : decode cX5_mostNumber 58 = .ok (.isub, 1) := by decide +kernel
theorem dX5_mostNumber_59 : decode cX5_mostNumber 59 = .ok (.ireturn, 1) := by decide +kernel
theorem dX5_kindMarkedBy_0 : decode cX5_kindMarkedBy 0 = .ok (.iload_n 0, 1) := by decide +kernel
theorem dX5_kindMarkedBy_1 : decode cX5_kindMarkedBy 1 = .ok (.lookupswitch 61 #[(42, 55), (43, 53), (100, 59), (101, 57), (116, 51)], 51) := by decide +kernel
theorem dX5_kindMarkedBy_52 : decode cX5_kindMarkedBy 52 = .ok (.iconst 0, 1) := by decide +kernel
theorem dX5_kindMarkedBy_53 : decode cX5_kindMarkedBy 53 = .ok (.ireturn, 1) := by decide +kernel
theorem dX5_kindMarkedBy_54 : decode cX5_kindMarkedBy 54 = .ok (.iconst 1, 1) := by decide +kernel
theorem dX5_kindMarkedBy_55 : decode cX5_kindMarkedBy 55 = .ok (.ireturn, 1) := by decide +kernel
theorem dX5_kindMarkedBy_56 : decode cX5_kindMarkedBy 56 = .ok (.iconst 2, 1) := by decide +kernel
theorem dX5_kindMarkedBy_57 : decode cX5_kindMarkedBy 57 = .ok (.ireturn, 1) := by decide +kernel
theorem dX5_kindMarkedBy_58 : decode cX5_kindMarkedBy 58 = .ok (.iconst 3, 1) := by decide +kernel
theorem dX5_kindMarkedBy_59 : decode cX5_kindMarkedBy 59 = .ok (.ireturn, 1) := by decide +kernel
theorem dX5_kindMarkedBy_60 : decode cX5_kindMarkedBy 60 = .ok (.iconst 4, 1) := by decide +kernel
theorem dX5_kindMarkedBy_61 : decode cX5_kindMarkedBy 61 = .ok (.ireturn, 1) := by decide +kernel
theorem dX5_kindMarkedBy_62 : decode cX5_kindMarkedBy 62 = .ok (.iconst (-1), 1) := by decide +kernel
theorem dX5_kindMarkedBy_63 : decode cX5_kindMarkedBy 63 = .ok (.ireturn, 1) := by decide +kernel
theorem dX5_valueOf_0 : decode cX5_valueOf 0 = .ok (.iload_n 0, 1) := by decide +kernel
theorem dX5_valueOf_1 : decode cX5_valueOf 1 = .ok (.bipush 48, 2) := by decide +kernel
theorem dX5_valueOf_3 : decode cX5_valueOf 3 = .ok (.if_icmp .lt 14, 3) := by decide +kernel
theorem dX5_valueOf_6 : decode cX5_valueOf 6 = .ok (.iload_n 0, 1) := by decide +kernel
theorem dX5_valueOf_7 : decode cX5_valueOf 7 = .ok (.bipush 57, 2) := by decide +kernel
theorem dX5_valueOf_9 : decode cX5_valueOf 9 = .ok (.if_icmp .gt 8, 3) := by decide +kernel
theorem dX5_valueOf_12 : decode cX5_valueOf 12 = .ok (.iload_n 0, 1) := by decide +kernel
theorem dX5_valueOf_13 : decode cX5_valueOf 13 = .ok (.bipush 48, 2) := by decide +kernel
theorem dX5_valueOf_15 : decode cX5_valueOf 15 = .ok (.isub, 1) := by decide +kernel
theorem dX5_valueOf_16 : decode cX5_valueOf 16 = .ok (.ireturn, 1) := by decide +kernel
theorem dX5_valueOf_17 : decode cX5_valueOf 17 = .ok (.iload_n 0, 1) := by decide +kernel
theorem dX5_valueOf_18 : decode cX5_valueOf 18 = .ok (.bipush 97, 2) := by decide +kernel
theorem dX5_valueOf_20 : decode cX5_valueOf 20 = .ok (.if_icmp .lt 16, 3) := by decide +kernel
theorem dX5_valueOf_23 : decode cX5_valueOf 23 = .ok (.iload_n 0, 1) := by decide +kernel
theorem dX5_valueOf_24 : decode cX5_valueOf 24 = .ok (.bipush 105, 2) := by decide +kernel
theorem dX5_valueOf_26 : decode cX5_valueOf 26 = .ok (.if_icmp .gt 10, 3) := by decide +kernel
theorem dX5_valueOf_29 : decode cX5_valueOf 29 = .ok (.bipush 96, 2) := by decide +kernel
theorem dX5_valueOf_31 : decode cX5_valueOf 31 = .ok (.iload_n 0, 1) := by decide +kernel
theorem dX5_valueOf_32 : decode cX5_valueOf 32 = .ok (.isub, 1) := by decide +kernel
theorem dX5_valueOf_33 : decode cX5_valueOf 33 = .ok (.goto 5, 3) := by decide +kernel
theorem dX5_valueOf_36 : decode cX5_valueOf 36 = .ok (.ldc 87, 2) := by decide +kernel
theorem dX5_valueOf_38 : decode cX5_valueOf 38 = .ok (.ireturn, 1) := by decide +kernel
theorem dX6_init_0 : decode cX6_init 0 = .ok (.aload_n 0, 1) := by decide +kernel
theorem dX6_init_1 : decode cX6_init 1 = .ok (.invokespecial 3, 3) := by decide +kernel
theorem dX6_init_4 : decode cX6_init 4 = .ok (.aload_n 0, 1) := by decide +kernel
theorem dX6_init_5 : decode cX6_init 5 = .ok (.bipush 72, 2) := by decide +kernel
theorem dX6_init_7 : decode cX6_init 7 = .ok (.anewarray 9, 3) := by decide +kernel
theorem dX6_init_10 : decode cX6_init 10 = .ok (.putfield 11, 3) := by decide +kernel
theorem dX6_init_13 : decode cX6_init 13 = .ok (.aload_n 0, 1) := by decide +kernel
theorem dX6_init_14 : decode cX6_init 14 = .ok (.bipush 9, 2) := by decide +kernel
theorem dX6_init_16 : decode cX6_init 16 = .ok (.newarray .int, 2) := by decide +kernel
theorem dX6_init_18 : decode cX6_init 18 = .ok (.putfield 17, 3) := by decide +kernel
theorem dX6_init_21 : decode cX6_init 21 = .ok (.iconst 0, 1) := by decide +kernel
theorem dX6_init_22 : decode cX6_init 22 = .ok (.istore_n 1, 1) := by decide +kernel
theorem dX6_init_23 : decode cX6_init 23 = .ok (.iload_n 1, 1) := by decide +kernel
theorem dX6_init_24 : decode cX6_init 24 = .ok (.bipush 9, 2) := by decide +kernel
theorem dX6_init_26 : decode cX6_init 26 = .ok (.if_icmp .ge 44, 3) := by decide +kernel
theorem dX6_init_29 : decode cX6_init 29 = .ok (.iconst 0, 1) := by decide +kernel
theorem dX6_init_30 : decode cX6_init 30 = .ok (.istore_n 2, 1) := by decide +kernel
theorem dX6_init_31 : decode cX6_init 31 = .ok (.iload_n 2, 1) := by decide +kernel
theorem dX6_init_32 : decode cX6_init 32 = .ok (.bipush 8, 2) := by decide +kernel
theorem dX6_init_34 : decode cX6_init 34 = .ok (.if_icmp .ge 30, 3) := by decide +kernel
theorem dX6_init_37 : decode cX6_init 37 = .ok (.aload_n 0, 1) := by decide +kernel
theorem dX6_init_38 : decode cX6_init 38 = .ok (.getfield 11, 3) := by decide +kernel
theorem dX6_init_41 : decode cX6_init 41 = .ok (.iload_n 1, 1) := by decide +kernel
theorem dX6_init_42 : decode cX6_init 42 = .ok (.bipush 8, 2) := by decide +kernel
theorem dX6_init_44 : decode cX6_init 44 = .ok (.imul, 1) := by decide +kernel
theorem dX6_init_45 : decode cX6_init 45 = .ok (.iload_n 2, 1) := by decide +kernel
theorem dX6_init_46 : decode cX6_init 46 = .ok (.iadd, 1) := by decide +kernel
theorem dX6_init_47 : decode cX6_init 47 = .ok (.new 9, 3) := by decide +kernel
theorem dX6_init_50 : decode cX6_init 50 = .ok (.dup, 1) := by decide +kernel
theorem dX6_init_51 : decode cX6_init 51 = .ok (.iconst 2, 1) := by decide +kernel
theorem dX6_init_52 : decode cX6_init 52 = .ok (.iload_n 1, 1) := by decide +kernel
theorem dX6_init_53 : decode cX6_init 53 = .ok (.iadd, 1) := by decide +kernel
theorem dX6_init_54 : decode cX6_init 54 = .ok (.invokespecial 21, 3) := by decide +kernel
theorem dX6_init_57 : decode cX6_init 57 = .ok (.aastore, 1) := by decide +kernel
theorem dX6_init_58 : decode cX6_init 58 = .ok (.iinc 2 1, 3) := by decide +kernel
theorem dX6_init_61 : decode cX6_init 61 = .ok (.goto (-30), 3) := by decide +kernel
theorem dX6_init_64 : decode cX6_init 64 = .ok (.iinc 1 1, 3) := by decide +kernel
theorem dX6_init_67 : decode cX6_init 67 = .ok (.goto (-44), 3) := by decide +kernel
theorem dX6_init_70 : decode cX6_init 70 = .ok (.return_, 1) := by decide +kernel
theorem dX6_forgetFrom_0 : decode cX6_forgetFrom 0 = .ok (.iconst 0, 1) := by decide +kernel
theorem dX6_forgetFrom_1 : decode cX6_forgetFrom 1 = .ok (.istore_n 2, 1) := by decide +kernel
theorem dX6_forgetFrom_2 : decode cX6_forgetFrom 2 = .ok (.iload_n 2, 1) := by decide +kernel
theorem dX6_forgetFrom_3 : decode cX6_forgetFrom 3 = .ok (.bipush 9, 2) := by decide +kernel
theorem dX6_forgetFrom_5 : decode cX6_forgetFrom 5 = .ok (.if_icmp .ge 25, 3) := by decide +kernel
theorem dX6_forgetFrom_8 : decode cX6_forgetFrom 8 = .ok (.aload_n 0, 1) := by decide +kernel
theorem dX6_forgetFrom_9 : decode cX6_forgetFrom 9 = .ok (.getfield 17, 3) := by decide +kernel
theorem dX6_forgetFrom_12 : decode cX6_forgetFrom 12 = .ok (.iload_n 2, 1) := by decide +kernel
theorem dX6_forgetFrom_13 : decode cX6_forgetFrom 13 = .ok (.aload_n 0, 1) := by decide +kernel
theorem dX6_forgetFrom_14 : decode cX6_forgetFrom 14 = .ok (.getfield 17, 3) := by decide +kernel
theorem dX6_forgetFrom_17 : decode cX6_forgetFrom 17 = .ok (.iload_n 2, 1) := by decide +kernel
theorem dX6_forgetFrom_18 : decode cX6_forgetFrom 18 = .ok (.iaload, 1) := by decide +kernel
theorem dX6_forgetFrom_19 : decode cX6_forgetFrom 19 = .ok (.iload_n 1, 1) := by decide +kernel
theorem dX6_forgetFrom_20 : decode cX6_forgetFrom 20 = .ok (.invokestatic 24, 3) := by decide +kernel
theorem dX6_forgetFrom_23 : decode cX6_forgetFrom 23 = .ok (.iastore, 1) := by decide +kernel
theorem dX6_forgetFrom_24 : decode cX6_forgetFrom 24 = .ok (.iinc 2 1, 3) := by decide +kernel
theorem dX6_forgetFrom_27 : decode cX6_forgetFrom 27 = .ok (.goto (-25), 3) := by decide +kernel
theorem dX6_forgetFrom_30 : decode cX6_forgetFrom 30 = .ok (.return_, 1) := by decide +kernel
theorem dX6_cycleOf_0 : decode cX6_cycleOf 0 = .ok (.iload_n 3, 1) := by decide +kernel
theorem dX6_cycleOf_1 : decode cX6_cycleOf 1 = .ok (.iconst 2, 1) := by decide +kernel
theorem dX6_cycleOf_2 : decode cX6_cycleOf 2 = .ok (.if_icmp .lt 15, 3) := by decide +kernel
theorem dX6_cycleOf_5 : decode cX6_cycleOf 5 = .ok (.iload_n 3, 1) := by decide +kernel
theorem dX6_cycleOf_6 : decode cX6_cycleOf 6 = .ok (.bipush 10, 2) := by decide +kernel
theorem dX6_cycleOf_8 : decode cX6_cycleOf 8 = .ok (.if_icmp .gt 9, 3) := by decide +kernel
theorem dX6_cycleOf_11 : decode cX6_cycleOf 11 = .ok (.iload_n 3, 1) := by decide +kernel
theorem dX6_cycleOf_12 : decode cX6_cycleOf 12 = .ok (.iconst 2, 1) := by decide +kernel
theorem dX6_cycleOf_13 : decode cX6_cycleOf 13 = .ok (.isub, 1) := by decide +kernel
theorem dX6_cycleOf_14 : decode cX6_cycleOf 14 = .ok (.goto 4, 3) := by decide +kernel
theorem dX6_cycleOf_17 : decode cX6_cycleOf 17 = .ok (.iconst 0, 1) := by decide +kernel
theorem dX6_cycleOf_18 : decode cX6_cycleOf 18 = .ok (.istore 4, 2) := by decide +kernel
theorem dX6_cycleOf_20 : decode cX6_cycleOf 20 = .ok (.aload_n 0, 1) := by decide +kernel
theorem dX6_cycleOf_21 : decode cX6_cycleOf 21 = .ok (.getfield 17, 3) := by decide +kernel
theorem dX6_cycleOf_24 : decode cX6_cycleOf 24 = .ok (.iload 4, 2) := by decide +kernel
theorem dX6_cycleOf_26 : decode cX6_cycleOf 26 = .ok (.iaload, 1) := by decide +kernel
theorem dX6_cycleOf_27 : decode cX6_cycleOf 27 = .ok (.iload_n 2, 1) := by decide +kernel
theorem dX6_cycleOf_28 : decode cX6_cycleOf 28 = .ok (.if_icmp .gt 43, 3) := by decide +kernel
theorem dX6_cycleOf_31 : decode cX6_cycleOf 31 = .ok (.aload_n 0, 1) := by decide +kernel
theorem dX6_cycleOf_32 : decode cX6_cycleOf 32 = .ok (.getfield 17, 3) := by decide +kernel
theorem dX6_cycleOf_35 : decode cX6_cycleOf 35 = .ok (.iload 4, 2) := by decide +kernel
theorem dX6_cycleOf_37 : decode cX6_cycleOf 37 = .ok (.iaload, 1) := by decide +kernel
theorem dX6_cycleOf_38 : decode cX6_cycleOf 38 = .ok (.bipush 8, 2) := by decide +kernel
theorem dX6_cycleOf_40 : decode cX6_cycleOf 40 = .ok (.if_icmp .ge 31, 3) := by decide +kernel
theorem dX6_cycleOf_43 : decode cX6_cycleOf 43 = .ok (.aload_n 0, 1) := by decide +kernel
theorem dX6_cycleOf_44 : decode cX6_cycleOf 44 = .ok (.aload_n 1, 1) := by decide +kernel
theorem dX6_cycleOf_45 : decode cX6_cycleOf 45 = .ok (.aload_n 0, 1) := by decide +kernel
theorem dX6_cycleOf_46 : decode cX6_cycleOf 46 = .ok (.getfield 17, 3) := by decide +kernel
theorem dX6_cycleOf_49 : decode cX6_cycleOf 49 = .ok (.iload 4, 2) := by decide +kernel
theorem dX6_cycleOf_51 : decode cX6_cycleOf 51 = .ok (.iaload, 1) := by decide +kernel
theorem dX6_cycleOf_52 : decode cX6_cycleOf 52 = .ok (.iload 4, 2) := by decide +kernel
theorem dX6_cycleOf_54 : decode cX6_cycleOf 54 = .ok (.invokevirtual 30, 3) := by decide +kernel
theorem dX6_cycleOf_57 : decode cX6_cycleOf 57 = .ok (.aload_n 0, 1) := by decide +kernel
theorem dX6_cycleOf_58 : decode cX6_cycleOf 58 = .ok (.getfield 17, 3) := by decide +kernel
theorem dX6_cycleOf_61 : decode cX6_cycleOf 61 = .ok (.iload 4, 2) := by decide +kernel
theorem dX6_cycleOf_63 : decode cX6_cycleOf 63 = .ok (.dup2, 1) := by decide +kernel
theorem dX6_cycleOf_64 : decode cX6_cycleOf 64 = .ok (.iaload, 1) := by decide +kernel
theorem dX6_cycleOf_65 : decode cX6_cycleOf 65 = .ok (.iconst 1, 1) := by decide +kernel
theorem dX6_cycleOf_66 : decode cX6_cycleOf 66 = .ok (.iadd, 1) := by decide +kernel
theorem dX6_cycleOf_67 : decode cX6_cycleOf 67 = .ok (.iastore, 1) := by decide +kernel
theorem dX6_cycleOf_68 : decode cX6_cycleOf 68 = .ok (.goto (-48), 3) := by decide +kernel
theorem dX6_cycleOf_71 : decode cX6_cycleOf 71 = .ok (.aload_n 0, 1) := by decide +kernel
theorem dX6_cycleOf_72 : decode cX6_cycleOf 72 = .ok (.iload_n 2, 1) := by decide +kernel
theorem dX6_cycleOf_73 : decode cX6_cycleOf 73 = .ok (.iload 4, 2) := by decide +kernel
theorem dX6_cycleOf_75 : decode cX6_cycleOf 75 = .ok (.invokevirtual 34, 3) := by decide +kernel
theorem dX6_cycleOf_78 : decode cX6_cycleOf 78 = .ok (.areturn, 1) := by decide +kernel
theorem dX6_filled_0 : decode cX6_filled 0 = .ok (.iload_n 1, 1) := by decide +kernel
theorem dX6_filled_1 : decode cX6_filled 1 = .ok (.ifCond .lt 23, 3) := by decide +kernel
theorem dX6_filled_4 : decode cX6_filled 4 = .ok (.iload_n 1, 1) := by decide +kernel
theorem dX6_filled_5 : decode cX6_filled 5 = .ok (.bipush 8, 2) := by decide +kernel
theorem dX6_filled_7 : decode cX6_filled 7 = .ok (.if_icmp .ge 17, 3) := by decide +kernel
theorem dX6_filled_10 : decode cX6_filled 10 = .ok (.iload_n 2, 1) := by decide +kernel
theorem dX6_filled_11 : decode cX6_filled 11 = .ok (.ifCond .lt 13, 3) := by decide +kernel
theorem dX6_filled_14 : decode cX6_filled 14 = .ok (.iload_n 2, 1) := by decide +kernel
theorem dX6_filled_15 : decode cX6_filled 15 = .ok (.bipush 9, 2) := by decide +kernel
theorem dX6_filled_17 : decode cX6_filled 17 = .ok (.if_icmp .ge 7, 3) := by decide +kernel
theorem dX6_filled_20 : decode cX6_filled 20 = .ok (.iconst 1, 1) := by decide +kernel
theorem dX6_filled_21 : decode cX6_filled 21 = .ok (.goto 4, 3) := by decide +kernel
theorem dX6_filled_24 : decode cX6_filled 24 = .ok (.iconst 0, 1) := by decide +kernel
theorem dX6_filled_25 : decode cX6_filled 25 = .ok (.istore_n 3, 1) := by decide +kernel
theorem dX6_filled_26 : decode cX6_filled 26 = .ok (.aload_n 0, 1) := by decide +kernel
theorem dX6_filled_27 : decode cX6_filled 27 = .ok (.getfield 11, 3) := by decide +kernel
theorem dX6_filled_30 : decode cX6_filled 30 = .ok (.iload_n 3, 1) := by decide +kernel
theorem dX6_filled_31 : decode cX6_filled 31 = .ok (.ifCond .eq 12, 3) := by decide +kernel
theorem dX6_filled_34 : decode cX6_filled 34 = .ok (.iload_n 2, 1) := by decide +kernel
theorem dX6_filled_35 : decode cX6_filled 35 = .ok (.bipush 8, 2) := by decide +kernel
theorem dX6_filled_37 : decode cX6_filled 37 = .ok (.imul, 1) := by decide +kernel
theorem dX6_filled_38 : decode cX6_filled 38 = .ok (.iload_n 1, 1) := by decide +kernel
theorem dX6_filled_39 : decode cX6_filled 39 = .ok (.iadd, 1) := by decide +kernel
theorem dX6_filled_40 : decode cX6_filled 40 = .ok (.goto 4, 3) := by decide +kernel
theorem dX6_filled_43 : decode cX6_filled 43 = .ok (.iconst 0, 1) := by decide +kernel
theorem dX6_filled_44 : decode cX6_filled 44 = .ok (.aaload, 1) := by decide +kernel
theorem dX6_filled_45 : decode cX6_filled 45 = .ok (.areturn, 1) := by decide +kernel
theorem dX6_fill_0 : decode cX6_fill 0 = .ok (.aload_n 0, 1) := by decide +kernel
theorem dX6_fill_1 : decode cX6_fill 1 = .ok (.iload_n 2, 1) := by decide +kernel
theorem dX6_fill_2 : decode cX6_fill 2 = .ok (.iload_n 3, 1) := by decide +kernel
theorem dX6_fill_3 : decode cX6_fill 3 = .ok (.invokevirtual 34, 3) := by decide +kernel
theorem dX6_fill_6 : decode cX6_fill 6 = .ok (.astore 4, 2) := by decide +kernel
theorem dX6_fill_8 : decode cX6_fill 8 = .ok (.aload_n 1, 1) := by decide +kernel
theorem dX6_fill_9 : decode cX6_fill 9 = .ok (.iload_n 2, 1) := by decide +kernel
theorem dX6_fill_10 : decode cX6_fill 10 = .ok (.iconst 0, 1) := by decide +kernel
theorem dX6_fill_11 : decode cX6_fill 11 = .ok (.invokevirtual 38, 3) := by decide +kernel
theorem dX6_fill_14 : decode cX6_fill 14 = .ok (.istore 5, 2) := by decide +kernel
theorem dX6_fill_16 : decode cX6_fill 16 = .ok (.aload_n 1, 1) := by decide +kernel
theorem dX6_fill_17 : decode cX6_fill 17 = .ok (.iload_n 2, 1) := by decide +kernel
theorem dX6_fill_18 : decode cX6_fill 18 = .ok (.iconst 1, 1) := by decide +kernel
theorem dX6_fill_19 : decode cX6_fill 19 = .ok (.invokevirtual 38, 3) := by decide +kernel
theorem dX6_fill_22 : decode cX6_fill 22 = .ok (.istore 6, 2) := by decide +kernel
theorem dX6_fill_24 : decode cX6_fill 24 = .ok (.aload_n 1, 1) := by decide +kernel
theorem dX6_fill_25 : decode cX6_fill 25 = .ok (.iload_n 2, 1) := by decide +kernel
theorem dX6_fill_26 : decode cX6_fill 26 = .ok (.iconst 2, 1) := by decide +kernel
theorem dX6_fill_27 : decode cX6_fill 27 = .ok (.invokevirtual 38, 3) := by decide +kernel
theorem dX6_fill_30 : decode cX6_fill 30 = .ok (.istore 7, 2) := by decide +kernel
theorem dX6_fill_32 : decode cX6_fill 32 = .ok (.aload_n 1, 1) := by decide +kernel
theorem dX6_fill_33 : decode cX6_fill 33 = .ok (.iload_n 2, 1) := by decide +kernel
theorem dX6_fill_34 : decode cX6_fill 34 = .ok (.invokevirtual 43, 3) := by decide +kernel
theorem dX6_fill_37 : decode cX6_fill 37 = .ok (.tableswitch 114 0 3 #[31, 51, 73, 95], 31) := by decide +kernel
theorem dX6_fill_68 : decode cX6_fill 68 = .ok (.aload 4, 2) := by decide +kernel
theorem dX6_fill_70 : decode cX6_fill 70 = .ok (.iload 5, 2) := by decide +kernel
theorem dX6_fill_72 : decode cX6_fill 72 = .ok (.iload 6, 2) := by decide +kernel
theorem dX6_fill_74 : decode cX6_fill 74 = .ok (.iload 7, 2) := by decide +kernel
theorem dX6_fill_76 : decode cX6_fill 76 = .ok (.aload_n 1, 1) := by decide +kernel
theorem dX6_fill_77 : decode cX6_fill 77 = .ok (.iload_n 2, 1) := by decide +kernel
theorem dX6_fill_78 : decode cX6_fill 78 = .ok (.iconst 3, 1) := by decide +kernel
theorem dX6_fill_79 : decode cX6_fill 79 = .ok (.invokevirtual 38, 3) := by decide +kernel
theorem dX6_fill_82 : decode cX6_fill 82 = .ok (.invokevirtual 47, 3) := by decide +kernel
theorem dX6_fill_85 : decode cX6_fill 85 = .ok (.goto 78, 3) := by decide +kernel
theorem dX6_fill_88 : decode cX6_fill 88 = .ok (.aload 4, 2) := by decide +kernel
theorem dX6_fill_90 : decode cX6_fill 90 = .ok (.aload_n 0, 1) := by decide +kernel
theorem dX6_fill_91 : decode cX6_fill 91 = .ok (.iload 5, 2) := by decide +kernel
theorem dX6_fill_93 : decode cX6_fill 93 = .ok (.iload_n 3, 1) := by decide +kernel
theorem dX6_fill_94 : decode cX6_fill 94 = .ok (.invokevirtual 34, 3) := by decide +kernel
theorem dX6_fill_97 : decode cX6_fill 97 = .ok (.aload_n 0, 1) := by decide +kernel
theorem dX6_fill_98 : decode cX6_fill 98 = .ok (.iload 6, 2) := by decide +kernel
theorem dX6_fill_100 : decode cX6_fill 100 = .ok (.iload_n 3, 1) := by decide +kernel
theorem dX6_fill_101 : decode cX6_fill 101 = .ok (.invokevirtual 34, 3) := by decide +kernel
theorem dX6_fill_104 : decode cX6_fill 104 = .ok (.invokevirtual 51, 3) := by decide +kernel
theorem dX6_fill_107 : decode cX6_fill 107 = .ok (.goto 56, 3) := by decide +kernel
theorem dX6_fill_110 : decode cX6_fill 110 = .ok (.aload 4, 2) := by decide +kernel
theorem dX6_fill_112 : decode cX6_fill 112 = .ok (.aload_n 0, 1) := by decide +kernel
theorem dX6_fill_113 : decode cX6_fill 113 = .ok (.iload 5, 2) := by decide +kernel
theorem dX6_fill_115 : decode cX6_fill 115 = .ok (.iload_n 3, 1) := by decide +kernel
theorem dX6_fill_116 : decode cX6_fill 116 = .ok (.invokevirtual 34, 3) := by decide +kernel
theorem dX6_fill_119 : decode cX6_fill 119 = .ok (.aload_n 0, 1) := by decide +kernel
theorem dX6_fill_120 : decode cX6_fill 120 = .ok (.iload 6, 2) := by decide +kernel
theorem dX6_fill_122 : decode cX6_fill 122 = .ok (.iload_n 3, 1) := by decide +kernel
theorem dX6_fill_123 : decode cX6_fill 123 = .ok (.invokevirtual 34, 3) := by decide +kernel
theorem dX6_fill_126 : decode cX6_fill 126 = .ok (.invokevirtual 55, 3) := by decide +kernel
theorem dX6_fill_129 : decode cX6_fill 129 = .ok (.goto 34, 3) := by decide +kernel
theorem dX6_fill_132 : decode cX6_fill 132 = .ok (.aload 4, 2) := by decide +kernel
theorem dX6_fill_134 : decode cX6_fill 134 = .ok (.aload_n 0, 1) := by decide +kernel
theorem dX6_fill_135 : decode cX6_fill 135 = .ok (.iload 5, 2) := by decide +kernel
theorem dX6_fill_137 : decode cX6_fill 137 = .ok (.iload_n 3, 1) := by decide +kernel
theorem dX6_fill_138 : decode cX6_fill 138 = .ok (.invokevirtual 34, 3) := by decide +kernel
theorem dX6_fill_141 : decode cX6_fill 141 = .ok (.iload 6, 2) := by decide +kernel
theorem dX6_fill_143 : decode cX6_fill 143 = .ok (.iload 7, 2) := by decide +kernel
theorem dX6_fill_145 : decode cX6_fill 145 = .ok (.invokevirtual 58, 3) := by decide +kernel
theorem dX6_fill_148 : decode cX6_fill 148 = .ok (.goto 15, 3) := by decide +kernel
theorem dX6_fill_151 : decode cX6_fill 151 = .ok (.aload 4, 2) := by decide +kernel
theorem dX6_fill_153 : decode cX6_fill 153 = .ok (.aload_n 0, 1) := by decide +kernel
theorem dX6_fill_154 : decode cX6_fill 154 = .ok (.iload 5, 2) := by decide +kernel
theorem dX6_fill_156 : decode cX6_fill 156 = .ok (.iload_n 3, 1) := by decide +kernel
theorem dX6_fill_157 : decode cX6_fill 157 = .ok (.invokevirtual 34, 3) := by decide +kernel
theorem dX6_fill_160 : decode cX6_fill 160 = .ok (.invokevirtual 62, 3) := by decide +kernel
theorem dX6_fill_163 : decode cX6_fill 163 = .ok (.return_, 1) := by decide +kernel
theorem dX7_differentReal_0 : decode cX7_differentReal 0 = .ok (.iconst 1, 1) := by decide +kernel
theorem dX7_differentReal_1 : decode cX7_differentReal 1 = .ok (.iload_n 0, 1) := by decide +kernel
theorem dX7_differentReal_2 : decode cX7_differentReal 2 = .ok (.iload_n 1, 1) := by decide +kernel
theorem dX7_differentReal_3 : decode cX7_differentReal 3 = .ok (.invokestatic 9, 3) := by decide +kernel
theorem dX7_differentReal_6 : decode cX7_differentReal 6 = .ok (.invokestatic 15, 3) := by decide +kernel
theorem dX7_differentReal_9 : decode cX7_differentReal 9 = .ok (.iadd, 1) := by decide +kernel
theorem dX7_differentReal_10 : decode cX7_differentReal 10 = .ok (.ireturn, 1) := by decide +kernel
theorem dX7_greater_0 : decode cX7_greater 0 = .ok (.iload_n 0, 1) := by decide +kernel
theorem dX7_greater_1 : decode cX7_greater 1 = .ok (.iload_n 1, 1) := by decide +kernel
theorem dX7_greater_2 : decode cX7_greater 2 = .ok (.invokestatic 9, 3) := by decide +kernel
theorem dX7_greater_5 : decode cX7_greater 5 = .ok (.invokestatic 19, 3) := by decide +kernel
theorem dX7_greater_8 : decode cX7_greater 8 = .ok (.istore_n 2, 1) := by decide +kernel
theorem dX7_greater_9 : decode cX7_greater 9 = .ok (.iload_n 2, 1) := by decide +kernel
theorem dX7_greater_10 : decode cX7_greater 10 = .ok (.ldc 22, 2) := by decide +kernel
theorem dX7_greater_12 : decode cX7_greater 12 = .ok (.if_icmp .ne 8, 3) := by decide +kernel
theorem dX7_greater_15 : decode cX7_greater 15 = .ok (.ldc 22, 2) := by decide +kernel
theorem dX7_greater_17 : decode cX7_greater 17 = .ok (.goto 8, 3) := by decide +kernel
theorem dX7_greater_20 : decode cX7_greater 20 = .ok (.iload_n 0, 1) := by decide +kernel
theorem dX7_greater_21 : decode cX7_greater 21 = .ok (.iload_n 2, 1) := by decide +kernel
theorem dX7_greater_22 : decode cX7_greater 22 = .ok (.iadd, 1) := by decide +kernel
theorem dX7_greater_23 : decode cX7_greater 23 = .ok (.iconst 2, 1) := by decide +kernel
theorem dX7_greater_24 : decode cX7_greater 24 = .ok (.idiv, 1) := by decide +kernel
theorem dX7_greater_25 : decode cX7_greater 25 = .ok (.ireturn, 1) := by decide +kernel
theorem dX7_lesser_0 : decode cX7_lesser 0 = .ok (.iload_n 0, 1) := by decide +kernel
theorem dX7_lesser_1 : decode cX7_lesser 1 = .ok (.iload_n 1, 1) := by decide +kernel
theorem dX7_lesser_2 : decode cX7_lesser 2 = .ok (.invokestatic 9, 3) := by decide +kernel
theorem dX7_lesser_5 : decode cX7_lesser 5 = .ok (.invokestatic 19, 3) := by decide +kernel
theorem dX7_lesser_8 : decode cX7_lesser 8 = .ok (.istore_n 2, 1) := by decide +kernel
theorem dX7_lesser_9 : decode cX7_lesser 9 = .ok (.iload_n 2, 1) := by decide +kernel
theorem dX7_lesser_10 : decode cX7_lesser 10 = .ok (.ldc 22, 2) := by decide +kernel
theorem dX7_lesser_12 : decode cX7_lesser 12 = .ok (.if_icmp .ne 8, 3) := by decide +kernel
theorem dX7_lesser_15 : decode cX7_lesser 15 = .ok (.ldc 22, 2) := by decide +kernel
theorem dX7_lesser_17 : decode cX7_lesser 17 = .ok (.goto 8, 3) := by decide +kernel
theorem dX7_lesser_20 : decode cX7_lesser 20 = .ok (.iload_n 0, 1) := by decide +kernel
theorem dX7_lesser_21 : decode cX7_lesser 21 = .ok (.iload_n 2, 1) := by decide +kernel
theorem dX7_lesser_22 : decode cX7_lesser 22 = .ok (.isub, 1) := by decide +kernel
theorem dX7_lesser_23 : decode cX7_lesser 23 = .ok (.iconst 2, 1) := by decide +kernel
theorem dX7_lesser_24 : decode cX7_lesser 24 = .ok (.idiv, 1) := by decide +kernel
theorem dX7_lesser_25 : decode cX7_lesser 25 = .ok (.ireturn, 1) := by decide +kernel
theorem dX7_order_0 : decode cX7_order 0 = .ok (.iload_n 1, 1) := by decide +kernel
theorem dX7_order_1 : decode cX7_order 1 = .ok (.ifCond .ne 5, 3) := by decide +kernel
theorem dX7_order_4 : decode cX7_order 4 = .ok (.iconst 0, 1) := by decide +kernel
theorem dX7_order_5 : decode cX7_order 5 = .ok (.ireturn, 1) := by decide +kernel
theorem dX7_order_6 : decode cX7_order 6 = .ok (.iload_n 0, 1) := by decide +kernel
theorem dX7_order_7 : decode cX7_order 7 = .ok (.ifCond .ne 5, 3) := by decide +kernel
theorem dX7_order_10 : decode cX7_order 10 = .ok (.iconst 2, 1) := by decide +kernel
theorem dX7_order_11 : decode cX7_order 11 = .ok (.ireturn, 1) := by decide +kernel
theorem dX7_order_12 : decode cX7_order 12 = .ok (.iload_n 0, 1) := by decide +kernel
theorem dX7_order_13 : decode cX7_order 13 = .ok (.iload_n 0, 1) := by decide +kernel
theorem dX7_order_14 : decode cX7_order 14 = .ok (.imul, 1) := by decide +kernel
theorem dX7_order_15 : decode cX7_order 15 = .ok (.iload_n 1, 1) := by decide +kernel
theorem dX7_order_16 : decode cX7_order 16 = .ok (.ineg, 1) := by decide +kernel
theorem dX7_order_17 : decode cX7_order 17 = .ok (.if_icmp .ne 5, 3) := by decide +kernel
theorem dX7_order_20 : decode cX7_order 20 = .ok (.iconst 3, 1) := by decide +kernel
theorem dX7_order_21 : decode cX7_order 21 = .ok (.ireturn, 1) := by decide +kernel
theorem dX7_order_22 : decode cX7_order 22 = .ok (.iload_n 0, 1) := by decide +kernel
theorem dX7_order_23 : decode cX7_order 23 = .ok (.iload_n 0, 1) := by decide +kernel
theorem dX7_order_24 : decode cX7_order 24 = .ok (.imul, 1) := by decide +kernel
theorem dX7_order_25 : decode cX7_order 25 = .ok (.bipush (-2), 2) := by decide +kernel
theorem dX7_order_27 : decode cX7_order 27 = .ok (.iload_n 1, 1) := by decide +kernel
theorem dX7_order_28 : decode cX7_order 28 = .ok (.imul, 1) := by decide +kernel
theorem dX7_order_29 : decode cX7_order 29 = .ok (.if_icmp .ne 5, 3) := by decide +kernel
theorem dX7_order_32 : decode cX7_order 32 = .ok (.iconst 4, 1) := by decide +kernel
theorem dX7_order_33 : decode cX7_order 33 = .ok (.ireturn, 1) := by decide +kernel
theorem dX7_order_34 : decode cX7_order 34 = .ok (.iload_n 0, 1) := by decide +kernel
theorem dX7_order_35 : decode cX7_order 35 = .ok (.iload_n 0, 1) := by decide +kernel
theorem dX7_order_36 : decode cX7_order 36 = .ok (.imul, 1) := by decide +kernel
theorem dX7_order_37 : decode cX7_order 37 = .ok (.bipush (-3), 2) := by decide +kernel
theorem dX7_order_39 : decode cX7_order 39 = .ok (.iload_n 1, 1) := by decide +kernel
theorem dX7_order_40 : decode cX7_order 40 = .ok (.imul, 1) := by decide +kernel
theorem dX7_order_41 : decode cX7_order 41 = .ok (.if_icmp .ne 8, 3) := by decide +kernel
theorem dX7_order_44 : decode cX7_order 44 = .ok (.bipush 6, 2) := by decide +kernel
theorem dX7_order_46 : decode cX7_order 46 = .ok (.goto 4, 3) := by decide +kernel
theorem dX7_order_49 : decode cX7_order 49 = .ok (.iconst 0, 1) := by decide +kernel
theorem dX7_order_50 : decode cX7_order 50 = .ok (.ireturn, 1) := by decide +kernel
theorem dX7_farthestSign_0 : decode cX7_farthestSign 0 = .ok (.iload_n 0, 1) := by decide +kernel
theorem dX7_farthestSign_1 : decode cX7_farthestSign 1 = .ok (.iload_n 1, 1) := by decide +kernel
theorem dX7_farthestSign_2 : decode cX7_farthestSign 2 = .ok (.invokestatic 9, 3) := by decide +kernel
theorem dX7_farthestSign_5 : decode cX7_farthestSign 5 = .ok (.ifCond .le 10, 3) := by decide +kernel
theorem dX7_farthestSign_8 : decode cX7_farthestSign 8 = .ok (.iload_n 0, 1) := by decide +kernel
theorem dX7_farthestSign_9 : decode cX7_farthestSign 9 = .ok (.invokestatic 15, 3) := by decide +kernel
theorem dX7_farthestSign_12 : decode cX7_farthestSign 12 = .ok (.goto 4, 3) := by decide +kernel
theorem dX7_farthestSign_15 : decode cX7_farthestSign 15 = .ok (.iconst 0, 1) := by decide +kernel
theorem dX7_farthestSign_16 : decode cX7_farthestSign 16 = .ok (.ireturn, 1) := by decide +kernel
theorem dX7_signOf_0 : decode cX7_signOf 0 = .ok (.iload_n 0, 1) := by decide +kernel
theorem dX7_signOf_1 : decode cX7_signOf 1 = .ok (.ifCond .ne 5, 3) := by decide +kernel
theorem dX7_signOf_4 : decode cX7_signOf 4 = .ok (.iconst 0, 1) := by decide +kernel
theorem dX7_signOf_5 : decode cX7_signOf 5 = .ok (.ireturn, 1) := by decide +kernel
theorem dX7_signOf_6 : decode cX7_signOf 6 = .ok (.iload_n 0, 1) := by decide +kernel
theorem dX7_signOf_7 : decode cX7_signOf 7 = .ok (.ifCond .le 7, 3) := by decide +kernel
theorem dX7_signOf_10 : decode cX7_signOf 10 = .ok (.iconst 1, 1) := by decide +kernel
theorem dX7_signOf_11 : decode cX7_signOf 11 = .ok (.goto 4, 3) := by decide +kernel
theorem dX7_signOf_14 : decode cX7_signOf 14 = .ok (.iconst (-1), 1) := by decide +kernel
theorem dX7_signOf_15 : decode cX7_signOf 15 = .ok (.ireturn, 1) := by decide +kernel
theorem dX7_discriminant_0 : decode cX7_discriminant 0 = .ok (.iload_n 0, 1) := by decide +kernel
theorem dX7_discriminant_1 : decode cX7_discriminant 1 = .ok (.iload_n 0, 1) := by decide +kernel
theorem dX7_discriminant_2 : decode cX7_discriminant 2 = .ok (.imul, 1) := by decide +kernel
theorem dX7_discriminant_3 : decode cX7_discriminant 3 = .ok (.iconst 4, 1) := by decide +kernel
theorem dX7_discriminant_4 : decode cX7_discriminant 4 = .ok (.iload_n 1, 1) := by decide +kernel
theorem dX7_discriminant_5 : decode cX7_discriminant 5 = .ok (.imul, 1) := by decide +kernel
theorem dX7_discriminant_6 : decode cX7_discriminant 6 = .ok (.iadd, 1) := by decide +kernel
theorem dX7_discriminant_7 : decode cX7_discriminant 7 = .ok (.ireturn, 1) := by decide +kernel
theorem dX7_wholeRootOf_0 : decode cX7_wholeRootOf 0 = .ok (.iconst 0, 1) := by decide +kernel
theorem dX7_wholeRootOf_1 : decode cX7_wholeRootOf 1 = .ok (.istore_n 1, 1) := by decide +kernel
theorem dX7_wholeRootOf_2 : decode cX7_wholeRootOf 2 = .ok (.iload_n 1, 1) := by decide +kernel
theorem dX7_wholeRootOf_3 : decode cX7_wholeRootOf 3 = .ok (.bipush 11, 2) := by decide +kernel
theorem dX7_wholeRootOf_5 : decode cX7_wholeRootOf 5 = .ok (.if_icmp .ge 18, 3) := by decide +kernel
theorem dX7_wholeRootOf_8 : decode cX7_wholeRootOf 8 = .ok (.iload_n 1, 1) := by decide +kernel
theorem dX7_wholeRootOf_9 : decode cX7_wholeRootOf 9 = .ok (.iload_n 1, 1) := by decide +kernel
theorem dX7_wholeRootOf_10 : decode cX7_wholeRootOf 10 = .ok (.imul, 1) := by decide +kernel
theorem dX7_wholeRootOf_11 : decode cX7_wholeRootOf 11 = .ok (.iload_n 0, 1) := by decide +kernel
theorem dX7_wholeRootOf_12 : decode cX7_wholeRootOf 12 = .ok (.if_icmp .ne 5, 3) := by decide +kernel
theorem dX7_wholeRootOf_15 : decode cX7_wholeRootOf 15 = .ok (.iload_n 1, 1) := by decide +kernel
theorem dX7_wholeRootOf_16 : decode cX7_wholeRootOf 16 = .ok (.ireturn, 1) := by decide +kernel
theorem dX7_wholeRootOf_17 : decode cX7_wholeRootOf 17 = .ok (.iinc 1 1, 3) := by decide +kernel
theorem dX7_wholeRootOf_20 : decode cX7_wholeRootOf 20 = .ok (.goto (-18), 3) := by decide +kernel
theorem dX7_wholeRootOf_23 : decode cX7_wholeRootOf 23 = .ok (.ldc 22, 2) := by decide +kernel
theorem dX7_wholeRootOf_25 : decode cX7_wholeRootOf 25 = .ok (.ireturn, 1) := by decide +kernel
theorem dX8_degreeOf_0 : decode cX8_degreeOf 0 = .ok (.aload_n 0, 1) := by decide +kernel
theorem dX8_degreeOf_1 : decode cX8_degreeOf 1 = .ok (.iload_n 1, 1) := by decide +kernel
theorem dX8_degreeOf_2 : decode cX8_degreeOf 2 = .ok (.invokevirtual 9, 3) := by decide +kernel
theorem dX8_degreeOf_5 : decode cX8_degreeOf 5 = .ok (.istore_n 2, 1) := by decide +kernel
theorem dX8_degreeOf_6 : decode cX8_degreeOf 6 = .ok (.iload_n 2, 1) := by decide +kernel
theorem dX8_degreeOf_7 : decode cX8_degreeOf 7 = .ok (.ifCond .ne 5, 3) := by decide +kernel
theorem dX8_degreeOf_10 : decode cX8_degreeOf 10 = .ok (.iconst 2, 1) := by decide +kernel
theorem dX8_degreeOf_11 : decode cX8_degreeOf 11 = .ok (.ireturn, 1) := by decide +kernel
theorem dX8_degreeOf_12 : decode cX8_degreeOf 12 = .ok (.aload_n 0, 1) := by decide +kernel
theorem dX8_degreeOf_13 : decode cX8_degreeOf 13 = .ok (.aload_n 0, 1) := by decide +kernel
theorem dX8_degreeOf_14 : decode cX8_degreeOf 14 = .ok (.iload_n 1, 1) := by decide +kernel
theorem dX8_degreeOf_15 : decode cX8_degreeOf 15 = .ok (.iconst 0, 1) := by decide +kernel
theorem dX8_degreeOf_16 : decode cX8_degreeOf 16 = .ok (.invokevirtual 15, 3) := by decide +kernel
theorem dX8_degreeOf_19 : decode cX8_degreeOf 19 = .ok (.invokevirtual 19, 3) := by decide +kernel
theorem dX8_degreeOf_22 : decode cX8_degreeOf 22 = .ok (.ifCond .ne 5, 3) := by decide +kernel
theorem dX8_degreeOf_25 : decode cX8_degreeOf 25 = .ok (.iconst 0, 1) := by decide +kernel
theorem dX8_degreeOf_26 : decode cX8_degreeOf 26 = .ok (.ireturn, 1) := by decide +kernel
theorem dX8_degreeOf_27 : decode cX8_degreeOf 27 = .ok (.iload_n 2, 1) := by decide +kernel
theorem dX8_degreeOf_28 : decode cX8_degreeOf 28 = .ok (.iconst 3, 1) := by decide +kernel
theorem dX8_degreeOf_29 : decode cX8_degreeOf 29 = .ok (.if_icmp .eq 8, 3) := by decide +kernel
theorem dX8_degreeOf_32 : decode cX8_degreeOf 32 = .ok (.iload_n 2, 1) := by decide +kernel
theorem dX8_degreeOf_33 : decode cX8_degreeOf 33 = .ok (.iconst 4, 1) := by decide +kernel
theorem dX8_degreeOf_34 : decode cX8_degreeOf 34 = .ok (.if_icmp .ne 5, 3) := by decide +kernel
theorem dX8_degreeOf_37 : decode cX8_degreeOf 37 = .ok (.iconst 2, 1) := by decide +kernel
theorem dX8_degreeOf_38 : decode cX8_degreeOf 38 = .ok (.ireturn, 1) := by decide +kernel
theorem dX8_degreeOf_39 : decode cX8_degreeOf 39 = .ok (.aload_n 0, 1) := by decide +kernel
theorem dX8_degreeOf_40 : decode cX8_degreeOf 40 = .ok (.aload_n 0, 1) := by decide +kernel
theorem dX8_degreeOf_41 : decode cX8_degreeOf 41 = .ok (.iload_n 1, 1) := by decide +kernel
theorem dX8_degreeOf_42 : decode cX8_degreeOf 42 = .ok (.iconst 1, 1) := by decide +kernel
theorem dX8_degreeOf_43 : decode cX8_degreeOf 43 = .ok (.invokevirtual 15, 3) := by decide +kernel
theorem dX8_degreeOf_46 : decode cX8_degreeOf 46 = .ok (.invokevirtual 19, 3) := by decide +kernel
theorem dX8_degreeOf_49 : decode cX8_degreeOf 49 = .ok (.ifCond .eq 7, 3) := by decide +kernel
theorem dX8_degreeOf_52 : decode cX8_degreeOf 52 = .ok (.iconst 4, 1) := by decide +kernel
theorem dX8_degreeOf_53 : decode cX8_degreeOf 53 = .ok (.goto 4, 3) := by decide +kernel
theorem dX8_degreeOf_56 : decode cX8_degreeOf 56 = .ok (.iconst 0, 1) := by decide +kernel
theorem dX8_degreeOf_57 : decode cX8_degreeOf 57 = .ok (.ireturn, 1) := by decide +kernel
theorem dX8_factorOf_0 : decode cX8_factorOf 0 = .ok (.aload_n 0, 1) := by decide +kernel
theorem dX8_factorOf_1 : decode cX8_factorOf 1 = .ok (.iload_n 1, 1) := by decide +kernel
theorem dX8_factorOf_2 : decode cX8_factorOf 2 = .ok (.invokevirtual 9, 3) := by decide +kernel
theorem dX8_factorOf_5 : decode cX8_factorOf 5 = .ok (.istore_n 3, 1) := by decide +kernel
theorem dX8_factorOf_6 : decode cX8_factorOf 6 = .ok (.iload_n 3, 1) := by decide +kernel
theorem dX8_factorOf_7 : decode cX8_factorOf 7 = .ok (.ifCond .ne 7, 3) := by decide +kernel
theorem dX8_factorOf_10 : decode cX8_factorOf 10 = .ok (.iload_n 1, 1) := by decide +kernel
theorem dX8_factorOf_11 : decode cX8_factorOf 11 = .ok (.goto 9, 3) := by decide +kernel
theorem dX8_factorOf_14 : decode cX8_factorOf 14 = .ok (.aload_n 0, 1) := by decide +kernel
theorem dX8_factorOf_15 : decode cX8_factorOf 15 = .ok (.iload_n 1, 1) := by decide +kernel
theorem dX8_factorOf_16 : decode cX8_factorOf 16 = .ok (.iconst 0, 1) := by decide +kernel
theorem dX8_factorOf_17 : decode cX8_factorOf 17 = .ok (.invokevirtual 15, 3) := by decide +kernel
theorem dX8_factorOf_20 : decode cX8_factorOf 20 = .ok (.istore 4, 2) := by decide +kernel
theorem dX8_factorOf_22 : decode cX8_factorOf 22 = .ok (.aload_n 0, 1) := by decide +kernel
theorem dX8_factorOf_23 : decode cX8_factorOf 23 = .ok (.iload 4, 2) := by decide +kernel
theorem dX8_factorOf_25 : decode cX8_factorOf 25 = .ok (.iconst 0, 1) := by decide +kernel
theorem dX8_factorOf_26 : decode cX8_factorOf 26 = .ok (.invokevirtual 15, 3) := by decide +kernel
theorem dX8_factorOf_29 : decode cX8_factorOf 29 = .ok (.istore 5, 2) := by decide +kernel
theorem dX8_factorOf_31 : decode cX8_factorOf 31 = .ok (.aload_n 0, 1) := by decide +kernel
theorem dX8_factorOf_32 : decode cX8_factorOf 32 = .ok (.iload 4, 2) := by decide +kernel
theorem dX8_factorOf_34 : decode cX8_factorOf 34 = .ok (.iconst 1, 1) := by decide +kernel
theorem dX8_factorOf_35 : decode cX8_factorOf 35 = .ok (.invokevirtual 15, 3) := by decide +kernel
theorem dX8_factorOf_38 : decode cX8_factorOf 38 = .ok (.istore 6, 2) := by decide +kernel
theorem dX8_factorOf_40 : decode cX8_factorOf 40 = .ok (.iload_n 3, 1) := by decide +kernel
theorem dX8_factorOf_41 : decode cX8_factorOf 41 = .ok (.ifCond .eq 8, 3) := by decide +kernel
theorem dX8_factorOf_44 : decode cX8_factorOf 44 = .ok (.iload_n 3, 1) := by decide +kernel
theorem dX8_factorOf_45 : decode cX8_factorOf 45 = .ok (.iconst 4, 1) := by decide +kernel
theorem dX8_factorOf_46 : decode cX8_factorOf 46 = .ok (.if_icmp .ne 12, 3) := by decide +kernel
theorem dX8_factorOf_49 : decode cX8_factorOf 49 = .ok (.iload_n 2, 1) := by decide +kernel
theorem dX8_factorOf_50 : decode cX8_factorOf 50 = .ok (.iload 5, 2) := by decide +kernel
theorem dX8_factorOf_52 : decode cX8_factorOf 52 = .ok (.iload 6, 2) := by decide +kernel
theorem dX8_factorOf_54 : decode cX8_factorOf 54 = .ok (.invokestatic 23, 3) := by decide +kernel
theorem dX8_factorOf_57 : decode cX8_factorOf 57 = .ok (.ireturn, 1) := by decide +kernel
theorem dX8_factorOf_58 : decode cX8_factorOf 58 = .ok (.iload_n 3, 1) := by decide +kernel
theorem dX8_factorOf_59 : decode cX8_factorOf 59 = .ok (.iconst 3, 1) := by decide +kernel
theorem dX8_factorOf_60 : decode cX8_factorOf 60 = .ok (.if_icmp .ne 18, 3) := by decide +kernel
theorem dX8_factorOf_63 : decode cX8_factorOf 63 = .ok (.iload_n 2, 1) := by decide +kernel
theorem dX8_factorOf_64 : decode cX8_factorOf 64 = .ok (.aload_n 0, 1) := by decide +kernel
theorem dX8_factorOf_65 : decode cX8_factorOf 65 = .ok (.iload_n 1, 1) := by decide +kernel
theorem dX8_factorOf_66 : decode cX8_factorOf 66 = .ok (.iconst 1, 1) := by decide +kernel
theorem dX8_factorOf_67 : decode cX8_factorOf 67 = .ok (.invokevirtual 15, 3) := by decide +kernel
theorem dX8_factorOf_70 : decode cX8_factorOf 70 = .ok (.iload 5, 2) := by decide +kernel
theorem dX8_factorOf_72 : decode cX8_factorOf 72 = .ok (.iload 6, 2) := by decide +kernel
theorem dX8_factorOf_74 : decode cX8_factorOf 74 = .ok (.invokestatic 29, 3) := by decide +kernel
theorem dX8_factorOf_77 : decode cX8_factorOf 77 = .ok (.ireturn, 1) := by decide +kernel
theorem dX8_factorOf_78 : decode cX8_factorOf 78 = .ok (.aload_n 0, 1) := by decide +kernel
theorem dX8_factorOf_79 : decode cX8_factorOf 79 = .ok (.iload_n 1, 1) := by decide +kernel
theorem dX8_factorOf_80 : decode cX8_factorOf 80 = .ok (.iconst 1, 1) := by decide +kernel
theorem dX8_factorOf_81 : decode cX8_factorOf 81 = .ok (.invokevirtual 15, 3) := by decide +kernel
theorem dX8_factorOf_84 : decode cX8_factorOf 84 = .ok (.istore 7, 2) := by decide +kernel
theorem dX8_factorOf_86 : decode cX8_factorOf 86 = .ok (.aload_n 0, 1) := by decide +kernel
theorem dX8_factorOf_87 : decode cX8_factorOf 87 = .ok (.iload 7, 2) := by decide +kernel
theorem dX8_factorOf_89 : decode cX8_factorOf 89 = .ok (.iconst 0, 1) := by decide +kernel
theorem dX8_factorOf_90 : decode cX8_factorOf 90 = .ok (.invokevirtual 15, 3) := by decide +kernel
theorem dX8_factorOf_93 : decode cX8_factorOf 93 = .ok (.istore 8, 2) := by decide +kernel
theorem dX8_factorOf_95 : decode cX8_factorOf 95 = .ok (.aload_n 0, 1) := by decide +kernel
theorem dX8_factorOf_96 : decode cX8_factorOf 96 = .ok (.iload 7, 2) := by decide +kernel
theorem dX8_factorOf_98 : decode cX8_factorOf 98 = .ok (.iconst 1, 1) := by decide +kernel
theorem dX8_factorOf_99 : decode cX8_factorOf 99 = .ok (.invokevirtual 15, 3) := by decide +kernel
theorem dX8_factorOf_102 : decode cX8_factorOf 102 = .ok (.istore 9, 2) := by decide +kernel
theorem dX8_factorOf_104 : decode cX8_factorOf 104 = .ok (.iload_n 3, 1) := by decide +kernel
theorem dX8_factorOf_105 : decode cX8_factorOf 105 = .ok (.iconst 1, 1) := by decide +kernel
theorem dX8_factorOf_106 : decode cX8_factorOf 106 = .ok (.if_icmp .ne 18, 3) := by decide +kernel
theorem dX8_factorOf_109 : decode cX8_factorOf 109 = .ok (.iload_n 2, 1) := by decide +kernel
theorem dX8_factorOf_110 : decode cX8_factorOf 110 = .ok (.iload 5, 2) := by decide +kernel
theorem dX8_factorOf_112 : decode cX8_factorOf 112 = .ok (.iload 6, 2) := by decide +kernel
theorem dX8_factorOf_114 : decode cX8_factorOf 114 = .ok (.iload 8, 2) := by decide +kernel
theorem dX8_factorOf_116 : decode cX8_factorOf 116 = .ok (.iload 9, 2) := by decide +kernel
theorem dX8_factorOf_118 : decode cX8_factorOf 118 = .ok (.invokestatic 33, 3) := by decide +kernel
theorem dX8_factorOf_121 : decode cX8_factorOf 121 = .ok (.goto 15, 3) := by decide +kernel
theorem dX8_factorOf_124 : decode cX8_factorOf 124 = .ok (.iload_n 2, 1) := by decide +kernel
theorem dX8_factorOf_125 : decode cX8_factorOf 125 = .ok (.iload 5, 2) := by decide +kernel
theorem dX8_factorOf_127 : decode cX8_factorOf 127 = .ok (.iload 6, 2) := by decide +kernel
theorem dX8_factorOf_129 : decode cX8_factorOf 129 = .ok (.iload 8, 2) := by decide +kernel
theorem dX8_factorOf_131 : decode cX8_factorOf 131 = .ok (.iload 9, 2) := by decide +kernel
theorem dX8_factorOf_133 : decode cX8_factorOf 133 = .ok (.invokestatic 37, 3) := by decide +kernel
theorem dX8_factorOf_136 : decode cX8_factorOf 136 = .ok (.ireturn, 1) := by decide +kernel
theorem dX8_ofTwo_0 : decode cX8_ofTwo 0 = .ok (.iload_n 0, 1) := by decide +kernel
theorem dX8_ofTwo_1 : decode cX8_ofTwo 1 = .ok (.iconst 1, 1) := by decide +kernel
theorem dX8_ofTwo_2 : decode cX8_ofTwo 2 = .ok (.if_icmp .ne 5, 3) := by decide +kernel
theorem dX8_ofTwo_5 : decode cX8_ofTwo 5 = .ok (.iload_n 1, 1) := by decide +kernel
theorem dX8_ofTwo_6 : decode cX8_ofTwo 6 = .ok (.ireturn, 1) := by decide +kernel
theorem dX8_ofTwo_7 : decode cX8_ofTwo 7 = .ok (.iload_n 0, 1) := by decide +kernel
theorem dX8_ofTwo_8 : decode cX8_ofTwo 8 = .ok (.iconst 2, 1) := by decide +kernel
theorem dX8_ofTwo_9 : decode cX8_ofTwo 9 = .ok (.if_icmp .ne 7, 3) := by decide +kernel
theorem dX8_ofTwo_12 : decode cX8_ofTwo 12 = .ok (.iload_n 2, 1) := by decide +kernel
theorem dX8_ofTwo_13 : decode cX8_ofTwo 13 = .ok (.goto 4, 3) := by decide +kernel
theorem dX8_ofTwo_16 : decode cX8_ofTwo 16 = .ok (.iconst 0, 1) := by decide +kernel
theorem dX8_ofTwo_17 : decode cX8_ofTwo 17 = .ok (.ireturn, 1) := by decide +kernel
theorem dX8_ofPowers_0 : decode cX8_ofPowers 0 = .ok (.iconst 2, 1) := by decide +kernel
theorem dX8_ofPowers_1 : decode cX8_ofPowers 1 = .ok (.istore 4, 2) := by decide +kernel
theorem dX8_ofPowers_3 : decode cX8_ofPowers 3 = .ok (.iload_n 2, 1) := by decide +kernel
theorem dX8_ofPowers_4 : decode cX8_ofPowers 4 = .ok (.istore 5, 2) := by decide +kernel
theorem dX8_ofPowers_6 : decode cX8_ofPowers 6 = .ok (.iload_n 3, 1) := by decide +kernel
theorem dX8_ofPowers_7 : decode cX8_ofPowers 7 = .ok (.ineg, 1) := by decide +kernel
theorem dX8_ofPowers_8 : decode cX8_ofPowers 8 = .ok (.istore 6, 2) := by decide +kernel
theorem dX8_ofPowers_10 : decode cX8_ofPowers 10 = .ok (.iconst 1, 1) := by decide +kernel
theorem dX8_ofPowers_11 : decode cX8_ofPowers 11 = .ok (.istore 7, 2) := by decide +kernel
theorem dX8_ofPowers_13 : decode cX8_ofPowers 13 = .ok (.iload 7, 2) := by decide +kernel
theorem dX8_ofPowers_15 : decode cX8_ofPowers 15 = .ok (.iload_n 1, 1) := by decide +kernel
theorem dX8_ofPowers_16 : decode cX8_ofPowers 16 = .ok (.if_icmp .ge 35, 3) := by decide +kernel
theorem dX8_ofPowers_19 : decode cX8_ofPowers 19 = .ok (.iload_n 2, 1) := by decide +kernel
theorem dX8_ofPowers_20 : decode cX8_ofPowers 20 = .ok (.iload 5, 2) := by decide +kernel
theorem dX8_ofPowers_22 : decode cX8_ofPowers 22 = .ok (.imul, 1) := by decide +kernel
theorem dX8_ofPowers_23 : decode cX8_ofPowers 23 = .ok (.iload_n 3, 1) := by decide +kernel
theorem dX8_ofPowers_24 : decode cX8_ofPowers 24 = .ok (.iload 4, 2) := by decide +kernel
theorem dX8_ofPowers_26 : decode cX8_ofPowers 26 = .ok (.imul, 1) := by decide +kernel
theorem dX8_ofPowers_27 : decode cX8_ofPowers 27 = .ok (.iadd, 1) := by decide +kernel
theorem dX8_ofPowers_28 : decode cX8_ofPowers 28 = .ok (.istore 8, 2) := by decide +kernel
theorem dX8_ofPowers_30 : decode cX8_ofPowers 30 = .ok (.iload 5, 2) := by decide +kernel
theorem dX8_ofPowers_32 : decode cX8_ofPowers 32 = .ok (.istore 4, 2) := by decide +kernel
theorem dX8_ofPowers_34 : decode cX8_ofPowers 34 = .ok (.iload 8, 2) := by decide +kernel
theorem dX8_ofPowers_36 : decode cX8_ofPowers 36 = .ok (.istore 5, 2) := by decide +kernel
theorem dX8_ofPowers_38 : decode cX8_ofPowers 38 = .ok (.iload 6, 2) := by decide +kernel
theorem dX8_ofPowers_40 : decode cX8_ofPowers 40 = .ok (.iload_n 3, 1) := by decide +kernel
theorem dX8_ofPowers_41 : decode cX8_ofPowers 41 = .ok (.ineg, 1) := by decide +kernel
theorem dX8_ofPowers_42 : decode cX8_ofPowers 42 = .ok (.imul, 1) := by decide +kernel
theorem dX8_ofPowers_43 : decode cX8_ofPowers 43 = .ok (.istore 6, 2) := by decide +kernel
theorem dX8_ofPowers_45 : decode cX8_ofPowers 45 = .ok (.iinc 7 1, 3) := by decide +kernel
theorem dX8_ofPowers_48 : decode cX8_ofPowers 48 = .ok (.goto (-35), 3) := by decide +kernel
theorem dX8_ofPowers_51 : decode cX8_ofPowers 51 = .ok (.iload_n 0, 1) := by decide +kernel
theorem dX8_ofPowers_52 : decode cX8_ofPowers 52 = .ok (.iload 5, 2) := by decide +kernel
theorem dX8_ofPowers_54 : decode cX8_ofPowers 54 = .ok (.iload 6, 2) := by decide +kernel
theorem dX8_ofPowers_56 : decode cX8_ofPowers 56 = .ok (.ineg, 1) := by decide +kernel
theorem dX8_ofPowers_57 : decode cX8_ofPowers 57 = .ok (.invokestatic 23, 3) := by decide +kernel
theorem dX8_ofPowers_60 : decode cX8_ofPowers 60 = .ok (.ireturn, 1) := by decide +kernel
theorem dX8_ofSum_0 : decode cX8_ofSum 0 = .ok (.iload_n 0, 1) := by decide +kernel
theorem dX8_ofSum_1 : decode cX8_ofSum 1 = .ok (.tableswitch 60 1 4 #[31, 35, 44, 54], 31) := by decide +kernel
theorem dX8_ofSum_32 : decode cX8_ofSum 32 = .ok (.iload_n 1, 1) := by decide +kernel
theorem dX8_ofSum_33 : decode cX8_ofSum 33 = .ok (.iload_n 3, 1) := by decide +kernel
theorem dX8_ofSum_34 : decode cX8_ofSum 34 = .ok (.iadd, 1) := by decide +kernel
theorem dX8_ofSum_35 : decode cX8_ofSum 35 = .ok (.ireturn, 1) := by decide +kernel
theorem dX8_ofSum_36 : decode cX8_ofSum 36 = .ok (.iload_n 2, 1) := by decide +kernel
theorem dX8_ofSum_37 : decode cX8_ofSum 37 = .ok (.iload 4, 2) := by decide +kernel
theorem dX8_ofSum_39 : decode cX8_ofSum 39 = .ok (.iadd, 1) := by decide +kernel
theorem dX8_ofSum_40 : decode cX8_ofSum 40 = .ok (.iload_n 1, 1) := by decide +kernel
theorem dX8_ofSum_41 : decode cX8_ofSum 41 = .ok (.iload_n 3, 1) := by decide +kernel
theorem dX8_ofSum_42 : decode cX8_ofSum 42 = .ok (.imul, 1) := by decide +kernel
theorem dX8_ofSum_43 : decode cX8_ofSum 43 = .ok (.isub, 1) := by decide +kernel
theorem dX8_ofSum_44 : decode cX8_ofSum 44 = .ok (.ireturn, 1) := by decide +kernel
theorem dX8_ofSum_45 : decode cX8_ofSum 45 = .ok (.iload_n 1, 1) := by decide +kernel
theorem dX8_ofSum_46 : decode cX8_ofSum 46 = .ok (.iload 4, 2) := by decide +kernel
theorem dX8_ofSum_48 : decode cX8_ofSum 48 = .ok (.imul, 1) := by decide +kernel
theorem dX8_ofSum_49 : decode cX8_ofSum 49 = .ok (.iload_n 3, 1) := by decide +kernel
theorem dX8_ofSum_50 : decode cX8_ofSum 50 = .ok (.iload_n 2, 1) := by decide +kernel
theorem dX8_ofSum_51 : decode cX8_ofSum 51 = .ok (.imul, 1) := by decide +kernel
theorem dX8_ofSum_52 : decode cX8_ofSum 52 = .ok (.iadd, 1) := by decide +kernel
theorem dX8_ofSum_53 : decode cX8_ofSum 53 = .ok (.ineg, 1) := by decide +kernel
theorem dX8_ofSum_54 : decode cX8_ofSum 54 = .ok (.ireturn, 1) := by decide +kernel
theorem dX8_ofSum_55 : decode cX8_ofSum 55 = .ok (.iload_n 2, 1) := by decide +kernel
theorem dX8_ofSum_56 : decode cX8_ofSum 56 = .ok (.iload 4, 2) := by decide +kernel
theorem dX8_ofSum_58 : decode cX8_ofSum 58 = .ok (.imul, 1) := by decide +kernel
theorem dX8_ofSum_59 : decode cX8_ofSum 59 = .ok (.ineg, 1) := by decide +kernel
theorem dX8_ofSum_60 : decode cX8_ofSum 60 = .ok (.ireturn, 1) := by decide +kernel
theorem dX8_ofSum_61 : decode cX8_ofSum 61 = .ok (.iconst 0, 1) := by decide +kernel
theorem dX8_ofSum_62 : decode cX8_ofSum 62 = .ok (.ireturn, 1) := by decide +kernel
theorem dX8_ofProduct_0 : decode cX8_ofProduct 0 = .ok (.iload_n 0, 1) := by decide +kernel
theorem dX8_ofProduct_1 : decode cX8_ofProduct 1 = .ok (.tableswitch 75 1 4 #[31, 35, 55, 64], 31) := by decide +kernel
theorem dX8_ofProduct_32 : decode cX8_ofProduct 32 = .ok (.iload_n 1, 1) := by decide +kernel
theorem dX8_ofProduct_33 : decode cX8_ofProduct 33 = .ok (.iload_n 3, 1) := by decide +kernel
theorem dX8_ofProduct_34 : decode cX8_ofProduct 34 = .ok (.imul, 1) := by decide +kernel
theorem dX8_ofProduct_35 : decode cX8_ofProduct 35 = .ok (.ireturn, 1) := by decide +kernel
theorem dX8_ofProduct_36 : decode cX8_ofProduct 36 = .ok (.iload_n 1, 1) := by decide +kernel
theorem dX8_ofProduct_37 : decode cX8_ofProduct 37 = .ok (.iload_n 1, 1) := by decide +kernel
theorem dX8_ofProduct_38 : decode cX8_ofProduct 38 = .ok (.imul, 1) := by decide +kernel
theorem dX8_ofProduct_39 : decode cX8_ofProduct 39 = .ok (.iload 4, 2) := by decide +kernel
theorem dX8_ofProduct_41 : decode cX8_ofProduct 41 = .ok (.imul, 1) := by decide +kernel
theorem dX8_ofProduct_42 : decode cX8_ofProduct 42 = .ok (.iload_n 3, 1) := by decide +kernel
theorem dX8_ofProduct_43 : decode cX8_ofProduct 43 = .ok (.iload_n 3, 1) := by decide +kernel
theorem dX8_ofProduct_44 : decode cX8_ofProduct 44 = .ok (.imul, 1) := by decide +kernel
theorem dX8_ofProduct_45 : decode cX8_ofProduct 45 = .ok (.iload_n 2, 1) := by decide +kernel
theorem dX8_ofProduct_46 : decode cX8_ofProduct 46 = .ok (.imul, 1) := by decide +kernel
theorem dX8_ofProduct_47 : decode cX8_ofProduct 47 = .ok (.iadd, 1) := by decide +kernel
theorem dX8_ofProduct_48 : decode cX8_ofProduct 48 = .ok (.iconst 2, 1) := by decide +kernel
theorem dX8_ofProduct_49 : decode cX8_ofProduct 49 = .ok (.iload_n 2, 1) := by decide +kernel
theorem dX8_ofProduct_50 : decode cX8_ofProduct 50 = .ok (.imul, 1) := by decide +kernel
theorem dX8_ofProduct_51 : decode cX8_ofProduct 51 = .ok (.iload 4, 2) := by decide +kernel
theorem dX8_ofProduct_53 : decode cX8_ofProduct 53 = .ok (.imul, 1) := by decide +kernel
theorem dX8_ofProduct_54 : decode cX8_ofProduct 54 = .ok (.iadd, 1) := by decide +kernel
theorem dX8_ofProduct_55 : decode cX8_ofProduct 55 = .ok (.ireturn, 1) := by decide +kernel
theorem dX8_ofProduct_56 : decode cX8_ofProduct 56 = .ok (.iload_n 1, 1) := by decide +kernel
theorem dX8_ofProduct_57 : decode cX8_ofProduct 57 = .ok (.iload_n 3, 1) := by decide +kernel
theorem dX8_ofProduct_58 : decode cX8_ofProduct 58 = .ok (.imul, 1) := by decide +kernel
theorem dX8_ofProduct_59 : decode cX8_ofProduct 59 = .ok (.iload_n 2, 1) := by decide +kernel
theorem dX8_ofProduct_60 : decode cX8_ofProduct 60 = .ok (.imul, 1) := by decide +kernel
theorem dX8_ofProduct_61 : decode cX8_ofProduct 61 = .ok (.iload 4, 2) := by decide +kernel
theorem dX8_ofProduct_63 : decode cX8_ofProduct 63 = .ok (.imul, 1) := by decide +kernel
theorem dX8_ofProduct_64 : decode cX8_ofProduct 64 = .ok (.ireturn, 1) := by decide +kernel
theorem dX8_ofProduct_65 : decode cX8_ofProduct 65 = .ok (.iload_n 2, 1) := by decide +kernel
theorem dX8_ofProduct_66 : decode cX8_ofProduct 66 = .ok (.iload_n 2, 1) := by decide +kernel
theorem dX8_ofProduct_67 : decode cX8_ofProduct 67 = .ok (.imul, 1) := by decide +kernel
theorem dX8_ofProduct_68 : decode cX8_ofProduct 68 = .ok (.iload 4, 2) := by decide +kernel
theorem dX8_ofProduct_70 : decode cX8_ofProduct 70 = .ok (.imul, 1) := by decide +kernel
theorem dX8_ofProduct_71 : decode cX8_ofProduct 71 = .ok (.iload 4, 2) := by decide +kernel
theorem dX8_ofProduct_73 : decode cX8_ofProduct 73 = .ok (.imul, 1) := by decide +kernel
theorem dX8_ofProduct_74 : decode cX8_ofProduct 74 = .ok (.ineg, 1) := by decide +kernel
theorem dX8_ofProduct_75 : decode cX8_ofProduct 75 = .ok (.ireturn, 1) := by decide +kernel
theorem dX8_ofProduct_76 : decode cX8_ofProduct 76 = .ok (.iconst 0, 1) := by decide +kernel
theorem dX8_ofProduct_77 : decode cX8_ofProduct 77 = .ok (.ireturn, 1) := by decide +kernel
theorem dX9_init_0 : decode cX9_init 0 = .ok (.aload_n 0, 1) := by decide +kernel
theorem dX9_init_1 : decode cX9_init 1 = .ok (.invokespecial 3, 3) := by decide +kernel
theorem dX9_init_4 : decode cX9_init 4 = .ok (.aload_n 0, 1) := by decide +kernel
theorem dX9_init_5 : decode cX9_init 5 = .ok (.sipush 1608, 3) := by decide +kernel
theorem dX9_init_8 : decode cX9_init 8 = .ok (.newarray .int, 2) := by decide +kernel
theorem dX9_init_10 : decode cX9_init 10 = .ok (.putfield 11, 3) := by decide +kernel
theorem dX9_init_13 : decode cX9_init 13 = .ok (.return_, 1) := by decide +kernel
theorem dX9_forgetFrom_0 : decode cX9_forgetFrom 0 = .ok (.aload_n 0, 1) := by decide +kernel
theorem dX9_forgetFrom_1 : decode cX9_forgetFrom 1 = .ok (.aload_n 0, 1) := by decide +kernel
theorem dX9_forgetFrom_2 : decode cX9_forgetFrom 2 = .ok (.getfield 15, 3) := by decide +kernel
theorem dX9_forgetFrom_5 : decode cX9_forgetFrom 5 = .ok (.iload_n 1, 1) := by decide +kernel
theorem dX9_forgetFrom_6 : decode cX9_forgetFrom 6 = .ok (.invokestatic 19, 3) := by decide +kernel
theorem dX9_forgetFrom_9 : decode cX9_forgetFrom 9 = .ok (.putfield 15, 3) := by decide +kernel
theorem dX9_forgetFrom_12 : decode cX9_forgetFrom 12 = .ok (.return_, 1) := by decide +kernel
theorem dX9_at_0 : decode cX9_at 0 = .ok (.aload_n 0, 1) := by decide +kernel
theorem dX9_at_1 : decode cX9_at 1 = .ok (.getfield 15, 3) := by decide +kernel
theorem dX9_at_4 : decode cX9_at 4 = .ok (.iload_n 2, 1) := by decide +kernel
theorem dX9_at_5 : decode cX9_at 5 = .ok (.if_icmp .gt 34, 3) := by decide +kernel
theorem dX9_at_8 : decode cX9_at 8 = .ok (.aload_n 0, 1) := by decide +kernel
theorem dX9_at_9 : decode cX9_at 9 = .ok (.getfield 15, 3) := by decide +kernel
theorem dX9_at_12 : decode cX9_at 12 = .ok (.bipush 8, 2) := by decide +kernel
theorem dX9_at_14 : decode cX9_at 14 = .ok (.if_icmp .ge 25, 3) := by decide +kernel
theorem dX9_at_17 : decode cX9_at 17 = .ok (.aload_n 0, 1) := by decide +kernel
theorem dX9_at_18 : decode cX9_at 18 = .ok (.aload_n 1, 1) := by decide +kernel
theorem dX9_at_19 : decode cX9_at 19 = .ok (.aload_n 0, 1) := by decide +kernel
theorem dX9_at_20 : decode cX9_at 20 = .ok (.getfield 15, 3) := by decide +kernel
theorem dX9_at_23 : decode cX9_at 23 = .ok (.invokevirtual 25, 3) := by decide +kernel
theorem dX9_at_26 : decode cX9_at 26 = .ok (.aload_n 0, 1) := by decide +kernel
theorem dX9_at_27 : decode cX9_at 27 = .ok (.dup, 1) := by decide +kernel
theorem dX9_at_28 : decode cX9_at 28 = .ok (.getfield 15, 3) := by decide +kernel
theorem dX9_at_31 : decode cX9_at 31 = .ok (.iconst 1, 1) := by decide +kernel
theorem dX9_at_32 : decode cX9_at 32 = .ok (.iadd, 1) := by decide +kernel
theorem dX9_at_33 : decode cX9_at 33 = .ok (.putfield 15, 3) := by decide +kernel
theorem dX9_at_36 : decode cX9_at 36 = .ok (.goto (-36), 3) := by decide +kernel
theorem dX9_at_39 : decode cX9_at 39 = .ok (.aload_n 0, 1) := by decide +kernel
theorem dX9_at_40 : decode cX9_at 40 = .ok (.iload_n 2, 1) := by decide +kernel
theorem dX9_at_41 : decode cX9_at 41 = .ok (.iload_n 3, 1) := by decide +kernel
theorem dX9_at_42 : decode cX9_at 42 = .ok (.invokevirtual 29, 3) := by decide +kernel
theorem dX9_at_45 : decode cX9_at 45 = .ok (.ireturn, 1) := by decide +kernel
theorem dX9_valueAt_0 : decode cX9_valueAt 0 = .ok (.iload_n 1, 1) := by decide +kernel
theorem dX9_valueAt_1 : decode cX9_valueAt 1 = .ok (.ifCond .lt 24, 3) := by decide +kernel
theorem dX9_valueAt_4 : decode cX9_valueAt 4 = .ok (.iload_n 1, 1) := by decide +kernel
theorem dX9_valueAt_5 : decode cX9_valueAt 5 = .ok (.bipush 8, 2) := by decide +kernel
theorem dX9_valueAt_7 : decode cX9_valueAt 7 = .ok (.if_icmp .ge 18, 3) := by decide +kernel
theorem dX9_valueAt_10 : decode cX9_valueAt 10 = .ok (.iload_n 2, 1) := by decide +kernel
theorem dX9_valueAt_11 : decode cX9_valueAt 11 = .ok (.ifCond .lt 14, 3) := by decide +kernel
theorem dX9_valueAt_14 : decode cX9_valueAt 14 = .ok (.iload_n 2, 1) := by decide +kernel
theorem dX9_valueAt_15 : decode cX9_valueAt 15 = .ok (.sipush 200, 3) := by decide +kernel
theorem dX9_valueAt_18 : decode cX9_valueAt 18 = .ok (.if_icmp .gt 7, 3) := by decide +kernel
theorem dX9_valueAt_21 : decode cX9_valueAt 21 = .ok (.iconst 1, 1) := by decide +kernel
theorem dX9_valueAt_22 : decode cX9_valueAt 22 = .ok (.goto 4, 3) := by decide +kernel
theorem dX9_valueAt_25 : decode cX9_valueAt 25 = .ok (.iconst 0, 1) := by decide +kernel
theorem dX9_valueAt_26 : decode cX9_valueAt 26 = .ok (.istore_n 3, 1) := by decide +kernel
theorem dX9_valueAt_27 : decode cX9_valueAt 27 = .ok (.iload_n 3, 1) := by decide +kernel
theorem dX9_valueAt_28 : decode cX9_valueAt 28 = .ok (.ifCond .eq 18, 3) := by decide +kernel
theorem dX9_valueAt_31 : decode cX9_valueAt 31 = .ok (.aload_n 0, 1) := by decide +kernel
theorem dX9_valueAt_32 : decode cX9_valueAt 32 = .ok (.getfield 11, 3) := by decide +kernel
theorem dX9_valueAt_35 : decode cX9_valueAt 35 = .ok (.iload_n 1, 1) := by decide +kernel
theorem dX9_valueAt_36 : decode cX9_valueAt 36 = .ok (.sipush 201, 3) := by decide +kernel
theorem dX9_valueAt_39 : decode cX9_valueAt 39 = .ok (.imul, 1) := by decide +kernel
theorem dX9_valueAt_40 : decode cX9_valueAt 40 = .ok (.iload_n 2, 1) := by decide +kernel
theorem dX9_valueAt_41 : decode cX9_valueAt 41 = .ok (.iadd, 1) := by decide +kernel
theorem dX9_valueAt_42 : decode cX9_valueAt 42 = .ok (.iaload, 1) := by decide +kernel
theorem dX9_valueAt_43 : decode cX9_valueAt 43 = .ok (.goto 5, 3) := by decide +kernel
theorem dX9_valueAt_46 : decode cX9_valueAt 46 = .ok (.ldc 32, 2) := by decide +kernel
theorem dX9_valueAt_48 : decode cX9_valueAt 48 = .ok (.ireturn, 1) := by decide +kernel
theorem dX9_fill_0 : decode cX9_fill 0 = .ok (.aload_n 1, 1) := by decide +kernel
theorem dX9_fill_1 : decode cX9_fill 1 = .ok (.iload_n 2, 1) := by decide +kernel
theorem dX9_fill_2 : decode cX9_fill 2 = .ok (.iconst 0, 1) := by decide +kernel
theorem dX9_fill_3 : decode cX9_fill 3 = .ok (.invokevirtual 33, 3) := by decide +kernel
theorem dX9_fill_6 : decode cX9_fill 6 = .ok (.istore_n 3, 1) := by decide +kernel
theorem dX9_fill_7 : decode cX9_fill 7 = .ok (.aload_n 1, 1) := by decide +kernel
theorem dX9_fill_8 : decode cX9_fill 8 = .ok (.iload_n 2, 1) := by decide +kernel
theorem dX9_fill_9 : decode cX9_fill 9 = .ok (.iconst 1, 1) := by decide +kernel
theorem dX9_fill_10 : decode cX9_fill 10 = .ok (.invokevirtual 33, 3) := by decide +kernel
theorem dX9_fill_13 : decode cX9_fill 13 = .ok (.istore 4, 2) := by decide +kernel
theorem dX9_fill_15 : decode cX9_fill 15 = .ok (.aload_n 1, 1) := by decide +kernel
theorem dX9_fill_16 : decode cX9_fill 16 = .ok (.iload_n 2, 1) := by decide +kernel
theorem dX9_fill_17 : decode cX9_fill 17 = .ok (.iconst 2, 1) := by decide +kernel
theorem dX9_fill_18 : decode cX9_fill 18 = .ok (.invokevirtual 33, 3) := by decide +kernel
theorem dX9_fill_21 : decode cX9_fill 21 = .ok (.istore 5, 2) := by decide +kernel
theorem dX9_fill_23 : decode cX9_fill 23 = .ok (.aload_n 1, 1) := by decide +kernel
theorem dX9_fill_24 : decode cX9_fill 24 = .ok (.iload_n 2, 1) := by decide +kernel
theorem dX9_fill_25 : decode cX9_fill 25 = .ok (.invokevirtual 38, 3) := by decide +kernel
theorem dX9_fill_28 : decode cX9_fill 28 = .ok (.istore 6, 2) := by decide +kernel
theorem dX9_fill_30 : decode cX9_fill 30 = .ok (.iload_n 2, 1) := by decide +kernel
theorem dX9_fill_31 : decode cX9_fill 31 = .ok (.sipush 201, 3) := by decide +kernel
theorem dX9_fill_34 : decode cX9_fill 34 = .ok (.imul, 1) := by decide +kernel
theorem dX9_fill_35 : decode cX9_fill 35 = .ok (.istore 7, 2) := by decide +kernel
theorem dX9_fill_37 : decode cX9_fill 37 = .ok (.iload 7, 2) := by decide +kernel
theorem dX9_fill_39 : decode cX9_fill 39 = .ok (.ifCond .lt 17, 3) := by decide +kernel
theorem dX9_fill_42 : decode cX9_fill 42 = .ok (.iload 7, 2) := by decide +kernel
theorem dX9_fill_44 : decode cX9_fill 44 = .ok (.sipush 200, 3) := by decide +kernel
theorem dX9_fill_47 : decode cX9_fill 47 = .ok (.iadd, 1) := by decide +kernel
theorem dX9_fill_48 : decode cX9_fill 48 = .ok (.aload_n 0, 1) := by decide +kernel
theorem dX9_fill_49 : decode cX9_fill 49 = .ok (.getfield 11, 3) := by decide +kernel
theorem dX9_fill_52 : decode cX9_fill 52 = .ok (.arraylength, 1) := by decide +kernel
theorem dX9_fill_53 : decode cX9_fill 53 = .ok (.if_icmp .lt 4, 3) := by decide +kernel
theorem dX9_fill_56 : decode cX9_fill 56 = .ok (.return_, 1) := by decide +kernel
theorem dX9_fill_57 : decode cX9_fill 57 = .ok (.iload 6, 2) := by decide +kernel
theorem dX9_fill_59 : decode cX9_fill 59 = .ok (.ifCond .ne 21, 3) := by decide +kernel
theorem dX9_fill_62 : decode cX9_fill 62 = .ok (.aload_n 0, 1) := by decide +kernel
theorem dX9_fill_63 : decode cX9_fill 63 = .ok (.iload 7, 2) := by decide +kernel
theorem dX9_fill_65 : decode cX9_fill 65 = .ok (.iload_n 3, 1) := by decide +kernel
theorem dX9_fill_66 : decode cX9_fill 66 = .ok (.iload 4, 2) := by decide +kernel
theorem dX9_fill_68 : decode cX9_fill 68 = .ok (.iload 5, 2) := by decide +kernel
theorem dX9_fill_70 : decode cX9_fill 70 = .ok (.aload_n 1, 1) := by decide +kernel
theorem dX9_fill_71 : decode cX9_fill 71 = .ok (.iload_n 2, 1) := by decide +kernel
theorem dX9_fill_72 : decode cX9_fill 72 = .ok (.iconst 3, 1) := by decide +kernel
theorem dX9_fill_73 : decode cX9_fill 73 = .ok (.invokevirtual 33, 3) := by decide +kernel
theorem dX9_fill_76 : decode cX9_fill 76 = .ok (.invokevirtual 42, 3) := by decide +kernel
theorem dX9_fill_79 : decode cX9_fill 79 = .ok (.return_, 1) := by decide +kernel
theorem dX9_fill_80 : decode cX9_fill 80 = .ok (.iconst 0, 1) := by decide +kernel
theorem dX9_fill_81 : decode cX9_fill 81 = .ok (.istore 8, 2) := by decide +kernel
theorem dX9_fill_83 : decode cX9_fill 83 = .ok (.iload 8, 2) := by decide +kernel
theorem dX9_fill_85 : decode cX9_fill 85 = .ok (.sipush 200, 3) := by decide +kernel
theorem dX9_fill_88 : decode cX9_fill 88 = .ok (.if_icmp .gt 32, 3) := by decide +kernel
theorem dX9_fill_91 : decode cX9_fill 91 = .ok (.aload_n 0, 1) := by decide +kernel
theorem dX9_fill_92 : decode cX9_fill 92 = .ok (.getfield 11, 3) := by decide +kernel
theorem dX9_fill_95 : decode cX9_fill 95 = .ok (.iload 7, 2) := by decide +kernel
theorem dX9_fill_97 : decode cX9_fill 97 = .ok (.iload 8, 2) := by decide +kernel
theorem dX9_fill_99 : decode cX9_fill 99 = .ok (.iadd, 1) := by decide +kernel
theorem dX9_fill_100 : decode cX9_fill 100 = .ok (.aload_n 0, 1) := by decide +kernel
theorem dX9_fill_101 : decode cX9_fill 101 = .ok (.iload 6, 2) := by decide +kernel
theorem dX9_fill_103 : decode cX9_fill 103 = .ok (.iload_n 3, 1) := by decide +kernel
theorem dX9_fill_104 : decode cX9_fill 104 = .ok (.iload 4, 2) := by decide +kernel
theorem dX9_fill_106 : decode cX9_fill 106 = .ok (.iload 5, 2) := by decide +kernel
theorem dX9_fill_108 : decode cX9_fill 108 = .ok (.iload 8, 2) := by decide +kernel
theorem dX9_fill_110 : decode cX9_fill 110 = .ok (.invokevirtual 46, 3) := by decide +kernel
theorem dX9_fill_113 : decode cX9_fill 113 = .ok (.iastore, 1) := by decide +kernel
theorem dX9_fill_114 : decode cX9_fill 114 = .ok (.iinc 8 1, 3) := by decide +kernel
theorem dX9_fill_117 : decode cX9_fill 117 = .ok (.goto (-34), 3) := by decide +kernel
theorem dX9_fill_120 : decode cX9_fill 120 = .ok (.return_, 1) := by decide +kernel
theorem dX9_fillTold_0 : decode cX9_fillTold 0 = .ok (.aload_n 0, 1) := by decide +kernel
theorem dX9_fillTold_1 : decode cX9_fillTold 1 = .ok (.getfield 11, 3) := by decide +kernel
theorem dX9_fillTold_4 : decode cX9_fillTold 4 = .ok (.iload_n 1, 1) := by decide +kernel
theorem dX9_fillTold_5 : decode cX9_fillTold 5 = .ok (.iload 4, 2) := by decide +kernel
theorem dX9_fillTold_7 : decode cX9_fillTold 7 = .ok (.iastore, 1) := by decide +kernel
theorem dX9_fillTold_8 : decode cX9_fillTold 8 = .ok (.aload_n 0, 1) := by decide +kernel
theorem dX9_fillTold_9 : decode cX9_fillTold 9 = .ok (.getfield 11, 3) := by decide +kernel
theorem dX9_fillTold_12 : decode cX9_fillTold 12 = .ok (.iload_n 1, 1) := by decide +kernel
theorem dX9_fillTold_13 : decode cX9_fillTold 13 = .ok (.iconst 1, 1) := by decide +kernel
theorem dX9_fillTold_14 : decode cX9_fillTold 14 = .ok (.iadd, 1) := by decide +kernel
theorem dX9_fillTold_15 : decode cX9_fillTold 15 = .ok (.iload 5, 2) := by decide +kernel
theorem dX9_fillTold_17 : decode cX9_fillTold 17 = .ok (.iastore, 1) := by decide +kernel
theorem dX9_fillTold_18 : decode cX9_fillTold 18 = .ok (.iload_n 1, 1) := by decide +kernel
theorem dX9_fillTold_19 : decode cX9_fillTold 19 = .ok (.iconst 2, 1) := by decide +kernel
theorem dX9_fillTold_20 : decode cX9_fillTold 20 = .ok (.iadd, 1) := by decide +kernel
theorem dX9_fillTold_21 : decode cX9_fillTold 21 = .ok (.istore 6, 2) := by decide +kernel
theorem dX9_fillTold_23 : decode cX9_fillTold 23 = .ok (.iload 6, 2) := by decide +kernel
theorem dX9_fillTold_25 : decode cX9_fillTold 25 = .ok (.iload_n 1, 1) := by decide +kernel
theorem dX9_fillTold_26 : decode cX9_fillTold 26 = .ok (.sipush 200, 3) := by decide +kernel
theorem dX9_fillTold_29 : decode cX9_fillTold 29 = .ok (.iadd, 1) := by decide +kernel
theorem dX9_fillTold_30 : decode cX9_fillTold 30 = .ok (.if_icmp .gt 58, 3) := by decide +kernel
theorem dX9_fillTold_33 : decode cX9_fillTold 33 = .ok (.aload_n 0, 1) := by decide +kernel
theorem dX9_fillTold_34 : decode cX9_fillTold 34 = .ok (.getfield 11, 3) := by decide +kernel
theorem dX9_fillTold_37 : decode cX9_fillTold 37 = .ok (.iload 6, 2) := by decide +kernel
theorem dX9_fillTold_39 : decode cX9_fillTold 39 = .ok (.iconst 1, 1) := by decide +kernel
theorem dX9_fillTold_40 : decode cX9_fillTold 40 = .ok (.isub, 1) := by decide +kernel
theorem dX9_fillTold_41 : decode cX9_fillTold 41 = .ok (.iaload, 1) := by decide +kernel
theorem dX9_fillTold_42 : decode cX9_fillTold 42 = .ok (.istore 7, 2) := by decide +kernel
theorem dX9_fillTold_44 : decode cX9_fillTold 44 = .ok (.aload_n 0, 1) := by decide +kernel
theorem dX9_fillTold_45 : decode cX9_fillTold 45 = .ok (.getfield 11, 3) := by decide +kernel
theorem dX9_fillTold_48 : decode cX9_fillTold 48 = .ok (.iload 6, 2) := by decide +kernel
theorem dX9_fillTold_50 : decode cX9_fillTold 50 = .ok (.iconst 2, 1) := by decide +kernel
theorem dX9_fillTold_51 : decode cX9_fillTold 51 = .ok (.isub, 1) := by decide +kernel
theorem dX9_fillTold_52 : decode cX9_fillTold 52 = .ok (.iaload, 1) := by decide +kernel
theorem dX9_fillTold_53 : decode cX9_fillTold 53 = .ok (.istore 8, 2) := by decide +kernel
theorem dX9_fillTold_55 : decode cX9_fillTold 55 = .ok (.aload_n 0, 1) := by decide +kernel
theorem dX9_fillTold_56 : decode cX9_fillTold 56 = .ok (.getfield 11, 3) := by decide +kernel
theorem dX9_fillTold_59 : decode cX9_fillTold 59 = .ok (.iload 6, 2) := by decide +kernel
theorem dX9_fillTold_61 : decode cX9_fillTold 61 = .ok (.iload 8, 2) := by decide +kernel
theorem dX9_fillTold_63 : decode cX9_fillTold 63 = .ok (.iload 7, 2) := by decide +kernel
theorem dX9_fillTold_65 : decode cX9_fillTold 65 = .ok (.iload_n 2, 1) := by decide +kernel
theorem dX9_fillTold_66 : decode cX9_fillTold 66 = .ok (.i2l, 1) := by decide +kernel
theorem dX9_fillTold_67 : decode cX9_fillTold 67 = .ok (.iload 7, 2) := by decide +kernel
theorem dX9_fillTold_69 : decode cX9_fillTold 69 = .ok (.i2l, 1) := by decide +kernel
theorem dX9_fillTold_70 : decode cX9_fillTold 70 = .ok (.lmul, 1) := by decide +kernel
theorem dX9_fillTold_71 : decode cX9_fillTold 71 = .ok (.iload_n 3, 1) := by decide +kernel
theorem dX9_fillTold_72 : decode cX9_fillTold 72 = .ok (.i2l, 1) := by decide +kernel
theorem dX9_fillTold_73 : decode cX9_fillTold 73 = .ok (.iload 8, 2) := by decide +kernel
theorem dX9_fillTold_75 : decode cX9_fillTold 75 = .ok (.i2l, 1) := by decide +kernel
theorem dX9_fillTold_76 : decode cX9_fillTold 76 = .ok (.lmul, 1) := by decide +kernel
theorem dX9_fillTold_77 : decode cX9_fillTold 77 = .ok (.ladd, 1) := by decide +kernel
theorem dX9_fillTold_78 : decode cX9_fillTold 78 = .ok (.invokestatic 50, 3) := by decide +kernel
theorem dX9_fillTold_81 : decode cX9_fillTold 81 = .ok (.iastore, 1) := by decide +kernel
theorem dX9_fillTold_82 : decode cX9_fillTold 82 = .ok (.iinc 6 1, 3) := by decide +kernel
theorem dX9_fillTold_85 : decode cX9_fillTold 85 = .ok (.goto (-62), 3) := by decide +kernel
theorem dX9_fillTold_88 : decode cX9_fillTold 88 = .ok (.return_, 1) := by decide +kernel
theorem dX9_madeAt_0 : decode cX9_madeAt 0 = .ok (.iload_n 1, 1) := by decide +kernel
theorem dX9_madeAt_1 : decode cX9_madeAt 1 = .ok (.iconst 3, 1) := by decide +kernel
theorem dX9_madeAt_2 : decode cX9_madeAt 2 = .ok (.if_icmp .ne 16, 3) := by decide +kernel
theorem dX9_madeAt_5 : decode cX9_madeAt 5 = .ok (.aload_n 0, 1) := by decide +kernel
theorem dX9_madeAt_6 : decode cX9_madeAt 6 = .ok (.iload_n 2, 1) := by decide +kernel
theorem dX9_madeAt_7 : decode cX9_madeAt 7 = .ok (.iload_n 3, 1) := by decide +kernel
theorem dX9_madeAt_8 : decode cX9_madeAt 8 = .ok (.iload 5, 2) := by decide +kernel
theorem dX9_madeAt_10 : decode cX9_madeAt 10 = .ok (.imul, 1) := by decide +kernel
theorem dX9_madeAt_11 : decode cX9_madeAt 11 = .ok (.iload 4, 2) := by decide +kernel
theorem dX9_madeAt_13 : decode cX9_madeAt 13 = .ok (.iadd, 1) := by decide +kernel
theorem dX9_madeAt_14 : decode cX9_madeAt 14 = .ok (.invokevirtual 29, 3) := by decide +kernel
theorem dX9_madeAt_17 : decode cX9_madeAt 17 = .ok (.ireturn, 1) := by decide +kernel
theorem dX9_madeAt_18 : decode cX9_madeAt 18 = .ok (.aload_n 0, 1) := by decide +kernel
theorem dX9_madeAt_19 : decode cX9_madeAt 19 = .ok (.iload_n 2, 1) := by decide +kernel
theorem dX9_madeAt_20 : decode cX9_madeAt 20 = .ok (.iload 5, 2) := by decide +kernel
theorem dX9_madeAt_22 : decode cX9_madeAt 22 = .ok (.invokevirtual 29, 3) := by decide +kernel
theorem dX9_madeAt_25 : decode cX9_madeAt 25 = .ok (.istore 6, 2) := by decide +kernel
theorem dX9_madeAt_27 : decode cX9_madeAt 27 = .ok (.iload_n 1, 1) := by decide +kernel
theorem dX9_madeAt_28 : decode cX9_madeAt 28 = .ok (.iconst 4, 1) := by decide +kernel
theorem dX9_madeAt_29 : decode cX9_madeAt 29 = .ok (.if_icmp .ne 29, 3) := by decide +kernel
theorem dX9_madeAt_32 : decode cX9_madeAt 32 = .ok (.aload_n 0, 1) := by decide +kernel
theorem dX9_madeAt_33 : decode cX9_madeAt 33 = .ok (.iload_n 2, 1) := by decide +kernel
theorem dX9_madeAt_34 : decode cX9_madeAt 34 = .ok (.iload 5, 2) := by decide +kernel
theorem dX9_madeAt_36 : decode cX9_madeAt 36 = .ok (.iconst 1, 1) := by decide +kernel
theorem dX9_madeAt_37 : decode cX9_madeAt 37 = .ok (.iadd, 1) := by decide +kernel
theorem dX9_madeAt_38 : decode cX9_madeAt 38 = .ok (.invokevirtual 29, 3) := by decide +kernel
theorem dX9_madeAt_41 : decode cX9_madeAt 41 = .ok (.istore 7, 2) := by decide +kernel
theorem dX9_madeAt_43 : decode cX9_madeAt 43 = .ok (.iload 6, 2) := by decide +kernel
theorem dX9_madeAt_45 : decode cX9_madeAt 45 = .ok (.iload 7, 2) := by decide +kernel
theorem dX9_madeAt_47 : decode cX9_madeAt 47 = .ok (.iload 7, 2) := by decide +kernel
theorem dX9_madeAt_49 : decode cX9_madeAt 49 = .ok (.i2l, 1) := by decide +kernel
theorem dX9_madeAt_50 : decode cX9_madeAt 50 = .ok (.iload 6, 2) := by decide +kernel
theorem dX9_madeAt_52 : decode cX9_madeAt 52 = .ok (.i2l, 1) := by decide +kernel
theorem dX9_madeAt_53 : decode cX9_madeAt 53 = .ok (.lsub, 1) := by decide +kernel
theorem dX9_madeAt_54 : decode cX9_madeAt 54 = .ok (.invokestatic 50, 3) := by decide +kernel
theorem dX9_madeAt_57 : decode cX9_madeAt 57 = .ok (.ireturn, 1) := by decide +kernel
theorem dX9_madeAt_58 : decode cX9_madeAt 58 = .ok (.aload_n 0, 1) := by decide +kernel
theorem dX9_madeAt_59 : decode cX9_madeAt 59 = .ok (.iload_n 3, 1) := by decide +kernel
theorem dX9_madeAt_60 : decode cX9_madeAt 60 = .ok (.iload 5, 2) := by decide +kernel
theorem dX9_madeAt_62 : decode cX9_madeAt 62 = .ok (.invokevirtual 29, 3) := by decide +kernel
theorem dX9_madeAt_65 : decode cX9_madeAt 65 = .ok (.istore 7, 2) := by decide +kernel
theorem dX9_madeAt_67 : decode cX9_madeAt 67 = .ok (.iload 6, 2) := by decide +kernel
theorem dX9_madeAt_69 : decode cX9_madeAt 69 = .ok (.iload 7, 2) := by decide +kernel
theorem dX9_madeAt_71 : decode cX9_madeAt 71 = .ok (.iload_n 1, 1) := by decide +kernel
theorem dX9_madeAt_72 : decode cX9_madeAt 72 = .ok (.iconst 1, 1) := by decide +kernel
theorem dX9_madeAt_73 : decode cX9_madeAt 73 = .ok (.if_icmp .ne 13, 3) := by decide +kernel
theorem dX9_madeAt_76 : decode cX9_madeAt 76 = .ok (.iload 6, 2) := by decide +kernel
theorem dX9_madeAt_78 : decode cX9_madeAt 78 = .ok (.i2l, 1) := by decide +kernel
theorem dX9_madeAt_79 : decode cX9_madeAt 79 = .ok (.iload 7, 2) := by decide +kernel
theorem dX9_madeAt_81 : decode cX9_madeAt 81 = .ok (.i2l, 1) := by decide +kernel
theorem dX9_madeAt_82 : decode cX9_madeAt 82 = .ok (.ladd, 1) := by decide +kernel
theorem dX9_madeAt_83 : decode cX9_madeAt 83 = .ok (.goto 10, 3) := by decide +kernel
theorem dX9_madeAt_86 : decode cX9_madeAt 86 = .ok (.iload 6, 2) := by decide +kernel
theorem dX9_madeAt_88 : decode cX9_madeAt 88 = .ok (.i2l, 1) := by decide +kernel
theorem dX9_madeAt_89 : decode cX9_madeAt 89 = .ok (.iload 7, 2) := by decide +kernel
theorem dX9_madeAt_91 : decode cX9_madeAt 91 = .ok (.i2l, 1) := by decide +kernel
theorem dX9_madeAt_92 : decode cX9_madeAt 92 = .ok (.lmul, 1) := by decide +kernel
theorem dX9_madeAt_93 : decode cX9_madeAt 93 = .ok (.invokestatic 50, 3) := by decide +kernel
theorem dX9_madeAt_96 : decode cX9_madeAt 96 = .ok (.ireturn, 1) := by decide +kernel
theorem dX9_exactOrFar_0 : decode cX9_exactOrFar 0 = .ok (.iload_n 0, 1) := by decide +kernel
theorem dX9_exactOrFar_1 : decode cX9_exactOrFar 1 = .ok (.ldc 32, 2) := by decide +kernel
theorem dX9_exactOrFar_3 : decode cX9_exactOrFar 3 = .ok (.if_icmp .eq 25, 3) := by decide +kernel
theorem dX9_exactOrFar_6 : decode cX9_exactOrFar 6 = .ok (.iload_n 1, 1) := by decide +kernel
theorem dX9_exactOrFar_7 : decode cX9_exactOrFar 7 = .ok (.ldc 32, 2) := by decide +kernel
theorem dX9_exactOrFar_9 : decode cX9_exactOrFar 9 = .ok (.if_icmp .eq 19, 3) := by decide +kernel
theorem dX9_exactOrFar_12 : decode cX9_exactOrFar 12 = .ok (.lload_n 2, 1) := by decide +kernel
theorem dX9_exactOrFar_13 : decode cX9_exactOrFar 13 = .ok (.ldc2_w 54, 3) := by decide +kernel
theorem dX9_exactOrFar_16 : decode cX9_exactOrFar 16 = .ok (.lcmp, 1) := by decide +kernel
theorem dX9_exactOrFar_17 : decode cX9_exactOrFar 17 = .ok (.ifCond .gt 11, 3) := by decide +kernel
theorem dX9_exactOrFar_20 : decode cX9_exactOrFar 20 = .ok (.lload_n 2, 1) := by decide +kernel
theorem dX9_exactOrFar_21 : decode cX9_exactOrFar 21 = .ok (.ldc2_w 56, 3) := by decide +kernel
theorem dX9_exactOrFar_24 : decode cX9_exactOrFar 24 = .ok (.lcmp, 1) := by decide +kernel
theorem dX9_exactOrFar_25 : decode cX9_exactOrFar 25 = .ok (.ifCond .ge 8, 3) := by decide +kernel
theorem dX9_exactOrFar_28 : decode cX9_exactOrFar 28 = .ok (.ldc 32, 2) := by decide +kernel
theorem dX9_exactOrFar_30 : decode cX9_exactOrFar 30 = .ok (.goto 5, 3) := by decide +kernel
theorem dX9_exactOrFar_33 : decode cX9_exactOrFar 33 = .ok (.lload_n 2, 1) := by decide +kernel
theorem dX9_exactOrFar_34 : decode cX9_exactOrFar 34 = .ok (.l2i, 1) := by decide +kernel
theorem dX9_exactOrFar_35 : decode cX9_exactOrFar 35 = .ok (.ireturn, 1) := by decide +kernel
theorem dJ9_floorMod_7cf53_0 : decode cJ9_floorMod_7cf53 0 = .ok (.iload_n 0, 1) := by decide +kernel
theorem dJ9_floorMod_7cf53_1 : decode cJ9_floorMod_7cf53 1 = .ok (.iload_n 1, 1) := by decide +kernel
theorem dJ9_floorMod_7cf53_2 : decode cJ9_floorMod_7cf53 2 = .ok (.irem, 1) := by decide +kernel
theorem dJ9_floorMod_7cf53_3 : decode cJ9_floorMod_7cf53 3 = .ok (.istore_n 2, 1) := by decide +kernel
theorem dJ9_floorMod_7cf53_4 : decode cJ9_floorMod_7cf53 4 = .ok (.iload_n 0, 1) := by decide +kernel
theorem dJ9_floorMod_7cf53_5 : decode cJ9_floorMod_7cf53 5 = .ok (.iload_n 1, 1) := by decide +kernel
theorem dJ9_floorMod_7cf53_6 : decode cJ9_floorMod_7cf53 6 = .ok (.ixor, 1) := by decide +kernel
theorem dJ9_floorMod_7cf53_7 : decode cJ9_floorMod_7cf53 7 = .ok (.ifCond .ge 11, 3) := by decide +kernel
theorem dJ9_floorMod_7cf53_10 : decode cJ9_floorMod_7cf53 10 = .ok (.iload_n 2, 1) := by decide +kernel
theorem dJ9_floorMod_7cf53_11 : decode cJ9_floorMod_7cf53 11 = .ok (.ifCond .eq 7, 3) := by decide +kernel
theorem dJ9_floorMod_7cf53_14 : decode cJ9_floorMod_7cf53 14 = .ok (.iload_n 2, 1) := by decide +kernel
theorem dJ9_floorMod_7cf53_15 : decode cJ9_floorMod_7cf53 15 = .ok (.iload_n 1, 1) := by decide +kernel
theorem dJ9_floorMod_7cf53_16 : decode cJ9_floorMod_7cf53 16 = .ok (.iadd, 1) := by decide +kernel
theorem dJ9_floorMod_7cf53_17 : decode cJ9_floorMod_7cf53 17 = .ok (.ireturn, 1) := by decide +kernel
theorem dJ9_floorMod_7cf53_18 : decode cJ9_floorMod_7cf53 18 = .ok (.iload_n 2, 1) := by decide +kernel
theorem dJ9_floorMod_7cf53_19 : decode cJ9_floorMod_7cf53 19 = .ok (.ireturn, 1) := by decide +kernel
theorem dJ9_max_7cf53_0 : decode cJ9_max_7cf53 0 = .ok (.iload_n 0, 1) := by decide +kernel
theorem dJ9_max_7cf53_1 : decode cJ9_max_7cf53 1 = .ok (.iload_n 1, 1) := by decide +kernel
theorem dJ9_max_7cf53_2 : decode cJ9_max_7cf53 2 = .ok (.if_icmp .lt 7, 3) := by decide +kernel
theorem dJ9_max_7cf53_5 : decode cJ9_max_7cf53 5 = .ok (.iload_n 0, 1) := by decide +kernel
theorem dJ9_max_7cf53_6 : decode cJ9_max_7cf53 6 = .ok (.goto 4, 3) := by decide +kernel
theorem dJ9_max_7cf53_9 : decode cJ9_max_7cf53 9 = .ok (.iload_n 1, 1) := by decide +kernel
theorem dJ9_max_7cf53_10 : decode cJ9_max_7cf53 10 = .ok (.ireturn, 1) := by decide +kernel
theorem dJ9_min_7cf53_0 : decode cJ9_min_7cf53 0 = .ok (.iload_n 0, 1) := by decide +kernel
theorem dJ9_min_7cf53_1 : decode cJ9_min_7cf53 1 = .ok (.iload_n 1, 1) := by decide +kernel
theorem dJ9_min_7cf53_2 : decode cJ9_min_7cf53 2 = .ok (.if_icmp .gt 7, 3) := by decide +kernel
theorem dJ9_min_7cf53_5 : decode cJ9_min_7cf53 5 = .ok (.iload_n 0, 1) := by decide +kernel
theorem dJ9_min_7cf53_6 : decode cJ9_min_7cf53 6 = .ok (.goto 4, 3) := by decide +kernel
theorem dJ9_min_7cf53_9 : decode cJ9_min_7cf53 9 = .ok (.iload_n 1, 1) := by decide +kernel
theorem dJ9_min_7cf53_10 : decode cJ9_min_7cf53 10 = .ok (.ireturn, 1) := by decide +kernel
