theorem dX11_init_0 : decode cX11_init 0 = .ok (.aload_n 0, 1) := by decide +kernel
theorem dX11_init_1 : decode cX11_init 1 = .ok (.invokespecial 1, 3) := by decide +kernel
theorem dX11_init_4 : decode cX11_init 4 = .ok (.aload_n 0, 1) := by decide +kernel
theorem dX11_init_5 : decode cX11_init 5 = .ok (.bipush 9, 2) := by decide +kernel
theorem dX11_init_7 : decode cX11_init 7 = .ok (.newarray .int, 2) := by decide +kernel
theorem dX11_init_9 : decode cX11_init 9 = .ok (.putfield 7, 3) := by decide +kernel
theorem dX11_init_12 : decode cX11_init 12 = .ok (.aload_n 0, 1) := by decide +kernel
theorem dX11_init_13 : decode cX11_init 13 = .ok (.bipush 36, 2) := by decide +kernel
theorem dX11_init_15 : decode cX11_init 15 = .ok (.newarray .int, 2) := by decide +kernel
theorem dX11_init_17 : decode cX11_init 17 = .ok (.putfield 13, 3) := by decide +kernel
theorem dX11_init_20 : decode cX11_init 20 = .ok (.aload_n 0, 1) := by decide +kernel
theorem dX11_init_21 : decode cX11_init 21 = .ok (.bipush 8, 2) := by decide +kernel
theorem dX11_init_23 : decode cX11_init 23 = .ok (.newarray .int, 2) := by decide +kernel
theorem dX11_init_25 : decode cX11_init 25 = .ok (.putfield 16, 3) := by decide +kernel
theorem dX11_init_28 : decode cX11_init 28 = .ok (.aload_n 0, 1) := by decide +kernel
theorem dX11_init_29 : decode cX11_init 29 = .ok (.bipush 47, 2) := by decide +kernel
theorem dX11_init_31 : decode cX11_init 31 = .ok (.newarray .byte, 2) := by decide +kernel
theorem dX11_init_33 : decode cX11_init 33 = .ok (.putfield 19, 3) := by decide +kernel
theorem dX11_init_36 : decode cX11_init 36 = .ok (.aload_n 0, 1) := by decide +kernel
theorem dX11_init_37 : decode cX11_init 37 = .ok (.bipush 8, 2) := by decide +kernel
theorem dX11_init_39 : decode cX11_init 39 = .ok (.newarray .int, 2) := by decide +kernel
theorem dX11_init_41 : decode cX11_init 41 = .ok (.putfield 23, 3) := by decide +kernel
theorem dX11_init_44 : decode cX11_init 44 = .ok (.aload_n 0, 1) := by decide +kernel
theorem dX11_init_45 : decode cX11_init 45 = .ok (.bipush 32, 2) := by decide +kernel
theorem dX11_init_47 : decode cX11_init 47 = .ok (.newarray .int, 2) := by decide +kernel
theorem dX11_init_49 : decode cX11_init 49 = .ok (.putfield 26, 3) := by decide +kernel
theorem dX11_init_52 : decode cX11_init 52 = .ok (.aload_n 0, 1) := by decide +kernel
theorem dX11_init_53 : decode cX11_init 53 = .ok (.sipush 1608, 3) := by decide +kernel
theorem dX11_init_56 : decode cX11_init 56 = .ok (.newarray .int, 2) := by decide +kernel
theorem dX11_init_58 : decode cX11_init 58 = .ok (.putfield 29, 3) := by decide +kernel
theorem dX11_init_61 : decode cX11_init 61 = .ok (.aload_n 0, 1) := by decide +kernel
theorem dX11_init_62 : decode cX11_init 62 = .ok (.bipush 9, 2) := by decide +kernel
theorem dX11_init_64 : decode cX11_init 64 = .ok (.newarray .int, 2) := by decide +kernel
theorem dX11_init_66 : decode cX11_init 66 = .ok (.putfield 32, 3) := by decide +kernel
theorem dX11_init_69 : decode cX11_init 69 = .ok (.aload_n 0, 1) := by decide +kernel
theorem dX11_init_70 : decode cX11_init 70 = .ok (.bipush 9, 2) := by decide +kernel
theorem dX11_init_72 : decode cX11_init 72 = .ok (.newarray .int, 2) := by decide +kernel
theorem dX11_init_74 : decode cX11_init 74 = .ok (.putfield 35, 3) := by decide +kernel
theorem dX11_init_77 : decode cX11_init 77 = .ok (.aload_n 0, 1) := by decide +kernel
theorem dX11_init_78 : decode cX11_init 78 = .ok (.sipush 4608, 3) := by decide +kernel
theorem dX11_init_81 : decode cX11_init 81 = .ok (.newarray .byte, 2) := by decide +kernel
theorem dX11_init_83 : decode cX11_init 83 = .ok (.putfield 38, 3) := by decide +kernel
theorem dX11_init_86 : decode cX11_init 86 = .ok (.aload_n 0, 1) := by decide +kernel
theorem dX11_init_87 : decode cX11_init 87 = .ok (.bipush 100, 2) := by decide +kernel
theorem dX11_init_89 : decode cX11_init 89 = .ok (.newarray .int, 2) := by decide +kernel
theorem dX11_init_91 : decode cX11_init 91 = .ok (.putfield 41, 3) := by decide +kernel
theorem dX11_init_94 : decode cX11_init 94 = .ok (.aload_n 0, 1) := by decide +kernel
theorem dX11_init_95 : decode cX11_init 95 = .ok (.sipush 272, 3) := by decide +kernel
theorem dX11_init_98 : decode cX11_init 98 = .ok (.newarray .int, 2) := by decide +kernel
theorem dX11_init_100 : decode cX11_init 100 = .ok (.putfield 44, 3) := by decide +kernel
theorem dX11_init_103 : decode cX11_init 103 = .ok (.aload_n 0, 1) := by decide +kernel
theorem dX11_init_104 : decode cX11_init 104 = .ok (.bipush 17, 2) := by decide +kernel
theorem dX11_init_106 : decode cX11_init 106 = .ok (.newarray .int, 2) := by decide +kernel
theorem dX11_init_108 : decode cX11_init 108 = .ok (.putfield 47, 3) := by decide +kernel
theorem dX11_init_111 : decode cX11_init 111 = .ok (.aload_n 0, 1) := by decide +kernel
theorem dX11_init_112 : decode cX11_init 112 = .ok (.sipush 1000, 3) := by decide +kernel
theorem dX11_init_115 : decode cX11_init 115 = .ok (.newarray .boolean, 2) := by decide +kernel
theorem dX11_init_117 : decode cX11_init 117 = .ok (.putfield 50, 3) := by decide +kernel
theorem dX11_init_120 : decode cX11_init 120 = .ok (.aload_n 0, 1) := by decide +kernel
theorem dX11_init_121 : decode cX11_init 121 = .ok (.ldc 54, 2) := by decide +kernel
theorem dX11_init_123 : decode cX11_init 123 = .ok (.putfield 55, 3) := by decide +kernel
theorem dX11_init_126 : decode cX11_init 126 = .ok (.aload_n 0, 1) := by decide +kernel
theorem dX11_init_127 : decode cX11_init 127 = .ok (.bipush 9, 2) := by decide +kernel
theorem dX11_init_129 : decode cX11_init 129 = .ok (.newarray .int, 2) := by decide +kernel
theorem dX11_init_131 : decode cX11_init 131 = .ok (.putfield 59, 3) := by decide +kernel
theorem dX11_init_134 : decode cX11_init 134 = .ok (.aload_n 0, 1) := by decide +kernel
theorem dX11_init_135 : decode cX11_init 135 = .ok (.bipush 36, 2) := by decide +kernel
theorem dX11_init_137 : decode cX11_init 137 = .ok (.newarray .int, 2) := by decide +kernel
theorem dX11_init_139 : decode cX11_init 139 = .ok (.putfield 62, 3) := by decide +kernel
theorem dX11_init_142 : decode cX11_init 142 = .ok (.aload_n 0, 1) := by decide +kernel
theorem dX11_init_143 : decode cX11_init 143 = .ok (.bipush 8, 2) := by decide +kernel
theorem dX11_init_145 : decode cX11_init 145 = .ok (.newarray .int, 2) := by decide +kernel
theorem dX11_init_147 : decode cX11_init 147 = .ok (.putfield 65, 3) := by decide +kernel
theorem dX11_init_150 : decode cX11_init 150 = .ok (.return_, 1) := by decide +kernel
theorem dX11_within_0 : decode cX11_within 0 = .ok (.iload_n 0, 1) := by decide +kernel
theorem dX11_within_1 : decode cX11_within 1 = .ok (.iload_n 1, 1) := by decide +kernel
theorem dX11_within_2 : decode cX11_within 2 = .ok (.if_icmp .lt 12, 3) := by decide +kernel
theorem dX11_within_5 : decode cX11_within 5 = .ok (.iload_n 0, 1) := by decide +kernel
theorem dX11_within_6 : decode cX11_within 6 = .ok (.iload_n 2, 1) := by decide +kernel
theorem dX11_within_7 : decode cX11_within 7 = .ok (.if_icmp .gt 7, 3) := by decide +kernel
theorem dX11_within_10 : decode cX11_within 10 = .ok (.iconst 1, 1) := by decide +kernel
theorem dX11_within_11 : decode cX11_within 11 = .ok (.goto 4, 3) := by decide +kernel
theorem dX11_within_14 : decode cX11_within 14 = .ok (.iconst 0, 1) := by decide +kernel
theorem dX11_within_15 : decode cX11_within 15 = .ok (.ireturn, 1) := by decide +kernel
theorem dX11_letter_0 : decode cX11_letter 0 = .ok (.iload_n 1, 1) := by decide +kernel
theorem dX11_letter_1 : decode cX11_letter 1 = .ok (.bipush 32, 2) := by decide +kernel
theorem dX11_letter_3 : decode cX11_letter 3 = .ok (.bipush 126, 2) := by decide +kernel
theorem dX11_letter_5 : decode cX11_letter 5 = .ok (.invokestatic 68, 3) := by decide +kernel
theorem dX11_letter_8 : decode cX11_letter 8 = .ok (.ifCond .ne 6, 3) := by decide +kernel
theorem dX11_letter_11 : decode cX11_letter 11 = .ok (.ldc 72, 2) := by decide +kernel
theorem dX11_letter_13 : decode cX11_letter 13 = .ok (.ireturn, 1) := by decide +kernel
theorem dX11_letter_14 : decode cX11_letter 14 = .ok (.aload_n 0, 1) := by decide +kernel
theorem dX11_letter_15 : decode cX11_letter 15 = .ok (.getfield 73, 3) := by decide +kernel
theorem dX11_letter_18 : decode cX11_letter 18 = .ok (.bipush 47, 2) := by decide +kernel
theorem dX11_letter_20 : decode cX11_letter 20 = .ok (.if_icmp .ne 6, 3) := by decide +kernel
theorem dX11_letter_23 : decode cX11_letter 23 = .ok (.ldc 76, 2) := by decide +kernel
theorem dX11_letter_25 : decode cX11_letter 25 = .ok (.ireturn, 1) := by decide +kernel
theorem dX11_letter_26 : decode cX11_letter 26 = .ok (.aload_n 0, 1) := by decide +kernel
theorem dX11_letter_27 : decode cX11_letter 27 = .ok (.getfield 19, 3) := by decide +kernel
theorem dX11_letter_30 : decode cX11_letter 30 = .ok (.aload_n 0, 1) := by decide +kernel
theorem dX11_letter_31 : decode cX11_letter 31 = .ok (.getfield 73, 3) := by decide +kernel
theorem dX11_letter_34 : decode cX11_letter 34 = .ok (.iload_n 1, 1) := by decide +kernel
theorem dX11_letter_35 : decode cX11_letter 35 = .ok (.i2b, 1) := by decide +kernel
theorem dX11_letter_36 : decode cX11_letter 36 = .ok (.bastore, 1) := by decide +kernel
theorem dX11_letter_37 : decode cX11_letter 37 = .ok (.aload_n 0, 1) := by decide +kernel
theorem dX11_letter_38 : decode cX11_letter 38 = .ok (.dup, 1) := by decide +kernel
theorem dX11_letter_39 : decode cX11_letter 39 = .ok (.getfield 73, 3) := by decide +kernel
theorem dX11_letter_42 : decode cX11_letter 42 = .ok (.iconst 1, 1) := by decide +kernel
theorem dX11_letter_43 : decode cX11_letter 43 = .ok (.iadd, 1) := by decide +kernel
theorem dX11_letter_44 : decode cX11_letter 44 = .ok (.putfield 73, 3) := by decide +kernel
theorem dX11_letter_47 : decode cX11_letter 47 = .ok (.aload_n 0, 1) := by decide +kernel
theorem dX11_letter_48 : decode cX11_letter 48 = .ok (.getfield 73, 3) := by decide +kernel
theorem dX11_letter_51 : decode cX11_letter 51 = .ok (.ireturn, 1) := by decide +kernel
theorem dX11_blank_0 : decode cX11_blank 0 = .ok (.aload_n 0, 1) := by decide +kernel
theorem dX11_blank_1 : decode cX11_blank 1 = .ok (.getfield 73, 3) := by decide +kernel
theorem dX11_blank_4 : decode cX11_blank 4 = .ok (.istore_n 1, 1) := by decide +kernel
theorem dX11_blank_5 : decode cX11_blank 5 = .ok (.aload_n 0, 1) := by decide +kernel
theorem dX11_blank_6 : decode cX11_blank 6 = .ok (.iconst 0, 1) := by decide +kernel
theorem dX11_blank_7 : decode cX11_blank 7 = .ok (.putfield 73, 3) := by decide +kernel
theorem dX11_blank_10 : decode cX11_blank 10 = .ok (.iload_n 1, 1) := by decide +kernel
theorem dX11_blank_11 : decode cX11_blank 11 = .ok (.ireturn, 1) := by decide +kernel
theorem dX11_kindBy_0 : decode cX11_kindBy 0 = .ok (.iload_n 0, 1) := by decide +kernel
theorem dX11_kindBy_1 : decode cX11_kindBy 1 = .ok (.lookupswitch 61 #[(42, 55), (43, 53), (100, 59), (101, 57), (116, 51)], 51) := by decide +kernel
theorem dX11_kindBy_52 : decode cX11_kindBy 52 = .ok (.iconst 0, 1) := by decide +kernel
theorem dX11_kindBy_53 : decode cX11_kindBy 53 = .ok (.ireturn, 1) := by decide +kernel
theorem dX11_kindBy_54 : decode cX11_kindBy 54 = .ok (.iconst 1, 1) := by decide +kernel
theorem dX11_kindBy_55 : decode cX11_kindBy 55 = .ok (.ireturn, 1) := by decide +kernel
theorem dX11_kindBy_56 : decode cX11_kindBy 56 = .ok (.iconst 2, 1) := by decide +kernel
theorem dX11_kindBy_57 : decode cX11_kindBy 57 = .ok (.ireturn, 1) := by decide +kernel
theorem dX11_kindBy_58 : decode cX11_kindBy 58 = .ok (.iconst 3, 1) := by decide +kernel
theorem dX11_kindBy_59 : decode cX11_kindBy 59 = .ok (.ireturn, 1) := by decide +kernel
theorem dX11_kindBy_60 : decode cX11_kindBy 60 = .ok (.iconst 4, 1) := by decide +kernel
theorem dX11_kindBy_61 : decode cX11_kindBy 61 = .ok (.ireturn, 1) := by decide +kernel
theorem dX11_kindBy_62 : decode cX11_kindBy 62 = .ok (.ldc 54, 2) := by decide +kernel
theorem dX11_kindBy_64 : decode cX11_kindBy 64 = .ok (.ireturn, 1) := by decide +kernel
theorem dX11_signsOf_0 : decode cX11_signsOf 0 = .ok (.iload_n 0, 1) := by decide +kernel
theorem dX11_signsOf_1 : decode cX11_signsOf 1 = .ok (.tableswitch 41 0 4 #[35, 41, 41, 37, 39], 35) := by decide +kernel
theorem dX11_signsOf_36 : decode cX11_signsOf 36 = .ok (.iconst 4, 1) := by decide +kernel
theorem dX11_signsOf_37 : decode cX11_signsOf 37 = .ok (.ireturn, 1) := by decide +kernel
theorem dX11_signsOf_38 : decode cX11_signsOf 38 = .ok (.iconst 3, 1) := by decide +kernel
theorem dX11_signsOf_39 : decode cX11_signsOf 39 = .ok (.ireturn, 1) := by decide +kernel
theorem dX11_signsOf_40 : decode cX11_signsOf 40 = .ok (.iconst 1, 1) := by decide +kernel
theorem dX11_signsOf_41 : decode cX11_signsOf 41 = .ok (.ireturn, 1) := by decide +kernel
theorem dX11_signsOf_42 : decode cX11_signsOf 42 = .ok (.iconst 2, 1) := by decide +kernel
theorem dX11_signsOf_43 : decode cX11_signsOf 43 = .ok (.ireturn, 1) := by decide +kernel
theorem dX11_valueOf_0 : decode cX11_valueOf 0 = .ok (.iload_n 0, 1) := by decide +kernel
theorem dX11_valueOf_1 : decode cX11_valueOf 1 = .ok (.bipush 48, 2) := by decide +kernel
theorem dX11_valueOf_3 : decode cX11_valueOf 3 = .ok (.bipush 57, 2) := by decide +kernel
theorem dX11_valueOf_5 : decode cX11_valueOf 5 = .ok (.invokestatic 68, 3) := by decide +kernel
theorem dX11_valueOf_8 : decode cX11_valueOf 8 = .ok (.ifCond .eq 10, 3) := by decide +kernel
theorem dX11_valueOf_11 : decode cX11_valueOf 11 = .ok (.iload_n 0, 1) := by decide +kernel
theorem dX11_valueOf_12 : decode cX11_valueOf 12 = .ok (.bipush 48, 2) := by decide +kernel
theorem dX11_valueOf_14 : decode cX11_valueOf 14 = .ok (.isub, 1) := by decide +kernel
theorem dX11_valueOf_15 : decode cX11_valueOf 15 = .ok (.goto 23, 3) := by decide +kernel
theorem dX11_valueOf_18 : decode cX11_valueOf 18 = .ok (.iload_n 0, 1) := by decide +kernel
theorem dX11_valueOf_19 : decode cX11_valueOf 19 = .ok (.bipush 97, 2) := by decide +kernel
theorem dX11_valueOf_21 : decode cX11_valueOf 21 = .ok (.bipush 105, 2) := by decide +kernel
theorem dX11_valueOf_23 : decode cX11_valueOf 23 = .ok (.invokestatic 68, 3) := by decide +kernel
theorem dX11_valueOf_26 : decode cX11_valueOf 26 = .ok (.ifCond .eq 10, 3) := by decide +kernel
theorem dX11_valueOf_29 : decode cX11_valueOf 29 = .ok (.bipush 96, 2) := by decide +kernel
theorem dX11_valueOf_31 : decode cX11_valueOf 31 = .ok (.iload_n 0, 1) := by decide +kernel
theorem dX11_valueOf_32 : decode cX11_valueOf 32 = .ok (.isub, 1) := by decide +kernel
theorem dX11_valueOf_33 : decode cX11_valueOf 33 = .ok (.goto 5, 3) := by decide +kernel
theorem dX11_valueOf_36 : decode cX11_valueOf 36 = .ok (.ldc 54, 2) := by decide +kernel
theorem dX11_valueOf_38 : decode cX11_valueOf 38 = .ok (.ireturn, 1) := by decide +kernel
theorem dX11_fitsSign_0 : decode cX11_fitsSign 0 = .ok (.aload_n 0, 1) := by decide +kernel
theorem dX11_fitsSign_1 : decode cX11_fitsSign 1 = .ok (.getfield 23, 3) := by decide +kernel
theorem dX11_fitsSign_4 : decode cX11_fitsSign 4 = .ok (.aload_n 0, 1) := by decide +kernel
theorem dX11_fitsSign_5 : decode cX11_fitsSign 5 = .ok (.getfield 77, 3) := by decide +kernel
theorem dX11_fitsSign_8 : decode cX11_fitsSign 8 = .ok (.iconst 1, 1) := by decide +kernel
theorem dX11_fitsSign_9 : decode cX11_fitsSign 9 = .ok (.isub, 1) := by decide +kernel
theorem dX11_fitsSign_10 : decode cX11_fitsSign 10 = .ok (.iaload, 1) := by decide +kernel
theorem dX11_fitsSign_11 : decode cX11_fitsSign 11 = .ok (.istore_n 2, 1) := by decide +kernel
theorem dX11_fitsSign_12 : decode cX11_fitsSign 12 = .ok (.iload_n 2, 1) := by decide +kernel
theorem dX11_fitsSign_13 : decode cX11_fitsSign 13 = .ok (.ifCond .ne 18, 3) := by decide +kernel
theorem dX11_fitsSign_16 : decode cX11_fitsSign 16 = .ok (.iload_n 1, 1) := by decide +kernel
theorem dX11_fitsSign_17 : decode cX11_fitsSign 17 = .ok (.invokestatic 80, 3) := by decide +kernel
theorem dX11_fitsSign_20 : decode cX11_fitsSign 20 = .ok (.ldc 54, 2) := by decide +kernel
theorem dX11_fitsSign_22 : decode cX11_fitsSign 22 = .ok (.if_icmp .eq 7, 3) := by decide +kernel
theorem dX11_fitsSign_25 : decode cX11_fitsSign 25 = .ok (.iconst 1, 1) := by decide +kernel
theorem dX11_fitsSign_26 : decode cX11_fitsSign 26 = .ok (.goto 4, 3) := by decide +kernel
theorem dX11_fitsSign_29 : decode cX11_fitsSign 29 = .ok (.iconst 0, 1) := by decide +kernel
theorem dX11_fitsSign_30 : decode cX11_fitsSign 30 = .ok (.ireturn, 1) := by decide +kernel
theorem dX11_fitsSign_31 : decode cX11_fitsSign 31 = .ok (.iload_n 2, 1) := by decide +kernel
theorem dX11_fitsSign_32 : decode cX11_fitsSign 32 = .ok (.iconst 3, 1) := by decide +kernel
theorem dX11_fitsSign_33 : decode cX11_fitsSign 33 = .ok (.if_icmp .ne 20, 3) := by decide +kernel
theorem dX11_fitsSign_36 : decode cX11_fitsSign 36 = .ok (.aload_n 0, 1) := by decide +kernel
theorem dX11_fitsSign_37 : decode cX11_fitsSign 37 = .ok (.getfield 84, 3) := by decide +kernel
theorem dX11_fitsSign_40 : decode cX11_fitsSign 40 = .ok (.iconst 1, 1) := by decide +kernel
theorem dX11_fitsSign_41 : decode cX11_fitsSign 41 = .ok (.if_icmp .ne 12, 3) := by decide +kernel
theorem dX11_fitsSign_44 : decode cX11_fitsSign 44 = .ok (.iload_n 1, 1) := by decide +kernel
theorem dX11_fitsSign_45 : decode cX11_fitsSign 45 = .ok (.bipush 49, 2) := by decide +kernel
theorem dX11_fitsSign_47 : decode cX11_fitsSign 47 = .ok (.bipush 53, 2) := by decide +kernel
theorem dX11_fitsSign_49 : decode cX11_fitsSign 49 = .ok (.invokestatic 68, 3) := by decide +kernel
theorem dX11_fitsSign_52 : decode cX11_fitsSign 52 = .ok (.ireturn, 1) := by decide +kernel
theorem dX11_fitsSign_53 : decode cX11_fitsSign 53 = .ok (.iload_n 2, 1) := by decide +kernel
theorem dX11_fitsSign_54 : decode cX11_fitsSign 54 = .ok (.iconst 3, 1) := by decide +kernel
theorem dX11_fitsSign_55 : decode cX11_fitsSign 55 = .ok (.if_icmp .ne 20, 3) := by decide +kernel
theorem dX11_fitsSign_58 : decode cX11_fitsSign 58 = .ok (.aload_n 0, 1) := by decide +kernel
theorem dX11_fitsSign_59 : decode cX11_fitsSign 59 = .ok (.getfield 84, 3) := by decide +kernel
theorem dX11_fitsSign_62 : decode cX11_fitsSign 62 = .ok (.iconst 2, 1) := by decide +kernel
theorem dX11_fitsSign_63 : decode cX11_fitsSign 63 = .ok (.if_icmp .ne 12, 3) := by decide +kernel
theorem dX11_fitsSign_66 : decode cX11_fitsSign 66 = .ok (.iload_n 1, 1) := by decide +kernel
theorem dX11_fitsSign_67 : decode cX11_fitsSign 67 = .ok (.bipush 48, 2) := by decide +kernel
theorem dX11_fitsSign_69 : decode cX11_fitsSign 69 = .ok (.bipush 57, 2) := by decide +kernel
theorem dX11_fitsSign_71 : decode cX11_fitsSign 71 = .ok (.invokestatic 68, 3) := by decide +kernel
theorem dX11_fitsSign_74 : decode cX11_fitsSign 74 = .ok (.ireturn, 1) := by decide +kernel
theorem dX11_fitsSign_75 : decode cX11_fitsSign 75 = .ok (.iload_n 1, 1) := by decide +kernel
theorem dX11_fitsSign_76 : decode cX11_fitsSign 76 = .ok (.bipush 48, 2) := by decide +kernel
theorem dX11_fitsSign_78 : decode cX11_fitsSign 78 = .ok (.bipush 48, 2) := by decide +kernel
theorem dX11_fitsSign_80 : decode cX11_fitsSign 80 = .ok (.aload_n 0, 1) := by decide +kernel
theorem dX11_fitsSign_81 : decode cX11_fitsSign 81 = .ok (.getfield 77, 3) := by decide +kernel
theorem dX11_fitsSign_84 : decode cX11_fitsSign 84 = .ok (.iadd, 1) := by decide +kernel
theorem dX11_fitsSign_85 : decode cX11_fitsSign 85 = .ok (.iconst 2, 1) := by decide +kernel
theorem dX11_fitsSign_86 : decode cX11_fitsSign 86 = .ok (.isub, 1) := by decide +kernel
theorem dX11_fitsSign_87 : decode cX11_fitsSign 87 = .ok (.invokestatic 68, 3) := by decide +kernel
theorem dX11_fitsSign_90 : decode cX11_fitsSign 90 = .ok (.ireturn, 1) := by decide +kernel
theorem dX11_isDone_0 : decode cX11_isDone 0 = .ok (.aload_n 0, 1) := by decide +kernel
theorem dX11_isDone_1 : decode cX11_isDone 1 = .ok (.getfield 77, 3) := by decide +kernel
theorem dX11_isDone_4 : decode cX11_isDone 4 = .ok (.ifCond .le 28, 3) := by decide +kernel
theorem dX11_isDone_7 : decode cX11_isDone 7 = .ok (.aload_n 0, 1) := by decide +kernel
theorem dX11_isDone_8 : decode cX11_isDone 8 = .ok (.getfield 84, 3) := by decide +kernel
theorem dX11_isDone_11 : decode cX11_isDone 11 = .ok (.aload_n 0, 1) := by decide +kernel
theorem dX11_isDone_12 : decode cX11_isDone 12 = .ok (.getfield 23, 3) := by decide +kernel
theorem dX11_isDone_15 : decode cX11_isDone 15 = .ok (.aload_n 0, 1) := by decide +kernel
theorem dX11_isDone_16 : decode cX11_isDone 16 = .ok (.getfield 77, 3) := by decide +kernel
theorem dX11_isDone_19 : decode cX11_isDone 19 = .ok (.iconst 1, 1) := by decide +kernel
theorem dX11_isDone_20 : decode cX11_isDone 20 = .ok (.isub, 1) := by decide +kernel
theorem dX11_isDone_21 : decode cX11_isDone 21 = .ok (.iaload, 1) := by decide +kernel
theorem dX11_isDone_22 : decode cX11_isDone 22 = .ok (.invokestatic 87, 3) := by decide +kernel
theorem dX11_isDone_25 : decode cX11_isDone 25 = .ok (.if_icmp .ne 7, 3) := by decide +kernel
theorem dX11_isDone_28 : decode cX11_isDone 28 = .ok (.iconst 1, 1) := by decide +kernel
theorem dX11_isDone_29 : decode cX11_isDone 29 = .ok (.goto 4, 3) := by decide +kernel
theorem dX11_isDone_32 : decode cX11_isDone 32 = .ok (.iconst 0, 1) := by decide +kernel
theorem dX11_isDone_33 : decode cX11_isDone 33 = .ok (.ireturn, 1) := by decide +kernel
theorem dX11_takes_0 : decode cX11_takes 0 = .ok (.aload_n 0, 1) := by decide +kernel
theorem dX11_takes_1 : decode cX11_takes 1 = .ok (.getfield 90, 3) := by decide +kernel
theorem dX11_takes_4 : decode cX11_takes 4 = .ok (.ifCond .eq 9, 3) := by decide +kernel
theorem dX11_takes_7 : decode cX11_takes 7 = .ok (.aload_n 0, 1) := by decide +kernel
theorem dX11_takes_8 : decode cX11_takes 8 = .ok (.iload_n 1, 1) := by decide +kernel
theorem dX11_takes_9 : decode cX11_takes 9 = .ok (.invokevirtual 94, 3) := by decide +kernel
theorem dX11_takes_12 : decode cX11_takes 12 = .ok (.ireturn, 1) := by decide +kernel
theorem dX11_takes_13 : decode cX11_takes 13 = .ok (.aload_n 0, 1) := by decide +kernel
theorem dX11_takes_14 : decode cX11_takes 14 = .ok (.invokevirtual 98, 3) := by decide +kernel
theorem dX11_takes_17 : decode cX11_takes 17 = .ok (.ifCond .eq 32, 3) := by decide +kernel
theorem dX11_takes_20 : decode cX11_takes 20 = .ok (.aload_n 0, 1) := by decide +kernel
theorem dX11_takes_21 : decode cX11_takes 21 = .ok (.iload_n 1, 1) := by decide +kernel
theorem dX11_takes_22 : decode cX11_takes 22 = .ok (.bipush 59, 2) := by decide +kernel
theorem dX11_takes_24 : decode cX11_takes 24 = .ok (.if_icmp .ne 16, 3) := by decide +kernel
theorem dX11_takes_27 : decode cX11_takes 27 = .ok (.aload_n 0, 1) := by decide +kernel
theorem dX11_takes_28 : decode cX11_takes 28 = .ok (.getfield 77, 3) := by decide +kernel
theorem dX11_takes_31 : decode cX11_takes 31 = .ok (.bipush 8, 2) := by decide +kernel
theorem dX11_takes_33 : decode cX11_takes 33 = .ok (.if_icmp .ge 7, 3) := by decide +kernel
theorem dX11_takes_36 : decode cX11_takes 36 = .ok (.iconst 1, 1) := by decide +kernel
theorem dX11_takes_37 : decode cX11_takes 37 = .ok (.goto 4, 3) := by decide +kernel
theorem dX11_takes_40 : decode cX11_takes 40 = .ok (.iconst 0, 1) := by decide +kernel
theorem dX11_takes_41 : decode cX11_takes 41 = .ok (.putfield 90, 3) := by decide +kernel
theorem dX11_takes_44 : decode cX11_takes 44 = .ok (.aload_n 0, 1) := by decide +kernel
theorem dX11_takes_45 : decode cX11_takes 45 = .ok (.getfield 90, 3) := by decide +kernel
theorem dX11_takes_48 : decode cX11_takes 48 = .ok (.ireturn, 1) := by decide +kernel
theorem dX11_takes_49 : decode cX11_takes 49 = .ok (.aload_n 0, 1) := by decide +kernel
theorem dX11_takes_50 : decode cX11_takes 50 = .ok (.iload_n 1, 1) := by decide +kernel
theorem dX11_takes_51 : decode cX11_takes 51 = .ok (.invokevirtual 102, 3) := by decide +kernel
theorem dX11_takes_54 : decode cX11_takes 54 = .ok (.ifCond .ne 5, 3) := by decide +kernel
theorem dX11_takes_57 : decode cX11_takes 57 = .ok (.iconst 0, 1) := by decide +kernel
theorem dX11_takes_58 : decode cX11_takes 58 = .ok (.ireturn, 1) := by decide +kernel
theorem dX11_takes_59 : decode cX11_takes 59 = .ok (.aload_n 0, 1) := by decide +kernel
theorem dX11_takes_60 : decode cX11_takes 60 = .ok (.getfield 26, 3) := by decide +kernel
theorem dX11_takes_63 : decode cX11_takes 63 = .ok (.iconst 4, 1) := by decide +kernel
theorem dX11_takes_64 : decode cX11_takes 64 = .ok (.aload_n 0, 1) := by decide +kernel
theorem dX11_takes_65 : decode cX11_takes 65 = .ok (.getfield 77, 3) := by decide +kernel
theorem dX11_takes_68 : decode cX11_takes 68 = .ok (.imul, 1) := by decide +kernel
theorem dX11_takes_69 : decode cX11_takes 69 = .ok (.iconst 4, 1) := by decide +kernel
theorem dX11_takes_70 : decode cX11_takes 70 = .ok (.isub, 1) := by decide +kernel
theorem dX11_takes_71 : decode cX11_takes 71 = .ok (.aload_n 0, 1) := by decide +kernel
theorem dX11_takes_72 : decode cX11_takes 72 = .ok (.getfield 84, 3) := by decide +kernel
theorem dX11_takes_75 : decode cX11_takes 75 = .ok (.iadd, 1) := by decide +kernel
theorem dX11_takes_76 : decode cX11_takes 76 = .ok (.iload_n 1, 1) := by decide +kernel
theorem dX11_takes_77 : decode cX11_takes 77 = .ok (.invokestatic 80, 3) := by decide +kernel
theorem dX11_takes_80 : decode cX11_takes 80 = .ok (.iastore, 1) := by decide +kernel
theorem dX11_takes_81 : decode cX11_takes 81 = .ok (.aload_n 0, 1) := by decide +kernel
theorem dX11_takes_82 : decode cX11_takes 82 = .ok (.dup, 1) := by decide +kernel
theorem dX11_takes_83 : decode cX11_takes 83 = .ok (.getfield 84, 3) := by decide +kernel
theorem dX11_takes_86 : decode cX11_takes 86 = .ok (.iconst 1, 1) := by decide +kernel
theorem dX11_takes_87 : decode cX11_takes 87 = .ok (.iadd, 1) := by decide +kernel
theorem dX11_takes_88 : decode cX11_takes 88 = .ok (.putfield 84, 3) := by decide +kernel
theorem dX11_takes_91 : decode cX11_takes 91 = .ok (.iconst 1, 1) := by decide +kernel
theorem dX11_takes_92 : decode cX11_takes 92 = .ok (.ireturn, 1) := by decide +kernel
theorem dX11_takesKind_0 : decode cX11_takesKind 0 = .ok (.iload_n 1, 1) := by decide +kernel
theorem dX11_takesKind_1 : decode cX11_takesKind 1 = .ok (.invokestatic 105, 3) := by decide +kernel
theorem dX11_takesKind_4 : decode cX11_takesKind 4 = .ok (.istore_n 2, 1) := by decide +kernel
theorem dX11_takesKind_5 : decode cX11_takesKind 5 = .ok (.iload_n 2, 1) := by decide +kernel
theorem dX11_takesKind_6 : decode cX11_takesKind 6 = .ok (.ldc 54, 2) := by decide +kernel
theorem dX11_takesKind_8 : decode cX11_takesKind 8 = .ok (.if_icmp .eq 14, 3) := by decide +kernel
theorem dX11_takesKind_11 : decode cX11_takesKind 11 = .ok (.iload_n 2, 1) := by decide +kernel
theorem dX11_takesKind_12 : decode cX11_takesKind 12 = .ok (.ifCond .eq 12, 3) := by decide +kernel
theorem dX11_takesKind_15 : decode cX11_takesKind 15 = .ok (.aload_n 0, 1) := by decide +kernel
theorem dX11_takesKind_16 : decode cX11_takesKind 16 = .ok (.getfield 77, 3) := by decide +kernel
theorem dX11_takesKind_19 : decode cX11_takesKind 19 = .ok (.ifCond .ne 5, 3) := by decide +kernel
theorem dX11_takesKind_22 : decode cX11_takesKind 22 = .ok (.iconst 0, 1) := by decide +kernel
theorem dX11_takesKind_23 : decode cX11_takesKind 23 = .ok (.ireturn, 1) := by decide +kernel
theorem dX11_takesKind_24 : decode cX11_takesKind 24 = .ok (.aload_n 0, 1) := by decide +kernel
theorem dX11_takesKind_25 : decode cX11_takesKind 25 = .ok (.getfield 23, 3) := by decide +kernel
theorem dX11_takesKind_28 : decode cX11_takesKind 28 = .ok (.aload_n 0, 1) := by decide +kernel
theorem dX11_takesKind_29 : decode cX11_takesKind 29 = .ok (.getfield 77, 3) := by decide +kernel
theorem dX11_takesKind_32 : decode cX11_takesKind 32 = .ok (.iload_n 2, 1) := by decide +kernel
theorem dX11_takesKind_33 : decode cX11_takesKind 33 = .ok (.iastore, 1) := by decide +kernel
theorem dX11_takesKind_34 : decode cX11_takesKind 34 = .ok (.iconst 0, 1) := by decide +kernel
theorem dX11_takesKind_35 : decode cX11_takesKind 35 = .ok (.istore_n 3, 1) := by decide +kernel
theorem dX11_takesKind_36 : decode cX11_takesKind 36 = .ok (.iload_n 3, 1) := by decide +kernel
theorem dX11_takesKind_37 : decode cX11_takesKind 37 = .ok (.iconst 4, 1) := by decide +kernel
theorem dX11_takesKind_38 : decode cX11_takesKind 38 = .ok (.if_icmp .ge 24, 3) := by decide +kernel
theorem dX11_takesKind_41 : decode cX11_takesKind 41 = .ok (.aload_n 0, 1) := by decide +kernel
theorem dX11_takesKind_42 : decode cX11_takesKind 42 = .ok (.getfield 26, 3) := by decide +kernel
theorem dX11_takesKind_45 : decode cX11_takesKind 45 = .ok (.iconst 4, 1) := by decide +kernel
theorem dX11_takesKind_46 : decode cX11_takesKind 46 = .ok (.aload_n 0, 1) := by decide +kernel
theorem dX11_takesKind_47 : decode cX11_takesKind 47 = .ok (.getfield 77, 3) := by decide +kernel
theorem dX11_takesKind_50 : decode cX11_takesKind 50 = .ok (.imul, 1) := by decide +kernel
theorem dX11_takesKind_51 : decode cX11_takesKind 51 = .ok (.iload_n 3, 1) := by decide +kernel
theorem dX11_takesKind_52 : decode cX11_takesKind 52 = .ok (.iadd, 1) := by decide +kernel
theorem dX11_takesKind_53 : decode cX11_takesKind 53 = .ok (.ldc 54, 2) := by decide +kernel
theorem dX11_takesKind_55 : decode cX11_takesKind 55 = .ok (.iastore, 1) := by decide +kernel
theorem dX11_takesKind_56 : decode cX11_takesKind 56 = .ok (.iinc 3 1, 3) := by decide +kernel
theorem dX11_takesKind_59 : decode cX11_takesKind 59 = .ok (.goto (-23), 3) := by decide +kernel
theorem dX11_takesKind_62 : decode cX11_takesKind 62 = .ok (.aload_n 0, 1) := by decide +kernel
theorem dX11_takesKind_63 : decode cX11_takesKind 63 = .ok (.dup, 1) := by decide +kernel
theorem dX11_takesKind_64 : decode cX11_takesKind 64 = .ok (.getfield 77, 3) := by decide +kernel
theorem dX11_takesKind_67 : decode cX11_takesKind 67 = .ok (.iconst 1, 1) := by decide +kernel
theorem dX11_takesKind_68 : decode cX11_takesKind 68 = .ok (.iadd, 1) := by decide +kernel
theorem dX11_takesKind_69 : decode cX11_takesKind 69 = .ok (.putfield 77, 3) := by decide +kernel
theorem dX11_takesKind_72 : decode cX11_takesKind 72 = .ok (.aload_n 0, 1) := by decide +kernel
theorem dX11_takesKind_73 : decode cX11_takesKind 73 = .ok (.iconst 0, 1) := by decide +kernel
theorem dX11_takesKind_74 : decode cX11_takesKind 74 = .ok (.putfield 84, 3) := by decide +kernel
theorem dX11_takesKind_77 : decode cX11_takesKind 77 = .ok (.aload_n 0, 1) := by decide +kernel
theorem dX11_takesKind_78 : decode cX11_takesKind 78 = .ok (.iconst 0, 1) := by decide +kernel
theorem dX11_takesKind_79 : decode cX11_takesKind 79 = .ok (.putfield 90, 3) := by decide +kernel
theorem dX11_takesKind_82 : decode cX11_takesKind 82 = .ok (.iconst 1, 1) := by decide +kernel
theorem dX11_takesKind_83 : decode cX11_takesKind 83 = .ok (.ireturn, 1) := by decide +kernel
theorem dX11_read_0 : decode cX11_read 0 = .ok (.aload_n 0, 1) := by decide +kernel
theorem dX11_read_1 : decode cX11_read 1 = .ok (.iconst 0, 1) := by decide +kernel
theorem dX11_read_2 : decode cX11_read 2 = .ok (.putfield 77, 3) := by decide +kernel
theorem dX11_read_5 : decode cX11_read 5 = .ok (.aload_n 0, 1) := by decide +kernel
theorem dX11_read_6 : decode cX11_read 6 = .ok (.iconst 0, 1) := by decide +kernel
theorem dX11_read_7 : decode cX11_read 7 = .ok (.putfield 84, 3) := by decide +kernel
theorem dX11_read_10 : decode cX11_read 10 = .ok (.aload_n 0, 1) := by decide +kernel
theorem dX11_read_11 : decode cX11_read 11 = .ok (.iconst 1, 1) := by decide +kernel
theorem dX11_read_12 : decode cX11_read 12 = .ok (.putfield 90, 3) := by decide +kernel
theorem dX11_read_15 : decode cX11_read 15 = .ok (.iconst 0, 1) := by decide +kernel
theorem dX11_read_16 : decode cX11_read 16 = .ok (.istore_n 1, 1) := by decide +kernel
theorem dX11_read_17 : decode cX11_read 17 = .ok (.iload_n 1, 1) := by decide +kernel
theorem dX11_read_18 : decode cX11_read 18 = .ok (.aload_n 0, 1) := by decide +kernel
theorem dX11_read_19 : decode cX11_read 19 = .ok (.getfield 73, 3) := by decide +kernel
theorem dX11_read_22 : decode cX11_read 22 = .ok (.if_icmp .ge 22, 3) := by decide +kernel
theorem dX11_read_25 : decode cX11_read 25 = .ok (.aload_n 0, 1) := by decide +kernel
theorem dX11_read_26 : decode cX11_read 26 = .ok (.aload_n 0, 1) := by decide +kernel
theorem dX11_read_27 : decode cX11_read 27 = .ok (.getfield 19, 3) := by decide +kernel
theorem dX11_read_30 : decode cX11_read 30 = .ok (.iload_n 1, 1) := by decide +kernel
theorem dX11_read_31 : decode cX11_read 31 = .ok (.baload, 1) := by decide +kernel
theorem dX11_read_32 : decode cX11_read 32 = .ok (.invokevirtual 108, 3) := by decide +kernel
theorem dX11_read_35 : decode cX11_read 35 = .ok (.ifCond .eq 9, 3) := by decide +kernel
theorem dX11_read_38 : decode cX11_read 38 = .ok (.iinc 1 1, 3) := by decide +kernel
theorem dX11_read_41 : decode cX11_read 41 = .ok (.goto (-24), 3) := by decide +kernel
theorem dX11_read_44 : decode cX11_read 44 = .ok (.iload_n 1, 1) := by decide +kernel
theorem dX11_read_45 : decode cX11_read 45 = .ok (.ireturn, 1) := by decide +kernel
theorem dX11_fault_0 : decode cX11_fault 0 = .ok (.aload_n 0, 1) := by decide +kernel
theorem dX11_fault_1 : decode cX11_fault 1 = .ok (.invokevirtual 111, 3) := by decide +kernel
theorem dX11_fault_4 : decode cX11_fault 4 = .ok (.ireturn, 1) := by decide +kernel
theorem dX11_rows_0 : decode cX11_rows 0 = .ok (.aload_n 0, 1) := by decide +kernel
theorem dX11_rows_1 : decode cX11_rows 1 = .ok (.invokevirtual 111, 3) := by decide +kernel
theorem dX11_rows_4 : decode cX11_rows 4 = .ok (.aload_n 0, 1) := by decide +kernel
theorem dX11_rows_5 : decode cX11_rows 5 = .ok (.getfield 73, 3) := by decide +kernel
theorem dX11_rows_8 : decode cX11_rows 8 = .ok (.if_icmp .lt 17, 3) := by decide +kernel
theorem dX11_rows_11 : decode cX11_rows 11 = .ok (.aload_n 0, 1) := by decide +kernel
theorem dX11_rows_12 : decode cX11_rows 12 = .ok (.getfield 90, 3) := by decide +kernel
theorem dX11_rows_15 : decode cX11_rows 15 = .ok (.ifCond .ne 10, 3) := by decide +kernel
theorem dX11_rows_18 : decode cX11_rows 18 = .ok (.aload_n 0, 1) := by decide +kernel
theorem dX11_rows_19 : decode cX11_rows 19 = .ok (.invokevirtual 98, 3) := by decide +kernel
theorem dX11_rows_22 : decode cX11_rows 22 = .ok (.ifCond .ne 6, 3) := by decide +kernel
theorem dX11_rows_25 : decode cX11_rows 25 = .ok (.ldc 115, 2) := by decide +kernel
theorem dX11_rows_27 : decode cX11_rows 27 = .ok (.ireturn, 1) := by decide +kernel
theorem dX11_rows_28 : decode cX11_rows 28 = .ok (.aload_n 0, 1) := by decide +kernel
theorem dX11_rows_29 : decode cX11_rows 29 = .ok (.aload_n 0, 1) := by decide +kernel
theorem dX11_rows_30 : decode cX11_rows 30 = .ok (.getfield 77, 3) := by decide +kernel
theorem dX11_rows_33 : decode cX11_rows 33 = .ok (.putfield 116, 3) := by decide +kernel
theorem dX11_rows_36 : decode cX11_rows 36 = .ok (.iconst 0, 1) := by decide +kernel
theorem dX11_rows_37 : decode cX11_rows 37 = .ok (.istore_n 1, 1) := by decide +kernel
theorem dX11_rows_38 : decode cX11_rows 38 = .ok (.iload_n 1, 1) := by decide +kernel
theorem dX11_rows_39 : decode cX11_rows 39 = .ok (.aload_n 0, 1) := by decide +kernel
theorem dX11_rows_40 : decode cX11_rows 40 = .ok (.getfield 77, 3) := by decide +kernel
theorem dX11_rows_43 : decode cX11_rows 43 = .ok (.if_icmp .ge 21, 3) := by decide +kernel
theorem dX11_rows_46 : decode cX11_rows 46 = .ok (.aload_n 0, 1) := by decide +kernel
theorem dX11_rows_47 : decode cX11_rows 47 = .ok (.getfield 7, 3) := by decide +kernel
theorem dX11_rows_50 : decode cX11_rows 50 = .ok (.iload_n 1, 1) := by decide +kernel
theorem dX11_rows_51 : decode cX11_rows 51 = .ok (.aload_n 0, 1) := by decide +kernel
theorem dX11_rows_52 : decode cX11_rows 52 = .ok (.getfield 23, 3) := by decide +kernel
theorem dX11_rows_55 : decode cX11_rows 55 = .ok (.iload_n 1, 1) := by decide +kernel
theorem dX11_rows_56 : decode cX11_rows 56 = .ok (.iaload, 1) := by decide +kernel
theorem dX11_rows_57 : decode cX11_rows 57 = .ok (.iastore, 1) := by decide +kernel
theorem dX11_rows_58 : decode cX11_rows 58 = .ok (.iinc 1 1, 3) := by decide +kernel
theorem dX11_rows_61 : decode cX11_rows 61 = .ok (.goto (-23), 3) := by decide +kernel
theorem dX11_rows_64 : decode cX11_rows 64 = .ok (.iconst 0, 1) := by decide +kernel
theorem dX11_rows_65 : decode cX11_rows 65 = .ok (.istore_n 1, 1) := by decide +kernel
theorem dX11_rows_66 : decode cX11_rows 66 = .ok (.iload_n 1, 1) := by decide +kernel
theorem dX11_rows_67 : decode cX11_rows 67 = .ok (.iconst 4, 1) := by decide +kernel
theorem dX11_rows_68 : decode cX11_rows 68 = .ok (.aload_n 0, 1) := by decide +kernel
theorem dX11_rows_69 : decode cX11_rows 69 = .ok (.getfield 77, 3) := by decide +kernel
theorem dX11_rows_72 : decode cX11_rows 72 = .ok (.imul, 1) := by decide +kernel
theorem dX11_rows_73 : decode cX11_rows 73 = .ok (.if_icmp .ge 21, 3) := by decide +kernel
theorem dX11_rows_76 : decode cX11_rows 76 = .ok (.aload_n 0, 1) := by decide +kernel
theorem dX11_rows_77 : decode cX11_rows 77 = .ok (.getfield 13, 3) := by decide +kernel
theorem dX11_rows_80 : decode cX11_rows 80 = .ok (.iload_n 1, 1) := by decide +kernel
theorem dX11_rows_81 : decode cX11_rows 81 = .ok (.aload_n 0, 1) := by decide +kernel
theorem dX11_rows_82 : decode cX11_rows 82 = .ok (.getfield 26, 3) := by decide +kernel
theorem dX11_rows_85 : decode cX11_rows 85 = .ok (.iload_n 1, 1) := by decide +kernel
theorem dX11_rows_86 : decode cX11_rows 86 = .ok (.iaload, 1) := by decide +kernel
theorem dX11_rows_87 : decode cX11_rows 87 = .ok (.iastore, 1) := by decide +kernel
theorem dX11_rows_88 : decode cX11_rows 88 = .ok (.iinc 1 1, 3) := by decide +kernel
theorem dX11_rows_91 : decode cX11_rows 91 = .ok (.goto (-25), 3) := by decide +kernel
theorem dX11_rows_94 : decode cX11_rows 94 = .ok (.aload_n 0, 1) := by decide +kernel
theorem dX11_rows_95 : decode cX11_rows 95 = .ok (.dup, 1) := by decide +kernel
theorem dX11_rows_96 : decode cX11_rows 96 = .ok (.getfield 119, 3) := by decide +kernel
theorem dX11_rows_99 : decode cX11_rows 99 = .ok (.iconst 1, 1) := by decide +kernel
theorem dX11_rows_100 : decode cX11_rows 100 = .ok (.iadd, 1) := by decide +kernel
theorem dX11_rows_101 : decode cX11_rows 101 = .ok (.putfield 119, 3) := by decide +kernel
theorem dX11_rows_104 : decode cX11_rows 104 = .ok (.aload_n 0, 1) := by decide +kernel
theorem dX11_rows_105 : decode cX11_rows 105 = .ok (.iconst 0, 1) := by decide +kernel
theorem dX11_rows_106 : decode cX11_rows 106 = .ok (.putfield 73, 3) := by decide +kernel
theorem dX11_rows_109 : decode cX11_rows 109 = .ok (.aload_n 0, 1) := by decide +kernel
theorem dX11_rows_110 : decode cX11_rows 110 = .ok (.invokevirtual 122, 3) := by decide +kernel
theorem dX11_rows_113 : decode cX11_rows 113 = .ok (.aload_n 0, 1) := by decide +kernel
theorem dX11_rows_114 : decode cX11_rows 114 = .ok (.getfield 116, 3) := by decide +kernel
theorem dX11_rows_117 : decode cX11_rows 117 = .ok (.ireturn, 1) := by decide +kernel
theorem dX11_changes_0 : decode cX11_changes 0 = .ok (.aload_n 0, 1) := by decide +kernel
theorem dX11_changes_1 : decode cX11_changes 1 = .ok (.iconst 0, 1) := by decide +kernel
theorem dX11_changes_2 : decode cX11_changes 2 = .ok (.putfield 125, 3) := by decide +kernel
theorem dX11_changes_5 : decode cX11_changes 5 = .ok (.aload_n 0, 1) := by decide +kernel
theorem dX11_changes_6 : decode cX11_changes 6 = .ok (.iconst 0, 1) := by decide +kernel
theorem dX11_changes_7 : decode cX11_changes 7 = .ok (.putfield 128, 3) := by decide +kernel
theorem dX11_changes_10 : decode cX11_changes 10 = .ok (.return_, 1) := by decide +kernel
theorem dX11_termAt_0 : decode cX11_termAt 0 = .ok (.iload_n 2, 1) := by decide +kernel
theorem dX11_termAt_1 : decode cX11_termAt 1 = .ok (.sipush 200, 3) := by decide +kernel
theorem dX11_termAt_4 : decode cX11_termAt 4 = .ok (.if_icmp .le 8, 3) := by decide +kernel
theorem dX11_termAt_7 : decode cX11_termAt 7 = .ok (.ldc 131, 2) := by decide +kernel
theorem dX11_termAt_9 : decode cX11_termAt 9 = .ok (.goto 15, 3) := by decide +kernel
theorem dX11_termAt_12 : decode cX11_termAt 12 = .ok (.aload_n 0, 1) := by decide +kernel
theorem dX11_termAt_13 : decode cX11_termAt 13 = .ok (.getfield 29, 3) := by decide +kernel
theorem dX11_termAt_16 : decode cX11_termAt 16 = .ok (.sipush 201, 3) := by decide +kernel
theorem dX11_termAt_19 : decode cX11_termAt 19 = .ok (.iload_n 1, 1) := by decide +kernel
theorem dX11_termAt_20 : decode cX11_termAt 20 = .ok (.imul, 1) := by decide +kernel
theorem dX11_termAt_21 : decode cX11_termAt 21 = .ok (.iload_n 2, 1) := by decide +kernel
theorem dX11_termAt_22 : decode cX11_termAt 22 = .ok (.iadd, 1) := by decide +kernel
theorem dX11_termAt_23 : decode cX11_termAt 23 = .ok (.iaload, 1) := by decide +kernel
theorem dX11_termAt_24 : decode cX11_termAt 24 = .ok (.ireturn, 1) := by decide +kernel
theorem dX11_near_0 : decode cX11_near 0 = .ok (.lload_n 0, 1) := by decide +kernel
theorem dX11_near_1 : decode cX11_near 1 = .ok (.ldc2_w 132, 3) := by decide +kernel
theorem dX11_near_4 : decode cX11_near 4 = .ok (.lcmp, 1) := by decide +kernel
theorem dX11_near_5 : decode cX11_near 5 = .ok (.ifCond .gt 11, 3) := by decide +kernel
theorem dX11_near_8 : decode cX11_near 8 = .ok (.lload_n 0, 1) := by decide +kernel
theorem dX11_near_9 : decode cX11_near 9 = .ok (.ldc2_w 134, 3) := by decide +kernel
theorem dX11_near_12 : decode cX11_near 12 = .ok (.lcmp, 1) := by decide +kernel
theorem dX11_near_13 : decode cX11_near 13 = .ok (.ifCond .ge 8, 3) := by decide +kernel
theorem dX11_near_16 : decode cX11_near 16 = .ok (.ldc 131, 2) := by decide +kernel
theorem dX11_near_18 : decode cX11_near 18 = .ok (.goto 5, 3) := by decide +kernel
theorem dX11_near_21 : decode cX11_near 21 = .ok (.lload_n 0, 1) := by decide +kernel
theorem dX11_near_22 : decode cX11_near 22 = .ok (.l2i, 1) := by decide +kernel
theorem dX11_near_23 : decode cX11_near 23 = .ok (.ireturn, 1) := by decide +kernel
theorem dX11_toldTerm_0 : decode cX11_toldTerm 0 = .ok (.iload_n 2, 1) := by decide +kernel
theorem dX11_toldTerm_1 : decode cX11_toldTerm 1 = .ok (.iconst 2, 1) := by decide +kernel
theorem dX11_toldTerm_2 : decode cX11_toldTerm 2 = .ok (.if_icmp .ge 16, 3) := by decide +kernel
theorem dX11_toldTerm_5 : decode cX11_toldTerm 5 = .ok (.aload_n 0, 1) := by decide +kernel
theorem dX11_toldTerm_6 : decode cX11_toldTerm 6 = .ok (.getfield 13, 3) := by decide +kernel
theorem dX11_toldTerm_9 : decode cX11_toldTerm 9 = .ok (.iconst 4, 1) := by decide +kernel
theorem dX11_toldTerm_10 : decode cX11_toldTerm 10 = .ok (.iload_n 1, 1) := by decide +kernel
theorem dX11_toldTerm_11 : decode cX11_toldTerm 11 = .ok (.imul, 1) := by decide +kernel
theorem dX11_toldTerm_12 : decode cX11_toldTerm 12 = .ok (.iconst 2, 1) := by decide +kernel
theorem dX11_toldTerm_13 : decode cX11_toldTerm 13 = .ok (.iadd, 1) := by decide +kernel
theorem dX11_toldTerm_14 : decode cX11_toldTerm 14 = .ok (.iload_n 2, 1) := by decide +kernel
theorem dX11_toldTerm_15 : decode cX11_toldTerm 15 = .ok (.iadd, 1) := by decide +kernel
theorem dX11_toldTerm_16 : decode cX11_toldTerm 16 = .ok (.iaload, 1) := by decide +kernel
theorem dX11_toldTerm_17 : decode cX11_toldTerm 17 = .ok (.ireturn, 1) := by decide +kernel
theorem dX11_toldTerm_18 : decode cX11_toldTerm 18 = .ok (.aload_n 0, 1) := by decide +kernel
theorem dX11_toldTerm_19 : decode cX11_toldTerm 19 = .ok (.iload_n 1, 1) := by decide +kernel
theorem dX11_toldTerm_20 : decode cX11_toldTerm 20 = .ok (.iload_n 2, 1) := by decide +kernel
theorem dX11_toldTerm_21 : decode cX11_toldTerm 21 = .ok (.iconst 1, 1) := by decide +kernel
theorem dX11_toldTerm_22 : decode cX11_toldTerm 22 = .ok (.isub, 1) := by decide +kernel
theorem dX11_toldTerm_23 : decode cX11_toldTerm 23 = .ok (.invokevirtual 136, 3) := by decide +kernel
theorem dX11_toldTerm_26 : decode cX11_toldTerm 26 = .ok (.istore_n 3, 1) := by decide +kernel
theorem dX11_toldTerm_27 : decode cX11_toldTerm 27 = .ok (.aload_n 0, 1) := by decide +kernel
theorem dX11_toldTerm_28 : decode cX11_toldTerm 28 = .ok (.iload_n 1, 1) := by decide +kernel
theorem dX11_toldTerm_29 : decode cX11_toldTerm 29 = .ok (.iload_n 2, 1) := by decide +kernel
theorem dX11_toldTerm_30 : decode cX11_toldTerm 30 = .ok (.iconst 2, 1) := by decide +kernel
theorem dX11_toldTerm_31 : decode cX11_toldTerm 31 = .ok (.isub, 1) := by decide +kernel
theorem dX11_toldTerm_32 : decode cX11_toldTerm 32 = .ok (.invokevirtual 136, 3) := by decide +kernel
theorem dX11_toldTerm_35 : decode cX11_toldTerm 35 = .ok (.istore 4, 2) := by decide +kernel
theorem dX11_toldTerm_37 : decode cX11_toldTerm 37 = .ok (.iload_n 3, 1) := by decide +kernel
theorem dX11_toldTerm_38 : decode cX11_toldTerm 38 = .ok (.ldc 131, 2) := by decide +kernel
theorem dX11_toldTerm_40 : decode cX11_toldTerm 40 = .ok (.if_icmp .eq 10, 3) := by decide +kernel
theorem dX11_toldTerm_43 : decode cX11_toldTerm 43 = .ok (.iload 4, 2) := by decide +kernel
theorem dX11_toldTerm_45 : decode cX11_toldTerm 45 = .ok (.ldc 131, 2) := by decide +kernel
theorem dX11_toldTerm_47 : decode cX11_toldTerm 47 = .ok (.if_icmp .ne 8, 3) := by decide +kernel
theorem dX11_toldTerm_50 : decode cX11_toldTerm 50 = .ok (.ldc 131, 2) := by decide +kernel
theorem dX11_toldTerm_52 : decode cX11_toldTerm 52 = .ok (.goto 34, 3) := by decide +kernel
theorem dX11_toldTerm_55 : decode cX11_toldTerm 55 = .ok (.aload_n 0, 1) := by decide +kernel
theorem dX11_toldTerm_56 : decode cX11_toldTerm 56 = .ok (.getfield 13, 3) := by decide +kernel
theorem dX11_toldTerm_59 : decode cX11_toldTerm 59 = .ok (.iconst 4, 1) := by decide +kernel
theorem dX11_toldTerm_60 : decode cX11_toldTerm 60 = .ok (.iload_n 1, 1) := by decide +kernel
theorem dX11_toldTerm_61 : decode cX11_toldTerm 61 = .ok (.imul, 1) := by decide +kernel
theorem dX11_toldTerm_62 : decode cX11_toldTerm 62 = .ok (.iaload, 1) := by decide +kernel
theorem dX11_toldTerm_63 : decode cX11_toldTerm 63 = .ok (.i2l, 1) := by decide +kernel
theorem dX11_toldTerm_64 : decode cX11_toldTerm 64 = .ok (.iload_n 3, 1) := by decide +kernel
theorem dX11_toldTerm_65 : decode cX11_toldTerm 65 = .ok (.i2l, 1) := by decide +kernel
theorem dX11_toldTerm_66 : decode cX11_toldTerm 66 = .ok (.lmul, 1) := by decide +kernel
theorem dX11_toldTerm_67 : decode cX11_toldTerm 67 = .ok (.aload_n 0, 1) := by decide +kernel
theorem dX11_toldTerm_68 : decode cX11_toldTerm 68 = .ok (.getfield 13, 3) := by decide +kernel
theorem dX11_toldTerm_71 : decode cX11_toldTerm 71 = .ok (.iconst 4, 1) := by decide +kernel
theorem dX11_toldTerm_72 : decode cX11_toldTerm 72 = .ok (.iload_n 1, 1) := by decide +kernel
theorem dX11_toldTerm_73 : decode cX11_toldTerm 73 = .ok (.imul, 1) := by decide +kernel
theorem dX11_toldTerm_74 : decode cX11_toldTerm 74 = .ok (.iconst 1, 1) := by decide +kernel
theorem dX11_toldTerm_75 : decode cX11_toldTerm 75 = .ok (.iadd, 1) := by decide +kernel
theorem dX11_toldTerm_76 : decode cX11_toldTerm 76 = .ok (.iaload, 1) := by decide +kernel
theorem dX11_toldTerm_77 : decode cX11_toldTerm 77 = .ok (.i2l, 1) := by decide +kernel
theorem dX11_toldTerm_78 : decode cX11_toldTerm 78 = .ok (.iload 4, 2) := by decide +kernel
theorem dX11_toldTerm_80 : decode cX11_toldTerm 80 = .ok (.i2l, 1) := by decide +kernel
theorem dX11_toldTerm_81 : decode cX11_toldTerm 81 = .ok (.lmul, 1) := by decide +kernel
theorem dX11_toldTerm_82 : decode cX11_toldTerm 82 = .ok (.ladd, 1) := by decide +kernel
theorem dX11_toldTerm_83 : decode cX11_toldTerm 83 = .ok (.invokestatic 140, 3) := by decide +kernel
theorem dX11_toldTerm_86 : decode cX11_toldTerm 86 = .ok (.ireturn, 1) := by decide +kernel
theorem dX11_bothTerm_0 : decode cX11_bothTerm 0 = .ok (.aload_n 0, 1) := by decide +kernel
theorem dX11_bothTerm_1 : decode cX11_bothTerm 1 = .ok (.aload_n 0, 1) := by decide +kernel
theorem dX11_bothTerm_2 : decode cX11_bothTerm 2 = .ok (.getfield 13, 3) := by decide +kernel
theorem dX11_bothTerm_5 : decode cX11_bothTerm 5 = .ok (.iconst 4, 1) := by decide +kernel
theorem dX11_bothTerm_6 : decode cX11_bothTerm 6 = .ok (.iload_n 1, 1) := by decide +kernel
theorem dX11_bothTerm_7 : decode cX11_bothTerm 7 = .ok (.imul, 1) := by decide +kernel
theorem dX11_bothTerm_8 : decode cX11_bothTerm 8 = .ok (.iaload, 1) := by decide +kernel
theorem dX11_bothTerm_9 : decode cX11_bothTerm 9 = .ok (.iload_n 2, 1) := by decide +kernel
theorem dX11_bothTerm_10 : decode cX11_bothTerm 10 = .ok (.invokevirtual 136, 3) := by decide +kernel
theorem dX11_bothTerm_13 : decode cX11_bothTerm 13 = .ok (.istore_n 3, 1) := by decide +kernel
theorem dX11_bothTerm_14 : decode cX11_bothTerm 14 = .ok (.aload_n 0, 1) := by decide +kernel
theorem dX11_bothTerm_15 : decode cX11_bothTerm 15 = .ok (.aload_n 0, 1) := by decide +kernel
theorem dX11_bothTerm_16 : decode cX11_bothTerm 16 = .ok (.getfield 13, 3) := by decide +kernel
theorem dX11_bothTerm_19 : decode cX11_bothTerm 19 = .ok (.iconst 4, 1) := by decide +kernel
theorem dX11_bothTerm_20 : decode cX11_bothTerm 20 = .ok (.iload_n 1, 1) := by decide +kernel
theorem dX11_bothTerm_21 : decode cX11_bothTerm 21 = .ok (.imul, 1) := by decide +kernel
theorem dX11_bothTerm_22 : decode cX11_bothTerm 22 = .ok (.iconst 1, 1) := by decide +kernel
theorem dX11_bothTerm_23 : decode cX11_bothTerm 23 = .ok (.iadd, 1) := by decide +kernel
theorem dX11_bothTerm_24 : decode cX11_bothTerm 24 = .ok (.iaload, 1) := by decide +kernel
theorem dX11_bothTerm_25 : decode cX11_bothTerm 25 = .ok (.iload_n 2, 1) := by decide +kernel
theorem dX11_bothTerm_26 : decode cX11_bothTerm 26 = .ok (.invokevirtual 136, 3) := by decide +kernel
theorem dX11_bothTerm_29 : decode cX11_bothTerm 29 = .ok (.istore 4, 2) := by decide +kernel
theorem dX11_bothTerm_31 : decode cX11_bothTerm 31 = .ok (.iload_n 3, 1) := by decide +kernel
theorem dX11_bothTerm_32 : decode cX11_bothTerm 32 = .ok (.ldc 131, 2) := by decide +kernel
theorem dX11_bothTerm_34 : decode cX11_bothTerm 34 = .ok (.if_icmp .eq 10, 3) := by decide +kernel
theorem dX11_bothTerm_37 : decode cX11_bothTerm 37 = .ok (.iload 4, 2) := by decide +kernel
theorem dX11_bothTerm_39 : decode cX11_bothTerm 39 = .ok (.ldc 131, 2) := by decide +kernel
theorem dX11_bothTerm_41 : decode cX11_bothTerm 41 = .ok (.if_icmp .ne 6, 3) := by decide +kernel
theorem dX11_bothTerm_44 : decode cX11_bothTerm 44 = .ok (.ldc 131, 2) := by decide +kernel
theorem dX11_bothTerm_46 : decode cX11_bothTerm 46 = .ok (.ireturn, 1) := by decide +kernel
theorem dX11_bothTerm_47 : decode cX11_bothTerm 47 = .ok (.aload_n 0, 1) := by decide +kernel
theorem dX11_bothTerm_48 : decode cX11_bothTerm 48 = .ok (.getfield 7, 3) := by decide +kernel
theorem dX11_bothTerm_51 : decode cX11_bothTerm 51 = .ok (.iload_n 1, 1) := by decide +kernel
theorem dX11_bothTerm_52 : decode cX11_bothTerm 52 = .ok (.iaload, 1) := by decide +kernel
theorem dX11_bothTerm_53 : decode cX11_bothTerm 53 = .ok (.iconst 1, 1) := by decide +kernel
theorem dX11_bothTerm_54 : decode cX11_bothTerm 54 = .ok (.if_icmp .ne 12, 3) := by decide +kernel
theorem dX11_bothTerm_57 : decode cX11_bothTerm 57 = .ok (.iload_n 3, 1) := by decide +kernel
theorem dX11_bothTerm_58 : decode cX11_bothTerm 58 = .ok (.i2l, 1) := by decide +kernel
theorem dX11_bothTerm_59 : decode cX11_bothTerm 59 = .ok (.iload 4, 2) := by decide +kernel
theorem dX11_bothTerm_61 : decode cX11_bothTerm 61 = .ok (.i2l, 1) := by decide +kernel
theorem dX11_bothTerm_62 : decode cX11_bothTerm 62 = .ok (.ladd, 1) := by decide +kernel
theorem dX11_bothTerm_63 : decode cX11_bothTerm 63 = .ok (.goto 9, 3) := by decide +kernel
theorem dX11_bothTerm_66 : decode cX11_bothTerm 66 = .ok (.iload_n 3, 1) := by decide +kernel
theorem dX11_bothTerm_67 : decode cX11_bothTerm 67 = .ok (.i2l, 1) := by decide +kernel
theorem dX11_bothTerm_68 : decode cX11_bothTerm 68 = .ok (.iload 4, 2) := by decide +kernel
theorem dX11_bothTerm_70 : decode cX11_bothTerm 70 = .ok (.i2l, 1) := by decide +kernel
theorem dX11_bothTerm_71 : decode cX11_bothTerm 71 = .ok (.lmul, 1) := by decide +kernel
theorem dX11_bothTerm_72 : decode cX11_bothTerm 72 = .ok (.invokestatic 140, 3) := by decide +kernel
theorem dX11_bothTerm_75 : decode cX11_bothTerm 75 = .ok (.ireturn, 1) := by decide +kernel
theorem dX11_stepTerm_0 : decode cX11_stepTerm 0 = .ok (.aload_n 0, 1) := by decide +kernel
theorem dX11_stepTerm_1 : decode cX11_stepTerm 1 = .ok (.aload_n 0, 1) := by decide +kernel
theorem dX11_stepTerm_2 : decode cX11_stepTerm 2 = .ok (.getfield 13, 3) := by decide +kernel
theorem dX11_stepTerm_5 : decode cX11_stepTerm 5 = .ok (.iconst 4, 1) := by decide +kernel
theorem dX11_stepTerm_6 : decode cX11_stepTerm 6 = .ok (.iload_n 1, 1) := by decide +kernel
theorem dX11_stepTerm_7 : decode cX11_stepTerm 7 = .ok (.imul, 1) := by decide +kernel
theorem dX11_stepTerm_8 : decode cX11_stepTerm 8 = .ok (.iaload, 1) := by decide +kernel
theorem dX11_stepTerm_9 : decode cX11_stepTerm 9 = .ok (.iload_n 2, 1) := by decide +kernel
theorem dX11_stepTerm_10 : decode cX11_stepTerm 10 = .ok (.invokevirtual 136, 3) := by decide +kernel
theorem dX11_stepTerm_13 : decode cX11_stepTerm 13 = .ok (.istore_n 3, 1) := by decide +kernel
theorem dX11_stepTerm_14 : decode cX11_stepTerm 14 = .ok (.aload_n 0, 1) := by decide +kernel
theorem dX11_stepTerm_15 : decode cX11_stepTerm 15 = .ok (.aload_n 0, 1) := by decide +kernel
theorem dX11_stepTerm_16 : decode cX11_stepTerm 16 = .ok (.getfield 13, 3) := by decide +kernel
theorem dX11_stepTerm_19 : decode cX11_stepTerm 19 = .ok (.iconst 4, 1) := by decide +kernel
theorem dX11_stepTerm_20 : decode cX11_stepTerm 20 = .ok (.iload_n 1, 1) := by decide +kernel
theorem dX11_stepTerm_21 : decode cX11_stepTerm 21 = .ok (.imul, 1) := by decide +kernel
theorem dX11_stepTerm_22 : decode cX11_stepTerm 22 = .ok (.iaload, 1) := by decide +kernel
theorem dX11_stepTerm_23 : decode cX11_stepTerm 23 = .ok (.iload_n 2, 1) := by decide +kernel
theorem dX11_stepTerm_24 : decode cX11_stepTerm 24 = .ok (.iconst 1, 1) := by decide +kernel
theorem dX11_stepTerm_25 : decode cX11_stepTerm 25 = .ok (.iadd, 1) := by decide +kernel
theorem dX11_stepTerm_26 : decode cX11_stepTerm 26 = .ok (.invokevirtual 136, 3) := by decide +kernel
theorem dX11_stepTerm_29 : decode cX11_stepTerm 29 = .ok (.istore 4, 2) := by decide +kernel
theorem dX11_stepTerm_31 : decode cX11_stepTerm 31 = .ok (.iload_n 3, 1) := by decide +kernel
theorem dX11_stepTerm_32 : decode cX11_stepTerm 32 = .ok (.ldc 131, 2) := by decide +kernel
theorem dX11_stepTerm_34 : decode cX11_stepTerm 34 = .ok (.if_icmp .eq 10, 3) := by decide +kernel
theorem dX11_stepTerm_37 : decode cX11_stepTerm 37 = .ok (.iload 4, 2) := by decide +kernel
theorem dX11_stepTerm_39 : decode cX11_stepTerm 39 = .ok (.ldc 131, 2) := by decide +kernel
theorem dX11_stepTerm_41 : decode cX11_stepTerm 41 = .ok (.if_icmp .ne 8, 3) := by decide +kernel
theorem dX11_stepTerm_44 : decode cX11_stepTerm 44 = .ok (.ldc 131, 2) := by decide +kernel
theorem dX11_stepTerm_46 : decode cX11_stepTerm 46 = .ok (.goto 12, 3) := by decide +kernel
theorem dX11_stepTerm_49 : decode cX11_stepTerm 49 = .ok (.iload 4, 2) := by decide +kernel
theorem dX11_stepTerm_51 : decode cX11_stepTerm 51 = .ok (.i2l, 1) := by decide +kernel
theorem dX11_stepTerm_52 : decode cX11_stepTerm 52 = .ok (.iload_n 3, 1) := by decide +kernel
theorem dX11_stepTerm_53 : decode cX11_stepTerm 53 = .ok (.i2l, 1) := by decide +kernel
theorem dX11_stepTerm_54 : decode cX11_stepTerm 54 = .ok (.lsub, 1) := by decide +kernel
theorem dX11_stepTerm_55 : decode cX11_stepTerm 55 = .ok (.invokestatic 140, 3) := by decide +kernel
theorem dX11_stepTerm_58 : decode cX11_stepTerm 58 = .ok (.ireturn, 1) := by decide +kernel
theorem dX11_madeTerm_0 : decode cX11_madeTerm 0 = .ok (.aload_n 0, 1) := by decide +kernel
theorem dX11_madeTerm_1 : decode cX11_madeTerm 1 = .ok (.getfield 7, 3) := by decide +kernel
theorem dX11_madeTerm_4 : decode cX11_madeTerm 4 = .ok (.iload_n 1, 1) := by decide +kernel
theorem dX11_madeTerm_5 : decode cX11_madeTerm 5 = .ok (.iaload, 1) := by decide +kernel
theorem dX11_madeTerm_6 : decode cX11_madeTerm 6 = .ok (.tableswitch 84 0 4 #[34, 84, 84, 41, 77], 34) := by decide +kernel
theorem dX11_madeTerm_40 : decode cX11_madeTerm 40 = .ok (.aload_n 0, 1) := by decide +kernel
theorem dX11_madeTerm_41 : decode cX11_madeTerm 41 = .ok (.iload_n 1, 1) := by decide +kernel
theorem dX11_madeTerm_42 : decode cX11_madeTerm 42 = .ok (.iload_n 2, 1) := by decide +kernel
theorem dX11_madeTerm_43 : decode cX11_madeTerm 43 = .ok (.invokevirtual 144, 3) := by decide +kernel
theorem dX11_madeTerm_46 : decode cX11_madeTerm 46 = .ok (.ireturn, 1) := by decide +kernel
theorem dX11_madeTerm_47 : decode cX11_madeTerm 47 = .ok (.aload_n 0, 1) := by decide +kernel
theorem dX11_madeTerm_48 : decode cX11_madeTerm 48 = .ok (.aload_n 0, 1) := by decide +kernel
theorem dX11_madeTerm_49 : decode cX11_madeTerm 49 = .ok (.getfield 13, 3) := by decide +kernel
theorem dX11_madeTerm_52 : decode cX11_madeTerm 52 = .ok (.iconst 4, 1) := by decide +kernel
theorem dX11_madeTerm_53 : decode cX11_madeTerm 53 = .ok (.iload_n 1, 1) := by decide +kernel
theorem dX11_madeTerm_54 : decode cX11_madeTerm 54 = .ok (.imul, 1) := by decide +kernel
theorem dX11_madeTerm_55 : decode cX11_madeTerm 55 = .ok (.iaload, 1) := by decide +kernel
theorem dX11_madeTerm_56 : decode cX11_madeTerm 56 = .ok (.aload_n 0, 1) := by decide +kernel
theorem dX11_madeTerm_57 : decode cX11_madeTerm 57 = .ok (.getfield 13, 3) := by decide +kernel
theorem dX11_madeTerm_60 : decode cX11_madeTerm 60 = .ok (.iconst 4, 1) := by decide +kernel
theorem dX11_madeTerm_61 : decode cX11_madeTerm 61 = .ok (.iload_n 1, 1) := by decide +kernel
theorem dX11_madeTerm_62 : decode cX11_madeTerm 62 = .ok (.imul, 1) := by decide +kernel
theorem dX11_madeTerm_63 : decode cX11_madeTerm 63 = .ok (.iconst 1, 1) := by decide +kernel
theorem dX11_madeTerm_64 : decode cX11_madeTerm 64 = .ok (.iadd, 1) := by decide +kernel
theorem dX11_madeTerm_65 : decode cX11_madeTerm 65 = .ok (.iaload, 1) := by decide +kernel
theorem dX11_madeTerm_66 : decode cX11_madeTerm 66 = .ok (.iload_n 2, 1) := by decide +kernel
theorem dX11_madeTerm_67 : decode cX11_madeTerm 67 = .ok (.imul, 1) := by decide +kernel
theorem dX11_madeTerm_68 : decode cX11_madeTerm 68 = .ok (.aload_n 0, 1) := by decide +kernel
theorem dX11_madeTerm_69 : decode cX11_madeTerm 69 = .ok (.getfield 13, 3) := by decide +kernel
theorem dX11_madeTerm_72 : decode cX11_madeTerm 72 = .ok (.iconst 4, 1) := by decide +kernel
theorem dX11_madeTerm_73 : decode cX11_madeTerm 73 = .ok (.iload_n 1, 1) := by decide +kernel
theorem dX11_madeTerm_74 : decode cX11_madeTerm 74 = .ok (.imul, 1) := by decide +kernel
theorem dX11_madeTerm_75 : decode cX11_madeTerm 75 = .ok (.iconst 2, 1) := by decide +kernel
theorem dX11_madeTerm_76 : decode cX11_madeTerm 76 = .ok (.iadd, 1) := by decide +kernel
theorem dX11_madeTerm_77 : decode cX11_madeTerm 77 = .ok (.iaload, 1) := by decide +kernel
theorem dX11_madeTerm_78 : decode cX11_madeTerm 78 = .ok (.iadd, 1) := by decide +kernel
theorem dX11_madeTerm_79 : decode cX11_madeTerm 79 = .ok (.invokevirtual 136, 3) := by decide +kernel
theorem dX11_madeTerm_82 : decode cX11_madeTerm 82 = .ok (.ireturn, 1) := by decide +kernel
theorem dX11_madeTerm_83 : decode cX11_madeTerm 83 = .ok (.aload_n 0, 1) := by decide +kernel
theorem dX11_madeTerm_84 : decode cX11_madeTerm 84 = .ok (.iload_n 1, 1) := by decide +kernel
theorem dX11_madeTerm_85 : decode cX11_madeTerm 85 = .ok (.iload_n 2, 1) := by decide +kernel
theorem dX11_madeTerm_86 : decode cX11_madeTerm 86 = .ok (.invokevirtual 147, 3) := by decide +kernel
theorem dX11_madeTerm_89 : decode cX11_madeTerm 89 = .ok (.ireturn, 1) := by decide +kernel
theorem dX11_madeTerm_90 : decode cX11_madeTerm 90 = .ok (.aload_n 0, 1) := by decide +kernel
theorem dX11_madeTerm_91 : decode cX11_madeTerm 91 = .ok (.iload_n 1, 1) := by decide +kernel
theorem dX11_madeTerm_92 : decode cX11_madeTerm 92 = .ok (.iload_n 2, 1) := by decide +kernel
theorem dX11_madeTerm_93 : decode cX11_madeTerm 93 = .ok (.invokevirtual 150, 3) := by decide +kernel
theorem dX11_madeTerm_96 : decode cX11_madeTerm 96 = .ok (.ireturn, 1) := by decide +kernel
theorem dX11_layTerms_0 : decode cX11_layTerms 0 = .ok (.iconst 0, 1) := by decide +kernel
theorem dX11_layTerms_1 : decode cX11_layTerms 1 = .ok (.istore_n 1, 1) := by decide +kernel
theorem dX11_layTerms_2 : decode cX11_layTerms 2 = .ok (.iload_n 1, 1) := by decide +kernel
theorem dX11_layTerms_3 : decode cX11_layTerms 3 = .ok (.aload_n 0, 1) := by decide +kernel
theorem dX11_layTerms_4 : decode cX11_layTerms 4 = .ok (.getfield 116, 3) := by decide +kernel
theorem dX11_layTerms_7 : decode cX11_layTerms 7 = .ok (.sipush 201, 3) := by decide +kernel
theorem dX11_layTerms_10 : decode cX11_layTerms 10 = .ok (.imul, 1) := by decide +kernel
theorem dX11_layTerms_11 : decode cX11_layTerms 11 = .ok (.if_icmp .ge 36, 3) := by decide +kernel
theorem dX11_layTerms_14 : decode cX11_layTerms 14 = .ok (.aload_n 0, 1) := by decide +kernel
theorem dX11_layTerms_15 : decode cX11_layTerms 15 = .ok (.getfield 125, 3) := by decide +kernel
theorem dX11_layTerms_18 : decode cX11_layTerms 18 = .ok (.ifCond .ne 29, 3) := by decide +kernel
theorem dX11_layTerms_21 : decode cX11_layTerms 21 = .ok (.aload_n 0, 1) := by decide +kernel
theorem dX11_layTerms_22 : decode cX11_layTerms 22 = .ok (.getfield 29, 3) := by decide +kernel
theorem dX11_layTerms_25 : decode cX11_layTerms 25 = .ok (.iload_n 1, 1) := by decide +kernel
theorem dX11_layTerms_26 : decode cX11_layTerms 26 = .ok (.aload_n 0, 1) := by decide +kernel
theorem dX11_layTerms_27 : decode cX11_layTerms 27 = .ok (.iload_n 1, 1) := by decide +kernel
theorem dX11_layTerms_28 : decode cX11_layTerms 28 = .ok (.sipush 201, 3) := by decide +kernel
theorem dX11_layTerms_31 : decode cX11_layTerms 31 = .ok (.idiv, 1) := by decide +kernel
theorem dX11_layTerms_32 : decode cX11_layTerms 32 = .ok (.iload_n 1, 1) := by decide +kernel
theorem dX11_layTerms_33 : decode cX11_layTerms 33 = .ok (.sipush 201, 3) := by decide +kernel
theorem dX11_layTerms_36 : decode cX11_layTerms 36 = .ok (.irem, 1) := by decide +kernel
theorem dX11_layTerms_37 : decode cX11_layTerms 37 = .ok (.invokevirtual 153, 3) := by decide +kernel
theorem dX11_layTerms_40 : decode cX11_layTerms 40 = .ok (.iastore, 1) := by decide +kernel
theorem dX11_layTerms_41 : decode cX11_layTerms 41 = .ok (.iinc 1 1, 3) := by decide +kernel
theorem dX11_layTerms_44 : decode cX11_layTerms 44 = .ok (.goto (-42), 3) := by decide +kernel
theorem dX11_layTerms_47 : decode cX11_layTerms 47 = .ok (.aload_n 0, 1) := by decide +kernel
theorem dX11_layTerms_48 : decode cX11_layTerms 48 = .ok (.iconst 1, 1) := by decide +kernel
theorem dX11_layTerms_49 : decode cX11_layTerms 49 = .ok (.putfield 125, 3) := by decide +kernel
theorem dX11_layTerms_52 : decode cX11_layTerms 52 = .ok (.return_, 1) := by decide +kernel
theorem dX11_termOf_0 : decode cX11_termOf 0 = .ok (.aload_n 0, 1) := by decide +kernel
theorem dX11_termOf_1 : decode cX11_termOf 1 = .ok (.invokevirtual 156, 3) := by decide +kernel
theorem dX11_termOf_4 : decode cX11_termOf 4 = .ok (.aload_n 0, 1) := by decide +kernel
theorem dX11_termOf_5 : decode cX11_termOf 5 = .ok (.iload_n 1, 1) := by decide +kernel
theorem dX11_termOf_6 : decode cX11_termOf 6 = .ok (.iload_n 2, 1) := by decide +kernel
theorem dX11_termOf_7 : decode cX11_termOf 7 = .ok (.invokevirtual 136, 3) := by decide +kernel
theorem dX11_termOf_10 : decode cX11_termOf 10 = .ok (.ireturn, 1) := by decide +kernel
theorem dX11_restAt_0 : decode cX11_restAt 0 = .ok (.lload_n 2, 1) := by decide +kernel
theorem dX11_restAt_1 : decode cX11_restAt 1 = .ok (.aload_n 0, 1) := by decide +kernel
theorem dX11_restAt_2 : decode cX11_restAt 2 = .ok (.getfield 32, 3) := by decide +kernel
theorem dX11_restAt_5 : decode cX11_restAt 5 = .ok (.iload_n 1, 1) := by decide +kernel
theorem dX11_restAt_6 : decode cX11_restAt 6 = .ok (.iaload, 1) := by decide +kernel
theorem dX11_restAt_7 : decode cX11_restAt 7 = .ok (.i2l, 1) := by decide +kernel
theorem dX11_restAt_8 : decode cX11_restAt 8 = .ok (.lcmp, 1) := by decide +kernel
theorem dX11_restAt_9 : decode cX11_restAt 9 = .ok (.ifCond .ge 7, 3) := by decide +kernel
theorem dX11_restAt_12 : decode cX11_restAt 12 = .ok (.lload_n 2, 1) := by decide +kernel
theorem dX11_restAt_13 : decode cX11_restAt 13 = .ok (.goto 28, 3) := by decide +kernel
theorem dX11_restAt_16 : decode cX11_restAt 16 = .ok (.aload_n 0, 1) := by decide +kernel
theorem dX11_restAt_17 : decode cX11_restAt 17 = .ok (.getfield 32, 3) := by decide +kernel
theorem dX11_restAt_20 : decode cX11_restAt 20 = .ok (.iload_n 1, 1) := by decide +kernel
theorem dX11_restAt_21 : decode cX11_restAt 21 = .ok (.iaload, 1) := by decide +kernel
theorem dX11_restAt_22 : decode cX11_restAt 22 = .ok (.i2l, 1) := by decide +kernel
theorem dX11_restAt_23 : decode cX11_restAt 23 = .ok (.lload_n 2, 1) := by decide +kernel
theorem dX11_restAt_24 : decode cX11_restAt 24 = .ok (.aload_n 0, 1) := by decide +kernel
theorem dX11_restAt_25 : decode cX11_restAt 25 = .ok (.getfield 32, 3) := by decide +kernel
theorem dX11_restAt_28 : decode cX11_restAt 28 = .ok (.iload_n 1, 1) := by decide +kernel
theorem dX11_restAt_29 : decode cX11_restAt 29 = .ok (.iaload, 1) := by decide +kernel
theorem dX11_restAt_30 : decode cX11_restAt 30 = .ok (.i2l, 1) := by decide +kernel
theorem dX11_restAt_31 : decode cX11_restAt 31 = .ok (.lsub, 1) := by decide +kernel
theorem dX11_restAt_32 : decode cX11_restAt 32 = .ok (.aload_n 0, 1) := by decide +kernel
theorem dX11_restAt_33 : decode cX11_restAt 33 = .ok (.getfield 35, 3) := by decide +kernel
theorem dX11_restAt_36 : decode cX11_restAt 36 = .ok (.iload_n 1, 1) := by decide +kernel
theorem dX11_restAt_37 : decode cX11_restAt 37 = .ok (.iaload, 1) := by decide +kernel
theorem dX11_restAt_38 : decode cX11_restAt 38 = .ok (.i2l, 1) := by decide +kernel
theorem dX11_restAt_39 : decode cX11_restAt 39 = .ok (.lrem, 1) := by decide +kernel
theorem dX11_restAt_40 : decode cX11_restAt 40 = .ok (.ladd, 1) := by decide +kernel
theorem dX11_restAt_41 : decode cX11_restAt 41 = .ok (.lstore 4, 2) := by decide +kernel
theorem dX11_restAt_43 : decode cX11_restAt 43 = .ok (.aload_n 0, 1) := by decide +kernel
theorem dX11_restAt_44 : decode cX11_restAt 44 = .ok (.getfield 38, 3) := by decide +kernel
theorem dX11_restAt_47 : decode cX11_restAt 47 = .ok (.sipush 512, 3) := by decide +kernel
theorem dX11_restAt_50 : decode cX11_restAt 50 = .ok (.iload_n 1, 1) := by decide +kernel
theorem dX11_restAt_51 : decode cX11_restAt 51 = .ok (.imul, 1) := by decide +kernel
theorem dX11_restAt_52 : decode cX11_restAt 52 = .ok (.lload 4, 2) := by decide +kernel
theorem dX11_restAt_54 : decode cX11_restAt 54 = .ok (.l2i, 1) := by decide +kernel
theorem dX11_restAt_55 : decode cX11_restAt 55 = .ok (.iadd, 1) := by decide +kernel
theorem dX11_restAt_56 : decode cX11_restAt 56 = .ok (.baload, 1) := by decide +kernel
theorem dX11_restAt_57 : decode cX11_restAt 57 = .ok (.ireturn, 1) := by decide +kernel
theorem dX11_common_0 : decode cX11_common 0 = .ok (.iload_n 0, 1) := by decide +kernel
theorem dX11_common_1 : decode cX11_common 1 = .ok (.istore_n 2, 1) := by decide +kernel
theorem dX11_common_2 : decode cX11_common 2 = .ok (.iload_n 1, 1) := by decide +kernel
theorem dX11_common_3 : decode cX11_common 3 = .ok (.istore_n 3, 1) := by decide +kernel
theorem dX11_common_4 : decode cX11_common 4 = .ok (.iload_n 3, 1) := by decide +kernel
theorem dX11_common_5 : decode cX11_common 5 = .ok (.ifCond .eq 16, 3) := by decide +kernel
theorem dX11_common_8 : decode cX11_common 8 = .ok (.iload_n 2, 1) := by decide +kernel
theorem dX11_common_9 : decode cX11_common 9 = .ok (.iload_n 3, 1) := by decide +kernel
theorem dX11_common_10 : decode cX11_common 10 = .ok (.irem, 1) := by decide +kernel
theorem dX11_common_11 : decode cX11_common 11 = .ok (.istore 4, 2) := by decide +kernel
theorem dX11_common_13 : decode cX11_common 13 = .ok (.iload_n 3, 1) := by decide +kernel
theorem dX11_common_14 : decode cX11_common 14 = .ok (.istore_n 2, 1) := by decide +kernel
theorem dX11_common_15 : decode cX11_common 15 = .ok (.iload 4, 2) := by decide +kernel
theorem dX11_common_17 : decode cX11_common 17 = .ok (.istore_n 3, 1) := by decide +kernel
theorem dX11_common_18 : decode cX11_common 18 = .ok (.goto (-14), 3) := by decide +kernel
theorem dX11_common_21 : decode cX11_common 21 = .ok (.iload_n 2, 1) := by decide +kernel
theorem dX11_common_22 : decode cX11_common 22 = .ok (.ireturn, 1) := by decide +kernel
theorem dX11_mod_0 : decode cX11_mod 0 = .ok (.iload_n 0, 1) := by decide +kernel
theorem dX11_mod_1 : decode cX11_mod 1 = .ok (.iload_n 1, 1) := by decide +kernel
theorem dX11_mod_2 : decode cX11_mod 2 = .ok (.irem, 1) := by decide +kernel
theorem dX11_mod_3 : decode cX11_mod 3 = .ok (.iload_n 1, 1) := by decide +kernel
theorem dX11_mod_4 : decode cX11_mod 4 = .ok (.iadd, 1) := by decide +kernel
theorem dX11_mod_5 : decode cX11_mod 5 = .ok (.iload_n 1, 1) := by decide +kernel
theorem dX11_mod_6 : decode cX11_mod 6 = .ok (.irem, 1) := by decide +kernel
theorem dX11_mod_7 : decode cX11_mod 7 = .ok (.ireturn, 1) := by decide +kernel
theorem dX11_layTold_0 : decode cX11_layTold 0 = .ok (.iconst 0, 1) := by decide +kernel
theorem dX11_layTold_1 : decode cX11_layTold 1 = .ok (.istore_n 3, 1) := by decide +kernel
theorem dX11_layTold_2 : decode cX11_layTold 2 = .ok (.iload_n 3, 1) := by decide +kernel
theorem dX11_layTold_3 : decode cX11_layTold 3 = .ok (.iload_n 2, 1) := by decide +kernel
theorem dX11_layTold_4 : decode cX11_layTold 4 = .ok (.iload_n 2, 1) := by decide +kernel
theorem dX11_layTold_5 : decode cX11_layTold 5 = .ok (.imul, 1) := by decide +kernel
theorem dX11_layTold_6 : decode cX11_layTold 6 = .ok (.if_icmp .ge 17, 3) := by decide +kernel
theorem dX11_layTold_9 : decode cX11_layTold 9 = .ok (.aload_n 0, 1) := by decide +kernel
theorem dX11_layTold_10 : decode cX11_layTold 10 = .ok (.getfield 41, 3) := by decide +kernel
theorem dX11_layTold_13 : decode cX11_layTold 13 = .ok (.iload_n 3, 1) := by decide +kernel
theorem dX11_layTold_14 : decode cX11_layTold 14 = .ok (.ldc 54, 2) := by decide +kernel
theorem dX11_layTold_16 : decode cX11_layTold 16 = .ok (.iastore, 1) := by decide +kernel
theorem dX11_layTold_17 : decode cX11_layTold 17 = .ok (.iinc 3 1, 3) := by decide +kernel
theorem dX11_layTold_20 : decode cX11_layTold 20 = .ok (.goto (-18), 3) := by decide +kernel
theorem dX11_layTold_23 : decode cX11_layTold 23 = .ok (.aload_n 0, 1) := by decide +kernel
theorem dX11_layTold_24 : decode cX11_layTold 24 = .ok (.getfield 13, 3) := by decide +kernel
theorem dX11_layTold_27 : decode cX11_layTold 27 = .ok (.iconst 4, 1) := by decide +kernel
theorem dX11_layTold_28 : decode cX11_layTold 28 = .ok (.iload_n 1, 1) := by decide +kernel
theorem dX11_layTold_29 : decode cX11_layTold 29 = .ok (.imul, 1) := by decide +kernel
theorem dX11_layTold_30 : decode cX11_layTold 30 = .ok (.iconst 2, 1) := by decide +kernel
theorem dX11_layTold_31 : decode cX11_layTold 31 = .ok (.iadd, 1) := by decide +kernel
theorem dX11_layTold_32 : decode cX11_layTold 32 = .ok (.iaload, 1) := by decide +kernel
theorem dX11_layTold_33 : decode cX11_layTold 33 = .ok (.iload_n 2, 1) := by decide +kernel
theorem dX11_layTold_34 : decode cX11_layTold 34 = .ok (.invokestatic 159, 3) := by decide +kernel
theorem dX11_layTold_37 : decode cX11_layTold 37 = .ok (.istore_n 3, 1) := by decide +kernel
theorem dX11_layTold_38 : decode cX11_layTold 38 = .ok (.aload_n 0, 1) := by decide +kernel
theorem dX11_layTold_39 : decode cX11_layTold 39 = .ok (.getfield 13, 3) := by decide +kernel
theorem dX11_layTold_42 : decode cX11_layTold 42 = .ok (.iconst 4, 1) := by decide +kernel
theorem dX11_layTold_43 : decode cX11_layTold 43 = .ok (.iload_n 1, 1) := by decide +kernel
theorem dX11_layTold_44 : decode cX11_layTold 44 = .ok (.imul, 1) := by decide +kernel
theorem dX11_layTold_45 : decode cX11_layTold 45 = .ok (.iconst 3, 1) := by decide +kernel
theorem dX11_layTold_46 : decode cX11_layTold 46 = .ok (.iadd, 1) := by decide +kernel
theorem dX11_layTold_47 : decode cX11_layTold 47 = .ok (.iaload, 1) := by decide +kernel
theorem dX11_layTold_48 : decode cX11_layTold 48 = .ok (.iload_n 2, 1) := by decide +kernel
theorem dX11_layTold_49 : decode cX11_layTold 49 = .ok (.invokestatic 159, 3) := by decide +kernel
theorem dX11_layTold_52 : decode cX11_layTold 52 = .ok (.istore 4, 2) := by decide +kernel
theorem dX11_layTold_54 : decode cX11_layTold 54 = .ok (.iconst 0, 1) := by decide +kernel
theorem dX11_layTold_55 : decode cX11_layTold 55 = .ok (.istore 5, 2) := by decide +kernel
theorem dX11_layTold_57 : decode cX11_layTold 57 = .ok (.aload_n 0, 1) := by decide +kernel
theorem dX11_layTold_58 : decode cX11_layTold 58 = .ok (.getfield 41, 3) := by decide +kernel
theorem dX11_layTold_61 : decode cX11_layTold 61 = .ok (.iload_n 2, 1) := by decide +kernel
theorem dX11_layTold_62 : decode cX11_layTold 62 = .ok (.iload_n 3, 1) := by decide +kernel
theorem dX11_layTold_63 : decode cX11_layTold 63 = .ok (.imul, 1) := by decide +kernel
theorem dX11_layTold_64 : decode cX11_layTold 64 = .ok (.iload 4, 2) := by decide +kernel
theorem dX11_layTold_66 : decode cX11_layTold 66 = .ok (.iadd, 1) := by decide +kernel
theorem dX11_layTold_67 : decode cX11_layTold 67 = .ok (.iaload, 1) := by decide +kernel
theorem dX11_layTold_68 : decode cX11_layTold 68 = .ok (.ldc 54, 2) := by decide +kernel
theorem dX11_layTold_70 : decode cX11_layTold 70 = .ok (.if_icmp .ne 74, 3) := by decide +kernel
theorem dX11_layTold_73 : decode cX11_layTold 73 = .ok (.aload_n 0, 1) := by decide +kernel
theorem dX11_layTold_74 : decode cX11_layTold 74 = .ok (.getfield 41, 3) := by decide +kernel
theorem dX11_layTold_77 : decode cX11_layTold 77 = .ok (.iload_n 2, 1) := by decide +kernel
theorem dX11_layTold_78 : decode cX11_layTold 78 = .ok (.iload_n 3, 1) := by decide +kernel
theorem dX11_layTold_79 : decode cX11_layTold 79 = .ok (.imul, 1) := by decide +kernel
theorem dX11_layTold_80 : decode cX11_layTold 80 = .ok (.iload 4, 2) := by decide +kernel
theorem dX11_layTold_82 : decode cX11_layTold 82 = .ok (.iadd, 1) := by decide +kernel
theorem dX11_layTold_83 : decode cX11_layTold 83 = .ok (.iload 5, 2) := by decide +kernel
theorem dX11_layTold_85 : decode cX11_layTold 85 = .ok (.iastore, 1) := by decide +kernel
theorem dX11_layTold_86 : decode cX11_layTold 86 = .ok (.aload_n 0, 1) := by decide +kernel
theorem dX11_layTold_87 : decode cX11_layTold 87 = .ok (.getfield 38, 3) := by decide +kernel
theorem dX11_layTold_90 : decode cX11_layTold 90 = .ok (.sipush 512, 3) := by decide +kernel
theorem dX11_layTold_93 : decode cX11_layTold 93 = .ok (.iload_n 1, 1) := by decide +kernel
theorem dX11_layTold_94 : decode cX11_layTold 94 = .ok (.imul, 1) := by decide +kernel
theorem dX11_layTold_95 : decode cX11_layTold 95 = .ok (.iload 5, 2) := by decide +kernel
theorem dX11_layTold_97 : decode cX11_layTold 97 = .ok (.iadd, 1) := by decide +kernel
theorem dX11_layTold_98 : decode cX11_layTold 98 = .ok (.iload_n 3, 1) := by decide +kernel
theorem dX11_layTold_99 : decode cX11_layTold 99 = .ok (.i2b, 1) := by decide +kernel
theorem dX11_layTold_100 : decode cX11_layTold 100 = .ok (.bastore, 1) := by decide +kernel
theorem dX11_layTold_101 : decode cX11_layTold 101 = .ok (.aload_n 0, 1) := by decide +kernel
theorem dX11_layTold_102 : decode cX11_layTold 102 = .ok (.getfield 13, 3) := by decide +kernel
theorem dX11_layTold_105 : decode cX11_layTold 105 = .ok (.iconst 4, 1) := by decide +kernel
theorem dX11_layTold_106 : decode cX11_layTold 106 = .ok (.iload_n 1, 1) := by decide +kernel
theorem dX11_layTold_107 : decode cX11_layTold 107 = .ok (.imul, 1) := by decide +kernel
theorem dX11_layTold_108 : decode cX11_layTold 108 = .ok (.iaload, 1) := by decide +kernel
theorem dX11_layTold_109 : decode cX11_layTold 109 = .ok (.iload 4, 2) := by decide +kernel
theorem dX11_layTold_111 : decode cX11_layTold 111 = .ok (.imul, 1) := by decide +kernel
theorem dX11_layTold_112 : decode cX11_layTold 112 = .ok (.aload_n 0, 1) := by decide +kernel
theorem dX11_layTold_113 : decode cX11_layTold 113 = .ok (.getfield 13, 3) := by decide +kernel
theorem dX11_layTold_116 : decode cX11_layTold 116 = .ok (.iconst 4, 1) := by decide +kernel
theorem dX11_layTold_117 : decode cX11_layTold 117 = .ok (.iload_n 1, 1) := by decide +kernel
theorem dX11_layTold_118 : decode cX11_layTold 118 = .ok (.imul, 1) := by decide +kernel
theorem dX11_layTold_119 : decode cX11_layTold 119 = .ok (.iconst 1, 1) := by decide +kernel
theorem dX11_layTold_120 : decode cX11_layTold 120 = .ok (.iadd, 1) := by decide +kernel
theorem dX11_layTold_121 : decode cX11_layTold 121 = .ok (.iaload, 1) := by decide +kernel
theorem dX11_layTold_122 : decode cX11_layTold 122 = .ok (.iload_n 3, 1) := by decide +kernel
theorem dX11_layTold_123 : decode cX11_layTold 123 = .ok (.imul, 1) := by decide +kernel
theorem dX11_layTold_124 : decode cX11_layTold 124 = .ok (.iadd, 1) := by decide +kernel
theorem dX11_layTold_125 : decode cX11_layTold 125 = .ok (.iload_n 2, 1) := by decide +kernel
theorem dX11_layTold_126 : decode cX11_layTold 126 = .ok (.invokestatic 159, 3) := by decide +kernel
theorem dX11_layTold_129 : decode cX11_layTold 129 = .ok (.istore 6, 2) := by decide +kernel
theorem dX11_layTold_131 : decode cX11_layTold 131 = .ok (.iload 4, 2) := by decide +kernel
theorem dX11_layTold_133 : decode cX11_layTold 133 = .ok (.istore_n 3, 1) := by decide +kernel
theorem dX11_layTold_134 : decode cX11_layTold 134 = .ok (.iload 6, 2) := by decide +kernel
theorem dX11_layTold_136 : decode cX11_layTold 136 = .ok (.istore 4, 2) := by decide +kernel
theorem dX11_layTold_138 : decode cX11_layTold 138 = .ok (.iinc 5 1, 3) := by decide +kernel
theorem dX11_layTold_141 : decode cX11_layTold 141 = .ok (.goto (-84), 3) := by decide +kernel
theorem dX11_layTold_144 : decode cX11_layTold 144 = .ok (.aload_n 0, 1) := by decide +kernel
theorem dX11_layTold_145 : decode cX11_layTold 145 = .ok (.getfield 32, 3) := by decide +kernel
theorem dX11_layTold_148 : decode cX11_layTold 148 = .ok (.iload_n 1, 1) := by decide +kernel
theorem dX11_layTold_149 : decode cX11_layTold 149 = .ok (.aload_n 0, 1) := by decide +kernel
theorem dX11_layTold_150 : decode cX11_layTold 150 = .ok (.getfield 41, 3) := by decide +kernel
theorem dX11_layTold_153 : decode cX11_layTold 153 = .ok (.iload_n 2, 1) := by decide +kernel
theorem dX11_layTold_154 : decode cX11_layTold 154 = .ok (.iload_n 3, 1) := by decide +kernel
theorem dX11_layTold_155 : decode cX11_layTold 155 = .ok (.imul, 1) := by decide +kernel
theorem dX11_layTold_156 : decode cX11_layTold 156 = .ok (.iload 4, 2) := by decide +kernel
theorem dX11_layTold_158 : decode cX11_layTold 158 = .ok (.iadd, 1) := by decide +kernel
theorem dX11_layTold_159 : decode cX11_layTold 159 = .ok (.iaload, 1) := by decide +kernel
theorem dX11_layTold_160 : decode cX11_layTold 160 = .ok (.iastore, 1) := by decide +kernel
theorem dX11_layTold_161 : decode cX11_layTold 161 = .ok (.aload_n 0, 1) := by decide +kernel
theorem dX11_layTold_162 : decode cX11_layTold 162 = .ok (.getfield 35, 3) := by decide +kernel
theorem dX11_layTold_165 : decode cX11_layTold 165 = .ok (.iload_n 1, 1) := by decide +kernel
theorem dX11_layTold_166 : decode cX11_layTold 166 = .ok (.iload 5, 2) := by decide +kernel
theorem dX11_layTold_168 : decode cX11_layTold 168 = .ok (.aload_n 0, 1) := by decide +kernel
theorem dX11_layTold_169 : decode cX11_layTold 169 = .ok (.getfield 32, 3) := by decide +kernel
theorem dX11_layTold_172 : decode cX11_layTold 172 = .ok (.iload_n 1, 1) := by decide +kernel
theorem dX11_layTold_173 : decode cX11_layTold 173 = .ok (.iaload, 1) := by decide +kernel
theorem dX11_layTold_174 : decode cX11_layTold 174 = .ok (.isub, 1) := by decide +kernel
theorem dX11_layTold_175 : decode cX11_layTold 175 = .ok (.iastore, 1) := by decide +kernel
theorem dX11_layTold_176 : decode cX11_layTold 176 = .ok (.return_, 1) := by decide +kernel
theorem dX11_madeRest_0 : decode cX11_madeRest 0 = .ok (.aload_n 0, 1) := by decide +kernel
theorem dX11_madeRest_1 : decode cX11_madeRest 1 = .ok (.getfield 13, 3) := by decide +kernel
theorem dX11_madeRest_4 : decode cX11_madeRest 4 = .ok (.iconst 4, 1) := by decide +kernel
theorem dX11_madeRest_5 : decode cX11_madeRest 5 = .ok (.iload_n 1, 1) := by decide +kernel
theorem dX11_madeRest_6 : decode cX11_madeRest 6 = .ok (.imul, 1) := by decide +kernel
theorem dX11_madeRest_7 : decode cX11_madeRest 7 = .ok (.iaload, 1) := by decide +kernel
theorem dX11_madeRest_8 : decode cX11_madeRest 8 = .ok (.istore 4, 2) := by decide +kernel
theorem dX11_madeRest_10 : decode cX11_madeRest 10 = .ok (.aload_n 0, 1) := by decide +kernel
theorem dX11_madeRest_11 : decode cX11_madeRest 11 = .ok (.getfield 7, 3) := by decide +kernel
theorem dX11_madeRest_14 : decode cX11_madeRest 14 = .ok (.iload_n 1, 1) := by decide +kernel
theorem dX11_madeRest_15 : decode cX11_madeRest 15 = .ok (.iaload, 1) := by decide +kernel
theorem dX11_madeRest_16 : decode cX11_madeRest 16 = .ok (.tableswitch 115 1 3 #[28, 56, 84], 28) := by decide +kernel
theorem dX11_madeRest_44 : decode cX11_madeRest 44 = .ok (.aload_n 0, 1) := by decide +kernel
theorem dX11_madeRest_45 : decode cX11_madeRest 45 = .ok (.iload 4, 2) := by decide +kernel
theorem dX11_madeRest_47 : decode cX11_madeRest 47 = .ok (.iload_n 2, 1) := by decide +kernel
theorem dX11_madeRest_48 : decode cX11_madeRest 48 = .ok (.i2l, 1) := by decide +kernel
theorem dX11_madeRest_49 : decode cX11_madeRest 49 = .ok (.invokevirtual 162, 3) := by decide +kernel
theorem dX11_madeRest_52 : decode cX11_madeRest 52 = .ok (.aload_n 0, 1) := by decide +kernel
theorem dX11_madeRest_53 : decode cX11_madeRest 53 = .ok (.aload_n 0, 1) := by decide +kernel
theorem dX11_madeRest_54 : decode cX11_madeRest 54 = .ok (.getfield 13, 3) := by decide +kernel
theorem dX11_madeRest_57 : decode cX11_madeRest 57 = .ok (.iconst 4, 1) := by decide +kernel
theorem dX11_madeRest_58 : decode cX11_madeRest 58 = .ok (.iload_n 1, 1) := by decide +kernel
theorem dX11_madeRest_59 : decode cX11_madeRest 59 = .ok (.imul, 1) := by decide +kernel
theorem dX11_madeRest_60 : decode cX11_madeRest 60 = .ok (.iconst 1, 1) := by decide +kernel
theorem dX11_madeRest_61 : decode cX11_madeRest 61 = .ok (.iadd, 1) := by decide +kernel
theorem dX11_madeRest_62 : decode cX11_madeRest 62 = .ok (.iaload, 1) := by decide +kernel
theorem dX11_madeRest_63 : decode cX11_madeRest 63 = .ok (.iload_n 2, 1) := by decide +kernel
theorem dX11_madeRest_64 : decode cX11_madeRest 64 = .ok (.i2l, 1) := by decide +kernel
theorem dX11_madeRest_65 : decode cX11_madeRest 65 = .ok (.invokevirtual 162, 3) := by decide +kernel
theorem dX11_madeRest_68 : decode cX11_madeRest 68 = .ok (.iadd, 1) := by decide +kernel
theorem dX11_madeRest_69 : decode cX11_madeRest 69 = .ok (.iload_n 3, 1) := by decide +kernel
theorem dX11_madeRest_70 : decode cX11_madeRest 70 = .ok (.irem, 1) := by decide +kernel
theorem dX11_madeRest_71 : decode cX11_madeRest 71 = .ok (.ireturn, 1) := by decide +kernel
theorem dX11_madeRest_72 : decode cX11_madeRest 72 = .ok (.aload_n 0, 1) := by decide +kernel
theorem dX11_madeRest_73 : decode cX11_madeRest 73 = .ok (.iload 4, 2) := by decide +kernel
theorem dX11_madeRest_75 : decode cX11_madeRest 75 = .ok (.iload_n 2, 1) := by decide +kernel
theorem dX11_madeRest_76 : decode cX11_madeRest 76 = .ok (.i2l, 1) := by decide +kernel
theorem dX11_madeRest_77 : decode cX11_madeRest 77 = .ok (.invokevirtual 162, 3) := by decide +kernel
theorem dX11_madeRest_80 : decode cX11_madeRest 80 = .ok (.aload_n 0, 1) := by decide +kernel
theorem dX11_madeRest_81 : decode cX11_madeRest 81 = .ok (.aload_n 0, 1) := by decide +kernel
theorem dX11_madeRest_82 : decode cX11_madeRest 82 = .ok (.getfield 13, 3) := by decide +kernel
theorem dX11_madeRest_85 : decode cX11_madeRest 85 = .ok (.iconst 4, 1) := by decide +kernel
theorem dX11_madeRest_86 : decode cX11_madeRest 86 = .ok (.iload_n 1, 1) := by decide +kernel
theorem dX11_madeRest_87 : decode cX11_madeRest 87 = .ok (.imul, 1) := by decide +kernel
theorem dX11_madeRest_88 : decode cX11_madeRest 88 = .ok (.iconst 1, 1) := by decide +kernel
theorem dX11_madeRest_89 : decode cX11_madeRest 89 = .ok (.iadd, 1) := by decide +kernel
theorem dX11_madeRest_90 : decode cX11_madeRest 90 = .ok (.iaload, 1) := by decide +kernel
theorem dX11_madeRest_91 : decode cX11_madeRest 91 = .ok (.iload_n 2, 1) := by decide +kernel
theorem dX11_madeRest_92 : decode cX11_madeRest 92 = .ok (.i2l, 1) := by decide +kernel
theorem dX11_madeRest_93 : decode cX11_madeRest 93 = .ok (.invokevirtual 162, 3) := by decide +kernel
theorem dX11_madeRest_96 : decode cX11_madeRest 96 = .ok (.imul, 1) := by decide +kernel
theorem dX11_madeRest_97 : decode cX11_madeRest 97 = .ok (.iload_n 3, 1) := by decide +kernel
theorem dX11_madeRest_98 : decode cX11_madeRest 98 = .ok (.irem, 1) := by decide +kernel
theorem dX11_madeRest_99 : decode cX11_madeRest 99 = .ok (.ireturn, 1) := by decide +kernel
theorem dX11_madeRest_100 : decode cX11_madeRest 100 = .ok (.aload_n 0, 1) := by decide +kernel
theorem dX11_madeRest_101 : decode cX11_madeRest 101 = .ok (.iload 4, 2) := by decide +kernel
theorem dX11_madeRest_103 : decode cX11_madeRest 103 = .ok (.aload_n 0, 1) := by decide +kernel
theorem dX11_madeRest_104 : decode cX11_madeRest 104 = .ok (.getfield 13, 3) := by decide +kernel
theorem dX11_madeRest_107 : decode cX11_madeRest 107 = .ok (.iconst 4, 1) := by decide +kernel
theorem dX11_madeRest_108 : decode cX11_madeRest 108 = .ok (.iload_n 1, 1) := by decide +kernel
theorem dX11_madeRest_109 : decode cX11_madeRest 109 = .ok (.imul, 1) := by decide +kernel
theorem dX11_madeRest_110 : decode cX11_madeRest 110 = .ok (.iconst 1, 1) := by decide +kernel
theorem dX11_madeRest_111 : decode cX11_madeRest 111 = .ok (.iadd, 1) := by decide +kernel
theorem dX11_madeRest_112 : decode cX11_madeRest 112 = .ok (.iaload, 1) := by decide +kernel
theorem dX11_madeRest_113 : decode cX11_madeRest 113 = .ok (.iload_n 2, 1) := by decide +kernel
theorem dX11_madeRest_114 : decode cX11_madeRest 114 = .ok (.imul, 1) := by decide +kernel
theorem dX11_madeRest_115 : decode cX11_madeRest 115 = .ok (.aload_n 0, 1) := by decide +kernel
theorem dX11_madeRest_116 : decode cX11_madeRest 116 = .ok (.getfield 13, 3) := by decide +kernel
theorem dX11_madeRest_119 : decode cX11_madeRest 119 = .ok (.iconst 4, 1) := by decide +kernel
theorem dX11_madeRest_120 : decode cX11_madeRest 120 = .ok (.iload_n 1, 1) := by decide +kernel
theorem dX11_madeRest_121 : decode cX11_madeRest 121 = .ok (.imul, 1) := by decide +kernel
theorem dX11_madeRest_122 : decode cX11_madeRest 122 = .ok (.iconst 2, 1) := by decide +kernel
theorem dX11_madeRest_123 : decode cX11_madeRest 123 = .ok (.iadd, 1) := by decide +kernel
theorem dX11_madeRest_124 : decode cX11_madeRest 124 = .ok (.iaload, 1) := by decide +kernel
theorem dX11_madeRest_125 : decode cX11_madeRest 125 = .ok (.iadd, 1) := by decide +kernel
theorem dX11_madeRest_126 : decode cX11_madeRest 126 = .ok (.i2l, 1) := by decide +kernel
theorem dX11_madeRest_127 : decode cX11_madeRest 127 = .ok (.invokevirtual 162, 3) := by decide +kernel
theorem dX11_madeRest_130 : decode cX11_madeRest 130 = .ok (.ireturn, 1) := by decide +kernel
theorem dX11_madeRest_131 : decode cX11_madeRest 131 = .ok (.aload_n 0, 1) := by decide +kernel
theorem dX11_madeRest_132 : decode cX11_madeRest 132 = .ok (.iload 4, 2) := by decide +kernel
theorem dX11_madeRest_134 : decode cX11_madeRest 134 = .ok (.iload_n 2, 1) := by decide +kernel
theorem dX11_madeRest_135 : decode cX11_madeRest 135 = .ok (.iconst 1, 1) := by decide +kernel
theorem dX11_madeRest_136 : decode cX11_madeRest 136 = .ok (.iadd, 1) := by decide +kernel
theorem dX11_madeRest_137 : decode cX11_madeRest 137 = .ok (.i2l, 1) := by decide +kernel
theorem dX11_madeRest_138 : decode cX11_madeRest 138 = .ok (.invokevirtual 162, 3) := by decide +kernel
theorem dX11_madeRest_141 : decode cX11_madeRest 141 = .ok (.aload_n 0, 1) := by decide +kernel
theorem dX11_madeRest_142 : decode cX11_madeRest 142 = .ok (.iload 4, 2) := by decide +kernel
theorem dX11_madeRest_144 : decode cX11_madeRest 144 = .ok (.iload_n 2, 1) := by decide +kernel
theorem dX11_madeRest_145 : decode cX11_madeRest 145 = .ok (.i2l, 1) := by decide +kernel
theorem dX11_madeRest_146 : decode cX11_madeRest 146 = .ok (.invokevirtual 162, 3) := by decide +kernel
theorem dX11_madeRest_149 : decode cX11_madeRest 149 = .ok (.isub, 1) := by decide +kernel
theorem dX11_madeRest_150 : decode cX11_madeRest 150 = .ok (.iload_n 3, 1) := by decide +kernel
theorem dX11_madeRest_151 : decode cX11_madeRest 151 = .ok (.invokestatic 159, 3) := by decide +kernel
theorem dX11_madeRest_154 : decode cX11_madeRest 154 = .ok (.ireturn, 1) := by decide +kernel
theorem dX11_layTurn_0 : decode cX11_layTurn 0 = .ok (.aload_n 0, 1) := by decide +kernel
theorem dX11_layTurn_1 : decode cX11_layTurn 1 = .ok (.getfield 13, 3) := by decide +kernel
theorem dX11_layTurn_4 : decode cX11_layTurn 4 = .ok (.iconst 4, 1) := by decide +kernel
theorem dX11_layTurn_5 : decode cX11_layTurn 5 = .ok (.iload_n 1, 1) := by decide +kernel
theorem dX11_layTurn_6 : decode cX11_layTurn 6 = .ok (.imul, 1) := by decide +kernel
theorem dX11_layTurn_7 : decode cX11_layTurn 7 = .ok (.iaload, 1) := by decide +kernel
theorem dX11_layTurn_8 : decode cX11_layTurn 8 = .ok (.istore_n 2, 1) := by decide +kernel
theorem dX11_layTurn_9 : decode cX11_layTurn 9 = .ok (.aload_n 0, 1) := by decide +kernel
theorem dX11_layTurn_10 : decode cX11_layTurn 10 = .ok (.getfield 7, 3) := by decide +kernel
theorem dX11_layTurn_13 : decode cX11_layTurn 13 = .ok (.iload_n 1, 1) := by decide +kernel
theorem dX11_layTurn_14 : decode cX11_layTurn 14 = .ok (.iaload, 1) := by decide +kernel
theorem dX11_layTurn_15 : decode cX11_layTurn 15 = .ok (.iconst 1, 1) := by decide +kernel
theorem dX11_layTurn_16 : decode cX11_layTurn 16 = .ok (.if_icmp .eq 13, 3) := by decide +kernel
theorem dX11_layTurn_19 : decode cX11_layTurn 19 = .ok (.aload_n 0, 1) := by decide +kernel
theorem dX11_layTurn_20 : decode cX11_layTurn 20 = .ok (.getfield 7, 3) := by decide +kernel
theorem dX11_layTurn_23 : decode cX11_layTurn 23 = .ok (.iload_n 1, 1) := by decide +kernel
theorem dX11_layTurn_24 : decode cX11_layTurn 24 = .ok (.iaload, 1) := by decide +kernel
theorem dX11_layTurn_25 : decode cX11_layTurn 25 = .ok (.iconst 2, 1) := by decide +kernel
theorem dX11_layTurn_26 : decode cX11_layTurn 26 = .ok (.if_icmp .ne 16, 3) := by decide +kernel
theorem dX11_layTurn_29 : decode cX11_layTurn 29 = .ok (.aload_n 0, 1) := by decide +kernel
theorem dX11_layTurn_30 : decode cX11_layTurn 30 = .ok (.getfield 13, 3) := by decide +kernel
theorem dX11_layTurn_33 : decode cX11_layTurn 33 = .ok (.iconst 4, 1) := by decide +kernel
theorem dX11_layTurn_34 : decode cX11_layTurn 34 = .ok (.iload_n 1, 1) := by decide +kernel
theorem dX11_layTurn_35 : decode cX11_layTurn 35 = .ok (.imul, 1) := by decide +kernel
theorem dX11_layTurn_36 : decode cX11_layTurn 36 = .ok (.iconst 1, 1) := by decide +kernel
theorem dX11_layTurn_37 : decode cX11_layTurn 37 = .ok (.iadd, 1) := by decide +kernel
theorem dX11_layTurn_38 : decode cX11_layTurn 38 = .ok (.iaload, 1) := by decide +kernel
theorem dX11_layTurn_39 : decode cX11_layTurn 39 = .ok (.goto 4, 3) := by decide +kernel
theorem dX11_layTurn_42 : decode cX11_layTurn 42 = .ok (.iload_n 2, 1) := by decide +kernel
theorem dX11_layTurn_43 : decode cX11_layTurn 43 = .ok (.istore_n 3, 1) := by decide +kernel
theorem dX11_layTurn_44 : decode cX11_layTurn 44 = .ok (.aload_n 0, 1) := by decide +kernel
theorem dX11_layTurn_45 : decode cX11_layTurn 45 = .ok (.getfield 32, 3) := by decide +kernel
theorem dX11_layTurn_48 : decode cX11_layTurn 48 = .ok (.iload_n 1, 1) := by decide +kernel
theorem dX11_layTurn_49 : decode cX11_layTurn 49 = .ok (.aload_n 0, 1) := by decide +kernel
theorem dX11_layTurn_50 : decode cX11_layTurn 50 = .ok (.getfield 32, 3) := by decide +kernel
theorem dX11_layTurn_53 : decode cX11_layTurn 53 = .ok (.iload_n 2, 1) := by decide +kernel
theorem dX11_layTurn_54 : decode cX11_layTurn 54 = .ok (.iaload, 1) := by decide +kernel
theorem dX11_layTurn_55 : decode cX11_layTurn 55 = .ok (.aload_n 0, 1) := by decide +kernel
theorem dX11_layTurn_56 : decode cX11_layTurn 56 = .ok (.getfield 32, 3) := by decide +kernel
theorem dX11_layTurn_59 : decode cX11_layTurn 59 = .ok (.iload_n 3, 1) := by decide +kernel
theorem dX11_layTurn_60 : decode cX11_layTurn 60 = .ok (.iaload, 1) := by decide +kernel
theorem dX11_layTurn_61 : decode cX11_layTurn 61 = .ok (.if_icmp .le 12, 3) := by decide +kernel
theorem dX11_layTurn_64 : decode cX11_layTurn 64 = .ok (.aload_n 0, 1) := by decide +kernel
theorem dX11_layTurn_65 : decode cX11_layTurn 65 = .ok (.getfield 32, 3) := by decide +kernel
theorem dX11_layTurn_68 : decode cX11_layTurn 68 = .ok (.iload_n 2, 1) := by decide +kernel
theorem dX11_layTurn_69 : decode cX11_layTurn 69 = .ok (.iaload, 1) := by decide +kernel
theorem dX11_layTurn_70 : decode cX11_layTurn 70 = .ok (.goto 9, 3) := by decide +kernel
theorem dX11_layTurn_73 : decode cX11_layTurn 73 = .ok (.aload_n 0, 1) := by decide +kernel
theorem dX11_layTurn_74 : decode cX11_layTurn 74 = .ok (.getfield 32, 3) := by decide +kernel
theorem dX11_layTurn_77 : decode cX11_layTurn 77 = .ok (.iload_n 3, 1) := by decide +kernel
theorem dX11_layTurn_78 : decode cX11_layTurn 78 = .ok (.iaload, 1) := by decide +kernel
theorem dX11_layTurn_79 : decode cX11_layTurn 79 = .ok (.iastore, 1) := by decide +kernel
theorem dX11_layTurn_80 : decode cX11_layTurn 80 = .ok (.aload_n 0, 1) := by decide +kernel
theorem dX11_layTurn_81 : decode cX11_layTurn 81 = .ok (.getfield 35, 3) := by decide +kernel
theorem dX11_layTurn_84 : decode cX11_layTurn 84 = .ok (.iload_n 1, 1) := by decide +kernel
theorem dX11_layTurn_85 : decode cX11_layTurn 85 = .ok (.aload_n 0, 1) := by decide +kernel
theorem dX11_layTurn_86 : decode cX11_layTurn 86 = .ok (.getfield 35, 3) := by decide +kernel
theorem dX11_layTurn_89 : decode cX11_layTurn 89 = .ok (.iload_n 2, 1) := by decide +kernel
theorem dX11_layTurn_90 : decode cX11_layTurn 90 = .ok (.iaload, 1) := by decide +kernel
theorem dX11_layTurn_91 : decode cX11_layTurn 91 = .ok (.aload_n 0, 1) := by decide +kernel
theorem dX11_layTurn_92 : decode cX11_layTurn 92 = .ok (.getfield 35, 3) := by decide +kernel
theorem dX11_layTurn_95 : decode cX11_layTurn 95 = .ok (.iload_n 2, 1) := by decide +kernel
theorem dX11_layTurn_96 : decode cX11_layTurn 96 = .ok (.iaload, 1) := by decide +kernel
theorem dX11_layTurn_97 : decode cX11_layTurn 97 = .ok (.aload_n 0, 1) := by decide +kernel
theorem dX11_layTurn_98 : decode cX11_layTurn 98 = .ok (.getfield 35, 3) := by decide +kernel
theorem dX11_layTurn_101 : decode cX11_layTurn 101 = .ok (.iload_n 3, 1) := by decide +kernel
theorem dX11_layTurn_102 : decode cX11_layTurn 102 = .ok (.iaload, 1) := by decide +kernel
theorem dX11_layTurn_103 : decode cX11_layTurn 103 = .ok (.invokestatic 166, 3) := by decide +kernel
theorem dX11_layTurn_106 : decode cX11_layTurn 106 = .ok (.idiv, 1) := by decide +kernel
theorem dX11_layTurn_107 : decode cX11_layTurn 107 = .ok (.aload_n 0, 1) := by decide +kernel
theorem dX11_layTurn_108 : decode cX11_layTurn 108 = .ok (.getfield 35, 3) := by decide +kernel
theorem dX11_layTurn_111 : decode cX11_layTurn 111 = .ok (.iload_n 3, 1) := by decide +kernel
theorem dX11_layTurn_112 : decode cX11_layTurn 112 = .ok (.iaload, 1) := by decide +kernel
theorem dX11_layTurn_113 : decode cX11_layTurn 113 = .ok (.imul, 1) := by decide +kernel
theorem dX11_layTurn_114 : decode cX11_layTurn 114 = .ok (.iastore, 1) := by decide +kernel
theorem dX11_layTurn_115 : decode cX11_layTurn 115 = .ok (.aload_n 0, 1) := by decide +kernel
theorem dX11_layTurn_116 : decode cX11_layTurn 116 = .ok (.getfield 7, 3) := by decide +kernel
theorem dX11_layTurn_119 : decode cX11_layTurn 119 = .ok (.iload_n 1, 1) := by decide +kernel
theorem dX11_layTurn_120 : decode cX11_layTurn 120 = .ok (.iaload, 1) := by decide +kernel
theorem dX11_layTurn_121 : decode cX11_layTurn 121 = .ok (.iconst 3, 1) := by decide +kernel
theorem dX11_layTurn_122 : decode cX11_layTurn 122 = .ok (.if_icmp .ne 95, 3) := by decide +kernel
theorem dX11_layTurn_125 : decode cX11_layTurn 125 = .ok (.aload_n 0, 1) := by decide +kernel
theorem dX11_layTurn_126 : decode cX11_layTurn 126 = .ok (.getfield 32, 3) := by decide +kernel
theorem dX11_layTurn_129 : decode cX11_layTurn 129 = .ok (.iload_n 2, 1) := by decide +kernel
theorem dX11_layTurn_130 : decode cX11_layTurn 130 = .ok (.iaload, 1) := by decide +kernel
theorem dX11_layTurn_131 : decode cX11_layTurn 131 = .ok (.aload_n 0, 1) := by decide +kernel
theorem dX11_layTurn_132 : decode cX11_layTurn 132 = .ok (.getfield 13, 3) := by decide +kernel
theorem dX11_layTurn_135 : decode cX11_layTurn 135 = .ok (.iconst 4, 1) := by decide +kernel
theorem dX11_layTurn_136 : decode cX11_layTurn 136 = .ok (.iload_n 1, 1) := by decide +kernel
theorem dX11_layTurn_137 : decode cX11_layTurn 137 = .ok (.imul, 1) := by decide +kernel
theorem dX11_layTurn_138 : decode cX11_layTurn 138 = .ok (.iconst 2, 1) := by decide +kernel
theorem dX11_layTurn_139 : decode cX11_layTurn 139 = .ok (.iadd, 1) := by decide +kernel
theorem dX11_layTurn_140 : decode cX11_layTurn 140 = .ok (.iaload, 1) := by decide +kernel
theorem dX11_layTurn_141 : decode cX11_layTurn 141 = .ok (.isub, 1) := by decide +kernel
theorem dX11_layTurn_142 : decode cX11_layTurn 142 = .ok (.istore 4, 2) := by decide +kernel
theorem dX11_layTurn_144 : decode cX11_layTurn 144 = .ok (.aload_n 0, 1) := by decide +kernel
theorem dX11_layTurn_145 : decode cX11_layTurn 145 = .ok (.getfield 32, 3) := by decide +kernel
theorem dX11_layTurn_148 : decode cX11_layTurn 148 = .ok (.iload_n 1, 1) := by decide +kernel
theorem dX11_layTurn_149 : decode cX11_layTurn 149 = .ok (.iload 4, 2) := by decide +kernel
theorem dX11_layTurn_151 : decode cX11_layTurn 151 = .ok (.ifCond .gt 7, 3) := by decide +kernel
theorem dX11_layTurn_154 : decode cX11_layTurn 154 = .ok (.iconst 0, 1) := by decide +kernel
theorem dX11_layTurn_155 : decode cX11_layTurn 155 = .ok (.goto 29, 3) := by decide +kernel
theorem dX11_layTurn_158 : decode cX11_layTurn 158 = .ok (.iload 4, 2) := by decide +kernel
theorem dX11_layTurn_160 : decode cX11_layTurn 160 = .ok (.aload_n 0, 1) := by decide +kernel
theorem dX11_layTurn_161 : decode cX11_layTurn 161 = .ok (.getfield 13, 3) := by decide +kernel
theorem dX11_layTurn_164 : decode cX11_layTurn 164 = .ok (.iconst 4, 1) := by decide +kernel
theorem dX11_layTurn_165 : decode cX11_layTurn 165 = .ok (.iload_n 1, 1) := by decide +kernel
theorem dX11_layTurn_166 : decode cX11_layTurn 166 = .ok (.imul, 1) := by decide +kernel
theorem dX11_layTurn_167 : decode cX11_layTurn 167 = .ok (.iconst 1, 1) := by decide +kernel
theorem dX11_layTurn_168 : decode cX11_layTurn 168 = .ok (.iadd, 1) := by decide +kernel
theorem dX11_layTurn_169 : decode cX11_layTurn 169 = .ok (.iaload, 1) := by decide +kernel
theorem dX11_layTurn_170 : decode cX11_layTurn 170 = .ok (.iadd, 1) := by decide +kernel
theorem dX11_layTurn_171 : decode cX11_layTurn 171 = .ok (.iconst 1, 1) := by decide +kernel
theorem dX11_layTurn_172 : decode cX11_layTurn 172 = .ok (.isub, 1) := by decide +kernel
theorem dX11_layTurn_173 : decode cX11_layTurn 173 = .ok (.aload_n 0, 1) := by decide +kernel
theorem dX11_layTurn_174 : decode cX11_layTurn 174 = .ok (.getfield 13, 3) := by decide +kernel
theorem dX11_layTurn_177 : decode cX11_layTurn 177 = .ok (.iconst 4, 1) := by decide +kernel
theorem dX11_layTurn_178 : decode cX11_layTurn 178 = .ok (.iload_n 1, 1) := by decide +kernel
theorem dX11_layTurn_179 : decode cX11_layTurn 179 = .ok (.imul, 1) := by decide +kernel
theorem dX11_layTurn_180 : decode cX11_layTurn 180 = .ok (.iconst 1, 1) := by decide +kernel
theorem dX11_layTurn_181 : decode cX11_layTurn 181 = .ok (.iadd, 1) := by decide +kernel
theorem dX11_layTurn_182 : decode cX11_layTurn 182 = .ok (.iaload, 1) := by decide +kernel
theorem dX11_layTurn_183 : decode cX11_layTurn 183 = .ok (.idiv, 1) := by decide +kernel
theorem dX11_layTurn_184 : decode cX11_layTurn 184 = .ok (.iastore, 1) := by decide +kernel
theorem dX11_layTurn_185 : decode cX11_layTurn 185 = .ok (.aload_n 0, 1) := by decide +kernel
theorem dX11_layTurn_186 : decode cX11_layTurn 186 = .ok (.getfield 35, 3) := by decide +kernel
theorem dX11_layTurn_189 : decode cX11_layTurn 189 = .ok (.iload_n 1, 1) := by decide +kernel
theorem dX11_layTurn_190 : decode cX11_layTurn 190 = .ok (.aload_n 0, 1) := by decide +kernel
theorem dX11_layTurn_191 : decode cX11_layTurn 191 = .ok (.getfield 35, 3) := by decide +kernel
theorem dX11_layTurn_194 : decode cX11_layTurn 194 = .ok (.iload_n 2, 1) := by decide +kernel
theorem dX11_layTurn_195 : decode cX11_layTurn 195 = .ok (.iaload, 1) := by decide +kernel
theorem dX11_layTurn_196 : decode cX11_layTurn 196 = .ok (.aload_n 0, 1) := by decide +kernel
theorem dX11_layTurn_197 : decode cX11_layTurn 197 = .ok (.getfield 35, 3) := by decide +kernel
theorem dX11_layTurn_200 : decode cX11_layTurn 200 = .ok (.iload_n 2, 1) := by decide +kernel
theorem dX11_layTurn_201 : decode cX11_layTurn 201 = .ok (.iaload, 1) := by decide +kernel
theorem dX11_layTurn_202 : decode cX11_layTurn 202 = .ok (.aload_n 0, 1) := by decide +kernel
theorem dX11_layTurn_203 : decode cX11_layTurn 203 = .ok (.getfield 13, 3) := by decide +kernel
theorem dX11_layTurn_206 : decode cX11_layTurn 206 = .ok (.iconst 4, 1) := by decide +kernel
theorem dX11_layTurn_207 : decode cX11_layTurn 207 = .ok (.iload_n 1, 1) := by decide +kernel
theorem dX11_layTurn_208 : decode cX11_layTurn 208 = .ok (.imul, 1) := by decide +kernel
theorem dX11_layTurn_209 : decode cX11_layTurn 209 = .ok (.iconst 1, 1) := by decide +kernel
theorem dX11_layTurn_210 : decode cX11_layTurn 210 = .ok (.iadd, 1) := by decide +kernel
theorem dX11_layTurn_211 : decode cX11_layTurn 211 = .ok (.iaload, 1) := by decide +kernel
theorem dX11_layTurn_212 : decode cX11_layTurn 212 = .ok (.invokestatic 166, 3) := by decide +kernel
theorem dX11_layTurn_215 : decode cX11_layTurn 215 = .ok (.idiv, 1) := by decide +kernel
theorem dX11_layTurn_216 : decode cX11_layTurn 216 = .ok (.iastore, 1) := by decide +kernel
theorem dX11_layTurn_217 : decode cX11_layTurn 217 = .ok (.return_, 1) := by decide +kernel
theorem dX11_layRest_0 : decode cX11_layRest 0 = .ok (.aload_n 0, 1) := by decide +kernel
theorem dX11_layRest_1 : decode cX11_layRest 1 = .ok (.getfield 7, 3) := by decide +kernel
theorem dX11_layRest_4 : decode cX11_layRest 4 = .ok (.iload_n 1, 1) := by decide +kernel
theorem dX11_layRest_5 : decode cX11_layRest 5 = .ok (.iaload, 1) := by decide +kernel
theorem dX11_layRest_6 : decode cX11_layRest 6 = .ok (.ifCond .ne 10, 3) := by decide +kernel
theorem dX11_layRest_9 : decode cX11_layRest 9 = .ok (.aload_n 0, 1) := by decide +kernel
theorem dX11_layRest_10 : decode cX11_layRest 10 = .ok (.iload_n 1, 1) := by decide +kernel
theorem dX11_layRest_11 : decode cX11_layRest 11 = .ok (.iload_n 2, 1) := by decide +kernel
theorem dX11_layRest_12 : decode cX11_layRest 12 = .ok (.invokevirtual 169, 3) := by decide +kernel
theorem dX11_layRest_15 : decode cX11_layRest 15 = .ok (.return_, 1) := by decide +kernel
theorem dX11_layRest_16 : decode cX11_layRest 16 = .ok (.aload_n 0, 1) := by decide +kernel
theorem dX11_layRest_17 : decode cX11_layRest 17 = .ok (.iload_n 1, 1) := by decide +kernel
theorem dX11_layRest_18 : decode cX11_layRest 18 = .ok (.invokevirtual 173, 3) := by decide +kernel
theorem dX11_layRest_21 : decode cX11_layRest 21 = .ok (.iconst 0, 1) := by decide +kernel
theorem dX11_layRest_22 : decode cX11_layRest 22 = .ok (.istore_n 3, 1) := by decide +kernel
theorem dX11_layRest_23 : decode cX11_layRest 23 = .ok (.iload_n 3, 1) := by decide +kernel
theorem dX11_layRest_24 : decode cX11_layRest 24 = .ok (.aload_n 0, 1) := by decide +kernel
theorem dX11_layRest_25 : decode cX11_layRest 25 = .ok (.getfield 32, 3) := by decide +kernel
theorem dX11_layRest_28 : decode cX11_layRest 28 = .ok (.iload_n 1, 1) := by decide +kernel
theorem dX11_layRest_29 : decode cX11_layRest 29 = .ok (.iaload, 1) := by decide +kernel
theorem dX11_layRest_30 : decode cX11_layRest 30 = .ok (.aload_n 0, 1) := by decide +kernel
theorem dX11_layRest_31 : decode cX11_layRest 31 = .ok (.getfield 35, 3) := by decide +kernel
theorem dX11_layRest_34 : decode cX11_layRest 34 = .ok (.iload_n 1, 1) := by decide +kernel
theorem dX11_layRest_35 : decode cX11_layRest 35 = .ok (.iaload, 1) := by decide +kernel
theorem dX11_layRest_36 : decode cX11_layRest 36 = .ok (.iadd, 1) := by decide +kernel
theorem dX11_layRest_37 : decode cX11_layRest 37 = .ok (.if_icmp .ge 29, 3) := by decide +kernel
theorem dX11_layRest_40 : decode cX11_layRest 40 = .ok (.aload_n 0, 1) := by decide +kernel
theorem dX11_layRest_41 : decode cX11_layRest 41 = .ok (.getfield 38, 3) := by decide +kernel
theorem dX11_layRest_44 : decode cX11_layRest 44 = .ok (.sipush 512, 3) := by decide +kernel
theorem dX11_layRest_47 : decode cX11_layRest 47 = .ok (.iload_n 1, 1) := by decide +kernel
theorem dX11_layRest_48 : decode cX11_layRest 48 = .ok (.imul, 1) := by decide +kernel
theorem dX11_layRest_49 : decode cX11_layRest 49 = .ok (.iload_n 3, 1) := by decide +kernel
theorem dX11_layRest_50 : decode cX11_layRest 50 = .ok (.iadd, 1) := by decide +kernel
theorem dX11_layRest_51 : decode cX11_layRest 51 = .ok (.aload_n 0, 1) := by decide +kernel
theorem dX11_layRest_52 : decode cX11_layRest 52 = .ok (.iload_n 1, 1) := by decide +kernel
theorem dX11_layRest_53 : decode cX11_layRest 53 = .ok (.iload_n 3, 1) := by decide +kernel
theorem dX11_layRest_54 : decode cX11_layRest 54 = .ok (.iload_n 2, 1) := by decide +kernel
theorem dX11_layRest_55 : decode cX11_layRest 55 = .ok (.invokevirtual 177, 3) := by decide +kernel
theorem dX11_layRest_58 : decode cX11_layRest 58 = .ok (.i2b, 1) := by decide +kernel
theorem dX11_layRest_59 : decode cX11_layRest 59 = .ok (.bastore, 1) := by decide +kernel
theorem dX11_layRest_60 : decode cX11_layRest 60 = .ok (.iinc 3 1, 3) := by decide +kernel
theorem dX11_layRest_63 : decode cX11_layRest 63 = .ok (.goto (-40), 3) := by decide +kernel
theorem dX11_layRest_66 : decode cX11_layRest 66 = .ok (.return_, 1) := by decide +kernel
theorem dX11_layRests_0 : decode cX11_layRests 0 = .ok (.aload_n 0, 1) := by decide +kernel
theorem dX11_layRests_1 : decode cX11_layRests 1 = .ok (.getfield 128, 3) := by decide +kernel
theorem dX11_layRests_4 : decode cX11_layRests 4 = .ok (.iload_n 1, 1) := by decide +kernel
theorem dX11_layRests_5 : decode cX11_layRests 5 = .ok (.if_icmp .ne 4, 3) := by decide +kernel
theorem dX11_layRests_8 : decode cX11_layRests 8 = .ok (.return_, 1) := by decide +kernel
theorem dX11_layRests_9 : decode cX11_layRests 9 = .ok (.aload_n 0, 1) := by decide +kernel
theorem dX11_layRests_10 : decode cX11_layRests 10 = .ok (.iload_n 1, 1) := by decide +kernel
theorem dX11_layRests_11 : decode cX11_layRests 11 = .ok (.putfield 128, 3) := by decide +kernel
theorem dX11_layRests_14 : decode cX11_layRests 14 = .ok (.iconst 0, 1) := by decide +kernel
theorem dX11_layRests_15 : decode cX11_layRests 15 = .ok (.istore_n 2, 1) := by decide +kernel
theorem dX11_layRests_16 : decode cX11_layRests 16 = .ok (.iload_n 2, 1) := by decide +kernel
theorem dX11_layRests_17 : decode cX11_layRests 17 = .ok (.aload_n 0, 1) := by decide +kernel
theorem dX11_layRests_18 : decode cX11_layRests 18 = .ok (.getfield 116, 3) := by decide +kernel
theorem dX11_layRests_21 : decode cX11_layRests 21 = .ok (.if_icmp .ge 15, 3) := by decide +kernel
theorem dX11_layRests_24 : decode cX11_layRests 24 = .ok (.aload_n 0, 1) := by decide +kernel
theorem dX11_layRests_25 : decode cX11_layRests 25 = .ok (.iload_n 2, 1) := by decide +kernel
theorem dX11_layRests_26 : decode cX11_layRests 26 = .ok (.iload_n 1, 1) := by decide +kernel
theorem dX11_layRests_27 : decode cX11_layRests 27 = .ok (.invokevirtual 181, 3) := by decide +kernel
theorem dX11_layRests_30 : decode cX11_layRests 30 = .ok (.iinc 2 1, 3) := by decide +kernel
theorem dX11_layRests_33 : decode cX11_layRests 33 = .ok (.goto (-17), 3) := by decide +kernel
theorem dX11_layRests_36 : decode cX11_layRests 36 = .ok (.return_, 1) := by decide +kernel
theorem dX11_comesAgain_0 : decode cX11_comesAgain 0 = .ok (.iconst 1, 1) := by decide +kernel
theorem dX11_comesAgain_1 : decode cX11_comesAgain 1 = .ok (.istore 4, 2) := by decide +kernel
theorem dX11_comesAgain_3 : decode cX11_comesAgain 3 = .ok (.iload_n 2, 1) := by decide +kernel
theorem dX11_comesAgain_4 : decode cX11_comesAgain 4 = .ok (.istore 5, 2) := by decide +kernel
theorem dX11_comesAgain_6 : decode cX11_comesAgain 6 = .ok (.iload 5, 2) := by decide +kernel
theorem dX11_comesAgain_8 : decode cX11_comesAgain 8 = .ok (.aload_n 0, 1) := by decide +kernel
theorem dX11_comesAgain_9 : decode cX11_comesAgain 9 = .ok (.getfield 32, 3) := by decide +kernel
theorem dX11_comesAgain_12 : decode cX11_comesAgain 12 = .ok (.iload_n 1, 1) := by decide +kernel
theorem dX11_comesAgain_13 : decode cX11_comesAgain 13 = .ok (.iaload, 1) := by decide +kernel
theorem dX11_comesAgain_14 : decode cX11_comesAgain 14 = .ok (.aload_n 0, 1) := by decide +kernel
theorem dX11_comesAgain_15 : decode cX11_comesAgain 15 = .ok (.getfield 35, 3) := by decide +kernel
theorem dX11_comesAgain_18 : decode cX11_comesAgain 18 = .ok (.iload_n 1, 1) := by decide +kernel
theorem dX11_comesAgain_19 : decode cX11_comesAgain 19 = .ok (.iaload, 1) := by decide +kernel
theorem dX11_comesAgain_20 : decode cX11_comesAgain 20 = .ok (.iadd, 1) := by decide +kernel
theorem dX11_comesAgain_21 : decode cX11_comesAgain 21 = .ok (.if_icmp .ge 42, 3) := by decide +kernel
theorem dX11_comesAgain_24 : decode cX11_comesAgain 24 = .ok (.iload 4, 2) := by decide +kernel
theorem dX11_comesAgain_26 : decode cX11_comesAgain 26 = .ok (.ifCond .eq 28, 3) := by decide +kernel
theorem dX11_comesAgain_29 : decode cX11_comesAgain 29 = .ok (.aload_n 0, 1) := by decide +kernel
theorem dX11_comesAgain_30 : decode cX11_comesAgain 30 = .ok (.iload_n 1, 1) := by decide +kernel
theorem dX11_comesAgain_31 : decode cX11_comesAgain 31 = .ok (.iload 5, 2) := by decide +kernel
theorem dX11_comesAgain_33 : decode cX11_comesAgain 33 = .ok (.i2l, 1) := by decide +kernel
theorem dX11_comesAgain_34 : decode cX11_comesAgain 34 = .ok (.invokevirtual 162, 3) := by decide +kernel
theorem dX11_comesAgain_37 : decode cX11_comesAgain 37 = .ok (.aload_n 0, 1) := by decide +kernel
theorem dX11_comesAgain_38 : decode cX11_comesAgain 38 = .ok (.iload_n 1, 1) := by decide +kernel
theorem dX11_comesAgain_39 : decode cX11_comesAgain 39 = .ok (.iload 5, 2) := by decide +kernel
theorem dX11_comesAgain_41 : decode cX11_comesAgain 41 = .ok (.iload_n 3, 1) := by decide +kernel
theorem dX11_comesAgain_42 : decode cX11_comesAgain 42 = .ok (.iadd, 1) := by decide +kernel
theorem dX11_comesAgain_43 : decode cX11_comesAgain 43 = .ok (.i2l, 1) := by decide +kernel
theorem dX11_comesAgain_44 : decode cX11_comesAgain 44 = .ok (.invokevirtual 162, 3) := by decide +kernel
theorem dX11_comesAgain_47 : decode cX11_comesAgain 47 = .ok (.if_icmp .ne 7, 3) := by decide +kernel
theorem dX11_comesAgain_50 : decode cX11_comesAgain 50 = .ok (.iconst 1, 1) := by decide +kernel
theorem dX11_comesAgain_51 : decode cX11_comesAgain 51 = .ok (.goto 4, 3) := by decide +kernel
theorem dX11_comesAgain_54 : decode cX11_comesAgain 54 = .ok (.iconst 0, 1) := by decide +kernel
theorem dX11_comesAgain_55 : decode cX11_comesAgain 55 = .ok (.istore 4, 2) := by decide +kernel
theorem dX11_comesAgain_57 : decode cX11_comesAgain 57 = .ok (.iinc 5 1, 3) := by decide +kernel
theorem dX11_comesAgain_60 : decode cX11_comesAgain 60 = .ok (.goto (-54), 3) := by decide +kernel
theorem dX11_comesAgain_63 : decode cX11_comesAgain 63 = .ok (.iload 4, 2) := by decide +kernel
theorem dX11_comesAgain_65 : decode cX11_comesAgain 65 = .ok (.ireturn, 1) := by decide +kernel
theorem dX11_lapOf_0 : decode cX11_lapOf 0 = .ok (.iconst 1, 1) := by decide +kernel
theorem dX11_lapOf_1 : decode cX11_lapOf 1 = .ok (.istore_n 2, 1) := by decide +kernel
theorem dX11_lapOf_2 : decode cX11_lapOf 2 = .ok (.aload_n 0, 1) := by decide +kernel
theorem dX11_lapOf_3 : decode cX11_lapOf 3 = .ok (.iload_n 1, 1) := by decide +kernel
theorem dX11_lapOf_4 : decode cX11_lapOf 4 = .ok (.aload_n 0, 1) := by decide +kernel
theorem dX11_lapOf_5 : decode cX11_lapOf 5 = .ok (.getfield 32, 3) := by decide +kernel
theorem dX11_lapOf_8 : decode cX11_lapOf 8 = .ok (.iload_n 1, 1) := by decide +kernel
theorem dX11_lapOf_9 : decode cX11_lapOf 9 = .ok (.iaload, 1) := by decide +kernel
theorem dX11_lapOf_10 : decode cX11_lapOf 10 = .ok (.iload_n 2, 1) := by decide +kernel
theorem dX11_lapOf_11 : decode cX11_lapOf 11 = .ok (.invokevirtual 184, 3) := by decide +kernel
theorem dX11_lapOf_14 : decode cX11_lapOf 14 = .ok (.ifCond .ne 9, 3) := by decide +kernel
theorem dX11_lapOf_17 : decode cX11_lapOf 17 = .ok (.iinc 2 1, 3) := by decide +kernel
theorem dX11_lapOf_20 : decode cX11_lapOf 20 = .ok (.goto (-18), 3) := by decide +kernel
theorem dX11_lapOf_23 : decode cX11_lapOf 23 = .ok (.iload_n 2, 1) := by decide +kernel
theorem dX11_lapOf_24 : decode cX11_lapOf 24 = .ok (.ireturn, 1) := by decide +kernel
theorem dX11_headOf_0 : decode cX11_headOf 0 = .ok (.aload_n 0, 1) := by decide +kernel
theorem dX11_headOf_1 : decode cX11_headOf 1 = .ok (.iload_n 1, 1) := by decide +kernel
theorem dX11_headOf_2 : decode cX11_headOf 2 = .ok (.invokevirtual 187, 3) := by decide +kernel
theorem dX11_headOf_5 : decode cX11_headOf 5 = .ok (.istore_n 2, 1) := by decide +kernel
theorem dX11_headOf_6 : decode cX11_headOf 6 = .ok (.iconst 0, 1) := by decide +kernel
theorem dX11_headOf_7 : decode cX11_headOf 7 = .ok (.istore_n 3, 1) := by decide +kernel
theorem dX11_headOf_8 : decode cX11_headOf 8 = .ok (.aload_n 0, 1) := by decide +kernel
theorem dX11_headOf_9 : decode cX11_headOf 9 = .ok (.iload_n 1, 1) := by decide +kernel
theorem dX11_headOf_10 : decode cX11_headOf 10 = .ok (.iload_n 3, 1) := by decide +kernel
theorem dX11_headOf_11 : decode cX11_headOf 11 = .ok (.iload_n 2, 1) := by decide +kernel
theorem dX11_headOf_12 : decode cX11_headOf 12 = .ok (.invokevirtual 184, 3) := by decide +kernel
theorem dX11_headOf_15 : decode cX11_headOf 15 = .ok (.ifCond .ne 9, 3) := by decide +kernel
theorem dX11_headOf_18 : decode cX11_headOf 18 = .ok (.iinc 3 1, 3) := by decide +kernel
theorem dX11_headOf_21 : decode cX11_headOf 21 = .ok (.goto (-13), 3) := by decide +kernel
theorem dX11_headOf_24 : decode cX11_headOf 24 = .ok (.iload_n 3, 1) := by decide +kernel
theorem dX11_headOf_25 : decode cX11_headOf 25 = .ok (.ireturn, 1) := by decide +kernel
theorem dX11_zerosOf_0 : decode cX11_zerosOf 0 = .ok (.aload_n 0, 1) := by decide +kernel
theorem dX11_zerosOf_1 : decode cX11_zerosOf 1 = .ok (.iload_n 1, 1) := by decide +kernel
theorem dX11_zerosOf_2 : decode cX11_zerosOf 2 = .ok (.invokevirtual 190, 3) := by decide +kernel
theorem dX11_zerosOf_5 : decode cX11_zerosOf 5 = .ok (.istore_n 2, 1) := by decide +kernel
theorem dX11_zerosOf_6 : decode cX11_zerosOf 6 = .ok (.aload_n 0, 1) := by decide +kernel
theorem dX11_zerosOf_7 : decode cX11_zerosOf 7 = .ok (.iload_n 1, 1) := by decide +kernel
theorem dX11_zerosOf_8 : decode cX11_zerosOf 8 = .ok (.invokevirtual 187, 3) := by decide +kernel
theorem dX11_zerosOf_11 : decode cX11_zerosOf 11 = .ok (.istore_n 3, 1) := by decide +kernel
theorem dX11_zerosOf_12 : decode cX11_zerosOf 12 = .ok (.iconst 0, 1) := by decide +kernel
theorem dX11_zerosOf_13 : decode cX11_zerosOf 13 = .ok (.istore 4, 2) := by decide +kernel
theorem dX11_zerosOf_15 : decode cX11_zerosOf 15 = .ok (.iload_n 2, 1) := by decide +kernel
theorem dX11_zerosOf_16 : decode cX11_zerosOf 16 = .ok (.istore 5, 2) := by decide +kernel
theorem dX11_zerosOf_18 : decode cX11_zerosOf 18 = .ok (.iload 5, 2) := by decide +kernel
theorem dX11_zerosOf_20 : decode cX11_zerosOf 20 = .ok (.iload_n 2, 1) := by decide +kernel
theorem dX11_zerosOf_21 : decode cX11_zerosOf 21 = .ok (.iload_n 3, 1) := by decide +kernel
theorem dX11_zerosOf_22 : decode cX11_zerosOf 22 = .ok (.iadd, 1) := by decide +kernel
theorem dX11_zerosOf_23 : decode cX11_zerosOf 23 = .ok (.if_icmp .ge 30, 3) := by decide +kernel
theorem dX11_zerosOf_26 : decode cX11_zerosOf 26 = .ok (.iload 4, 2) := by decide +kernel
theorem dX11_zerosOf_28 : decode cX11_zerosOf 28 = .ok (.aload_n 0, 1) := by decide +kernel
theorem dX11_zerosOf_29 : decode cX11_zerosOf 29 = .ok (.iload_n 1, 1) := by decide +kernel
theorem dX11_zerosOf_30 : decode cX11_zerosOf 30 = .ok (.iload 5, 2) := by decide +kernel
theorem dX11_zerosOf_32 : decode cX11_zerosOf 32 = .ok (.i2l, 1) := by decide +kernel
theorem dX11_zerosOf_33 : decode cX11_zerosOf 33 = .ok (.invokevirtual 162, 3) := by decide +kernel
theorem dX11_zerosOf_36 : decode cX11_zerosOf 36 = .ok (.ifCond .ne 7, 3) := by decide +kernel
theorem dX11_zerosOf_39 : decode cX11_zerosOf 39 = .ok (.iconst 1, 1) := by decide +kernel
theorem dX11_zerosOf_40 : decode cX11_zerosOf 40 = .ok (.goto 4, 3) := by decide +kernel
theorem dX11_zerosOf_43 : decode cX11_zerosOf 43 = .ok (.iconst 0, 1) := by decide +kernel
theorem dX11_zerosOf_44 : decode cX11_zerosOf 44 = .ok (.iadd, 1) := by decide +kernel
theorem dX11_zerosOf_45 : decode cX11_zerosOf 45 = .ok (.istore 4, 2) := by decide +kernel
theorem dX11_zerosOf_47 : decode cX11_zerosOf 47 = .ok (.iinc 5 1, 3) := by decide +kernel
theorem dX11_zerosOf_50 : decode cX11_zerosOf 50 = .ok (.goto (-32), 3) := by decide +kernel
theorem dX11_zerosOf_53 : decode cX11_zerosOf 53 = .ok (.iload 4, 2) := by decide +kernel
theorem dX11_zerosOf_55 : decode cX11_zerosOf 55 = .ok (.ireturn, 1) := by decide +kernel
theorem dX11_isRow_0 : decode cX11_isRow 0 = .ok (.iload_n 1, 1) := by decide +kernel
theorem dX11_isRow_1 : decode cX11_isRow 1 = .ok (.iconst 0, 1) := by decide +kernel
theorem dX11_isRow_2 : decode cX11_isRow 2 = .ok (.aload_n 0, 1) := by decide +kernel
theorem dX11_isRow_3 : decode cX11_isRow 3 = .ok (.getfield 116, 3) := by decide +kernel
theorem dX11_isRow_6 : decode cX11_isRow 6 = .ok (.iconst 1, 1) := by decide +kernel
theorem dX11_isRow_7 : decode cX11_isRow 7 = .ok (.isub, 1) := by decide +kernel
theorem dX11_isRow_8 : decode cX11_isRow 8 = .ok (.invokestatic 68, 3) := by decide +kernel
theorem dX11_isRow_11 : decode cX11_isRow 11 = .ok (.ireturn, 1) := by decide +kernel
theorem dX11_row_0 : decode cX11_row 0 = .ok (.aload_n 0, 1) := by decide +kernel
theorem dX11_row_1 : decode cX11_row 1 = .ok (.iload_n 1, 1) := by decide +kernel
theorem dX11_row_2 : decode cX11_row 2 = .ok (.invokevirtual 193, 3) := by decide +kernel
theorem dX11_row_5 : decode cX11_row 5 = .ok (.ifCond .ne 6, 3) := by decide +kernel
theorem dX11_row_8 : decode cX11_row 8 = .ok (.ldc 196, 2) := by decide +kernel
theorem dX11_row_10 : decode cX11_row 10 = .ok (.ireturn, 1) := by decide +kernel
theorem dX11_row_11 : decode cX11_row 11 = .ok (.iload_n 2, 1) := by decide +kernel
theorem dX11_row_12 : decode cX11_row 12 = .ok (.iconst 0, 1) := by decide +kernel
theorem dX11_row_13 : decode cX11_row 13 = .ok (.iconst 4, 1) := by decide +kernel
theorem dX11_row_14 : decode cX11_row 14 = .ok (.invokestatic 68, 3) := by decide +kernel
theorem dX11_row_17 : decode cX11_row 17 = .ok (.ifCond .ne 6, 3) := by decide +kernel
theorem dX11_row_20 : decode cX11_row 20 = .ok (.ldc 72, 2) := by decide +kernel
theorem dX11_row_22 : decode cX11_row 22 = .ok (.ireturn, 1) := by decide +kernel
theorem dX11_row_23 : decode cX11_row 23 = .ok (.iload_n 2, 1) := by decide +kernel
theorem dX11_row_24 : decode cX11_row 24 = .ok (.ifCond .ne 12, 3) := by decide +kernel
theorem dX11_row_27 : decode cX11_row 27 = .ok (.aload_n 0, 1) := by decide +kernel
theorem dX11_row_28 : decode cX11_row 28 = .ok (.getfield 7, 3) := by decide +kernel
theorem dX11_row_31 : decode cX11_row 31 = .ok (.iload_n 1, 1) := by decide +kernel
theorem dX11_row_32 : decode cX11_row 32 = .ok (.iaload, 1) := by decide +kernel
theorem dX11_row_33 : decode cX11_row 33 = .ok (.goto 15, 3) := by decide +kernel
theorem dX11_row_36 : decode cX11_row 36 = .ok (.aload_n 0, 1) := by decide +kernel
theorem dX11_row_37 : decode cX11_row 37 = .ok (.getfield 13, 3) := by decide +kernel
theorem dX11_row_40 : decode cX11_row 40 = .ok (.iconst 4, 1) := by decide +kernel
theorem dX11_row_41 : decode cX11_row 41 = .ok (.iload_n 1, 1) := by decide +kernel
theorem dX11_row_42 : decode cX11_row 42 = .ok (.imul, 1) := by decide +kernel
theorem dX11_row_43 : decode cX11_row 43 = .ok (.iload_n 2, 1) := by decide +kernel
theorem dX11_row_44 : decode cX11_row 44 = .ok (.iadd, 1) := by decide +kernel
theorem dX11_row_45 : decode cX11_row 45 = .ok (.iconst 1, 1) := by decide +kernel
theorem dX11_row_46 : decode cX11_row 46 = .ok (.isub, 1) := by decide +kernel
theorem dX11_row_47 : decode cX11_row 47 = .ok (.iaload, 1) := by decide +kernel
theorem dX11_row_48 : decode cX11_row 48 = .ok (.ireturn, 1) := by decide +kernel
theorem dX11_isSuch_0 : decode cX11_isSuch 0 = .ok (.iload_n 1, 1) := by decide +kernel
theorem dX11_isSuch_1 : decode cX11_isSuch 1 = .ok (.iconst 5, 1) := by decide +kernel
theorem dX11_isSuch_2 : decode cX11_isSuch 2 = .ok (.if_icmp .ne 21, 3) := by decide +kernel
theorem dX11_isSuch_5 : decode cX11_isSuch 5 = .ok (.iload_n 0, 1) := by decide +kernel
theorem dX11_isSuch_6 : decode cX11_isSuch 6 = .ok (.iconst 1, 1) := by decide +kernel
theorem dX11_isSuch_7 : decode cX11_isSuch 7 = .ok (.if_icmp .eq 8, 3) := by decide +kernel
theorem dX11_isSuch_10 : decode cX11_isSuch 10 = .ok (.iload_n 0, 1) := by decide +kernel
theorem dX11_isSuch_11 : decode cX11_isSuch 11 = .ok (.iconst 2, 1) := by decide +kernel
theorem dX11_isSuch_12 : decode cX11_isSuch 12 = .ok (.if_icmp .ne 7, 3) := by decide +kernel
theorem dX11_isSuch_15 : decode cX11_isSuch 15 = .ok (.iconst 1, 1) := by decide +kernel
theorem dX11_isSuch_16 : decode cX11_isSuch 16 = .ok (.goto 41, 3) := by decide +kernel
theorem dX11_isSuch_19 : decode cX11_isSuch 19 = .ok (.iconst 0, 1) := by decide +kernel
theorem dX11_isSuch_20 : decode cX11_isSuch 20 = .ok (.goto 37, 3) := by decide +kernel
theorem dX11_isSuch_23 : decode cX11_isSuch 23 = .ok (.iload_n 1, 1) := by decide +kernel
theorem dX11_isSuch_24 : decode cX11_isSuch 24 = .ok (.bipush 6, 2) := by decide +kernel
theorem dX11_isSuch_26 : decode cX11_isSuch 26 = .ok (.if_icmp .ne 21, 3) := by decide +kernel
theorem dX11_isSuch_29 : decode cX11_isSuch 29 = .ok (.iload_n 0, 1) := by decide +kernel
theorem dX11_isSuch_30 : decode cX11_isSuch 30 = .ok (.iconst 3, 1) := by decide +kernel
theorem dX11_isSuch_31 : decode cX11_isSuch 31 = .ok (.if_icmp .eq 8, 3) := by decide +kernel
theorem dX11_isSuch_34 : decode cX11_isSuch 34 = .ok (.iload_n 0, 1) := by decide +kernel
theorem dX11_isSuch_35 : decode cX11_isSuch 35 = .ok (.iconst 4, 1) := by decide +kernel
theorem dX11_isSuch_36 : decode cX11_isSuch 36 = .ok (.if_icmp .ne 7, 3) := by decide +kernel
theorem dX11_isSuch_39 : decode cX11_isSuch 39 = .ok (.iconst 1, 1) := by decide +kernel
theorem dX11_isSuch_40 : decode cX11_isSuch 40 = .ok (.goto 17, 3) := by decide +kernel
theorem dX11_isSuch_43 : decode cX11_isSuch 43 = .ok (.iconst 0, 1) := by decide +kernel
theorem dX11_isSuch_44 : decode cX11_isSuch 44 = .ok (.goto 13, 3) := by decide +kernel
theorem dX11_isSuch_47 : decode cX11_isSuch 47 = .ok (.iload_n 0, 1) := by decide +kernel
theorem dX11_isSuch_48 : decode cX11_isSuch 48 = .ok (.iload_n 1, 1) := by decide +kernel
theorem dX11_isSuch_49 : decode cX11_isSuch 49 = .ok (.if_icmp .ne 7, 3) := by decide +kernel
theorem dX11_isSuch_52 : decode cX11_isSuch 52 = .ok (.iconst 1, 1) := by decide +kernel
theorem dX11_isSuch_53 : decode cX11_isSuch 53 = .ok (.goto 4, 3) := by decide +kernel
theorem dX11_isSuch_56 : decode cX11_isSuch 56 = .ok (.iconst 0, 1) := by decide +kernel
theorem dX11_isSuch_57 : decode cX11_isSuch 57 = .ok (.ireturn, 1) := by decide +kernel
theorem dX11_as_0 : decode cX11_as 0 = .ok (.aload_n 0, 1) := by decide +kernel
theorem dX11_as_1 : decode cX11_as 1 = .ok (.iload_n 1, 1) := by decide +kernel
theorem dX11_as_2 : decode cX11_as 2 = .ok (.invokevirtual 193, 3) := by decide +kernel
theorem dX11_as_5 : decode cX11_as 5 = .ok (.ifCond .ne 6, 3) := by decide +kernel
theorem dX11_as_8 : decode cX11_as 8 = .ok (.ldc 196, 2) := by decide +kernel
theorem dX11_as_10 : decode cX11_as 10 = .ok (.ireturn, 1) := by decide +kernel
theorem dX11_as_11 : decode cX11_as 11 = .ok (.iload_n 2, 1) := by decide +kernel
theorem dX11_as_12 : decode cX11_as 12 = .ok (.iconst 0, 1) := by decide +kernel
theorem dX11_as_13 : decode cX11_as 13 = .ok (.bipush 6, 2) := by decide +kernel
theorem dX11_as_15 : decode cX11_as 15 = .ok (.invokestatic 68, 3) := by decide +kernel
theorem dX11_as_18 : decode cX11_as 18 = .ok (.ifCond .ne 8, 3) := by decide +kernel
theorem dX11_as_21 : decode cX11_as 21 = .ok (.ldc 72, 2) := by decide +kernel
theorem dX11_as_23 : decode cX11_as 23 = .ok (.goto 27, 3) := by decide +kernel
theorem dX11_as_26 : decode cX11_as 26 = .ok (.aload_n 0, 1) := by decide +kernel
theorem dX11_as_27 : decode cX11_as 27 = .ok (.getfield 7, 3) := by decide +kernel
theorem dX11_as_30 : decode cX11_as 30 = .ok (.iload_n 1, 1) := by decide +kernel
theorem dX11_as_31 : decode cX11_as 31 = .ok (.iaload, 1) := by decide +kernel
theorem dX11_as_32 : decode cX11_as 32 = .ok (.iload_n 2, 1) := by decide +kernel
theorem dX11_as_33 : decode cX11_as 33 = .ok (.invokestatic 197, 3) := by decide +kernel
theorem dX11_as_36 : decode cX11_as 36 = .ok (.ifCond .eq 12, 3) := by decide +kernel
theorem dX11_as_39 : decode cX11_as 39 = .ok (.aload_n 0, 1) := by decide +kernel
theorem dX11_as_40 : decode cX11_as 40 = .ok (.getfield 7, 3) := by decide +kernel
theorem dX11_as_43 : decode cX11_as 43 = .ok (.iload_n 1, 1) := by decide +kernel
theorem dX11_as_44 : decode cX11_as 44 = .ok (.iaload, 1) := by decide +kernel
theorem dX11_as_45 : decode cX11_as 45 = .ok (.goto 5, 3) := by decide +kernel
theorem dX11_as_48 : decode cX11_as 48 = .ok (.ldc 54, 2) := by decide +kernel
theorem dX11_as_50 : decode cX11_as 50 = .ok (.ireturn, 1) := by decide +kernel
theorem dX11_term_0 : decode cX11_term 0 = .ok (.aload_n 0, 1) := by decide +kernel
theorem dX11_term_1 : decode cX11_term 1 = .ok (.iload_n 1, 1) := by decide +kernel
theorem dX11_term_2 : decode cX11_term 2 = .ok (.invokevirtual 193, 3) := by decide +kernel
theorem dX11_term_5 : decode cX11_term 5 = .ok (.ifCond .ne 6, 3) := by decide +kernel
theorem dX11_term_8 : decode cX11_term 8 = .ok (.ldc 196, 2) := by decide +kernel
theorem dX11_term_10 : decode cX11_term 10 = .ok (.ireturn, 1) := by decide +kernel
theorem dX11_term_11 : decode cX11_term 11 = .ok (.iload_n 2, 1) := by decide +kernel
theorem dX11_term_12 : decode cX11_term 12 = .ok (.iconst 0, 1) := by decide +kernel
theorem dX11_term_13 : decode cX11_term 13 = .ok (.sipush 200, 3) := by decide +kernel
theorem dX11_term_16 : decode cX11_term 16 = .ok (.invokestatic 68, 3) := by decide +kernel
theorem dX11_term_19 : decode cX11_term 19 = .ok (.ifCond .eq 12, 3) := by decide +kernel
theorem dX11_term_22 : decode cX11_term 22 = .ok (.aload_n 0, 1) := by decide +kernel
theorem dX11_term_23 : decode cX11_term 23 = .ok (.iload_n 1, 1) := by decide +kernel
theorem dX11_term_24 : decode cX11_term 24 = .ok (.iload_n 2, 1) := by decide +kernel
theorem dX11_term_25 : decode cX11_term 25 = .ok (.invokevirtual 201, 3) := by decide +kernel
theorem dX11_term_28 : decode cX11_term 28 = .ok (.goto 5, 3) := by decide +kernel
theorem dX11_term_31 : decode cX11_term 31 = .ok (.ldc 72, 2) := by decide +kernel
theorem dX11_term_33 : decode cX11_term 33 = .ok (.ireturn, 1) := by decide +kernel
theorem dX11_byNow_0 : decode cX11_byNow 0 = .ok (.aload_n 0, 1) := by decide +kernel
theorem dX11_byNow_1 : decode cX11_byNow 1 = .ok (.iload_n 3, 1) := by decide +kernel
theorem dX11_byNow_2 : decode cX11_byNow 2 = .ok (.invokevirtual 204, 3) := by decide +kernel
theorem dX11_byNow_5 : decode cX11_byNow 5 = .ok (.aload_n 0, 1) := by decide +kernel
theorem dX11_byNow_6 : decode cX11_byNow 6 = .ok (.iload_n 1, 1) := by decide +kernel
theorem dX11_byNow_7 : decode cX11_byNow 7 = .ok (.iload_n 2, 1) := by decide +kernel
theorem dX11_byNow_8 : decode cX11_byNow 8 = .ok (.i2l, 1) := by decide +kernel
theorem dX11_byNow_9 : decode cX11_byNow 9 = .ok (.invokevirtual 162, 3) := by decide +kernel
theorem dX11_byNow_12 : decode cX11_byNow 12 = .ok (.ireturn, 1) := by decide +kernel
theorem dX11_by_0 : decode cX11_by 0 = .ok (.aload_n 0, 1) := by decide +kernel
theorem dX11_by_1 : decode cX11_by 1 = .ok (.iload_n 1, 1) := by decide +kernel
theorem dX11_by_2 : decode cX11_by 2 = .ok (.invokevirtual 193, 3) := by decide +kernel
theorem dX11_by_5 : decode cX11_by 5 = .ok (.ifCond .ne 6, 3) := by decide +kernel
theorem dX11_by_8 : decode cX11_by 8 = .ok (.ldc 196, 2) := by decide +kernel
theorem dX11_by_10 : decode cX11_by 10 = .ok (.ireturn, 1) := by decide +kernel
theorem dX11_by_11 : decode cX11_by 11 = .ok (.iload_n 2, 1) := by decide +kernel
theorem dX11_by_12 : decode cX11_by 12 = .ok (.ifCond .lt 23, 3) := by decide +kernel
theorem dX11_by_15 : decode cX11_by 15 = .ok (.iload_n 3, 1) := by decide +kernel
theorem dX11_by_16 : decode cX11_by 16 = .ok (.iconst 2, 1) := by decide +kernel
theorem dX11_by_17 : decode cX11_by 17 = .ok (.bipush 10, 2) := by decide +kernel
theorem dX11_by_19 : decode cX11_by 19 = .ok (.invokestatic 68, 3) := by decide +kernel
theorem dX11_by_22 : decode cX11_by 22 = .ok (.ifCond .eq 13, 3) := by decide +kernel
theorem dX11_by_25 : decode cX11_by 25 = .ok (.aload_n 0, 1) := by decide +kernel
theorem dX11_by_26 : decode cX11_by 26 = .ok (.iload_n 1, 1) := by decide +kernel
theorem dX11_by_27 : decode cX11_by 27 = .ok (.iload_n 2, 1) := by decide +kernel
theorem dX11_by_28 : decode cX11_by 28 = .ok (.iload_n 3, 1) := by decide +kernel
theorem dX11_by_29 : decode cX11_by 29 = .ok (.invokevirtual 207, 3) := by decide +kernel
theorem dX11_by_32 : decode cX11_by 32 = .ok (.goto 5, 3) := by decide +kernel
theorem dX11_by_35 : decode cX11_by 35 = .ok (.ldc 72, 2) := by decide +kernel
theorem dX11_by_37 : decode cX11_by 37 = .ok (.ireturn, 1) := by decide +kernel
theorem dX11_lapNow_0 : decode cX11_lapNow 0 = .ok (.aload_n 0, 1) := by decide +kernel
theorem dX11_lapNow_1 : decode cX11_lapNow 1 = .ok (.iload_n 2, 1) := by decide +kernel
theorem dX11_lapNow_2 : decode cX11_lapNow 2 = .ok (.invokevirtual 204, 3) := by decide +kernel
theorem dX11_lapNow_5 : decode cX11_lapNow 5 = .ok (.iload_n 3, 1) := by decide +kernel
theorem dX11_lapNow_6 : decode cX11_lapNow 6 = .ok (.ifCond .ne 11, 3) := by decide +kernel
theorem dX11_lapNow_9 : decode cX11_lapNow 9 = .ok (.aload_n 0, 1) := by decide +kernel
theorem dX11_lapNow_10 : decode cX11_lapNow 10 = .ok (.iload_n 1, 1) := by decide +kernel
theorem dX11_lapNow_11 : decode cX11_lapNow 11 = .ok (.invokevirtual 187, 3) := by decide +kernel
theorem dX11_lapNow_14 : decode cX11_lapNow 14 = .ok (.goto 21, 3) := by decide +kernel
theorem dX11_lapNow_17 : decode cX11_lapNow 17 = .ok (.iload_n 3, 1) := by decide +kernel
theorem dX11_lapNow_18 : decode cX11_lapNow 18 = .ok (.iconst 1, 1) := by decide +kernel
theorem dX11_lapNow_19 : decode cX11_lapNow 19 = .ok (.if_icmp .ne 11, 3) := by decide +kernel
theorem dX11_lapNow_22 : decode cX11_lapNow 22 = .ok (.aload_n 0, 1) := by decide +kernel
theorem dX11_lapNow_23 : decode cX11_lapNow 23 = .ok (.iload_n 1, 1) := by decide +kernel
theorem dX11_lapNow_24 : decode cX11_lapNow 24 = .ok (.invokevirtual 190, 3) := by decide +kernel
theorem dX11_lapNow_27 : decode cX11_lapNow 27 = .ok (.goto 8, 3) := by decide +kernel
theorem dX11_lapNow_30 : decode cX11_lapNow 30 = .ok (.aload_n 0, 1) := by decide +kernel
theorem dX11_lapNow_31 : decode cX11_lapNow 31 = .ok (.iload_n 1, 1) := by decide +kernel
theorem dX11_lapNow_32 : decode cX11_lapNow 32 = .ok (.invokevirtual 210, 3) := by decide +kernel
theorem dX11_lapNow_35 : decode cX11_lapNow 35 = .ok (.ireturn, 1) := by decide +kernel
theorem dX11_lap_0 : decode cX11_lap 0 = .ok (.aload_n 0, 1) := by decide +kernel
theorem dX11_lap_1 : decode cX11_lap 1 = .ok (.iload_n 1, 1) := by decide +kernel
theorem dX11_lap_2 : decode cX11_lap 2 = .ok (.invokevirtual 193, 3) := by decide +kernel
theorem dX11_lap_5 : decode cX11_lap 5 = .ok (.ifCond .ne 6, 3) := by decide +kernel
theorem dX11_lap_8 : decode cX11_lap 8 = .ok (.ldc 196, 2) := by decide +kernel
theorem dX11_lap_10 : decode cX11_lap 10 = .ok (.ireturn, 1) := by decide +kernel
theorem dX11_lap_11 : decode cX11_lap 11 = .ok (.iload_n 2, 1) := by decide +kernel
theorem dX11_lap_12 : decode cX11_lap 12 = .ok (.iconst 2, 1) := by decide +kernel
theorem dX11_lap_13 : decode cX11_lap 13 = .ok (.bipush 10, 2) := by decide +kernel
theorem dX11_lap_15 : decode cX11_lap 15 = .ok (.invokestatic 68, 3) := by decide +kernel
theorem dX11_lap_18 : decode cX11_lap 18 = .ok (.ifCond .eq 22, 3) := by decide +kernel
theorem dX11_lap_21 : decode cX11_lap 21 = .ok (.iload_n 3, 1) := by decide +kernel
theorem dX11_lap_22 : decode cX11_lap 22 = .ok (.iconst 0, 1) := by decide +kernel
theorem dX11_lap_23 : decode cX11_lap 23 = .ok (.iconst 2, 1) := by decide +kernel
theorem dX11_lap_24 : decode cX11_lap 24 = .ok (.invokestatic 68, 3) := by decide +kernel
theorem dX11_lap_27 : decode cX11_lap 27 = .ok (.ifCond .eq 13, 3) := by decide +kernel
theorem dX11_lap_30 : decode cX11_lap 30 = .ok (.aload_n 0, 1) := by decide +kernel
theorem dX11_lap_31 : decode cX11_lap 31 = .ok (.iload_n 1, 1) := by decide +kernel
theorem dX11_lap_32 : decode cX11_lap 32 = .ok (.iload_n 2, 1) := by decide +kernel
theorem dX11_lap_33 : decode cX11_lap 33 = .ok (.iload_n 3, 1) := by decide +kernel
theorem dX11_lap_34 : decode cX11_lap 34 = .ok (.invokevirtual 213, 3) := by decide +kernel
theorem dX11_lap_37 : decode cX11_lap 37 = .ok (.goto 5, 3) := by decide +kernel
theorem dX11_lap_40 : decode cX11_lap 40 = .ok (.ldc 72, 2) := by decide +kernel
theorem dX11_lap_42 : decode cX11_lap 42 = .ok (.ireturn, 1) := by decide +kernel
theorem dX11_layTable_0 : decode cX11_layTable 0 = .ok (.iconst 0, 1) := by decide +kernel
theorem dX11_layTable_1 : decode cX11_layTable 1 = .ok (.istore_n 3, 1) := by decide +kernel
theorem dX11_layTable_2 : decode cX11_layTable 2 = .ok (.iload_n 3, 1) := by decide +kernel
theorem dX11_layTable_3 : decode cX11_layTable 3 = .ok (.bipush 16, 2) := by decide +kernel
theorem dX11_layTable_5 : decode cX11_layTable 5 = .ok (.iload_n 2, 1) := by decide +kernel
theorem dX11_layTable_6 : decode cX11_layTable 6 = .ok (.isub, 1) := by decide +kernel
theorem dX11_layTable_7 : decode cX11_layTable 7 = .ok (.if_icmp .ge 70, 3) := by decide +kernel
theorem dX11_layTable_10 : decode cX11_layTable 10 = .ok (.iconst 0, 1) := by decide +kernel
theorem dX11_layTable_11 : decode cX11_layTable 11 = .ok (.istore 4, 2) := by decide +kernel
theorem dX11_layTable_13 : decode cX11_layTable 13 = .ok (.iload 4, 2) := by decide +kernel
theorem dX11_layTable_15 : decode cX11_layTable 15 = .ok (.iload_n 2, 1) := by decide +kernel
theorem dX11_layTable_16 : decode cX11_layTable 16 = .ok (.if_icmp .ge 35, 3) := by decide +kernel
theorem dX11_layTable_19 : decode cX11_layTable 19 = .ok (.aload_n 0, 1) := by decide +kernel
theorem dX11_layTable_20 : decode cX11_layTable 20 = .ok (.getfield 44, 3) := by decide +kernel
theorem dX11_layTable_23 : decode cX11_layTable 23 = .ok (.bipush 17, 2) := by decide +kernel
theorem dX11_layTable_25 : decode cX11_layTable 25 = .ok (.iload_n 3, 1) := by decide +kernel
theorem dX11_layTable_26 : decode cX11_layTable 26 = .ok (.imul, 1) := by decide +kernel
theorem dX11_layTable_27 : decode cX11_layTable 27 = .ok (.iload 4, 2) := by decide +kernel
theorem dX11_layTable_29 : decode cX11_layTable 29 = .ok (.iadd, 1) := by decide +kernel
theorem dX11_layTable_30 : decode cX11_layTable 30 = .ok (.aload_n 0, 1) := by decide +kernel
theorem dX11_layTable_31 : decode cX11_layTable 31 = .ok (.iload_n 1, 1) := by decide +kernel
theorem dX11_layTable_32 : decode cX11_layTable 32 = .ok (.iload_n 2, 1) := by decide +kernel
theorem dX11_layTable_33 : decode cX11_layTable 33 = .ok (.iload_n 3, 1) := by decide +kernel
theorem dX11_layTable_34 : decode cX11_layTable 34 = .ok (.iadd, 1) := by decide +kernel
theorem dX11_layTable_35 : decode cX11_layTable 35 = .ok (.iconst 1, 1) := by decide +kernel
theorem dX11_layTable_36 : decode cX11_layTable 36 = .ok (.isub, 1) := by decide +kernel
theorem dX11_layTable_37 : decode cX11_layTable 37 = .ok (.iload 4, 2) := by decide +kernel
theorem dX11_layTable_39 : decode cX11_layTable 39 = .ok (.isub, 1) := by decide +kernel
theorem dX11_layTable_40 : decode cX11_layTable 40 = .ok (.i2l, 1) := by decide +kernel
theorem dX11_layTable_41 : decode cX11_layTable 41 = .ok (.invokevirtual 162, 3) := by decide +kernel
theorem dX11_layTable_44 : decode cX11_layTable 44 = .ok (.iastore, 1) := by decide +kernel
theorem dX11_layTable_45 : decode cX11_layTable 45 = .ok (.iinc 4 1, 3) := by decide +kernel
theorem dX11_layTable_48 : decode cX11_layTable 48 = .ok (.goto (-35), 3) := by decide +kernel
theorem dX11_layTable_51 : decode cX11_layTable 51 = .ok (.aload_n 0, 1) := by decide +kernel
theorem dX11_layTable_52 : decode cX11_layTable 52 = .ok (.getfield 44, 3) := by decide +kernel
theorem dX11_layTable_55 : decode cX11_layTable 55 = .ok (.bipush 17, 2) := by decide +kernel
theorem dX11_layTable_57 : decode cX11_layTable 57 = .ok (.iload_n 3, 1) := by decide +kernel
theorem dX11_layTable_58 : decode cX11_layTable 58 = .ok (.imul, 1) := by decide +kernel
theorem dX11_layTable_59 : decode cX11_layTable 59 = .ok (.iload_n 2, 1) := by decide +kernel
theorem dX11_layTable_60 : decode cX11_layTable 60 = .ok (.iadd, 1) := by decide +kernel
theorem dX11_layTable_61 : decode cX11_layTable 61 = .ok (.aload_n 0, 1) := by decide +kernel
theorem dX11_layTable_62 : decode cX11_layTable 62 = .ok (.iload_n 1, 1) := by decide +kernel
theorem dX11_layTable_63 : decode cX11_layTable 63 = .ok (.iload_n 2, 1) := by decide +kernel
theorem dX11_layTable_64 : decode cX11_layTable 64 = .ok (.iload_n 3, 1) := by decide +kernel
theorem dX11_layTable_65 : decode cX11_layTable 65 = .ok (.iadd, 1) := by decide +kernel
theorem dX11_layTable_66 : decode cX11_layTable 66 = .ok (.i2l, 1) := by decide +kernel
theorem dX11_layTable_67 : decode cX11_layTable 67 = .ok (.invokevirtual 162, 3) := by decide +kernel
theorem dX11_layTable_70 : decode cX11_layTable 70 = .ok (.iastore, 1) := by decide +kernel
theorem dX11_layTable_71 : decode cX11_layTable 71 = .ok (.iinc 3 1, 3) := by decide +kernel
theorem dX11_layTable_74 : decode cX11_layTable 74 = .ok (.goto (-72), 3) := by decide +kernel
theorem dX11_layTable_77 : decode cX11_layTable 77 = .ok (.return_, 1) := by decide +kernel
theorem dX11_swapLines_0 : decode cX11_swapLines 0 = .ok (.iconst 0, 1) := by decide +kernel
theorem dX11_swapLines_1 : decode cX11_swapLines 1 = .ok (.istore_n 3, 1) := by decide +kernel
theorem dX11_swapLines_2 : decode cX11_swapLines 2 = .ok (.iload_n 3, 1) := by decide +kernel
theorem dX11_swapLines_3 : decode cX11_swapLines 3 = .ok (.bipush 17, 2) := by decide +kernel
theorem dX11_swapLines_5 : decode cX11_swapLines 5 = .ok (.if_icmp .ge 57, 3) := by decide +kernel
theorem dX11_swapLines_8 : decode cX11_swapLines 8 = .ok (.aload_n 0, 1) := by decide +kernel
theorem dX11_swapLines_9 : decode cX11_swapLines 9 = .ok (.getfield 44, 3) := by decide +kernel
theorem dX11_swapLines_12 : decode cX11_swapLines 12 = .ok (.bipush 17, 2) := by decide +kernel
theorem dX11_swapLines_14 : decode cX11_swapLines 14 = .ok (.iload_n 1, 1) := by decide +kernel
theorem dX11_swapLines_15 : decode cX11_swapLines 15 = .ok (.imul, 1) := by decide +kernel
theorem dX11_swapLines_16 : decode cX11_swapLines 16 = .ok (.iload_n 3, 1) := by decide +kernel
theorem dX11_swapLines_17 : decode cX11_swapLines 17 = .ok (.iadd, 1) := by decide +kernel
theorem dX11_swapLines_18 : decode cX11_swapLines 18 = .ok (.iaload, 1) := by decide +kernel
theorem dX11_swapLines_19 : decode cX11_swapLines 19 = .ok (.istore 4, 2) := by decide +kernel
theorem dX11_swapLines_21 : decode cX11_swapLines 21 = .ok (.aload_n 0, 1) := by decide +kernel
theorem dX11_swapLines_22 : decode cX11_swapLines 22 = .ok (.getfield 44, 3) := by decide +kernel
theorem dX11_swapLines_25 : decode cX11_swapLines 25 = .ok (.bipush 17, 2) := by decide +kernel
theorem dX11_swapLines_27 : decode cX11_swapLines 27 = .ok (.iload_n 1, 1) := by decide +kernel
theorem dX11_swapLines_28 : decode cX11_swapLines 28 = .ok (.imul, 1) := by decide +kernel
theorem dX11_swapLines_29 : decode cX11_swapLines 29 = .ok (.iload_n 3, 1) := by decide +kernel
theorem dX11_swapLines_30 : decode cX11_swapLines 30 = .ok (.iadd, 1) := by decide +kernel
theorem dX11_swapLines_31 : decode cX11_swapLines 31 = .ok (.aload_n 0, 1) := by decide +kernel
theorem dX11_swapLines_32 : decode cX11_swapLines 32 = .ok (.getfield 44, 3) := by decide +kernel
theorem dX11_swapLines_35 : decode cX11_swapLines 35 = .ok (.bipush 17, 2) := by decide +kernel
theorem dX11_swapLines_37 : decode cX11_swapLines 37 = .ok (.iload_n 2, 1) := by decide +kernel
theorem dX11_swapLines_38 : decode cX11_swapLines 38 = .ok (.imul, 1) := by decide +kernel
theorem dX11_swapLines_39 : decode cX11_swapLines 39 = .ok (.iload_n 3, 1) := by decide +kernel
theorem dX11_swapLines_40 : decode cX11_swapLines 40 = .ok (.iadd, 1) := by decide +kernel
theorem dX11_swapLines_41 : decode cX11_swapLines 41 = .ok (.iaload, 1) := by decide +kernel
theorem dX11_swapLines_42 : decode cX11_swapLines 42 = .ok (.iastore, 1) := by decide +kernel
theorem dX11_swapLines_43 : decode cX11_swapLines 43 = .ok (.aload_n 0, 1) := by decide +kernel
theorem dX11_swapLines_44 : decode cX11_swapLines 44 = .ok (.getfield 44, 3) := by decide +kernel
theorem dX11_swapLines_47 : decode cX11_swapLines 47 = .ok (.bipush 17, 2) := by decide +kernel
theorem dX11_swapLines_49 : decode cX11_swapLines 49 = .ok (.iload_n 2, 1) := by decide +kernel
theorem dX11_swapLines_50 : decode cX11_swapLines 50 = .ok (.imul, 1) := by decide +kernel
theorem dX11_swapLines_51 : decode cX11_swapLines 51 = .ok (.iload_n 3, 1) := by decide +kernel
theorem dX11_swapLines_52 : decode cX11_swapLines 52 = .ok (.iadd, 1) := by decide +kernel
theorem dX11_swapLines_53 : decode cX11_swapLines 53 = .ok (.iload 4, 2) := by decide +kernel
theorem dX11_swapLines_55 : decode cX11_swapLines 55 = .ok (.iastore, 1) := by decide +kernel
theorem dX11_swapLines_56 : decode cX11_swapLines 56 = .ok (.iinc 3 1, 3) := by decide +kernel
theorem dX11_swapLines_59 : decode cX11_swapLines 59 = .ok (.goto (-57), 3) := by decide +kernel
theorem dX11_swapLines_62 : decode cX11_swapLines 62 = .ok (.return_, 1) := by decide +kernel
theorem dX11_makeOne_0 : decode cX11_makeOne 0 = .ok (.iconst 1, 1) := by decide +kernel
theorem dX11_makeOne_1 : decode cX11_makeOne 1 = .ok (.istore 4, 2) := by decide +kernel
theorem dX11_makeOne_3 : decode cX11_makeOne 3 = .ok (.aload_n 0, 1) := by decide +kernel
theorem dX11_makeOne_4 : decode cX11_makeOne 4 = .ok (.getfield 44, 3) := by decide +kernel
theorem dX11_makeOne_7 : decode cX11_makeOne 7 = .ok (.bipush 17, 2) := by decide +kernel
theorem dX11_makeOne_9 : decode cX11_makeOne 9 = .ok (.iload_n 1, 1) := by decide +kernel
theorem dX11_makeOne_10 : decode cX11_makeOne 10 = .ok (.imul, 1) := by decide +kernel
theorem dX11_makeOne_11 : decode cX11_makeOne 11 = .ok (.iload_n 2, 1) := by decide +kernel
theorem dX11_makeOne_12 : decode cX11_makeOne 12 = .ok (.iadd, 1) := by decide +kernel
theorem dX11_makeOne_13 : decode cX11_makeOne 13 = .ok (.iaload, 1) := by decide +kernel
theorem dX11_makeOne_14 : decode cX11_makeOne 14 = .ok (.iload 4, 2) := by decide +kernel
theorem dX11_makeOne_16 : decode cX11_makeOne 16 = .ok (.imul, 1) := by decide +kernel
theorem dX11_makeOne_17 : decode cX11_makeOne 17 = .ok (.iload_n 3, 1) := by decide +kernel
theorem dX11_makeOne_18 : decode cX11_makeOne 18 = .ok (.irem, 1) := by decide +kernel
theorem dX11_makeOne_19 : decode cX11_makeOne 19 = .ok (.iconst 1, 1) := by decide +kernel
theorem dX11_makeOne_20 : decode cX11_makeOne 20 = .ok (.if_icmp .eq 9, 3) := by decide +kernel
theorem dX11_makeOne_23 : decode cX11_makeOne 23 = .ok (.iinc 4 1, 3) := by decide +kernel
theorem dX11_makeOne_26 : decode cX11_makeOne 26 = .ok (.goto (-23), 3) := by decide +kernel
theorem dX11_makeOne_29 : decode cX11_makeOne 29 = .ok (.iconst 0, 1) := by decide +kernel
theorem dX11_makeOne_30 : decode cX11_makeOne 30 = .ok (.istore 5, 2) := by decide +kernel
theorem dX11_makeOne_32 : decode cX11_makeOne 32 = .ok (.iload 5, 2) := by decide +kernel
theorem dX11_makeOne_34 : decode cX11_makeOne 34 = .ok (.bipush 17, 2) := by decide +kernel
theorem dX11_makeOne_36 : decode cX11_makeOne 36 = .ok (.if_icmp .ge 38, 3) := by decide +kernel
theorem dX11_makeOne_39 : decode cX11_makeOne 39 = .ok (.aload_n 0, 1) := by decide +kernel
theorem dX11_makeOne_40 : decode cX11_makeOne 40 = .ok (.getfield 44, 3) := by decide +kernel
theorem dX11_makeOne_43 : decode cX11_makeOne 43 = .ok (.bipush 17, 2) := by decide +kernel
theorem dX11_makeOne_45 : decode cX11_makeOne 45 = .ok (.iload_n 1, 1) := by decide +kernel
theorem dX11_makeOne_46 : decode cX11_makeOne 46 = .ok (.imul, 1) := by decide +kernel
theorem dX11_makeOne_47 : decode cX11_makeOne 47 = .ok (.iload 5, 2) := by decide +kernel
theorem dX11_makeOne_49 : decode cX11_makeOne 49 = .ok (.iadd, 1) := by decide +kernel
theorem dX11_makeOne_50 : decode cX11_makeOne 50 = .ok (.aload_n 0, 1) := by decide +kernel
theorem dX11_makeOne_51 : decode cX11_makeOne 51 = .ok (.getfield 44, 3) := by decide +kernel
theorem dX11_makeOne_54 : decode cX11_makeOne 54 = .ok (.bipush 17, 2) := by decide +kernel
theorem dX11_makeOne_56 : decode cX11_makeOne 56 = .ok (.iload_n 1, 1) := by decide +kernel
theorem dX11_makeOne_57 : decode cX11_makeOne 57 = .ok (.imul, 1) := by decide +kernel
theorem dX11_makeOne_58 : decode cX11_makeOne 58 = .ok (.iload 5, 2) := by decide +kernel
theorem dX11_makeOne_60 : decode cX11_makeOne 60 = .ok (.iadd, 1) := by decide +kernel
theorem dX11_makeOne_61 : decode cX11_makeOne 61 = .ok (.iaload, 1) := by decide +kernel
theorem dX11_makeOne_62 : decode cX11_makeOne 62 = .ok (.iload 4, 2) := by decide +kernel
theorem dX11_makeOne_64 : decode cX11_makeOne 64 = .ok (.imul, 1) := by decide +kernel
theorem dX11_makeOne_65 : decode cX11_makeOne 65 = .ok (.iload_n 3, 1) := by decide +kernel
theorem dX11_makeOne_66 : decode cX11_makeOne 66 = .ok (.irem, 1) := by decide +kernel
theorem dX11_makeOne_67 : decode cX11_makeOne 67 = .ok (.iastore, 1) := by decide +kernel
theorem dX11_makeOne_68 : decode cX11_makeOne 68 = .ok (.iinc 5 1, 3) := by decide +kernel
theorem dX11_makeOne_71 : decode cX11_makeOne 71 = .ok (.goto (-39), 3) := by decide +kernel
theorem dX11_makeOne_74 : decode cX11_makeOne 74 = .ok (.return_, 1) := by decide +kernel
theorem dX11_takeAway_0 : decode cX11_takeAway 0 = .ok (.aload_n 0, 1) := by decide +kernel
theorem dX11_takeAway_1 : decode cX11_takeAway 1 = .ok (.getfield 44, 3) := by decide +kernel
theorem dX11_takeAway_4 : decode cX11_takeAway 4 = .ok (.bipush 17, 2) := by decide +kernel
theorem dX11_takeAway_6 : decode cX11_takeAway 6 = .ok (.iload_n 1, 1) := by decide +kernel
theorem dX11_takeAway_7 : decode cX11_takeAway 7 = .ok (.imul, 1) := by decide +kernel
theorem dX11_takeAway_8 : decode cX11_takeAway 8 = .ok (.iload_n 3, 1) := by decide +kernel
theorem dX11_takeAway_9 : decode cX11_takeAway 9 = .ok (.iadd, 1) := by decide +kernel
theorem dX11_takeAway_10 : decode cX11_takeAway 10 = .ok (.iaload, 1) := by decide +kernel
theorem dX11_takeAway_11 : decode cX11_takeAway 11 = .ok (.istore 5, 2) := by decide +kernel
theorem dX11_takeAway_13 : decode cX11_takeAway 13 = .ok (.iconst 0, 1) := by decide +kernel
theorem dX11_takeAway_14 : decode cX11_takeAway 14 = .ok (.istore 6, 2) := by decide +kernel
theorem dX11_takeAway_16 : decode cX11_takeAway 16 = .ok (.iload 6, 2) := by decide +kernel
theorem dX11_takeAway_18 : decode cX11_takeAway 18 = .ok (.bipush 17, 2) := by decide +kernel
theorem dX11_takeAway_20 : decode cX11_takeAway 20 = .ok (.if_icmp .ge 54, 3) := by decide +kernel
theorem dX11_takeAway_23 : decode cX11_takeAway 23 = .ok (.aload_n 0, 1) := by decide +kernel
theorem dX11_takeAway_24 : decode cX11_takeAway 24 = .ok (.getfield 44, 3) := by decide +kernel
theorem dX11_takeAway_27 : decode cX11_takeAway 27 = .ok (.bipush 17, 2) := by decide +kernel
theorem dX11_takeAway_29 : decode cX11_takeAway 29 = .ok (.iload_n 1, 1) := by decide +kernel
theorem dX11_takeAway_30 : decode cX11_takeAway 30 = .ok (.imul, 1) := by decide +kernel
theorem dX11_takeAway_31 : decode cX11_takeAway 31 = .ok (.iload 6, 2) := by decide +kernel
theorem dX11_takeAway_33 : decode cX11_takeAway 33 = .ok (.iadd, 1) := by decide +kernel
theorem dX11_takeAway_34 : decode cX11_takeAway 34 = .ok (.aload_n 0, 1) := by decide +kernel
theorem dX11_takeAway_35 : decode cX11_takeAway 35 = .ok (.getfield 44, 3) := by decide +kernel
theorem dX11_takeAway_38 : decode cX11_takeAway 38 = .ok (.bipush 17, 2) := by decide +kernel
theorem dX11_takeAway_40 : decode cX11_takeAway 40 = .ok (.iload_n 1, 1) := by decide +kernel
theorem dX11_takeAway_41 : decode cX11_takeAway 41 = .ok (.imul, 1) := by decide +kernel
theorem dX11_takeAway_42 : decode cX11_takeAway 42 = .ok (.iload 6, 2) := by decide +kernel
theorem dX11_takeAway_44 : decode cX11_takeAway 44 = .ok (.iadd, 1) := by decide +kernel
theorem dX11_takeAway_45 : decode cX11_takeAway 45 = .ok (.iaload, 1) := by decide +kernel
theorem dX11_takeAway_46 : decode cX11_takeAway 46 = .ok (.iload 5, 2) := by decide +kernel
theorem dX11_takeAway_48 : decode cX11_takeAway 48 = .ok (.aload_n 0, 1) := by decide +kernel
theorem dX11_takeAway_49 : decode cX11_takeAway 49 = .ok (.getfield 44, 3) := by decide +kernel
theorem dX11_takeAway_52 : decode cX11_takeAway 52 = .ok (.bipush 17, 2) := by decide +kernel
theorem dX11_takeAway_54 : decode cX11_takeAway 54 = .ok (.iload_n 2, 1) := by decide +kernel
theorem dX11_takeAway_55 : decode cX11_takeAway 55 = .ok (.imul, 1) := by decide +kernel
theorem dX11_takeAway_56 : decode cX11_takeAway 56 = .ok (.iload 6, 2) := by decide +kernel
theorem dX11_takeAway_58 : decode cX11_takeAway 58 = .ok (.iadd, 1) := by decide +kernel
theorem dX11_takeAway_59 : decode cX11_takeAway 59 = .ok (.iaload, 1) := by decide +kernel
theorem dX11_takeAway_60 : decode cX11_takeAway 60 = .ok (.imul, 1) := by decide +kernel
theorem dX11_takeAway_61 : decode cX11_takeAway 61 = .ok (.isub, 1) := by decide +kernel
theorem dX11_takeAway_62 : decode cX11_takeAway 62 = .ok (.iload 4, 2) := by decide +kernel
theorem dX11_takeAway_64 : decode cX11_takeAway 64 = .ok (.invokestatic 159, 3) := by decide +kernel
theorem dX11_takeAway_67 : decode cX11_takeAway 67 = .ok (.iastore, 1) := by decide +kernel
theorem dX11_takeAway_68 : decode cX11_takeAway 68 = .ok (.iinc 6 1, 3) := by decide +kernel
theorem dX11_takeAway_71 : decode cX11_takeAway 71 = .ok (.goto (-55), 3) := by decide +kernel
theorem dX11_takeAway_74 : decode cX11_takeAway 74 = .ok (.return_, 1) := by decide +kernel
theorem dX11_lineWith_0 : decode cX11_lineWith 0 = .ok (.iload_n 1, 1) := by decide +kernel
theorem dX11_lineWith_1 : decode cX11_lineWith 1 = .ok (.istore 4, 2) := by decide +kernel
theorem dX11_lineWith_3 : decode cX11_lineWith 3 = .ok (.iload 4, 2) := by decide +kernel
theorem dX11_lineWith_5 : decode cX11_lineWith 5 = .ok (.iload_n 2, 1) := by decide +kernel
theorem dX11_lineWith_6 : decode cX11_lineWith 6 = .ok (.if_icmp .ge 24, 3) := by decide +kernel
theorem dX11_lineWith_9 : decode cX11_lineWith 9 = .ok (.aload_n 0, 1) := by decide +kernel
theorem dX11_lineWith_10 : decode cX11_lineWith 10 = .ok (.getfield 44, 3) := by decide +kernel
theorem dX11_lineWith_13 : decode cX11_lineWith 13 = .ok (.bipush 17, 2) := by decide +kernel
theorem dX11_lineWith_15 : decode cX11_lineWith 15 = .ok (.iload 4, 2) := by decide +kernel
theorem dX11_lineWith_17 : decode cX11_lineWith 17 = .ok (.imul, 1) := by decide +kernel
theorem dX11_lineWith_18 : decode cX11_lineWith 18 = .ok (.iload_n 3, 1) := by decide +kernel
theorem dX11_lineWith_19 : decode cX11_lineWith 19 = .ok (.iadd, 1) := by decide +kernel
theorem dX11_lineWith_20 : decode cX11_lineWith 20 = .ok (.iaload, 1) := by decide +kernel
theorem dX11_lineWith_21 : decode cX11_lineWith 21 = .ok (.ifCond .ne 9, 3) := by decide +kernel
theorem dX11_lineWith_24 : decode cX11_lineWith 24 = .ok (.iinc 4 1, 3) := by decide +kernel
theorem dX11_lineWith_27 : decode cX11_lineWith 27 = .ok (.goto (-24), 3) := by decide +kernel
theorem dX11_lineWith_30 : decode cX11_lineWith 30 = .ok (.iload 4, 2) := by decide +kernel
theorem dX11_lineWith_32 : decode cX11_lineWith 32 = .ok (.ireturn, 1) := by decide +kernel
theorem dX11_isSolved_0 : decode cX11_isSolved 0 = .ok (.bipush 16, 2) := by decide +kernel
theorem dX11_isSolved_2 : decode cX11_isSolved 2 = .ok (.iload_n 2, 1) := by decide +kernel
theorem dX11_isSolved_3 : decode cX11_isSolved 3 = .ok (.isub, 1) := by decide +kernel
theorem dX11_isSolved_4 : decode cX11_isSolved 4 = .ok (.istore 4, 2) := by decide +kernel
theorem dX11_isSolved_6 : decode cX11_isSolved 6 = .ok (.iconst 0, 1) := by decide +kernel
theorem dX11_isSolved_7 : decode cX11_isSolved 7 = .ok (.istore 5, 2) := by decide +kernel
theorem dX11_isSolved_9 : decode cX11_isSolved 9 = .ok (.iload 5, 2) := by decide +kernel
theorem dX11_isSolved_11 : decode cX11_isSolved 11 = .ok (.sipush 272, 3) := by decide +kernel
theorem dX11_isSolved_14 : decode cX11_isSolved 14 = .ok (.if_icmp .ge 17, 3) := by decide +kernel
theorem dX11_isSolved_17 : decode cX11_isSolved 17 = .ok (.aload_n 0, 1) := by decide +kernel
theorem dX11_isSolved_18 : decode cX11_isSolved 18 = .ok (.getfield 44, 3) := by decide +kernel
theorem dX11_isSolved_21 : decode cX11_isSolved 21 = .ok (.iload 5, 2) := by decide +kernel
theorem dX11_isSolved_23 : decode cX11_isSolved 23 = .ok (.iconst 0, 1) := by decide +kernel
theorem dX11_isSolved_24 : decode cX11_isSolved 24 = .ok (.iastore, 1) := by decide +kernel
theorem dX11_isSolved_25 : decode cX11_isSolved 25 = .ok (.iinc 5 1, 3) := by decide +kernel
theorem dX11_isSolved_28 : decode cX11_isSolved 28 = .ok (.goto (-19), 3) := by decide +kernel
theorem dX11_isSolved_31 : decode cX11_isSolved 31 = .ok (.aload_n 0, 1) := by decide +kernel
theorem dX11_isSolved_32 : decode cX11_isSolved 32 = .ok (.iload_n 1, 1) := by decide +kernel
theorem dX11_isSolved_33 : decode cX11_isSolved 33 = .ok (.iload_n 2, 1) := by decide +kernel
theorem dX11_isSolved_34 : decode cX11_isSolved 34 = .ok (.invokevirtual 216, 3) := by decide +kernel
theorem dX11_isSolved_37 : decode cX11_isSolved 37 = .ok (.iconst 0, 1) := by decide +kernel
theorem dX11_isSolved_38 : decode cX11_isSolved 38 = .ok (.istore 5, 2) := by decide +kernel
theorem dX11_isSolved_40 : decode cX11_isSolved 40 = .ok (.iconst 0, 1) := by decide +kernel
theorem dX11_isSolved_41 : decode cX11_isSolved 41 = .ok (.istore 6, 2) := by decide +kernel
theorem dX11_isSolved_43 : decode cX11_isSolved 43 = .ok (.iload 6, 2) := by decide +kernel
theorem dX11_isSolved_45 : decode cX11_isSolved 45 = .ok (.iload_n 2, 1) := by decide +kernel
theorem dX11_isSolved_46 : decode cX11_isSolved 46 = .ok (.if_icmp .ge 90, 3) := by decide +kernel
theorem dX11_isSolved_49 : decode cX11_isSolved 49 = .ok (.aload_n 0, 1) := by decide +kernel
theorem dX11_isSolved_50 : decode cX11_isSolved 50 = .ok (.getfield 47, 3) := by decide +kernel
theorem dX11_isSolved_53 : decode cX11_isSolved 53 = .ok (.iload 6, 2) := by decide +kernel
theorem dX11_isSolved_55 : decode cX11_isSolved 55 = .ok (.iconst 0, 1) := by decide +kernel
theorem dX11_isSolved_56 : decode cX11_isSolved 56 = .ok (.iastore, 1) := by decide +kernel
theorem dX11_isSolved_57 : decode cX11_isSolved 57 = .ok (.aload_n 0, 1) := by decide +kernel
theorem dX11_isSolved_58 : decode cX11_isSolved 58 = .ok (.iload 5, 2) := by decide +kernel
theorem dX11_isSolved_60 : decode cX11_isSolved 60 = .ok (.iload 4, 2) := by decide +kernel
theorem dX11_isSolved_62 : decode cX11_isSolved 62 = .ok (.iload 6, 2) := by decide +kernel
theorem dX11_isSolved_64 : decode cX11_isSolved 64 = .ok (.invokevirtual 219, 3) := by decide +kernel
theorem dX11_isSolved_67 : decode cX11_isSolved 67 = .ok (.istore 7, 2) := by decide +kernel
theorem dX11_isSolved_69 : decode cX11_isSolved 69 = .ok (.iload 7, 2) := by decide +kernel
theorem dX11_isSolved_71 : decode cX11_isSolved 71 = .ok (.iload 4, 2) := by decide +kernel
theorem dX11_isSolved_73 : decode cX11_isSolved 73 = .ok (.if_icmp .ge 57, 3) := by decide +kernel
theorem dX11_isSolved_76 : decode cX11_isSolved 76 = .ok (.aload_n 0, 1) := by decide +kernel
theorem dX11_isSolved_77 : decode cX11_isSolved 77 = .ok (.iload 5, 2) := by decide +kernel
theorem dX11_isSolved_79 : decode cX11_isSolved 79 = .ok (.iload 7, 2) := by decide +kernel
theorem dX11_isSolved_81 : decode cX11_isSolved 81 = .ok (.invokevirtual 222, 3) := by decide +kernel
theorem dX11_isSolved_84 : decode cX11_isSolved 84 = .ok (.aload_n 0, 1) := by decide +kernel
theorem dX11_isSolved_85 : decode cX11_isSolved 85 = .ok (.iload 5, 2) := by decide +kernel
theorem dX11_isSolved_87 : decode cX11_isSolved 87 = .ok (.iload 6, 2) := by decide +kernel
theorem dX11_isSolved_89 : decode cX11_isSolved 89 = .ok (.iload_n 3, 1) := by decide +kernel
theorem dX11_isSolved_90 : decode cX11_isSolved 90 = .ok (.invokevirtual 225, 3) := by decide +kernel
theorem dX11_isSolved_93 : decode cX11_isSolved 93 = .ok (.iconst 0, 1) := by decide +kernel
theorem dX11_isSolved_94 : decode cX11_isSolved 94 = .ok (.istore 8, 2) := by decide +kernel
theorem dX11_isSolved_96 : decode cX11_isSolved 96 = .ok (.iload 8, 2) := by decide +kernel
theorem dX11_isSolved_98 : decode cX11_isSolved 98 = .ok (.iload 4, 2) := by decide +kernel
theorem dX11_isSolved_100 : decode cX11_isSolved 100 = .ok (.if_icmp .ge 27, 3) := by decide +kernel
theorem dX11_isSolved_103 : decode cX11_isSolved 103 = .ok (.iload 8, 2) := by decide +kernel
theorem dX11_isSolved_105 : decode cX11_isSolved 105 = .ok (.iload 5, 2) := by decide +kernel
theorem dX11_isSolved_107 : decode cX11_isSolved 107 = .ok (.if_icmp .eq 14, 3) := by decide +kernel
theorem dX11_isSolved_110 : decode cX11_isSolved 110 = .ok (.aload_n 0, 1) := by decide +kernel
theorem dX11_isSolved_111 : decode cX11_isSolved 111 = .ok (.iload 8, 2) := by decide +kernel
theorem dX11_isSolved_113 : decode cX11_isSolved 113 = .ok (.iload 5, 2) := by decide +kernel
theorem dX11_isSolved_115 : decode cX11_isSolved 115 = .ok (.iload 6, 2) := by decide +kernel
theorem dX11_isSolved_117 : decode cX11_isSolved 117 = .ok (.iload_n 3, 1) := by decide +kernel
theorem dX11_isSolved_118 : decode cX11_isSolved 118 = .ok (.invokevirtual 229, 3) := by decide +kernel
theorem dX11_isSolved_121 : decode cX11_isSolved 121 = .ok (.iinc 8 1, 3) := by decide +kernel
theorem dX11_isSolved_124 : decode cX11_isSolved 124 = .ok (.goto (-28), 3) := by decide +kernel
theorem dX11_isSolved_127 : decode cX11_isSolved 127 = .ok (.iinc 5 1, 3) := by decide +kernel
theorem dX11_isSolved_130 : decode cX11_isSolved 130 = .ok (.iinc 6 1, 3) := by decide +kernel
theorem dX11_isSolved_133 : decode cX11_isSolved 133 = .ok (.goto (-90), 3) := by decide +kernel
theorem dX11_isSolved_136 : decode cX11_isSolved 136 = .ok (.aload_n 0, 1) := by decide +kernel
theorem dX11_isSolved_137 : decode cX11_isSolved 137 = .ok (.iload 5, 2) := by decide +kernel
theorem dX11_isSolved_139 : decode cX11_isSolved 139 = .ok (.iload 4, 2) := by decide +kernel
theorem dX11_isSolved_141 : decode cX11_isSolved 141 = .ok (.iload_n 2, 1) := by decide +kernel
theorem dX11_isSolved_142 : decode cX11_isSolved 142 = .ok (.invokevirtual 233, 3) := by decide +kernel
theorem dX11_isSolved_145 : decode cX11_isSolved 145 = .ok (.ireturn, 1) := by decide +kernel
theorem dX11_isMet_0 : decode cX11_isMet 0 = .ok (.iconst 1, 1) := by decide +kernel
theorem dX11_isMet_1 : decode cX11_isMet 1 = .ok (.istore 4, 2) := by decide +kernel
theorem dX11_isMet_3 : decode cX11_isMet 3 = .ok (.iload_n 1, 1) := by decide +kernel
theorem dX11_isMet_4 : decode cX11_isMet 4 = .ok (.istore 5, 2) := by decide +kernel
theorem dX11_isMet_6 : decode cX11_isMet 6 = .ok (.iload 5, 2) := by decide +kernel
theorem dX11_isMet_8 : decode cX11_isMet 8 = .ok (.iload_n 2, 1) := by decide +kernel
theorem dX11_isMet_9 : decode cX11_isMet 9 = .ok (.if_icmp .ge 36, 3) := by decide +kernel
theorem dX11_isMet_12 : decode cX11_isMet 12 = .ok (.iload 4, 2) := by decide +kernel
theorem dX11_isMet_14 : decode cX11_isMet 14 = .ok (.ifCond .eq 22, 3) := by decide +kernel
theorem dX11_isMet_17 : decode cX11_isMet 17 = .ok (.aload_n 0, 1) := by decide +kernel
theorem dX11_isMet_18 : decode cX11_isMet 18 = .ok (.getfield 44, 3) := by decide +kernel
theorem dX11_isMet_21 : decode cX11_isMet 21 = .ok (.bipush 17, 2) := by decide +kernel
theorem dX11_isMet_23 : decode cX11_isMet 23 = .ok (.iload 5, 2) := by decide +kernel
theorem dX11_isMet_25 : decode cX11_isMet 25 = .ok (.imul, 1) := by decide +kernel
theorem dX11_isMet_26 : decode cX11_isMet 26 = .ok (.iload_n 3, 1) := by decide +kernel
theorem dX11_isMet_27 : decode cX11_isMet 27 = .ok (.iadd, 1) := by decide +kernel
theorem dX11_isMet_28 : decode cX11_isMet 28 = .ok (.iaload, 1) := by decide +kernel
theorem dX11_isMet_29 : decode cX11_isMet 29 = .ok (.ifCond .ne 7, 3) := by decide +kernel
theorem dX11_isMet_32 : decode cX11_isMet 32 = .ok (.iconst 1, 1) := by decide +kernel
theorem dX11_isMet_33 : decode cX11_isMet 33 = .ok (.goto 4, 3) := by decide +kernel
theorem dX11_isMet_36 : decode cX11_isMet 36 = .ok (.iconst 0, 1) := by decide +kernel
theorem dX11_isMet_37 : decode cX11_isMet 37 = .ok (.istore 4, 2) := by decide +kernel
theorem dX11_isMet_39 : decode cX11_isMet 39 = .ok (.iinc 5 1, 3) := by decide +kernel
theorem dX11_isMet_42 : decode cX11_isMet 42 = .ok (.goto (-36), 3) := by decide +kernel
theorem dX11_isMet_45 : decode cX11_isMet 45 = .ok (.iconst 0, 1) := by decide +kernel
theorem dX11_isMet_46 : decode cX11_isMet 46 = .ok (.istore 5, 2) := by decide +kernel
theorem dX11_isMet_48 : decode cX11_isMet 48 = .ok (.iload 5, 2) := by decide +kernel
theorem dX11_isMet_50 : decode cX11_isMet 50 = .ok (.iload_n 1, 1) := by decide +kernel
theorem dX11_isMet_51 : decode cX11_isMet 51 = .ok (.if_icmp .ge 53, 3) := by decide +kernel
theorem dX11_isMet_54 : decode cX11_isMet 54 = .ok (.iconst 0, 1) := by decide +kernel
theorem dX11_isMet_55 : decode cX11_isMet 55 = .ok (.istore 6, 2) := by decide +kernel
theorem dX11_isMet_57 : decode cX11_isMet 57 = .ok (.aload_n 0, 1) := by decide +kernel
theorem dX11_isMet_58 : decode cX11_isMet 58 = .ok (.getfield 44, 3) := by decide +kernel
theorem dX11_isMet_61 : decode cX11_isMet 61 = .ok (.bipush 17, 2) := by decide +kernel
theorem dX11_isMet_63 : decode cX11_isMet 63 = .ok (.iload 5, 2) := by decide +kernel
theorem dX11_isMet_65 : decode cX11_isMet 65 = .ok (.imul, 1) := by decide +kernel
theorem dX11_isMet_66 : decode cX11_isMet 66 = .ok (.iload 6, 2) := by decide +kernel
theorem dX11_isMet_68 : decode cX11_isMet 68 = .ok (.iadd, 1) := by decide +kernel
theorem dX11_isMet_69 : decode cX11_isMet 69 = .ok (.iaload, 1) := by decide +kernel
theorem dX11_isMet_70 : decode cX11_isMet 70 = .ok (.ifCond .ne 9, 3) := by decide +kernel
theorem dX11_isMet_73 : decode cX11_isMet 73 = .ok (.iinc 6 1, 3) := by decide +kernel
theorem dX11_isMet_76 : decode cX11_isMet 76 = .ok (.goto (-19), 3) := by decide +kernel
theorem dX11_isMet_79 : decode cX11_isMet 79 = .ok (.aload_n 0, 1) := by decide +kernel
theorem dX11_isMet_80 : decode cX11_isMet 80 = .ok (.getfield 47, 3) := by decide +kernel
theorem dX11_isMet_83 : decode cX11_isMet 83 = .ok (.iload 6, 2) := by decide +kernel
theorem dX11_isMet_85 : decode cX11_isMet 85 = .ok (.aload_n 0, 1) := by decide +kernel
theorem dX11_isMet_86 : decode cX11_isMet 86 = .ok (.getfield 44, 3) := by decide +kernel
theorem dX11_isMet_89 : decode cX11_isMet 89 = .ok (.bipush 17, 2) := by decide +kernel
theorem dX11_isMet_91 : decode cX11_isMet 91 = .ok (.iload 5, 2) := by decide +kernel
theorem dX11_isMet_93 : decode cX11_isMet 93 = .ok (.imul, 1) := by decide +kernel
theorem dX11_isMet_94 : decode cX11_isMet 94 = .ok (.iload_n 3, 1) := by decide +kernel
theorem dX11_isMet_95 : decode cX11_isMet 95 = .ok (.iadd, 1) := by decide +kernel
theorem dX11_isMet_96 : decode cX11_isMet 96 = .ok (.iaload, 1) := by decide +kernel
theorem dX11_isMet_97 : decode cX11_isMet 97 = .ok (.iastore, 1) := by decide +kernel
theorem dX11_isMet_98 : decode cX11_isMet 98 = .ok (.iinc 5 1, 3) := by decide +kernel
theorem dX11_isMet_101 : decode cX11_isMet 101 = .ok (.goto (-53), 3) := by decide +kernel
theorem dX11_isMet_104 : decode cX11_isMet 104 = .ok (.iload 4, 2) := by decide +kernel
theorem dX11_isMet_106 : decode cX11_isMet 106 = .ok (.ireturn, 1) := by decide +kernel
theorem dX11_leastNow_0 : decode cX11_leastNow 0 = .ok (.aload_n 0, 1) := by decide +kernel
theorem dX11_leastNow_1 : decode cX11_leastNow 1 = .ok (.iload_n 2, 1) := by decide +kernel
theorem dX11_leastNow_2 : decode cX11_leastNow 2 = .ok (.invokevirtual 204, 3) := by decide +kernel
theorem dX11_leastNow_5 : decode cX11_leastNow 5 = .ok (.iconst 0, 1) := by decide +kernel
theorem dX11_leastNow_6 : decode cX11_leastNow 6 = .ok (.istore 4, 2) := by decide +kernel
theorem dX11_leastNow_8 : decode cX11_leastNow 8 = .ok (.aload_n 0, 1) := by decide +kernel
theorem dX11_leastNow_9 : decode cX11_leastNow 9 = .ok (.iload_n 1, 1) := by decide +kernel
theorem dX11_leastNow_10 : decode cX11_leastNow 10 = .ok (.iload 4, 2) := by decide +kernel
theorem dX11_leastNow_12 : decode cX11_leastNow 12 = .ok (.iload_n 2, 1) := by decide +kernel
theorem dX11_leastNow_13 : decode cX11_leastNow 13 = .ok (.invokevirtual 236, 3) := by decide +kernel
theorem dX11_leastNow_16 : decode cX11_leastNow 16 = .ok (.ifCond .ne 9, 3) := by decide +kernel
theorem dX11_leastNow_19 : decode cX11_leastNow 19 = .ok (.iinc 4 1, 3) := by decide +kernel
theorem dX11_leastNow_22 : decode cX11_leastNow 22 = .ok (.goto (-14), 3) := by decide +kernel
theorem dX11_leastNow_25 : decode cX11_leastNow 25 = .ok (.iload_n 3, 1) := by decide +kernel
theorem dX11_leastNow_26 : decode cX11_leastNow 26 = .ok (.ifCond .ne 6, 3) := by decide +kernel
theorem dX11_leastNow_29 : decode cX11_leastNow 29 = .ok (.iload 4, 2) := by decide +kernel
theorem dX11_leastNow_31 : decode cX11_leastNow 31 = .ok (.ireturn, 1) := by decide +kernel
theorem dX11_leastNow_32 : decode cX11_leastNow 32 = .ok (.iload 4, 2) := by decide +kernel
theorem dX11_leastNow_34 : decode cX11_leastNow 34 = .ok (.bipush 8, 2) := by decide +kernel
theorem dX11_leastNow_36 : decode cX11_leastNow 36 = .ok (.if_icmp .le 8, 3) := by decide +kernel
theorem dX11_leastNow_39 : decode cX11_leastNow 39 = .ok (.ldc 54, 2) := by decide +kernel
theorem dX11_leastNow_41 : decode cX11_leastNow 41 = .ok (.goto 21, 3) := by decide +kernel
theorem dX11_leastNow_44 : decode cX11_leastNow 44 = .ok (.iload_n 3, 1) := by decide +kernel
theorem dX11_leastNow_45 : decode cX11_leastNow 45 = .ok (.iload 4, 2) := by decide +kernel
theorem dX11_leastNow_47 : decode cX11_leastNow 47 = .ok (.if_icmp .le 7, 3) := by decide +kernel
theorem dX11_leastNow_50 : decode cX11_leastNow 50 = .ok (.iconst 0, 1) := by decide +kernel
theorem dX11_leastNow_51 : decode cX11_leastNow 51 = .ok (.goto 11, 3) := by decide +kernel
theorem dX11_leastNow_54 : decode cX11_leastNow 54 = .ok (.aload_n 0, 1) := by decide +kernel
theorem dX11_leastNow_55 : decode cX11_leastNow 55 = .ok (.getfield 47, 3) := by decide +kernel
theorem dX11_leastNow_58 : decode cX11_leastNow 58 = .ok (.iload_n 3, 1) := by decide +kernel
theorem dX11_leastNow_59 : decode cX11_leastNow 59 = .ok (.iconst 1, 1) := by decide +kernel
theorem dX11_leastNow_60 : decode cX11_leastNow 60 = .ok (.isub, 1) := by decide +kernel
theorem dX11_leastNow_61 : decode cX11_leastNow 61 = .ok (.iaload, 1) := by decide +kernel
theorem dX11_leastNow_62 : decode cX11_leastNow 62 = .ok (.ireturn, 1) := by decide +kernel
theorem dX11_isPrime_0 : decode cX11_isPrime 0 = .ok (.iload_n 0, 1) := by decide +kernel
theorem dX11_isPrime_1 : decode cX11_isPrime 1 = .ok (.iconst 2, 1) := by decide +kernel
theorem dX11_isPrime_2 : decode cX11_isPrime 2 = .ok (.if_icmp .eq 19, 3) := by decide +kernel
theorem dX11_isPrime_5 : decode cX11_isPrime 5 = .ok (.iload_n 0, 1) := by decide +kernel
theorem dX11_isPrime_6 : decode cX11_isPrime 6 = .ok (.iconst 3, 1) := by decide +kernel
theorem dX11_isPrime_7 : decode cX11_isPrime 7 = .ok (.if_icmp .eq 14, 3) := by decide +kernel
theorem dX11_isPrime_10 : decode cX11_isPrime 10 = .ok (.iload_n 0, 1) := by decide +kernel
theorem dX11_isPrime_11 : decode cX11_isPrime 11 = .ok (.iconst 5, 1) := by decide +kernel
theorem dX11_isPrime_12 : decode cX11_isPrime 12 = .ok (.if_icmp .eq 9, 3) := by decide +kernel
theorem dX11_isPrime_15 : decode cX11_isPrime 15 = .ok (.iload_n 0, 1) := by decide +kernel
theorem dX11_isPrime_16 : decode cX11_isPrime 16 = .ok (.bipush 7, 2) := by decide +kernel
theorem dX11_isPrime_18 : decode cX11_isPrime 18 = .ok (.if_icmp .ne 7, 3) := by decide +kernel
theorem dX11_isPrime_21 : decode cX11_isPrime 21 = .ok (.iconst 1, 1) := by decide +kernel
theorem dX11_isPrime_22 : decode cX11_isPrime 22 = .ok (.goto 4, 3) := by decide +kernel
theorem dX11_isPrime_25 : decode cX11_isPrime 25 = .ok (.iconst 0, 1) := by decide +kernel
theorem dX11_isPrime_26 : decode cX11_isPrime 26 = .ok (.ireturn, 1) := by decide +kernel
theorem dX11_least_0 : decode cX11_least 0 = .ok (.aload_n 0, 1) := by decide +kernel
theorem dX11_least_1 : decode cX11_least 1 = .ok (.iload_n 1, 1) := by decide +kernel
theorem dX11_least_2 : decode cX11_least 2 = .ok (.invokevirtual 193, 3) := by decide +kernel
theorem dX11_least_5 : decode cX11_least 5 = .ok (.ifCond .ne 6, 3) := by decide +kernel
theorem dX11_least_8 : decode cX11_least 8 = .ok (.ldc 196, 2) := by decide +kernel
theorem dX11_least_10 : decode cX11_least 10 = .ok (.ireturn, 1) := by decide +kernel
theorem dX11_least_11 : decode cX11_least 11 = .ok (.iload_n 2, 1) := by decide +kernel
theorem dX11_least_12 : decode cX11_least 12 = .ok (.invokestatic 239, 3) := by decide +kernel
theorem dX11_least_15 : decode cX11_least 15 = .ok (.ifCond .eq 23, 3) := by decide +kernel
theorem dX11_least_18 : decode cX11_least 18 = .ok (.iload_n 3, 1) := by decide +kernel
theorem dX11_least_19 : decode cX11_least 19 = .ok (.iconst 0, 1) := by decide +kernel
theorem dX11_least_20 : decode cX11_least 20 = .ok (.bipush 8, 2) := by decide +kernel
theorem dX11_least_22 : decode cX11_least 22 = .ok (.invokestatic 68, 3) := by decide +kernel
theorem dX11_least_25 : decode cX11_least 25 = .ok (.ifCond .eq 13, 3) := by decide +kernel
theorem dX11_least_28 : decode cX11_least 28 = .ok (.aload_n 0, 1) := by decide +kernel
theorem dX11_least_29 : decode cX11_least 29 = .ok (.iload_n 1, 1) := by decide +kernel
theorem dX11_least_30 : decode cX11_least 30 = .ok (.iload_n 2, 1) := by decide +kernel
theorem dX11_least_31 : decode cX11_least 31 = .ok (.iload_n 3, 1) := by decide +kernel
theorem dX11_least_32 : decode cX11_least 32 = .ok (.invokevirtual 242, 3) := by decide +kernel
theorem dX11_least_35 : decode cX11_least 35 = .ok (.goto 5, 3) := by decide +kernel
theorem dX11_least_38 : decode cX11_least 38 = .ok (.ldc 72, 2) := by decide +kernel
theorem dX11_least_40 : decode cX11_least 40 = .ok (.ireturn, 1) := by decide +kernel
theorem dX11_isTold_0 : decode cX11_isTold 0 = .ok (.aload_n 0, 1) := by decide +kernel
theorem dX11_isTold_1 : decode cX11_isTold 1 = .ok (.getfield 7, 3) := by decide +kernel
theorem dX11_isTold_4 : decode cX11_isTold 4 = .ok (.iload_n 1, 1) := by decide +kernel
theorem dX11_isTold_5 : decode cX11_isTold 5 = .ok (.iaload, 1) := by decide +kernel
theorem dX11_isTold_6 : decode cX11_isTold 6 = .ok (.ifCond .ne 7, 3) := by decide +kernel
theorem dX11_isTold_9 : decode cX11_isTold 9 = .ok (.iconst 1, 1) := by decide +kernel
theorem dX11_isTold_10 : decode cX11_isTold 10 = .ok (.goto 4, 3) := by decide +kernel
theorem dX11_isTold_13 : decode cX11_isTold 13 = .ok (.iconst 0, 1) := by decide +kernel
theorem dX11_isTold_14 : decode cX11_isTold 14 = .ok (.ireturn, 1) := by decide +kernel
theorem dX11_arePartsTold_0 : decode cX11_arePartsTold 0 = .ok (.aload_n 0, 1) := by decide +kernel
theorem dX11_arePartsTold_1 : decode cX11_arePartsTold 1 = .ok (.getfield 7, 3) := by decide +kernel
theorem dX11_arePartsTold_4 : decode cX11_arePartsTold 4 = .ok (.iload_n 1, 1) := by decide +kernel
theorem dX11_arePartsTold_5 : decode cX11_arePartsTold 5 = .ok (.iaload, 1) := by decide +kernel
theorem dX11_arePartsTold_6 : decode cX11_arePartsTold 6 = .ok (.iconst 1, 1) := by decide +kernel
theorem dX11_arePartsTold_7 : decode cX11_arePartsTold 7 = .ok (.if_icmp .eq 13, 3) := by decide +kernel
theorem dX11_arePartsTold_10 : decode cX11_arePartsTold 10 = .ok (.aload_n 0, 1) := by decide +kernel
theorem dX11_arePartsTold_11 : decode cX11_arePartsTold 11 = .ok (.getfield 7, 3) := by decide +kernel
theorem dX11_arePartsTold_14 : decode cX11_arePartsTold 14 = .ok (.iload_n 1, 1) := by decide +kernel
theorem dX11_arePartsTold_15 : decode cX11_arePartsTold 15 = .ok (.iaload, 1) := by decide +kernel
theorem dX11_arePartsTold_16 : decode cX11_arePartsTold 16 = .ok (.iconst 2, 1) := by decide +kernel
theorem dX11_arePartsTold_17 : decode cX11_arePartsTold 17 = .ok (.if_icmp .ne 7, 3) := by decide +kernel
theorem dX11_arePartsTold_20 : decode cX11_arePartsTold 20 = .ok (.iconst 1, 1) := by decide +kernel
theorem dX11_arePartsTold_21 : decode cX11_arePartsTold 21 = .ok (.goto 4, 3) := by decide +kernel
theorem dX11_arePartsTold_24 : decode cX11_arePartsTold 24 = .ok (.iconst 0, 1) := by decide +kernel
theorem dX11_arePartsTold_25 : decode cX11_arePartsTold 25 = .ok (.istore_n 2, 1) := by decide +kernel
theorem dX11_arePartsTold_26 : decode cX11_arePartsTold 26 = .ok (.aload_n 0, 1) := by decide +kernel
theorem dX11_arePartsTold_27 : decode cX11_arePartsTold 27 = .ok (.getfield 7, 3) := by decide +kernel
theorem dX11_arePartsTold_30 : decode cX11_arePartsTold 30 = .ok (.iload_n 1, 1) := by decide +kernel
theorem dX11_arePartsTold_31 : decode cX11_arePartsTold 31 = .ok (.iaload, 1) := by decide +kernel
theorem dX11_arePartsTold_32 : decode cX11_arePartsTold 32 = .ok (.ifCond .eq 43, 3) := by decide +kernel
theorem dX11_arePartsTold_35 : decode cX11_arePartsTold 35 = .ok (.aload_n 0, 1) := by decide +kernel
theorem dX11_arePartsTold_36 : decode cX11_arePartsTold 36 = .ok (.aload_n 0, 1) := by decide +kernel
theorem dX11_arePartsTold_37 : decode cX11_arePartsTold 37 = .ok (.getfield 13, 3) := by decide +kernel
theorem dX11_arePartsTold_40 : decode cX11_arePartsTold 40 = .ok (.iconst 4, 1) := by decide +kernel
theorem dX11_arePartsTold_41 : decode cX11_arePartsTold 41 = .ok (.iload_n 1, 1) := by decide +kernel
