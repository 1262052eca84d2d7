theorem dX8_signOf_68 : decode cX8_signOf 68 = .ok (.aload_n 0, 1) := by decide +kernel
theorem dX8_signOf_69 : decode cX8_signOf 69 = .ok (.getfield 87, 3) := by decide +kernel
theorem dX8_signOf_72 : decode cX8_signOf 72 = .ok (.i2l, 1) := by decide +kernel
theorem dX8_signOf_73 : decode cX8_signOf 73 = .ok (.lload_n 3, 1) := by decide +kernel
theorem dX8_signOf_74 : decode cX8_signOf 74 = .ok (.lmul, 1) := by decide +kernel
theorem dX8_signOf_75 : decode cX8_signOf 75 = .ok (.lload_n 3, 1) := by decide +kernel
theorem dX8_signOf_76 : decode cX8_signOf 76 = .ok (.lmul, 1) := by decide +kernel
theorem dX8_signOf_77 : decode cX8_signOf 77 = .ok (.lstore 7, 2) := by decide +kernel
theorem dX8_signOf_79 : decode cX8_signOf 79 = .ok (.lload_n 1, 1) := by decide +kernel
theorem dX8_signOf_80 : decode cX8_signOf 80 = .ok (.lconst 0, 1) := by decide +kernel
theorem dX8_signOf_81 : decode cX8_signOf 81 = .ok (.lcmp, 1) := by decide +kernel
theorem dX8_signOf_82 : decode cX8_signOf 82 = .ok (.ifCond .le 29, 3) := by decide +kernel
theorem dX8_signOf_85 : decode cX8_signOf 85 = .ok (.lload 5, 2) := by decide +kernel
theorem dX8_signOf_87 : decode cX8_signOf 87 = .ok (.lload 7, 2) := by decide +kernel
theorem dX8_signOf_89 : decode cX8_signOf 89 = .ok (.lcmp, 1) := by decide +kernel
theorem dX8_signOf_90 : decode cX8_signOf 90 = .ok (.ifCond .le 7, 3) := by decide +kernel
theorem dX8_signOf_93 : decode cX8_signOf 93 = .ok (.iconst 1, 1) := by decide +kernel
theorem dX8_signOf_94 : decode cX8_signOf 94 = .ok (.goto 16, 3) := by decide +kernel
theorem dX8_signOf_97 : decode cX8_signOf 97 = .ok (.lload 5, 2) := by decide +kernel
theorem dX8_signOf_99 : decode cX8_signOf 99 = .ok (.lload 7, 2) := by decide +kernel
theorem dX8_signOf_101 : decode cX8_signOf 101 = .ok (.lcmp, 1) := by decide +kernel
theorem dX8_signOf_102 : decode cX8_signOf 102 = .ok (.ifCond .ge 7, 3) := by decide +kernel
theorem dX8_signOf_105 : decode cX8_signOf 105 = .ok (.iconst (-1), 1) := by decide +kernel
theorem dX8_signOf_106 : decode cX8_signOf 106 = .ok (.goto 4, 3) := by decide +kernel
theorem dX8_signOf_109 : decode cX8_signOf 109 = .ok (.iconst 0, 1) := by decide +kernel
theorem dX8_signOf_110 : decode cX8_signOf 110 = .ok (.ireturn, 1) := by decide +kernel
theorem dX8_signOf_111 : decode cX8_signOf 111 = .ok (.lload 7, 2) := by decide +kernel
theorem dX8_signOf_113 : decode cX8_signOf 113 = .ok (.lload 5, 2) := by decide +kernel
theorem dX8_signOf_115 : decode cX8_signOf 115 = .ok (.lcmp, 1) := by decide +kernel
theorem dX8_signOf_116 : decode cX8_signOf 116 = .ok (.ifCond .le 7, 3) := by decide +kernel
theorem dX8_signOf_119 : decode cX8_signOf 119 = .ok (.iconst 1, 1) := by decide +kernel
theorem dX8_signOf_120 : decode cX8_signOf 120 = .ok (.goto 16, 3) := by decide +kernel
theorem dX8_signOf_123 : decode cX8_signOf 123 = .ok (.lload 7, 2) := by decide +kernel
theorem dX8_signOf_125 : decode cX8_signOf 125 = .ok (.lload 5, 2) := by decide +kernel
theorem dX8_signOf_127 : decode cX8_signOf 127 = .ok (.lcmp, 1) := by decide +kernel
theorem dX8_signOf_128 : decode cX8_signOf 128 = .ok (.ifCond .ge 7, 3) := by decide +kernel
theorem dX8_signOf_131 : decode cX8_signOf 131 = .ok (.iconst (-1), 1) := by decide +kernel
theorem dX8_signOf_132 : decode cX8_signOf 132 = .ok (.goto 4, 3) := by decide +kernel
theorem dX8_signOf_135 : decode cX8_signOf 135 = .ok (.iconst 0, 1) := by decide +kernel
theorem dX8_signOf_136 : decode cX8_signOf 136 = .ok (.ireturn, 1) := by decide +kernel
theorem dX8_forgets_0 : decode cX8_forgets 0 = .ok (.iconst 0, 1) := by decide +kernel
theorem dX8_forgets_1 : decode cX8_forgets 1 = .ok (.istore_n 1, 1) := by decide +kernel
theorem dX8_forgets_2 : decode cX8_forgets 2 = .ok (.iload_n 1, 1) := by decide +kernel
theorem dX8_forgets_3 : decode cX8_forgets 3 = .ok (.bipush 8, 2) := by decide +kernel
theorem dX8_forgets_5 : decode cX8_forgets 5 = .ok (.if_icmp .ge 23, 3) := by decide +kernel
theorem dX8_forgets_8 : decode cX8_forgets 8 = .ok (.aload_n 0, 1) := by decide +kernel
theorem dX8_forgets_9 : decode cX8_forgets 9 = .ok (.getfield 7, 3) := by decide +kernel
theorem dX8_forgets_12 : decode cX8_forgets 12 = .ok (.iload_n 1, 1) := by decide +kernel
theorem dX8_forgets_13 : decode cX8_forgets 13 = .ok (.iconst 0, 1) := by decide +kernel
theorem dX8_forgets_14 : decode cX8_forgets 14 = .ok (.iastore, 1) := by decide +kernel
theorem dX8_forgets_15 : decode cX8_forgets 15 = .ok (.aload_n 0, 1) := by decide +kernel
theorem dX8_forgets_16 : decode cX8_forgets 16 = .ok (.getfield 13, 3) := by decide +kernel
theorem dX8_forgets_19 : decode cX8_forgets 19 = .ok (.iload_n 1, 1) := by decide +kernel
theorem dX8_forgets_20 : decode cX8_forgets 20 = .ok (.iconst 0, 1) := by decide +kernel
theorem dX8_forgets_21 : decode cX8_forgets 21 = .ok (.iastore, 1) := by decide +kernel
theorem dX8_forgets_22 : decode cX8_forgets 22 = .ok (.iinc 1 1, 3) := by decide +kernel
theorem dX8_forgets_25 : decode cX8_forgets 25 = .ok (.goto (-23), 3) := by decide +kernel
theorem dX8_forgets_28 : decode cX8_forgets 28 = .ok (.aload_n 0, 1) := by decide +kernel
theorem dX8_forgets_29 : decode cX8_forgets 29 = .ok (.iconst 0, 1) := by decide +kernel
theorem dX8_forgets_30 : decode cX8_forgets 30 = .ok (.putfield 91, 3) := by decide +kernel
theorem dX8_forgets_33 : decode cX8_forgets 33 = .ok (.aload_n 0, 1) := by decide +kernel
theorem dX8_forgets_34 : decode cX8_forgets 34 = .ok (.iconst 0, 1) := by decide +kernel
theorem dX8_forgets_35 : decode cX8_forgets 35 = .ok (.putfield 94, 3) := by decide +kernel
theorem dX8_forgets_38 : decode cX8_forgets 38 = .ok (.aload_n 0, 1) := by decide +kernel
theorem dX8_forgets_39 : decode cX8_forgets 39 = .ok (.iconst 0, 1) := by decide +kernel
theorem dX8_forgets_40 : decode cX8_forgets 40 = .ok (.putfield 97, 3) := by decide +kernel
theorem dX8_forgets_43 : decode cX8_forgets 43 = .ok (.aload_n 0, 1) := by decide +kernel
theorem dX8_forgets_44 : decode cX8_forgets 44 = .ok (.iconst 0, 1) := by decide +kernel
theorem dX8_forgets_45 : decode cX8_forgets 45 = .ok (.putfield 101, 3) := by decide +kernel
theorem dX8_forgets_48 : decode cX8_forgets 48 = .ok (.aload_n 0, 1) := by decide +kernel
theorem dX8_forgets_49 : decode cX8_forgets 49 = .ok (.iconst 0, 1) := by decide +kernel
theorem dX8_forgets_50 : decode cX8_forgets 50 = .ok (.putfield 104, 3) := by decide +kernel
theorem dX8_forgets_53 : decode cX8_forgets 53 = .ok (.return_, 1) := by decide +kernel
theorem dX8_root_0 : decode cX8_root 0 = .ok (.iload_n 1, 1) := by decide +kernel
theorem dX8_root_1 : decode cX8_root 1 = .ok (.ifCond .eq 26, 3) := by decide +kernel
theorem dX8_root_4 : decode cX8_root 4 = .ok (.iload_n 1, 1) := by decide +kernel
theorem dX8_root_5 : decode cX8_root 5 = .ok (.iconst 2, 1) := by decide +kernel
theorem dX8_root_6 : decode cX8_root 6 = .ok (.if_icmp .eq 21, 3) := by decide +kernel
theorem dX8_root_9 : decode cX8_root 9 = .ok (.iload_n 1, 1) := by decide +kernel
theorem dX8_root_10 : decode cX8_root 10 = .ok (.iconst 3, 1) := by decide +kernel
theorem dX8_root_11 : decode cX8_root 11 = .ok (.if_icmp .eq 16, 3) := by decide +kernel
theorem dX8_root_14 : decode cX8_root 14 = .ok (.iload_n 1, 1) := by decide +kernel
theorem dX8_root_15 : decode cX8_root 15 = .ok (.iconst 5, 1) := by decide +kernel
theorem dX8_root_16 : decode cX8_root 16 = .ok (.if_icmp .eq 11, 3) := by decide +kernel
theorem dX8_root_19 : decode cX8_root 19 = .ok (.iload_n 1, 1) := by decide +kernel
theorem dX8_root_20 : decode cX8_root 20 = .ok (.bipush 7, 2) := by decide +kernel
theorem dX8_root_22 : decode cX8_root 22 = .ok (.if_icmp .eq 5, 3) := by decide +kernel
theorem dX8_root_25 : decode cX8_root 25 = .ok (.iconst 0, 1) := by decide +kernel
theorem dX8_root_26 : decode cX8_root 26 = .ok (.ireturn, 1) := by decide +kernel
theorem dX8_root_27 : decode cX8_root 27 = .ok (.aload_n 0, 1) := by decide +kernel
theorem dX8_root_28 : decode cX8_root 28 = .ok (.invokevirtual 107, 3) := by decide +kernel
theorem dX8_root_31 : decode cX8_root 31 = .ok (.aload_n 0, 1) := by decide +kernel
theorem dX8_root_32 : decode cX8_root 32 = .ok (.iload_n 1, 1) := by decide +kernel
theorem dX8_root_33 : decode cX8_root 33 = .ok (.putfield 87, 3) := by decide +kernel
theorem dX8_root_36 : decode cX8_root 36 = .ok (.iconst 1, 1) := by decide +kernel
theorem dX8_root_37 : decode cX8_root 37 = .ok (.ireturn, 1) := by decide +kernel
theorem dX8_isIn_0 : decode cX8_isIn 0 = .ok (.lload_n 0, 1) := by decide +kernel
theorem dX8_isIn_1 : decode cX8_isIn 1 = .ok (.lload_n 2, 1) := by decide +kernel
theorem dX8_isIn_2 : decode cX8_isIn 2 = .ok (.lneg, 1) := by decide +kernel
theorem dX8_isIn_3 : decode cX8_isIn 3 = .ok (.lcmp, 1) := by decide +kernel
theorem dX8_isIn_4 : decode cX8_isIn 4 = .ok (.ifCond .lt 13, 3) := by decide +kernel
theorem dX8_isIn_7 : decode cX8_isIn 7 = .ok (.lload_n 0, 1) := by decide +kernel
theorem dX8_isIn_8 : decode cX8_isIn 8 = .ok (.lload_n 2, 1) := by decide +kernel
theorem dX8_isIn_9 : decode cX8_isIn 9 = .ok (.lcmp, 1) := by decide +kernel
theorem dX8_isIn_10 : decode cX8_isIn 10 = .ok (.ifCond .gt 7, 3) := by decide +kernel
theorem dX8_isIn_13 : decode cX8_isIn 13 = .ok (.iconst 1, 1) := by decide +kernel
theorem dX8_isIn_14 : decode cX8_isIn 14 = .ok (.goto 4, 3) := by decide +kernel
theorem dX8_isIn_17 : decode cX8_isIn 17 = .ok (.iconst 0, 1) := by decide +kernel
theorem dX8_isIn_18 : decode cX8_isIn 18 = .ok (.ireturn, 1) := by decide +kernel
theorem dX8_length_0 : decode cX8_length 0 = .ok (.iload_n 1, 1) := by decide +kernel
theorem dX8_length_1 : decode cX8_length 1 = .ok (.ifCond .lt 54, 3) := by decide +kernel
theorem dX8_length_4 : decode cX8_length 4 = .ok (.iload_n 1, 1) := by decide +kernel
theorem dX8_length_5 : decode cX8_length 5 = .ok (.bipush 8, 2) := by decide +kernel
theorem dX8_length_7 : decode cX8_length 7 = .ok (.if_icmp .ge 48, 3) := by decide +kernel
theorem dX8_length_10 : decode cX8_length 10 = .ok (.iload_n 2, 1) := by decide +kernel
theorem dX8_length_11 : decode cX8_length 11 = .ok (.i2l, 1) := by decide +kernel
theorem dX8_length_12 : decode cX8_length 12 = .ok (.ldc2_w 110, 3) := by decide +kernel
theorem dX8_length_15 : decode cX8_length 15 = .ok (.invokestatic 112, 3) := by decide +kernel
theorem dX8_length_18 : decode cX8_length 18 = .ok (.ifCond .eq 37, 3) := by decide +kernel
theorem dX8_length_21 : decode cX8_length 21 = .ok (.iload_n 3, 1) := by decide +kernel
theorem dX8_length_22 : decode cX8_length 22 = .ok (.i2l, 1) := by decide +kernel
theorem dX8_length_23 : decode cX8_length 23 = .ok (.ldc2_w 110, 3) := by decide +kernel
theorem dX8_length_26 : decode cX8_length 26 = .ok (.invokestatic 112, 3) := by decide +kernel
theorem dX8_length_29 : decode cX8_length 29 = .ok (.ifCond .eq 26, 3) := by decide +kernel
theorem dX8_length_32 : decode cX8_length 32 = .ok (.aload_n 0, 1) := by decide +kernel
theorem dX8_length_33 : decode cX8_length 33 = .ok (.getfield 87, 3) := by decide +kernel
theorem dX8_length_36 : decode cX8_length 36 = .ok (.ifCond .ne 7, 3) := by decide +kernel
theorem dX8_length_39 : decode cX8_length 39 = .ok (.iload_n 3, 1) := by decide +kernel
theorem dX8_length_40 : decode cX8_length 40 = .ok (.ifCond .ne 15, 3) := by decide +kernel
theorem dX8_length_43 : decode cX8_length 43 = .ok (.aload_n 0, 1) := by decide +kernel
theorem dX8_length_44 : decode cX8_length 44 = .ok (.iload_n 2, 1) := by decide +kernel
theorem dX8_length_45 : decode cX8_length 45 = .ok (.i2l, 1) := by decide +kernel
theorem dX8_length_46 : decode cX8_length 46 = .ok (.iload_n 3, 1) := by decide +kernel
theorem dX8_length_47 : decode cX8_length 47 = .ok (.i2l, 1) := by decide +kernel
theorem dX8_length_48 : decode cX8_length 48 = .ok (.invokevirtual 116, 3) := by decide +kernel
theorem dX8_length_51 : decode cX8_length 51 = .ok (.iconst 1, 1) := by decide +kernel
theorem dX8_length_52 : decode cX8_length 52 = .ok (.if_icmp .ge 5, 3) := by decide +kernel
theorem dX8_length_55 : decode cX8_length 55 = .ok (.iconst 0, 1) := by decide +kernel
theorem dX8_length_56 : decode cX8_length 56 = .ok (.ireturn, 1) := by decide +kernel
theorem dX8_length_57 : decode cX8_length 57 = .ok (.aload_n 0, 1) := by decide +kernel
theorem dX8_length_58 : decode cX8_length 58 = .ok (.getfield 7, 3) := by decide +kernel
theorem dX8_length_61 : decode cX8_length 61 = .ok (.iload_n 1, 1) := by decide +kernel
theorem dX8_length_62 : decode cX8_length 62 = .ok (.iload_n 2, 1) := by decide +kernel
theorem dX8_length_63 : decode cX8_length 63 = .ok (.iastore, 1) := by decide +kernel
theorem dX8_length_64 : decode cX8_length 64 = .ok (.aload_n 0, 1) := by decide +kernel
theorem dX8_length_65 : decode cX8_length 65 = .ok (.getfield 13, 3) := by decide +kernel
theorem dX8_length_68 : decode cX8_length 68 = .ok (.iload_n 1, 1) := by decide +kernel
theorem dX8_length_69 : decode cX8_length 69 = .ok (.iload_n 3, 1) := by decide +kernel
theorem dX8_length_70 : decode cX8_length 70 = .ok (.iastore, 1) := by decide +kernel
theorem dX8_length_71 : decode cX8_length 71 = .ok (.iconst 1, 1) := by decide +kernel
theorem dX8_length_72 : decode cX8_length 72 = .ok (.ireturn, 1) := by decide +kernel
theorem dX8_below_0 : decode cX8_below 0 = .ok (.iload_n 1, 1) := by decide +kernel
theorem dX8_below_1 : decode cX8_below 1 = .ok (.iconst 2, 1) := by decide +kernel
theorem dX8_below_2 : decode cX8_below 2 = .ok (.if_icmp .lt 9, 3) := by decide +kernel
theorem dX8_below_5 : decode cX8_below 5 = .ok (.iload_n 1, 1) := by decide +kernel
theorem dX8_below_6 : decode cX8_below 6 = .ok (.bipush 8, 2) := by decide +kernel
theorem dX8_below_8 : decode cX8_below 8 = .ok (.if_icmp .le 5, 3) := by decide +kernel
theorem dX8_below_11 : decode cX8_below 11 = .ok (.iconst 0, 1) := by decide +kernel
theorem dX8_below_12 : decode cX8_below 12 = .ok (.ireturn, 1) := by decide +kernel
theorem dX8_below_13 : decode cX8_below 13 = .ok (.iconst 0, 1) := by decide +kernel
theorem dX8_below_14 : decode cX8_below 14 = .ok (.istore_n 3, 1) := by decide +kernel
theorem dX8_below_15 : decode cX8_below 15 = .ok (.iconst 0, 1) := by decide +kernel
theorem dX8_below_16 : decode cX8_below 16 = .ok (.istore 4, 2) := by decide +kernel
theorem dX8_below_18 : decode cX8_below 18 = .ok (.iload 4, 2) := by decide +kernel
theorem dX8_below_20 : decode cX8_below 20 = .ok (.iload_n 1, 1) := by decide +kernel
theorem dX8_below_21 : decode cX8_below 21 = .ok (.if_icmp .ge 35, 3) := by decide +kernel
theorem dX8_below_24 : decode cX8_below 24 = .ok (.iload_n 2, 1) := by decide +kernel
theorem dX8_below_25 : decode cX8_below 25 = .ok (.iconst 4, 1) := by decide +kernel
theorem dX8_below_26 : decode cX8_below 26 = .ok (.iload 4, 2) := by decide +kernel
theorem dX8_below_28 : decode cX8_below 28 = .ok (.imul, 1) := by decide +kernel
theorem dX8_below_29 : decode cX8_below 29 = .ok (.ishr, 1) := by decide +kernel
theorem dX8_below_30 : decode cX8_below 30 = .ok (.bipush 15, 2) := by decide +kernel
theorem dX8_below_32 : decode cX8_below 32 = .ok (.iand, 1) := by decide +kernel
theorem dX8_below_33 : decode cX8_below 33 = .ok (.istore 5, 2) := by decide +kernel
theorem dX8_below_35 : decode cX8_below 35 = .ok (.iload 5, 2) := by decide +kernel
theorem dX8_below_37 : decode cX8_below 37 = .ok (.iload_n 1, 1) := by decide +kernel
theorem dX8_below_38 : decode cX8_below 38 = .ok (.if_icmp .lt 5, 3) := by decide +kernel
theorem dX8_below_41 : decode cX8_below 41 = .ok (.iconst 0, 1) := by decide +kernel
theorem dX8_below_42 : decode cX8_below 42 = .ok (.ireturn, 1) := by decide +kernel
theorem dX8_below_43 : decode cX8_below 43 = .ok (.iload_n 3, 1) := by decide +kernel
theorem dX8_below_44 : decode cX8_below 44 = .ok (.iconst 1, 1) := by decide +kernel
theorem dX8_below_45 : decode cX8_below 45 = .ok (.iload 5, 2) := by decide +kernel
theorem dX8_below_47 : decode cX8_below 47 = .ok (.ishl, 1) := by decide +kernel
theorem dX8_below_48 : decode cX8_below 48 = .ok (.ior, 1) := by decide +kernel
theorem dX8_below_49 : decode cX8_below 49 = .ok (.istore_n 3, 1) := by decide +kernel
theorem dX8_below_50 : decode cX8_below 50 = .ok (.iinc 4 1, 3) := by decide +kernel
theorem dX8_below_53 : decode cX8_below 53 = .ok (.goto (-35), 3) := by decide +kernel
theorem dX8_below_56 : decode cX8_below 56 = .ok (.iload_n 3, 1) := by decide +kernel
theorem dX8_below_57 : decode cX8_below 57 = .ok (.iconst 1, 1) := by decide +kernel
theorem dX8_below_58 : decode cX8_below 58 = .ok (.iload_n 1, 1) := by decide +kernel
theorem dX8_below_59 : decode cX8_below 59 = .ok (.ishl, 1) := by decide +kernel
theorem dX8_below_60 : decode cX8_below 60 = .ok (.iconst 1, 1) := by decide +kernel
theorem dX8_below_61 : decode cX8_below 61 = .ok (.isub, 1) := by decide +kernel
theorem dX8_below_62 : decode cX8_below 62 = .ok (.if_icmp .eq 5, 3) := by decide +kernel
theorem dX8_below_65 : decode cX8_below 65 = .ok (.iconst 0, 1) := by decide +kernel
theorem dX8_below_66 : decode cX8_below 66 = .ok (.ireturn, 1) := by decide +kernel
theorem dX8_below_67 : decode cX8_below 67 = .ok (.aload_n 0, 1) := by decide +kernel
theorem dX8_below_68 : decode cX8_below 68 = .ok (.iload_n 1, 1) := by decide +kernel
theorem dX8_below_69 : decode cX8_below 69 = .ok (.putfield 91, 3) := by decide +kernel
theorem dX8_below_72 : decode cX8_below 72 = .ok (.iconst 0, 1) := by decide +kernel
theorem dX8_below_73 : decode cX8_below 73 = .ok (.istore 4, 2) := by decide +kernel
theorem dX8_below_75 : decode cX8_below 75 = .ok (.iload 4, 2) := by decide +kernel
theorem dX8_below_77 : decode cX8_below 77 = .ok (.iload_n 1, 1) := by decide +kernel
theorem dX8_below_78 : decode cX8_below 78 = .ok (.if_icmp .ge 25, 3) := by decide +kernel
theorem dX8_below_81 : decode cX8_below 81 = .ok (.aload_n 0, 1) := by decide +kernel
theorem dX8_below_82 : decode cX8_below 82 = .ok (.getfield 16, 3) := by decide +kernel
theorem dX8_below_85 : decode cX8_below 85 = .ok (.iload 4, 2) := by decide +kernel
theorem dX8_below_87 : decode cX8_below 87 = .ok (.iload_n 2, 1) := by decide +kernel
theorem dX8_below_88 : decode cX8_below 88 = .ok (.iconst 4, 1) := by decide +kernel
theorem dX8_below_89 : decode cX8_below 89 = .ok (.iload 4, 2) := by decide +kernel
theorem dX8_below_91 : decode cX8_below 91 = .ok (.imul, 1) := by decide +kernel
theorem dX8_below_92 : decode cX8_below 92 = .ok (.ishr, 1) := by decide +kernel
theorem dX8_below_93 : decode cX8_below 93 = .ok (.bipush 15, 2) := by decide +kernel
theorem dX8_below_95 : decode cX8_below 95 = .ok (.iand, 1) := by decide +kernel
theorem dX8_below_96 : decode cX8_below 96 = .ok (.iastore, 1) := by decide +kernel
theorem dX8_below_97 : decode cX8_below 97 = .ok (.iinc 4 1, 3) := by decide +kernel
theorem dX8_below_100 : decode cX8_below 100 = .ok (.goto (-25), 3) := by decide +kernel
theorem dX8_below_103 : decode cX8_below 103 = .ok (.iconst 1, 1) := by decide +kernel
theorem dX8_below_104 : decode cX8_below 104 = .ok (.ireturn, 1) := by decide +kernel
theorem dX8_lay_0 : decode cX8_lay 0 = .ok (.aload_n 0, 1) := by decide +kernel
theorem dX8_lay_1 : decode cX8_lay 1 = .ok (.getfield 91, 3) := by decide +kernel
theorem dX8_lay_4 : decode cX8_lay 4 = .ok (.ifCond .ne 5, 3) := by decide +kernel
theorem dX8_lay_7 : decode cX8_lay 7 = .ok (.iconst (-1), 1) := by decide +kernel
theorem dX8_lay_8 : decode cX8_lay 8 = .ok (.ireturn, 1) := by decide +kernel
theorem dX8_lay_9 : decode cX8_lay 9 = .ok (.iconst 0, 1) := by decide +kernel
theorem dX8_lay_10 : decode cX8_lay 10 = .ok (.istore_n 1, 1) := by decide +kernel
theorem dX8_lay_11 : decode cX8_lay 11 = .ok (.iload_n 1, 1) := by decide +kernel
theorem dX8_lay_12 : decode cX8_lay 12 = .ok (.aload_n 0, 1) := by decide +kernel
theorem dX8_lay_13 : decode cX8_lay 13 = .ok (.getfield 91, 3) := by decide +kernel
theorem dX8_lay_16 : decode cX8_lay 16 = .ok (.if_icmp .ge 30, 3) := by decide +kernel
theorem dX8_lay_19 : decode cX8_lay 19 = .ok (.aload_n 0, 1) := by decide +kernel
theorem dX8_lay_20 : decode cX8_lay 20 = .ok (.getfield 7, 3) := by decide +kernel
theorem dX8_lay_23 : decode cX8_lay 23 = .ok (.iload_n 1, 1) := by decide +kernel
theorem dX8_lay_24 : decode cX8_lay 24 = .ok (.iaload, 1) := by decide +kernel
theorem dX8_lay_25 : decode cX8_lay 25 = .ok (.ifCond .ne 15, 3) := by decide +kernel
theorem dX8_lay_28 : decode cX8_lay 28 = .ok (.aload_n 0, 1) := by decide +kernel
theorem dX8_lay_29 : decode cX8_lay 29 = .ok (.getfield 13, 3) := by decide +kernel
theorem dX8_lay_32 : decode cX8_lay 32 = .ok (.iload_n 1, 1) := by decide +kernel
theorem dX8_lay_33 : decode cX8_lay 33 = .ok (.iaload, 1) := by decide +kernel
theorem dX8_lay_34 : decode cX8_lay 34 = .ok (.ifCond .ne 6, 3) := by decide +kernel
theorem dX8_lay_37 : decode cX8_lay 37 = .ok (.bipush (-2), 2) := by decide +kernel
theorem dX8_lay_39 : decode cX8_lay 39 = .ok (.ireturn, 1) := by decide +kernel
theorem dX8_lay_40 : decode cX8_lay 40 = .ok (.iinc 1 1, 3) := by decide +kernel
theorem dX8_lay_43 : decode cX8_lay 43 = .ok (.goto (-32), 3) := by decide +kernel
theorem dX8_lay_46 : decode cX8_lay 46 = .ok (.aload_n 0, 1) := by decide +kernel
theorem dX8_lay_47 : decode cX8_lay 47 = .ok (.aload_n 0, 1) := by decide +kernel
theorem dX8_lay_48 : decode cX8_lay 48 = .ok (.getfield 91, 3) := by decide +kernel
theorem dX8_lay_51 : decode cX8_lay 51 = .ok (.putfield 94, 3) := by decide +kernel
theorem dX8_lay_54 : decode cX8_lay 54 = .ok (.iconst 0, 1) := by decide +kernel
theorem dX8_lay_55 : decode cX8_lay 55 = .ok (.istore_n 1, 1) := by decide +kernel
theorem dX8_lay_56 : decode cX8_lay 56 = .ok (.iload_n 1, 1) := by decide +kernel
theorem dX8_lay_57 : decode cX8_lay 57 = .ok (.aload_n 0, 1) := by decide +kernel
theorem dX8_lay_58 : decode cX8_lay 58 = .ok (.getfield 94, 3) := by decide +kernel
theorem dX8_lay_61 : decode cX8_lay 61 = .ok (.if_icmp .ge 91, 3) := by decide +kernel
theorem dX8_lay_64 : decode cX8_lay 64 = .ok (.aload_n 0, 1) := by decide +kernel
theorem dX8_lay_65 : decode cX8_lay 65 = .ok (.getfield 19, 3) := by decide +kernel
theorem dX8_lay_68 : decode cX8_lay 68 = .ok (.iload_n 1, 1) := by decide +kernel
theorem dX8_lay_69 : decode cX8_lay 69 = .ok (.aload_n 0, 1) := by decide +kernel
theorem dX8_lay_70 : decode cX8_lay 70 = .ok (.getfield 7, 3) := by decide +kernel
theorem dX8_lay_73 : decode cX8_lay 73 = .ok (.iload_n 1, 1) := by decide +kernel
theorem dX8_lay_74 : decode cX8_lay 74 = .ok (.iaload, 1) := by decide +kernel
theorem dX8_lay_75 : decode cX8_lay 75 = .ok (.i2l, 1) := by decide +kernel
theorem dX8_lay_76 : decode cX8_lay 76 = .ok (.lastore, 1) := by decide +kernel
theorem dX8_lay_77 : decode cX8_lay 77 = .ok (.aload_n 0, 1) := by decide +kernel
theorem dX8_lay_78 : decode cX8_lay 78 = .ok (.getfield 23, 3) := by decide +kernel
theorem dX8_lay_81 : decode cX8_lay 81 = .ok (.iload_n 1, 1) := by decide +kernel
theorem dX8_lay_82 : decode cX8_lay 82 = .ok (.aload_n 0, 1) := by decide +kernel
theorem dX8_lay_83 : decode cX8_lay 83 = .ok (.getfield 13, 3) := by decide +kernel
theorem dX8_lay_86 : decode cX8_lay 86 = .ok (.iload_n 1, 1) := by decide +kernel
theorem dX8_lay_87 : decode cX8_lay 87 = .ok (.iaload, 1) := by decide +kernel
theorem dX8_lay_88 : decode cX8_lay 88 = .ok (.i2l, 1) := by decide +kernel
theorem dX8_lay_89 : decode cX8_lay 89 = .ok (.lastore, 1) := by decide +kernel
theorem dX8_lay_90 : decode cX8_lay 90 = .ok (.aload_n 0, 1) := by decide +kernel
theorem dX8_lay_91 : decode cX8_lay 91 = .ok (.getfield 26, 3) := by decide +kernel
theorem dX8_lay_94 : decode cX8_lay 94 = .ok (.iload_n 1, 1) := by decide +kernel
theorem dX8_lay_95 : decode cX8_lay 95 = .ok (.iload_n 1, 1) := by decide +kernel
theorem dX8_lay_96 : decode cX8_lay 96 = .ok (.iastore, 1) := by decide +kernel
theorem dX8_lay_97 : decode cX8_lay 97 = .ok (.aload_n 0, 1) := by decide +kernel
theorem dX8_lay_98 : decode cX8_lay 98 = .ok (.getfield 29, 3) := by decide +kernel
theorem dX8_lay_101 : decode cX8_lay 101 = .ok (.iload_n 1, 1) := by decide +kernel
theorem dX8_lay_102 : decode cX8_lay 102 = .ok (.aload_n 0, 1) := by decide +kernel
theorem dX8_lay_103 : decode cX8_lay 103 = .ok (.getfield 16, 3) := by decide +kernel
theorem dX8_lay_106 : decode cX8_lay 106 = .ok (.iload_n 1, 1) := by decide +kernel
theorem dX8_lay_107 : decode cX8_lay 107 = .ok (.iaload, 1) := by decide +kernel
theorem dX8_lay_108 : decode cX8_lay 108 = .ok (.iastore, 1) := by decide +kernel
theorem dX8_lay_109 : decode cX8_lay 109 = .ok (.iconst 0, 1) := by decide +kernel
theorem dX8_lay_110 : decode cX8_lay 110 = .ok (.istore_n 2, 1) := by decide +kernel
theorem dX8_lay_111 : decode cX8_lay 111 = .ok (.iload_n 2, 1) := by decide +kernel
theorem dX8_lay_112 : decode cX8_lay 112 = .ok (.aload_n 0, 1) := by decide +kernel
theorem dX8_lay_113 : decode cX8_lay 113 = .ok (.getfield 94, 3) := by decide +kernel
theorem dX8_lay_116 : decode cX8_lay 116 = .ok (.if_icmp .ge 30, 3) := by decide +kernel
theorem dX8_lay_119 : decode cX8_lay 119 = .ok (.aload_n 0, 1) := by decide +kernel
theorem dX8_lay_120 : decode cX8_lay 120 = .ok (.getfield 32, 3) := by decide +kernel
theorem dX8_lay_123 : decode cX8_lay 123 = .ok (.bipush 8, 2) := by decide +kernel
theorem dX8_lay_125 : decode cX8_lay 125 = .ok (.iload_n 1, 1) := by decide +kernel
theorem dX8_lay_126 : decode cX8_lay 126 = .ok (.imul, 1) := by decide +kernel
theorem dX8_lay_127 : decode cX8_lay 127 = .ok (.iload_n 2, 1) := by decide +kernel
theorem dX8_lay_128 : decode cX8_lay 128 = .ok (.iadd, 1) := by decide +kernel
theorem dX8_lay_129 : decode cX8_lay 129 = .ok (.iload_n 1, 1) := by decide +kernel
theorem dX8_lay_130 : decode cX8_lay 130 = .ok (.iload_n 2, 1) := by decide +kernel
theorem dX8_lay_131 : decode cX8_lay 131 = .ok (.if_icmp .ne 7, 3) := by decide +kernel
theorem dX8_lay_134 : decode cX8_lay 134 = .ok (.lconst 1, 1) := by decide +kernel
theorem dX8_lay_135 : decode cX8_lay 135 = .ok (.goto 4, 3) := by decide +kernel
theorem dX8_lay_138 : decode cX8_lay 138 = .ok (.lconst 0, 1) := by decide +kernel
theorem dX8_lay_139 : decode cX8_lay 139 = .ok (.lastore, 1) := by decide +kernel
theorem dX8_lay_140 : decode cX8_lay 140 = .ok (.iinc 2 1, 3) := by decide +kernel
theorem dX8_lay_143 : decode cX8_lay 143 = .ok (.goto (-32), 3) := by decide +kernel
theorem dX8_lay_146 : decode cX8_lay 146 = .ok (.iinc 1 1, 3) := by decide +kernel
theorem dX8_lay_149 : decode cX8_lay 149 = .ok (.goto (-93), 3) := by decide +kernel
theorem dX8_lay_152 : decode cX8_lay 152 = .ok (.aload_n 0, 1) := by decide +kernel
theorem dX8_lay_153 : decode cX8_lay 153 = .ok (.iconst 0, 1) := by decide +kernel
theorem dX8_lay_154 : decode cX8_lay 154 = .ok (.putfield 101, 3) := by decide +kernel
theorem dX8_lay_157 : decode cX8_lay 157 = .ok (.aload_n 0, 1) := by decide +kernel
theorem dX8_lay_158 : decode cX8_lay 158 = .ok (.iconst 0, 1) := by decide +kernel
theorem dX8_lay_159 : decode cX8_lay 159 = .ok (.putfield 104, 3) := by decide +kernel
theorem dX8_lay_162 : decode cX8_lay 162 = .ok (.aload_n 0, 1) := by decide +kernel
theorem dX8_lay_163 : decode cX8_lay 163 = .ok (.iconst 0, 1) := by decide +kernel
theorem dX8_lay_164 : decode cX8_lay 164 = .ok (.putfield 97, 3) := by decide +kernel
theorem dX8_lay_167 : decode cX8_lay 167 = .ok (.aload_n 0, 1) := by decide +kernel
theorem dX8_lay_168 : decode cX8_lay 168 = .ok (.getfield 94, 3) := by decide +kernel
theorem dX8_lay_171 : decode cX8_lay 171 = .ok (.ireturn, 1) := by decide +kernel
theorem dX8_parted_0 : decode cX8_parted 0 = .ok (.iconst 0, 1) := by decide +kernel
theorem dX8_parted_1 : decode cX8_parted 1 = .ok (.istore_n 1, 1) := by decide +kernel
theorem dX8_parted_2 : decode cX8_parted 2 = .ok (.iconst 0, 1) := by decide +kernel
theorem dX8_parted_3 : decode cX8_parted 3 = .ok (.istore_n 2, 1) := by decide +kernel
theorem dX8_parted_4 : decode cX8_parted 4 = .ok (.iconst 1, 1) := by decide +kernel
theorem dX8_parted_5 : decode cX8_parted 5 = .ok (.istore_n 3, 1) := by decide +kernel
theorem dX8_parted_6 : decode cX8_parted 6 = .ok (.iload_n 3, 1) := by decide +kernel
theorem dX8_parted_7 : decode cX8_parted 7 = .ok (.aload_n 0, 1) := by decide +kernel
theorem dX8_parted_8 : decode cX8_parted 8 = .ok (.getfield 94, 3) := by decide +kernel
theorem dX8_parted_11 : decode cX8_parted 11 = .ok (.if_icmp .ge 42, 3) := by decide +kernel
theorem dX8_parted_14 : decode cX8_parted 14 = .ok (.iload_n 1, 1) := by decide +kernel
theorem dX8_parted_15 : decode cX8_parted 15 = .ok (.iconst 1, 1) := by decide +kernel
theorem dX8_parted_16 : decode cX8_parted 16 = .ok (.aload_n 0, 1) := by decide +kernel
theorem dX8_parted_17 : decode cX8_parted 17 = .ok (.getfield 26, 3) := by decide +kernel
theorem dX8_parted_20 : decode cX8_parted 20 = .ok (.iload_n 3, 1) := by decide +kernel
theorem dX8_parted_21 : decode cX8_parted 21 = .ok (.iconst 1, 1) := by decide +kernel
theorem dX8_parted_22 : decode cX8_parted 22 = .ok (.isub, 1) := by decide +kernel
theorem dX8_parted_23 : decode cX8_parted 23 = .ok (.iaload, 1) := by decide +kernel
theorem dX8_parted_24 : decode cX8_parted 24 = .ok (.ishl, 1) := by decide +kernel
theorem dX8_parted_25 : decode cX8_parted 25 = .ok (.ior, 1) := by decide +kernel
theorem dX8_parted_26 : decode cX8_parted 26 = .ok (.istore_n 1, 1) := by decide +kernel
theorem dX8_parted_27 : decode cX8_parted 27 = .ok (.iload_n 2, 1) := by decide +kernel
theorem dX8_parted_28 : decode cX8_parted 28 = .ok (.iconst 1, 1) := by decide +kernel
theorem dX8_parted_29 : decode cX8_parted 29 = .ok (.aload_n 0, 1) := by decide +kernel
theorem dX8_parted_30 : decode cX8_parted 30 = .ok (.getfield 29, 3) := by decide +kernel
theorem dX8_parted_33 : decode cX8_parted 33 = .ok (.iload_n 3, 1) := by decide +kernel
theorem dX8_parted_34 : decode cX8_parted 34 = .ok (.iconst 1, 1) := by decide +kernel
theorem dX8_parted_35 : decode cX8_parted 35 = .ok (.isub, 1) := by decide +kernel
theorem dX8_parted_36 : decode cX8_parted 36 = .ok (.iaload, 1) := by decide +kernel
theorem dX8_parted_37 : decode cX8_parted 37 = .ok (.ishl, 1) := by decide +kernel
theorem dX8_parted_38 : decode cX8_parted 38 = .ok (.ior, 1) := by decide +kernel
theorem dX8_parted_39 : decode cX8_parted 39 = .ok (.istore_n 2, 1) := by decide +kernel
theorem dX8_parted_40 : decode cX8_parted 40 = .ok (.iload_n 1, 1) := by decide +kernel
theorem dX8_parted_41 : decode cX8_parted 41 = .ok (.iload_n 2, 1) := by decide +kernel
theorem dX8_parted_42 : decode cX8_parted 42 = .ok (.if_icmp .ne 5, 3) := by decide +kernel
theorem dX8_parted_45 : decode cX8_parted 45 = .ok (.iload_n 3, 1) := by decide +kernel
theorem dX8_parted_46 : decode cX8_parted 46 = .ok (.ireturn, 1) := by decide +kernel
theorem dX8_parted_47 : decode cX8_parted 47 = .ok (.iinc 3 1, 3) := by decide +kernel
theorem dX8_parted_50 : decode cX8_parted 50 = .ok (.goto (-44), 3) := by decide +kernel
theorem dX8_parted_53 : decode cX8_parted 53 = .ok (.iconst 0, 1) := by decide +kernel
theorem dX8_parted_54 : decode cX8_parted 54 = .ok (.ireturn, 1) := by decide +kernel
theorem dX8_of_0 : decode cX8_of 0 = .ok (.aload_n 0, 1) := by decide +kernel
theorem dX8_of_1 : decode cX8_of 1 = .ok (.getfield 94, 3) := by decide +kernel
theorem dX8_of_4 : decode cX8_of 4 = .ok (.ifCond .ne 5, 3) := by decide +kernel
theorem dX8_of_7 : decode cX8_of 7 = .ok (.iconst (-1), 1) := by decide +kernel
theorem dX8_of_8 : decode cX8_of 8 = .ok (.ireturn, 1) := by decide +kernel
theorem dX8_of_9 : decode cX8_of 9 = .ok (.iload_n 1, 1) := by decide +kernel
theorem dX8_of_10 : decode cX8_of 10 = .ok (.tableswitch 50 0 3 #[30, 35, 40, 45], 30) := by decide +kernel
theorem dX8_of_40 : decode cX8_of 40 = .ok (.aload_n 0, 1) := by decide +kernel
theorem dX8_of_41 : decode cX8_of 41 = .ok (.getfield 94, 3) := by decide +kernel
theorem dX8_of_44 : decode cX8_of 44 = .ok (.ireturn, 1) := by decide +kernel
theorem dX8_of_45 : decode cX8_of 45 = .ok (.aload_n 0, 1) := by decide +kernel
theorem dX8_of_46 : decode cX8_of 46 = .ok (.getfield 101, 3) := by decide +kernel
theorem dX8_of_49 : decode cX8_of 49 = .ok (.ireturn, 1) := by decide +kernel
theorem dX8_of_50 : decode cX8_of 50 = .ok (.aload_n 0, 1) := by decide +kernel
theorem dX8_of_51 : decode cX8_of 51 = .ok (.invokevirtual 120, 3) := by decide +kernel
theorem dX8_of_54 : decode cX8_of 54 = .ok (.ireturn, 1) := by decide +kernel
theorem dX8_of_55 : decode cX8_of 55 = .ok (.aload_n 0, 1) := by decide +kernel
theorem dX8_of_56 : decode cX8_of 56 = .ok (.getfield 104, 3) := by decide +kernel
theorem dX8_of_59 : decode cX8_of 59 = .ok (.ireturn, 1) := by decide +kernel
theorem dX8_of_60 : decode cX8_of 60 = .ok (.iconst (-1), 1) := by decide +kernel
theorem dX8_of_61 : decode cX8_of 61 = .ok (.ireturn, 1) := by decide +kernel
theorem dX8_total_0 : decode cX8_total 0 = .ok (.lconst 0, 1) := by decide +kernel
theorem dX8_total_1 : decode cX8_total 1 = .ok (.lstore_n 2, 1) := by decide +kernel
theorem dX8_total_2 : decode cX8_total 2 = .ok (.iconst 0, 1) := by decide +kernel
theorem dX8_total_3 : decode cX8_total 3 = .ok (.istore 4, 2) := by decide +kernel
theorem dX8_total_5 : decode cX8_total 5 = .ok (.iload 4, 2) := by decide +kernel
theorem dX8_total_7 : decode cX8_total 7 = .ok (.aload_n 0, 1) := by decide +kernel
theorem dX8_total_8 : decode cX8_total 8 = .ok (.getfield 94, 3) := by decide +kernel
theorem dX8_total_11 : decode cX8_total 11 = .ok (.if_icmp .ge 33, 3) := by decide +kernel
theorem dX8_total_14 : decode cX8_total 14 = .ok (.lload_n 2, 1) := by decide +kernel
theorem dX8_total_15 : decode cX8_total 15 = .ok (.iload_n 1, 1) := by decide +kernel
theorem dX8_total_16 : decode cX8_total 16 = .ok (.ifCond .ne 13, 3) := by decide +kernel
theorem dX8_total_19 : decode cX8_total 19 = .ok (.aload_n 0, 1) := by decide +kernel
theorem dX8_total_20 : decode cX8_total 20 = .ok (.getfield 19, 3) := by decide +kernel
theorem dX8_total_23 : decode cX8_total 23 = .ok (.iload 4, 2) := by decide +kernel
theorem dX8_total_25 : decode cX8_total 25 = .ok (.laload, 1) := by decide +kernel
theorem dX8_total_26 : decode cX8_total 26 = .ok (.goto 10, 3) := by decide +kernel
theorem dX8_total_29 : decode cX8_total 29 = .ok (.aload_n 0, 1) := by decide +kernel
theorem dX8_total_30 : decode cX8_total 30 = .ok (.getfield 23, 3) := by decide +kernel
theorem dX8_total_33 : decode cX8_total 33 = .ok (.iload 4, 2) := by decide +kernel
theorem dX8_total_35 : decode cX8_total 35 = .ok (.laload, 1) := by decide +kernel
theorem dX8_total_36 : decode cX8_total 36 = .ok (.ladd, 1) := by decide +kernel
theorem dX8_total_37 : decode cX8_total 37 = .ok (.lstore_n 2, 1) := by decide +kernel
theorem dX8_total_38 : decode cX8_total 38 = .ok (.iinc 4 1, 3) := by decide +kernel
theorem dX8_total_41 : decode cX8_total 41 = .ok (.goto (-36), 3) := by decide +kernel
theorem dX8_total_44 : decode cX8_total 44 = .ok (.lload_n 2, 1) := by decide +kernel
theorem dX8_total_45 : decode cX8_total 45 = .ok (.lreturn, 1) := by decide +kernel
theorem dX8_spans_0 : decode cX8_spans 0 = .ok (.aload_n 0, 1) := by decide +kernel
theorem dX8_spans_1 : decode cX8_spans 1 = .ok (.getfield 94, 3) := by decide +kernel
theorem dX8_spans_4 : decode cX8_spans 4 = .ok (.ifCond .eq 24, 3) := by decide +kernel
theorem dX8_spans_7 : decode cX8_spans 7 = .ok (.iload_n 1, 1) := by decide +kernel
theorem dX8_spans_8 : decode cX8_spans 8 = .ok (.ifCond .lt 20, 3) := by decide +kernel
theorem dX8_spans_11 : decode cX8_spans 11 = .ok (.iload_n 1, 1) := by decide +kernel
theorem dX8_spans_12 : decode cX8_spans 12 = .ok (.aload_n 0, 1) := by decide +kernel
theorem dX8_spans_13 : decode cX8_spans 13 = .ok (.getfield 94, 3) := by decide +kernel
theorem dX8_spans_16 : decode cX8_spans 16 = .ok (.if_icmp .gt 12, 3) := by decide +kernel
theorem dX8_spans_19 : decode cX8_spans 19 = .ok (.iload_n 2, 1) := by decide +kernel
theorem dX8_spans_20 : decode cX8_spans 20 = .ok (.ifCond .eq 10, 3) := by decide +kernel
theorem dX8_spans_23 : decode cX8_spans 23 = .ok (.iload_n 2, 1) := by decide +kernel
theorem dX8_spans_24 : decode cX8_spans 24 = .ok (.iconst 1, 1) := by decide +kernel
theorem dX8_spans_25 : decode cX8_spans 25 = .ok (.if_icmp .eq 5, 3) := by decide +kernel
theorem dX8_spans_28 : decode cX8_spans 28 = .ok (.lconst 0, 1) := by decide +kernel
theorem dX8_spans_29 : decode cX8_spans 29 = .ok (.lreturn, 1) := by decide +kernel
theorem dX8_spans_30 : decode cX8_spans 30 = .ok (.iload_n 1, 1) := by decide +kernel
theorem dX8_spans_31 : decode cX8_spans 31 = .ok (.aload_n 0, 1) := by decide +kernel
theorem dX8_spans_32 : decode cX8_spans 32 = .ok (.getfield 94, 3) := by decide +kernel
theorem dX8_spans_35 : decode cX8_spans 35 = .ok (.if_icmp .ne 11, 3) := by decide +kernel
theorem dX8_spans_38 : decode cX8_spans 38 = .ok (.aload_n 0, 1) := by decide +kernel
theorem dX8_spans_39 : decode cX8_spans 39 = .ok (.iload_n 2, 1) := by decide +kernel
theorem dX8_spans_40 : decode cX8_spans 40 = .ok (.invokevirtual 124, 3) := by decide +kernel
theorem dX8_spans_43 : decode cX8_spans 43 = .ok (.goto 22, 3) := by decide +kernel
theorem dX8_spans_46 : decode cX8_spans 46 = .ok (.iload_n 2, 1) := by decide +kernel
theorem dX8_spans_47 : decode cX8_spans 47 = .ok (.ifCond .ne 12, 3) := by decide +kernel
theorem dX8_spans_50 : decode cX8_spans 50 = .ok (.aload_n 0, 1) := by decide +kernel
theorem dX8_spans_51 : decode cX8_spans 51 = .ok (.getfield 19, 3) := by decide +kernel
theorem dX8_spans_54 : decode cX8_spans 54 = .ok (.iload_n 1, 1) := by decide +kernel
theorem dX8_spans_55 : decode cX8_spans 55 = .ok (.laload, 1) := by decide +kernel
theorem dX8_spans_56 : decode cX8_spans 56 = .ok (.goto 9, 3) := by decide +kernel
theorem dX8_spans_59 : decode cX8_spans 59 = .ok (.aload_n 0, 1) := by decide +kernel
theorem dX8_spans_60 : decode cX8_spans 60 = .ok (.getfield 23, 3) := by decide +kernel
theorem dX8_spans_63 : decode cX8_spans 63 = .ok (.iload_n 1, 1) := by decide +kernel
theorem dX8_spans_64 : decode cX8_spans 64 = .ok (.laload, 1) := by decide +kernel
theorem dX8_spans_65 : decode cX8_spans 65 = .ok (.lreturn, 1) := by decide +kernel
theorem dX8_order_0 : decode cX8_order 0 = .ok (.iload_n 2, 1) := by decide +kernel
theorem dX8_order_1 : decode cX8_order 1 = .ok (.ifCond .lt 20, 3) := by decide +kernel
theorem dX8_order_4 : decode cX8_order 4 = .ok (.iload_n 2, 1) := by decide +kernel
theorem dX8_order_5 : decode cX8_order 5 = .ok (.aload_n 0, 1) := by decide +kernel
theorem dX8_order_6 : decode cX8_order 6 = .ok (.getfield 94, 3) := by decide +kernel
theorem dX8_order_9 : decode cX8_order 9 = .ok (.if_icmp .ge 12, 3) := by decide +kernel
theorem dX8_order_12 : decode cX8_order 12 = .ok (.iload_n 1, 1) := by decide +kernel
theorem dX8_order_13 : decode cX8_order 13 = .ok (.ifCond .eq 10, 3) := by decide +kernel
theorem dX8_order_16 : decode cX8_order 16 = .ok (.iload_n 1, 1) := by decide +kernel
theorem dX8_order_17 : decode cX8_order 17 = .ok (.iconst 1, 1) := by decide +kernel
theorem dX8_order_18 : decode cX8_order 18 = .ok (.if_icmp .eq 5, 3) := by decide +kernel
theorem dX8_order_21 : decode cX8_order 21 = .ok (.iconst (-1), 1) := by decide +kernel
theorem dX8_order_22 : decode cX8_order 22 = .ok (.ireturn, 1) := by decide +kernel
theorem dX8_order_23 : decode cX8_order 23 = .ok (.iload_n 1, 1) := by decide +kernel
theorem dX8_order_24 : decode cX8_order 24 = .ok (.ifCond .ne 12, 3) := by decide +kernel
theorem dX8_order_27 : decode cX8_order 27 = .ok (.aload_n 0, 1) := by decide +kernel
theorem dX8_order_28 : decode cX8_order 28 = .ok (.getfield 26, 3) := by decide +kernel
theorem dX8_order_31 : decode cX8_order 31 = .ok (.iload_n 2, 1) := by decide +kernel
theorem dX8_order_32 : decode cX8_order 32 = .ok (.iaload, 1) := by decide +kernel
theorem dX8_order_33 : decode cX8_order 33 = .ok (.goto 9, 3) := by decide +kernel
theorem dX8_order_36 : decode cX8_order 36 = .ok (.aload_n 0, 1) := by decide +kernel
theorem dX8_order_37 : decode cX8_order 37 = .ok (.getfield 29, 3) := by decide +kernel
theorem dX8_order_40 : decode cX8_order 40 = .ok (.iload_n 2, 1) := by decide +kernel
theorem dX8_order_41 : decode cX8_order 41 = .ok (.iaload, 1) := by decide +kernel
theorem dX8_order_42 : decode cX8_order 42 = .ok (.ireturn, 1) := by decide +kernel
theorem dX8_spanAt_0 : decode cX8_spanAt 0 = .ok (.aload_n 0, 1) := by decide +kernel
theorem dX8_spanAt_1 : decode cX8_spanAt 1 = .ok (.lconst 0, 1) := by decide +kernel
theorem dX8_spanAt_2 : decode cX8_spanAt 2 = .ok (.putfield 128, 3) := by decide +kernel
theorem dX8_spanAt_5 : decode cX8_spanAt 5 = .ok (.aload_n 0, 1) := by decide +kernel
theorem dX8_spanAt_6 : decode cX8_spanAt 6 = .ok (.lconst 0, 1) := by decide +kernel
theorem dX8_spanAt_7 : decode cX8_spanAt 7 = .ok (.putfield 132, 3) := by decide +kernel
theorem dX8_spanAt_10 : decode cX8_spanAt 10 = .ok (.iconst 0, 1) := by decide +kernel
theorem dX8_spanAt_11 : decode cX8_spanAt 11 = .ok (.istore 6, 2) := by decide +kernel
theorem dX8_spanAt_13 : decode cX8_spanAt 13 = .ok (.iload 6, 2) := by decide +kernel
theorem dX8_spanAt_15 : decode cX8_spanAt 15 = .ok (.aload_n 0, 1) := by decide +kernel
theorem dX8_spanAt_16 : decode cX8_spanAt 16 = .ok (.getfield 94, 3) := by decide +kernel
theorem dX8_spanAt_19 : decode cX8_spanAt 19 = .ok (.if_icmp .ge 86, 3) := by decide +kernel
theorem dX8_spanAt_22 : decode cX8_spanAt 22 = .ok (.aload_n 1, 1) := by decide +kernel
theorem dX8_spanAt_23 : decode cX8_spanAt 23 = .ok (.iload 6, 2) := by decide +kernel
theorem dX8_spanAt_25 : decode cX8_spanAt 25 = .ok (.iaload, 1) := by decide +kernel
theorem dX8_spanAt_26 : decode cX8_spanAt 26 = .ok (.istore 7, 2) := by decide +kernel
theorem dX8_spanAt_28 : decode cX8_spanAt 28 = .ok (.aload_n 0, 1) := by decide +kernel
theorem dX8_spanAt_29 : decode cX8_spanAt 29 = .ok (.lload_n 2, 1) := by decide +kernel
theorem dX8_spanAt_30 : decode cX8_spanAt 30 = .ok (.aload_n 0, 1) := by decide +kernel
theorem dX8_spanAt_31 : decode cX8_spanAt 31 = .ok (.getfield 128, 3) := by decide +kernel
theorem dX8_spanAt_34 : decode cX8_spanAt 34 = .ok (.lsub, 1) := by decide +kernel
theorem dX8_spanAt_35 : decode cX8_spanAt 35 = .ok (.aload_n 0, 1) := by decide +kernel
theorem dX8_spanAt_36 : decode cX8_spanAt 36 = .ok (.getfield 19, 3) := by decide +kernel
theorem dX8_spanAt_39 : decode cX8_spanAt 39 = .ok (.iload 7, 2) := by decide +kernel
theorem dX8_spanAt_41 : decode cX8_spanAt 41 = .ok (.laload, 1) := by decide +kernel
theorem dX8_spanAt_42 : decode cX8_spanAt 42 = .ok (.lsub, 1) := by decide +kernel
theorem dX8_spanAt_43 : decode cX8_spanAt 43 = .ok (.lload 4, 2) := by decide +kernel
theorem dX8_spanAt_45 : decode cX8_spanAt 45 = .ok (.aload_n 0, 1) := by decide +kernel
theorem dX8_spanAt_46 : decode cX8_spanAt 46 = .ok (.getfield 132, 3) := by decide +kernel
theorem dX8_spanAt_49 : decode cX8_spanAt 49 = .ok (.lsub, 1) := by decide +kernel
theorem dX8_spanAt_50 : decode cX8_spanAt 50 = .ok (.aload_n 0, 1) := by decide +kernel
theorem dX8_spanAt_51 : decode cX8_spanAt 51 = .ok (.getfield 23, 3) := by decide +kernel
theorem dX8_spanAt_54 : decode cX8_spanAt 54 = .ok (.iload 7, 2) := by decide +kernel
theorem dX8_spanAt_56 : decode cX8_spanAt 56 = .ok (.laload, 1) := by decide +kernel
theorem dX8_spanAt_57 : decode cX8_spanAt 57 = .ok (.lsub, 1) := by decide +kernel
theorem dX8_spanAt_58 : decode cX8_spanAt 58 = .ok (.invokevirtual 116, 3) := by decide +kernel
theorem dX8_spanAt_61 : decode cX8_spanAt 61 = .ok (.ifCond .ge 6, 3) := by decide +kernel
theorem dX8_spanAt_64 : decode cX8_spanAt 64 = .ok (.iload 7, 2) := by decide +kernel
theorem dX8_spanAt_66 : decode cX8_spanAt 66 = .ok (.ireturn, 1) := by decide +kernel
theorem dX8_spanAt_67 : decode cX8_spanAt 67 = .ok (.aload_n 0, 1) := by decide +kernel
theorem dX8_spanAt_68 : decode cX8_spanAt 68 = .ok (.dup, 1) := by decide +kernel
theorem dX8_spanAt_69 : decode cX8_spanAt 69 = .ok (.getfield 128, 3) := by decide +kernel
theorem dX8_spanAt_72 : decode cX8_spanAt 72 = .ok (.aload_n 0, 1) := by decide +kernel
theorem dX8_spanAt_73 : decode cX8_spanAt 73 = .ok (.getfield 19, 3) := by decide +kernel
theorem dX8_spanAt_76 : decode cX8_spanAt 76 = .ok (.iload 7, 2) := by decide +kernel
theorem dX8_spanAt_78 : decode cX8_spanAt 78 = .ok (.laload, 1) := by decide +kernel
theorem dX8_spanAt_79 : decode cX8_spanAt 79 = .ok (.ladd, 1) := by decide +kernel
theorem dX8_spanAt_80 : decode cX8_spanAt 80 = .ok (.putfield 128, 3) := by decide +kernel
theorem dX8_spanAt_83 : decode cX8_spanAt 83 = .ok (.aload_n 0, 1) := by decide +kernel
theorem dX8_spanAt_84 : decode cX8_spanAt 84 = .ok (.dup, 1) := by decide +kernel
theorem dX8_spanAt_85 : decode cX8_spanAt 85 = .ok (.getfield 132, 3) := by decide +kernel
theorem dX8_spanAt_88 : decode cX8_spanAt 88 = .ok (.aload_n 0, 1) := by decide +kernel
theorem dX8_spanAt_89 : decode cX8_spanAt 89 = .ok (.getfield 23, 3) := by decide +kernel
theorem dX8_spanAt_92 : decode cX8_spanAt 92 = .ok (.iload 7, 2) := by decide +kernel
theorem dX8_spanAt_94 : decode cX8_spanAt 94 = .ok (.laload, 1) := by decide +kernel
theorem dX8_spanAt_95 : decode cX8_spanAt 95 = .ok (.ladd, 1) := by decide +kernel
theorem dX8_spanAt_96 : decode cX8_spanAt 96 = .ok (.putfield 132, 3) := by decide +kernel
theorem dX8_spanAt_99 : decode cX8_spanAt 99 = .ok (.iinc 6 1, 3) := by decide +kernel
theorem dX8_spanAt_102 : decode cX8_spanAt 102 = .ok (.goto (-89), 3) := by decide +kernel
theorem dX8_spanAt_105 : decode cX8_spanAt 105 = .ok (.iconst (-1), 1) := by decide +kernel
theorem dX8_spanAt_106 : decode cX8_spanAt 106 = .ok (.ireturn, 1) := by decide +kernel
theorem dX8_begins_0 : decode cX8_begins 0 = .ok (.aload_n 0, 1) := by decide +kernel
theorem dX8_begins_1 : decode cX8_begins 1 = .ok (.lconst 0, 1) := by decide +kernel
theorem dX8_begins_2 : decode cX8_begins 2 = .ok (.putfield 128, 3) := by decide +kernel
theorem dX8_begins_5 : decode cX8_begins 5 = .ok (.aload_n 0, 1) := by decide +kernel
theorem dX8_begins_6 : decode cX8_begins 6 = .ok (.lconst 0, 1) := by decide +kernel
theorem dX8_begins_7 : decode cX8_begins 7 = .ok (.putfield 132, 3) := by decide +kernel
theorem dX8_begins_10 : decode cX8_begins 10 = .ok (.iconst 0, 1) := by decide +kernel
theorem dX8_begins_11 : decode cX8_begins 11 = .ok (.istore_n 3, 1) := by decide +kernel
theorem dX8_begins_12 : decode cX8_begins 12 = .ok (.aload_n 1, 1) := by decide +kernel
theorem dX8_begins_13 : decode cX8_begins 13 = .ok (.iload_n 3, 1) := by decide +kernel
theorem dX8_begins_14 : decode cX8_begins 14 = .ok (.iaload, 1) := by decide +kernel
theorem dX8_begins_15 : decode cX8_begins 15 = .ok (.iload_n 2, 1) := by decide +kernel
theorem dX8_begins_16 : decode cX8_begins 16 = .ok (.if_icmp .eq 43, 3) := by decide +kernel
theorem dX8_begins_19 : decode cX8_begins 19 = .ok (.aload_n 0, 1) := by decide +kernel
theorem dX8_begins_20 : decode cX8_begins 20 = .ok (.dup, 1) := by decide +kernel
theorem dX8_begins_21 : decode cX8_begins 21 = .ok (.getfield 128, 3) := by decide +kernel
theorem dX8_begins_24 : decode cX8_begins 24 = .ok (.aload_n 0, 1) := by decide +kernel
theorem dX8_begins_25 : decode cX8_begins 25 = .ok (.getfield 19, 3) := by decide +kernel
theorem dX8_begins_28 : decode cX8_begins 28 = .ok (.aload_n 1, 1) := by decide +kernel
theorem dX8_begins_29 : decode cX8_begins 29 = .ok (.iload_n 3, 1) := by decide +kernel
theorem dX8_begins_30 : decode cX8_begins 30 = .ok (.iaload, 1) := by decide +kernel
theorem dX8_begins_31 : decode cX8_begins 31 = .ok (.laload, 1) := by decide +kernel
theorem dX8_begins_32 : decode cX8_begins 32 = .ok (.ladd, 1) := by decide +kernel
theorem dX8_begins_33 : decode cX8_begins 33 = .ok (.putfield 128, 3) := by decide +kernel
theorem dX8_begins_36 : decode cX8_begins 36 = .ok (.aload_n 0, 1) := by decide +kernel
theorem dX8_begins_37 : decode cX8_begins 37 = .ok (.dup, 1) := by decide +kernel
theorem dX8_begins_38 : decode cX8_begins 38 = .ok (.getfield 132, 3) := by decide +kernel
theorem dX8_begins_41 : decode cX8_begins 41 = .ok (.aload_n 0, 1) := by decide +kernel
theorem dX8_begins_42 : decode cX8_begins 42 = .ok (.getfield 23, 3) := by decide +kernel
theorem dX8_begins_45 : decode cX8_begins 45 = .ok (.aload_n 1, 1) := by decide +kernel
theorem dX8_begins_46 : decode cX8_begins 46 = .ok (.iload_n 3, 1) := by decide +kernel
theorem dX8_begins_47 : decode cX8_begins 47 = .ok (.iaload, 1) := by decide +kernel
theorem dX8_begins_48 : decode cX8_begins 48 = .ok (.laload, 1) := by decide +kernel
theorem dX8_begins_49 : decode cX8_begins 49 = .ok (.ladd, 1) := by decide +kernel
theorem dX8_begins_50 : decode cX8_begins 50 = .ok (.putfield 132, 3) := by decide +kernel
theorem dX8_begins_53 : decode cX8_begins 53 = .ok (.iinc 3 1, 3) := by decide +kernel
theorem dX8_begins_56 : decode cX8_begins 56 = .ok (.goto (-44), 3) := by decide +kernel
theorem dX8_begins_59 : decode cX8_begins 59 = .ok (.return_, 1) := by decide +kernel
theorem dX8_isOnLine_0 : decode cX8_isOnLine 0 = .ok (.aload_n 0, 1) := by decide +kernel
theorem dX8_isOnLine_1 : decode cX8_isOnLine 1 = .ok (.lload_n 1, 1) := by decide +kernel
theorem dX8_isOnLine_2 : decode cX8_isOnLine 2 = .ok (.lload_n 3, 1) := by decide +kernel
theorem dX8_isOnLine_3 : decode cX8_isOnLine 3 = .ok (.invokevirtual 116, 3) := by decide +kernel
theorem dX8_isOnLine_6 : decode cX8_isOnLine 6 = .ok (.ifCond .lt 28, 3) := by decide +kernel
theorem dX8_isOnLine_9 : decode cX8_isOnLine 9 = .ok (.aload_n 0, 1) := by decide +kernel
theorem dX8_isOnLine_10 : decode cX8_isOnLine 10 = .ok (.lload_n 1, 1) := by decide +kernel
theorem dX8_isOnLine_11 : decode cX8_isOnLine 11 = .ok (.aload_n 0, 1) := by decide +kernel
theorem dX8_isOnLine_12 : decode cX8_isOnLine 12 = .ok (.iconst 0, 1) := by decide +kernel
theorem dX8_isOnLine_13 : decode cX8_isOnLine 13 = .ok (.invokevirtual 124, 3) := by decide +kernel
theorem dX8_isOnLine_16 : decode cX8_isOnLine 16 = .ok (.lsub, 1) := by decide +kernel
theorem dX8_isOnLine_17 : decode cX8_isOnLine 17 = .ok (.lload_n 3, 1) := by decide +kernel
theorem dX8_isOnLine_18 : decode cX8_isOnLine 18 = .ok (.aload_n 0, 1) := by decide +kernel
theorem dX8_isOnLine_19 : decode cX8_isOnLine 19 = .ok (.iconst 1, 1) := by decide +kernel
theorem dX8_isOnLine_20 : decode cX8_isOnLine 20 = .ok (.invokevirtual 124, 3) := by decide +kernel
theorem dX8_isOnLine_23 : decode cX8_isOnLine 23 = .ok (.lsub, 1) := by decide +kernel
theorem dX8_isOnLine_24 : decode cX8_isOnLine 24 = .ok (.invokevirtual 116, 3) := by decide +kernel
theorem dX8_isOnLine_27 : decode cX8_isOnLine 27 = .ok (.ifCond .ge 7, 3) := by decide +kernel
theorem dX8_isOnLine_30 : decode cX8_isOnLine 30 = .ok (.iconst 1, 1) := by decide +kernel
theorem dX8_isOnLine_31 : decode cX8_isOnLine 31 = .ok (.goto 4, 3) := by decide +kernel
theorem dX8_isOnLine_34 : decode cX8_isOnLine 34 = .ok (.iconst 0, 1) := by decide +kernel
theorem dX8_isOnLine_35 : decode cX8_isOnLine 35 = .ok (.ireturn, 1) := by decide +kernel
theorem dX8_goes_0 : decode cX8_goes 0 = .ok (.aload_n 0, 1) := by decide +kernel
theorem dX8_goes_1 : decode cX8_goes 1 = .ok (.iload 5, 2) := by decide +kernel
theorem dX8_goes_3 : decode cX8_goes 3 = .ok (.ifCond .eq 10, 3) := by decide +kernel
theorem dX8_goes_6 : decode cX8_goes 6 = .ok (.aload_n 0, 1) := by decide +kernel
theorem dX8_goes_7 : decode cX8_goes 7 = .ok (.getfield 29, 3) := by decide +kernel
theorem dX8_goes_10 : decode cX8_goes 10 = .ok (.goto 7, 3) := by decide +kernel
theorem dX8_goes_13 : decode cX8_goes 13 = .ok (.aload_n 0, 1) := by decide +kernel
theorem dX8_goes_14 : decode cX8_goes 14 = .ok (.getfield 26, 3) := by decide +kernel
theorem dX8_goes_17 : decode cX8_goes 17 = .ok (.lload_n 1, 1) := by decide +kernel
theorem dX8_goes_18 : decode cX8_goes 18 = .ok (.lload_n 3, 1) := by decide +kernel
theorem dX8_goes_19 : decode cX8_goes 19 = .ok (.invokevirtual 135, 3) := by decide +kernel
theorem dX8_goes_22 : decode cX8_goes 22 = .ok (.istore 6, 2) := by decide +kernel
theorem dX8_goes_24 : decode cX8_goes 24 = .ok (.aload_n 0, 1) := by decide +kernel
theorem dX8_goes_25 : decode cX8_goes 25 = .ok (.lload_n 1, 1) := by decide +kernel
theorem dX8_goes_26 : decode cX8_goes 26 = .ok (.aload_n 0, 1) := by decide +kernel
theorem dX8_goes_27 : decode cX8_goes 27 = .ok (.getfield 128, 3) := by decide +kernel
theorem dX8_goes_30 : decode cX8_goes 30 = .ok (.lsub, 1) := by decide +kernel
theorem dX8_goes_31 : decode cX8_goes 31 = .ok (.putfield 139, 3) := by decide +kernel
theorem dX8_goes_34 : decode cX8_goes 34 = .ok (.aload_n 0, 1) := by decide +kernel
theorem dX8_goes_35 : decode cX8_goes 35 = .ok (.lload_n 3, 1) := by decide +kernel
theorem dX8_goes_36 : decode cX8_goes 36 = .ok (.aload_n 0, 1) := by decide +kernel
theorem dX8_goes_37 : decode cX8_goes 37 = .ok (.getfield 132, 3) := by decide +kernel
theorem dX8_goes_40 : decode cX8_goes 40 = .ok (.lsub, 1) := by decide +kernel
theorem dX8_goes_41 : decode cX8_goes 41 = .ok (.putfield 142, 3) := by decide +kernel
theorem dX8_goes_44 : decode cX8_goes 44 = .ok (.aload_n 0, 1) := by decide +kernel
theorem dX8_goes_45 : decode cX8_goes 45 = .ok (.iload 5, 2) := by decide +kernel
theorem dX8_goes_47 : decode cX8_goes 47 = .ok (.ifCond .eq 10, 3) := by decide +kernel
theorem dX8_goes_50 : decode cX8_goes 50 = .ok (.aload_n 0, 1) := by decide +kernel
theorem dX8_goes_51 : decode cX8_goes 51 = .ok (.getfield 26, 3) := by decide +kernel
theorem dX8_goes_54 : decode cX8_goes 54 = .ok (.goto 7, 3) := by decide +kernel
theorem dX8_goes_57 : decode cX8_goes 57 = .ok (.aload_n 0, 1) := by decide +kernel
theorem dX8_goes_58 : decode cX8_goes 58 = .ok (.getfield 29, 3) := by decide +kernel
theorem dX8_goes_61 : decode cX8_goes 61 = .ok (.iload 6, 2) := by decide +kernel
theorem dX8_goes_63 : decode cX8_goes 63 = .ok (.invokevirtual 145, 3) := by decide +kernel
theorem dX8_goes_66 : decode cX8_goes 66 = .ok (.aload_n 0, 1) := by decide +kernel
theorem dX8_goes_67 : decode cX8_goes 67 = .ok (.dup, 1) := by decide +kernel
theorem dX8_goes_68 : decode cX8_goes 68 = .ok (.getfield 139, 3) := by decide +kernel
theorem dX8_goes_71 : decode cX8_goes 71 = .ok (.aload_n 0, 1) := by decide +kernel
theorem dX8_goes_72 : decode cX8_goes 72 = .ok (.getfield 128, 3) := by decide +kernel
theorem dX8_goes_75 : decode cX8_goes 75 = .ok (.ladd, 1) := by decide +kernel
theorem dX8_goes_76 : decode cX8_goes 76 = .ok (.putfield 139, 3) := by decide +kernel
theorem dX8_goes_79 : decode cX8_goes 79 = .ok (.aload_n 0, 1) := by decide +kernel
theorem dX8_goes_80 : decode cX8_goes 80 = .ok (.dup, 1) := by decide +kernel
theorem dX8_goes_81 : decode cX8_goes 81 = .ok (.getfield 142, 3) := by decide +kernel
theorem dX8_goes_84 : decode cX8_goes 84 = .ok (.aload_n 0, 1) := by decide +kernel
theorem dX8_goes_85 : decode cX8_goes 85 = .ok (.getfield 132, 3) := by decide +kernel
theorem dX8_goes_88 : decode cX8_goes 88 = .ok (.ladd, 1) := by decide +kernel
theorem dX8_goes_89 : decode cX8_goes 89 = .ok (.putfield 142, 3) := by decide +kernel
theorem dX8_goes_92 : decode cX8_goes 92 = .ok (.return_, 1) := by decide +kernel
theorem dX8_isPoint_0 : decode cX8_isPoint 0 = .ok (.lload_n 0, 1) := by decide +kernel
theorem dX8_isPoint_1 : decode cX8_isPoint 1 = .ok (.ldc2_w 149, 3) := by decide +kernel
theorem dX8_isPoint_4 : decode cX8_isPoint 4 = .ok (.invokestatic 112, 3) := by decide +kernel
theorem dX8_isPoint_7 : decode cX8_isPoint 7 = .ok (.ifCond .eq 17, 3) := by decide +kernel
theorem dX8_isPoint_10 : decode cX8_isPoint 10 = .ok (.lload_n 2, 1) := by decide +kernel
theorem dX8_isPoint_11 : decode cX8_isPoint 11 = .ok (.ldc2_w 149, 3) := by decide +kernel
theorem dX8_isPoint_14 : decode cX8_isPoint 14 = .ok (.invokestatic 112, 3) := by decide +kernel
theorem dX8_isPoint_17 : decode cX8_isPoint 17 = .ok (.ifCond .eq 7, 3) := by decide +kernel
theorem dX8_isPoint_20 : decode cX8_isPoint 20 = .ok (.iconst 1, 1) := by decide +kernel
theorem dX8_isPoint_21 : decode cX8_isPoint 21 = .ok (.goto 4, 3) := by decide +kernel
theorem dX8_isPoint_24 : decode cX8_isPoint 24 = .ok (.iconst 0, 1) := by decide +kernel
theorem dX8_isPoint_25 : decode cX8_isPoint 25 = .ok (.ireturn, 1) := by decide +kernel
theorem dX8_point_0 : decode cX8_point 0 = .ok (.aload_n 0, 1) := by decide +kernel
theorem dX8_point_1 : decode cX8_point 1 = .ok (.getfield 94, 3) := by decide +kernel
theorem dX8_point_4 : decode cX8_point 4 = .ok (.ifCond .eq 35, 3) := by decide +kernel
theorem dX8_point_7 : decode cX8_point 7 = .ok (.iload_n 1, 1) := by decide +kernel
theorem dX8_point_8 : decode cX8_point 8 = .ok (.i2l, 1) := by decide +kernel
theorem dX8_point_9 : decode cX8_point 9 = .ok (.iload_n 2, 1) := by decide +kernel
theorem dX8_point_10 : decode cX8_point 10 = .ok (.i2l, 1) := by decide +kernel
theorem dX8_point_11 : decode cX8_point 11 = .ok (.invokestatic 151, 3) := by decide +kernel
theorem dX8_point_14 : decode cX8_point 14 = .ok (.ifCond .eq 25, 3) := by decide +kernel
theorem dX8_point_17 : decode cX8_point 17 = .ok (.aload_n 0, 1) := by decide +kernel
theorem dX8_point_18 : decode cX8_point 18 = .ok (.getfield 87, 3) := by decide +kernel
theorem dX8_point_21 : decode cX8_point 21 = .ok (.ifCond .ne 7, 3) := by decide +kernel
theorem dX8_point_24 : decode cX8_point 24 = .ok (.iload_n 2, 1) := by decide +kernel
theorem dX8_point_25 : decode cX8_point 25 = .ok (.ifCond .ne 14, 3) := by decide +kernel
theorem dX8_point_28 : decode cX8_point 28 = .ok (.aload_n 0, 1) := by decide +kernel
theorem dX8_point_29 : decode cX8_point 29 = .ok (.iload_n 1, 1) := by decide +kernel
theorem dX8_point_30 : decode cX8_point 30 = .ok (.i2l, 1) := by decide +kernel
theorem dX8_point_31 : decode cX8_point 31 = .ok (.iload_n 2, 1) := by decide +kernel
theorem dX8_point_32 : decode cX8_point 32 = .ok (.i2l, 1) := by decide +kernel
theorem dX8_point_33 : decode cX8_point 33 = .ok (.invokevirtual 154, 3) := by decide +kernel
theorem dX8_point_36 : decode cX8_point 36 = .ok (.ifCond .ne 5, 3) := by decide +kernel
theorem dX8_point_39 : decode cX8_point 39 = .ok (.iconst (-1), 1) := by decide +kernel
theorem dX8_point_40 : decode cX8_point 40 = .ok (.ireturn, 1) := by decide +kernel
theorem dX8_point_41 : decode cX8_point 41 = .ok (.aload_n 0, 1) := by decide +kernel
theorem dX8_point_42 : decode cX8_point 42 = .ok (.iconst 1, 1) := by decide +kernel
theorem dX8_point_43 : decode cX8_point 43 = .ok (.putfield 97, 3) := by decide +kernel
theorem dX8_point_46 : decode cX8_point 46 = .ok (.aload_n 0, 1) := by decide +kernel
theorem dX8_point_47 : decode cX8_point 47 = .ok (.iload_n 1, 1) := by decide +kernel
theorem dX8_point_48 : decode cX8_point 48 = .ok (.i2l, 1) := by decide +kernel
theorem dX8_point_49 : decode cX8_point 49 = .ok (.putfield 157, 3) := by decide +kernel
theorem dX8_point_52 : decode cX8_point 52 = .ok (.aload_n 0, 1) := by decide +kernel
theorem dX8_point_53 : decode cX8_point 53 = .ok (.iload_n 2, 1) := by decide +kernel
theorem dX8_point_54 : decode cX8_point 54 = .ok (.i2l, 1) := by decide +kernel
theorem dX8_point_55 : decode cX8_point 55 = .ok (.putfield 160, 3) := by decide +kernel
theorem dX8_point_58 : decode cX8_point 58 = .ok (.aload_n 0, 1) := by decide +kernel
theorem dX8_point_59 : decode cX8_point 59 = .ok (.aload_n 0, 1) := by decide +kernel
theorem dX8_point_60 : decode cX8_point 60 = .ok (.getfield 26, 3) := by decide +kernel
theorem dX8_point_63 : decode cX8_point 63 = .ok (.iload_n 1, 1) := by decide +kernel
theorem dX8_point_64 : decode cX8_point 64 = .ok (.i2l, 1) := by decide +kernel
theorem dX8_point_65 : decode cX8_point 65 = .ok (.iload_n 2, 1) := by decide +kernel
theorem dX8_point_66 : decode cX8_point 66 = .ok (.i2l, 1) := by decide +kernel
theorem dX8_point_67 : decode cX8_point 67 = .ok (.invokevirtual 135, 3) := by decide +kernel
theorem dX8_point_70 : decode cX8_point 70 = .ok (.ireturn, 1) := by decide +kernel
theorem dX8_move_0 : decode cX8_move 0 = .ok (.aload_n 0, 1) := by decide +kernel
theorem dX8_move_1 : decode cX8_move 1 = .ok (.getfield 97, 3) := by decide +kernel
theorem dX8_move_4 : decode cX8_move 4 = .ok (.ifCond .eq 17, 3) := by decide +kernel
theorem dX8_move_7 : decode cX8_move 7 = .ok (.iload_n 1, 1) := by decide +kernel
theorem dX8_move_8 : decode cX8_move 8 = .ok (.sipush (-1000), 3) := by decide +kernel
theorem dX8_move_11 : decode cX8_move 11 = .ok (.if_icmp .lt 10, 3) := by decide +kernel
theorem dX8_move_14 : decode cX8_move 14 = .ok (.iload_n 1, 1) := by decide +kernel
theorem dX8_move_15 : decode cX8_move 15 = .ok (.sipush 1000, 3) := by decide +kernel
theorem dX8_move_18 : decode cX8_move 18 = .ok (.if_icmp .le 5, 3) := by decide +kernel
theorem dX8_move_21 : decode cX8_move 21 = .ok (.iconst (-1), 1) := by decide +kernel
theorem dX8_move_22 : decode cX8_move 22 = .ok (.ireturn, 1) := by decide +kernel
theorem dX8_move_23 : decode cX8_move 23 = .ok (.aload_n 0, 1) := by decide +kernel
theorem dX8_move_24 : decode cX8_move 24 = .ok (.getfield 157, 3) := by decide +kernel
theorem dX8_move_27 : decode cX8_move 27 = .ok (.lstore_n 2, 1) := by decide +kernel
theorem dX8_move_28 : decode cX8_move 28 = .ok (.aload_n 0, 1) := by decide +kernel
theorem dX8_move_29 : decode cX8_move 29 = .ok (.getfield 160, 3) := by decide +kernel
theorem dX8_move_32 : decode cX8_move 32 = .ok (.lstore 4, 2) := by decide +kernel
theorem dX8_move_34 : decode cX8_move 34 = .ok (.iconst 0, 1) := by decide +kernel
theorem dX8_move_35 : decode cX8_move 35 = .ok (.istore 6, 2) := by decide +kernel
theorem dX8_move_37 : decode cX8_move 37 = .ok (.iload 6, 2) := by decide +kernel
theorem dX8_move_39 : decode cX8_move 39 = .ok (.iload_n 1, 1) := by decide +kernel
theorem dX8_move_40 : decode cX8_move 40 = .ok (.if_icmp .lt 10, 3) := by decide +kernel
theorem dX8_move_43 : decode cX8_move 43 = .ok (.iload 6, 2) := by decide +kernel
theorem dX8_move_45 : decode cX8_move 45 = .ok (.iload_n 1, 1) := by decide +kernel
theorem dX8_move_46 : decode cX8_move 46 = .ok (.ineg, 1) := by decide +kernel
theorem dX8_move_47 : decode cX8_move 47 = .ok (.if_icmp .ge 47, 3) := by decide +kernel
theorem dX8_move_50 : decode cX8_move 50 = .ok (.aload_n 0, 1) := by decide +kernel
theorem dX8_move_51 : decode cX8_move 51 = .ok (.lload_n 2, 1) := by decide +kernel
theorem dX8_move_52 : decode cX8_move 52 = .ok (.lload 4, 2) := by decide +kernel
theorem dX8_move_54 : decode cX8_move 54 = .ok (.iload_n 1, 1) := by decide +kernel
theorem dX8_move_55 : decode cX8_move 55 = .ok (.ifCond .ge 7, 3) := by decide +kernel
theorem dX8_move_58 : decode cX8_move 58 = .ok (.iconst 1, 1) := by decide +kernel
theorem dX8_move_59 : decode cX8_move 59 = .ok (.goto 4, 3) := by decide +kernel
theorem dX8_move_62 : decode cX8_move 62 = .ok (.iconst 0, 1) := by decide +kernel
theorem dX8_move_63 : decode cX8_move 63 = .ok (.invokevirtual 163, 3) := by decide +kernel
theorem dX8_move_66 : decode cX8_move 66 = .ok (.aload_n 0, 1) := by decide +kernel
theorem dX8_move_67 : decode cX8_move 67 = .ok (.getfield 139, 3) := by decide +kernel
theorem dX8_move_70 : decode cX8_move 70 = .ok (.lstore_n 2, 1) := by decide +kernel
theorem dX8_move_71 : decode cX8_move 71 = .ok (.aload_n 0, 1) := by decide +kernel
theorem dX8_move_72 : decode cX8_move 72 = .ok (.getfield 142, 3) := by decide +kernel
theorem dX8_move_75 : decode cX8_move 75 = .ok (.lstore 4, 2) := by decide +kernel
theorem dX8_move_77 : decode cX8_move 77 = .ok (.lload_n 2, 1) := by decide +kernel
theorem dX8_move_78 : decode cX8_move 78 = .ok (.lload 4, 2) := by decide +kernel
theorem dX8_move_80 : decode cX8_move 80 = .ok (.invokestatic 151, 3) := by decide +kernel
theorem dX8_move_83 : decode cX8_move 83 = .ok (.ifCond .ne 5, 3) := by decide +kernel
theorem dX8_move_86 : decode cX8_move 86 = .ok (.iconst (-1), 1) := by decide +kernel
theorem dX8_move_87 : decode cX8_move 87 = .ok (.ireturn, 1) := by decide +kernel
theorem dX8_move_88 : decode cX8_move 88 = .ok (.iinc 6 1, 3) := by decide +kernel
theorem dX8_move_91 : decode cX8_move 91 = .ok (.goto (-54), 3) := by decide +kernel
theorem dX8_move_94 : decode cX8_move 94 = .ok (.aload_n 0, 1) := by decide +kernel
theorem dX8_move_95 : decode cX8_move 95 = .ok (.lload_n 2, 1) := by decide +kernel
theorem dX8_move_96 : decode cX8_move 96 = .ok (.putfield 157, 3) := by decide +kernel
theorem dX8_move_99 : decode cX8_move 99 = .ok (.aload_n 0, 1) := by decide +kernel
theorem dX8_move_100 : decode cX8_move 100 = .ok (.lload 4, 2) := by decide +kernel
theorem dX8_move_102 : decode cX8_move 102 = .ok (.putfield 160, 3) := by decide +kernel
theorem dX8_move_105 : decode cX8_move 105 = .ok (.aload_n 0, 1) := by decide +kernel
theorem dX8_move_106 : decode cX8_move 106 = .ok (.aload_n 0, 1) := by decide +kernel
theorem dX8_move_107 : decode cX8_move 107 = .ok (.getfield 26, 3) := by decide +kernel
theorem dX8_move_110 : decode cX8_move 110 = .ok (.lload_n 2, 1) := by decide +kernel
theorem dX8_move_111 : decode cX8_move 111 = .ok (.lload 4, 2) := by decide +kernel
theorem dX8_move_113 : decode cX8_move 113 = .ok (.invokevirtual 135, 3) := by decide +kernel
theorem dX8_move_116 : decode cX8_move 116 = .ok (.ireturn, 1) := by decide +kernel
theorem dX8_where_0 : decode cX8_where 0 = .ok (.aload_n 0, 1) := by decide +kernel
theorem dX8_where_1 : decode cX8_where 1 = .ok (.getfield 97, 3) := by decide +kernel
theorem dX8_where_4 : decode cX8_where 4 = .ok (.ifCond .eq 12, 3) := by decide +kernel
theorem dX8_where_7 : decode cX8_where 7 = .ok (.iload_n 1, 1) := by decide +kernel
theorem dX8_where_8 : decode cX8_where 8 = .ok (.ifCond .eq 14, 3) := by decide +kernel
theorem dX8_where_11 : decode cX8_where 11 = .ok (.iload_n 1, 1) := by decide +kernel
theorem dX8_where_12 : decode cX8_where 12 = .ok (.iconst 1, 1) := by decide +kernel
theorem dX8_where_13 : decode cX8_where 13 = .ok (.if_icmp .eq 9, 3) := by decide +kernel
theorem dX8_where_16 : decode cX8_where 16 = .ok (.ldc2_w 167, 3) := by decide +kernel
theorem dX8_where_19 : decode cX8_where 19 = .ok (.goto 18, 3) := by decide +kernel
theorem dX8_where_22 : decode cX8_where 22 = .ok (.iload_n 1, 1) := by decide +kernel
theorem dX8_where_23 : decode cX8_where 23 = .ok (.ifCond .ne 10, 3) := by decide +kernel
theorem dX8_where_26 : decode cX8_where 26 = .ok (.aload_n 0, 1) := by decide +kernel
theorem dX8_where_27 : decode cX8_where 27 = .ok (.getfield 157, 3) := by decide +kernel
theorem dX8_where_30 : decode cX8_where 30 = .ok (.goto 7, 3) := by decide +kernel
theorem dX8_where_33 : decode cX8_where 33 = .ok (.aload_n 0, 1) := by decide +kernel
theorem dX8_where_34 : decode cX8_where 34 = .ok (.getfield 160, 3) := by decide +kernel
theorem dX8_where_37 : decode cX8_where 37 = .ok (.lreturn, 1) := by decide +kernel
theorem dX8_back_0 : decode cX8_back 0 = .ok (.aload_n 0, 1) := by decide +kernel
theorem dX8_back_1 : decode cX8_back 1 = .ok (.getfield 97, 3) := by decide +kernel
theorem dX8_back_4 : decode cX8_back 4 = .ok (.ifCond .eq 36, 3) := by decide +kernel
theorem dX8_back_7 : decode cX8_back 7 = .ok (.iload_n 1, 1) := by decide +kernel
theorem dX8_back_8 : decode cX8_back 8 = .ok (.i2l, 1) := by decide +kernel
theorem dX8_back_9 : decode cX8_back 9 = .ok (.iload_n 2, 1) := by decide +kernel
theorem dX8_back_10 : decode cX8_back 10 = .ok (.i2l, 1) := by decide +kernel
theorem dX8_back_11 : decode cX8_back 11 = .ok (.invokestatic 151, 3) := by decide +kernel
theorem dX8_back_14 : decode cX8_back 14 = .ok (.ifCond .eq 26, 3) := by decide +kernel
theorem dX8_back_17 : decode cX8_back 17 = .ok (.aload_n 0, 1) := by decide +kernel
theorem dX8_back_18 : decode cX8_back 18 = .ok (.getfield 87, 3) := by decide +kernel
theorem dX8_back_21 : decode cX8_back 21 = .ok (.ifCond .ne 7, 3) := by decide +kernel
theorem dX8_back_24 : decode cX8_back 24 = .ok (.iload_n 2, 1) := by decide +kernel
theorem dX8_back_25 : decode cX8_back 25 = .ok (.ifCond .ne 15, 3) := by decide +kernel
theorem dX8_back_28 : decode cX8_back 28 = .ok (.aload_n 0, 1) := by decide +kernel
theorem dX8_back_29 : decode cX8_back 29 = .ok (.iload_n 1, 1) := by decide +kernel
theorem dX8_back_30 : decode cX8_back 30 = .ok (.i2l, 1) := by decide +kernel
theorem dX8_back_31 : decode cX8_back 31 = .ok (.iload_n 2, 1) := by decide +kernel
theorem dX8_back_32 : decode cX8_back 32 = .ok (.i2l, 1) := by decide +kernel
theorem dX8_back_33 : decode cX8_back 33 = .ok (.invokevirtual 116, 3) := by decide +kernel
theorem dX8_back_36 : decode cX8_back 36 = .ok (.iconst 1, 1) := by decide +kernel
theorem dX8_back_37 : decode cX8_back 37 = .ok (.if_icmp .ge 5, 3) := by decide +kernel
theorem dX8_back_40 : decode cX8_back 40 = .ok (.iconst (-1), 1) := by decide +kernel
theorem dX8_back_41 : decode cX8_back 41 = .ok (.ireturn, 1) := by decide +kernel
theorem dX8_back_42 : decode cX8_back 42 = .ok (.aload_n 0, 1) := by decide +kernel
theorem dX8_back_43 : decode cX8_back 43 = .ok (.getfield 157, 3) := by decide +kernel
theorem dX8_back_46 : decode cX8_back 46 = .ok (.lstore_n 3, 1) := by decide +kernel
theorem dX8_back_47 : decode cX8_back 47 = .ok (.aload_n 0, 1) := by decide +kernel
theorem dX8_back_48 : decode cX8_back 48 = .ok (.getfield 160, 3) := by decide +kernel
theorem dX8_back_51 : decode cX8_back 51 = .ok (.lstore 5, 2) := by decide +kernel
theorem dX8_back_53 : decode cX8_back 53 = .ok (.iconst 1, 1) := by decide +kernel
theorem dX8_back_54 : decode cX8_back 54 = .ok (.istore 7, 2) := by decide +kernel
theorem dX8_back_56 : decode cX8_back 56 = .ok (.iload 7, 2) := by decide +kernel
theorem dX8_back_58 : decode cX8_back 58 = .ok (.sipush 1000, 3) := by decide +kernel
theorem dX8_back_61 : decode cX8_back 61 = .ok (.if_icmp .gt 70, 3) := by decide +kernel
theorem dX8_back_64 : decode cX8_back 64 = .ok (.aload_n 0, 1) := by decide +kernel
theorem dX8_back_65 : decode cX8_back 65 = .ok (.lload_n 3, 1) := by decide +kernel
theorem dX8_back_66 : decode cX8_back 66 = .ok (.lload 5, 2) := by decide +kernel
theorem dX8_back_68 : decode cX8_back 68 = .ok (.iconst 0, 1) := by decide +kernel
theorem dX8_back_69 : decode cX8_back 69 = .ok (.invokevirtual 163, 3) := by decide +kernel
theorem dX8_back_72 : decode cX8_back 72 = .ok (.aload_n 0, 1) := by decide +kernel
theorem dX8_back_73 : decode cX8_back 73 = .ok (.getfield 139, 3) := by decide +kernel
theorem dX8_back_76 : decode cX8_back 76 = .ok (.lstore_n 3, 1) := by decide +kernel
theorem dX8_back_77 : decode cX8_back 77 = .ok (.aload_n 0, 1) := by decide +kernel
theorem dX8_back_78 : decode cX8_back 78 = .ok (.getfield 142, 3) := by decide +kernel
theorem dX8_back_81 : decode cX8_back 81 = .ok (.lstore 5, 2) := by decide +kernel
theorem dX8_back_83 : decode cX8_back 83 = .ok (.lload_n 3, 1) := by decide +kernel
theorem dX8_back_84 : decode cX8_back 84 = .ok (.lload 5, 2) := by decide +kernel
theorem dX8_back_86 : decode cX8_back 86 = .ok (.invokestatic 151, 3) := by decide +kernel
theorem dX8_back_89 : decode cX8_back 89 = .ok (.ifCond .ne 6, 3) := by decide +kernel
theorem dX8_back_92 : decode cX8_back 92 = .ok (.bipush (-2), 2) := by decide +kernel
theorem dX8_back_94 : decode cX8_back 94 = .ok (.ireturn, 1) := by decide +kernel
theorem dX8_back_95 : decode cX8_back 95 = .ok (.aload_n 0, 1) := by decide +kernel
theorem dX8_back_96 : decode cX8_back 96 = .ok (.lload_n 3, 1) := by decide +kernel
theorem dX8_back_97 : decode cX8_back 97 = .ok (.iload_n 1, 1) := by decide +kernel
theorem dX8_back_98 : decode cX8_back 98 = .ok (.i2l, 1) := by decide +kernel
theorem dX8_back_99 : decode cX8_back 99 = .ok (.lsub, 1) := by decide +kernel
theorem dX8_back_100 : decode cX8_back 100 = .ok (.lload 5, 2) := by decide +kernel
theorem dX8_back_102 : decode cX8_back 102 = .ok (.iload_n 2, 1) := by decide +kernel
theorem dX8_back_103 : decode cX8_back 103 = .ok (.i2l, 1) := by decide +kernel
theorem dX8_back_104 : decode cX8_back 104 = .ok (.lsub, 1) := by decide +kernel
theorem dX8_back_105 : decode cX8_back 105 = .ok (.invokevirtual 116, 3) := by decide +kernel
theorem dX8_back_108 : decode cX8_back 108 = .ok (.ifCond .ge 17, 3) := by decide +kernel
theorem dX8_back_111 : decode cX8_back 111 = .ok (.aload_n 0, 1) := by decide +kernel
theorem dX8_back_112 : decode cX8_back 112 = .ok (.lload_n 3, 1) := by decide +kernel
theorem dX8_back_113 : decode cX8_back 113 = .ok (.putfield 157, 3) := by decide +kernel
theorem dX8_back_116 : decode cX8_back 116 = .ok (.aload_n 0, 1) := by decide +kernel
theorem dX8_back_117 : decode cX8_back 117 = .ok (.lload 5, 2) := by decide +kernel
theorem dX8_back_119 : decode cX8_back 119 = .ok (.putfield 160, 3) := by decide +kernel
theorem dX8_back_122 : decode cX8_back 122 = .ok (.iload 7, 2) := by decide +kernel
theorem dX8_back_124 : decode cX8_back 124 = .ok (.ireturn, 1) := by decide +kernel
theorem dX8_back_125 : decode cX8_back 125 = .ok (.iinc 7 1, 3) := by decide +kernel
theorem dX8_back_128 : decode cX8_back 128 = .ok (.goto (-72), 3) := by decide +kernel
theorem dX8_back_131 : decode cX8_back 131 = .ok (.bipush (-2), 2) := by decide +kernel
theorem dX8_back_133 : decode cX8_back 133 = .ok (.ireturn, 1) := by decide +kernel
theorem dX8_visits_0 : decode cX8_visits 0 = .ok (.aload_n 0, 1) := by decide +kernel
theorem dX8_visits_1 : decode cX8_visits 1 = .ok (.getfield 97, 3) := by decide +kernel
theorem dX8_visits_4 : decode cX8_visits 4 = .ok (.ifCond .eq 27, 3) := by decide +kernel
theorem dX8_visits_7 : decode cX8_visits 7 = .ok (.iload_n 1, 1) := by decide +kernel
theorem dX8_visits_8 : decode cX8_visits 8 = .ok (.ifCond .lt 23, 3) := by decide +kernel
theorem dX8_visits_11 : decode cX8_visits 11 = .ok (.iload_n 1, 1) := by decide +kernel
theorem dX8_visits_12 : decode cX8_visits 12 = .ok (.aload_n 0, 1) := by decide +kernel
theorem dX8_visits_13 : decode cX8_visits 13 = .ok (.getfield 94, 3) := by decide +kernel
theorem dX8_visits_16 : decode cX8_visits 16 = .ok (.if_icmp .ge 15, 3) := by decide +kernel
theorem dX8_visits_19 : decode cX8_visits 19 = .ok (.iload_n 2, 1) := by decide +kernel
theorem dX8_visits_20 : decode cX8_visits 20 = .ok (.iconst 1, 1) := by decide +kernel
theorem dX8_visits_21 : decode cX8_visits 21 = .ok (.if_icmp .lt 10, 3) := by decide +kernel
theorem dX8_visits_24 : decode cX8_visits 24 = .ok (.iload_n 2, 1) := by decide +kernel
theorem dX8_visits_25 : decode cX8_visits 25 = .ok (.sipush 1000, 3) := by decide +kernel
theorem dX8_visits_28 : decode cX8_visits 28 = .ok (.if_icmp .le 5, 3) := by decide +kernel
theorem dX8_visits_31 : decode cX8_visits 31 = .ok (.iconst (-1), 1) := by decide +kernel
theorem dX8_visits_32 : decode cX8_visits 32 = .ok (.ireturn, 1) := by decide +kernel
theorem dX8_visits_33 : decode cX8_visits 33 = .ok (.aload_n 0, 1) := by decide +kernel
theorem dX8_visits_34 : decode cX8_visits 34 = .ok (.getfield 157, 3) := by decide +kernel
theorem dX8_visits_37 : decode cX8_visits 37 = .ok (.lstore_n 3, 1) := by decide +kernel
theorem dX8_visits_38 : decode cX8_visits 38 = .ok (.aload_n 0, 1) := by decide +kernel
theorem dX8_visits_39 : decode cX8_visits 39 = .ok (.getfield 160, 3) := by decide +kernel
theorem dX8_visits_42 : decode cX8_visits 42 = .ok (.lstore 5, 2) := by decide +kernel
theorem dX8_visits_44 : decode cX8_visits 44 = .ok (.iconst 0, 1) := by decide +kernel
theorem dX8_visits_45 : decode cX8_visits 45 = .ok (.istore 7, 2) := by decide +kernel
theorem dX8_visits_47 : decode cX8_visits 47 = .ok (.iconst 0, 1) := by decide +kernel
theorem dX8_visits_48 : decode cX8_visits 48 = .ok (.istore 8, 2) := by decide +kernel
theorem dX8_visits_50 : decode cX8_visits 50 = .ok (.iload 8, 2) := by decide +kernel
theorem dX8_visits_52 : decode cX8_visits 52 = .ok (.iload_n 2, 1) := by decide +kernel
theorem dX8_visits_53 : decode cX8_visits 53 = .ok (.if_icmp .ge 62, 3) := by decide +kernel
theorem dX8_visits_56 : decode cX8_visits 56 = .ok (.iload 8, 2) := by decide +kernel
theorem dX8_visits_58 : decode cX8_visits 58 = .ok (.ifCond .le 33, 3) := by decide +kernel
theorem dX8_visits_61 : decode cX8_visits 61 = .ok (.aload_n 0, 1) := by decide +kernel
theorem dX8_visits_62 : decode cX8_visits 62 = .ok (.lload_n 3, 1) := by decide +kernel
theorem dX8_visits_63 : decode cX8_visits 63 = .ok (.lload 5, 2) := by decide +kernel
theorem dX8_visits_65 : decode cX8_visits 65 = .ok (.iconst 0, 1) := by decide +kernel
theorem dX8_visits_66 : decode cX8_visits 66 = .ok (.invokevirtual 163, 3) := by decide +kernel
theorem dX8_visits_69 : decode cX8_visits 69 = .ok (.aload_n 0, 1) := by decide +kernel
theorem dX8_visits_70 : decode cX8_visits 70 = .ok (.getfield 139, 3) := by decide +kernel
theorem dX8_visits_73 : decode cX8_visits 73 = .ok (.lstore_n 3, 1) := by decide +kernel
theorem dX8_visits_74 : decode cX8_visits 74 = .ok (.aload_n 0, 1) := by decide +kernel
theorem dX8_visits_75 : decode cX8_visits 75 = .ok (.getfield 142, 3) := by decide +kernel
theorem dX8_visits_78 : decode cX8_visits 78 = .ok (.lstore 5, 2) := by decide +kernel
theorem dX8_visits_80 : decode cX8_visits 80 = .ok (.lload_n 3, 1) := by decide +kernel
theorem dX8_visits_81 : decode cX8_visits 81 = .ok (.lload 5, 2) := by decide +kernel
theorem dX8_visits_83 : decode cX8_visits 83 = .ok (.invokestatic 151, 3) := by decide +kernel
theorem dX8_visits_86 : decode cX8_visits 86 = .ok (.ifCond .ne 5, 3) := by decide +kernel
theorem dX8_visits_89 : decode cX8_visits 89 = .ok (.iconst (-1), 1) := by decide +kernel
theorem dX8_visits_90 : decode cX8_visits 90 = .ok (.ireturn, 1) := by decide +kernel
theorem dX8_visits_91 : decode cX8_visits 91 = .ok (.aload_n 0, 1) := by decide +kernel
theorem dX8_visits_92 : decode cX8_visits 92 = .ok (.aload_n 0, 1) := by decide +kernel
theorem dX8_visits_93 : decode cX8_visits 93 = .ok (.getfield 26, 3) := by decide +kernel
theorem dX8_visits_96 : decode cX8_visits 96 = .ok (.lload_n 3, 1) := by decide +kernel
theorem dX8_visits_97 : decode cX8_visits 97 = .ok (.lload 5, 2) := by decide +kernel
theorem dX8_visits_99 : decode cX8_visits 99 = .ok (.invokevirtual 135, 3) := by decide +kernel
theorem dX8_visits_102 : decode cX8_visits 102 = .ok (.iload_n 1, 1) := by decide +kernel
theorem dX8_visits_103 : decode cX8_visits 103 = .ok (.if_icmp .ne 6, 3) := by decide +kernel
theorem dX8_visits_106 : decode cX8_visits 106 = .ok (.iinc 7 1, 3) := by decide +kernel
theorem dX8_visits_109 : decode cX8_visits 109 = .ok (.iinc 8 1, 3) := by decide +kernel
theorem dX8_visits_112 : decode cX8_visits 112 = .ok (.goto (-62), 3) := by decide +kernel
theorem dX8_visits_115 : decode cX8_visits 115 = .ok (.iload 7, 2) := by decide +kernel
theorem dX8_visits_117 : decode cX8_visits 117 = .ok (.ireturn, 1) := by decide +kernel
theorem dX8_brings_0 : decode cX8_brings 0 = .ok (.iconst 0, 1) := by decide +kernel
theorem dX8_brings_1 : decode cX8_brings 1 = .ok (.istore 4, 2) := by decide +kernel
theorem dX8_brings_3 : decode cX8_brings 3 = .ok (.aload_n 1, 1) := by decide +kernel
theorem dX8_brings_4 : decode cX8_brings 4 = .ok (.iload 4, 2) := by decide +kernel
theorem dX8_brings_6 : decode cX8_brings 6 = .ok (.iaload, 1) := by decide +kernel
theorem dX8_brings_7 : decode cX8_brings 7 = .ok (.iload_n 3, 1) := by decide +kernel
theorem dX8_brings_8 : decode cX8_brings 8 = .ok (.if_icmp .eq 9, 3) := by decide +kernel
theorem dX8_brings_11 : decode cX8_brings 11 = .ok (.iinc 4 1, 3) := by decide +kernel
theorem dX8_brings_14 : decode cX8_brings 14 = .ok (.goto (-11), 3) := by decide +kernel
theorem dX8_brings_17 : decode cX8_brings 17 = .ok (.aload_n 0, 1) := by decide +kernel
theorem dX8_brings_18 : decode cX8_brings 18 = .ok (.getfield 94, 3) := by decide +kernel
theorem dX8_brings_21 : decode cX8_brings 21 = .ok (.iconst 1, 1) := by decide +kernel
theorem dX8_brings_22 : decode cX8_brings 22 = .ok (.isub, 1) := by decide +kernel
theorem dX8_brings_23 : decode cX8_brings 23 = .ok (.istore 5, 2) := by decide +kernel
theorem dX8_brings_25 : decode cX8_brings 25 = .ok (.iload 5, 2) := by decide +kernel
theorem dX8_brings_27 : decode cX8_brings 27 = .ok (.iload 4, 2) := by decide +kernel
theorem dX8_brings_29 : decode cX8_brings 29 = .ok (.iconst 1, 1) := by decide +kernel
theorem dX8_brings_30 : decode cX8_brings 30 = .ok (.iadd, 1) := by decide +kernel
theorem dX8_brings_31 : decode cX8_brings 31 = .ok (.if_icmp .le 19, 3) := by decide +kernel
theorem dX8_brings_34 : decode cX8_brings 34 = .ok (.aload_n 1, 1) := by decide +kernel
theorem dX8_brings_35 : decode cX8_brings 35 = .ok (.iload 5, 2) := by decide +kernel
theorem dX8_brings_37 : decode cX8_brings 37 = .ok (.aload_n 1, 1) := by decide +kernel
theorem dX8_brings_38 : decode cX8_brings 38 = .ok (.iload 5, 2) := by decide +kernel
theorem dX8_brings_40 : decode cX8_brings 40 = .ok (.iconst 1, 1) := by decide +kernel
theorem dX8_brings_41 : decode cX8_brings 41 = .ok (.isub, 1) := by decide +kernel
theorem dX8_brings_42 : decode cX8_brings 42 = .ok (.iaload, 1) := by decide +kernel
theorem dX8_brings_43 : decode cX8_brings 43 = .ok (.iastore, 1) := by decide +kernel
theorem dX8_brings_44 : decode cX8_brings 44 = .ok (.iinc 5 (-1), 3) := by decide +kernel
theorem dX8_brings_47 : decode cX8_brings 47 = .ok (.goto (-22), 3) := by decide +kernel
theorem dX8_brings_50 : decode cX8_brings 50 = .ok (.aload_n 1, 1) := by decide +kernel
theorem dX8_brings_51 : decode cX8_brings 51 = .ok (.iload 4, 2) := by decide +kernel
theorem dX8_brings_53 : decode cX8_brings 53 = .ok (.iconst 1, 1) := by decide +kernel
theorem dX8_brings_54 : decode cX8_brings 54 = .ok (.iadd, 1) := by decide +kernel
theorem dX8_brings_55 : decode cX8_brings 55 = .ok (.iload_n 2, 1) := by decide +kernel
theorem dX8_brings_56 : decode cX8_brings 56 = .ok (.iastore, 1) := by decide +kernel
theorem dX8_brings_57 : decode cX8_brings 57 = .ok (.return_, 1) := by decide +kernel
theorem dX8_step_0 : decode cX8_step 0 = .ok (.aload_n 0, 1) := by decide +kernel
theorem dX8_step_1 : decode cX8_step 1 = .ok (.getfield 94, 3) := by decide +kernel
theorem dX8_step_4 : decode cX8_step 4 = .ok (.ifCond .ne 5, 3) := by decide +kernel
theorem dX8_step_7 : decode cX8_step 7 = .ok (.iconst (-1), 1) := by decide +kernel
theorem dX8_step_8 : decode cX8_step 8 = .ok (.ireturn, 1) := by decide +kernel
theorem dX8_step_9 : decode cX8_step 9 = .ok (.aload_n 0, 1) := by decide +kernel
theorem dX8_step_10 : decode cX8_step 10 = .ok (.getfield 26, 3) := by decide +kernel
theorem dX8_step_13 : decode cX8_step 13 = .ok (.aload_n 0, 1) := by decide +kernel
theorem dX8_step_14 : decode cX8_step 14 = .ok (.getfield 94, 3) := by decide +kernel
theorem dX8_step_17 : decode cX8_step 17 = .ok (.iconst 1, 1) := by decide +kernel
theorem dX8_step_18 : decode cX8_step 18 = .ok (.isub, 1) := by decide +kernel
theorem dX8_step_19 : decode cX8_step 19 = .ok (.iaload, 1) := by decide +kernel
theorem dX8_step_20 : decode cX8_step 20 = .ok (.istore_n 1, 1) := by decide +kernel
theorem dX8_step_21 : decode cX8_step 21 = .ok (.aload_n 0, 1) := by decide +kernel
theorem dX8_step_22 : decode cX8_step 22 = .ok (.getfield 29, 3) := by decide +kernel
theorem dX8_step_25 : decode cX8_step 25 = .ok (.aload_n 0, 1) := by decide +kernel
theorem dX8_step_26 : decode cX8_step 26 = .ok (.getfield 94, 3) := by decide +kernel
theorem dX8_step_29 : decode cX8_step 29 = .ok (.iconst 1, 1) := by decide +kernel
theorem dX8_step_30 : decode cX8_step 30 = .ok (.isub, 1) := by decide +kernel
theorem dX8_step_31 : decode cX8_step 31 = .ok (.iaload, 1) := by decide +kernel
theorem dX8_step_32 : decode cX8_step 32 = .ok (.istore_n 2, 1) := by decide +kernel
theorem dX8_step_33 : decode cX8_step 33 = .ok (.iload_n 1, 1) := by decide +kernel
theorem dX8_step_34 : decode cX8_step 34 = .ok (.iload_n 2, 1) := by decide +kernel
theorem dX8_step_35 : decode cX8_step 35 = .ok (.if_icmp .ne 6, 3) := by decide +kernel
theorem dX8_step_38 : decode cX8_step 38 = .ok (.bipush (-2), 2) := by decide +kernel
theorem dX8_step_40 : decode cX8_step 40 = .ok (.ireturn, 1) := by decide +kernel
theorem dX8_step_41 : decode cX8_step 41 = .ok (.aload_n 0, 1) := by decide +kernel
theorem dX8_step_42 : decode cX8_step 42 = .ok (.aload_n 0, 1) := by decide +kernel
theorem dX8_step_43 : decode cX8_step 43 = .ok (.getfield 19, 3) := by decide +kernel
theorem dX8_step_46 : decode cX8_step 46 = .ok (.iload_n 1, 1) := by decide +kernel
theorem dX8_step_47 : decode cX8_step 47 = .ok (.laload, 1) := by decide +kernel
theorem dX8_step_48 : decode cX8_step 48 = .ok (.aload_n 0, 1) := by decide +kernel
theorem dX8_step_49 : decode cX8_step 49 = .ok (.getfield 19, 3) := by decide +kernel
theorem dX8_step_52 : decode cX8_step 52 = .ok (.iload_n 2, 1) := by decide +kernel
theorem dX8_step_53 : decode cX8_step 53 = .ok (.laload, 1) := by decide +kernel
theorem dX8_step_54 : decode cX8_step 54 = .ok (.lsub, 1) := by decide +kernel
theorem dX8_step_55 : decode cX8_step 55 = .ok (.aload_n 0, 1) := by decide +kernel
theorem dX8_step_56 : decode cX8_step 56 = .ok (.getfield 23, 3) := by decide +kernel
theorem dX8_step_59 : decode cX8_step 59 = .ok (.iload_n 1, 1) := by decide +kernel
theorem dX8_step_60 : decode cX8_step 60 = .ok (.laload, 1) := by decide +kernel
theorem dX8_step_61 : decode cX8_step 61 = .ok (.aload_n 0, 1) := by decide +kernel
theorem dX8_step_62 : decode cX8_step 62 = .ok (.getfield 23, 3) := by decide +kernel
theorem dX8_step_65 : decode cX8_step 65 = .ok (.iload_n 2, 1) := by decide +kernel
theorem dX8_step_66 : decode cX8_step 66 = .ok (.laload, 1) := by decide +kernel
theorem dX8_step_67 : decode cX8_step 67 = .ok (.lsub, 1) := by decide +kernel
theorem dX8_step_68 : decode cX8_step 68 = .ok (.invokevirtual 116, 3) := by decide +kernel
theorem dX8_step_71 : decode cX8_step 71 = .ok (.istore_n 3, 1) := by decide +kernel
theorem dX8_step_72 : decode cX8_step 72 = .ok (.iload_n 3, 1) := by decide +kernel
theorem dX8_step_73 : decode cX8_step 73 = .ok (.ifCond .ne 6, 3) := by decide +kernel
theorem dX8_step_76 : decode cX8_step 76 = .ok (.bipush (-3), 2) := by decide +kernel
theorem dX8_step_78 : decode cX8_step 78 = .ok (.ireturn, 1) := by decide +kernel
theorem dX8_step_79 : decode cX8_step 79 = .ok (.iload_n 3, 1) := by decide +kernel
theorem dX8_step_80 : decode cX8_step 80 = .ok (.ifCond .le 7, 3) := by decide +kernel
theorem dX8_step_83 : decode cX8_step 83 = .ok (.iload_n 1, 1) := by decide +kernel
theorem dX8_step_84 : decode cX8_step 84 = .ok (.goto 4, 3) := by decide +kernel
theorem dX8_step_87 : decode cX8_step 87 = .ok (.iload_n 2, 1) := by decide +kernel
theorem dX8_step_88 : decode cX8_step 88 = .ok (.istore 4, 2) := by decide +kernel
theorem dX8_step_90 : decode cX8_step 90 = .ok (.iload_n 3, 1) := by decide +kernel
theorem dX8_step_91 : decode cX8_step 91 = .ok (.ifCond .le 7, 3) := by decide +kernel
theorem dX8_step_94 : decode cX8_step 94 = .ok (.iload_n 2, 1) := by decide +kernel
theorem dX8_step_95 : decode cX8_step 95 = .ok (.goto 4, 3) := by decide +kernel
theorem dX8_step_98 : decode cX8_step 98 = .ok (.iload_n 1, 1) := by decide +kernel
theorem dX8_step_99 : decode cX8_step 99 = .ok (.istore 5, 2) := by decide +kernel
theorem dX8_step_101 : decode cX8_step 101 = .ok (.aload_n 0, 1) := by decide +kernel
theorem dX8_step_102 : decode cX8_step 102 = .ok (.getfield 19, 3) := by decide +kernel
theorem dX8_step_105 : decode cX8_step 105 = .ok (.iload 4, 2) := by decide +kernel
theorem dX8_step_107 : decode cX8_step 107 = .ok (.laload, 1) := by decide +kernel
theorem dX8_step_108 : decode cX8_step 108 = .ok (.aload_n 0, 1) := by decide +kernel
theorem dX8_step_109 : decode cX8_step 109 = .ok (.getfield 19, 3) := by decide +kernel
theorem dX8_step_112 : decode cX8_step 112 = .ok (.iload 5, 2) := by decide +kernel
theorem dX8_step_114 : decode cX8_step 114 = .ok (.laload, 1) := by decide +kernel
theorem dX8_step_115 : decode cX8_step 115 = .ok (.lsub, 1) := by decide +kernel
theorem dX8_step_116 : decode cX8_step 116 = .ok (.lstore 6, 2) := by decide +kernel
theorem dX8_step_118 : decode cX8_step 118 = .ok (.aload_n 0, 1) := by decide +kernel
theorem dX8_step_119 : decode cX8_step 119 = .ok (.getfield 23, 3) := by decide +kernel
theorem dX8_step_122 : decode cX8_step 122 = .ok (.iload 4, 2) := by decide +kernel
theorem dX8_step_124 : decode cX8_step 124 = .ok (.laload, 1) := by decide +kernel
theorem dX8_step_125 : decode cX8_step 125 = .ok (.aload_n 0, 1) := by decide +kernel
theorem dX8_step_126 : decode cX8_step 126 = .ok (.getfield 23, 3) := by decide +kernel
theorem dX8_step_129 : decode cX8_step 129 = .ok (.iload 5, 2) := by decide +kernel
theorem dX8_step_131 : decode cX8_step 131 = .ok (.laload, 1) := by decide +kernel
theorem dX8_step_132 : decode cX8_step 132 = .ok (.lsub, 1) := by decide +kernel
theorem dX8_step_133 : decode cX8_step 133 = .ok (.lstore 8, 2) := by decide +kernel
theorem dX8_step_135 : decode cX8_step 135 = .ok (.lload 6, 2) := by decide +kernel
theorem dX8_step_137 : decode cX8_step 137 = .ok (.ldc2_w 110, 3) := by decide +kernel
theorem dX8_step_140 : decode cX8_step 140 = .ok (.invokestatic 112, 3) := by decide +kernel
theorem dX8_step_143 : decode cX8_step 143 = .ok (.ifCond .eq 14, 3) := by decide +kernel
theorem dX8_step_146 : decode cX8_step 146 = .ok (.lload 8, 2) := by decide +kernel
theorem dX8_step_148 : decode cX8_step 148 = .ok (.ldc2_w 110, 3) := by decide +kernel
theorem dX8_step_151 : decode cX8_step 151 = .ok (.invokestatic 112, 3) := by decide +kernel
theorem dX8_step_154 : decode cX8_step 154 = .ok (.ifCond .ne 6, 3) := by decide +kernel
theorem dX8_step_157 : decode cX8_step 157 = .ok (.bipush (-4), 2) := by decide +kernel
theorem dX8_step_159 : decode cX8_step 159 = .ok (.ireturn, 1) := by decide +kernel
theorem dX8_step_160 : decode cX8_step 160 = .ok (.iconst 0, 1) := by decide +kernel
theorem dX8_step_161 : decode cX8_step 161 = .ok (.istore 10, 2) := by decide +kernel
theorem dX8_step_163 : decode cX8_step 163 = .ok (.iload 10, 2) := by decide +kernel
theorem dX8_step_165 : decode cX8_step 165 = .ok (.aload_n 0, 1) := by decide +kernel
theorem dX8_step_166 : decode cX8_step 166 = .ok (.getfield 94, 3) := by decide +kernel
theorem dX8_step_169 : decode cX8_step 169 = .ok (.if_icmp .ge 46, 3) := by decide +kernel
theorem dX8_step_172 : decode cX8_step 172 = .ok (.aload_n 0, 1) := by decide +kernel
theorem dX8_step_173 : decode cX8_step 173 = .ok (.getfield 32, 3) := by decide +kernel
theorem dX8_step_176 : decode cX8_step 176 = .ok (.bipush 8, 2) := by decide +kernel
theorem dX8_step_178 : decode cX8_step 178 = .ok (.iload 10, 2) := by decide +kernel
theorem dX8_step_180 : decode cX8_step 180 = .ok (.imul, 1) := by decide +kernel
theorem dX8_step_181 : decode cX8_step 181 = .ok (.iload 5, 2) := by decide +kernel
theorem dX8_step_183 : decode cX8_step 183 = .ok (.iadd, 1) := by decide +kernel
theorem dX8_step_184 : decode cX8_step 184 = .ok (.laload, 1) := by decide +kernel
theorem dX8_step_185 : decode cX8_step 185 = .ok (.aload_n 0, 1) := by decide +kernel
theorem dX8_step_186 : decode cX8_step 186 = .ok (.getfield 32, 3) := by decide +kernel
theorem dX8_step_189 : decode cX8_step 189 = .ok (.bipush 8, 2) := by decide +kernel
theorem dX8_step_191 : decode cX8_step 191 = .ok (.iload 10, 2) := by decide +kernel
theorem dX8_step_193 : decode cX8_step 193 = .ok (.imul, 1) := by decide +kernel
theorem dX8_step_194 : decode cX8_step 194 = .ok (.iload 4, 2) := by decide +kernel
theorem dX8_step_196 : decode cX8_step 196 = .ok (.iadd, 1) := by decide +kernel
theorem dX8_step_197 : decode cX8_step 197 = .ok (.laload, 1) := by decide +kernel
theorem dX8_step_198 : decode cX8_step 198 = .ok (.ladd, 1) := by decide +kernel
theorem dX8_step_199 : decode cX8_step 199 = .ok (.ldc2_w 169, 3) := by decide +kernel
theorem dX8_step_202 : decode cX8_step 202 = .ok (.lcmp, 1) := by decide +kernel
theorem dX8_step_203 : decode cX8_step 203 = .ok (.ifCond .le 6, 3) := by decide +kernel
theorem dX8_step_206 : decode cX8_step 206 = .ok (.bipush (-4), 2) := by decide +kernel
theorem dX8_step_208 : decode cX8_step 208 = .ok (.ireturn, 1) := by decide +kernel
theorem dX8_step_209 : decode cX8_step 209 = .ok (.iinc 10 1, 3) := by decide +kernel
theorem dX8_step_212 : decode cX8_step 212 = .ok (.goto (-49), 3) := by decide +kernel
theorem dX8_step_215 : decode cX8_step 215 = .ok (.iconst 0, 1) := by decide +kernel
theorem dX8_step_216 : decode cX8_step 216 = .ok (.istore 10, 2) := by decide +kernel
theorem dX8_step_218 : decode cX8_step 218 = .ok (.iload 10, 2) := by decide +kernel
theorem dX8_step_220 : decode cX8_step 220 = .ok (.aload_n 0, 1) := by decide +kernel
theorem dX8_step_221 : decode cX8_step 221 = .ok (.getfield 94, 3) := by decide +kernel
theorem dX8_step_224 : decode cX8_step 224 = .ok (.if_icmp .ge 38, 3) := by decide +kernel
theorem dX8_step_227 : decode cX8_step 227 = .ok (.aload_n 0, 1) := by decide +kernel
theorem dX8_step_228 : decode cX8_step 228 = .ok (.getfield 32, 3) := by decide +kernel
theorem dX8_step_231 : decode cX8_step 231 = .ok (.bipush 8, 2) := by decide +kernel
theorem dX8_step_233 : decode cX8_step 233 = .ok (.iload 10, 2) := by decide +kernel
theorem dX8_step_235 : decode cX8_step 235 = .ok (.imul, 1) := by decide +kernel
theorem dX8_step_236 : decode cX8_step 236 = .ok (.iload 5, 2) := by decide +kernel
theorem dX8_step_238 : decode cX8_step 238 = .ok (.iadd, 1) := by decide +kernel
theorem dX8_step_239 : decode cX8_step 239 = .ok (.dup2, 1) := by decide +kernel
theorem dX8_step_240 : decode cX8_step 240 = .ok (.laload, 1) := by decide +kernel
theorem dX8_step_241 : decode cX8_step 241 = .ok (.aload_n 0, 1) := by decide +kernel
theorem dX8_step_242 : decode cX8_step 242 = .ok (.getfield 32, 3) := by decide +kernel
theorem dX8_step_245 : decode cX8_step 245 = .ok (.bipush 8, 2) := by decide +kernel
theorem dX8_step_247 : decode cX8_step 247 = .ok (.iload 10, 2) := by decide +kernel
theorem dX8_step_249 : decode cX8_step 249 = .ok (.imul, 1) := by decide +kernel
theorem dX8_step_250 : decode cX8_step 250 = .ok (.iload 4, 2) := by decide +kernel
theorem dX8_step_252 : decode cX8_step 252 = .ok (.iadd, 1) := by decide +kernel
theorem dX8_step_253 : decode cX8_step 253 = .ok (.laload, 1) := by decide +kernel
theorem dX8_step_254 : decode cX8_step 254 = .ok (.ladd, 1) := by decide +kernel
theorem dX8_step_255 : decode cX8_step 255 = .ok (.lastore, 1) := by decide +kernel
theorem dX8_step_256 : decode cX8_step 256 = .ok (.iinc 10 1, 3) := by decide +kernel
theorem dX8_step_259 : decode cX8_step 259 = .ok (.goto (-41), 3) := by decide +kernel
theorem dX8_step_262 : decode cX8_step 262 = .ok (.aload_n 0, 1) := by decide +kernel
theorem dX8_step_263 : decode cX8_step 263 = .ok (.getfield 19, 3) := by decide +kernel
theorem dX8_step_266 : decode cX8_step 266 = .ok (.iload 4, 2) := by decide +kernel
theorem dX8_step_268 : decode cX8_step 268 = .ok (.lload 6, 2) := by decide +kernel
theorem dX8_step_270 : decode cX8_step 270 = .ok (.lastore, 1) := by decide +kernel
theorem dX8_step_271 : decode cX8_step 271 = .ok (.aload_n 0, 1) := by decide +kernel
theorem dX8_step_272 : decode cX8_step 272 = .ok (.getfield 23, 3) := by decide +kernel
theorem dX8_step_275 : decode cX8_step 275 = .ok (.iload 4, 2) := by decide +kernel
theorem dX8_step_277 : decode cX8_step 277 = .ok (.lload 8, 2) := by decide +kernel
theorem dX8_step_279 : decode cX8_step 279 = .ok (.lastore, 1) := by decide +kernel
theorem dX8_step_280 : decode cX8_step 280 = .ok (.aload_n 0, 1) := by decide +kernel
theorem dX8_step_281 : decode cX8_step 281 = .ok (.iload_n 3, 1) := by decide +kernel
theorem dX8_step_282 : decode cX8_step 282 = .ok (.ifCond .le 10, 3) := by decide +kernel
theorem dX8_step_285 : decode cX8_step 285 = .ok (.aload_n 0, 1) := by decide +kernel
theorem dX8_step_286 : decode cX8_step 286 = .ok (.getfield 29, 3) := by decide +kernel
theorem dX8_step_289 : decode cX8_step 289 = .ok (.goto 7, 3) := by decide +kernel
theorem dX8_step_292 : decode cX8_step 292 = .ok (.aload_n 0, 1) := by decide +kernel
theorem dX8_step_293 : decode cX8_step 293 = .ok (.getfield 26, 3) := by decide +kernel
theorem dX8_step_296 : decode cX8_step 296 = .ok (.iload 5, 2) := by decide +kernel
theorem dX8_step_298 : decode cX8_step 298 = .ok (.iload 4, 2) := by decide +kernel
theorem dX8_step_300 : decode cX8_step 300 = .ok (.invokevirtual 171, 3) := by decide +kernel
theorem dX8_step_303 : decode cX8_step 303 = .ok (.aload_n 0, 1) := by decide +kernel
theorem dX8_step_304 : decode cX8_step 304 = .ok (.dup, 1) := by decide +kernel
theorem dX8_step_305 : decode cX8_step 305 = .ok (.getfield 101, 3) := by decide +kernel
theorem dX8_step_308 : decode cX8_step 308 = .ok (.iconst 1, 1) := by decide +kernel
theorem dX8_step_309 : decode cX8_step 309 = .ok (.iadd, 1) := by decide +kernel
theorem dX8_step_310 : decode cX8_step 310 = .ok (.putfield 101, 3) := by decide +kernel
theorem dX8_step_313 : decode cX8_step 313 = .ok (.iload_n 3, 1) := by decide +kernel
theorem dX8_step_314 : decode cX8_step 314 = .ok (.ifCond .le 13, 3) := by decide +kernel
theorem dX8_step_317 : decode cX8_step 317 = .ok (.aload_n 0, 1) := by decide +kernel
theorem dX8_step_318 : decode cX8_step 318 = .ok (.dup, 1) := by decide +kernel
theorem dX8_step_319 : decode cX8_step 319 = .ok (.getfield 104, 3) := by decide +kernel
theorem dX8_step_322 : decode cX8_step 322 = .ok (.iconst 1, 1) := by decide +kernel
theorem dX8_step_323 : decode cX8_step 323 = .ok (.iadd, 1) := by decide +kernel
theorem dX8_step_324 : decode cX8_step 324 = .ok (.putfield 104, 3) := by decide +kernel
theorem dX8_step_327 : decode cX8_step 327 = .ok (.aload_n 0, 1) := by decide +kernel
theorem dX8_step_328 : decode cX8_step 328 = .ok (.getfield 97, 3) := by decide +kernel
theorem dX8_step_331 : decode cX8_step 331 = .ok (.ifCond .eq 23, 3) := by decide +kernel
theorem dX8_step_334 : decode cX8_step 334 = .ok (.aload_n 0, 1) := by decide +kernel
theorem dX8_step_335 : decode cX8_step 335 = .ok (.aload_n 0, 1) := by decide +kernel
theorem dX8_step_336 : decode cX8_step 336 = .ok (.getfield 157, 3) := by decide +kernel
theorem dX8_step_339 : decode cX8_step 339 = .ok (.aload_n 0, 1) := by decide +kernel
theorem dX8_step_340 : decode cX8_step 340 = .ok (.getfield 160, 3) := by decide +kernel
theorem dX8_step_343 : decode cX8_step 343 = .ok (.invokevirtual 154, 3) := by decide +kernel
theorem dX8_step_346 : decode cX8_step 346 = .ok (.ifCond .ne 8, 3) := by decide +kernel
theorem dX8_step_349 : decode cX8_step 349 = .ok (.aload_n 0, 1) := by decide +kernel
theorem dX8_step_350 : decode cX8_step 350 = .ok (.iconst 0, 1) := by decide +kernel
theorem dX8_step_351 : decode cX8_step 351 = .ok (.putfield 97, 3) := by decide +kernel
theorem dX8_step_354 : decode cX8_step 354 = .ok (.iload_n 3, 1) := by decide +kernel
theorem dX8_step_355 : decode cX8_step 355 = .ok (.ifCond .le 7, 3) := by decide +kernel
theorem dX8_step_358 : decode cX8_step 358 = .ok (.iconst 1, 1) := by decide +kernel
theorem dX8_step_359 : decode cX8_step 359 = .ok (.goto 4, 3) := by decide +kernel
theorem dX8_step_362 : decode cX8_step 362 = .ok (.iconst 0, 1) := by decide +kernel
theorem dX8_step_363 : decode cX8_step 363 = .ok (.ireturn, 1) := by decide +kernel
theorem dX8_steps_0 : decode cX8_steps 0 = .ok (.aload_n 0, 1) := by decide +kernel
theorem dX8_steps_1 : decode cX8_steps 1 = .ok (.getfield 94, 3) := by decide +kernel
theorem dX8_steps_4 : decode cX8_steps 4 = .ok (.ifCond .eq 15, 3) := by decide +kernel
theorem dX8_steps_7 : decode cX8_steps 7 = .ok (.iload_n 1, 1) := by decide +kernel
theorem dX8_steps_8 : decode cX8_steps 8 = .ok (.iconst 1, 1) := by decide +kernel
theorem dX8_steps_9 : decode cX8_steps 9 = .ok (.if_icmp .lt 10, 3) := by decide +kernel
theorem dX8_steps_12 : decode cX8_steps 12 = .ok (.iload_n 1, 1) := by decide +kernel
theorem dX8_steps_13 : decode cX8_steps 13 = .ok (.sipush 1000, 3) := by decide +kernel
theorem dX8_steps_16 : decode cX8_steps 16 = .ok (.if_icmp .le 5, 3) := by decide +kernel
theorem dX8_steps_19 : decode cX8_steps 19 = .ok (.iconst (-1), 1) := by decide +kernel
theorem dX8_steps_20 : decode cX8_steps 20 = .ok (.ireturn, 1) := by decide +kernel
theorem dX8_steps_21 : decode cX8_steps 21 = .ok (.iconst 0, 1) := by decide +kernel
theorem dX8_steps_22 : decode cX8_steps 22 = .ok (.istore_n 2, 1) := by decide +kernel
theorem dX8_steps_23 : decode cX8_steps 23 = .ok (.iload_n 2, 1) := by decide +kernel
theorem dX8_steps_24 : decode cX8_steps 24 = .ok (.iload_n 1, 1) := by decide +kernel
theorem dX8_steps_25 : decode cX8_steps 25 = .ok (.if_icmp .ge 16, 3) := by decide +kernel
theorem dX8_steps_28 : decode cX8_steps 28 = .ok (.aload_n 0, 1) := by decide +kernel
theorem dX8_steps_29 : decode cX8_steps 29 = .ok (.invokevirtual 175, 3) := by decide +kernel
theorem dX8_steps_32 : decode cX8_steps 32 = .ok (.ifCond .lt 9, 3) := by decide +kernel
theorem dX8_steps_35 : decode cX8_steps 35 = .ok (.iinc 2 1, 3) := by decide +kernel
theorem dX8_steps_38 : decode cX8_steps 38 = .ok (.goto (-15), 3) := by decide +kernel
theorem dX8_steps_41 : decode cX8_steps 41 = .ok (.iload_n 2, 1) := by decide +kernel
theorem dX8_steps_42 : decode cX8_steps 42 = .ok (.ireturn, 1) := by decide +kernel
theorem dX8_table_0 : decode cX8_table 0 = .ok (.iload_n 1, 1) := by decide +kernel
theorem dX8_table_1 : decode cX8_table 1 = .ok (.ifCond .lt 37, 3) := by decide +kernel
theorem dX8_table_4 : decode cX8_table 4 = .ok (.iload_n 1, 1) := by decide +kernel
theorem dX8_table_5 : decode cX8_table 5 = .ok (.aload_n 0, 1) := by decide +kernel
theorem dX8_table_6 : decode cX8_table 6 = .ok (.getfield 94, 3) := by decide +kernel
theorem dX8_table_9 : decode cX8_table 9 = .ok (.if_icmp .ge 29, 3) := by decide +kernel
theorem dX8_table_12 : decode cX8_table 12 = .ok (.iload_n 2, 1) := by decide +kernel
theorem dX8_table_13 : decode cX8_table 13 = .ok (.ifCond .lt 25, 3) := by decide +kernel
theorem dX8_table_16 : decode cX8_table 16 = .ok (.iload_n 2, 1) := by decide +kernel
theorem dX8_table_17 : decode cX8_table 17 = .ok (.aload_n 0, 1) := by decide +kernel
theorem dX8_table_18 : decode cX8_table 18 = .ok (.getfield 94, 3) := by decide +kernel
theorem dX8_table_21 : decode cX8_table 21 = .ok (.if_icmp .ge 17, 3) := by decide +kernel
theorem dX8_table_24 : decode cX8_table 24 = .ok (.aload_n 0, 1) := by decide +kernel
theorem dX8_table_25 : decode cX8_table 25 = .ok (.getfield 32, 3) := by decide +kernel
theorem dX8_table_28 : decode cX8_table 28 = .ok (.bipush 8, 2) := by decide +kernel
theorem dX8_table_30 : decode cX8_table 30 = .ok (.iload_n 1, 1) := by decide +kernel
theorem dX8_table_31 : decode cX8_table 31 = .ok (.imul, 1) := by decide +kernel
theorem dX8_table_32 : decode cX8_table 32 = .ok (.iload_n 2, 1) := by decide +kernel
theorem dX8_table_33 : decode cX8_table 33 = .ok (.iadd, 1) := by decide +kernel
theorem dX8_table_34 : decode cX8_table 34 = .ok (.laload, 1) := by decide +kernel
theorem dX8_table_35 : decode cX8_table 35 = .ok (.goto 6, 3) := by decide +kernel
theorem dX8_table_38 : decode cX8_table 38 = .ok (.ldc2_w 178, 3) := by decide +kernel
theorem dX8_table_41 : decode cX8_table 41 = .ok (.lreturn, 1) := by decide +kernel
theorem dX8_isShare_0 : decode cX8_isShare 0 = .ok (.aload_n 0, 1) := by decide +kernel
theorem dX8_isShare_1 : decode cX8_isShare 1 = .ok (.getfield 19, 3) := by decide +kernel
theorem dX8_isShare_4 : decode cX8_isShare 4 = .ok (.iload_n 1, 1) := by decide +kernel
theorem dX8_isShare_5 : decode cX8_isShare 5 = .ok (.laload, 1) := by decide +kernel
theorem dX8_isShare_6 : decode cX8_isShare 6 = .ok (.aload_n 0, 1) := by decide +kernel
theorem dX8_isShare_7 : decode cX8_isShare 7 = .ok (.getfield 35, 3) := by decide +kernel
theorem dX8_isShare_10 : decode cX8_isShare 10 = .ok (.iconst 0, 1) := by decide +kernel
theorem dX8_isShare_11 : decode cX8_isShare 11 = .ok (.laload, 1) := by decide +kernel
theorem dX8_isShare_12 : decode cX8_isShare 12 = .ok (.lmul, 1) := by decide +kernel
theorem dX8_isShare_13 : decode cX8_isShare 13 = .ok (.aload_n 0, 1) := by decide +kernel
theorem dX8_isShare_14 : decode cX8_isShare 14 = .ok (.getfield 87, 3) := by decide +kernel
theorem dX8_isShare_17 : decode cX8_isShare 17 = .ok (.i2l, 1) := by decide +kernel
theorem dX8_isShare_18 : decode cX8_isShare 18 = .ok (.aload_n 0, 1) := by decide +kernel
theorem dX8_isShare_19 : decode cX8_isShare 19 = .ok (.getfield 23, 3) := by decide +kernel
theorem dX8_isShare_22 : decode cX8_isShare 22 = .ok (.iload_n 1, 1) := by decide +kernel
theorem dX8_isShare_23 : decode cX8_isShare 23 = .ok (.laload, 1) := by decide +kernel
theorem dX8_isShare_24 : decode cX8_isShare 24 = .ok (.lmul, 1) := by decide +kernel
theorem dX8_isShare_25 : decode cX8_isShare 25 = .ok (.aload_n 0, 1) := by decide +kernel
theorem dX8_isShare_26 : decode cX8_isShare 26 = .ok (.getfield 38, 3) := by decide +kernel
theorem dX8_isShare_29 : decode cX8_isShare 29 = .ok (.iconst 0, 1) := by decide +kernel
theorem dX8_isShare_30 : decode cX8_isShare 30 = .ok (.laload, 1) := by decide +kernel
theorem dX8_isShare_31 : decode cX8_isShare 31 = .ok (.lmul, 1) := by decide +kernel
theorem dX8_isShare_32 : decode cX8_isShare 32 = .ok (.ladd, 1) := by decide +kernel
theorem dX8_isShare_33 : decode cX8_isShare 33 = .ok (.lstore_n 2, 1) := by decide +kernel
theorem dX8_isShare_34 : decode cX8_isShare 34 = .ok (.aload_n 0, 1) := by decide +kernel
theorem dX8_isShare_35 : decode cX8_isShare 35 = .ok (.getfield 19, 3) := by decide +kernel
theorem dX8_isShare_38 : decode cX8_isShare 38 = .ok (.iload_n 1, 1) := by decide +kernel
theorem dX8_isShare_39 : decode cX8_isShare 39 = .ok (.laload, 1) := by decide +kernel
theorem dX8_isShare_40 : decode cX8_isShare 40 = .ok (.aload_n 0, 1) := by decide +kernel
theorem dX8_isShare_41 : decode cX8_isShare 41 = .ok (.getfield 38, 3) := by decide +kernel
theorem dX8_isShare_44 : decode cX8_isShare 44 = .ok (.iconst 0, 1) := by decide +kernel
theorem dX8_isShare_45 : decode cX8_isShare 45 = .ok (.laload, 1) := by decide +kernel
theorem dX8_isShare_46 : decode cX8_isShare 46 = .ok (.lmul, 1) := by decide +kernel
theorem dX8_isShare_47 : decode cX8_isShare 47 = .ok (.aload_n 0, 1) := by decide +kernel
theorem dX8_isShare_48 : decode cX8_isShare 48 = .ok (.getfield 23, 3) := by decide +kernel
theorem dX8_isShare_51 : decode cX8_isShare 51 = .ok (.iload_n 1, 1) := by decide +kernel
theorem dX8_isShare_52 : decode cX8_isShare 52 = .ok (.laload, 1) := by decide +kernel
theorem dX8_isShare_53 : decode cX8_isShare 53 = .ok (.aload_n 0, 1) := by decide +kernel
theorem dX8_isShare_54 : decode cX8_isShare 54 = .ok (.getfield 35, 3) := by decide +kernel
theorem dX8_isShare_57 : decode cX8_isShare 57 = .ok (.iconst 0, 1) := by decide +kernel
theorem dX8_isShare_58 : decode cX8_isShare 58 = .ok (.laload, 1) := by decide +kernel
theorem dX8_isShare_59 : decode cX8_isShare 59 = .ok (.lmul, 1) := by decide +kernel
theorem dX8_isShare_60 : decode cX8_isShare 60 = .ok (.ladd, 1) := by decide +kernel
theorem dX8_isShare_61 : decode cX8_isShare 61 = .ok (.lstore 4, 2) := by decide +kernel
theorem dX8_isShare_63 : decode cX8_isShare 63 = .ok (.aload_n 0, 1) := by decide +kernel
theorem dX8_isShare_64 : decode cX8_isShare 64 = .ok (.getfield 35, 3) := by decide +kernel
theorem dX8_isShare_67 : decode cX8_isShare 67 = .ok (.iload_n 1, 1) := by decide +kernel
theorem dX8_isShare_68 : decode cX8_isShare 68 = .ok (.laload, 1) := by decide +kernel
theorem dX8_isShare_69 : decode cX8_isShare 69 = .ok (.aload_n 0, 1) := by decide +kernel
theorem dX8_isShare_70 : decode cX8_isShare 70 = .ok (.getfield 19, 3) := by decide +kernel
theorem dX8_isShare_73 : decode cX8_isShare 73 = .ok (.iconst 0, 1) := by decide +kernel
theorem dX8_isShare_74 : decode cX8_isShare 74 = .ok (.laload, 1) := by decide +kernel
theorem dX8_isShare_75 : decode cX8_isShare 75 = .ok (.lmul, 1) := by decide +kernel
theorem dX8_isShare_76 : decode cX8_isShare 76 = .ok (.aload_n 0, 1) := by decide +kernel
theorem dX8_isShare_77 : decode cX8_isShare 77 = .ok (.getfield 87, 3) := by decide +kernel
theorem dX8_isShare_80 : decode cX8_isShare 80 = .ok (.i2l, 1) := by decide +kernel
theorem dX8_isShare_81 : decode cX8_isShare 81 = .ok (.aload_n 0, 1) := by decide +kernel
theorem dX8_isShare_82 : decode cX8_isShare 82 = .ok (.getfield 38, 3) := by decide +kernel
theorem dX8_isShare_85 : decode cX8_isShare 85 = .ok (.iload_n 1, 1) := by decide +kernel
theorem dX8_isShare_86 : decode cX8_isShare 86 = .ok (.laload, 1) := by decide +kernel
theorem dX8_isShare_87 : decode cX8_isShare 87 = .ok (.lmul, 1) := by decide +kernel
theorem dX8_isShare_88 : decode cX8_isShare 88 = .ok (.aload_n 0, 1) := by decide +kernel
theorem dX8_isShare_89 : decode cX8_isShare 89 = .ok (.getfield 23, 3) := by decide +kernel
theorem dX8_isShare_92 : decode cX8_isShare 92 = .ok (.iconst 0, 1) := by decide +kernel
theorem dX8_isShare_93 : decode cX8_isShare 93 = .ok (.laload, 1) := by decide +kernel
theorem dX8_isShare_94 : decode cX8_isShare 94 = .ok (.lmul, 1) := by decide +kernel
theorem dX8_isShare_95 : decode cX8_isShare 95 = .ok (.ladd, 1) := by decide +kernel
theorem dX8_isShare_96 : decode cX8_isShare 96 = .ok (.lstore 6, 2) := by decide +kernel
theorem dX8_isShare_98 : decode cX8_isShare 98 = .ok (.aload_n 0, 1) := by decide +kernel
theorem dX8_isShare_99 : decode cX8_isShare 99 = .ok (.getfield 35, 3) := by decide +kernel
theorem dX8_isShare_102 : decode cX8_isShare 102 = .ok (.iload_n 1, 1) := by decide +kernel
theorem dX8_isShare_103 : decode cX8_isShare 103 = .ok (.laload, 1) := by decide +kernel
theorem dX8_isShare_104 : decode cX8_isShare 104 = .ok (.aload_n 0, 1) := by decide +kernel
theorem dX8_isShare_105 : decode cX8_isShare 105 = .ok (.getfield 23, 3) := by decide +kernel
theorem dX8_isShare_108 : decode cX8_isShare 108 = .ok (.iconst 0, 1) := by decide +kernel
theorem dX8_isShare_109 : decode cX8_isShare 109 = .ok (.laload, 1) := by decide +kernel
theorem dX8_isShare_110 : decode cX8_isShare 110 = .ok (.lmul, 1) := by decide +kernel
theorem dX8_isShare_111 : decode cX8_isShare 111 = .ok (.aload_n 0, 1) := by decide +kernel
theorem dX8_isShare_112 : decode cX8_isShare 112 = .ok (.getfield 38, 3) := by decide +kernel
theorem dX8_isShare_115 : decode cX8_isShare 115 = .ok (.iload_n 1, 1) := by decide +kernel
theorem dX8_isShare_116 : decode cX8_isShare 116 = .ok (.laload, 1) := by decide +kernel
theorem dX8_isShare_117 : decode cX8_isShare 117 = .ok (.aload_n 0, 1) := by decide +kernel
theorem dX8_isShare_118 : decode cX8_isShare 118 = .ok (.getfield 19, 3) := by decide +kernel
theorem dX8_isShare_121 : decode cX8_isShare 121 = .ok (.iconst 0, 1) := by decide +kernel
theorem dX8_isShare_122 : decode cX8_isShare 122 = .ok (.laload, 1) := by decide +kernel
theorem dX8_isShare_123 : decode cX8_isShare 123 = .ok (.lmul, 1) := by decide +kernel
theorem dX8_isShare_124 : decode cX8_isShare 124 = .ok (.ladd, 1) := by decide +kernel
theorem dX8_isShare_125 : decode cX8_isShare 125 = .ok (.lstore 8, 2) := by decide +kernel
theorem dX8_isShare_127 : decode cX8_isShare 127 = .ok (.lload_n 2, 1) := by decide +kernel
theorem dX8_isShare_128 : decode cX8_isShare 128 = .ok (.lload 6, 2) := by decide +kernel
theorem dX8_isShare_130 : decode cX8_isShare 130 = .ok (.lcmp, 1) := by decide +kernel
theorem dX8_isShare_131 : decode cX8_isShare 131 = .ok (.ifCond .ne 15, 3) := by decide +kernel
theorem dX8_isShare_134 : decode cX8_isShare 134 = .ok (.lload 4, 2) := by decide +kernel
theorem dX8_isShare_136 : decode cX8_isShare 136 = .ok (.lload 8, 2) := by decide +kernel
theorem dX8_isShare_138 : decode cX8_isShare 138 = .ok (.lcmp, 1) := by decide +kernel
theorem dX8_isShare_139 : decode cX8_isShare 139 = .ok (.ifCond .ne 7, 3) := by decide +kernel
theorem dX8_isShare_142 : decode cX8_isShare 142 = .ok (.iconst 1, 1) := by decide +kernel
theorem dX8_isShare_143 : decode cX8_isShare 143 = .ok (.goto 4, 3) := by decide +kernel
theorem dX8_isShare_146 : decode cX8_isShare 146 = .ok (.iconst 0, 1) := by decide +kernel
theorem dX8_isShare_147 : decode cX8_isShare 147 = .ok (.ireturn, 1) := by decide +kernel
theorem dX8_isLoop_0 : decode cX8_isLoop 0 = .ok (.iconst 0, 1) := by decide +kernel
theorem dX8_isLoop_1 : decode cX8_isLoop 1 = .ok (.istore_n 1, 1) := by decide +kernel
theorem dX8_isLoop_2 : decode cX8_isLoop 2 = .ok (.iload_n 1, 1) := by decide +kernel
theorem dX8_isLoop_3 : decode cX8_isLoop 3 = .ok (.aload_n 0, 1) := by decide +kernel
theorem dX8_isLoop_4 : decode cX8_isLoop 4 = .ok (.getfield 94, 3) := by decide +kernel
theorem dX8_isLoop_7 : decode cX8_isLoop 7 = .ok (.if_icmp .ge 49, 3) := by decide +kernel
theorem dX8_isLoop_10 : decode cX8_isLoop 10 = .ok (.aload_n 0, 1) := by decide +kernel
theorem dX8_isLoop_11 : decode cX8_isLoop 11 = .ok (.getfield 26, 3) := by decide +kernel
theorem dX8_isLoop_14 : decode cX8_isLoop 14 = .ok (.iload_n 1, 1) := by decide +kernel
theorem dX8_isLoop_15 : decode cX8_isLoop 15 = .ok (.iaload, 1) := by decide +kernel
theorem dX8_isLoop_16 : decode cX8_isLoop 16 = .ok (.aload_n 0, 1) := by decide +kernel
theorem dX8_isLoop_17 : decode cX8_isLoop 17 = .ok (.getfield 41, 3) := by decide +kernel
theorem dX8_isLoop_20 : decode cX8_isLoop 20 = .ok (.iload_n 1, 1) := by decide +kernel
theorem dX8_isLoop_21 : decode cX8_isLoop 21 = .ok (.iaload, 1) := by decide +kernel
theorem dX8_isLoop_22 : decode cX8_isLoop 22 = .ok (.if_icmp .ne 26, 3) := by decide +kernel
theorem dX8_isLoop_25 : decode cX8_isLoop 25 = .ok (.aload_n 0, 1) := by decide +kernel
theorem dX8_isLoop_26 : decode cX8_isLoop 26 = .ok (.getfield 29, 3) := by decide +kernel
theorem dX8_isLoop_29 : decode cX8_isLoop 29 = .ok (.iload_n 1, 1) := by decide +kernel
theorem dX8_isLoop_30 : decode cX8_isLoop 30 = .ok (.iaload, 1) := by decide +kernel
theorem dX8_isLoop_31 : decode cX8_isLoop 31 = .ok (.aload_n 0, 1) := by decide +kernel
theorem dX8_isLoop_32 : decode cX8_isLoop 32 = .ok (.getfield 44, 3) := by decide +kernel
theorem dX8_isLoop_35 : decode cX8_isLoop 35 = .ok (.iload_n 1, 1) := by decide +kernel
theorem dX8_isLoop_36 : decode cX8_isLoop 36 = .ok (.iaload, 1) := by decide +kernel
theorem dX8_isLoop_37 : decode cX8_isLoop 37 = .ok (.if_icmp .ne 11, 3) := by decide +kernel
theorem dX8_isLoop_40 : decode cX8_isLoop 40 = .ok (.aload_n 0, 1) := by decide +kernel
theorem dX8_isLoop_41 : decode cX8_isLoop 41 = .ok (.iload_n 1, 1) := by decide +kernel
theorem dX8_isLoop_42 : decode cX8_isLoop 42 = .ok (.invokevirtual 180, 3) := by decide +kernel
theorem dX8_isLoop_45 : decode cX8_isLoop 45 = .ok (.ifCond .ne 5, 3) := by decide +kernel
theorem dX8_isLoop_48 : decode cX8_isLoop 48 = .ok (.iconst 0, 1) := by decide +kernel
theorem dX8_isLoop_49 : decode cX8_isLoop 49 = .ok (.ireturn, 1) := by decide +kernel
theorem dX8_isLoop_50 : decode cX8_isLoop 50 = .ok (.iinc 1 1, 3) := by decide +kernel
theorem dX8_isLoop_53 : decode cX8_isLoop 53 = .ok (.goto (-51), 3) := by decide +kernel
theorem dX8_isLoop_56 : decode cX8_isLoop 56 = .ok (.iconst 1, 1) := by decide +kernel
theorem dX8_isLoop_57 : decode cX8_isLoop 57 = .ok (.ireturn, 1) := by decide +kernel
theorem dX8_loop_0 : decode cX8_loop 0 = .ok (.aload_n 0, 1) := by decide +kernel
theorem dX8_loop_1 : decode cX8_loop 1 = .ok (.getfield 94, 3) := by decide +kernel
theorem dX8_loop_4 : decode cX8_loop 4 = .ok (.ifCond .ne 5, 3) := by decide +kernel
theorem dX8_loop_7 : decode cX8_loop 7 = .ok (.iconst (-1), 1) := by decide +kernel
theorem dX8_loop_8 : decode cX8_loop 8 = .ok (.ireturn, 1) := by decide +kernel
theorem dX8_loop_9 : decode cX8_loop 9 = .ok (.iconst 0, 1) := by decide +kernel
theorem dX8_loop_10 : decode cX8_loop 10 = .ok (.istore_n 1, 1) := by decide +kernel
theorem dX8_loop_11 : decode cX8_loop 11 = .ok (.iload_n 1, 1) := by decide +kernel
theorem dX8_loop_12 : decode cX8_loop 12 = .ok (.aload_n 0, 1) := by decide +kernel
theorem dX8_loop_13 : decode cX8_loop 13 = .ok (.getfield 94, 3) := by decide +kernel
theorem dX8_loop_16 : decode cX8_loop 16 = .ok (.if_icmp .ge 57, 3) := by decide +kernel
theorem dX8_loop_19 : decode cX8_loop 19 = .ok (.aload_n 0, 1) := by decide +kernel
theorem dX8_loop_20 : decode cX8_loop 20 = .ok (.getfield 35, 3) := by decide +kernel
theorem dX8_loop_23 : decode cX8_loop 23 = .ok (.iload_n 1, 1) := by decide +kernel
theorem dX8_loop_24 : decode cX8_loop 24 = .ok (.aload_n 0, 1) := by decide +kernel
theorem dX8_loop_25 : decode cX8_loop 25 = .ok (.getfield 19, 3) := by decide +kernel
theorem dX8_loop_28 : decode cX8_loop 28 = .ok (.iload_n 1, 1) := by decide +kernel
theorem dX8_loop_29 : decode cX8_loop 29 = .ok (.laload, 1) := by decide +kernel
theorem dX8_loop_30 : decode cX8_loop 30 = .ok (.lastore, 1) := by decide +kernel
theorem dX8_loop_31 : decode cX8_loop 31 = .ok (.aload_n 0, 1) := by decide +kernel
theorem dX8_loop_32 : decode cX8_loop 32 = .ok (.getfield 38, 3) := by decide +kernel
theorem dX8_loop_35 : decode cX8_loop 35 = .ok (.iload_n 1, 1) := by decide +kernel
theorem dX8_loop_36 : decode cX8_loop 36 = .ok (.aload_n 0, 1) := by decide +kernel
theorem dX8_loop_37 : decode cX8_loop 37 = .ok (.getfield 23, 3) := by decide +kernel
theorem dX8_loop_40 : decode cX8_loop 40 = .ok (.iload_n 1, 1) := by decide +kernel
theorem dX8_loop_41 : decode cX8_loop 41 = .ok (.laload, 1) := by decide +kernel
theorem dX8_loop_42 : decode cX8_loop 42 = .ok (.lastore, 1) := by decide +kernel
theorem dX8_loop_43 : decode cX8_loop 43 = .ok (.aload_n 0, 1) := by decide +kernel
theorem dX8_loop_44 : decode cX8_loop 44 = .ok (.getfield 41, 3) := by decide +kernel
theorem dX8_loop_47 : decode cX8_loop 47 = .ok (.iload_n 1, 1) := by decide +kernel
theorem dX8_loop_48 : decode cX8_loop 48 = .ok (.aload_n 0, 1) := by decide +kernel
theorem dX8_loop_49 : decode cX8_loop 49 = .ok (.getfield 26, 3) := by decide +kernel
theorem dX8_loop_52 : decode cX8_loop 52 = .ok (.iload_n 1, 1) := by decide +kernel
theorem dX8_loop_53 : decode cX8_loop 53 = .ok (.iaload, 1) := by decide +kernel
theorem dX8_loop_54 : decode cX8_loop 54 = .ok (.iastore, 1) := by decide +kernel
theorem dX8_loop_55 : decode cX8_loop 55 = .ok (.aload_n 0, 1) := by decide +kernel
theorem dX8_loop_56 : decode cX8_loop 56 = .ok (.getfield 44, 3) := by decide +kernel
theorem dX8_loop_59 : decode cX8_loop 59 = .ok (.iload_n 1, 1) := by decide +kernel
theorem dX8_loop_60 : decode cX8_loop 60 = .ok (.aload_n 0, 1) := by decide +kernel
theorem dX8_loop_61 : decode cX8_loop 61 = .ok (.getfield 29, 3) := by decide +kernel
theorem dX8_loop_64 : decode cX8_loop 64 = .ok (.iload_n 1, 1) := by decide +kernel
theorem dX8_loop_65 : decode cX8_loop 65 = .ok (.iaload, 1) := by decide +kernel
theorem dX8_loop_66 : decode cX8_loop 66 = .ok (.iastore, 1) := by decide +kernel
theorem dX8_loop_67 : decode cX8_loop 67 = .ok (.iinc 1 1, 3) := by decide +kernel
theorem dX8_loop_70 : decode cX8_loop 70 = .ok (.goto (-59), 3) := by decide +kernel
theorem dX8_loop_73 : decode cX8_loop 73 = .ok (.iconst 0, 1) := by decide +kernel
theorem dX8_loop_74 : decode cX8_loop 74 = .ok (.istore_n 1, 1) := by decide +kernel
theorem dX8_loop_75 : decode cX8_loop 75 = .ok (.iload_n 1, 1) := by decide +kernel
theorem dX8_loop_76 : decode cX8_loop 76 = .ok (.bipush 64, 2) := by decide +kernel
theorem dX8_loop_78 : decode cX8_loop 78 = .ok (.if_icmp .ge 21, 3) := by decide +kernel
theorem dX8_loop_81 : decode cX8_loop 81 = .ok (.aload_n 0, 1) := by decide +kernel
theorem dX8_loop_82 : decode cX8_loop 82 = .ok (.getfield 47, 3) := by decide +kernel
theorem dX8_loop_85 : decode cX8_loop 85 = .ok (.iload_n 1, 1) := by decide +kernel
theorem dX8_loop_86 : decode cX8_loop 86 = .ok (.aload_n 0, 1) := by decide +kernel
theorem dX8_loop_87 : decode cX8_loop 87 = .ok (.getfield 32, 3) := by decide +kernel
theorem dX8_loop_90 : decode cX8_loop 90 = .ok (.iload_n 1, 1) := by decide +kernel
theorem dX8_loop_91 : decode cX8_loop 91 = .ok (.laload, 1) := by decide +kernel
theorem dX8_loop_92 : decode cX8_loop 92 = .ok (.lastore, 1) := by decide +kernel
theorem dX8_loop_93 : decode cX8_loop 93 = .ok (.iinc 1 1, 3) := by decide +kernel
theorem dX8_loop_96 : decode cX8_loop 96 = .ok (.goto (-21), 3) := by decide +kernel
theorem dX8_loop_99 : decode cX8_loop 99 = .ok (.aload_n 0, 1) := by decide +kernel
theorem dX8_loop_100 : decode cX8_loop 100 = .ok (.getfield 101, 3) := by decide +kernel
theorem dX8_loop_103 : decode cX8_loop 103 = .ok (.istore_n 1, 1) := by decide +kernel
theorem dX8_loop_104 : decode cX8_loop 104 = .ok (.aload_n 0, 1) := by decide +kernel
theorem dX8_loop_105 : decode cX8_loop 105 = .ok (.getfield 104, 3) := by decide +kernel
theorem dX8_loop_108 : decode cX8_loop 108 = .ok (.istore_n 2, 1) := by decide +kernel
theorem dX8_loop_109 : decode cX8_loop 109 = .ok (.aload_n 0, 1) := by decide +kernel
theorem dX8_loop_110 : decode cX8_loop 110 = .ok (.getfield 97, 3) := by decide +kernel
